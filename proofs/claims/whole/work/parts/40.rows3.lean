/-- arrays over the two nested kinds can be made -/
def AOs (U : State) : Prop := va_AO "PacedMux$Sender" U ∧ va_AO "PacedMux$Collector" U ∧ ∀ q ∈ nmL2, va_Nw (.methodLinkNest q.1 q.2.1 q.2.2.1 q.2.2.2) U
theorem AOs.moved {u U : State} (hW : u.WarmedH U.vm) (h : AOs u) : AOs U := ⟨h.1.moved hW.alike, h.2.1.moved hW.alike, fun q hq => va_Nw.warmM hW (h.2.2 q hq)⟩
theorem AOs.calling {U : State} {g : JFrame} {mk : MethodId} {ar : Array Value} (h : AOs U) : AOs (U.calling g mk ar) := ⟨h.1.moved (u := U) (U := U.calling g mk ar) (Vm.Alike.refl U.vm), h.2.1.moved (u := U) (U := U.calling g mk ar) (Vm.Alike.refl U.vm), fun q hq => va_Nw.same (u := U) rfl rfl (h.2.2 q hq)⟩
def cPreN (D : va_G) (cl : List vw_C) (tys : List (ClassId × FieldType)) (sz : Nat) (av : List Value) (ws : va_W) : Array Value → State → Prop := va_Pc av (fun U => U.heap.size = sz ∧ va_P D cl ws U.heap ∧ va_K D cl tys U ∧ va_D (fun _ => True) ws ∧ NW U ∧ AOs U)
def cBN (D : va_G) (cl : List vw_C) (tys : List (ClassId × FieldType)) (sz : Nat) (ws : va_W) (ws' : (Nat → Nat) → va_W) : (Nat → Nat) → State → Prop := fun u t => va_P D cl (ws' u) t.heap ∧ va_K D cl tys t ∧ va_D (va_A ws sz) (ws' u)
/-- a constructor: the addresses of the cells that it makes are u -/
abbrev CtN (l : Launch) (y : MethodName) (wy : List Cond) (rm : Room) (D : va_G) (cl : List vw_C) (tys : List (ClassId × FieldType)) (av : List Value) (ws : va_W) (mc ms : Nat) (post : (Nat → Nat) → Prop) (ws' : (Nat → Nat) → va_W) : Prop :=
  ∀ sz : Nat, Met l y wy rm (cPreN D cl tys sz av ws) (va_Qv post (cBN D cl tys sz ws ws') (va_A ws sz)) mc ms (va_A ws sz)
theorem ct_n {l : Launch} {y : MethodName} {wy w' : List Cond} {rm : Room} {cc : ByteArray} {maxL : Nat} {D : va_G} {cl : List vw_C} {tys : List (ClassId × FieldType)} {av : List Value} {ws : va_W} {mc ms : Nat} {post : (Nat → Nat) → Prop} {ws' : (Nat → Nat) → va_W}
    (hy : plainFor y = true) (hw : wy = Cond.code y cc maxL none :: w') (hlen : (lg_sl av).length ≤ maxL)
    (body : ∀ (p : Program) (e : Env) (s : State) (m : MethodId) (args : Array Value) (below : List Frame) (meth : Method) (c : Code) (A : Nat → Prop) (Q : State → Prop) (ls : Array Slot) (H0 : Heap),
      p.tables.exec = Jvm.exec → c.code = cc → c.maxLocals = maxL → (∀ w ∈ wy, w.before args s = true) → s.vm.findClass y.cls = some m.cls → meth.name = y.name →
      va_K D cl tys s → NW s → AOs s → lv_has ls maxL (lv_args 0 av) → va_P D cl ws H0 → va_D A ws → va_S A H0 H0 [] → (∀ q, H0.size ≤ q → A q) →
      (∀ (H : Heap) (locs : List Loc) (pc : Nat) (ls : Array Slot) (u : Nat → Nat), decode cc pc = .ok (.return_, 1) → post u → va_P D cl (ws' u) H → va_D A (ws' u) → va_S A H0 H locs → W p l e rm s m args below meth c H locs mc ms Q (F0 m pc ls [])) →
      W p l e rm s m args below meth c H0 [] 0 0 Q (F0 m 0 ls [])) : CtN l y wy rm D cl tys av ws mc ms post ws' := by
  intro sz
  refine va_MetF (cc := cc) (maxL := maxL) (ret := none) hy hw ?_
  intro p e s m args below meth c s₁ B hml hv
  obtain ⟨hargs, hsz, hP, hK, hD0, hN, hO⟩ := hv
  subst hsz
  have hown : s.vm.findClass y.cls = some m.cls := findClass_of_methodNamed B.named
  have hin : meth.name = y.name := (name_of_methodNamed B.named B.method).1
  have hl := lv_entry av (n := maxL) hlen
  subst hargs
  rw [lg_entry_eq]
  refine body p e s m _ below meth c (va_A ws s.heap.size) _ _ s.heap B.exec B.bytes hml (atoms_spec (ws := wy) B.pre) hown hin hK hN hO hl hP hD0.self va_S.rf (fun q h => Or.inr h) ?_
  intro H locs pc ls u hd hu hP' hD' hS
  exact W.vret B.exec B.bytes B.returns (fun t ht hW => ⟨⟨u, rfl, hu, by rw [ht]; exact hP', va_K.moved hW.alike hK, hD'⟩, hS.F ht⟩) hS.2.2 hd
theorem va_P.setq {D : va_G} {cl : List vw_C} {ws : va_W} {H : Heap} {a n : Nat} {cA : ClassId} {f g : Nat → Option Nat} (h : va_P D cl ws H) (q0 : Nat) (he : ws[q0]? = some (a, .inl (cA, n, .inr (.inr (.inr (.inr f)))))) (hfg : ∀ j, j < n → f j = g j) : va_P D cl (ws.set q0 (a, .inl (cA, n, .inr (.inr (.inr (.inr g)))))) H := by
  have hl := (List.getElem?_eq_some_iff.mp he).1
  have hcell : vp_cell cA (n, .inr (.inr (.inr (.inr f)))) = vp_cell cA (n, .inr (.inr (.inr (.inr g)))) := by
    rw [vp_cell_q, vp_cell_q]
    unfold arrV
    congr 2
    funext j
    show va_rf (f j.val) = va_rf (g j.val)
    rw [hfg j.val j.isLt]
  intro k q hk
  by_cases hkp : k = q0
  · subst hkp
    rw [List.getElem?_set_self hl] at hk
    cases hk
    have h1 := h k _ he
    show H[a]? = some _
    rw [← hcell]
    exact h1
  · rw [List.getElem?_set_ne (Ne.symm hkp)] at hk
    exact h k q hk
section
variable {p : Program} {l : Launch} {e : Env} {R : Room} {s : State} {m : MethodId} {args : Array Value} {below : List Frame} {meth : Method} {c : Code} {H : Heap} {locs : List Loc} {cells slots : Nat} {Q : State → Prop}
variable {cc : ByteArray} {pc : Nat} {ls : Array Slot} {rest : List Value} {D : va_G} {cl : List vw_C} {A : Nat → Prop} {a : Nat} {tys : List (ClassId × FieldType)} {ws : va_W} {H0 : Heap} {ci : Nat → ClassId}
theorem ln_newI (hx : p.tables.exec = Jvm.exec) (hb : c.code = cc) (harr : (Cond.arrayClass .int).before args s = true) (hK : va_K D cl (tyC ci) s) (hP : va_P D cl ws H) (hD : va_D A ws) (hS : va_S A H0 H locs) (hA : ∀ q, H0.size ≤ q → A q) {n : Nat} (hn : n < 134217728) (hc : cells + 1 ≤ R.cells) (hs : slots + n ≤ R.slots) (hd : decode cc pc = .ok (.newarray .int, 2))
    (k : ∀ (q : Nat) (H1 : Heap), va_P D cl (ws ++ [(q, .inl (ci 0, n, .inl (nF (fun _ => 0))))]) H1 → va_D A (ws ++ [(q, .inl (ci 0, n, .inl (nF (fun _ => 0))))]) → va_S A H0 H1 locs → W p l e R s m args below meth c H1 locs (cells + 1) (slots + n) Q (F0 m (pc + 2) ls (.ref q :: rest))) : W p l e R s m args below meth c H locs cells slots Q (F0 m pc ls (.int (nI n) :: rest)) := by
  refine va_newa hx hb (atype := .int) harr rfl hK hP hD hS hA (a0 := (n, .inl (nF (fun _ => 0)))) (fun _ => rfl) (nI_pos (by omega)) (nI_clamp (by omega)) (by show n * 4 ≤ 536870912; omega) hc hs hd (fun q cA H1 hK2 hP hD hS => ?_)
  have h1 := (hK2.2 4 (cA, .int) rfl).2
  have h2 := (hK2.2 0 (ci 0, .int) rfl).2
  have e1 : cA = ci 0 := Option.some.inj (h1.symm.trans h2)
  subst e1
  exact k q H1 hP hD hS
theorem ln_newZ (hx : p.tables.exec = Jvm.exec) (hb : c.code = cc) (harr : (Cond.arrayClass .boolean).before args s = true) (hK : va_K D cl (tyC ci) s) (hP : va_P D cl ws H) (hD : va_D A ws) (hS : va_S A H0 H locs) (hA : ∀ q, H0.size ≤ q → A q) {n : Nat} (hn : n < 134217728) (hc : cells + 1 ≤ R.cells) (hs : slots + n ≤ R.slots) (hd : decode cc pc = .ok (.newarray .boolean, 2))
    (k : ∀ (q : Nat) (H1 : Heap), va_P D cl (ws ++ [(q, .inl (ci 1, n, .inl (nF (fun _ => 0))))]) H1 → va_D A (ws ++ [(q, .inl (ci 1, n, .inl (nF (fun _ => 0))))]) → va_S A H0 H1 locs → W p l e R s m args below meth c H1 locs (cells + 1) (slots + n) Q (F0 m (pc + 2) ls (.ref q :: rest))) : W p l e R s m args below meth c H locs cells slots Q (F0 m pc ls (.int (nI n) :: rest)) := by
  refine va_newa hx hb (atype := .boolean) harr rfl hK hP hD hS hA (a0 := (n, .inl (nF (fun _ => 0)))) (fun _ => rfl) (nI_pos (by omega)) (nI_clamp (by omega)) (by show n * 1 ≤ 536870912; omega) hc hs hd (fun q cA H1 hK2 hP hD hS => ?_)
  have h1 := (hK2.2 4 (cA, .boolean) rfl).2
  have h2 := (hK2.2 1 (ci 1, .boolean) rfl).2
  have e1 : cA = ci 1 := Option.some.inj (h1.symm.trans h2)
  subst e1
  exact k q H1 hP hD hS
theorem ln_newR (hx : p.tables.exec = Jvm.exec) (hb : c.code = cc) {own C : String} {index j0 : Nat} (hj : (tyC ci)[j0]? = some (ci j0, .object C)) (hown : s.vm.findClass own = some m.cls) (hcl : (Cond.classLink own index C).before args s = true) (ho : va_AO C s) (hK : va_K D cl (tyC ci) s) (hP : va_P D cl ws H) (hD : va_D A ws) (hS : va_S A H0 H locs) (hA : ∀ q, H0.size ≤ q → A q) {n : Nat} (hn : n < 134217728) (hc : cells + 1 ≤ R.cells) (hs : slots + n ≤ R.slots) (hd : decode cc pc = .ok (.anewarray index, 3))
    (k : ∀ (q : Nat) (H1 : Heap), va_P D cl (ws ++ [(q, .inl (ci j0, n, .inr (.inr (.inr (.inr (fun _ => none))))))]) H1 → va_D A (ws ++ [(q, .inl (ci j0, n, .inr (.inr (.inr (.inr (fun _ => none))))))]) → va_S A H0 H1 locs → W p l e R s m args below meth c H1 locs (cells + 1) (slots + n) Q (F0 m (pc + 3) ls (.ref q :: rest))) : W p l e R s m args below meth c H locs cells slots Q (F0 m pc ls (.int (nI n) :: rest)) := by
  refine va_newq hx hb hown hcl ho hK hP hD hS hA (nI_pos (by omega)) (nI_clamp (by omega)) (by omega) hc hs hd (fun q cA H1 hK2 hP hD hS => ?_)
  obtain ⟨-, -, -, -, -, h1⟩ := (hK2.2 4 (cA, .object C) rfl).2
  obtain ⟨-, -, -, -, -, h2⟩ := (hK.2 j0 (ci j0, .object C) hj).2
  have e1 : cA = ci j0 := Option.some.inj (h1.symm.trans h2)
  subst e1
  exact k q H1 hP hD hS
theorem ln_rast (hx : p.tables.exec = Jvm.exec) (hb : c.code = cc) (hK : va_K D cl tys s) (hP : va_P D cl ws H) (hD : va_D A ws) (hS : va_S A H0 H locs) (q0 t0 qk cj : Nat) {cA : ClassId} {r : vw_C} {n v : Nat} {vs : List Value} {f : Nat → Option Nat} (ha : ws[q0]? = some (a, .inl (cA, n, .inr (.inr (.inr (.inr f)))))) (ht : tys[t0]? = some (cA, .object r.1)) (hv : ws[qk]? = some (v, .inr (cj, vs))) (hc : cl[cj]? = some r) {i : Nat} (hi : i < n) (hn : n < 2147483648) (hd : decode cc pc = .ok (.aastore, 1))
    (k : ∀ (H1 : Heap) (locs1 : List Loc), va_P D cl (ws.set q0 (a, .inl (cA, n, .inr (.inr (.inr (.inr (va_up f i (some v)))))))) H1 → va_D A (ws.set q0 (a, .inl (cA, n, .inr (.inr (.inr (.inr (va_up f i (some v)))))))) → va_S A H0 H1 locs1 → W p l e R s m args below meth c H1 locs1 cells slots Q (F0 m (pc + 1) ls rest)) : W p l e R s m args below meth c H locs cells slots Q (F0 m pc ls (.ref v :: .int (nI i) :: .ref a :: rest)) :=
  va_astq hx hb hK hP hD hS q0 t0 qk cj ha ht hv hc (vp_in_nI hi hn) hd (by rw [nI_clamp (show i < 2 ^ 31 by omega)]; exact k)
theorem ln_preN {A1 : Nat → Prop} {As : List Value} {wc : va_W} (hK : va_K D cl tys s) (hN : NW s) (hO : AOs s) (hPc : va_P D cl wc H) (hDc : va_D A1 wc) : PreS s H (cPreN D cl tys H.size As wc) As :=
  ⟨fun a U g mk q => by obtain ⟨q0, q1, qP, qK, qD, qN, qO⟩ := q; exact ⟨q0, q1, qP, va_K.moved (u := U) (U := U.calling g mk a) (Vm.Alike.refl U.vm) qK, qD, qN.calling, qO.calling⟩, fun U hU hW => ⟨rfl, by rw [hU], by rw [hU]; exact hPc, va_K.moved hW.alike hK, hDc.weaken (fun _ _ _ _ => trivial), hN.moved hW, hO.moved hW⟩⟩
theorem ln_gon {wc wr : va_W} {post : (Nat → Nat) → Prop} {ws' : (Nat → Nat) → va_W} {mc ms : Nat} {ar : Array Value} {st0 : List Value} (hr : va_Run p l e R s m args below meth c H locs cells slots mc ms (F0 m pc ls st0) rest (va_Qv post (cBN D cl tys H.size wc ws') (va_A wc H.size) ar) (va_A wc H.size))
    (hP : va_P D cl ws H) (hD : va_D A ws) (hS : va_S A H0 H locs) (hA : ∀ q, H0.size ≤ q → A q) (isC isR : List Nat) (hC : isC.map (fun i => ws[i]?) = wc.map some) (hw : isR.filterMap (fun i => ws[i]?) = wr) (hR : isR.map (fun i => ws[i]?) = wr.map some) (hn : va_nd isR = true) (hdis : ∀ i ∈ isR, i ∉ isC)
    (k : ∀ (u : Nat → Nat) (H1 : Heap) (locs1 : List Loc), post u → va_P D cl (wr ++ ws' u) H1 → va_D A (wr ++ ws' u) → va_S A H0 H1 locs1 → W p l e R s m args below meth c H1 locs1 (cells + mc) (slots + ms) Q (F0 m (pc + 3) ls rest)) : W p l e R s m args below meth c H locs cells slots Q (F0 m pc ls st0) := by
  have hFc := va_free (wc := wc) hD hS hA isC hC
  refine va_callv hr hS (fun q _ h => hFc q h) hFc (fun u t H1 locs1 ht hvm hw hB1 hz1 hk1 hS1 => ?_)
  obtain ⟨hP1, hK1, hD1⟩ := hB1
  rw [ht] at hP1
  obtain ⟨hP2, hD2⟩ := va_join (wr := wr) (w1 := ws' u) hP hD isC isR hC hR hn hdis hk1 hFc hP1 hD1
  exact k u H1 locs1 hw hP2 hD2 hS1
end
section
variable {R : Room} {s : State} {args : Array Value} {own host : String} {index : Nat} {y : MethodName} {bytes : ByteArray} {maxL : Nat} {rm : Room}
theorem cw_I (n : Nat) (hT : ∀ w ∈ lw_ok, w.before args s = true) (h1 : Cond.methodLink own index y ∈ lw_ok) (h4 : Cond.initialized y.cls ∈ lw_ok) (h5 : Cond.code y bytes maxL none ∈ lw_ok) (h2 : Cond.instanceMethod y ∈ lw_ok) (hy : y.name = "<init>")
    (hd : y.cls ≠ "java/lang/invoke/MethodHandle" ∧ y.cls ≠ "java/lang/invoke/VarHandle" ∧ (parseMethodDescriptor y.desc).map (fun d => d.parameters.length) = some n) (hf : rm.frames + 1 ≤ R.frames) (hl : 8 + (maxL + 11) + rm.locals ≤ R.locals) : CallB R s args own index y bytes maxL none (Cond.code y bytes maxL none :: lw_ok) rm rm.cells rm.slots n ∧ y.name = "<init>" ∧ (Cond.instanceMethod y).before args s = true :=
  ⟨callB_of n hT (lw_good h5) rfl rfl rfl (hT _ h4) (hT _ h1) hd ⟨hf, hl⟩, hy, hT _ h2⟩
theorem cw_IN (n : Nat) (hT : ∀ w ∈ lw_ok, w.before args s = true) (h1 : va_Nw (.methodLinkNest own index y host) s) (h4 : Cond.initialized y.cls ∈ lw_ok) (h5 : Cond.code y bytes maxL none ∈ lw_ok) (h2 : Cond.instanceMethod y ∈ lw_ok) (hy : y.name = "<init>")
    (hd : y.cls ≠ "java/lang/invoke/MethodHandle" ∧ y.cls ≠ "java/lang/invoke/VarHandle" ∧ (parseMethodDescriptor y.desc).map (fun d => d.parameters.length) = some n) (hf : rm.frames + 1 ≤ R.frames) (hl : 8 + (maxL + 11) + rm.locals ≤ R.locals) : va_CN R s args own index y host bytes maxL none (Cond.code y bytes maxL none :: lw_ok) rm rm.cells rm.slots n ∧ y.name = "<init>" ∧ (Cond.instanceMethod y).before args s = true :=
  ⟨va_cnB n hT (lw_good h5) rfl rfl rfl h1 (hT _ h4) hd ⟨hf, hl⟩, hy, hT _ h2⟩
end
/-- a number held within bounds -/
def clN (lo hi : Nat) (v : Int32) : Nat := if v.toInt < lo then lo else if (hi : Int) < v.toInt then hi else v.toInt.toNat
theorem nI_toNat {v : Int32} (h : 0 ≤ v.toInt) : nI v.toInt.toNat = v := by
  apply Int32.toInt_inj.mp
  have h2 : v.toInt < 2 ^ 31 := by have := Int32.toInt_lt v; omega
  rw [nI_toInt (by omega)]
  omega
theorem cl_e {lo hi : Nat} (v : Int32) (h : lo ≤ hi) (hh : hi < 2147483648) : (if nI lo < (if v < nI hi then v else nI hi) then (if v < nI hi then v else nI hi) else nI lo) = nI (clN lo hi v) := by
  have h1 : (nI lo).toInt = lo := nI_toInt (by omega)
  have h2 : (nI hi).toInt = hi := nI_toInt (by omega)
  unfold clN
  by_cases a : v < nI hi
  · rw [if_pos a]
    rw [Int32.lt_iff_toInt_lt, h2] at a
    by_cases b : nI lo < v
    · rw [if_pos b]
      rw [Int32.lt_iff_toInt_lt, h1] at b
      rw [if_neg (by omega), if_neg (by omega), nI_toNat (by omega)]
    · rw [if_neg b]
      rw [Int32.lt_iff_toInt_lt, h1] at b
      by_cases d : v.toInt < lo
      · rw [if_pos d]
      · rw [if_neg d, if_neg (by omega), show v.toInt.toNat = lo by omega]
  · rw [if_neg a]
    rw [Int32.lt_iff_toInt_lt, h2] at a
    by_cases b : nI lo < nI hi
    · rw [if_pos b, if_neg (by omega)]
      by_cases d : (hi : Int) < v.toInt
      · rw [if_pos d]
      · rw [if_neg d, show v.toInt.toNat = hi by omega]
    · rw [if_neg b]
      rw [Int32.lt_iff_toInt_lt, h1, h2] at b
      have : lo = hi := by omega
      subst this
      rw [if_neg (by omega)]
      by_cases d : (lo : Int) < v.toInt
      · rw [if_pos d]
      · rw [if_neg d, show v.toInt.toNat = lo by omega]
