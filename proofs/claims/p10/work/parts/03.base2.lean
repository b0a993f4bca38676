/-! the words of nest mates, default fields, copies, fills -/
def yN (U : State) : Prop := va_Nw (.methodLinkNest RX10 9 yX6_init RX10) U ∧ va_Nw (.methodLinkNest RX10 18 yX3_init RX10) U ∧ va_Nw (.methodLinkNest RX10 33 yX1_init RX10) U ∧ va_Nw (.methodLinkNest RX0 9 yX2_init RX10) U ∧ va_Nw (.methodLinkNest RX3 11 yX9_init RX10) U ∧ va_Nw (.methodLinkNest RX3 20 yX1_init RX10) U ∧ va_Nw (.methodLinkNest RX3 27 yX4_init RX10) U ∧ va_Nw (.methodLinkNest RX3 34 yX0_init RX10) U ∧ va_Nw (.methodLinkNest RX3 41 yX7_init RX10) U ∧ va_Nw (.methodLinkNest RX3 48 yX5_init RX10) U ∧ va_AO "BusBridge$Machine" U
theorem yN.calling {U : State} {g : JFrame} {mk : MethodId} {a : Array Value} (h : yN U) : yN (U.calling g mk a) := by
  obtain ⟨h0, h1, h2, h3, h4, h5, h6, h7, h8, h9, h10⟩ := h
  exact ⟨va_Nw.same rfl rfl h0, va_Nw.same rfl rfl h1, va_Nw.same rfl rfl h2, va_Nw.same rfl rfl h3, va_Nw.same rfl rfl h4, va_Nw.same rfl rfl h5, va_Nw.same rfl rfl h6, va_Nw.same rfl rfl h7, va_Nw.same rfl rfl h8, va_Nw.same rfl rfl h9, va_AO.moved (Vm.Alike.refl U.vm) h10⟩
theorem yN.warm {s U : State} (hW : s.WarmedH U.vm) (h : yN s) : yN U := by
  obtain ⟨h0, h1, h2, h3, h4, h5, h6, h7, h8, h9, h10⟩ := h
  exact ⟨va_Nw.warmM hW h0, va_Nw.warmM hW h1, va_Nw.warmM hW h2, va_Nw.warmM hW h3, va_Nw.warmM hW h4, va_Nw.warmM hW h5, va_Nw.warmM hW h6, va_Nw.warmM hW h7, va_Nw.warmM hW h8, va_Nw.warmM hW h9, va_AO.moved hW.alike h10⟩
theorem yN_X10_9 {U : State} (h : yN U) : va_Nw (.methodLinkNest RX10 9 yX6_init RX10) U := h.1
theorem yN_X10_18 {U : State} (h : yN U) : va_Nw (.methodLinkNest RX10 18 yX3_init RX10) U := h.2.1
theorem yN_X10_33 {U : State} (h : yN U) : va_Nw (.methodLinkNest RX10 33 yX1_init RX10) U := h.2.2.1
theorem yN_X0_9 {U : State} (h : yN U) : va_Nw (.methodLinkNest RX0 9 yX2_init RX10) U := h.2.2.2.1
theorem yN_X3_11 {U : State} (h : yN U) : va_Nw (.methodLinkNest RX3 11 yX9_init RX10) U := h.2.2.2.2.1
theorem yN_X3_20 {U : State} (h : yN U) : va_Nw (.methodLinkNest RX3 20 yX1_init RX10) U := h.2.2.2.2.2.1
theorem yN_X3_27 {U : State} (h : yN U) : va_Nw (.methodLinkNest RX3 27 yX4_init RX10) U := h.2.2.2.2.2.2.1
theorem yN_X3_34 {U : State} (h : yN U) : va_Nw (.methodLinkNest RX3 34 yX0_init RX10) U := h.2.2.2.2.2.2.2.1
theorem yN_X3_41 {U : State} (h : yN U) : va_Nw (.methodLinkNest RX3 41 yX7_init RX10) U := h.2.2.2.2.2.2.2.2.1
theorem yN_X3_48 {U : State} (h : yN U) : va_Nw (.methodLinkNest RX3 48 yX5_init RX10) U := h.2.2.2.2.2.2.2.2.2.1
theorem yN_ao {U : State} (h : yN U) : va_AO "BusBridge$Machine" U := h.2.2.2.2.2.2.2.2.2.2
def yPreN (av : List Value) (D : va_G) (wc : va_W) (tys : List (ClassId × FieldType)) (sz : Nat) : Array Value → State → Prop := va_Pc av (fun U => U.heap.size = sz ∧ va_P D vwCl wc U.heap ∧ va_K D vwCl tys U ∧ va_D (fun _ => True) wc ∧ yN U)
section YN
variable {p : Program} {l : Launch} {e : Env} {R : Room} {s : State} {m : MethodId} {args : Array Value} {below : List Frame} {meth : Method} {c : Code} {H : Heap} {locs : List Loc} {cells slots : Nat} {Q : State → Prop}
variable {cc : ByteArray} {pc : Nat} {ls : Array Slot} {rest : List Value} {D : va_G} {cl : List vw_C} {A : Nat → Prop} {a : Nat} {tys : List (ClassId × FieldType)} {ws : va_W} {H0 : Heap}
theorem yPreN_blind {av : List Value} {wc : va_W} {sz : Nat} : FrameBlind (yPreN av D wc tys sz) := by
  intro a U g mk q
  obtain ⟨q0, q1, qP, qK, qD, qN⟩ := q
  exact ⟨q0, q1, qP, va_K.moved (u := U) (U := U.calling g mk a) (Vm.Alike.refl U.vm) qK, qD, qN.calling⟩
theorem yPreN_at {av : List Value} {wc : va_W} (hP : va_P D vwCl wc H) (hD : va_D A wc) (hK : va_K D vwCl tys s) (hN : yN s) : ∀ U : State, U.heap = H → s.WarmedH U.vm → yPreN av D wc tys H.size av.toArray U := by
  intro U hU hW
  exact ⟨rfl, by rw [hU], by rw [hU]; exact hP, va_K.moved hW.alike hK, hD.weaken (fun _ _ _ _ => trivial), hN.warm hW⟩
theorem yPreVN {b ci q0 : Nat} {As : List Value} {wc : va_W} {r : vw_C} {fs : List Value} (hK : va_K D vwCl tys s) (hP : va_P D vwCl wc H) (hD : va_D A wc) (hN : yN s) (hc : vwCl[ci]? = some r) (he : wc[q0]? = some (b, .inr (ci, fs))) : PreV s H r.1 b (yPreN (.ref b :: As) D wc tys H.size) As :=
  ⟨yPreN_blind, va_recv hK hP hc he, yPreN_at hP hD hK hN⟩
theorem yPreSN {As : List Value} {wc : va_W} (hK : va_K D vwCl tys s) (hP : va_P D vwCl wc H) (hD : va_D A wc) (hN : yN s) : PreS s H (yPreN As D wc tys H.size) As :=
  ⟨yPreN_blind, yPreN_at hP hD hK hN⟩
theorem yy_copy (hexec : p.tables.exec = Jvm.exec) (hb : c.code = cc) (hml : c.maxLocals = ls.size) {own : String} {index : Nat} (hown : s.vm.findClass own = some m.cls) (hlink : (Cond.methodLink own index arraycopyName).before args s = true) (hnat : (Cond.native arraycopyName).before args s = true) (hstat : (Cond.static arraycopyName).before args s = true) (hini : (Cond.initialized "java/lang/System").before args s = true)
    (hK : va_K D cl tys s) (hP : va_P D cl ws H) (hD : va_D A ws) (hS : va_S A H0 H locs) (q0 q1 t0 : Nat) {a0 : Nat} {cA : ClassId} {n0 n1 : Nat} {f g : Nat → Int32} (ha0 : ws[q0]? = some (a0, .inl (cA, n0, .inl f))) (ha1 : ws[q1]? = some (a, .inl (cA, n1, .inl g))) (ht0 : tys[t0]? = some (cA, .int))
    {n : Int32} (h3 : ¬ n < 0) (h4 : n.toNatClampNeg ≤ n0) (h5 : n.toNatClampNeg ≤ n1)
    (hframes : 1 ≤ R.frames) (hlocals : (rest.map fun v => v.category).sum + 18 ≤ R.locals) (hdg : decode cc pc = .ok (.invokestatic index, 3)) {f' : Nat → Int32} (hf : va_cpy f g 0 0 n.toNatClampNeg = f')
    (kk : ∀ (H1 : Heap) (locs1 : List Loc), va_P D cl (ws.set q1 (a, .inl (cA, n1, .inl f'))) H1 → va_D A (ws.set q1 (a, .inl (cA, n1, .inl f'))) → va_S A H0 H1 locs1 → W p l e R s m args below meth c H1 locs1 cells slots Q (F0 m (pc + 3) ls rest)) : W p l e R s m args below meth c H locs cells slots Q (F0 m pc ls (.int n :: .int 0 :: .ref a :: .int 0 :: .ref a0 :: rest)) := by
  subst hf
  exact va_copyi (sp := 0) (dp := 0) (ty := .int) hexec hb hml hown hlink hnat hstat hini hK hP hD hS q0 q1 t0 t0 ha0 ha1 ht0 ht0 rfl (by decide) (by decide) h3 (by show 0 + _ ≤ _; omega) (by show 0 + _ ≤ _; omega) (fun _ _ => rfl) hframes (by exact hlocals) hdg kk
theorem yy_newQ (hexec : p.tables.exec = Jvm.exec) (hb : c.code = cc) {own : String} {index : Nat} (hown : s.vm.findClass own = some m.cls) (hclink : (Cond.classLink own index "BusBridge$Machine").before args s = true) (hover : va_AO "BusBridge$Machine" s) {cyO : ClassId} (t0 : Nat) (ht : tys[t0]? = some (cyO, .object "BusBridge$Machine")) (hK : va_K D cl tys s) (hP : va_P D cl ws H) (hD : va_D A ws) (hS : va_S A H0 H locs) (hA : ∀ q, H0.size ≤ q → A q)
    {n : Int32} {N' : Nat} (hn : ¬ n < 0) (hN : n.toNatClampNeg = N') (hbytes : N' * 4 ≤ 536870912) (hcells : cells + 1 ≤ R.cells) (hslots : slots + N' ≤ R.slots) (hdg : decode cc pc = .ok (.anewarray index, 3))
    (kk : ∀ (q : Nat) (H1 : Heap), va_P D cl (ws ++ [(q, .inl (cyO, N', .inr (.inr (.inr (.inr (fun _ => none))))))]) H1 → va_D A (ws ++ [(q, .inl (cyO, N', .inr (.inr (.inr (.inr (fun _ => none))))))]) → va_S A H0 H1 locs →
      W p l e R s m args below meth c H1 locs (cells + 1) (slots + N') Q (F0 m (pc + 3) ls (.ref q :: rest))) : W p l e R s m args below meth c H locs cells slots Q (F0 m pc ls (.int n :: rest)) := by
  refine va_newq hexec hb hown hclink hover hK hP hD hS hA hn hN hbytes hcells hslots hdg (fun q cA H1 hK1 hP1 hD1 hS1 => ?_)
  have e1 := va_nmO (hK1.2 tys.length (cA, .object "BusBridge$Machine") (by simp)).2 rfl
  have e2 := va_nmO (hK.2 t0 _ ht).2 rfl
  have e3 : cA = cyO := Option.some.inj (e1.symm.trans e2)
  subst e3
  exact kk q H1 hP1 hD1 hS1
end YN
theorem yMetN {l : Launch} {y : MethodName} {ws ws' : List Cond} {rm : Room} {av : List Value} {D : va_G} {wc : va_W} {tys : List (ClassId × FieldType)} {sz : Nat} {Qc : Array Value → State → Outcome → State → Prop} {mc ms : Nat} {cc : ByteArray} {maxL : Nat} {ret : Option FieldType} (hy : plainName y.cls = true) (hw : ws = Cond.code y cc maxL ret :: ws') (hlen : (lg_sl av).length ≤ maxL)
    (body : ∀ (p : Program) (e : Env) (s : State) (m : MethodId) (below : List Frame) (meth : Method) (c : Code) (A : Nat → Prop), p.tables.exec = Jvm.exec → c.code = cc → meth.sig.returnType = ret → meth.locks = false → c.maxLocals = maxL → (∀ w ∈ ws, w.before av.toArray s = true) → s.vm.findClass y.cls = some m.cls → meth.name = y.name → s.heap.size = sz → A = va_A wc sz → va_P D vwCl wc s.heap → va_K D vwCl tys s → va_D A wc → (∀ q, s.heap.size ≤ q → A q) → va_S A s.heap s.heap [] → yN s → ∀ ls : Array Slot, lv_has ls maxL (lv_args 0 av) →
      W p l e rm s m av.toArray below meth c s.heap [] 0 0 (MQ below Qc av.toArray s mc ms A) (F0 m 0 ls [])) : Met l y ws rm (yPreN av D wc tys sz) Qc mc ms (va_A wc sz) := by
  refine Met.ofW (cc := cc) (maxL := maxL) (ret := ret) hy hw ?_
  intro p e s m args below meth c s₁ B hml hv
  obtain ⟨rfl, hsz, hP, hK, hD0, hN⟩ := hv
  subst hsz
  have hl := lv_entry av (n := maxL) hlen
  rw [lg_entry_eq]
  exact body p e s m below meth c _ B.exec B.bytes B.returns B.notSynchronized hml (atoms_spec (ws := ws) B.pre) (findClass_of_methodNamed B.named) (name_of_methodNamed B.named B.method).1 rfl rfl hP hK (hD0.self (sz := s.heap.size)) (fun q h => Or.inr h) va_S.rf hN _ hl
theorem ycpy_id {f : Nat → Int32} {n : Nat} : va_cpy f f 0 0 n = f := by
  funext j
  unfold va_cpy
  by_cases h : 0 ≤ j ∧ j < 0 + n
  · rw [if_pos h]; congr 1; omega
  · rw [if_neg h]
/-- contents whose first i places are v -/
def yfill (f : Nat → Int32) (v : Int32) (i : Nat) : Nat → Int32 := fun j => if j < i then v else f j
theorem yfill_0 {f : Nat → Int32} {v : Int32} : yfill f v 0 = f := by funext j; simp [yfill]
theorem yfill_s {f : Nat → Int32} {v : Int32} {i : Nat} : upd (yfill f v i) i v = yfill f v (i + 1) := by
  funext j
  unfold upd yfill
  by_cases h : j = i
  · rw [if_pos h, if_pos (by omega)]
  · by_cases h2 : j < i
    · rw [if_neg h, if_pos h2, if_pos (by omega)]
    · rw [if_neg h, if_neg h2, if_neg (by omega)]
theorem yfill_n {f : Nat → Int32} {v : Int32} {n : Nat} (h : ∀ j, n ≤ j → f j = v) : yfill f v n = fun _ => v := by
  funext j
  unfold yfill
  by_cases h2 : j < n
  · rw [if_pos h2]
  · rw [if_neg h2]; exact h j (by omega)
/-- the wires' first values: READY is 1 -/
def yR : Nat → Int32 := upd (fun _ => 0) 4 1
theorem yR0 : ∀ j, 15 ≤ j → yR j = 0 := by
  intro j h
  unfold yR upd
  rw [if_neg (by omega)]
theorem dfX0 : ∀ j, j < 9 → defaultValue (tyX0 j) = vp_V [.null, .null, .null, .int 0, .int 0, .int 0, .int 0, .int 0, .int 0] j := fun j hj => match j, hj with
  | 0, _ => rfl
  | 1, _ => rfl
  | 2, _ => rfl
  | 3, _ => rfl
  | 4, _ => rfl
  | 5, _ => rfl
  | 6, _ => rfl
  | 7, _ => rfl
  | 8, _ => rfl
  | n + 9, h => absurd h (by omega)
theorem dfX1 : ∀ j, j < 3 → defaultValue (tyX1 j) = vp_V [.null, .null, .int 0] j := fun j hj => match j, hj with
  | 0, _ => rfl
  | 1, _ => rfl
  | 2, _ => rfl
  | n + 3, h => absurd h (by omega)
theorem dfX2 : ∀ j, j < 14 → defaultValue (tyX2 j) = vp_V [.null, .int 0, .int 0, .int 0, .int 0, .int 0, .int 0, .int 0, .int 0, .int 0, .int 0, .int 0, .int 0, .int 0] j := fun j hj => match j, hj with
  | 0, _ => rfl
  | 1, _ => rfl
  | 2, _ => rfl
  | 3, _ => rfl
  | 4, _ => rfl
  | 5, _ => rfl
  | 6, _ => rfl
  | 7, _ => rfl
  | 8, _ => rfl
  | 9, _ => rfl
  | 10, _ => rfl
  | 11, _ => rfl
  | 12, _ => rfl
  | 13, _ => rfl
  | n + 14, h => absurd h (by omega)
theorem dfX3 : ∀ j, j < 7 → defaultValue (tyX3 j) = vp_V [.null, .null, .null, .null, .null, .null, .int 0] j := fun j hj => match j, hj with
  | 0, _ => rfl
  | 1, _ => rfl
  | 2, _ => rfl
  | 3, _ => rfl
  | 4, _ => rfl
  | 5, _ => rfl
  | 6, _ => rfl
  | n + 7, h => absurd h (by omega)
theorem dfX4 : ∀ j, j < 7 → defaultValue (tyX4 j) = vp_V [.null, .int 0, .int 0, .int 0, .int 0, .int 0, .int 0] j := fun j hj => match j, hj with
  | 0, _ => rfl
  | 1, _ => rfl
  | 2, _ => rfl
  | 3, _ => rfl
  | 4, _ => rfl
  | 5, _ => rfl
  | 6, _ => rfl
  | n + 7, h => absurd h (by omega)
theorem dfX5 : ∀ j, j < 5 → defaultValue (tyX5 j) = vp_V [.null, .null, .int 0, .int 0, .int 0] j := fun j hj => match j, hj with
  | 0, _ => rfl
  | 1, _ => rfl
  | 2, _ => rfl
  | 3, _ => rfl
  | 4, _ => rfl
  | n + 5, h => absurd h (by omega)
theorem dfX6 : ∀ j, j < 13 → defaultValue (tyX6 j) = vp_V [.null, .null, .null, .null, .null, .null, .null, .null, .int 0, .int 0, .int 0, .int 0, .int 0] j := fun j hj => match j, hj with
  | 0, _ => rfl
  | 1, _ => rfl
  | 2, _ => rfl
  | 3, _ => rfl
  | 4, _ => rfl
  | 5, _ => rfl
  | 6, _ => rfl
  | 7, _ => rfl
  | 8, _ => rfl
  | 9, _ => rfl
  | 10, _ => rfl
  | 11, _ => rfl
  | 12, _ => rfl
  | n + 13, h => absurd h (by omega)
theorem dfX7 : ∀ j, j < 4 → defaultValue (tyX7 j) = vp_V [.null, .int 0, .int 0, .int 0] j := fun j hj => match j, hj with
  | 0, _ => rfl
  | 1, _ => rfl
  | 2, _ => rfl
  | 3, _ => rfl
  | n + 4, h => absurd h (by omega)
theorem dfX8 : ∀ j, j < 4 → defaultValue (tyX8 j) = vp_V [.null, .int 0, .int 0, .int 0] j := fun j hj => match j, hj with
  | 0, _ => rfl
  | 1, _ => rfl
  | 2, _ => rfl
  | 3, _ => rfl
  | n + 4, h => absurd h (by omega)
theorem dfX9 : ∀ j, j < 6 → defaultValue (tyX9 j) = vp_V [.null, .null, .null, .null, .null, .null] j := fun j hj => match j, hj with
  | 0, _ => rfl
  | 1, _ => rfl
  | 2, _ => rfl
  | 3, _ => rfl
  | 4, _ => rfl
  | 5, _ => rfl
  | n + 6, h => absurd h (by omega)
theorem dfX10 : ∀ j, j < 6 → defaultValue (tyX10 j) = vp_V [.null, .null, .null, .null, .null, .int 0] j := fun j hj => match j, hj with
  | 0, _ => rfl
  | 1, _ => rfl
  | 2, _ => rfl
  | 3, _ => rfl
  | 4, _ => rfl
  | 5, _ => rfl
  | n + 6, h => absurd h (by omega)
theorem dfX11 : ∀ j, j < 24 → defaultValue (tyX11 j) = vp_V [.null, .int 0, .int 0, .null, .null, .null, .null, .int 0, .null, .null, .null, .int 0, .int 0, .int 0, .null, .null, .int 0, .int 0, .null, .null, .null, .null, .null, .null] j := fun j hj => match j, hj with
  | 0, _ => rfl
  | 1, _ => rfl
  | 2, _ => rfl
  | 3, _ => rfl
  | 4, _ => rfl
  | 5, _ => rfl
  | 6, _ => rfl
  | 7, _ => rfl
  | 8, _ => rfl
  | 9, _ => rfl
  | 10, _ => rfl
  | 11, _ => rfl
  | 12, _ => rfl
  | 13, _ => rfl
  | 14, _ => rfl
  | 15, _ => rfl
  | 16, _ => rfl
  | 17, _ => rfl
  | 18, _ => rfl
  | 19, _ => rfl
  | 20, _ => rfl
  | 21, _ => rfl
  | 22, _ => rfl
  | 23, _ => rfl
  | n + 24, h => absurd h (by omega)
set_option maxHeartbeats 4000000 in
set_option maxRecDepth 100000 in
/-- Arrays.fill(int[], int) -/
theorem k_fill (l : Launch) (dC : Nat → ClassId) (dI : Nat → Nat → Nat) (cyI cyZ cyO : ClassId) (sz : Nat) (h0 n : Nat) (f : Nat → Int32) (v : Int32) (hn : n < 2 ^ 31) (hf : ∀ j, n ≤ j → f j = v) : Met l yJ7_fill_53178 wsJ7_fill_53178 ({ frames := 0, cells := 0, slots := 0, locals := 0 }) (yPre [.ref h0, .int v] (dC, dI) [(h0, .inl (cyI, n, .inl f))] (yT cyI cyZ cyO) sz) (yQv (fun (u : Unit) => True) (dC, dI) [(h0, .inl (cyI, n, .inl f))] (yT cyI cyZ cyO) sz (fun _ => [(h0, .inl (cyI, n, .inl (fun _ => v)))])) 0 0 (va_A [(h0, .inl (cyI, n, .inl f))] sz) := by
  refine yMet (cc := cJ7_fill_53178) (maxL := 4) (ret := none) (by decide) rfl (Nat.le_of_ble_eq_true rfl) ?_
  intro p e s m below meth c A hx hb hr hlk hml hts hown hnm hsz hAe hP hK hD hA hS ls hl
  have hl : lv_has ls 4 [(0, .ref h0), (1, .int v)] := hl
  refine lv_iconst (v := 0) hx hb dJ7_fill_53178_0 (by decide) ?_
  refine lv_istore_n (lv' := [(2, .int 0), (0, .ref h0), (1, .int v)]) hx hb dJ7_fill_53178_1 rfl hl (by decide) rfl (fun ls hl => ?_)
  refine lv_aload_n hx hb dJ7_fill_53178_2 rfl (lv_at hl 1 rfl) ?_
  refine va_alen (v := nI n) hx hb hK hP 0 0 rfl rfl rfl dJ7_fill_53178_3 ?_
  refine lv_istore_n (lv' := [(3, .int (nI n)), (2, .int 0), (0, .ref h0), (1, .int v)]) hx hb dJ7_fill_53178_4 rfl hl (by decide) rfl (fun ls hl => ?_)
  have key : ∀ (k i : Nat) (x : Int32) (g : Nat → Int32) (H : Heap) (locs : List Loc) (ls : Array Slot), i ≤ n → n + 1 ≤ i + k → x = nI i → g = yfill f v i → va_P (dC, dI) vwCl [(h0, .inl (cyI, n, .inl g))] H → va_D A [(h0, .inl (cyI, n, .inl g))] → va_S A s.heap H locs → lv_has ls 4 [(3, .int (nI n)), (2, .int x), (0, .ref h0), (1, .int v)] → W p l e { frames := 0, cells := 0, slots := 0, locals := 0 } s m [.ref h0, .int v].toArray below meth c H locs 0 0 (MQ below (yQv (fun (u : Unit) => True) (dC, dI) [(h0, .inl (cyI, n, .inl f))] (yT cyI cyZ cyO) sz (fun _ => [(h0, .inl (cyI, n, .inl (fun _ => v)))])) [.ref h0, .int v].toArray s 0 0 A) (F0 m 5 ls []) := by
    intro k
    induction k with
    | zero => intro i x g H locs ls h1 h2; exact absurd h2 (by omega)
    | succ k ih =>
      intro i x g H locs ls h1 h2 ex eg hP hD hS hl
      refine lv_iload_n hx hb dJ7_fill_53178_5 rfl (lv_at hl 1 rfl) ?_
      refine lv_iload_n hx hb dJ7_fill_53178_6 rfl (lv_at hl 0 rfl) ?_
      refine lv_icmp_ge (tgt := 20) hx hb dJ7_fill_53178_7 (by decide) (fun c1 => ?_) (fun c1 => ?_)
      · have e1 : i = n := by
          rcases Nat.lt_or_ge i n with q | q
          · rw [ex] at c1; exact absurd c1 (nI_ge q hn)
          · omega
        subst e1
        rw [eg, yfill_n hf] at hP hD
        exact yy_vret () hx hb hr hlk hsz hAe hK hP hD hS [0] rfl rfl (by decide) trivial dJ7_fill_53178_20
      · have hlt : i < n := by
          rcases Nat.lt_or_ge i n with q | q
          · exact q
          · exact absurd (by rw [ex]; exact nI_le q (by omega)) c1
        refine lv_aload_n hx hb dJ7_fill_53178_10 rfl (lv_at hl 2 rfl) ?_
        refine lv_iload_n hx hb dJ7_fill_53178_11 rfl (lv_at hl 1 rfl) ?_
        refine lv_iload_n hx hb dJ7_fill_53178_12 rfl (lv_at hl 3 rfl) ?_
        refine yy_iast (f' := yfill f v (i + 1)) hx hb hK hP hD hS 0 0 rfl rfl (by rw [ex]; exact vp_in_nI hlt hn) dJ7_fill_53178_13 (by rw [ex, nI_clamp (by omega), eg]; exact yfill_s) (fun H locs hP hD hS => ?_)
        refine lv_iinc (v := nI (i + 1)) (lv' := [(2, .int (nI (i + 1))), (3, .int (nI n)), (0, .ref h0), (1, .int v)]) hx hb dJ7_fill_53178_14 hl (k := 1) rfl (by rw [ex]; exact nI_1 i) (by decide) rfl (fun ls hl => ?_)
        refine lv_goto (tgt := 5) hx hb dJ7_fill_53178_17 (by decide) ?_
        exact ih (i + 1) _ _ _ _ _ hlt (by omega) rfl rfl hP hD hS (lv_sub hl [1, 0, 2, 3] rfl)
  exact key (n + 1) 0 0 f _ _ _ (Nat.zero_le n) (by omega) nI_0.symm yfill_0.symm hP hD hS hl
