set_option maxHeartbeats 4000000 in
set_option maxRecDepth 100000 in
theorem r0_X11_seen_80 (l : Launch) (dC : Nat → ClassId) (dI : Nat → Nat → Nat) (cyI cyZ cyO : ClassId) (sz : Nat) (a0 : Nat) (a1 : Nat) (a2 : Nat) (a3 : Nat) (a4 : Nat) (a5 : Nat) (a6 : Nat) (a7 : Nat) (a8 : Nat) (a9 : Nat) (a10 : Nat) (a11 : Nat) (a12 : Nat) (a13 : Nat) (a14 : Nat) (a15 : Nat) (a16 : Nat)  : Met l yX11_seen wsX11_seen ({ frames := 1, cells := 0, slots := 0, locals := 25 }) (yPre [.ref a0, .int 0] (dC, dI) [(a0, .inr (11, [.ref a1, .int 0, .int 0, .ref a2, .ref a3, .ref a4, .ref a5, .int 0, .ref a6, .ref a7, .ref a8, .int 0, .int 32, .int 0, .ref a9, .ref a10, .int 0, .int 0, .ref a11, .ref a12, .ref a13, .ref a14, .ref a15, .ref a16])), (a1, .inl (cyI, 2490, .inl (yz 0 0)))] (yT cyI cyZ cyO) sz) (yQi (fun (r : Int32) (u : Unit) => r = 0) (dC, dI) [(a0, .inr (11, [.ref a1, .int 0, .int 0, .ref a2, .ref a3, .ref a4, .ref a5, .int 0, .ref a6, .ref a7, .ref a8, .int 0, .int 32, .int 0, .ref a9, .ref a10, .int 0, .int 0, .ref a11, .ref a12, .ref a13, .ref a14, .ref a15, .ref a16])), (a1, .inl (cyI, 2490, .inl (yz 0 0)))] (yT cyI cyZ cyO) sz (fun _ => [(a0, .inr (11, [.ref a1, .int 0, .int 0, .ref a2, .ref a3, .ref a4, .ref a5, .int 0, .ref a6, .ref a7, .ref a8, .int 0, .int 32, .int 0, .ref a9, .ref a10, .int 0, .int 0, .ref a11, .ref a12, .ref a13, .ref a14, .ref a15, .ref a16])), (a1, .inl (cyI, 2490, .inl (yz 0 0)))])) 0 0 (va_A [(a0, .inr (11, [.ref a1, .int 0, .int 0, .ref a2, .ref a3, .ref a4, .ref a5, .int 0, .ref a6, .ref a7, .ref a8, .int 0, .int 32, .int 0, .ref a9, .ref a10, .int 0, .int 0, .ref a11, .ref a12, .ref a13, .ref a14, .ref a15, .ref a16])), (a1, .inl (cyI, 2490, .inl (yz 0 0)))] sz) := by
  refine yMet (cc := cX11_seen) (maxL := 3) (ret := (some .int)) (by decide) rfl (Nat.le_of_ble_eq_true rfl) ?_
  intro p e s m below meth c A hx hb hr hlk hml hts hown hnm hsz hAe hP hK hD hA hS ls hl
  have hl : lv_has ls 3 [(0, .ref a0), (1, .int 0)] := hl
  have hf7 := hts (.fieldLink RX11 7 "BusBridgeModel" "z" "[I") (by decide +kernel)
  have hnX11 : ∀ w ∈ wsX110, w ∈ wsX11_seen := by decide +kernel
  refine lv_aload_n hx hb dX11_seen_0 rfl (lv_at hl 0 rfl) ?_
  refine va_get (D := (dC, dI)) (ci := 11) (v := .ref a1) (C := RX11) (T := TX11) (N := 24) hx hb hts hnX11 hown hK hP 0 rfl rfl 0 (by decide) hf7 (fun _ h9 => h9) rfl dX11_seen_1 ?_
  refine lv_sipush (v := 179) hx hb dX11_seen_4 (by decide) ?_
  refine yy_iald (v := 0) hx hb hK hP 1 0 rfl rfl (yin (by decide)) dX11_seen_7 rfl ?_
  refine lv_i2l hx hb dX11_seen_8 rfl ?_
  refine lv_aload_n hx hb dX11_seen_9 rfl (lv_at hl 0 rfl) ?_
  refine va_get (D := (dC, dI)) (ci := 11) (v := .ref a1) (C := RX11) (T := TX11) (N := 24) hx hb hts hnX11 hown hK hP 0 rfl rfl 0 (by decide) hf7 (fun _ h9 => h9) rfl dX11_seen_10 ?_
  refine lv_bipush (v := 45) hx hb dX11_seen_13 (by decide) ?_
  refine lv_iload_n hx hb dX11_seen_15 rfl (lv_at hl 1 rfl) ?_
  refine lv_iadd hx hb dX11_seen_16 ?_
  refine yy_int (v := 45) (by decide) ?_
  refine yy_iald (v := 1) hx hb hK hP 1 0 rfl rfl (yin (by decide)) dX11_seen_17 rfl ?_
  refine lv_i2l hx hb dX11_seen_18 rfl ?_
  refine lv_aload_n hx hb dX11_seen_19 rfl (lv_at hl 0 rfl) ?_
  refine va_get (D := (dC, dI)) (ci := 11) (v := .ref a1) (C := RX11) (T := TX11) (N := 24) hx hb hts hnX11 hown hK hP 0 rfl rfl 0 (by decide) hf7 (fun _ h9 => h9) rfl dX11_seen_20 ?_
  refine lv_bipush (v := 60) hx hb dX11_seen_23 (by decide) ?_
  refine lv_iload_n hx hb dX11_seen_25 rfl (lv_at hl 1 rfl) ?_
  refine lv_iadd hx hb dX11_seen_26 ?_
  refine yy_int (v := 60) (by decide) ?_
  refine yy_iald (v := 0) hx hb hK hP 1 0 rfl rfl (yin (by decide)) dX11_seen_27 rfl ?_
  refine lv_i2l hx hb dX11_seen_28 rfl ?_
  have hPc := hP.sub (ws' := []) [] rfl
  have hDc := hD.sub (ws' := []) [] (by decide) rfl
  refine yy_calli [] [0, 1] (wr := [(a0, .inr (11, [.ref a1, .int 0, .int 0, .ref a2, .ref a3, .ref a4, .ref a5, .int 0, .ref a6, .ref a7, .ref a8, .int 0, .int 32, .int 0, .ref a9, .ref a10, .int 0, .int 0, .ref a11, .ref a12, .ref a13, .ref a14, .ref a15, .ref a16])), (a1, .inl (cyI, 2490, .inl (yz 0 0)))]) (va_runS (As := [.long (0 : Int32).toInt64, .long (1 : Int32).toInt64, .long (0 : Int32).toInt64]) (rest := []) ⟨hx, hb, hml, hown, hts⟩ (r_inE l dC dI cyI cyZ cyO s.heap.size 0 1 0 (by decide)) (va_cwS 3 hts gX11_seen_X11_in rfl rfl rfl (by decide +kernel) ⟨Nat.le_of_ble_eq_true rfl, Nat.le_of_ble_eq_true rfl⟩) (yPreS hK hPc hDc) rfl rfl hl.1 rfl (lv_room (Nat.le_of_ble_eq_true rfl)) dX11_seen_29 ⟨Nat.le_of_ble_eq_true rfl, Nat.le_of_ble_eq_true rfl⟩) hP hD hS hA rfl rfl (by decide) (by decide) (fun r_2 u_1 H locs hw hP hD hS => ?_)
  have hP : va_P (dC, dI) vwCl [(a0, .inr (11, [.ref a1, .int 0, .int 0, .ref a2, .ref a3, .ref a4, .ref a5, .int 0, .ref a6, .ref a7, .ref a8, .int 0, .int 32, .int 0, .ref a9, .ref a10, .int 0, .int 0, .ref a11, .ref a12, .ref a13, .ref a14, .ref a15, .ref a16])), (a1, .inl (cyI, 2490, .inl (yz 0 0)))] H := hP
  have hD : va_D A [(a0, .inr (11, [.ref a1, .int 0, .int 0, .ref a2, .ref a3, .ref a4, .ref a5, .int 0, .ref a6, .ref a7, .ref a8, .int 0, .int 32, .int 0, .ref a9, .ref a10, .int 0, .int 0, .ref a11, .ref a12, .ref a13, .ref a14, .ref a15, .ref a16])), (a1, .inl (cyI, 2490, .inl (yz 0 0)))] := hD
  refine W.widen (k := 0) (n := 0) (Nat.le_of_ble_eq_true rfl) (Nat.le_of_ble_eq_true rfl) ?_
  have hw : r_2 = 0 := hw
  subst hw
  refine lv_istore_n (lv' := [(2, .int 0), (0, .ref a0), (1, .int 0)]) hx hb dX11_seen_32 rfl hl (by decide) rfl (fun ls hl => ?_)
  refine lv_iload_n hx hb dX11_seen_33 rfl (lv_at hl 0 rfl) ?_
  refine lv_if_eq (tgt := 56) hx hb dX11_seen_34 (by decide) (fun _ => ?_) (fun c => absurd (by decide) c)
  refine lv_aload_n hx hb dX11_seen_56 rfl (lv_at hl 1 rfl) ?_
  refine va_get (D := (dC, dI)) (ci := 11) (v := .ref a1) (C := RX11) (T := TX11) (N := 24) hx hb hts hnX11 hown hK hP 0 rfl rfl 0 (by decide) hf7 (fun _ h9 => h9) rfl dX11_seen_57 ?_
  refine lv_iload_n hx hb dX11_seen_60 rfl (lv_at hl 2 rfl) ?_
  refine yy_iald (v := 0) hx hb hK hP 1 0 rfl rfl (yin (by decide)) dX11_seen_61 rfl ?_
  refine W.widen (k := 0) (n := 0) (Nat.le_of_ble_eq_true rfl) (Nat.le_of_ble_eq_true rfl) ?_
  exact yy_iret (v := 0) () hx hb hr hlk rfl hsz hAe hK hP hD hS [0, 1] rfl rfl (by decide) (rfl) dX11_seen_62
set_option maxHeartbeats 4000000 in
set_option maxRecDepth 100000 in
theorem r0_X11_seen_81 (l : Launch) (dC : Nat → ClassId) (dI : Nat → Nat → Nat) (cyI cyZ cyO : ClassId) (sz : Nat) (a0 : Nat) (a1 : Nat) (a2 : Nat) (a3 : Nat) (a4 : Nat) (a5 : Nat) (a6 : Nat) (a7 : Nat) (a8 : Nat) (a9 : Nat) (a10 : Nat) (a11 : Nat) (a12 : Nat) (a13 : Nat) (a14 : Nat) (a15 : Nat) (a16 : Nat)  : Met l yX11_seen wsX11_seen ({ frames := 1, cells := 0, slots := 0, locals := 25 }) (yPre [.ref a0, .int 1] (dC, dI) [(a0, .inr (11, [.ref a1, .int 0, .int 0, .ref a2, .ref a3, .ref a4, .ref a5, .int 0, .ref a6, .ref a7, .ref a8, .int 0, .int 32, .int 0, .ref a9, .ref a10, .int 0, .int 0, .ref a11, .ref a12, .ref a13, .ref a14, .ref a15, .ref a16])), (a1, .inl (cyI, 2490, .inl (yz 0 0)))] (yT cyI cyZ cyO) sz) (yQi (fun (r : Int32) (u : Unit) => r = 0) (dC, dI) [(a0, .inr (11, [.ref a1, .int 0, .int 0, .ref a2, .ref a3, .ref a4, .ref a5, .int 0, .ref a6, .ref a7, .ref a8, .int 0, .int 32, .int 0, .ref a9, .ref a10, .int 0, .int 0, .ref a11, .ref a12, .ref a13, .ref a14, .ref a15, .ref a16])), (a1, .inl (cyI, 2490, .inl (yz 0 0)))] (yT cyI cyZ cyO) sz (fun _ => [(a0, .inr (11, [.ref a1, .int 0, .int 0, .ref a2, .ref a3, .ref a4, .ref a5, .int 0, .ref a6, .ref a7, .ref a8, .int 0, .int 32, .int 0, .ref a9, .ref a10, .int 0, .int 0, .ref a11, .ref a12, .ref a13, .ref a14, .ref a15, .ref a16])), (a1, .inl (cyI, 2490, .inl (yz 0 0)))])) 0 0 (va_A [(a0, .inr (11, [.ref a1, .int 0, .int 0, .ref a2, .ref a3, .ref a4, .ref a5, .int 0, .ref a6, .ref a7, .ref a8, .int 0, .int 32, .int 0, .ref a9, .ref a10, .int 0, .int 0, .ref a11, .ref a12, .ref a13, .ref a14, .ref a15, .ref a16])), (a1, .inl (cyI, 2490, .inl (yz 0 0)))] sz) := by
  refine yMet (cc := cX11_seen) (maxL := 3) (ret := (some .int)) (by decide) rfl (Nat.le_of_ble_eq_true rfl) ?_
  intro p e s m below meth c A hx hb hr hlk hml hts hown hnm hsz hAe hP hK hD hA hS ls hl
  have hl : lv_has ls 3 [(0, .ref a0), (1, .int 1)] := hl
  have hf7 := hts (.fieldLink RX11 7 "BusBridgeModel" "z" "[I") (by decide +kernel)
  have hnX11 : ∀ w ∈ wsX110, w ∈ wsX11_seen := by decide +kernel
  refine lv_aload_n hx hb dX11_seen_0 rfl (lv_at hl 0 rfl) ?_
  refine va_get (D := (dC, dI)) (ci := 11) (v := .ref a1) (C := RX11) (T := TX11) (N := 24) hx hb hts hnX11 hown hK hP 0 rfl rfl 0 (by decide) hf7 (fun _ h9 => h9) rfl dX11_seen_1 ?_
  refine lv_sipush (v := 179) hx hb dX11_seen_4 (by decide) ?_
  refine yy_iald (v := 0) hx hb hK hP 1 0 rfl rfl (yin (by decide)) dX11_seen_7 rfl ?_
  refine lv_i2l hx hb dX11_seen_8 rfl ?_
  refine lv_aload_n hx hb dX11_seen_9 rfl (lv_at hl 0 rfl) ?_
  refine va_get (D := (dC, dI)) (ci := 11) (v := .ref a1) (C := RX11) (T := TX11) (N := 24) hx hb hts hnX11 hown hK hP 0 rfl rfl 0 (by decide) hf7 (fun _ h9 => h9) rfl dX11_seen_10 ?_
  refine lv_bipush (v := 45) hx hb dX11_seen_13 (by decide) ?_
  refine lv_iload_n hx hb dX11_seen_15 rfl (lv_at hl 1 rfl) ?_
  refine lv_iadd hx hb dX11_seen_16 ?_
  refine yy_int (v := 46) (by decide) ?_
  refine yy_iald (v := 1) hx hb hK hP 1 0 rfl rfl (yin (by decide)) dX11_seen_17 rfl ?_
  refine lv_i2l hx hb dX11_seen_18 rfl ?_
  refine lv_aload_n hx hb dX11_seen_19 rfl (lv_at hl 0 rfl) ?_
  refine va_get (D := (dC, dI)) (ci := 11) (v := .ref a1) (C := RX11) (T := TX11) (N := 24) hx hb hts hnX11 hown hK hP 0 rfl rfl 0 (by decide) hf7 (fun _ h9 => h9) rfl dX11_seen_20 ?_
  refine lv_bipush (v := 60) hx hb dX11_seen_23 (by decide) ?_
  refine lv_iload_n hx hb dX11_seen_25 rfl (lv_at hl 1 rfl) ?_
  refine lv_iadd hx hb dX11_seen_26 ?_
  refine yy_int (v := 61) (by decide) ?_
  refine yy_iald (v := 0) hx hb hK hP 1 0 rfl rfl (yin (by decide)) dX11_seen_27 rfl ?_
  refine lv_i2l hx hb dX11_seen_28 rfl ?_
  have hPc := hP.sub (ws' := []) [] rfl
  have hDc := hD.sub (ws' := []) [] (by decide) rfl
  refine yy_calli [] [0, 1] (wr := [(a0, .inr (11, [.ref a1, .int 0, .int 0, .ref a2, .ref a3, .ref a4, .ref a5, .int 0, .ref a6, .ref a7, .ref a8, .int 0, .int 32, .int 0, .ref a9, .ref a10, .int 0, .int 0, .ref a11, .ref a12, .ref a13, .ref a14, .ref a15, .ref a16])), (a1, .inl (cyI, 2490, .inl (yz 0 0)))]) (va_runS (As := [.long (0 : Int32).toInt64, .long (1 : Int32).toInt64, .long (0 : Int32).toInt64]) (rest := []) ⟨hx, hb, hml, hown, hts⟩ (r_inE l dC dI cyI cyZ cyO s.heap.size 0 1 0 (by decide)) (va_cwS 3 hts gX11_seen_X11_in rfl rfl rfl (by decide +kernel) ⟨Nat.le_of_ble_eq_true rfl, Nat.le_of_ble_eq_true rfl⟩) (yPreS hK hPc hDc) rfl rfl hl.1 rfl (lv_room (Nat.le_of_ble_eq_true rfl)) dX11_seen_29 ⟨Nat.le_of_ble_eq_true rfl, Nat.le_of_ble_eq_true rfl⟩) hP hD hS hA rfl rfl (by decide) (by decide) (fun r_2 u_1 H locs hw hP hD hS => ?_)
  have hP : va_P (dC, dI) vwCl [(a0, .inr (11, [.ref a1, .int 0, .int 0, .ref a2, .ref a3, .ref a4, .ref a5, .int 0, .ref a6, .ref a7, .ref a8, .int 0, .int 32, .int 0, .ref a9, .ref a10, .int 0, .int 0, .ref a11, .ref a12, .ref a13, .ref a14, .ref a15, .ref a16])), (a1, .inl (cyI, 2490, .inl (yz 0 0)))] H := hP
  have hD : va_D A [(a0, .inr (11, [.ref a1, .int 0, .int 0, .ref a2, .ref a3, .ref a4, .ref a5, .int 0, .ref a6, .ref a7, .ref a8, .int 0, .int 32, .int 0, .ref a9, .ref a10, .int 0, .int 0, .ref a11, .ref a12, .ref a13, .ref a14, .ref a15, .ref a16])), (a1, .inl (cyI, 2490, .inl (yz 0 0)))] := hD
  refine W.widen (k := 0) (n := 0) (Nat.le_of_ble_eq_true rfl) (Nat.le_of_ble_eq_true rfl) ?_
  have hw : r_2 = 0 := hw
  subst hw
  refine lv_istore_n (lv' := [(2, .int 0), (0, .ref a0), (1, .int 1)]) hx hb dX11_seen_32 rfl hl (by decide) rfl (fun ls hl => ?_)
  refine lv_iload_n hx hb dX11_seen_33 rfl (lv_at hl 0 rfl) ?_
  refine lv_if_eq (tgt := 56) hx hb dX11_seen_34 (by decide) (fun _ => ?_) (fun c => absurd (by decide) c)
  refine lv_aload_n hx hb dX11_seen_56 rfl (lv_at hl 1 rfl) ?_
  refine va_get (D := (dC, dI)) (ci := 11) (v := .ref a1) (C := RX11) (T := TX11) (N := 24) hx hb hts hnX11 hown hK hP 0 rfl rfl 0 (by decide) hf7 (fun _ h9 => h9) rfl dX11_seen_57 ?_
  refine lv_iload_n hx hb dX11_seen_60 rfl (lv_at hl 2 rfl) ?_
  refine yy_iald (v := 0) hx hb hK hP 1 0 rfl rfl (yin (by decide)) dX11_seen_61 rfl ?_
  refine W.widen (k := 0) (n := 0) (Nat.le_of_ble_eq_true rfl) (Nat.le_of_ble_eq_true rfl) ?_
  exact yy_iret (v := 0) () hx hb hr hlk rfl hsz hAe hK hP hD hS [0, 1] rfl rfl (by decide) (rfl) dX11_seen_62
set_option maxHeartbeats 4000000 in
set_option maxRecDepth 100000 in
theorem r0_X11_seen_82 (l : Launch) (dC : Nat → ClassId) (dI : Nat → Nat → Nat) (cyI cyZ cyO : ClassId) (sz : Nat) (a0 : Nat) (a1 : Nat) (a2 : Nat) (a3 : Nat) (a4 : Nat) (a5 : Nat) (a6 : Nat) (a7 : Nat) (a8 : Nat) (a9 : Nat) (a10 : Nat) (a11 : Nat) (a12 : Nat) (a13 : Nat) (a14 : Nat) (a15 : Nat) (a16 : Nat)  : Met l yX11_seen wsX11_seen ({ frames := 1, cells := 0, slots := 0, locals := 25 }) (yPre [.ref a0, .int 2] (dC, dI) [(a0, .inr (11, [.ref a1, .int 0, .int 0, .ref a2, .ref a3, .ref a4, .ref a5, .int 0, .ref a6, .ref a7, .ref a8, .int 0, .int 32, .int 0, .ref a9, .ref a10, .int 0, .int 0, .ref a11, .ref a12, .ref a13, .ref a14, .ref a15, .ref a16])), (a1, .inl (cyI, 2490, .inl (yz 0 0)))] (yT cyI cyZ cyO) sz) (yQi (fun (r : Int32) (u : Unit) => r = 0) (dC, dI) [(a0, .inr (11, [.ref a1, .int 0, .int 0, .ref a2, .ref a3, .ref a4, .ref a5, .int 0, .ref a6, .ref a7, .ref a8, .int 0, .int 32, .int 0, .ref a9, .ref a10, .int 0, .int 0, .ref a11, .ref a12, .ref a13, .ref a14, .ref a15, .ref a16])), (a1, .inl (cyI, 2490, .inl (yz 0 0)))] (yT cyI cyZ cyO) sz (fun _ => [(a0, .inr (11, [.ref a1, .int 0, .int 0, .ref a2, .ref a3, .ref a4, .ref a5, .int 0, .ref a6, .ref a7, .ref a8, .int 0, .int 32, .int 0, .ref a9, .ref a10, .int 0, .int 0, .ref a11, .ref a12, .ref a13, .ref a14, .ref a15, .ref a16])), (a1, .inl (cyI, 2490, .inl (yz 0 0)))])) 0 0 (va_A [(a0, .inr (11, [.ref a1, .int 0, .int 0, .ref a2, .ref a3, .ref a4, .ref a5, .int 0, .ref a6, .ref a7, .ref a8, .int 0, .int 32, .int 0, .ref a9, .ref a10, .int 0, .int 0, .ref a11, .ref a12, .ref a13, .ref a14, .ref a15, .ref a16])), (a1, .inl (cyI, 2490, .inl (yz 0 0)))] sz) := by
  refine yMet (cc := cX11_seen) (maxL := 3) (ret := (some .int)) (by decide) rfl (Nat.le_of_ble_eq_true rfl) ?_
  intro p e s m below meth c A hx hb hr hlk hml hts hown hnm hsz hAe hP hK hD hA hS ls hl
  have hl : lv_has ls 3 [(0, .ref a0), (1, .int 2)] := hl
  have hf7 := hts (.fieldLink RX11 7 "BusBridgeModel" "z" "[I") (by decide +kernel)
  have hnX11 : ∀ w ∈ wsX110, w ∈ wsX11_seen := by decide +kernel
  refine lv_aload_n hx hb dX11_seen_0 rfl (lv_at hl 0 rfl) ?_
  refine va_get (D := (dC, dI)) (ci := 11) (v := .ref a1) (C := RX11) (T := TX11) (N := 24) hx hb hts hnX11 hown hK hP 0 rfl rfl 0 (by decide) hf7 (fun _ h9 => h9) rfl dX11_seen_1 ?_
  refine lv_sipush (v := 179) hx hb dX11_seen_4 (by decide) ?_
  refine yy_iald (v := 0) hx hb hK hP 1 0 rfl rfl (yin (by decide)) dX11_seen_7 rfl ?_
  refine lv_i2l hx hb dX11_seen_8 rfl ?_
  refine lv_aload_n hx hb dX11_seen_9 rfl (lv_at hl 0 rfl) ?_
  refine va_get (D := (dC, dI)) (ci := 11) (v := .ref a1) (C := RX11) (T := TX11) (N := 24) hx hb hts hnX11 hown hK hP 0 rfl rfl 0 (by decide) hf7 (fun _ h9 => h9) rfl dX11_seen_10 ?_
  refine lv_bipush (v := 45) hx hb dX11_seen_13 (by decide) ?_
  refine lv_iload_n hx hb dX11_seen_15 rfl (lv_at hl 1 rfl) ?_
  refine lv_iadd hx hb dX11_seen_16 ?_
  refine yy_int (v := 47) (by decide) ?_
  refine yy_iald (v := 1) hx hb hK hP 1 0 rfl rfl (yin (by decide)) dX11_seen_17 rfl ?_
  refine lv_i2l hx hb dX11_seen_18 rfl ?_
  refine lv_aload_n hx hb dX11_seen_19 rfl (lv_at hl 0 rfl) ?_
  refine va_get (D := (dC, dI)) (ci := 11) (v := .ref a1) (C := RX11) (T := TX11) (N := 24) hx hb hts hnX11 hown hK hP 0 rfl rfl 0 (by decide) hf7 (fun _ h9 => h9) rfl dX11_seen_20 ?_
  refine lv_bipush (v := 60) hx hb dX11_seen_23 (by decide) ?_
  refine lv_iload_n hx hb dX11_seen_25 rfl (lv_at hl 1 rfl) ?_
  refine lv_iadd hx hb dX11_seen_26 ?_
  refine yy_int (v := 62) (by decide) ?_
  refine yy_iald (v := 0) hx hb hK hP 1 0 rfl rfl (yin (by decide)) dX11_seen_27 rfl ?_
  refine lv_i2l hx hb dX11_seen_28 rfl ?_
  have hPc := hP.sub (ws' := []) [] rfl
  have hDc := hD.sub (ws' := []) [] (by decide) rfl
  refine yy_calli [] [0, 1] (wr := [(a0, .inr (11, [.ref a1, .int 0, .int 0, .ref a2, .ref a3, .ref a4, .ref a5, .int 0, .ref a6, .ref a7, .ref a8, .int 0, .int 32, .int 0, .ref a9, .ref a10, .int 0, .int 0, .ref a11, .ref a12, .ref a13, .ref a14, .ref a15, .ref a16])), (a1, .inl (cyI, 2490, .inl (yz 0 0)))]) (va_runS (As := [.long (0 : Int32).toInt64, .long (1 : Int32).toInt64, .long (0 : Int32).toInt64]) (rest := []) ⟨hx, hb, hml, hown, hts⟩ (r_inE l dC dI cyI cyZ cyO s.heap.size 0 1 0 (by decide)) (va_cwS 3 hts gX11_seen_X11_in rfl rfl rfl (by decide +kernel) ⟨Nat.le_of_ble_eq_true rfl, Nat.le_of_ble_eq_true rfl⟩) (yPreS hK hPc hDc) rfl rfl hl.1 rfl (lv_room (Nat.le_of_ble_eq_true rfl)) dX11_seen_29 ⟨Nat.le_of_ble_eq_true rfl, Nat.le_of_ble_eq_true rfl⟩) hP hD hS hA rfl rfl (by decide) (by decide) (fun r_2 u_1 H locs hw hP hD hS => ?_)
  have hP : va_P (dC, dI) vwCl [(a0, .inr (11, [.ref a1, .int 0, .int 0, .ref a2, .ref a3, .ref a4, .ref a5, .int 0, .ref a6, .ref a7, .ref a8, .int 0, .int 32, .int 0, .ref a9, .ref a10, .int 0, .int 0, .ref a11, .ref a12, .ref a13, .ref a14, .ref a15, .ref a16])), (a1, .inl (cyI, 2490, .inl (yz 0 0)))] H := hP
  have hD : va_D A [(a0, .inr (11, [.ref a1, .int 0, .int 0, .ref a2, .ref a3, .ref a4, .ref a5, .int 0, .ref a6, .ref a7, .ref a8, .int 0, .int 32, .int 0, .ref a9, .ref a10, .int 0, .int 0, .ref a11, .ref a12, .ref a13, .ref a14, .ref a15, .ref a16])), (a1, .inl (cyI, 2490, .inl (yz 0 0)))] := hD
  refine W.widen (k := 0) (n := 0) (Nat.le_of_ble_eq_true rfl) (Nat.le_of_ble_eq_true rfl) ?_
  have hw : r_2 = 0 := hw
  subst hw
  refine lv_istore_n (lv' := [(2, .int 0), (0, .ref a0), (1, .int 2)]) hx hb dX11_seen_32 rfl hl (by decide) rfl (fun ls hl => ?_)
  refine lv_iload_n hx hb dX11_seen_33 rfl (lv_at hl 0 rfl) ?_
  refine lv_if_eq (tgt := 56) hx hb dX11_seen_34 (by decide) (fun _ => ?_) (fun c => absurd (by decide) c)
  refine lv_aload_n hx hb dX11_seen_56 rfl (lv_at hl 1 rfl) ?_
  refine va_get (D := (dC, dI)) (ci := 11) (v := .ref a1) (C := RX11) (T := TX11) (N := 24) hx hb hts hnX11 hown hK hP 0 rfl rfl 0 (by decide) hf7 (fun _ h9 => h9) rfl dX11_seen_57 ?_
  refine lv_iload_n hx hb dX11_seen_60 rfl (lv_at hl 2 rfl) ?_
  refine yy_iald (v := 0) hx hb hK hP 1 0 rfl rfl (yin (by decide)) dX11_seen_61 rfl ?_
  refine W.widen (k := 0) (n := 0) (Nat.le_of_ble_eq_true rfl) (Nat.le_of_ble_eq_true rfl) ?_
  exact yy_iret (v := 0) () hx hb hr hlk rfl hsz hAe hK hP hD hS [0, 1] rfl rfl (by decide) (rfl) dX11_seen_62
set_option maxHeartbeats 4000000 in
set_option maxRecDepth 100000 in
theorem r0_X11_seen_83 (l : Launch) (dC : Nat → ClassId) (dI : Nat → Nat → Nat) (cyI cyZ cyO : ClassId) (sz : Nat) (a0 : Nat) (a1 : Nat) (a2 : Nat) (a3 : Nat) (a4 : Nat) (a5 : Nat) (a6 : Nat) (a7 : Nat) (a8 : Nat) (a9 : Nat) (a10 : Nat) (a11 : Nat) (a12 : Nat) (a13 : Nat) (a14 : Nat) (a15 : Nat) (a16 : Nat)  : Met l yX11_seen wsX11_seen ({ frames := 1, cells := 0, slots := 0, locals := 25 }) (yPre [.ref a0, .int 3] (dC, dI) [(a0, .inr (11, [.ref a1, .int 0, .int 0, .ref a2, .ref a3, .ref a4, .ref a5, .int 0, .ref a6, .ref a7, .ref a8, .int 0, .int 32, .int 0, .ref a9, .ref a10, .int 0, .int 0, .ref a11, .ref a12, .ref a13, .ref a14, .ref a15, .ref a16])), (a1, .inl (cyI, 2490, .inl (yz 0 0)))] (yT cyI cyZ cyO) sz) (yQi (fun (r : Int32) (u : Unit) => r = 0) (dC, dI) [(a0, .inr (11, [.ref a1, .int 0, .int 0, .ref a2, .ref a3, .ref a4, .ref a5, .int 0, .ref a6, .ref a7, .ref a8, .int 0, .int 32, .int 0, .ref a9, .ref a10, .int 0, .int 0, .ref a11, .ref a12, .ref a13, .ref a14, .ref a15, .ref a16])), (a1, .inl (cyI, 2490, .inl (yz 0 0)))] (yT cyI cyZ cyO) sz (fun _ => [(a0, .inr (11, [.ref a1, .int 0, .int 0, .ref a2, .ref a3, .ref a4, .ref a5, .int 0, .ref a6, .ref a7, .ref a8, .int 0, .int 32, .int 0, .ref a9, .ref a10, .int 0, .int 0, .ref a11, .ref a12, .ref a13, .ref a14, .ref a15, .ref a16])), (a1, .inl (cyI, 2490, .inl (yz 0 0)))])) 0 0 (va_A [(a0, .inr (11, [.ref a1, .int 0, .int 0, .ref a2, .ref a3, .ref a4, .ref a5, .int 0, .ref a6, .ref a7, .ref a8, .int 0, .int 32, .int 0, .ref a9, .ref a10, .int 0, .int 0, .ref a11, .ref a12, .ref a13, .ref a14, .ref a15, .ref a16])), (a1, .inl (cyI, 2490, .inl (yz 0 0)))] sz) := by
  refine yMet (cc := cX11_seen) (maxL := 3) (ret := (some .int)) (by decide) rfl (Nat.le_of_ble_eq_true rfl) ?_
  intro p e s m below meth c A hx hb hr hlk hml hts hown hnm hsz hAe hP hK hD hA hS ls hl
  have hl : lv_has ls 3 [(0, .ref a0), (1, .int 3)] := hl
  have hf7 := hts (.fieldLink RX11 7 "BusBridgeModel" "z" "[I") (by decide +kernel)
  have hnX11 : ∀ w ∈ wsX110, w ∈ wsX11_seen := by decide +kernel
  refine lv_aload_n hx hb dX11_seen_0 rfl (lv_at hl 0 rfl) ?_
  refine va_get (D := (dC, dI)) (ci := 11) (v := .ref a1) (C := RX11) (T := TX11) (N := 24) hx hb hts hnX11 hown hK hP 0 rfl rfl 0 (by decide) hf7 (fun _ h9 => h9) rfl dX11_seen_1 ?_
  refine lv_sipush (v := 179) hx hb dX11_seen_4 (by decide) ?_
  refine yy_iald (v := 0) hx hb hK hP 1 0 rfl rfl (yin (by decide)) dX11_seen_7 rfl ?_
  refine lv_i2l hx hb dX11_seen_8 rfl ?_
  refine lv_aload_n hx hb dX11_seen_9 rfl (lv_at hl 0 rfl) ?_
  refine va_get (D := (dC, dI)) (ci := 11) (v := .ref a1) (C := RX11) (T := TX11) (N := 24) hx hb hts hnX11 hown hK hP 0 rfl rfl 0 (by decide) hf7 (fun _ h9 => h9) rfl dX11_seen_10 ?_
  refine lv_bipush (v := 45) hx hb dX11_seen_13 (by decide) ?_
  refine lv_iload_n hx hb dX11_seen_15 rfl (lv_at hl 1 rfl) ?_
  refine lv_iadd hx hb dX11_seen_16 ?_
  refine yy_int (v := 48) (by decide) ?_
  refine yy_iald (v := 1) hx hb hK hP 1 0 rfl rfl (yin (by decide)) dX11_seen_17 rfl ?_
  refine lv_i2l hx hb dX11_seen_18 rfl ?_
  refine lv_aload_n hx hb dX11_seen_19 rfl (lv_at hl 0 rfl) ?_
  refine va_get (D := (dC, dI)) (ci := 11) (v := .ref a1) (C := RX11) (T := TX11) (N := 24) hx hb hts hnX11 hown hK hP 0 rfl rfl 0 (by decide) hf7 (fun _ h9 => h9) rfl dX11_seen_20 ?_
  refine lv_bipush (v := 60) hx hb dX11_seen_23 (by decide) ?_
  refine lv_iload_n hx hb dX11_seen_25 rfl (lv_at hl 1 rfl) ?_
  refine lv_iadd hx hb dX11_seen_26 ?_
  refine yy_int (v := 63) (by decide) ?_
  refine yy_iald (v := 0) hx hb hK hP 1 0 rfl rfl (yin (by decide)) dX11_seen_27 rfl ?_
  refine lv_i2l hx hb dX11_seen_28 rfl ?_
  have hPc := hP.sub (ws' := []) [] rfl
  have hDc := hD.sub (ws' := []) [] (by decide) rfl
  refine yy_calli [] [0, 1] (wr := [(a0, .inr (11, [.ref a1, .int 0, .int 0, .ref a2, .ref a3, .ref a4, .ref a5, .int 0, .ref a6, .ref a7, .ref a8, .int 0, .int 32, .int 0, .ref a9, .ref a10, .int 0, .int 0, .ref a11, .ref a12, .ref a13, .ref a14, .ref a15, .ref a16])), (a1, .inl (cyI, 2490, .inl (yz 0 0)))]) (va_runS (As := [.long (0 : Int32).toInt64, .long (1 : Int32).toInt64, .long (0 : Int32).toInt64]) (rest := []) ⟨hx, hb, hml, hown, hts⟩ (r_inE l dC dI cyI cyZ cyO s.heap.size 0 1 0 (by decide)) (va_cwS 3 hts gX11_seen_X11_in rfl rfl rfl (by decide +kernel) ⟨Nat.le_of_ble_eq_true rfl, Nat.le_of_ble_eq_true rfl⟩) (yPreS hK hPc hDc) rfl rfl hl.1 rfl (lv_room (Nat.le_of_ble_eq_true rfl)) dX11_seen_29 ⟨Nat.le_of_ble_eq_true rfl, Nat.le_of_ble_eq_true rfl⟩) hP hD hS hA rfl rfl (by decide) (by decide) (fun r_2 u_1 H locs hw hP hD hS => ?_)
  have hP : va_P (dC, dI) vwCl [(a0, .inr (11, [.ref a1, .int 0, .int 0, .ref a2, .ref a3, .ref a4, .ref a5, .int 0, .ref a6, .ref a7, .ref a8, .int 0, .int 32, .int 0, .ref a9, .ref a10, .int 0, .int 0, .ref a11, .ref a12, .ref a13, .ref a14, .ref a15, .ref a16])), (a1, .inl (cyI, 2490, .inl (yz 0 0)))] H := hP
  have hD : va_D A [(a0, .inr (11, [.ref a1, .int 0, .int 0, .ref a2, .ref a3, .ref a4, .ref a5, .int 0, .ref a6, .ref a7, .ref a8, .int 0, .int 32, .int 0, .ref a9, .ref a10, .int 0, .int 0, .ref a11, .ref a12, .ref a13, .ref a14, .ref a15, .ref a16])), (a1, .inl (cyI, 2490, .inl (yz 0 0)))] := hD
  refine W.widen (k := 0) (n := 0) (Nat.le_of_ble_eq_true rfl) (Nat.le_of_ble_eq_true rfl) ?_
  have hw : r_2 = 0 := hw
  subst hw
  refine lv_istore_n (lv' := [(2, .int 0), (0, .ref a0), (1, .int 3)]) hx hb dX11_seen_32 rfl hl (by decide) rfl (fun ls hl => ?_)
  refine lv_iload_n hx hb dX11_seen_33 rfl (lv_at hl 0 rfl) ?_
  refine lv_if_eq (tgt := 56) hx hb dX11_seen_34 (by decide) (fun _ => ?_) (fun c => absurd (by decide) c)
  refine lv_aload_n hx hb dX11_seen_56 rfl (lv_at hl 1 rfl) ?_
  refine va_get (D := (dC, dI)) (ci := 11) (v := .ref a1) (C := RX11) (T := TX11) (N := 24) hx hb hts hnX11 hown hK hP 0 rfl rfl 0 (by decide) hf7 (fun _ h9 => h9) rfl dX11_seen_57 ?_
  refine lv_iload_n hx hb dX11_seen_60 rfl (lv_at hl 2 rfl) ?_
  refine yy_iald (v := 0) hx hb hK hP 1 0 rfl rfl (yin (by decide)) dX11_seen_61 rfl ?_
  refine W.widen (k := 0) (n := 0) (Nat.le_of_ble_eq_true rfl) (Nat.le_of_ble_eq_true rfl) ?_
  exact yy_iret (v := 0) () hx hb hr hlk rfl hsz hAe hK hP hD hS [0, 1] rfl rfl (by decide) (rfl) dX11_seen_62
set_option maxHeartbeats 4000000 in
set_option maxRecDepth 100000 in
theorem r0_X11_seen_84 (l : Launch) (dC : Nat → ClassId) (dI : Nat → Nat → Nat) (cyI cyZ cyO : ClassId) (sz : Nat) (a0 : Nat) (a1 : Nat) (a2 : Nat) (a3 : Nat) (a4 : Nat) (a5 : Nat) (a6 : Nat) (a7 : Nat) (a8 : Nat) (a9 : Nat) (a10 : Nat) (a11 : Nat) (a12 : Nat) (a13 : Nat) (a14 : Nat) (a15 : Nat) (a16 : Nat)  : Met l yX11_seen wsX11_seen ({ frames := 1, cells := 0, slots := 0, locals := 25 }) (yPre [.ref a0, .int 4] (dC, dI) [(a0, .inr (11, [.ref a1, .int 0, .int 0, .ref a2, .ref a3, .ref a4, .ref a5, .int 0, .ref a6, .ref a7, .ref a8, .int 0, .int 32, .int 0, .ref a9, .ref a10, .int 0, .int 0, .ref a11, .ref a12, .ref a13, .ref a14, .ref a15, .ref a16])), (a1, .inl (cyI, 2490, .inl (yz 0 0)))] (yT cyI cyZ cyO) sz) (yQi (fun (r : Int32) (u : Unit) => r = 1) (dC, dI) [(a0, .inr (11, [.ref a1, .int 0, .int 0, .ref a2, .ref a3, .ref a4, .ref a5, .int 0, .ref a6, .ref a7, .ref a8, .int 0, .int 32, .int 0, .ref a9, .ref a10, .int 0, .int 0, .ref a11, .ref a12, .ref a13, .ref a14, .ref a15, .ref a16])), (a1, .inl (cyI, 2490, .inl (yz 0 0)))] (yT cyI cyZ cyO) sz (fun _ => [(a0, .inr (11, [.ref a1, .int 0, .int 0, .ref a2, .ref a3, .ref a4, .ref a5, .int 0, .ref a6, .ref a7, .ref a8, .int 0, .int 32, .int 0, .ref a9, .ref a10, .int 0, .int 0, .ref a11, .ref a12, .ref a13, .ref a14, .ref a15, .ref a16])), (a1, .inl (cyI, 2490, .inl (yz 0 0)))])) 0 0 (va_A [(a0, .inr (11, [.ref a1, .int 0, .int 0, .ref a2, .ref a3, .ref a4, .ref a5, .int 0, .ref a6, .ref a7, .ref a8, .int 0, .int 32, .int 0, .ref a9, .ref a10, .int 0, .int 0, .ref a11, .ref a12, .ref a13, .ref a14, .ref a15, .ref a16])), (a1, .inl (cyI, 2490, .inl (yz 0 0)))] sz) := by
  refine yMet (cc := cX11_seen) (maxL := 3) (ret := (some .int)) (by decide) rfl (Nat.le_of_ble_eq_true rfl) ?_
  intro p e s m below meth c A hx hb hr hlk hml hts hown hnm hsz hAe hP hK hD hA hS ls hl
  have hl : lv_has ls 3 [(0, .ref a0), (1, .int 4)] := hl
  have hf7 := hts (.fieldLink RX11 7 "BusBridgeModel" "z" "[I") (by decide +kernel)
  have hnX11 : ∀ w ∈ wsX110, w ∈ wsX11_seen := by decide +kernel
  refine lv_aload_n hx hb dX11_seen_0 rfl (lv_at hl 0 rfl) ?_
  refine va_get (D := (dC, dI)) (ci := 11) (v := .ref a1) (C := RX11) (T := TX11) (N := 24) hx hb hts hnX11 hown hK hP 0 rfl rfl 0 (by decide) hf7 (fun _ h9 => h9) rfl dX11_seen_1 ?_
  refine lv_sipush (v := 179) hx hb dX11_seen_4 (by decide) ?_
  refine yy_iald (v := 0) hx hb hK hP 1 0 rfl rfl (yin (by decide)) dX11_seen_7 rfl ?_
  refine lv_i2l hx hb dX11_seen_8 rfl ?_
  refine lv_aload_n hx hb dX11_seen_9 rfl (lv_at hl 0 rfl) ?_
  refine va_get (D := (dC, dI)) (ci := 11) (v := .ref a1) (C := RX11) (T := TX11) (N := 24) hx hb hts hnX11 hown hK hP 0 rfl rfl 0 (by decide) hf7 (fun _ h9 => h9) rfl dX11_seen_10 ?_
  refine lv_bipush (v := 45) hx hb dX11_seen_13 (by decide) ?_
  refine lv_iload_n hx hb dX11_seen_15 rfl (lv_at hl 1 rfl) ?_
  refine lv_iadd hx hb dX11_seen_16 ?_
  refine yy_int (v := 49) (by decide) ?_
  refine yy_iald (v := 1) hx hb hK hP 1 0 rfl rfl (yin (by decide)) dX11_seen_17 rfl ?_
  refine lv_i2l hx hb dX11_seen_18 rfl ?_
  refine lv_aload_n hx hb dX11_seen_19 rfl (lv_at hl 0 rfl) ?_
  refine va_get (D := (dC, dI)) (ci := 11) (v := .ref a1) (C := RX11) (T := TX11) (N := 24) hx hb hts hnX11 hown hK hP 0 rfl rfl 0 (by decide) hf7 (fun _ h9 => h9) rfl dX11_seen_20 ?_
  refine lv_bipush (v := 60) hx hb dX11_seen_23 (by decide) ?_
  refine lv_iload_n hx hb dX11_seen_25 rfl (lv_at hl 1 rfl) ?_
  refine lv_iadd hx hb dX11_seen_26 ?_
  refine yy_int (v := 64) (by decide) ?_
  refine yy_iald (v := 0) hx hb hK hP 1 0 rfl rfl (yin (by decide)) dX11_seen_27 rfl ?_
  refine lv_i2l hx hb dX11_seen_28 rfl ?_
  have hPc := hP.sub (ws' := []) [] rfl
  have hDc := hD.sub (ws' := []) [] (by decide) rfl
  refine yy_calli [] [0, 1] (wr := [(a0, .inr (11, [.ref a1, .int 0, .int 0, .ref a2, .ref a3, .ref a4, .ref a5, .int 0, .ref a6, .ref a7, .ref a8, .int 0, .int 32, .int 0, .ref a9, .ref a10, .int 0, .int 0, .ref a11, .ref a12, .ref a13, .ref a14, .ref a15, .ref a16])), (a1, .inl (cyI, 2490, .inl (yz 0 0)))]) (va_runS (As := [.long (0 : Int32).toInt64, .long (1 : Int32).toInt64, .long (0 : Int32).toInt64]) (rest := []) ⟨hx, hb, hml, hown, hts⟩ (r_inE l dC dI cyI cyZ cyO s.heap.size 0 1 0 (by decide)) (va_cwS 3 hts gX11_seen_X11_in rfl rfl rfl (by decide +kernel) ⟨Nat.le_of_ble_eq_true rfl, Nat.le_of_ble_eq_true rfl⟩) (yPreS hK hPc hDc) rfl rfl hl.1 rfl (lv_room (Nat.le_of_ble_eq_true rfl)) dX11_seen_29 ⟨Nat.le_of_ble_eq_true rfl, Nat.le_of_ble_eq_true rfl⟩) hP hD hS hA rfl rfl (by decide) (by decide) (fun r_2 u_1 H locs hw hP hD hS => ?_)
  have hP : va_P (dC, dI) vwCl [(a0, .inr (11, [.ref a1, .int 0, .int 0, .ref a2, .ref a3, .ref a4, .ref a5, .int 0, .ref a6, .ref a7, .ref a8, .int 0, .int 32, .int 0, .ref a9, .ref a10, .int 0, .int 0, .ref a11, .ref a12, .ref a13, .ref a14, .ref a15, .ref a16])), (a1, .inl (cyI, 2490, .inl (yz 0 0)))] H := hP
  have hD : va_D A [(a0, .inr (11, [.ref a1, .int 0, .int 0, .ref a2, .ref a3, .ref a4, .ref a5, .int 0, .ref a6, .ref a7, .ref a8, .int 0, .int 32, .int 0, .ref a9, .ref a10, .int 0, .int 0, .ref a11, .ref a12, .ref a13, .ref a14, .ref a15, .ref a16])), (a1, .inl (cyI, 2490, .inl (yz 0 0)))] := hD
  refine W.widen (k := 0) (n := 0) (Nat.le_of_ble_eq_true rfl) (Nat.le_of_ble_eq_true rfl) ?_
  have hw : r_2 = 0 := hw
  subst hw
  refine lv_istore_n (lv' := [(2, .int 0), (0, .ref a0), (1, .int 4)]) hx hb dX11_seen_32 rfl hl (by decide) rfl (fun ls hl => ?_)
  refine lv_iload_n hx hb dX11_seen_33 rfl (lv_at hl 0 rfl) ?_
  refine lv_if_eq (tgt := 56) hx hb dX11_seen_34 (by decide) (fun _ => ?_) (fun c => absurd (by decide) c)
  refine lv_aload_n hx hb dX11_seen_56 rfl (lv_at hl 1 rfl) ?_
  refine va_get (D := (dC, dI)) (ci := 11) (v := .ref a1) (C := RX11) (T := TX11) (N := 24) hx hb hts hnX11 hown hK hP 0 rfl rfl 0 (by decide) hf7 (fun _ h9 => h9) rfl dX11_seen_57 ?_
  refine lv_iload_n hx hb dX11_seen_60 rfl (lv_at hl 2 rfl) ?_
  refine yy_iald (v := 1) hx hb hK hP 1 0 rfl rfl (yin (by decide)) dX11_seen_61 rfl ?_
  refine W.widen (k := 0) (n := 0) (Nat.le_of_ble_eq_true rfl) (Nat.le_of_ble_eq_true rfl) ?_
  exact yy_iret (v := 1) () hx hb hr hlk rfl hsz hAe hK hP hD hS [0, 1] rfl rfl (by decide) (rfl) dX11_seen_62
set_option maxHeartbeats 4000000 in
set_option maxRecDepth 100000 in
theorem r0_X11_seen_85 (l : Launch) (dC : Nat → ClassId) (dI : Nat → Nat → Nat) (cyI cyZ cyO : ClassId) (sz : Nat) (a0 : Nat) (a1 : Nat) (a2 : Nat) (a3 : Nat) (a4 : Nat) (a5 : Nat) (a6 : Nat) (a7 : Nat) (a8 : Nat) (a9 : Nat) (a10 : Nat) (a11 : Nat) (a12 : Nat) (a13 : Nat) (a14 : Nat) (a15 : Nat) (a16 : Nat)  : Met l yX11_seen wsX11_seen ({ frames := 1, cells := 0, slots := 0, locals := 25 }) (yPre [.ref a0, .int 5] (dC, dI) [(a0, .inr (11, [.ref a1, .int 0, .int 0, .ref a2, .ref a3, .ref a4, .ref a5, .int 0, .ref a6, .ref a7, .ref a8, .int 0, .int 32, .int 0, .ref a9, .ref a10, .int 0, .int 0, .ref a11, .ref a12, .ref a13, .ref a14, .ref a15, .ref a16])), (a1, .inl (cyI, 2490, .inl (yz 0 0)))] (yT cyI cyZ cyO) sz) (yQi (fun (r : Int32) (u : Unit) => r = 0) (dC, dI) [(a0, .inr (11, [.ref a1, .int 0, .int 0, .ref a2, .ref a3, .ref a4, .ref a5, .int 0, .ref a6, .ref a7, .ref a8, .int 0, .int 32, .int 0, .ref a9, .ref a10, .int 0, .int 0, .ref a11, .ref a12, .ref a13, .ref a14, .ref a15, .ref a16])), (a1, .inl (cyI, 2490, .inl (yz 0 0)))] (yT cyI cyZ cyO) sz (fun _ => [(a0, .inr (11, [.ref a1, .int 0, .int 0, .ref a2, .ref a3, .ref a4, .ref a5, .int 0, .ref a6, .ref a7, .ref a8, .int 0, .int 32, .int 0, .ref a9, .ref a10, .int 0, .int 0, .ref a11, .ref a12, .ref a13, .ref a14, .ref a15, .ref a16])), (a1, .inl (cyI, 2490, .inl (yz 0 0)))])) 0 0 (va_A [(a0, .inr (11, [.ref a1, .int 0, .int 0, .ref a2, .ref a3, .ref a4, .ref a5, .int 0, .ref a6, .ref a7, .ref a8, .int 0, .int 32, .int 0, .ref a9, .ref a10, .int 0, .int 0, .ref a11, .ref a12, .ref a13, .ref a14, .ref a15, .ref a16])), (a1, .inl (cyI, 2490, .inl (yz 0 0)))] sz) := by
  refine yMet (cc := cX11_seen) (maxL := 3) (ret := (some .int)) (by decide) rfl (Nat.le_of_ble_eq_true rfl) ?_
  intro p e s m below meth c A hx hb hr hlk hml hts hown hnm hsz hAe hP hK hD hA hS ls hl
  have hl : lv_has ls 3 [(0, .ref a0), (1, .int 5)] := hl
  have hf7 := hts (.fieldLink RX11 7 "BusBridgeModel" "z" "[I") (by decide +kernel)
  have hnX11 : ∀ w ∈ wsX110, w ∈ wsX11_seen := by decide +kernel
  refine lv_aload_n hx hb dX11_seen_0 rfl (lv_at hl 0 rfl) ?_
  refine va_get (D := (dC, dI)) (ci := 11) (v := .ref a1) (C := RX11) (T := TX11) (N := 24) hx hb hts hnX11 hown hK hP 0 rfl rfl 0 (by decide) hf7 (fun _ h9 => h9) rfl dX11_seen_1 ?_
  refine lv_sipush (v := 179) hx hb dX11_seen_4 (by decide) ?_
  refine yy_iald (v := 0) hx hb hK hP 1 0 rfl rfl (yin (by decide)) dX11_seen_7 rfl ?_
  refine lv_i2l hx hb dX11_seen_8 rfl ?_
  refine lv_aload_n hx hb dX11_seen_9 rfl (lv_at hl 0 rfl) ?_
  refine va_get (D := (dC, dI)) (ci := 11) (v := .ref a1) (C := RX11) (T := TX11) (N := 24) hx hb hts hnX11 hown hK hP 0 rfl rfl 0 (by decide) hf7 (fun _ h9 => h9) rfl dX11_seen_10 ?_
  refine lv_bipush (v := 45) hx hb dX11_seen_13 (by decide) ?_
  refine lv_iload_n hx hb dX11_seen_15 rfl (lv_at hl 1 rfl) ?_
  refine lv_iadd hx hb dX11_seen_16 ?_
  refine yy_int (v := 50) (by decide) ?_
  refine yy_iald (v := 1) hx hb hK hP 1 0 rfl rfl (yin (by decide)) dX11_seen_17 rfl ?_
  refine lv_i2l hx hb dX11_seen_18 rfl ?_
  refine lv_aload_n hx hb dX11_seen_19 rfl (lv_at hl 0 rfl) ?_
  refine va_get (D := (dC, dI)) (ci := 11) (v := .ref a1) (C := RX11) (T := TX11) (N := 24) hx hb hts hnX11 hown hK hP 0 rfl rfl 0 (by decide) hf7 (fun _ h9 => h9) rfl dX11_seen_20 ?_
  refine lv_bipush (v := 60) hx hb dX11_seen_23 (by decide) ?_
  refine lv_iload_n hx hb dX11_seen_25 rfl (lv_at hl 1 rfl) ?_
  refine lv_iadd hx hb dX11_seen_26 ?_
  refine yy_int (v := 65) (by decide) ?_
  refine yy_iald (v := 0) hx hb hK hP 1 0 rfl rfl (yin (by decide)) dX11_seen_27 rfl ?_
  refine lv_i2l hx hb dX11_seen_28 rfl ?_
  have hPc := hP.sub (ws' := []) [] rfl
  have hDc := hD.sub (ws' := []) [] (by decide) rfl
  refine yy_calli [] [0, 1] (wr := [(a0, .inr (11, [.ref a1, .int 0, .int 0, .ref a2, .ref a3, .ref a4, .ref a5, .int 0, .ref a6, .ref a7, .ref a8, .int 0, .int 32, .int 0, .ref a9, .ref a10, .int 0, .int 0, .ref a11, .ref a12, .ref a13, .ref a14, .ref a15, .ref a16])), (a1, .inl (cyI, 2490, .inl (yz 0 0)))]) (va_runS (As := [.long (0 : Int32).toInt64, .long (1 : Int32).toInt64, .long (0 : Int32).toInt64]) (rest := []) ⟨hx, hb, hml, hown, hts⟩ (r_inE l dC dI cyI cyZ cyO s.heap.size 0 1 0 (by decide)) (va_cwS 3 hts gX11_seen_X11_in rfl rfl rfl (by decide +kernel) ⟨Nat.le_of_ble_eq_true rfl, Nat.le_of_ble_eq_true rfl⟩) (yPreS hK hPc hDc) rfl rfl hl.1 rfl (lv_room (Nat.le_of_ble_eq_true rfl)) dX11_seen_29 ⟨Nat.le_of_ble_eq_true rfl, Nat.le_of_ble_eq_true rfl⟩) hP hD hS hA rfl rfl (by decide) (by decide) (fun r_2 u_1 H locs hw hP hD hS => ?_)
  have hP : va_P (dC, dI) vwCl [(a0, .inr (11, [.ref a1, .int 0, .int 0, .ref a2, .ref a3, .ref a4, .ref a5, .int 0, .ref a6, .ref a7, .ref a8, .int 0, .int 32, .int 0, .ref a9, .ref a10, .int 0, .int 0, .ref a11, .ref a12, .ref a13, .ref a14, .ref a15, .ref a16])), (a1, .inl (cyI, 2490, .inl (yz 0 0)))] H := hP
  have hD : va_D A [(a0, .inr (11, [.ref a1, .int 0, .int 0, .ref a2, .ref a3, .ref a4, .ref a5, .int 0, .ref a6, .ref a7, .ref a8, .int 0, .int 32, .int 0, .ref a9, .ref a10, .int 0, .int 0, .ref a11, .ref a12, .ref a13, .ref a14, .ref a15, .ref a16])), (a1, .inl (cyI, 2490, .inl (yz 0 0)))] := hD
  refine W.widen (k := 0) (n := 0) (Nat.le_of_ble_eq_true rfl) (Nat.le_of_ble_eq_true rfl) ?_
  have hw : r_2 = 0 := hw
  subst hw
  refine lv_istore_n (lv' := [(2, .int 0), (0, .ref a0), (1, .int 5)]) hx hb dX11_seen_32 rfl hl (by decide) rfl (fun ls hl => ?_)
  refine lv_iload_n hx hb dX11_seen_33 rfl (lv_at hl 0 rfl) ?_
  refine lv_if_eq (tgt := 56) hx hb dX11_seen_34 (by decide) (fun _ => ?_) (fun c => absurd (by decide) c)
  refine lv_aload_n hx hb dX11_seen_56 rfl (lv_at hl 1 rfl) ?_
  refine va_get (D := (dC, dI)) (ci := 11) (v := .ref a1) (C := RX11) (T := TX11) (N := 24) hx hb hts hnX11 hown hK hP 0 rfl rfl 0 (by decide) hf7 (fun _ h9 => h9) rfl dX11_seen_57 ?_
  refine lv_iload_n hx hb dX11_seen_60 rfl (lv_at hl 2 rfl) ?_
  refine yy_iald (v := 0) hx hb hK hP 1 0 rfl rfl (yin (by decide)) dX11_seen_61 rfl ?_
  refine W.widen (k := 0) (n := 0) (Nat.le_of_ble_eq_true rfl) (Nat.le_of_ble_eq_true rfl) ?_
  exact yy_iret (v := 0) () hx hb hr hlk rfl hsz hAe hK hP hD hS [0, 1] rfl rfl (by decide) (rfl) dX11_seen_62
set_option maxHeartbeats 4000000 in
set_option maxRecDepth 100000 in
theorem r0_X11_seen_86 (l : Launch) (dC : Nat → ClassId) (dI : Nat → Nat → Nat) (cyI cyZ cyO : ClassId) (sz : Nat) (a0 : Nat) (a1 : Nat) (a2 : Nat) (a3 : Nat) (a4 : Nat) (a5 : Nat) (a6 : Nat) (a7 : Nat) (a8 : Nat) (a9 : Nat) (a10 : Nat) (a11 : Nat) (a12 : Nat) (a13 : Nat) (a14 : Nat) (a15 : Nat) (a16 : Nat)  : Met l yX11_seen wsX11_seen ({ frames := 1, cells := 0, slots := 0, locals := 25 }) (yPre [.ref a0, .int 6] (dC, dI) [(a0, .inr (11, [.ref a1, .int 0, .int 0, .ref a2, .ref a3, .ref a4, .ref a5, .int 0, .ref a6, .ref a7, .ref a8, .int 0, .int 32, .int 0, .ref a9, .ref a10, .int 0, .int 0, .ref a11, .ref a12, .ref a13, .ref a14, .ref a15, .ref a16])), (a1, .inl (cyI, 2490, .inl (yz 0 0)))] (yT cyI cyZ cyO) sz) (yQi (fun (r : Int32) (u : Unit) => r = 0) (dC, dI) [(a0, .inr (11, [.ref a1, .int 0, .int 0, .ref a2, .ref a3, .ref a4, .ref a5, .int 0, .ref a6, .ref a7, .ref a8, .int 0, .int 32, .int 0, .ref a9, .ref a10, .int 0, .int 0, .ref a11, .ref a12, .ref a13, .ref a14, .ref a15, .ref a16])), (a1, .inl (cyI, 2490, .inl (yz 0 0)))] (yT cyI cyZ cyO) sz (fun _ => [(a0, .inr (11, [.ref a1, .int 0, .int 0, .ref a2, .ref a3, .ref a4, .ref a5, .int 0, .ref a6, .ref a7, .ref a8, .int 0, .int 32, .int 0, .ref a9, .ref a10, .int 0, .int 0, .ref a11, .ref a12, .ref a13, .ref a14, .ref a15, .ref a16])), (a1, .inl (cyI, 2490, .inl (yz 0 0)))])) 0 0 (va_A [(a0, .inr (11, [.ref a1, .int 0, .int 0, .ref a2, .ref a3, .ref a4, .ref a5, .int 0, .ref a6, .ref a7, .ref a8, .int 0, .int 32, .int 0, .ref a9, .ref a10, .int 0, .int 0, .ref a11, .ref a12, .ref a13, .ref a14, .ref a15, .ref a16])), (a1, .inl (cyI, 2490, .inl (yz 0 0)))] sz) := by
  refine yMet (cc := cX11_seen) (maxL := 3) (ret := (some .int)) (by decide) rfl (Nat.le_of_ble_eq_true rfl) ?_
  intro p e s m below meth c A hx hb hr hlk hml hts hown hnm hsz hAe hP hK hD hA hS ls hl
  have hl : lv_has ls 3 [(0, .ref a0), (1, .int 6)] := hl
  have hf7 := hts (.fieldLink RX11 7 "BusBridgeModel" "z" "[I") (by decide +kernel)
  have hnX11 : ∀ w ∈ wsX110, w ∈ wsX11_seen := by decide +kernel
  refine lv_aload_n hx hb dX11_seen_0 rfl (lv_at hl 0 rfl) ?_
  refine va_get (D := (dC, dI)) (ci := 11) (v := .ref a1) (C := RX11) (T := TX11) (N := 24) hx hb hts hnX11 hown hK hP 0 rfl rfl 0 (by decide) hf7 (fun _ h9 => h9) rfl dX11_seen_1 ?_
  refine lv_sipush (v := 179) hx hb dX11_seen_4 (by decide) ?_
  refine yy_iald (v := 0) hx hb hK hP 1 0 rfl rfl (yin (by decide)) dX11_seen_7 rfl ?_
  refine lv_i2l hx hb dX11_seen_8 rfl ?_
  refine lv_aload_n hx hb dX11_seen_9 rfl (lv_at hl 0 rfl) ?_
  refine va_get (D := (dC, dI)) (ci := 11) (v := .ref a1) (C := RX11) (T := TX11) (N := 24) hx hb hts hnX11 hown hK hP 0 rfl rfl 0 (by decide) hf7 (fun _ h9 => h9) rfl dX11_seen_10 ?_
  refine lv_bipush (v := 45) hx hb dX11_seen_13 (by decide) ?_
  refine lv_iload_n hx hb dX11_seen_15 rfl (lv_at hl 1 rfl) ?_
  refine lv_iadd hx hb dX11_seen_16 ?_
  refine yy_int (v := 51) (by decide) ?_
  refine yy_iald (v := 1) hx hb hK hP 1 0 rfl rfl (yin (by decide)) dX11_seen_17 rfl ?_
  refine lv_i2l hx hb dX11_seen_18 rfl ?_
  refine lv_aload_n hx hb dX11_seen_19 rfl (lv_at hl 0 rfl) ?_
  refine va_get (D := (dC, dI)) (ci := 11) (v := .ref a1) (C := RX11) (T := TX11) (N := 24) hx hb hts hnX11 hown hK hP 0 rfl rfl 0 (by decide) hf7 (fun _ h9 => h9) rfl dX11_seen_20 ?_
  refine lv_bipush (v := 60) hx hb dX11_seen_23 (by decide) ?_
  refine lv_iload_n hx hb dX11_seen_25 rfl (lv_at hl 1 rfl) ?_
  refine lv_iadd hx hb dX11_seen_26 ?_
  refine yy_int (v := 66) (by decide) ?_
  refine yy_iald (v := 0) hx hb hK hP 1 0 rfl rfl (yin (by decide)) dX11_seen_27 rfl ?_
  refine lv_i2l hx hb dX11_seen_28 rfl ?_
  have hPc := hP.sub (ws' := []) [] rfl
  have hDc := hD.sub (ws' := []) [] (by decide) rfl
  refine yy_calli [] [0, 1] (wr := [(a0, .inr (11, [.ref a1, .int 0, .int 0, .ref a2, .ref a3, .ref a4, .ref a5, .int 0, .ref a6, .ref a7, .ref a8, .int 0, .int 32, .int 0, .ref a9, .ref a10, .int 0, .int 0, .ref a11, .ref a12, .ref a13, .ref a14, .ref a15, .ref a16])), (a1, .inl (cyI, 2490, .inl (yz 0 0)))]) (va_runS (As := [.long (0 : Int32).toInt64, .long (1 : Int32).toInt64, .long (0 : Int32).toInt64]) (rest := []) ⟨hx, hb, hml, hown, hts⟩ (r_inE l dC dI cyI cyZ cyO s.heap.size 0 1 0 (by decide)) (va_cwS 3 hts gX11_seen_X11_in rfl rfl rfl (by decide +kernel) ⟨Nat.le_of_ble_eq_true rfl, Nat.le_of_ble_eq_true rfl⟩) (yPreS hK hPc hDc) rfl rfl hl.1 rfl (lv_room (Nat.le_of_ble_eq_true rfl)) dX11_seen_29 ⟨Nat.le_of_ble_eq_true rfl, Nat.le_of_ble_eq_true rfl⟩) hP hD hS hA rfl rfl (by decide) (by decide) (fun r_2 u_1 H locs hw hP hD hS => ?_)
  have hP : va_P (dC, dI) vwCl [(a0, .inr (11, [.ref a1, .int 0, .int 0, .ref a2, .ref a3, .ref a4, .ref a5, .int 0, .ref a6, .ref a7, .ref a8, .int 0, .int 32, .int 0, .ref a9, .ref a10, .int 0, .int 0, .ref a11, .ref a12, .ref a13, .ref a14, .ref a15, .ref a16])), (a1, .inl (cyI, 2490, .inl (yz 0 0)))] H := hP
  have hD : va_D A [(a0, .inr (11, [.ref a1, .int 0, .int 0, .ref a2, .ref a3, .ref a4, .ref a5, .int 0, .ref a6, .ref a7, .ref a8, .int 0, .int 32, .int 0, .ref a9, .ref a10, .int 0, .int 0, .ref a11, .ref a12, .ref a13, .ref a14, .ref a15, .ref a16])), (a1, .inl (cyI, 2490, .inl (yz 0 0)))] := hD
  refine W.widen (k := 0) (n := 0) (Nat.le_of_ble_eq_true rfl) (Nat.le_of_ble_eq_true rfl) ?_
  have hw : r_2 = 0 := hw
  subst hw
  refine lv_istore_n (lv' := [(2, .int 0), (0, .ref a0), (1, .int 6)]) hx hb dX11_seen_32 rfl hl (by decide) rfl (fun ls hl => ?_)
  refine lv_iload_n hx hb dX11_seen_33 rfl (lv_at hl 0 rfl) ?_
  refine lv_if_eq (tgt := 56) hx hb dX11_seen_34 (by decide) (fun _ => ?_) (fun c => absurd (by decide) c)
  refine lv_aload_n hx hb dX11_seen_56 rfl (lv_at hl 1 rfl) ?_
  refine va_get (D := (dC, dI)) (ci := 11) (v := .ref a1) (C := RX11) (T := TX11) (N := 24) hx hb hts hnX11 hown hK hP 0 rfl rfl 0 (by decide) hf7 (fun _ h9 => h9) rfl dX11_seen_57 ?_
  refine lv_iload_n hx hb dX11_seen_60 rfl (lv_at hl 2 rfl) ?_
  refine yy_iald (v := 0) hx hb hK hP 1 0 rfl rfl (yin (by decide)) dX11_seen_61 rfl ?_
  refine W.widen (k := 0) (n := 0) (Nat.le_of_ble_eq_true rfl) (Nat.le_of_ble_eq_true rfl) ?_
  exact yy_iret (v := 0) () hx hb hr hlk rfl hsz hAe hK hP hD hS [0, 1] rfl rfl (by decide) (rfl) dX11_seen_62
set_option maxHeartbeats 4000000 in
set_option maxRecDepth 100000 in
theorem r0_X11_seen_87 (l : Launch) (dC : Nat → ClassId) (dI : Nat → Nat → Nat) (cyI cyZ cyO : ClassId) (sz : Nat) (a0 : Nat) (a1 : Nat) (a2 : Nat) (a3 : Nat) (a4 : Nat) (a5 : Nat) (a6 : Nat) (a7 : Nat) (a8 : Nat) (a9 : Nat) (a10 : Nat) (a11 : Nat) (a12 : Nat) (a13 : Nat) (a14 : Nat) (a15 : Nat) (a16 : Nat)  : Met l yX11_seen wsX11_seen ({ frames := 1, cells := 0, slots := 0, locals := 25 }) (yPre [.ref a0, .int 7] (dC, dI) [(a0, .inr (11, [.ref a1, .int 0, .int 0, .ref a2, .ref a3, .ref a4, .ref a5, .int 0, .ref a6, .ref a7, .ref a8, .int 0, .int 32, .int 0, .ref a9, .ref a10, .int 0, .int 0, .ref a11, .ref a12, .ref a13, .ref a14, .ref a15, .ref a16])), (a1, .inl (cyI, 2490, .inl (yz 0 0)))] (yT cyI cyZ cyO) sz) (yQi (fun (r : Int32) (u : Unit) => r = 0) (dC, dI) [(a0, .inr (11, [.ref a1, .int 0, .int 0, .ref a2, .ref a3, .ref a4, .ref a5, .int 0, .ref a6, .ref a7, .ref a8, .int 0, .int 32, .int 0, .ref a9, .ref a10, .int 0, .int 0, .ref a11, .ref a12, .ref a13, .ref a14, .ref a15, .ref a16])), (a1, .inl (cyI, 2490, .inl (yz 0 0)))] (yT cyI cyZ cyO) sz (fun _ => [(a0, .inr (11, [.ref a1, .int 0, .int 0, .ref a2, .ref a3, .ref a4, .ref a5, .int 0, .ref a6, .ref a7, .ref a8, .int 0, .int 32, .int 0, .ref a9, .ref a10, .int 0, .int 0, .ref a11, .ref a12, .ref a13, .ref a14, .ref a15, .ref a16])), (a1, .inl (cyI, 2490, .inl (yz 0 0)))])) 0 0 (va_A [(a0, .inr (11, [.ref a1, .int 0, .int 0, .ref a2, .ref a3, .ref a4, .ref a5, .int 0, .ref a6, .ref a7, .ref a8, .int 0, .int 32, .int 0, .ref a9, .ref a10, .int 0, .int 0, .ref a11, .ref a12, .ref a13, .ref a14, .ref a15, .ref a16])), (a1, .inl (cyI, 2490, .inl (yz 0 0)))] sz) := by
  refine yMet (cc := cX11_seen) (maxL := 3) (ret := (some .int)) (by decide) rfl (Nat.le_of_ble_eq_true rfl) ?_
  intro p e s m below meth c A hx hb hr hlk hml hts hown hnm hsz hAe hP hK hD hA hS ls hl
  have hl : lv_has ls 3 [(0, .ref a0), (1, .int 7)] := hl
  have hf7 := hts (.fieldLink RX11 7 "BusBridgeModel" "z" "[I") (by decide +kernel)
  have hnX11 : ∀ w ∈ wsX110, w ∈ wsX11_seen := by decide +kernel
  refine lv_aload_n hx hb dX11_seen_0 rfl (lv_at hl 0 rfl) ?_
  refine va_get (D := (dC, dI)) (ci := 11) (v := .ref a1) (C := RX11) (T := TX11) (N := 24) hx hb hts hnX11 hown hK hP 0 rfl rfl 0 (by decide) hf7 (fun _ h9 => h9) rfl dX11_seen_1 ?_
  refine lv_sipush (v := 179) hx hb dX11_seen_4 (by decide) ?_
  refine yy_iald (v := 0) hx hb hK hP 1 0 rfl rfl (yin (by decide)) dX11_seen_7 rfl ?_
  refine lv_i2l hx hb dX11_seen_8 rfl ?_
  refine lv_aload_n hx hb dX11_seen_9 rfl (lv_at hl 0 rfl) ?_
  refine va_get (D := (dC, dI)) (ci := 11) (v := .ref a1) (C := RX11) (T := TX11) (N := 24) hx hb hts hnX11 hown hK hP 0 rfl rfl 0 (by decide) hf7 (fun _ h9 => h9) rfl dX11_seen_10 ?_
  refine lv_bipush (v := 45) hx hb dX11_seen_13 (by decide) ?_
  refine lv_iload_n hx hb dX11_seen_15 rfl (lv_at hl 1 rfl) ?_
  refine lv_iadd hx hb dX11_seen_16 ?_
  refine yy_int (v := 52) (by decide) ?_
  refine yy_iald (v := 1) hx hb hK hP 1 0 rfl rfl (yin (by decide)) dX11_seen_17 rfl ?_
  refine lv_i2l hx hb dX11_seen_18 rfl ?_
  refine lv_aload_n hx hb dX11_seen_19 rfl (lv_at hl 0 rfl) ?_
  refine va_get (D := (dC, dI)) (ci := 11) (v := .ref a1) (C := RX11) (T := TX11) (N := 24) hx hb hts hnX11 hown hK hP 0 rfl rfl 0 (by decide) hf7 (fun _ h9 => h9) rfl dX11_seen_20 ?_
  refine lv_bipush (v := 60) hx hb dX11_seen_23 (by decide) ?_
  refine lv_iload_n hx hb dX11_seen_25 rfl (lv_at hl 1 rfl) ?_
  refine lv_iadd hx hb dX11_seen_26 ?_
  refine yy_int (v := 67) (by decide) ?_
  refine yy_iald (v := 0) hx hb hK hP 1 0 rfl rfl (yin (by decide)) dX11_seen_27 rfl ?_
  refine lv_i2l hx hb dX11_seen_28 rfl ?_
  have hPc := hP.sub (ws' := []) [] rfl
  have hDc := hD.sub (ws' := []) [] (by decide) rfl
  refine yy_calli [] [0, 1] (wr := [(a0, .inr (11, [.ref a1, .int 0, .int 0, .ref a2, .ref a3, .ref a4, .ref a5, .int 0, .ref a6, .ref a7, .ref a8, .int 0, .int 32, .int 0, .ref a9, .ref a10, .int 0, .int 0, .ref a11, .ref a12, .ref a13, .ref a14, .ref a15, .ref a16])), (a1, .inl (cyI, 2490, .inl (yz 0 0)))]) (va_runS (As := [.long (0 : Int32).toInt64, .long (1 : Int32).toInt64, .long (0 : Int32).toInt64]) (rest := []) ⟨hx, hb, hml, hown, hts⟩ (r_inE l dC dI cyI cyZ cyO s.heap.size 0 1 0 (by decide)) (va_cwS 3 hts gX11_seen_X11_in rfl rfl rfl (by decide +kernel) ⟨Nat.le_of_ble_eq_true rfl, Nat.le_of_ble_eq_true rfl⟩) (yPreS hK hPc hDc) rfl rfl hl.1 rfl (lv_room (Nat.le_of_ble_eq_true rfl)) dX11_seen_29 ⟨Nat.le_of_ble_eq_true rfl, Nat.le_of_ble_eq_true rfl⟩) hP hD hS hA rfl rfl (by decide) (by decide) (fun r_2 u_1 H locs hw hP hD hS => ?_)
  have hP : va_P (dC, dI) vwCl [(a0, .inr (11, [.ref a1, .int 0, .int 0, .ref a2, .ref a3, .ref a4, .ref a5, .int 0, .ref a6, .ref a7, .ref a8, .int 0, .int 32, .int 0, .ref a9, .ref a10, .int 0, .int 0, .ref a11, .ref a12, .ref a13, .ref a14, .ref a15, .ref a16])), (a1, .inl (cyI, 2490, .inl (yz 0 0)))] H := hP
  have hD : va_D A [(a0, .inr (11, [.ref a1, .int 0, .int 0, .ref a2, .ref a3, .ref a4, .ref a5, .int 0, .ref a6, .ref a7, .ref a8, .int 0, .int 32, .int 0, .ref a9, .ref a10, .int 0, .int 0, .ref a11, .ref a12, .ref a13, .ref a14, .ref a15, .ref a16])), (a1, .inl (cyI, 2490, .inl (yz 0 0)))] := hD
  refine W.widen (k := 0) (n := 0) (Nat.le_of_ble_eq_true rfl) (Nat.le_of_ble_eq_true rfl) ?_
  have hw : r_2 = 0 := hw
  subst hw
  refine lv_istore_n (lv' := [(2, .int 0), (0, .ref a0), (1, .int 7)]) hx hb dX11_seen_32 rfl hl (by decide) rfl (fun ls hl => ?_)
  refine lv_iload_n hx hb dX11_seen_33 rfl (lv_at hl 0 rfl) ?_
  refine lv_if_eq (tgt := 56) hx hb dX11_seen_34 (by decide) (fun _ => ?_) (fun c => absurd (by decide) c)
  refine lv_aload_n hx hb dX11_seen_56 rfl (lv_at hl 1 rfl) ?_
  refine va_get (D := (dC, dI)) (ci := 11) (v := .ref a1) (C := RX11) (T := TX11) (N := 24) hx hb hts hnX11 hown hK hP 0 rfl rfl 0 (by decide) hf7 (fun _ h9 => h9) rfl dX11_seen_57 ?_
  refine lv_iload_n hx hb dX11_seen_60 rfl (lv_at hl 2 rfl) ?_
  refine yy_iald (v := 0) hx hb hK hP 1 0 rfl rfl (yin (by decide)) dX11_seen_61 rfl ?_
  refine W.widen (k := 0) (n := 0) (Nat.le_of_ble_eq_true rfl) (Nat.le_of_ble_eq_true rfl) ?_
  exact yy_iret (v := 0) () hx hb hr hlk rfl hsz hAe hK hP hD hS [0, 1] rfl rfl (by decide) (rfl) dX11_seen_62
set_option maxHeartbeats 4000000 in
set_option maxRecDepth 100000 in
theorem r0_X11_seen_88 (l : Launch) (dC : Nat → ClassId) (dI : Nat → Nat → Nat) (cyI cyZ cyO : ClassId) (sz : Nat) (a0 : Nat) (a1 : Nat) (a2 : Nat) (a3 : Nat) (a4 : Nat) (a5 : Nat) (a6 : Nat) (a7 : Nat) (a8 : Nat) (a9 : Nat) (a10 : Nat) (a11 : Nat) (a12 : Nat) (a13 : Nat) (a14 : Nat) (a15 : Nat) (a16 : Nat)  : Met l yX11_seen wsX11_seen ({ frames := 1, cells := 0, slots := 0, locals := 25 }) (yPre [.ref a0, .int 8] (dC, dI) [(a0, .inr (11, [.ref a1, .int 0, .int 0, .ref a2, .ref a3, .ref a4, .ref a5, .int 0, .ref a6, .ref a7, .ref a8, .int 0, .int 32, .int 0, .ref a9, .ref a10, .int 0, .int 0, .ref a11, .ref a12, .ref a13, .ref a14, .ref a15, .ref a16])), (a1, .inl (cyI, 2490, .inl (yz 0 0)))] (yT cyI cyZ cyO) sz) (yQi (fun (r : Int32) (u : Unit) => r = 0) (dC, dI) [(a0, .inr (11, [.ref a1, .int 0, .int 0, .ref a2, .ref a3, .ref a4, .ref a5, .int 0, .ref a6, .ref a7, .ref a8, .int 0, .int 32, .int 0, .ref a9, .ref a10, .int 0, .int 0, .ref a11, .ref a12, .ref a13, .ref a14, .ref a15, .ref a16])), (a1, .inl (cyI, 2490, .inl (yz 0 0)))] (yT cyI cyZ cyO) sz (fun _ => [(a0, .inr (11, [.ref a1, .int 0, .int 0, .ref a2, .ref a3, .ref a4, .ref a5, .int 0, .ref a6, .ref a7, .ref a8, .int 0, .int 32, .int 0, .ref a9, .ref a10, .int 0, .int 0, .ref a11, .ref a12, .ref a13, .ref a14, .ref a15, .ref a16])), (a1, .inl (cyI, 2490, .inl (yz 0 0)))])) 0 0 (va_A [(a0, .inr (11, [.ref a1, .int 0, .int 0, .ref a2, .ref a3, .ref a4, .ref a5, .int 0, .ref a6, .ref a7, .ref a8, .int 0, .int 32, .int 0, .ref a9, .ref a10, .int 0, .int 0, .ref a11, .ref a12, .ref a13, .ref a14, .ref a15, .ref a16])), (a1, .inl (cyI, 2490, .inl (yz 0 0)))] sz) := by
  refine yMet (cc := cX11_seen) (maxL := 3) (ret := (some .int)) (by decide) rfl (Nat.le_of_ble_eq_true rfl) ?_
  intro p e s m below meth c A hx hb hr hlk hml hts hown hnm hsz hAe hP hK hD hA hS ls hl
  have hl : lv_has ls 3 [(0, .ref a0), (1, .int 8)] := hl
  have hf7 := hts (.fieldLink RX11 7 "BusBridgeModel" "z" "[I") (by decide +kernel)
  have hnX11 : ∀ w ∈ wsX110, w ∈ wsX11_seen := by decide +kernel
  refine lv_aload_n hx hb dX11_seen_0 rfl (lv_at hl 0 rfl) ?_
  refine va_get (D := (dC, dI)) (ci := 11) (v := .ref a1) (C := RX11) (T := TX11) (N := 24) hx hb hts hnX11 hown hK hP 0 rfl rfl 0 (by decide) hf7 (fun _ h9 => h9) rfl dX11_seen_1 ?_
  refine lv_sipush (v := 179) hx hb dX11_seen_4 (by decide) ?_
  refine yy_iald (v := 0) hx hb hK hP 1 0 rfl rfl (yin (by decide)) dX11_seen_7 rfl ?_
  refine lv_i2l hx hb dX11_seen_8 rfl ?_
  refine lv_aload_n hx hb dX11_seen_9 rfl (lv_at hl 0 rfl) ?_
  refine va_get (D := (dC, dI)) (ci := 11) (v := .ref a1) (C := RX11) (T := TX11) (N := 24) hx hb hts hnX11 hown hK hP 0 rfl rfl 0 (by decide) hf7 (fun _ h9 => h9) rfl dX11_seen_10 ?_
  refine lv_bipush (v := 45) hx hb dX11_seen_13 (by decide) ?_
  refine lv_iload_n hx hb dX11_seen_15 rfl (lv_at hl 1 rfl) ?_
  refine lv_iadd hx hb dX11_seen_16 ?_
  refine yy_int (v := 53) (by decide) ?_
  refine yy_iald (v := 1) hx hb hK hP 1 0 rfl rfl (yin (by decide)) dX11_seen_17 rfl ?_
  refine lv_i2l hx hb dX11_seen_18 rfl ?_
  refine lv_aload_n hx hb dX11_seen_19 rfl (lv_at hl 0 rfl) ?_
  refine va_get (D := (dC, dI)) (ci := 11) (v := .ref a1) (C := RX11) (T := TX11) (N := 24) hx hb hts hnX11 hown hK hP 0 rfl rfl 0 (by decide) hf7 (fun _ h9 => h9) rfl dX11_seen_20 ?_
  refine lv_bipush (v := 60) hx hb dX11_seen_23 (by decide) ?_
  refine lv_iload_n hx hb dX11_seen_25 rfl (lv_at hl 1 rfl) ?_
  refine lv_iadd hx hb dX11_seen_26 ?_
  refine yy_int (v := 68) (by decide) ?_
  refine yy_iald (v := 0) hx hb hK hP 1 0 rfl rfl (yin (by decide)) dX11_seen_27 rfl ?_
  refine lv_i2l hx hb dX11_seen_28 rfl ?_
  have hPc := hP.sub (ws' := []) [] rfl
  have hDc := hD.sub (ws' := []) [] (by decide) rfl
  refine yy_calli [] [0, 1] (wr := [(a0, .inr (11, [.ref a1, .int 0, .int 0, .ref a2, .ref a3, .ref a4, .ref a5, .int 0, .ref a6, .ref a7, .ref a8, .int 0, .int 32, .int 0, .ref a9, .ref a10, .int 0, .int 0, .ref a11, .ref a12, .ref a13, .ref a14, .ref a15, .ref a16])), (a1, .inl (cyI, 2490, .inl (yz 0 0)))]) (va_runS (As := [.long (0 : Int32).toInt64, .long (1 : Int32).toInt64, .long (0 : Int32).toInt64]) (rest := []) ⟨hx, hb, hml, hown, hts⟩ (r_inE l dC dI cyI cyZ cyO s.heap.size 0 1 0 (by decide)) (va_cwS 3 hts gX11_seen_X11_in rfl rfl rfl (by decide +kernel) ⟨Nat.le_of_ble_eq_true rfl, Nat.le_of_ble_eq_true rfl⟩) (yPreS hK hPc hDc) rfl rfl hl.1 rfl (lv_room (Nat.le_of_ble_eq_true rfl)) dX11_seen_29 ⟨Nat.le_of_ble_eq_true rfl, Nat.le_of_ble_eq_true rfl⟩) hP hD hS hA rfl rfl (by decide) (by decide) (fun r_2 u_1 H locs hw hP hD hS => ?_)
  have hP : va_P (dC, dI) vwCl [(a0, .inr (11, [.ref a1, .int 0, .int 0, .ref a2, .ref a3, .ref a4, .ref a5, .int 0, .ref a6, .ref a7, .ref a8, .int 0, .int 32, .int 0, .ref a9, .ref a10, .int 0, .int 0, .ref a11, .ref a12, .ref a13, .ref a14, .ref a15, .ref a16])), (a1, .inl (cyI, 2490, .inl (yz 0 0)))] H := hP
  have hD : va_D A [(a0, .inr (11, [.ref a1, .int 0, .int 0, .ref a2, .ref a3, .ref a4, .ref a5, .int 0, .ref a6, .ref a7, .ref a8, .int 0, .int 32, .int 0, .ref a9, .ref a10, .int 0, .int 0, .ref a11, .ref a12, .ref a13, .ref a14, .ref a15, .ref a16])), (a1, .inl (cyI, 2490, .inl (yz 0 0)))] := hD
  refine W.widen (k := 0) (n := 0) (Nat.le_of_ble_eq_true rfl) (Nat.le_of_ble_eq_true rfl) ?_
  have hw : r_2 = 0 := hw
  subst hw
  refine lv_istore_n (lv' := [(2, .int 0), (0, .ref a0), (1, .int 8)]) hx hb dX11_seen_32 rfl hl (by decide) rfl (fun ls hl => ?_)
  refine lv_iload_n hx hb dX11_seen_33 rfl (lv_at hl 0 rfl) ?_
  refine lv_if_eq (tgt := 56) hx hb dX11_seen_34 (by decide) (fun _ => ?_) (fun c => absurd (by decide) c)
  refine lv_aload_n hx hb dX11_seen_56 rfl (lv_at hl 1 rfl) ?_
  refine va_get (D := (dC, dI)) (ci := 11) (v := .ref a1) (C := RX11) (T := TX11) (N := 24) hx hb hts hnX11 hown hK hP 0 rfl rfl 0 (by decide) hf7 (fun _ h9 => h9) rfl dX11_seen_57 ?_
  refine lv_iload_n hx hb dX11_seen_60 rfl (lv_at hl 2 rfl) ?_
  refine yy_iald (v := 0) hx hb hK hP 1 0 rfl rfl (yin (by decide)) dX11_seen_61 rfl ?_
  refine W.widen (k := 0) (n := 0) (Nat.le_of_ble_eq_true rfl) (Nat.le_of_ble_eq_true rfl) ?_
  exact yy_iret (v := 0) () hx hb hr hlk rfl hsz hAe hK hP hD hS [0, 1] rfl rfl (by decide) (rfl) dX11_seen_62
set_option maxHeartbeats 4000000 in
set_option maxRecDepth 100000 in
theorem r0_X11_seen_89 (l : Launch) (dC : Nat → ClassId) (dI : Nat → Nat → Nat) (cyI cyZ cyO : ClassId) (sz : Nat) (a0 : Nat) (a1 : Nat) (a2 : Nat) (a3 : Nat) (a4 : Nat) (a5 : Nat) (a6 : Nat) (a7 : Nat) (a8 : Nat) (a9 : Nat) (a10 : Nat) (a11 : Nat) (a12 : Nat) (a13 : Nat) (a14 : Nat) (a15 : Nat) (a16 : Nat)  : Met l yX11_seen wsX11_seen ({ frames := 1, cells := 0, slots := 0, locals := 25 }) (yPre [.ref a0, .int 9] (dC, dI) [(a0, .inr (11, [.ref a1, .int 0, .int 0, .ref a2, .ref a3, .ref a4, .ref a5, .int 0, .ref a6, .ref a7, .ref a8, .int 0, .int 32, .int 0, .ref a9, .ref a10, .int 0, .int 0, .ref a11, .ref a12, .ref a13, .ref a14, .ref a15, .ref a16])), (a1, .inl (cyI, 2490, .inl (yz 0 0)))] (yT cyI cyZ cyO) sz) (yQi (fun (r : Int32) (u : Unit) => r = 0) (dC, dI) [(a0, .inr (11, [.ref a1, .int 0, .int 0, .ref a2, .ref a3, .ref a4, .ref a5, .int 0, .ref a6, .ref a7, .ref a8, .int 0, .int 32, .int 0, .ref a9, .ref a10, .int 0, .int 0, .ref a11, .ref a12, .ref a13, .ref a14, .ref a15, .ref a16])), (a1, .inl (cyI, 2490, .inl (yz 0 0)))] (yT cyI cyZ cyO) sz (fun _ => [(a0, .inr (11, [.ref a1, .int 0, .int 0, .ref a2, .ref a3, .ref a4, .ref a5, .int 0, .ref a6, .ref a7, .ref a8, .int 0, .int 32, .int 0, .ref a9, .ref a10, .int 0, .int 0, .ref a11, .ref a12, .ref a13, .ref a14, .ref a15, .ref a16])), (a1, .inl (cyI, 2490, .inl (yz 0 0)))])) 0 0 (va_A [(a0, .inr (11, [.ref a1, .int 0, .int 0, .ref a2, .ref a3, .ref a4, .ref a5, .int 0, .ref a6, .ref a7, .ref a8, .int 0, .int 32, .int 0, .ref a9, .ref a10, .int 0, .int 0, .ref a11, .ref a12, .ref a13, .ref a14, .ref a15, .ref a16])), (a1, .inl (cyI, 2490, .inl (yz 0 0)))] sz) := by
  refine yMet (cc := cX11_seen) (maxL := 3) (ret := (some .int)) (by decide) rfl (Nat.le_of_ble_eq_true rfl) ?_
  intro p e s m below meth c A hx hb hr hlk hml hts hown hnm hsz hAe hP hK hD hA hS ls hl
  have hl : lv_has ls 3 [(0, .ref a0), (1, .int 9)] := hl
  have hf7 := hts (.fieldLink RX11 7 "BusBridgeModel" "z" "[I") (by decide +kernel)
  have hnX11 : ∀ w ∈ wsX110, w ∈ wsX11_seen := by decide +kernel
  refine lv_aload_n hx hb dX11_seen_0 rfl (lv_at hl 0 rfl) ?_
  refine va_get (D := (dC, dI)) (ci := 11) (v := .ref a1) (C := RX11) (T := TX11) (N := 24) hx hb hts hnX11 hown hK hP 0 rfl rfl 0 (by decide) hf7 (fun _ h9 => h9) rfl dX11_seen_1 ?_
  refine lv_sipush (v := 179) hx hb dX11_seen_4 (by decide) ?_
  refine yy_iald (v := 0) hx hb hK hP 1 0 rfl rfl (yin (by decide)) dX11_seen_7 rfl ?_
  refine lv_i2l hx hb dX11_seen_8 rfl ?_
  refine lv_aload_n hx hb dX11_seen_9 rfl (lv_at hl 0 rfl) ?_
  refine va_get (D := (dC, dI)) (ci := 11) (v := .ref a1) (C := RX11) (T := TX11) (N := 24) hx hb hts hnX11 hown hK hP 0 rfl rfl 0 (by decide) hf7 (fun _ h9 => h9) rfl dX11_seen_10 ?_
  refine lv_bipush (v := 45) hx hb dX11_seen_13 (by decide) ?_
  refine lv_iload_n hx hb dX11_seen_15 rfl (lv_at hl 1 rfl) ?_
  refine lv_iadd hx hb dX11_seen_16 ?_
  refine yy_int (v := 54) (by decide) ?_
  refine yy_iald (v := 1) hx hb hK hP 1 0 rfl rfl (yin (by decide)) dX11_seen_17 rfl ?_
  refine lv_i2l hx hb dX11_seen_18 rfl ?_
  refine lv_aload_n hx hb dX11_seen_19 rfl (lv_at hl 0 rfl) ?_
  refine va_get (D := (dC, dI)) (ci := 11) (v := .ref a1) (C := RX11) (T := TX11) (N := 24) hx hb hts hnX11 hown hK hP 0 rfl rfl 0 (by decide) hf7 (fun _ h9 => h9) rfl dX11_seen_20 ?_
  refine lv_bipush (v := 60) hx hb dX11_seen_23 (by decide) ?_
  refine lv_iload_n hx hb dX11_seen_25 rfl (lv_at hl 1 rfl) ?_
  refine lv_iadd hx hb dX11_seen_26 ?_
  refine yy_int (v := 69) (by decide) ?_
  refine yy_iald (v := 0) hx hb hK hP 1 0 rfl rfl (yin (by decide)) dX11_seen_27 rfl ?_
  refine lv_i2l hx hb dX11_seen_28 rfl ?_
  have hPc := hP.sub (ws' := []) [] rfl
  have hDc := hD.sub (ws' := []) [] (by decide) rfl
  refine yy_calli [] [0, 1] (wr := [(a0, .inr (11, [.ref a1, .int 0, .int 0, .ref a2, .ref a3, .ref a4, .ref a5, .int 0, .ref a6, .ref a7, .ref a8, .int 0, .int 32, .int 0, .ref a9, .ref a10, .int 0, .int 0, .ref a11, .ref a12, .ref a13, .ref a14, .ref a15, .ref a16])), (a1, .inl (cyI, 2490, .inl (yz 0 0)))]) (va_runS (As := [.long (0 : Int32).toInt64, .long (1 : Int32).toInt64, .long (0 : Int32).toInt64]) (rest := []) ⟨hx, hb, hml, hown, hts⟩ (r_inE l dC dI cyI cyZ cyO s.heap.size 0 1 0 (by decide)) (va_cwS 3 hts gX11_seen_X11_in rfl rfl rfl (by decide +kernel) ⟨Nat.le_of_ble_eq_true rfl, Nat.le_of_ble_eq_true rfl⟩) (yPreS hK hPc hDc) rfl rfl hl.1 rfl (lv_room (Nat.le_of_ble_eq_true rfl)) dX11_seen_29 ⟨Nat.le_of_ble_eq_true rfl, Nat.le_of_ble_eq_true rfl⟩) hP hD hS hA rfl rfl (by decide) (by decide) (fun r_2 u_1 H locs hw hP hD hS => ?_)
  have hP : va_P (dC, dI) vwCl [(a0, .inr (11, [.ref a1, .int 0, .int 0, .ref a2, .ref a3, .ref a4, .ref a5, .int 0, .ref a6, .ref a7, .ref a8, .int 0, .int 32, .int 0, .ref a9, .ref a10, .int 0, .int 0, .ref a11, .ref a12, .ref a13, .ref a14, .ref a15, .ref a16])), (a1, .inl (cyI, 2490, .inl (yz 0 0)))] H := hP
  have hD : va_D A [(a0, .inr (11, [.ref a1, .int 0, .int 0, .ref a2, .ref a3, .ref a4, .ref a5, .int 0, .ref a6, .ref a7, .ref a8, .int 0, .int 32, .int 0, .ref a9, .ref a10, .int 0, .int 0, .ref a11, .ref a12, .ref a13, .ref a14, .ref a15, .ref a16])), (a1, .inl (cyI, 2490, .inl (yz 0 0)))] := hD
  refine W.widen (k := 0) (n := 0) (Nat.le_of_ble_eq_true rfl) (Nat.le_of_ble_eq_true rfl) ?_
  have hw : r_2 = 0 := hw
  subst hw
  refine lv_istore_n (lv' := [(2, .int 0), (0, .ref a0), (1, .int 9)]) hx hb dX11_seen_32 rfl hl (by decide) rfl (fun ls hl => ?_)
  refine lv_iload_n hx hb dX11_seen_33 rfl (lv_at hl 0 rfl) ?_
  refine lv_if_eq (tgt := 56) hx hb dX11_seen_34 (by decide) (fun _ => ?_) (fun c => absurd (by decide) c)
  refine lv_aload_n hx hb dX11_seen_56 rfl (lv_at hl 1 rfl) ?_
  refine va_get (D := (dC, dI)) (ci := 11) (v := .ref a1) (C := RX11) (T := TX11) (N := 24) hx hb hts hnX11 hown hK hP 0 rfl rfl 0 (by decide) hf7 (fun _ h9 => h9) rfl dX11_seen_57 ?_
  refine lv_iload_n hx hb dX11_seen_60 rfl (lv_at hl 2 rfl) ?_
  refine yy_iald (v := 0) hx hb hK hP 1 0 rfl rfl (yin (by decide)) dX11_seen_61 rfl ?_
  refine W.widen (k := 0) (n := 0) (Nat.le_of_ble_eq_true rfl) (Nat.le_of_ble_eq_true rfl) ?_
  exact yy_iret (v := 0) () hx hb hr hlk rfl hsz hAe hK hP hD hS [0, 1] rfl rfl (by decide) (rfl) dX11_seen_62
set_option maxHeartbeats 4000000 in
set_option maxRecDepth 100000 in
theorem r0_X11_seen_90 (l : Launch) (dC : Nat → ClassId) (dI : Nat → Nat → Nat) (cyI cyZ cyO : ClassId) (sz : Nat) (a0 : Nat) (a1 : Nat) (a2 : Nat) (a3 : Nat) (a4 : Nat) (a5 : Nat) (a6 : Nat) (a7 : Nat) (a8 : Nat) (a9 : Nat) (a10 : Nat) (a11 : Nat) (a12 : Nat) (a13 : Nat) (a14 : Nat) (a15 : Nat) (a16 : Nat)  : Met l yX11_seen wsX11_seen ({ frames := 1, cells := 0, slots := 0, locals := 25 }) (yPre [.ref a0, .int 10] (dC, dI) [(a0, .inr (11, [.ref a1, .int 0, .int 0, .ref a2, .ref a3, .ref a4, .ref a5, .int 0, .ref a6, .ref a7, .ref a8, .int 0, .int 32, .int 0, .ref a9, .ref a10, .int 0, .int 0, .ref a11, .ref a12, .ref a13, .ref a14, .ref a15, .ref a16])), (a1, .inl (cyI, 2490, .inl (yz 0 0)))] (yT cyI cyZ cyO) sz) (yQi (fun (r : Int32) (u : Unit) => r = 0) (dC, dI) [(a0, .inr (11, [.ref a1, .int 0, .int 0, .ref a2, .ref a3, .ref a4, .ref a5, .int 0, .ref a6, .ref a7, .ref a8, .int 0, .int 32, .int 0, .ref a9, .ref a10, .int 0, .int 0, .ref a11, .ref a12, .ref a13, .ref a14, .ref a15, .ref a16])), (a1, .inl (cyI, 2490, .inl (yz 0 0)))] (yT cyI cyZ cyO) sz (fun _ => [(a0, .inr (11, [.ref a1, .int 0, .int 0, .ref a2, .ref a3, .ref a4, .ref a5, .int 0, .ref a6, .ref a7, .ref a8, .int 0, .int 32, .int 0, .ref a9, .ref a10, .int 0, .int 0, .ref a11, .ref a12, .ref a13, .ref a14, .ref a15, .ref a16])), (a1, .inl (cyI, 2490, .inl (yz 0 0)))])) 0 0 (va_A [(a0, .inr (11, [.ref a1, .int 0, .int 0, .ref a2, .ref a3, .ref a4, .ref a5, .int 0, .ref a6, .ref a7, .ref a8, .int 0, .int 32, .int 0, .ref a9, .ref a10, .int 0, .int 0, .ref a11, .ref a12, .ref a13, .ref a14, .ref a15, .ref a16])), (a1, .inl (cyI, 2490, .inl (yz 0 0)))] sz) := by
  refine yMet (cc := cX11_seen) (maxL := 3) (ret := (some .int)) (by decide) rfl (Nat.le_of_ble_eq_true rfl) ?_
  intro p e s m below meth c A hx hb hr hlk hml hts hown hnm hsz hAe hP hK hD hA hS ls hl
  have hl : lv_has ls 3 [(0, .ref a0), (1, .int 10)] := hl
  have hf7 := hts (.fieldLink RX11 7 "BusBridgeModel" "z" "[I") (by decide +kernel)
  have hnX11 : ∀ w ∈ wsX110, w ∈ wsX11_seen := by decide +kernel
  refine lv_aload_n hx hb dX11_seen_0 rfl (lv_at hl 0 rfl) ?_
  refine va_get (D := (dC, dI)) (ci := 11) (v := .ref a1) (C := RX11) (T := TX11) (N := 24) hx hb hts hnX11 hown hK hP 0 rfl rfl 0 (by decide) hf7 (fun _ h9 => h9) rfl dX11_seen_1 ?_
  refine lv_sipush (v := 179) hx hb dX11_seen_4 (by decide) ?_
  refine yy_iald (v := 0) hx hb hK hP 1 0 rfl rfl (yin (by decide)) dX11_seen_7 rfl ?_
  refine lv_i2l hx hb dX11_seen_8 rfl ?_
  refine lv_aload_n hx hb dX11_seen_9 rfl (lv_at hl 0 rfl) ?_
  refine va_get (D := (dC, dI)) (ci := 11) (v := .ref a1) (C := RX11) (T := TX11) (N := 24) hx hb hts hnX11 hown hK hP 0 rfl rfl 0 (by decide) hf7 (fun _ h9 => h9) rfl dX11_seen_10 ?_
  refine lv_bipush (v := 45) hx hb dX11_seen_13 (by decide) ?_
  refine lv_iload_n hx hb dX11_seen_15 rfl (lv_at hl 1 rfl) ?_
  refine lv_iadd hx hb dX11_seen_16 ?_
  refine yy_int (v := 55) (by decide) ?_
  refine yy_iald (v := 1) hx hb hK hP 1 0 rfl rfl (yin (by decide)) dX11_seen_17 rfl ?_
  refine lv_i2l hx hb dX11_seen_18 rfl ?_
  refine lv_aload_n hx hb dX11_seen_19 rfl (lv_at hl 0 rfl) ?_
  refine va_get (D := (dC, dI)) (ci := 11) (v := .ref a1) (C := RX11) (T := TX11) (N := 24) hx hb hts hnX11 hown hK hP 0 rfl rfl 0 (by decide) hf7 (fun _ h9 => h9) rfl dX11_seen_20 ?_
  refine lv_bipush (v := 60) hx hb dX11_seen_23 (by decide) ?_
  refine lv_iload_n hx hb dX11_seen_25 rfl (lv_at hl 1 rfl) ?_
  refine lv_iadd hx hb dX11_seen_26 ?_
  refine yy_int (v := 70) (by decide) ?_
  refine yy_iald (v := 0) hx hb hK hP 1 0 rfl rfl (yin (by decide)) dX11_seen_27 rfl ?_
  refine lv_i2l hx hb dX11_seen_28 rfl ?_
  have hPc := hP.sub (ws' := []) [] rfl
  have hDc := hD.sub (ws' := []) [] (by decide) rfl
  refine yy_calli [] [0, 1] (wr := [(a0, .inr (11, [.ref a1, .int 0, .int 0, .ref a2, .ref a3, .ref a4, .ref a5, .int 0, .ref a6, .ref a7, .ref a8, .int 0, .int 32, .int 0, .ref a9, .ref a10, .int 0, .int 0, .ref a11, .ref a12, .ref a13, .ref a14, .ref a15, .ref a16])), (a1, .inl (cyI, 2490, .inl (yz 0 0)))]) (va_runS (As := [.long (0 : Int32).toInt64, .long (1 : Int32).toInt64, .long (0 : Int32).toInt64]) (rest := []) ⟨hx, hb, hml, hown, hts⟩ (r_inE l dC dI cyI cyZ cyO s.heap.size 0 1 0 (by decide)) (va_cwS 3 hts gX11_seen_X11_in rfl rfl rfl (by decide +kernel) ⟨Nat.le_of_ble_eq_true rfl, Nat.le_of_ble_eq_true rfl⟩) (yPreS hK hPc hDc) rfl rfl hl.1 rfl (lv_room (Nat.le_of_ble_eq_true rfl)) dX11_seen_29 ⟨Nat.le_of_ble_eq_true rfl, Nat.le_of_ble_eq_true rfl⟩) hP hD hS hA rfl rfl (by decide) (by decide) (fun r_2 u_1 H locs hw hP hD hS => ?_)
  have hP : va_P (dC, dI) vwCl [(a0, .inr (11, [.ref a1, .int 0, .int 0, .ref a2, .ref a3, .ref a4, .ref a5, .int 0, .ref a6, .ref a7, .ref a8, .int 0, .int 32, .int 0, .ref a9, .ref a10, .int 0, .int 0, .ref a11, .ref a12, .ref a13, .ref a14, .ref a15, .ref a16])), (a1, .inl (cyI, 2490, .inl (yz 0 0)))] H := hP
  have hD : va_D A [(a0, .inr (11, [.ref a1, .int 0, .int 0, .ref a2, .ref a3, .ref a4, .ref a5, .int 0, .ref a6, .ref a7, .ref a8, .int 0, .int 32, .int 0, .ref a9, .ref a10, .int 0, .int 0, .ref a11, .ref a12, .ref a13, .ref a14, .ref a15, .ref a16])), (a1, .inl (cyI, 2490, .inl (yz 0 0)))] := hD
  refine W.widen (k := 0) (n := 0) (Nat.le_of_ble_eq_true rfl) (Nat.le_of_ble_eq_true rfl) ?_
  have hw : r_2 = 0 := hw
  subst hw
  refine lv_istore_n (lv' := [(2, .int 0), (0, .ref a0), (1, .int 10)]) hx hb dX11_seen_32 rfl hl (by decide) rfl (fun ls hl => ?_)
  refine lv_iload_n hx hb dX11_seen_33 rfl (lv_at hl 0 rfl) ?_
  refine lv_if_eq (tgt := 56) hx hb dX11_seen_34 (by decide) (fun _ => ?_) (fun c => absurd (by decide) c)
  refine lv_aload_n hx hb dX11_seen_56 rfl (lv_at hl 1 rfl) ?_
  refine va_get (D := (dC, dI)) (ci := 11) (v := .ref a1) (C := RX11) (T := TX11) (N := 24) hx hb hts hnX11 hown hK hP 0 rfl rfl 0 (by decide) hf7 (fun _ h9 => h9) rfl dX11_seen_57 ?_
  refine lv_iload_n hx hb dX11_seen_60 rfl (lv_at hl 2 rfl) ?_
  refine yy_iald (v := 0) hx hb hK hP 1 0 rfl rfl (yin (by decide)) dX11_seen_61 rfl ?_
  refine W.widen (k := 0) (n := 0) (Nat.le_of_ble_eq_true rfl) (Nat.le_of_ble_eq_true rfl) ?_
  exact yy_iret (v := 0) () hx hb hr hlk rfl hsz hAe hK hP hD hS [0, 1] rfl rfl (by decide) (rfl) dX11_seen_62
set_option maxHeartbeats 4000000 in
set_option maxRecDepth 100000 in
theorem r0_X11_seen_91 (l : Launch) (dC : Nat → ClassId) (dI : Nat → Nat → Nat) (cyI cyZ cyO : ClassId) (sz : Nat) (a0 : Nat) (a1 : Nat) (a2 : Nat) (a3 : Nat) (a4 : Nat) (a5 : Nat) (a6 : Nat) (a7 : Nat) (a8 : Nat) (a9 : Nat) (a10 : Nat) (a11 : Nat) (a12 : Nat) (a13 : Nat) (a14 : Nat) (a15 : Nat) (a16 : Nat)  : Met l yX11_seen wsX11_seen ({ frames := 1, cells := 0, slots := 0, locals := 25 }) (yPre [.ref a0, .int 11] (dC, dI) [(a0, .inr (11, [.ref a1, .int 0, .int 0, .ref a2, .ref a3, .ref a4, .ref a5, .int 0, .ref a6, .ref a7, .ref a8, .int 0, .int 32, .int 0, .ref a9, .ref a10, .int 0, .int 0, .ref a11, .ref a12, .ref a13, .ref a14, .ref a15, .ref a16])), (a1, .inl (cyI, 2490, .inl (yz 0 0)))] (yT cyI cyZ cyO) sz) (yQi (fun (r : Int32) (u : Unit) => r = 0) (dC, dI) [(a0, .inr (11, [.ref a1, .int 0, .int 0, .ref a2, .ref a3, .ref a4, .ref a5, .int 0, .ref a6, .ref a7, .ref a8, .int 0, .int 32, .int 0, .ref a9, .ref a10, .int 0, .int 0, .ref a11, .ref a12, .ref a13, .ref a14, .ref a15, .ref a16])), (a1, .inl (cyI, 2490, .inl (yz 0 0)))] (yT cyI cyZ cyO) sz (fun _ => [(a0, .inr (11, [.ref a1, .int 0, .int 0, .ref a2, .ref a3, .ref a4, .ref a5, .int 0, .ref a6, .ref a7, .ref a8, .int 0, .int 32, .int 0, .ref a9, .ref a10, .int 0, .int 0, .ref a11, .ref a12, .ref a13, .ref a14, .ref a15, .ref a16])), (a1, .inl (cyI, 2490, .inl (yz 0 0)))])) 0 0 (va_A [(a0, .inr (11, [.ref a1, .int 0, .int 0, .ref a2, .ref a3, .ref a4, .ref a5, .int 0, .ref a6, .ref a7, .ref a8, .int 0, .int 32, .int 0, .ref a9, .ref a10, .int 0, .int 0, .ref a11, .ref a12, .ref a13, .ref a14, .ref a15, .ref a16])), (a1, .inl (cyI, 2490, .inl (yz 0 0)))] sz) := by
  refine yMet (cc := cX11_seen) (maxL := 3) (ret := (some .int)) (by decide) rfl (Nat.le_of_ble_eq_true rfl) ?_
  intro p e s m below meth c A hx hb hr hlk hml hts hown hnm hsz hAe hP hK hD hA hS ls hl
  have hl : lv_has ls 3 [(0, .ref a0), (1, .int 11)] := hl
  have hf7 := hts (.fieldLink RX11 7 "BusBridgeModel" "z" "[I") (by decide +kernel)
  have hnX11 : ∀ w ∈ wsX110, w ∈ wsX11_seen := by decide +kernel
  refine lv_aload_n hx hb dX11_seen_0 rfl (lv_at hl 0 rfl) ?_
  refine va_get (D := (dC, dI)) (ci := 11) (v := .ref a1) (C := RX11) (T := TX11) (N := 24) hx hb hts hnX11 hown hK hP 0 rfl rfl 0 (by decide) hf7 (fun _ h9 => h9) rfl dX11_seen_1 ?_
  refine lv_sipush (v := 179) hx hb dX11_seen_4 (by decide) ?_
  refine yy_iald (v := 0) hx hb hK hP 1 0 rfl rfl (yin (by decide)) dX11_seen_7 rfl ?_
  refine lv_i2l hx hb dX11_seen_8 rfl ?_
  refine lv_aload_n hx hb dX11_seen_9 rfl (lv_at hl 0 rfl) ?_
  refine va_get (D := (dC, dI)) (ci := 11) (v := .ref a1) (C := RX11) (T := TX11) (N := 24) hx hb hts hnX11 hown hK hP 0 rfl rfl 0 (by decide) hf7 (fun _ h9 => h9) rfl dX11_seen_10 ?_
  refine lv_bipush (v := 45) hx hb dX11_seen_13 (by decide) ?_
  refine lv_iload_n hx hb dX11_seen_15 rfl (lv_at hl 1 rfl) ?_
  refine lv_iadd hx hb dX11_seen_16 ?_
  refine yy_int (v := 56) (by decide) ?_
  refine yy_iald (v := 1) hx hb hK hP 1 0 rfl rfl (yin (by decide)) dX11_seen_17 rfl ?_
  refine lv_i2l hx hb dX11_seen_18 rfl ?_
  refine lv_aload_n hx hb dX11_seen_19 rfl (lv_at hl 0 rfl) ?_
  refine va_get (D := (dC, dI)) (ci := 11) (v := .ref a1) (C := RX11) (T := TX11) (N := 24) hx hb hts hnX11 hown hK hP 0 rfl rfl 0 (by decide) hf7 (fun _ h9 => h9) rfl dX11_seen_20 ?_
  refine lv_bipush (v := 60) hx hb dX11_seen_23 (by decide) ?_
  refine lv_iload_n hx hb dX11_seen_25 rfl (lv_at hl 1 rfl) ?_
  refine lv_iadd hx hb dX11_seen_26 ?_
  refine yy_int (v := 71) (by decide) ?_
  refine yy_iald (v := 0) hx hb hK hP 1 0 rfl rfl (yin (by decide)) dX11_seen_27 rfl ?_
  refine lv_i2l hx hb dX11_seen_28 rfl ?_
  have hPc := hP.sub (ws' := []) [] rfl
  have hDc := hD.sub (ws' := []) [] (by decide) rfl
  refine yy_calli [] [0, 1] (wr := [(a0, .inr (11, [.ref a1, .int 0, .int 0, .ref a2, .ref a3, .ref a4, .ref a5, .int 0, .ref a6, .ref a7, .ref a8, .int 0, .int 32, .int 0, .ref a9, .ref a10, .int 0, .int 0, .ref a11, .ref a12, .ref a13, .ref a14, .ref a15, .ref a16])), (a1, .inl (cyI, 2490, .inl (yz 0 0)))]) (va_runS (As := [.long (0 : Int32).toInt64, .long (1 : Int32).toInt64, .long (0 : Int32).toInt64]) (rest := []) ⟨hx, hb, hml, hown, hts⟩ (r_inE l dC dI cyI cyZ cyO s.heap.size 0 1 0 (by decide)) (va_cwS 3 hts gX11_seen_X11_in rfl rfl rfl (by decide +kernel) ⟨Nat.le_of_ble_eq_true rfl, Nat.le_of_ble_eq_true rfl⟩) (yPreS hK hPc hDc) rfl rfl hl.1 rfl (lv_room (Nat.le_of_ble_eq_true rfl)) dX11_seen_29 ⟨Nat.le_of_ble_eq_true rfl, Nat.le_of_ble_eq_true rfl⟩) hP hD hS hA rfl rfl (by decide) (by decide) (fun r_2 u_1 H locs hw hP hD hS => ?_)
  have hP : va_P (dC, dI) vwCl [(a0, .inr (11, [.ref a1, .int 0, .int 0, .ref a2, .ref a3, .ref a4, .ref a5, .int 0, .ref a6, .ref a7, .ref a8, .int 0, .int 32, .int 0, .ref a9, .ref a10, .int 0, .int 0, .ref a11, .ref a12, .ref a13, .ref a14, .ref a15, .ref a16])), (a1, .inl (cyI, 2490, .inl (yz 0 0)))] H := hP
  have hD : va_D A [(a0, .inr (11, [.ref a1, .int 0, .int 0, .ref a2, .ref a3, .ref a4, .ref a5, .int 0, .ref a6, .ref a7, .ref a8, .int 0, .int 32, .int 0, .ref a9, .ref a10, .int 0, .int 0, .ref a11, .ref a12, .ref a13, .ref a14, .ref a15, .ref a16])), (a1, .inl (cyI, 2490, .inl (yz 0 0)))] := hD
  refine W.widen (k := 0) (n := 0) (Nat.le_of_ble_eq_true rfl) (Nat.le_of_ble_eq_true rfl) ?_
  have hw : r_2 = 0 := hw
  subst hw
  refine lv_istore_n (lv' := [(2, .int 0), (0, .ref a0), (1, .int 11)]) hx hb dX11_seen_32 rfl hl (by decide) rfl (fun ls hl => ?_)
  refine lv_iload_n hx hb dX11_seen_33 rfl (lv_at hl 0 rfl) ?_
  refine lv_if_eq (tgt := 56) hx hb dX11_seen_34 (by decide) (fun _ => ?_) (fun c => absurd (by decide) c)
  refine lv_aload_n hx hb dX11_seen_56 rfl (lv_at hl 1 rfl) ?_
  refine va_get (D := (dC, dI)) (ci := 11) (v := .ref a1) (C := RX11) (T := TX11) (N := 24) hx hb hts hnX11 hown hK hP 0 rfl rfl 0 (by decide) hf7 (fun _ h9 => h9) rfl dX11_seen_57 ?_
  refine lv_iload_n hx hb dX11_seen_60 rfl (lv_at hl 2 rfl) ?_
  refine yy_iald (v := 0) hx hb hK hP 1 0 rfl rfl (yin (by decide)) dX11_seen_61 rfl ?_
  refine W.widen (k := 0) (n := 0) (Nat.le_of_ble_eq_true rfl) (Nat.le_of_ble_eq_true rfl) ?_
  exact yy_iret (v := 0) () hx hb hr hlk rfl hsz hAe hK hP hD hS [0, 1] rfl rfl (by decide) (rfl) dX11_seen_62
set_option maxHeartbeats 4000000 in
set_option maxRecDepth 100000 in
theorem r0_X11_seen_92 (l : Launch) (dC : Nat → ClassId) (dI : Nat → Nat → Nat) (cyI cyZ cyO : ClassId) (sz : Nat) (a0 : Nat) (a1 : Nat) (a2 : Nat) (a3 : Nat) (a4 : Nat) (a5 : Nat) (a6 : Nat) (a7 : Nat) (a8 : Nat) (a9 : Nat) (a10 : Nat) (a11 : Nat) (a12 : Nat) (a13 : Nat) (a14 : Nat) (a15 : Nat) (a16 : Nat)  : Met l yX11_seen wsX11_seen ({ frames := 1, cells := 0, slots := 0, locals := 25 }) (yPre [.ref a0, .int 12] (dC, dI) [(a0, .inr (11, [.ref a1, .int 0, .int 0, .ref a2, .ref a3, .ref a4, .ref a5, .int 0, .ref a6, .ref a7, .ref a8, .int 0, .int 32, .int 0, .ref a9, .ref a10, .int 0, .int 0, .ref a11, .ref a12, .ref a13, .ref a14, .ref a15, .ref a16])), (a1, .inl (cyI, 2490, .inl (yz 0 0)))] (yT cyI cyZ cyO) sz) (yQi (fun (r : Int32) (u : Unit) => r = 0) (dC, dI) [(a0, .inr (11, [.ref a1, .int 0, .int 0, .ref a2, .ref a3, .ref a4, .ref a5, .int 0, .ref a6, .ref a7, .ref a8, .int 0, .int 32, .int 0, .ref a9, .ref a10, .int 0, .int 0, .ref a11, .ref a12, .ref a13, .ref a14, .ref a15, .ref a16])), (a1, .inl (cyI, 2490, .inl (yz 0 0)))] (yT cyI cyZ cyO) sz (fun _ => [(a0, .inr (11, [.ref a1, .int 0, .int 0, .ref a2, .ref a3, .ref a4, .ref a5, .int 0, .ref a6, .ref a7, .ref a8, .int 0, .int 32, .int 0, .ref a9, .ref a10, .int 0, .int 0, .ref a11, .ref a12, .ref a13, .ref a14, .ref a15, .ref a16])), (a1, .inl (cyI, 2490, .inl (yz 0 0)))])) 0 0 (va_A [(a0, .inr (11, [.ref a1, .int 0, .int 0, .ref a2, .ref a3, .ref a4, .ref a5, .int 0, .ref a6, .ref a7, .ref a8, .int 0, .int 32, .int 0, .ref a9, .ref a10, .int 0, .int 0, .ref a11, .ref a12, .ref a13, .ref a14, .ref a15, .ref a16])), (a1, .inl (cyI, 2490, .inl (yz 0 0)))] sz) := by
  refine yMet (cc := cX11_seen) (maxL := 3) (ret := (some .int)) (by decide) rfl (Nat.le_of_ble_eq_true rfl) ?_
  intro p e s m below meth c A hx hb hr hlk hml hts hown hnm hsz hAe hP hK hD hA hS ls hl
  have hl : lv_has ls 3 [(0, .ref a0), (1, .int 12)] := hl
  have hf7 := hts (.fieldLink RX11 7 "BusBridgeModel" "z" "[I") (by decide +kernel)
  have hnX11 : ∀ w ∈ wsX110, w ∈ wsX11_seen := by decide +kernel
  refine lv_aload_n hx hb dX11_seen_0 rfl (lv_at hl 0 rfl) ?_
  refine va_get (D := (dC, dI)) (ci := 11) (v := .ref a1) (C := RX11) (T := TX11) (N := 24) hx hb hts hnX11 hown hK hP 0 rfl rfl 0 (by decide) hf7 (fun _ h9 => h9) rfl dX11_seen_1 ?_
  refine lv_sipush (v := 179) hx hb dX11_seen_4 (by decide) ?_
  refine yy_iald (v := 0) hx hb hK hP 1 0 rfl rfl (yin (by decide)) dX11_seen_7 rfl ?_
  refine lv_i2l hx hb dX11_seen_8 rfl ?_
  refine lv_aload_n hx hb dX11_seen_9 rfl (lv_at hl 0 rfl) ?_
  refine va_get (D := (dC, dI)) (ci := 11) (v := .ref a1) (C := RX11) (T := TX11) (N := 24) hx hb hts hnX11 hown hK hP 0 rfl rfl 0 (by decide) hf7 (fun _ h9 => h9) rfl dX11_seen_10 ?_
  refine lv_bipush (v := 45) hx hb dX11_seen_13 (by decide) ?_
  refine lv_iload_n hx hb dX11_seen_15 rfl (lv_at hl 1 rfl) ?_
  refine lv_iadd hx hb dX11_seen_16 ?_
  refine yy_int (v := 57) (by decide) ?_
  refine yy_iald (v := 1) hx hb hK hP 1 0 rfl rfl (yin (by decide)) dX11_seen_17 rfl ?_
  refine lv_i2l hx hb dX11_seen_18 rfl ?_
  refine lv_aload_n hx hb dX11_seen_19 rfl (lv_at hl 0 rfl) ?_
  refine va_get (D := (dC, dI)) (ci := 11) (v := .ref a1) (C := RX11) (T := TX11) (N := 24) hx hb hts hnX11 hown hK hP 0 rfl rfl 0 (by decide) hf7 (fun _ h9 => h9) rfl dX11_seen_20 ?_
  refine lv_bipush (v := 60) hx hb dX11_seen_23 (by decide) ?_
  refine lv_iload_n hx hb dX11_seen_25 rfl (lv_at hl 1 rfl) ?_
  refine lv_iadd hx hb dX11_seen_26 ?_
  refine yy_int (v := 72) (by decide) ?_
  refine yy_iald (v := 0) hx hb hK hP 1 0 rfl rfl (yin (by decide)) dX11_seen_27 rfl ?_
  refine lv_i2l hx hb dX11_seen_28 rfl ?_
  have hPc := hP.sub (ws' := []) [] rfl
  have hDc := hD.sub (ws' := []) [] (by decide) rfl
  refine yy_calli [] [0, 1] (wr := [(a0, .inr (11, [.ref a1, .int 0, .int 0, .ref a2, .ref a3, .ref a4, .ref a5, .int 0, .ref a6, .ref a7, .ref a8, .int 0, .int 32, .int 0, .ref a9, .ref a10, .int 0, .int 0, .ref a11, .ref a12, .ref a13, .ref a14, .ref a15, .ref a16])), (a1, .inl (cyI, 2490, .inl (yz 0 0)))]) (va_runS (As := [.long (0 : Int32).toInt64, .long (1 : Int32).toInt64, .long (0 : Int32).toInt64]) (rest := []) ⟨hx, hb, hml, hown, hts⟩ (r_inE l dC dI cyI cyZ cyO s.heap.size 0 1 0 (by decide)) (va_cwS 3 hts gX11_seen_X11_in rfl rfl rfl (by decide +kernel) ⟨Nat.le_of_ble_eq_true rfl, Nat.le_of_ble_eq_true rfl⟩) (yPreS hK hPc hDc) rfl rfl hl.1 rfl (lv_room (Nat.le_of_ble_eq_true rfl)) dX11_seen_29 ⟨Nat.le_of_ble_eq_true rfl, Nat.le_of_ble_eq_true rfl⟩) hP hD hS hA rfl rfl (by decide) (by decide) (fun r_2 u_1 H locs hw hP hD hS => ?_)
  have hP : va_P (dC, dI) vwCl [(a0, .inr (11, [.ref a1, .int 0, .int 0, .ref a2, .ref a3, .ref a4, .ref a5, .int 0, .ref a6, .ref a7, .ref a8, .int 0, .int 32, .int 0, .ref a9, .ref a10, .int 0, .int 0, .ref a11, .ref a12, .ref a13, .ref a14, .ref a15, .ref a16])), (a1, .inl (cyI, 2490, .inl (yz 0 0)))] H := hP
  have hD : va_D A [(a0, .inr (11, [.ref a1, .int 0, .int 0, .ref a2, .ref a3, .ref a4, .ref a5, .int 0, .ref a6, .ref a7, .ref a8, .int 0, .int 32, .int 0, .ref a9, .ref a10, .int 0, .int 0, .ref a11, .ref a12, .ref a13, .ref a14, .ref a15, .ref a16])), (a1, .inl (cyI, 2490, .inl (yz 0 0)))] := hD
  refine W.widen (k := 0) (n := 0) (Nat.le_of_ble_eq_true rfl) (Nat.le_of_ble_eq_true rfl) ?_
  have hw : r_2 = 0 := hw
  subst hw
  refine lv_istore_n (lv' := [(2, .int 0), (0, .ref a0), (1, .int 12)]) hx hb dX11_seen_32 rfl hl (by decide) rfl (fun ls hl => ?_)
  refine lv_iload_n hx hb dX11_seen_33 rfl (lv_at hl 0 rfl) ?_
  refine lv_if_eq (tgt := 56) hx hb dX11_seen_34 (by decide) (fun _ => ?_) (fun c => absurd (by decide) c)
  refine lv_aload_n hx hb dX11_seen_56 rfl (lv_at hl 1 rfl) ?_
  refine va_get (D := (dC, dI)) (ci := 11) (v := .ref a1) (C := RX11) (T := TX11) (N := 24) hx hb hts hnX11 hown hK hP 0 rfl rfl 0 (by decide) hf7 (fun _ h9 => h9) rfl dX11_seen_57 ?_
  refine lv_iload_n hx hb dX11_seen_60 rfl (lv_at hl 2 rfl) ?_
  refine yy_iald (v := 0) hx hb hK hP 1 0 rfl rfl (yin (by decide)) dX11_seen_61 rfl ?_
  refine W.widen (k := 0) (n := 0) (Nat.le_of_ble_eq_true rfl) (Nat.le_of_ble_eq_true rfl) ?_
  exact yy_iret (v := 0) () hx hb hr hlk rfl hsz hAe hK hP hD hS [0, 1] rfl rfl (by decide) (rfl) dX11_seen_62
set_option maxHeartbeats 4000000 in
set_option maxRecDepth 100000 in
theorem r0_X11_seen_93 (l : Launch) (dC : Nat → ClassId) (dI : Nat → Nat → Nat) (cyI cyZ cyO : ClassId) (sz : Nat) (a0 : Nat) (a1 : Nat) (a2 : Nat) (a3 : Nat) (a4 : Nat) (a5 : Nat) (a6 : Nat) (a7 : Nat) (a8 : Nat) (a9 : Nat) (a10 : Nat) (a11 : Nat) (a12 : Nat) (a13 : Nat) (a14 : Nat) (a15 : Nat) (a16 : Nat)  : Met l yX11_seen wsX11_seen ({ frames := 1, cells := 0, slots := 0, locals := 25 }) (yPre [.ref a0, .int 13] (dC, dI) [(a0, .inr (11, [.ref a1, .int 0, .int 0, .ref a2, .ref a3, .ref a4, .ref a5, .int 0, .ref a6, .ref a7, .ref a8, .int 0, .int 32, .int 0, .ref a9, .ref a10, .int 0, .int 0, .ref a11, .ref a12, .ref a13, .ref a14, .ref a15, .ref a16])), (a1, .inl (cyI, 2490, .inl (yz 0 0)))] (yT cyI cyZ cyO) sz) (yQi (fun (r : Int32) (u : Unit) => r = 0) (dC, dI) [(a0, .inr (11, [.ref a1, .int 0, .int 0, .ref a2, .ref a3, .ref a4, .ref a5, .int 0, .ref a6, .ref a7, .ref a8, .int 0, .int 32, .int 0, .ref a9, .ref a10, .int 0, .int 0, .ref a11, .ref a12, .ref a13, .ref a14, .ref a15, .ref a16])), (a1, .inl (cyI, 2490, .inl (yz 0 0)))] (yT cyI cyZ cyO) sz (fun _ => [(a0, .inr (11, [.ref a1, .int 0, .int 0, .ref a2, .ref a3, .ref a4, .ref a5, .int 0, .ref a6, .ref a7, .ref a8, .int 0, .int 32, .int 0, .ref a9, .ref a10, .int 0, .int 0, .ref a11, .ref a12, .ref a13, .ref a14, .ref a15, .ref a16])), (a1, .inl (cyI, 2490, .inl (yz 0 0)))])) 0 0 (va_A [(a0, .inr (11, [.ref a1, .int 0, .int 0, .ref a2, .ref a3, .ref a4, .ref a5, .int 0, .ref a6, .ref a7, .ref a8, .int 0, .int 32, .int 0, .ref a9, .ref a10, .int 0, .int 0, .ref a11, .ref a12, .ref a13, .ref a14, .ref a15, .ref a16])), (a1, .inl (cyI, 2490, .inl (yz 0 0)))] sz) := by
  refine yMet (cc := cX11_seen) (maxL := 3) (ret := (some .int)) (by decide) rfl (Nat.le_of_ble_eq_true rfl) ?_
  intro p e s m below meth c A hx hb hr hlk hml hts hown hnm hsz hAe hP hK hD hA hS ls hl
  have hl : lv_has ls 3 [(0, .ref a0), (1, .int 13)] := hl
  have hf7 := hts (.fieldLink RX11 7 "BusBridgeModel" "z" "[I") (by decide +kernel)
  have hnX11 : ∀ w ∈ wsX110, w ∈ wsX11_seen := by decide +kernel
  refine lv_aload_n hx hb dX11_seen_0 rfl (lv_at hl 0 rfl) ?_
  refine va_get (D := (dC, dI)) (ci := 11) (v := .ref a1) (C := RX11) (T := TX11) (N := 24) hx hb hts hnX11 hown hK hP 0 rfl rfl 0 (by decide) hf7 (fun _ h9 => h9) rfl dX11_seen_1 ?_
  refine lv_sipush (v := 179) hx hb dX11_seen_4 (by decide) ?_
  refine yy_iald (v := 0) hx hb hK hP 1 0 rfl rfl (yin (by decide)) dX11_seen_7 rfl ?_
  refine lv_i2l hx hb dX11_seen_8 rfl ?_
  refine lv_aload_n hx hb dX11_seen_9 rfl (lv_at hl 0 rfl) ?_
  refine va_get (D := (dC, dI)) (ci := 11) (v := .ref a1) (C := RX11) (T := TX11) (N := 24) hx hb hts hnX11 hown hK hP 0 rfl rfl 0 (by decide) hf7 (fun _ h9 => h9) rfl dX11_seen_10 ?_
  refine lv_bipush (v := 45) hx hb dX11_seen_13 (by decide) ?_
  refine lv_iload_n hx hb dX11_seen_15 rfl (lv_at hl 1 rfl) ?_
  refine lv_iadd hx hb dX11_seen_16 ?_
  refine yy_int (v := 58) (by decide) ?_
  refine yy_iald (v := 1) hx hb hK hP 1 0 rfl rfl (yin (by decide)) dX11_seen_17 rfl ?_
  refine lv_i2l hx hb dX11_seen_18 rfl ?_
  refine lv_aload_n hx hb dX11_seen_19 rfl (lv_at hl 0 rfl) ?_
  refine va_get (D := (dC, dI)) (ci := 11) (v := .ref a1) (C := RX11) (T := TX11) (N := 24) hx hb hts hnX11 hown hK hP 0 rfl rfl 0 (by decide) hf7 (fun _ h9 => h9) rfl dX11_seen_20 ?_
  refine lv_bipush (v := 60) hx hb dX11_seen_23 (by decide) ?_
  refine lv_iload_n hx hb dX11_seen_25 rfl (lv_at hl 1 rfl) ?_
  refine lv_iadd hx hb dX11_seen_26 ?_
  refine yy_int (v := 73) (by decide) ?_
  refine yy_iald (v := 0) hx hb hK hP 1 0 rfl rfl (yin (by decide)) dX11_seen_27 rfl ?_
  refine lv_i2l hx hb dX11_seen_28 rfl ?_
  have hPc := hP.sub (ws' := []) [] rfl
  have hDc := hD.sub (ws' := []) [] (by decide) rfl
  refine yy_calli [] [0, 1] (wr := [(a0, .inr (11, [.ref a1, .int 0, .int 0, .ref a2, .ref a3, .ref a4, .ref a5, .int 0, .ref a6, .ref a7, .ref a8, .int 0, .int 32, .int 0, .ref a9, .ref a10, .int 0, .int 0, .ref a11, .ref a12, .ref a13, .ref a14, .ref a15, .ref a16])), (a1, .inl (cyI, 2490, .inl (yz 0 0)))]) (va_runS (As := [.long (0 : Int32).toInt64, .long (1 : Int32).toInt64, .long (0 : Int32).toInt64]) (rest := []) ⟨hx, hb, hml, hown, hts⟩ (r_inE l dC dI cyI cyZ cyO s.heap.size 0 1 0 (by decide)) (va_cwS 3 hts gX11_seen_X11_in rfl rfl rfl (by decide +kernel) ⟨Nat.le_of_ble_eq_true rfl, Nat.le_of_ble_eq_true rfl⟩) (yPreS hK hPc hDc) rfl rfl hl.1 rfl (lv_room (Nat.le_of_ble_eq_true rfl)) dX11_seen_29 ⟨Nat.le_of_ble_eq_true rfl, Nat.le_of_ble_eq_true rfl⟩) hP hD hS hA rfl rfl (by decide) (by decide) (fun r_2 u_1 H locs hw hP hD hS => ?_)
  have hP : va_P (dC, dI) vwCl [(a0, .inr (11, [.ref a1, .int 0, .int 0, .ref a2, .ref a3, .ref a4, .ref a5, .int 0, .ref a6, .ref a7, .ref a8, .int 0, .int 32, .int 0, .ref a9, .ref a10, .int 0, .int 0, .ref a11, .ref a12, .ref a13, .ref a14, .ref a15, .ref a16])), (a1, .inl (cyI, 2490, .inl (yz 0 0)))] H := hP
  have hD : va_D A [(a0, .inr (11, [.ref a1, .int 0, .int 0, .ref a2, .ref a3, .ref a4, .ref a5, .int 0, .ref a6, .ref a7, .ref a8, .int 0, .int 32, .int 0, .ref a9, .ref a10, .int 0, .int 0, .ref a11, .ref a12, .ref a13, .ref a14, .ref a15, .ref a16])), (a1, .inl (cyI, 2490, .inl (yz 0 0)))] := hD
  refine W.widen (k := 0) (n := 0) (Nat.le_of_ble_eq_true rfl) (Nat.le_of_ble_eq_true rfl) ?_
  have hw : r_2 = 0 := hw
  subst hw
  refine lv_istore_n (lv' := [(2, .int 0), (0, .ref a0), (1, .int 13)]) hx hb dX11_seen_32 rfl hl (by decide) rfl (fun ls hl => ?_)
  refine lv_iload_n hx hb dX11_seen_33 rfl (lv_at hl 0 rfl) ?_
  refine lv_if_eq (tgt := 56) hx hb dX11_seen_34 (by decide) (fun _ => ?_) (fun c => absurd (by decide) c)
  refine lv_aload_n hx hb dX11_seen_56 rfl (lv_at hl 1 rfl) ?_
  refine va_get (D := (dC, dI)) (ci := 11) (v := .ref a1) (C := RX11) (T := TX11) (N := 24) hx hb hts hnX11 hown hK hP 0 rfl rfl 0 (by decide) hf7 (fun _ h9 => h9) rfl dX11_seen_57 ?_
  refine lv_iload_n hx hb dX11_seen_60 rfl (lv_at hl 2 rfl) ?_
  refine yy_iald (v := 0) hx hb hK hP 1 0 rfl rfl (yin (by decide)) dX11_seen_61 rfl ?_
  refine W.widen (k := 0) (n := 0) (Nat.le_of_ble_eq_true rfl) (Nat.le_of_ble_eq_true rfl) ?_
  exact yy_iret (v := 0) () hx hb hr hlk rfl hsz hAe hK hP hD hS [0, 1] rfl rfl (by decide) (rfl) dX11_seen_62
set_option maxHeartbeats 4000000 in
set_option maxRecDepth 100000 in
theorem r0_X11_seen_94 (l : Launch) (dC : Nat → ClassId) (dI : Nat → Nat → Nat) (cyI cyZ cyO : ClassId) (sz : Nat) (a0 : Nat) (a1 : Nat) (a2 : Nat) (a3 : Nat) (a4 : Nat) (a5 : Nat) (a6 : Nat) (a7 : Nat) (a8 : Nat) (a9 : Nat) (a10 : Nat) (a11 : Nat) (a12 : Nat) (a13 : Nat) (a14 : Nat) (a15 : Nat) (a16 : Nat)  : Met l yX11_seen wsX11_seen ({ frames := 1, cells := 0, slots := 0, locals := 25 }) (yPre [.ref a0, .int 14] (dC, dI) [(a0, .inr (11, [.ref a1, .int 0, .int 0, .ref a2, .ref a3, .ref a4, .ref a5, .int 0, .ref a6, .ref a7, .ref a8, .int 0, .int 32, .int 0, .ref a9, .ref a10, .int 0, .int 0, .ref a11, .ref a12, .ref a13, .ref a14, .ref a15, .ref a16])), (a1, .inl (cyI, 2490, .inl (yz 0 0)))] (yT cyI cyZ cyO) sz) (yQi (fun (r : Int32) (u : Unit) => r = 0) (dC, dI) [(a0, .inr (11, [.ref a1, .int 0, .int 0, .ref a2, .ref a3, .ref a4, .ref a5, .int 0, .ref a6, .ref a7, .ref a8, .int 0, .int 32, .int 0, .ref a9, .ref a10, .int 0, .int 0, .ref a11, .ref a12, .ref a13, .ref a14, .ref a15, .ref a16])), (a1, .inl (cyI, 2490, .inl (yz 0 0)))] (yT cyI cyZ cyO) sz (fun _ => [(a0, .inr (11, [.ref a1, .int 0, .int 0, .ref a2, .ref a3, .ref a4, .ref a5, .int 0, .ref a6, .ref a7, .ref a8, .int 0, .int 32, .int 0, .ref a9, .ref a10, .int 0, .int 0, .ref a11, .ref a12, .ref a13, .ref a14, .ref a15, .ref a16])), (a1, .inl (cyI, 2490, .inl (yz 0 0)))])) 0 0 (va_A [(a0, .inr (11, [.ref a1, .int 0, .int 0, .ref a2, .ref a3, .ref a4, .ref a5, .int 0, .ref a6, .ref a7, .ref a8, .int 0, .int 32, .int 0, .ref a9, .ref a10, .int 0, .int 0, .ref a11, .ref a12, .ref a13, .ref a14, .ref a15, .ref a16])), (a1, .inl (cyI, 2490, .inl (yz 0 0)))] sz) := by
  refine yMet (cc := cX11_seen) (maxL := 3) (ret := (some .int)) (by decide) rfl (Nat.le_of_ble_eq_true rfl) ?_
  intro p e s m below meth c A hx hb hr hlk hml hts hown hnm hsz hAe hP hK hD hA hS ls hl
  have hl : lv_has ls 3 [(0, .ref a0), (1, .int 14)] := hl
  have hf7 := hts (.fieldLink RX11 7 "BusBridgeModel" "z" "[I") (by decide +kernel)
  have hnX11 : ∀ w ∈ wsX110, w ∈ wsX11_seen := by decide +kernel
  refine lv_aload_n hx hb dX11_seen_0 rfl (lv_at hl 0 rfl) ?_
  refine va_get (D := (dC, dI)) (ci := 11) (v := .ref a1) (C := RX11) (T := TX11) (N := 24) hx hb hts hnX11 hown hK hP 0 rfl rfl 0 (by decide) hf7 (fun _ h9 => h9) rfl dX11_seen_1 ?_
  refine lv_sipush (v := 179) hx hb dX11_seen_4 (by decide) ?_
  refine yy_iald (v := 0) hx hb hK hP 1 0 rfl rfl (yin (by decide)) dX11_seen_7 rfl ?_
  refine lv_i2l hx hb dX11_seen_8 rfl ?_
  refine lv_aload_n hx hb dX11_seen_9 rfl (lv_at hl 0 rfl) ?_
  refine va_get (D := (dC, dI)) (ci := 11) (v := .ref a1) (C := RX11) (T := TX11) (N := 24) hx hb hts hnX11 hown hK hP 0 rfl rfl 0 (by decide) hf7 (fun _ h9 => h9) rfl dX11_seen_10 ?_
  refine lv_bipush (v := 45) hx hb dX11_seen_13 (by decide) ?_
  refine lv_iload_n hx hb dX11_seen_15 rfl (lv_at hl 1 rfl) ?_
  refine lv_iadd hx hb dX11_seen_16 ?_
  refine yy_int (v := 59) (by decide) ?_
  refine yy_iald (v := 1) hx hb hK hP 1 0 rfl rfl (yin (by decide)) dX11_seen_17 rfl ?_
  refine lv_i2l hx hb dX11_seen_18 rfl ?_
  refine lv_aload_n hx hb dX11_seen_19 rfl (lv_at hl 0 rfl) ?_
  refine va_get (D := (dC, dI)) (ci := 11) (v := .ref a1) (C := RX11) (T := TX11) (N := 24) hx hb hts hnX11 hown hK hP 0 rfl rfl 0 (by decide) hf7 (fun _ h9 => h9) rfl dX11_seen_20 ?_
  refine lv_bipush (v := 60) hx hb dX11_seen_23 (by decide) ?_
  refine lv_iload_n hx hb dX11_seen_25 rfl (lv_at hl 1 rfl) ?_
  refine lv_iadd hx hb dX11_seen_26 ?_
  refine yy_int (v := 74) (by decide) ?_
  refine yy_iald (v := 0) hx hb hK hP 1 0 rfl rfl (yin (by decide)) dX11_seen_27 rfl ?_
  refine lv_i2l hx hb dX11_seen_28 rfl ?_
  have hPc := hP.sub (ws' := []) [] rfl
  have hDc := hD.sub (ws' := []) [] (by decide) rfl
  refine yy_calli [] [0, 1] (wr := [(a0, .inr (11, [.ref a1, .int 0, .int 0, .ref a2, .ref a3, .ref a4, .ref a5, .int 0, .ref a6, .ref a7, .ref a8, .int 0, .int 32, .int 0, .ref a9, .ref a10, .int 0, .int 0, .ref a11, .ref a12, .ref a13, .ref a14, .ref a15, .ref a16])), (a1, .inl (cyI, 2490, .inl (yz 0 0)))]) (va_runS (As := [.long (0 : Int32).toInt64, .long (1 : Int32).toInt64, .long (0 : Int32).toInt64]) (rest := []) ⟨hx, hb, hml, hown, hts⟩ (r_inE l dC dI cyI cyZ cyO s.heap.size 0 1 0 (by decide)) (va_cwS 3 hts gX11_seen_X11_in rfl rfl rfl (by decide +kernel) ⟨Nat.le_of_ble_eq_true rfl, Nat.le_of_ble_eq_true rfl⟩) (yPreS hK hPc hDc) rfl rfl hl.1 rfl (lv_room (Nat.le_of_ble_eq_true rfl)) dX11_seen_29 ⟨Nat.le_of_ble_eq_true rfl, Nat.le_of_ble_eq_true rfl⟩) hP hD hS hA rfl rfl (by decide) (by decide) (fun r_2 u_1 H locs hw hP hD hS => ?_)
  have hP : va_P (dC, dI) vwCl [(a0, .inr (11, [.ref a1, .int 0, .int 0, .ref a2, .ref a3, .ref a4, .ref a5, .int 0, .ref a6, .ref a7, .ref a8, .int 0, .int 32, .int 0, .ref a9, .ref a10, .int 0, .int 0, .ref a11, .ref a12, .ref a13, .ref a14, .ref a15, .ref a16])), (a1, .inl (cyI, 2490, .inl (yz 0 0)))] H := hP
  have hD : va_D A [(a0, .inr (11, [.ref a1, .int 0, .int 0, .ref a2, .ref a3, .ref a4, .ref a5, .int 0, .ref a6, .ref a7, .ref a8, .int 0, .int 32, .int 0, .ref a9, .ref a10, .int 0, .int 0, .ref a11, .ref a12, .ref a13, .ref a14, .ref a15, .ref a16])), (a1, .inl (cyI, 2490, .inl (yz 0 0)))] := hD
  refine W.widen (k := 0) (n := 0) (Nat.le_of_ble_eq_true rfl) (Nat.le_of_ble_eq_true rfl) ?_
  have hw : r_2 = 0 := hw
  subst hw
  refine lv_istore_n (lv' := [(2, .int 0), (0, .ref a0), (1, .int 14)]) hx hb dX11_seen_32 rfl hl (by decide) rfl (fun ls hl => ?_)
  refine lv_iload_n hx hb dX11_seen_33 rfl (lv_at hl 0 rfl) ?_
  refine lv_if_eq (tgt := 56) hx hb dX11_seen_34 (by decide) (fun _ => ?_) (fun c => absurd (by decide) c)
  refine lv_aload_n hx hb dX11_seen_56 rfl (lv_at hl 1 rfl) ?_
  refine va_get (D := (dC, dI)) (ci := 11) (v := .ref a1) (C := RX11) (T := TX11) (N := 24) hx hb hts hnX11 hown hK hP 0 rfl rfl 0 (by decide) hf7 (fun _ h9 => h9) rfl dX11_seen_57 ?_
  refine lv_iload_n hx hb dX11_seen_60 rfl (lv_at hl 2 rfl) ?_
  refine yy_iald (v := 0) hx hb hK hP 1 0 rfl rfl (yin (by decide)) dX11_seen_61 rfl ?_
  refine W.widen (k := 0) (n := 0) (Nat.le_of_ble_eq_true rfl) (Nat.le_of_ble_eq_true rfl) ?_
  exact yy_iret (v := 0) () hx hb hr hlk rfl hsz hAe hK hP hD hS [0, 1] rfl rfl (by decide) (rfl) dX11_seen_62
set_option maxHeartbeats 4000000 in
set_option maxRecDepth 100000 in
theorem r0_X11_find_95 (l : Launch) (dC : Nat → ClassId) (dI : Nat → Nat → Nat) (cyI cyZ cyO : ClassId) (sz : Nat) (a0 : Nat) (a1 : Nat) (a2 : Nat) (a3 : Nat) (a4 : Nat) (a5 : Nat) (a6 : Nat) (a7 : Nat) (a8 : Nat) (a9 : Nat) (a10 : Nat) (a11 : Nat) (a12 : Nat) (a13 : Nat) (a14 : Nat) (a15 : Nat) (a16 : Nat)  : Met l yX11_find wsX11_find ({ frames := 0, cells := 0, slots := 0, locals := 0 }) (yPre [.ref a0, .int 1, .int 0] (dC, dI) [(a0, .inr (11, [.ref a1, .int 0, .int 0, .ref a2, .ref a3, .ref a4, .ref a5, .int 0, .ref a6, .ref a7, .ref a8, .int 0, .int 32, .int 0, .ref a9, .ref a10, .int 0, .int 0, .ref a11, .ref a12, .ref a13, .ref a14, .ref a15, .ref a16]))] (yT cyI cyZ cyO) sz) (yQv (fun (u : Unit) => True) (dC, dI) [(a0, .inr (11, [.ref a1, .int 0, .int 0, .ref a2, .ref a3, .ref a4, .ref a5, .int 0, .ref a6, .ref a7, .ref a8, .int 0, .int 32, .int 0, .ref a9, .ref a10, .int 0, .int 0, .ref a11, .ref a12, .ref a13, .ref a14, .ref a15, .ref a16]))] (yT cyI cyZ cyO) sz (fun _ => [(a0, .inr (11, [.ref a1, .int 0, .int 0, .ref a2, .ref a3, .ref a4, .ref a5, .int 0, .ref a6, .ref a7, .ref a8, .int 0, .int 32, .int 0, .ref a9, .ref a10, .int 0, .int 0, .ref a11, .ref a12, .ref a13, .ref a14, .ref a15, .ref a16]))])) 0 0 (va_A [(a0, .inr (11, [.ref a1, .int 0, .int 0, .ref a2, .ref a3, .ref a4, .ref a5, .int 0, .ref a6, .ref a7, .ref a8, .int 0, .int 32, .int 0, .ref a9, .ref a10, .int 0, .int 0, .ref a11, .ref a12, .ref a13, .ref a14, .ref a15, .ref a16]))] sz) := by
  refine yMet (cc := cX11_find) (maxL := 3) (ret := none) (by decide) rfl (Nat.le_of_ble_eq_true rfl) ?_
  intro p e s m below meth c A hx hb hr hlk hml hts hown hnm hsz hAe hP hK hD hA hS ls hl
  have hl : lv_has ls 3 [(0, .ref a0), (1, .int 1), (2, .int 0)] := hl
  refine lv_iload_n hx hb dX11_find_0 rfl (lv_at hl 2 rfl) ?_
  refine lv_if_ne (tgt := 5) hx hb dX11_find_1 (by decide) (fun c => absurd (by decide) c) (fun _ => ?_)
  refine W.widen (k := 0) (n := 0) (Nat.le_of_ble_eq_true rfl) (Nat.le_of_ble_eq_true rfl) ?_
  exact yy_vret () hx hb hr hlk hsz hAe hK hP hD hS [0] rfl rfl (by decide) (trivial) dX11_find_4
set_option maxHeartbeats 4000000 in
set_option maxRecDepth 100000 in
theorem r0_X11_find_96 (l : Launch) (dC : Nat → ClassId) (dI : Nat → Nat → Nat) (cyI cyZ cyO : ClassId) (sz : Nat) (a0 : Nat) (a1 : Nat) (a2 : Nat) (a3 : Nat) (a4 : Nat) (a5 : Nat) (a6 : Nat) (a7 : Nat) (a8 : Nat) (a9 : Nat) (a10 : Nat) (a11 : Nat) (a12 : Nat) (a13 : Nat) (a14 : Nat) (a15 : Nat) (a16 : Nat)  : Met l yX11_find wsX11_find ({ frames := 0, cells := 0, slots := 0, locals := 0 }) (yPre [.ref a0, .int 2, .int 0] (dC, dI) [(a0, .inr (11, [.ref a1, .int 0, .int 0, .ref a2, .ref a3, .ref a4, .ref a5, .int 0, .ref a6, .ref a7, .ref a8, .int 0, .int 32, .int 0, .ref a9, .ref a10, .int 0, .int 0, .ref a11, .ref a12, .ref a13, .ref a14, .ref a15, .ref a16]))] (yT cyI cyZ cyO) sz) (yQv (fun (u : Unit) => True) (dC, dI) [(a0, .inr (11, [.ref a1, .int 0, .int 0, .ref a2, .ref a3, .ref a4, .ref a5, .int 0, .ref a6, .ref a7, .ref a8, .int 0, .int 32, .int 0, .ref a9, .ref a10, .int 0, .int 0, .ref a11, .ref a12, .ref a13, .ref a14, .ref a15, .ref a16]))] (yT cyI cyZ cyO) sz (fun _ => [(a0, .inr (11, [.ref a1, .int 0, .int 0, .ref a2, .ref a3, .ref a4, .ref a5, .int 0, .ref a6, .ref a7, .ref a8, .int 0, .int 32, .int 0, .ref a9, .ref a10, .int 0, .int 0, .ref a11, .ref a12, .ref a13, .ref a14, .ref a15, .ref a16]))])) 0 0 (va_A [(a0, .inr (11, [.ref a1, .int 0, .int 0, .ref a2, .ref a3, .ref a4, .ref a5, .int 0, .ref a6, .ref a7, .ref a8, .int 0, .int 32, .int 0, .ref a9, .ref a10, .int 0, .int 0, .ref a11, .ref a12, .ref a13, .ref a14, .ref a15, .ref a16]))] sz) := by
  refine yMet (cc := cX11_find) (maxL := 3) (ret := none) (by decide) rfl (Nat.le_of_ble_eq_true rfl) ?_
  intro p e s m below meth c A hx hb hr hlk hml hts hown hnm hsz hAe hP hK hD hA hS ls hl
  have hl : lv_has ls 3 [(0, .ref a0), (1, .int 2), (2, .int 0)] := hl
  refine lv_iload_n hx hb dX11_find_0 rfl (lv_at hl 2 rfl) ?_
  refine lv_if_ne (tgt := 5) hx hb dX11_find_1 (by decide) (fun c => absurd (by decide) c) (fun _ => ?_)
  refine W.widen (k := 0) (n := 0) (Nat.le_of_ble_eq_true rfl) (Nat.le_of_ble_eq_true rfl) ?_
  exact yy_vret () hx hb hr hlk hsz hAe hK hP hD hS [0] rfl rfl (by decide) (trivial) dX11_find_4
set_option maxHeartbeats 4000000 in
set_option maxRecDepth 100000 in
theorem r0_X11_find_97 (l : Launch) (dC : Nat → ClassId) (dI : Nat → Nat → Nat) (cyI cyZ cyO : ClassId) (sz : Nat) (a0 : Nat) (a1 : Nat) (a2 : Nat) (a3 : Nat) (a4 : Nat) (a5 : Nat) (a6 : Nat) (a7 : Nat) (a8 : Nat) (a9 : Nat) (a10 : Nat) (a11 : Nat) (a12 : Nat) (a13 : Nat) (a14 : Nat) (a15 : Nat) (a16 : Nat)  : Met l yX11_find wsX11_find ({ frames := 0, cells := 0, slots := 0, locals := 0 }) (yPre [.ref a0, .int 3, .int 0] (dC, dI) [(a0, .inr (11, [.ref a1, .int 0, .int 0, .ref a2, .ref a3, .ref a4, .ref a5, .int 0, .ref a6, .ref a7, .ref a8, .int 0, .int 32, .int 0, .ref a9, .ref a10, .int 0, .int 0, .ref a11, .ref a12, .ref a13, .ref a14, .ref a15, .ref a16]))] (yT cyI cyZ cyO) sz) (yQv (fun (u : Unit) => True) (dC, dI) [(a0, .inr (11, [.ref a1, .int 0, .int 0, .ref a2, .ref a3, .ref a4, .ref a5, .int 0, .ref a6, .ref a7, .ref a8, .int 0, .int 32, .int 0, .ref a9, .ref a10, .int 0, .int 0, .ref a11, .ref a12, .ref a13, .ref a14, .ref a15, .ref a16]))] (yT cyI cyZ cyO) sz (fun _ => [(a0, .inr (11, [.ref a1, .int 0, .int 0, .ref a2, .ref a3, .ref a4, .ref a5, .int 0, .ref a6, .ref a7, .ref a8, .int 0, .int 32, .int 0, .ref a9, .ref a10, .int 0, .int 0, .ref a11, .ref a12, .ref a13, .ref a14, .ref a15, .ref a16]))])) 0 0 (va_A [(a0, .inr (11, [.ref a1, .int 0, .int 0, .ref a2, .ref a3, .ref a4, .ref a5, .int 0, .ref a6, .ref a7, .ref a8, .int 0, .int 32, .int 0, .ref a9, .ref a10, .int 0, .int 0, .ref a11, .ref a12, .ref a13, .ref a14, .ref a15, .ref a16]))] sz) := by
  refine yMet (cc := cX11_find) (maxL := 3) (ret := none) (by decide) rfl (Nat.le_of_ble_eq_true rfl) ?_
  intro p e s m below meth c A hx hb hr hlk hml hts hown hnm hsz hAe hP hK hD hA hS ls hl
  have hl : lv_has ls 3 [(0, .ref a0), (1, .int 3), (2, .int 0)] := hl
  refine lv_iload_n hx hb dX11_find_0 rfl (lv_at hl 2 rfl) ?_
  refine lv_if_ne (tgt := 5) hx hb dX11_find_1 (by decide) (fun c => absurd (by decide) c) (fun _ => ?_)
  refine W.widen (k := 0) (n := 0) (Nat.le_of_ble_eq_true rfl) (Nat.le_of_ble_eq_true rfl) ?_
  exact yy_vret () hx hb hr hlk hsz hAe hK hP hD hS [0] rfl rfl (by decide) (trivial) dX11_find_4
set_option maxHeartbeats 4000000 in
set_option maxRecDepth 100000 in
theorem r0_X11_was_98 (l : Launch) (dC : Nat → ClassId) (dI : Nat → Nat → Nat) (cyI cyZ cyO : ClassId) (sz : Nat) (a0 : Nat) (a1 : Nat) (a2 : Nat) (a3 : Nat) (a4 : Nat) (a5 : Nat) (a6 : Nat) (a7 : Nat) (a8 : Nat) (a9 : Nat) (a10 : Nat) (a11 : Nat) (a12 : Nat) (a13 : Nat) (a14 : Nat) (a15 : Nat) (a16 : Nat)  : Met l yX11_was wsX11_was ({ frames := 0, cells := 0, slots := 0, locals := 0 }) (yPre [.ref a0, .int 5] (dC, dI) [(a0, .inr (11, [.ref a1, .int 0, .int 0, .ref a2, .ref a3, .ref a4, .ref a5, .int 0, .ref a6, .ref a7, .ref a8, .int 0, .int 32, .int 0, .ref a9, .ref a10, .int 0, .int 0, .ref a11, .ref a12, .ref a13, .ref a14, .ref a15, .ref a16])), (a1, .inl (cyI, 2490, .inl (yz 0 0)))] (yT cyI cyZ cyO) sz) (yQi (fun (r : Int32) (u : Unit) => r = 0) (dC, dI) [(a0, .inr (11, [.ref a1, .int 0, .int 0, .ref a2, .ref a3, .ref a4, .ref a5, .int 0, .ref a6, .ref a7, .ref a8, .int 0, .int 32, .int 0, .ref a9, .ref a10, .int 0, .int 0, .ref a11, .ref a12, .ref a13, .ref a14, .ref a15, .ref a16])), (a1, .inl (cyI, 2490, .inl (yz 0 0)))] (yT cyI cyZ cyO) sz (fun _ => [(a0, .inr (11, [.ref a1, .int 0, .int 0, .ref a2, .ref a3, .ref a4, .ref a5, .int 0, .ref a6, .ref a7, .ref a8, .int 0, .int 32, .int 0, .ref a9, .ref a10, .int 0, .int 0, .ref a11, .ref a12, .ref a13, .ref a14, .ref a15, .ref a16])), (a1, .inl (cyI, 2490, .inl (yz 0 0)))])) 0 0 (va_A [(a0, .inr (11, [.ref a1, .int 0, .int 0, .ref a2, .ref a3, .ref a4, .ref a5, .int 0, .ref a6, .ref a7, .ref a8, .int 0, .int 32, .int 0, .ref a9, .ref a10, .int 0, .int 0, .ref a11, .ref a12, .ref a13, .ref a14, .ref a15, .ref a16])), (a1, .inl (cyI, 2490, .inl (yz 0 0)))] sz) := by
  refine yMet (cc := cX11_was) (maxL := 2) (ret := (some .int)) (by decide) rfl (Nat.le_of_ble_eq_true rfl) ?_
  intro p e s m below meth c A hx hb hr hlk hml hts hown hnm hsz hAe hP hK hD hA hS ls hl
  have hl : lv_has ls 2 [(0, .ref a0), (1, .int 5)] := hl
  have hf7 := hts (.fieldLink RX11 7 "BusBridgeModel" "z" "[I") (by decide +kernel)
  have hnX11 : ∀ w ∈ wsX110, w ∈ wsX11_was := by decide +kernel
  refine lv_aload_n hx hb dX11_was_0 rfl (lv_at hl 0 rfl) ?_
  refine va_get (D := (dC, dI)) (ci := 11) (v := .ref a1) (C := RX11) (T := TX11) (N := 24) hx hb hts hnX11 hown hK hP 0 rfl rfl 0 (by decide) hf7 (fun _ h9 => h9) rfl dX11_was_1 ?_
  refine lv_bipush (v := 15) hx hb dX11_was_4 (by decide) ?_
  refine lv_iload_n hx hb dX11_was_6 rfl (lv_at hl 1 rfl) ?_
  refine lv_iadd hx hb dX11_was_7 ?_
  refine yy_int (v := 20) (by decide) ?_
  refine yy_iald (v := 0) hx hb hK hP 1 0 rfl rfl (yin (by decide)) dX11_was_8 rfl ?_
  refine W.widen (k := 0) (n := 0) (Nat.le_of_ble_eq_true rfl) (Nat.le_of_ble_eq_true rfl) ?_
  exact yy_iret (v := 0) () hx hb hr hlk rfl hsz hAe hK hP hD hS [0, 1] rfl rfl (by decide) (rfl) dX11_was_9
set_option maxHeartbeats 4000000 in
set_option maxRecDepth 100000 in
theorem r0_X11_find_99 (l : Launch) (dC : Nat → ClassId) (dI : Nat → Nat → Nat) (cyI cyZ cyO : ClassId) (sz : Nat) (a0 : Nat) (a1 : Nat) (a2 : Nat) (a3 : Nat) (a4 : Nat) (a5 : Nat) (a6 : Nat) (a7 : Nat) (a8 : Nat) (a9 : Nat) (a10 : Nat) (a11 : Nat) (a12 : Nat) (a13 : Nat) (a14 : Nat) (a15 : Nat) (a16 : Nat)  : Met l yX11_find wsX11_find ({ frames := 0, cells := 0, slots := 0, locals := 0 }) (yPre [.ref a0, .int 4, .int 0] (dC, dI) [(a0, .inr (11, [.ref a1, .int 0, .int 0, .ref a2, .ref a3, .ref a4, .ref a5, .int 0, .ref a6, .ref a7, .ref a8, .int 0, .int 32, .int 0, .ref a9, .ref a10, .int 0, .int 0, .ref a11, .ref a12, .ref a13, .ref a14, .ref a15, .ref a16]))] (yT cyI cyZ cyO) sz) (yQv (fun (u : Unit) => True) (dC, dI) [(a0, .inr (11, [.ref a1, .int 0, .int 0, .ref a2, .ref a3, .ref a4, .ref a5, .int 0, .ref a6, .ref a7, .ref a8, .int 0, .int 32, .int 0, .ref a9, .ref a10, .int 0, .int 0, .ref a11, .ref a12, .ref a13, .ref a14, .ref a15, .ref a16]))] (yT cyI cyZ cyO) sz (fun _ => [(a0, .inr (11, [.ref a1, .int 0, .int 0, .ref a2, .ref a3, .ref a4, .ref a5, .int 0, .ref a6, .ref a7, .ref a8, .int 0, .int 32, .int 0, .ref a9, .ref a10, .int 0, .int 0, .ref a11, .ref a12, .ref a13, .ref a14, .ref a15, .ref a16]))])) 0 0 (va_A [(a0, .inr (11, [.ref a1, .int 0, .int 0, .ref a2, .ref a3, .ref a4, .ref a5, .int 0, .ref a6, .ref a7, .ref a8, .int 0, .int 32, .int 0, .ref a9, .ref a10, .int 0, .int 0, .ref a11, .ref a12, .ref a13, .ref a14, .ref a15, .ref a16]))] sz) := by
  refine yMet (cc := cX11_find) (maxL := 3) (ret := none) (by decide) rfl (Nat.le_of_ble_eq_true rfl) ?_
  intro p e s m below meth c A hx hb hr hlk hml hts hown hnm hsz hAe hP hK hD hA hS ls hl
  have hl : lv_has ls 3 [(0, .ref a0), (1, .int 4), (2, .int 0)] := hl
  refine lv_iload_n hx hb dX11_find_0 rfl (lv_at hl 2 rfl) ?_
  refine lv_if_ne (tgt := 5) hx hb dX11_find_1 (by decide) (fun c => absurd (by decide) c) (fun _ => ?_)
  refine W.widen (k := 0) (n := 0) (Nat.le_of_ble_eq_true rfl) (Nat.le_of_ble_eq_true rfl) ?_
  exact yy_vret () hx hb hr hlk hsz hAe hK hP hD hS [0] rfl rfl (by decide) (trivial) dX11_find_4
set_option maxHeartbeats 4000000 in
set_option maxRecDepth 100000 in
theorem r0_X11_find_100 (l : Launch) (dC : Nat → ClassId) (dI : Nat → Nat → Nat) (cyI cyZ cyO : ClassId) (sz : Nat) (a0 : Nat) (a1 : Nat) (a2 : Nat) (a3 : Nat) (a4 : Nat) (a5 : Nat) (a6 : Nat) (a7 : Nat) (a8 : Nat) (a9 : Nat) (a10 : Nat) (a11 : Nat) (a12 : Nat) (a13 : Nat) (a14 : Nat) (a15 : Nat) (a16 : Nat)  : Met l yX11_find wsX11_find ({ frames := 0, cells := 0, slots := 0, locals := 0 }) (yPre [.ref a0, .int 5, .int 0] (dC, dI) [(a0, .inr (11, [.ref a1, .int 0, .int 0, .ref a2, .ref a3, .ref a4, .ref a5, .int 0, .ref a6, .ref a7, .ref a8, .int 0, .int 32, .int 0, .ref a9, .ref a10, .int 0, .int 0, .ref a11, .ref a12, .ref a13, .ref a14, .ref a15, .ref a16]))] (yT cyI cyZ cyO) sz) (yQv (fun (u : Unit) => True) (dC, dI) [(a0, .inr (11, [.ref a1, .int 0, .int 0, .ref a2, .ref a3, .ref a4, .ref a5, .int 0, .ref a6, .ref a7, .ref a8, .int 0, .int 32, .int 0, .ref a9, .ref a10, .int 0, .int 0, .ref a11, .ref a12, .ref a13, .ref a14, .ref a15, .ref a16]))] (yT cyI cyZ cyO) sz (fun _ => [(a0, .inr (11, [.ref a1, .int 0, .int 0, .ref a2, .ref a3, .ref a4, .ref a5, .int 0, .ref a6, .ref a7, .ref a8, .int 0, .int 32, .int 0, .ref a9, .ref a10, .int 0, .int 0, .ref a11, .ref a12, .ref a13, .ref a14, .ref a15, .ref a16]))])) 0 0 (va_A [(a0, .inr (11, [.ref a1, .int 0, .int 0, .ref a2, .ref a3, .ref a4, .ref a5, .int 0, .ref a6, .ref a7, .ref a8, .int 0, .int 32, .int 0, .ref a9, .ref a10, .int 0, .int 0, .ref a11, .ref a12, .ref a13, .ref a14, .ref a15, .ref a16]))] sz) := by
  refine yMet (cc := cX11_find) (maxL := 3) (ret := none) (by decide) rfl (Nat.le_of_ble_eq_true rfl) ?_
  intro p e s m below meth c A hx hb hr hlk hml hts hown hnm hsz hAe hP hK hD hA hS ls hl
  have hl : lv_has ls 3 [(0, .ref a0), (1, .int 5), (2, .int 0)] := hl
  refine lv_iload_n hx hb dX11_find_0 rfl (lv_at hl 2 rfl) ?_
  refine lv_if_ne (tgt := 5) hx hb dX11_find_1 (by decide) (fun c => absurd (by decide) c) (fun _ => ?_)
  refine W.widen (k := 0) (n := 0) (Nat.le_of_ble_eq_true rfl) (Nat.le_of_ble_eq_true rfl) ?_
  exact yy_vret () hx hb hr hlk hsz hAe hK hP hD hS [0] rfl rfl (by decide) (trivial) dX11_find_4
set_option maxHeartbeats 4000000 in
set_option maxRecDepth 100000 in
theorem r0_X11_find_101 (l : Launch) (dC : Nat → ClassId) (dI : Nat → Nat → Nat) (cyI cyZ cyO : ClassId) (sz : Nat) (a0 : Nat) (a1 : Nat) (a2 : Nat) (a3 : Nat) (a4 : Nat) (a5 : Nat) (a6 : Nat) (a7 : Nat) (a8 : Nat) (a9 : Nat) (a10 : Nat) (a11 : Nat) (a12 : Nat) (a13 : Nat) (a14 : Nat) (a15 : Nat) (a16 : Nat)  : Met l yX11_find wsX11_find ({ frames := 0, cells := 0, slots := 0, locals := 0 }) (yPre [.ref a0, .int 6, .int 0] (dC, dI) [(a0, .inr (11, [.ref a1, .int 0, .int 0, .ref a2, .ref a3, .ref a4, .ref a5, .int 0, .ref a6, .ref a7, .ref a8, .int 0, .int 32, .int 0, .ref a9, .ref a10, .int 0, .int 0, .ref a11, .ref a12, .ref a13, .ref a14, .ref a15, .ref a16]))] (yT cyI cyZ cyO) sz) (yQv (fun (u : Unit) => True) (dC, dI) [(a0, .inr (11, [.ref a1, .int 0, .int 0, .ref a2, .ref a3, .ref a4, .ref a5, .int 0, .ref a6, .ref a7, .ref a8, .int 0, .int 32, .int 0, .ref a9, .ref a10, .int 0, .int 0, .ref a11, .ref a12, .ref a13, .ref a14, .ref a15, .ref a16]))] (yT cyI cyZ cyO) sz (fun _ => [(a0, .inr (11, [.ref a1, .int 0, .int 0, .ref a2, .ref a3, .ref a4, .ref a5, .int 0, .ref a6, .ref a7, .ref a8, .int 0, .int 32, .int 0, .ref a9, .ref a10, .int 0, .int 0, .ref a11, .ref a12, .ref a13, .ref a14, .ref a15, .ref a16]))])) 0 0 (va_A [(a0, .inr (11, [.ref a1, .int 0, .int 0, .ref a2, .ref a3, .ref a4, .ref a5, .int 0, .ref a6, .ref a7, .ref a8, .int 0, .int 32, .int 0, .ref a9, .ref a10, .int 0, .int 0, .ref a11, .ref a12, .ref a13, .ref a14, .ref a15, .ref a16]))] sz) := by
  refine yMet (cc := cX11_find) (maxL := 3) (ret := none) (by decide) rfl (Nat.le_of_ble_eq_true rfl) ?_
  intro p e s m below meth c A hx hb hr hlk hml hts hown hnm hsz hAe hP hK hD hA hS ls hl
  have hl : lv_has ls 3 [(0, .ref a0), (1, .int 6), (2, .int 0)] := hl
  refine lv_iload_n hx hb dX11_find_0 rfl (lv_at hl 2 rfl) ?_
  refine lv_if_ne (tgt := 5) hx hb dX11_find_1 (by decide) (fun c => absurd (by decide) c) (fun _ => ?_)
  refine W.widen (k := 0) (n := 0) (Nat.le_of_ble_eq_true rfl) (Nat.le_of_ble_eq_true rfl) ?_
  exact yy_vret () hx hb hr hlk hsz hAe hK hP hD hS [0] rfl rfl (by decide) (trivial) dX11_find_4
set_option maxHeartbeats 4000000 in
set_option maxRecDepth 100000 in
theorem r0_X11_find_102 (l : Launch) (dC : Nat → ClassId) (dI : Nat → Nat → Nat) (cyI cyZ cyO : ClassId) (sz : Nat) (a0 : Nat) (a1 : Nat) (a2 : Nat) (a3 : Nat) (a4 : Nat) (a5 : Nat) (a6 : Nat) (a7 : Nat) (a8 : Nat) (a9 : Nat) (a10 : Nat) (a11 : Nat) (a12 : Nat) (a13 : Nat) (a14 : Nat) (a15 : Nat) (a16 : Nat)  : Met l yX11_find wsX11_find ({ frames := 0, cells := 0, slots := 0, locals := 0 }) (yPre [.ref a0, .int 7, .int 0] (dC, dI) [(a0, .inr (11, [.ref a1, .int 0, .int 0, .ref a2, .ref a3, .ref a4, .ref a5, .int 0, .ref a6, .ref a7, .ref a8, .int 0, .int 32, .int 0, .ref a9, .ref a10, .int 0, .int 0, .ref a11, .ref a12, .ref a13, .ref a14, .ref a15, .ref a16]))] (yT cyI cyZ cyO) sz) (yQv (fun (u : Unit) => True) (dC, dI) [(a0, .inr (11, [.ref a1, .int 0, .int 0, .ref a2, .ref a3, .ref a4, .ref a5, .int 0, .ref a6, .ref a7, .ref a8, .int 0, .int 32, .int 0, .ref a9, .ref a10, .int 0, .int 0, .ref a11, .ref a12, .ref a13, .ref a14, .ref a15, .ref a16]))] (yT cyI cyZ cyO) sz (fun _ => [(a0, .inr (11, [.ref a1, .int 0, .int 0, .ref a2, .ref a3, .ref a4, .ref a5, .int 0, .ref a6, .ref a7, .ref a8, .int 0, .int 32, .int 0, .ref a9, .ref a10, .int 0, .int 0, .ref a11, .ref a12, .ref a13, .ref a14, .ref a15, .ref a16]))])) 0 0 (va_A [(a0, .inr (11, [.ref a1, .int 0, .int 0, .ref a2, .ref a3, .ref a4, .ref a5, .int 0, .ref a6, .ref a7, .ref a8, .int 0, .int 32, .int 0, .ref a9, .ref a10, .int 0, .int 0, .ref a11, .ref a12, .ref a13, .ref a14, .ref a15, .ref a16]))] sz) := by
  refine yMet (cc := cX11_find) (maxL := 3) (ret := none) (by decide) rfl (Nat.le_of_ble_eq_true rfl) ?_
  intro p e s m below meth c A hx hb hr hlk hml hts hown hnm hsz hAe hP hK hD hA hS ls hl
  have hl : lv_has ls 3 [(0, .ref a0), (1, .int 7), (2, .int 0)] := hl
  refine lv_iload_n hx hb dX11_find_0 rfl (lv_at hl 2 rfl) ?_
  refine lv_if_ne (tgt := 5) hx hb dX11_find_1 (by decide) (fun c => absurd (by decide) c) (fun _ => ?_)
  refine W.widen (k := 0) (n := 0) (Nat.le_of_ble_eq_true rfl) (Nat.le_of_ble_eq_true rfl) ?_
  exact yy_vret () hx hb hr hlk hsz hAe hK hP hD hS [0] rfl rfl (by decide) (trivial) dX11_find_4
set_option maxHeartbeats 4000000 in
set_option maxRecDepth 100000 in
theorem r0_X11_find_103 (l : Launch) (dC : Nat → ClassId) (dI : Nat → Nat → Nat) (cyI cyZ cyO : ClassId) (sz : Nat) (a0 : Nat) (a1 : Nat) (a2 : Nat) (a3 : Nat) (a4 : Nat) (a5 : Nat) (a6 : Nat) (a7 : Nat) (a8 : Nat) (a9 : Nat) (a10 : Nat) (a11 : Nat) (a12 : Nat) (a13 : Nat) (a14 : Nat) (a15 : Nat) (a16 : Nat)  : Met l yX11_find wsX11_find ({ frames := 0, cells := 0, slots := 0, locals := 0 }) (yPre [.ref a0, .int 8, .int 0] (dC, dI) [(a0, .inr (11, [.ref a1, .int 0, .int 0, .ref a2, .ref a3, .ref a4, .ref a5, .int 0, .ref a6, .ref a7, .ref a8, .int 0, .int 32, .int 0, .ref a9, .ref a10, .int 0, .int 0, .ref a11, .ref a12, .ref a13, .ref a14, .ref a15, .ref a16]))] (yT cyI cyZ cyO) sz) (yQv (fun (u : Unit) => True) (dC, dI) [(a0, .inr (11, [.ref a1, .int 0, .int 0, .ref a2, .ref a3, .ref a4, .ref a5, .int 0, .ref a6, .ref a7, .ref a8, .int 0, .int 32, .int 0, .ref a9, .ref a10, .int 0, .int 0, .ref a11, .ref a12, .ref a13, .ref a14, .ref a15, .ref a16]))] (yT cyI cyZ cyO) sz (fun _ => [(a0, .inr (11, [.ref a1, .int 0, .int 0, .ref a2, .ref a3, .ref a4, .ref a5, .int 0, .ref a6, .ref a7, .ref a8, .int 0, .int 32, .int 0, .ref a9, .ref a10, .int 0, .int 0, .ref a11, .ref a12, .ref a13, .ref a14, .ref a15, .ref a16]))])) 0 0 (va_A [(a0, .inr (11, [.ref a1, .int 0, .int 0, .ref a2, .ref a3, .ref a4, .ref a5, .int 0, .ref a6, .ref a7, .ref a8, .int 0, .int 32, .int 0, .ref a9, .ref a10, .int 0, .int 0, .ref a11, .ref a12, .ref a13, .ref a14, .ref a15, .ref a16]))] sz) := by
  refine yMet (cc := cX11_find) (maxL := 3) (ret := none) (by decide) rfl (Nat.le_of_ble_eq_true rfl) ?_
  intro p e s m below meth c A hx hb hr hlk hml hts hown hnm hsz hAe hP hK hD hA hS ls hl
  have hl : lv_has ls 3 [(0, .ref a0), (1, .int 8), (2, .int 0)] := hl
  refine lv_iload_n hx hb dX11_find_0 rfl (lv_at hl 2 rfl) ?_
  refine lv_if_ne (tgt := 5) hx hb dX11_find_1 (by decide) (fun c => absurd (by decide) c) (fun _ => ?_)
  refine W.widen (k := 0) (n := 0) (Nat.le_of_ble_eq_true rfl) (Nat.le_of_ble_eq_true rfl) ?_
  exact yy_vret () hx hb hr hlk hsz hAe hK hP hD hS [0] rfl rfl (by decide) (trivial) dX11_find_4
set_option maxHeartbeats 4000000 in
set_option maxRecDepth 100000 in
theorem r0_X11_find_104 (l : Launch) (dC : Nat → ClassId) (dI : Nat → Nat → Nat) (cyI cyZ cyO : ClassId) (sz : Nat) (a0 : Nat) (a1 : Nat) (a2 : Nat) (a3 : Nat) (a4 : Nat) (a5 : Nat) (a6 : Nat) (a7 : Nat) (a8 : Nat) (a9 : Nat) (a10 : Nat) (a11 : Nat) (a12 : Nat) (a13 : Nat) (a14 : Nat) (a15 : Nat) (a16 : Nat)  : Met l yX11_find wsX11_find ({ frames := 0, cells := 0, slots := 0, locals := 0 }) (yPre [.ref a0, .int 9, .int 0] (dC, dI) [(a0, .inr (11, [.ref a1, .int 0, .int 0, .ref a2, .ref a3, .ref a4, .ref a5, .int 0, .ref a6, .ref a7, .ref a8, .int 0, .int 32, .int 0, .ref a9, .ref a10, .int 0, .int 0, .ref a11, .ref a12, .ref a13, .ref a14, .ref a15, .ref a16]))] (yT cyI cyZ cyO) sz) (yQv (fun (u : Unit) => True) (dC, dI) [(a0, .inr (11, [.ref a1, .int 0, .int 0, .ref a2, .ref a3, .ref a4, .ref a5, .int 0, .ref a6, .ref a7, .ref a8, .int 0, .int 32, .int 0, .ref a9, .ref a10, .int 0, .int 0, .ref a11, .ref a12, .ref a13, .ref a14, .ref a15, .ref a16]))] (yT cyI cyZ cyO) sz (fun _ => [(a0, .inr (11, [.ref a1, .int 0, .int 0, .ref a2, .ref a3, .ref a4, .ref a5, .int 0, .ref a6, .ref a7, .ref a8, .int 0, .int 32, .int 0, .ref a9, .ref a10, .int 0, .int 0, .ref a11, .ref a12, .ref a13, .ref a14, .ref a15, .ref a16]))])) 0 0 (va_A [(a0, .inr (11, [.ref a1, .int 0, .int 0, .ref a2, .ref a3, .ref a4, .ref a5, .int 0, .ref a6, .ref a7, .ref a8, .int 0, .int 32, .int 0, .ref a9, .ref a10, .int 0, .int 0, .ref a11, .ref a12, .ref a13, .ref a14, .ref a15, .ref a16]))] sz) := by
  refine yMet (cc := cX11_find) (maxL := 3) (ret := none) (by decide) rfl (Nat.le_of_ble_eq_true rfl) ?_
  intro p e s m below meth c A hx hb hr hlk hml hts hown hnm hsz hAe hP hK hD hA hS ls hl
  have hl : lv_has ls 3 [(0, .ref a0), (1, .int 9), (2, .int 0)] := hl
  refine lv_iload_n hx hb dX11_find_0 rfl (lv_at hl 2 rfl) ?_
  refine lv_if_ne (tgt := 5) hx hb dX11_find_1 (by decide) (fun c => absurd (by decide) c) (fun _ => ?_)
  refine W.widen (k := 0) (n := 0) (Nat.le_of_ble_eq_true rfl) (Nat.le_of_ble_eq_true rfl) ?_
  exact yy_vret () hx hb hr hlk hsz hAe hK hP hD hS [0] rfl rfl (by decide) (trivial) dX11_find_4
set_option maxHeartbeats 4000000 in
set_option maxRecDepth 100000 in
theorem r0_X11_find_105 (l : Launch) (dC : Nat → ClassId) (dI : Nat → Nat → Nat) (cyI cyZ cyO : ClassId) (sz : Nat) (a0 : Nat) (a1 : Nat) (a2 : Nat) (a3 : Nat) (a4 : Nat) (a5 : Nat) (a6 : Nat) (a7 : Nat) (a8 : Nat) (a9 : Nat) (a10 : Nat) (a11 : Nat) (a12 : Nat) (a13 : Nat) (a14 : Nat) (a15 : Nat) (a16 : Nat)  : Met l yX11_find wsX11_find ({ frames := 0, cells := 0, slots := 0, locals := 0 }) (yPre [.ref a0, .int 10, .int 0] (dC, dI) [(a0, .inr (11, [.ref a1, .int 0, .int 0, .ref a2, .ref a3, .ref a4, .ref a5, .int 0, .ref a6, .ref a7, .ref a8, .int 0, .int 32, .int 0, .ref a9, .ref a10, .int 0, .int 0, .ref a11, .ref a12, .ref a13, .ref a14, .ref a15, .ref a16]))] (yT cyI cyZ cyO) sz) (yQv (fun (u : Unit) => True) (dC, dI) [(a0, .inr (11, [.ref a1, .int 0, .int 0, .ref a2, .ref a3, .ref a4, .ref a5, .int 0, .ref a6, .ref a7, .ref a8, .int 0, .int 32, .int 0, .ref a9, .ref a10, .int 0, .int 0, .ref a11, .ref a12, .ref a13, .ref a14, .ref a15, .ref a16]))] (yT cyI cyZ cyO) sz (fun _ => [(a0, .inr (11, [.ref a1, .int 0, .int 0, .ref a2, .ref a3, .ref a4, .ref a5, .int 0, .ref a6, .ref a7, .ref a8, .int 0, .int 32, .int 0, .ref a9, .ref a10, .int 0, .int 0, .ref a11, .ref a12, .ref a13, .ref a14, .ref a15, .ref a16]))])) 0 0 (va_A [(a0, .inr (11, [.ref a1, .int 0, .int 0, .ref a2, .ref a3, .ref a4, .ref a5, .int 0, .ref a6, .ref a7, .ref a8, .int 0, .int 32, .int 0, .ref a9, .ref a10, .int 0, .int 0, .ref a11, .ref a12, .ref a13, .ref a14, .ref a15, .ref a16]))] sz) := by
  refine yMet (cc := cX11_find) (maxL := 3) (ret := none) (by decide) rfl (Nat.le_of_ble_eq_true rfl) ?_
  intro p e s m below meth c A hx hb hr hlk hml hts hown hnm hsz hAe hP hK hD hA hS ls hl
  have hl : lv_has ls 3 [(0, .ref a0), (1, .int 10), (2, .int 0)] := hl
  refine lv_iload_n hx hb dX11_find_0 rfl (lv_at hl 2 rfl) ?_
  refine lv_if_ne (tgt := 5) hx hb dX11_find_1 (by decide) (fun c => absurd (by decide) c) (fun _ => ?_)
  refine W.widen (k := 0) (n := 0) (Nat.le_of_ble_eq_true rfl) (Nat.le_of_ble_eq_true rfl) ?_
  exact yy_vret () hx hb hr hlk hsz hAe hK hP hD hS [0] rfl rfl (by decide) (trivial) dX11_find_4
set_option maxHeartbeats 4000000 in
set_option maxRecDepth 100000 in
theorem r0_X11_find_106 (l : Launch) (dC : Nat → ClassId) (dI : Nat → Nat → Nat) (cyI cyZ cyO : ClassId) (sz : Nat) (a0 : Nat) (a1 : Nat) (a2 : Nat) (a3 : Nat) (a4 : Nat) (a5 : Nat) (a6 : Nat) (a7 : Nat) (a8 : Nat) (a9 : Nat) (a10 : Nat) (a11 : Nat) (a12 : Nat) (a13 : Nat) (a14 : Nat) (a15 : Nat) (a16 : Nat)  : Met l yX11_find wsX11_find ({ frames := 0, cells := 0, slots := 0, locals := 0 }) (yPre [.ref a0, .int 11, .int 0] (dC, dI) [(a0, .inr (11, [.ref a1, .int 0, .int 0, .ref a2, .ref a3, .ref a4, .ref a5, .int 0, .ref a6, .ref a7, .ref a8, .int 0, .int 32, .int 0, .ref a9, .ref a10, .int 0, .int 0, .ref a11, .ref a12, .ref a13, .ref a14, .ref a15, .ref a16]))] (yT cyI cyZ cyO) sz) (yQv (fun (u : Unit) => True) (dC, dI) [(a0, .inr (11, [.ref a1, .int 0, .int 0, .ref a2, .ref a3, .ref a4, .ref a5, .int 0, .ref a6, .ref a7, .ref a8, .int 0, .int 32, .int 0, .ref a9, .ref a10, .int 0, .int 0, .ref a11, .ref a12, .ref a13, .ref a14, .ref a15, .ref a16]))] (yT cyI cyZ cyO) sz (fun _ => [(a0, .inr (11, [.ref a1, .int 0, .int 0, .ref a2, .ref a3, .ref a4, .ref a5, .int 0, .ref a6, .ref a7, .ref a8, .int 0, .int 32, .int 0, .ref a9, .ref a10, .int 0, .int 0, .ref a11, .ref a12, .ref a13, .ref a14, .ref a15, .ref a16]))])) 0 0 (va_A [(a0, .inr (11, [.ref a1, .int 0, .int 0, .ref a2, .ref a3, .ref a4, .ref a5, .int 0, .ref a6, .ref a7, .ref a8, .int 0, .int 32, .int 0, .ref a9, .ref a10, .int 0, .int 0, .ref a11, .ref a12, .ref a13, .ref a14, .ref a15, .ref a16]))] sz) := by
  refine yMet (cc := cX11_find) (maxL := 3) (ret := none) (by decide) rfl (Nat.le_of_ble_eq_true rfl) ?_
  intro p e s m below meth c A hx hb hr hlk hml hts hown hnm hsz hAe hP hK hD hA hS ls hl
  have hl : lv_has ls 3 [(0, .ref a0), (1, .int 11), (2, .int 0)] := hl
  refine lv_iload_n hx hb dX11_find_0 rfl (lv_at hl 2 rfl) ?_
  refine lv_if_ne (tgt := 5) hx hb dX11_find_1 (by decide) (fun c => absurd (by decide) c) (fun _ => ?_)
  refine W.widen (k := 0) (n := 0) (Nat.le_of_ble_eq_true rfl) (Nat.le_of_ble_eq_true rfl) ?_
  exact yy_vret () hx hb hr hlk hsz hAe hK hP hD hS [0] rfl rfl (by decide) (trivial) dX11_find_4
set_option maxHeartbeats 4000000 in
set_option maxRecDepth 100000 in
theorem r0_X11_find_107 (l : Launch) (dC : Nat → ClassId) (dI : Nat → Nat → Nat) (cyI cyZ cyO : ClassId) (sz : Nat) (a0 : Nat) (a1 : Nat) (a2 : Nat) (a3 : Nat) (a4 : Nat) (a5 : Nat) (a6 : Nat) (a7 : Nat) (a8 : Nat) (a9 : Nat) (a10 : Nat) (a11 : Nat) (a12 : Nat) (a13 : Nat) (a14 : Nat) (a15 : Nat) (a16 : Nat)  : Met l yX11_find wsX11_find ({ frames := 0, cells := 0, slots := 0, locals := 0 }) (yPre [.ref a0, .int 12, .int 0] (dC, dI) [(a0, .inr (11, [.ref a1, .int 0, .int 0, .ref a2, .ref a3, .ref a4, .ref a5, .int 0, .ref a6, .ref a7, .ref a8, .int 0, .int 32, .int 0, .ref a9, .ref a10, .int 0, .int 0, .ref a11, .ref a12, .ref a13, .ref a14, .ref a15, .ref a16]))] (yT cyI cyZ cyO) sz) (yQv (fun (u : Unit) => True) (dC, dI) [(a0, .inr (11, [.ref a1, .int 0, .int 0, .ref a2, .ref a3, .ref a4, .ref a5, .int 0, .ref a6, .ref a7, .ref a8, .int 0, .int 32, .int 0, .ref a9, .ref a10, .int 0, .int 0, .ref a11, .ref a12, .ref a13, .ref a14, .ref a15, .ref a16]))] (yT cyI cyZ cyO) sz (fun _ => [(a0, .inr (11, [.ref a1, .int 0, .int 0, .ref a2, .ref a3, .ref a4, .ref a5, .int 0, .ref a6, .ref a7, .ref a8, .int 0, .int 32, .int 0, .ref a9, .ref a10, .int 0, .int 0, .ref a11, .ref a12, .ref a13, .ref a14, .ref a15, .ref a16]))])) 0 0 (va_A [(a0, .inr (11, [.ref a1, .int 0, .int 0, .ref a2, .ref a3, .ref a4, .ref a5, .int 0, .ref a6, .ref a7, .ref a8, .int 0, .int 32, .int 0, .ref a9, .ref a10, .int 0, .int 0, .ref a11, .ref a12, .ref a13, .ref a14, .ref a15, .ref a16]))] sz) := by
  refine yMet (cc := cX11_find) (maxL := 3) (ret := none) (by decide) rfl (Nat.le_of_ble_eq_true rfl) ?_
  intro p e s m below meth c A hx hb hr hlk hml hts hown hnm hsz hAe hP hK hD hA hS ls hl
  have hl : lv_has ls 3 [(0, .ref a0), (1, .int 12), (2, .int 0)] := hl
  refine lv_iload_n hx hb dX11_find_0 rfl (lv_at hl 2 rfl) ?_
  refine lv_if_ne (tgt := 5) hx hb dX11_find_1 (by decide) (fun c => absurd (by decide) c) (fun _ => ?_)
  refine W.widen (k := 0) (n := 0) (Nat.le_of_ble_eq_true rfl) (Nat.le_of_ble_eq_true rfl) ?_
  exact yy_vret () hx hb hr hlk hsz hAe hK hP hD hS [0] rfl rfl (by decide) (trivial) dX11_find_4
set_option maxHeartbeats 4000000 in
set_option maxRecDepth 100000 in
theorem r0_X11_find_108 (l : Launch) (dC : Nat → ClassId) (dI : Nat → Nat → Nat) (cyI cyZ cyO : ClassId) (sz : Nat) (a0 : Nat) (a1 : Nat) (a2 : Nat) (a3 : Nat) (a4 : Nat) (a5 : Nat) (a6 : Nat) (a7 : Nat) (a8 : Nat) (a9 : Nat) (a10 : Nat) (a11 : Nat) (a12 : Nat) (a13 : Nat) (a14 : Nat) (a15 : Nat) (a16 : Nat)  : Met l yX11_find wsX11_find ({ frames := 0, cells := 0, slots := 0, locals := 0 }) (yPre [.ref a0, .int 13, .int 0] (dC, dI) [(a0, .inr (11, [.ref a1, .int 0, .int 0, .ref a2, .ref a3, .ref a4, .ref a5, .int 0, .ref a6, .ref a7, .ref a8, .int 0, .int 32, .int 0, .ref a9, .ref a10, .int 0, .int 0, .ref a11, .ref a12, .ref a13, .ref a14, .ref a15, .ref a16]))] (yT cyI cyZ cyO) sz) (yQv (fun (u : Unit) => True) (dC, dI) [(a0, .inr (11, [.ref a1, .int 0, .int 0, .ref a2, .ref a3, .ref a4, .ref a5, .int 0, .ref a6, .ref a7, .ref a8, .int 0, .int 32, .int 0, .ref a9, .ref a10, .int 0, .int 0, .ref a11, .ref a12, .ref a13, .ref a14, .ref a15, .ref a16]))] (yT cyI cyZ cyO) sz (fun _ => [(a0, .inr (11, [.ref a1, .int 0, .int 0, .ref a2, .ref a3, .ref a4, .ref a5, .int 0, .ref a6, .ref a7, .ref a8, .int 0, .int 32, .int 0, .ref a9, .ref a10, .int 0, .int 0, .ref a11, .ref a12, .ref a13, .ref a14, .ref a15, .ref a16]))])) 0 0 (va_A [(a0, .inr (11, [.ref a1, .int 0, .int 0, .ref a2, .ref a3, .ref a4, .ref a5, .int 0, .ref a6, .ref a7, .ref a8, .int 0, .int 32, .int 0, .ref a9, .ref a10, .int 0, .int 0, .ref a11, .ref a12, .ref a13, .ref a14, .ref a15, .ref a16]))] sz) := by
  refine yMet (cc := cX11_find) (maxL := 3) (ret := none) (by decide) rfl (Nat.le_of_ble_eq_true rfl) ?_
  intro p e s m below meth c A hx hb hr hlk hml hts hown hnm hsz hAe hP hK hD hA hS ls hl
  have hl : lv_has ls 3 [(0, .ref a0), (1, .int 13), (2, .int 0)] := hl
  refine lv_iload_n hx hb dX11_find_0 rfl (lv_at hl 2 rfl) ?_
  refine lv_if_ne (tgt := 5) hx hb dX11_find_1 (by decide) (fun c => absurd (by decide) c) (fun _ => ?_)
  refine W.widen (k := 0) (n := 0) (Nat.le_of_ble_eq_true rfl) (Nat.le_of_ble_eq_true rfl) ?_
  exact yy_vret () hx hb hr hlk hsz hAe hK hP hD hS [0] rfl rfl (by decide) (trivial) dX11_find_4
set_option maxHeartbeats 4000000 in
set_option maxRecDepth 100000 in
theorem r0_X11_find_109 (l : Launch) (dC : Nat → ClassId) (dI : Nat → Nat → Nat) (cyI cyZ cyO : ClassId) (sz : Nat) (a0 : Nat) (a1 : Nat) (a2 : Nat) (a3 : Nat) (a4 : Nat) (a5 : Nat) (a6 : Nat) (a7 : Nat) (a8 : Nat) (a9 : Nat) (a10 : Nat) (a11 : Nat) (a12 : Nat) (a13 : Nat) (a14 : Nat) (a15 : Nat) (a16 : Nat)  : Met l yX11_find wsX11_find ({ frames := 0, cells := 0, slots := 0, locals := 0 }) (yPre [.ref a0, .int 14, .int 0] (dC, dI) [(a0, .inr (11, [.ref a1, .int 0, .int 0, .ref a2, .ref a3, .ref a4, .ref a5, .int 0, .ref a6, .ref a7, .ref a8, .int 0, .int 32, .int 0, .ref a9, .ref a10, .int 0, .int 0, .ref a11, .ref a12, .ref a13, .ref a14, .ref a15, .ref a16]))] (yT cyI cyZ cyO) sz) (yQv (fun (u : Unit) => True) (dC, dI) [(a0, .inr (11, [.ref a1, .int 0, .int 0, .ref a2, .ref a3, .ref a4, .ref a5, .int 0, .ref a6, .ref a7, .ref a8, .int 0, .int 32, .int 0, .ref a9, .ref a10, .int 0, .int 0, .ref a11, .ref a12, .ref a13, .ref a14, .ref a15, .ref a16]))] (yT cyI cyZ cyO) sz (fun _ => [(a0, .inr (11, [.ref a1, .int 0, .int 0, .ref a2, .ref a3, .ref a4, .ref a5, .int 0, .ref a6, .ref a7, .ref a8, .int 0, .int 32, .int 0, .ref a9, .ref a10, .int 0, .int 0, .ref a11, .ref a12, .ref a13, .ref a14, .ref a15, .ref a16]))])) 0 0 (va_A [(a0, .inr (11, [.ref a1, .int 0, .int 0, .ref a2, .ref a3, .ref a4, .ref a5, .int 0, .ref a6, .ref a7, .ref a8, .int 0, .int 32, .int 0, .ref a9, .ref a10, .int 0, .int 0, .ref a11, .ref a12, .ref a13, .ref a14, .ref a15, .ref a16]))] sz) := by
  refine yMet (cc := cX11_find) (maxL := 3) (ret := none) (by decide) rfl (Nat.le_of_ble_eq_true rfl) ?_
  intro p e s m below meth c A hx hb hr hlk hml hts hown hnm hsz hAe hP hK hD hA hS ls hl
  have hl : lv_has ls 3 [(0, .ref a0), (1, .int 14), (2, .int 0)] := hl
  refine lv_iload_n hx hb dX11_find_0 rfl (lv_at hl 2 rfl) ?_
  refine lv_if_ne (tgt := 5) hx hb dX11_find_1 (by decide) (fun c => absurd (by decide) c) (fun _ => ?_)
  refine W.widen (k := 0) (n := 0) (Nat.le_of_ble_eq_true rfl) (Nat.le_of_ble_eq_true rfl) ?_
  exact yy_vret () hx hb hr hlk hsz hAe hK hP hD hS [0] rfl rfl (by decide) (trivial) dX11_find_4
set_option maxHeartbeats 4000000 in
set_option maxRecDepth 100000 in
theorem r0_X11_find_110 (l : Launch) (dC : Nat → ClassId) (dI : Nat → Nat → Nat) (cyI cyZ cyO : ClassId) (sz : Nat) (a0 : Nat) (a1 : Nat) (a2 : Nat) (a3 : Nat) (a4 : Nat) (a5 : Nat) (a6 : Nat) (a7 : Nat) (a8 : Nat) (a9 : Nat) (a10 : Nat) (a11 : Nat) (a12 : Nat) (a13 : Nat) (a14 : Nat) (a15 : Nat) (a16 : Nat)  : Met l yX11_find wsX11_find ({ frames := 0, cells := 0, slots := 0, locals := 0 }) (yPre [.ref a0, .int 15, .int 0] (dC, dI) [(a0, .inr (11, [.ref a1, .int 0, .int 0, .ref a2, .ref a3, .ref a4, .ref a5, .int 0, .ref a6, .ref a7, .ref a8, .int 0, .int 32, .int 0, .ref a9, .ref a10, .int 0, .int 0, .ref a11, .ref a12, .ref a13, .ref a14, .ref a15, .ref a16]))] (yT cyI cyZ cyO) sz) (yQv (fun (u : Unit) => True) (dC, dI) [(a0, .inr (11, [.ref a1, .int 0, .int 0, .ref a2, .ref a3, .ref a4, .ref a5, .int 0, .ref a6, .ref a7, .ref a8, .int 0, .int 32, .int 0, .ref a9, .ref a10, .int 0, .int 0, .ref a11, .ref a12, .ref a13, .ref a14, .ref a15, .ref a16]))] (yT cyI cyZ cyO) sz (fun _ => [(a0, .inr (11, [.ref a1, .int 0, .int 0, .ref a2, .ref a3, .ref a4, .ref a5, .int 0, .ref a6, .ref a7, .ref a8, .int 0, .int 32, .int 0, .ref a9, .ref a10, .int 0, .int 0, .ref a11, .ref a12, .ref a13, .ref a14, .ref a15, .ref a16]))])) 0 0 (va_A [(a0, .inr (11, [.ref a1, .int 0, .int 0, .ref a2, .ref a3, .ref a4, .ref a5, .int 0, .ref a6, .ref a7, .ref a8, .int 0, .int 32, .int 0, .ref a9, .ref a10, .int 0, .int 0, .ref a11, .ref a12, .ref a13, .ref a14, .ref a15, .ref a16]))] sz) := by
  refine yMet (cc := cX11_find) (maxL := 3) (ret := none) (by decide) rfl (Nat.le_of_ble_eq_true rfl) ?_
  intro p e s m below meth c A hx hb hr hlk hml hts hown hnm hsz hAe hP hK hD hA hS ls hl
  have hl : lv_has ls 3 [(0, .ref a0), (1, .int 15), (2, .int 0)] := hl
  refine lv_iload_n hx hb dX11_find_0 rfl (lv_at hl 2 rfl) ?_
  refine lv_if_ne (tgt := 5) hx hb dX11_find_1 (by decide) (fun c => absurd (by decide) c) (fun _ => ?_)
  refine W.widen (k := 0) (n := 0) (Nat.le_of_ble_eq_true rfl) (Nat.le_of_ble_eq_true rfl) ?_
  exact yy_vret () hx hb hr hlk hsz hAe hK hP hD hS [0] rfl rfl (by decide) (trivial) dX11_find_4
set_option maxHeartbeats 4000000 in
set_option maxRecDepth 100000 in
theorem r0_X11_judgeLower_111 (l : Launch) (dC : Nat → ClassId) (dI : Nat → Nat → Nat) (cyI cyZ cyO : ClassId) (sz : Nat) (a0 : Nat) (a1 : Nat) (a2 : Nat) (a3 : Nat) (a4 : Nat) (a5 : Nat) (a6 : Nat) (a7 : Nat) (a8 : Nat) (a9 : Nat) (a10 : Nat) (a11 : Nat) (a12 : Nat) (a13 : Nat) (a14 : Nat) (a15 : Nat) (a16 : Nat)  : Met l yX11_judgeLower wsX11_judgeLower ({ frames := 1, cells := 0, slots := 0, locals := 22 }) (yPre [.ref a0, .int 0] (dC, dI) [(a0, .inr (11, [.ref a1, .int 0, .int 0, .ref a2, .ref a3, .ref a4, .ref a5, .int 0, .ref a6, .ref a7, .ref a8, .int 0, .int 32, .int 0, .ref a9, .ref a10, .int 0, .int 0, .ref a11, .ref a12, .ref a13, .ref a14, .ref a15, .ref a16])), (a9, .inl (cyI, 15, .inl yR))] (yT cyI cyZ cyO) sz) (yQv (fun (u : Unit) => True) (dC, dI) [(a0, .inr (11, [.ref a1, .int 0, .int 0, .ref a2, .ref a3, .ref a4, .ref a5, .int 0, .ref a6, .ref a7, .ref a8, .int 0, .int 32, .int 0, .ref a9, .ref a10, .int 0, .int 0, .ref a11, .ref a12, .ref a13, .ref a14, .ref a15, .ref a16])), (a9, .inl (cyI, 15, .inl yR))] (yT cyI cyZ cyO) sz (fun _ => [(a0, .inr (11, [.ref a1, .int 0, .int 0, .ref a2, .ref a3, .ref a4, .ref a5, .int 0, .ref a6, .ref a7, .ref a8, .int 0, .int 32, .int 0, .ref a9, .ref a10, .int 0, .int 0, .ref a11, .ref a12, .ref a13, .ref a14, .ref a15, .ref a16])), (a9, .inl (cyI, 15, .inl yR))])) 0 0 (va_A [(a0, .inr (11, [.ref a1, .int 0, .int 0, .ref a2, .ref a3, .ref a4, .ref a5, .int 0, .ref a6, .ref a7, .ref a8, .int 0, .int 32, .int 0, .ref a9, .ref a10, .int 0, .int 0, .ref a11, .ref a12, .ref a13, .ref a14, .ref a15, .ref a16])), (a9, .inl (cyI, 15, .inl yR))] sz) := by
  refine yMet (cc := cX11_judgeLower) (maxL := 6) (ret := none) (by decide) rfl (Nat.le_of_ble_eq_true rfl) ?_
  intro p e s m below meth c A hx hb hr hlk hml hts hown hnm hsz hAe hP hK hD hA hS ls hl
  have hl : lv_has ls 6 [(0, .ref a0), (1, .int 0)] := hl
  have hf39 := hts (.fieldLink RX11 39 "BusBridgeModel" "see" "[I") (by decide +kernel)
  have hf88 := hts (.fieldLink RX11 88 "BusBridgeModel" "slaves" "I") (by decide +kernel)
  have hnX11 : ∀ w ∈ wsX110, w ∈ wsX11_judgeLower := by decide +kernel
  refine lv_aload_n hx hb dX11_judgeLower_0 rfl (lv_at hl 0 rfl) ?_
  refine va_get (D := (dC, dI)) (ci := 11) (v := .ref a9) (C := RX11) (T := TX11) (N := 24) hx hb hts hnX11 hown hK hP 0 rfl rfl 14 (by decide) hf39 (fun _ h9 => h9) rfl dX11_judgeLower_1 ?_
  refine lv_bipush (v := 7) hx hb dX11_judgeLower_4 (by decide) ?_
  refine yy_iald (v := 0) hx hb hK hP 1 0 rfl rfl (yin (by decide)) dX11_judgeLower_6 rfl ?_
  refine lv_istore_n (lv' := [(2, .int 0), (0, .ref a0), (1, .int 0)]) hx hb dX11_judgeLower_7 rfl hl (by decide) rfl (fun ls hl => ?_)
  refine lv_aload_n hx hb dX11_judgeLower_8 rfl (lv_at hl 1 rfl) ?_
  refine va_get (D := (dC, dI)) (ci := 11) (v := .ref a9) (C := RX11) (T := TX11) (N := 24) hx hb hts hnX11 hown hK hP 0 rfl rfl 14 (by decide) hf39 (fun _ h9 => h9) rfl dX11_judgeLower_9 ?_
  refine lv_bipush (v := 8) hx hb dX11_judgeLower_12 (by decide) ?_
  refine yy_iald (v := 0) hx hb hK hP 1 0 rfl rfl (yin (by decide)) dX11_judgeLower_14 rfl ?_
  refine lv_if_eq (tgt := 22) hx hb dX11_judgeLower_15 (by decide) (fun _ => ?_) (fun c => absurd (by decide) c)
  refine lv_iconst (v := 0) hx hb dX11_judgeLower_22 (by decide) ?_
  refine lv_istore_n (lv' := [(3, .int 0), (2, .int 0), (0, .ref a0), (1, .int 0)]) hx hb dX11_judgeLower_23 rfl hl (by decide) rfl (fun ls hl => ?_)
  refine lv_aload_n hx hb dX11_judgeLower_24 rfl (lv_at hl 2 rfl) ?_
  refine lv_bipush (v := 8) hx hb dX11_judgeLower_25 (by decide) ?_
  refine lv_iload_n hx hb dX11_judgeLower_27 rfl (lv_at hl 1 rfl) ?_
  refine lv_if_eq (tgt := 61) hx hb dX11_judgeLower_28 (by decide) (fun _ => ?_) (fun c => absurd (by decide) c)
  refine lv_iconst (v := 0) hx hb dX11_judgeLower_61 (by decide) ?_
  have hPc := hP.sub (ws' := [(a0, .inr (11, [.ref a1, .int 0, .int 0, .ref a2, .ref a3, .ref a4, .ref a5, .int 0, .ref a6, .ref a7, .ref a8, .int 0, .int 32, .int 0, .ref a9, .ref a10, .int 0, .int 0, .ref a11, .ref a12, .ref a13, .ref a14, .ref a15, .ref a16]))]) [0] rfl
  have hDc := hD.sub (ws' := [(a0, .inr (11, [.ref a1, .int 0, .int 0, .ref a2, .ref a3, .ref a4, .ref a5, .int 0, .ref a6, .ref a7, .ref a8, .int 0, .int 32, .int 0, .ref a9, .ref a10, .int 0, .int 0, .ref a11, .ref a12, .ref a13, .ref a14, .ref a15, .ref a16]))]) [0] (by decide) rfl
  refine yy_callv [0] [1] (wr := [(a9, .inl (cyI, 15, .inl yR))]) (va_runV (As := [.int 8, .int 0]) (rest := []) ⟨hx, hb, hml, hown, hts⟩ (r0_X11_find_103 l dC dI cyI cyZ cyO s.heap.size a0 a1 a2 a3 a4 a5 a6 a7 a8 a9 a10 a11 a12 a13 a14 a15 a16 ) (cwV 2 hts gX11_judgeLower_X11_find rfl rfl rfl (by decide +kernel) ⟨Nat.le_of_ble_eq_true rfl, Nat.le_of_ble_eq_true rfl⟩) (yPreV hK hPc hDc (ci := 11) (q0 := 0) rfl rfl) rfl rfl hl.1 rfl (lv_room (Nat.le_of_ble_eq_true rfl)) dX11_judgeLower_62 ⟨Nat.le_of_ble_eq_true rfl, Nat.le_of_ble_eq_true rfl⟩) hP hD hS hA rfl rfl (by decide) (by decide) (fun u_1 H locs hw hP hD hS => ?_)
  have hP : va_P (dC, dI) vwCl [(a9, .inl (cyI, 15, .inl yR)), (a0, .inr (11, [.ref a1, .int 0, .int 0, .ref a2, .ref a3, .ref a4, .ref a5, .int 0, .ref a6, .ref a7, .ref a8, .int 0, .int 32, .int 0, .ref a9, .ref a10, .int 0, .int 0, .ref a11, .ref a12, .ref a13, .ref a14, .ref a15, .ref a16]))] H := hP
  have hD : va_D A [(a9, .inl (cyI, 15, .inl yR)), (a0, .inr (11, [.ref a1, .int 0, .int 0, .ref a2, .ref a3, .ref a4, .ref a5, .int 0, .ref a6, .ref a7, .ref a8, .int 0, .int 32, .int 0, .ref a9, .ref a10, .int 0, .int 0, .ref a11, .ref a12, .ref a13, .ref a14, .ref a15, .ref a16]))] := hD
  refine W.widen (k := 0) (n := 0) (Nat.le_of_ble_eq_true rfl) (Nat.le_of_ble_eq_true rfl) ?_
  refine lv_aload_n hx hb dX11_judgeLower_65 rfl (lv_at hl 2 rfl) ?_
  refine lv_bipush (v := 9) hx hb dX11_judgeLower_66 (by decide) ?_
  refine lv_iload_n hx hb dX11_judgeLower_68 rfl (lv_at hl 0 rfl) ?_
  refine lv_if_eq (tgt := 80) hx hb dX11_judgeLower_69 (by decide) (fun _ => ?_) (fun c => absurd (by decide) c)
  refine lv_iconst (v := 0) hx hb dX11_judgeLower_80 (by decide) ?_
  have hPc := hP.sub (ws' := [(a0, .inr (11, [.ref a1, .int 0, .int 0, .ref a2, .ref a3, .ref a4, .ref a5, .int 0, .ref a6, .ref a7, .ref a8, .int 0, .int 32, .int 0, .ref a9, .ref a10, .int 0, .int 0, .ref a11, .ref a12, .ref a13, .ref a14, .ref a15, .ref a16]))]) [1] rfl
  have hDc := hD.sub (ws' := [(a0, .inr (11, [.ref a1, .int 0, .int 0, .ref a2, .ref a3, .ref a4, .ref a5, .int 0, .ref a6, .ref a7, .ref a8, .int 0, .int 32, .int 0, .ref a9, .ref a10, .int 0, .int 0, .ref a11, .ref a12, .ref a13, .ref a14, .ref a15, .ref a16]))]) [1] (by decide) rfl
  refine yy_callv [1] [0] (wr := [(a9, .inl (cyI, 15, .inl yR))]) (va_runV (As := [.int 9, .int 0]) (rest := []) ⟨hx, hb, hml, hown, hts⟩ (r0_X11_find_104 l dC dI cyI cyZ cyO H.size a0 a1 a2 a3 a4 a5 a6 a7 a8 a9 a10 a11 a12 a13 a14 a15 a16 ) (cwV 2 hts gX11_judgeLower_X11_find rfl rfl rfl (by decide +kernel) ⟨Nat.le_of_ble_eq_true rfl, Nat.le_of_ble_eq_true rfl⟩) (yPreV hK hPc hDc (ci := 11) (q0 := 0) rfl rfl) rfl rfl hl.1 rfl (lv_room (Nat.le_of_ble_eq_true rfl)) dX11_judgeLower_81 ⟨Nat.le_of_ble_eq_true rfl, Nat.le_of_ble_eq_true rfl⟩) hP hD hS hA rfl rfl (by decide) (by decide) (fun u_2 H locs hw hP hD hS => ?_)
  have hP : va_P (dC, dI) vwCl [(a9, .inl (cyI, 15, .inl yR)), (a0, .inr (11, [.ref a1, .int 0, .int 0, .ref a2, .ref a3, .ref a4, .ref a5, .int 0, .ref a6, .ref a7, .ref a8, .int 0, .int 32, .int 0, .ref a9, .ref a10, .int 0, .int 0, .ref a11, .ref a12, .ref a13, .ref a14, .ref a15, .ref a16]))] H := hP
  have hD : va_D A [(a9, .inl (cyI, 15, .inl yR)), (a0, .inr (11, [.ref a1, .int 0, .int 0, .ref a2, .ref a3, .ref a4, .ref a5, .int 0, .ref a6, .ref a7, .ref a8, .int 0, .int 32, .int 0, .ref a9, .ref a10, .int 0, .int 0, .ref a11, .ref a12, .ref a13, .ref a14, .ref a15, .ref a16]))] := hD
  refine W.widen (k := 0) (n := 0) (Nat.le_of_ble_eq_true rfl) (Nat.le_of_ble_eq_true rfl) ?_
  refine lv_aload_n hx hb dX11_judgeLower_84 rfl (lv_at hl 2 rfl) ?_
  refine lv_bipush (v := 10) hx hb dX11_judgeLower_85 (by decide) ?_
  refine lv_iload_n hx hb dX11_judgeLower_87 rfl (lv_at hl 3 rfl) ?_
  refine lv_if_eq (tgt := 108) hx hb dX11_judgeLower_88 (by decide) (fun _ => ?_) (fun c => absurd (by decide) c)
  refine lv_iconst (v := 0) hx hb dX11_judgeLower_108 (by decide) ?_
  have hPc := hP.sub (ws' := [(a0, .inr (11, [.ref a1, .int 0, .int 0, .ref a2, .ref a3, .ref a4, .ref a5, .int 0, .ref a6, .ref a7, .ref a8, .int 0, .int 32, .int 0, .ref a9, .ref a10, .int 0, .int 0, .ref a11, .ref a12, .ref a13, .ref a14, .ref a15, .ref a16]))]) [1] rfl
  have hDc := hD.sub (ws' := [(a0, .inr (11, [.ref a1, .int 0, .int 0, .ref a2, .ref a3, .ref a4, .ref a5, .int 0, .ref a6, .ref a7, .ref a8, .int 0, .int 32, .int 0, .ref a9, .ref a10, .int 0, .int 0, .ref a11, .ref a12, .ref a13, .ref a14, .ref a15, .ref a16]))]) [1] (by decide) rfl
  refine yy_callv [1] [0] (wr := [(a9, .inl (cyI, 15, .inl yR))]) (va_runV (As := [.int 10, .int 0]) (rest := []) ⟨hx, hb, hml, hown, hts⟩ (r0_X11_find_105 l dC dI cyI cyZ cyO H.size a0 a1 a2 a3 a4 a5 a6 a7 a8 a9 a10 a11 a12 a13 a14 a15 a16 ) (cwV 2 hts gX11_judgeLower_X11_find rfl rfl rfl (by decide +kernel) ⟨Nat.le_of_ble_eq_true rfl, Nat.le_of_ble_eq_true rfl⟩) (yPreV hK hPc hDc (ci := 11) (q0 := 0) rfl rfl) rfl rfl hl.1 rfl (lv_room (Nat.le_of_ble_eq_true rfl)) dX11_judgeLower_109 ⟨Nat.le_of_ble_eq_true rfl, Nat.le_of_ble_eq_true rfl⟩) hP hD hS hA rfl rfl (by decide) (by decide) (fun u_3 H locs hw hP hD hS => ?_)
  have hP : va_P (dC, dI) vwCl [(a9, .inl (cyI, 15, .inl yR)), (a0, .inr (11, [.ref a1, .int 0, .int 0, .ref a2, .ref a3, .ref a4, .ref a5, .int 0, .ref a6, .ref a7, .ref a8, .int 0, .int 32, .int 0, .ref a9, .ref a10, .int 0, .int 0, .ref a11, .ref a12, .ref a13, .ref a14, .ref a15, .ref a16]))] H := hP
  have hD : va_D A [(a9, .inl (cyI, 15, .inl yR)), (a0, .inr (11, [.ref a1, .int 0, .int 0, .ref a2, .ref a3, .ref a4, .ref a5, .int 0, .ref a6, .ref a7, .ref a8, .int 0, .int 32, .int 0, .ref a9, .ref a10, .int 0, .int 0, .ref a11, .ref a12, .ref a13, .ref a14, .ref a15, .ref a16]))] := hD
  refine W.widen (k := 0) (n := 0) (Nat.le_of_ble_eq_true rfl) (Nat.le_of_ble_eq_true rfl) ?_
  refine lv_aload_n hx hb dX11_judgeLower_112 rfl (lv_at hl 2 rfl) ?_
  refine lv_bipush (v := 11) hx hb dX11_judgeLower_113 (by decide) ?_
  refine lv_iload_n hx hb dX11_judgeLower_115 rfl (lv_at hl 3 rfl) ?_
  refine lv_if_eq (tgt := 154) hx hb dX11_judgeLower_116 (by decide) (fun _ => ?_) (fun c => absurd (by decide) c)
  refine lv_iconst (v := 0) hx hb dX11_judgeLower_154 (by decide) ?_
  have hPc := hP.sub (ws' := [(a0, .inr (11, [.ref a1, .int 0, .int 0, .ref a2, .ref a3, .ref a4, .ref a5, .int 0, .ref a6, .ref a7, .ref a8, .int 0, .int 32, .int 0, .ref a9, .ref a10, .int 0, .int 0, .ref a11, .ref a12, .ref a13, .ref a14, .ref a15, .ref a16]))]) [1] rfl
  have hDc := hD.sub (ws' := [(a0, .inr (11, [.ref a1, .int 0, .int 0, .ref a2, .ref a3, .ref a4, .ref a5, .int 0, .ref a6, .ref a7, .ref a8, .int 0, .int 32, .int 0, .ref a9, .ref a10, .int 0, .int 0, .ref a11, .ref a12, .ref a13, .ref a14, .ref a15, .ref a16]))]) [1] (by decide) rfl
  refine yy_callv [1] [0] (wr := [(a9, .inl (cyI, 15, .inl yR))]) (va_runV (As := [.int 11, .int 0]) (rest := []) ⟨hx, hb, hml, hown, hts⟩ (r0_X11_find_106 l dC dI cyI cyZ cyO H.size a0 a1 a2 a3 a4 a5 a6 a7 a8 a9 a10 a11 a12 a13 a14 a15 a16 ) (cwV 2 hts gX11_judgeLower_X11_find rfl rfl rfl (by decide +kernel) ⟨Nat.le_of_ble_eq_true rfl, Nat.le_of_ble_eq_true rfl⟩) (yPreV hK hPc hDc (ci := 11) (q0 := 0) rfl rfl) rfl rfl hl.1 rfl (lv_room (Nat.le_of_ble_eq_true rfl)) dX11_judgeLower_155 ⟨Nat.le_of_ble_eq_true rfl, Nat.le_of_ble_eq_true rfl⟩) hP hD hS hA rfl rfl (by decide) (by decide) (fun u_4 H locs hw hP hD hS => ?_)
  have hP : va_P (dC, dI) vwCl [(a9, .inl (cyI, 15, .inl yR)), (a0, .inr (11, [.ref a1, .int 0, .int 0, .ref a2, .ref a3, .ref a4, .ref a5, .int 0, .ref a6, .ref a7, .ref a8, .int 0, .int 32, .int 0, .ref a9, .ref a10, .int 0, .int 0, .ref a11, .ref a12, .ref a13, .ref a14, .ref a15, .ref a16]))] H := hP
  have hD : va_D A [(a9, .inl (cyI, 15, .inl yR)), (a0, .inr (11, [.ref a1, .int 0, .int 0, .ref a2, .ref a3, .ref a4, .ref a5, .int 0, .ref a6, .ref a7, .ref a8, .int 0, .int 32, .int 0, .ref a9, .ref a10, .int 0, .int 0, .ref a11, .ref a12, .ref a13, .ref a14, .ref a15, .ref a16]))] := hD
  refine W.widen (k := 0) (n := 0) (Nat.le_of_ble_eq_true rfl) (Nat.le_of_ble_eq_true rfl) ?_
  refine lv_aload_n hx hb dX11_judgeLower_158 rfl (lv_at hl 2 rfl) ?_
  refine lv_bipush (v := 12) hx hb dX11_judgeLower_159 (by decide) ?_
  refine lv_iload_n hx hb dX11_judgeLower_161 rfl (lv_at hl 3 rfl) ?_
  refine lv_if_eq (tgt := 200) hx hb dX11_judgeLower_162 (by decide) (fun _ => ?_) (fun c => absurd (by decide) c)
  refine lv_iconst (v := 0) hx hb dX11_judgeLower_200 (by decide) ?_
  have hPc := hP.sub (ws' := [(a0, .inr (11, [.ref a1, .int 0, .int 0, .ref a2, .ref a3, .ref a4, .ref a5, .int 0, .ref a6, .ref a7, .ref a8, .int 0, .int 32, .int 0, .ref a9, .ref a10, .int 0, .int 0, .ref a11, .ref a12, .ref a13, .ref a14, .ref a15, .ref a16]))]) [1] rfl
  have hDc := hD.sub (ws' := [(a0, .inr (11, [.ref a1, .int 0, .int 0, .ref a2, .ref a3, .ref a4, .ref a5, .int 0, .ref a6, .ref a7, .ref a8, .int 0, .int 32, .int 0, .ref a9, .ref a10, .int 0, .int 0, .ref a11, .ref a12, .ref a13, .ref a14, .ref a15, .ref a16]))]) [1] (by decide) rfl
  refine yy_callv [1] [0] (wr := [(a9, .inl (cyI, 15, .inl yR))]) (va_runV (As := [.int 12, .int 0]) (rest := []) ⟨hx, hb, hml, hown, hts⟩ (r0_X11_find_107 l dC dI cyI cyZ cyO H.size a0 a1 a2 a3 a4 a5 a6 a7 a8 a9 a10 a11 a12 a13 a14 a15 a16 ) (cwV 2 hts gX11_judgeLower_X11_find rfl rfl rfl (by decide +kernel) ⟨Nat.le_of_ble_eq_true rfl, Nat.le_of_ble_eq_true rfl⟩) (yPreV hK hPc hDc (ci := 11) (q0 := 0) rfl rfl) rfl rfl hl.1 rfl (lv_room (Nat.le_of_ble_eq_true rfl)) dX11_judgeLower_201 ⟨Nat.le_of_ble_eq_true rfl, Nat.le_of_ble_eq_true rfl⟩) hP hD hS hA rfl rfl (by decide) (by decide) (fun u_5 H locs hw hP hD hS => ?_)
  have hP : va_P (dC, dI) vwCl [(a9, .inl (cyI, 15, .inl yR)), (a0, .inr (11, [.ref a1, .int 0, .int 0, .ref a2, .ref a3, .ref a4, .ref a5, .int 0, .ref a6, .ref a7, .ref a8, .int 0, .int 32, .int 0, .ref a9, .ref a10, .int 0, .int 0, .ref a11, .ref a12, .ref a13, .ref a14, .ref a15, .ref a16]))] H := hP
  have hD : va_D A [(a9, .inl (cyI, 15, .inl yR)), (a0, .inr (11, [.ref a1, .int 0, .int 0, .ref a2, .ref a3, .ref a4, .ref a5, .int 0, .ref a6, .ref a7, .ref a8, .int 0, .int 32, .int 0, .ref a9, .ref a10, .int 0, .int 0, .ref a11, .ref a12, .ref a13, .ref a14, .ref a15, .ref a16]))] := hD
  refine W.widen (k := 0) (n := 0) (Nat.le_of_ble_eq_true rfl) (Nat.le_of_ble_eq_true rfl) ?_
  refine lv_aload_n hx hb dX11_judgeLower_204 rfl (lv_at hl 2 rfl) ?_
  refine lv_bipush (v := 13) hx hb dX11_judgeLower_205 (by decide) ?_
  refine lv_iload_n hx hb dX11_judgeLower_207 rfl (lv_at hl 3 rfl) ?_
  refine lv_if_eq (tgt := 269) hx hb dX11_judgeLower_208 (by decide) (fun _ => ?_) (fun c => absurd (by decide) c)
  refine lv_iconst (v := 0) hx hb dX11_judgeLower_269 (by decide) ?_
  have hPc := hP.sub (ws' := [(a0, .inr (11, [.ref a1, .int 0, .int 0, .ref a2, .ref a3, .ref a4, .ref a5, .int 0, .ref a6, .ref a7, .ref a8, .int 0, .int 32, .int 0, .ref a9, .ref a10, .int 0, .int 0, .ref a11, .ref a12, .ref a13, .ref a14, .ref a15, .ref a16]))]) [1] rfl
  have hDc := hD.sub (ws' := [(a0, .inr (11, [.ref a1, .int 0, .int 0, .ref a2, .ref a3, .ref a4, .ref a5, .int 0, .ref a6, .ref a7, .ref a8, .int 0, .int 32, .int 0, .ref a9, .ref a10, .int 0, .int 0, .ref a11, .ref a12, .ref a13, .ref a14, .ref a15, .ref a16]))]) [1] (by decide) rfl
  refine yy_callv [1] [0] (wr := [(a9, .inl (cyI, 15, .inl yR))]) (va_runV (As := [.int 13, .int 0]) (rest := []) ⟨hx, hb, hml, hown, hts⟩ (r0_X11_find_108 l dC dI cyI cyZ cyO H.size a0 a1 a2 a3 a4 a5 a6 a7 a8 a9 a10 a11 a12 a13 a14 a15 a16 ) (cwV 2 hts gX11_judgeLower_X11_find rfl rfl rfl (by decide +kernel) ⟨Nat.le_of_ble_eq_true rfl, Nat.le_of_ble_eq_true rfl⟩) (yPreV hK hPc hDc (ci := 11) (q0 := 0) rfl rfl) rfl rfl hl.1 rfl (lv_room (Nat.le_of_ble_eq_true rfl)) dX11_judgeLower_270 ⟨Nat.le_of_ble_eq_true rfl, Nat.le_of_ble_eq_true rfl⟩) hP hD hS hA rfl rfl (by decide) (by decide) (fun u_6 H locs hw hP hD hS => ?_)
  have hP : va_P (dC, dI) vwCl [(a9, .inl (cyI, 15, .inl yR)), (a0, .inr (11, [.ref a1, .int 0, .int 0, .ref a2, .ref a3, .ref a4, .ref a5, .int 0, .ref a6, .ref a7, .ref a8, .int 0, .int 32, .int 0, .ref a9, .ref a10, .int 0, .int 0, .ref a11, .ref a12, .ref a13, .ref a14, .ref a15, .ref a16]))] H := hP
  have hD : va_D A [(a9, .inl (cyI, 15, .inl yR)), (a0, .inr (11, [.ref a1, .int 0, .int 0, .ref a2, .ref a3, .ref a4, .ref a5, .int 0, .ref a6, .ref a7, .ref a8, .int 0, .int 32, .int 0, .ref a9, .ref a10, .int 0, .int 0, .ref a11, .ref a12, .ref a13, .ref a14, .ref a15, .ref a16]))] := hD
  refine W.widen (k := 0) (n := 0) (Nat.le_of_ble_eq_true rfl) (Nat.le_of_ble_eq_true rfl) ?_
  refine lv_aload_n hx hb dX11_judgeLower_273 rfl (lv_at hl 2 rfl) ?_
  refine lv_bipush (v := 14) hx hb dX11_judgeLower_274 (by decide) ?_
  refine lv_iload_n hx hb dX11_judgeLower_276 rfl (lv_at hl 3 rfl) ?_
  refine lv_if_eq (tgt := 306) hx hb dX11_judgeLower_277 (by decide) (fun _ => ?_) (fun c => absurd (by decide) c)
  refine lv_iconst (v := 0) hx hb dX11_judgeLower_306 (by decide) ?_
  have hPc := hP.sub (ws' := [(a0, .inr (11, [.ref a1, .int 0, .int 0, .ref a2, .ref a3, .ref a4, .ref a5, .int 0, .ref a6, .ref a7, .ref a8, .int 0, .int 32, .int 0, .ref a9, .ref a10, .int 0, .int 0, .ref a11, .ref a12, .ref a13, .ref a14, .ref a15, .ref a16]))]) [1] rfl
  have hDc := hD.sub (ws' := [(a0, .inr (11, [.ref a1, .int 0, .int 0, .ref a2, .ref a3, .ref a4, .ref a5, .int 0, .ref a6, .ref a7, .ref a8, .int 0, .int 32, .int 0, .ref a9, .ref a10, .int 0, .int 0, .ref a11, .ref a12, .ref a13, .ref a14, .ref a15, .ref a16]))]) [1] (by decide) rfl
  refine yy_callv [1] [0] (wr := [(a9, .inl (cyI, 15, .inl yR))]) (va_runV (As := [.int 14, .int 0]) (rest := []) ⟨hx, hb, hml, hown, hts⟩ (r0_X11_find_109 l dC dI cyI cyZ cyO H.size a0 a1 a2 a3 a4 a5 a6 a7 a8 a9 a10 a11 a12 a13 a14 a15 a16 ) (cwV 2 hts gX11_judgeLower_X11_find rfl rfl rfl (by decide +kernel) ⟨Nat.le_of_ble_eq_true rfl, Nat.le_of_ble_eq_true rfl⟩) (yPreV hK hPc hDc (ci := 11) (q0 := 0) rfl rfl) rfl rfl hl.1 rfl (lv_room (Nat.le_of_ble_eq_true rfl)) dX11_judgeLower_307 ⟨Nat.le_of_ble_eq_true rfl, Nat.le_of_ble_eq_true rfl⟩) hP hD hS hA rfl rfl (by decide) (by decide) (fun u_7 H locs hw hP hD hS => ?_)
  have hP : va_P (dC, dI) vwCl [(a9, .inl (cyI, 15, .inl yR)), (a0, .inr (11, [.ref a1, .int 0, .int 0, .ref a2, .ref a3, .ref a4, .ref a5, .int 0, .ref a6, .ref a7, .ref a8, .int 0, .int 32, .int 0, .ref a9, .ref a10, .int 0, .int 0, .ref a11, .ref a12, .ref a13, .ref a14, .ref a15, .ref a16]))] H := hP
  have hD : va_D A [(a9, .inl (cyI, 15, .inl yR)), (a0, .inr (11, [.ref a1, .int 0, .int 0, .ref a2, .ref a3, .ref a4, .ref a5, .int 0, .ref a6, .ref a7, .ref a8, .int 0, .int 32, .int 0, .ref a9, .ref a10, .int 0, .int 0, .ref a11, .ref a12, .ref a13, .ref a14, .ref a15, .ref a16]))] := hD
  refine W.widen (k := 0) (n := 0) (Nat.le_of_ble_eq_true rfl) (Nat.le_of_ble_eq_true rfl) ?_
  refine lv_iconst (v := 0) hx hb dX11_judgeLower_310 (by decide) ?_
  refine lv_istore (lv' := [(4, .int 0), (3, .int 0), (2, .int 0), (0, .ref a0), (1, .int 0)]) hx hb dX11_judgeLower_311 hl (by decide) rfl (fun ls hl => ?_)
  refine lv_iconst (v := 0) hx hb dX11_judgeLower_313 (by decide) ?_
  refine lv_istore (lv' := [(5, .int 0), (4, .int 0), (3, .int 0), (2, .int 0), (0, .ref a0), (1, .int 0)]) hx hb dX11_judgeLower_314 hl (by decide) rfl (fun ls hl => ?_)
  refine lv_iload hx hb dX11_judgeLower_316 (lv_at hl 0 rfl) ?_
  refine lv_aload_n hx hb dX11_judgeLower_318 rfl (lv_at hl 4 rfl) ?_
  refine va_get (D := (dC, dI)) (ci := 11) (v := .int 0) (C := RX11) (T := TX11) (N := 24) hx hb hts hnX11 hown hK hP 1 rfl rfl 2 (by decide) hf88 (fun _ h9 => h9) rfl dX11_judgeLower_319 ?_
  refine lv_icmp_ge (tgt := 369) hx hb dX11_judgeLower_322 (by decide) (fun _ => ?_) (fun c => absurd (by decide) c)
  refine lv_aload_n hx hb dX11_judgeLower_369 rfl (lv_at hl 4 rfl) ?_
  refine lv_bipush (v := 15) hx hb dX11_judgeLower_370 (by decide) ?_
  refine lv_iload_n hx hb dX11_judgeLower_372 rfl (lv_at hl 2 rfl) ?_
  refine lv_if_eq (tgt := 385) hx hb dX11_judgeLower_373 (by decide) (fun _ => ?_) (fun c => absurd (by decide) c)
  refine lv_iconst (v := 0) hx hb dX11_judgeLower_385 (by decide) ?_
  have hPc := hP.sub (ws' := [(a0, .inr (11, [.ref a1, .int 0, .int 0, .ref a2, .ref a3, .ref a4, .ref a5, .int 0, .ref a6, .ref a7, .ref a8, .int 0, .int 32, .int 0, .ref a9, .ref a10, .int 0, .int 0, .ref a11, .ref a12, .ref a13, .ref a14, .ref a15, .ref a16]))]) [1] rfl
  have hDc := hD.sub (ws' := [(a0, .inr (11, [.ref a1, .int 0, .int 0, .ref a2, .ref a3, .ref a4, .ref a5, .int 0, .ref a6, .ref a7, .ref a8, .int 0, .int 32, .int 0, .ref a9, .ref a10, .int 0, .int 0, .ref a11, .ref a12, .ref a13, .ref a14, .ref a15, .ref a16]))]) [1] (by decide) rfl
  refine yy_callv [1] [0] (wr := [(a9, .inl (cyI, 15, .inl yR))]) (va_runV (As := [.int 15, .int 0]) (rest := []) ⟨hx, hb, hml, hown, hts⟩ (r0_X11_find_110 l dC dI cyI cyZ cyO H.size a0 a1 a2 a3 a4 a5 a6 a7 a8 a9 a10 a11 a12 a13 a14 a15 a16 ) (cwV 2 hts gX11_judgeLower_X11_find rfl rfl rfl (by decide +kernel) ⟨Nat.le_of_ble_eq_true rfl, Nat.le_of_ble_eq_true rfl⟩) (yPreV hK hPc hDc (ci := 11) (q0 := 0) rfl rfl) rfl rfl hl.1 rfl (lv_room (Nat.le_of_ble_eq_true rfl)) dX11_judgeLower_386 ⟨Nat.le_of_ble_eq_true rfl, Nat.le_of_ble_eq_true rfl⟩) hP hD hS hA rfl rfl (by decide) (by decide) (fun u_8 H locs hw hP hD hS => ?_)
  have hP : va_P (dC, dI) vwCl [(a9, .inl (cyI, 15, .inl yR)), (a0, .inr (11, [.ref a1, .int 0, .int 0, .ref a2, .ref a3, .ref a4, .ref a5, .int 0, .ref a6, .ref a7, .ref a8, .int 0, .int 32, .int 0, .ref a9, .ref a10, .int 0, .int 0, .ref a11, .ref a12, .ref a13, .ref a14, .ref a15, .ref a16]))] H := hP
  have hD : va_D A [(a9, .inl (cyI, 15, .inl yR)), (a0, .inr (11, [.ref a1, .int 0, .int 0, .ref a2, .ref a3, .ref a4, .ref a5, .int 0, .ref a6, .ref a7, .ref a8, .int 0, .int 32, .int 0, .ref a9, .ref a10, .int 0, .int 0, .ref a11, .ref a12, .ref a13, .ref a14, .ref a15, .ref a16]))] := hD
  refine W.widen (k := 0) (n := 0) (Nat.le_of_ble_eq_true rfl) (Nat.le_of_ble_eq_true rfl) ?_
  refine W.widen (k := 0) (n := 0) (Nat.le_of_ble_eq_true rfl) (Nat.le_of_ble_eq_true rfl) ?_
  exact yy_vret () hx hb hr hlk hsz hAe hK hP hD hS [1, 0] rfl rfl (by decide) (trivial) dX11_judgeLower_389
set_option maxHeartbeats 4000000 in
set_option maxRecDepth 100000 in
theorem r0_X11_judge_112 (l : Launch) (dC : Nat → ClassId) (dI : Nat → Nat → Nat) (cyI cyZ cyO : ClassId) (sz : Nat) (a0 : Nat) (a1 : Nat) (a2 : Nat) (a3 : Nat) (a4 : Nat) (a5 : Nat) (a6 : Nat) (a7 : Nat) (a8 : Nat) (a9 : Nat) (a10 : Nat) (a11 : Nat) (a12 : Nat) (a13 : Nat) (a14 : Nat) (a15 : Nat) (a16 : Nat)  : Met l yX11_judge wsX11_judge ({ frames := 2, cells := 0, slots := 0, locals := 47 }) (yPre [.ref a0] (dC, dI) [(a0, .inr (11, [.ref a1, .int 0, .int 0, .ref a2, .ref a3, .ref a4, .ref a5, .int 0, .ref a6, .ref a7, .ref a8, .int 0, .int 32, .int 0, .ref a9, .ref a10, .int 0, .int 0, .ref a11, .ref a12, .ref a13, .ref a14, .ref a15, .ref a16])), (a1, .inl (cyI, 2490, .inl (yz 0 0))), (a9, .inl (cyI, 15, .inl yR))] (yT cyI cyZ cyO) sz) (yQv (fun (u : Unit) => True) (dC, dI) [(a0, .inr (11, [.ref a1, .int 0, .int 0, .ref a2, .ref a3, .ref a4, .ref a5, .int 0, .ref a6, .ref a7, .ref a8, .int 0, .int 32, .int 0, .ref a9, .ref a10, .int 0, .int 0, .ref a11, .ref a12, .ref a13, .ref a14, .ref a15, .ref a16])), (a1, .inl (cyI, 2490, .inl (yz 0 0))), (a9, .inl (cyI, 15, .inl yR))] (yT cyI cyZ cyO) sz (fun _ => [(a0, .inr (11, [.ref a1, .int 0, .int 0, .ref a2, .ref a3, .ref a4, .ref a5, .int 0, .ref a6, .ref a7, .ref a8, .int 0, .int 32, .int 0, .ref a9, .ref a10, .int 0, .int 0, .ref a11, .ref a12, .ref a13, .ref a14, .ref a15, .ref a16])), (a1, .inl (cyI, 2490, .inl (yz 0 0))), (a9, .inl (cyI, 15, .inl yR))])) 0 0 (va_A [(a0, .inr (11, [.ref a1, .int 0, .int 0, .ref a2, .ref a3, .ref a4, .ref a5, .int 0, .ref a6, .ref a7, .ref a8, .int 0, .int 32, .int 0, .ref a9, .ref a10, .int 0, .int 0, .ref a11, .ref a12, .ref a13, .ref a14, .ref a15, .ref a16])), (a1, .inl (cyI, 2490, .inl (yz 0 0))), (a9, .inl (cyI, 15, .inl yR))] sz) := by
  refine yMet (cc := cX11_judge) (maxL := 5) (ret := none) (by decide) rfl (Nat.le_of_ble_eq_true rfl) ?_
  intro p e s m below meth c A hx hb hr hlk hml hts hown hnm hsz hAe hP hK hD hA hS ls hl
  have hl : lv_has ls 5 [(0, .ref a0)] := hl
  have hf39 := hts (.fieldLink RX11 39 "BusBridgeModel" "see" "[I") (by decide +kernel)
  have hf7 := hts (.fieldLink RX11 7 "BusBridgeModel" "z" "[I") (by decide +kernel)
  have hnX11 : ∀ w ∈ wsX110, w ∈ wsX11_judge := by decide +kernel
  refine lv_aload_n hx hb dX11_judge_0 rfl (lv_at hl 0 rfl) ?_
  refine va_get (D := (dC, dI)) (ci := 11) (v := .ref a1) (C := RX11) (T := TX11) (N := 24) hx hb hts hnX11 hown hK hP 0 rfl rfl 0 (by decide) hf7 (fun _ h9 => h9) rfl dX11_judge_1 ?_
  refine lv_sipush (v := 179) hx hb dX11_judge_4 (by decide) ?_
  refine yy_iald (v := 0) hx hb hK hP 1 0 rfl rfl (yin (by decide)) dX11_judge_7 rfl ?_
  refine lv_if_le (tgt := 15) hx hb dX11_judge_8 (by decide) (fun _ => ?_) (fun c => absurd (by decide) c)
  refine lv_iconst (v := 0) hx hb dX11_judge_15 (by decide) ?_
  refine lv_istore_n (lv' := [(1, .int 0), (0, .ref a0)]) hx hb dX11_judge_16 rfl hl (by decide) rfl (fun ls hl => ?_)
  refine lv_iload_n hx hb dX11_judge_17 rfl (lv_at hl 0 rfl) ?_
  refine lv_if_eq (tgt := 85) hx hb dX11_judge_18 (by decide) (fun _ => ?_) (fun c => absurd (by decide) c)
  refine lv_aload_n hx hb dX11_judge_85 rfl (lv_at hl 1 rfl) ?_
  refine va_get (D := (dC, dI)) (ci := 11) (v := .ref a1) (C := RX11) (T := TX11) (N := 24) hx hb hts hnX11 hown hK hP 0 rfl rfl 0 (by decide) hf7 (fun _ h9 => h9) rfl dX11_judge_86 ?_
  refine lv_sipush (v := 209) hx hb dX11_judge_89 (by decide) ?_
  refine yy_iald (v := 0) hx hb hK hP 1 0 rfl rfl (yin (by decide)) dX11_judge_92 rfl ?_
  refine lv_iconst (v := 1) hx hb dX11_judge_93 (by decide) ?_
  refine lv_icmp_ne (tgt := 101) hx hb dX11_judge_94 (by decide) (fun _ => ?_) (fun c => absurd c (by decide))
  refine lv_iconst (v := 0) hx hb dX11_judge_101 (by decide) ?_
  refine lv_istore_n (lv' := [(2, .int 0), (1, .int 0), (0, .ref a0)]) hx hb dX11_judge_102 rfl hl (by decide) rfl (fun ls hl => ?_)
  refine lv_aload_n hx hb dX11_judge_103 rfl (lv_at hl 2 rfl) ?_
  refine lv_iconst (v := 1) hx hb dX11_judge_104 (by decide) ?_
  refine lv_iload_n hx hb dX11_judge_105 rfl (lv_at hl 1 rfl) ?_
  refine lv_if_eq (tgt := 164) hx hb dX11_judge_106 (by decide) (fun _ => ?_) (fun c => absurd (by decide) c)
  refine lv_iconst (v := 0) hx hb dX11_judge_164 (by decide) ?_
  have hPc := hP.sub (ws' := [(a0, .inr (11, [.ref a1, .int 0, .int 0, .ref a2, .ref a3, .ref a4, .ref a5, .int 0, .ref a6, .ref a7, .ref a8, .int 0, .int 32, .int 0, .ref a9, .ref a10, .int 0, .int 0, .ref a11, .ref a12, .ref a13, .ref a14, .ref a15, .ref a16]))]) [0] rfl
  have hDc := hD.sub (ws' := [(a0, .inr (11, [.ref a1, .int 0, .int 0, .ref a2, .ref a3, .ref a4, .ref a5, .int 0, .ref a6, .ref a7, .ref a8, .int 0, .int 32, .int 0, .ref a9, .ref a10, .int 0, .int 0, .ref a11, .ref a12, .ref a13, .ref a14, .ref a15, .ref a16]))]) [0] (by decide) rfl
  refine yy_callv [0] [1, 2] (wr := [(a1, .inl (cyI, 2490, .inl (yz 0 0))), (a9, .inl (cyI, 15, .inl yR))]) (va_runV (As := [.int 1, .int 0]) (rest := []) ⟨hx, hb, hml, hown, hts⟩ (r0_X11_find_95 l dC dI cyI cyZ cyO s.heap.size a0 a1 a2 a3 a4 a5 a6 a7 a8 a9 a10 a11 a12 a13 a14 a15 a16 ) (cwV 2 hts gX11_judge_X11_find rfl rfl rfl (by decide +kernel) ⟨Nat.le_of_ble_eq_true rfl, Nat.le_of_ble_eq_true rfl⟩) (yPreV hK hPc hDc (ci := 11) (q0 := 0) rfl rfl) rfl rfl hl.1 rfl (lv_room (Nat.le_of_ble_eq_true rfl)) dX11_judge_165 ⟨Nat.le_of_ble_eq_true rfl, Nat.le_of_ble_eq_true rfl⟩) hP hD hS hA rfl rfl (by decide) (by decide) (fun u_1 H locs hw hP hD hS => ?_)
  have hP : va_P (dC, dI) vwCl [(a1, .inl (cyI, 2490, .inl (yz 0 0))), (a9, .inl (cyI, 15, .inl yR)), (a0, .inr (11, [.ref a1, .int 0, .int 0, .ref a2, .ref a3, .ref a4, .ref a5, .int 0, .ref a6, .ref a7, .ref a8, .int 0, .int 32, .int 0, .ref a9, .ref a10, .int 0, .int 0, .ref a11, .ref a12, .ref a13, .ref a14, .ref a15, .ref a16]))] H := hP
  have hD : va_D A [(a1, .inl (cyI, 2490, .inl (yz 0 0))), (a9, .inl (cyI, 15, .inl yR)), (a0, .inr (11, [.ref a1, .int 0, .int 0, .ref a2, .ref a3, .ref a4, .ref a5, .int 0, .ref a6, .ref a7, .ref a8, .int 0, .int 32, .int 0, .ref a9, .ref a10, .int 0, .int 0, .ref a11, .ref a12, .ref a13, .ref a14, .ref a15, .ref a16]))] := hD
  refine W.widen (k := 0) (n := 0) (Nat.le_of_ble_eq_true rfl) (Nat.le_of_ble_eq_true rfl) ?_
  refine lv_aload_n hx hb dX11_judge_168 rfl (lv_at hl 2 rfl) ?_
  refine lv_iconst (v := 2) hx hb dX11_judge_169 (by decide) ?_
  refine lv_iload_n hx hb dX11_judge_170 rfl (lv_at hl 1 rfl) ?_
  refine lv_if_eq (tgt := 231) hx hb dX11_judge_171 (by decide) (fun _ => ?_) (fun c => absurd (by decide) c)
  refine lv_iconst (v := 0) hx hb dX11_judge_231 (by decide) ?_
  have hPc := hP.sub (ws' := [(a0, .inr (11, [.ref a1, .int 0, .int 0, .ref a2, .ref a3, .ref a4, .ref a5, .int 0, .ref a6, .ref a7, .ref a8, .int 0, .int 32, .int 0, .ref a9, .ref a10, .int 0, .int 0, .ref a11, .ref a12, .ref a13, .ref a14, .ref a15, .ref a16]))]) [2] rfl
  have hDc := hD.sub (ws' := [(a0, .inr (11, [.ref a1, .int 0, .int 0, .ref a2, .ref a3, .ref a4, .ref a5, .int 0, .ref a6, .ref a7, .ref a8, .int 0, .int 32, .int 0, .ref a9, .ref a10, .int 0, .int 0, .ref a11, .ref a12, .ref a13, .ref a14, .ref a15, .ref a16]))]) [2] (by decide) rfl
  refine yy_callv [2] [0, 1] (wr := [(a1, .inl (cyI, 2490, .inl (yz 0 0))), (a9, .inl (cyI, 15, .inl yR))]) (va_runV (As := [.int 2, .int 0]) (rest := []) ⟨hx, hb, hml, hown, hts⟩ (r0_X11_find_96 l dC dI cyI cyZ cyO H.size a0 a1 a2 a3 a4 a5 a6 a7 a8 a9 a10 a11 a12 a13 a14 a15 a16 ) (cwV 2 hts gX11_judge_X11_find rfl rfl rfl (by decide +kernel) ⟨Nat.le_of_ble_eq_true rfl, Nat.le_of_ble_eq_true rfl⟩) (yPreV hK hPc hDc (ci := 11) (q0 := 0) rfl rfl) rfl rfl hl.1 rfl (lv_room (Nat.le_of_ble_eq_true rfl)) dX11_judge_232 ⟨Nat.le_of_ble_eq_true rfl, Nat.le_of_ble_eq_true rfl⟩) hP hD hS hA rfl rfl (by decide) (by decide) (fun u_2 H locs hw hP hD hS => ?_)
  have hP : va_P (dC, dI) vwCl [(a1, .inl (cyI, 2490, .inl (yz 0 0))), (a9, .inl (cyI, 15, .inl yR)), (a0, .inr (11, [.ref a1, .int 0, .int 0, .ref a2, .ref a3, .ref a4, .ref a5, .int 0, .ref a6, .ref a7, .ref a8, .int 0, .int 32, .int 0, .ref a9, .ref a10, .int 0, .int 0, .ref a11, .ref a12, .ref a13, .ref a14, .ref a15, .ref a16]))] H := hP
  have hD : va_D A [(a1, .inl (cyI, 2490, .inl (yz 0 0))), (a9, .inl (cyI, 15, .inl yR)), (a0, .inr (11, [.ref a1, .int 0, .int 0, .ref a2, .ref a3, .ref a4, .ref a5, .int 0, .ref a6, .ref a7, .ref a8, .int 0, .int 32, .int 0, .ref a9, .ref a10, .int 0, .int 0, .ref a11, .ref a12, .ref a13, .ref a14, .ref a15, .ref a16]))] := hD
  refine W.widen (k := 0) (n := 0) (Nat.le_of_ble_eq_true rfl) (Nat.le_of_ble_eq_true rfl) ?_
  refine lv_aload_n hx hb dX11_judge_235 rfl (lv_at hl 2 rfl) ?_
  refine lv_iconst (v := 3) hx hb dX11_judge_236 (by decide) ?_
  refine lv_iload_n hx hb dX11_judge_237 rfl (lv_at hl 1 rfl) ?_
  refine lv_if_eq (tgt := 277) hx hb dX11_judge_238 (by decide) (fun _ => ?_) (fun c => absurd (by decide) c)
  refine lv_iconst (v := 0) hx hb dX11_judge_277 (by decide) ?_
  have hPc := hP.sub (ws' := [(a0, .inr (11, [.ref a1, .int 0, .int 0, .ref a2, .ref a3, .ref a4, .ref a5, .int 0, .ref a6, .ref a7, .ref a8, .int 0, .int 32, .int 0, .ref a9, .ref a10, .int 0, .int 0, .ref a11, .ref a12, .ref a13, .ref a14, .ref a15, .ref a16]))]) [2] rfl
  have hDc := hD.sub (ws' := [(a0, .inr (11, [.ref a1, .int 0, .int 0, .ref a2, .ref a3, .ref a4, .ref a5, .int 0, .ref a6, .ref a7, .ref a8, .int 0, .int 32, .int 0, .ref a9, .ref a10, .int 0, .int 0, .ref a11, .ref a12, .ref a13, .ref a14, .ref a15, .ref a16]))]) [2] (by decide) rfl
  refine yy_callv [2] [0, 1] (wr := [(a1, .inl (cyI, 2490, .inl (yz 0 0))), (a9, .inl (cyI, 15, .inl yR))]) (va_runV (As := [.int 3, .int 0]) (rest := []) ⟨hx, hb, hml, hown, hts⟩ (r0_X11_find_97 l dC dI cyI cyZ cyO H.size a0 a1 a2 a3 a4 a5 a6 a7 a8 a9 a10 a11 a12 a13 a14 a15 a16 ) (cwV 2 hts gX11_judge_X11_find rfl rfl rfl (by decide +kernel) ⟨Nat.le_of_ble_eq_true rfl, Nat.le_of_ble_eq_true rfl⟩) (yPreV hK hPc hDc (ci := 11) (q0 := 0) rfl rfl) rfl rfl hl.1 rfl (lv_room (Nat.le_of_ble_eq_true rfl)) dX11_judge_278 ⟨Nat.le_of_ble_eq_true rfl, Nat.le_of_ble_eq_true rfl⟩) hP hD hS hA rfl rfl (by decide) (by decide) (fun u_3 H locs hw hP hD hS => ?_)
  have hP : va_P (dC, dI) vwCl [(a1, .inl (cyI, 2490, .inl (yz 0 0))), (a9, .inl (cyI, 15, .inl yR)), (a0, .inr (11, [.ref a1, .int 0, .int 0, .ref a2, .ref a3, .ref a4, .ref a5, .int 0, .ref a6, .ref a7, .ref a8, .int 0, .int 32, .int 0, .ref a9, .ref a10, .int 0, .int 0, .ref a11, .ref a12, .ref a13, .ref a14, .ref a15, .ref a16]))] H := hP
  have hD : va_D A [(a1, .inl (cyI, 2490, .inl (yz 0 0))), (a9, .inl (cyI, 15, .inl yR)), (a0, .inr (11, [.ref a1, .int 0, .int 0, .ref a2, .ref a3, .ref a4, .ref a5, .int 0, .ref a6, .ref a7, .ref a8, .int 0, .int 32, .int 0, .ref a9, .ref a10, .int 0, .int 0, .ref a11, .ref a12, .ref a13, .ref a14, .ref a15, .ref a16]))] := hD
  refine W.widen (k := 0) (n := 0) (Nat.le_of_ble_eq_true rfl) (Nat.le_of_ble_eq_true rfl) ?_
  refine lv_aload_n hx hb dX11_judge_281 rfl (lv_at hl 2 rfl) ?_
  refine va_get (D := (dC, dI)) (ci := 11) (v := .ref a9) (C := RX11) (T := TX11) (N := 24) hx hb hts hnX11 hown hK hP 2 rfl rfl 14 (by decide) hf39 (fun _ h9 => h9) rfl dX11_judge_282 ?_
  refine lv_iconst (v := 5) hx hb dX11_judge_285 (by decide) ?_
  refine yy_iald (v := 0) hx hb hK hP 1 0 rfl rfl (yin (by decide)) dX11_judge_286 rfl ?_
  refine lv_if_eq (tgt := 303) hx hb dX11_judge_287 (by decide) (fun _ => ?_) (fun c => absurd (by decide) c)
  refine lv_iconst (v := 0) hx hb dX11_judge_303 (by decide) ?_
  refine lv_istore_n (lv' := [(3, .int 0), (2, .int 0), (1, .int 0), (0, .ref a0)]) hx hb dX11_judge_304 rfl hl (by decide) rfl (fun ls hl => ?_)
  refine lv_aload_n hx hb dX11_judge_305 rfl (lv_at hl 3 rfl) ?_
  refine lv_iconst (v := 5) hx hb dX11_judge_306 (by decide) ?_
  have hPc := hP.sub (ws' := [(a0, .inr (11, [.ref a1, .int 0, .int 0, .ref a2, .ref a3, .ref a4, .ref a5, .int 0, .ref a6, .ref a7, .ref a8, .int 0, .int 32, .int 0, .ref a9, .ref a10, .int 0, .int 0, .ref a11, .ref a12, .ref a13, .ref a14, .ref a15, .ref a16])), (a1, .inl (cyI, 2490, .inl (yz 0 0)))]) [2, 0] rfl
  have hDc := hD.sub (ws' := [(a0, .inr (11, [.ref a1, .int 0, .int 0, .ref a2, .ref a3, .ref a4, .ref a5, .int 0, .ref a6, .ref a7, .ref a8, .int 0, .int 32, .int 0, .ref a9, .ref a10, .int 0, .int 0, .ref a11, .ref a12, .ref a13, .ref a14, .ref a15, .ref a16])), (a1, .inl (cyI, 2490, .inl (yz 0 0)))]) [2, 0] (by decide) rfl
  refine yy_calli [2, 0] [1] (wr := [(a9, .inl (cyI, 15, .inl yR))]) (va_runV (As := [.int 5]) (rest := []) ⟨hx, hb, hml, hown, hts⟩ (r0_X11_was_98 l dC dI cyI cyZ cyO H.size a0 a1 a2 a3 a4 a5 a6 a7 a8 a9 a10 a11 a12 a13 a14 a15 a16 ) (cwV 1 hts gX11_judge_X11_was rfl rfl rfl (by decide +kernel) ⟨Nat.le_of_ble_eq_true rfl, Nat.le_of_ble_eq_true rfl⟩) (yPreV hK hPc hDc (ci := 11) (q0 := 0) rfl rfl) rfl rfl hl.1 rfl (lv_room (Nat.le_of_ble_eq_true rfl)) dX11_judge_307 ⟨Nat.le_of_ble_eq_true rfl, Nat.le_of_ble_eq_true rfl⟩) hP hD hS hA rfl rfl (by decide) (by decide) (fun r_5 u_4 H locs hw hP hD hS => ?_)
  have hP : va_P (dC, dI) vwCl [(a9, .inl (cyI, 15, .inl yR)), (a0, .inr (11, [.ref a1, .int 0, .int 0, .ref a2, .ref a3, .ref a4, .ref a5, .int 0, .ref a6, .ref a7, .ref a8, .int 0, .int 32, .int 0, .ref a9, .ref a10, .int 0, .int 0, .ref a11, .ref a12, .ref a13, .ref a14, .ref a15, .ref a16])), (a1, .inl (cyI, 2490, .inl (yz 0 0)))] H := hP
  have hD : va_D A [(a9, .inl (cyI, 15, .inl yR)), (a0, .inr (11, [.ref a1, .int 0, .int 0, .ref a2, .ref a3, .ref a4, .ref a5, .int 0, .ref a6, .ref a7, .ref a8, .int 0, .int 32, .int 0, .ref a9, .ref a10, .int 0, .int 0, .ref a11, .ref a12, .ref a13, .ref a14, .ref a15, .ref a16])), (a1, .inl (cyI, 2490, .inl (yz 0 0)))] := hD
  refine W.widen (k := 0) (n := 0) (Nat.le_of_ble_eq_true rfl) (Nat.le_of_ble_eq_true rfl) ?_
  have hw : r_5 = 0 := hw
  subst hw
  refine lv_if_eq (tgt := 325) hx hb dX11_judge_310 (by decide) (fun _ => ?_) (fun c => absurd (by decide) c)
  refine lv_iconst (v := 0) hx hb dX11_judge_325 (by decide) ?_
  refine lv_istore (lv' := [(4, .int 0), (3, .int 0), (2, .int 0), (1, .int 0), (0, .ref a0)]) hx hb dX11_judge_326 hl (by decide) rfl (fun ls hl => ?_)
  refine lv_aload_n hx hb dX11_judge_328 rfl (lv_at hl 4 rfl) ?_
  refine lv_iconst (v := 4) hx hb dX11_judge_329 (by decide) ?_
  refine lv_iload_n hx hb dX11_judge_330 rfl (lv_at hl 3 rfl) ?_
  refine lv_if_eq (tgt := 344) hx hb dX11_judge_331 (by decide) (fun _ => ?_) (fun c => absurd (by decide) c)
  refine lv_iconst (v := 0) hx hb dX11_judge_344 (by decide) ?_
  have hPc := hP.sub (ws' := [(a0, .inr (11, [.ref a1, .int 0, .int 0, .ref a2, .ref a3, .ref a4, .ref a5, .int 0, .ref a6, .ref a7, .ref a8, .int 0, .int 32, .int 0, .ref a9, .ref a10, .int 0, .int 0, .ref a11, .ref a12, .ref a13, .ref a14, .ref a15, .ref a16]))]) [1] rfl
  have hDc := hD.sub (ws' := [(a0, .inr (11, [.ref a1, .int 0, .int 0, .ref a2, .ref a3, .ref a4, .ref a5, .int 0, .ref a6, .ref a7, .ref a8, .int 0, .int 32, .int 0, .ref a9, .ref a10, .int 0, .int 0, .ref a11, .ref a12, .ref a13, .ref a14, .ref a15, .ref a16]))]) [1] (by decide) rfl
  refine yy_callv [1] [0, 2] (wr := [(a9, .inl (cyI, 15, .inl yR)), (a1, .inl (cyI, 2490, .inl (yz 0 0)))]) (va_runV (As := [.int 4, .int 0]) (rest := []) ⟨hx, hb, hml, hown, hts⟩ (r0_X11_find_99 l dC dI cyI cyZ cyO H.size a0 a1 a2 a3 a4 a5 a6 a7 a8 a9 a10 a11 a12 a13 a14 a15 a16 ) (cwV 2 hts gX11_judge_X11_find rfl rfl rfl (by decide +kernel) ⟨Nat.le_of_ble_eq_true rfl, Nat.le_of_ble_eq_true rfl⟩) (yPreV hK hPc hDc (ci := 11) (q0 := 0) rfl rfl) rfl rfl hl.1 rfl (lv_room (Nat.le_of_ble_eq_true rfl)) dX11_judge_345 ⟨Nat.le_of_ble_eq_true rfl, Nat.le_of_ble_eq_true rfl⟩) hP hD hS hA rfl rfl (by decide) (by decide) (fun u_6 H locs hw hP hD hS => ?_)
  have hP : va_P (dC, dI) vwCl [(a9, .inl (cyI, 15, .inl yR)), (a1, .inl (cyI, 2490, .inl (yz 0 0))), (a0, .inr (11, [.ref a1, .int 0, .int 0, .ref a2, .ref a3, .ref a4, .ref a5, .int 0, .ref a6, .ref a7, .ref a8, .int 0, .int 32, .int 0, .ref a9, .ref a10, .int 0, .int 0, .ref a11, .ref a12, .ref a13, .ref a14, .ref a15, .ref a16]))] H := hP
  have hD : va_D A [(a9, .inl (cyI, 15, .inl yR)), (a1, .inl (cyI, 2490, .inl (yz 0 0))), (a0, .inr (11, [.ref a1, .int 0, .int 0, .ref a2, .ref a3, .ref a4, .ref a5, .int 0, .ref a6, .ref a7, .ref a8, .int 0, .int 32, .int 0, .ref a9, .ref a10, .int 0, .int 0, .ref a11, .ref a12, .ref a13, .ref a14, .ref a15, .ref a16]))] := hD
  refine W.widen (k := 0) (n := 0) (Nat.le_of_ble_eq_true rfl) (Nat.le_of_ble_eq_true rfl) ?_
  refine lv_aload_n hx hb dX11_judge_348 rfl (lv_at hl 4 rfl) ?_
  refine lv_iconst (v := 5) hx hb dX11_judge_349 (by decide) ?_
  refine lv_aload_n hx hb dX11_judge_350 rfl (lv_at hl 4 rfl) ?_
  refine va_get (D := (dC, dI)) (ci := 11) (v := .ref a9) (C := RX11) (T := TX11) (N := 24) hx hb hts hnX11 hown hK hP 2 rfl rfl 14 (by decide) hf39 (fun _ h9 => h9) rfl dX11_judge_351 ?_
  refine lv_iconst (v := 5) hx hb dX11_judge_354 (by decide) ?_
  refine yy_iald (v := 0) hx hb hK hP 0 0 rfl rfl (yin (by decide)) dX11_judge_355 rfl ?_
  refine lv_if_eq (tgt := 367) hx hb dX11_judge_356 (by decide) (fun _ => ?_) (fun c => absurd (by decide) c)
  refine lv_iconst (v := 0) hx hb dX11_judge_367 (by decide) ?_
  have hPc := hP.sub (ws' := [(a0, .inr (11, [.ref a1, .int 0, .int 0, .ref a2, .ref a3, .ref a4, .ref a5, .int 0, .ref a6, .ref a7, .ref a8, .int 0, .int 32, .int 0, .ref a9, .ref a10, .int 0, .int 0, .ref a11, .ref a12, .ref a13, .ref a14, .ref a15, .ref a16]))]) [2] rfl
  have hDc := hD.sub (ws' := [(a0, .inr (11, [.ref a1, .int 0, .int 0, .ref a2, .ref a3, .ref a4, .ref a5, .int 0, .ref a6, .ref a7, .ref a8, .int 0, .int 32, .int 0, .ref a9, .ref a10, .int 0, .int 0, .ref a11, .ref a12, .ref a13, .ref a14, .ref a15, .ref a16]))]) [2] (by decide) rfl
  refine yy_callv [2] [0, 1] (wr := [(a9, .inl (cyI, 15, .inl yR)), (a1, .inl (cyI, 2490, .inl (yz 0 0)))]) (va_runV (As := [.int 5, .int 0]) (rest := []) ⟨hx, hb, hml, hown, hts⟩ (r0_X11_find_100 l dC dI cyI cyZ cyO H.size a0 a1 a2 a3 a4 a5 a6 a7 a8 a9 a10 a11 a12 a13 a14 a15 a16 ) (cwV 2 hts gX11_judge_X11_find rfl rfl rfl (by decide +kernel) ⟨Nat.le_of_ble_eq_true rfl, Nat.le_of_ble_eq_true rfl⟩) (yPreV hK hPc hDc (ci := 11) (q0 := 0) rfl rfl) rfl rfl hl.1 rfl (lv_room (Nat.le_of_ble_eq_true rfl)) dX11_judge_368 ⟨Nat.le_of_ble_eq_true rfl, Nat.le_of_ble_eq_true rfl⟩) hP hD hS hA rfl rfl (by decide) (by decide) (fun u_7 H locs hw hP hD hS => ?_)
  have hP : va_P (dC, dI) vwCl [(a9, .inl (cyI, 15, .inl yR)), (a1, .inl (cyI, 2490, .inl (yz 0 0))), (a0, .inr (11, [.ref a1, .int 0, .int 0, .ref a2, .ref a3, .ref a4, .ref a5, .int 0, .ref a6, .ref a7, .ref a8, .int 0, .int 32, .int 0, .ref a9, .ref a10, .int 0, .int 0, .ref a11, .ref a12, .ref a13, .ref a14, .ref a15, .ref a16]))] H := hP
  have hD : va_D A [(a9, .inl (cyI, 15, .inl yR)), (a1, .inl (cyI, 2490, .inl (yz 0 0))), (a0, .inr (11, [.ref a1, .int 0, .int 0, .ref a2, .ref a3, .ref a4, .ref a5, .int 0, .ref a6, .ref a7, .ref a8, .int 0, .int 32, .int 0, .ref a9, .ref a10, .int 0, .int 0, .ref a11, .ref a12, .ref a13, .ref a14, .ref a15, .ref a16]))] := hD
  refine W.widen (k := 0) (n := 0) (Nat.le_of_ble_eq_true rfl) (Nat.le_of_ble_eq_true rfl) ?_
  refine lv_aload_n hx hb dX11_judge_371 rfl (lv_at hl 4 rfl) ?_
  refine lv_bipush (v := 6) hx hb dX11_judge_372 (by decide) ?_
  refine lv_aload_n hx hb dX11_judge_374 rfl (lv_at hl 4 rfl) ?_
  refine va_get (D := (dC, dI)) (ci := 11) (v := .ref a9) (C := RX11) (T := TX11) (N := 24) hx hb hts hnX11 hown hK hP 2 rfl rfl 14 (by decide) hf39 (fun _ h9 => h9) rfl dX11_judge_375 ?_
  refine lv_iconst (v := 4) hx hb dX11_judge_378 (by decide) ?_
  refine yy_iald (v := 1) hx hb hK hP 0 0 rfl rfl (yin (by decide)) dX11_judge_379 rfl ?_
  refine lv_if_ne (tgt := 391) hx hb dX11_judge_380 (by decide) (fun _ => ?_) (fun c => absurd c (by decide))
  refine lv_iconst (v := 0) hx hb dX11_judge_391 (by decide) ?_
  have hPc := hP.sub (ws' := [(a0, .inr (11, [.ref a1, .int 0, .int 0, .ref a2, .ref a3, .ref a4, .ref a5, .int 0, .ref a6, .ref a7, .ref a8, .int 0, .int 32, .int 0, .ref a9, .ref a10, .int 0, .int 0, .ref a11, .ref a12, .ref a13, .ref a14, .ref a15, .ref a16]))]) [2] rfl
  have hDc := hD.sub (ws' := [(a0, .inr (11, [.ref a1, .int 0, .int 0, .ref a2, .ref a3, .ref a4, .ref a5, .int 0, .ref a6, .ref a7, .ref a8, .int 0, .int 32, .int 0, .ref a9, .ref a10, .int 0, .int 0, .ref a11, .ref a12, .ref a13, .ref a14, .ref a15, .ref a16]))]) [2] (by decide) rfl
  refine yy_callv [2] [0, 1] (wr := [(a9, .inl (cyI, 15, .inl yR)), (a1, .inl (cyI, 2490, .inl (yz 0 0)))]) (va_runV (As := [.int 6, .int 0]) (rest := []) ⟨hx, hb, hml, hown, hts⟩ (r0_X11_find_101 l dC dI cyI cyZ cyO H.size a0 a1 a2 a3 a4 a5 a6 a7 a8 a9 a10 a11 a12 a13 a14 a15 a16 ) (cwV 2 hts gX11_judge_X11_find rfl rfl rfl (by decide +kernel) ⟨Nat.le_of_ble_eq_true rfl, Nat.le_of_ble_eq_true rfl⟩) (yPreV hK hPc hDc (ci := 11) (q0 := 0) rfl rfl) rfl rfl hl.1 rfl (lv_room (Nat.le_of_ble_eq_true rfl)) dX11_judge_392 ⟨Nat.le_of_ble_eq_true rfl, Nat.le_of_ble_eq_true rfl⟩) hP hD hS hA rfl rfl (by decide) (by decide) (fun u_8 H locs hw hP hD hS => ?_)
  have hP : va_P (dC, dI) vwCl [(a9, .inl (cyI, 15, .inl yR)), (a1, .inl (cyI, 2490, .inl (yz 0 0))), (a0, .inr (11, [.ref a1, .int 0, .int 0, .ref a2, .ref a3, .ref a4, .ref a5, .int 0, .ref a6, .ref a7, .ref a8, .int 0, .int 32, .int 0, .ref a9, .ref a10, .int 0, .int 0, .ref a11, .ref a12, .ref a13, .ref a14, .ref a15, .ref a16]))] H := hP
  have hD : va_D A [(a9, .inl (cyI, 15, .inl yR)), (a1, .inl (cyI, 2490, .inl (yz 0 0))), (a0, .inr (11, [.ref a1, .int 0, .int 0, .ref a2, .ref a3, .ref a4, .ref a5, .int 0, .ref a6, .ref a7, .ref a8, .int 0, .int 32, .int 0, .ref a9, .ref a10, .int 0, .int 0, .ref a11, .ref a12, .ref a13, .ref a14, .ref a15, .ref a16]))] := hD
  refine W.widen (k := 0) (n := 0) (Nat.le_of_ble_eq_true rfl) (Nat.le_of_ble_eq_true rfl) ?_
  refine lv_aload_n hx hb dX11_judge_395 rfl (lv_at hl 4 rfl) ?_
  refine va_get (D := (dC, dI)) (ci := 11) (v := .ref a1) (C := RX11) (T := TX11) (N := 24) hx hb hts hnX11 hown hK hP 2 rfl rfl 0 (by decide) hf7 (fun _ h9 => h9) rfl dX11_judge_396 ?_
  refine lv_sipush (v := 211) hx hb dX11_judge_399 (by decide) ?_
  refine lv_aload_n hx hb dX11_judge_402 rfl (lv_at hl 4 rfl) ?_
  refine va_get (D := (dC, dI)) (ci := 11) (v := .ref a9) (C := RX11) (T := TX11) (N := 24) hx hb hts hnX11 hown hK hP 2 rfl rfl 14 (by decide) hf39 (fun _ h9 => h9) rfl dX11_judge_403 ?_
  refine lv_iconst (v := 4) hx hb dX11_judge_406 (by decide) ?_
  refine yy_iald (v := 1) hx hb hK hP 0 0 rfl rfl (yin (by decide)) dX11_judge_407 rfl ?_
  refine lv_if_ne (tgt := 424) hx hb dX11_judge_408 (by decide) (fun _ => ?_) (fun c => absurd c (by decide))
  refine lv_iconst (v := 0) hx hb dX11_judge_424 (by decide) ?_
  refine yy_iast (f' := (yz 0 0)) hx hb hK hP hD hS 1 0 rfl rfl (yin (by decide)) dX11_judge_425 (yid rfl) (fun H locs hP hD hS => ?_)
  have hP : va_P (dC, dI) vwCl [(a9, .inl (cyI, 15, .inl yR)), (a1, .inl (cyI, 2490, .inl (yz 0 0))), (a0, .inr (11, [.ref a1, .int 0, .int 0, .ref a2, .ref a3, .ref a4, .ref a5, .int 0, .ref a6, .ref a7, .ref a8, .int 0, .int 32, .int 0, .ref a9, .ref a10, .int 0, .int 0, .ref a11, .ref a12, .ref a13, .ref a14, .ref a15, .ref a16]))] H := hP
  have hD : va_D A [(a9, .inl (cyI, 15, .inl yR)), (a1, .inl (cyI, 2490, .inl (yz 0 0))), (a0, .inr (11, [.ref a1, .int 0, .int 0, .ref a2, .ref a3, .ref a4, .ref a5, .int 0, .ref a6, .ref a7, .ref a8, .int 0, .int 32, .int 0, .ref a9, .ref a10, .int 0, .int 0, .ref a11, .ref a12, .ref a13, .ref a14, .ref a15, .ref a16]))] := hD
  refine lv_aload_n hx hb dX11_judge_426 rfl (lv_at hl 4 rfl) ?_
  refine lv_bipush (v := 7) hx hb dX11_judge_427 (by decide) ?_
  refine lv_aload_n hx hb dX11_judge_429 rfl (lv_at hl 4 rfl) ?_
  refine va_get (D := (dC, dI)) (ci := 11) (v := .ref a1) (C := RX11) (T := TX11) (N := 24) hx hb hts hnX11 hown hK hP 2 rfl rfl 0 (by decide) hf7 (fun _ h9 => h9) rfl dX11_judge_430 ?_
  refine lv_sipush (v := 211) hx hb dX11_judge_433 (by decide) ?_
  refine yy_iald (v := 0) hx hb hK hP 1 0 rfl rfl (yin (by decide)) dX11_judge_436 rfl ?_
  refine lv_bipush (v := 100) hx hb dX11_judge_437 (by decide) ?_
  refine lv_icmp_ne (tgt := 446) hx hb dX11_judge_439 (by decide) (fun _ => ?_) (fun c => absurd c (by decide))
  refine lv_iconst (v := 0) hx hb dX11_judge_446 (by decide) ?_
  have hPc := hP.sub (ws' := [(a0, .inr (11, [.ref a1, .int 0, .int 0, .ref a2, .ref a3, .ref a4, .ref a5, .int 0, .ref a6, .ref a7, .ref a8, .int 0, .int 32, .int 0, .ref a9, .ref a10, .int 0, .int 0, .ref a11, .ref a12, .ref a13, .ref a14, .ref a15, .ref a16]))]) [2] rfl
  have hDc := hD.sub (ws' := [(a0, .inr (11, [.ref a1, .int 0, .int 0, .ref a2, .ref a3, .ref a4, .ref a5, .int 0, .ref a6, .ref a7, .ref a8, .int 0, .int 32, .int 0, .ref a9, .ref a10, .int 0, .int 0, .ref a11, .ref a12, .ref a13, .ref a14, .ref a15, .ref a16]))]) [2] (by decide) rfl
  refine yy_callv [2] [0, 1] (wr := [(a9, .inl (cyI, 15, .inl yR)), (a1, .inl (cyI, 2490, .inl (yz 0 0)))]) (va_runV (As := [.int 7, .int 0]) (rest := []) ⟨hx, hb, hml, hown, hts⟩ (r0_X11_find_102 l dC dI cyI cyZ cyO H.size a0 a1 a2 a3 a4 a5 a6 a7 a8 a9 a10 a11 a12 a13 a14 a15 a16 ) (cwV 2 hts gX11_judge_X11_find rfl rfl rfl (by decide +kernel) ⟨Nat.le_of_ble_eq_true rfl, Nat.le_of_ble_eq_true rfl⟩) (yPreV hK hPc hDc (ci := 11) (q0 := 0) rfl rfl) rfl rfl hl.1 rfl (lv_room (Nat.le_of_ble_eq_true rfl)) dX11_judge_447 ⟨Nat.le_of_ble_eq_true rfl, Nat.le_of_ble_eq_true rfl⟩) hP hD hS hA rfl rfl (by decide) (by decide) (fun u_9 H locs hw hP hD hS => ?_)
  have hP : va_P (dC, dI) vwCl [(a9, .inl (cyI, 15, .inl yR)), (a1, .inl (cyI, 2490, .inl (yz 0 0))), (a0, .inr (11, [.ref a1, .int 0, .int 0, .ref a2, .ref a3, .ref a4, .ref a5, .int 0, .ref a6, .ref a7, .ref a8, .int 0, .int 32, .int 0, .ref a9, .ref a10, .int 0, .int 0, .ref a11, .ref a12, .ref a13, .ref a14, .ref a15, .ref a16]))] H := hP
  have hD : va_D A [(a9, .inl (cyI, 15, .inl yR)), (a1, .inl (cyI, 2490, .inl (yz 0 0))), (a0, .inr (11, [.ref a1, .int 0, .int 0, .ref a2, .ref a3, .ref a4, .ref a5, .int 0, .ref a6, .ref a7, .ref a8, .int 0, .int 32, .int 0, .ref a9, .ref a10, .int 0, .int 0, .ref a11, .ref a12, .ref a13, .ref a14, .ref a15, .ref a16]))] := hD
  refine W.widen (k := 0) (n := 0) (Nat.le_of_ble_eq_true rfl) (Nat.le_of_ble_eq_true rfl) ?_
  refine lv_aload_n hx hb dX11_judge_450 rfl (lv_at hl 4 rfl) ?_
  refine lv_iload_n hx hb dX11_judge_451 rfl (lv_at hl 3 rfl) ?_
  have hPc := hP.sub (ws' := [(a0, .inr (11, [.ref a1, .int 0, .int 0, .ref a2, .ref a3, .ref a4, .ref a5, .int 0, .ref a6, .ref a7, .ref a8, .int 0, .int 32, .int 0, .ref a9, .ref a10, .int 0, .int 0, .ref a11, .ref a12, .ref a13, .ref a14, .ref a15, .ref a16])), (a9, .inl (cyI, 15, .inl yR))]) [2, 0] rfl
  have hDc := hD.sub (ws' := [(a0, .inr (11, [.ref a1, .int 0, .int 0, .ref a2, .ref a3, .ref a4, .ref a5, .int 0, .ref a6, .ref a7, .ref a8, .int 0, .int 32, .int 0, .ref a9, .ref a10, .int 0, .int 0, .ref a11, .ref a12, .ref a13, .ref a14, .ref a15, .ref a16])), (a9, .inl (cyI, 15, .inl yR))]) [2, 0] (by decide) rfl
  refine yy_callv [2, 0] [1] (wr := [(a1, .inl (cyI, 2490, .inl (yz 0 0)))]) (va_runV (As := [.int 0]) (rest := []) ⟨hx, hb, hml, hown, hts⟩ (r0_X11_judgeLower_111 l dC dI cyI cyZ cyO H.size a0 a1 a2 a3 a4 a5 a6 a7 a8 a9 a10 a11 a12 a13 a14 a15 a16 ) (cwV 1 hts gX11_judge_X11_judgeLower rfl rfl rfl (by decide +kernel) ⟨Nat.le_of_ble_eq_true rfl, Nat.le_of_ble_eq_true rfl⟩) (yPreV hK hPc hDc (ci := 11) (q0 := 0) rfl rfl) rfl rfl hl.1 rfl (lv_room (Nat.le_of_ble_eq_true rfl)) dX11_judge_452 ⟨Nat.le_of_ble_eq_true rfl, Nat.le_of_ble_eq_true rfl⟩) hP hD hS hA rfl rfl (by decide) (by decide) (fun u_10 H locs hw hP hD hS => ?_)
  have hP : va_P (dC, dI) vwCl [(a1, .inl (cyI, 2490, .inl (yz 0 0))), (a0, .inr (11, [.ref a1, .int 0, .int 0, .ref a2, .ref a3, .ref a4, .ref a5, .int 0, .ref a6, .ref a7, .ref a8, .int 0, .int 32, .int 0, .ref a9, .ref a10, .int 0, .int 0, .ref a11, .ref a12, .ref a13, .ref a14, .ref a15, .ref a16])), (a9, .inl (cyI, 15, .inl yR))] H := hP
  have hD : va_D A [(a1, .inl (cyI, 2490, .inl (yz 0 0))), (a0, .inr (11, [.ref a1, .int 0, .int 0, .ref a2, .ref a3, .ref a4, .ref a5, .int 0, .ref a6, .ref a7, .ref a8, .int 0, .int 32, .int 0, .ref a9, .ref a10, .int 0, .int 0, .ref a11, .ref a12, .ref a13, .ref a14, .ref a15, .ref a16])), (a9, .inl (cyI, 15, .inl yR))] := hD
  refine W.widen (k := 0) (n := 0) (Nat.le_of_ble_eq_true rfl) (Nat.le_of_ble_eq_true rfl) ?_
  refine W.widen (k := 0) (n := 0) (Nat.le_of_ble_eq_true rfl) (Nat.le_of_ble_eq_true rfl) ?_
  exact yy_vret () hx hb hr hlk hsz hAe hK hP hD hS [1, 0, 2] rfl rfl (by decide) (trivial) dX11_judge_455
set_option maxHeartbeats 4000000 in
set_option maxRecDepth 100000 in
theorem r0_X11_beginNext_113 (l : Launch) (dC : Nat → ClassId) (dI : Nat → Nat → Nat) (cyI cyZ cyO : ClassId) (sz : Nat) (a0 : Nat) (a1 : Nat) (a2 : Nat) (a3 : Nat) (a4 : Nat) (a5 : Nat) (a6 : Nat) (a7 : Nat) (a8 : Nat) (a9 : Nat) (a10 : Nat) (a11 : Nat) (a12 : Nat) (a13 : Nat) (a14 : Nat) (a15 : Nat) (a16 : Nat)  : Met l yX11_beginNext wsX11_beginNext ({ frames := 0, cells := 0, slots := 0, locals := 0 }) (yPre [.ref a0] (dC, dI) [(a0, .inr (11, [.ref a1, .int 0, .int 0, .ref a2, .ref a3, .ref a4, .ref a5, .int 0, .ref a6, .ref a7, .ref a8, .int 0, .int 32, .int 0, .ref a9, .ref a10, .int 0, .int 0, .ref a11, .ref a12, .ref a13, .ref a14, .ref a15, .ref a16])), (a1, .inl (cyI, 2490, .inl (yz 0 0)))] (yT cyI cyZ cyO) sz) (yQv (fun (u : Unit) => True) (dC, dI) [(a0, .inr (11, [.ref a1, .int 0, .int 0, .ref a2, .ref a3, .ref a4, .ref a5, .int 0, .ref a6, .ref a7, .ref a8, .int 0, .int 32, .int 0, .ref a9, .ref a10, .int 0, .int 0, .ref a11, .ref a12, .ref a13, .ref a14, .ref a15, .ref a16])), (a1, .inl (cyI, 2490, .inl (yz 0 0)))] (yT cyI cyZ cyO) sz (fun _ => [(a0, .inr (11, [.ref a1, .int 0, .int 0, .ref a2, .ref a3, .ref a4, .ref a5, .int 0, .ref a6, .ref a7, .ref a8, .int 0, .int 32, .int 0, .ref a9, .ref a10, .int 0, .int 0, .ref a11, .ref a12, .ref a13, .ref a14, .ref a15, .ref a16])), (a1, .inl (cyI, 2490, .inl (yz 0 0)))])) 0 0 (va_A [(a0, .inr (11, [.ref a1, .int 0, .int 0, .ref a2, .ref a3, .ref a4, .ref a5, .int 0, .ref a6, .ref a7, .ref a8, .int 0, .int 32, .int 0, .ref a9, .ref a10, .int 0, .int 0, .ref a11, .ref a12, .ref a13, .ref a14, .ref a15, .ref a16])), (a1, .inl (cyI, 2490, .inl (yz 0 0)))] sz) := by
  refine yMet (cc := cX11_beginNext) (maxL := 2) (ret := none) (by decide) rfl (Nat.le_of_ble_eq_true rfl) ?_
  intro p e s m below meth c A hx hb hr hlk hml hts hown hnm hsz hAe hP hK hD hA hS ls hl
  have hl : lv_has ls 2 [(0, .ref a0)] := hl
  have hf7 := hts (.fieldLink RX11 7 "BusBridgeModel" "z" "[I") (by decide +kernel)
  have hnX11 : ∀ w ∈ wsX110, w ∈ wsX11_beginNext := by decide +kernel
  refine lv_aload_n hx hb dX11_beginNext_0 rfl (lv_at hl 0 rfl) ?_
  refine va_get (D := (dC, dI)) (ci := 11) (v := .ref a1) (C := RX11) (T := TX11) (N := 24) hx hb hts hnX11 hown hK hP 0 rfl rfl 0 (by decide) hf7 (fun _ h9 => h9) rfl dX11_beginNext_1 ?_
  refine lv_sipush (v := 182) hx hb dX11_beginNext_4 (by decide) ?_
  refine yy_iald (v := 0) hx hb hK hP 1 0 rfl rfl (yin (by decide)) dX11_beginNext_7 rfl ?_
  refine lv_istore_n (lv' := [(1, .int 0), (0, .ref a0)]) hx hb dX11_beginNext_8 rfl hl (by decide) rfl (fun ls hl => ?_)
  refine lv_iload_n hx hb dX11_beginNext_9 rfl (lv_at hl 0 rfl) ?_
  refine lv_aload_n hx hb dX11_beginNext_10 rfl (lv_at hl 1 rfl) ?_
  refine va_get (D := (dC, dI)) (ci := 11) (v := .ref a1) (C := RX11) (T := TX11) (N := 24) hx hb hts hnX11 hown hK hP 0 rfl rfl 0 (by decide) hf7 (fun _ h9 => h9) rfl dX11_beginNext_11 ?_
  refine lv_sipush (v := 212) hx hb dX11_beginNext_14 (by decide) ?_
  refine yy_iald (v := 0) hx hb hK hP 1 0 rfl rfl (yin (by decide)) dX11_beginNext_17 rfl ?_
  refine lv_icmp_lt (tgt := 22) hx hb dX11_beginNext_18 (by decide) (fun c => absurd c (by decide)) (fun _ => ?_)
  refine W.widen (k := 0) (n := 0) (Nat.le_of_ble_eq_true rfl) (Nat.le_of_ble_eq_true rfl) ?_
  exact yy_vret () hx hb hr hlk hsz hAe hK hP hD hS [0, 1] rfl rfl (by decide) (trivial) dX11_beginNext_21
set_option maxHeartbeats 4000000 in
set_option maxRecDepth 100000 in
theorem r0_X11_master_114 (l : Launch) (dC : Nat → ClassId) (dI : Nat → Nat → Nat) (cyI cyZ cyO : ClassId) (sz : Nat) (a0 : Nat) (a1 : Nat) (a2 : Nat) (a3 : Nat) (a4 : Nat) (a5 : Nat) (a6 : Nat) (a7 : Nat) (a8 : Nat) (a9 : Nat) (a10 : Nat) (a11 : Nat) (a12 : Nat) (a13 : Nat) (a14 : Nat) (a15 : Nat) (a16 : Nat)  : Met l yX11_master wsX11_master ({ frames := 1, cells := 0, slots := 0, locals := 21 }) (yPre [.ref a0] (dC, dI) [(a0, .inr (11, [.ref a1, .int 0, .int 0, .ref a2, .ref a3, .ref a4, .ref a5, .int 0, .ref a6, .ref a7, .ref a8, .int 0, .int 32, .int 0, .ref a9, .ref a10, .int 0, .int 0, .ref a11, .ref a12, .ref a13, .ref a14, .ref a15, .ref a16])), (a1, .inl (cyI, 2490, .inl (yz 0 0))), (a9, .inl (cyI, 15, .inl yR)), (a10, .inl (cyI, 15, .inl yR))] (yT cyI cyZ cyO) sz) (yQv (fun (u : Unit) => True) (dC, dI) [(a0, .inr (11, [.ref a1, .int 0, .int 0, .ref a2, .ref a3, .ref a4, .ref a5, .int 0, .ref a6, .ref a7, .ref a8, .int 0, .int 32, .int 0, .ref a9, .ref a10, .int 0, .int 0, .ref a11, .ref a12, .ref a13, .ref a14, .ref a15, .ref a16])), (a1, .inl (cyI, 2490, .inl (yz 0 0))), (a9, .inl (cyI, 15, .inl yR)), (a10, .inl (cyI, 15, .inl yR))] (yT cyI cyZ cyO) sz (fun _ => [(a0, .inr (11, [.ref a1, .int 0, .int 0, .ref a2, .ref a3, .ref a4, .ref a5, .int 0, .ref a6, .ref a7, .ref a8, .int 0, .int 32, .int 0, .ref a9, .ref a10, .int 0, .int 0, .ref a11, .ref a12, .ref a13, .ref a14, .ref a15, .ref a16])), (a1, .inl (cyI, 2490, .inl (yz 0 0))), (a9, .inl (cyI, 15, .inl yR)), (a10, .inl (cyI, 15, .inl yR))])) 0 0 (va_A [(a0, .inr (11, [.ref a1, .int 0, .int 0, .ref a2, .ref a3, .ref a4, .ref a5, .int 0, .ref a6, .ref a7, .ref a8, .int 0, .int 32, .int 0, .ref a9, .ref a10, .int 0, .int 0, .ref a11, .ref a12, .ref a13, .ref a14, .ref a15, .ref a16])), (a1, .inl (cyI, 2490, .inl (yz 0 0))), (a9, .inl (cyI, 15, .inl yR)), (a10, .inl (cyI, 15, .inl yR))] sz) := by
  refine yMet (cc := cX11_master) (maxL := 2) (ret := none) (by decide) rfl (Nat.le_of_ble_eq_true rfl) ?_
  intro p e s m below meth c A hx hb hr hlk hml hts hown hnm hsz hAe hP hK hD hA hS ls hl
  have hl : lv_has ls 2 [(0, .ref a0)] := hl
  have hf39 := hts (.fieldLink RX11 39 "BusBridgeModel" "see" "[I") (by decide +kernel)
  have hf42 := hts (.fieldLink RX11 42 "BusBridgeModel" "set" "[I") (by decide +kernel)
  have hf7 := hts (.fieldLink RX11 7 "BusBridgeModel" "z" "[I") (by decide +kernel)
  have hnX11 : ∀ w ∈ wsX110, w ∈ wsX11_master := by decide +kernel
  refine lv_aload_n hx hb dX11_master_0 rfl (lv_at hl 0 rfl) ?_
  refine va_get (D := (dC, dI)) (ci := 11) (v := .ref a9) (C := RX11) (T := TX11) (N := 24) hx hb hts hnX11 hown hK hP 0 rfl rfl 14 (by decide) hf39 (fun _ h9 => h9) rfl dX11_master_1 ?_
  refine lv_iconst (v := 4) hx hb dX11_master_4 (by decide) ?_
  refine yy_iald (v := 1) hx hb hK hP 2 0 rfl rfl (yin (by decide)) dX11_master_5 rfl ?_
  refine lv_if_eq (tgt := 184) hx hb dX11_master_6 (by decide) (fun c => absurd c (by decide)) (fun _ => ?_)
  refine lv_aload_n hx hb dX11_master_9 rfl (lv_at hl 0 rfl) ?_
  refine va_get (D := (dC, dI)) (ci := 11) (v := .ref a1) (C := RX11) (T := TX11) (N := 24) hx hb hts hnX11 hown hK hP 0 rfl rfl 0 (by decide) hf7 (fun _ h9 => h9) rfl dX11_master_10 ?_
  refine lv_sipush (v := 181) hx hb dX11_master_13 (by decide) ?_
  refine yy_iald (v := (-1)) hx hb hK hP 1 0 rfl rfl (yin (by decide)) dX11_master_16 rfl ?_
  refine lv_istore_n (lv' := [(1, .int (-1)), (0, .ref a0)]) hx hb dX11_master_17 rfl hl (by decide) rfl (fun ls hl => ?_)
  refine lv_iload_n hx hb dX11_master_18 rfl (lv_at hl 0 rfl) ?_
  refine lv_if_lt (tgt := 86) hx hb dX11_master_19 (by decide) (fun _ => ?_) (fun c => absurd (by decide) c)
  refine lv_aload_n hx hb dX11_master_86 rfl (lv_at hl 1 rfl) ?_
  refine va_get (D := (dC, dI)) (ci := 11) (v := .ref a1) (C := RX11) (T := TX11) (N := 24) hx hb hts hnX11 hown hK hP 0 rfl rfl 0 (by decide) hf7 (fun _ h9 => h9) rfl dX11_master_87 ?_
  refine lv_sipush (v := 180) hx hb dX11_master_90 (by decide) ?_
  refine yy_iald (v := (-1)) hx hb hK hP 1 0 rfl rfl (yin (by decide)) dX11_master_93 rfl ?_
  refine lv_istore_n (lv' := [(1, .int (-1)), (0, .ref a0)]) hx hb dX11_master_94 rfl hl (by decide) rfl (fun ls hl => ?_)
  refine lv_aload_n hx hb dX11_master_95 rfl (lv_at hl 1 rfl) ?_
  refine va_get (D := (dC, dI)) (ci := 11) (v := .ref a1) (C := RX11) (T := TX11) (N := 24) hx hb hts hnX11 hown hK hP 0 rfl rfl 0 (by decide) hf7 (fun _ h9 => h9) rfl dX11_master_96 ?_
  refine lv_sipush (v := 181) hx hb dX11_master_99 (by decide) ?_
  refine lv_iload_n hx hb dX11_master_102 rfl (lv_at hl 0 rfl) ?_
  refine yy_iast (f' := (yz 0 0)) hx hb hK hP hD hS 1 0 rfl rfl (yin (by decide)) dX11_master_103 (yid rfl) (fun H locs hP hD hS => ?_)
  have hP : va_P (dC, dI) vwCl [(a0, .inr (11, [.ref a1, .int 0, .int 0, .ref a2, .ref a3, .ref a4, .ref a5, .int 0, .ref a6, .ref a7, .ref a8, .int 0, .int 32, .int 0, .ref a9, .ref a10, .int 0, .int 0, .ref a11, .ref a12, .ref a13, .ref a14, .ref a15, .ref a16])), (a1, .inl (cyI, 2490, .inl (yz 0 0))), (a9, .inl (cyI, 15, .inl yR)), (a10, .inl (cyI, 15, .inl yR))] H := hP
  have hD : va_D A [(a0, .inr (11, [.ref a1, .int 0, .int 0, .ref a2, .ref a3, .ref a4, .ref a5, .int 0, .ref a6, .ref a7, .ref a8, .int 0, .int 32, .int 0, .ref a9, .ref a10, .int 0, .int 0, .ref a11, .ref a12, .ref a13, .ref a14, .ref a15, .ref a16])), (a1, .inl (cyI, 2490, .inl (yz 0 0))), (a9, .inl (cyI, 15, .inl yR)), (a10, .inl (cyI, 15, .inl yR))] := hD
  refine lv_iload_n hx hb dX11_master_104 rfl (lv_at hl 0 rfl) ?_
  refine lv_if_lt (tgt := 161) hx hb dX11_master_105 (by decide) (fun _ => ?_) (fun c => absurd (by decide) c)
  refine lv_aload_n hx hb dX11_master_161 rfl (lv_at hl 1 rfl) ?_
  refine va_get (D := (dC, dI)) (ci := 11) (v := .ref a1) (C := RX11) (T := TX11) (N := 24) hx hb hts hnX11 hown hK hP 0 rfl rfl 0 (by decide) hf7 (fun _ h9 => h9) rfl dX11_master_162 ?_
  refine lv_sipush (v := 180) hx hb dX11_master_165 (by decide) ?_
  refine lv_iconst (v := (-1)) hx hb dX11_master_168 (by decide) ?_
  refine yy_iast (f' := (yz 0 0)) hx hb hK hP hD hS 1 0 rfl rfl (yin (by decide)) dX11_master_169 (yid rfl) (fun H locs hP hD hS => ?_)
  have hP : va_P (dC, dI) vwCl [(a0, .inr (11, [.ref a1, .int 0, .int 0, .ref a2, .ref a3, .ref a4, .ref a5, .int 0, .ref a6, .ref a7, .ref a8, .int 0, .int 32, .int 0, .ref a9, .ref a10, .int 0, .int 0, .ref a11, .ref a12, .ref a13, .ref a14, .ref a15, .ref a16])), (a1, .inl (cyI, 2490, .inl (yz 0 0))), (a9, .inl (cyI, 15, .inl yR)), (a10, .inl (cyI, 15, .inl yR))] H := hP
  have hD : va_D A [(a0, .inr (11, [.ref a1, .int 0, .int 0, .ref a2, .ref a3, .ref a4, .ref a5, .int 0, .ref a6, .ref a7, .ref a8, .int 0, .int 32, .int 0, .ref a9, .ref a10, .int 0, .int 0, .ref a11, .ref a12, .ref a13, .ref a14, .ref a15, .ref a16])), (a1, .inl (cyI, 2490, .inl (yz 0 0))), (a9, .inl (cyI, 15, .inl yR)), (a10, .inl (cyI, 15, .inl yR))] := hD
  refine lv_aload_n hx hb dX11_master_170 rfl (lv_at hl 1 rfl) ?_
  refine va_get (D := (dC, dI)) (ci := 11) (v := .ref a10) (C := RX11) (T := TX11) (N := 24) hx hb hts hnX11 hown hK hP 0 rfl rfl 15 (by decide) hf42 (fun _ h9 => h9) rfl dX11_master_171 ?_
  refine lv_iconst (v := 2) hx hb dX11_master_174 (by decide) ?_
  refine lv_iconst (v := 0) hx hb dX11_master_175 (by decide) ?_
  refine yy_iast (f' := yR) hx hb hK hP hD hS 3 0 rfl rfl (yin (by decide)) dX11_master_176 (yid rfl) (fun H locs hP hD hS => ?_)
  have hP : va_P (dC, dI) vwCl [(a0, .inr (11, [.ref a1, .int 0, .int 0, .ref a2, .ref a3, .ref a4, .ref a5, .int 0, .ref a6, .ref a7, .ref a8, .int 0, .int 32, .int 0, .ref a9, .ref a10, .int 0, .int 0, .ref a11, .ref a12, .ref a13, .ref a14, .ref a15, .ref a16])), (a1, .inl (cyI, 2490, .inl (yz 0 0))), (a9, .inl (cyI, 15, .inl yR)), (a10, .inl (cyI, 15, .inl yR))] H := hP
  have hD : va_D A [(a0, .inr (11, [.ref a1, .int 0, .int 0, .ref a2, .ref a3, .ref a4, .ref a5, .int 0, .ref a6, .ref a7, .ref a8, .int 0, .int 32, .int 0, .ref a9, .ref a10, .int 0, .int 0, .ref a11, .ref a12, .ref a13, .ref a14, .ref a15, .ref a16])), (a1, .inl (cyI, 2490, .inl (yz 0 0))), (a9, .inl (cyI, 15, .inl yR)), (a10, .inl (cyI, 15, .inl yR))] := hD
  refine lv_aload_n hx hb dX11_master_177 rfl (lv_at hl 1 rfl) ?_
  have hPc := hP.sub (ws' := [(a0, .inr (11, [.ref a1, .int 0, .int 0, .ref a2, .ref a3, .ref a4, .ref a5, .int 0, .ref a6, .ref a7, .ref a8, .int 0, .int 32, .int 0, .ref a9, .ref a10, .int 0, .int 0, .ref a11, .ref a12, .ref a13, .ref a14, .ref a15, .ref a16])), (a1, .inl (cyI, 2490, .inl (yz 0 0)))]) [0, 1] rfl
  have hDc := hD.sub (ws' := [(a0, .inr (11, [.ref a1, .int 0, .int 0, .ref a2, .ref a3, .ref a4, .ref a5, .int 0, .ref a6, .ref a7, .ref a8, .int 0, .int 32, .int 0, .ref a9, .ref a10, .int 0, .int 0, .ref a11, .ref a12, .ref a13, .ref a14, .ref a15, .ref a16])), (a1, .inl (cyI, 2490, .inl (yz 0 0)))]) [0, 1] (by decide) rfl
  refine yy_callv [0, 1] [2, 3] (wr := [(a9, .inl (cyI, 15, .inl yR)), (a10, .inl (cyI, 15, .inl yR))]) (va_runV (As := []) (rest := []) ⟨hx, hb, hml, hown, hts⟩ (r0_X11_beginNext_113 l dC dI cyI cyZ cyO H.size a0 a1 a2 a3 a4 a5 a6 a7 a8 a9 a10 a11 a12 a13 a14 a15 a16 ) (cwV 0 hts gX11_master_X11_beginNext rfl rfl rfl (by decide +kernel) ⟨Nat.le_of_ble_eq_true rfl, Nat.le_of_ble_eq_true rfl⟩) (yPreV hK hPc hDc (ci := 11) (q0 := 0) rfl rfl) rfl rfl hl.1 rfl (lv_room (Nat.le_of_ble_eq_true rfl)) dX11_master_178 ⟨Nat.le_of_ble_eq_true rfl, Nat.le_of_ble_eq_true rfl⟩) hP hD hS hA rfl rfl (by decide) (by decide) (fun u_1 H locs hw hP hD hS => ?_)
  have hP : va_P (dC, dI) vwCl [(a9, .inl (cyI, 15, .inl yR)), (a10, .inl (cyI, 15, .inl yR)), (a0, .inr (11, [.ref a1, .int 0, .int 0, .ref a2, .ref a3, .ref a4, .ref a5, .int 0, .ref a6, .ref a7, .ref a8, .int 0, .int 32, .int 0, .ref a9, .ref a10, .int 0, .int 0, .ref a11, .ref a12, .ref a13, .ref a14, .ref a15, .ref a16])), (a1, .inl (cyI, 2490, .inl (yz 0 0)))] H := hP
  have hD : va_D A [(a9, .inl (cyI, 15, .inl yR)), (a10, .inl (cyI, 15, .inl yR)), (a0, .inr (11, [.ref a1, .int 0, .int 0, .ref a2, .ref a3, .ref a4, .ref a5, .int 0, .ref a6, .ref a7, .ref a8, .int 0, .int 32, .int 0, .ref a9, .ref a10, .int 0, .int 0, .ref a11, .ref a12, .ref a13, .ref a14, .ref a15, .ref a16])), (a1, .inl (cyI, 2490, .inl (yz 0 0)))] := hD
  refine W.widen (k := 0) (n := 0) (Nat.le_of_ble_eq_true rfl) (Nat.le_of_ble_eq_true rfl) ?_
  refine lv_goto (tgt := 319) hx hb dX11_master_181 (by decide) ?_
  refine W.widen (k := 0) (n := 0) (Nat.le_of_ble_eq_true rfl) (Nat.le_of_ble_eq_true rfl) ?_
  exact yy_vret () hx hb hr hlk hsz hAe hK hP hD hS [2, 3, 0, 1] rfl rfl (by decide) (trivial) dX11_master_319
set_option maxHeartbeats 4000000 in
set_option maxRecDepth 100000 in
theorem r0_X11_lower_115 (l : Launch) (dC : Nat → ClassId) (dI : Nat → Nat → Nat) (cyI cyZ cyO : ClassId) (sz : Nat) (a0 : Nat) (a1 : Nat) (a2 : Nat) (a3 : Nat) (a4 : Nat) (a5 : Nat) (a6 : Nat) (a7 : Nat) (a8 : Nat) (a9 : Nat) (a10 : Nat) (a11 : Nat) (a12 : Nat) (a13 : Nat) (a14 : Nat) (a15 : Nat) (a16 : Nat)  : Met l yX11_lower wsX11_lower ({ frames := 0, cells := 0, slots := 0, locals := 0 }) (yPre [.ref a0] (dC, dI) [(a0, .inr (11, [.ref a1, .int 0, .int 0, .ref a2, .ref a3, .ref a4, .ref a5, .int 0, .ref a6, .ref a7, .ref a8, .int 0, .int 32, .int 0, .ref a9, .ref a10, .int 0, .int 0, .ref a11, .ref a12, .ref a13, .ref a14, .ref a15, .ref a16])), (a1, .inl (cyI, 2490, .inl (yz 0 0)))] (yT cyI cyZ cyO) sz) (yQv (fun (u : Unit) => True) (dC, dI) [(a0, .inr (11, [.ref a1, .int 0, .int 0, .ref a2, .ref a3, .ref a4, .ref a5, .int 0, .ref a6, .ref a7, .ref a8, .int 0, .int 32, .int 0, .ref a9, .ref a10, .int 0, .int 0, .ref a11, .ref a12, .ref a13, .ref a14, .ref a15, .ref a16])), (a1, .inl (cyI, 2490, .inl (yz 0 0)))] (yT cyI cyZ cyO) sz (fun _ => [(a0, .inr (11, [.ref a1, .int 0, .int 0, .ref a2, .ref a3, .ref a4, .ref a5, .int 0, .ref a6, .ref a7, .ref a8, .int 0, .int 32, .int 0, .ref a9, .ref a10, .int 0, .int 0, .ref a11, .ref a12, .ref a13, .ref a14, .ref a15, .ref a16])), (a1, .inl (cyI, 2490, .inl (yz 0 0)))])) 0 0 (va_A [(a0, .inr (11, [.ref a1, .int 0, .int 0, .ref a2, .ref a3, .ref a4, .ref a5, .int 0, .ref a6, .ref a7, .ref a8, .int 0, .int 32, .int 0, .ref a9, .ref a10, .int 0, .int 0, .ref a11, .ref a12, .ref a13, .ref a14, .ref a15, .ref a16])), (a1, .inl (cyI, 2490, .inl (yz 0 0)))] sz) := by
  refine yMet (cc := cX11_lower) (maxL := 1) (ret := none) (by decide) rfl (Nat.le_of_ble_eq_true rfl) ?_
  intro p e s m below meth c A hx hb hr hlk hml hts hown hnm hsz hAe hP hK hD hA hS ls hl
  have hl : lv_has ls 1 [(0, .ref a0)] := hl
  have hf7 := hts (.fieldLink RX11 7 "BusBridgeModel" "z" "[I") (by decide +kernel)
  have hnX11 : ∀ w ∈ wsX110, w ∈ wsX11_lower := by decide +kernel
  refine lv_aload_n hx hb dX11_lower_0 rfl (lv_at hl 0 rfl) ?_
  refine va_get (D := (dC, dI)) (ci := 11) (v := .ref a1) (C := RX11) (T := TX11) (N := 24) hx hb hts hnX11 hown hK hP 0 rfl rfl 0 (by decide) hf7 (fun _ h9 => h9) rfl dX11_lower_1 ?_
  refine lv_sipush (v := 201) hx hb dX11_lower_4 (by decide) ?_
  refine yy_iald (v := 0) hx hb hK hP 1 0 rfl rfl (yin (by decide)) dX11_lower_7 rfl ?_
  refine lv_iconst (v := 1) hx hb dX11_lower_8 (by decide) ?_
  refine lv_icmp_ne (tgt := 41) hx hb dX11_lower_9 (by decide) (fun _ => ?_) (fun c => absurd c (by decide))
  refine lv_aload_n hx hb dX11_lower_41 rfl (lv_at hl 0 rfl) ?_
  refine va_get (D := (dC, dI)) (ci := 11) (v := .ref a1) (C := RX11) (T := TX11) (N := 24) hx hb hts hnX11 hown hK hP 0 rfl rfl 0 (by decide) hf7 (fun _ h9 => h9) rfl dX11_lower_42 ?_
  refine lv_sipush (v := 201) hx hb dX11_lower_45 (by decide) ?_
  refine yy_iald (v := 0) hx hb hK hP 1 0 rfl rfl (yin (by decide)) dX11_lower_48 rfl ?_
  refine lv_iconst (v := 2) hx hb dX11_lower_49 (by decide) ?_
  refine lv_icmp_ne (tgt := 129) hx hb dX11_lower_50 (by decide) (fun _ => ?_) (fun c => absurd c (by decide))
  refine W.widen (k := 0) (n := 0) (Nat.le_of_ble_eq_true rfl) (Nat.le_of_ble_eq_true rfl) ?_
  exact yy_vret () hx hb hr hlk hsz hAe hK hP hD hS [0, 1] rfl rfl (by decide) (trivial) dX11_lower_129
set_option maxHeartbeats 4000000 in
set_option maxRecDepth 100000 in
theorem r0_X11_takeCase_116 (l : Launch) (dC : Nat → ClassId) (dI : Nat → Nat → Nat) (cyI cyZ cyO : ClassId) (sz : Nat) (a0 : Nat) (a1 : Nat) (a2 : Nat) (a3 : Nat) (a4 : Nat) (a5 : Nat) (a6 : Nat) (a7 : Nat) (a8 : Nat) (a9 : Nat) (a10 : Nat) (a11 : Nat) (a12 : Nat) (a13 : Nat) (a14 : Nat) (a15 : Nat) (a16 : Nat)  : Met l yX11_takeCase wsX11_takeCase ({ frames := 0, cells := 0, slots := 0, locals := 0 }) (yPre [.ref a0] (dC, dI) [(a0, .inr (11, [.ref a1, .int 0, .int 0, .ref a2, .ref a3, .ref a4, .ref a5, .int 0, .ref a6, .ref a7, .ref a8, .int 0, .int 32, .int 0, .ref a9, .ref a10, .int 0, .int 0, .ref a11, .ref a12, .ref a13, .ref a14, .ref a15, .ref a16])), (a1, .inl (cyI, 2490, .inl (yz 0 0))), (a9, .inl (cyI, 15, .inl yR))] (yT cyI cyZ cyO) sz) (yQv (fun (u : Unit) => True) (dC, dI) [(a0, .inr (11, [.ref a1, .int 0, .int 0, .ref a2, .ref a3, .ref a4, .ref a5, .int 0, .ref a6, .ref a7, .ref a8, .int 0, .int 32, .int 0, .ref a9, .ref a10, .int 0, .int 0, .ref a11, .ref a12, .ref a13, .ref a14, .ref a15, .ref a16])), (a1, .inl (cyI, 2490, .inl (yz 0 0))), (a9, .inl (cyI, 15, .inl yR))] (yT cyI cyZ cyO) sz (fun _ => [(a0, .inr (11, [.ref a1, .int 0, .int 0, .ref a2, .ref a3, .ref a4, .ref a5, .int 0, .ref a6, .ref a7, .ref a8, .int 0, .int 32, .int 0, .ref a9, .ref a10, .int 0, .int 0, .ref a11, .ref a12, .ref a13, .ref a14, .ref a15, .ref a16])), (a1, .inl (cyI, 2490, .inl (yz 0 0))), (a9, .inl (cyI, 15, .inl yR))])) 0 0 (va_A [(a0, .inr (11, [.ref a1, .int 0, .int 0, .ref a2, .ref a3, .ref a4, .ref a5, .int 0, .ref a6, .ref a7, .ref a8, .int 0, .int 32, .int 0, .ref a9, .ref a10, .int 0, .int 0, .ref a11, .ref a12, .ref a13, .ref a14, .ref a15, .ref a16])), (a1, .inl (cyI, 2490, .inl (yz 0 0))), (a9, .inl (cyI, 15, .inl yR))] sz) := by
  refine yMet (cc := cX11_takeCase) (maxL := 1) (ret := none) (by decide) rfl (Nat.le_of_ble_eq_true rfl) ?_
  intro p e s m below meth c A hx hb hr hlk hml hts hown hnm hsz hAe hP hK hD hA hS ls hl
  have hl : lv_has ls 1 [(0, .ref a0)] := hl
  have hf39 := hts (.fieldLink RX11 39 "BusBridgeModel" "see" "[I") (by decide +kernel)
  have hf7 := hts (.fieldLink RX11 7 "BusBridgeModel" "z" "[I") (by decide +kernel)
  have hnX11 : ∀ w ∈ wsX110, w ∈ wsX11_takeCase := by decide +kernel
  refine lv_aload_n hx hb dX11_takeCase_0 rfl (lv_at hl 0 rfl) ?_
  refine va_get (D := (dC, dI)) (ci := 11) (v := .ref a9) (C := RX11) (T := TX11) (N := 24) hx hb hts hnX11 hown hK hP 0 rfl rfl 14 (by decide) hf39 (fun _ h9 => h9) rfl dX11_takeCase_1 ?_
  refine lv_iconst (v := 2) hx hb dX11_takeCase_4 (by decide) ?_
  refine yy_iald (v := 0) hx hb hK hP 2 0 rfl rfl (yin (by decide)) dX11_takeCase_5 rfl ?_
  refine lv_iconst (v := 2) hx hb dX11_takeCase_6 (by decide) ?_
  refine lv_icmp_eq (tgt := 30) hx hb dX11_takeCase_7 (by decide) (fun c => absurd c (by decide)) (fun _ => ?_)
  refine lv_aload_n hx hb dX11_takeCase_10 rfl (lv_at hl 0 rfl) ?_
  refine va_get (D := (dC, dI)) (ci := 11) (v := .ref a9) (C := RX11) (T := TX11) (N := 24) hx hb hts hnX11 hown hK hP 0 rfl rfl 14 (by decide) hf39 (fun _ h9 => h9) rfl dX11_takeCase_11 ?_
  refine lv_iconst (v := 2) hx hb dX11_takeCase_14 (by decide) ?_
  refine yy_iald (v := 0) hx hb hK hP 2 0 rfl rfl (yin (by decide)) dX11_takeCase_15 rfl ?_
  refine lv_iconst (v := 3) hx hb dX11_takeCase_16 (by decide) ?_
  refine lv_icmp_eq (tgt := 30) hx hb dX11_takeCase_17 (by decide) (fun c => absurd c (by decide)) (fun _ => ?_)
  refine lv_aload_n hx hb dX11_takeCase_20 rfl (lv_at hl 0 rfl) ?_
  refine va_get (D := (dC, dI)) (ci := 11) (v := .ref a1) (C := RX11) (T := TX11) (N := 24) hx hb hts hnX11 hown hK hP 0 rfl rfl 0 (by decide) hf7 (fun _ h9 => h9) rfl dX11_takeCase_21 ?_
  refine lv_sipush (v := 184) hx hb dX11_takeCase_24 (by decide) ?_
  refine lv_iconst (v := 0) hx hb dX11_takeCase_27 (by decide) ?_
  refine yy_iast (f' := (yz 0 0)) hx hb hK hP hD hS 1 0 rfl rfl (yin (by decide)) dX11_takeCase_28 (yid rfl) (fun H locs hP hD hS => ?_)
  have hP : va_P (dC, dI) vwCl [(a0, .inr (11, [.ref a1, .int 0, .int 0, .ref a2, .ref a3, .ref a4, .ref a5, .int 0, .ref a6, .ref a7, .ref a8, .int 0, .int 32, .int 0, .ref a9, .ref a10, .int 0, .int 0, .ref a11, .ref a12, .ref a13, .ref a14, .ref a15, .ref a16])), (a1, .inl (cyI, 2490, .inl (yz 0 0))), (a9, .inl (cyI, 15, .inl yR))] H := hP
  have hD : va_D A [(a0, .inr (11, [.ref a1, .int 0, .int 0, .ref a2, .ref a3, .ref a4, .ref a5, .int 0, .ref a6, .ref a7, .ref a8, .int 0, .int 32, .int 0, .ref a9, .ref a10, .int 0, .int 0, .ref a11, .ref a12, .ref a13, .ref a14, .ref a15, .ref a16])), (a1, .inl (cyI, 2490, .inl (yz 0 0))), (a9, .inl (cyI, 15, .inl yR))] := hD
  refine W.widen (k := 0) (n := 0) (Nat.le_of_ble_eq_true rfl) (Nat.le_of_ble_eq_true rfl) ?_
  exact yy_vret () hx hb hr hlk hsz hAe hK hP hD hS [0, 1, 2] rfl rfl (by decide) (trivial) dX11_takeCase_29
set_option maxHeartbeats 4000000 in
set_option maxRecDepth 100000 in
theorem r0_X11_bridge_117 (l : Launch) (dC : Nat → ClassId) (dI : Nat → Nat → Nat) (cyI cyZ cyO : ClassId) (sz : Nat) (a0 : Nat) (a1 : Nat) (a2 : Nat) (a3 : Nat) (a4 : Nat) (a5 : Nat) (a6 : Nat) (a7 : Nat) (a8 : Nat) (a9 : Nat) (a10 : Nat) (a11 : Nat) (a12 : Nat) (a13 : Nat) (a14 : Nat) (a15 : Nat) (a16 : Nat)  : Met l yX11_bridge wsX11_bridge ({ frames := 1, cells := 0, slots := 0, locals := 25 }) (yPre [.ref a0] (dC, dI) [(a0, .inr (11, [.ref a1, .int 0, .int 0, .ref a2, .ref a3, .ref a4, .ref a5, .int 0, .ref a6, .ref a7, .ref a8, .int 0, .int 32, .int 0, .ref a9, .ref a10, .int 0, .int 0, .ref a11, .ref a12, .ref a13, .ref a14, .ref a15, .ref a16])), (a1, .inl (cyI, 2490, .inl (yz 0 0))), (a9, .inl (cyI, 15, .inl yR)), (a10, .inl (cyI, 15, .inl yR))] (yT cyI cyZ cyO) sz) (yQv (fun (u : Unit) => True) (dC, dI) [(a0, .inr (11, [.ref a1, .int 0, .int 0, .ref a2, .ref a3, .ref a4, .ref a5, .int 0, .ref a6, .ref a7, .ref a8, .int 0, .int 32, .int 0, .ref a9, .ref a10, .int 0, .int 0, .ref a11, .ref a12, .ref a13, .ref a14, .ref a15, .ref a16])), (a1, .inl (cyI, 2490, .inl (yz 0 0))), (a9, .inl (cyI, 15, .inl yR)), (a10, .inl (cyI, 15, .inl yR))] (yT cyI cyZ cyO) sz (fun _ => [(a0, .inr (11, [.ref a1, .int 0, .int 0, .ref a2, .ref a3, .ref a4, .ref a5, .int 0, .ref a6, .ref a7, .ref a8, .int 0, .int 32, .int 0, .ref a9, .ref a10, .int 0, .int 0, .ref a11, .ref a12, .ref a13, .ref a14, .ref a15, .ref a16])), (a1, .inl (cyI, 2490, .inl (yz 0 0))), (a9, .inl (cyI, 15, .inl yR)), (a10, .inl (cyI, 15, .inl yR))])) 0 0 (va_A [(a0, .inr (11, [.ref a1, .int 0, .int 0, .ref a2, .ref a3, .ref a4, .ref a5, .int 0, .ref a6, .ref a7, .ref a8, .int 0, .int 32, .int 0, .ref a9, .ref a10, .int 0, .int 0, .ref a11, .ref a12, .ref a13, .ref a14, .ref a15, .ref a16])), (a1, .inl (cyI, 2490, .inl (yz 0 0))), (a9, .inl (cyI, 15, .inl yR)), (a10, .inl (cyI, 15, .inl yR))] sz) := by
  refine yMet (cc := cX11_bridge) (maxL := 2) (ret := none) (by decide) rfl (Nat.le_of_ble_eq_true rfl) ?_
  intro p e s m below meth c A hx hb hr hlk hml hts hown hnm hsz hAe hP hK hD hA hS ls hl
  have hl : lv_has ls 2 [(0, .ref a0)] := hl
  have hf42 := hts (.fieldLink RX11 42 "BusBridgeModel" "set" "[I") (by decide +kernel)
  have hf7 := hts (.fieldLink RX11 7 "BusBridgeModel" "z" "[I") (by decide +kernel)
  have hl109 := hts (.constantLong RX11 109 4) (by decide +kernel)
  have hl118 := hts (.constantLong RX11 118 2) (by decide +kernel)
  have hnX11 : ∀ w ∈ wsX110, w ∈ wsX11_bridge := by decide +kernel
  refine lv_aload_n hx hb dX11_bridge_0 rfl (lv_at hl 0 rfl) ?_
  refine va_get (D := (dC, dI)) (ci := 11) (v := .ref a1) (C := RX11) (T := TX11) (N := 24) hx hb hts hnX11 hown hK hP 0 rfl rfl 0 (by decide) hf7 (fun _ h9 => h9) rfl dX11_bridge_1 ?_
  refine lv_sipush (v := 184) hx hb dX11_bridge_4 (by decide) ?_
  refine yy_iald (v := 0) hx hb hK hP 1 0 rfl rfl (yin (by decide)) dX11_bridge_7 rfl ?_
  refine lv_tableOut (tgt := 157) hx hb dX11_bridge_8 (by decide) (by decide) ?_
  refine lv_aload_n hx hb dX11_bridge_157 rfl (lv_at hl 0 rfl) ?_
  refine va_get (D := (dC, dI)) (ci := 11) (v := .ref a1) (C := RX11) (T := TX11) (N := 24) hx hb hts hnX11 hown hK hP 0 rfl rfl 0 (by decide) hf7 (fun _ h9 => h9) rfl dX11_bridge_158 ?_
  refine lv_sipush (v := 184) hx hb dX11_bridge_161 (by decide) ?_
  refine yy_iald (v := 0) hx hb hK hP 1 0 rfl rfl (yin (by decide)) dX11_bridge_164 rfl ?_
  refine lv_iconst (v := 1) hx hb dX11_bridge_165 (by decide) ?_
  refine lv_icmp_ne (tgt := 229) hx hb dX11_bridge_166 (by decide) (fun _ => ?_) (fun c => absurd c (by decide))
  refine lv_aload_n hx hb dX11_bridge_229 rfl (lv_at hl 0 rfl) ?_
  have hPc := hP.sub (ws' := [(a0, .inr (11, [.ref a1, .int 0, .int 0, .ref a2, .ref a3, .ref a4, .ref a5, .int 0, .ref a6, .ref a7, .ref a8, .int 0, .int 32, .int 0, .ref a9, .ref a10, .int 0, .int 0, .ref a11, .ref a12, .ref a13, .ref a14, .ref a15, .ref a16])), (a1, .inl (cyI, 2490, .inl (yz 0 0))), (a9, .inl (cyI, 15, .inl yR))]) [0, 1, 2] rfl
  have hDc := hD.sub (ws' := [(a0, .inr (11, [.ref a1, .int 0, .int 0, .ref a2, .ref a3, .ref a4, .ref a5, .int 0, .ref a6, .ref a7, .ref a8, .int 0, .int 32, .int 0, .ref a9, .ref a10, .int 0, .int 0, .ref a11, .ref a12, .ref a13, .ref a14, .ref a15, .ref a16])), (a1, .inl (cyI, 2490, .inl (yz 0 0))), (a9, .inl (cyI, 15, .inl yR))]) [0, 1, 2] (by decide) rfl
  refine yy_callv [0, 1, 2] [3] (wr := [(a10, .inl (cyI, 15, .inl yR))]) (va_runV (As := []) (rest := []) ⟨hx, hb, hml, hown, hts⟩ (r0_X11_takeCase_116 l dC dI cyI cyZ cyO s.heap.size a0 a1 a2 a3 a4 a5 a6 a7 a8 a9 a10 a11 a12 a13 a14 a15 a16 ) (cwV 0 hts gX11_bridge_X11_takeCase rfl rfl rfl (by decide +kernel) ⟨Nat.le_of_ble_eq_true rfl, Nat.le_of_ble_eq_true rfl⟩) (yPreV hK hPc hDc (ci := 11) (q0 := 0) rfl rfl) rfl rfl hl.1 rfl (lv_room (Nat.le_of_ble_eq_true rfl)) dX11_bridge_230 ⟨Nat.le_of_ble_eq_true rfl, Nat.le_of_ble_eq_true rfl⟩) hP hD hS hA rfl rfl (by decide) (by decide) (fun u_1 H locs hw hP hD hS => ?_)
  have hP : va_P (dC, dI) vwCl [(a10, .inl (cyI, 15, .inl yR)), (a0, .inr (11, [.ref a1, .int 0, .int 0, .ref a2, .ref a3, .ref a4, .ref a5, .int 0, .ref a6, .ref a7, .ref a8, .int 0, .int 32, .int 0, .ref a9, .ref a10, .int 0, .int 0, .ref a11, .ref a12, .ref a13, .ref a14, .ref a15, .ref a16])), (a1, .inl (cyI, 2490, .inl (yz 0 0))), (a9, .inl (cyI, 15, .inl yR))] H := hP
  have hD : va_D A [(a10, .inl (cyI, 15, .inl yR)), (a0, .inr (11, [.ref a1, .int 0, .int 0, .ref a2, .ref a3, .ref a4, .ref a5, .int 0, .ref a6, .ref a7, .ref a8, .int 0, .int 32, .int 0, .ref a9, .ref a10, .int 0, .int 0, .ref a11, .ref a12, .ref a13, .ref a14, .ref a15, .ref a16])), (a1, .inl (cyI, 2490, .inl (yz 0 0))), (a9, .inl (cyI, 15, .inl yR))] := hD
  refine W.widen (k := 0) (n := 0) (Nat.le_of_ble_eq_true rfl) (Nat.le_of_ble_eq_true rfl) ?_
  refine lv_aload_n hx hb dX11_bridge_233 rfl (lv_at hl 0 rfl) ?_
  refine va_get (D := (dC, dI)) (ci := 11) (v := .ref a1) (C := RX11) (T := TX11) (N := 24) hx hb hts hnX11 hown hK hP 1 rfl rfl 0 (by decide) hf7 (fun _ h9 => h9) rfl dX11_bridge_234 ?_
  refine lv_sipush (v := 184) hx hb dX11_bridge_237 (by decide) ?_
  refine yy_iald (v := 0) hx hb hK hP 2 0 rfl rfl (yin (by decide)) dX11_bridge_240 rfl ?_
  refine lv_i2l hx hb dX11_bridge_241 rfl ?_
  refine lv_ldc2 (v := 2) hx hb hown hl118 dX11_bridge_242 ?_
  refine yy_long (v := (2 : Int32).toInt64) (by decide) ?_
  refine lv_ldc2 (v := 4) hx hb hown hl109 dX11_bridge_245 ?_
  refine yy_long (v := (4 : Int32).toInt64) (by decide) ?_
  have hPc := hP.sub (ws' := []) [] rfl
  have hDc := hD.sub (ws' := []) [] (by decide) rfl
  refine yy_calli [] [0, 1, 2, 3] (wr := [(a10, .inl (cyI, 15, .inl yR)), (a0, .inr (11, [.ref a1, .int 0, .int 0, .ref a2, .ref a3, .ref a4, .ref a5, .int 0, .ref a6, .ref a7, .ref a8, .int 0, .int 32, .int 0, .ref a9, .ref a10, .int 0, .int 0, .ref a11, .ref a12, .ref a13, .ref a14, .ref a15, .ref a16])), (a1, .inl (cyI, 2490, .inl (yz 0 0))), (a9, .inl (cyI, 15, .inl yR))]) (va_runS (As := [.long (0 : Int32).toInt64, .long (2 : Int32).toInt64, .long (4 : Int32).toInt64]) (rest := []) ⟨hx, hb, hml, hown, hts⟩ (r_in l dC dI cyI cyZ cyO H.size 0 2 4 ) (va_cwS 3 hts gX11_bridge_X11_in rfl rfl rfl (by decide +kernel) ⟨Nat.le_of_ble_eq_true rfl, Nat.le_of_ble_eq_true rfl⟩) (yPreS hK hPc hDc) rfl rfl hl.1 rfl (lv_room (Nat.le_of_ble_eq_true rfl)) dX11_bridge_248 ⟨Nat.le_of_ble_eq_true rfl, Nat.le_of_ble_eq_true rfl⟩) hP hD hS hA rfl rfl (by decide) (by decide) (fun r_3 u_2 H locs hw hP hD hS => ?_)
  have hP : va_P (dC, dI) vwCl [(a10, .inl (cyI, 15, .inl yR)), (a0, .inr (11, [.ref a1, .int 0, .int 0, .ref a2, .ref a3, .ref a4, .ref a5, .int 0, .ref a6, .ref a7, .ref a8, .int 0, .int 32, .int 0, .ref a9, .ref a10, .int 0, .int 0, .ref a11, .ref a12, .ref a13, .ref a14, .ref a15, .ref a16])), (a1, .inl (cyI, 2490, .inl (yz 0 0))), (a9, .inl (cyI, 15, .inl yR))] H := hP
  have hD : va_D A [(a10, .inl (cyI, 15, .inl yR)), (a0, .inr (11, [.ref a1, .int 0, .int 0, .ref a2, .ref a3, .ref a4, .ref a5, .int 0, .ref a6, .ref a7, .ref a8, .int 0, .int 32, .int 0, .ref a9, .ref a10, .int 0, .int 0, .ref a11, .ref a12, .ref a13, .ref a14, .ref a15, .ref a16])), (a1, .inl (cyI, 2490, .inl (yz 0 0))), (a9, .inl (cyI, 15, .inl yR))] := hD
  refine W.widen (k := 0) (n := 0) (Nat.le_of_ble_eq_true rfl) (Nat.le_of_ble_eq_true rfl) ?_
  have hw : r_3 = 0 := hw.trans (by decide)
  subst hw
  refine lv_istore_n (lv' := [(1, .int 0), (0, .ref a0)]) hx hb dX11_bridge_251 rfl hl (by decide) rfl (fun ls hl => ?_)
  refine lv_aload_n hx hb dX11_bridge_252 rfl (lv_at hl 1 rfl) ?_
  refine va_get (D := (dC, dI)) (ci := 11) (v := .ref a10) (C := RX11) (T := TX11) (N := 24) hx hb hts hnX11 hown hK hP 1 rfl rfl 15 (by decide) hf42 (fun _ h9 => h9) rfl dX11_bridge_253 ?_
  refine lv_iconst (v := 4) hx hb dX11_bridge_256 (by decide) ?_
  refine lv_iload_n hx hb dX11_bridge_257 rfl (lv_at hl 0 rfl) ?_
  refine lv_if_eq (tgt := 265) hx hb dX11_bridge_258 (by decide) (fun _ => ?_) (fun c => absurd (by decide) c)
  refine lv_iconst (v := 1) hx hb dX11_bridge_265 (by decide) ?_
  refine yy_iast (f' := yR) hx hb hK hP hD hS 0 0 rfl rfl (yin (by decide)) dX11_bridge_266 (yid rfl) (fun H locs hP hD hS => ?_)
  have hP : va_P (dC, dI) vwCl [(a10, .inl (cyI, 15, .inl yR)), (a0, .inr (11, [.ref a1, .int 0, .int 0, .ref a2, .ref a3, .ref a4, .ref a5, .int 0, .ref a6, .ref a7, .ref a8, .int 0, .int 32, .int 0, .ref a9, .ref a10, .int 0, .int 0, .ref a11, .ref a12, .ref a13, .ref a14, .ref a15, .ref a16])), (a1, .inl (cyI, 2490, .inl (yz 0 0))), (a9, .inl (cyI, 15, .inl yR))] H := hP
  have hD : va_D A [(a10, .inl (cyI, 15, .inl yR)), (a0, .inr (11, [.ref a1, .int 0, .int 0, .ref a2, .ref a3, .ref a4, .ref a5, .int 0, .ref a6, .ref a7, .ref a8, .int 0, .int 32, .int 0, .ref a9, .ref a10, .int 0, .int 0, .ref a11, .ref a12, .ref a13, .ref a14, .ref a15, .ref a16])), (a1, .inl (cyI, 2490, .inl (yz 0 0))), (a9, .inl (cyI, 15, .inl yR))] := hD
  refine lv_aload_n hx hb dX11_bridge_267 rfl (lv_at hl 1 rfl) ?_
  refine va_get (D := (dC, dI)) (ci := 11) (v := .ref a10) (C := RX11) (T := TX11) (N := 24) hx hb hts hnX11 hown hK hP 1 rfl rfl 15 (by decide) hf42 (fun _ h9 => h9) rfl dX11_bridge_268 ?_
  refine lv_iconst (v := 5) hx hb dX11_bridge_271 (by decide) ?_
  refine lv_aload_n hx hb dX11_bridge_272 rfl (lv_at hl 1 rfl) ?_
  refine va_get (D := (dC, dI)) (ci := 11) (v := .ref a1) (C := RX11) (T := TX11) (N := 24) hx hb hts hnX11 hown hK hP 1 rfl rfl 0 (by decide) hf7 (fun _ h9 => h9) rfl dX11_bridge_273 ?_
  refine lv_sipush (v := 184) hx hb dX11_bridge_276 (by decide) ?_
  refine yy_iald (v := 0) hx hb hK hP 2 0 rfl rfl (yin (by decide)) dX11_bridge_279 rfl ?_
  refine lv_iconst (v := 4) hx hb dX11_bridge_280 (by decide) ?_
  refine lv_icmp_eq (tgt := 296) hx hb dX11_bridge_281 (by decide) (fun c => absurd c (by decide)) (fun _ => ?_)
  refine lv_aload_n hx hb dX11_bridge_284 rfl (lv_at hl 1 rfl) ?_
  refine va_get (D := (dC, dI)) (ci := 11) (v := .ref a1) (C := RX11) (T := TX11) (N := 24) hx hb hts hnX11 hown hK hP 1 rfl rfl 0 (by decide) hf7 (fun _ h9 => h9) rfl dX11_bridge_285 ?_
  refine lv_sipush (v := 184) hx hb dX11_bridge_288 (by decide) ?_
  refine yy_iald (v := 0) hx hb hK hP 2 0 rfl rfl (yin (by decide)) dX11_bridge_291 rfl ?_
  refine lv_iconst (v := 5) hx hb dX11_bridge_292 (by decide) ?_
  refine lv_icmp_ne (tgt := 300) hx hb dX11_bridge_293 (by decide) (fun _ => ?_) (fun c => absurd c (by decide))
  refine lv_iconst (v := 0) hx hb dX11_bridge_300 (by decide) ?_
  refine yy_iast (f' := yR) hx hb hK hP hD hS 0 0 rfl rfl (yin (by decide)) dX11_bridge_301 (yid rfl) (fun H locs hP hD hS => ?_)
  have hP : va_P (dC, dI) vwCl [(a10, .inl (cyI, 15, .inl yR)), (a0, .inr (11, [.ref a1, .int 0, .int 0, .ref a2, .ref a3, .ref a4, .ref a5, .int 0, .ref a6, .ref a7, .ref a8, .int 0, .int 32, .int 0, .ref a9, .ref a10, .int 0, .int 0, .ref a11, .ref a12, .ref a13, .ref a14, .ref a15, .ref a16])), (a1, .inl (cyI, 2490, .inl (yz 0 0))), (a9, .inl (cyI, 15, .inl yR))] H := hP
  have hD : va_D A [(a10, .inl (cyI, 15, .inl yR)), (a0, .inr (11, [.ref a1, .int 0, .int 0, .ref a2, .ref a3, .ref a4, .ref a5, .int 0, .ref a6, .ref a7, .ref a8, .int 0, .int 32, .int 0, .ref a9, .ref a10, .int 0, .int 0, .ref a11, .ref a12, .ref a13, .ref a14, .ref a15, .ref a16])), (a1, .inl (cyI, 2490, .inl (yz 0 0))), (a9, .inl (cyI, 15, .inl yR))] := hD
  refine W.widen (k := 0) (n := 0) (Nat.le_of_ble_eq_true rfl) (Nat.le_of_ble_eq_true rfl) ?_
  exact yy_vret () hx hb hr hlk hsz hAe hK hP hD hS [1, 2, 3, 0] rfl rfl (by decide) (trivial) dX11_bridge_302
set_option maxHeartbeats 4000000 in
set_option maxRecDepth 100000 in
theorem r0_X11_act_118 (l : Launch) (dC : Nat → ClassId) (dI : Nat → Nat → Nat) (cyI cyZ cyO : ClassId) (sz : Nat) (a0 : Nat) (a1 : Nat) (a2 : Nat) (a3 : Nat) (a4 : Nat) (a5 : Nat) (a6 : Nat) (a7 : Nat) (a8 : Nat) (a9 : Nat) (a10 : Nat) (a11 : Nat) (a12 : Nat) (a13 : Nat) (a14 : Nat) (a15 : Nat) (a16 : Nat)  : Met l yX11_act wsX11_act ({ frames := 0, cells := 0, slots := 0, locals := 0 }) (yPre [.ref a0] (dC, dI) [(a0, .inr (11, [.ref a1, .int 0, .int 0, .ref a2, .ref a3, .ref a4, .ref a5, .int 0, .ref a6, .ref a7, .ref a8, .int 0, .int 32, .int 0, .ref a9, .ref a10, .int 0, .int 0, .ref a11, .ref a12, .ref a13, .ref a14, .ref a15, .ref a16])), (a1, .inl (cyI, 2490, .inl (yz 0 0)))] (yT cyI cyZ cyO) sz) (yQv (fun (u : Unit) => True) (dC, dI) [(a0, .inr (11, [.ref a1, .int 0, .int 0, .ref a2, .ref a3, .ref a4, .ref a5, .int 0, .ref a6, .ref a7, .ref a8, .int 0, .int 32, .int 0, .ref a9, .ref a10, .int 0, .int 0, .ref a11, .ref a12, .ref a13, .ref a14, .ref a15, .ref a16])), (a1, .inl (cyI, 2490, .inl (yz 0 0)))] (yT cyI cyZ cyO) sz (fun _ => [(a0, .inr (11, [.ref a1, .int 0, .int 0, .ref a2, .ref a3, .ref a4, .ref a5, .int 0, .ref a6, .ref a7, .ref a8, .int 0, .int 32, .int 0, .ref a9, .ref a10, .int 0, .int 0, .ref a11, .ref a12, .ref a13, .ref a14, .ref a15, .ref a16])), (a1, .inl (cyI, 2490, .inl (yz 0 0)))])) 0 0 (va_A [(a0, .inr (11, [.ref a1, .int 0, .int 0, .ref a2, .ref a3, .ref a4, .ref a5, .int 0, .ref a6, .ref a7, .ref a8, .int 0, .int 32, .int 0, .ref a9, .ref a10, .int 0, .int 0, .ref a11, .ref a12, .ref a13, .ref a14, .ref a15, .ref a16])), (a1, .inl (cyI, 2490, .inl (yz 0 0)))] sz) := by
  refine yMet (cc := cX11_act) (maxL := 4) (ret := none) (by decide) rfl (Nat.le_of_ble_eq_true rfl) ?_
  intro p e s m below meth c A hx hb hr hlk hml hts hown hnm hsz hAe hP hK hD hA hS ls hl
  have hl : lv_has ls 4 [(0, .ref a0)] := hl
  have hf7 := hts (.fieldLink RX11 7 "BusBridgeModel" "z" "[I") (by decide +kernel)
  have hnX11 : ∀ w ∈ wsX110, w ∈ wsX11_act := by decide +kernel
  refine lv_aload_n hx hb dX11_act_0 rfl (lv_at hl 0 rfl) ?_
  refine va_get (D := (dC, dI)) (ci := 11) (v := .ref a1) (C := RX11) (T := TX11) (N := 24) hx hb hts hnX11 hown hK hP 0 rfl rfl 0 (by decide) hf7 (fun _ h9 => h9) rfl dX11_act_1 ?_
  refine lv_sipush (v := 201) hx hb dX11_act_4 (by decide) ?_
  refine yy_iald (v := 0) hx hb hK hP 1 0 rfl rfl (yin (by decide)) dX11_act_7 rfl ?_
  refine lv_if_eq (tgt := 12) hx hb dX11_act_8 (by decide) (fun _ => ?_) (fun c => absurd (by decide) c)
  refine lv_aload_n hx hb dX11_act_12 rfl (lv_at hl 0 rfl) ?_
  refine va_get (D := (dC, dI)) (ci := 11) (v := .ref a1) (C := RX11) (T := TX11) (N := 24) hx hb hts hnX11 hown hK hP 0 rfl rfl 0 (by decide) hf7 (fun _ h9 => h9) rfl dX11_act_13 ?_
  refine lv_sipush (v := 192) hx hb dX11_act_16 (by decide) ?_
  refine yy_iald (v := 0) hx hb hK hP 1 0 rfl rfl (yin (by decide)) dX11_act_19 rfl ?_
  refine lv_if_le (tgt := 128) hx hb dX11_act_20 (by decide) (fun _ => ?_) (fun c => absurd (by decide) c)
  refine lv_aload_n hx hb dX11_act_128 rfl (lv_at hl 0 rfl) ?_
  refine va_get (D := (dC, dI)) (ci := 11) (v := .ref a1) (C := RX11) (T := TX11) (N := 24) hx hb hts hnX11 hown hK hP 0 rfl rfl 0 (by decide) hf7 (fun _ h9 => h9) rfl dX11_act_129 ?_
  refine lv_sipush (v := 184) hx hb dX11_act_132 (by decide) ?_
  refine yy_iald (v := 0) hx hb hK hP 1 0 rfl rfl (yin (by decide)) dX11_act_135 rfl ?_
  refine lv_iconst (v := 3) hx hb dX11_act_136 (by decide) ?_
  refine lv_icmp_ne (tgt := 189) hx hb dX11_act_137 (by decide) (fun _ => ?_) (fun c => absurd c (by decide))
  refine W.widen (k := 0) (n := 0) (Nat.le_of_ble_eq_true rfl) (Nat.le_of_ble_eq_true rfl) ?_
  exact yy_vret () hx hb hr hlk hsz hAe hK hP hD hS [0, 1] rfl rfl (by decide) (trivial) dX11_act_189
set_option maxHeartbeats 4000000 in
set_option maxRecDepth 100000 in
theorem r0_X11_slavesGo_119 (l : Launch) (dC : Nat → ClassId) (dI : Nat → Nat → Nat) (cyI cyZ cyO : ClassId) (sz : Nat) (a0 : Nat) (a1 : Nat) (a2 : Nat) (a3 : Nat) (a4 : Nat) (a5 : Nat) (a6 : Nat) (a7 : Nat) (a8 : Nat) (a9 : Nat) (a10 : Nat) (a11 : Nat) (a12 : Nat) (a13 : Nat) (a14 : Nat) (a15 : Nat) (a16 : Nat)  : Met l yX11_slavesGo wsX11_slavesGo ({ frames := 0, cells := 0, slots := 0, locals := 0 }) (yPre [.ref a0] (dC, dI) [(a0, .inr (11, [.ref a1, .int 0, .int 0, .ref a2, .ref a3, .ref a4, .ref a5, .int 0, .ref a6, .ref a7, .ref a8, .int 0, .int 32, .int 0, .ref a9, .ref a10, .int 0, .int 0, .ref a11, .ref a12, .ref a13, .ref a14, .ref a15, .ref a16])), (a10, .inl (cyI, 15, .inl yR))] (yT cyI cyZ cyO) sz) (yQv (fun (u : Unit) => True) (dC, dI) [(a0, .inr (11, [.ref a1, .int 0, .int 0, .ref a2, .ref a3, .ref a4, .ref a5, .int 0, .ref a6, .ref a7, .ref a8, .int 0, .int 32, .int 0, .ref a9, .ref a10, .int 0, .int 0, .ref a11, .ref a12, .ref a13, .ref a14, .ref a15, .ref a16])), (a10, .inl (cyI, 15, .inl yR))] (yT cyI cyZ cyO) sz (fun _ => [(a0, .inr (11, [.ref a1, .int 0, .int 0, .ref a2, .ref a3, .ref a4, .ref a5, .int 0, .ref a6, .ref a7, .ref a8, .int 0, .int 32, .int 0, .ref a9, .ref a10, .int 0, .int 0, .ref a11, .ref a12, .ref a13, .ref a14, .ref a15, .ref a16])), (a10, .inl (cyI, 15, .inl yR))])) 0 0 (va_A [(a0, .inr (11, [.ref a1, .int 0, .int 0, .ref a2, .ref a3, .ref a4, .ref a5, .int 0, .ref a6, .ref a7, .ref a8, .int 0, .int 32, .int 0, .ref a9, .ref a10, .int 0, .int 0, .ref a11, .ref a12, .ref a13, .ref a14, .ref a15, .ref a16])), (a10, .inl (cyI, 15, .inl yR))] sz) := by
  refine yMet (cc := cX11_slavesGo) (maxL := 3) (ret := none) (by decide) rfl (Nat.le_of_ble_eq_true rfl) ?_
  intro p e s m below meth c A hx hb hr hlk hml hts hown hnm hsz hAe hP hK hD hA hS ls hl
  have hl : lv_has ls 3 [(0, .ref a0)] := hl
  have hf42 := hts (.fieldLink RX11 42 "BusBridgeModel" "set" "[I") (by decide +kernel)
  have hf69 := hts (.fieldLink RX11 69 "BusBridgeModel" "registers" "I") (by decide +kernel)
  have hf88 := hts (.fieldLink RX11 88 "BusBridgeModel" "slaves" "I") (by decide +kernel)
  have hnX11 : ∀ w ∈ wsX110, w ∈ wsX11_slavesGo := by decide +kernel
  refine lv_iconst (v := 0) hx hb dX11_slavesGo_0 (by decide) ?_
  refine lv_istore_n (lv' := [(1, .int 0), (0, .ref a0)]) hx hb dX11_slavesGo_1 rfl hl (by decide) rfl (fun ls hl => ?_)
  refine lv_iload_n hx hb dX11_slavesGo_2 rfl (lv_at hl 0 rfl) ?_
  refine lv_aload_n hx hb dX11_slavesGo_3 rfl (lv_at hl 1 rfl) ?_
  refine va_get (D := (dC, dI)) (ci := 11) (v := .int 0) (C := RX11) (T := TX11) (N := 24) hx hb hts hnX11 hown hK hP 0 rfl rfl 7 (by decide) hf69 (fun _ h9 => h9) rfl dX11_slavesGo_4 ?_
  refine lv_icmp_ge (tgt := 23) hx hb dX11_slavesGo_7 (by decide) (fun _ => ?_) (fun c => absurd (by decide) c)
  refine lv_iconst (v := 0) hx hb dX11_slavesGo_23 (by decide) ?_
  refine lv_istore_n (lv' := [(1, .int 0), (0, .ref a0)]) hx hb dX11_slavesGo_24 rfl hl (by decide) rfl (fun ls hl => ?_)
  refine lv_iconst (v := 0) hx hb dX11_slavesGo_25 (by decide) ?_
  refine lv_istore_n (lv' := [(2, .int 0), (1, .int 0), (0, .ref a0)]) hx hb dX11_slavesGo_26 rfl hl (by decide) rfl (fun ls hl => ?_)
  refine lv_iload_n hx hb dX11_slavesGo_27 rfl (lv_at hl 0 rfl) ?_
  refine lv_aload_n hx hb dX11_slavesGo_28 rfl (lv_at hl 2 rfl) ?_
  refine va_get (D := (dC, dI)) (ci := 11) (v := .int 0) (C := RX11) (T := TX11) (N := 24) hx hb hts hnX11 hown hK hP 0 rfl rfl 2 (by decide) hf88 (fun _ h9 => h9) rfl dX11_slavesGo_29 ?_
  refine lv_icmp_ge (tgt := 63) hx hb dX11_slavesGo_32 (by decide) (fun _ => ?_) (fun c => absurd (by decide) c)
  refine lv_iload_n hx hb dX11_slavesGo_63 rfl (lv_at hl 1 rfl) ?_
  refine lv_if_ne (tgt := 83) hx hb dX11_slavesGo_64 (by decide) (fun c => absurd (by decide) c) (fun _ => ?_)
  refine lv_aload_n hx hb dX11_slavesGo_67 rfl (lv_at hl 2 rfl) ?_
  refine va_get (D := (dC, dI)) (ci := 11) (v := .ref a10) (C := RX11) (T := TX11) (N := 24) hx hb hts hnX11 hown hK hP 0 rfl rfl 15 (by decide) hf42 (fun _ h9 => h9) rfl dX11_slavesGo_68 ?_
  refine lv_bipush (v := 12) hx hb dX11_slavesGo_71 (by decide) ?_
  refine lv_iconst (v := 0) hx hb dX11_slavesGo_73 (by decide) ?_
  refine yy_iast (f' := yR) hx hb hK hP hD hS 1 0 rfl rfl (yin (by decide)) dX11_slavesGo_74 (yid rfl) (fun H locs hP hD hS => ?_)
  have hP : va_P (dC, dI) vwCl [(a0, .inr (11, [.ref a1, .int 0, .int 0, .ref a2, .ref a3, .ref a4, .ref a5, .int 0, .ref a6, .ref a7, .ref a8, .int 0, .int 32, .int 0, .ref a9, .ref a10, .int 0, .int 0, .ref a11, .ref a12, .ref a13, .ref a14, .ref a15, .ref a16])), (a10, .inl (cyI, 15, .inl yR))] H := hP
  have hD : va_D A [(a0, .inr (11, [.ref a1, .int 0, .int 0, .ref a2, .ref a3, .ref a4, .ref a5, .int 0, .ref a6, .ref a7, .ref a8, .int 0, .int 32, .int 0, .ref a9, .ref a10, .int 0, .int 0, .ref a11, .ref a12, .ref a13, .ref a14, .ref a15, .ref a16])), (a10, .inl (cyI, 15, .inl yR))] := hD
  refine lv_aload_n hx hb dX11_slavesGo_75 rfl (lv_at hl 2 rfl) ?_
  refine va_get (D := (dC, dI)) (ci := 11) (v := .ref a10) (C := RX11) (T := TX11) (N := 24) hx hb hts hnX11 hown hK hP 0 rfl rfl 15 (by decide) hf42 (fun _ h9 => h9) rfl dX11_slavesGo_76 ?_
  refine lv_bipush (v := 13) hx hb dX11_slavesGo_79 (by decide) ?_
  refine lv_iconst (v := 0) hx hb dX11_slavesGo_81 (by decide) ?_
  refine yy_iast (f' := yR) hx hb hK hP hD hS 1 0 rfl rfl (yin (by decide)) dX11_slavesGo_82 (yid rfl) (fun H locs hP hD hS => ?_)
  have hP : va_P (dC, dI) vwCl [(a0, .inr (11, [.ref a1, .int 0, .int 0, .ref a2, .ref a3, .ref a4, .ref a5, .int 0, .ref a6, .ref a7, .ref a8, .int 0, .int 32, .int 0, .ref a9, .ref a10, .int 0, .int 0, .ref a11, .ref a12, .ref a13, .ref a14, .ref a15, .ref a16])), (a10, .inl (cyI, 15, .inl yR))] H := hP
  have hD : va_D A [(a0, .inr (11, [.ref a1, .int 0, .int 0, .ref a2, .ref a3, .ref a4, .ref a5, .int 0, .ref a6, .ref a7, .ref a8, .int 0, .int 32, .int 0, .ref a9, .ref a10, .int 0, .int 0, .ref a11, .ref a12, .ref a13, .ref a14, .ref a15, .ref a16])), (a10, .inl (cyI, 15, .inl yR))] := hD
  refine lv_iconst (v := 0) hx hb dX11_slavesGo_83 (by decide) ?_
  refine lv_istore_n (lv' := [(2, .int 0), (1, .int 0), (0, .ref a0)]) hx hb dX11_slavesGo_84 rfl hl (by decide) rfl (fun ls hl => ?_)
  refine lv_iload_n hx hb dX11_slavesGo_85 rfl (lv_at hl 0 rfl) ?_
  refine lv_aload_n hx hb dX11_slavesGo_86 rfl (lv_at hl 2 rfl) ?_
  refine va_get (D := (dC, dI)) (ci := 11) (v := .int 0) (C := RX11) (T := TX11) (N := 24) hx hb hts hnX11 hown hK hP 0 rfl rfl 7 (by decide) hf69 (fun _ h9 => h9) rfl dX11_slavesGo_87 ?_
  refine lv_icmp_ge (tgt := 131) hx hb dX11_slavesGo_90 (by decide) (fun _ => ?_) (fun c => absurd (by decide) c)
  refine W.widen (k := 0) (n := 0) (Nat.le_of_ble_eq_true rfl) (Nat.le_of_ble_eq_true rfl) ?_
  exact yy_vret () hx hb hr hlk hsz hAe hK hP hD hS [0, 1] rfl rfl (by decide) (trivial) dX11_slavesGo_131
set_option maxHeartbeats 4000000 in
set_option maxRecDepth 100000 in
theorem r_goOn_0 (l : Launch) (dC : Nat → ClassId) (dI : Nat → Nat → Nat) (cyI cyZ cyO : ClassId) (sz : Nat) (h0 : Nat) (rz : Nat) (rf : Nat) (rl : Nat) (rwx : Nat) (rb : Nat) (rwd : Nat) (rk : Nat) (ra : Nat) (rs : Nat) (rt : Nat) (rwr : Nat) (rp : Nat) (rsi : Nat) (rke : Nat) (rkc : Nat) (rik : Nat)  : Met l yX11_goOn wsX11_goOn ({ frames := 3, cells := 0, slots := 0, locals := 71 }) (yPre [.ref h0] (dC, dI) [(h0, .inr (11, [.ref rz, .int 0, .int 0, .ref rf, .ref rl, .ref rwx, .ref rb, .int 0, .ref rwd, .ref rk, .ref ra, .int 0, .int 32, .int 0, .ref rs, .ref rt, .int 0, .int 0, .ref rwr, .ref rp, .ref rsi, .ref rke, .ref rkc, .ref rik])), (rz, .inl (cyI, 2490, .inl (yz 0 0))), (rs, .inl (cyI, 15, .inl (fun _ => 0))), (rt, .inl (cyI, 15, .inl (fun _ => 0)))] (yT cyI cyZ cyO) sz) (yQv (fun (u : Unit) => True) (dC, dI) [(h0, .inr (11, [.ref rz, .int 0, .int 0, .ref rf, .ref rl, .ref rwx, .ref rb, .int 0, .ref rwd, .ref rk, .ref ra, .int 0, .int 32, .int 0, .ref rs, .ref rt, .int 0, .int 0, .ref rwr, .ref rp, .ref rsi, .ref rke, .ref rkc, .ref rik])), (rz, .inl (cyI, 2490, .inl (yz 0 0))), (rs, .inl (cyI, 15, .inl (fun _ => 0))), (rt, .inl (cyI, 15, .inl (fun _ => 0)))] (yT cyI cyZ cyO) sz (fun _ => [(h0, .inr (11, [.ref rz, .int 0, .int 0, .ref rf, .ref rl, .ref rwx, .ref rb, .int 0, .ref rwd, .ref rk, .ref ra, .int 0, .int 32, .int 0, .ref rs, .ref rt, .int 0, .int 0, .ref rwr, .ref rp, .ref rsi, .ref rke, .ref rkc, .ref rik])), (rz, .inl (cyI, 2490, .inl (yz 1 1))), (rs, .inl (cyI, 15, .inl yR)), (rt, .inl (cyI, 15, .inl yR))])) 0 0 (va_A [(h0, .inr (11, [.ref rz, .int 0, .int 0, .ref rf, .ref rl, .ref rwx, .ref rb, .int 0, .ref rwd, .ref rk, .ref ra, .int 0, .int 32, .int 0, .ref rs, .ref rt, .int 0, .int 0, .ref rwr, .ref rp, .ref rsi, .ref rke, .ref rkc, .ref rik])), (rz, .inl (cyI, 2490, .inl (yz 0 0))), (rs, .inl (cyI, 15, .inl (fun _ => 0))), (rt, .inl (cyI, 15, .inl (fun _ => 0)))] sz) := by
  refine yMet (cc := cX11_goOn) (maxL := 2) (ret := none) (by decide) rfl (Nat.le_of_ble_eq_true rfl) ?_
  intro p e s m below meth c A hx hb hr hlk hml hts hown hnm hsz hAe hP hK hD hA hS ls hl
  have hl : lv_has ls 2 [(0, .ref h0)] := hl
  have hf39 := hts (.fieldLink RX11 39 "BusBridgeModel" "see" "[I") (by decide +kernel)
  have hf42 := hts (.fieldLink RX11 42 "BusBridgeModel" "set" "[I") (by decide +kernel)
  have hf7 := hts (.fieldLink RX11 7 "BusBridgeModel" "z" "[I") (by decide +kernel)
  have hnX11 : ∀ w ∈ wsX110, w ∈ wsX11_goOn := by decide +kernel
  refine lv_iconst (v := 0) hx hb dX11_goOn_0 (by decide) ?_
  refine lv_istore_n (lv' := [(1, .int 0), (0, .ref h0)]) hx hb dX11_goOn_1 rfl hl (by decide) rfl (fun ls hl => ?_)
  refine lv_iload_n hx hb dX11_goOn_2 rfl (lv_at hl 0 rfl) ?_
  refine lv_bipush (v := 15) hx hb dX11_goOn_3 (by decide) ?_
  refine lv_icmp_ge (tgt := 37) hx hb dX11_goOn_5 (by decide) (fun c => absurd c (by decide)) (fun _ => ?_)
  refine lv_aload_n hx hb dX11_goOn_8 rfl (lv_at hl 1 rfl) ?_
  refine va_get (D := (dC, dI)) (ci := 11) (v := .ref rs) (C := RX11) (T := TX11) (N := 24) hx hb hts hnX11 hown hK hP 0 rfl rfl 14 (by decide) hf39 (fun _ h9 => h9) rfl dX11_goOn_9 ?_
  refine lv_iload_n hx hb dX11_goOn_12 rfl (lv_at hl 0 rfl) ?_
  refine lv_aload_n hx hb dX11_goOn_13 rfl (lv_at hl 1 rfl) ?_
  refine lv_iload_n hx hb dX11_goOn_14 rfl (lv_at hl 0 rfl) ?_
  have hPc := hP.sub (ws' := [(h0, .inr (11, [.ref rz, .int 0, .int 0, .ref rf, .ref rl, .ref rwx, .ref rb, .int 0, .ref rwd, .ref rk, .ref ra, .int 0, .int 32, .int 0, .ref rs, .ref rt, .int 0, .int 0, .ref rwr, .ref rp, .ref rsi, .ref rke, .ref rkc, .ref rik])), (rz, .inl (cyI, 2490, .inl (yz 0 0)))]) [0, 1] rfl
  have hDc := hD.sub (ws' := [(h0, .inr (11, [.ref rz, .int 0, .int 0, .ref rf, .ref rl, .ref rwx, .ref rb, .int 0, .ref rwd, .ref rk, .ref ra, .int 0, .int 32, .int 0, .ref rs, .ref rt, .int 0, .int 0, .ref rwr, .ref rp, .ref rsi, .ref rke, .ref rkc, .ref rik])), (rz, .inl (cyI, 2490, .inl (yz 0 0)))]) [0, 1] (by decide) rfl
  refine yy_calli [0, 1] [2, 3] (wr := [(rs, .inl (cyI, 15, .inl (fun _ => 0))), (rt, .inl (cyI, 15, .inl (fun _ => 0)))]) (va_runV (As := [.int 0]) (rest := [.int 0, .ref rs]) ⟨hx, hb, hml, hown, hts⟩ (r0_X11_seen_80 l dC dI cyI cyZ cyO s.heap.size h0 rz rf rl rwx rb rwd rk ra rs rt rwr rp rsi rke rkc rik ) (cwV 1 hts gX11_goOn_X11_seen rfl rfl rfl (by decide +kernel) ⟨Nat.le_of_ble_eq_true rfl, Nat.le_of_ble_eq_true rfl⟩) (yPreV hK hPc hDc (ci := 11) (q0 := 0) rfl rfl) rfl rfl hl.1 rfl (lv_room (Nat.le_of_ble_eq_true rfl)) dX11_goOn_15 ⟨Nat.le_of_ble_eq_true rfl, Nat.le_of_ble_eq_true rfl⟩) hP hD hS hA rfl rfl (by decide) (by decide) (fun r_2 u_1 H locs hw hP hD hS => ?_)
  have hP : va_P (dC, dI) vwCl [(rs, .inl (cyI, 15, .inl (fun _ => 0))), (rt, .inl (cyI, 15, .inl (fun _ => 0))), (h0, .inr (11, [.ref rz, .int 0, .int 0, .ref rf, .ref rl, .ref rwx, .ref rb, .int 0, .ref rwd, .ref rk, .ref ra, .int 0, .int 32, .int 0, .ref rs, .ref rt, .int 0, .int 0, .ref rwr, .ref rp, .ref rsi, .ref rke, .ref rkc, .ref rik])), (rz, .inl (cyI, 2490, .inl (yz 0 0)))] H := hP
  have hD : va_D A [(rs, .inl (cyI, 15, .inl (fun _ => 0))), (rt, .inl (cyI, 15, .inl (fun _ => 0))), (h0, .inr (11, [.ref rz, .int 0, .int 0, .ref rf, .ref rl, .ref rwx, .ref rb, .int 0, .ref rwd, .ref rk, .ref ra, .int 0, .int 32, .int 0, .ref rs, .ref rt, .int 0, .int 0, .ref rwr, .ref rp, .ref rsi, .ref rke, .ref rkc, .ref rik])), (rz, .inl (cyI, 2490, .inl (yz 0 0)))] := hD
  refine W.widen (k := 0) (n := 0) (Nat.le_of_ble_eq_true rfl) (Nat.le_of_ble_eq_true rfl) ?_
  have hw : r_2 = 0 := hw
  subst hw
  refine yy_iast (f' := (fun _ => 0)) hx hb hK hP hD hS 0 0 rfl rfl (yin (by decide)) dX11_goOn_18 (yid rfl) (fun H locs hP hD hS => ?_)
  have hP : va_P (dC, dI) vwCl [(rs, .inl (cyI, 15, .inl (fun _ => 0))), (rt, .inl (cyI, 15, .inl (fun _ => 0))), (h0, .inr (11, [.ref rz, .int 0, .int 0, .ref rf, .ref rl, .ref rwx, .ref rb, .int 0, .ref rwd, .ref rk, .ref ra, .int 0, .int 32, .int 0, .ref rs, .ref rt, .int 0, .int 0, .ref rwr, .ref rp, .ref rsi, .ref rke, .ref rkc, .ref rik])), (rz, .inl (cyI, 2490, .inl (yz 0 0)))] H := hP
  have hD : va_D A [(rs, .inl (cyI, 15, .inl (fun _ => 0))), (rt, .inl (cyI, 15, .inl (fun _ => 0))), (h0, .inr (11, [.ref rz, .int 0, .int 0, .ref rf, .ref rl, .ref rwx, .ref rb, .int 0, .ref rwd, .ref rk, .ref ra, .int 0, .int 32, .int 0, .ref rs, .ref rt, .int 0, .int 0, .ref rwr, .ref rp, .ref rsi, .ref rke, .ref rkc, .ref rik])), (rz, .inl (cyI, 2490, .inl (yz 0 0)))] := hD
  refine lv_aload_n hx hb dX11_goOn_19 rfl (lv_at hl 1 rfl) ?_
  refine va_get (D := (dC, dI)) (ci := 11) (v := .ref rt) (C := RX11) (T := TX11) (N := 24) hx hb hts hnX11 hown hK hP 2 rfl rfl 15 (by decide) hf42 (fun _ h9 => h9) rfl dX11_goOn_20 ?_
  refine lv_iload_n hx hb dX11_goOn_23 rfl (lv_at hl 0 rfl) ?_
  refine lv_aload_n hx hb dX11_goOn_24 rfl (lv_at hl 1 rfl) ?_
  refine va_get (D := (dC, dI)) (ci := 11) (v := .ref rz) (C := RX11) (T := TX11) (N := 24) hx hb hts hnX11 hown hK hP 2 rfl rfl 0 (by decide) hf7 (fun _ h9 => h9) rfl dX11_goOn_25 ?_
  refine lv_iload_n hx hb dX11_goOn_28 rfl (lv_at hl 0 rfl) ?_
  refine yy_iald (v := 0) hx hb hK hP 3 0 rfl rfl (yin (by decide)) dX11_goOn_29 rfl ?_
  refine yy_iast (f' := (fun _ => 0)) hx hb hK hP hD hS 1 0 rfl rfl (yin (by decide)) dX11_goOn_30 (yid rfl) (fun H locs hP hD hS => ?_)
  have hP : va_P (dC, dI) vwCl [(rs, .inl (cyI, 15, .inl (fun _ => 0))), (rt, .inl (cyI, 15, .inl (fun _ => 0))), (h0, .inr (11, [.ref rz, .int 0, .int 0, .ref rf, .ref rl, .ref rwx, .ref rb, .int 0, .ref rwd, .ref rk, .ref ra, .int 0, .int 32, .int 0, .ref rs, .ref rt, .int 0, .int 0, .ref rwr, .ref rp, .ref rsi, .ref rke, .ref rkc, .ref rik])), (rz, .inl (cyI, 2490, .inl (yz 0 0)))] H := hP
  have hD : va_D A [(rs, .inl (cyI, 15, .inl (fun _ => 0))), (rt, .inl (cyI, 15, .inl (fun _ => 0))), (h0, .inr (11, [.ref rz, .int 0, .int 0, .ref rf, .ref rl, .ref rwx, .ref rb, .int 0, .ref rwd, .ref rk, .ref ra, .int 0, .int 32, .int 0, .ref rs, .ref rt, .int 0, .int 0, .ref rwr, .ref rp, .ref rsi, .ref rke, .ref rkc, .ref rik])), (rz, .inl (cyI, 2490, .inl (yz 0 0)))] := hD
  refine lv_iinc (v := 1) (lv' := [(1, .int 1), (0, .ref h0)]) hx hb dX11_goOn_31 hl (k := 0) rfl (by decide) (by decide) rfl (fun ls hl => ?_)
  refine lv_goto (tgt := 2) hx hb dX11_goOn_34 (by decide) ?_
  refine lv_iload_n hx hb dX11_goOn_2 rfl (lv_at hl 0 rfl) ?_
  refine lv_bipush (v := 15) hx hb dX11_goOn_3 (by decide) ?_
  refine lv_icmp_ge (tgt := 37) hx hb dX11_goOn_5 (by decide) (fun c => absurd c (by decide)) (fun _ => ?_)
  refine lv_aload_n hx hb dX11_goOn_8 rfl (lv_at hl 1 rfl) ?_
  refine va_get (D := (dC, dI)) (ci := 11) (v := .ref rs) (C := RX11) (T := TX11) (N := 24) hx hb hts hnX11 hown hK hP 2 rfl rfl 14 (by decide) hf39 (fun _ h9 => h9) rfl dX11_goOn_9 ?_
  refine lv_iload_n hx hb dX11_goOn_12 rfl (lv_at hl 0 rfl) ?_
  refine lv_aload_n hx hb dX11_goOn_13 rfl (lv_at hl 1 rfl) ?_
  refine lv_iload_n hx hb dX11_goOn_14 rfl (lv_at hl 0 rfl) ?_
  have hPc := hP.sub (ws' := [(h0, .inr (11, [.ref rz, .int 0, .int 0, .ref rf, .ref rl, .ref rwx, .ref rb, .int 0, .ref rwd, .ref rk, .ref ra, .int 0, .int 32, .int 0, .ref rs, .ref rt, .int 0, .int 0, .ref rwr, .ref rp, .ref rsi, .ref rke, .ref rkc, .ref rik])), (rz, .inl (cyI, 2490, .inl (yz 0 0)))]) [2, 3] rfl
  have hDc := hD.sub (ws' := [(h0, .inr (11, [.ref rz, .int 0, .int 0, .ref rf, .ref rl, .ref rwx, .ref rb, .int 0, .ref rwd, .ref rk, .ref ra, .int 0, .int 32, .int 0, .ref rs, .ref rt, .int 0, .int 0, .ref rwr, .ref rp, .ref rsi, .ref rke, .ref rkc, .ref rik])), (rz, .inl (cyI, 2490, .inl (yz 0 0)))]) [2, 3] (by decide) rfl
  refine yy_calli [2, 3] [0, 1] (wr := [(rs, .inl (cyI, 15, .inl (fun _ => 0))), (rt, .inl (cyI, 15, .inl (fun _ => 0)))]) (va_runV (As := [.int 1]) (rest := [.int 1, .ref rs]) ⟨hx, hb, hml, hown, hts⟩ (r0_X11_seen_81 l dC dI cyI cyZ cyO H.size h0 rz rf rl rwx rb rwd rk ra rs rt rwr rp rsi rke rkc rik ) (cwV 1 hts gX11_goOn_X11_seen rfl rfl rfl (by decide +kernel) ⟨Nat.le_of_ble_eq_true rfl, Nat.le_of_ble_eq_true rfl⟩) (yPreV hK hPc hDc (ci := 11) (q0 := 0) rfl rfl) rfl rfl hl.1 rfl (lv_room (Nat.le_of_ble_eq_true rfl)) dX11_goOn_15 ⟨Nat.le_of_ble_eq_true rfl, Nat.le_of_ble_eq_true rfl⟩) hP hD hS hA rfl rfl (by decide) (by decide) (fun r_4 u_3 H locs hw hP hD hS => ?_)
  have hP : va_P (dC, dI) vwCl [(rs, .inl (cyI, 15, .inl (fun _ => 0))), (rt, .inl (cyI, 15, .inl (fun _ => 0))), (h0, .inr (11, [.ref rz, .int 0, .int 0, .ref rf, .ref rl, .ref rwx, .ref rb, .int 0, .ref rwd, .ref rk, .ref ra, .int 0, .int 32, .int 0, .ref rs, .ref rt, .int 0, .int 0, .ref rwr, .ref rp, .ref rsi, .ref rke, .ref rkc, .ref rik])), (rz, .inl (cyI, 2490, .inl (yz 0 0)))] H := hP
  have hD : va_D A [(rs, .inl (cyI, 15, .inl (fun _ => 0))), (rt, .inl (cyI, 15, .inl (fun _ => 0))), (h0, .inr (11, [.ref rz, .int 0, .int 0, .ref rf, .ref rl, .ref rwx, .ref rb, .int 0, .ref rwd, .ref rk, .ref ra, .int 0, .int 32, .int 0, .ref rs, .ref rt, .int 0, .int 0, .ref rwr, .ref rp, .ref rsi, .ref rke, .ref rkc, .ref rik])), (rz, .inl (cyI, 2490, .inl (yz 0 0)))] := hD
  refine W.widen (k := 0) (n := 0) (Nat.le_of_ble_eq_true rfl) (Nat.le_of_ble_eq_true rfl) ?_
  have hw : r_4 = 0 := hw
  subst hw
  refine yy_iast (f' := (fun _ => 0)) hx hb hK hP hD hS 0 0 rfl rfl (yin (by decide)) dX11_goOn_18 (yid rfl) (fun H locs hP hD hS => ?_)
  have hP : va_P (dC, dI) vwCl [(rs, .inl (cyI, 15, .inl (fun _ => 0))), (rt, .inl (cyI, 15, .inl (fun _ => 0))), (h0, .inr (11, [.ref rz, .int 0, .int 0, .ref rf, .ref rl, .ref rwx, .ref rb, .int 0, .ref rwd, .ref rk, .ref ra, .int 0, .int 32, .int 0, .ref rs, .ref rt, .int 0, .int 0, .ref rwr, .ref rp, .ref rsi, .ref rke, .ref rkc, .ref rik])), (rz, .inl (cyI, 2490, .inl (yz 0 0)))] H := hP
  have hD : va_D A [(rs, .inl (cyI, 15, .inl (fun _ => 0))), (rt, .inl (cyI, 15, .inl (fun _ => 0))), (h0, .inr (11, [.ref rz, .int 0, .int 0, .ref rf, .ref rl, .ref rwx, .ref rb, .int 0, .ref rwd, .ref rk, .ref ra, .int 0, .int 32, .int 0, .ref rs, .ref rt, .int 0, .int 0, .ref rwr, .ref rp, .ref rsi, .ref rke, .ref rkc, .ref rik])), (rz, .inl (cyI, 2490, .inl (yz 0 0)))] := hD
  refine lv_aload_n hx hb dX11_goOn_19 rfl (lv_at hl 1 rfl) ?_
  refine va_get (D := (dC, dI)) (ci := 11) (v := .ref rt) (C := RX11) (T := TX11) (N := 24) hx hb hts hnX11 hown hK hP 2 rfl rfl 15 (by decide) hf42 (fun _ h9 => h9) rfl dX11_goOn_20 ?_
  refine lv_iload_n hx hb dX11_goOn_23 rfl (lv_at hl 0 rfl) ?_
  refine lv_aload_n hx hb dX11_goOn_24 rfl (lv_at hl 1 rfl) ?_
  refine va_get (D := (dC, dI)) (ci := 11) (v := .ref rz) (C := RX11) (T := TX11) (N := 24) hx hb hts hnX11 hown hK hP 2 rfl rfl 0 (by decide) hf7 (fun _ h9 => h9) rfl dX11_goOn_25 ?_
  refine lv_iload_n hx hb dX11_goOn_28 rfl (lv_at hl 0 rfl) ?_
  refine yy_iald (v := 0) hx hb hK hP 3 0 rfl rfl (yin (by decide)) dX11_goOn_29 rfl ?_
  refine yy_iast (f' := (fun _ => 0)) hx hb hK hP hD hS 1 0 rfl rfl (yin (by decide)) dX11_goOn_30 (yid rfl) (fun H locs hP hD hS => ?_)
  have hP : va_P (dC, dI) vwCl [(rs, .inl (cyI, 15, .inl (fun _ => 0))), (rt, .inl (cyI, 15, .inl (fun _ => 0))), (h0, .inr (11, [.ref rz, .int 0, .int 0, .ref rf, .ref rl, .ref rwx, .ref rb, .int 0, .ref rwd, .ref rk, .ref ra, .int 0, .int 32, .int 0, .ref rs, .ref rt, .int 0, .int 0, .ref rwr, .ref rp, .ref rsi, .ref rke, .ref rkc, .ref rik])), (rz, .inl (cyI, 2490, .inl (yz 0 0)))] H := hP
  have hD : va_D A [(rs, .inl (cyI, 15, .inl (fun _ => 0))), (rt, .inl (cyI, 15, .inl (fun _ => 0))), (h0, .inr (11, [.ref rz, .int 0, .int 0, .ref rf, .ref rl, .ref rwx, .ref rb, .int 0, .ref rwd, .ref rk, .ref ra, .int 0, .int 32, .int 0, .ref rs, .ref rt, .int 0, .int 0, .ref rwr, .ref rp, .ref rsi, .ref rke, .ref rkc, .ref rik])), (rz, .inl (cyI, 2490, .inl (yz 0 0)))] := hD
  refine lv_iinc (v := 2) (lv' := [(1, .int 2), (0, .ref h0)]) hx hb dX11_goOn_31 hl (k := 0) rfl (by decide) (by decide) rfl (fun ls hl => ?_)
  refine lv_goto (tgt := 2) hx hb dX11_goOn_34 (by decide) ?_
  refine lv_iload_n hx hb dX11_goOn_2 rfl (lv_at hl 0 rfl) ?_
  refine lv_bipush (v := 15) hx hb dX11_goOn_3 (by decide) ?_
  refine lv_icmp_ge (tgt := 37) hx hb dX11_goOn_5 (by decide) (fun c => absurd c (by decide)) (fun _ => ?_)
  refine lv_aload_n hx hb dX11_goOn_8 rfl (lv_at hl 1 rfl) ?_
  refine va_get (D := (dC, dI)) (ci := 11) (v := .ref rs) (C := RX11) (T := TX11) (N := 24) hx hb hts hnX11 hown hK hP 2 rfl rfl 14 (by decide) hf39 (fun _ h9 => h9) rfl dX11_goOn_9 ?_
  refine lv_iload_n hx hb dX11_goOn_12 rfl (lv_at hl 0 rfl) ?_
  refine lv_aload_n hx hb dX11_goOn_13 rfl (lv_at hl 1 rfl) ?_
  refine lv_iload_n hx hb dX11_goOn_14 rfl (lv_at hl 0 rfl) ?_
  have hPc := hP.sub (ws' := [(h0, .inr (11, [.ref rz, .int 0, .int 0, .ref rf, .ref rl, .ref rwx, .ref rb, .int 0, .ref rwd, .ref rk, .ref ra, .int 0, .int 32, .int 0, .ref rs, .ref rt, .int 0, .int 0, .ref rwr, .ref rp, .ref rsi, .ref rke, .ref rkc, .ref rik])), (rz, .inl (cyI, 2490, .inl (yz 0 0)))]) [2, 3] rfl
  have hDc := hD.sub (ws' := [(h0, .inr (11, [.ref rz, .int 0, .int 0, .ref rf, .ref rl, .ref rwx, .ref rb, .int 0, .ref rwd, .ref rk, .ref ra, .int 0, .int 32, .int 0, .ref rs, .ref rt, .int 0, .int 0, .ref rwr, .ref rp, .ref rsi, .ref rke, .ref rkc, .ref rik])), (rz, .inl (cyI, 2490, .inl (yz 0 0)))]) [2, 3] (by decide) rfl
  refine yy_calli [2, 3] [0, 1] (wr := [(rs, .inl (cyI, 15, .inl (fun _ => 0))), (rt, .inl (cyI, 15, .inl (fun _ => 0)))]) (va_runV (As := [.int 2]) (rest := [.int 2, .ref rs]) ⟨hx, hb, hml, hown, hts⟩ (r0_X11_seen_82 l dC dI cyI cyZ cyO H.size h0 rz rf rl rwx rb rwd rk ra rs rt rwr rp rsi rke rkc rik ) (cwV 1 hts gX11_goOn_X11_seen rfl rfl rfl (by decide +kernel) ⟨Nat.le_of_ble_eq_true rfl, Nat.le_of_ble_eq_true rfl⟩) (yPreV hK hPc hDc (ci := 11) (q0 := 0) rfl rfl) rfl rfl hl.1 rfl (lv_room (Nat.le_of_ble_eq_true rfl)) dX11_goOn_15 ⟨Nat.le_of_ble_eq_true rfl, Nat.le_of_ble_eq_true rfl⟩) hP hD hS hA rfl rfl (by decide) (by decide) (fun r_6 u_5 H locs hw hP hD hS => ?_)
  have hP : va_P (dC, dI) vwCl [(rs, .inl (cyI, 15, .inl (fun _ => 0))), (rt, .inl (cyI, 15, .inl (fun _ => 0))), (h0, .inr (11, [.ref rz, .int 0, .int 0, .ref rf, .ref rl, .ref rwx, .ref rb, .int 0, .ref rwd, .ref rk, .ref ra, .int 0, .int 32, .int 0, .ref rs, .ref rt, .int 0, .int 0, .ref rwr, .ref rp, .ref rsi, .ref rke, .ref rkc, .ref rik])), (rz, .inl (cyI, 2490, .inl (yz 0 0)))] H := hP
  have hD : va_D A [(rs, .inl (cyI, 15, .inl (fun _ => 0))), (rt, .inl (cyI, 15, .inl (fun _ => 0))), (h0, .inr (11, [.ref rz, .int 0, .int 0, .ref rf, .ref rl, .ref rwx, .ref rb, .int 0, .ref rwd, .ref rk, .ref ra, .int 0, .int 32, .int 0, .ref rs, .ref rt, .int 0, .int 0, .ref rwr, .ref rp, .ref rsi, .ref rke, .ref rkc, .ref rik])), (rz, .inl (cyI, 2490, .inl (yz 0 0)))] := hD
  refine W.widen (k := 0) (n := 0) (Nat.le_of_ble_eq_true rfl) (Nat.le_of_ble_eq_true rfl) ?_
  have hw : r_6 = 0 := hw
  subst hw
  refine yy_iast (f' := (fun _ => 0)) hx hb hK hP hD hS 0 0 rfl rfl (yin (by decide)) dX11_goOn_18 (yid rfl) (fun H locs hP hD hS => ?_)
  have hP : va_P (dC, dI) vwCl [(rs, .inl (cyI, 15, .inl (fun _ => 0))), (rt, .inl (cyI, 15, .inl (fun _ => 0))), (h0, .inr (11, [.ref rz, .int 0, .int 0, .ref rf, .ref rl, .ref rwx, .ref rb, .int 0, .ref rwd, .ref rk, .ref ra, .int 0, .int 32, .int 0, .ref rs, .ref rt, .int 0, .int 0, .ref rwr, .ref rp, .ref rsi, .ref rke, .ref rkc, .ref rik])), (rz, .inl (cyI, 2490, .inl (yz 0 0)))] H := hP
  have hD : va_D A [(rs, .inl (cyI, 15, .inl (fun _ => 0))), (rt, .inl (cyI, 15, .inl (fun _ => 0))), (h0, .inr (11, [.ref rz, .int 0, .int 0, .ref rf, .ref rl, .ref rwx, .ref rb, .int 0, .ref rwd, .ref rk, .ref ra, .int 0, .int 32, .int 0, .ref rs, .ref rt, .int 0, .int 0, .ref rwr, .ref rp, .ref rsi, .ref rke, .ref rkc, .ref rik])), (rz, .inl (cyI, 2490, .inl (yz 0 0)))] := hD
  refine lv_aload_n hx hb dX11_goOn_19 rfl (lv_at hl 1 rfl) ?_
  refine va_get (D := (dC, dI)) (ci := 11) (v := .ref rt) (C := RX11) (T := TX11) (N := 24) hx hb hts hnX11 hown hK hP 2 rfl rfl 15 (by decide) hf42 (fun _ h9 => h9) rfl dX11_goOn_20 ?_
  refine lv_iload_n hx hb dX11_goOn_23 rfl (lv_at hl 0 rfl) ?_
  refine lv_aload_n hx hb dX11_goOn_24 rfl (lv_at hl 1 rfl) ?_
  refine va_get (D := (dC, dI)) (ci := 11) (v := .ref rz) (C := RX11) (T := TX11) (N := 24) hx hb hts hnX11 hown hK hP 2 rfl rfl 0 (by decide) hf7 (fun _ h9 => h9) rfl dX11_goOn_25 ?_
  refine lv_iload_n hx hb dX11_goOn_28 rfl (lv_at hl 0 rfl) ?_
  refine yy_iald (v := 0) hx hb hK hP 3 0 rfl rfl (yin (by decide)) dX11_goOn_29 rfl ?_
  refine yy_iast (f' := (fun _ => 0)) hx hb hK hP hD hS 1 0 rfl rfl (yin (by decide)) dX11_goOn_30 (yid rfl) (fun H locs hP hD hS => ?_)
  have hP : va_P (dC, dI) vwCl [(rs, .inl (cyI, 15, .inl (fun _ => 0))), (rt, .inl (cyI, 15, .inl (fun _ => 0))), (h0, .inr (11, [.ref rz, .int 0, .int 0, .ref rf, .ref rl, .ref rwx, .ref rb, .int 0, .ref rwd, .ref rk, .ref ra, .int 0, .int 32, .int 0, .ref rs, .ref rt, .int 0, .int 0, .ref rwr, .ref rp, .ref rsi, .ref rke, .ref rkc, .ref rik])), (rz, .inl (cyI, 2490, .inl (yz 0 0)))] H := hP
  have hD : va_D A [(rs, .inl (cyI, 15, .inl (fun _ => 0))), (rt, .inl (cyI, 15, .inl (fun _ => 0))), (h0, .inr (11, [.ref rz, .int 0, .int 0, .ref rf, .ref rl, .ref rwx, .ref rb, .int 0, .ref rwd, .ref rk, .ref ra, .int 0, .int 32, .int 0, .ref rs, .ref rt, .int 0, .int 0, .ref rwr, .ref rp, .ref rsi, .ref rke, .ref rkc, .ref rik])), (rz, .inl (cyI, 2490, .inl (yz 0 0)))] := hD
  refine lv_iinc (v := 3) (lv' := [(1, .int 3), (0, .ref h0)]) hx hb dX11_goOn_31 hl (k := 0) rfl (by decide) (by decide) rfl (fun ls hl => ?_)
  refine lv_goto (tgt := 2) hx hb dX11_goOn_34 (by decide) ?_
  refine lv_iload_n hx hb dX11_goOn_2 rfl (lv_at hl 0 rfl) ?_
  refine lv_bipush (v := 15) hx hb dX11_goOn_3 (by decide) ?_
  refine lv_icmp_ge (tgt := 37) hx hb dX11_goOn_5 (by decide) (fun c => absurd c (by decide)) (fun _ => ?_)
  refine lv_aload_n hx hb dX11_goOn_8 rfl (lv_at hl 1 rfl) ?_
  refine va_get (D := (dC, dI)) (ci := 11) (v := .ref rs) (C := RX11) (T := TX11) (N := 24) hx hb hts hnX11 hown hK hP 2 rfl rfl 14 (by decide) hf39 (fun _ h9 => h9) rfl dX11_goOn_9 ?_
  refine lv_iload_n hx hb dX11_goOn_12 rfl (lv_at hl 0 rfl) ?_
  refine lv_aload_n hx hb dX11_goOn_13 rfl (lv_at hl 1 rfl) ?_
  refine lv_iload_n hx hb dX11_goOn_14 rfl (lv_at hl 0 rfl) ?_
  have hPc := hP.sub (ws' := [(h0, .inr (11, [.ref rz, .int 0, .int 0, .ref rf, .ref rl, .ref rwx, .ref rb, .int 0, .ref rwd, .ref rk, .ref ra, .int 0, .int 32, .int 0, .ref rs, .ref rt, .int 0, .int 0, .ref rwr, .ref rp, .ref rsi, .ref rke, .ref rkc, .ref rik])), (rz, .inl (cyI, 2490, .inl (yz 0 0)))]) [2, 3] rfl
  have hDc := hD.sub (ws' := [(h0, .inr (11, [.ref rz, .int 0, .int 0, .ref rf, .ref rl, .ref rwx, .ref rb, .int 0, .ref rwd, .ref rk, .ref ra, .int 0, .int 32, .int 0, .ref rs, .ref rt, .int 0, .int 0, .ref rwr, .ref rp, .ref rsi, .ref rke, .ref rkc, .ref rik])), (rz, .inl (cyI, 2490, .inl (yz 0 0)))]) [2, 3] (by decide) rfl
  refine yy_calli [2, 3] [0, 1] (wr := [(rs, .inl (cyI, 15, .inl (fun _ => 0))), (rt, .inl (cyI, 15, .inl (fun _ => 0)))]) (va_runV (As := [.int 3]) (rest := [.int 3, .ref rs]) ⟨hx, hb, hml, hown, hts⟩ (r0_X11_seen_83 l dC dI cyI cyZ cyO H.size h0 rz rf rl rwx rb rwd rk ra rs rt rwr rp rsi rke rkc rik ) (cwV 1 hts gX11_goOn_X11_seen rfl rfl rfl (by decide +kernel) ⟨Nat.le_of_ble_eq_true rfl, Nat.le_of_ble_eq_true rfl⟩) (yPreV hK hPc hDc (ci := 11) (q0 := 0) rfl rfl) rfl rfl hl.1 rfl (lv_room (Nat.le_of_ble_eq_true rfl)) dX11_goOn_15 ⟨Nat.le_of_ble_eq_true rfl, Nat.le_of_ble_eq_true rfl⟩) hP hD hS hA rfl rfl (by decide) (by decide) (fun r_8 u_7 H locs hw hP hD hS => ?_)
  have hP : va_P (dC, dI) vwCl [(rs, .inl (cyI, 15, .inl (fun _ => 0))), (rt, .inl (cyI, 15, .inl (fun _ => 0))), (h0, .inr (11, [.ref rz, .int 0, .int 0, .ref rf, .ref rl, .ref rwx, .ref rb, .int 0, .ref rwd, .ref rk, .ref ra, .int 0, .int 32, .int 0, .ref rs, .ref rt, .int 0, .int 0, .ref rwr, .ref rp, .ref rsi, .ref rke, .ref rkc, .ref rik])), (rz, .inl (cyI, 2490, .inl (yz 0 0)))] H := hP
  have hD : va_D A [(rs, .inl (cyI, 15, .inl (fun _ => 0))), (rt, .inl (cyI, 15, .inl (fun _ => 0))), (h0, .inr (11, [.ref rz, .int 0, .int 0, .ref rf, .ref rl, .ref rwx, .ref rb, .int 0, .ref rwd, .ref rk, .ref ra, .int 0, .int 32, .int 0, .ref rs, .ref rt, .int 0, .int 0, .ref rwr, .ref rp, .ref rsi, .ref rke, .ref rkc, .ref rik])), (rz, .inl (cyI, 2490, .inl (yz 0 0)))] := hD
  refine W.widen (k := 0) (n := 0) (Nat.le_of_ble_eq_true rfl) (Nat.le_of_ble_eq_true rfl) ?_
  have hw : r_8 = 0 := hw
  subst hw
  refine yy_iast (f' := (fun _ => 0)) hx hb hK hP hD hS 0 0 rfl rfl (yin (by decide)) dX11_goOn_18 (yid rfl) (fun H locs hP hD hS => ?_)
  have hP : va_P (dC, dI) vwCl [(rs, .inl (cyI, 15, .inl (fun _ => 0))), (rt, .inl (cyI, 15, .inl (fun _ => 0))), (h0, .inr (11, [.ref rz, .int 0, .int 0, .ref rf, .ref rl, .ref rwx, .ref rb, .int 0, .ref rwd, .ref rk, .ref ra, .int 0, .int 32, .int 0, .ref rs, .ref rt, .int 0, .int 0, .ref rwr, .ref rp, .ref rsi, .ref rke, .ref rkc, .ref rik])), (rz, .inl (cyI, 2490, .inl (yz 0 0)))] H := hP
  have hD : va_D A [(rs, .inl (cyI, 15, .inl (fun _ => 0))), (rt, .inl (cyI, 15, .inl (fun _ => 0))), (h0, .inr (11, [.ref rz, .int 0, .int 0, .ref rf, .ref rl, .ref rwx, .ref rb, .int 0, .ref rwd, .ref rk, .ref ra, .int 0, .int 32, .int 0, .ref rs, .ref rt, .int 0, .int 0, .ref rwr, .ref rp, .ref rsi, .ref rke, .ref rkc, .ref rik])), (rz, .inl (cyI, 2490, .inl (yz 0 0)))] := hD
  refine lv_aload_n hx hb dX11_goOn_19 rfl (lv_at hl 1 rfl) ?_
  refine va_get (D := (dC, dI)) (ci := 11) (v := .ref rt) (C := RX11) (T := TX11) (N := 24) hx hb hts hnX11 hown hK hP 2 rfl rfl 15 (by decide) hf42 (fun _ h9 => h9) rfl dX11_goOn_20 ?_
  refine lv_iload_n hx hb dX11_goOn_23 rfl (lv_at hl 0 rfl) ?_
  refine lv_aload_n hx hb dX11_goOn_24 rfl (lv_at hl 1 rfl) ?_
  refine va_get (D := (dC, dI)) (ci := 11) (v := .ref rz) (C := RX11) (T := TX11) (N := 24) hx hb hts hnX11 hown hK hP 2 rfl rfl 0 (by decide) hf7 (fun _ h9 => h9) rfl dX11_goOn_25 ?_
  refine lv_iload_n hx hb dX11_goOn_28 rfl (lv_at hl 0 rfl) ?_
  refine yy_iald (v := 0) hx hb hK hP 3 0 rfl rfl (yin (by decide)) dX11_goOn_29 rfl ?_
  refine yy_iast (f' := (fun _ => 0)) hx hb hK hP hD hS 1 0 rfl rfl (yin (by decide)) dX11_goOn_30 (yid rfl) (fun H locs hP hD hS => ?_)
  have hP : va_P (dC, dI) vwCl [(rs, .inl (cyI, 15, .inl (fun _ => 0))), (rt, .inl (cyI, 15, .inl (fun _ => 0))), (h0, .inr (11, [.ref rz, .int 0, .int 0, .ref rf, .ref rl, .ref rwx, .ref rb, .int 0, .ref rwd, .ref rk, .ref ra, .int 0, .int 32, .int 0, .ref rs, .ref rt, .int 0, .int 0, .ref rwr, .ref rp, .ref rsi, .ref rke, .ref rkc, .ref rik])), (rz, .inl (cyI, 2490, .inl (yz 0 0)))] H := hP
  have hD : va_D A [(rs, .inl (cyI, 15, .inl (fun _ => 0))), (rt, .inl (cyI, 15, .inl (fun _ => 0))), (h0, .inr (11, [.ref rz, .int 0, .int 0, .ref rf, .ref rl, .ref rwx, .ref rb, .int 0, .ref rwd, .ref rk, .ref ra, .int 0, .int 32, .int 0, .ref rs, .ref rt, .int 0, .int 0, .ref rwr, .ref rp, .ref rsi, .ref rke, .ref rkc, .ref rik])), (rz, .inl (cyI, 2490, .inl (yz 0 0)))] := hD
  refine lv_iinc (v := 4) (lv' := [(1, .int 4), (0, .ref h0)]) hx hb dX11_goOn_31 hl (k := 0) rfl (by decide) (by decide) rfl (fun ls hl => ?_)
  refine lv_goto (tgt := 2) hx hb dX11_goOn_34 (by decide) ?_
  refine lv_iload_n hx hb dX11_goOn_2 rfl (lv_at hl 0 rfl) ?_
  refine lv_bipush (v := 15) hx hb dX11_goOn_3 (by decide) ?_
  refine lv_icmp_ge (tgt := 37) hx hb dX11_goOn_5 (by decide) (fun c => absurd c (by decide)) (fun _ => ?_)
  refine lv_aload_n hx hb dX11_goOn_8 rfl (lv_at hl 1 rfl) ?_
  refine va_get (D := (dC, dI)) (ci := 11) (v := .ref rs) (C := RX11) (T := TX11) (N := 24) hx hb hts hnX11 hown hK hP 2 rfl rfl 14 (by decide) hf39 (fun _ h9 => h9) rfl dX11_goOn_9 ?_
  refine lv_iload_n hx hb dX11_goOn_12 rfl (lv_at hl 0 rfl) ?_
  refine lv_aload_n hx hb dX11_goOn_13 rfl (lv_at hl 1 rfl) ?_
  refine lv_iload_n hx hb dX11_goOn_14 rfl (lv_at hl 0 rfl) ?_
  have hPc := hP.sub (ws' := [(h0, .inr (11, [.ref rz, .int 0, .int 0, .ref rf, .ref rl, .ref rwx, .ref rb, .int 0, .ref rwd, .ref rk, .ref ra, .int 0, .int 32, .int 0, .ref rs, .ref rt, .int 0, .int 0, .ref rwr, .ref rp, .ref rsi, .ref rke, .ref rkc, .ref rik])), (rz, .inl (cyI, 2490, .inl (yz 0 0)))]) [2, 3] rfl
  have hDc := hD.sub (ws' := [(h0, .inr (11, [.ref rz, .int 0, .int 0, .ref rf, .ref rl, .ref rwx, .ref rb, .int 0, .ref rwd, .ref rk, .ref ra, .int 0, .int 32, .int 0, .ref rs, .ref rt, .int 0, .int 0, .ref rwr, .ref rp, .ref rsi, .ref rke, .ref rkc, .ref rik])), (rz, .inl (cyI, 2490, .inl (yz 0 0)))]) [2, 3] (by decide) rfl
  refine yy_calli [2, 3] [0, 1] (wr := [(rs, .inl (cyI, 15, .inl (fun _ => 0))), (rt, .inl (cyI, 15, .inl (fun _ => 0)))]) (va_runV (As := [.int 4]) (rest := [.int 4, .ref rs]) ⟨hx, hb, hml, hown, hts⟩ (r0_X11_seen_84 l dC dI cyI cyZ cyO H.size h0 rz rf rl rwx rb rwd rk ra rs rt rwr rp rsi rke rkc rik ) (cwV 1 hts gX11_goOn_X11_seen rfl rfl rfl (by decide +kernel) ⟨Nat.le_of_ble_eq_true rfl, Nat.le_of_ble_eq_true rfl⟩) (yPreV hK hPc hDc (ci := 11) (q0 := 0) rfl rfl) rfl rfl hl.1 rfl (lv_room (Nat.le_of_ble_eq_true rfl)) dX11_goOn_15 ⟨Nat.le_of_ble_eq_true rfl, Nat.le_of_ble_eq_true rfl⟩) hP hD hS hA rfl rfl (by decide) (by decide) (fun r_10 u_9 H locs hw hP hD hS => ?_)
  have hP : va_P (dC, dI) vwCl [(rs, .inl (cyI, 15, .inl (fun _ => 0))), (rt, .inl (cyI, 15, .inl (fun _ => 0))), (h0, .inr (11, [.ref rz, .int 0, .int 0, .ref rf, .ref rl, .ref rwx, .ref rb, .int 0, .ref rwd, .ref rk, .ref ra, .int 0, .int 32, .int 0, .ref rs, .ref rt, .int 0, .int 0, .ref rwr, .ref rp, .ref rsi, .ref rke, .ref rkc, .ref rik])), (rz, .inl (cyI, 2490, .inl (yz 0 0)))] H := hP
  have hD : va_D A [(rs, .inl (cyI, 15, .inl (fun _ => 0))), (rt, .inl (cyI, 15, .inl (fun _ => 0))), (h0, .inr (11, [.ref rz, .int 0, .int 0, .ref rf, .ref rl, .ref rwx, .ref rb, .int 0, .ref rwd, .ref rk, .ref ra, .int 0, .int 32, .int 0, .ref rs, .ref rt, .int 0, .int 0, .ref rwr, .ref rp, .ref rsi, .ref rke, .ref rkc, .ref rik])), (rz, .inl (cyI, 2490, .inl (yz 0 0)))] := hD
  refine W.widen (k := 0) (n := 0) (Nat.le_of_ble_eq_true rfl) (Nat.le_of_ble_eq_true rfl) ?_
  have hw : r_10 = 1 := hw
  subst hw
  refine yy_iast (f' := yR) hx hb hK hP hD hS 0 0 rfl rfl (yin (by decide)) dX11_goOn_18 rfl (fun H locs hP hD hS => ?_)
  have hP : va_P (dC, dI) vwCl [(rs, .inl (cyI, 15, .inl yR)), (rt, .inl (cyI, 15, .inl (fun _ => 0))), (h0, .inr (11, [.ref rz, .int 0, .int 0, .ref rf, .ref rl, .ref rwx, .ref rb, .int 0, .ref rwd, .ref rk, .ref ra, .int 0, .int 32, .int 0, .ref rs, .ref rt, .int 0, .int 0, .ref rwr, .ref rp, .ref rsi, .ref rke, .ref rkc, .ref rik])), (rz, .inl (cyI, 2490, .inl (yz 0 0)))] H := hP
  have hD : va_D A [(rs, .inl (cyI, 15, .inl yR)), (rt, .inl (cyI, 15, .inl (fun _ => 0))), (h0, .inr (11, [.ref rz, .int 0, .int 0, .ref rf, .ref rl, .ref rwx, .ref rb, .int 0, .ref rwd, .ref rk, .ref ra, .int 0, .int 32, .int 0, .ref rs, .ref rt, .int 0, .int 0, .ref rwr, .ref rp, .ref rsi, .ref rke, .ref rkc, .ref rik])), (rz, .inl (cyI, 2490, .inl (yz 0 0)))] := hD
  refine lv_aload_n hx hb dX11_goOn_19 rfl (lv_at hl 1 rfl) ?_
  refine va_get (D := (dC, dI)) (ci := 11) (v := .ref rt) (C := RX11) (T := TX11) (N := 24) hx hb hts hnX11 hown hK hP 2 rfl rfl 15 (by decide) hf42 (fun _ h9 => h9) rfl dX11_goOn_20 ?_
  refine lv_iload_n hx hb dX11_goOn_23 rfl (lv_at hl 0 rfl) ?_
  refine lv_aload_n hx hb dX11_goOn_24 rfl (lv_at hl 1 rfl) ?_
  refine va_get (D := (dC, dI)) (ci := 11) (v := .ref rz) (C := RX11) (T := TX11) (N := 24) hx hb hts hnX11 hown hK hP 2 rfl rfl 0 (by decide) hf7 (fun _ h9 => h9) rfl dX11_goOn_25 ?_
  refine lv_iload_n hx hb dX11_goOn_28 rfl (lv_at hl 0 rfl) ?_
  refine yy_iald (v := 1) hx hb hK hP 3 0 rfl rfl (yin (by decide)) dX11_goOn_29 rfl ?_
  refine yy_iast (f' := yR) hx hb hK hP hD hS 1 0 rfl rfl (yin (by decide)) dX11_goOn_30 rfl (fun H locs hP hD hS => ?_)
  have hP : va_P (dC, dI) vwCl [(rs, .inl (cyI, 15, .inl yR)), (rt, .inl (cyI, 15, .inl yR)), (h0, .inr (11, [.ref rz, .int 0, .int 0, .ref rf, .ref rl, .ref rwx, .ref rb, .int 0, .ref rwd, .ref rk, .ref ra, .int 0, .int 32, .int 0, .ref rs, .ref rt, .int 0, .int 0, .ref rwr, .ref rp, .ref rsi, .ref rke, .ref rkc, .ref rik])), (rz, .inl (cyI, 2490, .inl (yz 0 0)))] H := hP
  have hD : va_D A [(rs, .inl (cyI, 15, .inl yR)), (rt, .inl (cyI, 15, .inl yR)), (h0, .inr (11, [.ref rz, .int 0, .int 0, .ref rf, .ref rl, .ref rwx, .ref rb, .int 0, .ref rwd, .ref rk, .ref ra, .int 0, .int 32, .int 0, .ref rs, .ref rt, .int 0, .int 0, .ref rwr, .ref rp, .ref rsi, .ref rke, .ref rkc, .ref rik])), (rz, .inl (cyI, 2490, .inl (yz 0 0)))] := hD
  refine lv_iinc (v := 5) (lv' := [(1, .int 5), (0, .ref h0)]) hx hb dX11_goOn_31 hl (k := 0) rfl (by decide) (by decide) rfl (fun ls hl => ?_)
  refine lv_goto (tgt := 2) hx hb dX11_goOn_34 (by decide) ?_
  refine lv_iload_n hx hb dX11_goOn_2 rfl (lv_at hl 0 rfl) ?_
  refine lv_bipush (v := 15) hx hb dX11_goOn_3 (by decide) ?_
  refine lv_icmp_ge (tgt := 37) hx hb dX11_goOn_5 (by decide) (fun c => absurd c (by decide)) (fun _ => ?_)
  refine lv_aload_n hx hb dX11_goOn_8 rfl (lv_at hl 1 rfl) ?_
  refine va_get (D := (dC, dI)) (ci := 11) (v := .ref rs) (C := RX11) (T := TX11) (N := 24) hx hb hts hnX11 hown hK hP 2 rfl rfl 14 (by decide) hf39 (fun _ h9 => h9) rfl dX11_goOn_9 ?_
  refine lv_iload_n hx hb dX11_goOn_12 rfl (lv_at hl 0 rfl) ?_
  refine lv_aload_n hx hb dX11_goOn_13 rfl (lv_at hl 1 rfl) ?_
  refine lv_iload_n hx hb dX11_goOn_14 rfl (lv_at hl 0 rfl) ?_
  have hPc := hP.sub (ws' := [(h0, .inr (11, [.ref rz, .int 0, .int 0, .ref rf, .ref rl, .ref rwx, .ref rb, .int 0, .ref rwd, .ref rk, .ref ra, .int 0, .int 32, .int 0, .ref rs, .ref rt, .int 0, .int 0, .ref rwr, .ref rp, .ref rsi, .ref rke, .ref rkc, .ref rik])), (rz, .inl (cyI, 2490, .inl (yz 0 0)))]) [2, 3] rfl
  have hDc := hD.sub (ws' := [(h0, .inr (11, [.ref rz, .int 0, .int 0, .ref rf, .ref rl, .ref rwx, .ref rb, .int 0, .ref rwd, .ref rk, .ref ra, .int 0, .int 32, .int 0, .ref rs, .ref rt, .int 0, .int 0, .ref rwr, .ref rp, .ref rsi, .ref rke, .ref rkc, .ref rik])), (rz, .inl (cyI, 2490, .inl (yz 0 0)))]) [2, 3] (by decide) rfl
  refine yy_calli [2, 3] [0, 1] (wr := [(rs, .inl (cyI, 15, .inl yR)), (rt, .inl (cyI, 15, .inl yR))]) (va_runV (As := [.int 5]) (rest := [.int 5, .ref rs]) ⟨hx, hb, hml, hown, hts⟩ (r0_X11_seen_85 l dC dI cyI cyZ cyO H.size h0 rz rf rl rwx rb rwd rk ra rs rt rwr rp rsi rke rkc rik ) (cwV 1 hts gX11_goOn_X11_seen rfl rfl rfl (by decide +kernel) ⟨Nat.le_of_ble_eq_true rfl, Nat.le_of_ble_eq_true rfl⟩) (yPreV hK hPc hDc (ci := 11) (q0 := 0) rfl rfl) rfl rfl hl.1 rfl (lv_room (Nat.le_of_ble_eq_true rfl)) dX11_goOn_15 ⟨Nat.le_of_ble_eq_true rfl, Nat.le_of_ble_eq_true rfl⟩) hP hD hS hA rfl rfl (by decide) (by decide) (fun r_12 u_11 H locs hw hP hD hS => ?_)
  have hP : va_P (dC, dI) vwCl [(rs, .inl (cyI, 15, .inl yR)), (rt, .inl (cyI, 15, .inl yR)), (h0, .inr (11, [.ref rz, .int 0, .int 0, .ref rf, .ref rl, .ref rwx, .ref rb, .int 0, .ref rwd, .ref rk, .ref ra, .int 0, .int 32, .int 0, .ref rs, .ref rt, .int 0, .int 0, .ref rwr, .ref rp, .ref rsi, .ref rke, .ref rkc, .ref rik])), (rz, .inl (cyI, 2490, .inl (yz 0 0)))] H := hP
  have hD : va_D A [(rs, .inl (cyI, 15, .inl yR)), (rt, .inl (cyI, 15, .inl yR)), (h0, .inr (11, [.ref rz, .int 0, .int 0, .ref rf, .ref rl, .ref rwx, .ref rb, .int 0, .ref rwd, .ref rk, .ref ra, .int 0, .int 32, .int 0, .ref rs, .ref rt, .int 0, .int 0, .ref rwr, .ref rp, .ref rsi, .ref rke, .ref rkc, .ref rik])), (rz, .inl (cyI, 2490, .inl (yz 0 0)))] := hD
  refine W.widen (k := 0) (n := 0) (Nat.le_of_ble_eq_true rfl) (Nat.le_of_ble_eq_true rfl) ?_
  have hw : r_12 = 0 := hw
  subst hw
  refine yy_iast (f' := yR) hx hb hK hP hD hS 0 0 rfl rfl (yin (by decide)) dX11_goOn_18 (yid rfl) (fun H locs hP hD hS => ?_)
  have hP : va_P (dC, dI) vwCl [(rs, .inl (cyI, 15, .inl yR)), (rt, .inl (cyI, 15, .inl yR)), (h0, .inr (11, [.ref rz, .int 0, .int 0, .ref rf, .ref rl, .ref rwx, .ref rb, .int 0, .ref rwd, .ref rk, .ref ra, .int 0, .int 32, .int 0, .ref rs, .ref rt, .int 0, .int 0, .ref rwr, .ref rp, .ref rsi, .ref rke, .ref rkc, .ref rik])), (rz, .inl (cyI, 2490, .inl (yz 0 0)))] H := hP
  have hD : va_D A [(rs, .inl (cyI, 15, .inl yR)), (rt, .inl (cyI, 15, .inl yR)), (h0, .inr (11, [.ref rz, .int 0, .int 0, .ref rf, .ref rl, .ref rwx, .ref rb, .int 0, .ref rwd, .ref rk, .ref ra, .int 0, .int 32, .int 0, .ref rs, .ref rt, .int 0, .int 0, .ref rwr, .ref rp, .ref rsi, .ref rke, .ref rkc, .ref rik])), (rz, .inl (cyI, 2490, .inl (yz 0 0)))] := hD
  refine lv_aload_n hx hb dX11_goOn_19 rfl (lv_at hl 1 rfl) ?_
  refine va_get (D := (dC, dI)) (ci := 11) (v := .ref rt) (C := RX11) (T := TX11) (N := 24) hx hb hts hnX11 hown hK hP 2 rfl rfl 15 (by decide) hf42 (fun _ h9 => h9) rfl dX11_goOn_20 ?_
  refine lv_iload_n hx hb dX11_goOn_23 rfl (lv_at hl 0 rfl) ?_
  refine lv_aload_n hx hb dX11_goOn_24 rfl (lv_at hl 1 rfl) ?_
  refine va_get (D := (dC, dI)) (ci := 11) (v := .ref rz) (C := RX11) (T := TX11) (N := 24) hx hb hts hnX11 hown hK hP 2 rfl rfl 0 (by decide) hf7 (fun _ h9 => h9) rfl dX11_goOn_25 ?_
  refine lv_iload_n hx hb dX11_goOn_28 rfl (lv_at hl 0 rfl) ?_
  refine yy_iald (v := 0) hx hb hK hP 3 0 rfl rfl (yin (by decide)) dX11_goOn_29 rfl ?_
  refine yy_iast (f' := yR) hx hb hK hP hD hS 1 0 rfl rfl (yin (by decide)) dX11_goOn_30 (yid rfl) (fun H locs hP hD hS => ?_)
  have hP : va_P (dC, dI) vwCl [(rs, .inl (cyI, 15, .inl yR)), (rt, .inl (cyI, 15, .inl yR)), (h0, .inr (11, [.ref rz, .int 0, .int 0, .ref rf, .ref rl, .ref rwx, .ref rb, .int 0, .ref rwd, .ref rk, .ref ra, .int 0, .int 32, .int 0, .ref rs, .ref rt, .int 0, .int 0, .ref rwr, .ref rp, .ref rsi, .ref rke, .ref rkc, .ref rik])), (rz, .inl (cyI, 2490, .inl (yz 0 0)))] H := hP
  have hD : va_D A [(rs, .inl (cyI, 15, .inl yR)), (rt, .inl (cyI, 15, .inl yR)), (h0, .inr (11, [.ref rz, .int 0, .int 0, .ref rf, .ref rl, .ref rwx, .ref rb, .int 0, .ref rwd, .ref rk, .ref ra, .int 0, .int 32, .int 0, .ref rs, .ref rt, .int 0, .int 0, .ref rwr, .ref rp, .ref rsi, .ref rke, .ref rkc, .ref rik])), (rz, .inl (cyI, 2490, .inl (yz 0 0)))] := hD
  refine lv_iinc (v := 6) (lv' := [(1, .int 6), (0, .ref h0)]) hx hb dX11_goOn_31 hl (k := 0) rfl (by decide) (by decide) rfl (fun ls hl => ?_)
  refine lv_goto (tgt := 2) hx hb dX11_goOn_34 (by decide) ?_
  refine lv_iload_n hx hb dX11_goOn_2 rfl (lv_at hl 0 rfl) ?_
  refine lv_bipush (v := 15) hx hb dX11_goOn_3 (by decide) ?_
  refine lv_icmp_ge (tgt := 37) hx hb dX11_goOn_5 (by decide) (fun c => absurd c (by decide)) (fun _ => ?_)
  refine lv_aload_n hx hb dX11_goOn_8 rfl (lv_at hl 1 rfl) ?_
  refine va_get (D := (dC, dI)) (ci := 11) (v := .ref rs) (C := RX11) (T := TX11) (N := 24) hx hb hts hnX11 hown hK hP 2 rfl rfl 14 (by decide) hf39 (fun _ h9 => h9) rfl dX11_goOn_9 ?_
  refine lv_iload_n hx hb dX11_goOn_12 rfl (lv_at hl 0 rfl) ?_
  refine lv_aload_n hx hb dX11_goOn_13 rfl (lv_at hl 1 rfl) ?_
  refine lv_iload_n hx hb dX11_goOn_14 rfl (lv_at hl 0 rfl) ?_
  have hPc := hP.sub (ws' := [(h0, .inr (11, [.ref rz, .int 0, .int 0, .ref rf, .ref rl, .ref rwx, .ref rb, .int 0, .ref rwd, .ref rk, .ref ra, .int 0, .int 32, .int 0, .ref rs, .ref rt, .int 0, .int 0, .ref rwr, .ref rp, .ref rsi, .ref rke, .ref rkc, .ref rik])), (rz, .inl (cyI, 2490, .inl (yz 0 0)))]) [2, 3] rfl
  have hDc := hD.sub (ws' := [(h0, .inr (11, [.ref rz, .int 0, .int 0, .ref rf, .ref rl, .ref rwx, .ref rb, .int 0, .ref rwd, .ref rk, .ref ra, .int 0, .int 32, .int 0, .ref rs, .ref rt, .int 0, .int 0, .ref rwr, .ref rp, .ref rsi, .ref rke, .ref rkc, .ref rik])), (rz, .inl (cyI, 2490, .inl (yz 0 0)))]) [2, 3] (by decide) rfl
  refine yy_calli [2, 3] [0, 1] (wr := [(rs, .inl (cyI, 15, .inl yR)), (rt, .inl (cyI, 15, .inl yR))]) (va_runV (As := [.int 6]) (rest := [.int 6, .ref rs]) ⟨hx, hb, hml, hown, hts⟩ (r0_X11_seen_86 l dC dI cyI cyZ cyO H.size h0 rz rf rl rwx rb rwd rk ra rs rt rwr rp rsi rke rkc rik ) (cwV 1 hts gX11_goOn_X11_seen rfl rfl rfl (by decide +kernel) ⟨Nat.le_of_ble_eq_true rfl, Nat.le_of_ble_eq_true rfl⟩) (yPreV hK hPc hDc (ci := 11) (q0 := 0) rfl rfl) rfl rfl hl.1 rfl (lv_room (Nat.le_of_ble_eq_true rfl)) dX11_goOn_15 ⟨Nat.le_of_ble_eq_true rfl, Nat.le_of_ble_eq_true rfl⟩) hP hD hS hA rfl rfl (by decide) (by decide) (fun r_14 u_13 H locs hw hP hD hS => ?_)
  have hP : va_P (dC, dI) vwCl [(rs, .inl (cyI, 15, .inl yR)), (rt, .inl (cyI, 15, .inl yR)), (h0, .inr (11, [.ref rz, .int 0, .int 0, .ref rf, .ref rl, .ref rwx, .ref rb, .int 0, .ref rwd, .ref rk, .ref ra, .int 0, .int 32, .int 0, .ref rs, .ref rt, .int 0, .int 0, .ref rwr, .ref rp, .ref rsi, .ref rke, .ref rkc, .ref rik])), (rz, .inl (cyI, 2490, .inl (yz 0 0)))] H := hP
  have hD : va_D A [(rs, .inl (cyI, 15, .inl yR)), (rt, .inl (cyI, 15, .inl yR)), (h0, .inr (11, [.ref rz, .int 0, .int 0, .ref rf, .ref rl, .ref rwx, .ref rb, .int 0, .ref rwd, .ref rk, .ref ra, .int 0, .int 32, .int 0, .ref rs, .ref rt, .int 0, .int 0, .ref rwr, .ref rp, .ref rsi, .ref rke, .ref rkc, .ref rik])), (rz, .inl (cyI, 2490, .inl (yz 0 0)))] := hD
  refine W.widen (k := 0) (n := 0) (Nat.le_of_ble_eq_true rfl) (Nat.le_of_ble_eq_true rfl) ?_
  have hw : r_14 = 0 := hw
  subst hw
  refine yy_iast (f' := yR) hx hb hK hP hD hS 0 0 rfl rfl (yin (by decide)) dX11_goOn_18 (yid rfl) (fun H locs hP hD hS => ?_)
  have hP : va_P (dC, dI) vwCl [(rs, .inl (cyI, 15, .inl yR)), (rt, .inl (cyI, 15, .inl yR)), (h0, .inr (11, [.ref rz, .int 0, .int 0, .ref rf, .ref rl, .ref rwx, .ref rb, .int 0, .ref rwd, .ref rk, .ref ra, .int 0, .int 32, .int 0, .ref rs, .ref rt, .int 0, .int 0, .ref rwr, .ref rp, .ref rsi, .ref rke, .ref rkc, .ref rik])), (rz, .inl (cyI, 2490, .inl (yz 0 0)))] H := hP
  have hD : va_D A [(rs, .inl (cyI, 15, .inl yR)), (rt, .inl (cyI, 15, .inl yR)), (h0, .inr (11, [.ref rz, .int 0, .int 0, .ref rf, .ref rl, .ref rwx, .ref rb, .int 0, .ref rwd, .ref rk, .ref ra, .int 0, .int 32, .int 0, .ref rs, .ref rt, .int 0, .int 0, .ref rwr, .ref rp, .ref rsi, .ref rke, .ref rkc, .ref rik])), (rz, .inl (cyI, 2490, .inl (yz 0 0)))] := hD
  refine lv_aload_n hx hb dX11_goOn_19 rfl (lv_at hl 1 rfl) ?_
  refine va_get (D := (dC, dI)) (ci := 11) (v := .ref rt) (C := RX11) (T := TX11) (N := 24) hx hb hts hnX11 hown hK hP 2 rfl rfl 15 (by decide) hf42 (fun _ h9 => h9) rfl dX11_goOn_20 ?_
  refine lv_iload_n hx hb dX11_goOn_23 rfl (lv_at hl 0 rfl) ?_
  refine lv_aload_n hx hb dX11_goOn_24 rfl (lv_at hl 1 rfl) ?_
  refine va_get (D := (dC, dI)) (ci := 11) (v := .ref rz) (C := RX11) (T := TX11) (N := 24) hx hb hts hnX11 hown hK hP 2 rfl rfl 0 (by decide) hf7 (fun _ h9 => h9) rfl dX11_goOn_25 ?_
  refine lv_iload_n hx hb dX11_goOn_28 rfl (lv_at hl 0 rfl) ?_
  refine yy_iald (v := 0) hx hb hK hP 3 0 rfl rfl (yin (by decide)) dX11_goOn_29 rfl ?_
  refine yy_iast (f' := yR) hx hb hK hP hD hS 1 0 rfl rfl (yin (by decide)) dX11_goOn_30 (yid rfl) (fun H locs hP hD hS => ?_)
  have hP : va_P (dC, dI) vwCl [(rs, .inl (cyI, 15, .inl yR)), (rt, .inl (cyI, 15, .inl yR)), (h0, .inr (11, [.ref rz, .int 0, .int 0, .ref rf, .ref rl, .ref rwx, .ref rb, .int 0, .ref rwd, .ref rk, .ref ra, .int 0, .int 32, .int 0, .ref rs, .ref rt, .int 0, .int 0, .ref rwr, .ref rp, .ref rsi, .ref rke, .ref rkc, .ref rik])), (rz, .inl (cyI, 2490, .inl (yz 0 0)))] H := hP
  have hD : va_D A [(rs, .inl (cyI, 15, .inl yR)), (rt, .inl (cyI, 15, .inl yR)), (h0, .inr (11, [.ref rz, .int 0, .int 0, .ref rf, .ref rl, .ref rwx, .ref rb, .int 0, .ref rwd, .ref rk, .ref ra, .int 0, .int 32, .int 0, .ref rs, .ref rt, .int 0, .int 0, .ref rwr, .ref rp, .ref rsi, .ref rke, .ref rkc, .ref rik])), (rz, .inl (cyI, 2490, .inl (yz 0 0)))] := hD
  refine lv_iinc (v := 7) (lv' := [(1, .int 7), (0, .ref h0)]) hx hb dX11_goOn_31 hl (k := 0) rfl (by decide) (by decide) rfl (fun ls hl => ?_)
  refine lv_goto (tgt := 2) hx hb dX11_goOn_34 (by decide) ?_
  refine lv_iload_n hx hb dX11_goOn_2 rfl (lv_at hl 0 rfl) ?_
  refine lv_bipush (v := 15) hx hb dX11_goOn_3 (by decide) ?_
  refine lv_icmp_ge (tgt := 37) hx hb dX11_goOn_5 (by decide) (fun c => absurd c (by decide)) (fun _ => ?_)
  refine lv_aload_n hx hb dX11_goOn_8 rfl (lv_at hl 1 rfl) ?_
  refine va_get (D := (dC, dI)) (ci := 11) (v := .ref rs) (C := RX11) (T := TX11) (N := 24) hx hb hts hnX11 hown hK hP 2 rfl rfl 14 (by decide) hf39 (fun _ h9 => h9) rfl dX11_goOn_9 ?_
  refine lv_iload_n hx hb dX11_goOn_12 rfl (lv_at hl 0 rfl) ?_
  refine lv_aload_n hx hb dX11_goOn_13 rfl (lv_at hl 1 rfl) ?_
  refine lv_iload_n hx hb dX11_goOn_14 rfl (lv_at hl 0 rfl) ?_
  have hPc := hP.sub (ws' := [(h0, .inr (11, [.ref rz, .int 0, .int 0, .ref rf, .ref rl, .ref rwx, .ref rb, .int 0, .ref rwd, .ref rk, .ref ra, .int 0, .int 32, .int 0, .ref rs, .ref rt, .int 0, .int 0, .ref rwr, .ref rp, .ref rsi, .ref rke, .ref rkc, .ref rik])), (rz, .inl (cyI, 2490, .inl (yz 0 0)))]) [2, 3] rfl
  have hDc := hD.sub (ws' := [(h0, .inr (11, [.ref rz, .int 0, .int 0, .ref rf, .ref rl, .ref rwx, .ref rb, .int 0, .ref rwd, .ref rk, .ref ra, .int 0, .int 32, .int 0, .ref rs, .ref rt, .int 0, .int 0, .ref rwr, .ref rp, .ref rsi, .ref rke, .ref rkc, .ref rik])), (rz, .inl (cyI, 2490, .inl (yz 0 0)))]) [2, 3] (by decide) rfl
  refine yy_calli [2, 3] [0, 1] (wr := [(rs, .inl (cyI, 15, .inl yR)), (rt, .inl (cyI, 15, .inl yR))]) (va_runV (As := [.int 7]) (rest := [.int 7, .ref rs]) ⟨hx, hb, hml, hown, hts⟩ (r0_X11_seen_87 l dC dI cyI cyZ cyO H.size h0 rz rf rl rwx rb rwd rk ra rs rt rwr rp rsi rke rkc rik ) (cwV 1 hts gX11_goOn_X11_seen rfl rfl rfl (by decide +kernel) ⟨Nat.le_of_ble_eq_true rfl, Nat.le_of_ble_eq_true rfl⟩) (yPreV hK hPc hDc (ci := 11) (q0 := 0) rfl rfl) rfl rfl hl.1 rfl (lv_room (Nat.le_of_ble_eq_true rfl)) dX11_goOn_15 ⟨Nat.le_of_ble_eq_true rfl, Nat.le_of_ble_eq_true rfl⟩) hP hD hS hA rfl rfl (by decide) (by decide) (fun r_16 u_15 H locs hw hP hD hS => ?_)
  have hP : va_P (dC, dI) vwCl [(rs, .inl (cyI, 15, .inl yR)), (rt, .inl (cyI, 15, .inl yR)), (h0, .inr (11, [.ref rz, .int 0, .int 0, .ref rf, .ref rl, .ref rwx, .ref rb, .int 0, .ref rwd, .ref rk, .ref ra, .int 0, .int 32, .int 0, .ref rs, .ref rt, .int 0, .int 0, .ref rwr, .ref rp, .ref rsi, .ref rke, .ref rkc, .ref rik])), (rz, .inl (cyI, 2490, .inl (yz 0 0)))] H := hP
  have hD : va_D A [(rs, .inl (cyI, 15, .inl yR)), (rt, .inl (cyI, 15, .inl yR)), (h0, .inr (11, [.ref rz, .int 0, .int 0, .ref rf, .ref rl, .ref rwx, .ref rb, .int 0, .ref rwd, .ref rk, .ref ra, .int 0, .int 32, .int 0, .ref rs, .ref rt, .int 0, .int 0, .ref rwr, .ref rp, .ref rsi, .ref rke, .ref rkc, .ref rik])), (rz, .inl (cyI, 2490, .inl (yz 0 0)))] := hD
  refine W.widen (k := 0) (n := 0) (Nat.le_of_ble_eq_true rfl) (Nat.le_of_ble_eq_true rfl) ?_
  have hw : r_16 = 0 := hw
  subst hw
  refine yy_iast (f' := yR) hx hb hK hP hD hS 0 0 rfl rfl (yin (by decide)) dX11_goOn_18 (yid rfl) (fun H locs hP hD hS => ?_)
  have hP : va_P (dC, dI) vwCl [(rs, .inl (cyI, 15, .inl yR)), (rt, .inl (cyI, 15, .inl yR)), (h0, .inr (11, [.ref rz, .int 0, .int 0, .ref rf, .ref rl, .ref rwx, .ref rb, .int 0, .ref rwd, .ref rk, .ref ra, .int 0, .int 32, .int 0, .ref rs, .ref rt, .int 0, .int 0, .ref rwr, .ref rp, .ref rsi, .ref rke, .ref rkc, .ref rik])), (rz, .inl (cyI, 2490, .inl (yz 0 0)))] H := hP
  have hD : va_D A [(rs, .inl (cyI, 15, .inl yR)), (rt, .inl (cyI, 15, .inl yR)), (h0, .inr (11, [.ref rz, .int 0, .int 0, .ref rf, .ref rl, .ref rwx, .ref rb, .int 0, .ref rwd, .ref rk, .ref ra, .int 0, .int 32, .int 0, .ref rs, .ref rt, .int 0, .int 0, .ref rwr, .ref rp, .ref rsi, .ref rke, .ref rkc, .ref rik])), (rz, .inl (cyI, 2490, .inl (yz 0 0)))] := hD
  refine lv_aload_n hx hb dX11_goOn_19 rfl (lv_at hl 1 rfl) ?_
  refine va_get (D := (dC, dI)) (ci := 11) (v := .ref rt) (C := RX11) (T := TX11) (N := 24) hx hb hts hnX11 hown hK hP 2 rfl rfl 15 (by decide) hf42 (fun _ h9 => h9) rfl dX11_goOn_20 ?_
  refine lv_iload_n hx hb dX11_goOn_23 rfl (lv_at hl 0 rfl) ?_
  refine lv_aload_n hx hb dX11_goOn_24 rfl (lv_at hl 1 rfl) ?_
  refine va_get (D := (dC, dI)) (ci := 11) (v := .ref rz) (C := RX11) (T := TX11) (N := 24) hx hb hts hnX11 hown hK hP 2 rfl rfl 0 (by decide) hf7 (fun _ h9 => h9) rfl dX11_goOn_25 ?_
  refine lv_iload_n hx hb dX11_goOn_28 rfl (lv_at hl 0 rfl) ?_
  refine yy_iald (v := 0) hx hb hK hP 3 0 rfl rfl (yin (by decide)) dX11_goOn_29 rfl ?_
  refine yy_iast (f' := yR) hx hb hK hP hD hS 1 0 rfl rfl (yin (by decide)) dX11_goOn_30 (yid rfl) (fun H locs hP hD hS => ?_)
  have hP : va_P (dC, dI) vwCl [(rs, .inl (cyI, 15, .inl yR)), (rt, .inl (cyI, 15, .inl yR)), (h0, .inr (11, [.ref rz, .int 0, .int 0, .ref rf, .ref rl, .ref rwx, .ref rb, .int 0, .ref rwd, .ref rk, .ref ra, .int 0, .int 32, .int 0, .ref rs, .ref rt, .int 0, .int 0, .ref rwr, .ref rp, .ref rsi, .ref rke, .ref rkc, .ref rik])), (rz, .inl (cyI, 2490, .inl (yz 0 0)))] H := hP
  have hD : va_D A [(rs, .inl (cyI, 15, .inl yR)), (rt, .inl (cyI, 15, .inl yR)), (h0, .inr (11, [.ref rz, .int 0, .int 0, .ref rf, .ref rl, .ref rwx, .ref rb, .int 0, .ref rwd, .ref rk, .ref ra, .int 0, .int 32, .int 0, .ref rs, .ref rt, .int 0, .int 0, .ref rwr, .ref rp, .ref rsi, .ref rke, .ref rkc, .ref rik])), (rz, .inl (cyI, 2490, .inl (yz 0 0)))] := hD
  refine lv_iinc (v := 8) (lv' := [(1, .int 8), (0, .ref h0)]) hx hb dX11_goOn_31 hl (k := 0) rfl (by decide) (by decide) rfl (fun ls hl => ?_)
  refine lv_goto (tgt := 2) hx hb dX11_goOn_34 (by decide) ?_
  refine lv_iload_n hx hb dX11_goOn_2 rfl (lv_at hl 0 rfl) ?_
  refine lv_bipush (v := 15) hx hb dX11_goOn_3 (by decide) ?_
  refine lv_icmp_ge (tgt := 37) hx hb dX11_goOn_5 (by decide) (fun c => absurd c (by decide)) (fun _ => ?_)
  refine lv_aload_n hx hb dX11_goOn_8 rfl (lv_at hl 1 rfl) ?_
  refine va_get (D := (dC, dI)) (ci := 11) (v := .ref rs) (C := RX11) (T := TX11) (N := 24) hx hb hts hnX11 hown hK hP 2 rfl rfl 14 (by decide) hf39 (fun _ h9 => h9) rfl dX11_goOn_9 ?_
  refine lv_iload_n hx hb dX11_goOn_12 rfl (lv_at hl 0 rfl) ?_
  refine lv_aload_n hx hb dX11_goOn_13 rfl (lv_at hl 1 rfl) ?_
  refine lv_iload_n hx hb dX11_goOn_14 rfl (lv_at hl 0 rfl) ?_
  have hPc := hP.sub (ws' := [(h0, .inr (11, [.ref rz, .int 0, .int 0, .ref rf, .ref rl, .ref rwx, .ref rb, .int 0, .ref rwd, .ref rk, .ref ra, .int 0, .int 32, .int 0, .ref rs, .ref rt, .int 0, .int 0, .ref rwr, .ref rp, .ref rsi, .ref rke, .ref rkc, .ref rik])), (rz, .inl (cyI, 2490, .inl (yz 0 0)))]) [2, 3] rfl
  have hDc := hD.sub (ws' := [(h0, .inr (11, [.ref rz, .int 0, .int 0, .ref rf, .ref rl, .ref rwx, .ref rb, .int 0, .ref rwd, .ref rk, .ref ra, .int 0, .int 32, .int 0, .ref rs, .ref rt, .int 0, .int 0, .ref rwr, .ref rp, .ref rsi, .ref rke, .ref rkc, .ref rik])), (rz, .inl (cyI, 2490, .inl (yz 0 0)))]) [2, 3] (by decide) rfl
  refine yy_calli [2, 3] [0, 1] (wr := [(rs, .inl (cyI, 15, .inl yR)), (rt, .inl (cyI, 15, .inl yR))]) (va_runV (As := [.int 8]) (rest := [.int 8, .ref rs]) ⟨hx, hb, hml, hown, hts⟩ (r0_X11_seen_88 l dC dI cyI cyZ cyO H.size h0 rz rf rl rwx rb rwd rk ra rs rt rwr rp rsi rke rkc rik ) (cwV 1 hts gX11_goOn_X11_seen rfl rfl rfl (by decide +kernel) ⟨Nat.le_of_ble_eq_true rfl, Nat.le_of_ble_eq_true rfl⟩) (yPreV hK hPc hDc (ci := 11) (q0 := 0) rfl rfl) rfl rfl hl.1 rfl (lv_room (Nat.le_of_ble_eq_true rfl)) dX11_goOn_15 ⟨Nat.le_of_ble_eq_true rfl, Nat.le_of_ble_eq_true rfl⟩) hP hD hS hA rfl rfl (by decide) (by decide) (fun r_18 u_17 H locs hw hP hD hS => ?_)
  have hP : va_P (dC, dI) vwCl [(rs, .inl (cyI, 15, .inl yR)), (rt, .inl (cyI, 15, .inl yR)), (h0, .inr (11, [.ref rz, .int 0, .int 0, .ref rf, .ref rl, .ref rwx, .ref rb, .int 0, .ref rwd, .ref rk, .ref ra, .int 0, .int 32, .int 0, .ref rs, .ref rt, .int 0, .int 0, .ref rwr, .ref rp, .ref rsi, .ref rke, .ref rkc, .ref rik])), (rz, .inl (cyI, 2490, .inl (yz 0 0)))] H := hP
  have hD : va_D A [(rs, .inl (cyI, 15, .inl yR)), (rt, .inl (cyI, 15, .inl yR)), (h0, .inr (11, [.ref rz, .int 0, .int 0, .ref rf, .ref rl, .ref rwx, .ref rb, .int 0, .ref rwd, .ref rk, .ref ra, .int 0, .int 32, .int 0, .ref rs, .ref rt, .int 0, .int 0, .ref rwr, .ref rp, .ref rsi, .ref rke, .ref rkc, .ref rik])), (rz, .inl (cyI, 2490, .inl (yz 0 0)))] := hD
  refine W.widen (k := 0) (n := 0) (Nat.le_of_ble_eq_true rfl) (Nat.le_of_ble_eq_true rfl) ?_
  have hw : r_18 = 0 := hw
  subst hw
  refine yy_iast (f' := yR) hx hb hK hP hD hS 0 0 rfl rfl (yin (by decide)) dX11_goOn_18 (yid rfl) (fun H locs hP hD hS => ?_)
  have hP : va_P (dC, dI) vwCl [(rs, .inl (cyI, 15, .inl yR)), (rt, .inl (cyI, 15, .inl yR)), (h0, .inr (11, [.ref rz, .int 0, .int 0, .ref rf, .ref rl, .ref rwx, .ref rb, .int 0, .ref rwd, .ref rk, .ref ra, .int 0, .int 32, .int 0, .ref rs, .ref rt, .int 0, .int 0, .ref rwr, .ref rp, .ref rsi, .ref rke, .ref rkc, .ref rik])), (rz, .inl (cyI, 2490, .inl (yz 0 0)))] H := hP
  have hD : va_D A [(rs, .inl (cyI, 15, .inl yR)), (rt, .inl (cyI, 15, .inl yR)), (h0, .inr (11, [.ref rz, .int 0, .int 0, .ref rf, .ref rl, .ref rwx, .ref rb, .int 0, .ref rwd, .ref rk, .ref ra, .int 0, .int 32, .int 0, .ref rs, .ref rt, .int 0, .int 0, .ref rwr, .ref rp, .ref rsi, .ref rke, .ref rkc, .ref rik])), (rz, .inl (cyI, 2490, .inl (yz 0 0)))] := hD
  refine lv_aload_n hx hb dX11_goOn_19 rfl (lv_at hl 1 rfl) ?_
  refine va_get (D := (dC, dI)) (ci := 11) (v := .ref rt) (C := RX11) (T := TX11) (N := 24) hx hb hts hnX11 hown hK hP 2 rfl rfl 15 (by decide) hf42 (fun _ h9 => h9) rfl dX11_goOn_20 ?_
  refine lv_iload_n hx hb dX11_goOn_23 rfl (lv_at hl 0 rfl) ?_
  refine lv_aload_n hx hb dX11_goOn_24 rfl (lv_at hl 1 rfl) ?_
  refine va_get (D := (dC, dI)) (ci := 11) (v := .ref rz) (C := RX11) (T := TX11) (N := 24) hx hb hts hnX11 hown hK hP 2 rfl rfl 0 (by decide) hf7 (fun _ h9 => h9) rfl dX11_goOn_25 ?_
  refine lv_iload_n hx hb dX11_goOn_28 rfl (lv_at hl 0 rfl) ?_
  refine yy_iald (v := 0) hx hb hK hP 3 0 rfl rfl (yin (by decide)) dX11_goOn_29 rfl ?_
  refine yy_iast (f' := yR) hx hb hK hP hD hS 1 0 rfl rfl (yin (by decide)) dX11_goOn_30 (yid rfl) (fun H locs hP hD hS => ?_)
  have hP : va_P (dC, dI) vwCl [(rs, .inl (cyI, 15, .inl yR)), (rt, .inl (cyI, 15, .inl yR)), (h0, .inr (11, [.ref rz, .int 0, .int 0, .ref rf, .ref rl, .ref rwx, .ref rb, .int 0, .ref rwd, .ref rk, .ref ra, .int 0, .int 32, .int 0, .ref rs, .ref rt, .int 0, .int 0, .ref rwr, .ref rp, .ref rsi, .ref rke, .ref rkc, .ref rik])), (rz, .inl (cyI, 2490, .inl (yz 0 0)))] H := hP
  have hD : va_D A [(rs, .inl (cyI, 15, .inl yR)), (rt, .inl (cyI, 15, .inl yR)), (h0, .inr (11, [.ref rz, .int 0, .int 0, .ref rf, .ref rl, .ref rwx, .ref rb, .int 0, .ref rwd, .ref rk, .ref ra, .int 0, .int 32, .int 0, .ref rs, .ref rt, .int 0, .int 0, .ref rwr, .ref rp, .ref rsi, .ref rke, .ref rkc, .ref rik])), (rz, .inl (cyI, 2490, .inl (yz 0 0)))] := hD
  refine lv_iinc (v := 9) (lv' := [(1, .int 9), (0, .ref h0)]) hx hb dX11_goOn_31 hl (k := 0) rfl (by decide) (by decide) rfl (fun ls hl => ?_)
  refine lv_goto (tgt := 2) hx hb dX11_goOn_34 (by decide) ?_
  refine lv_iload_n hx hb dX11_goOn_2 rfl (lv_at hl 0 rfl) ?_
  refine lv_bipush (v := 15) hx hb dX11_goOn_3 (by decide) ?_
  refine lv_icmp_ge (tgt := 37) hx hb dX11_goOn_5 (by decide) (fun c => absurd c (by decide)) (fun _ => ?_)
  refine lv_aload_n hx hb dX11_goOn_8 rfl (lv_at hl 1 rfl) ?_
  refine va_get (D := (dC, dI)) (ci := 11) (v := .ref rs) (C := RX11) (T := TX11) (N := 24) hx hb hts hnX11 hown hK hP 2 rfl rfl 14 (by decide) hf39 (fun _ h9 => h9) rfl dX11_goOn_9 ?_
  refine lv_iload_n hx hb dX11_goOn_12 rfl (lv_at hl 0 rfl) ?_
  refine lv_aload_n hx hb dX11_goOn_13 rfl (lv_at hl 1 rfl) ?_
  refine lv_iload_n hx hb dX11_goOn_14 rfl (lv_at hl 0 rfl) ?_
  have hPc := hP.sub (ws' := [(h0, .inr (11, [.ref rz, .int 0, .int 0, .ref rf, .ref rl, .ref rwx, .ref rb, .int 0, .ref rwd, .ref rk, .ref ra, .int 0, .int 32, .int 0, .ref rs, .ref rt, .int 0, .int 0, .ref rwr, .ref rp, .ref rsi, .ref rke, .ref rkc, .ref rik])), (rz, .inl (cyI, 2490, .inl (yz 0 0)))]) [2, 3] rfl
  have hDc := hD.sub (ws' := [(h0, .inr (11, [.ref rz, .int 0, .int 0, .ref rf, .ref rl, .ref rwx, .ref rb, .int 0, .ref rwd, .ref rk, .ref ra, .int 0, .int 32, .int 0, .ref rs, .ref rt, .int 0, .int 0, .ref rwr, .ref rp, .ref rsi, .ref rke, .ref rkc, .ref rik])), (rz, .inl (cyI, 2490, .inl (yz 0 0)))]) [2, 3] (by decide) rfl
  refine yy_calli [2, 3] [0, 1] (wr := [(rs, .inl (cyI, 15, .inl yR)), (rt, .inl (cyI, 15, .inl yR))]) (va_runV (As := [.int 9]) (rest := [.int 9, .ref rs]) ⟨hx, hb, hml, hown, hts⟩ (r0_X11_seen_89 l dC dI cyI cyZ cyO H.size h0 rz rf rl rwx rb rwd rk ra rs rt rwr rp rsi rke rkc rik ) (cwV 1 hts gX11_goOn_X11_seen rfl rfl rfl (by decide +kernel) ⟨Nat.le_of_ble_eq_true rfl, Nat.le_of_ble_eq_true rfl⟩) (yPreV hK hPc hDc (ci := 11) (q0 := 0) rfl rfl) rfl rfl hl.1 rfl (lv_room (Nat.le_of_ble_eq_true rfl)) dX11_goOn_15 ⟨Nat.le_of_ble_eq_true rfl, Nat.le_of_ble_eq_true rfl⟩) hP hD hS hA rfl rfl (by decide) (by decide) (fun r_20 u_19 H locs hw hP hD hS => ?_)
  have hP : va_P (dC, dI) vwCl [(rs, .inl (cyI, 15, .inl yR)), (rt, .inl (cyI, 15, .inl yR)), (h0, .inr (11, [.ref rz, .int 0, .int 0, .ref rf, .ref rl, .ref rwx, .ref rb, .int 0, .ref rwd, .ref rk, .ref ra, .int 0, .int 32, .int 0, .ref rs, .ref rt, .int 0, .int 0, .ref rwr, .ref rp, .ref rsi, .ref rke, .ref rkc, .ref rik])), (rz, .inl (cyI, 2490, .inl (yz 0 0)))] H := hP
  have hD : va_D A [(rs, .inl (cyI, 15, .inl yR)), (rt, .inl (cyI, 15, .inl yR)), (h0, .inr (11, [.ref rz, .int 0, .int 0, .ref rf, .ref rl, .ref rwx, .ref rb, .int 0, .ref rwd, .ref rk, .ref ra, .int 0, .int 32, .int 0, .ref rs, .ref rt, .int 0, .int 0, .ref rwr, .ref rp, .ref rsi, .ref rke, .ref rkc, .ref rik])), (rz, .inl (cyI, 2490, .inl (yz 0 0)))] := hD
  refine W.widen (k := 0) (n := 0) (Nat.le_of_ble_eq_true rfl) (Nat.le_of_ble_eq_true rfl) ?_
  have hw : r_20 = 0 := hw
  subst hw
  refine yy_iast (f' := yR) hx hb hK hP hD hS 0 0 rfl rfl (yin (by decide)) dX11_goOn_18 (yid rfl) (fun H locs hP hD hS => ?_)
  have hP : va_P (dC, dI) vwCl [(rs, .inl (cyI, 15, .inl yR)), (rt, .inl (cyI, 15, .inl yR)), (h0, .inr (11, [.ref rz, .int 0, .int 0, .ref rf, .ref rl, .ref rwx, .ref rb, .int 0, .ref rwd, .ref rk, .ref ra, .int 0, .int 32, .int 0, .ref rs, .ref rt, .int 0, .int 0, .ref rwr, .ref rp, .ref rsi, .ref rke, .ref rkc, .ref rik])), (rz, .inl (cyI, 2490, .inl (yz 0 0)))] H := hP
  have hD : va_D A [(rs, .inl (cyI, 15, .inl yR)), (rt, .inl (cyI, 15, .inl yR)), (h0, .inr (11, [.ref rz, .int 0, .int 0, .ref rf, .ref rl, .ref rwx, .ref rb, .int 0, .ref rwd, .ref rk, .ref ra, .int 0, .int 32, .int 0, .ref rs, .ref rt, .int 0, .int 0, .ref rwr, .ref rp, .ref rsi, .ref rke, .ref rkc, .ref rik])), (rz, .inl (cyI, 2490, .inl (yz 0 0)))] := hD
  refine lv_aload_n hx hb dX11_goOn_19 rfl (lv_at hl 1 rfl) ?_
  refine va_get (D := (dC, dI)) (ci := 11) (v := .ref rt) (C := RX11) (T := TX11) (N := 24) hx hb hts hnX11 hown hK hP 2 rfl rfl 15 (by decide) hf42 (fun _ h9 => h9) rfl dX11_goOn_20 ?_
  refine lv_iload_n hx hb dX11_goOn_23 rfl (lv_at hl 0 rfl) ?_
  refine lv_aload_n hx hb dX11_goOn_24 rfl (lv_at hl 1 rfl) ?_
  refine va_get (D := (dC, dI)) (ci := 11) (v := .ref rz) (C := RX11) (T := TX11) (N := 24) hx hb hts hnX11 hown hK hP 2 rfl rfl 0 (by decide) hf7 (fun _ h9 => h9) rfl dX11_goOn_25 ?_
  refine lv_iload_n hx hb dX11_goOn_28 rfl (lv_at hl 0 rfl) ?_
  refine yy_iald (v := 0) hx hb hK hP 3 0 rfl rfl (yin (by decide)) dX11_goOn_29 rfl ?_
  refine yy_iast (f' := yR) hx hb hK hP hD hS 1 0 rfl rfl (yin (by decide)) dX11_goOn_30 (yid rfl) (fun H locs hP hD hS => ?_)
  have hP : va_P (dC, dI) vwCl [(rs, .inl (cyI, 15, .inl yR)), (rt, .inl (cyI, 15, .inl yR)), (h0, .inr (11, [.ref rz, .int 0, .int 0, .ref rf, .ref rl, .ref rwx, .ref rb, .int 0, .ref rwd, .ref rk, .ref ra, .int 0, .int 32, .int 0, .ref rs, .ref rt, .int 0, .int 0, .ref rwr, .ref rp, .ref rsi, .ref rke, .ref rkc, .ref rik])), (rz, .inl (cyI, 2490, .inl (yz 0 0)))] H := hP
  have hD : va_D A [(rs, .inl (cyI, 15, .inl yR)), (rt, .inl (cyI, 15, .inl yR)), (h0, .inr (11, [.ref rz, .int 0, .int 0, .ref rf, .ref rl, .ref rwx, .ref rb, .int 0, .ref rwd, .ref rk, .ref ra, .int 0, .int 32, .int 0, .ref rs, .ref rt, .int 0, .int 0, .ref rwr, .ref rp, .ref rsi, .ref rke, .ref rkc, .ref rik])), (rz, .inl (cyI, 2490, .inl (yz 0 0)))] := hD
  refine lv_iinc (v := 10) (lv' := [(1, .int 10), (0, .ref h0)]) hx hb dX11_goOn_31 hl (k := 0) rfl (by decide) (by decide) rfl (fun ls hl => ?_)
  refine lv_goto (tgt := 2) hx hb dX11_goOn_34 (by decide) ?_
  refine lv_iload_n hx hb dX11_goOn_2 rfl (lv_at hl 0 rfl) ?_
  refine lv_bipush (v := 15) hx hb dX11_goOn_3 (by decide) ?_
  refine lv_icmp_ge (tgt := 37) hx hb dX11_goOn_5 (by decide) (fun c => absurd c (by decide)) (fun _ => ?_)
  refine lv_aload_n hx hb dX11_goOn_8 rfl (lv_at hl 1 rfl) ?_
  refine va_get (D := (dC, dI)) (ci := 11) (v := .ref rs) (C := RX11) (T := TX11) (N := 24) hx hb hts hnX11 hown hK hP 2 rfl rfl 14 (by decide) hf39 (fun _ h9 => h9) rfl dX11_goOn_9 ?_
  refine lv_iload_n hx hb dX11_goOn_12 rfl (lv_at hl 0 rfl) ?_
  refine lv_aload_n hx hb dX11_goOn_13 rfl (lv_at hl 1 rfl) ?_
  refine lv_iload_n hx hb dX11_goOn_14 rfl (lv_at hl 0 rfl) ?_
  have hPc := hP.sub (ws' := [(h0, .inr (11, [.ref rz, .int 0, .int 0, .ref rf, .ref rl, .ref rwx, .ref rb, .int 0, .ref rwd, .ref rk, .ref ra, .int 0, .int 32, .int 0, .ref rs, .ref rt, .int 0, .int 0, .ref rwr, .ref rp, .ref rsi, .ref rke, .ref rkc, .ref rik])), (rz, .inl (cyI, 2490, .inl (yz 0 0)))]) [2, 3] rfl
  have hDc := hD.sub (ws' := [(h0, .inr (11, [.ref rz, .int 0, .int 0, .ref rf, .ref rl, .ref rwx, .ref rb, .int 0, .ref rwd, .ref rk, .ref ra, .int 0, .int 32, .int 0, .ref rs, .ref rt, .int 0, .int 0, .ref rwr, .ref rp, .ref rsi, .ref rke, .ref rkc, .ref rik])), (rz, .inl (cyI, 2490, .inl (yz 0 0)))]) [2, 3] (by decide) rfl
  refine yy_calli [2, 3] [0, 1] (wr := [(rs, .inl (cyI, 15, .inl yR)), (rt, .inl (cyI, 15, .inl yR))]) (va_runV (As := [.int 10]) (rest := [.int 10, .ref rs]) ⟨hx, hb, hml, hown, hts⟩ (r0_X11_seen_90 l dC dI cyI cyZ cyO H.size h0 rz rf rl rwx rb rwd rk ra rs rt rwr rp rsi rke rkc rik ) (cwV 1 hts gX11_goOn_X11_seen rfl rfl rfl (by decide +kernel) ⟨Nat.le_of_ble_eq_true rfl, Nat.le_of_ble_eq_true rfl⟩) (yPreV hK hPc hDc (ci := 11) (q0 := 0) rfl rfl) rfl rfl hl.1 rfl (lv_room (Nat.le_of_ble_eq_true rfl)) dX11_goOn_15 ⟨Nat.le_of_ble_eq_true rfl, Nat.le_of_ble_eq_true rfl⟩) hP hD hS hA rfl rfl (by decide) (by decide) (fun r_22 u_21 H locs hw hP hD hS => ?_)
  have hP : va_P (dC, dI) vwCl [(rs, .inl (cyI, 15, .inl yR)), (rt, .inl (cyI, 15, .inl yR)), (h0, .inr (11, [.ref rz, .int 0, .int 0, .ref rf, .ref rl, .ref rwx, .ref rb, .int 0, .ref rwd, .ref rk, .ref ra, .int 0, .int 32, .int 0, .ref rs, .ref rt, .int 0, .int 0, .ref rwr, .ref rp, .ref rsi, .ref rke, .ref rkc, .ref rik])), (rz, .inl (cyI, 2490, .inl (yz 0 0)))] H := hP
  have hD : va_D A [(rs, .inl (cyI, 15, .inl yR)), (rt, .inl (cyI, 15, .inl yR)), (h0, .inr (11, [.ref rz, .int 0, .int 0, .ref rf, .ref rl, .ref rwx, .ref rb, .int 0, .ref rwd, .ref rk, .ref ra, .int 0, .int 32, .int 0, .ref rs, .ref rt, .int 0, .int 0, .ref rwr, .ref rp, .ref rsi, .ref rke, .ref rkc, .ref rik])), (rz, .inl (cyI, 2490, .inl (yz 0 0)))] := hD
  refine W.widen (k := 0) (n := 0) (Nat.le_of_ble_eq_true rfl) (Nat.le_of_ble_eq_true rfl) ?_
  have hw : r_22 = 0 := hw
  subst hw
  refine yy_iast (f' := yR) hx hb hK hP hD hS 0 0 rfl rfl (yin (by decide)) dX11_goOn_18 (yid rfl) (fun H locs hP hD hS => ?_)
  have hP : va_P (dC, dI) vwCl [(rs, .inl (cyI, 15, .inl yR)), (rt, .inl (cyI, 15, .inl yR)), (h0, .inr (11, [.ref rz, .int 0, .int 0, .ref rf, .ref rl, .ref rwx, .ref rb, .int 0, .ref rwd, .ref rk, .ref ra, .int 0, .int 32, .int 0, .ref rs, .ref rt, .int 0, .int 0, .ref rwr, .ref rp, .ref rsi, .ref rke, .ref rkc, .ref rik])), (rz, .inl (cyI, 2490, .inl (yz 0 0)))] H := hP
  have hD : va_D A [(rs, .inl (cyI, 15, .inl yR)), (rt, .inl (cyI, 15, .inl yR)), (h0, .inr (11, [.ref rz, .int 0, .int 0, .ref rf, .ref rl, .ref rwx, .ref rb, .int 0, .ref rwd, .ref rk, .ref ra, .int 0, .int 32, .int 0, .ref rs, .ref rt, .int 0, .int 0, .ref rwr, .ref rp, .ref rsi, .ref rke, .ref rkc, .ref rik])), (rz, .inl (cyI, 2490, .inl (yz 0 0)))] := hD
  refine lv_aload_n hx hb dX11_goOn_19 rfl (lv_at hl 1 rfl) ?_
  refine va_get (D := (dC, dI)) (ci := 11) (v := .ref rt) (C := RX11) (T := TX11) (N := 24) hx hb hts hnX11 hown hK hP 2 rfl rfl 15 (by decide) hf42 (fun _ h9 => h9) rfl dX11_goOn_20 ?_
  refine lv_iload_n hx hb dX11_goOn_23 rfl (lv_at hl 0 rfl) ?_
  refine lv_aload_n hx hb dX11_goOn_24 rfl (lv_at hl 1 rfl) ?_
  refine va_get (D := (dC, dI)) (ci := 11) (v := .ref rz) (C := RX11) (T := TX11) (N := 24) hx hb hts hnX11 hown hK hP 2 rfl rfl 0 (by decide) hf7 (fun _ h9 => h9) rfl dX11_goOn_25 ?_
  refine lv_iload_n hx hb dX11_goOn_28 rfl (lv_at hl 0 rfl) ?_
  refine yy_iald (v := 0) hx hb hK hP 3 0 rfl rfl (yin (by decide)) dX11_goOn_29 rfl ?_
  refine yy_iast (f' := yR) hx hb hK hP hD hS 1 0 rfl rfl (yin (by decide)) dX11_goOn_30 (yid rfl) (fun H locs hP hD hS => ?_)
  have hP : va_P (dC, dI) vwCl [(rs, .inl (cyI, 15, .inl yR)), (rt, .inl (cyI, 15, .inl yR)), (h0, .inr (11, [.ref rz, .int 0, .int 0, .ref rf, .ref rl, .ref rwx, .ref rb, .int 0, .ref rwd, .ref rk, .ref ra, .int 0, .int 32, .int 0, .ref rs, .ref rt, .int 0, .int 0, .ref rwr, .ref rp, .ref rsi, .ref rke, .ref rkc, .ref rik])), (rz, .inl (cyI, 2490, .inl (yz 0 0)))] H := hP
  have hD : va_D A [(rs, .inl (cyI, 15, .inl yR)), (rt, .inl (cyI, 15, .inl yR)), (h0, .inr (11, [.ref rz, .int 0, .int 0, .ref rf, .ref rl, .ref rwx, .ref rb, .int 0, .ref rwd, .ref rk, .ref ra, .int 0, .int 32, .int 0, .ref rs, .ref rt, .int 0, .int 0, .ref rwr, .ref rp, .ref rsi, .ref rke, .ref rkc, .ref rik])), (rz, .inl (cyI, 2490, .inl (yz 0 0)))] := hD
  refine lv_iinc (v := 11) (lv' := [(1, .int 11), (0, .ref h0)]) hx hb dX11_goOn_31 hl (k := 0) rfl (by decide) (by decide) rfl (fun ls hl => ?_)
  refine lv_goto (tgt := 2) hx hb dX11_goOn_34 (by decide) ?_
  refine lv_iload_n hx hb dX11_goOn_2 rfl (lv_at hl 0 rfl) ?_
  refine lv_bipush (v := 15) hx hb dX11_goOn_3 (by decide) ?_
  refine lv_icmp_ge (tgt := 37) hx hb dX11_goOn_5 (by decide) (fun c => absurd c (by decide)) (fun _ => ?_)
  refine lv_aload_n hx hb dX11_goOn_8 rfl (lv_at hl 1 rfl) ?_
  refine va_get (D := (dC, dI)) (ci := 11) (v := .ref rs) (C := RX11) (T := TX11) (N := 24) hx hb hts hnX11 hown hK hP 2 rfl rfl 14 (by decide) hf39 (fun _ h9 => h9) rfl dX11_goOn_9 ?_
  refine lv_iload_n hx hb dX11_goOn_12 rfl (lv_at hl 0 rfl) ?_
  refine lv_aload_n hx hb dX11_goOn_13 rfl (lv_at hl 1 rfl) ?_
  refine lv_iload_n hx hb dX11_goOn_14 rfl (lv_at hl 0 rfl) ?_
  have hPc := hP.sub (ws' := [(h0, .inr (11, [.ref rz, .int 0, .int 0, .ref rf, .ref rl, .ref rwx, .ref rb, .int 0, .ref rwd, .ref rk, .ref ra, .int 0, .int 32, .int 0, .ref rs, .ref rt, .int 0, .int 0, .ref rwr, .ref rp, .ref rsi, .ref rke, .ref rkc, .ref rik])), (rz, .inl (cyI, 2490, .inl (yz 0 0)))]) [2, 3] rfl
  have hDc := hD.sub (ws' := [(h0, .inr (11, [.ref rz, .int 0, .int 0, .ref rf, .ref rl, .ref rwx, .ref rb, .int 0, .ref rwd, .ref rk, .ref ra, .int 0, .int 32, .int 0, .ref rs, .ref rt, .int 0, .int 0, .ref rwr, .ref rp, .ref rsi, .ref rke, .ref rkc, .ref rik])), (rz, .inl (cyI, 2490, .inl (yz 0 0)))]) [2, 3] (by decide) rfl
  refine yy_calli [2, 3] [0, 1] (wr := [(rs, .inl (cyI, 15, .inl yR)), (rt, .inl (cyI, 15, .inl yR))]) (va_runV (As := [.int 11]) (rest := [.int 11, .ref rs]) ⟨hx, hb, hml, hown, hts⟩ (r0_X11_seen_91 l dC dI cyI cyZ cyO H.size h0 rz rf rl rwx rb rwd rk ra rs rt rwr rp rsi rke rkc rik ) (cwV 1 hts gX11_goOn_X11_seen rfl rfl rfl (by decide +kernel) ⟨Nat.le_of_ble_eq_true rfl, Nat.le_of_ble_eq_true rfl⟩) (yPreV hK hPc hDc (ci := 11) (q0 := 0) rfl rfl) rfl rfl hl.1 rfl (lv_room (Nat.le_of_ble_eq_true rfl)) dX11_goOn_15 ⟨Nat.le_of_ble_eq_true rfl, Nat.le_of_ble_eq_true rfl⟩) hP hD hS hA rfl rfl (by decide) (by decide) (fun r_24 u_23 H locs hw hP hD hS => ?_)
  have hP : va_P (dC, dI) vwCl [(rs, .inl (cyI, 15, .inl yR)), (rt, .inl (cyI, 15, .inl yR)), (h0, .inr (11, [.ref rz, .int 0, .int 0, .ref rf, .ref rl, .ref rwx, .ref rb, .int 0, .ref rwd, .ref rk, .ref ra, .int 0, .int 32, .int 0, .ref rs, .ref rt, .int 0, .int 0, .ref rwr, .ref rp, .ref rsi, .ref rke, .ref rkc, .ref rik])), (rz, .inl (cyI, 2490, .inl (yz 0 0)))] H := hP
  have hD : va_D A [(rs, .inl (cyI, 15, .inl yR)), (rt, .inl (cyI, 15, .inl yR)), (h0, .inr (11, [.ref rz, .int 0, .int 0, .ref rf, .ref rl, .ref rwx, .ref rb, .int 0, .ref rwd, .ref rk, .ref ra, .int 0, .int 32, .int 0, .ref rs, .ref rt, .int 0, .int 0, .ref rwr, .ref rp, .ref rsi, .ref rke, .ref rkc, .ref rik])), (rz, .inl (cyI, 2490, .inl (yz 0 0)))] := hD
  refine W.widen (k := 0) (n := 0) (Nat.le_of_ble_eq_true rfl) (Nat.le_of_ble_eq_true rfl) ?_
  have hw : r_24 = 0 := hw
  subst hw
  refine yy_iast (f' := yR) hx hb hK hP hD hS 0 0 rfl rfl (yin (by decide)) dX11_goOn_18 (yid rfl) (fun H locs hP hD hS => ?_)
  have hP : va_P (dC, dI) vwCl [(rs, .inl (cyI, 15, .inl yR)), (rt, .inl (cyI, 15, .inl yR)), (h0, .inr (11, [.ref rz, .int 0, .int 0, .ref rf, .ref rl, .ref rwx, .ref rb, .int 0, .ref rwd, .ref rk, .ref ra, .int 0, .int 32, .int 0, .ref rs, .ref rt, .int 0, .int 0, .ref rwr, .ref rp, .ref rsi, .ref rke, .ref rkc, .ref rik])), (rz, .inl (cyI, 2490, .inl (yz 0 0)))] H := hP
  have hD : va_D A [(rs, .inl (cyI, 15, .inl yR)), (rt, .inl (cyI, 15, .inl yR)), (h0, .inr (11, [.ref rz, .int 0, .int 0, .ref rf, .ref rl, .ref rwx, .ref rb, .int 0, .ref rwd, .ref rk, .ref ra, .int 0, .int 32, .int 0, .ref rs, .ref rt, .int 0, .int 0, .ref rwr, .ref rp, .ref rsi, .ref rke, .ref rkc, .ref rik])), (rz, .inl (cyI, 2490, .inl (yz 0 0)))] := hD
  refine lv_aload_n hx hb dX11_goOn_19 rfl (lv_at hl 1 rfl) ?_
  refine va_get (D := (dC, dI)) (ci := 11) (v := .ref rt) (C := RX11) (T := TX11) (N := 24) hx hb hts hnX11 hown hK hP 2 rfl rfl 15 (by decide) hf42 (fun _ h9 => h9) rfl dX11_goOn_20 ?_
  refine lv_iload_n hx hb dX11_goOn_23 rfl (lv_at hl 0 rfl) ?_
  refine lv_aload_n hx hb dX11_goOn_24 rfl (lv_at hl 1 rfl) ?_
  refine va_get (D := (dC, dI)) (ci := 11) (v := .ref rz) (C := RX11) (T := TX11) (N := 24) hx hb hts hnX11 hown hK hP 2 rfl rfl 0 (by decide) hf7 (fun _ h9 => h9) rfl dX11_goOn_25 ?_
  refine lv_iload_n hx hb dX11_goOn_28 rfl (lv_at hl 0 rfl) ?_
  refine yy_iald (v := 0) hx hb hK hP 3 0 rfl rfl (yin (by decide)) dX11_goOn_29 rfl ?_
  refine yy_iast (f' := yR) hx hb hK hP hD hS 1 0 rfl rfl (yin (by decide)) dX11_goOn_30 (yid rfl) (fun H locs hP hD hS => ?_)
  have hP : va_P (dC, dI) vwCl [(rs, .inl (cyI, 15, .inl yR)), (rt, .inl (cyI, 15, .inl yR)), (h0, .inr (11, [.ref rz, .int 0, .int 0, .ref rf, .ref rl, .ref rwx, .ref rb, .int 0, .ref rwd, .ref rk, .ref ra, .int 0, .int 32, .int 0, .ref rs, .ref rt, .int 0, .int 0, .ref rwr, .ref rp, .ref rsi, .ref rke, .ref rkc, .ref rik])), (rz, .inl (cyI, 2490, .inl (yz 0 0)))] H := hP
  have hD : va_D A [(rs, .inl (cyI, 15, .inl yR)), (rt, .inl (cyI, 15, .inl yR)), (h0, .inr (11, [.ref rz, .int 0, .int 0, .ref rf, .ref rl, .ref rwx, .ref rb, .int 0, .ref rwd, .ref rk, .ref ra, .int 0, .int 32, .int 0, .ref rs, .ref rt, .int 0, .int 0, .ref rwr, .ref rp, .ref rsi, .ref rke, .ref rkc, .ref rik])), (rz, .inl (cyI, 2490, .inl (yz 0 0)))] := hD
  refine lv_iinc (v := 12) (lv' := [(1, .int 12), (0, .ref h0)]) hx hb dX11_goOn_31 hl (k := 0) rfl (by decide) (by decide) rfl (fun ls hl => ?_)
  refine lv_goto (tgt := 2) hx hb dX11_goOn_34 (by decide) ?_
  refine lv_iload_n hx hb dX11_goOn_2 rfl (lv_at hl 0 rfl) ?_
  refine lv_bipush (v := 15) hx hb dX11_goOn_3 (by decide) ?_
  refine lv_icmp_ge (tgt := 37) hx hb dX11_goOn_5 (by decide) (fun c => absurd c (by decide)) (fun _ => ?_)
  refine lv_aload_n hx hb dX11_goOn_8 rfl (lv_at hl 1 rfl) ?_
  refine va_get (D := (dC, dI)) (ci := 11) (v := .ref rs) (C := RX11) (T := TX11) (N := 24) hx hb hts hnX11 hown hK hP 2 rfl rfl 14 (by decide) hf39 (fun _ h9 => h9) rfl dX11_goOn_9 ?_
  refine lv_iload_n hx hb dX11_goOn_12 rfl (lv_at hl 0 rfl) ?_
  refine lv_aload_n hx hb dX11_goOn_13 rfl (lv_at hl 1 rfl) ?_
  refine lv_iload_n hx hb dX11_goOn_14 rfl (lv_at hl 0 rfl) ?_
  have hPc := hP.sub (ws' := [(h0, .inr (11, [.ref rz, .int 0, .int 0, .ref rf, .ref rl, .ref rwx, .ref rb, .int 0, .ref rwd, .ref rk, .ref ra, .int 0, .int 32, .int 0, .ref rs, .ref rt, .int 0, .int 0, .ref rwr, .ref rp, .ref rsi, .ref rke, .ref rkc, .ref rik])), (rz, .inl (cyI, 2490, .inl (yz 0 0)))]) [2, 3] rfl
  have hDc := hD.sub (ws' := [(h0, .inr (11, [.ref rz, .int 0, .int 0, .ref rf, .ref rl, .ref rwx, .ref rb, .int 0, .ref rwd, .ref rk, .ref ra, .int 0, .int 32, .int 0, .ref rs, .ref rt, .int 0, .int 0, .ref rwr, .ref rp, .ref rsi, .ref rke, .ref rkc, .ref rik])), (rz, .inl (cyI, 2490, .inl (yz 0 0)))]) [2, 3] (by decide) rfl
  refine yy_calli [2, 3] [0, 1] (wr := [(rs, .inl (cyI, 15, .inl yR)), (rt, .inl (cyI, 15, .inl yR))]) (va_runV (As := [.int 12]) (rest := [.int 12, .ref rs]) ⟨hx, hb, hml, hown, hts⟩ (r0_X11_seen_92 l dC dI cyI cyZ cyO H.size h0 rz rf rl rwx rb rwd rk ra rs rt rwr rp rsi rke rkc rik ) (cwV 1 hts gX11_goOn_X11_seen rfl rfl rfl (by decide +kernel) ⟨Nat.le_of_ble_eq_true rfl, Nat.le_of_ble_eq_true rfl⟩) (yPreV hK hPc hDc (ci := 11) (q0 := 0) rfl rfl) rfl rfl hl.1 rfl (lv_room (Nat.le_of_ble_eq_true rfl)) dX11_goOn_15 ⟨Nat.le_of_ble_eq_true rfl, Nat.le_of_ble_eq_true rfl⟩) hP hD hS hA rfl rfl (by decide) (by decide) (fun r_26 u_25 H locs hw hP hD hS => ?_)
  have hP : va_P (dC, dI) vwCl [(rs, .inl (cyI, 15, .inl yR)), (rt, .inl (cyI, 15, .inl yR)), (h0, .inr (11, [.ref rz, .int 0, .int 0, .ref rf, .ref rl, .ref rwx, .ref rb, .int 0, .ref rwd, .ref rk, .ref ra, .int 0, .int 32, .int 0, .ref rs, .ref rt, .int 0, .int 0, .ref rwr, .ref rp, .ref rsi, .ref rke, .ref rkc, .ref rik])), (rz, .inl (cyI, 2490, .inl (yz 0 0)))] H := hP
  have hD : va_D A [(rs, .inl (cyI, 15, .inl yR)), (rt, .inl (cyI, 15, .inl yR)), (h0, .inr (11, [.ref rz, .int 0, .int 0, .ref rf, .ref rl, .ref rwx, .ref rb, .int 0, .ref rwd, .ref rk, .ref ra, .int 0, .int 32, .int 0, .ref rs, .ref rt, .int 0, .int 0, .ref rwr, .ref rp, .ref rsi, .ref rke, .ref rkc, .ref rik])), (rz, .inl (cyI, 2490, .inl (yz 0 0)))] := hD
  refine W.widen (k := 0) (n := 0) (Nat.le_of_ble_eq_true rfl) (Nat.le_of_ble_eq_true rfl) ?_
  have hw : r_26 = 0 := hw
  subst hw
  refine yy_iast (f' := yR) hx hb hK hP hD hS 0 0 rfl rfl (yin (by decide)) dX11_goOn_18 (yid rfl) (fun H locs hP hD hS => ?_)
  have hP : va_P (dC, dI) vwCl [(rs, .inl (cyI, 15, .inl yR)), (rt, .inl (cyI, 15, .inl yR)), (h0, .inr (11, [.ref rz, .int 0, .int 0, .ref rf, .ref rl, .ref rwx, .ref rb, .int 0, .ref rwd, .ref rk, .ref ra, .int 0, .int 32, .int 0, .ref rs, .ref rt, .int 0, .int 0, .ref rwr, .ref rp, .ref rsi, .ref rke, .ref rkc, .ref rik])), (rz, .inl (cyI, 2490, .inl (yz 0 0)))] H := hP
  have hD : va_D A [(rs, .inl (cyI, 15, .inl yR)), (rt, .inl (cyI, 15, .inl yR)), (h0, .inr (11, [.ref rz, .int 0, .int 0, .ref rf, .ref rl, .ref rwx, .ref rb, .int 0, .ref rwd, .ref rk, .ref ra, .int 0, .int 32, .int 0, .ref rs, .ref rt, .int 0, .int 0, .ref rwr, .ref rp, .ref rsi, .ref rke, .ref rkc, .ref rik])), (rz, .inl (cyI, 2490, .inl (yz 0 0)))] := hD
  refine lv_aload_n hx hb dX11_goOn_19 rfl (lv_at hl 1 rfl) ?_
  refine va_get (D := (dC, dI)) (ci := 11) (v := .ref rt) (C := RX11) (T := TX11) (N := 24) hx hb hts hnX11 hown hK hP 2 rfl rfl 15 (by decide) hf42 (fun _ h9 => h9) rfl dX11_goOn_20 ?_
  refine lv_iload_n hx hb dX11_goOn_23 rfl (lv_at hl 0 rfl) ?_
  refine lv_aload_n hx hb dX11_goOn_24 rfl (lv_at hl 1 rfl) ?_
  refine va_get (D := (dC, dI)) (ci := 11) (v := .ref rz) (C := RX11) (T := TX11) (N := 24) hx hb hts hnX11 hown hK hP 2 rfl rfl 0 (by decide) hf7 (fun _ h9 => h9) rfl dX11_goOn_25 ?_
  refine lv_iload_n hx hb dX11_goOn_28 rfl (lv_at hl 0 rfl) ?_
  refine yy_iald (v := 0) hx hb hK hP 3 0 rfl rfl (yin (by decide)) dX11_goOn_29 rfl ?_
  refine yy_iast (f' := yR) hx hb hK hP hD hS 1 0 rfl rfl (yin (by decide)) dX11_goOn_30 (yid rfl) (fun H locs hP hD hS => ?_)
  have hP : va_P (dC, dI) vwCl [(rs, .inl (cyI, 15, .inl yR)), (rt, .inl (cyI, 15, .inl yR)), (h0, .inr (11, [.ref rz, .int 0, .int 0, .ref rf, .ref rl, .ref rwx, .ref rb, .int 0, .ref rwd, .ref rk, .ref ra, .int 0, .int 32, .int 0, .ref rs, .ref rt, .int 0, .int 0, .ref rwr, .ref rp, .ref rsi, .ref rke, .ref rkc, .ref rik])), (rz, .inl (cyI, 2490, .inl (yz 0 0)))] H := hP
  have hD : va_D A [(rs, .inl (cyI, 15, .inl yR)), (rt, .inl (cyI, 15, .inl yR)), (h0, .inr (11, [.ref rz, .int 0, .int 0, .ref rf, .ref rl, .ref rwx, .ref rb, .int 0, .ref rwd, .ref rk, .ref ra, .int 0, .int 32, .int 0, .ref rs, .ref rt, .int 0, .int 0, .ref rwr, .ref rp, .ref rsi, .ref rke, .ref rkc, .ref rik])), (rz, .inl (cyI, 2490, .inl (yz 0 0)))] := hD
  refine lv_iinc (v := 13) (lv' := [(1, .int 13), (0, .ref h0)]) hx hb dX11_goOn_31 hl (k := 0) rfl (by decide) (by decide) rfl (fun ls hl => ?_)
  refine lv_goto (tgt := 2) hx hb dX11_goOn_34 (by decide) ?_
  refine lv_iload_n hx hb dX11_goOn_2 rfl (lv_at hl 0 rfl) ?_
  refine lv_bipush (v := 15) hx hb dX11_goOn_3 (by decide) ?_
  refine lv_icmp_ge (tgt := 37) hx hb dX11_goOn_5 (by decide) (fun c => absurd c (by decide)) (fun _ => ?_)
  refine lv_aload_n hx hb dX11_goOn_8 rfl (lv_at hl 1 rfl) ?_
  refine va_get (D := (dC, dI)) (ci := 11) (v := .ref rs) (C := RX11) (T := TX11) (N := 24) hx hb hts hnX11 hown hK hP 2 rfl rfl 14 (by decide) hf39 (fun _ h9 => h9) rfl dX11_goOn_9 ?_
  refine lv_iload_n hx hb dX11_goOn_12 rfl (lv_at hl 0 rfl) ?_
  refine lv_aload_n hx hb dX11_goOn_13 rfl (lv_at hl 1 rfl) ?_
  refine lv_iload_n hx hb dX11_goOn_14 rfl (lv_at hl 0 rfl) ?_
  have hPc := hP.sub (ws' := [(h0, .inr (11, [.ref rz, .int 0, .int 0, .ref rf, .ref rl, .ref rwx, .ref rb, .int 0, .ref rwd, .ref rk, .ref ra, .int 0, .int 32, .int 0, .ref rs, .ref rt, .int 0, .int 0, .ref rwr, .ref rp, .ref rsi, .ref rke, .ref rkc, .ref rik])), (rz, .inl (cyI, 2490, .inl (yz 0 0)))]) [2, 3] rfl
  have hDc := hD.sub (ws' := [(h0, .inr (11, [.ref rz, .int 0, .int 0, .ref rf, .ref rl, .ref rwx, .ref rb, .int 0, .ref rwd, .ref rk, .ref ra, .int 0, .int 32, .int 0, .ref rs, .ref rt, .int 0, .int 0, .ref rwr, .ref rp, .ref rsi, .ref rke, .ref rkc, .ref rik])), (rz, .inl (cyI, 2490, .inl (yz 0 0)))]) [2, 3] (by decide) rfl
  refine yy_calli [2, 3] [0, 1] (wr := [(rs, .inl (cyI, 15, .inl yR)), (rt, .inl (cyI, 15, .inl yR))]) (va_runV (As := [.int 13]) (rest := [.int 13, .ref rs]) ⟨hx, hb, hml, hown, hts⟩ (r0_X11_seen_93 l dC dI cyI cyZ cyO H.size h0 rz rf rl rwx rb rwd rk ra rs rt rwr rp rsi rke rkc rik ) (cwV 1 hts gX11_goOn_X11_seen rfl rfl rfl (by decide +kernel) ⟨Nat.le_of_ble_eq_true rfl, Nat.le_of_ble_eq_true rfl⟩) (yPreV hK hPc hDc (ci := 11) (q0 := 0) rfl rfl) rfl rfl hl.1 rfl (lv_room (Nat.le_of_ble_eq_true rfl)) dX11_goOn_15 ⟨Nat.le_of_ble_eq_true rfl, Nat.le_of_ble_eq_true rfl⟩) hP hD hS hA rfl rfl (by decide) (by decide) (fun r_28 u_27 H locs hw hP hD hS => ?_)
  have hP : va_P (dC, dI) vwCl [(rs, .inl (cyI, 15, .inl yR)), (rt, .inl (cyI, 15, .inl yR)), (h0, .inr (11, [.ref rz, .int 0, .int 0, .ref rf, .ref rl, .ref rwx, .ref rb, .int 0, .ref rwd, .ref rk, .ref ra, .int 0, .int 32, .int 0, .ref rs, .ref rt, .int 0, .int 0, .ref rwr, .ref rp, .ref rsi, .ref rke, .ref rkc, .ref rik])), (rz, .inl (cyI, 2490, .inl (yz 0 0)))] H := hP
  have hD : va_D A [(rs, .inl (cyI, 15, .inl yR)), (rt, .inl (cyI, 15, .inl yR)), (h0, .inr (11, [.ref rz, .int 0, .int 0, .ref rf, .ref rl, .ref rwx, .ref rb, .int 0, .ref rwd, .ref rk, .ref ra, .int 0, .int 32, .int 0, .ref rs, .ref rt, .int 0, .int 0, .ref rwr, .ref rp, .ref rsi, .ref rke, .ref rkc, .ref rik])), (rz, .inl (cyI, 2490, .inl (yz 0 0)))] := hD
  refine W.widen (k := 0) (n := 0) (Nat.le_of_ble_eq_true rfl) (Nat.le_of_ble_eq_true rfl) ?_
  have hw : r_28 = 0 := hw
  subst hw
  refine yy_iast (f' := yR) hx hb hK hP hD hS 0 0 rfl rfl (yin (by decide)) dX11_goOn_18 (yid rfl) (fun H locs hP hD hS => ?_)
  have hP : va_P (dC, dI) vwCl [(rs, .inl (cyI, 15, .inl yR)), (rt, .inl (cyI, 15, .inl yR)), (h0, .inr (11, [.ref rz, .int 0, .int 0, .ref rf, .ref rl, .ref rwx, .ref rb, .int 0, .ref rwd, .ref rk, .ref ra, .int 0, .int 32, .int 0, .ref rs, .ref rt, .int 0, .int 0, .ref rwr, .ref rp, .ref rsi, .ref rke, .ref rkc, .ref rik])), (rz, .inl (cyI, 2490, .inl (yz 0 0)))] H := hP
  have hD : va_D A [(rs, .inl (cyI, 15, .inl yR)), (rt, .inl (cyI, 15, .inl yR)), (h0, .inr (11, [.ref rz, .int 0, .int 0, .ref rf, .ref rl, .ref rwx, .ref rb, .int 0, .ref rwd, .ref rk, .ref ra, .int 0, .int 32, .int 0, .ref rs, .ref rt, .int 0, .int 0, .ref rwr, .ref rp, .ref rsi, .ref rke, .ref rkc, .ref rik])), (rz, .inl (cyI, 2490, .inl (yz 0 0)))] := hD
  refine lv_aload_n hx hb dX11_goOn_19 rfl (lv_at hl 1 rfl) ?_
  refine va_get (D := (dC, dI)) (ci := 11) (v := .ref rt) (C := RX11) (T := TX11) (N := 24) hx hb hts hnX11 hown hK hP 2 rfl rfl 15 (by decide) hf42 (fun _ h9 => h9) rfl dX11_goOn_20 ?_
  refine lv_iload_n hx hb dX11_goOn_23 rfl (lv_at hl 0 rfl) ?_
  refine lv_aload_n hx hb dX11_goOn_24 rfl (lv_at hl 1 rfl) ?_
  refine va_get (D := (dC, dI)) (ci := 11) (v := .ref rz) (C := RX11) (T := TX11) (N := 24) hx hb hts hnX11 hown hK hP 2 rfl rfl 0 (by decide) hf7 (fun _ h9 => h9) rfl dX11_goOn_25 ?_
  refine lv_iload_n hx hb dX11_goOn_28 rfl (lv_at hl 0 rfl) ?_
  refine yy_iald (v := 0) hx hb hK hP 3 0 rfl rfl (yin (by decide)) dX11_goOn_29 rfl ?_
  refine yy_iast (f' := yR) hx hb hK hP hD hS 1 0 rfl rfl (yin (by decide)) dX11_goOn_30 (yid rfl) (fun H locs hP hD hS => ?_)
  have hP : va_P (dC, dI) vwCl [(rs, .inl (cyI, 15, .inl yR)), (rt, .inl (cyI, 15, .inl yR)), (h0, .inr (11, [.ref rz, .int 0, .int 0, .ref rf, .ref rl, .ref rwx, .ref rb, .int 0, .ref rwd, .ref rk, .ref ra, .int 0, .int 32, .int 0, .ref rs, .ref rt, .int 0, .int 0, .ref rwr, .ref rp, .ref rsi, .ref rke, .ref rkc, .ref rik])), (rz, .inl (cyI, 2490, .inl (yz 0 0)))] H := hP
  have hD : va_D A [(rs, .inl (cyI, 15, .inl yR)), (rt, .inl (cyI, 15, .inl yR)), (h0, .inr (11, [.ref rz, .int 0, .int 0, .ref rf, .ref rl, .ref rwx, .ref rb, .int 0, .ref rwd, .ref rk, .ref ra, .int 0, .int 32, .int 0, .ref rs, .ref rt, .int 0, .int 0, .ref rwr, .ref rp, .ref rsi, .ref rke, .ref rkc, .ref rik])), (rz, .inl (cyI, 2490, .inl (yz 0 0)))] := hD
  refine lv_iinc (v := 14) (lv' := [(1, .int 14), (0, .ref h0)]) hx hb dX11_goOn_31 hl (k := 0) rfl (by decide) (by decide) rfl (fun ls hl => ?_)
  refine lv_goto (tgt := 2) hx hb dX11_goOn_34 (by decide) ?_
  refine lv_iload_n hx hb dX11_goOn_2 rfl (lv_at hl 0 rfl) ?_
  refine lv_bipush (v := 15) hx hb dX11_goOn_3 (by decide) ?_
  refine lv_icmp_ge (tgt := 37) hx hb dX11_goOn_5 (by decide) (fun c => absurd c (by decide)) (fun _ => ?_)
  refine lv_aload_n hx hb dX11_goOn_8 rfl (lv_at hl 1 rfl) ?_
  refine va_get (D := (dC, dI)) (ci := 11) (v := .ref rs) (C := RX11) (T := TX11) (N := 24) hx hb hts hnX11 hown hK hP 2 rfl rfl 14 (by decide) hf39 (fun _ h9 => h9) rfl dX11_goOn_9 ?_
  refine lv_iload_n hx hb dX11_goOn_12 rfl (lv_at hl 0 rfl) ?_
  refine lv_aload_n hx hb dX11_goOn_13 rfl (lv_at hl 1 rfl) ?_
  refine lv_iload_n hx hb dX11_goOn_14 rfl (lv_at hl 0 rfl) ?_
  have hPc := hP.sub (ws' := [(h0, .inr (11, [.ref rz, .int 0, .int 0, .ref rf, .ref rl, .ref rwx, .ref rb, .int 0, .ref rwd, .ref rk, .ref ra, .int 0, .int 32, .int 0, .ref rs, .ref rt, .int 0, .int 0, .ref rwr, .ref rp, .ref rsi, .ref rke, .ref rkc, .ref rik])), (rz, .inl (cyI, 2490, .inl (yz 0 0)))]) [2, 3] rfl
  have hDc := hD.sub (ws' := [(h0, .inr (11, [.ref rz, .int 0, .int 0, .ref rf, .ref rl, .ref rwx, .ref rb, .int 0, .ref rwd, .ref rk, .ref ra, .int 0, .int 32, .int 0, .ref rs, .ref rt, .int 0, .int 0, .ref rwr, .ref rp, .ref rsi, .ref rke, .ref rkc, .ref rik])), (rz, .inl (cyI, 2490, .inl (yz 0 0)))]) [2, 3] (by decide) rfl
  refine yy_calli [2, 3] [0, 1] (wr := [(rs, .inl (cyI, 15, .inl yR)), (rt, .inl (cyI, 15, .inl yR))]) (va_runV (As := [.int 14]) (rest := [.int 14, .ref rs]) ⟨hx, hb, hml, hown, hts⟩ (r0_X11_seen_94 l dC dI cyI cyZ cyO H.size h0 rz rf rl rwx rb rwd rk ra rs rt rwr rp rsi rke rkc rik ) (cwV 1 hts gX11_goOn_X11_seen rfl rfl rfl (by decide +kernel) ⟨Nat.le_of_ble_eq_true rfl, Nat.le_of_ble_eq_true rfl⟩) (yPreV hK hPc hDc (ci := 11) (q0 := 0) rfl rfl) rfl rfl hl.1 rfl (lv_room (Nat.le_of_ble_eq_true rfl)) dX11_goOn_15 ⟨Nat.le_of_ble_eq_true rfl, Nat.le_of_ble_eq_true rfl⟩) hP hD hS hA rfl rfl (by decide) (by decide) (fun r_30 u_29 H locs hw hP hD hS => ?_)
  have hP : va_P (dC, dI) vwCl [(rs, .inl (cyI, 15, .inl yR)), (rt, .inl (cyI, 15, .inl yR)), (h0, .inr (11, [.ref rz, .int 0, .int 0, .ref rf, .ref rl, .ref rwx, .ref rb, .int 0, .ref rwd, .ref rk, .ref ra, .int 0, .int 32, .int 0, .ref rs, .ref rt, .int 0, .int 0, .ref rwr, .ref rp, .ref rsi, .ref rke, .ref rkc, .ref rik])), (rz, .inl (cyI, 2490, .inl (yz 0 0)))] H := hP
  have hD : va_D A [(rs, .inl (cyI, 15, .inl yR)), (rt, .inl (cyI, 15, .inl yR)), (h0, .inr (11, [.ref rz, .int 0, .int 0, .ref rf, .ref rl, .ref rwx, .ref rb, .int 0, .ref rwd, .ref rk, .ref ra, .int 0, .int 32, .int 0, .ref rs, .ref rt, .int 0, .int 0, .ref rwr, .ref rp, .ref rsi, .ref rke, .ref rkc, .ref rik])), (rz, .inl (cyI, 2490, .inl (yz 0 0)))] := hD
  refine W.widen (k := 0) (n := 0) (Nat.le_of_ble_eq_true rfl) (Nat.le_of_ble_eq_true rfl) ?_
  have hw : r_30 = 0 := hw
  subst hw
  refine yy_iast (f' := yR) hx hb hK hP hD hS 0 0 rfl rfl (yin (by decide)) dX11_goOn_18 (yid rfl) (fun H locs hP hD hS => ?_)
  have hP : va_P (dC, dI) vwCl [(rs, .inl (cyI, 15, .inl yR)), (rt, .inl (cyI, 15, .inl yR)), (h0, .inr (11, [.ref rz, .int 0, .int 0, .ref rf, .ref rl, .ref rwx, .ref rb, .int 0, .ref rwd, .ref rk, .ref ra, .int 0, .int 32, .int 0, .ref rs, .ref rt, .int 0, .int 0, .ref rwr, .ref rp, .ref rsi, .ref rke, .ref rkc, .ref rik])), (rz, .inl (cyI, 2490, .inl (yz 0 0)))] H := hP
  have hD : va_D A [(rs, .inl (cyI, 15, .inl yR)), (rt, .inl (cyI, 15, .inl yR)), (h0, .inr (11, [.ref rz, .int 0, .int 0, .ref rf, .ref rl, .ref rwx, .ref rb, .int 0, .ref rwd, .ref rk, .ref ra, .int 0, .int 32, .int 0, .ref rs, .ref rt, .int 0, .int 0, .ref rwr, .ref rp, .ref rsi, .ref rke, .ref rkc, .ref rik])), (rz, .inl (cyI, 2490, .inl (yz 0 0)))] := hD
  refine lv_aload_n hx hb dX11_goOn_19 rfl (lv_at hl 1 rfl) ?_
  refine va_get (D := (dC, dI)) (ci := 11) (v := .ref rt) (C := RX11) (T := TX11) (N := 24) hx hb hts hnX11 hown hK hP 2 rfl rfl 15 (by decide) hf42 (fun _ h9 => h9) rfl dX11_goOn_20 ?_
  refine lv_iload_n hx hb dX11_goOn_23 rfl (lv_at hl 0 rfl) ?_
  refine lv_aload_n hx hb dX11_goOn_24 rfl (lv_at hl 1 rfl) ?_
  refine va_get (D := (dC, dI)) (ci := 11) (v := .ref rz) (C := RX11) (T := TX11) (N := 24) hx hb hts hnX11 hown hK hP 2 rfl rfl 0 (by decide) hf7 (fun _ h9 => h9) rfl dX11_goOn_25 ?_
  refine lv_iload_n hx hb dX11_goOn_28 rfl (lv_at hl 0 rfl) ?_
  refine yy_iald (v := 0) hx hb hK hP 3 0 rfl rfl (yin (by decide)) dX11_goOn_29 rfl ?_
  refine yy_iast (f' := yR) hx hb hK hP hD hS 1 0 rfl rfl (yin (by decide)) dX11_goOn_30 (yid rfl) (fun H locs hP hD hS => ?_)
  have hP : va_P (dC, dI) vwCl [(rs, .inl (cyI, 15, .inl yR)), (rt, .inl (cyI, 15, .inl yR)), (h0, .inr (11, [.ref rz, .int 0, .int 0, .ref rf, .ref rl, .ref rwx, .ref rb, .int 0, .ref rwd, .ref rk, .ref ra, .int 0, .int 32, .int 0, .ref rs, .ref rt, .int 0, .int 0, .ref rwr, .ref rp, .ref rsi, .ref rke, .ref rkc, .ref rik])), (rz, .inl (cyI, 2490, .inl (yz 0 0)))] H := hP
  have hD : va_D A [(rs, .inl (cyI, 15, .inl yR)), (rt, .inl (cyI, 15, .inl yR)), (h0, .inr (11, [.ref rz, .int 0, .int 0, .ref rf, .ref rl, .ref rwx, .ref rb, .int 0, .ref rwd, .ref rk, .ref ra, .int 0, .int 32, .int 0, .ref rs, .ref rt, .int 0, .int 0, .ref rwr, .ref rp, .ref rsi, .ref rke, .ref rkc, .ref rik])), (rz, .inl (cyI, 2490, .inl (yz 0 0)))] := hD
  refine lv_iinc (v := 15) (lv' := [(1, .int 15), (0, .ref h0)]) hx hb dX11_goOn_31 hl (k := 0) rfl (by decide) (by decide) rfl (fun ls hl => ?_)
  refine lv_goto (tgt := 2) hx hb dX11_goOn_34 (by decide) ?_
  refine lv_iload_n hx hb dX11_goOn_2 rfl (lv_at hl 0 rfl) ?_
  refine lv_bipush (v := 15) hx hb dX11_goOn_3 (by decide) ?_
  refine lv_icmp_ge (tgt := 37) hx hb dX11_goOn_5 (by decide) (fun _ => ?_) (fun c => absurd (by decide) c)
  refine lv_aload_n hx hb dX11_goOn_37 rfl (lv_at hl 1 rfl) ?_
  have hPc := hP.sub (ws' := [(h0, .inr (11, [.ref rz, .int 0, .int 0, .ref rf, .ref rl, .ref rwx, .ref rb, .int 0, .ref rwd, .ref rk, .ref ra, .int 0, .int 32, .int 0, .ref rs, .ref rt, .int 0, .int 0, .ref rwr, .ref rp, .ref rsi, .ref rke, .ref rkc, .ref rik])), (rz, .inl (cyI, 2490, .inl (yz 0 0))), (rs, .inl (cyI, 15, .inl yR))]) [2, 3, 0] rfl
  have hDc := hD.sub (ws' := [(h0, .inr (11, [.ref rz, .int 0, .int 0, .ref rf, .ref rl, .ref rwx, .ref rb, .int 0, .ref rwd, .ref rk, .ref ra, .int 0, .int 32, .int 0, .ref rs, .ref rt, .int 0, .int 0, .ref rwr, .ref rp, .ref rsi, .ref rke, .ref rkc, .ref rik])), (rz, .inl (cyI, 2490, .inl (yz 0 0))), (rs, .inl (cyI, 15, .inl yR))]) [2, 3, 0] (by decide) rfl
  refine yy_callv [2, 3, 0] [1] (wr := [(rt, .inl (cyI, 15, .inl yR))]) (va_runV (As := []) (rest := []) ⟨hx, hb, hml, hown, hts⟩ (r0_X11_judge_112 l dC dI cyI cyZ cyO H.size h0 rz rf rl rwx rb rwd rk ra rs rt rwr rp rsi rke rkc rik ) (cwV 0 hts gX11_goOn_X11_judge rfl rfl rfl (by decide +kernel) ⟨Nat.le_of_ble_eq_true rfl, Nat.le_of_ble_eq_true rfl⟩) (yPreV hK hPc hDc (ci := 11) (q0 := 0) rfl rfl) rfl rfl hl.1 rfl (lv_room (Nat.le_of_ble_eq_true rfl)) dX11_goOn_38 ⟨Nat.le_of_ble_eq_true rfl, Nat.le_of_ble_eq_true rfl⟩) hP hD hS hA rfl rfl (by decide) (by decide) (fun u_31 H locs hw hP hD hS => ?_)
  have hP : va_P (dC, dI) vwCl [(rt, .inl (cyI, 15, .inl yR)), (h0, .inr (11, [.ref rz, .int 0, .int 0, .ref rf, .ref rl, .ref rwx, .ref rb, .int 0, .ref rwd, .ref rk, .ref ra, .int 0, .int 32, .int 0, .ref rs, .ref rt, .int 0, .int 0, .ref rwr, .ref rp, .ref rsi, .ref rke, .ref rkc, .ref rik])), (rz, .inl (cyI, 2490, .inl (yz 0 0))), (rs, .inl (cyI, 15, .inl yR))] H := hP
  have hD : va_D A [(rt, .inl (cyI, 15, .inl yR)), (h0, .inr (11, [.ref rz, .int 0, .int 0, .ref rf, .ref rl, .ref rwx, .ref rb, .int 0, .ref rwd, .ref rk, .ref ra, .int 0, .int 32, .int 0, .ref rs, .ref rt, .int 0, .int 0, .ref rwr, .ref rp, .ref rsi, .ref rke, .ref rkc, .ref rik])), (rz, .inl (cyI, 2490, .inl (yz 0 0))), (rs, .inl (cyI, 15, .inl yR))] := hD
  refine W.widen (k := 0) (n := 0) (Nat.le_of_ble_eq_true rfl) (Nat.le_of_ble_eq_true rfl) ?_
  refine lv_aload_n hx hb dX11_goOn_41 rfl (lv_at hl 1 rfl) ?_
  have hPc := hP.sub (ws' := [(h0, .inr (11, [.ref rz, .int 0, .int 0, .ref rf, .ref rl, .ref rwx, .ref rb, .int 0, .ref rwd, .ref rk, .ref ra, .int 0, .int 32, .int 0, .ref rs, .ref rt, .int 0, .int 0, .ref rwr, .ref rp, .ref rsi, .ref rke, .ref rkc, .ref rik])), (rz, .inl (cyI, 2490, .inl (yz 0 0))), (rs, .inl (cyI, 15, .inl yR)), (rt, .inl (cyI, 15, .inl yR))]) [1, 2, 3, 0] rfl
  have hDc := hD.sub (ws' := [(h0, .inr (11, [.ref rz, .int 0, .int 0, .ref rf, .ref rl, .ref rwx, .ref rb, .int 0, .ref rwd, .ref rk, .ref ra, .int 0, .int 32, .int 0, .ref rs, .ref rt, .int 0, .int 0, .ref rwr, .ref rp, .ref rsi, .ref rke, .ref rkc, .ref rik])), (rz, .inl (cyI, 2490, .inl (yz 0 0))), (rs, .inl (cyI, 15, .inl yR)), (rt, .inl (cyI, 15, .inl yR))]) [1, 2, 3, 0] (by decide) rfl
  refine yy_callv [1, 2, 3, 0] [] (wr := []) (va_runV (As := []) (rest := []) ⟨hx, hb, hml, hown, hts⟩ (r0_X11_master_114 l dC dI cyI cyZ cyO H.size h0 rz rf rl rwx rb rwd rk ra rs rt rwr rp rsi rke rkc rik ) (cwV 0 hts gX11_goOn_X11_master rfl rfl rfl (by decide +kernel) ⟨Nat.le_of_ble_eq_true rfl, Nat.le_of_ble_eq_true rfl⟩) (yPreV hK hPc hDc (ci := 11) (q0 := 0) rfl rfl) rfl rfl hl.1 rfl (lv_room (Nat.le_of_ble_eq_true rfl)) dX11_goOn_42 ⟨Nat.le_of_ble_eq_true rfl, Nat.le_of_ble_eq_true rfl⟩) hP hD hS hA rfl rfl (by decide) (by decide) (fun u_32 H locs hw hP hD hS => ?_)
  have hP : va_P (dC, dI) vwCl [(h0, .inr (11, [.ref rz, .int 0, .int 0, .ref rf, .ref rl, .ref rwx, .ref rb, .int 0, .ref rwd, .ref rk, .ref ra, .int 0, .int 32, .int 0, .ref rs, .ref rt, .int 0, .int 0, .ref rwr, .ref rp, .ref rsi, .ref rke, .ref rkc, .ref rik])), (rz, .inl (cyI, 2490, .inl (yz 0 0))), (rs, .inl (cyI, 15, .inl yR)), (rt, .inl (cyI, 15, .inl yR))] H := hP
  have hD : va_D A [(h0, .inr (11, [.ref rz, .int 0, .int 0, .ref rf, .ref rl, .ref rwx, .ref rb, .int 0, .ref rwd, .ref rk, .ref ra, .int 0, .int 32, .int 0, .ref rs, .ref rt, .int 0, .int 0, .ref rwr, .ref rp, .ref rsi, .ref rke, .ref rkc, .ref rik])), (rz, .inl (cyI, 2490, .inl (yz 0 0))), (rs, .inl (cyI, 15, .inl yR)), (rt, .inl (cyI, 15, .inl yR))] := hD
  refine W.widen (k := 0) (n := 0) (Nat.le_of_ble_eq_true rfl) (Nat.le_of_ble_eq_true rfl) ?_
  refine lv_aload_n hx hb dX11_goOn_45 rfl (lv_at hl 1 rfl) ?_
  have hPc := hP.sub (ws' := [(h0, .inr (11, [.ref rz, .int 0, .int 0, .ref rf, .ref rl, .ref rwx, .ref rb, .int 0, .ref rwd, .ref rk, .ref ra, .int 0, .int 32, .int 0, .ref rs, .ref rt, .int 0, .int 0, .ref rwr, .ref rp, .ref rsi, .ref rke, .ref rkc, .ref rik])), (rz, .inl (cyI, 2490, .inl (yz 0 0)))]) [0, 1] rfl
  have hDc := hD.sub (ws' := [(h0, .inr (11, [.ref rz, .int 0, .int 0, .ref rf, .ref rl, .ref rwx, .ref rb, .int 0, .ref rwd, .ref rk, .ref ra, .int 0, .int 32, .int 0, .ref rs, .ref rt, .int 0, .int 0, .ref rwr, .ref rp, .ref rsi, .ref rke, .ref rkc, .ref rik])), (rz, .inl (cyI, 2490, .inl (yz 0 0)))]) [0, 1] (by decide) rfl
  refine yy_callv [0, 1] [2, 3] (wr := [(rs, .inl (cyI, 15, .inl yR)), (rt, .inl (cyI, 15, .inl yR))]) (va_runV (As := []) (rest := []) ⟨hx, hb, hml, hown, hts⟩ (r0_X11_lower_115 l dC dI cyI cyZ cyO H.size h0 rz rf rl rwx rb rwd rk ra rs rt rwr rp rsi rke rkc rik ) (cwV 0 hts gX11_goOn_X11_lower rfl rfl rfl (by decide +kernel) ⟨Nat.le_of_ble_eq_true rfl, Nat.le_of_ble_eq_true rfl⟩) (yPreV hK hPc hDc (ci := 11) (q0 := 0) rfl rfl) rfl rfl hl.1 rfl (lv_room (Nat.le_of_ble_eq_true rfl)) dX11_goOn_46 ⟨Nat.le_of_ble_eq_true rfl, Nat.le_of_ble_eq_true rfl⟩) hP hD hS hA rfl rfl (by decide) (by decide) (fun u_33 H locs hw hP hD hS => ?_)
  have hP : va_P (dC, dI) vwCl [(rs, .inl (cyI, 15, .inl yR)), (rt, .inl (cyI, 15, .inl yR)), (h0, .inr (11, [.ref rz, .int 0, .int 0, .ref rf, .ref rl, .ref rwx, .ref rb, .int 0, .ref rwd, .ref rk, .ref ra, .int 0, .int 32, .int 0, .ref rs, .ref rt, .int 0, .int 0, .ref rwr, .ref rp, .ref rsi, .ref rke, .ref rkc, .ref rik])), (rz, .inl (cyI, 2490, .inl (yz 0 0)))] H := hP
  have hD : va_D A [(rs, .inl (cyI, 15, .inl yR)), (rt, .inl (cyI, 15, .inl yR)), (h0, .inr (11, [.ref rz, .int 0, .int 0, .ref rf, .ref rl, .ref rwx, .ref rb, .int 0, .ref rwd, .ref rk, .ref ra, .int 0, .int 32, .int 0, .ref rs, .ref rt, .int 0, .int 0, .ref rwr, .ref rp, .ref rsi, .ref rke, .ref rkc, .ref rik])), (rz, .inl (cyI, 2490, .inl (yz 0 0)))] := hD
  refine W.widen (k := 0) (n := 0) (Nat.le_of_ble_eq_true rfl) (Nat.le_of_ble_eq_true rfl) ?_
  refine lv_aload_n hx hb dX11_goOn_49 rfl (lv_at hl 1 rfl) ?_
  have hPc := hP.sub (ws' := [(h0, .inr (11, [.ref rz, .int 0, .int 0, .ref rf, .ref rl, .ref rwx, .ref rb, .int 0, .ref rwd, .ref rk, .ref ra, .int 0, .int 32, .int 0, .ref rs, .ref rt, .int 0, .int 0, .ref rwr, .ref rp, .ref rsi, .ref rke, .ref rkc, .ref rik])), (rz, .inl (cyI, 2490, .inl (yz 0 0))), (rs, .inl (cyI, 15, .inl yR)), (rt, .inl (cyI, 15, .inl yR))]) [2, 3, 0, 1] rfl
  have hDc := hD.sub (ws' := [(h0, .inr (11, [.ref rz, .int 0, .int 0, .ref rf, .ref rl, .ref rwx, .ref rb, .int 0, .ref rwd, .ref rk, .ref ra, .int 0, .int 32, .int 0, .ref rs, .ref rt, .int 0, .int 0, .ref rwr, .ref rp, .ref rsi, .ref rke, .ref rkc, .ref rik])), (rz, .inl (cyI, 2490, .inl (yz 0 0))), (rs, .inl (cyI, 15, .inl yR)), (rt, .inl (cyI, 15, .inl yR))]) [2, 3, 0, 1] (by decide) rfl
  refine yy_callv [2, 3, 0, 1] [] (wr := []) (va_runV (As := []) (rest := []) ⟨hx, hb, hml, hown, hts⟩ (r0_X11_bridge_117 l dC dI cyI cyZ cyO H.size h0 rz rf rl rwx rb rwd rk ra rs rt rwr rp rsi rke rkc rik ) (cwV 0 hts gX11_goOn_X11_bridge rfl rfl rfl (by decide +kernel) ⟨Nat.le_of_ble_eq_true rfl, Nat.le_of_ble_eq_true rfl⟩) (yPreV hK hPc hDc (ci := 11) (q0 := 0) rfl rfl) rfl rfl hl.1 rfl (lv_room (Nat.le_of_ble_eq_true rfl)) dX11_goOn_50 ⟨Nat.le_of_ble_eq_true rfl, Nat.le_of_ble_eq_true rfl⟩) hP hD hS hA rfl rfl (by decide) (by decide) (fun u_34 H locs hw hP hD hS => ?_)
  have hP : va_P (dC, dI) vwCl [(h0, .inr (11, [.ref rz, .int 0, .int 0, .ref rf, .ref rl, .ref rwx, .ref rb, .int 0, .ref rwd, .ref rk, .ref ra, .int 0, .int 32, .int 0, .ref rs, .ref rt, .int 0, .int 0, .ref rwr, .ref rp, .ref rsi, .ref rke, .ref rkc, .ref rik])), (rz, .inl (cyI, 2490, .inl (yz 0 0))), (rs, .inl (cyI, 15, .inl yR)), (rt, .inl (cyI, 15, .inl yR))] H := hP
  have hD : va_D A [(h0, .inr (11, [.ref rz, .int 0, .int 0, .ref rf, .ref rl, .ref rwx, .ref rb, .int 0, .ref rwd, .ref rk, .ref ra, .int 0, .int 32, .int 0, .ref rs, .ref rt, .int 0, .int 0, .ref rwr, .ref rp, .ref rsi, .ref rke, .ref rkc, .ref rik])), (rz, .inl (cyI, 2490, .inl (yz 0 0))), (rs, .inl (cyI, 15, .inl yR)), (rt, .inl (cyI, 15, .inl yR))] := hD
  refine W.widen (k := 0) (n := 0) (Nat.le_of_ble_eq_true rfl) (Nat.le_of_ble_eq_true rfl) ?_
  refine lv_aload_n hx hb dX11_goOn_53 rfl (lv_at hl 1 rfl) ?_
  have hPc := hP.sub (ws' := [(h0, .inr (11, [.ref rz, .int 0, .int 0, .ref rf, .ref rl, .ref rwx, .ref rb, .int 0, .ref rwd, .ref rk, .ref ra, .int 0, .int 32, .int 0, .ref rs, .ref rt, .int 0, .int 0, .ref rwr, .ref rp, .ref rsi, .ref rke, .ref rkc, .ref rik])), (rz, .inl (cyI, 2490, .inl (yz 0 0)))]) [0, 1] rfl
  have hDc := hD.sub (ws' := [(h0, .inr (11, [.ref rz, .int 0, .int 0, .ref rf, .ref rl, .ref rwx, .ref rb, .int 0, .ref rwd, .ref rk, .ref ra, .int 0, .int 32, .int 0, .ref rs, .ref rt, .int 0, .int 0, .ref rwr, .ref rp, .ref rsi, .ref rke, .ref rkc, .ref rik])), (rz, .inl (cyI, 2490, .inl (yz 0 0)))]) [0, 1] (by decide) rfl
  refine yy_callv [0, 1] [2, 3] (wr := [(rs, .inl (cyI, 15, .inl yR)), (rt, .inl (cyI, 15, .inl yR))]) (va_runV (As := []) (rest := []) ⟨hx, hb, hml, hown, hts⟩ (r0_X11_act_118 l dC dI cyI cyZ cyO H.size h0 rz rf rl rwx rb rwd rk ra rs rt rwr rp rsi rke rkc rik ) (cwV 0 hts gX11_goOn_X11_act rfl rfl rfl (by decide +kernel) ⟨Nat.le_of_ble_eq_true rfl, Nat.le_of_ble_eq_true rfl⟩) (yPreV hK hPc hDc (ci := 11) (q0 := 0) rfl rfl) rfl rfl hl.1 rfl (lv_room (Nat.le_of_ble_eq_true rfl)) dX11_goOn_54 ⟨Nat.le_of_ble_eq_true rfl, Nat.le_of_ble_eq_true rfl⟩) hP hD hS hA rfl rfl (by decide) (by decide) (fun u_35 H locs hw hP hD hS => ?_)
  have hP : va_P (dC, dI) vwCl [(rs, .inl (cyI, 15, .inl yR)), (rt, .inl (cyI, 15, .inl yR)), (h0, .inr (11, [.ref rz, .int 0, .int 0, .ref rf, .ref rl, .ref rwx, .ref rb, .int 0, .ref rwd, .ref rk, .ref ra, .int 0, .int 32, .int 0, .ref rs, .ref rt, .int 0, .int 0, .ref rwr, .ref rp, .ref rsi, .ref rke, .ref rkc, .ref rik])), (rz, .inl (cyI, 2490, .inl (yz 0 0)))] H := hP
  have hD : va_D A [(rs, .inl (cyI, 15, .inl yR)), (rt, .inl (cyI, 15, .inl yR)), (h0, .inr (11, [.ref rz, .int 0, .int 0, .ref rf, .ref rl, .ref rwx, .ref rb, .int 0, .ref rwd, .ref rk, .ref ra, .int 0, .int 32, .int 0, .ref rs, .ref rt, .int 0, .int 0, .ref rwr, .ref rp, .ref rsi, .ref rke, .ref rkc, .ref rik])), (rz, .inl (cyI, 2490, .inl (yz 0 0)))] := hD
  refine W.widen (k := 0) (n := 0) (Nat.le_of_ble_eq_true rfl) (Nat.le_of_ble_eq_true rfl) ?_
  refine lv_aload_n hx hb dX11_goOn_57 rfl (lv_at hl 1 rfl) ?_
  have hPc := hP.sub (ws' := [(h0, .inr (11, [.ref rz, .int 0, .int 0, .ref rf, .ref rl, .ref rwx, .ref rb, .int 0, .ref rwd, .ref rk, .ref ra, .int 0, .int 32, .int 0, .ref rs, .ref rt, .int 0, .int 0, .ref rwr, .ref rp, .ref rsi, .ref rke, .ref rkc, .ref rik])), (rt, .inl (cyI, 15, .inl yR))]) [2, 1] rfl
  have hDc := hD.sub (ws' := [(h0, .inr (11, [.ref rz, .int 0, .int 0, .ref rf, .ref rl, .ref rwx, .ref rb, .int 0, .ref rwd, .ref rk, .ref ra, .int 0, .int 32, .int 0, .ref rs, .ref rt, .int 0, .int 0, .ref rwr, .ref rp, .ref rsi, .ref rke, .ref rkc, .ref rik])), (rt, .inl (cyI, 15, .inl yR))]) [2, 1] (by decide) rfl
  refine yy_callv [2, 1] [0, 3] (wr := [(rs, .inl (cyI, 15, .inl yR)), (rz, .inl (cyI, 2490, .inl (yz 0 0)))]) (va_runV (As := []) (rest := []) ⟨hx, hb, hml, hown, hts⟩ (r0_X11_slavesGo_119 l dC dI cyI cyZ cyO H.size h0 rz rf rl rwx rb rwd rk ra rs rt rwr rp rsi rke rkc rik ) (cwV 0 hts gX11_goOn_X11_slavesGo rfl rfl rfl (by decide +kernel) ⟨Nat.le_of_ble_eq_true rfl, Nat.le_of_ble_eq_true rfl⟩) (yPreV hK hPc hDc (ci := 11) (q0 := 0) rfl rfl) rfl rfl hl.1 rfl (lv_room (Nat.le_of_ble_eq_true rfl)) dX11_goOn_58 ⟨Nat.le_of_ble_eq_true rfl, Nat.le_of_ble_eq_true rfl⟩) hP hD hS hA rfl rfl (by decide) (by decide) (fun u_36 H locs hw hP hD hS => ?_)
  have hP : va_P (dC, dI) vwCl [(rs, .inl (cyI, 15, .inl yR)), (rz, .inl (cyI, 2490, .inl (yz 0 0))), (h0, .inr (11, [.ref rz, .int 0, .int 0, .ref rf, .ref rl, .ref rwx, .ref rb, .int 0, .ref rwd, .ref rk, .ref ra, .int 0, .int 32, .int 0, .ref rs, .ref rt, .int 0, .int 0, .ref rwr, .ref rp, .ref rsi, .ref rke, .ref rkc, .ref rik])), (rt, .inl (cyI, 15, .inl yR))] H := hP
  have hD : va_D A [(rs, .inl (cyI, 15, .inl yR)), (rz, .inl (cyI, 2490, .inl (yz 0 0))), (h0, .inr (11, [.ref rz, .int 0, .int 0, .ref rf, .ref rl, .ref rwx, .ref rb, .int 0, .ref rwd, .ref rk, .ref ra, .int 0, .int 32, .int 0, .ref rs, .ref rt, .int 0, .int 0, .ref rwr, .ref rp, .ref rsi, .ref rke, .ref rkc, .ref rik])), (rt, .inl (cyI, 15, .inl yR))] := hD
  refine W.widen (k := 0) (n := 0) (Nat.le_of_ble_eq_true rfl) (Nat.le_of_ble_eq_true rfl) ?_
  refine lv_iconst (v := 0) hx hb dX11_goOn_61 (by decide) ?_
  refine lv_istore_n (lv' := [(1, .int 0), (0, .ref h0)]) hx hb dX11_goOn_62 rfl hl (by decide) rfl (fun ls hl => ?_)
  refine lv_iload_n hx hb dX11_goOn_63 rfl (lv_at hl 0 rfl) ?_
  refine lv_bipush (v := 15) hx hb dX11_goOn_64 (by decide) ?_
  refine lv_icmp_ge (tgt := 102) hx hb dX11_goOn_66 (by decide) (fun c => absurd c (by decide)) (fun _ => ?_)
  refine lv_aload_n hx hb dX11_goOn_69 rfl (lv_at hl 1 rfl) ?_
  refine va_get (D := (dC, dI)) (ci := 11) (v := .ref rz) (C := RX11) (T := TX11) (N := 24) hx hb hts hnX11 hown hK hP 2 rfl rfl 0 (by decide) hf7 (fun _ h9 => h9) rfl dX11_goOn_70 ?_
  refine lv_bipush (v := 15) hx hb dX11_goOn_73 (by decide) ?_
  refine lv_iload_n hx hb dX11_goOn_75 rfl (lv_at hl 0 rfl) ?_
  refine lv_iadd hx hb dX11_goOn_76 ?_
  refine yy_int (v := 15) (by decide) ?_
  refine lv_aload_n hx hb dX11_goOn_77 rfl (lv_at hl 1 rfl) ?_
  refine va_get (D := (dC, dI)) (ci := 11) (v := .ref rs) (C := RX11) (T := TX11) (N := 24) hx hb hts hnX11 hown hK hP 2 rfl rfl 14 (by decide) hf39 (fun _ h9 => h9) rfl dX11_goOn_78 ?_
  refine lv_iload_n hx hb dX11_goOn_81 rfl (lv_at hl 0 rfl) ?_
  refine yy_iald (v := 0) hx hb hK hP 0 0 rfl rfl (yin (by decide)) dX11_goOn_82 rfl ?_
  refine yy_iast (f' := (yz 0 0)) hx hb hK hP hD hS 1 0 rfl rfl (yin (by decide)) dX11_goOn_83 (yid rfl) (fun H locs hP hD hS => ?_)
  have hP : va_P (dC, dI) vwCl [(rs, .inl (cyI, 15, .inl yR)), (rz, .inl (cyI, 2490, .inl (yz 0 0))), (h0, .inr (11, [.ref rz, .int 0, .int 0, .ref rf, .ref rl, .ref rwx, .ref rb, .int 0, .ref rwd, .ref rk, .ref ra, .int 0, .int 32, .int 0, .ref rs, .ref rt, .int 0, .int 0, .ref rwr, .ref rp, .ref rsi, .ref rke, .ref rkc, .ref rik])), (rt, .inl (cyI, 15, .inl yR))] H := hP
  have hD : va_D A [(rs, .inl (cyI, 15, .inl yR)), (rz, .inl (cyI, 2490, .inl (yz 0 0))), (h0, .inr (11, [.ref rz, .int 0, .int 0, .ref rf, .ref rl, .ref rwx, .ref rb, .int 0, .ref rwd, .ref rk, .ref ra, .int 0, .int 32, .int 0, .ref rs, .ref rt, .int 0, .int 0, .ref rwr, .ref rp, .ref rsi, .ref rke, .ref rkc, .ref rik])), (rt, .inl (cyI, 15, .inl yR))] := hD
  refine lv_aload_n hx hb dX11_goOn_84 rfl (lv_at hl 1 rfl) ?_
  refine va_get (D := (dC, dI)) (ci := 11) (v := .ref rz) (C := RX11) (T := TX11) (N := 24) hx hb hts hnX11 hown hK hP 2 rfl rfl 0 (by decide) hf7 (fun _ h9 => h9) rfl dX11_goOn_85 ?_
  refine lv_iload_n hx hb dX11_goOn_88 rfl (lv_at hl 0 rfl) ?_
  refine lv_aload_n hx hb dX11_goOn_89 rfl (lv_at hl 1 rfl) ?_
  refine va_get (D := (dC, dI)) (ci := 11) (v := .ref rt) (C := RX11) (T := TX11) (N := 24) hx hb hts hnX11 hown hK hP 2 rfl rfl 15 (by decide) hf42 (fun _ h9 => h9) rfl dX11_goOn_90 ?_
  refine lv_iload_n hx hb dX11_goOn_93 rfl (lv_at hl 0 rfl) ?_
  refine yy_iald (v := 0) hx hb hK hP 3 0 rfl rfl (yin (by decide)) dX11_goOn_94 rfl ?_
  refine yy_iast (f' := (yz 0 0)) hx hb hK hP hD hS 1 0 rfl rfl (yin (by decide)) dX11_goOn_95 (yid rfl) (fun H locs hP hD hS => ?_)
  have hP : va_P (dC, dI) vwCl [(rs, .inl (cyI, 15, .inl yR)), (rz, .inl (cyI, 2490, .inl (yz 0 0))), (h0, .inr (11, [.ref rz, .int 0, .int 0, .ref rf, .ref rl, .ref rwx, .ref rb, .int 0, .ref rwd, .ref rk, .ref ra, .int 0, .int 32, .int 0, .ref rs, .ref rt, .int 0, .int 0, .ref rwr, .ref rp, .ref rsi, .ref rke, .ref rkc, .ref rik])), (rt, .inl (cyI, 15, .inl yR))] H := hP
  have hD : va_D A [(rs, .inl (cyI, 15, .inl yR)), (rz, .inl (cyI, 2490, .inl (yz 0 0))), (h0, .inr (11, [.ref rz, .int 0, .int 0, .ref rf, .ref rl, .ref rwx, .ref rb, .int 0, .ref rwd, .ref rk, .ref ra, .int 0, .int 32, .int 0, .ref rs, .ref rt, .int 0, .int 0, .ref rwr, .ref rp, .ref rsi, .ref rke, .ref rkc, .ref rik])), (rt, .inl (cyI, 15, .inl yR))] := hD
  refine lv_iinc (v := 1) (lv' := [(1, .int 1), (0, .ref h0)]) hx hb dX11_goOn_96 hl (k := 0) rfl (by decide) (by decide) rfl (fun ls hl => ?_)
  refine lv_goto (tgt := 63) hx hb dX11_goOn_99 (by decide) ?_
  refine lv_iload_n hx hb dX11_goOn_63 rfl (lv_at hl 0 rfl) ?_
  refine lv_bipush (v := 15) hx hb dX11_goOn_64 (by decide) ?_
  refine lv_icmp_ge (tgt := 102) hx hb dX11_goOn_66 (by decide) (fun c => absurd c (by decide)) (fun _ => ?_)
  refine lv_aload_n hx hb dX11_goOn_69 rfl (lv_at hl 1 rfl) ?_
  refine va_get (D := (dC, dI)) (ci := 11) (v := .ref rz) (C := RX11) (T := TX11) (N := 24) hx hb hts hnX11 hown hK hP 2 rfl rfl 0 (by decide) hf7 (fun _ h9 => h9) rfl dX11_goOn_70 ?_
  refine lv_bipush (v := 15) hx hb dX11_goOn_73 (by decide) ?_
  refine lv_iload_n hx hb dX11_goOn_75 rfl (lv_at hl 0 rfl) ?_
  refine lv_iadd hx hb dX11_goOn_76 ?_
  refine yy_int (v := 16) (by decide) ?_
  refine lv_aload_n hx hb dX11_goOn_77 rfl (lv_at hl 1 rfl) ?_
  refine va_get (D := (dC, dI)) (ci := 11) (v := .ref rs) (C := RX11) (T := TX11) (N := 24) hx hb hts hnX11 hown hK hP 2 rfl rfl 14 (by decide) hf39 (fun _ h9 => h9) rfl dX11_goOn_78 ?_
  refine lv_iload_n hx hb dX11_goOn_81 rfl (lv_at hl 0 rfl) ?_
  refine yy_iald (v := 0) hx hb hK hP 0 0 rfl rfl (yin (by decide)) dX11_goOn_82 rfl ?_
  refine yy_iast (f' := (yz 0 0)) hx hb hK hP hD hS 1 0 rfl rfl (yin (by decide)) dX11_goOn_83 (yid rfl) (fun H locs hP hD hS => ?_)
  have hP : va_P (dC, dI) vwCl [(rs, .inl (cyI, 15, .inl yR)), (rz, .inl (cyI, 2490, .inl (yz 0 0))), (h0, .inr (11, [.ref rz, .int 0, .int 0, .ref rf, .ref rl, .ref rwx, .ref rb, .int 0, .ref rwd, .ref rk, .ref ra, .int 0, .int 32, .int 0, .ref rs, .ref rt, .int 0, .int 0, .ref rwr, .ref rp, .ref rsi, .ref rke, .ref rkc, .ref rik])), (rt, .inl (cyI, 15, .inl yR))] H := hP
  have hD : va_D A [(rs, .inl (cyI, 15, .inl yR)), (rz, .inl (cyI, 2490, .inl (yz 0 0))), (h0, .inr (11, [.ref rz, .int 0, .int 0, .ref rf, .ref rl, .ref rwx, .ref rb, .int 0, .ref rwd, .ref rk, .ref ra, .int 0, .int 32, .int 0, .ref rs, .ref rt, .int 0, .int 0, .ref rwr, .ref rp, .ref rsi, .ref rke, .ref rkc, .ref rik])), (rt, .inl (cyI, 15, .inl yR))] := hD
  refine lv_aload_n hx hb dX11_goOn_84 rfl (lv_at hl 1 rfl) ?_
  refine va_get (D := (dC, dI)) (ci := 11) (v := .ref rz) (C := RX11) (T := TX11) (N := 24) hx hb hts hnX11 hown hK hP 2 rfl rfl 0 (by decide) hf7 (fun _ h9 => h9) rfl dX11_goOn_85 ?_
  refine lv_iload_n hx hb dX11_goOn_88 rfl (lv_at hl 0 rfl) ?_
  refine lv_aload_n hx hb dX11_goOn_89 rfl (lv_at hl 1 rfl) ?_
  refine va_get (D := (dC, dI)) (ci := 11) (v := .ref rt) (C := RX11) (T := TX11) (N := 24) hx hb hts hnX11 hown hK hP 2 rfl rfl 15 (by decide) hf42 (fun _ h9 => h9) rfl dX11_goOn_90 ?_
  refine lv_iload_n hx hb dX11_goOn_93 rfl (lv_at hl 0 rfl) ?_
  refine yy_iald (v := 0) hx hb hK hP 3 0 rfl rfl (yin (by decide)) dX11_goOn_94 rfl ?_
  refine yy_iast (f' := (yz 0 0)) hx hb hK hP hD hS 1 0 rfl rfl (yin (by decide)) dX11_goOn_95 (yid rfl) (fun H locs hP hD hS => ?_)
  have hP : va_P (dC, dI) vwCl [(rs, .inl (cyI, 15, .inl yR)), (rz, .inl (cyI, 2490, .inl (yz 0 0))), (h0, .inr (11, [.ref rz, .int 0, .int 0, .ref rf, .ref rl, .ref rwx, .ref rb, .int 0, .ref rwd, .ref rk, .ref ra, .int 0, .int 32, .int 0, .ref rs, .ref rt, .int 0, .int 0, .ref rwr, .ref rp, .ref rsi, .ref rke, .ref rkc, .ref rik])), (rt, .inl (cyI, 15, .inl yR))] H := hP
  have hD : va_D A [(rs, .inl (cyI, 15, .inl yR)), (rz, .inl (cyI, 2490, .inl (yz 0 0))), (h0, .inr (11, [.ref rz, .int 0, .int 0, .ref rf, .ref rl, .ref rwx, .ref rb, .int 0, .ref rwd, .ref rk, .ref ra, .int 0, .int 32, .int 0, .ref rs, .ref rt, .int 0, .int 0, .ref rwr, .ref rp, .ref rsi, .ref rke, .ref rkc, .ref rik])), (rt, .inl (cyI, 15, .inl yR))] := hD
  refine lv_iinc (v := 2) (lv' := [(1, .int 2), (0, .ref h0)]) hx hb dX11_goOn_96 hl (k := 0) rfl (by decide) (by decide) rfl (fun ls hl => ?_)
  refine lv_goto (tgt := 63) hx hb dX11_goOn_99 (by decide) ?_
  refine lv_iload_n hx hb dX11_goOn_63 rfl (lv_at hl 0 rfl) ?_
  refine lv_bipush (v := 15) hx hb dX11_goOn_64 (by decide) ?_
  refine lv_icmp_ge (tgt := 102) hx hb dX11_goOn_66 (by decide) (fun c => absurd c (by decide)) (fun _ => ?_)
  refine lv_aload_n hx hb dX11_goOn_69 rfl (lv_at hl 1 rfl) ?_
  refine va_get (D := (dC, dI)) (ci := 11) (v := .ref rz) (C := RX11) (T := TX11) (N := 24) hx hb hts hnX11 hown hK hP 2 rfl rfl 0 (by decide) hf7 (fun _ h9 => h9) rfl dX11_goOn_70 ?_
  refine lv_bipush (v := 15) hx hb dX11_goOn_73 (by decide) ?_
  refine lv_iload_n hx hb dX11_goOn_75 rfl (lv_at hl 0 rfl) ?_
  refine lv_iadd hx hb dX11_goOn_76 ?_
  refine yy_int (v := 17) (by decide) ?_
  refine lv_aload_n hx hb dX11_goOn_77 rfl (lv_at hl 1 rfl) ?_
  refine va_get (D := (dC, dI)) (ci := 11) (v := .ref rs) (C := RX11) (T := TX11) (N := 24) hx hb hts hnX11 hown hK hP 2 rfl rfl 14 (by decide) hf39 (fun _ h9 => h9) rfl dX11_goOn_78 ?_
  refine lv_iload_n hx hb dX11_goOn_81 rfl (lv_at hl 0 rfl) ?_
  refine yy_iald (v := 0) hx hb hK hP 0 0 rfl rfl (yin (by decide)) dX11_goOn_82 rfl ?_
  refine yy_iast (f' := (yz 0 0)) hx hb hK hP hD hS 1 0 rfl rfl (yin (by decide)) dX11_goOn_83 (yid rfl) (fun H locs hP hD hS => ?_)
  have hP : va_P (dC, dI) vwCl [(rs, .inl (cyI, 15, .inl yR)), (rz, .inl (cyI, 2490, .inl (yz 0 0))), (h0, .inr (11, [.ref rz, .int 0, .int 0, .ref rf, .ref rl, .ref rwx, .ref rb, .int 0, .ref rwd, .ref rk, .ref ra, .int 0, .int 32, .int 0, .ref rs, .ref rt, .int 0, .int 0, .ref rwr, .ref rp, .ref rsi, .ref rke, .ref rkc, .ref rik])), (rt, .inl (cyI, 15, .inl yR))] H := hP
  have hD : va_D A [(rs, .inl (cyI, 15, .inl yR)), (rz, .inl (cyI, 2490, .inl (yz 0 0))), (h0, .inr (11, [.ref rz, .int 0, .int 0, .ref rf, .ref rl, .ref rwx, .ref rb, .int 0, .ref rwd, .ref rk, .ref ra, .int 0, .int 32, .int 0, .ref rs, .ref rt, .int 0, .int 0, .ref rwr, .ref rp, .ref rsi, .ref rke, .ref rkc, .ref rik])), (rt, .inl (cyI, 15, .inl yR))] := hD
  refine lv_aload_n hx hb dX11_goOn_84 rfl (lv_at hl 1 rfl) ?_
  refine va_get (D := (dC, dI)) (ci := 11) (v := .ref rz) (C := RX11) (T := TX11) (N := 24) hx hb hts hnX11 hown hK hP 2 rfl rfl 0 (by decide) hf7 (fun _ h9 => h9) rfl dX11_goOn_85 ?_
  refine lv_iload_n hx hb dX11_goOn_88 rfl (lv_at hl 0 rfl) ?_
  refine lv_aload_n hx hb dX11_goOn_89 rfl (lv_at hl 1 rfl) ?_
  refine va_get (D := (dC, dI)) (ci := 11) (v := .ref rt) (C := RX11) (T := TX11) (N := 24) hx hb hts hnX11 hown hK hP 2 rfl rfl 15 (by decide) hf42 (fun _ h9 => h9) rfl dX11_goOn_90 ?_
  refine lv_iload_n hx hb dX11_goOn_93 rfl (lv_at hl 0 rfl) ?_
  refine yy_iald (v := 0) hx hb hK hP 3 0 rfl rfl (yin (by decide)) dX11_goOn_94 rfl ?_
  refine yy_iast (f' := (yz 0 0)) hx hb hK hP hD hS 1 0 rfl rfl (yin (by decide)) dX11_goOn_95 (yid rfl) (fun H locs hP hD hS => ?_)
  have hP : va_P (dC, dI) vwCl [(rs, .inl (cyI, 15, .inl yR)), (rz, .inl (cyI, 2490, .inl (yz 0 0))), (h0, .inr (11, [.ref rz, .int 0, .int 0, .ref rf, .ref rl, .ref rwx, .ref rb, .int 0, .ref rwd, .ref rk, .ref ra, .int 0, .int 32, .int 0, .ref rs, .ref rt, .int 0, .int 0, .ref rwr, .ref rp, .ref rsi, .ref rke, .ref rkc, .ref rik])), (rt, .inl (cyI, 15, .inl yR))] H := hP
  have hD : va_D A [(rs, .inl (cyI, 15, .inl yR)), (rz, .inl (cyI, 2490, .inl (yz 0 0))), (h0, .inr (11, [.ref rz, .int 0, .int 0, .ref rf, .ref rl, .ref rwx, .ref rb, .int 0, .ref rwd, .ref rk, .ref ra, .int 0, .int 32, .int 0, .ref rs, .ref rt, .int 0, .int 0, .ref rwr, .ref rp, .ref rsi, .ref rke, .ref rkc, .ref rik])), (rt, .inl (cyI, 15, .inl yR))] := hD
  refine lv_iinc (v := 3) (lv' := [(1, .int 3), (0, .ref h0)]) hx hb dX11_goOn_96 hl (k := 0) rfl (by decide) (by decide) rfl (fun ls hl => ?_)
  refine lv_goto (tgt := 63) hx hb dX11_goOn_99 (by decide) ?_
  refine lv_iload_n hx hb dX11_goOn_63 rfl (lv_at hl 0 rfl) ?_
  refine lv_bipush (v := 15) hx hb dX11_goOn_64 (by decide) ?_
  refine lv_icmp_ge (tgt := 102) hx hb dX11_goOn_66 (by decide) (fun c => absurd c (by decide)) (fun _ => ?_)
  refine lv_aload_n hx hb dX11_goOn_69 rfl (lv_at hl 1 rfl) ?_
  refine va_get (D := (dC, dI)) (ci := 11) (v := .ref rz) (C := RX11) (T := TX11) (N := 24) hx hb hts hnX11 hown hK hP 2 rfl rfl 0 (by decide) hf7 (fun _ h9 => h9) rfl dX11_goOn_70 ?_
  refine lv_bipush (v := 15) hx hb dX11_goOn_73 (by decide) ?_
  refine lv_iload_n hx hb dX11_goOn_75 rfl (lv_at hl 0 rfl) ?_
  refine lv_iadd hx hb dX11_goOn_76 ?_
  refine yy_int (v := 18) (by decide) ?_
  refine lv_aload_n hx hb dX11_goOn_77 rfl (lv_at hl 1 rfl) ?_
  refine va_get (D := (dC, dI)) (ci := 11) (v := .ref rs) (C := RX11) (T := TX11) (N := 24) hx hb hts hnX11 hown hK hP 2 rfl rfl 14 (by decide) hf39 (fun _ h9 => h9) rfl dX11_goOn_78 ?_
  refine lv_iload_n hx hb dX11_goOn_81 rfl (lv_at hl 0 rfl) ?_
  refine yy_iald (v := 0) hx hb hK hP 0 0 rfl rfl (yin (by decide)) dX11_goOn_82 rfl ?_
  refine yy_iast (f' := (yz 0 0)) hx hb hK hP hD hS 1 0 rfl rfl (yin (by decide)) dX11_goOn_83 (yid rfl) (fun H locs hP hD hS => ?_)
  have hP : va_P (dC, dI) vwCl [(rs, .inl (cyI, 15, .inl yR)), (rz, .inl (cyI, 2490, .inl (yz 0 0))), (h0, .inr (11, [.ref rz, .int 0, .int 0, .ref rf, .ref rl, .ref rwx, .ref rb, .int 0, .ref rwd, .ref rk, .ref ra, .int 0, .int 32, .int 0, .ref rs, .ref rt, .int 0, .int 0, .ref rwr, .ref rp, .ref rsi, .ref rke, .ref rkc, .ref rik])), (rt, .inl (cyI, 15, .inl yR))] H := hP
  have hD : va_D A [(rs, .inl (cyI, 15, .inl yR)), (rz, .inl (cyI, 2490, .inl (yz 0 0))), (h0, .inr (11, [.ref rz, .int 0, .int 0, .ref rf, .ref rl, .ref rwx, .ref rb, .int 0, .ref rwd, .ref rk, .ref ra, .int 0, .int 32, .int 0, .ref rs, .ref rt, .int 0, .int 0, .ref rwr, .ref rp, .ref rsi, .ref rke, .ref rkc, .ref rik])), (rt, .inl (cyI, 15, .inl yR))] := hD
  refine lv_aload_n hx hb dX11_goOn_84 rfl (lv_at hl 1 rfl) ?_
  refine va_get (D := (dC, dI)) (ci := 11) (v := .ref rz) (C := RX11) (T := TX11) (N := 24) hx hb hts hnX11 hown hK hP 2 rfl rfl 0 (by decide) hf7 (fun _ h9 => h9) rfl dX11_goOn_85 ?_
  refine lv_iload_n hx hb dX11_goOn_88 rfl (lv_at hl 0 rfl) ?_
  refine lv_aload_n hx hb dX11_goOn_89 rfl (lv_at hl 1 rfl) ?_
  refine va_get (D := (dC, dI)) (ci := 11) (v := .ref rt) (C := RX11) (T := TX11) (N := 24) hx hb hts hnX11 hown hK hP 2 rfl rfl 15 (by decide) hf42 (fun _ h9 => h9) rfl dX11_goOn_90 ?_
  refine lv_iload_n hx hb dX11_goOn_93 rfl (lv_at hl 0 rfl) ?_
  refine yy_iald (v := 0) hx hb hK hP 3 0 rfl rfl (yin (by decide)) dX11_goOn_94 rfl ?_
  refine yy_iast (f' := (yz 0 0)) hx hb hK hP hD hS 1 0 rfl rfl (yin (by decide)) dX11_goOn_95 (yid rfl) (fun H locs hP hD hS => ?_)
  have hP : va_P (dC, dI) vwCl [(rs, .inl (cyI, 15, .inl yR)), (rz, .inl (cyI, 2490, .inl (yz 0 0))), (h0, .inr (11, [.ref rz, .int 0, .int 0, .ref rf, .ref rl, .ref rwx, .ref rb, .int 0, .ref rwd, .ref rk, .ref ra, .int 0, .int 32, .int 0, .ref rs, .ref rt, .int 0, .int 0, .ref rwr, .ref rp, .ref rsi, .ref rke, .ref rkc, .ref rik])), (rt, .inl (cyI, 15, .inl yR))] H := hP
  have hD : va_D A [(rs, .inl (cyI, 15, .inl yR)), (rz, .inl (cyI, 2490, .inl (yz 0 0))), (h0, .inr (11, [.ref rz, .int 0, .int 0, .ref rf, .ref rl, .ref rwx, .ref rb, .int 0, .ref rwd, .ref rk, .ref ra, .int 0, .int 32, .int 0, .ref rs, .ref rt, .int 0, .int 0, .ref rwr, .ref rp, .ref rsi, .ref rke, .ref rkc, .ref rik])), (rt, .inl (cyI, 15, .inl yR))] := hD
  refine lv_iinc (v := 4) (lv' := [(1, .int 4), (0, .ref h0)]) hx hb dX11_goOn_96 hl (k := 0) rfl (by decide) (by decide) rfl (fun ls hl => ?_)
  refine lv_goto (tgt := 63) hx hb dX11_goOn_99 (by decide) ?_
  refine lv_iload_n hx hb dX11_goOn_63 rfl (lv_at hl 0 rfl) ?_
  refine lv_bipush (v := 15) hx hb dX11_goOn_64 (by decide) ?_
  refine lv_icmp_ge (tgt := 102) hx hb dX11_goOn_66 (by decide) (fun c => absurd c (by decide)) (fun _ => ?_)
  refine lv_aload_n hx hb dX11_goOn_69 rfl (lv_at hl 1 rfl) ?_
  refine va_get (D := (dC, dI)) (ci := 11) (v := .ref rz) (C := RX11) (T := TX11) (N := 24) hx hb hts hnX11 hown hK hP 2 rfl rfl 0 (by decide) hf7 (fun _ h9 => h9) rfl dX11_goOn_70 ?_
  refine lv_bipush (v := 15) hx hb dX11_goOn_73 (by decide) ?_
  refine lv_iload_n hx hb dX11_goOn_75 rfl (lv_at hl 0 rfl) ?_
  refine lv_iadd hx hb dX11_goOn_76 ?_
  refine yy_int (v := 19) (by decide) ?_
  refine lv_aload_n hx hb dX11_goOn_77 rfl (lv_at hl 1 rfl) ?_
  refine va_get (D := (dC, dI)) (ci := 11) (v := .ref rs) (C := RX11) (T := TX11) (N := 24) hx hb hts hnX11 hown hK hP 2 rfl rfl 14 (by decide) hf39 (fun _ h9 => h9) rfl dX11_goOn_78 ?_
  refine lv_iload_n hx hb dX11_goOn_81 rfl (lv_at hl 0 rfl) ?_
  refine yy_iald (v := 1) hx hb hK hP 0 0 rfl rfl (yin (by decide)) dX11_goOn_82 rfl ?_
  refine yy_iast (f' := (yz 0 1)) hx hb hK hP hD hS 1 0 rfl rfl (yin (by decide)) dX11_goOn_83 yz_b (fun H locs hP hD hS => ?_)
  have hP : va_P (dC, dI) vwCl [(rs, .inl (cyI, 15, .inl yR)), (rz, .inl (cyI, 2490, .inl (yz 0 1))), (h0, .inr (11, [.ref rz, .int 0, .int 0, .ref rf, .ref rl, .ref rwx, .ref rb, .int 0, .ref rwd, .ref rk, .ref ra, .int 0, .int 32, .int 0, .ref rs, .ref rt, .int 0, .int 0, .ref rwr, .ref rp, .ref rsi, .ref rke, .ref rkc, .ref rik])), (rt, .inl (cyI, 15, .inl yR))] H := hP
  have hD : va_D A [(rs, .inl (cyI, 15, .inl yR)), (rz, .inl (cyI, 2490, .inl (yz 0 1))), (h0, .inr (11, [.ref rz, .int 0, .int 0, .ref rf, .ref rl, .ref rwx, .ref rb, .int 0, .ref rwd, .ref rk, .ref ra, .int 0, .int 32, .int 0, .ref rs, .ref rt, .int 0, .int 0, .ref rwr, .ref rp, .ref rsi, .ref rke, .ref rkc, .ref rik])), (rt, .inl (cyI, 15, .inl yR))] := hD
  refine lv_aload_n hx hb dX11_goOn_84 rfl (lv_at hl 1 rfl) ?_
  refine va_get (D := (dC, dI)) (ci := 11) (v := .ref rz) (C := RX11) (T := TX11) (N := 24) hx hb hts hnX11 hown hK hP 2 rfl rfl 0 (by decide) hf7 (fun _ h9 => h9) rfl dX11_goOn_85 ?_
  refine lv_iload_n hx hb dX11_goOn_88 rfl (lv_at hl 0 rfl) ?_
  refine lv_aload_n hx hb dX11_goOn_89 rfl (lv_at hl 1 rfl) ?_
  refine va_get (D := (dC, dI)) (ci := 11) (v := .ref rt) (C := RX11) (T := TX11) (N := 24) hx hb hts hnX11 hown hK hP 2 rfl rfl 15 (by decide) hf42 (fun _ h9 => h9) rfl dX11_goOn_90 ?_
  refine lv_iload_n hx hb dX11_goOn_93 rfl (lv_at hl 0 rfl) ?_
  refine yy_iald (v := 1) hx hb hK hP 3 0 rfl rfl (yin (by decide)) dX11_goOn_94 rfl ?_
  refine yy_iast (f' := (yz 0 1)) hx hb hK hP hD hS 1 0 rfl rfl (yin (by decide)) dX11_goOn_95 (yid rfl) (fun H locs hP hD hS => ?_)
  have hP : va_P (dC, dI) vwCl [(rs, .inl (cyI, 15, .inl yR)), (rz, .inl (cyI, 2490, .inl (yz 0 1))), (h0, .inr (11, [.ref rz, .int 0, .int 0, .ref rf, .ref rl, .ref rwx, .ref rb, .int 0, .ref rwd, .ref rk, .ref ra, .int 0, .int 32, .int 0, .ref rs, .ref rt, .int 0, .int 0, .ref rwr, .ref rp, .ref rsi, .ref rke, .ref rkc, .ref rik])), (rt, .inl (cyI, 15, .inl yR))] H := hP
  have hD : va_D A [(rs, .inl (cyI, 15, .inl yR)), (rz, .inl (cyI, 2490, .inl (yz 0 1))), (h0, .inr (11, [.ref rz, .int 0, .int 0, .ref rf, .ref rl, .ref rwx, .ref rb, .int 0, .ref rwd, .ref rk, .ref ra, .int 0, .int 32, .int 0, .ref rs, .ref rt, .int 0, .int 0, .ref rwr, .ref rp, .ref rsi, .ref rke, .ref rkc, .ref rik])), (rt, .inl (cyI, 15, .inl yR))] := hD
  refine lv_iinc (v := 5) (lv' := [(1, .int 5), (0, .ref h0)]) hx hb dX11_goOn_96 hl (k := 0) rfl (by decide) (by decide) rfl (fun ls hl => ?_)
  refine lv_goto (tgt := 63) hx hb dX11_goOn_99 (by decide) ?_
  refine lv_iload_n hx hb dX11_goOn_63 rfl (lv_at hl 0 rfl) ?_
  refine lv_bipush (v := 15) hx hb dX11_goOn_64 (by decide) ?_
  refine lv_icmp_ge (tgt := 102) hx hb dX11_goOn_66 (by decide) (fun c => absurd c (by decide)) (fun _ => ?_)
  refine lv_aload_n hx hb dX11_goOn_69 rfl (lv_at hl 1 rfl) ?_
  refine va_get (D := (dC, dI)) (ci := 11) (v := .ref rz) (C := RX11) (T := TX11) (N := 24) hx hb hts hnX11 hown hK hP 2 rfl rfl 0 (by decide) hf7 (fun _ h9 => h9) rfl dX11_goOn_70 ?_
  refine lv_bipush (v := 15) hx hb dX11_goOn_73 (by decide) ?_
  refine lv_iload_n hx hb dX11_goOn_75 rfl (lv_at hl 0 rfl) ?_
  refine lv_iadd hx hb dX11_goOn_76 ?_
  refine yy_int (v := 20) (by decide) ?_
  refine lv_aload_n hx hb dX11_goOn_77 rfl (lv_at hl 1 rfl) ?_
  refine va_get (D := (dC, dI)) (ci := 11) (v := .ref rs) (C := RX11) (T := TX11) (N := 24) hx hb hts hnX11 hown hK hP 2 rfl rfl 14 (by decide) hf39 (fun _ h9 => h9) rfl dX11_goOn_78 ?_
  refine lv_iload_n hx hb dX11_goOn_81 rfl (lv_at hl 0 rfl) ?_
  refine yy_iald (v := 0) hx hb hK hP 0 0 rfl rfl (yin (by decide)) dX11_goOn_82 rfl ?_
  refine yy_iast (f' := (yz 0 1)) hx hb hK hP hD hS 1 0 rfl rfl (yin (by decide)) dX11_goOn_83 (yid rfl) (fun H locs hP hD hS => ?_)
  have hP : va_P (dC, dI) vwCl [(rs, .inl (cyI, 15, .inl yR)), (rz, .inl (cyI, 2490, .inl (yz 0 1))), (h0, .inr (11, [.ref rz, .int 0, .int 0, .ref rf, .ref rl, .ref rwx, .ref rb, .int 0, .ref rwd, .ref rk, .ref ra, .int 0, .int 32, .int 0, .ref rs, .ref rt, .int 0, .int 0, .ref rwr, .ref rp, .ref rsi, .ref rke, .ref rkc, .ref rik])), (rt, .inl (cyI, 15, .inl yR))] H := hP
  have hD : va_D A [(rs, .inl (cyI, 15, .inl yR)), (rz, .inl (cyI, 2490, .inl (yz 0 1))), (h0, .inr (11, [.ref rz, .int 0, .int 0, .ref rf, .ref rl, .ref rwx, .ref rb, .int 0, .ref rwd, .ref rk, .ref ra, .int 0, .int 32, .int 0, .ref rs, .ref rt, .int 0, .int 0, .ref rwr, .ref rp, .ref rsi, .ref rke, .ref rkc, .ref rik])), (rt, .inl (cyI, 15, .inl yR))] := hD
  refine lv_aload_n hx hb dX11_goOn_84 rfl (lv_at hl 1 rfl) ?_
  refine va_get (D := (dC, dI)) (ci := 11) (v := .ref rz) (C := RX11) (T := TX11) (N := 24) hx hb hts hnX11 hown hK hP 2 rfl rfl 0 (by decide) hf7 (fun _ h9 => h9) rfl dX11_goOn_85 ?_
  refine lv_iload_n hx hb dX11_goOn_88 rfl (lv_at hl 0 rfl) ?_
  refine lv_aload_n hx hb dX11_goOn_89 rfl (lv_at hl 1 rfl) ?_
  refine va_get (D := (dC, dI)) (ci := 11) (v := .ref rt) (C := RX11) (T := TX11) (N := 24) hx hb hts hnX11 hown hK hP 2 rfl rfl 15 (by decide) hf42 (fun _ h9 => h9) rfl dX11_goOn_90 ?_
  refine lv_iload_n hx hb dX11_goOn_93 rfl (lv_at hl 0 rfl) ?_
  refine yy_iald (v := 0) hx hb hK hP 3 0 rfl rfl (yin (by decide)) dX11_goOn_94 rfl ?_
  refine yy_iast (f' := (yz 0 1)) hx hb hK hP hD hS 1 0 rfl rfl (yin (by decide)) dX11_goOn_95 (yid rfl) (fun H locs hP hD hS => ?_)
  have hP : va_P (dC, dI) vwCl [(rs, .inl (cyI, 15, .inl yR)), (rz, .inl (cyI, 2490, .inl (yz 0 1))), (h0, .inr (11, [.ref rz, .int 0, .int 0, .ref rf, .ref rl, .ref rwx, .ref rb, .int 0, .ref rwd, .ref rk, .ref ra, .int 0, .int 32, .int 0, .ref rs, .ref rt, .int 0, .int 0, .ref rwr, .ref rp, .ref rsi, .ref rke, .ref rkc, .ref rik])), (rt, .inl (cyI, 15, .inl yR))] H := hP
  have hD : va_D A [(rs, .inl (cyI, 15, .inl yR)), (rz, .inl (cyI, 2490, .inl (yz 0 1))), (h0, .inr (11, [.ref rz, .int 0, .int 0, .ref rf, .ref rl, .ref rwx, .ref rb, .int 0, .ref rwd, .ref rk, .ref ra, .int 0, .int 32, .int 0, .ref rs, .ref rt, .int 0, .int 0, .ref rwr, .ref rp, .ref rsi, .ref rke, .ref rkc, .ref rik])), (rt, .inl (cyI, 15, .inl yR))] := hD
  refine lv_iinc (v := 6) (lv' := [(1, .int 6), (0, .ref h0)]) hx hb dX11_goOn_96 hl (k := 0) rfl (by decide) (by decide) rfl (fun ls hl => ?_)
  refine lv_goto (tgt := 63) hx hb dX11_goOn_99 (by decide) ?_
  refine lv_iload_n hx hb dX11_goOn_63 rfl (lv_at hl 0 rfl) ?_
  refine lv_bipush (v := 15) hx hb dX11_goOn_64 (by decide) ?_
  refine lv_icmp_ge (tgt := 102) hx hb dX11_goOn_66 (by decide) (fun c => absurd c (by decide)) (fun _ => ?_)
  refine lv_aload_n hx hb dX11_goOn_69 rfl (lv_at hl 1 rfl) ?_
  refine va_get (D := (dC, dI)) (ci := 11) (v := .ref rz) (C := RX11) (T := TX11) (N := 24) hx hb hts hnX11 hown hK hP 2 rfl rfl 0 (by decide) hf7 (fun _ h9 => h9) rfl dX11_goOn_70 ?_
  refine lv_bipush (v := 15) hx hb dX11_goOn_73 (by decide) ?_
  refine lv_iload_n hx hb dX11_goOn_75 rfl (lv_at hl 0 rfl) ?_
  refine lv_iadd hx hb dX11_goOn_76 ?_
  refine yy_int (v := 21) (by decide) ?_
  refine lv_aload_n hx hb dX11_goOn_77 rfl (lv_at hl 1 rfl) ?_
  refine va_get (D := (dC, dI)) (ci := 11) (v := .ref rs) (C := RX11) (T := TX11) (N := 24) hx hb hts hnX11 hown hK hP 2 rfl rfl 14 (by decide) hf39 (fun _ h9 => h9) rfl dX11_goOn_78 ?_
  refine lv_iload_n hx hb dX11_goOn_81 rfl (lv_at hl 0 rfl) ?_
  refine yy_iald (v := 0) hx hb hK hP 0 0 rfl rfl (yin (by decide)) dX11_goOn_82 rfl ?_
  refine yy_iast (f' := (yz 0 1)) hx hb hK hP hD hS 1 0 rfl rfl (yin (by decide)) dX11_goOn_83 (yid rfl) (fun H locs hP hD hS => ?_)
  have hP : va_P (dC, dI) vwCl [(rs, .inl (cyI, 15, .inl yR)), (rz, .inl (cyI, 2490, .inl (yz 0 1))), (h0, .inr (11, [.ref rz, .int 0, .int 0, .ref rf, .ref rl, .ref rwx, .ref rb, .int 0, .ref rwd, .ref rk, .ref ra, .int 0, .int 32, .int 0, .ref rs, .ref rt, .int 0, .int 0, .ref rwr, .ref rp, .ref rsi, .ref rke, .ref rkc, .ref rik])), (rt, .inl (cyI, 15, .inl yR))] H := hP
  have hD : va_D A [(rs, .inl (cyI, 15, .inl yR)), (rz, .inl (cyI, 2490, .inl (yz 0 1))), (h0, .inr (11, [.ref rz, .int 0, .int 0, .ref rf, .ref rl, .ref rwx, .ref rb, .int 0, .ref rwd, .ref rk, .ref ra, .int 0, .int 32, .int 0, .ref rs, .ref rt, .int 0, .int 0, .ref rwr, .ref rp, .ref rsi, .ref rke, .ref rkc, .ref rik])), (rt, .inl (cyI, 15, .inl yR))] := hD
  refine lv_aload_n hx hb dX11_goOn_84 rfl (lv_at hl 1 rfl) ?_
  refine va_get (D := (dC, dI)) (ci := 11) (v := .ref rz) (C := RX11) (T := TX11) (N := 24) hx hb hts hnX11 hown hK hP 2 rfl rfl 0 (by decide) hf7 (fun _ h9 => h9) rfl dX11_goOn_85 ?_
  refine lv_iload_n hx hb dX11_goOn_88 rfl (lv_at hl 0 rfl) ?_
  refine lv_aload_n hx hb dX11_goOn_89 rfl (lv_at hl 1 rfl) ?_
  refine va_get (D := (dC, dI)) (ci := 11) (v := .ref rt) (C := RX11) (T := TX11) (N := 24) hx hb hts hnX11 hown hK hP 2 rfl rfl 15 (by decide) hf42 (fun _ h9 => h9) rfl dX11_goOn_90 ?_
  refine lv_iload_n hx hb dX11_goOn_93 rfl (lv_at hl 0 rfl) ?_
  refine yy_iald (v := 0) hx hb hK hP 3 0 rfl rfl (yin (by decide)) dX11_goOn_94 rfl ?_
  refine yy_iast (f' := (yz 0 1)) hx hb hK hP hD hS 1 0 rfl rfl (yin (by decide)) dX11_goOn_95 (yid rfl) (fun H locs hP hD hS => ?_)
  have hP : va_P (dC, dI) vwCl [(rs, .inl (cyI, 15, .inl yR)), (rz, .inl (cyI, 2490, .inl (yz 0 1))), (h0, .inr (11, [.ref rz, .int 0, .int 0, .ref rf, .ref rl, .ref rwx, .ref rb, .int 0, .ref rwd, .ref rk, .ref ra, .int 0, .int 32, .int 0, .ref rs, .ref rt, .int 0, .int 0, .ref rwr, .ref rp, .ref rsi, .ref rke, .ref rkc, .ref rik])), (rt, .inl (cyI, 15, .inl yR))] H := hP
  have hD : va_D A [(rs, .inl (cyI, 15, .inl yR)), (rz, .inl (cyI, 2490, .inl (yz 0 1))), (h0, .inr (11, [.ref rz, .int 0, .int 0, .ref rf, .ref rl, .ref rwx, .ref rb, .int 0, .ref rwd, .ref rk, .ref ra, .int 0, .int 32, .int 0, .ref rs, .ref rt, .int 0, .int 0, .ref rwr, .ref rp, .ref rsi, .ref rke, .ref rkc, .ref rik])), (rt, .inl (cyI, 15, .inl yR))] := hD
  refine lv_iinc (v := 7) (lv' := [(1, .int 7), (0, .ref h0)]) hx hb dX11_goOn_96 hl (k := 0) rfl (by decide) (by decide) rfl (fun ls hl => ?_)
  refine lv_goto (tgt := 63) hx hb dX11_goOn_99 (by decide) ?_
  refine lv_iload_n hx hb dX11_goOn_63 rfl (lv_at hl 0 rfl) ?_
  refine lv_bipush (v := 15) hx hb dX11_goOn_64 (by decide) ?_
  refine lv_icmp_ge (tgt := 102) hx hb dX11_goOn_66 (by decide) (fun c => absurd c (by decide)) (fun _ => ?_)
  refine lv_aload_n hx hb dX11_goOn_69 rfl (lv_at hl 1 rfl) ?_
  refine va_get (D := (dC, dI)) (ci := 11) (v := .ref rz) (C := RX11) (T := TX11) (N := 24) hx hb hts hnX11 hown hK hP 2 rfl rfl 0 (by decide) hf7 (fun _ h9 => h9) rfl dX11_goOn_70 ?_
  refine lv_bipush (v := 15) hx hb dX11_goOn_73 (by decide) ?_
  refine lv_iload_n hx hb dX11_goOn_75 rfl (lv_at hl 0 rfl) ?_
  refine lv_iadd hx hb dX11_goOn_76 ?_
  refine yy_int (v := 22) (by decide) ?_
  refine lv_aload_n hx hb dX11_goOn_77 rfl (lv_at hl 1 rfl) ?_
  refine va_get (D := (dC, dI)) (ci := 11) (v := .ref rs) (C := RX11) (T := TX11) (N := 24) hx hb hts hnX11 hown hK hP 2 rfl rfl 14 (by decide) hf39 (fun _ h9 => h9) rfl dX11_goOn_78 ?_
  refine lv_iload_n hx hb dX11_goOn_81 rfl (lv_at hl 0 rfl) ?_
  refine yy_iald (v := 0) hx hb hK hP 0 0 rfl rfl (yin (by decide)) dX11_goOn_82 rfl ?_
  refine yy_iast (f' := (yz 0 1)) hx hb hK hP hD hS 1 0 rfl rfl (yin (by decide)) dX11_goOn_83 (yid rfl) (fun H locs hP hD hS => ?_)
  have hP : va_P (dC, dI) vwCl [(rs, .inl (cyI, 15, .inl yR)), (rz, .inl (cyI, 2490, .inl (yz 0 1))), (h0, .inr (11, [.ref rz, .int 0, .int 0, .ref rf, .ref rl, .ref rwx, .ref rb, .int 0, .ref rwd, .ref rk, .ref ra, .int 0, .int 32, .int 0, .ref rs, .ref rt, .int 0, .int 0, .ref rwr, .ref rp, .ref rsi, .ref rke, .ref rkc, .ref rik])), (rt, .inl (cyI, 15, .inl yR))] H := hP
  have hD : va_D A [(rs, .inl (cyI, 15, .inl yR)), (rz, .inl (cyI, 2490, .inl (yz 0 1))), (h0, .inr (11, [.ref rz, .int 0, .int 0, .ref rf, .ref rl, .ref rwx, .ref rb, .int 0, .ref rwd, .ref rk, .ref ra, .int 0, .int 32, .int 0, .ref rs, .ref rt, .int 0, .int 0, .ref rwr, .ref rp, .ref rsi, .ref rke, .ref rkc, .ref rik])), (rt, .inl (cyI, 15, .inl yR))] := hD
  refine lv_aload_n hx hb dX11_goOn_84 rfl (lv_at hl 1 rfl) ?_
  refine va_get (D := (dC, dI)) (ci := 11) (v := .ref rz) (C := RX11) (T := TX11) (N := 24) hx hb hts hnX11 hown hK hP 2 rfl rfl 0 (by decide) hf7 (fun _ h9 => h9) rfl dX11_goOn_85 ?_
  refine lv_iload_n hx hb dX11_goOn_88 rfl (lv_at hl 0 rfl) ?_
  refine lv_aload_n hx hb dX11_goOn_89 rfl (lv_at hl 1 rfl) ?_
  refine va_get (D := (dC, dI)) (ci := 11) (v := .ref rt) (C := RX11) (T := TX11) (N := 24) hx hb hts hnX11 hown hK hP 2 rfl rfl 15 (by decide) hf42 (fun _ h9 => h9) rfl dX11_goOn_90 ?_
  refine lv_iload_n hx hb dX11_goOn_93 rfl (lv_at hl 0 rfl) ?_
  refine yy_iald (v := 0) hx hb hK hP 3 0 rfl rfl (yin (by decide)) dX11_goOn_94 rfl ?_
  refine yy_iast (f' := (yz 0 1)) hx hb hK hP hD hS 1 0 rfl rfl (yin (by decide)) dX11_goOn_95 (yid rfl) (fun H locs hP hD hS => ?_)
  have hP : va_P (dC, dI) vwCl [(rs, .inl (cyI, 15, .inl yR)), (rz, .inl (cyI, 2490, .inl (yz 0 1))), (h0, .inr (11, [.ref rz, .int 0, .int 0, .ref rf, .ref rl, .ref rwx, .ref rb, .int 0, .ref rwd, .ref rk, .ref ra, .int 0, .int 32, .int 0, .ref rs, .ref rt, .int 0, .int 0, .ref rwr, .ref rp, .ref rsi, .ref rke, .ref rkc, .ref rik])), (rt, .inl (cyI, 15, .inl yR))] H := hP
  have hD : va_D A [(rs, .inl (cyI, 15, .inl yR)), (rz, .inl (cyI, 2490, .inl (yz 0 1))), (h0, .inr (11, [.ref rz, .int 0, .int 0, .ref rf, .ref rl, .ref rwx, .ref rb, .int 0, .ref rwd, .ref rk, .ref ra, .int 0, .int 32, .int 0, .ref rs, .ref rt, .int 0, .int 0, .ref rwr, .ref rp, .ref rsi, .ref rke, .ref rkc, .ref rik])), (rt, .inl (cyI, 15, .inl yR))] := hD
  refine lv_iinc (v := 8) (lv' := [(1, .int 8), (0, .ref h0)]) hx hb dX11_goOn_96 hl (k := 0) rfl (by decide) (by decide) rfl (fun ls hl => ?_)
  refine lv_goto (tgt := 63) hx hb dX11_goOn_99 (by decide) ?_
  refine lv_iload_n hx hb dX11_goOn_63 rfl (lv_at hl 0 rfl) ?_
  refine lv_bipush (v := 15) hx hb dX11_goOn_64 (by decide) ?_
  refine lv_icmp_ge (tgt := 102) hx hb dX11_goOn_66 (by decide) (fun c => absurd c (by decide)) (fun _ => ?_)
  refine lv_aload_n hx hb dX11_goOn_69 rfl (lv_at hl 1 rfl) ?_
  refine va_get (D := (dC, dI)) (ci := 11) (v := .ref rz) (C := RX11) (T := TX11) (N := 24) hx hb hts hnX11 hown hK hP 2 rfl rfl 0 (by decide) hf7 (fun _ h9 => h9) rfl dX11_goOn_70 ?_
  refine lv_bipush (v := 15) hx hb dX11_goOn_73 (by decide) ?_
  refine lv_iload_n hx hb dX11_goOn_75 rfl (lv_at hl 0 rfl) ?_
  refine lv_iadd hx hb dX11_goOn_76 ?_
  refine yy_int (v := 23) (by decide) ?_
  refine lv_aload_n hx hb dX11_goOn_77 rfl (lv_at hl 1 rfl) ?_
  refine va_get (D := (dC, dI)) (ci := 11) (v := .ref rs) (C := RX11) (T := TX11) (N := 24) hx hb hts hnX11 hown hK hP 2 rfl rfl 14 (by decide) hf39 (fun _ h9 => h9) rfl dX11_goOn_78 ?_
  refine lv_iload_n hx hb dX11_goOn_81 rfl (lv_at hl 0 rfl) ?_
  refine yy_iald (v := 0) hx hb hK hP 0 0 rfl rfl (yin (by decide)) dX11_goOn_82 rfl ?_
  refine yy_iast (f' := (yz 0 1)) hx hb hK hP hD hS 1 0 rfl rfl (yin (by decide)) dX11_goOn_83 (yid rfl) (fun H locs hP hD hS => ?_)
  have hP : va_P (dC, dI) vwCl [(rs, .inl (cyI, 15, .inl yR)), (rz, .inl (cyI, 2490, .inl (yz 0 1))), (h0, .inr (11, [.ref rz, .int 0, .int 0, .ref rf, .ref rl, .ref rwx, .ref rb, .int 0, .ref rwd, .ref rk, .ref ra, .int 0, .int 32, .int 0, .ref rs, .ref rt, .int 0, .int 0, .ref rwr, .ref rp, .ref rsi, .ref rke, .ref rkc, .ref rik])), (rt, .inl (cyI, 15, .inl yR))] H := hP
  have hD : va_D A [(rs, .inl (cyI, 15, .inl yR)), (rz, .inl (cyI, 2490, .inl (yz 0 1))), (h0, .inr (11, [.ref rz, .int 0, .int 0, .ref rf, .ref rl, .ref rwx, .ref rb, .int 0, .ref rwd, .ref rk, .ref ra, .int 0, .int 32, .int 0, .ref rs, .ref rt, .int 0, .int 0, .ref rwr, .ref rp, .ref rsi, .ref rke, .ref rkc, .ref rik])), (rt, .inl (cyI, 15, .inl yR))] := hD
  refine lv_aload_n hx hb dX11_goOn_84 rfl (lv_at hl 1 rfl) ?_
  refine va_get (D := (dC, dI)) (ci := 11) (v := .ref rz) (C := RX11) (T := TX11) (N := 24) hx hb hts hnX11 hown hK hP 2 rfl rfl 0 (by decide) hf7 (fun _ h9 => h9) rfl dX11_goOn_85 ?_
  refine lv_iload_n hx hb dX11_goOn_88 rfl (lv_at hl 0 rfl) ?_
  refine lv_aload_n hx hb dX11_goOn_89 rfl (lv_at hl 1 rfl) ?_
  refine va_get (D := (dC, dI)) (ci := 11) (v := .ref rt) (C := RX11) (T := TX11) (N := 24) hx hb hts hnX11 hown hK hP 2 rfl rfl 15 (by decide) hf42 (fun _ h9 => h9) rfl dX11_goOn_90 ?_
  refine lv_iload_n hx hb dX11_goOn_93 rfl (lv_at hl 0 rfl) ?_
  refine yy_iald (v := 0) hx hb hK hP 3 0 rfl rfl (yin (by decide)) dX11_goOn_94 rfl ?_
  refine yy_iast (f' := (yz 0 1)) hx hb hK hP hD hS 1 0 rfl rfl (yin (by decide)) dX11_goOn_95 (yid rfl) (fun H locs hP hD hS => ?_)
  have hP : va_P (dC, dI) vwCl [(rs, .inl (cyI, 15, .inl yR)), (rz, .inl (cyI, 2490, .inl (yz 0 1))), (h0, .inr (11, [.ref rz, .int 0, .int 0, .ref rf, .ref rl, .ref rwx, .ref rb, .int 0, .ref rwd, .ref rk, .ref ra, .int 0, .int 32, .int 0, .ref rs, .ref rt, .int 0, .int 0, .ref rwr, .ref rp, .ref rsi, .ref rke, .ref rkc, .ref rik])), (rt, .inl (cyI, 15, .inl yR))] H := hP
  have hD : va_D A [(rs, .inl (cyI, 15, .inl yR)), (rz, .inl (cyI, 2490, .inl (yz 0 1))), (h0, .inr (11, [.ref rz, .int 0, .int 0, .ref rf, .ref rl, .ref rwx, .ref rb, .int 0, .ref rwd, .ref rk, .ref ra, .int 0, .int 32, .int 0, .ref rs, .ref rt, .int 0, .int 0, .ref rwr, .ref rp, .ref rsi, .ref rke, .ref rkc, .ref rik])), (rt, .inl (cyI, 15, .inl yR))] := hD
  refine lv_iinc (v := 9) (lv' := [(1, .int 9), (0, .ref h0)]) hx hb dX11_goOn_96 hl (k := 0) rfl (by decide) (by decide) rfl (fun ls hl => ?_)
  refine lv_goto (tgt := 63) hx hb dX11_goOn_99 (by decide) ?_
  refine lv_iload_n hx hb dX11_goOn_63 rfl (lv_at hl 0 rfl) ?_
  refine lv_bipush (v := 15) hx hb dX11_goOn_64 (by decide) ?_
  refine lv_icmp_ge (tgt := 102) hx hb dX11_goOn_66 (by decide) (fun c => absurd c (by decide)) (fun _ => ?_)
  refine lv_aload_n hx hb dX11_goOn_69 rfl (lv_at hl 1 rfl) ?_
  refine va_get (D := (dC, dI)) (ci := 11) (v := .ref rz) (C := RX11) (T := TX11) (N := 24) hx hb hts hnX11 hown hK hP 2 rfl rfl 0 (by decide) hf7 (fun _ h9 => h9) rfl dX11_goOn_70 ?_
  refine lv_bipush (v := 15) hx hb dX11_goOn_73 (by decide) ?_
  refine lv_iload_n hx hb dX11_goOn_75 rfl (lv_at hl 0 rfl) ?_
  refine lv_iadd hx hb dX11_goOn_76 ?_
  refine yy_int (v := 24) (by decide) ?_
  refine lv_aload_n hx hb dX11_goOn_77 rfl (lv_at hl 1 rfl) ?_
  refine va_get (D := (dC, dI)) (ci := 11) (v := .ref rs) (C := RX11) (T := TX11) (N := 24) hx hb hts hnX11 hown hK hP 2 rfl rfl 14 (by decide) hf39 (fun _ h9 => h9) rfl dX11_goOn_78 ?_
  refine lv_iload_n hx hb dX11_goOn_81 rfl (lv_at hl 0 rfl) ?_
  refine yy_iald (v := 0) hx hb hK hP 0 0 rfl rfl (yin (by decide)) dX11_goOn_82 rfl ?_
  refine yy_iast (f' := (yz 0 1)) hx hb hK hP hD hS 1 0 rfl rfl (yin (by decide)) dX11_goOn_83 (yid rfl) (fun H locs hP hD hS => ?_)
  have hP : va_P (dC, dI) vwCl [(rs, .inl (cyI, 15, .inl yR)), (rz, .inl (cyI, 2490, .inl (yz 0 1))), (h0, .inr (11, [.ref rz, .int 0, .int 0, .ref rf, .ref rl, .ref rwx, .ref rb, .int 0, .ref rwd, .ref rk, .ref ra, .int 0, .int 32, .int 0, .ref rs, .ref rt, .int 0, .int 0, .ref rwr, .ref rp, .ref rsi, .ref rke, .ref rkc, .ref rik])), (rt, .inl (cyI, 15, .inl yR))] H := hP
  have hD : va_D A [(rs, .inl (cyI, 15, .inl yR)), (rz, .inl (cyI, 2490, .inl (yz 0 1))), (h0, .inr (11, [.ref rz, .int 0, .int 0, .ref rf, .ref rl, .ref rwx, .ref rb, .int 0, .ref rwd, .ref rk, .ref ra, .int 0, .int 32, .int 0, .ref rs, .ref rt, .int 0, .int 0, .ref rwr, .ref rp, .ref rsi, .ref rke, .ref rkc, .ref rik])), (rt, .inl (cyI, 15, .inl yR))] := hD
  refine lv_aload_n hx hb dX11_goOn_84 rfl (lv_at hl 1 rfl) ?_
  refine va_get (D := (dC, dI)) (ci := 11) (v := .ref rz) (C := RX11) (T := TX11) (N := 24) hx hb hts hnX11 hown hK hP 2 rfl rfl 0 (by decide) hf7 (fun _ h9 => h9) rfl dX11_goOn_85 ?_
  refine lv_iload_n hx hb dX11_goOn_88 rfl (lv_at hl 0 rfl) ?_
  refine lv_aload_n hx hb dX11_goOn_89 rfl (lv_at hl 1 rfl) ?_
  refine va_get (D := (dC, dI)) (ci := 11) (v := .ref rt) (C := RX11) (T := TX11) (N := 24) hx hb hts hnX11 hown hK hP 2 rfl rfl 15 (by decide) hf42 (fun _ h9 => h9) rfl dX11_goOn_90 ?_
  refine lv_iload_n hx hb dX11_goOn_93 rfl (lv_at hl 0 rfl) ?_
  refine yy_iald (v := 0) hx hb hK hP 3 0 rfl rfl (yin (by decide)) dX11_goOn_94 rfl ?_
  refine yy_iast (f' := (yz 0 1)) hx hb hK hP hD hS 1 0 rfl rfl (yin (by decide)) dX11_goOn_95 (yid rfl) (fun H locs hP hD hS => ?_)
  have hP : va_P (dC, dI) vwCl [(rs, .inl (cyI, 15, .inl yR)), (rz, .inl (cyI, 2490, .inl (yz 0 1))), (h0, .inr (11, [.ref rz, .int 0, .int 0, .ref rf, .ref rl, .ref rwx, .ref rb, .int 0, .ref rwd, .ref rk, .ref ra, .int 0, .int 32, .int 0, .ref rs, .ref rt, .int 0, .int 0, .ref rwr, .ref rp, .ref rsi, .ref rke, .ref rkc, .ref rik])), (rt, .inl (cyI, 15, .inl yR))] H := hP
  have hD : va_D A [(rs, .inl (cyI, 15, .inl yR)), (rz, .inl (cyI, 2490, .inl (yz 0 1))), (h0, .inr (11, [.ref rz, .int 0, .int 0, .ref rf, .ref rl, .ref rwx, .ref rb, .int 0, .ref rwd, .ref rk, .ref ra, .int 0, .int 32, .int 0, .ref rs, .ref rt, .int 0, .int 0, .ref rwr, .ref rp, .ref rsi, .ref rke, .ref rkc, .ref rik])), (rt, .inl (cyI, 15, .inl yR))] := hD
  refine lv_iinc (v := 10) (lv' := [(1, .int 10), (0, .ref h0)]) hx hb dX11_goOn_96 hl (k := 0) rfl (by decide) (by decide) rfl (fun ls hl => ?_)
  refine lv_goto (tgt := 63) hx hb dX11_goOn_99 (by decide) ?_
  refine lv_iload_n hx hb dX11_goOn_63 rfl (lv_at hl 0 rfl) ?_
  refine lv_bipush (v := 15) hx hb dX11_goOn_64 (by decide) ?_
  refine lv_icmp_ge (tgt := 102) hx hb dX11_goOn_66 (by decide) (fun c => absurd c (by decide)) (fun _ => ?_)
  refine lv_aload_n hx hb dX11_goOn_69 rfl (lv_at hl 1 rfl) ?_
  refine va_get (D := (dC, dI)) (ci := 11) (v := .ref rz) (C := RX11) (T := TX11) (N := 24) hx hb hts hnX11 hown hK hP 2 rfl rfl 0 (by decide) hf7 (fun _ h9 => h9) rfl dX11_goOn_70 ?_
  refine lv_bipush (v := 15) hx hb dX11_goOn_73 (by decide) ?_
  refine lv_iload_n hx hb dX11_goOn_75 rfl (lv_at hl 0 rfl) ?_
  refine lv_iadd hx hb dX11_goOn_76 ?_
  refine yy_int (v := 25) (by decide) ?_
  refine lv_aload_n hx hb dX11_goOn_77 rfl (lv_at hl 1 rfl) ?_
  refine va_get (D := (dC, dI)) (ci := 11) (v := .ref rs) (C := RX11) (T := TX11) (N := 24) hx hb hts hnX11 hown hK hP 2 rfl rfl 14 (by decide) hf39 (fun _ h9 => h9) rfl dX11_goOn_78 ?_
  refine lv_iload_n hx hb dX11_goOn_81 rfl (lv_at hl 0 rfl) ?_
  refine yy_iald (v := 0) hx hb hK hP 0 0 rfl rfl (yin (by decide)) dX11_goOn_82 rfl ?_
  refine yy_iast (f' := (yz 0 1)) hx hb hK hP hD hS 1 0 rfl rfl (yin (by decide)) dX11_goOn_83 (yid rfl) (fun H locs hP hD hS => ?_)
  have hP : va_P (dC, dI) vwCl [(rs, .inl (cyI, 15, .inl yR)), (rz, .inl (cyI, 2490, .inl (yz 0 1))), (h0, .inr (11, [.ref rz, .int 0, .int 0, .ref rf, .ref rl, .ref rwx, .ref rb, .int 0, .ref rwd, .ref rk, .ref ra, .int 0, .int 32, .int 0, .ref rs, .ref rt, .int 0, .int 0, .ref rwr, .ref rp, .ref rsi, .ref rke, .ref rkc, .ref rik])), (rt, .inl (cyI, 15, .inl yR))] H := hP
  have hD : va_D A [(rs, .inl (cyI, 15, .inl yR)), (rz, .inl (cyI, 2490, .inl (yz 0 1))), (h0, .inr (11, [.ref rz, .int 0, .int 0, .ref rf, .ref rl, .ref rwx, .ref rb, .int 0, .ref rwd, .ref rk, .ref ra, .int 0, .int 32, .int 0, .ref rs, .ref rt, .int 0, .int 0, .ref rwr, .ref rp, .ref rsi, .ref rke, .ref rkc, .ref rik])), (rt, .inl (cyI, 15, .inl yR))] := hD
  refine lv_aload_n hx hb dX11_goOn_84 rfl (lv_at hl 1 rfl) ?_
  refine va_get (D := (dC, dI)) (ci := 11) (v := .ref rz) (C := RX11) (T := TX11) (N := 24) hx hb hts hnX11 hown hK hP 2 rfl rfl 0 (by decide) hf7 (fun _ h9 => h9) rfl dX11_goOn_85 ?_
  refine lv_iload_n hx hb dX11_goOn_88 rfl (lv_at hl 0 rfl) ?_
  refine lv_aload_n hx hb dX11_goOn_89 rfl (lv_at hl 1 rfl) ?_
  refine va_get (D := (dC, dI)) (ci := 11) (v := .ref rt) (C := RX11) (T := TX11) (N := 24) hx hb hts hnX11 hown hK hP 2 rfl rfl 15 (by decide) hf42 (fun _ h9 => h9) rfl dX11_goOn_90 ?_
  refine lv_iload_n hx hb dX11_goOn_93 rfl (lv_at hl 0 rfl) ?_
  refine yy_iald (v := 0) hx hb hK hP 3 0 rfl rfl (yin (by decide)) dX11_goOn_94 rfl ?_
  refine yy_iast (f' := (yz 0 1)) hx hb hK hP hD hS 1 0 rfl rfl (yin (by decide)) dX11_goOn_95 (yid rfl) (fun H locs hP hD hS => ?_)
  have hP : va_P (dC, dI) vwCl [(rs, .inl (cyI, 15, .inl yR)), (rz, .inl (cyI, 2490, .inl (yz 0 1))), (h0, .inr (11, [.ref rz, .int 0, .int 0, .ref rf, .ref rl, .ref rwx, .ref rb, .int 0, .ref rwd, .ref rk, .ref ra, .int 0, .int 32, .int 0, .ref rs, .ref rt, .int 0, .int 0, .ref rwr, .ref rp, .ref rsi, .ref rke, .ref rkc, .ref rik])), (rt, .inl (cyI, 15, .inl yR))] H := hP
  have hD : va_D A [(rs, .inl (cyI, 15, .inl yR)), (rz, .inl (cyI, 2490, .inl (yz 0 1))), (h0, .inr (11, [.ref rz, .int 0, .int 0, .ref rf, .ref rl, .ref rwx, .ref rb, .int 0, .ref rwd, .ref rk, .ref ra, .int 0, .int 32, .int 0, .ref rs, .ref rt, .int 0, .int 0, .ref rwr, .ref rp, .ref rsi, .ref rke, .ref rkc, .ref rik])), (rt, .inl (cyI, 15, .inl yR))] := hD
  refine lv_iinc (v := 11) (lv' := [(1, .int 11), (0, .ref h0)]) hx hb dX11_goOn_96 hl (k := 0) rfl (by decide) (by decide) rfl (fun ls hl => ?_)
  refine lv_goto (tgt := 63) hx hb dX11_goOn_99 (by decide) ?_
  refine lv_iload_n hx hb dX11_goOn_63 rfl (lv_at hl 0 rfl) ?_
  refine lv_bipush (v := 15) hx hb dX11_goOn_64 (by decide) ?_
  refine lv_icmp_ge (tgt := 102) hx hb dX11_goOn_66 (by decide) (fun c => absurd c (by decide)) (fun _ => ?_)
  refine lv_aload_n hx hb dX11_goOn_69 rfl (lv_at hl 1 rfl) ?_
  refine va_get (D := (dC, dI)) (ci := 11) (v := .ref rz) (C := RX11) (T := TX11) (N := 24) hx hb hts hnX11 hown hK hP 2 rfl rfl 0 (by decide) hf7 (fun _ h9 => h9) rfl dX11_goOn_70 ?_
  refine lv_bipush (v := 15) hx hb dX11_goOn_73 (by decide) ?_
  refine lv_iload_n hx hb dX11_goOn_75 rfl (lv_at hl 0 rfl) ?_
  refine lv_iadd hx hb dX11_goOn_76 ?_
  refine yy_int (v := 26) (by decide) ?_
  refine lv_aload_n hx hb dX11_goOn_77 rfl (lv_at hl 1 rfl) ?_
  refine va_get (D := (dC, dI)) (ci := 11) (v := .ref rs) (C := RX11) (T := TX11) (N := 24) hx hb hts hnX11 hown hK hP 2 rfl rfl 14 (by decide) hf39 (fun _ h9 => h9) rfl dX11_goOn_78 ?_
  refine lv_iload_n hx hb dX11_goOn_81 rfl (lv_at hl 0 rfl) ?_
  refine yy_iald (v := 0) hx hb hK hP 0 0 rfl rfl (yin (by decide)) dX11_goOn_82 rfl ?_
  refine yy_iast (f' := (yz 0 1)) hx hb hK hP hD hS 1 0 rfl rfl (yin (by decide)) dX11_goOn_83 (yid rfl) (fun H locs hP hD hS => ?_)
  have hP : va_P (dC, dI) vwCl [(rs, .inl (cyI, 15, .inl yR)), (rz, .inl (cyI, 2490, .inl (yz 0 1))), (h0, .inr (11, [.ref rz, .int 0, .int 0, .ref rf, .ref rl, .ref rwx, .ref rb, .int 0, .ref rwd, .ref rk, .ref ra, .int 0, .int 32, .int 0, .ref rs, .ref rt, .int 0, .int 0, .ref rwr, .ref rp, .ref rsi, .ref rke, .ref rkc, .ref rik])), (rt, .inl (cyI, 15, .inl yR))] H := hP
  have hD : va_D A [(rs, .inl (cyI, 15, .inl yR)), (rz, .inl (cyI, 2490, .inl (yz 0 1))), (h0, .inr (11, [.ref rz, .int 0, .int 0, .ref rf, .ref rl, .ref rwx, .ref rb, .int 0, .ref rwd, .ref rk, .ref ra, .int 0, .int 32, .int 0, .ref rs, .ref rt, .int 0, .int 0, .ref rwr, .ref rp, .ref rsi, .ref rke, .ref rkc, .ref rik])), (rt, .inl (cyI, 15, .inl yR))] := hD
  refine lv_aload_n hx hb dX11_goOn_84 rfl (lv_at hl 1 rfl) ?_
  refine va_get (D := (dC, dI)) (ci := 11) (v := .ref rz) (C := RX11) (T := TX11) (N := 24) hx hb hts hnX11 hown hK hP 2 rfl rfl 0 (by decide) hf7 (fun _ h9 => h9) rfl dX11_goOn_85 ?_
  refine lv_iload_n hx hb dX11_goOn_88 rfl (lv_at hl 0 rfl) ?_
  refine lv_aload_n hx hb dX11_goOn_89 rfl (lv_at hl 1 rfl) ?_
  refine va_get (D := (dC, dI)) (ci := 11) (v := .ref rt) (C := RX11) (T := TX11) (N := 24) hx hb hts hnX11 hown hK hP 2 rfl rfl 15 (by decide) hf42 (fun _ h9 => h9) rfl dX11_goOn_90 ?_
  refine lv_iload_n hx hb dX11_goOn_93 rfl (lv_at hl 0 rfl) ?_
  refine yy_iald (v := 0) hx hb hK hP 3 0 rfl rfl (yin (by decide)) dX11_goOn_94 rfl ?_
  refine yy_iast (f' := (yz 0 1)) hx hb hK hP hD hS 1 0 rfl rfl (yin (by decide)) dX11_goOn_95 (yid rfl) (fun H locs hP hD hS => ?_)
  have hP : va_P (dC, dI) vwCl [(rs, .inl (cyI, 15, .inl yR)), (rz, .inl (cyI, 2490, .inl (yz 0 1))), (h0, .inr (11, [.ref rz, .int 0, .int 0, .ref rf, .ref rl, .ref rwx, .ref rb, .int 0, .ref rwd, .ref rk, .ref ra, .int 0, .int 32, .int 0, .ref rs, .ref rt, .int 0, .int 0, .ref rwr, .ref rp, .ref rsi, .ref rke, .ref rkc, .ref rik])), (rt, .inl (cyI, 15, .inl yR))] H := hP
  have hD : va_D A [(rs, .inl (cyI, 15, .inl yR)), (rz, .inl (cyI, 2490, .inl (yz 0 1))), (h0, .inr (11, [.ref rz, .int 0, .int 0, .ref rf, .ref rl, .ref rwx, .ref rb, .int 0, .ref rwd, .ref rk, .ref ra, .int 0, .int 32, .int 0, .ref rs, .ref rt, .int 0, .int 0, .ref rwr, .ref rp, .ref rsi, .ref rke, .ref rkc, .ref rik])), (rt, .inl (cyI, 15, .inl yR))] := hD
  refine lv_iinc (v := 12) (lv' := [(1, .int 12), (0, .ref h0)]) hx hb dX11_goOn_96 hl (k := 0) rfl (by decide) (by decide) rfl (fun ls hl => ?_)
  refine lv_goto (tgt := 63) hx hb dX11_goOn_99 (by decide) ?_
  refine lv_iload_n hx hb dX11_goOn_63 rfl (lv_at hl 0 rfl) ?_
  refine lv_bipush (v := 15) hx hb dX11_goOn_64 (by decide) ?_
  refine lv_icmp_ge (tgt := 102) hx hb dX11_goOn_66 (by decide) (fun c => absurd c (by decide)) (fun _ => ?_)
  refine lv_aload_n hx hb dX11_goOn_69 rfl (lv_at hl 1 rfl) ?_
  refine va_get (D := (dC, dI)) (ci := 11) (v := .ref rz) (C := RX11) (T := TX11) (N := 24) hx hb hts hnX11 hown hK hP 2 rfl rfl 0 (by decide) hf7 (fun _ h9 => h9) rfl dX11_goOn_70 ?_
  refine lv_bipush (v := 15) hx hb dX11_goOn_73 (by decide) ?_
  refine lv_iload_n hx hb dX11_goOn_75 rfl (lv_at hl 0 rfl) ?_
  refine lv_iadd hx hb dX11_goOn_76 ?_
  refine yy_int (v := 27) (by decide) ?_
  refine lv_aload_n hx hb dX11_goOn_77 rfl (lv_at hl 1 rfl) ?_
  refine va_get (D := (dC, dI)) (ci := 11) (v := .ref rs) (C := RX11) (T := TX11) (N := 24) hx hb hts hnX11 hown hK hP 2 rfl rfl 14 (by decide) hf39 (fun _ h9 => h9) rfl dX11_goOn_78 ?_
  refine lv_iload_n hx hb dX11_goOn_81 rfl (lv_at hl 0 rfl) ?_
  refine yy_iald (v := 0) hx hb hK hP 0 0 rfl rfl (yin (by decide)) dX11_goOn_82 rfl ?_
  refine yy_iast (f' := (yz 0 1)) hx hb hK hP hD hS 1 0 rfl rfl (yin (by decide)) dX11_goOn_83 (yid rfl) (fun H locs hP hD hS => ?_)
  have hP : va_P (dC, dI) vwCl [(rs, .inl (cyI, 15, .inl yR)), (rz, .inl (cyI, 2490, .inl (yz 0 1))), (h0, .inr (11, [.ref rz, .int 0, .int 0, .ref rf, .ref rl, .ref rwx, .ref rb, .int 0, .ref rwd, .ref rk, .ref ra, .int 0, .int 32, .int 0, .ref rs, .ref rt, .int 0, .int 0, .ref rwr, .ref rp, .ref rsi, .ref rke, .ref rkc, .ref rik])), (rt, .inl (cyI, 15, .inl yR))] H := hP
  have hD : va_D A [(rs, .inl (cyI, 15, .inl yR)), (rz, .inl (cyI, 2490, .inl (yz 0 1))), (h0, .inr (11, [.ref rz, .int 0, .int 0, .ref rf, .ref rl, .ref rwx, .ref rb, .int 0, .ref rwd, .ref rk, .ref ra, .int 0, .int 32, .int 0, .ref rs, .ref rt, .int 0, .int 0, .ref rwr, .ref rp, .ref rsi, .ref rke, .ref rkc, .ref rik])), (rt, .inl (cyI, 15, .inl yR))] := hD
  refine lv_aload_n hx hb dX11_goOn_84 rfl (lv_at hl 1 rfl) ?_
  refine va_get (D := (dC, dI)) (ci := 11) (v := .ref rz) (C := RX11) (T := TX11) (N := 24) hx hb hts hnX11 hown hK hP 2 rfl rfl 0 (by decide) hf7 (fun _ h9 => h9) rfl dX11_goOn_85 ?_
  refine lv_iload_n hx hb dX11_goOn_88 rfl (lv_at hl 0 rfl) ?_
  refine lv_aload_n hx hb dX11_goOn_89 rfl (lv_at hl 1 rfl) ?_
  refine va_get (D := (dC, dI)) (ci := 11) (v := .ref rt) (C := RX11) (T := TX11) (N := 24) hx hb hts hnX11 hown hK hP 2 rfl rfl 15 (by decide) hf42 (fun _ h9 => h9) rfl dX11_goOn_90 ?_
  refine lv_iload_n hx hb dX11_goOn_93 rfl (lv_at hl 0 rfl) ?_
  refine yy_iald (v := 0) hx hb hK hP 3 0 rfl rfl (yin (by decide)) dX11_goOn_94 rfl ?_
  refine yy_iast (f' := (yz 0 1)) hx hb hK hP hD hS 1 0 rfl rfl (yin (by decide)) dX11_goOn_95 (yid rfl) (fun H locs hP hD hS => ?_)
  have hP : va_P (dC, dI) vwCl [(rs, .inl (cyI, 15, .inl yR)), (rz, .inl (cyI, 2490, .inl (yz 0 1))), (h0, .inr (11, [.ref rz, .int 0, .int 0, .ref rf, .ref rl, .ref rwx, .ref rb, .int 0, .ref rwd, .ref rk, .ref ra, .int 0, .int 32, .int 0, .ref rs, .ref rt, .int 0, .int 0, .ref rwr, .ref rp, .ref rsi, .ref rke, .ref rkc, .ref rik])), (rt, .inl (cyI, 15, .inl yR))] H := hP
  have hD : va_D A [(rs, .inl (cyI, 15, .inl yR)), (rz, .inl (cyI, 2490, .inl (yz 0 1))), (h0, .inr (11, [.ref rz, .int 0, .int 0, .ref rf, .ref rl, .ref rwx, .ref rb, .int 0, .ref rwd, .ref rk, .ref ra, .int 0, .int 32, .int 0, .ref rs, .ref rt, .int 0, .int 0, .ref rwr, .ref rp, .ref rsi, .ref rke, .ref rkc, .ref rik])), (rt, .inl (cyI, 15, .inl yR))] := hD
  refine lv_iinc (v := 13) (lv' := [(1, .int 13), (0, .ref h0)]) hx hb dX11_goOn_96 hl (k := 0) rfl (by decide) (by decide) rfl (fun ls hl => ?_)
  refine lv_goto (tgt := 63) hx hb dX11_goOn_99 (by decide) ?_
  refine lv_iload_n hx hb dX11_goOn_63 rfl (lv_at hl 0 rfl) ?_
  refine lv_bipush (v := 15) hx hb dX11_goOn_64 (by decide) ?_
  refine lv_icmp_ge (tgt := 102) hx hb dX11_goOn_66 (by decide) (fun c => absurd c (by decide)) (fun _ => ?_)
  refine lv_aload_n hx hb dX11_goOn_69 rfl (lv_at hl 1 rfl) ?_
  refine va_get (D := (dC, dI)) (ci := 11) (v := .ref rz) (C := RX11) (T := TX11) (N := 24) hx hb hts hnX11 hown hK hP 2 rfl rfl 0 (by decide) hf7 (fun _ h9 => h9) rfl dX11_goOn_70 ?_
  refine lv_bipush (v := 15) hx hb dX11_goOn_73 (by decide) ?_
  refine lv_iload_n hx hb dX11_goOn_75 rfl (lv_at hl 0 rfl) ?_
  refine lv_iadd hx hb dX11_goOn_76 ?_
  refine yy_int (v := 28) (by decide) ?_
  refine lv_aload_n hx hb dX11_goOn_77 rfl (lv_at hl 1 rfl) ?_
  refine va_get (D := (dC, dI)) (ci := 11) (v := .ref rs) (C := RX11) (T := TX11) (N := 24) hx hb hts hnX11 hown hK hP 2 rfl rfl 14 (by decide) hf39 (fun _ h9 => h9) rfl dX11_goOn_78 ?_
  refine lv_iload_n hx hb dX11_goOn_81 rfl (lv_at hl 0 rfl) ?_
  refine yy_iald (v := 0) hx hb hK hP 0 0 rfl rfl (yin (by decide)) dX11_goOn_82 rfl ?_
  refine yy_iast (f' := (yz 0 1)) hx hb hK hP hD hS 1 0 rfl rfl (yin (by decide)) dX11_goOn_83 (yid rfl) (fun H locs hP hD hS => ?_)
  have hP : va_P (dC, dI) vwCl [(rs, .inl (cyI, 15, .inl yR)), (rz, .inl (cyI, 2490, .inl (yz 0 1))), (h0, .inr (11, [.ref rz, .int 0, .int 0, .ref rf, .ref rl, .ref rwx, .ref rb, .int 0, .ref rwd, .ref rk, .ref ra, .int 0, .int 32, .int 0, .ref rs, .ref rt, .int 0, .int 0, .ref rwr, .ref rp, .ref rsi, .ref rke, .ref rkc, .ref rik])), (rt, .inl (cyI, 15, .inl yR))] H := hP
  have hD : va_D A [(rs, .inl (cyI, 15, .inl yR)), (rz, .inl (cyI, 2490, .inl (yz 0 1))), (h0, .inr (11, [.ref rz, .int 0, .int 0, .ref rf, .ref rl, .ref rwx, .ref rb, .int 0, .ref rwd, .ref rk, .ref ra, .int 0, .int 32, .int 0, .ref rs, .ref rt, .int 0, .int 0, .ref rwr, .ref rp, .ref rsi, .ref rke, .ref rkc, .ref rik])), (rt, .inl (cyI, 15, .inl yR))] := hD
  refine lv_aload_n hx hb dX11_goOn_84 rfl (lv_at hl 1 rfl) ?_
  refine va_get (D := (dC, dI)) (ci := 11) (v := .ref rz) (C := RX11) (T := TX11) (N := 24) hx hb hts hnX11 hown hK hP 2 rfl rfl 0 (by decide) hf7 (fun _ h9 => h9) rfl dX11_goOn_85 ?_
  refine lv_iload_n hx hb dX11_goOn_88 rfl (lv_at hl 0 rfl) ?_
  refine lv_aload_n hx hb dX11_goOn_89 rfl (lv_at hl 1 rfl) ?_
  refine va_get (D := (dC, dI)) (ci := 11) (v := .ref rt) (C := RX11) (T := TX11) (N := 24) hx hb hts hnX11 hown hK hP 2 rfl rfl 15 (by decide) hf42 (fun _ h9 => h9) rfl dX11_goOn_90 ?_
  refine lv_iload_n hx hb dX11_goOn_93 rfl (lv_at hl 0 rfl) ?_
  refine yy_iald (v := 0) hx hb hK hP 3 0 rfl rfl (yin (by decide)) dX11_goOn_94 rfl ?_
  refine yy_iast (f' := (yz 0 1)) hx hb hK hP hD hS 1 0 rfl rfl (yin (by decide)) dX11_goOn_95 (yid rfl) (fun H locs hP hD hS => ?_)
  have hP : va_P (dC, dI) vwCl [(rs, .inl (cyI, 15, .inl yR)), (rz, .inl (cyI, 2490, .inl (yz 0 1))), (h0, .inr (11, [.ref rz, .int 0, .int 0, .ref rf, .ref rl, .ref rwx, .ref rb, .int 0, .ref rwd, .ref rk, .ref ra, .int 0, .int 32, .int 0, .ref rs, .ref rt, .int 0, .int 0, .ref rwr, .ref rp, .ref rsi, .ref rke, .ref rkc, .ref rik])), (rt, .inl (cyI, 15, .inl yR))] H := hP
  have hD : va_D A [(rs, .inl (cyI, 15, .inl yR)), (rz, .inl (cyI, 2490, .inl (yz 0 1))), (h0, .inr (11, [.ref rz, .int 0, .int 0, .ref rf, .ref rl, .ref rwx, .ref rb, .int 0, .ref rwd, .ref rk, .ref ra, .int 0, .int 32, .int 0, .ref rs, .ref rt, .int 0, .int 0, .ref rwr, .ref rp, .ref rsi, .ref rke, .ref rkc, .ref rik])), (rt, .inl (cyI, 15, .inl yR))] := hD
  refine lv_iinc (v := 14) (lv' := [(1, .int 14), (0, .ref h0)]) hx hb dX11_goOn_96 hl (k := 0) rfl (by decide) (by decide) rfl (fun ls hl => ?_)
  refine lv_goto (tgt := 63) hx hb dX11_goOn_99 (by decide) ?_
  refine lv_iload_n hx hb dX11_goOn_63 rfl (lv_at hl 0 rfl) ?_
  refine lv_bipush (v := 15) hx hb dX11_goOn_64 (by decide) ?_
  refine lv_icmp_ge (tgt := 102) hx hb dX11_goOn_66 (by decide) (fun c => absurd c (by decide)) (fun _ => ?_)
  refine lv_aload_n hx hb dX11_goOn_69 rfl (lv_at hl 1 rfl) ?_
  refine va_get (D := (dC, dI)) (ci := 11) (v := .ref rz) (C := RX11) (T := TX11) (N := 24) hx hb hts hnX11 hown hK hP 2 rfl rfl 0 (by decide) hf7 (fun _ h9 => h9) rfl dX11_goOn_70 ?_
  refine lv_bipush (v := 15) hx hb dX11_goOn_73 (by decide) ?_
  refine lv_iload_n hx hb dX11_goOn_75 rfl (lv_at hl 0 rfl) ?_
  refine lv_iadd hx hb dX11_goOn_76 ?_
  refine yy_int (v := 29) (by decide) ?_
  refine lv_aload_n hx hb dX11_goOn_77 rfl (lv_at hl 1 rfl) ?_
  refine va_get (D := (dC, dI)) (ci := 11) (v := .ref rs) (C := RX11) (T := TX11) (N := 24) hx hb hts hnX11 hown hK hP 2 rfl rfl 14 (by decide) hf39 (fun _ h9 => h9) rfl dX11_goOn_78 ?_
  refine lv_iload_n hx hb dX11_goOn_81 rfl (lv_at hl 0 rfl) ?_
  refine yy_iald (v := 0) hx hb hK hP 0 0 rfl rfl (yin (by decide)) dX11_goOn_82 rfl ?_
  refine yy_iast (f' := (yz 0 1)) hx hb hK hP hD hS 1 0 rfl rfl (yin (by decide)) dX11_goOn_83 (yid rfl) (fun H locs hP hD hS => ?_)
  have hP : va_P (dC, dI) vwCl [(rs, .inl (cyI, 15, .inl yR)), (rz, .inl (cyI, 2490, .inl (yz 0 1))), (h0, .inr (11, [.ref rz, .int 0, .int 0, .ref rf, .ref rl, .ref rwx, .ref rb, .int 0, .ref rwd, .ref rk, .ref ra, .int 0, .int 32, .int 0, .ref rs, .ref rt, .int 0, .int 0, .ref rwr, .ref rp, .ref rsi, .ref rke, .ref rkc, .ref rik])), (rt, .inl (cyI, 15, .inl yR))] H := hP
  have hD : va_D A [(rs, .inl (cyI, 15, .inl yR)), (rz, .inl (cyI, 2490, .inl (yz 0 1))), (h0, .inr (11, [.ref rz, .int 0, .int 0, .ref rf, .ref rl, .ref rwx, .ref rb, .int 0, .ref rwd, .ref rk, .ref ra, .int 0, .int 32, .int 0, .ref rs, .ref rt, .int 0, .int 0, .ref rwr, .ref rp, .ref rsi, .ref rke, .ref rkc, .ref rik])), (rt, .inl (cyI, 15, .inl yR))] := hD
  refine lv_aload_n hx hb dX11_goOn_84 rfl (lv_at hl 1 rfl) ?_
  refine va_get (D := (dC, dI)) (ci := 11) (v := .ref rz) (C := RX11) (T := TX11) (N := 24) hx hb hts hnX11 hown hK hP 2 rfl rfl 0 (by decide) hf7 (fun _ h9 => h9) rfl dX11_goOn_85 ?_
  refine lv_iload_n hx hb dX11_goOn_88 rfl (lv_at hl 0 rfl) ?_
  refine lv_aload_n hx hb dX11_goOn_89 rfl (lv_at hl 1 rfl) ?_
  refine va_get (D := (dC, dI)) (ci := 11) (v := .ref rt) (C := RX11) (T := TX11) (N := 24) hx hb hts hnX11 hown hK hP 2 rfl rfl 15 (by decide) hf42 (fun _ h9 => h9) rfl dX11_goOn_90 ?_
  refine lv_iload_n hx hb dX11_goOn_93 rfl (lv_at hl 0 rfl) ?_
  refine yy_iald (v := 0) hx hb hK hP 3 0 rfl rfl (yin (by decide)) dX11_goOn_94 rfl ?_
  refine yy_iast (f' := (yz 0 1)) hx hb hK hP hD hS 1 0 rfl rfl (yin (by decide)) dX11_goOn_95 (yid rfl) (fun H locs hP hD hS => ?_)
  have hP : va_P (dC, dI) vwCl [(rs, .inl (cyI, 15, .inl yR)), (rz, .inl (cyI, 2490, .inl (yz 0 1))), (h0, .inr (11, [.ref rz, .int 0, .int 0, .ref rf, .ref rl, .ref rwx, .ref rb, .int 0, .ref rwd, .ref rk, .ref ra, .int 0, .int 32, .int 0, .ref rs, .ref rt, .int 0, .int 0, .ref rwr, .ref rp, .ref rsi, .ref rke, .ref rkc, .ref rik])), (rt, .inl (cyI, 15, .inl yR))] H := hP
  have hD : va_D A [(rs, .inl (cyI, 15, .inl yR)), (rz, .inl (cyI, 2490, .inl (yz 0 1))), (h0, .inr (11, [.ref rz, .int 0, .int 0, .ref rf, .ref rl, .ref rwx, .ref rb, .int 0, .ref rwd, .ref rk, .ref ra, .int 0, .int 32, .int 0, .ref rs, .ref rt, .int 0, .int 0, .ref rwr, .ref rp, .ref rsi, .ref rke, .ref rkc, .ref rik])), (rt, .inl (cyI, 15, .inl yR))] := hD
  refine lv_iinc (v := 15) (lv' := [(1, .int 15), (0, .ref h0)]) hx hb dX11_goOn_96 hl (k := 0) rfl (by decide) (by decide) rfl (fun ls hl => ?_)
  refine lv_goto (tgt := 63) hx hb dX11_goOn_99 (by decide) ?_
  refine lv_iload_n hx hb dX11_goOn_63 rfl (lv_at hl 0 rfl) ?_
  refine lv_bipush (v := 15) hx hb dX11_goOn_64 (by decide) ?_
  refine lv_icmp_ge (tgt := 102) hx hb dX11_goOn_66 (by decide) (fun _ => ?_) (fun c => absurd (by decide) c)
  refine lv_aload_n hx hb dX11_goOn_102 rfl (lv_at hl 1 rfl) ?_
  refine va_get (D := (dC, dI)) (ci := 11) (v := .ref rz) (C := RX11) (T := TX11) (N := 24) hx hb hts hnX11 hown hK hP 2 rfl rfl 0 (by decide) hf7 (fun _ h9 => h9) rfl dX11_goOn_103 ?_
  refine lv_sipush (v := 179) hx hb dX11_goOn_106 (by decide) ?_
  refine lv_dup2_11 hx hb dX11_goOn_109 rfl rfl ?_
  refine yy_iald (v := 0) hx hb hK hP 1 0 rfl rfl (yin (by decide)) dX11_goOn_110 rfl ?_
  refine lv_iconst (v := 1) hx hb dX11_goOn_111 (by decide) ?_
  refine lv_iadd hx hb dX11_goOn_112 ?_
  refine yy_int (v := 1) (by decide) ?_
  refine yy_iast (f' := (yz 1 1)) hx hb hK hP hD hS 1 0 rfl rfl (yin (by decide)) dX11_goOn_113 yz_t (fun H locs hP hD hS => ?_)
  have hP : va_P (dC, dI) vwCl [(rs, .inl (cyI, 15, .inl yR)), (rz, .inl (cyI, 2490, .inl (yz 1 1))), (h0, .inr (11, [.ref rz, .int 0, .int 0, .ref rf, .ref rl, .ref rwx, .ref rb, .int 0, .ref rwd, .ref rk, .ref ra, .int 0, .int 32, .int 0, .ref rs, .ref rt, .int 0, .int 0, .ref rwr, .ref rp, .ref rsi, .ref rke, .ref rkc, .ref rik])), (rt, .inl (cyI, 15, .inl yR))] H := hP
  have hD : va_D A [(rs, .inl (cyI, 15, .inl yR)), (rz, .inl (cyI, 2490, .inl (yz 1 1))), (h0, .inr (11, [.ref rz, .int 0, .int 0, .ref rf, .ref rl, .ref rwx, .ref rb, .int 0, .ref rwd, .ref rk, .ref ra, .int 0, .int 32, .int 0, .ref rs, .ref rt, .int 0, .int 0, .ref rwr, .ref rp, .ref rsi, .ref rke, .ref rkc, .ref rik])), (rt, .inl (cyI, 15, .inl yR))] := hD
  refine W.widen (k := 0) (n := 0) (Nat.le_of_ble_eq_true rfl) (Nat.le_of_ble_eq_true rfl) ?_
  exact yy_vret () hx hb hr hlk hsz hAe hK hP hD hS [2, 1, 0, 3] rfl rfl (by decide) (trivial) dX11_goOn_114
set_option maxHeartbeats 4000000 in
set_option maxRecDepth 100000 in
theorem rS_X11_seen_120 (l : Launch) (dC : Nat → ClassId) (dI : Nat → Nat → Nat) (cyI cyZ cyO : ClassId) (sz : Nat) (a0 : Nat) (a1 : Nat) (a2 : Nat) (a3 : Nat) (a4 : Nat) (a5 : Nat) (a6 : Nat) (a7 : Nat) (a8 : Nat) (a9 : Nat) (a10 : Nat) (a11 : Nat) (a12 : Nat) (a13 : Nat) (a14 : Nat) (a15 : Nat) (a16 : Nat) (v0 : Int32)  : Met l yX11_seen wsX11_seen ({ frames := 1, cells := 0, slots := 0, locals := 25 }) (yPre [.ref a0, .int 0] (dC, dI) [(a0, .inr (11, [.ref a1, .int 0, .int 0, .ref a2, .ref a3, .ref a4, .ref a5, .int 0, .ref a6, .ref a7, .ref a8, .int 0, .int 32, .int 0, .ref a9, .ref a10, .int 0, .int 0, .ref a11, .ref a12, .ref a13, .ref a14, .ref a15, .ref a16])), (a1, .inl (cyI, 2490, .inl (yz v0 1)))] (yT cyI cyZ cyO) sz) (yQi (fun (r : Int32) (u : Unit) => r = 0) (dC, dI) [(a0, .inr (11, [.ref a1, .int 0, .int 0, .ref a2, .ref a3, .ref a4, .ref a5, .int 0, .ref a6, .ref a7, .ref a8, .int 0, .int 32, .int 0, .ref a9, .ref a10, .int 0, .int 0, .ref a11, .ref a12, .ref a13, .ref a14, .ref a15, .ref a16])), (a1, .inl (cyI, 2490, .inl (yz v0 1)))] (yT cyI cyZ cyO) sz (fun _ => [(a0, .inr (11, [.ref a1, .int 0, .int 0, .ref a2, .ref a3, .ref a4, .ref a5, .int 0, .ref a6, .ref a7, .ref a8, .int 0, .int 32, .int 0, .ref a9, .ref a10, .int 0, .int 0, .ref a11, .ref a12, .ref a13, .ref a14, .ref a15, .ref a16])), (a1, .inl (cyI, 2490, .inl (yz v0 1)))])) 0 0 (va_A [(a0, .inr (11, [.ref a1, .int 0, .int 0, .ref a2, .ref a3, .ref a4, .ref a5, .int 0, .ref a6, .ref a7, .ref a8, .int 0, .int 32, .int 0, .ref a9, .ref a10, .int 0, .int 0, .ref a11, .ref a12, .ref a13, .ref a14, .ref a15, .ref a16])), (a1, .inl (cyI, 2490, .inl (yz v0 1)))] sz) := by
  refine yMet (cc := cX11_seen) (maxL := 3) (ret := (some .int)) (by decide) rfl (Nat.le_of_ble_eq_true rfl) ?_
  intro p e s m below meth c A hx hb hr hlk hml hts hown hnm hsz hAe hP hK hD hA hS ls hl
  have hl : lv_has ls 3 [(0, .ref a0), (1, .int 0)] := hl
  have hf7 := hts (.fieldLink RX11 7 "BusBridgeModel" "z" "[I") (by decide +kernel)
  have hnX11 : ∀ w ∈ wsX110, w ∈ wsX11_seen := by decide +kernel
  refine lv_aload_n hx hb dX11_seen_0 rfl (lv_at hl 0 rfl) ?_
  refine va_get (D := (dC, dI)) (ci := 11) (v := .ref a1) (C := RX11) (T := TX11) (N := 24) hx hb hts hnX11 hown hK hP 0 rfl rfl 0 (by decide) hf7 (fun _ h9 => h9) rfl dX11_seen_1 ?_
  refine lv_sipush (v := 179) hx hb dX11_seen_4 (by decide) ?_
  refine yy_iald (v := v0) hx hb hK hP 1 0 rfl rfl (yin (by decide)) dX11_seen_7 rfl ?_
  refine lv_i2l hx hb dX11_seen_8 rfl ?_
  refine lv_aload_n hx hb dX11_seen_9 rfl (lv_at hl 0 rfl) ?_
  refine va_get (D := (dC, dI)) (ci := 11) (v := .ref a1) (C := RX11) (T := TX11) (N := 24) hx hb hts hnX11 hown hK hP 0 rfl rfl 0 (by decide) hf7 (fun _ h9 => h9) rfl dX11_seen_10 ?_
  refine lv_bipush (v := 45) hx hb dX11_seen_13 (by decide) ?_
  refine lv_iload_n hx hb dX11_seen_15 rfl (lv_at hl 1 rfl) ?_
  refine lv_iadd hx hb dX11_seen_16 ?_
  refine yy_int (v := 45) (by decide) ?_
  refine yy_iald (v := 1) hx hb hK hP 1 0 rfl rfl (yin (by decide)) dX11_seen_17 rfl ?_
  refine lv_i2l hx hb dX11_seen_18 rfl ?_
  refine lv_aload_n hx hb dX11_seen_19 rfl (lv_at hl 0 rfl) ?_
  refine va_get (D := (dC, dI)) (ci := 11) (v := .ref a1) (C := RX11) (T := TX11) (N := 24) hx hb hts hnX11 hown hK hP 0 rfl rfl 0 (by decide) hf7 (fun _ h9 => h9) rfl dX11_seen_20 ?_
  refine lv_bipush (v := 60) hx hb dX11_seen_23 (by decide) ?_
  refine lv_iload_n hx hb dX11_seen_25 rfl (lv_at hl 1 rfl) ?_
  refine lv_iadd hx hb dX11_seen_26 ?_
  refine yy_int (v := 60) (by decide) ?_
  refine yy_iald (v := 0) hx hb hK hP 1 0 rfl rfl (yin (by decide)) dX11_seen_27 rfl ?_
  refine lv_i2l hx hb dX11_seen_28 rfl ?_
  have hPc := hP.sub (ws' := []) [] rfl
  have hDc := hD.sub (ws' := []) [] (by decide) rfl
  refine yy_calli [] [0, 1] (wr := [(a0, .inr (11, [.ref a1, .int 0, .int 0, .ref a2, .ref a3, .ref a4, .ref a5, .int 0, .ref a6, .ref a7, .ref a8, .int 0, .int 32, .int 0, .ref a9, .ref a10, .int 0, .int 0, .ref a11, .ref a12, .ref a13, .ref a14, .ref a15, .ref a16])), (a1, .inl (cyI, 2490, .inl (yz v0 1)))]) (va_runS (As := [.long (v0 : Int32).toInt64, .long (1 : Int32).toInt64, .long (0 : Int32).toInt64]) (rest := []) ⟨hx, hb, hml, hown, hts⟩ (r_inE l dC dI cyI cyZ cyO s.heap.size v0 1 0 (by decide)) (va_cwS 3 hts gX11_seen_X11_in rfl rfl rfl (by decide +kernel) ⟨Nat.le_of_ble_eq_true rfl, Nat.le_of_ble_eq_true rfl⟩) (yPreS hK hPc hDc) rfl rfl hl.1 rfl (lv_room (Nat.le_of_ble_eq_true rfl)) dX11_seen_29 ⟨Nat.le_of_ble_eq_true rfl, Nat.le_of_ble_eq_true rfl⟩) hP hD hS hA rfl rfl (by decide) (by decide) (fun r_2 u_1 H locs hw hP hD hS => ?_)
  have hP : va_P (dC, dI) vwCl [(a0, .inr (11, [.ref a1, .int 0, .int 0, .ref a2, .ref a3, .ref a4, .ref a5, .int 0, .ref a6, .ref a7, .ref a8, .int 0, .int 32, .int 0, .ref a9, .ref a10, .int 0, .int 0, .ref a11, .ref a12, .ref a13, .ref a14, .ref a15, .ref a16])), (a1, .inl (cyI, 2490, .inl (yz v0 1)))] H := hP
  have hD : va_D A [(a0, .inr (11, [.ref a1, .int 0, .int 0, .ref a2, .ref a3, .ref a4, .ref a5, .int 0, .ref a6, .ref a7, .ref a8, .int 0, .int 32, .int 0, .ref a9, .ref a10, .int 0, .int 0, .ref a11, .ref a12, .ref a13, .ref a14, .ref a15, .ref a16])), (a1, .inl (cyI, 2490, .inl (yz v0 1)))] := hD
  refine W.widen (k := 0) (n := 0) (Nat.le_of_ble_eq_true rfl) (Nat.le_of_ble_eq_true rfl) ?_
  have hw : r_2 = 0 := hw
  subst hw
  refine lv_istore_n (lv' := [(2, .int 0), (0, .ref a0), (1, .int 0)]) hx hb dX11_seen_32 rfl hl (by decide) rfl (fun ls hl => ?_)
  refine lv_iload_n hx hb dX11_seen_33 rfl (lv_at hl 0 rfl) ?_
  refine lv_if_eq (tgt := 56) hx hb dX11_seen_34 (by decide) (fun _ => ?_) (fun c => absurd (by decide) c)
  refine lv_aload_n hx hb dX11_seen_56 rfl (lv_at hl 1 rfl) ?_
  refine va_get (D := (dC, dI)) (ci := 11) (v := .ref a1) (C := RX11) (T := TX11) (N := 24) hx hb hts hnX11 hown hK hP 0 rfl rfl 0 (by decide) hf7 (fun _ h9 => h9) rfl dX11_seen_57 ?_
  refine lv_iload_n hx hb dX11_seen_60 rfl (lv_at hl 2 rfl) ?_
  refine yy_iald (v := 0) hx hb hK hP 1 0 rfl rfl (yin (by decide)) dX11_seen_61 rfl ?_
  refine W.widen (k := 0) (n := 0) (Nat.le_of_ble_eq_true rfl) (Nat.le_of_ble_eq_true rfl) ?_
  exact yy_iret (v := 0) () hx hb hr hlk rfl hsz hAe hK hP hD hS [0, 1] rfl rfl (by decide) (rfl) dX11_seen_62
set_option maxHeartbeats 4000000 in
set_option maxRecDepth 100000 in
theorem rS_X11_seen_121 (l : Launch) (dC : Nat → ClassId) (dI : Nat → Nat → Nat) (cyI cyZ cyO : ClassId) (sz : Nat) (a0 : Nat) (a1 : Nat) (a2 : Nat) (a3 : Nat) (a4 : Nat) (a5 : Nat) (a6 : Nat) (a7 : Nat) (a8 : Nat) (a9 : Nat) (a10 : Nat) (a11 : Nat) (a12 : Nat) (a13 : Nat) (a14 : Nat) (a15 : Nat) (a16 : Nat) (v0 : Int32)  : Met l yX11_seen wsX11_seen ({ frames := 1, cells := 0, slots := 0, locals := 25 }) (yPre [.ref a0, .int 1] (dC, dI) [(a0, .inr (11, [.ref a1, .int 0, .int 0, .ref a2, .ref a3, .ref a4, .ref a5, .int 0, .ref a6, .ref a7, .ref a8, .int 0, .int 32, .int 0, .ref a9, .ref a10, .int 0, .int 0, .ref a11, .ref a12, .ref a13, .ref a14, .ref a15, .ref a16])), (a1, .inl (cyI, 2490, .inl (yz v0 1)))] (yT cyI cyZ cyO) sz) (yQi (fun (r : Int32) (u : Unit) => r = 0) (dC, dI) [(a0, .inr (11, [.ref a1, .int 0, .int 0, .ref a2, .ref a3, .ref a4, .ref a5, .int 0, .ref a6, .ref a7, .ref a8, .int 0, .int 32, .int 0, .ref a9, .ref a10, .int 0, .int 0, .ref a11, .ref a12, .ref a13, .ref a14, .ref a15, .ref a16])), (a1, .inl (cyI, 2490, .inl (yz v0 1)))] (yT cyI cyZ cyO) sz (fun _ => [(a0, .inr (11, [.ref a1, .int 0, .int 0, .ref a2, .ref a3, .ref a4, .ref a5, .int 0, .ref a6, .ref a7, .ref a8, .int 0, .int 32, .int 0, .ref a9, .ref a10, .int 0, .int 0, .ref a11, .ref a12, .ref a13, .ref a14, .ref a15, .ref a16])), (a1, .inl (cyI, 2490, .inl (yz v0 1)))])) 0 0 (va_A [(a0, .inr (11, [.ref a1, .int 0, .int 0, .ref a2, .ref a3, .ref a4, .ref a5, .int 0, .ref a6, .ref a7, .ref a8, .int 0, .int 32, .int 0, .ref a9, .ref a10, .int 0, .int 0, .ref a11, .ref a12, .ref a13, .ref a14, .ref a15, .ref a16])), (a1, .inl (cyI, 2490, .inl (yz v0 1)))] sz) := by
  refine yMet (cc := cX11_seen) (maxL := 3) (ret := (some .int)) (by decide) rfl (Nat.le_of_ble_eq_true rfl) ?_
  intro p e s m below meth c A hx hb hr hlk hml hts hown hnm hsz hAe hP hK hD hA hS ls hl
  have hl : lv_has ls 3 [(0, .ref a0), (1, .int 1)] := hl
  have hf7 := hts (.fieldLink RX11 7 "BusBridgeModel" "z" "[I") (by decide +kernel)
  have hnX11 : ∀ w ∈ wsX110, w ∈ wsX11_seen := by decide +kernel
  refine lv_aload_n hx hb dX11_seen_0 rfl (lv_at hl 0 rfl) ?_
  refine va_get (D := (dC, dI)) (ci := 11) (v := .ref a1) (C := RX11) (T := TX11) (N := 24) hx hb hts hnX11 hown hK hP 0 rfl rfl 0 (by decide) hf7 (fun _ h9 => h9) rfl dX11_seen_1 ?_
  refine lv_sipush (v := 179) hx hb dX11_seen_4 (by decide) ?_
  refine yy_iald (v := v0) hx hb hK hP 1 0 rfl rfl (yin (by decide)) dX11_seen_7 rfl ?_
  refine lv_i2l hx hb dX11_seen_8 rfl ?_
  refine lv_aload_n hx hb dX11_seen_9 rfl (lv_at hl 0 rfl) ?_
  refine va_get (D := (dC, dI)) (ci := 11) (v := .ref a1) (C := RX11) (T := TX11) (N := 24) hx hb hts hnX11 hown hK hP 0 rfl rfl 0 (by decide) hf7 (fun _ h9 => h9) rfl dX11_seen_10 ?_
  refine lv_bipush (v := 45) hx hb dX11_seen_13 (by decide) ?_
  refine lv_iload_n hx hb dX11_seen_15 rfl (lv_at hl 1 rfl) ?_
  refine lv_iadd hx hb dX11_seen_16 ?_
  refine yy_int (v := 46) (by decide) ?_
  refine yy_iald (v := 1) hx hb hK hP 1 0 rfl rfl (yin (by decide)) dX11_seen_17 rfl ?_
  refine lv_i2l hx hb dX11_seen_18 rfl ?_
  refine lv_aload_n hx hb dX11_seen_19 rfl (lv_at hl 0 rfl) ?_
  refine va_get (D := (dC, dI)) (ci := 11) (v := .ref a1) (C := RX11) (T := TX11) (N := 24) hx hb hts hnX11 hown hK hP 0 rfl rfl 0 (by decide) hf7 (fun _ h9 => h9) rfl dX11_seen_20 ?_
  refine lv_bipush (v := 60) hx hb dX11_seen_23 (by decide) ?_
  refine lv_iload_n hx hb dX11_seen_25 rfl (lv_at hl 1 rfl) ?_
  refine lv_iadd hx hb dX11_seen_26 ?_
  refine yy_int (v := 61) (by decide) ?_
  refine yy_iald (v := 0) hx hb hK hP 1 0 rfl rfl (yin (by decide)) dX11_seen_27 rfl ?_
  refine lv_i2l hx hb dX11_seen_28 rfl ?_
  have hPc := hP.sub (ws' := []) [] rfl
  have hDc := hD.sub (ws' := []) [] (by decide) rfl
  refine yy_calli [] [0, 1] (wr := [(a0, .inr (11, [.ref a1, .int 0, .int 0, .ref a2, .ref a3, .ref a4, .ref a5, .int 0, .ref a6, .ref a7, .ref a8, .int 0, .int 32, .int 0, .ref a9, .ref a10, .int 0, .int 0, .ref a11, .ref a12, .ref a13, .ref a14, .ref a15, .ref a16])), (a1, .inl (cyI, 2490, .inl (yz v0 1)))]) (va_runS (As := [.long (v0 : Int32).toInt64, .long (1 : Int32).toInt64, .long (0 : Int32).toInt64]) (rest := []) ⟨hx, hb, hml, hown, hts⟩ (r_inE l dC dI cyI cyZ cyO s.heap.size v0 1 0 (by decide)) (va_cwS 3 hts gX11_seen_X11_in rfl rfl rfl (by decide +kernel) ⟨Nat.le_of_ble_eq_true rfl, Nat.le_of_ble_eq_true rfl⟩) (yPreS hK hPc hDc) rfl rfl hl.1 rfl (lv_room (Nat.le_of_ble_eq_true rfl)) dX11_seen_29 ⟨Nat.le_of_ble_eq_true rfl, Nat.le_of_ble_eq_true rfl⟩) hP hD hS hA rfl rfl (by decide) (by decide) (fun r_2 u_1 H locs hw hP hD hS => ?_)
  have hP : va_P (dC, dI) vwCl [(a0, .inr (11, [.ref a1, .int 0, .int 0, .ref a2, .ref a3, .ref a4, .ref a5, .int 0, .ref a6, .ref a7, .ref a8, .int 0, .int 32, .int 0, .ref a9, .ref a10, .int 0, .int 0, .ref a11, .ref a12, .ref a13, .ref a14, .ref a15, .ref a16])), (a1, .inl (cyI, 2490, .inl (yz v0 1)))] H := hP
  have hD : va_D A [(a0, .inr (11, [.ref a1, .int 0, .int 0, .ref a2, .ref a3, .ref a4, .ref a5, .int 0, .ref a6, .ref a7, .ref a8, .int 0, .int 32, .int 0, .ref a9, .ref a10, .int 0, .int 0, .ref a11, .ref a12, .ref a13, .ref a14, .ref a15, .ref a16])), (a1, .inl (cyI, 2490, .inl (yz v0 1)))] := hD
  refine W.widen (k := 0) (n := 0) (Nat.le_of_ble_eq_true rfl) (Nat.le_of_ble_eq_true rfl) ?_
  have hw : r_2 = 0 := hw
  subst hw
  refine lv_istore_n (lv' := [(2, .int 0), (0, .ref a0), (1, .int 1)]) hx hb dX11_seen_32 rfl hl (by decide) rfl (fun ls hl => ?_)
  refine lv_iload_n hx hb dX11_seen_33 rfl (lv_at hl 0 rfl) ?_
  refine lv_if_eq (tgt := 56) hx hb dX11_seen_34 (by decide) (fun _ => ?_) (fun c => absurd (by decide) c)
  refine lv_aload_n hx hb dX11_seen_56 rfl (lv_at hl 1 rfl) ?_
  refine va_get (D := (dC, dI)) (ci := 11) (v := .ref a1) (C := RX11) (T := TX11) (N := 24) hx hb hts hnX11 hown hK hP 0 rfl rfl 0 (by decide) hf7 (fun _ h9 => h9) rfl dX11_seen_57 ?_
  refine lv_iload_n hx hb dX11_seen_60 rfl (lv_at hl 2 rfl) ?_
  refine yy_iald (v := 0) hx hb hK hP 1 0 rfl rfl (yin (by decide)) dX11_seen_61 rfl ?_
  refine W.widen (k := 0) (n := 0) (Nat.le_of_ble_eq_true rfl) (Nat.le_of_ble_eq_true rfl) ?_
  exact yy_iret (v := 0) () hx hb hr hlk rfl hsz hAe hK hP hD hS [0, 1] rfl rfl (by decide) (rfl) dX11_seen_62
set_option maxHeartbeats 4000000 in
set_option maxRecDepth 100000 in
theorem rS_X11_seen_122 (l : Launch) (dC : Nat → ClassId) (dI : Nat → Nat → Nat) (cyI cyZ cyO : ClassId) (sz : Nat) (a0 : Nat) (a1 : Nat) (a2 : Nat) (a3 : Nat) (a4 : Nat) (a5 : Nat) (a6 : Nat) (a7 : Nat) (a8 : Nat) (a9 : Nat) (a10 : Nat) (a11 : Nat) (a12 : Nat) (a13 : Nat) (a14 : Nat) (a15 : Nat) (a16 : Nat) (v0 : Int32)  : Met l yX11_seen wsX11_seen ({ frames := 1, cells := 0, slots := 0, locals := 25 }) (yPre [.ref a0, .int 2] (dC, dI) [(a0, .inr (11, [.ref a1, .int 0, .int 0, .ref a2, .ref a3, .ref a4, .ref a5, .int 0, .ref a6, .ref a7, .ref a8, .int 0, .int 32, .int 0, .ref a9, .ref a10, .int 0, .int 0, .ref a11, .ref a12, .ref a13, .ref a14, .ref a15, .ref a16])), (a1, .inl (cyI, 2490, .inl (yz v0 1)))] (yT cyI cyZ cyO) sz) (yQi (fun (r : Int32) (u : Unit) => r = 0) (dC, dI) [(a0, .inr (11, [.ref a1, .int 0, .int 0, .ref a2, .ref a3, .ref a4, .ref a5, .int 0, .ref a6, .ref a7, .ref a8, .int 0, .int 32, .int 0, .ref a9, .ref a10, .int 0, .int 0, .ref a11, .ref a12, .ref a13, .ref a14, .ref a15, .ref a16])), (a1, .inl (cyI, 2490, .inl (yz v0 1)))] (yT cyI cyZ cyO) sz (fun _ => [(a0, .inr (11, [.ref a1, .int 0, .int 0, .ref a2, .ref a3, .ref a4, .ref a5, .int 0, .ref a6, .ref a7, .ref a8, .int 0, .int 32, .int 0, .ref a9, .ref a10, .int 0, .int 0, .ref a11, .ref a12, .ref a13, .ref a14, .ref a15, .ref a16])), (a1, .inl (cyI, 2490, .inl (yz v0 1)))])) 0 0 (va_A [(a0, .inr (11, [.ref a1, .int 0, .int 0, .ref a2, .ref a3, .ref a4, .ref a5, .int 0, .ref a6, .ref a7, .ref a8, .int 0, .int 32, .int 0, .ref a9, .ref a10, .int 0, .int 0, .ref a11, .ref a12, .ref a13, .ref a14, .ref a15, .ref a16])), (a1, .inl (cyI, 2490, .inl (yz v0 1)))] sz) := by
  refine yMet (cc := cX11_seen) (maxL := 3) (ret := (some .int)) (by decide) rfl (Nat.le_of_ble_eq_true rfl) ?_
  intro p e s m below meth c A hx hb hr hlk hml hts hown hnm hsz hAe hP hK hD hA hS ls hl
  have hl : lv_has ls 3 [(0, .ref a0), (1, .int 2)] := hl
  have hf7 := hts (.fieldLink RX11 7 "BusBridgeModel" "z" "[I") (by decide +kernel)
  have hnX11 : ∀ w ∈ wsX110, w ∈ wsX11_seen := by decide +kernel
  refine lv_aload_n hx hb dX11_seen_0 rfl (lv_at hl 0 rfl) ?_
  refine va_get (D := (dC, dI)) (ci := 11) (v := .ref a1) (C := RX11) (T := TX11) (N := 24) hx hb hts hnX11 hown hK hP 0 rfl rfl 0 (by decide) hf7 (fun _ h9 => h9) rfl dX11_seen_1 ?_
  refine lv_sipush (v := 179) hx hb dX11_seen_4 (by decide) ?_
  refine yy_iald (v := v0) hx hb hK hP 1 0 rfl rfl (yin (by decide)) dX11_seen_7 rfl ?_
  refine lv_i2l hx hb dX11_seen_8 rfl ?_
  refine lv_aload_n hx hb dX11_seen_9 rfl (lv_at hl 0 rfl) ?_
  refine va_get (D := (dC, dI)) (ci := 11) (v := .ref a1) (C := RX11) (T := TX11) (N := 24) hx hb hts hnX11 hown hK hP 0 rfl rfl 0 (by decide) hf7 (fun _ h9 => h9) rfl dX11_seen_10 ?_
  refine lv_bipush (v := 45) hx hb dX11_seen_13 (by decide) ?_
  refine lv_iload_n hx hb dX11_seen_15 rfl (lv_at hl 1 rfl) ?_
  refine lv_iadd hx hb dX11_seen_16 ?_
  refine yy_int (v := 47) (by decide) ?_
  refine yy_iald (v := 1) hx hb hK hP 1 0 rfl rfl (yin (by decide)) dX11_seen_17 rfl ?_
  refine lv_i2l hx hb dX11_seen_18 rfl ?_
  refine lv_aload_n hx hb dX11_seen_19 rfl (lv_at hl 0 rfl) ?_
  refine va_get (D := (dC, dI)) (ci := 11) (v := .ref a1) (C := RX11) (T := TX11) (N := 24) hx hb hts hnX11 hown hK hP 0 rfl rfl 0 (by decide) hf7 (fun _ h9 => h9) rfl dX11_seen_20 ?_
  refine lv_bipush (v := 60) hx hb dX11_seen_23 (by decide) ?_
  refine lv_iload_n hx hb dX11_seen_25 rfl (lv_at hl 1 rfl) ?_
  refine lv_iadd hx hb dX11_seen_26 ?_
  refine yy_int (v := 62) (by decide) ?_
  refine yy_iald (v := 0) hx hb hK hP 1 0 rfl rfl (yin (by decide)) dX11_seen_27 rfl ?_
  refine lv_i2l hx hb dX11_seen_28 rfl ?_
  have hPc := hP.sub (ws' := []) [] rfl
  have hDc := hD.sub (ws' := []) [] (by decide) rfl
  refine yy_calli [] [0, 1] (wr := [(a0, .inr (11, [.ref a1, .int 0, .int 0, .ref a2, .ref a3, .ref a4, .ref a5, .int 0, .ref a6, .ref a7, .ref a8, .int 0, .int 32, .int 0, .ref a9, .ref a10, .int 0, .int 0, .ref a11, .ref a12, .ref a13, .ref a14, .ref a15, .ref a16])), (a1, .inl (cyI, 2490, .inl (yz v0 1)))]) (va_runS (As := [.long (v0 : Int32).toInt64, .long (1 : Int32).toInt64, .long (0 : Int32).toInt64]) (rest := []) ⟨hx, hb, hml, hown, hts⟩ (r_inE l dC dI cyI cyZ cyO s.heap.size v0 1 0 (by decide)) (va_cwS 3 hts gX11_seen_X11_in rfl rfl rfl (by decide +kernel) ⟨Nat.le_of_ble_eq_true rfl, Nat.le_of_ble_eq_true rfl⟩) (yPreS hK hPc hDc) rfl rfl hl.1 rfl (lv_room (Nat.le_of_ble_eq_true rfl)) dX11_seen_29 ⟨Nat.le_of_ble_eq_true rfl, Nat.le_of_ble_eq_true rfl⟩) hP hD hS hA rfl rfl (by decide) (by decide) (fun r_2 u_1 H locs hw hP hD hS => ?_)
  have hP : va_P (dC, dI) vwCl [(a0, .inr (11, [.ref a1, .int 0, .int 0, .ref a2, .ref a3, .ref a4, .ref a5, .int 0, .ref a6, .ref a7, .ref a8, .int 0, .int 32, .int 0, .ref a9, .ref a10, .int 0, .int 0, .ref a11, .ref a12, .ref a13, .ref a14, .ref a15, .ref a16])), (a1, .inl (cyI, 2490, .inl (yz v0 1)))] H := hP
  have hD : va_D A [(a0, .inr (11, [.ref a1, .int 0, .int 0, .ref a2, .ref a3, .ref a4, .ref a5, .int 0, .ref a6, .ref a7, .ref a8, .int 0, .int 32, .int 0, .ref a9, .ref a10, .int 0, .int 0, .ref a11, .ref a12, .ref a13, .ref a14, .ref a15, .ref a16])), (a1, .inl (cyI, 2490, .inl (yz v0 1)))] := hD
  refine W.widen (k := 0) (n := 0) (Nat.le_of_ble_eq_true rfl) (Nat.le_of_ble_eq_true rfl) ?_
  have hw : r_2 = 0 := hw
  subst hw
  refine lv_istore_n (lv' := [(2, .int 0), (0, .ref a0), (1, .int 2)]) hx hb dX11_seen_32 rfl hl (by decide) rfl (fun ls hl => ?_)
  refine lv_iload_n hx hb dX11_seen_33 rfl (lv_at hl 0 rfl) ?_
  refine lv_if_eq (tgt := 56) hx hb dX11_seen_34 (by decide) (fun _ => ?_) (fun c => absurd (by decide) c)
  refine lv_aload_n hx hb dX11_seen_56 rfl (lv_at hl 1 rfl) ?_
  refine va_get (D := (dC, dI)) (ci := 11) (v := .ref a1) (C := RX11) (T := TX11) (N := 24) hx hb hts hnX11 hown hK hP 0 rfl rfl 0 (by decide) hf7 (fun _ h9 => h9) rfl dX11_seen_57 ?_
  refine lv_iload_n hx hb dX11_seen_60 rfl (lv_at hl 2 rfl) ?_
  refine yy_iald (v := 0) hx hb hK hP 1 0 rfl rfl (yin (by decide)) dX11_seen_61 rfl ?_
  refine W.widen (k := 0) (n := 0) (Nat.le_of_ble_eq_true rfl) (Nat.le_of_ble_eq_true rfl) ?_
  exact yy_iret (v := 0) () hx hb hr hlk rfl hsz hAe hK hP hD hS [0, 1] rfl rfl (by decide) (rfl) dX11_seen_62
set_option maxHeartbeats 4000000 in
set_option maxRecDepth 100000 in
theorem rS_X11_seen_123 (l : Launch) (dC : Nat → ClassId) (dI : Nat → Nat → Nat) (cyI cyZ cyO : ClassId) (sz : Nat) (a0 : Nat) (a1 : Nat) (a2 : Nat) (a3 : Nat) (a4 : Nat) (a5 : Nat) (a6 : Nat) (a7 : Nat) (a8 : Nat) (a9 : Nat) (a10 : Nat) (a11 : Nat) (a12 : Nat) (a13 : Nat) (a14 : Nat) (a15 : Nat) (a16 : Nat) (v0 : Int32)  : Met l yX11_seen wsX11_seen ({ frames := 1, cells := 0, slots := 0, locals := 25 }) (yPre [.ref a0, .int 3] (dC, dI) [(a0, .inr (11, [.ref a1, .int 0, .int 0, .ref a2, .ref a3, .ref a4, .ref a5, .int 0, .ref a6, .ref a7, .ref a8, .int 0, .int 32, .int 0, .ref a9, .ref a10, .int 0, .int 0, .ref a11, .ref a12, .ref a13, .ref a14, .ref a15, .ref a16])), (a1, .inl (cyI, 2490, .inl (yz v0 1)))] (yT cyI cyZ cyO) sz) (yQi (fun (r : Int32) (u : Unit) => r = 0) (dC, dI) [(a0, .inr (11, [.ref a1, .int 0, .int 0, .ref a2, .ref a3, .ref a4, .ref a5, .int 0, .ref a6, .ref a7, .ref a8, .int 0, .int 32, .int 0, .ref a9, .ref a10, .int 0, .int 0, .ref a11, .ref a12, .ref a13, .ref a14, .ref a15, .ref a16])), (a1, .inl (cyI, 2490, .inl (yz v0 1)))] (yT cyI cyZ cyO) sz (fun _ => [(a0, .inr (11, [.ref a1, .int 0, .int 0, .ref a2, .ref a3, .ref a4, .ref a5, .int 0, .ref a6, .ref a7, .ref a8, .int 0, .int 32, .int 0, .ref a9, .ref a10, .int 0, .int 0, .ref a11, .ref a12, .ref a13, .ref a14, .ref a15, .ref a16])), (a1, .inl (cyI, 2490, .inl (yz v0 1)))])) 0 0 (va_A [(a0, .inr (11, [.ref a1, .int 0, .int 0, .ref a2, .ref a3, .ref a4, .ref a5, .int 0, .ref a6, .ref a7, .ref a8, .int 0, .int 32, .int 0, .ref a9, .ref a10, .int 0, .int 0, .ref a11, .ref a12, .ref a13, .ref a14, .ref a15, .ref a16])), (a1, .inl (cyI, 2490, .inl (yz v0 1)))] sz) := by
  refine yMet (cc := cX11_seen) (maxL := 3) (ret := (some .int)) (by decide) rfl (Nat.le_of_ble_eq_true rfl) ?_
  intro p e s m below meth c A hx hb hr hlk hml hts hown hnm hsz hAe hP hK hD hA hS ls hl
  have hl : lv_has ls 3 [(0, .ref a0), (1, .int 3)] := hl
  have hf7 := hts (.fieldLink RX11 7 "BusBridgeModel" "z" "[I") (by decide +kernel)
  have hnX11 : ∀ w ∈ wsX110, w ∈ wsX11_seen := by decide +kernel
  refine lv_aload_n hx hb dX11_seen_0 rfl (lv_at hl 0 rfl) ?_
  refine va_get (D := (dC, dI)) (ci := 11) (v := .ref a1) (C := RX11) (T := TX11) (N := 24) hx hb hts hnX11 hown hK hP 0 rfl rfl 0 (by decide) hf7 (fun _ h9 => h9) rfl dX11_seen_1 ?_
  refine lv_sipush (v := 179) hx hb dX11_seen_4 (by decide) ?_
  refine yy_iald (v := v0) hx hb hK hP 1 0 rfl rfl (yin (by decide)) dX11_seen_7 rfl ?_
  refine lv_i2l hx hb dX11_seen_8 rfl ?_
  refine lv_aload_n hx hb dX11_seen_9 rfl (lv_at hl 0 rfl) ?_
  refine va_get (D := (dC, dI)) (ci := 11) (v := .ref a1) (C := RX11) (T := TX11) (N := 24) hx hb hts hnX11 hown hK hP 0 rfl rfl 0 (by decide) hf7 (fun _ h9 => h9) rfl dX11_seen_10 ?_
  refine lv_bipush (v := 45) hx hb dX11_seen_13 (by decide) ?_
  refine lv_iload_n hx hb dX11_seen_15 rfl (lv_at hl 1 rfl) ?_
  refine lv_iadd hx hb dX11_seen_16 ?_
  refine yy_int (v := 48) (by decide) ?_
  refine yy_iald (v := 1) hx hb hK hP 1 0 rfl rfl (yin (by decide)) dX11_seen_17 rfl ?_
  refine lv_i2l hx hb dX11_seen_18 rfl ?_
  refine lv_aload_n hx hb dX11_seen_19 rfl (lv_at hl 0 rfl) ?_
  refine va_get (D := (dC, dI)) (ci := 11) (v := .ref a1) (C := RX11) (T := TX11) (N := 24) hx hb hts hnX11 hown hK hP 0 rfl rfl 0 (by decide) hf7 (fun _ h9 => h9) rfl dX11_seen_20 ?_
  refine lv_bipush (v := 60) hx hb dX11_seen_23 (by decide) ?_
  refine lv_iload_n hx hb dX11_seen_25 rfl (lv_at hl 1 rfl) ?_
  refine lv_iadd hx hb dX11_seen_26 ?_
  refine yy_int (v := 63) (by decide) ?_
  refine yy_iald (v := 0) hx hb hK hP 1 0 rfl rfl (yin (by decide)) dX11_seen_27 rfl ?_
  refine lv_i2l hx hb dX11_seen_28 rfl ?_
  have hPc := hP.sub (ws' := []) [] rfl
  have hDc := hD.sub (ws' := []) [] (by decide) rfl
  refine yy_calli [] [0, 1] (wr := [(a0, .inr (11, [.ref a1, .int 0, .int 0, .ref a2, .ref a3, .ref a4, .ref a5, .int 0, .ref a6, .ref a7, .ref a8, .int 0, .int 32, .int 0, .ref a9, .ref a10, .int 0, .int 0, .ref a11, .ref a12, .ref a13, .ref a14, .ref a15, .ref a16])), (a1, .inl (cyI, 2490, .inl (yz v0 1)))]) (va_runS (As := [.long (v0 : Int32).toInt64, .long (1 : Int32).toInt64, .long (0 : Int32).toInt64]) (rest := []) ⟨hx, hb, hml, hown, hts⟩ (r_inE l dC dI cyI cyZ cyO s.heap.size v0 1 0 (by decide)) (va_cwS 3 hts gX11_seen_X11_in rfl rfl rfl (by decide +kernel) ⟨Nat.le_of_ble_eq_true rfl, Nat.le_of_ble_eq_true rfl⟩) (yPreS hK hPc hDc) rfl rfl hl.1 rfl (lv_room (Nat.le_of_ble_eq_true rfl)) dX11_seen_29 ⟨Nat.le_of_ble_eq_true rfl, Nat.le_of_ble_eq_true rfl⟩) hP hD hS hA rfl rfl (by decide) (by decide) (fun r_2 u_1 H locs hw hP hD hS => ?_)
  have hP : va_P (dC, dI) vwCl [(a0, .inr (11, [.ref a1, .int 0, .int 0, .ref a2, .ref a3, .ref a4, .ref a5, .int 0, .ref a6, .ref a7, .ref a8, .int 0, .int 32, .int 0, .ref a9, .ref a10, .int 0, .int 0, .ref a11, .ref a12, .ref a13, .ref a14, .ref a15, .ref a16])), (a1, .inl (cyI, 2490, .inl (yz v0 1)))] H := hP
  have hD : va_D A [(a0, .inr (11, [.ref a1, .int 0, .int 0, .ref a2, .ref a3, .ref a4, .ref a5, .int 0, .ref a6, .ref a7, .ref a8, .int 0, .int 32, .int 0, .ref a9, .ref a10, .int 0, .int 0, .ref a11, .ref a12, .ref a13, .ref a14, .ref a15, .ref a16])), (a1, .inl (cyI, 2490, .inl (yz v0 1)))] := hD
  refine W.widen (k := 0) (n := 0) (Nat.le_of_ble_eq_true rfl) (Nat.le_of_ble_eq_true rfl) ?_
  have hw : r_2 = 0 := hw
  subst hw
  refine lv_istore_n (lv' := [(2, .int 0), (0, .ref a0), (1, .int 3)]) hx hb dX11_seen_32 rfl hl (by decide) rfl (fun ls hl => ?_)
  refine lv_iload_n hx hb dX11_seen_33 rfl (lv_at hl 0 rfl) ?_
  refine lv_if_eq (tgt := 56) hx hb dX11_seen_34 (by decide) (fun _ => ?_) (fun c => absurd (by decide) c)
  refine lv_aload_n hx hb dX11_seen_56 rfl (lv_at hl 1 rfl) ?_
  refine va_get (D := (dC, dI)) (ci := 11) (v := .ref a1) (C := RX11) (T := TX11) (N := 24) hx hb hts hnX11 hown hK hP 0 rfl rfl 0 (by decide) hf7 (fun _ h9 => h9) rfl dX11_seen_57 ?_
  refine lv_iload_n hx hb dX11_seen_60 rfl (lv_at hl 2 rfl) ?_
  refine yy_iald (v := 0) hx hb hK hP 1 0 rfl rfl (yin (by decide)) dX11_seen_61 rfl ?_
  refine W.widen (k := 0) (n := 0) (Nat.le_of_ble_eq_true rfl) (Nat.le_of_ble_eq_true rfl) ?_
  exact yy_iret (v := 0) () hx hb hr hlk rfl hsz hAe hK hP hD hS [0, 1] rfl rfl (by decide) (rfl) dX11_seen_62
set_option maxHeartbeats 4000000 in
set_option maxRecDepth 100000 in
theorem rS_X11_seen_124 (l : Launch) (dC : Nat → ClassId) (dI : Nat → Nat → Nat) (cyI cyZ cyO : ClassId) (sz : Nat) (a0 : Nat) (a1 : Nat) (a2 : Nat) (a3 : Nat) (a4 : Nat) (a5 : Nat) (a6 : Nat) (a7 : Nat) (a8 : Nat) (a9 : Nat) (a10 : Nat) (a11 : Nat) (a12 : Nat) (a13 : Nat) (a14 : Nat) (a15 : Nat) (a16 : Nat) (v0 : Int32)  : Met l yX11_seen wsX11_seen ({ frames := 1, cells := 0, slots := 0, locals := 25 }) (yPre [.ref a0, .int 4] (dC, dI) [(a0, .inr (11, [.ref a1, .int 0, .int 0, .ref a2, .ref a3, .ref a4, .ref a5, .int 0, .ref a6, .ref a7, .ref a8, .int 0, .int 32, .int 0, .ref a9, .ref a10, .int 0, .int 0, .ref a11, .ref a12, .ref a13, .ref a14, .ref a15, .ref a16])), (a1, .inl (cyI, 2490, .inl (yz v0 1)))] (yT cyI cyZ cyO) sz) (yQi (fun (r : Int32) (u : Unit) => r = 1) (dC, dI) [(a0, .inr (11, [.ref a1, .int 0, .int 0, .ref a2, .ref a3, .ref a4, .ref a5, .int 0, .ref a6, .ref a7, .ref a8, .int 0, .int 32, .int 0, .ref a9, .ref a10, .int 0, .int 0, .ref a11, .ref a12, .ref a13, .ref a14, .ref a15, .ref a16])), (a1, .inl (cyI, 2490, .inl (yz v0 1)))] (yT cyI cyZ cyO) sz (fun _ => [(a0, .inr (11, [.ref a1, .int 0, .int 0, .ref a2, .ref a3, .ref a4, .ref a5, .int 0, .ref a6, .ref a7, .ref a8, .int 0, .int 32, .int 0, .ref a9, .ref a10, .int 0, .int 0, .ref a11, .ref a12, .ref a13, .ref a14, .ref a15, .ref a16])), (a1, .inl (cyI, 2490, .inl (yz v0 1)))])) 0 0 (va_A [(a0, .inr (11, [.ref a1, .int 0, .int 0, .ref a2, .ref a3, .ref a4, .ref a5, .int 0, .ref a6, .ref a7, .ref a8, .int 0, .int 32, .int 0, .ref a9, .ref a10, .int 0, .int 0, .ref a11, .ref a12, .ref a13, .ref a14, .ref a15, .ref a16])), (a1, .inl (cyI, 2490, .inl (yz v0 1)))] sz) := by
  refine yMet (cc := cX11_seen) (maxL := 3) (ret := (some .int)) (by decide) rfl (Nat.le_of_ble_eq_true rfl) ?_
  intro p e s m below meth c A hx hb hr hlk hml hts hown hnm hsz hAe hP hK hD hA hS ls hl
  have hl : lv_has ls 3 [(0, .ref a0), (1, .int 4)] := hl
  have hf7 := hts (.fieldLink RX11 7 "BusBridgeModel" "z" "[I") (by decide +kernel)
  have hnX11 : ∀ w ∈ wsX110, w ∈ wsX11_seen := by decide +kernel
  refine lv_aload_n hx hb dX11_seen_0 rfl (lv_at hl 0 rfl) ?_
  refine va_get (D := (dC, dI)) (ci := 11) (v := .ref a1) (C := RX11) (T := TX11) (N := 24) hx hb hts hnX11 hown hK hP 0 rfl rfl 0 (by decide) hf7 (fun _ h9 => h9) rfl dX11_seen_1 ?_
  refine lv_sipush (v := 179) hx hb dX11_seen_4 (by decide) ?_
  refine yy_iald (v := v0) hx hb hK hP 1 0 rfl rfl (yin (by decide)) dX11_seen_7 rfl ?_
  refine lv_i2l hx hb dX11_seen_8 rfl ?_
  refine lv_aload_n hx hb dX11_seen_9 rfl (lv_at hl 0 rfl) ?_
  refine va_get (D := (dC, dI)) (ci := 11) (v := .ref a1) (C := RX11) (T := TX11) (N := 24) hx hb hts hnX11 hown hK hP 0 rfl rfl 0 (by decide) hf7 (fun _ h9 => h9) rfl dX11_seen_10 ?_
  refine lv_bipush (v := 45) hx hb dX11_seen_13 (by decide) ?_
  refine lv_iload_n hx hb dX11_seen_15 rfl (lv_at hl 1 rfl) ?_
  refine lv_iadd hx hb dX11_seen_16 ?_
  refine yy_int (v := 49) (by decide) ?_
  refine yy_iald (v := 1) hx hb hK hP 1 0 rfl rfl (yin (by decide)) dX11_seen_17 rfl ?_
  refine lv_i2l hx hb dX11_seen_18 rfl ?_
  refine lv_aload_n hx hb dX11_seen_19 rfl (lv_at hl 0 rfl) ?_
  refine va_get (D := (dC, dI)) (ci := 11) (v := .ref a1) (C := RX11) (T := TX11) (N := 24) hx hb hts hnX11 hown hK hP 0 rfl rfl 0 (by decide) hf7 (fun _ h9 => h9) rfl dX11_seen_20 ?_
  refine lv_bipush (v := 60) hx hb dX11_seen_23 (by decide) ?_
  refine lv_iload_n hx hb dX11_seen_25 rfl (lv_at hl 1 rfl) ?_
  refine lv_iadd hx hb dX11_seen_26 ?_
  refine yy_int (v := 64) (by decide) ?_
  refine yy_iald (v := 0) hx hb hK hP 1 0 rfl rfl (yin (by decide)) dX11_seen_27 rfl ?_
  refine lv_i2l hx hb dX11_seen_28 rfl ?_
  have hPc := hP.sub (ws' := []) [] rfl
  have hDc := hD.sub (ws' := []) [] (by decide) rfl
  refine yy_calli [] [0, 1] (wr := [(a0, .inr (11, [.ref a1, .int 0, .int 0, .ref a2, .ref a3, .ref a4, .ref a5, .int 0, .ref a6, .ref a7, .ref a8, .int 0, .int 32, .int 0, .ref a9, .ref a10, .int 0, .int 0, .ref a11, .ref a12, .ref a13, .ref a14, .ref a15, .ref a16])), (a1, .inl (cyI, 2490, .inl (yz v0 1)))]) (va_runS (As := [.long (v0 : Int32).toInt64, .long (1 : Int32).toInt64, .long (0 : Int32).toInt64]) (rest := []) ⟨hx, hb, hml, hown, hts⟩ (r_inE l dC dI cyI cyZ cyO s.heap.size v0 1 0 (by decide)) (va_cwS 3 hts gX11_seen_X11_in rfl rfl rfl (by decide +kernel) ⟨Nat.le_of_ble_eq_true rfl, Nat.le_of_ble_eq_true rfl⟩) (yPreS hK hPc hDc) rfl rfl hl.1 rfl (lv_room (Nat.le_of_ble_eq_true rfl)) dX11_seen_29 ⟨Nat.le_of_ble_eq_true rfl, Nat.le_of_ble_eq_true rfl⟩) hP hD hS hA rfl rfl (by decide) (by decide) (fun r_2 u_1 H locs hw hP hD hS => ?_)
  have hP : va_P (dC, dI) vwCl [(a0, .inr (11, [.ref a1, .int 0, .int 0, .ref a2, .ref a3, .ref a4, .ref a5, .int 0, .ref a6, .ref a7, .ref a8, .int 0, .int 32, .int 0, .ref a9, .ref a10, .int 0, .int 0, .ref a11, .ref a12, .ref a13, .ref a14, .ref a15, .ref a16])), (a1, .inl (cyI, 2490, .inl (yz v0 1)))] H := hP
  have hD : va_D A [(a0, .inr (11, [.ref a1, .int 0, .int 0, .ref a2, .ref a3, .ref a4, .ref a5, .int 0, .ref a6, .ref a7, .ref a8, .int 0, .int 32, .int 0, .ref a9, .ref a10, .int 0, .int 0, .ref a11, .ref a12, .ref a13, .ref a14, .ref a15, .ref a16])), (a1, .inl (cyI, 2490, .inl (yz v0 1)))] := hD
  refine W.widen (k := 0) (n := 0) (Nat.le_of_ble_eq_true rfl) (Nat.le_of_ble_eq_true rfl) ?_
  have hw : r_2 = 0 := hw
  subst hw
  refine lv_istore_n (lv' := [(2, .int 0), (0, .ref a0), (1, .int 4)]) hx hb dX11_seen_32 rfl hl (by decide) rfl (fun ls hl => ?_)
  refine lv_iload_n hx hb dX11_seen_33 rfl (lv_at hl 0 rfl) ?_
  refine lv_if_eq (tgt := 56) hx hb dX11_seen_34 (by decide) (fun _ => ?_) (fun c => absurd (by decide) c)
  refine lv_aload_n hx hb dX11_seen_56 rfl (lv_at hl 1 rfl) ?_
  refine va_get (D := (dC, dI)) (ci := 11) (v := .ref a1) (C := RX11) (T := TX11) (N := 24) hx hb hts hnX11 hown hK hP 0 rfl rfl 0 (by decide) hf7 (fun _ h9 => h9) rfl dX11_seen_57 ?_
  refine lv_iload_n hx hb dX11_seen_60 rfl (lv_at hl 2 rfl) ?_
  refine yy_iald (v := 1) hx hb hK hP 1 0 rfl rfl (yin (by decide)) dX11_seen_61 rfl ?_
  refine W.widen (k := 0) (n := 0) (Nat.le_of_ble_eq_true rfl) (Nat.le_of_ble_eq_true rfl) ?_
  exact yy_iret (v := 1) () hx hb hr hlk rfl hsz hAe hK hP hD hS [0, 1] rfl rfl (by decide) (rfl) dX11_seen_62
set_option maxHeartbeats 4000000 in
set_option maxRecDepth 100000 in
theorem rS_X11_seen_125 (l : Launch) (dC : Nat → ClassId) (dI : Nat → Nat → Nat) (cyI cyZ cyO : ClassId) (sz : Nat) (a0 : Nat) (a1 : Nat) (a2 : Nat) (a3 : Nat) (a4 : Nat) (a5 : Nat) (a6 : Nat) (a7 : Nat) (a8 : Nat) (a9 : Nat) (a10 : Nat) (a11 : Nat) (a12 : Nat) (a13 : Nat) (a14 : Nat) (a15 : Nat) (a16 : Nat) (v0 : Int32)  : Met l yX11_seen wsX11_seen ({ frames := 1, cells := 0, slots := 0, locals := 25 }) (yPre [.ref a0, .int 5] (dC, dI) [(a0, .inr (11, [.ref a1, .int 0, .int 0, .ref a2, .ref a3, .ref a4, .ref a5, .int 0, .ref a6, .ref a7, .ref a8, .int 0, .int 32, .int 0, .ref a9, .ref a10, .int 0, .int 0, .ref a11, .ref a12, .ref a13, .ref a14, .ref a15, .ref a16])), (a1, .inl (cyI, 2490, .inl (yz v0 1)))] (yT cyI cyZ cyO) sz) (yQi (fun (r : Int32) (u : Unit) => r = 0) (dC, dI) [(a0, .inr (11, [.ref a1, .int 0, .int 0, .ref a2, .ref a3, .ref a4, .ref a5, .int 0, .ref a6, .ref a7, .ref a8, .int 0, .int 32, .int 0, .ref a9, .ref a10, .int 0, .int 0, .ref a11, .ref a12, .ref a13, .ref a14, .ref a15, .ref a16])), (a1, .inl (cyI, 2490, .inl (yz v0 1)))] (yT cyI cyZ cyO) sz (fun _ => [(a0, .inr (11, [.ref a1, .int 0, .int 0, .ref a2, .ref a3, .ref a4, .ref a5, .int 0, .ref a6, .ref a7, .ref a8, .int 0, .int 32, .int 0, .ref a9, .ref a10, .int 0, .int 0, .ref a11, .ref a12, .ref a13, .ref a14, .ref a15, .ref a16])), (a1, .inl (cyI, 2490, .inl (yz v0 1)))])) 0 0 (va_A [(a0, .inr (11, [.ref a1, .int 0, .int 0, .ref a2, .ref a3, .ref a4, .ref a5, .int 0, .ref a6, .ref a7, .ref a8, .int 0, .int 32, .int 0, .ref a9, .ref a10, .int 0, .int 0, .ref a11, .ref a12, .ref a13, .ref a14, .ref a15, .ref a16])), (a1, .inl (cyI, 2490, .inl (yz v0 1)))] sz) := by
  refine yMet (cc := cX11_seen) (maxL := 3) (ret := (some .int)) (by decide) rfl (Nat.le_of_ble_eq_true rfl) ?_
  intro p e s m below meth c A hx hb hr hlk hml hts hown hnm hsz hAe hP hK hD hA hS ls hl
  have hl : lv_has ls 3 [(0, .ref a0), (1, .int 5)] := hl
  have hf7 := hts (.fieldLink RX11 7 "BusBridgeModel" "z" "[I") (by decide +kernel)
  have hnX11 : ∀ w ∈ wsX110, w ∈ wsX11_seen := by decide +kernel
  refine lv_aload_n hx hb dX11_seen_0 rfl (lv_at hl 0 rfl) ?_
  refine va_get (D := (dC, dI)) (ci := 11) (v := .ref a1) (C := RX11) (T := TX11) (N := 24) hx hb hts hnX11 hown hK hP 0 rfl rfl 0 (by decide) hf7 (fun _ h9 => h9) rfl dX11_seen_1 ?_
  refine lv_sipush (v := 179) hx hb dX11_seen_4 (by decide) ?_
  refine yy_iald (v := v0) hx hb hK hP 1 0 rfl rfl (yin (by decide)) dX11_seen_7 rfl ?_
  refine lv_i2l hx hb dX11_seen_8 rfl ?_
  refine lv_aload_n hx hb dX11_seen_9 rfl (lv_at hl 0 rfl) ?_
  refine va_get (D := (dC, dI)) (ci := 11) (v := .ref a1) (C := RX11) (T := TX11) (N := 24) hx hb hts hnX11 hown hK hP 0 rfl rfl 0 (by decide) hf7 (fun _ h9 => h9) rfl dX11_seen_10 ?_
  refine lv_bipush (v := 45) hx hb dX11_seen_13 (by decide) ?_
  refine lv_iload_n hx hb dX11_seen_15 rfl (lv_at hl 1 rfl) ?_
  refine lv_iadd hx hb dX11_seen_16 ?_
  refine yy_int (v := 50) (by decide) ?_
  refine yy_iald (v := 1) hx hb hK hP 1 0 rfl rfl (yin (by decide)) dX11_seen_17 rfl ?_
  refine lv_i2l hx hb dX11_seen_18 rfl ?_
  refine lv_aload_n hx hb dX11_seen_19 rfl (lv_at hl 0 rfl) ?_
  refine va_get (D := (dC, dI)) (ci := 11) (v := .ref a1) (C := RX11) (T := TX11) (N := 24) hx hb hts hnX11 hown hK hP 0 rfl rfl 0 (by decide) hf7 (fun _ h9 => h9) rfl dX11_seen_20 ?_
  refine lv_bipush (v := 60) hx hb dX11_seen_23 (by decide) ?_
  refine lv_iload_n hx hb dX11_seen_25 rfl (lv_at hl 1 rfl) ?_
  refine lv_iadd hx hb dX11_seen_26 ?_
  refine yy_int (v := 65) (by decide) ?_
  refine yy_iald (v := 0) hx hb hK hP 1 0 rfl rfl (yin (by decide)) dX11_seen_27 rfl ?_
  refine lv_i2l hx hb dX11_seen_28 rfl ?_
  have hPc := hP.sub (ws' := []) [] rfl
  have hDc := hD.sub (ws' := []) [] (by decide) rfl
  refine yy_calli [] [0, 1] (wr := [(a0, .inr (11, [.ref a1, .int 0, .int 0, .ref a2, .ref a3, .ref a4, .ref a5, .int 0, .ref a6, .ref a7, .ref a8, .int 0, .int 32, .int 0, .ref a9, .ref a10, .int 0, .int 0, .ref a11, .ref a12, .ref a13, .ref a14, .ref a15, .ref a16])), (a1, .inl (cyI, 2490, .inl (yz v0 1)))]) (va_runS (As := [.long (v0 : Int32).toInt64, .long (1 : Int32).toInt64, .long (0 : Int32).toInt64]) (rest := []) ⟨hx, hb, hml, hown, hts⟩ (r_inE l dC dI cyI cyZ cyO s.heap.size v0 1 0 (by decide)) (va_cwS 3 hts gX11_seen_X11_in rfl rfl rfl (by decide +kernel) ⟨Nat.le_of_ble_eq_true rfl, Nat.le_of_ble_eq_true rfl⟩) (yPreS hK hPc hDc) rfl rfl hl.1 rfl (lv_room (Nat.le_of_ble_eq_true rfl)) dX11_seen_29 ⟨Nat.le_of_ble_eq_true rfl, Nat.le_of_ble_eq_true rfl⟩) hP hD hS hA rfl rfl (by decide) (by decide) (fun r_2 u_1 H locs hw hP hD hS => ?_)
  have hP : va_P (dC, dI) vwCl [(a0, .inr (11, [.ref a1, .int 0, .int 0, .ref a2, .ref a3, .ref a4, .ref a5, .int 0, .ref a6, .ref a7, .ref a8, .int 0, .int 32, .int 0, .ref a9, .ref a10, .int 0, .int 0, .ref a11, .ref a12, .ref a13, .ref a14, .ref a15, .ref a16])), (a1, .inl (cyI, 2490, .inl (yz v0 1)))] H := hP
  have hD : va_D A [(a0, .inr (11, [.ref a1, .int 0, .int 0, .ref a2, .ref a3, .ref a4, .ref a5, .int 0, .ref a6, .ref a7, .ref a8, .int 0, .int 32, .int 0, .ref a9, .ref a10, .int 0, .int 0, .ref a11, .ref a12, .ref a13, .ref a14, .ref a15, .ref a16])), (a1, .inl (cyI, 2490, .inl (yz v0 1)))] := hD
  refine W.widen (k := 0) (n := 0) (Nat.le_of_ble_eq_true rfl) (Nat.le_of_ble_eq_true rfl) ?_
  have hw : r_2 = 0 := hw
  subst hw
  refine lv_istore_n (lv' := [(2, .int 0), (0, .ref a0), (1, .int 5)]) hx hb dX11_seen_32 rfl hl (by decide) rfl (fun ls hl => ?_)
  refine lv_iload_n hx hb dX11_seen_33 rfl (lv_at hl 0 rfl) ?_
  refine lv_if_eq (tgt := 56) hx hb dX11_seen_34 (by decide) (fun _ => ?_) (fun c => absurd (by decide) c)
  refine lv_aload_n hx hb dX11_seen_56 rfl (lv_at hl 1 rfl) ?_
  refine va_get (D := (dC, dI)) (ci := 11) (v := .ref a1) (C := RX11) (T := TX11) (N := 24) hx hb hts hnX11 hown hK hP 0 rfl rfl 0 (by decide) hf7 (fun _ h9 => h9) rfl dX11_seen_57 ?_
  refine lv_iload_n hx hb dX11_seen_60 rfl (lv_at hl 2 rfl) ?_
  refine yy_iald (v := 0) hx hb hK hP 1 0 rfl rfl (yin (by decide)) dX11_seen_61 rfl ?_
  refine W.widen (k := 0) (n := 0) (Nat.le_of_ble_eq_true rfl) (Nat.le_of_ble_eq_true rfl) ?_
  exact yy_iret (v := 0) () hx hb hr hlk rfl hsz hAe hK hP hD hS [0, 1] rfl rfl (by decide) (rfl) dX11_seen_62
set_option maxHeartbeats 4000000 in
set_option maxRecDepth 100000 in
theorem rS_X11_seen_126 (l : Launch) (dC : Nat → ClassId) (dI : Nat → Nat → Nat) (cyI cyZ cyO : ClassId) (sz : Nat) (a0 : Nat) (a1 : Nat) (a2 : Nat) (a3 : Nat) (a4 : Nat) (a5 : Nat) (a6 : Nat) (a7 : Nat) (a8 : Nat) (a9 : Nat) (a10 : Nat) (a11 : Nat) (a12 : Nat) (a13 : Nat) (a14 : Nat) (a15 : Nat) (a16 : Nat) (v0 : Int32)  : Met l yX11_seen wsX11_seen ({ frames := 1, cells := 0, slots := 0, locals := 25 }) (yPre [.ref a0, .int 6] (dC, dI) [(a0, .inr (11, [.ref a1, .int 0, .int 0, .ref a2, .ref a3, .ref a4, .ref a5, .int 0, .ref a6, .ref a7, .ref a8, .int 0, .int 32, .int 0, .ref a9, .ref a10, .int 0, .int 0, .ref a11, .ref a12, .ref a13, .ref a14, .ref a15, .ref a16])), (a1, .inl (cyI, 2490, .inl (yz v0 1)))] (yT cyI cyZ cyO) sz) (yQi (fun (r : Int32) (u : Unit) => r = 0) (dC, dI) [(a0, .inr (11, [.ref a1, .int 0, .int 0, .ref a2, .ref a3, .ref a4, .ref a5, .int 0, .ref a6, .ref a7, .ref a8, .int 0, .int 32, .int 0, .ref a9, .ref a10, .int 0, .int 0, .ref a11, .ref a12, .ref a13, .ref a14, .ref a15, .ref a16])), (a1, .inl (cyI, 2490, .inl (yz v0 1)))] (yT cyI cyZ cyO) sz (fun _ => [(a0, .inr (11, [.ref a1, .int 0, .int 0, .ref a2, .ref a3, .ref a4, .ref a5, .int 0, .ref a6, .ref a7, .ref a8, .int 0, .int 32, .int 0, .ref a9, .ref a10, .int 0, .int 0, .ref a11, .ref a12, .ref a13, .ref a14, .ref a15, .ref a16])), (a1, .inl (cyI, 2490, .inl (yz v0 1)))])) 0 0 (va_A [(a0, .inr (11, [.ref a1, .int 0, .int 0, .ref a2, .ref a3, .ref a4, .ref a5, .int 0, .ref a6, .ref a7, .ref a8, .int 0, .int 32, .int 0, .ref a9, .ref a10, .int 0, .int 0, .ref a11, .ref a12, .ref a13, .ref a14, .ref a15, .ref a16])), (a1, .inl (cyI, 2490, .inl (yz v0 1)))] sz) := by
  refine yMet (cc := cX11_seen) (maxL := 3) (ret := (some .int)) (by decide) rfl (Nat.le_of_ble_eq_true rfl) ?_
  intro p e s m below meth c A hx hb hr hlk hml hts hown hnm hsz hAe hP hK hD hA hS ls hl
  have hl : lv_has ls 3 [(0, .ref a0), (1, .int 6)] := hl
  have hf7 := hts (.fieldLink RX11 7 "BusBridgeModel" "z" "[I") (by decide +kernel)
  have hnX11 : ∀ w ∈ wsX110, w ∈ wsX11_seen := by decide +kernel
  refine lv_aload_n hx hb dX11_seen_0 rfl (lv_at hl 0 rfl) ?_
  refine va_get (D := (dC, dI)) (ci := 11) (v := .ref a1) (C := RX11) (T := TX11) (N := 24) hx hb hts hnX11 hown hK hP 0 rfl rfl 0 (by decide) hf7 (fun _ h9 => h9) rfl dX11_seen_1 ?_
  refine lv_sipush (v := 179) hx hb dX11_seen_4 (by decide) ?_
  refine yy_iald (v := v0) hx hb hK hP 1 0 rfl rfl (yin (by decide)) dX11_seen_7 rfl ?_
  refine lv_i2l hx hb dX11_seen_8 rfl ?_
  refine lv_aload_n hx hb dX11_seen_9 rfl (lv_at hl 0 rfl) ?_
  refine va_get (D := (dC, dI)) (ci := 11) (v := .ref a1) (C := RX11) (T := TX11) (N := 24) hx hb hts hnX11 hown hK hP 0 rfl rfl 0 (by decide) hf7 (fun _ h9 => h9) rfl dX11_seen_10 ?_
  refine lv_bipush (v := 45) hx hb dX11_seen_13 (by decide) ?_
  refine lv_iload_n hx hb dX11_seen_15 rfl (lv_at hl 1 rfl) ?_
  refine lv_iadd hx hb dX11_seen_16 ?_
  refine yy_int (v := 51) (by decide) ?_
  refine yy_iald (v := 1) hx hb hK hP 1 0 rfl rfl (yin (by decide)) dX11_seen_17 rfl ?_
  refine lv_i2l hx hb dX11_seen_18 rfl ?_
  refine lv_aload_n hx hb dX11_seen_19 rfl (lv_at hl 0 rfl) ?_
  refine va_get (D := (dC, dI)) (ci := 11) (v := .ref a1) (C := RX11) (T := TX11) (N := 24) hx hb hts hnX11 hown hK hP 0 rfl rfl 0 (by decide) hf7 (fun _ h9 => h9) rfl dX11_seen_20 ?_
  refine lv_bipush (v := 60) hx hb dX11_seen_23 (by decide) ?_
  refine lv_iload_n hx hb dX11_seen_25 rfl (lv_at hl 1 rfl) ?_
  refine lv_iadd hx hb dX11_seen_26 ?_
  refine yy_int (v := 66) (by decide) ?_
  refine yy_iald (v := 0) hx hb hK hP 1 0 rfl rfl (yin (by decide)) dX11_seen_27 rfl ?_
  refine lv_i2l hx hb dX11_seen_28 rfl ?_
  have hPc := hP.sub (ws' := []) [] rfl
  have hDc := hD.sub (ws' := []) [] (by decide) rfl
  refine yy_calli [] [0, 1] (wr := [(a0, .inr (11, [.ref a1, .int 0, .int 0, .ref a2, .ref a3, .ref a4, .ref a5, .int 0, .ref a6, .ref a7, .ref a8, .int 0, .int 32, .int 0, .ref a9, .ref a10, .int 0, .int 0, .ref a11, .ref a12, .ref a13, .ref a14, .ref a15, .ref a16])), (a1, .inl (cyI, 2490, .inl (yz v0 1)))]) (va_runS (As := [.long (v0 : Int32).toInt64, .long (1 : Int32).toInt64, .long (0 : Int32).toInt64]) (rest := []) ⟨hx, hb, hml, hown, hts⟩ (r_inE l dC dI cyI cyZ cyO s.heap.size v0 1 0 (by decide)) (va_cwS 3 hts gX11_seen_X11_in rfl rfl rfl (by decide +kernel) ⟨Nat.le_of_ble_eq_true rfl, Nat.le_of_ble_eq_true rfl⟩) (yPreS hK hPc hDc) rfl rfl hl.1 rfl (lv_room (Nat.le_of_ble_eq_true rfl)) dX11_seen_29 ⟨Nat.le_of_ble_eq_true rfl, Nat.le_of_ble_eq_true rfl⟩) hP hD hS hA rfl rfl (by decide) (by decide) (fun r_2 u_1 H locs hw hP hD hS => ?_)
  have hP : va_P (dC, dI) vwCl [(a0, .inr (11, [.ref a1, .int 0, .int 0, .ref a2, .ref a3, .ref a4, .ref a5, .int 0, .ref a6, .ref a7, .ref a8, .int 0, .int 32, .int 0, .ref a9, .ref a10, .int 0, .int 0, .ref a11, .ref a12, .ref a13, .ref a14, .ref a15, .ref a16])), (a1, .inl (cyI, 2490, .inl (yz v0 1)))] H := hP
  have hD : va_D A [(a0, .inr (11, [.ref a1, .int 0, .int 0, .ref a2, .ref a3, .ref a4, .ref a5, .int 0, .ref a6, .ref a7, .ref a8, .int 0, .int 32, .int 0, .ref a9, .ref a10, .int 0, .int 0, .ref a11, .ref a12, .ref a13, .ref a14, .ref a15, .ref a16])), (a1, .inl (cyI, 2490, .inl (yz v0 1)))] := hD
  refine W.widen (k := 0) (n := 0) (Nat.le_of_ble_eq_true rfl) (Nat.le_of_ble_eq_true rfl) ?_
  have hw : r_2 = 0 := hw
  subst hw
  refine lv_istore_n (lv' := [(2, .int 0), (0, .ref a0), (1, .int 6)]) hx hb dX11_seen_32 rfl hl (by decide) rfl (fun ls hl => ?_)
  refine lv_iload_n hx hb dX11_seen_33 rfl (lv_at hl 0 rfl) ?_
  refine lv_if_eq (tgt := 56) hx hb dX11_seen_34 (by decide) (fun _ => ?_) (fun c => absurd (by decide) c)
  refine lv_aload_n hx hb dX11_seen_56 rfl (lv_at hl 1 rfl) ?_
  refine va_get (D := (dC, dI)) (ci := 11) (v := .ref a1) (C := RX11) (T := TX11) (N := 24) hx hb hts hnX11 hown hK hP 0 rfl rfl 0 (by decide) hf7 (fun _ h9 => h9) rfl dX11_seen_57 ?_
  refine lv_iload_n hx hb dX11_seen_60 rfl (lv_at hl 2 rfl) ?_
  refine yy_iald (v := 0) hx hb hK hP 1 0 rfl rfl (yin (by decide)) dX11_seen_61 rfl ?_
  refine W.widen (k := 0) (n := 0) (Nat.le_of_ble_eq_true rfl) (Nat.le_of_ble_eq_true rfl) ?_
  exact yy_iret (v := 0) () hx hb hr hlk rfl hsz hAe hK hP hD hS [0, 1] rfl rfl (by decide) (rfl) dX11_seen_62
set_option maxHeartbeats 4000000 in
set_option maxRecDepth 100000 in
theorem rS_X11_seen_127 (l : Launch) (dC : Nat → ClassId) (dI : Nat → Nat → Nat) (cyI cyZ cyO : ClassId) (sz : Nat) (a0 : Nat) (a1 : Nat) (a2 : Nat) (a3 : Nat) (a4 : Nat) (a5 : Nat) (a6 : Nat) (a7 : Nat) (a8 : Nat) (a9 : Nat) (a10 : Nat) (a11 : Nat) (a12 : Nat) (a13 : Nat) (a14 : Nat) (a15 : Nat) (a16 : Nat) (v0 : Int32)  : Met l yX11_seen wsX11_seen ({ frames := 1, cells := 0, slots := 0, locals := 25 }) (yPre [.ref a0, .int 7] (dC, dI) [(a0, .inr (11, [.ref a1, .int 0, .int 0, .ref a2, .ref a3, .ref a4, .ref a5, .int 0, .ref a6, .ref a7, .ref a8, .int 0, .int 32, .int 0, .ref a9, .ref a10, .int 0, .int 0, .ref a11, .ref a12, .ref a13, .ref a14, .ref a15, .ref a16])), (a1, .inl (cyI, 2490, .inl (yz v0 1)))] (yT cyI cyZ cyO) sz) (yQi (fun (r : Int32) (u : Unit) => r = 0) (dC, dI) [(a0, .inr (11, [.ref a1, .int 0, .int 0, .ref a2, .ref a3, .ref a4, .ref a5, .int 0, .ref a6, .ref a7, .ref a8, .int 0, .int 32, .int 0, .ref a9, .ref a10, .int 0, .int 0, .ref a11, .ref a12, .ref a13, .ref a14, .ref a15, .ref a16])), (a1, .inl (cyI, 2490, .inl (yz v0 1)))] (yT cyI cyZ cyO) sz (fun _ => [(a0, .inr (11, [.ref a1, .int 0, .int 0, .ref a2, .ref a3, .ref a4, .ref a5, .int 0, .ref a6, .ref a7, .ref a8, .int 0, .int 32, .int 0, .ref a9, .ref a10, .int 0, .int 0, .ref a11, .ref a12, .ref a13, .ref a14, .ref a15, .ref a16])), (a1, .inl (cyI, 2490, .inl (yz v0 1)))])) 0 0 (va_A [(a0, .inr (11, [.ref a1, .int 0, .int 0, .ref a2, .ref a3, .ref a4, .ref a5, .int 0, .ref a6, .ref a7, .ref a8, .int 0, .int 32, .int 0, .ref a9, .ref a10, .int 0, .int 0, .ref a11, .ref a12, .ref a13, .ref a14, .ref a15, .ref a16])), (a1, .inl (cyI, 2490, .inl (yz v0 1)))] sz) := by
  refine yMet (cc := cX11_seen) (maxL := 3) (ret := (some .int)) (by decide) rfl (Nat.le_of_ble_eq_true rfl) ?_
  intro p e s m below meth c A hx hb hr hlk hml hts hown hnm hsz hAe hP hK hD hA hS ls hl
  have hl : lv_has ls 3 [(0, .ref a0), (1, .int 7)] := hl
  have hf7 := hts (.fieldLink RX11 7 "BusBridgeModel" "z" "[I") (by decide +kernel)
  have hnX11 : ∀ w ∈ wsX110, w ∈ wsX11_seen := by decide +kernel
  refine lv_aload_n hx hb dX11_seen_0 rfl (lv_at hl 0 rfl) ?_
  refine va_get (D := (dC, dI)) (ci := 11) (v := .ref a1) (C := RX11) (T := TX11) (N := 24) hx hb hts hnX11 hown hK hP 0 rfl rfl 0 (by decide) hf7 (fun _ h9 => h9) rfl dX11_seen_1 ?_
  refine lv_sipush (v := 179) hx hb dX11_seen_4 (by decide) ?_
  refine yy_iald (v := v0) hx hb hK hP 1 0 rfl rfl (yin (by decide)) dX11_seen_7 rfl ?_
  refine lv_i2l hx hb dX11_seen_8 rfl ?_
  refine lv_aload_n hx hb dX11_seen_9 rfl (lv_at hl 0 rfl) ?_
  refine va_get (D := (dC, dI)) (ci := 11) (v := .ref a1) (C := RX11) (T := TX11) (N := 24) hx hb hts hnX11 hown hK hP 0 rfl rfl 0 (by decide) hf7 (fun _ h9 => h9) rfl dX11_seen_10 ?_
  refine lv_bipush (v := 45) hx hb dX11_seen_13 (by decide) ?_
  refine lv_iload_n hx hb dX11_seen_15 rfl (lv_at hl 1 rfl) ?_
  refine lv_iadd hx hb dX11_seen_16 ?_
  refine yy_int (v := 52) (by decide) ?_
  refine yy_iald (v := 1) hx hb hK hP 1 0 rfl rfl (yin (by decide)) dX11_seen_17 rfl ?_
  refine lv_i2l hx hb dX11_seen_18 rfl ?_
  refine lv_aload_n hx hb dX11_seen_19 rfl (lv_at hl 0 rfl) ?_
  refine va_get (D := (dC, dI)) (ci := 11) (v := .ref a1) (C := RX11) (T := TX11) (N := 24) hx hb hts hnX11 hown hK hP 0 rfl rfl 0 (by decide) hf7 (fun _ h9 => h9) rfl dX11_seen_20 ?_
  refine lv_bipush (v := 60) hx hb dX11_seen_23 (by decide) ?_
  refine lv_iload_n hx hb dX11_seen_25 rfl (lv_at hl 1 rfl) ?_
  refine lv_iadd hx hb dX11_seen_26 ?_
  refine yy_int (v := 67) (by decide) ?_
  refine yy_iald (v := 0) hx hb hK hP 1 0 rfl rfl (yin (by decide)) dX11_seen_27 rfl ?_
  refine lv_i2l hx hb dX11_seen_28 rfl ?_
  have hPc := hP.sub (ws' := []) [] rfl
  have hDc := hD.sub (ws' := []) [] (by decide) rfl
  refine yy_calli [] [0, 1] (wr := [(a0, .inr (11, [.ref a1, .int 0, .int 0, .ref a2, .ref a3, .ref a4, .ref a5, .int 0, .ref a6, .ref a7, .ref a8, .int 0, .int 32, .int 0, .ref a9, .ref a10, .int 0, .int 0, .ref a11, .ref a12, .ref a13, .ref a14, .ref a15, .ref a16])), (a1, .inl (cyI, 2490, .inl (yz v0 1)))]) (va_runS (As := [.long (v0 : Int32).toInt64, .long (1 : Int32).toInt64, .long (0 : Int32).toInt64]) (rest := []) ⟨hx, hb, hml, hown, hts⟩ (r_inE l dC dI cyI cyZ cyO s.heap.size v0 1 0 (by decide)) (va_cwS 3 hts gX11_seen_X11_in rfl rfl rfl (by decide +kernel) ⟨Nat.le_of_ble_eq_true rfl, Nat.le_of_ble_eq_true rfl⟩) (yPreS hK hPc hDc) rfl rfl hl.1 rfl (lv_room (Nat.le_of_ble_eq_true rfl)) dX11_seen_29 ⟨Nat.le_of_ble_eq_true rfl, Nat.le_of_ble_eq_true rfl⟩) hP hD hS hA rfl rfl (by decide) (by decide) (fun r_2 u_1 H locs hw hP hD hS => ?_)
  have hP : va_P (dC, dI) vwCl [(a0, .inr (11, [.ref a1, .int 0, .int 0, .ref a2, .ref a3, .ref a4, .ref a5, .int 0, .ref a6, .ref a7, .ref a8, .int 0, .int 32, .int 0, .ref a9, .ref a10, .int 0, .int 0, .ref a11, .ref a12, .ref a13, .ref a14, .ref a15, .ref a16])), (a1, .inl (cyI, 2490, .inl (yz v0 1)))] H := hP
  have hD : va_D A [(a0, .inr (11, [.ref a1, .int 0, .int 0, .ref a2, .ref a3, .ref a4, .ref a5, .int 0, .ref a6, .ref a7, .ref a8, .int 0, .int 32, .int 0, .ref a9, .ref a10, .int 0, .int 0, .ref a11, .ref a12, .ref a13, .ref a14, .ref a15, .ref a16])), (a1, .inl (cyI, 2490, .inl (yz v0 1)))] := hD
  refine W.widen (k := 0) (n := 0) (Nat.le_of_ble_eq_true rfl) (Nat.le_of_ble_eq_true rfl) ?_
  have hw : r_2 = 0 := hw
  subst hw
  refine lv_istore_n (lv' := [(2, .int 0), (0, .ref a0), (1, .int 7)]) hx hb dX11_seen_32 rfl hl (by decide) rfl (fun ls hl => ?_)
  refine lv_iload_n hx hb dX11_seen_33 rfl (lv_at hl 0 rfl) ?_
  refine lv_if_eq (tgt := 56) hx hb dX11_seen_34 (by decide) (fun _ => ?_) (fun c => absurd (by decide) c)
  refine lv_aload_n hx hb dX11_seen_56 rfl (lv_at hl 1 rfl) ?_
  refine va_get (D := (dC, dI)) (ci := 11) (v := .ref a1) (C := RX11) (T := TX11) (N := 24) hx hb hts hnX11 hown hK hP 0 rfl rfl 0 (by decide) hf7 (fun _ h9 => h9) rfl dX11_seen_57 ?_
  refine lv_iload_n hx hb dX11_seen_60 rfl (lv_at hl 2 rfl) ?_
  refine yy_iald (v := 0) hx hb hK hP 1 0 rfl rfl (yin (by decide)) dX11_seen_61 rfl ?_
  refine W.widen (k := 0) (n := 0) (Nat.le_of_ble_eq_true rfl) (Nat.le_of_ble_eq_true rfl) ?_
  exact yy_iret (v := 0) () hx hb hr hlk rfl hsz hAe hK hP hD hS [0, 1] rfl rfl (by decide) (rfl) dX11_seen_62
set_option maxHeartbeats 4000000 in
set_option maxRecDepth 100000 in
theorem rS_X11_seen_128 (l : Launch) (dC : Nat → ClassId) (dI : Nat → Nat → Nat) (cyI cyZ cyO : ClassId) (sz : Nat) (a0 : Nat) (a1 : Nat) (a2 : Nat) (a3 : Nat) (a4 : Nat) (a5 : Nat) (a6 : Nat) (a7 : Nat) (a8 : Nat) (a9 : Nat) (a10 : Nat) (a11 : Nat) (a12 : Nat) (a13 : Nat) (a14 : Nat) (a15 : Nat) (a16 : Nat) (v0 : Int32)  : Met l yX11_seen wsX11_seen ({ frames := 1, cells := 0, slots := 0, locals := 25 }) (yPre [.ref a0, .int 8] (dC, dI) [(a0, .inr (11, [.ref a1, .int 0, .int 0, .ref a2, .ref a3, .ref a4, .ref a5, .int 0, .ref a6, .ref a7, .ref a8, .int 0, .int 32, .int 0, .ref a9, .ref a10, .int 0, .int 0, .ref a11, .ref a12, .ref a13, .ref a14, .ref a15, .ref a16])), (a1, .inl (cyI, 2490, .inl (yz v0 1)))] (yT cyI cyZ cyO) sz) (yQi (fun (r : Int32) (u : Unit) => r = 0) (dC, dI) [(a0, .inr (11, [.ref a1, .int 0, .int 0, .ref a2, .ref a3, .ref a4, .ref a5, .int 0, .ref a6, .ref a7, .ref a8, .int 0, .int 32, .int 0, .ref a9, .ref a10, .int 0, .int 0, .ref a11, .ref a12, .ref a13, .ref a14, .ref a15, .ref a16])), (a1, .inl (cyI, 2490, .inl (yz v0 1)))] (yT cyI cyZ cyO) sz (fun _ => [(a0, .inr (11, [.ref a1, .int 0, .int 0, .ref a2, .ref a3, .ref a4, .ref a5, .int 0, .ref a6, .ref a7, .ref a8, .int 0, .int 32, .int 0, .ref a9, .ref a10, .int 0, .int 0, .ref a11, .ref a12, .ref a13, .ref a14, .ref a15, .ref a16])), (a1, .inl (cyI, 2490, .inl (yz v0 1)))])) 0 0 (va_A [(a0, .inr (11, [.ref a1, .int 0, .int 0, .ref a2, .ref a3, .ref a4, .ref a5, .int 0, .ref a6, .ref a7, .ref a8, .int 0, .int 32, .int 0, .ref a9, .ref a10, .int 0, .int 0, .ref a11, .ref a12, .ref a13, .ref a14, .ref a15, .ref a16])), (a1, .inl (cyI, 2490, .inl (yz v0 1)))] sz) := by
  refine yMet (cc := cX11_seen) (maxL := 3) (ret := (some .int)) (by decide) rfl (Nat.le_of_ble_eq_true rfl) ?_
  intro p e s m below meth c A hx hb hr hlk hml hts hown hnm hsz hAe hP hK hD hA hS ls hl
  have hl : lv_has ls 3 [(0, .ref a0), (1, .int 8)] := hl
  have hf7 := hts (.fieldLink RX11 7 "BusBridgeModel" "z" "[I") (by decide +kernel)
  have hnX11 : ∀ w ∈ wsX110, w ∈ wsX11_seen := by decide +kernel
  refine lv_aload_n hx hb dX11_seen_0 rfl (lv_at hl 0 rfl) ?_
  refine va_get (D := (dC, dI)) (ci := 11) (v := .ref a1) (C := RX11) (T := TX11) (N := 24) hx hb hts hnX11 hown hK hP 0 rfl rfl 0 (by decide) hf7 (fun _ h9 => h9) rfl dX11_seen_1 ?_
  refine lv_sipush (v := 179) hx hb dX11_seen_4 (by decide) ?_
  refine yy_iald (v := v0) hx hb hK hP 1 0 rfl rfl (yin (by decide)) dX11_seen_7 rfl ?_
  refine lv_i2l hx hb dX11_seen_8 rfl ?_
  refine lv_aload_n hx hb dX11_seen_9 rfl (lv_at hl 0 rfl) ?_
  refine va_get (D := (dC, dI)) (ci := 11) (v := .ref a1) (C := RX11) (T := TX11) (N := 24) hx hb hts hnX11 hown hK hP 0 rfl rfl 0 (by decide) hf7 (fun _ h9 => h9) rfl dX11_seen_10 ?_
  refine lv_bipush (v := 45) hx hb dX11_seen_13 (by decide) ?_
  refine lv_iload_n hx hb dX11_seen_15 rfl (lv_at hl 1 rfl) ?_
  refine lv_iadd hx hb dX11_seen_16 ?_
  refine yy_int (v := 53) (by decide) ?_
  refine yy_iald (v := 1) hx hb hK hP 1 0 rfl rfl (yin (by decide)) dX11_seen_17 rfl ?_
  refine lv_i2l hx hb dX11_seen_18 rfl ?_
  refine lv_aload_n hx hb dX11_seen_19 rfl (lv_at hl 0 rfl) ?_
  refine va_get (D := (dC, dI)) (ci := 11) (v := .ref a1) (C := RX11) (T := TX11) (N := 24) hx hb hts hnX11 hown hK hP 0 rfl rfl 0 (by decide) hf7 (fun _ h9 => h9) rfl dX11_seen_20 ?_
  refine lv_bipush (v := 60) hx hb dX11_seen_23 (by decide) ?_
  refine lv_iload_n hx hb dX11_seen_25 rfl (lv_at hl 1 rfl) ?_
  refine lv_iadd hx hb dX11_seen_26 ?_
  refine yy_int (v := 68) (by decide) ?_
  refine yy_iald (v := 0) hx hb hK hP 1 0 rfl rfl (yin (by decide)) dX11_seen_27 rfl ?_
  refine lv_i2l hx hb dX11_seen_28 rfl ?_
  have hPc := hP.sub (ws' := []) [] rfl
  have hDc := hD.sub (ws' := []) [] (by decide) rfl
  refine yy_calli [] [0, 1] (wr := [(a0, .inr (11, [.ref a1, .int 0, .int 0, .ref a2, .ref a3, .ref a4, .ref a5, .int 0, .ref a6, .ref a7, .ref a8, .int 0, .int 32, .int 0, .ref a9, .ref a10, .int 0, .int 0, .ref a11, .ref a12, .ref a13, .ref a14, .ref a15, .ref a16])), (a1, .inl (cyI, 2490, .inl (yz v0 1)))]) (va_runS (As := [.long (v0 : Int32).toInt64, .long (1 : Int32).toInt64, .long (0 : Int32).toInt64]) (rest := []) ⟨hx, hb, hml, hown, hts⟩ (r_inE l dC dI cyI cyZ cyO s.heap.size v0 1 0 (by decide)) (va_cwS 3 hts gX11_seen_X11_in rfl rfl rfl (by decide +kernel) ⟨Nat.le_of_ble_eq_true rfl, Nat.le_of_ble_eq_true rfl⟩) (yPreS hK hPc hDc) rfl rfl hl.1 rfl (lv_room (Nat.le_of_ble_eq_true rfl)) dX11_seen_29 ⟨Nat.le_of_ble_eq_true rfl, Nat.le_of_ble_eq_true rfl⟩) hP hD hS hA rfl rfl (by decide) (by decide) (fun r_2 u_1 H locs hw hP hD hS => ?_)
  have hP : va_P (dC, dI) vwCl [(a0, .inr (11, [.ref a1, .int 0, .int 0, .ref a2, .ref a3, .ref a4, .ref a5, .int 0, .ref a6, .ref a7, .ref a8, .int 0, .int 32, .int 0, .ref a9, .ref a10, .int 0, .int 0, .ref a11, .ref a12, .ref a13, .ref a14, .ref a15, .ref a16])), (a1, .inl (cyI, 2490, .inl (yz v0 1)))] H := hP
  have hD : va_D A [(a0, .inr (11, [.ref a1, .int 0, .int 0, .ref a2, .ref a3, .ref a4, .ref a5, .int 0, .ref a6, .ref a7, .ref a8, .int 0, .int 32, .int 0, .ref a9, .ref a10, .int 0, .int 0, .ref a11, .ref a12, .ref a13, .ref a14, .ref a15, .ref a16])), (a1, .inl (cyI, 2490, .inl (yz v0 1)))] := hD
  refine W.widen (k := 0) (n := 0) (Nat.le_of_ble_eq_true rfl) (Nat.le_of_ble_eq_true rfl) ?_
  have hw : r_2 = 0 := hw
  subst hw
  refine lv_istore_n (lv' := [(2, .int 0), (0, .ref a0), (1, .int 8)]) hx hb dX11_seen_32 rfl hl (by decide) rfl (fun ls hl => ?_)
  refine lv_iload_n hx hb dX11_seen_33 rfl (lv_at hl 0 rfl) ?_
  refine lv_if_eq (tgt := 56) hx hb dX11_seen_34 (by decide) (fun _ => ?_) (fun c => absurd (by decide) c)
  refine lv_aload_n hx hb dX11_seen_56 rfl (lv_at hl 1 rfl) ?_
  refine va_get (D := (dC, dI)) (ci := 11) (v := .ref a1) (C := RX11) (T := TX11) (N := 24) hx hb hts hnX11 hown hK hP 0 rfl rfl 0 (by decide) hf7 (fun _ h9 => h9) rfl dX11_seen_57 ?_
  refine lv_iload_n hx hb dX11_seen_60 rfl (lv_at hl 2 rfl) ?_
  refine yy_iald (v := 0) hx hb hK hP 1 0 rfl rfl (yin (by decide)) dX11_seen_61 rfl ?_
  refine W.widen (k := 0) (n := 0) (Nat.le_of_ble_eq_true rfl) (Nat.le_of_ble_eq_true rfl) ?_
  exact yy_iret (v := 0) () hx hb hr hlk rfl hsz hAe hK hP hD hS [0, 1] rfl rfl (by decide) (rfl) dX11_seen_62
set_option maxHeartbeats 4000000 in
set_option maxRecDepth 100000 in
theorem rS_X11_seen_129 (l : Launch) (dC : Nat → ClassId) (dI : Nat → Nat → Nat) (cyI cyZ cyO : ClassId) (sz : Nat) (a0 : Nat) (a1 : Nat) (a2 : Nat) (a3 : Nat) (a4 : Nat) (a5 : Nat) (a6 : Nat) (a7 : Nat) (a8 : Nat) (a9 : Nat) (a10 : Nat) (a11 : Nat) (a12 : Nat) (a13 : Nat) (a14 : Nat) (a15 : Nat) (a16 : Nat) (v0 : Int32)  : Met l yX11_seen wsX11_seen ({ frames := 1, cells := 0, slots := 0, locals := 25 }) (yPre [.ref a0, .int 9] (dC, dI) [(a0, .inr (11, [.ref a1, .int 0, .int 0, .ref a2, .ref a3, .ref a4, .ref a5, .int 0, .ref a6, .ref a7, .ref a8, .int 0, .int 32, .int 0, .ref a9, .ref a10, .int 0, .int 0, .ref a11, .ref a12, .ref a13, .ref a14, .ref a15, .ref a16])), (a1, .inl (cyI, 2490, .inl (yz v0 1)))] (yT cyI cyZ cyO) sz) (yQi (fun (r : Int32) (u : Unit) => r = 0) (dC, dI) [(a0, .inr (11, [.ref a1, .int 0, .int 0, .ref a2, .ref a3, .ref a4, .ref a5, .int 0, .ref a6, .ref a7, .ref a8, .int 0, .int 32, .int 0, .ref a9, .ref a10, .int 0, .int 0, .ref a11, .ref a12, .ref a13, .ref a14, .ref a15, .ref a16])), (a1, .inl (cyI, 2490, .inl (yz v0 1)))] (yT cyI cyZ cyO) sz (fun _ => [(a0, .inr (11, [.ref a1, .int 0, .int 0, .ref a2, .ref a3, .ref a4, .ref a5, .int 0, .ref a6, .ref a7, .ref a8, .int 0, .int 32, .int 0, .ref a9, .ref a10, .int 0, .int 0, .ref a11, .ref a12, .ref a13, .ref a14, .ref a15, .ref a16])), (a1, .inl (cyI, 2490, .inl (yz v0 1)))])) 0 0 (va_A [(a0, .inr (11, [.ref a1, .int 0, .int 0, .ref a2, .ref a3, .ref a4, .ref a5, .int 0, .ref a6, .ref a7, .ref a8, .int 0, .int 32, .int 0, .ref a9, .ref a10, .int 0, .int 0, .ref a11, .ref a12, .ref a13, .ref a14, .ref a15, .ref a16])), (a1, .inl (cyI, 2490, .inl (yz v0 1)))] sz) := by
  refine yMet (cc := cX11_seen) (maxL := 3) (ret := (some .int)) (by decide) rfl (Nat.le_of_ble_eq_true rfl) ?_
  intro p e s m below meth c A hx hb hr hlk hml hts hown hnm hsz hAe hP hK hD hA hS ls hl
  have hl : lv_has ls 3 [(0, .ref a0), (1, .int 9)] := hl
  have hf7 := hts (.fieldLink RX11 7 "BusBridgeModel" "z" "[I") (by decide +kernel)
  have hnX11 : ∀ w ∈ wsX110, w ∈ wsX11_seen := by decide +kernel
  refine lv_aload_n hx hb dX11_seen_0 rfl (lv_at hl 0 rfl) ?_
  refine va_get (D := (dC, dI)) (ci := 11) (v := .ref a1) (C := RX11) (T := TX11) (N := 24) hx hb hts hnX11 hown hK hP 0 rfl rfl 0 (by decide) hf7 (fun _ h9 => h9) rfl dX11_seen_1 ?_
  refine lv_sipush (v := 179) hx hb dX11_seen_4 (by decide) ?_
  refine yy_iald (v := v0) hx hb hK hP 1 0 rfl rfl (yin (by decide)) dX11_seen_7 rfl ?_
  refine lv_i2l hx hb dX11_seen_8 rfl ?_
  refine lv_aload_n hx hb dX11_seen_9 rfl (lv_at hl 0 rfl) ?_
  refine va_get (D := (dC, dI)) (ci := 11) (v := .ref a1) (C := RX11) (T := TX11) (N := 24) hx hb hts hnX11 hown hK hP 0 rfl rfl 0 (by decide) hf7 (fun _ h9 => h9) rfl dX11_seen_10 ?_
  refine lv_bipush (v := 45) hx hb dX11_seen_13 (by decide) ?_
  refine lv_iload_n hx hb dX11_seen_15 rfl (lv_at hl 1 rfl) ?_
  refine lv_iadd hx hb dX11_seen_16 ?_
  refine yy_int (v := 54) (by decide) ?_
  refine yy_iald (v := 1) hx hb hK hP 1 0 rfl rfl (yin (by decide)) dX11_seen_17 rfl ?_
  refine lv_i2l hx hb dX11_seen_18 rfl ?_
  refine lv_aload_n hx hb dX11_seen_19 rfl (lv_at hl 0 rfl) ?_
  refine va_get (D := (dC, dI)) (ci := 11) (v := .ref a1) (C := RX11) (T := TX11) (N := 24) hx hb hts hnX11 hown hK hP 0 rfl rfl 0 (by decide) hf7 (fun _ h9 => h9) rfl dX11_seen_20 ?_
  refine lv_bipush (v := 60) hx hb dX11_seen_23 (by decide) ?_
  refine lv_iload_n hx hb dX11_seen_25 rfl (lv_at hl 1 rfl) ?_
  refine lv_iadd hx hb dX11_seen_26 ?_
  refine yy_int (v := 69) (by decide) ?_
  refine yy_iald (v := 0) hx hb hK hP 1 0 rfl rfl (yin (by decide)) dX11_seen_27 rfl ?_
  refine lv_i2l hx hb dX11_seen_28 rfl ?_
  have hPc := hP.sub (ws' := []) [] rfl
  have hDc := hD.sub (ws' := []) [] (by decide) rfl
  refine yy_calli [] [0, 1] (wr := [(a0, .inr (11, [.ref a1, .int 0, .int 0, .ref a2, .ref a3, .ref a4, .ref a5, .int 0, .ref a6, .ref a7, .ref a8, .int 0, .int 32, .int 0, .ref a9, .ref a10, .int 0, .int 0, .ref a11, .ref a12, .ref a13, .ref a14, .ref a15, .ref a16])), (a1, .inl (cyI, 2490, .inl (yz v0 1)))]) (va_runS (As := [.long (v0 : Int32).toInt64, .long (1 : Int32).toInt64, .long (0 : Int32).toInt64]) (rest := []) ⟨hx, hb, hml, hown, hts⟩ (r_inE l dC dI cyI cyZ cyO s.heap.size v0 1 0 (by decide)) (va_cwS 3 hts gX11_seen_X11_in rfl rfl rfl (by decide +kernel) ⟨Nat.le_of_ble_eq_true rfl, Nat.le_of_ble_eq_true rfl⟩) (yPreS hK hPc hDc) rfl rfl hl.1 rfl (lv_room (Nat.le_of_ble_eq_true rfl)) dX11_seen_29 ⟨Nat.le_of_ble_eq_true rfl, Nat.le_of_ble_eq_true rfl⟩) hP hD hS hA rfl rfl (by decide) (by decide) (fun r_2 u_1 H locs hw hP hD hS => ?_)
  have hP : va_P (dC, dI) vwCl [(a0, .inr (11, [.ref a1, .int 0, .int 0, .ref a2, .ref a3, .ref a4, .ref a5, .int 0, .ref a6, .ref a7, .ref a8, .int 0, .int 32, .int 0, .ref a9, .ref a10, .int 0, .int 0, .ref a11, .ref a12, .ref a13, .ref a14, .ref a15, .ref a16])), (a1, .inl (cyI, 2490, .inl (yz v0 1)))] H := hP
  have hD : va_D A [(a0, .inr (11, [.ref a1, .int 0, .int 0, .ref a2, .ref a3, .ref a4, .ref a5, .int 0, .ref a6, .ref a7, .ref a8, .int 0, .int 32, .int 0, .ref a9, .ref a10, .int 0, .int 0, .ref a11, .ref a12, .ref a13, .ref a14, .ref a15, .ref a16])), (a1, .inl (cyI, 2490, .inl (yz v0 1)))] := hD
  refine W.widen (k := 0) (n := 0) (Nat.le_of_ble_eq_true rfl) (Nat.le_of_ble_eq_true rfl) ?_
  have hw : r_2 = 0 := hw
  subst hw
  refine lv_istore_n (lv' := [(2, .int 0), (0, .ref a0), (1, .int 9)]) hx hb dX11_seen_32 rfl hl (by decide) rfl (fun ls hl => ?_)
  refine lv_iload_n hx hb dX11_seen_33 rfl (lv_at hl 0 rfl) ?_
  refine lv_if_eq (tgt := 56) hx hb dX11_seen_34 (by decide) (fun _ => ?_) (fun c => absurd (by decide) c)
  refine lv_aload_n hx hb dX11_seen_56 rfl (lv_at hl 1 rfl) ?_
  refine va_get (D := (dC, dI)) (ci := 11) (v := .ref a1) (C := RX11) (T := TX11) (N := 24) hx hb hts hnX11 hown hK hP 0 rfl rfl 0 (by decide) hf7 (fun _ h9 => h9) rfl dX11_seen_57 ?_
  refine lv_iload_n hx hb dX11_seen_60 rfl (lv_at hl 2 rfl) ?_
  refine yy_iald (v := 0) hx hb hK hP 1 0 rfl rfl (yin (by decide)) dX11_seen_61 rfl ?_
  refine W.widen (k := 0) (n := 0) (Nat.le_of_ble_eq_true rfl) (Nat.le_of_ble_eq_true rfl) ?_
  exact yy_iret (v := 0) () hx hb hr hlk rfl hsz hAe hK hP hD hS [0, 1] rfl rfl (by decide) (rfl) dX11_seen_62
set_option maxHeartbeats 4000000 in
set_option maxRecDepth 100000 in
theorem rS_X11_seen_130 (l : Launch) (dC : Nat → ClassId) (dI : Nat → Nat → Nat) (cyI cyZ cyO : ClassId) (sz : Nat) (a0 : Nat) (a1 : Nat) (a2 : Nat) (a3 : Nat) (a4 : Nat) (a5 : Nat) (a6 : Nat) (a7 : Nat) (a8 : Nat) (a9 : Nat) (a10 : Nat) (a11 : Nat) (a12 : Nat) (a13 : Nat) (a14 : Nat) (a15 : Nat) (a16 : Nat) (v0 : Int32)  : Met l yX11_seen wsX11_seen ({ frames := 1, cells := 0, slots := 0, locals := 25 }) (yPre [.ref a0, .int 10] (dC, dI) [(a0, .inr (11, [.ref a1, .int 0, .int 0, .ref a2, .ref a3, .ref a4, .ref a5, .int 0, .ref a6, .ref a7, .ref a8, .int 0, .int 32, .int 0, .ref a9, .ref a10, .int 0, .int 0, .ref a11, .ref a12, .ref a13, .ref a14, .ref a15, .ref a16])), (a1, .inl (cyI, 2490, .inl (yz v0 1)))] (yT cyI cyZ cyO) sz) (yQi (fun (r : Int32) (u : Unit) => r = 0) (dC, dI) [(a0, .inr (11, [.ref a1, .int 0, .int 0, .ref a2, .ref a3, .ref a4, .ref a5, .int 0, .ref a6, .ref a7, .ref a8, .int 0, .int 32, .int 0, .ref a9, .ref a10, .int 0, .int 0, .ref a11, .ref a12, .ref a13, .ref a14, .ref a15, .ref a16])), (a1, .inl (cyI, 2490, .inl (yz v0 1)))] (yT cyI cyZ cyO) sz (fun _ => [(a0, .inr (11, [.ref a1, .int 0, .int 0, .ref a2, .ref a3, .ref a4, .ref a5, .int 0, .ref a6, .ref a7, .ref a8, .int 0, .int 32, .int 0, .ref a9, .ref a10, .int 0, .int 0, .ref a11, .ref a12, .ref a13, .ref a14, .ref a15, .ref a16])), (a1, .inl (cyI, 2490, .inl (yz v0 1)))])) 0 0 (va_A [(a0, .inr (11, [.ref a1, .int 0, .int 0, .ref a2, .ref a3, .ref a4, .ref a5, .int 0, .ref a6, .ref a7, .ref a8, .int 0, .int 32, .int 0, .ref a9, .ref a10, .int 0, .int 0, .ref a11, .ref a12, .ref a13, .ref a14, .ref a15, .ref a16])), (a1, .inl (cyI, 2490, .inl (yz v0 1)))] sz) := by
  refine yMet (cc := cX11_seen) (maxL := 3) (ret := (some .int)) (by decide) rfl (Nat.le_of_ble_eq_true rfl) ?_
  intro p e s m below meth c A hx hb hr hlk hml hts hown hnm hsz hAe hP hK hD hA hS ls hl
  have hl : lv_has ls 3 [(0, .ref a0), (1, .int 10)] := hl
  have hf7 := hts (.fieldLink RX11 7 "BusBridgeModel" "z" "[I") (by decide +kernel)
  have hnX11 : ∀ w ∈ wsX110, w ∈ wsX11_seen := by decide +kernel
  refine lv_aload_n hx hb dX11_seen_0 rfl (lv_at hl 0 rfl) ?_
  refine va_get (D := (dC, dI)) (ci := 11) (v := .ref a1) (C := RX11) (T := TX11) (N := 24) hx hb hts hnX11 hown hK hP 0 rfl rfl 0 (by decide) hf7 (fun _ h9 => h9) rfl dX11_seen_1 ?_
  refine lv_sipush (v := 179) hx hb dX11_seen_4 (by decide) ?_
  refine yy_iald (v := v0) hx hb hK hP 1 0 rfl rfl (yin (by decide)) dX11_seen_7 rfl ?_
  refine lv_i2l hx hb dX11_seen_8 rfl ?_
  refine lv_aload_n hx hb dX11_seen_9 rfl (lv_at hl 0 rfl) ?_
  refine va_get (D := (dC, dI)) (ci := 11) (v := .ref a1) (C := RX11) (T := TX11) (N := 24) hx hb hts hnX11 hown hK hP 0 rfl rfl 0 (by decide) hf7 (fun _ h9 => h9) rfl dX11_seen_10 ?_
  refine lv_bipush (v := 45) hx hb dX11_seen_13 (by decide) ?_
  refine lv_iload_n hx hb dX11_seen_15 rfl (lv_at hl 1 rfl) ?_
  refine lv_iadd hx hb dX11_seen_16 ?_
  refine yy_int (v := 55) (by decide) ?_
  refine yy_iald (v := 1) hx hb hK hP 1 0 rfl rfl (yin (by decide)) dX11_seen_17 rfl ?_
  refine lv_i2l hx hb dX11_seen_18 rfl ?_
  refine lv_aload_n hx hb dX11_seen_19 rfl (lv_at hl 0 rfl) ?_
  refine va_get (D := (dC, dI)) (ci := 11) (v := .ref a1) (C := RX11) (T := TX11) (N := 24) hx hb hts hnX11 hown hK hP 0 rfl rfl 0 (by decide) hf7 (fun _ h9 => h9) rfl dX11_seen_20 ?_
  refine lv_bipush (v := 60) hx hb dX11_seen_23 (by decide) ?_
  refine lv_iload_n hx hb dX11_seen_25 rfl (lv_at hl 1 rfl) ?_
  refine lv_iadd hx hb dX11_seen_26 ?_
  refine yy_int (v := 70) (by decide) ?_
  refine yy_iald (v := 0) hx hb hK hP 1 0 rfl rfl (yin (by decide)) dX11_seen_27 rfl ?_
  refine lv_i2l hx hb dX11_seen_28 rfl ?_
  have hPc := hP.sub (ws' := []) [] rfl
  have hDc := hD.sub (ws' := []) [] (by decide) rfl
  refine yy_calli [] [0, 1] (wr := [(a0, .inr (11, [.ref a1, .int 0, .int 0, .ref a2, .ref a3, .ref a4, .ref a5, .int 0, .ref a6, .ref a7, .ref a8, .int 0, .int 32, .int 0, .ref a9, .ref a10, .int 0, .int 0, .ref a11, .ref a12, .ref a13, .ref a14, .ref a15, .ref a16])), (a1, .inl (cyI, 2490, .inl (yz v0 1)))]) (va_runS (As := [.long (v0 : Int32).toInt64, .long (1 : Int32).toInt64, .long (0 : Int32).toInt64]) (rest := []) ⟨hx, hb, hml, hown, hts⟩ (r_inE l dC dI cyI cyZ cyO s.heap.size v0 1 0 (by decide)) (va_cwS 3 hts gX11_seen_X11_in rfl rfl rfl (by decide +kernel) ⟨Nat.le_of_ble_eq_true rfl, Nat.le_of_ble_eq_true rfl⟩) (yPreS hK hPc hDc) rfl rfl hl.1 rfl (lv_room (Nat.le_of_ble_eq_true rfl)) dX11_seen_29 ⟨Nat.le_of_ble_eq_true rfl, Nat.le_of_ble_eq_true rfl⟩) hP hD hS hA rfl rfl (by decide) (by decide) (fun r_2 u_1 H locs hw hP hD hS => ?_)
  have hP : va_P (dC, dI) vwCl [(a0, .inr (11, [.ref a1, .int 0, .int 0, .ref a2, .ref a3, .ref a4, .ref a5, .int 0, .ref a6, .ref a7, .ref a8, .int 0, .int 32, .int 0, .ref a9, .ref a10, .int 0, .int 0, .ref a11, .ref a12, .ref a13, .ref a14, .ref a15, .ref a16])), (a1, .inl (cyI, 2490, .inl (yz v0 1)))] H := hP
  have hD : va_D A [(a0, .inr (11, [.ref a1, .int 0, .int 0, .ref a2, .ref a3, .ref a4, .ref a5, .int 0, .ref a6, .ref a7, .ref a8, .int 0, .int 32, .int 0, .ref a9, .ref a10, .int 0, .int 0, .ref a11, .ref a12, .ref a13, .ref a14, .ref a15, .ref a16])), (a1, .inl (cyI, 2490, .inl (yz v0 1)))] := hD
  refine W.widen (k := 0) (n := 0) (Nat.le_of_ble_eq_true rfl) (Nat.le_of_ble_eq_true rfl) ?_
  have hw : r_2 = 0 := hw
  subst hw
  refine lv_istore_n (lv' := [(2, .int 0), (0, .ref a0), (1, .int 10)]) hx hb dX11_seen_32 rfl hl (by decide) rfl (fun ls hl => ?_)
  refine lv_iload_n hx hb dX11_seen_33 rfl (lv_at hl 0 rfl) ?_
  refine lv_if_eq (tgt := 56) hx hb dX11_seen_34 (by decide) (fun _ => ?_) (fun c => absurd (by decide) c)
  refine lv_aload_n hx hb dX11_seen_56 rfl (lv_at hl 1 rfl) ?_
  refine va_get (D := (dC, dI)) (ci := 11) (v := .ref a1) (C := RX11) (T := TX11) (N := 24) hx hb hts hnX11 hown hK hP 0 rfl rfl 0 (by decide) hf7 (fun _ h9 => h9) rfl dX11_seen_57 ?_
  refine lv_iload_n hx hb dX11_seen_60 rfl (lv_at hl 2 rfl) ?_
  refine yy_iald (v := 0) hx hb hK hP 1 0 rfl rfl (yin (by decide)) dX11_seen_61 rfl ?_
  refine W.widen (k := 0) (n := 0) (Nat.le_of_ble_eq_true rfl) (Nat.le_of_ble_eq_true rfl) ?_
  exact yy_iret (v := 0) () hx hb hr hlk rfl hsz hAe hK hP hD hS [0, 1] rfl rfl (by decide) (rfl) dX11_seen_62
set_option maxHeartbeats 4000000 in
set_option maxRecDepth 100000 in
theorem rS_X11_seen_131 (l : Launch) (dC : Nat → ClassId) (dI : Nat → Nat → Nat) (cyI cyZ cyO : ClassId) (sz : Nat) (a0 : Nat) (a1 : Nat) (a2 : Nat) (a3 : Nat) (a4 : Nat) (a5 : Nat) (a6 : Nat) (a7 : Nat) (a8 : Nat) (a9 : Nat) (a10 : Nat) (a11 : Nat) (a12 : Nat) (a13 : Nat) (a14 : Nat) (a15 : Nat) (a16 : Nat) (v0 : Int32)  : Met l yX11_seen wsX11_seen ({ frames := 1, cells := 0, slots := 0, locals := 25 }) (yPre [.ref a0, .int 11] (dC, dI) [(a0, .inr (11, [.ref a1, .int 0, .int 0, .ref a2, .ref a3, .ref a4, .ref a5, .int 0, .ref a6, .ref a7, .ref a8, .int 0, .int 32, .int 0, .ref a9, .ref a10, .int 0, .int 0, .ref a11, .ref a12, .ref a13, .ref a14, .ref a15, .ref a16])), (a1, .inl (cyI, 2490, .inl (yz v0 1)))] (yT cyI cyZ cyO) sz) (yQi (fun (r : Int32) (u : Unit) => r = 0) (dC, dI) [(a0, .inr (11, [.ref a1, .int 0, .int 0, .ref a2, .ref a3, .ref a4, .ref a5, .int 0, .ref a6, .ref a7, .ref a8, .int 0, .int 32, .int 0, .ref a9, .ref a10, .int 0, .int 0, .ref a11, .ref a12, .ref a13, .ref a14, .ref a15, .ref a16])), (a1, .inl (cyI, 2490, .inl (yz v0 1)))] (yT cyI cyZ cyO) sz (fun _ => [(a0, .inr (11, [.ref a1, .int 0, .int 0, .ref a2, .ref a3, .ref a4, .ref a5, .int 0, .ref a6, .ref a7, .ref a8, .int 0, .int 32, .int 0, .ref a9, .ref a10, .int 0, .int 0, .ref a11, .ref a12, .ref a13, .ref a14, .ref a15, .ref a16])), (a1, .inl (cyI, 2490, .inl (yz v0 1)))])) 0 0 (va_A [(a0, .inr (11, [.ref a1, .int 0, .int 0, .ref a2, .ref a3, .ref a4, .ref a5, .int 0, .ref a6, .ref a7, .ref a8, .int 0, .int 32, .int 0, .ref a9, .ref a10, .int 0, .int 0, .ref a11, .ref a12, .ref a13, .ref a14, .ref a15, .ref a16])), (a1, .inl (cyI, 2490, .inl (yz v0 1)))] sz) := by
  refine yMet (cc := cX11_seen) (maxL := 3) (ret := (some .int)) (by decide) rfl (Nat.le_of_ble_eq_true rfl) ?_
  intro p e s m below meth c A hx hb hr hlk hml hts hown hnm hsz hAe hP hK hD hA hS ls hl
  have hl : lv_has ls 3 [(0, .ref a0), (1, .int 11)] := hl
  have hf7 := hts (.fieldLink RX11 7 "BusBridgeModel" "z" "[I") (by decide +kernel)
  have hnX11 : ∀ w ∈ wsX110, w ∈ wsX11_seen := by decide +kernel
  refine lv_aload_n hx hb dX11_seen_0 rfl (lv_at hl 0 rfl) ?_
  refine va_get (D := (dC, dI)) (ci := 11) (v := .ref a1) (C := RX11) (T := TX11) (N := 24) hx hb hts hnX11 hown hK hP 0 rfl rfl 0 (by decide) hf7 (fun _ h9 => h9) rfl dX11_seen_1 ?_
  refine lv_sipush (v := 179) hx hb dX11_seen_4 (by decide) ?_
  refine yy_iald (v := v0) hx hb hK hP 1 0 rfl rfl (yin (by decide)) dX11_seen_7 rfl ?_
  refine lv_i2l hx hb dX11_seen_8 rfl ?_
  refine lv_aload_n hx hb dX11_seen_9 rfl (lv_at hl 0 rfl) ?_
  refine va_get (D := (dC, dI)) (ci := 11) (v := .ref a1) (C := RX11) (T := TX11) (N := 24) hx hb hts hnX11 hown hK hP 0 rfl rfl 0 (by decide) hf7 (fun _ h9 => h9) rfl dX11_seen_10 ?_
  refine lv_bipush (v := 45) hx hb dX11_seen_13 (by decide) ?_
  refine lv_iload_n hx hb dX11_seen_15 rfl (lv_at hl 1 rfl) ?_
  refine lv_iadd hx hb dX11_seen_16 ?_
  refine yy_int (v := 56) (by decide) ?_
  refine yy_iald (v := 1) hx hb hK hP 1 0 rfl rfl (yin (by decide)) dX11_seen_17 rfl ?_
  refine lv_i2l hx hb dX11_seen_18 rfl ?_
  refine lv_aload_n hx hb dX11_seen_19 rfl (lv_at hl 0 rfl) ?_
  refine va_get (D := (dC, dI)) (ci := 11) (v := .ref a1) (C := RX11) (T := TX11) (N := 24) hx hb hts hnX11 hown hK hP 0 rfl rfl 0 (by decide) hf7 (fun _ h9 => h9) rfl dX11_seen_20 ?_
  refine lv_bipush (v := 60) hx hb dX11_seen_23 (by decide) ?_
  refine lv_iload_n hx hb dX11_seen_25 rfl (lv_at hl 1 rfl) ?_
  refine lv_iadd hx hb dX11_seen_26 ?_
  refine yy_int (v := 71) (by decide) ?_
  refine yy_iald (v := 0) hx hb hK hP 1 0 rfl rfl (yin (by decide)) dX11_seen_27 rfl ?_
  refine lv_i2l hx hb dX11_seen_28 rfl ?_
  have hPc := hP.sub (ws' := []) [] rfl
  have hDc := hD.sub (ws' := []) [] (by decide) rfl
  refine yy_calli [] [0, 1] (wr := [(a0, .inr (11, [.ref a1, .int 0, .int 0, .ref a2, .ref a3, .ref a4, .ref a5, .int 0, .ref a6, .ref a7, .ref a8, .int 0, .int 32, .int 0, .ref a9, .ref a10, .int 0, .int 0, .ref a11, .ref a12, .ref a13, .ref a14, .ref a15, .ref a16])), (a1, .inl (cyI, 2490, .inl (yz v0 1)))]) (va_runS (As := [.long (v0 : Int32).toInt64, .long (1 : Int32).toInt64, .long (0 : Int32).toInt64]) (rest := []) ⟨hx, hb, hml, hown, hts⟩ (r_inE l dC dI cyI cyZ cyO s.heap.size v0 1 0 (by decide)) (va_cwS 3 hts gX11_seen_X11_in rfl rfl rfl (by decide +kernel) ⟨Nat.le_of_ble_eq_true rfl, Nat.le_of_ble_eq_true rfl⟩) (yPreS hK hPc hDc) rfl rfl hl.1 rfl (lv_room (Nat.le_of_ble_eq_true rfl)) dX11_seen_29 ⟨Nat.le_of_ble_eq_true rfl, Nat.le_of_ble_eq_true rfl⟩) hP hD hS hA rfl rfl (by decide) (by decide) (fun r_2 u_1 H locs hw hP hD hS => ?_)
  have hP : va_P (dC, dI) vwCl [(a0, .inr (11, [.ref a1, .int 0, .int 0, .ref a2, .ref a3, .ref a4, .ref a5, .int 0, .ref a6, .ref a7, .ref a8, .int 0, .int 32, .int 0, .ref a9, .ref a10, .int 0, .int 0, .ref a11, .ref a12, .ref a13, .ref a14, .ref a15, .ref a16])), (a1, .inl (cyI, 2490, .inl (yz v0 1)))] H := hP
  have hD : va_D A [(a0, .inr (11, [.ref a1, .int 0, .int 0, .ref a2, .ref a3, .ref a4, .ref a5, .int 0, .ref a6, .ref a7, .ref a8, .int 0, .int 32, .int 0, .ref a9, .ref a10, .int 0, .int 0, .ref a11, .ref a12, .ref a13, .ref a14, .ref a15, .ref a16])), (a1, .inl (cyI, 2490, .inl (yz v0 1)))] := hD
  refine W.widen (k := 0) (n := 0) (Nat.le_of_ble_eq_true rfl) (Nat.le_of_ble_eq_true rfl) ?_
  have hw : r_2 = 0 := hw
  subst hw
  refine lv_istore_n (lv' := [(2, .int 0), (0, .ref a0), (1, .int 11)]) hx hb dX11_seen_32 rfl hl (by decide) rfl (fun ls hl => ?_)
  refine lv_iload_n hx hb dX11_seen_33 rfl (lv_at hl 0 rfl) ?_
  refine lv_if_eq (tgt := 56) hx hb dX11_seen_34 (by decide) (fun _ => ?_) (fun c => absurd (by decide) c)
  refine lv_aload_n hx hb dX11_seen_56 rfl (lv_at hl 1 rfl) ?_
  refine va_get (D := (dC, dI)) (ci := 11) (v := .ref a1) (C := RX11) (T := TX11) (N := 24) hx hb hts hnX11 hown hK hP 0 rfl rfl 0 (by decide) hf7 (fun _ h9 => h9) rfl dX11_seen_57 ?_
  refine lv_iload_n hx hb dX11_seen_60 rfl (lv_at hl 2 rfl) ?_
  refine yy_iald (v := 0) hx hb hK hP 1 0 rfl rfl (yin (by decide)) dX11_seen_61 rfl ?_
  refine W.widen (k := 0) (n := 0) (Nat.le_of_ble_eq_true rfl) (Nat.le_of_ble_eq_true rfl) ?_
  exact yy_iret (v := 0) () hx hb hr hlk rfl hsz hAe hK hP hD hS [0, 1] rfl rfl (by decide) (rfl) dX11_seen_62
set_option maxHeartbeats 4000000 in
set_option maxRecDepth 100000 in
theorem rS_X11_seen_132 (l : Launch) (dC : Nat → ClassId) (dI : Nat → Nat → Nat) (cyI cyZ cyO : ClassId) (sz : Nat) (a0 : Nat) (a1 : Nat) (a2 : Nat) (a3 : Nat) (a4 : Nat) (a5 : Nat) (a6 : Nat) (a7 : Nat) (a8 : Nat) (a9 : Nat) (a10 : Nat) (a11 : Nat) (a12 : Nat) (a13 : Nat) (a14 : Nat) (a15 : Nat) (a16 : Nat) (v0 : Int32)  : Met l yX11_seen wsX11_seen ({ frames := 1, cells := 0, slots := 0, locals := 25 }) (yPre [.ref a0, .int 12] (dC, dI) [(a0, .inr (11, [.ref a1, .int 0, .int 0, .ref a2, .ref a3, .ref a4, .ref a5, .int 0, .ref a6, .ref a7, .ref a8, .int 0, .int 32, .int 0, .ref a9, .ref a10, .int 0, .int 0, .ref a11, .ref a12, .ref a13, .ref a14, .ref a15, .ref a16])), (a1, .inl (cyI, 2490, .inl (yz v0 1)))] (yT cyI cyZ cyO) sz) (yQi (fun (r : Int32) (u : Unit) => r = 0) (dC, dI) [(a0, .inr (11, [.ref a1, .int 0, .int 0, .ref a2, .ref a3, .ref a4, .ref a5, .int 0, .ref a6, .ref a7, .ref a8, .int 0, .int 32, .int 0, .ref a9, .ref a10, .int 0, .int 0, .ref a11, .ref a12, .ref a13, .ref a14, .ref a15, .ref a16])), (a1, .inl (cyI, 2490, .inl (yz v0 1)))] (yT cyI cyZ cyO) sz (fun _ => [(a0, .inr (11, [.ref a1, .int 0, .int 0, .ref a2, .ref a3, .ref a4, .ref a5, .int 0, .ref a6, .ref a7, .ref a8, .int 0, .int 32, .int 0, .ref a9, .ref a10, .int 0, .int 0, .ref a11, .ref a12, .ref a13, .ref a14, .ref a15, .ref a16])), (a1, .inl (cyI, 2490, .inl (yz v0 1)))])) 0 0 (va_A [(a0, .inr (11, [.ref a1, .int 0, .int 0, .ref a2, .ref a3, .ref a4, .ref a5, .int 0, .ref a6, .ref a7, .ref a8, .int 0, .int 32, .int 0, .ref a9, .ref a10, .int 0, .int 0, .ref a11, .ref a12, .ref a13, .ref a14, .ref a15, .ref a16])), (a1, .inl (cyI, 2490, .inl (yz v0 1)))] sz) := by
  refine yMet (cc := cX11_seen) (maxL := 3) (ret := (some .int)) (by decide) rfl (Nat.le_of_ble_eq_true rfl) ?_
  intro p e s m below meth c A hx hb hr hlk hml hts hown hnm hsz hAe hP hK hD hA hS ls hl
  have hl : lv_has ls 3 [(0, .ref a0), (1, .int 12)] := hl
  have hf7 := hts (.fieldLink RX11 7 "BusBridgeModel" "z" "[I") (by decide +kernel)
  have hnX11 : ∀ w ∈ wsX110, w ∈ wsX11_seen := by decide +kernel
  refine lv_aload_n hx hb dX11_seen_0 rfl (lv_at hl 0 rfl) ?_
  refine va_get (D := (dC, dI)) (ci := 11) (v := .ref a1) (C := RX11) (T := TX11) (N := 24) hx hb hts hnX11 hown hK hP 0 rfl rfl 0 (by decide) hf7 (fun _ h9 => h9) rfl dX11_seen_1 ?_
  refine lv_sipush (v := 179) hx hb dX11_seen_4 (by decide) ?_
  refine yy_iald (v := v0) hx hb hK hP 1 0 rfl rfl (yin (by decide)) dX11_seen_7 rfl ?_
  refine lv_i2l hx hb dX11_seen_8 rfl ?_
  refine lv_aload_n hx hb dX11_seen_9 rfl (lv_at hl 0 rfl) ?_
  refine va_get (D := (dC, dI)) (ci := 11) (v := .ref a1) (C := RX11) (T := TX11) (N := 24) hx hb hts hnX11 hown hK hP 0 rfl rfl 0 (by decide) hf7 (fun _ h9 => h9) rfl dX11_seen_10 ?_
  refine lv_bipush (v := 45) hx hb dX11_seen_13 (by decide) ?_
  refine lv_iload_n hx hb dX11_seen_15 rfl (lv_at hl 1 rfl) ?_
  refine lv_iadd hx hb dX11_seen_16 ?_
  refine yy_int (v := 57) (by decide) ?_
  refine yy_iald (v := 1) hx hb hK hP 1 0 rfl rfl (yin (by decide)) dX11_seen_17 rfl ?_
  refine lv_i2l hx hb dX11_seen_18 rfl ?_
  refine lv_aload_n hx hb dX11_seen_19 rfl (lv_at hl 0 rfl) ?_
  refine va_get (D := (dC, dI)) (ci := 11) (v := .ref a1) (C := RX11) (T := TX11) (N := 24) hx hb hts hnX11 hown hK hP 0 rfl rfl 0 (by decide) hf7 (fun _ h9 => h9) rfl dX11_seen_20 ?_
  refine lv_bipush (v := 60) hx hb dX11_seen_23 (by decide) ?_
  refine lv_iload_n hx hb dX11_seen_25 rfl (lv_at hl 1 rfl) ?_
  refine lv_iadd hx hb dX11_seen_26 ?_
  refine yy_int (v := 72) (by decide) ?_
  refine yy_iald (v := 0) hx hb hK hP 1 0 rfl rfl (yin (by decide)) dX11_seen_27 rfl ?_
  refine lv_i2l hx hb dX11_seen_28 rfl ?_
  have hPc := hP.sub (ws' := []) [] rfl
  have hDc := hD.sub (ws' := []) [] (by decide) rfl
  refine yy_calli [] [0, 1] (wr := [(a0, .inr (11, [.ref a1, .int 0, .int 0, .ref a2, .ref a3, .ref a4, .ref a5, .int 0, .ref a6, .ref a7, .ref a8, .int 0, .int 32, .int 0, .ref a9, .ref a10, .int 0, .int 0, .ref a11, .ref a12, .ref a13, .ref a14, .ref a15, .ref a16])), (a1, .inl (cyI, 2490, .inl (yz v0 1)))]) (va_runS (As := [.long (v0 : Int32).toInt64, .long (1 : Int32).toInt64, .long (0 : Int32).toInt64]) (rest := []) ⟨hx, hb, hml, hown, hts⟩ (r_inE l dC dI cyI cyZ cyO s.heap.size v0 1 0 (by decide)) (va_cwS 3 hts gX11_seen_X11_in rfl rfl rfl (by decide +kernel) ⟨Nat.le_of_ble_eq_true rfl, Nat.le_of_ble_eq_true rfl⟩) (yPreS hK hPc hDc) rfl rfl hl.1 rfl (lv_room (Nat.le_of_ble_eq_true rfl)) dX11_seen_29 ⟨Nat.le_of_ble_eq_true rfl, Nat.le_of_ble_eq_true rfl⟩) hP hD hS hA rfl rfl (by decide) (by decide) (fun r_2 u_1 H locs hw hP hD hS => ?_)
  have hP : va_P (dC, dI) vwCl [(a0, .inr (11, [.ref a1, .int 0, .int 0, .ref a2, .ref a3, .ref a4, .ref a5, .int 0, .ref a6, .ref a7, .ref a8, .int 0, .int 32, .int 0, .ref a9, .ref a10, .int 0, .int 0, .ref a11, .ref a12, .ref a13, .ref a14, .ref a15, .ref a16])), (a1, .inl (cyI, 2490, .inl (yz v0 1)))] H := hP
  have hD : va_D A [(a0, .inr (11, [.ref a1, .int 0, .int 0, .ref a2, .ref a3, .ref a4, .ref a5, .int 0, .ref a6, .ref a7, .ref a8, .int 0, .int 32, .int 0, .ref a9, .ref a10, .int 0, .int 0, .ref a11, .ref a12, .ref a13, .ref a14, .ref a15, .ref a16])), (a1, .inl (cyI, 2490, .inl (yz v0 1)))] := hD
  refine W.widen (k := 0) (n := 0) (Nat.le_of_ble_eq_true rfl) (Nat.le_of_ble_eq_true rfl) ?_
  have hw : r_2 = 0 := hw
  subst hw
  refine lv_istore_n (lv' := [(2, .int 0), (0, .ref a0), (1, .int 12)]) hx hb dX11_seen_32 rfl hl (by decide) rfl (fun ls hl => ?_)
  refine lv_iload_n hx hb dX11_seen_33 rfl (lv_at hl 0 rfl) ?_
  refine lv_if_eq (tgt := 56) hx hb dX11_seen_34 (by decide) (fun _ => ?_) (fun c => absurd (by decide) c)
  refine lv_aload_n hx hb dX11_seen_56 rfl (lv_at hl 1 rfl) ?_
  refine va_get (D := (dC, dI)) (ci := 11) (v := .ref a1) (C := RX11) (T := TX11) (N := 24) hx hb hts hnX11 hown hK hP 0 rfl rfl 0 (by decide) hf7 (fun _ h9 => h9) rfl dX11_seen_57 ?_
  refine lv_iload_n hx hb dX11_seen_60 rfl (lv_at hl 2 rfl) ?_
  refine yy_iald (v := 0) hx hb hK hP 1 0 rfl rfl (yin (by decide)) dX11_seen_61 rfl ?_
  refine W.widen (k := 0) (n := 0) (Nat.le_of_ble_eq_true rfl) (Nat.le_of_ble_eq_true rfl) ?_
  exact yy_iret (v := 0) () hx hb hr hlk rfl hsz hAe hK hP hD hS [0, 1] rfl rfl (by decide) (rfl) dX11_seen_62
set_option maxHeartbeats 4000000 in
set_option maxRecDepth 100000 in
theorem rS_X11_seen_133 (l : Launch) (dC : Nat → ClassId) (dI : Nat → Nat → Nat) (cyI cyZ cyO : ClassId) (sz : Nat) (a0 : Nat) (a1 : Nat) (a2 : Nat) (a3 : Nat) (a4 : Nat) (a5 : Nat) (a6 : Nat) (a7 : Nat) (a8 : Nat) (a9 : Nat) (a10 : Nat) (a11 : Nat) (a12 : Nat) (a13 : Nat) (a14 : Nat) (a15 : Nat) (a16 : Nat) (v0 : Int32)  : Met l yX11_seen wsX11_seen ({ frames := 1, cells := 0, slots := 0, locals := 25 }) (yPre [.ref a0, .int 13] (dC, dI) [(a0, .inr (11, [.ref a1, .int 0, .int 0, .ref a2, .ref a3, .ref a4, .ref a5, .int 0, .ref a6, .ref a7, .ref a8, .int 0, .int 32, .int 0, .ref a9, .ref a10, .int 0, .int 0, .ref a11, .ref a12, .ref a13, .ref a14, .ref a15, .ref a16])), (a1, .inl (cyI, 2490, .inl (yz v0 1)))] (yT cyI cyZ cyO) sz) (yQi (fun (r : Int32) (u : Unit) => r = 0) (dC, dI) [(a0, .inr (11, [.ref a1, .int 0, .int 0, .ref a2, .ref a3, .ref a4, .ref a5, .int 0, .ref a6, .ref a7, .ref a8, .int 0, .int 32, .int 0, .ref a9, .ref a10, .int 0, .int 0, .ref a11, .ref a12, .ref a13, .ref a14, .ref a15, .ref a16])), (a1, .inl (cyI, 2490, .inl (yz v0 1)))] (yT cyI cyZ cyO) sz (fun _ => [(a0, .inr (11, [.ref a1, .int 0, .int 0, .ref a2, .ref a3, .ref a4, .ref a5, .int 0, .ref a6, .ref a7, .ref a8, .int 0, .int 32, .int 0, .ref a9, .ref a10, .int 0, .int 0, .ref a11, .ref a12, .ref a13, .ref a14, .ref a15, .ref a16])), (a1, .inl (cyI, 2490, .inl (yz v0 1)))])) 0 0 (va_A [(a0, .inr (11, [.ref a1, .int 0, .int 0, .ref a2, .ref a3, .ref a4, .ref a5, .int 0, .ref a6, .ref a7, .ref a8, .int 0, .int 32, .int 0, .ref a9, .ref a10, .int 0, .int 0, .ref a11, .ref a12, .ref a13, .ref a14, .ref a15, .ref a16])), (a1, .inl (cyI, 2490, .inl (yz v0 1)))] sz) := by
  refine yMet (cc := cX11_seen) (maxL := 3) (ret := (some .int)) (by decide) rfl (Nat.le_of_ble_eq_true rfl) ?_
  intro p e s m below meth c A hx hb hr hlk hml hts hown hnm hsz hAe hP hK hD hA hS ls hl
  have hl : lv_has ls 3 [(0, .ref a0), (1, .int 13)] := hl
  have hf7 := hts (.fieldLink RX11 7 "BusBridgeModel" "z" "[I") (by decide +kernel)
  have hnX11 : ∀ w ∈ wsX110, w ∈ wsX11_seen := by decide +kernel
  refine lv_aload_n hx hb dX11_seen_0 rfl (lv_at hl 0 rfl) ?_
  refine va_get (D := (dC, dI)) (ci := 11) (v := .ref a1) (C := RX11) (T := TX11) (N := 24) hx hb hts hnX11 hown hK hP 0 rfl rfl 0 (by decide) hf7 (fun _ h9 => h9) rfl dX11_seen_1 ?_
  refine lv_sipush (v := 179) hx hb dX11_seen_4 (by decide) ?_
  refine yy_iald (v := v0) hx hb hK hP 1 0 rfl rfl (yin (by decide)) dX11_seen_7 rfl ?_
  refine lv_i2l hx hb dX11_seen_8 rfl ?_
  refine lv_aload_n hx hb dX11_seen_9 rfl (lv_at hl 0 rfl) ?_
  refine va_get (D := (dC, dI)) (ci := 11) (v := .ref a1) (C := RX11) (T := TX11) (N := 24) hx hb hts hnX11 hown hK hP 0 rfl rfl 0 (by decide) hf7 (fun _ h9 => h9) rfl dX11_seen_10 ?_
  refine lv_bipush (v := 45) hx hb dX11_seen_13 (by decide) ?_
  refine lv_iload_n hx hb dX11_seen_15 rfl (lv_at hl 1 rfl) ?_
  refine lv_iadd hx hb dX11_seen_16 ?_
  refine yy_int (v := 58) (by decide) ?_
  refine yy_iald (v := 1) hx hb hK hP 1 0 rfl rfl (yin (by decide)) dX11_seen_17 rfl ?_
  refine lv_i2l hx hb dX11_seen_18 rfl ?_
  refine lv_aload_n hx hb dX11_seen_19 rfl (lv_at hl 0 rfl) ?_
  refine va_get (D := (dC, dI)) (ci := 11) (v := .ref a1) (C := RX11) (T := TX11) (N := 24) hx hb hts hnX11 hown hK hP 0 rfl rfl 0 (by decide) hf7 (fun _ h9 => h9) rfl dX11_seen_20 ?_
  refine lv_bipush (v := 60) hx hb dX11_seen_23 (by decide) ?_
  refine lv_iload_n hx hb dX11_seen_25 rfl (lv_at hl 1 rfl) ?_
  refine lv_iadd hx hb dX11_seen_26 ?_
  refine yy_int (v := 73) (by decide) ?_
  refine yy_iald (v := 0) hx hb hK hP 1 0 rfl rfl (yin (by decide)) dX11_seen_27 rfl ?_
  refine lv_i2l hx hb dX11_seen_28 rfl ?_
  have hPc := hP.sub (ws' := []) [] rfl
  have hDc := hD.sub (ws' := []) [] (by decide) rfl
  refine yy_calli [] [0, 1] (wr := [(a0, .inr (11, [.ref a1, .int 0, .int 0, .ref a2, .ref a3, .ref a4, .ref a5, .int 0, .ref a6, .ref a7, .ref a8, .int 0, .int 32, .int 0, .ref a9, .ref a10, .int 0, .int 0, .ref a11, .ref a12, .ref a13, .ref a14, .ref a15, .ref a16])), (a1, .inl (cyI, 2490, .inl (yz v0 1)))]) (va_runS (As := [.long (v0 : Int32).toInt64, .long (1 : Int32).toInt64, .long (0 : Int32).toInt64]) (rest := []) ⟨hx, hb, hml, hown, hts⟩ (r_inE l dC dI cyI cyZ cyO s.heap.size v0 1 0 (by decide)) (va_cwS 3 hts gX11_seen_X11_in rfl rfl rfl (by decide +kernel) ⟨Nat.le_of_ble_eq_true rfl, Nat.le_of_ble_eq_true rfl⟩) (yPreS hK hPc hDc) rfl rfl hl.1 rfl (lv_room (Nat.le_of_ble_eq_true rfl)) dX11_seen_29 ⟨Nat.le_of_ble_eq_true rfl, Nat.le_of_ble_eq_true rfl⟩) hP hD hS hA rfl rfl (by decide) (by decide) (fun r_2 u_1 H locs hw hP hD hS => ?_)
  have hP : va_P (dC, dI) vwCl [(a0, .inr (11, [.ref a1, .int 0, .int 0, .ref a2, .ref a3, .ref a4, .ref a5, .int 0, .ref a6, .ref a7, .ref a8, .int 0, .int 32, .int 0, .ref a9, .ref a10, .int 0, .int 0, .ref a11, .ref a12, .ref a13, .ref a14, .ref a15, .ref a16])), (a1, .inl (cyI, 2490, .inl (yz v0 1)))] H := hP
  have hD : va_D A [(a0, .inr (11, [.ref a1, .int 0, .int 0, .ref a2, .ref a3, .ref a4, .ref a5, .int 0, .ref a6, .ref a7, .ref a8, .int 0, .int 32, .int 0, .ref a9, .ref a10, .int 0, .int 0, .ref a11, .ref a12, .ref a13, .ref a14, .ref a15, .ref a16])), (a1, .inl (cyI, 2490, .inl (yz v0 1)))] := hD
  refine W.widen (k := 0) (n := 0) (Nat.le_of_ble_eq_true rfl) (Nat.le_of_ble_eq_true rfl) ?_
  have hw : r_2 = 0 := hw
  subst hw
  refine lv_istore_n (lv' := [(2, .int 0), (0, .ref a0), (1, .int 13)]) hx hb dX11_seen_32 rfl hl (by decide) rfl (fun ls hl => ?_)
  refine lv_iload_n hx hb dX11_seen_33 rfl (lv_at hl 0 rfl) ?_
  refine lv_if_eq (tgt := 56) hx hb dX11_seen_34 (by decide) (fun _ => ?_) (fun c => absurd (by decide) c)
  refine lv_aload_n hx hb dX11_seen_56 rfl (lv_at hl 1 rfl) ?_
  refine va_get (D := (dC, dI)) (ci := 11) (v := .ref a1) (C := RX11) (T := TX11) (N := 24) hx hb hts hnX11 hown hK hP 0 rfl rfl 0 (by decide) hf7 (fun _ h9 => h9) rfl dX11_seen_57 ?_
  refine lv_iload_n hx hb dX11_seen_60 rfl (lv_at hl 2 rfl) ?_
  refine yy_iald (v := 0) hx hb hK hP 1 0 rfl rfl (yin (by decide)) dX11_seen_61 rfl ?_
  refine W.widen (k := 0) (n := 0) (Nat.le_of_ble_eq_true rfl) (Nat.le_of_ble_eq_true rfl) ?_
  exact yy_iret (v := 0) () hx hb hr hlk rfl hsz hAe hK hP hD hS [0, 1] rfl rfl (by decide) (rfl) dX11_seen_62
set_option maxHeartbeats 4000000 in
set_option maxRecDepth 100000 in
theorem rS_X11_seen_134 (l : Launch) (dC : Nat → ClassId) (dI : Nat → Nat → Nat) (cyI cyZ cyO : ClassId) (sz : Nat) (a0 : Nat) (a1 : Nat) (a2 : Nat) (a3 : Nat) (a4 : Nat) (a5 : Nat) (a6 : Nat) (a7 : Nat) (a8 : Nat) (a9 : Nat) (a10 : Nat) (a11 : Nat) (a12 : Nat) (a13 : Nat) (a14 : Nat) (a15 : Nat) (a16 : Nat) (v0 : Int32)  : Met l yX11_seen wsX11_seen ({ frames := 1, cells := 0, slots := 0, locals := 25 }) (yPre [.ref a0, .int 14] (dC, dI) [(a0, .inr (11, [.ref a1, .int 0, .int 0, .ref a2, .ref a3, .ref a4, .ref a5, .int 0, .ref a6, .ref a7, .ref a8, .int 0, .int 32, .int 0, .ref a9, .ref a10, .int 0, .int 0, .ref a11, .ref a12, .ref a13, .ref a14, .ref a15, .ref a16])), (a1, .inl (cyI, 2490, .inl (yz v0 1)))] (yT cyI cyZ cyO) sz) (yQi (fun (r : Int32) (u : Unit) => r = 0) (dC, dI) [(a0, .inr (11, [.ref a1, .int 0, .int 0, .ref a2, .ref a3, .ref a4, .ref a5, .int 0, .ref a6, .ref a7, .ref a8, .int 0, .int 32, .int 0, .ref a9, .ref a10, .int 0, .int 0, .ref a11, .ref a12, .ref a13, .ref a14, .ref a15, .ref a16])), (a1, .inl (cyI, 2490, .inl (yz v0 1)))] (yT cyI cyZ cyO) sz (fun _ => [(a0, .inr (11, [.ref a1, .int 0, .int 0, .ref a2, .ref a3, .ref a4, .ref a5, .int 0, .ref a6, .ref a7, .ref a8, .int 0, .int 32, .int 0, .ref a9, .ref a10, .int 0, .int 0, .ref a11, .ref a12, .ref a13, .ref a14, .ref a15, .ref a16])), (a1, .inl (cyI, 2490, .inl (yz v0 1)))])) 0 0 (va_A [(a0, .inr (11, [.ref a1, .int 0, .int 0, .ref a2, .ref a3, .ref a4, .ref a5, .int 0, .ref a6, .ref a7, .ref a8, .int 0, .int 32, .int 0, .ref a9, .ref a10, .int 0, .int 0, .ref a11, .ref a12, .ref a13, .ref a14, .ref a15, .ref a16])), (a1, .inl (cyI, 2490, .inl (yz v0 1)))] sz) := by
  refine yMet (cc := cX11_seen) (maxL := 3) (ret := (some .int)) (by decide) rfl (Nat.le_of_ble_eq_true rfl) ?_
  intro p e s m below meth c A hx hb hr hlk hml hts hown hnm hsz hAe hP hK hD hA hS ls hl
  have hl : lv_has ls 3 [(0, .ref a0), (1, .int 14)] := hl
  have hf7 := hts (.fieldLink RX11 7 "BusBridgeModel" "z" "[I") (by decide +kernel)
  have hnX11 : ∀ w ∈ wsX110, w ∈ wsX11_seen := by decide +kernel
  refine lv_aload_n hx hb dX11_seen_0 rfl (lv_at hl 0 rfl) ?_
  refine va_get (D := (dC, dI)) (ci := 11) (v := .ref a1) (C := RX11) (T := TX11) (N := 24) hx hb hts hnX11 hown hK hP 0 rfl rfl 0 (by decide) hf7 (fun _ h9 => h9) rfl dX11_seen_1 ?_
  refine lv_sipush (v := 179) hx hb dX11_seen_4 (by decide) ?_
  refine yy_iald (v := v0) hx hb hK hP 1 0 rfl rfl (yin (by decide)) dX11_seen_7 rfl ?_
  refine lv_i2l hx hb dX11_seen_8 rfl ?_
  refine lv_aload_n hx hb dX11_seen_9 rfl (lv_at hl 0 rfl) ?_
  refine va_get (D := (dC, dI)) (ci := 11) (v := .ref a1) (C := RX11) (T := TX11) (N := 24) hx hb hts hnX11 hown hK hP 0 rfl rfl 0 (by decide) hf7 (fun _ h9 => h9) rfl dX11_seen_10 ?_
  refine lv_bipush (v := 45) hx hb dX11_seen_13 (by decide) ?_
  refine lv_iload_n hx hb dX11_seen_15 rfl (lv_at hl 1 rfl) ?_
  refine lv_iadd hx hb dX11_seen_16 ?_
  refine yy_int (v := 59) (by decide) ?_
  refine yy_iald (v := 1) hx hb hK hP 1 0 rfl rfl (yin (by decide)) dX11_seen_17 rfl ?_
  refine lv_i2l hx hb dX11_seen_18 rfl ?_
  refine lv_aload_n hx hb dX11_seen_19 rfl (lv_at hl 0 rfl) ?_
  refine va_get (D := (dC, dI)) (ci := 11) (v := .ref a1) (C := RX11) (T := TX11) (N := 24) hx hb hts hnX11 hown hK hP 0 rfl rfl 0 (by decide) hf7 (fun _ h9 => h9) rfl dX11_seen_20 ?_
  refine lv_bipush (v := 60) hx hb dX11_seen_23 (by decide) ?_
  refine lv_iload_n hx hb dX11_seen_25 rfl (lv_at hl 1 rfl) ?_
  refine lv_iadd hx hb dX11_seen_26 ?_
  refine yy_int (v := 74) (by decide) ?_
  refine yy_iald (v := 0) hx hb hK hP 1 0 rfl rfl (yin (by decide)) dX11_seen_27 rfl ?_
  refine lv_i2l hx hb dX11_seen_28 rfl ?_
  have hPc := hP.sub (ws' := []) [] rfl
  have hDc := hD.sub (ws' := []) [] (by decide) rfl
  refine yy_calli [] [0, 1] (wr := [(a0, .inr (11, [.ref a1, .int 0, .int 0, .ref a2, .ref a3, .ref a4, .ref a5, .int 0, .ref a6, .ref a7, .ref a8, .int 0, .int 32, .int 0, .ref a9, .ref a10, .int 0, .int 0, .ref a11, .ref a12, .ref a13, .ref a14, .ref a15, .ref a16])), (a1, .inl (cyI, 2490, .inl (yz v0 1)))]) (va_runS (As := [.long (v0 : Int32).toInt64, .long (1 : Int32).toInt64, .long (0 : Int32).toInt64]) (rest := []) ⟨hx, hb, hml, hown, hts⟩ (r_inE l dC dI cyI cyZ cyO s.heap.size v0 1 0 (by decide)) (va_cwS 3 hts gX11_seen_X11_in rfl rfl rfl (by decide +kernel) ⟨Nat.le_of_ble_eq_true rfl, Nat.le_of_ble_eq_true rfl⟩) (yPreS hK hPc hDc) rfl rfl hl.1 rfl (lv_room (Nat.le_of_ble_eq_true rfl)) dX11_seen_29 ⟨Nat.le_of_ble_eq_true rfl, Nat.le_of_ble_eq_true rfl⟩) hP hD hS hA rfl rfl (by decide) (by decide) (fun r_2 u_1 H locs hw hP hD hS => ?_)
  have hP : va_P (dC, dI) vwCl [(a0, .inr (11, [.ref a1, .int 0, .int 0, .ref a2, .ref a3, .ref a4, .ref a5, .int 0, .ref a6, .ref a7, .ref a8, .int 0, .int 32, .int 0, .ref a9, .ref a10, .int 0, .int 0, .ref a11, .ref a12, .ref a13, .ref a14, .ref a15, .ref a16])), (a1, .inl (cyI, 2490, .inl (yz v0 1)))] H := hP
  have hD : va_D A [(a0, .inr (11, [.ref a1, .int 0, .int 0, .ref a2, .ref a3, .ref a4, .ref a5, .int 0, .ref a6, .ref a7, .ref a8, .int 0, .int 32, .int 0, .ref a9, .ref a10, .int 0, .int 0, .ref a11, .ref a12, .ref a13, .ref a14, .ref a15, .ref a16])), (a1, .inl (cyI, 2490, .inl (yz v0 1)))] := hD
  refine W.widen (k := 0) (n := 0) (Nat.le_of_ble_eq_true rfl) (Nat.le_of_ble_eq_true rfl) ?_
  have hw : r_2 = 0 := hw
  subst hw
  refine lv_istore_n (lv' := [(2, .int 0), (0, .ref a0), (1, .int 14)]) hx hb dX11_seen_32 rfl hl (by decide) rfl (fun ls hl => ?_)
  refine lv_iload_n hx hb dX11_seen_33 rfl (lv_at hl 0 rfl) ?_
  refine lv_if_eq (tgt := 56) hx hb dX11_seen_34 (by decide) (fun _ => ?_) (fun c => absurd (by decide) c)
  refine lv_aload_n hx hb dX11_seen_56 rfl (lv_at hl 1 rfl) ?_
  refine va_get (D := (dC, dI)) (ci := 11) (v := .ref a1) (C := RX11) (T := TX11) (N := 24) hx hb hts hnX11 hown hK hP 0 rfl rfl 0 (by decide) hf7 (fun _ h9 => h9) rfl dX11_seen_57 ?_
  refine lv_iload_n hx hb dX11_seen_60 rfl (lv_at hl 2 rfl) ?_
  refine yy_iald (v := 0) hx hb hK hP 1 0 rfl rfl (yin (by decide)) dX11_seen_61 rfl ?_
  refine W.widen (k := 0) (n := 0) (Nat.le_of_ble_eq_true rfl) (Nat.le_of_ble_eq_true rfl) ?_
  exact yy_iret (v := 0) () hx hb hr hlk rfl hsz hAe hK hP hD hS [0, 1] rfl rfl (by decide) (rfl) dX11_seen_62
set_option maxHeartbeats 4000000 in
set_option maxRecDepth 100000 in
theorem rS_X11_was_135 (l : Launch) (dC : Nat → ClassId) (dI : Nat → Nat → Nat) (cyI cyZ cyO : ClassId) (sz : Nat) (a0 : Nat) (a1 : Nat) (a2 : Nat) (a3 : Nat) (a4 : Nat) (a5 : Nat) (a6 : Nat) (a7 : Nat) (a8 : Nat) (a9 : Nat) (a10 : Nat) (a11 : Nat) (a12 : Nat) (a13 : Nat) (a14 : Nat) (a15 : Nat) (a16 : Nat) (v0 : Int32)  : Met l yX11_was wsX11_was ({ frames := 0, cells := 0, slots := 0, locals := 0 }) (yPre [.ref a0, .int 4] (dC, dI) [(a0, .inr (11, [.ref a1, .int 0, .int 0, .ref a2, .ref a3, .ref a4, .ref a5, .int 0, .ref a6, .ref a7, .ref a8, .int 0, .int 32, .int 0, .ref a9, .ref a10, .int 0, .int 0, .ref a11, .ref a12, .ref a13, .ref a14, .ref a15, .ref a16])), (a1, .inl (cyI, 2490, .inl (yz v0 1)))] (yT cyI cyZ cyO) sz) (yQi (fun (r : Int32) (u : Unit) => r = 1) (dC, dI) [(a0, .inr (11, [.ref a1, .int 0, .int 0, .ref a2, .ref a3, .ref a4, .ref a5, .int 0, .ref a6, .ref a7, .ref a8, .int 0, .int 32, .int 0, .ref a9, .ref a10, .int 0, .int 0, .ref a11, .ref a12, .ref a13, .ref a14, .ref a15, .ref a16])), (a1, .inl (cyI, 2490, .inl (yz v0 1)))] (yT cyI cyZ cyO) sz (fun _ => [(a0, .inr (11, [.ref a1, .int 0, .int 0, .ref a2, .ref a3, .ref a4, .ref a5, .int 0, .ref a6, .ref a7, .ref a8, .int 0, .int 32, .int 0, .ref a9, .ref a10, .int 0, .int 0, .ref a11, .ref a12, .ref a13, .ref a14, .ref a15, .ref a16])), (a1, .inl (cyI, 2490, .inl (yz v0 1)))])) 0 0 (va_A [(a0, .inr (11, [.ref a1, .int 0, .int 0, .ref a2, .ref a3, .ref a4, .ref a5, .int 0, .ref a6, .ref a7, .ref a8, .int 0, .int 32, .int 0, .ref a9, .ref a10, .int 0, .int 0, .ref a11, .ref a12, .ref a13, .ref a14, .ref a15, .ref a16])), (a1, .inl (cyI, 2490, .inl (yz v0 1)))] sz) := by
  refine yMet (cc := cX11_was) (maxL := 2) (ret := (some .int)) (by decide) rfl (Nat.le_of_ble_eq_true rfl) ?_
  intro p e s m below meth c A hx hb hr hlk hml hts hown hnm hsz hAe hP hK hD hA hS ls hl
  have hl : lv_has ls 2 [(0, .ref a0), (1, .int 4)] := hl
  have hf7 := hts (.fieldLink RX11 7 "BusBridgeModel" "z" "[I") (by decide +kernel)
  have hnX11 : ∀ w ∈ wsX110, w ∈ wsX11_was := by decide +kernel
  refine lv_aload_n hx hb dX11_was_0 rfl (lv_at hl 0 rfl) ?_
  refine va_get (D := (dC, dI)) (ci := 11) (v := .ref a1) (C := RX11) (T := TX11) (N := 24) hx hb hts hnX11 hown hK hP 0 rfl rfl 0 (by decide) hf7 (fun _ h9 => h9) rfl dX11_was_1 ?_
  refine lv_bipush (v := 15) hx hb dX11_was_4 (by decide) ?_
  refine lv_iload_n hx hb dX11_was_6 rfl (lv_at hl 1 rfl) ?_
  refine lv_iadd hx hb dX11_was_7 ?_
  refine yy_int (v := 19) (by decide) ?_
  refine yy_iald (v := 1) hx hb hK hP 1 0 rfl rfl (yin (by decide)) dX11_was_8 rfl ?_
  refine W.widen (k := 0) (n := 0) (Nat.le_of_ble_eq_true rfl) (Nat.le_of_ble_eq_true rfl) ?_
  exact yy_iret (v := 1) () hx hb hr hlk rfl hsz hAe hK hP hD hS [0, 1] rfl rfl (by decide) (rfl) dX11_was_9
set_option maxHeartbeats 4000000 in
set_option maxRecDepth 100000 in
theorem rS_X11_was_136 (l : Launch) (dC : Nat → ClassId) (dI : Nat → Nat → Nat) (cyI cyZ cyO : ClassId) (sz : Nat) (a0 : Nat) (a1 : Nat) (a2 : Nat) (a3 : Nat) (a4 : Nat) (a5 : Nat) (a6 : Nat) (a7 : Nat) (a8 : Nat) (a9 : Nat) (a10 : Nat) (a11 : Nat) (a12 : Nat) (a13 : Nat) (a14 : Nat) (a15 : Nat) (a16 : Nat) (v0 : Int32)  : Met l yX11_was wsX11_was ({ frames := 0, cells := 0, slots := 0, locals := 0 }) (yPre [.ref a0, .int 2] (dC, dI) [(a0, .inr (11, [.ref a1, .int 0, .int 0, .ref a2, .ref a3, .ref a4, .ref a5, .int 0, .ref a6, .ref a7, .ref a8, .int 0, .int 32, .int 0, .ref a9, .ref a10, .int 0, .int 0, .ref a11, .ref a12, .ref a13, .ref a14, .ref a15, .ref a16])), (a1, .inl (cyI, 2490, .inl (yz v0 1)))] (yT cyI cyZ cyO) sz) (yQi (fun (r : Int32) (u : Unit) => r = 0) (dC, dI) [(a0, .inr (11, [.ref a1, .int 0, .int 0, .ref a2, .ref a3, .ref a4, .ref a5, .int 0, .ref a6, .ref a7, .ref a8, .int 0, .int 32, .int 0, .ref a9, .ref a10, .int 0, .int 0, .ref a11, .ref a12, .ref a13, .ref a14, .ref a15, .ref a16])), (a1, .inl (cyI, 2490, .inl (yz v0 1)))] (yT cyI cyZ cyO) sz (fun _ => [(a0, .inr (11, [.ref a1, .int 0, .int 0, .ref a2, .ref a3, .ref a4, .ref a5, .int 0, .ref a6, .ref a7, .ref a8, .int 0, .int 32, .int 0, .ref a9, .ref a10, .int 0, .int 0, .ref a11, .ref a12, .ref a13, .ref a14, .ref a15, .ref a16])), (a1, .inl (cyI, 2490, .inl (yz v0 1)))])) 0 0 (va_A [(a0, .inr (11, [.ref a1, .int 0, .int 0, .ref a2, .ref a3, .ref a4, .ref a5, .int 0, .ref a6, .ref a7, .ref a8, .int 0, .int 32, .int 0, .ref a9, .ref a10, .int 0, .int 0, .ref a11, .ref a12, .ref a13, .ref a14, .ref a15, .ref a16])), (a1, .inl (cyI, 2490, .inl (yz v0 1)))] sz) := by
  refine yMet (cc := cX11_was) (maxL := 2) (ret := (some .int)) (by decide) rfl (Nat.le_of_ble_eq_true rfl) ?_
  intro p e s m below meth c A hx hb hr hlk hml hts hown hnm hsz hAe hP hK hD hA hS ls hl
  have hl : lv_has ls 2 [(0, .ref a0), (1, .int 2)] := hl
  have hf7 := hts (.fieldLink RX11 7 "BusBridgeModel" "z" "[I") (by decide +kernel)
  have hnX11 : ∀ w ∈ wsX110, w ∈ wsX11_was := by decide +kernel
  refine lv_aload_n hx hb dX11_was_0 rfl (lv_at hl 0 rfl) ?_
  refine va_get (D := (dC, dI)) (ci := 11) (v := .ref a1) (C := RX11) (T := TX11) (N := 24) hx hb hts hnX11 hown hK hP 0 rfl rfl 0 (by decide) hf7 (fun _ h9 => h9) rfl dX11_was_1 ?_
  refine lv_bipush (v := 15) hx hb dX11_was_4 (by decide) ?_
  refine lv_iload_n hx hb dX11_was_6 rfl (lv_at hl 1 rfl) ?_
  refine lv_iadd hx hb dX11_was_7 ?_
  refine yy_int (v := 17) (by decide) ?_
  refine yy_iald (v := 0) hx hb hK hP 1 0 rfl rfl (yin (by decide)) dX11_was_8 rfl ?_
  refine W.widen (k := 0) (n := 0) (Nat.le_of_ble_eq_true rfl) (Nat.le_of_ble_eq_true rfl) ?_
  exact yy_iret (v := 0) () hx hb hr hlk rfl hsz hAe hK hP hD hS [0, 1] rfl rfl (by decide) (rfl) dX11_was_9
set_option maxHeartbeats 4000000 in
set_option maxRecDepth 100000 in
theorem rS_X11_isActive_137 (l : Launch) (dC : Nat → ClassId) (dI : Nat → Nat → Nat) (cyI cyZ cyO : ClassId) (sz : Nat)   : Met l yX11_isActive wsX11_isActive ({ frames := 0, cells := 0, slots := 0, locals := 0 }) (yPre [.int 0] (dC, dI) [] (yT cyI cyZ cyO) sz) (yQi (fun (r : Int32) (u : Unit) => r = 0) (dC, dI) [] (yT cyI cyZ cyO) sz (fun _ => [])) 0 0 (va_A [] sz) := by
  refine yMet (cc := cX11_isActive) (maxL := 1) (ret := (some .boolean)) (by decide) rfl (Nat.le_of_ble_eq_true rfl) ?_
  intro p e s m below meth c A hx hb hr hlk hml hts hown hnm hsz hAe hP hK hD hA hS ls hl
  have hl : lv_has ls 1 [(0, .int 0)] := hl
  refine lv_iload_n hx hb dX11_isActive_0 rfl (lv_at hl 0 rfl) ?_
  refine lv_iconst (v := 2) hx hb dX11_isActive_1 (by decide) ?_
  refine lv_icmp_eq (tgt := 10) hx hb dX11_isActive_2 (by decide) (fun c => absurd c (by decide)) (fun _ => ?_)
  refine lv_iload_n hx hb dX11_isActive_5 rfl (lv_at hl 0 rfl) ?_
  refine lv_iconst (v := 3) hx hb dX11_isActive_6 (by decide) ?_
  refine lv_icmp_ne (tgt := 14) hx hb dX11_isActive_7 (by decide) (fun _ => ?_) (fun c => absurd c (by decide))
  refine lv_iconst (v := 0) hx hb dX11_isActive_14 (by decide) ?_
  refine W.widen (k := 0) (n := 0) (Nat.le_of_ble_eq_true rfl) (Nat.le_of_ble_eq_true rfl) ?_
  exact yy_iret (v := 0) () hx hb hr hlk rfl hsz hAe hK hP hD hS [] rfl rfl (by decide) (rfl) dX11_isActive_15
set_option maxHeartbeats 4000000 in
set_option maxRecDepth 100000 in
theorem rS_X11_was_138 (l : Launch) (dC : Nat → ClassId) (dI : Nat → Nat → Nat) (cyI cyZ cyO : ClassId) (sz : Nat) (a0 : Nat) (a1 : Nat) (a2 : Nat) (a3 : Nat) (a4 : Nat) (a5 : Nat) (a6 : Nat) (a7 : Nat) (a8 : Nat) (a9 : Nat) (a10 : Nat) (a11 : Nat) (a12 : Nat) (a13 : Nat) (a14 : Nat) (a15 : Nat) (a16 : Nat) (v0 : Int32)  : Met l yX11_was wsX11_was ({ frames := 0, cells := 0, slots := 0, locals := 0 }) (yPre [.ref a0, .int 5] (dC, dI) [(a0, .inr (11, [.ref a1, .int 0, .int 0, .ref a2, .ref a3, .ref a4, .ref a5, .int 0, .ref a6, .ref a7, .ref a8, .int 0, .int 32, .int 0, .ref a9, .ref a10, .int 0, .int 0, .ref a11, .ref a12, .ref a13, .ref a14, .ref a15, .ref a16])), (a1, .inl (cyI, 2490, .inl (yz v0 1)))] (yT cyI cyZ cyO) sz) (yQi (fun (r : Int32) (u : Unit) => r = 0) (dC, dI) [(a0, .inr (11, [.ref a1, .int 0, .int 0, .ref a2, .ref a3, .ref a4, .ref a5, .int 0, .ref a6, .ref a7, .ref a8, .int 0, .int 32, .int 0, .ref a9, .ref a10, .int 0, .int 0, .ref a11, .ref a12, .ref a13, .ref a14, .ref a15, .ref a16])), (a1, .inl (cyI, 2490, .inl (yz v0 1)))] (yT cyI cyZ cyO) sz (fun _ => [(a0, .inr (11, [.ref a1, .int 0, .int 0, .ref a2, .ref a3, .ref a4, .ref a5, .int 0, .ref a6, .ref a7, .ref a8, .int 0, .int 32, .int 0, .ref a9, .ref a10, .int 0, .int 0, .ref a11, .ref a12, .ref a13, .ref a14, .ref a15, .ref a16])), (a1, .inl (cyI, 2490, .inl (yz v0 1)))])) 0 0 (va_A [(a0, .inr (11, [.ref a1, .int 0, .int 0, .ref a2, .ref a3, .ref a4, .ref a5, .int 0, .ref a6, .ref a7, .ref a8, .int 0, .int 32, .int 0, .ref a9, .ref a10, .int 0, .int 0, .ref a11, .ref a12, .ref a13, .ref a14, .ref a15, .ref a16])), (a1, .inl (cyI, 2490, .inl (yz v0 1)))] sz) := by
  refine yMet (cc := cX11_was) (maxL := 2) (ret := (some .int)) (by decide) rfl (Nat.le_of_ble_eq_true rfl) ?_
  intro p e s m below meth c A hx hb hr hlk hml hts hown hnm hsz hAe hP hK hD hA hS ls hl
  have hl : lv_has ls 2 [(0, .ref a0), (1, .int 5)] := hl
  have hf7 := hts (.fieldLink RX11 7 "BusBridgeModel" "z" "[I") (by decide +kernel)
  have hnX11 : ∀ w ∈ wsX110, w ∈ wsX11_was := by decide +kernel
  refine lv_aload_n hx hb dX11_was_0 rfl (lv_at hl 0 rfl) ?_
  refine va_get (D := (dC, dI)) (ci := 11) (v := .ref a1) (C := RX11) (T := TX11) (N := 24) hx hb hts hnX11 hown hK hP 0 rfl rfl 0 (by decide) hf7 (fun _ h9 => h9) rfl dX11_was_1 ?_
  refine lv_bipush (v := 15) hx hb dX11_was_4 (by decide) ?_
  refine lv_iload_n hx hb dX11_was_6 rfl (lv_at hl 1 rfl) ?_
  refine lv_iadd hx hb dX11_was_7 ?_
  refine yy_int (v := 20) (by decide) ?_
  refine yy_iald (v := 0) hx hb hK hP 1 0 rfl rfl (yin (by decide)) dX11_was_8 rfl ?_
  refine W.widen (k := 0) (n := 0) (Nat.le_of_ble_eq_true rfl) (Nat.le_of_ble_eq_true rfl) ?_
  exact yy_iret (v := 0) () hx hb hr hlk rfl hsz hAe hK hP hD hS [0, 1] rfl rfl (by decide) (rfl) dX11_was_9
set_option maxHeartbeats 4000000 in
set_option maxRecDepth 100000 in
theorem rS_X11_was_139 (l : Launch) (dC : Nat → ClassId) (dI : Nat → Nat → Nat) (cyI cyZ cyO : ClassId) (sz : Nat) (a0 : Nat) (a1 : Nat) (a2 : Nat) (a3 : Nat) (a4 : Nat) (a5 : Nat) (a6 : Nat) (a7 : Nat) (a8 : Nat) (a9 : Nat) (a10 : Nat) (a11 : Nat) (a12 : Nat) (a13 : Nat) (a14 : Nat) (a15 : Nat) (a16 : Nat) (v0 : Int32)  : Met l yX11_was wsX11_was ({ frames := 0, cells := 0, slots := 0, locals := 0 }) (yPre [.ref a0, .int 7] (dC, dI) [(a0, .inr (11, [.ref a1, .int 0, .int 0, .ref a2, .ref a3, .ref a4, .ref a5, .int 0, .ref a6, .ref a7, .ref a8, .int 0, .int 32, .int 0, .ref a9, .ref a10, .int 0, .int 0, .ref a11, .ref a12, .ref a13, .ref a14, .ref a15, .ref a16])), (a1, .inl (cyI, 2490, .inl (yz v0 1)))] (yT cyI cyZ cyO) sz) (yQi (fun (r : Int32) (u : Unit) => r = 0) (dC, dI) [(a0, .inr (11, [.ref a1, .int 0, .int 0, .ref a2, .ref a3, .ref a4, .ref a5, .int 0, .ref a6, .ref a7, .ref a8, .int 0, .int 32, .int 0, .ref a9, .ref a10, .int 0, .int 0, .ref a11, .ref a12, .ref a13, .ref a14, .ref a15, .ref a16])), (a1, .inl (cyI, 2490, .inl (yz v0 1)))] (yT cyI cyZ cyO) sz (fun _ => [(a0, .inr (11, [.ref a1, .int 0, .int 0, .ref a2, .ref a3, .ref a4, .ref a5, .int 0, .ref a6, .ref a7, .ref a8, .int 0, .int 32, .int 0, .ref a9, .ref a10, .int 0, .int 0, .ref a11, .ref a12, .ref a13, .ref a14, .ref a15, .ref a16])), (a1, .inl (cyI, 2490, .inl (yz v0 1)))])) 0 0 (va_A [(a0, .inr (11, [.ref a1, .int 0, .int 0, .ref a2, .ref a3, .ref a4, .ref a5, .int 0, .ref a6, .ref a7, .ref a8, .int 0, .int 32, .int 0, .ref a9, .ref a10, .int 0, .int 0, .ref a11, .ref a12, .ref a13, .ref a14, .ref a15, .ref a16])), (a1, .inl (cyI, 2490, .inl (yz v0 1)))] sz) := by
  refine yMet (cc := cX11_was) (maxL := 2) (ret := (some .int)) (by decide) rfl (Nat.le_of_ble_eq_true rfl) ?_
  intro p e s m below meth c A hx hb hr hlk hml hts hown hnm hsz hAe hP hK hD hA hS ls hl
  have hl : lv_has ls 2 [(0, .ref a0), (1, .int 7)] := hl
  have hf7 := hts (.fieldLink RX11 7 "BusBridgeModel" "z" "[I") (by decide +kernel)
  have hnX11 : ∀ w ∈ wsX110, w ∈ wsX11_was := by decide +kernel
  refine lv_aload_n hx hb dX11_was_0 rfl (lv_at hl 0 rfl) ?_
  refine va_get (D := (dC, dI)) (ci := 11) (v := .ref a1) (C := RX11) (T := TX11) (N := 24) hx hb hts hnX11 hown hK hP 0 rfl rfl 0 (by decide) hf7 (fun _ h9 => h9) rfl dX11_was_1 ?_
  refine lv_bipush (v := 15) hx hb dX11_was_4 (by decide) ?_
  refine lv_iload_n hx hb dX11_was_6 rfl (lv_at hl 1 rfl) ?_
  refine lv_iadd hx hb dX11_was_7 ?_
  refine yy_int (v := 22) (by decide) ?_
  refine yy_iald (v := 0) hx hb hK hP 1 0 rfl rfl (yin (by decide)) dX11_was_8 rfl ?_
  refine W.widen (k := 0) (n := 0) (Nat.le_of_ble_eq_true rfl) (Nat.le_of_ble_eq_true rfl) ?_
  exact yy_iret (v := 0) () hx hb hr hlk rfl hsz hAe hK hP hD hS [0, 1] rfl rfl (by decide) (rfl) dX11_was_9
set_option maxHeartbeats 4000000 in
set_option maxRecDepth 100000 in
theorem rS_X11_was_140 (l : Launch) (dC : Nat → ClassId) (dI : Nat → Nat → Nat) (cyI cyZ cyO : ClassId) (sz : Nat) (a0 : Nat) (a1 : Nat) (a2 : Nat) (a3 : Nat) (a4 : Nat) (a5 : Nat) (a6 : Nat) (a7 : Nat) (a8 : Nat) (a9 : Nat) (a10 : Nat) (a11 : Nat) (a12 : Nat) (a13 : Nat) (a14 : Nat) (a15 : Nat) (a16 : Nat) (v0 : Int32)  : Met l yX11_was wsX11_was ({ frames := 0, cells := 0, slots := 0, locals := 0 }) (yPre [.ref a0, .int 8] (dC, dI) [(a0, .inr (11, [.ref a1, .int 0, .int 0, .ref a2, .ref a3, .ref a4, .ref a5, .int 0, .ref a6, .ref a7, .ref a8, .int 0, .int 32, .int 0, .ref a9, .ref a10, .int 0, .int 0, .ref a11, .ref a12, .ref a13, .ref a14, .ref a15, .ref a16])), (a1, .inl (cyI, 2490, .inl (yz v0 1)))] (yT cyI cyZ cyO) sz) (yQi (fun (r : Int32) (u : Unit) => r = 0) (dC, dI) [(a0, .inr (11, [.ref a1, .int 0, .int 0, .ref a2, .ref a3, .ref a4, .ref a5, .int 0, .ref a6, .ref a7, .ref a8, .int 0, .int 32, .int 0, .ref a9, .ref a10, .int 0, .int 0, .ref a11, .ref a12, .ref a13, .ref a14, .ref a15, .ref a16])), (a1, .inl (cyI, 2490, .inl (yz v0 1)))] (yT cyI cyZ cyO) sz (fun _ => [(a0, .inr (11, [.ref a1, .int 0, .int 0, .ref a2, .ref a3, .ref a4, .ref a5, .int 0, .ref a6, .ref a7, .ref a8, .int 0, .int 32, .int 0, .ref a9, .ref a10, .int 0, .int 0, .ref a11, .ref a12, .ref a13, .ref a14, .ref a15, .ref a16])), (a1, .inl (cyI, 2490, .inl (yz v0 1)))])) 0 0 (va_A [(a0, .inr (11, [.ref a1, .int 0, .int 0, .ref a2, .ref a3, .ref a4, .ref a5, .int 0, .ref a6, .ref a7, .ref a8, .int 0, .int 32, .int 0, .ref a9, .ref a10, .int 0, .int 0, .ref a11, .ref a12, .ref a13, .ref a14, .ref a15, .ref a16])), (a1, .inl (cyI, 2490, .inl (yz v0 1)))] sz) := by
  refine yMet (cc := cX11_was) (maxL := 2) (ret := (some .int)) (by decide) rfl (Nat.le_of_ble_eq_true rfl) ?_
  intro p e s m below meth c A hx hb hr hlk hml hts hown hnm hsz hAe hP hK hD hA hS ls hl
  have hl : lv_has ls 2 [(0, .ref a0), (1, .int 8)] := hl
  have hf7 := hts (.fieldLink RX11 7 "BusBridgeModel" "z" "[I") (by decide +kernel)
  have hnX11 : ∀ w ∈ wsX110, w ∈ wsX11_was := by decide +kernel
  refine lv_aload_n hx hb dX11_was_0 rfl (lv_at hl 0 rfl) ?_
  refine va_get (D := (dC, dI)) (ci := 11) (v := .ref a1) (C := RX11) (T := TX11) (N := 24) hx hb hts hnX11 hown hK hP 0 rfl rfl 0 (by decide) hf7 (fun _ h9 => h9) rfl dX11_was_1 ?_
  refine lv_bipush (v := 15) hx hb dX11_was_4 (by decide) ?_
  refine lv_iload_n hx hb dX11_was_6 rfl (lv_at hl 1 rfl) ?_
  refine lv_iadd hx hb dX11_was_7 ?_
  refine yy_int (v := 23) (by decide) ?_
  refine yy_iald (v := 0) hx hb hK hP 1 0 rfl rfl (yin (by decide)) dX11_was_8 rfl ?_
  refine W.widen (k := 0) (n := 0) (Nat.le_of_ble_eq_true rfl) (Nat.le_of_ble_eq_true rfl) ?_
  exact yy_iret (v := 0) () hx hb hr hlk rfl hsz hAe hK hP hD hS [0, 1] rfl rfl (by decide) (rfl) dX11_was_9
set_option maxHeartbeats 4000000 in
set_option maxRecDepth 100000 in
theorem rS_X11_judgeLower_141 (l : Launch) (dC : Nat → ClassId) (dI : Nat → Nat → Nat) (cyI cyZ cyO : ClassId) (sz : Nat) (a0 : Nat) (a1 : Nat) (a2 : Nat) (a3 : Nat) (a4 : Nat) (a5 : Nat) (a6 : Nat) (a7 : Nat) (a8 : Nat) (a9 : Nat) (a10 : Nat) (a11 : Nat) (a12 : Nat) (a13 : Nat) (a14 : Nat) (a15 : Nat) (a16 : Nat) (v0 : Int32)  : Met l yX11_judgeLower wsX11_judgeLower ({ frames := 1, cells := 0, slots := 0, locals := 22 }) (yPre [.ref a0, .int 1] (dC, dI) [(a0, .inr (11, [.ref a1, .int 0, .int 0, .ref a2, .ref a3, .ref a4, .ref a5, .int 0, .ref a6, .ref a7, .ref a8, .int 0, .int 32, .int 0, .ref a9, .ref a10, .int 0, .int 0, .ref a11, .ref a12, .ref a13, .ref a14, .ref a15, .ref a16])), (a1, .inl (cyI, 2490, .inl (yz v0 1))), (a9, .inl (cyI, 15, .inl yR))] (yT cyI cyZ cyO) sz) (yQv (fun (u : Unit) => True) (dC, dI) [(a0, .inr (11, [.ref a1, .int 0, .int 0, .ref a2, .ref a3, .ref a4, .ref a5, .int 0, .ref a6, .ref a7, .ref a8, .int 0, .int 32, .int 0, .ref a9, .ref a10, .int 0, .int 0, .ref a11, .ref a12, .ref a13, .ref a14, .ref a15, .ref a16])), (a1, .inl (cyI, 2490, .inl (yz v0 1))), (a9, .inl (cyI, 15, .inl yR))] (yT cyI cyZ cyO) sz (fun _ => [(a0, .inr (11, [.ref a1, .int 0, .int 0, .ref a2, .ref a3, .ref a4, .ref a5, .int 0, .ref a6, .ref a7, .ref a8, .int 0, .int 32, .int 0, .ref a9, .ref a10, .int 0, .int 0, .ref a11, .ref a12, .ref a13, .ref a14, .ref a15, .ref a16])), (a1, .inl (cyI, 2490, .inl (yz v0 1))), (a9, .inl (cyI, 15, .inl yR))])) 0 0 (va_A [(a0, .inr (11, [.ref a1, .int 0, .int 0, .ref a2, .ref a3, .ref a4, .ref a5, .int 0, .ref a6, .ref a7, .ref a8, .int 0, .int 32, .int 0, .ref a9, .ref a10, .int 0, .int 0, .ref a11, .ref a12, .ref a13, .ref a14, .ref a15, .ref a16])), (a1, .inl (cyI, 2490, .inl (yz v0 1))), (a9, .inl (cyI, 15, .inl yR))] sz) := by
  refine yMet (cc := cX11_judgeLower) (maxL := 6) (ret := none) (by decide) rfl (Nat.le_of_ble_eq_true rfl) ?_
  intro p e s m below meth c A hx hb hr hlk hml hts hown hnm hsz hAe hP hK hD hA hS ls hl
  have hl : lv_has ls 6 [(0, .ref a0), (1, .int 1)] := hl
  have hf39 := hts (.fieldLink RX11 39 "BusBridgeModel" "see" "[I") (by decide +kernel)
  have hf88 := hts (.fieldLink RX11 88 "BusBridgeModel" "slaves" "I") (by decide +kernel)
  have hnX11 : ∀ w ∈ wsX110, w ∈ wsX11_judgeLower := by decide +kernel
  refine lv_aload_n hx hb dX11_judgeLower_0 rfl (lv_at hl 0 rfl) ?_
  refine va_get (D := (dC, dI)) (ci := 11) (v := .ref a9) (C := RX11) (T := TX11) (N := 24) hx hb hts hnX11 hown hK hP 0 rfl rfl 14 (by decide) hf39 (fun _ h9 => h9) rfl dX11_judgeLower_1 ?_
  refine lv_bipush (v := 7) hx hb dX11_judgeLower_4 (by decide) ?_
  refine yy_iald (v := 0) hx hb hK hP 2 0 rfl rfl (yin (by decide)) dX11_judgeLower_6 rfl ?_
  refine lv_istore_n (lv' := [(2, .int 0), (0, .ref a0), (1, .int 1)]) hx hb dX11_judgeLower_7 rfl hl (by decide) rfl (fun ls hl => ?_)
  refine lv_aload_n hx hb dX11_judgeLower_8 rfl (lv_at hl 1 rfl) ?_
  refine va_get (D := (dC, dI)) (ci := 11) (v := .ref a9) (C := RX11) (T := TX11) (N := 24) hx hb hts hnX11 hown hK hP 0 rfl rfl 14 (by decide) hf39 (fun _ h9 => h9) rfl dX11_judgeLower_9 ?_
  refine lv_bipush (v := 8) hx hb dX11_judgeLower_12 (by decide) ?_
  refine yy_iald (v := 0) hx hb hK hP 2 0 rfl rfl (yin (by decide)) dX11_judgeLower_14 rfl ?_
  refine lv_if_eq (tgt := 22) hx hb dX11_judgeLower_15 (by decide) (fun _ => ?_) (fun c => absurd (by decide) c)
  refine lv_iconst (v := 0) hx hb dX11_judgeLower_22 (by decide) ?_
  refine lv_istore_n (lv' := [(3, .int 0), (2, .int 0), (0, .ref a0), (1, .int 1)]) hx hb dX11_judgeLower_23 rfl hl (by decide) rfl (fun ls hl => ?_)
  refine lv_aload_n hx hb dX11_judgeLower_24 rfl (lv_at hl 2 rfl) ?_
  refine lv_bipush (v := 8) hx hb dX11_judgeLower_25 (by decide) ?_
  refine lv_iload_n hx hb dX11_judgeLower_27 rfl (lv_at hl 1 rfl) ?_
  refine lv_if_eq (tgt := 61) hx hb dX11_judgeLower_28 (by decide) (fun _ => ?_) (fun c => absurd (by decide) c)
  refine lv_iconst (v := 0) hx hb dX11_judgeLower_61 (by decide) ?_
  have hPc := hP.sub (ws' := [(a0, .inr (11, [.ref a1, .int 0, .int 0, .ref a2, .ref a3, .ref a4, .ref a5, .int 0, .ref a6, .ref a7, .ref a8, .int 0, .int 32, .int 0, .ref a9, .ref a10, .int 0, .int 0, .ref a11, .ref a12, .ref a13, .ref a14, .ref a15, .ref a16]))]) [0] rfl
  have hDc := hD.sub (ws' := [(a0, .inr (11, [.ref a1, .int 0, .int 0, .ref a2, .ref a3, .ref a4, .ref a5, .int 0, .ref a6, .ref a7, .ref a8, .int 0, .int 32, .int 0, .ref a9, .ref a10, .int 0, .int 0, .ref a11, .ref a12, .ref a13, .ref a14, .ref a15, .ref a16]))]) [0] (by decide) rfl
  refine yy_callv [0] [1, 2] (wr := [(a1, .inl (cyI, 2490, .inl (yz v0 1))), (a9, .inl (cyI, 15, .inl yR))]) (va_runV (As := [.int 8, .int 0]) (rest := []) ⟨hx, hb, hml, hown, hts⟩ (r0_X11_find_103 l dC dI cyI cyZ cyO s.heap.size a0 a1 a2 a3 a4 a5 a6 a7 a8 a9 a10 a11 a12 a13 a14 a15 a16 ) (cwV 2 hts gX11_judgeLower_X11_find rfl rfl rfl (by decide +kernel) ⟨Nat.le_of_ble_eq_true rfl, Nat.le_of_ble_eq_true rfl⟩) (yPreV hK hPc hDc (ci := 11) (q0 := 0) rfl rfl) rfl rfl hl.1 rfl (lv_room (Nat.le_of_ble_eq_true rfl)) dX11_judgeLower_62 ⟨Nat.le_of_ble_eq_true rfl, Nat.le_of_ble_eq_true rfl⟩) hP hD hS hA rfl rfl (by decide) (by decide) (fun u_1 H locs hw hP hD hS => ?_)
  have hP : va_P (dC, dI) vwCl [(a1, .inl (cyI, 2490, .inl (yz v0 1))), (a9, .inl (cyI, 15, .inl yR)), (a0, .inr (11, [.ref a1, .int 0, .int 0, .ref a2, .ref a3, .ref a4, .ref a5, .int 0, .ref a6, .ref a7, .ref a8, .int 0, .int 32, .int 0, .ref a9, .ref a10, .int 0, .int 0, .ref a11, .ref a12, .ref a13, .ref a14, .ref a15, .ref a16]))] H := hP
  have hD : va_D A [(a1, .inl (cyI, 2490, .inl (yz v0 1))), (a9, .inl (cyI, 15, .inl yR)), (a0, .inr (11, [.ref a1, .int 0, .int 0, .ref a2, .ref a3, .ref a4, .ref a5, .int 0, .ref a6, .ref a7, .ref a8, .int 0, .int 32, .int 0, .ref a9, .ref a10, .int 0, .int 0, .ref a11, .ref a12, .ref a13, .ref a14, .ref a15, .ref a16]))] := hD
  refine W.widen (k := 0) (n := 0) (Nat.le_of_ble_eq_true rfl) (Nat.le_of_ble_eq_true rfl) ?_
  refine lv_aload_n hx hb dX11_judgeLower_65 rfl (lv_at hl 2 rfl) ?_
  refine lv_bipush (v := 9) hx hb dX11_judgeLower_66 (by decide) ?_
  refine lv_iload_n hx hb dX11_judgeLower_68 rfl (lv_at hl 0 rfl) ?_
  refine lv_if_eq (tgt := 80) hx hb dX11_judgeLower_69 (by decide) (fun _ => ?_) (fun c => absurd (by decide) c)
  refine lv_iconst (v := 0) hx hb dX11_judgeLower_80 (by decide) ?_
  have hPc := hP.sub (ws' := [(a0, .inr (11, [.ref a1, .int 0, .int 0, .ref a2, .ref a3, .ref a4, .ref a5, .int 0, .ref a6, .ref a7, .ref a8, .int 0, .int 32, .int 0, .ref a9, .ref a10, .int 0, .int 0, .ref a11, .ref a12, .ref a13, .ref a14, .ref a15, .ref a16]))]) [2] rfl
  have hDc := hD.sub (ws' := [(a0, .inr (11, [.ref a1, .int 0, .int 0, .ref a2, .ref a3, .ref a4, .ref a5, .int 0, .ref a6, .ref a7, .ref a8, .int 0, .int 32, .int 0, .ref a9, .ref a10, .int 0, .int 0, .ref a11, .ref a12, .ref a13, .ref a14, .ref a15, .ref a16]))]) [2] (by decide) rfl
  refine yy_callv [2] [0, 1] (wr := [(a1, .inl (cyI, 2490, .inl (yz v0 1))), (a9, .inl (cyI, 15, .inl yR))]) (va_runV (As := [.int 9, .int 0]) (rest := []) ⟨hx, hb, hml, hown, hts⟩ (r0_X11_find_104 l dC dI cyI cyZ cyO H.size a0 a1 a2 a3 a4 a5 a6 a7 a8 a9 a10 a11 a12 a13 a14 a15 a16 ) (cwV 2 hts gX11_judgeLower_X11_find rfl rfl rfl (by decide +kernel) ⟨Nat.le_of_ble_eq_true rfl, Nat.le_of_ble_eq_true rfl⟩) (yPreV hK hPc hDc (ci := 11) (q0 := 0) rfl rfl) rfl rfl hl.1 rfl (lv_room (Nat.le_of_ble_eq_true rfl)) dX11_judgeLower_81 ⟨Nat.le_of_ble_eq_true rfl, Nat.le_of_ble_eq_true rfl⟩) hP hD hS hA rfl rfl (by decide) (by decide) (fun u_2 H locs hw hP hD hS => ?_)
  have hP : va_P (dC, dI) vwCl [(a1, .inl (cyI, 2490, .inl (yz v0 1))), (a9, .inl (cyI, 15, .inl yR)), (a0, .inr (11, [.ref a1, .int 0, .int 0, .ref a2, .ref a3, .ref a4, .ref a5, .int 0, .ref a6, .ref a7, .ref a8, .int 0, .int 32, .int 0, .ref a9, .ref a10, .int 0, .int 0, .ref a11, .ref a12, .ref a13, .ref a14, .ref a15, .ref a16]))] H := hP
  have hD : va_D A [(a1, .inl (cyI, 2490, .inl (yz v0 1))), (a9, .inl (cyI, 15, .inl yR)), (a0, .inr (11, [.ref a1, .int 0, .int 0, .ref a2, .ref a3, .ref a4, .ref a5, .int 0, .ref a6, .ref a7, .ref a8, .int 0, .int 32, .int 0, .ref a9, .ref a10, .int 0, .int 0, .ref a11, .ref a12, .ref a13, .ref a14, .ref a15, .ref a16]))] := hD
  refine W.widen (k := 0) (n := 0) (Nat.le_of_ble_eq_true rfl) (Nat.le_of_ble_eq_true rfl) ?_
  refine lv_aload_n hx hb dX11_judgeLower_84 rfl (lv_at hl 2 rfl) ?_
  refine lv_bipush (v := 10) hx hb dX11_judgeLower_85 (by decide) ?_
  refine lv_iload_n hx hb dX11_judgeLower_87 rfl (lv_at hl 3 rfl) ?_
  refine lv_if_eq (tgt := 108) hx hb dX11_judgeLower_88 (by decide) (fun c => absurd c (by decide)) (fun _ => ?_)
  refine lv_iload_n hx hb dX11_judgeLower_91 rfl (lv_at hl 0 rfl) ?_
  refine lv_if_eq (tgt := 108) hx hb dX11_judgeLower_92 (by decide) (fun _ => ?_) (fun c => absurd (by decide) c)
  refine lv_iconst (v := 0) hx hb dX11_judgeLower_108 (by decide) ?_
  have hPc := hP.sub (ws' := [(a0, .inr (11, [.ref a1, .int 0, .int 0, .ref a2, .ref a3, .ref a4, .ref a5, .int 0, .ref a6, .ref a7, .ref a8, .int 0, .int 32, .int 0, .ref a9, .ref a10, .int 0, .int 0, .ref a11, .ref a12, .ref a13, .ref a14, .ref a15, .ref a16]))]) [2] rfl
  have hDc := hD.sub (ws' := [(a0, .inr (11, [.ref a1, .int 0, .int 0, .ref a2, .ref a3, .ref a4, .ref a5, .int 0, .ref a6, .ref a7, .ref a8, .int 0, .int 32, .int 0, .ref a9, .ref a10, .int 0, .int 0, .ref a11, .ref a12, .ref a13, .ref a14, .ref a15, .ref a16]))]) [2] (by decide) rfl
  refine yy_callv [2] [0, 1] (wr := [(a1, .inl (cyI, 2490, .inl (yz v0 1))), (a9, .inl (cyI, 15, .inl yR))]) (va_runV (As := [.int 10, .int 0]) (rest := []) ⟨hx, hb, hml, hown, hts⟩ (r0_X11_find_105 l dC dI cyI cyZ cyO H.size a0 a1 a2 a3 a4 a5 a6 a7 a8 a9 a10 a11 a12 a13 a14 a15 a16 ) (cwV 2 hts gX11_judgeLower_X11_find rfl rfl rfl (by decide +kernel) ⟨Nat.le_of_ble_eq_true rfl, Nat.le_of_ble_eq_true rfl⟩) (yPreV hK hPc hDc (ci := 11) (q0 := 0) rfl rfl) rfl rfl hl.1 rfl (lv_room (Nat.le_of_ble_eq_true rfl)) dX11_judgeLower_109 ⟨Nat.le_of_ble_eq_true rfl, Nat.le_of_ble_eq_true rfl⟩) hP hD hS hA rfl rfl (by decide) (by decide) (fun u_3 H locs hw hP hD hS => ?_)
  have hP : va_P (dC, dI) vwCl [(a1, .inl (cyI, 2490, .inl (yz v0 1))), (a9, .inl (cyI, 15, .inl yR)), (a0, .inr (11, [.ref a1, .int 0, .int 0, .ref a2, .ref a3, .ref a4, .ref a5, .int 0, .ref a6, .ref a7, .ref a8, .int 0, .int 32, .int 0, .ref a9, .ref a10, .int 0, .int 0, .ref a11, .ref a12, .ref a13, .ref a14, .ref a15, .ref a16]))] H := hP
  have hD : va_D A [(a1, .inl (cyI, 2490, .inl (yz v0 1))), (a9, .inl (cyI, 15, .inl yR)), (a0, .inr (11, [.ref a1, .int 0, .int 0, .ref a2, .ref a3, .ref a4, .ref a5, .int 0, .ref a6, .ref a7, .ref a8, .int 0, .int 32, .int 0, .ref a9, .ref a10, .int 0, .int 0, .ref a11, .ref a12, .ref a13, .ref a14, .ref a15, .ref a16]))] := hD
  refine W.widen (k := 0) (n := 0) (Nat.le_of_ble_eq_true rfl) (Nat.le_of_ble_eq_true rfl) ?_
  refine lv_aload_n hx hb dX11_judgeLower_112 rfl (lv_at hl 2 rfl) ?_
  refine lv_bipush (v := 11) hx hb dX11_judgeLower_113 (by decide) ?_
  refine lv_iload_n hx hb dX11_judgeLower_115 rfl (lv_at hl 3 rfl) ?_
  refine lv_if_eq (tgt := 154) hx hb dX11_judgeLower_116 (by decide) (fun c => absurd c (by decide)) (fun _ => ?_)
  refine lv_aload_n hx hb dX11_judgeLower_119 rfl (lv_at hl 2 rfl) ?_
  refine lv_bipush (v := 7) hx hb dX11_judgeLower_120 (by decide) ?_
  have hPc := hP.sub (ws' := [(a0, .inr (11, [.ref a1, .int 0, .int 0, .ref a2, .ref a3, .ref a4, .ref a5, .int 0, .ref a6, .ref a7, .ref a8, .int 0, .int 32, .int 0, .ref a9, .ref a10, .int 0, .int 0, .ref a11, .ref a12, .ref a13, .ref a14, .ref a15, .ref a16])), (a1, .inl (cyI, 2490, .inl (yz v0 1)))]) [2, 0] rfl
  have hDc := hD.sub (ws' := [(a0, .inr (11, [.ref a1, .int 0, .int 0, .ref a2, .ref a3, .ref a4, .ref a5, .int 0, .ref a6, .ref a7, .ref a8, .int 0, .int 32, .int 0, .ref a9, .ref a10, .int 0, .int 0, .ref a11, .ref a12, .ref a13, .ref a14, .ref a15, .ref a16])), (a1, .inl (cyI, 2490, .inl (yz v0 1)))]) [2, 0] (by decide) rfl
  refine yy_calli [2, 0] [1] (wr := [(a9, .inl (cyI, 15, .inl yR))]) (va_runV (As := [.int 7]) (rest := [.int 11, .ref a0]) ⟨hx, hb, hml, hown, hts⟩ (rS_X11_was_139 l dC dI cyI cyZ cyO H.size a0 a1 a2 a3 a4 a5 a6 a7 a8 a9 a10 a11 a12 a13 a14 a15 a16 v0 ) (cwV 1 hts gX11_judgeLower_X11_was rfl rfl rfl (by decide +kernel) ⟨Nat.le_of_ble_eq_true rfl, Nat.le_of_ble_eq_true rfl⟩) (yPreV hK hPc hDc (ci := 11) (q0 := 0) rfl rfl) rfl rfl hl.1 rfl (lv_room (Nat.le_of_ble_eq_true rfl)) dX11_judgeLower_122 ⟨Nat.le_of_ble_eq_true rfl, Nat.le_of_ble_eq_true rfl⟩) hP hD hS hA rfl rfl (by decide) (by decide) (fun r_5 u_4 H locs hw hP hD hS => ?_)
  have hP : va_P (dC, dI) vwCl [(a9, .inl (cyI, 15, .inl yR)), (a0, .inr (11, [.ref a1, .int 0, .int 0, .ref a2, .ref a3, .ref a4, .ref a5, .int 0, .ref a6, .ref a7, .ref a8, .int 0, .int 32, .int 0, .ref a9, .ref a10, .int 0, .int 0, .ref a11, .ref a12, .ref a13, .ref a14, .ref a15, .ref a16])), (a1, .inl (cyI, 2490, .inl (yz v0 1)))] H := hP
  have hD : va_D A [(a9, .inl (cyI, 15, .inl yR)), (a0, .inr (11, [.ref a1, .int 0, .int 0, .ref a2, .ref a3, .ref a4, .ref a5, .int 0, .ref a6, .ref a7, .ref a8, .int 0, .int 32, .int 0, .ref a9, .ref a10, .int 0, .int 0, .ref a11, .ref a12, .ref a13, .ref a14, .ref a15, .ref a16])), (a1, .inl (cyI, 2490, .inl (yz v0 1)))] := hD
  refine W.widen (k := 0) (n := 0) (Nat.le_of_ble_eq_true rfl) (Nat.le_of_ble_eq_true rfl) ?_
  have hw : r_5 = 0 := hw
  subst hw
  refine lv_if_eq (tgt := 154) hx hb dX11_judgeLower_125 (by decide) (fun _ => ?_) (fun c => absurd (by decide) c)
  refine lv_iconst (v := 0) hx hb dX11_judgeLower_154 (by decide) ?_
  have hPc := hP.sub (ws' := [(a0, .inr (11, [.ref a1, .int 0, .int 0, .ref a2, .ref a3, .ref a4, .ref a5, .int 0, .ref a6, .ref a7, .ref a8, .int 0, .int 32, .int 0, .ref a9, .ref a10, .int 0, .int 0, .ref a11, .ref a12, .ref a13, .ref a14, .ref a15, .ref a16]))]) [1] rfl
  have hDc := hD.sub (ws' := [(a0, .inr (11, [.ref a1, .int 0, .int 0, .ref a2, .ref a3, .ref a4, .ref a5, .int 0, .ref a6, .ref a7, .ref a8, .int 0, .int 32, .int 0, .ref a9, .ref a10, .int 0, .int 0, .ref a11, .ref a12, .ref a13, .ref a14, .ref a15, .ref a16]))]) [1] (by decide) rfl
  refine yy_callv [1] [0, 2] (wr := [(a9, .inl (cyI, 15, .inl yR)), (a1, .inl (cyI, 2490, .inl (yz v0 1)))]) (va_runV (As := [.int 11, .int 0]) (rest := []) ⟨hx, hb, hml, hown, hts⟩ (r0_X11_find_106 l dC dI cyI cyZ cyO H.size a0 a1 a2 a3 a4 a5 a6 a7 a8 a9 a10 a11 a12 a13 a14 a15 a16 ) (cwV 2 hts gX11_judgeLower_X11_find rfl rfl rfl (by decide +kernel) ⟨Nat.le_of_ble_eq_true rfl, Nat.le_of_ble_eq_true rfl⟩) (yPreV hK hPc hDc (ci := 11) (q0 := 0) rfl rfl) rfl rfl hl.1 rfl (lv_room (Nat.le_of_ble_eq_true rfl)) dX11_judgeLower_155 ⟨Nat.le_of_ble_eq_true rfl, Nat.le_of_ble_eq_true rfl⟩) hP hD hS hA rfl rfl (by decide) (by decide) (fun u_6 H locs hw hP hD hS => ?_)
  have hP : va_P (dC, dI) vwCl [(a9, .inl (cyI, 15, .inl yR)), (a1, .inl (cyI, 2490, .inl (yz v0 1))), (a0, .inr (11, [.ref a1, .int 0, .int 0, .ref a2, .ref a3, .ref a4, .ref a5, .int 0, .ref a6, .ref a7, .ref a8, .int 0, .int 32, .int 0, .ref a9, .ref a10, .int 0, .int 0, .ref a11, .ref a12, .ref a13, .ref a14, .ref a15, .ref a16]))] H := hP
  have hD : va_D A [(a9, .inl (cyI, 15, .inl yR)), (a1, .inl (cyI, 2490, .inl (yz v0 1))), (a0, .inr (11, [.ref a1, .int 0, .int 0, .ref a2, .ref a3, .ref a4, .ref a5, .int 0, .ref a6, .ref a7, .ref a8, .int 0, .int 32, .int 0, .ref a9, .ref a10, .int 0, .int 0, .ref a11, .ref a12, .ref a13, .ref a14, .ref a15, .ref a16]))] := hD
  refine W.widen (k := 0) (n := 0) (Nat.le_of_ble_eq_true rfl) (Nat.le_of_ble_eq_true rfl) ?_
  refine lv_aload_n hx hb dX11_judgeLower_158 rfl (lv_at hl 2 rfl) ?_
  refine lv_bipush (v := 12) hx hb dX11_judgeLower_159 (by decide) ?_
  refine lv_iload_n hx hb dX11_judgeLower_161 rfl (lv_at hl 3 rfl) ?_
  refine lv_if_eq (tgt := 200) hx hb dX11_judgeLower_162 (by decide) (fun c => absurd c (by decide)) (fun _ => ?_)
  refine lv_aload_n hx hb dX11_judgeLower_165 rfl (lv_at hl 2 rfl) ?_
  refine lv_bipush (v := 8) hx hb dX11_judgeLower_166 (by decide) ?_
  have hPc := hP.sub (ws' := [(a0, .inr (11, [.ref a1, .int 0, .int 0, .ref a2, .ref a3, .ref a4, .ref a5, .int 0, .ref a6, .ref a7, .ref a8, .int 0, .int 32, .int 0, .ref a9, .ref a10, .int 0, .int 0, .ref a11, .ref a12, .ref a13, .ref a14, .ref a15, .ref a16])), (a1, .inl (cyI, 2490, .inl (yz v0 1)))]) [2, 1] rfl
  have hDc := hD.sub (ws' := [(a0, .inr (11, [.ref a1, .int 0, .int 0, .ref a2, .ref a3, .ref a4, .ref a5, .int 0, .ref a6, .ref a7, .ref a8, .int 0, .int 32, .int 0, .ref a9, .ref a10, .int 0, .int 0, .ref a11, .ref a12, .ref a13, .ref a14, .ref a15, .ref a16])), (a1, .inl (cyI, 2490, .inl (yz v0 1)))]) [2, 1] (by decide) rfl
  refine yy_calli [2, 1] [0] (wr := [(a9, .inl (cyI, 15, .inl yR))]) (va_runV (As := [.int 8]) (rest := [.int 12, .ref a0]) ⟨hx, hb, hml, hown, hts⟩ (rS_X11_was_140 l dC dI cyI cyZ cyO H.size a0 a1 a2 a3 a4 a5 a6 a7 a8 a9 a10 a11 a12 a13 a14 a15 a16 v0 ) (cwV 1 hts gX11_judgeLower_X11_was rfl rfl rfl (by decide +kernel) ⟨Nat.le_of_ble_eq_true rfl, Nat.le_of_ble_eq_true rfl⟩) (yPreV hK hPc hDc (ci := 11) (q0 := 0) rfl rfl) rfl rfl hl.1 rfl (lv_room (Nat.le_of_ble_eq_true rfl)) dX11_judgeLower_168 ⟨Nat.le_of_ble_eq_true rfl, Nat.le_of_ble_eq_true rfl⟩) hP hD hS hA rfl rfl (by decide) (by decide) (fun r_8 u_7 H locs hw hP hD hS => ?_)
  have hP : va_P (dC, dI) vwCl [(a9, .inl (cyI, 15, .inl yR)), (a0, .inr (11, [.ref a1, .int 0, .int 0, .ref a2, .ref a3, .ref a4, .ref a5, .int 0, .ref a6, .ref a7, .ref a8, .int 0, .int 32, .int 0, .ref a9, .ref a10, .int 0, .int 0, .ref a11, .ref a12, .ref a13, .ref a14, .ref a15, .ref a16])), (a1, .inl (cyI, 2490, .inl (yz v0 1)))] H := hP
  have hD : va_D A [(a9, .inl (cyI, 15, .inl yR)), (a0, .inr (11, [.ref a1, .int 0, .int 0, .ref a2, .ref a3, .ref a4, .ref a5, .int 0, .ref a6, .ref a7, .ref a8, .int 0, .int 32, .int 0, .ref a9, .ref a10, .int 0, .int 0, .ref a11, .ref a12, .ref a13, .ref a14, .ref a15, .ref a16])), (a1, .inl (cyI, 2490, .inl (yz v0 1)))] := hD
  refine W.widen (k := 0) (n := 0) (Nat.le_of_ble_eq_true rfl) (Nat.le_of_ble_eq_true rfl) ?_
  have hw : r_8 = 0 := hw
  subst hw
  refine lv_if_eq (tgt := 200) hx hb dX11_judgeLower_171 (by decide) (fun _ => ?_) (fun c => absurd (by decide) c)
  refine lv_iconst (v := 0) hx hb dX11_judgeLower_200 (by decide) ?_
  have hPc := hP.sub (ws' := [(a0, .inr (11, [.ref a1, .int 0, .int 0, .ref a2, .ref a3, .ref a4, .ref a5, .int 0, .ref a6, .ref a7, .ref a8, .int 0, .int 32, .int 0, .ref a9, .ref a10, .int 0, .int 0, .ref a11, .ref a12, .ref a13, .ref a14, .ref a15, .ref a16]))]) [1] rfl
  have hDc := hD.sub (ws' := [(a0, .inr (11, [.ref a1, .int 0, .int 0, .ref a2, .ref a3, .ref a4, .ref a5, .int 0, .ref a6, .ref a7, .ref a8, .int 0, .int 32, .int 0, .ref a9, .ref a10, .int 0, .int 0, .ref a11, .ref a12, .ref a13, .ref a14, .ref a15, .ref a16]))]) [1] (by decide) rfl
  refine yy_callv [1] [0, 2] (wr := [(a9, .inl (cyI, 15, .inl yR)), (a1, .inl (cyI, 2490, .inl (yz v0 1)))]) (va_runV (As := [.int 12, .int 0]) (rest := []) ⟨hx, hb, hml, hown, hts⟩ (r0_X11_find_107 l dC dI cyI cyZ cyO H.size a0 a1 a2 a3 a4 a5 a6 a7 a8 a9 a10 a11 a12 a13 a14 a15 a16 ) (cwV 2 hts gX11_judgeLower_X11_find rfl rfl rfl (by decide +kernel) ⟨Nat.le_of_ble_eq_true rfl, Nat.le_of_ble_eq_true rfl⟩) (yPreV hK hPc hDc (ci := 11) (q0 := 0) rfl rfl) rfl rfl hl.1 rfl (lv_room (Nat.le_of_ble_eq_true rfl)) dX11_judgeLower_201 ⟨Nat.le_of_ble_eq_true rfl, Nat.le_of_ble_eq_true rfl⟩) hP hD hS hA rfl rfl (by decide) (by decide) (fun u_9 H locs hw hP hD hS => ?_)
  have hP : va_P (dC, dI) vwCl [(a9, .inl (cyI, 15, .inl yR)), (a1, .inl (cyI, 2490, .inl (yz v0 1))), (a0, .inr (11, [.ref a1, .int 0, .int 0, .ref a2, .ref a3, .ref a4, .ref a5, .int 0, .ref a6, .ref a7, .ref a8, .int 0, .int 32, .int 0, .ref a9, .ref a10, .int 0, .int 0, .ref a11, .ref a12, .ref a13, .ref a14, .ref a15, .ref a16]))] H := hP
  have hD : va_D A [(a9, .inl (cyI, 15, .inl yR)), (a1, .inl (cyI, 2490, .inl (yz v0 1))), (a0, .inr (11, [.ref a1, .int 0, .int 0, .ref a2, .ref a3, .ref a4, .ref a5, .int 0, .ref a6, .ref a7, .ref a8, .int 0, .int 32, .int 0, .ref a9, .ref a10, .int 0, .int 0, .ref a11, .ref a12, .ref a13, .ref a14, .ref a15, .ref a16]))] := hD
  refine W.widen (k := 0) (n := 0) (Nat.le_of_ble_eq_true rfl) (Nat.le_of_ble_eq_true rfl) ?_
  refine lv_aload_n hx hb dX11_judgeLower_204 rfl (lv_at hl 2 rfl) ?_
  refine lv_bipush (v := 13) hx hb dX11_judgeLower_205 (by decide) ?_
  refine lv_iload_n hx hb dX11_judgeLower_207 rfl (lv_at hl 3 rfl) ?_
  refine lv_if_eq (tgt := 269) hx hb dX11_judgeLower_208 (by decide) (fun c => absurd c (by decide)) (fun _ => ?_)
  refine lv_iload_n hx hb dX11_judgeLower_211 rfl (lv_at hl 0 rfl) ?_
  refine lv_if_eq (tgt := 269) hx hb dX11_judgeLower_212 (by decide) (fun _ => ?_) (fun c => absurd (by decide) c)
  refine lv_iconst (v := 0) hx hb dX11_judgeLower_269 (by decide) ?_
  have hPc := hP.sub (ws' := [(a0, .inr (11, [.ref a1, .int 0, .int 0, .ref a2, .ref a3, .ref a4, .ref a5, .int 0, .ref a6, .ref a7, .ref a8, .int 0, .int 32, .int 0, .ref a9, .ref a10, .int 0, .int 0, .ref a11, .ref a12, .ref a13, .ref a14, .ref a15, .ref a16]))]) [2] rfl
  have hDc := hD.sub (ws' := [(a0, .inr (11, [.ref a1, .int 0, .int 0, .ref a2, .ref a3, .ref a4, .ref a5, .int 0, .ref a6, .ref a7, .ref a8, .int 0, .int 32, .int 0, .ref a9, .ref a10, .int 0, .int 0, .ref a11, .ref a12, .ref a13, .ref a14, .ref a15, .ref a16]))]) [2] (by decide) rfl
  refine yy_callv [2] [0, 1] (wr := [(a9, .inl (cyI, 15, .inl yR)), (a1, .inl (cyI, 2490, .inl (yz v0 1)))]) (va_runV (As := [.int 13, .int 0]) (rest := []) ⟨hx, hb, hml, hown, hts⟩ (r0_X11_find_108 l dC dI cyI cyZ cyO H.size a0 a1 a2 a3 a4 a5 a6 a7 a8 a9 a10 a11 a12 a13 a14 a15 a16 ) (cwV 2 hts gX11_judgeLower_X11_find rfl rfl rfl (by decide +kernel) ⟨Nat.le_of_ble_eq_true rfl, Nat.le_of_ble_eq_true rfl⟩) (yPreV hK hPc hDc (ci := 11) (q0 := 0) rfl rfl) rfl rfl hl.1 rfl (lv_room (Nat.le_of_ble_eq_true rfl)) dX11_judgeLower_270 ⟨Nat.le_of_ble_eq_true rfl, Nat.le_of_ble_eq_true rfl⟩) hP hD hS hA rfl rfl (by decide) (by decide) (fun u_10 H locs hw hP hD hS => ?_)
  have hP : va_P (dC, dI) vwCl [(a9, .inl (cyI, 15, .inl yR)), (a1, .inl (cyI, 2490, .inl (yz v0 1))), (a0, .inr (11, [.ref a1, .int 0, .int 0, .ref a2, .ref a3, .ref a4, .ref a5, .int 0, .ref a6, .ref a7, .ref a8, .int 0, .int 32, .int 0, .ref a9, .ref a10, .int 0, .int 0, .ref a11, .ref a12, .ref a13, .ref a14, .ref a15, .ref a16]))] H := hP
  have hD : va_D A [(a9, .inl (cyI, 15, .inl yR)), (a1, .inl (cyI, 2490, .inl (yz v0 1))), (a0, .inr (11, [.ref a1, .int 0, .int 0, .ref a2, .ref a3, .ref a4, .ref a5, .int 0, .ref a6, .ref a7, .ref a8, .int 0, .int 32, .int 0, .ref a9, .ref a10, .int 0, .int 0, .ref a11, .ref a12, .ref a13, .ref a14, .ref a15, .ref a16]))] := hD
  refine W.widen (k := 0) (n := 0) (Nat.le_of_ble_eq_true rfl) (Nat.le_of_ble_eq_true rfl) ?_
  refine lv_aload_n hx hb dX11_judgeLower_273 rfl (lv_at hl 2 rfl) ?_
  refine lv_bipush (v := 14) hx hb dX11_judgeLower_274 (by decide) ?_
  refine lv_iload_n hx hb dX11_judgeLower_276 rfl (lv_at hl 3 rfl) ?_
  refine lv_if_eq (tgt := 306) hx hb dX11_judgeLower_277 (by decide) (fun c => absurd c (by decide)) (fun _ => ?_)
  refine lv_aload_n hx hb dX11_judgeLower_280 rfl (lv_at hl 2 rfl) ?_
  refine lv_bipush (v := 8) hx hb dX11_judgeLower_281 (by decide) ?_
  have hPc := hP.sub (ws' := [(a0, .inr (11, [.ref a1, .int 0, .int 0, .ref a2, .ref a3, .ref a4, .ref a5, .int 0, .ref a6, .ref a7, .ref a8, .int 0, .int 32, .int 0, .ref a9, .ref a10, .int 0, .int 0, .ref a11, .ref a12, .ref a13, .ref a14, .ref a15, .ref a16])), (a1, .inl (cyI, 2490, .inl (yz v0 1)))]) [2, 1] rfl
  have hDc := hD.sub (ws' := [(a0, .inr (11, [.ref a1, .int 0, .int 0, .ref a2, .ref a3, .ref a4, .ref a5, .int 0, .ref a6, .ref a7, .ref a8, .int 0, .int 32, .int 0, .ref a9, .ref a10, .int 0, .int 0, .ref a11, .ref a12, .ref a13, .ref a14, .ref a15, .ref a16])), (a1, .inl (cyI, 2490, .inl (yz v0 1)))]) [2, 1] (by decide) rfl
  refine yy_calli [2, 1] [0] (wr := [(a9, .inl (cyI, 15, .inl yR))]) (va_runV (As := [.int 8]) (rest := [.int 14, .ref a0]) ⟨hx, hb, hml, hown, hts⟩ (rS_X11_was_140 l dC dI cyI cyZ cyO H.size a0 a1 a2 a3 a4 a5 a6 a7 a8 a9 a10 a11 a12 a13 a14 a15 a16 v0 ) (cwV 1 hts gX11_judgeLower_X11_was rfl rfl rfl (by decide +kernel) ⟨Nat.le_of_ble_eq_true rfl, Nat.le_of_ble_eq_true rfl⟩) (yPreV hK hPc hDc (ci := 11) (q0 := 0) rfl rfl) rfl rfl hl.1 rfl (lv_room (Nat.le_of_ble_eq_true rfl)) dX11_judgeLower_283 ⟨Nat.le_of_ble_eq_true rfl, Nat.le_of_ble_eq_true rfl⟩) hP hD hS hA rfl rfl (by decide) (by decide) (fun r_12 u_11 H locs hw hP hD hS => ?_)
  have hP : va_P (dC, dI) vwCl [(a9, .inl (cyI, 15, .inl yR)), (a0, .inr (11, [.ref a1, .int 0, .int 0, .ref a2, .ref a3, .ref a4, .ref a5, .int 0, .ref a6, .ref a7, .ref a8, .int 0, .int 32, .int 0, .ref a9, .ref a10, .int 0, .int 0, .ref a11, .ref a12, .ref a13, .ref a14, .ref a15, .ref a16])), (a1, .inl (cyI, 2490, .inl (yz v0 1)))] H := hP
  have hD : va_D A [(a9, .inl (cyI, 15, .inl yR)), (a0, .inr (11, [.ref a1, .int 0, .int 0, .ref a2, .ref a3, .ref a4, .ref a5, .int 0, .ref a6, .ref a7, .ref a8, .int 0, .int 32, .int 0, .ref a9, .ref a10, .int 0, .int 0, .ref a11, .ref a12, .ref a13, .ref a14, .ref a15, .ref a16])), (a1, .inl (cyI, 2490, .inl (yz v0 1)))] := hD
  refine W.widen (k := 0) (n := 0) (Nat.le_of_ble_eq_true rfl) (Nat.le_of_ble_eq_true rfl) ?_
  have hw : r_12 = 0 := hw
  subst hw
  refine lv_if_eq (tgt := 306) hx hb dX11_judgeLower_286 (by decide) (fun _ => ?_) (fun c => absurd (by decide) c)
  refine lv_iconst (v := 0) hx hb dX11_judgeLower_306 (by decide) ?_
  have hPc := hP.sub (ws' := [(a0, .inr (11, [.ref a1, .int 0, .int 0, .ref a2, .ref a3, .ref a4, .ref a5, .int 0, .ref a6, .ref a7, .ref a8, .int 0, .int 32, .int 0, .ref a9, .ref a10, .int 0, .int 0, .ref a11, .ref a12, .ref a13, .ref a14, .ref a15, .ref a16]))]) [1] rfl
  have hDc := hD.sub (ws' := [(a0, .inr (11, [.ref a1, .int 0, .int 0, .ref a2, .ref a3, .ref a4, .ref a5, .int 0, .ref a6, .ref a7, .ref a8, .int 0, .int 32, .int 0, .ref a9, .ref a10, .int 0, .int 0, .ref a11, .ref a12, .ref a13, .ref a14, .ref a15, .ref a16]))]) [1] (by decide) rfl
  refine yy_callv [1] [0, 2] (wr := [(a9, .inl (cyI, 15, .inl yR)), (a1, .inl (cyI, 2490, .inl (yz v0 1)))]) (va_runV (As := [.int 14, .int 0]) (rest := []) ⟨hx, hb, hml, hown, hts⟩ (r0_X11_find_109 l dC dI cyI cyZ cyO H.size a0 a1 a2 a3 a4 a5 a6 a7 a8 a9 a10 a11 a12 a13 a14 a15 a16 ) (cwV 2 hts gX11_judgeLower_X11_find rfl rfl rfl (by decide +kernel) ⟨Nat.le_of_ble_eq_true rfl, Nat.le_of_ble_eq_true rfl⟩) (yPreV hK hPc hDc (ci := 11) (q0 := 0) rfl rfl) rfl rfl hl.1 rfl (lv_room (Nat.le_of_ble_eq_true rfl)) dX11_judgeLower_307 ⟨Nat.le_of_ble_eq_true rfl, Nat.le_of_ble_eq_true rfl⟩) hP hD hS hA rfl rfl (by decide) (by decide) (fun u_13 H locs hw hP hD hS => ?_)
  have hP : va_P (dC, dI) vwCl [(a9, .inl (cyI, 15, .inl yR)), (a1, .inl (cyI, 2490, .inl (yz v0 1))), (a0, .inr (11, [.ref a1, .int 0, .int 0, .ref a2, .ref a3, .ref a4, .ref a5, .int 0, .ref a6, .ref a7, .ref a8, .int 0, .int 32, .int 0, .ref a9, .ref a10, .int 0, .int 0, .ref a11, .ref a12, .ref a13, .ref a14, .ref a15, .ref a16]))] H := hP
  have hD : va_D A [(a9, .inl (cyI, 15, .inl yR)), (a1, .inl (cyI, 2490, .inl (yz v0 1))), (a0, .inr (11, [.ref a1, .int 0, .int 0, .ref a2, .ref a3, .ref a4, .ref a5, .int 0, .ref a6, .ref a7, .ref a8, .int 0, .int 32, .int 0, .ref a9, .ref a10, .int 0, .int 0, .ref a11, .ref a12, .ref a13, .ref a14, .ref a15, .ref a16]))] := hD
  refine W.widen (k := 0) (n := 0) (Nat.le_of_ble_eq_true rfl) (Nat.le_of_ble_eq_true rfl) ?_
  refine lv_iconst (v := 0) hx hb dX11_judgeLower_310 (by decide) ?_
  refine lv_istore (lv' := [(4, .int 0), (3, .int 0), (2, .int 0), (0, .ref a0), (1, .int 1)]) hx hb dX11_judgeLower_311 hl (by decide) rfl (fun ls hl => ?_)
  refine lv_iconst (v := 0) hx hb dX11_judgeLower_313 (by decide) ?_
  refine lv_istore (lv' := [(5, .int 0), (4, .int 0), (3, .int 0), (2, .int 0), (0, .ref a0), (1, .int 1)]) hx hb dX11_judgeLower_314 hl (by decide) rfl (fun ls hl => ?_)
  refine lv_iload hx hb dX11_judgeLower_316 (lv_at hl 0 rfl) ?_
  refine lv_aload_n hx hb dX11_judgeLower_318 rfl (lv_at hl 4 rfl) ?_
  refine va_get (D := (dC, dI)) (ci := 11) (v := .int 0) (C := RX11) (T := TX11) (N := 24) hx hb hts hnX11 hown hK hP 2 rfl rfl 2 (by decide) hf88 (fun _ h9 => h9) rfl dX11_judgeLower_319 ?_
  refine lv_icmp_ge (tgt := 369) hx hb dX11_judgeLower_322 (by decide) (fun _ => ?_) (fun c => absurd (by decide) c)
  refine lv_aload_n hx hb dX11_judgeLower_369 rfl (lv_at hl 4 rfl) ?_
  refine lv_bipush (v := 15) hx hb dX11_judgeLower_370 (by decide) ?_
  refine lv_iload_n hx hb dX11_judgeLower_372 rfl (lv_at hl 2 rfl) ?_
  refine lv_if_eq (tgt := 385) hx hb dX11_judgeLower_373 (by decide) (fun _ => ?_) (fun c => absurd (by decide) c)
  refine lv_iconst (v := 0) hx hb dX11_judgeLower_385 (by decide) ?_
  have hPc := hP.sub (ws' := [(a0, .inr (11, [.ref a1, .int 0, .int 0, .ref a2, .ref a3, .ref a4, .ref a5, .int 0, .ref a6, .ref a7, .ref a8, .int 0, .int 32, .int 0, .ref a9, .ref a10, .int 0, .int 0, .ref a11, .ref a12, .ref a13, .ref a14, .ref a15, .ref a16]))]) [2] rfl
  have hDc := hD.sub (ws' := [(a0, .inr (11, [.ref a1, .int 0, .int 0, .ref a2, .ref a3, .ref a4, .ref a5, .int 0, .ref a6, .ref a7, .ref a8, .int 0, .int 32, .int 0, .ref a9, .ref a10, .int 0, .int 0, .ref a11, .ref a12, .ref a13, .ref a14, .ref a15, .ref a16]))]) [2] (by decide) rfl
  refine yy_callv [2] [0, 1] (wr := [(a9, .inl (cyI, 15, .inl yR)), (a1, .inl (cyI, 2490, .inl (yz v0 1)))]) (va_runV (As := [.int 15, .int 0]) (rest := []) ⟨hx, hb, hml, hown, hts⟩ (r0_X11_find_110 l dC dI cyI cyZ cyO H.size a0 a1 a2 a3 a4 a5 a6 a7 a8 a9 a10 a11 a12 a13 a14 a15 a16 ) (cwV 2 hts gX11_judgeLower_X11_find rfl rfl rfl (by decide +kernel) ⟨Nat.le_of_ble_eq_true rfl, Nat.le_of_ble_eq_true rfl⟩) (yPreV hK hPc hDc (ci := 11) (q0 := 0) rfl rfl) rfl rfl hl.1 rfl (lv_room (Nat.le_of_ble_eq_true rfl)) dX11_judgeLower_386 ⟨Nat.le_of_ble_eq_true rfl, Nat.le_of_ble_eq_true rfl⟩) hP hD hS hA rfl rfl (by decide) (by decide) (fun u_14 H locs hw hP hD hS => ?_)
  have hP : va_P (dC, dI) vwCl [(a9, .inl (cyI, 15, .inl yR)), (a1, .inl (cyI, 2490, .inl (yz v0 1))), (a0, .inr (11, [.ref a1, .int 0, .int 0, .ref a2, .ref a3, .ref a4, .ref a5, .int 0, .ref a6, .ref a7, .ref a8, .int 0, .int 32, .int 0, .ref a9, .ref a10, .int 0, .int 0, .ref a11, .ref a12, .ref a13, .ref a14, .ref a15, .ref a16]))] H := hP
  have hD : va_D A [(a9, .inl (cyI, 15, .inl yR)), (a1, .inl (cyI, 2490, .inl (yz v0 1))), (a0, .inr (11, [.ref a1, .int 0, .int 0, .ref a2, .ref a3, .ref a4, .ref a5, .int 0, .ref a6, .ref a7, .ref a8, .int 0, .int 32, .int 0, .ref a9, .ref a10, .int 0, .int 0, .ref a11, .ref a12, .ref a13, .ref a14, .ref a15, .ref a16]))] := hD
  refine W.widen (k := 0) (n := 0) (Nat.le_of_ble_eq_true rfl) (Nat.le_of_ble_eq_true rfl) ?_
  refine W.widen (k := 0) (n := 0) (Nat.le_of_ble_eq_true rfl) (Nat.le_of_ble_eq_true rfl) ?_
  exact yy_vret () hx hb hr hlk hsz hAe hK hP hD hS [2, 1, 0] rfl rfl (by decide) (trivial) dX11_judgeLower_389
set_option maxHeartbeats 4000000 in
set_option maxRecDepth 100000 in
theorem rS_X11_judge_142 (l : Launch) (dC : Nat → ClassId) (dI : Nat → Nat → Nat) (cyI cyZ cyO : ClassId) (sz : Nat) (a0 : Nat) (a1 : Nat) (a2 : Nat) (a3 : Nat) (a4 : Nat) (a5 : Nat) (a6 : Nat) (a7 : Nat) (a8 : Nat) (a9 : Nat) (a10 : Nat) (a11 : Nat) (a12 : Nat) (a13 : Nat) (a14 : Nat) (a15 : Nat) (a16 : Nat) (v0 : Int32) (hF0 : ¬ v0 ≤ 0) : Met l yX11_judge wsX11_judge ({ frames := 2, cells := 0, slots := 0, locals := 47 }) (yPre [.ref a0] (dC, dI) [(a0, .inr (11, [.ref a1, .int 0, .int 0, .ref a2, .ref a3, .ref a4, .ref a5, .int 0, .ref a6, .ref a7, .ref a8, .int 0, .int 32, .int 0, .ref a9, .ref a10, .int 0, .int 0, .ref a11, .ref a12, .ref a13, .ref a14, .ref a15, .ref a16])), (a1, .inl (cyI, 2490, .inl (yz v0 1))), (a9, .inl (cyI, 15, .inl yR))] (yT cyI cyZ cyO) sz) (yQv (fun (u : Unit) => True) (dC, dI) [(a0, .inr (11, [.ref a1, .int 0, .int 0, .ref a2, .ref a3, .ref a4, .ref a5, .int 0, .ref a6, .ref a7, .ref a8, .int 0, .int 32, .int 0, .ref a9, .ref a10, .int 0, .int 0, .ref a11, .ref a12, .ref a13, .ref a14, .ref a15, .ref a16])), (a1, .inl (cyI, 2490, .inl (yz v0 1))), (a9, .inl (cyI, 15, .inl yR))] (yT cyI cyZ cyO) sz (fun _ => [(a0, .inr (11, [.ref a1, .int 0, .int 0, .ref a2, .ref a3, .ref a4, .ref a5, .int 0, .ref a6, .ref a7, .ref a8, .int 0, .int 32, .int 0, .ref a9, .ref a10, .int 0, .int 0, .ref a11, .ref a12, .ref a13, .ref a14, .ref a15, .ref a16])), (a1, .inl (cyI, 2490, .inl (yz v0 1))), (a9, .inl (cyI, 15, .inl yR))])) 0 0 (va_A [(a0, .inr (11, [.ref a1, .int 0, .int 0, .ref a2, .ref a3, .ref a4, .ref a5, .int 0, .ref a6, .ref a7, .ref a8, .int 0, .int 32, .int 0, .ref a9, .ref a10, .int 0, .int 0, .ref a11, .ref a12, .ref a13, .ref a14, .ref a15, .ref a16])), (a1, .inl (cyI, 2490, .inl (yz v0 1))), (a9, .inl (cyI, 15, .inl yR))] sz) := by
  refine yMet (cc := cX11_judge) (maxL := 5) (ret := none) (by decide) rfl (Nat.le_of_ble_eq_true rfl) ?_
  intro p e s m below meth c A hx hb hr hlk hml hts hown hnm hsz hAe hP hK hD hA hS ls hl
  have hl : lv_has ls 5 [(0, .ref a0)] := hl
  have hf39 := hts (.fieldLink RX11 39 "BusBridgeModel" "see" "[I") (by decide +kernel)
  have hf7 := hts (.fieldLink RX11 7 "BusBridgeModel" "z" "[I") (by decide +kernel)
  have hnX11 : ∀ w ∈ wsX110, w ∈ wsX11_judge := by decide +kernel
  refine lv_aload_n hx hb dX11_judge_0 rfl (lv_at hl 0 rfl) ?_
  refine va_get (D := (dC, dI)) (ci := 11) (v := .ref a1) (C := RX11) (T := TX11) (N := 24) hx hb hts hnX11 hown hK hP 0 rfl rfl 0 (by decide) hf7 (fun _ h9 => h9) rfl dX11_judge_1 ?_
  refine lv_sipush (v := 179) hx hb dX11_judge_4 (by decide) ?_
  refine yy_iald (v := v0) hx hb hK hP 1 0 rfl rfl (yin (by decide)) dX11_judge_7 rfl ?_
  refine lv_if_le (tgt := 15) hx hb dX11_judge_8 (by decide) (fun c => absurd c hF0) (fun _ => ?_)
  refine lv_iconst (v := 1) hx hb dX11_judge_11 (by decide) ?_
  refine lv_goto (tgt := 16) hx hb dX11_judge_12 (by decide) ?_
  refine lv_istore_n (lv' := [(1, .int 1), (0, .ref a0)]) hx hb dX11_judge_16 rfl hl (by decide) rfl (fun ls hl => ?_)
  refine lv_iload_n hx hb dX11_judge_17 rfl (lv_at hl 0 rfl) ?_
  refine lv_if_eq (tgt := 85) hx hb dX11_judge_18 (by decide) (fun c => absurd c (by decide)) (fun _ => ?_)
  refine lv_aload_n hx hb dX11_judge_21 rfl (lv_at hl 1 rfl) ?_
  refine lv_iconst (v := 4) hx hb dX11_judge_22 (by decide) ?_
  have hPc := hP.sub (ws' := [(a0, .inr (11, [.ref a1, .int 0, .int 0, .ref a2, .ref a3, .ref a4, .ref a5, .int 0, .ref a6, .ref a7, .ref a8, .int 0, .int 32, .int 0, .ref a9, .ref a10, .int 0, .int 0, .ref a11, .ref a12, .ref a13, .ref a14, .ref a15, .ref a16])), (a1, .inl (cyI, 2490, .inl (yz v0 1)))]) [0, 1] rfl
  have hDc := hD.sub (ws' := [(a0, .inr (11, [.ref a1, .int 0, .int 0, .ref a2, .ref a3, .ref a4, .ref a5, .int 0, .ref a6, .ref a7, .ref a8, .int 0, .int 32, .int 0, .ref a9, .ref a10, .int 0, .int 0, .ref a11, .ref a12, .ref a13, .ref a14, .ref a15, .ref a16])), (a1, .inl (cyI, 2490, .inl (yz v0 1)))]) [0, 1] (by decide) rfl
  refine yy_calli [0, 1] [2] (wr := [(a9, .inl (cyI, 15, .inl yR))]) (va_runV (As := [.int 4]) (rest := []) ⟨hx, hb, hml, hown, hts⟩ (rS_X11_was_135 l dC dI cyI cyZ cyO s.heap.size a0 a1 a2 a3 a4 a5 a6 a7 a8 a9 a10 a11 a12 a13 a14 a15 a16 v0 ) (cwV 1 hts gX11_judge_X11_was rfl rfl rfl (by decide +kernel) ⟨Nat.le_of_ble_eq_true rfl, Nat.le_of_ble_eq_true rfl⟩) (yPreV hK hPc hDc (ci := 11) (q0 := 0) rfl rfl) rfl rfl hl.1 rfl (lv_room (Nat.le_of_ble_eq_true rfl)) dX11_judge_23 ⟨Nat.le_of_ble_eq_true rfl, Nat.le_of_ble_eq_true rfl⟩) hP hD hS hA rfl rfl (by decide) (by decide) (fun r_2 u_1 H locs hw hP hD hS => ?_)
  have hP : va_P (dC, dI) vwCl [(a9, .inl (cyI, 15, .inl yR)), (a0, .inr (11, [.ref a1, .int 0, .int 0, .ref a2, .ref a3, .ref a4, .ref a5, .int 0, .ref a6, .ref a7, .ref a8, .int 0, .int 32, .int 0, .ref a9, .ref a10, .int 0, .int 0, .ref a11, .ref a12, .ref a13, .ref a14, .ref a15, .ref a16])), (a1, .inl (cyI, 2490, .inl (yz v0 1)))] H := hP
  have hD : va_D A [(a9, .inl (cyI, 15, .inl yR)), (a0, .inr (11, [.ref a1, .int 0, .int 0, .ref a2, .ref a3, .ref a4, .ref a5, .int 0, .ref a6, .ref a7, .ref a8, .int 0, .int 32, .int 0, .ref a9, .ref a10, .int 0, .int 0, .ref a11, .ref a12, .ref a13, .ref a14, .ref a15, .ref a16])), (a1, .inl (cyI, 2490, .inl (yz v0 1)))] := hD
  refine W.widen (k := 0) (n := 0) (Nat.le_of_ble_eq_true rfl) (Nat.le_of_ble_eq_true rfl) ?_
  have hw : r_2 = 1 := hw
  subst hw
  refine lv_if_eq (tgt := 85) hx hb dX11_judge_26 (by decide) (fun c => absurd c (by decide)) (fun _ => ?_)
  refine lv_aload_n hx hb dX11_judge_29 rfl (lv_at hl 1 rfl) ?_
  refine va_get (D := (dC, dI)) (ci := 11) (v := .ref a1) (C := RX11) (T := TX11) (N := 24) hx hb hts hnX11 hown hK hP 1 rfl rfl 0 (by decide) hf7 (fun _ h9 => h9) rfl dX11_judge_30 ?_
  refine lv_sipush (v := 209) hx hb dX11_judge_33 (by decide) ?_
  refine lv_aload_n hx hb dX11_judge_36 rfl (lv_at hl 1 rfl) ?_
  refine lv_iconst (v := 2) hx hb dX11_judge_37 (by decide) ?_
  have hPc := hP.sub (ws' := [(a0, .inr (11, [.ref a1, .int 0, .int 0, .ref a2, .ref a3, .ref a4, .ref a5, .int 0, .ref a6, .ref a7, .ref a8, .int 0, .int 32, .int 0, .ref a9, .ref a10, .int 0, .int 0, .ref a11, .ref a12, .ref a13, .ref a14, .ref a15, .ref a16])), (a1, .inl (cyI, 2490, .inl (yz v0 1)))]) [1, 2] rfl
  have hDc := hD.sub (ws' := [(a0, .inr (11, [.ref a1, .int 0, .int 0, .ref a2, .ref a3, .ref a4, .ref a5, .int 0, .ref a6, .ref a7, .ref a8, .int 0, .int 32, .int 0, .ref a9, .ref a10, .int 0, .int 0, .ref a11, .ref a12, .ref a13, .ref a14, .ref a15, .ref a16])), (a1, .inl (cyI, 2490, .inl (yz v0 1)))]) [1, 2] (by decide) rfl
  refine yy_calli [1, 2] [0] (wr := [(a9, .inl (cyI, 15, .inl yR))]) (va_runV (As := [.int 2]) (rest := [.int 209, .ref a1]) ⟨hx, hb, hml, hown, hts⟩ (rS_X11_was_136 l dC dI cyI cyZ cyO H.size a0 a1 a2 a3 a4 a5 a6 a7 a8 a9 a10 a11 a12 a13 a14 a15 a16 v0 ) (cwV 1 hts gX11_judge_X11_was rfl rfl rfl (by decide +kernel) ⟨Nat.le_of_ble_eq_true rfl, Nat.le_of_ble_eq_true rfl⟩) (yPreV hK hPc hDc (ci := 11) (q0 := 0) rfl rfl) rfl rfl hl.1 rfl (lv_room (Nat.le_of_ble_eq_true rfl)) dX11_judge_38 ⟨Nat.le_of_ble_eq_true rfl, Nat.le_of_ble_eq_true rfl⟩) hP hD hS hA rfl rfl (by decide) (by decide) (fun r_4 u_3 H locs hw hP hD hS => ?_)
  have hP : va_P (dC, dI) vwCl [(a9, .inl (cyI, 15, .inl yR)), (a0, .inr (11, [.ref a1, .int 0, .int 0, .ref a2, .ref a3, .ref a4, .ref a5, .int 0, .ref a6, .ref a7, .ref a8, .int 0, .int 32, .int 0, .ref a9, .ref a10, .int 0, .int 0, .ref a11, .ref a12, .ref a13, .ref a14, .ref a15, .ref a16])), (a1, .inl (cyI, 2490, .inl (yz v0 1)))] H := hP
  have hD : va_D A [(a9, .inl (cyI, 15, .inl yR)), (a0, .inr (11, [.ref a1, .int 0, .int 0, .ref a2, .ref a3, .ref a4, .ref a5, .int 0, .ref a6, .ref a7, .ref a8, .int 0, .int 32, .int 0, .ref a9, .ref a10, .int 0, .int 0, .ref a11, .ref a12, .ref a13, .ref a14, .ref a15, .ref a16])), (a1, .inl (cyI, 2490, .inl (yz v0 1)))] := hD
  refine W.widen (k := 0) (n := 0) (Nat.le_of_ble_eq_true rfl) (Nat.le_of_ble_eq_true rfl) ?_
  have hw : r_4 = 0 := hw
  subst hw
  have hPc := hP.sub (ws' := []) [] rfl
  have hDc := hD.sub (ws' := []) [] (by decide) rfl
  refine yy_calli [] [0, 1, 2] (wr := [(a9, .inl (cyI, 15, .inl yR)), (a0, .inr (11, [.ref a1, .int 0, .int 0, .ref a2, .ref a3, .ref a4, .ref a5, .int 0, .ref a6, .ref a7, .ref a8, .int 0, .int 32, .int 0, .ref a9, .ref a10, .int 0, .int 0, .ref a11, .ref a12, .ref a13, .ref a14, .ref a15, .ref a16])), (a1, .inl (cyI, 2490, .inl (yz v0 1)))]) (va_runS (As := [.int 0]) (rest := [.int 209, .ref a1]) ⟨hx, hb, hml, hown, hts⟩ (rS_X11_isActive_137 l dC dI cyI cyZ cyO H.size ) (va_cwS 1 hts gX11_judge_X11_isActive rfl rfl rfl (by decide +kernel) ⟨Nat.le_of_ble_eq_true rfl, Nat.le_of_ble_eq_true rfl⟩) (yPreS hK hPc hDc) rfl rfl hl.1 rfl (lv_room (Nat.le_of_ble_eq_true rfl)) dX11_judge_41 ⟨Nat.le_of_ble_eq_true rfl, Nat.le_of_ble_eq_true rfl⟩) hP hD hS hA rfl rfl (by decide) (by decide) (fun r_6 u_5 H locs hw hP hD hS => ?_)
  have hP : va_P (dC, dI) vwCl [(a9, .inl (cyI, 15, .inl yR)), (a0, .inr (11, [.ref a1, .int 0, .int 0, .ref a2, .ref a3, .ref a4, .ref a5, .int 0, .ref a6, .ref a7, .ref a8, .int 0, .int 32, .int 0, .ref a9, .ref a10, .int 0, .int 0, .ref a11, .ref a12, .ref a13, .ref a14, .ref a15, .ref a16])), (a1, .inl (cyI, 2490, .inl (yz v0 1)))] H := hP
  have hD : va_D A [(a9, .inl (cyI, 15, .inl yR)), (a0, .inr (11, [.ref a1, .int 0, .int 0, .ref a2, .ref a3, .ref a4, .ref a5, .int 0, .ref a6, .ref a7, .ref a8, .int 0, .int 32, .int 0, .ref a9, .ref a10, .int 0, .int 0, .ref a11, .ref a12, .ref a13, .ref a14, .ref a15, .ref a16])), (a1, .inl (cyI, 2490, .inl (yz v0 1)))] := hD
  refine W.widen (k := 0) (n := 0) (Nat.le_of_ble_eq_true rfl) (Nat.le_of_ble_eq_true rfl) ?_
  have hw : r_6 = 0 := hw
  subst hw
  refine lv_if_eq (tgt := 51) hx hb dX11_judge_44 (by decide) (fun _ => ?_) (fun c => absurd (by decide) c)
  refine lv_iconst (v := 0) hx hb dX11_judge_51 (by decide) ?_
  refine yy_iast (f' := (yz v0 1)) hx hb hK hP hD hS 2 0 rfl rfl (yin (by decide)) dX11_judge_52 (yid rfl) (fun H locs hP hD hS => ?_)
  have hP : va_P (dC, dI) vwCl [(a9, .inl (cyI, 15, .inl yR)), (a0, .inr (11, [.ref a1, .int 0, .int 0, .ref a2, .ref a3, .ref a4, .ref a5, .int 0, .ref a6, .ref a7, .ref a8, .int 0, .int 32, .int 0, .ref a9, .ref a10, .int 0, .int 0, .ref a11, .ref a12, .ref a13, .ref a14, .ref a15, .ref a16])), (a1, .inl (cyI, 2490, .inl (yz v0 1)))] H := hP
  have hD : va_D A [(a9, .inl (cyI, 15, .inl yR)), (a0, .inr (11, [.ref a1, .int 0, .int 0, .ref a2, .ref a3, .ref a4, .ref a5, .int 0, .ref a6, .ref a7, .ref a8, .int 0, .int 32, .int 0, .ref a9, .ref a10, .int 0, .int 0, .ref a11, .ref a12, .ref a13, .ref a14, .ref a15, .ref a16])), (a1, .inl (cyI, 2490, .inl (yz v0 1)))] := hD
  refine lv_aload_n hx hb dX11_judge_53 rfl (lv_at hl 1 rfl) ?_
  refine va_get (D := (dC, dI)) (ci := 11) (v := .ref a1) (C := RX11) (T := TX11) (N := 24) hx hb hts hnX11 hown hK hP 1 rfl rfl 0 (by decide) hf7 (fun _ h9 => h9) rfl dX11_judge_54 ?_
  refine lv_sipush (v := 210) hx hb dX11_judge_57 (by decide) ?_
  refine lv_aload_n hx hb dX11_judge_60 rfl (lv_at hl 1 rfl) ?_
  refine lv_iconst (v := 2) hx hb dX11_judge_61 (by decide) ?_
  have hPc := hP.sub (ws' := [(a0, .inr (11, [.ref a1, .int 0, .int 0, .ref a2, .ref a3, .ref a4, .ref a5, .int 0, .ref a6, .ref a7, .ref a8, .int 0, .int 32, .int 0, .ref a9, .ref a10, .int 0, .int 0, .ref a11, .ref a12, .ref a13, .ref a14, .ref a15, .ref a16])), (a1, .inl (cyI, 2490, .inl (yz v0 1)))]) [1, 2] rfl
  have hDc := hD.sub (ws' := [(a0, .inr (11, [.ref a1, .int 0, .int 0, .ref a2, .ref a3, .ref a4, .ref a5, .int 0, .ref a6, .ref a7, .ref a8, .int 0, .int 32, .int 0, .ref a9, .ref a10, .int 0, .int 0, .ref a11, .ref a12, .ref a13, .ref a14, .ref a15, .ref a16])), (a1, .inl (cyI, 2490, .inl (yz v0 1)))]) [1, 2] (by decide) rfl
  refine yy_calli [1, 2] [0] (wr := [(a9, .inl (cyI, 15, .inl yR))]) (va_runV (As := [.int 2]) (rest := [.int 210, .ref a1]) ⟨hx, hb, hml, hown, hts⟩ (rS_X11_was_136 l dC dI cyI cyZ cyO H.size a0 a1 a2 a3 a4 a5 a6 a7 a8 a9 a10 a11 a12 a13 a14 a15 a16 v0 ) (cwV 1 hts gX11_judge_X11_was rfl rfl rfl (by decide +kernel) ⟨Nat.le_of_ble_eq_true rfl, Nat.le_of_ble_eq_true rfl⟩) (yPreV hK hPc hDc (ci := 11) (q0 := 0) rfl rfl) rfl rfl hl.1 rfl (lv_room (Nat.le_of_ble_eq_true rfl)) dX11_judge_62 ⟨Nat.le_of_ble_eq_true rfl, Nat.le_of_ble_eq_true rfl⟩) hP hD hS hA rfl rfl (by decide) (by decide) (fun r_8 u_7 H locs hw hP hD hS => ?_)
  have hP : va_P (dC, dI) vwCl [(a9, .inl (cyI, 15, .inl yR)), (a0, .inr (11, [.ref a1, .int 0, .int 0, .ref a2, .ref a3, .ref a4, .ref a5, .int 0, .ref a6, .ref a7, .ref a8, .int 0, .int 32, .int 0, .ref a9, .ref a10, .int 0, .int 0, .ref a11, .ref a12, .ref a13, .ref a14, .ref a15, .ref a16])), (a1, .inl (cyI, 2490, .inl (yz v0 1)))] H := hP
  have hD : va_D A [(a9, .inl (cyI, 15, .inl yR)), (a0, .inr (11, [.ref a1, .int 0, .int 0, .ref a2, .ref a3, .ref a4, .ref a5, .int 0, .ref a6, .ref a7, .ref a8, .int 0, .int 32, .int 0, .ref a9, .ref a10, .int 0, .int 0, .ref a11, .ref a12, .ref a13, .ref a14, .ref a15, .ref a16])), (a1, .inl (cyI, 2490, .inl (yz v0 1)))] := hD
  refine W.widen (k := 0) (n := 0) (Nat.le_of_ble_eq_true rfl) (Nat.le_of_ble_eq_true rfl) ?_
  have hw : r_8 = 0 := hw
  subst hw
  have hPc := hP.sub (ws' := []) [] rfl
  have hDc := hD.sub (ws' := []) [] (by decide) rfl
  refine yy_calli [] [0, 1, 2] (wr := [(a9, .inl (cyI, 15, .inl yR)), (a0, .inr (11, [.ref a1, .int 0, .int 0, .ref a2, .ref a3, .ref a4, .ref a5, .int 0, .ref a6, .ref a7, .ref a8, .int 0, .int 32, .int 0, .ref a9, .ref a10, .int 0, .int 0, .ref a11, .ref a12, .ref a13, .ref a14, .ref a15, .ref a16])), (a1, .inl (cyI, 2490, .inl (yz v0 1)))]) (va_runS (As := [.int 0]) (rest := [.int 210, .ref a1]) ⟨hx, hb, hml, hown, hts⟩ (rS_X11_isActive_137 l dC dI cyI cyZ cyO H.size ) (va_cwS 1 hts gX11_judge_X11_isActive rfl rfl rfl (by decide +kernel) ⟨Nat.le_of_ble_eq_true rfl, Nat.le_of_ble_eq_true rfl⟩) (yPreS hK hPc hDc) rfl rfl hl.1 rfl (lv_room (Nat.le_of_ble_eq_true rfl)) dX11_judge_65 ⟨Nat.le_of_ble_eq_true rfl, Nat.le_of_ble_eq_true rfl⟩) hP hD hS hA rfl rfl (by decide) (by decide) (fun r_10 u_9 H locs hw hP hD hS => ?_)
  have hP : va_P (dC, dI) vwCl [(a9, .inl (cyI, 15, .inl yR)), (a0, .inr (11, [.ref a1, .int 0, .int 0, .ref a2, .ref a3, .ref a4, .ref a5, .int 0, .ref a6, .ref a7, .ref a8, .int 0, .int 32, .int 0, .ref a9, .ref a10, .int 0, .int 0, .ref a11, .ref a12, .ref a13, .ref a14, .ref a15, .ref a16])), (a1, .inl (cyI, 2490, .inl (yz v0 1)))] H := hP
  have hD : va_D A [(a9, .inl (cyI, 15, .inl yR)), (a0, .inr (11, [.ref a1, .int 0, .int 0, .ref a2, .ref a3, .ref a4, .ref a5, .int 0, .ref a6, .ref a7, .ref a8, .int 0, .int 32, .int 0, .ref a9, .ref a10, .int 0, .int 0, .ref a11, .ref a12, .ref a13, .ref a14, .ref a15, .ref a16])), (a1, .inl (cyI, 2490, .inl (yz v0 1)))] := hD
  refine W.widen (k := 0) (n := 0) (Nat.le_of_ble_eq_true rfl) (Nat.le_of_ble_eq_true rfl) ?_
  have hw : r_10 = 0 := hw
  subst hw
  refine lv_if_eq (tgt := 83) hx hb dX11_judge_68 (by decide) (fun _ => ?_) (fun c => absurd (by decide) c)
  refine lv_iconst (v := 0) hx hb dX11_judge_83 (by decide) ?_
  refine yy_iast (f' := (yz v0 1)) hx hb hK hP hD hS 2 0 rfl rfl (yin (by decide)) dX11_judge_84 (yid rfl) (fun H locs hP hD hS => ?_)
  have hP : va_P (dC, dI) vwCl [(a9, .inl (cyI, 15, .inl yR)), (a0, .inr (11, [.ref a1, .int 0, .int 0, .ref a2, .ref a3, .ref a4, .ref a5, .int 0, .ref a6, .ref a7, .ref a8, .int 0, .int 32, .int 0, .ref a9, .ref a10, .int 0, .int 0, .ref a11, .ref a12, .ref a13, .ref a14, .ref a15, .ref a16])), (a1, .inl (cyI, 2490, .inl (yz v0 1)))] H := hP
  have hD : va_D A [(a9, .inl (cyI, 15, .inl yR)), (a0, .inr (11, [.ref a1, .int 0, .int 0, .ref a2, .ref a3, .ref a4, .ref a5, .int 0, .ref a6, .ref a7, .ref a8, .int 0, .int 32, .int 0, .ref a9, .ref a10, .int 0, .int 0, .ref a11, .ref a12, .ref a13, .ref a14, .ref a15, .ref a16])), (a1, .inl (cyI, 2490, .inl (yz v0 1)))] := hD
  refine lv_aload_n hx hb dX11_judge_85 rfl (lv_at hl 1 rfl) ?_
  refine va_get (D := (dC, dI)) (ci := 11) (v := .ref a1) (C := RX11) (T := TX11) (N := 24) hx hb hts hnX11 hown hK hP 1 rfl rfl 0 (by decide) hf7 (fun _ h9 => h9) rfl dX11_judge_86 ?_
  refine lv_sipush (v := 209) hx hb dX11_judge_89 (by decide) ?_
  refine yy_iald (v := 0) hx hb hK hP 2 0 rfl rfl (yin (by decide)) dX11_judge_92 rfl ?_
  refine lv_iconst (v := 1) hx hb dX11_judge_93 (by decide) ?_
  refine lv_icmp_ne (tgt := 101) hx hb dX11_judge_94 (by decide) (fun _ => ?_) (fun c => absurd c (by decide))
  refine lv_iconst (v := 0) hx hb dX11_judge_101 (by decide) ?_
  refine lv_istore_n (lv' := [(2, .int 0), (1, .int 1), (0, .ref a0)]) hx hb dX11_judge_102 rfl hl (by decide) rfl (fun ls hl => ?_)
  refine lv_aload_n hx hb dX11_judge_103 rfl (lv_at hl 2 rfl) ?_
  refine lv_iconst (v := 1) hx hb dX11_judge_104 (by decide) ?_
  refine lv_iload_n hx hb dX11_judge_105 rfl (lv_at hl 1 rfl) ?_
  refine lv_if_eq (tgt := 164) hx hb dX11_judge_106 (by decide) (fun c => absurd c (by decide)) (fun _ => ?_)
  refine lv_aload_n hx hb dX11_judge_109 rfl (lv_at hl 2 rfl) ?_
  refine lv_iconst (v := 4) hx hb dX11_judge_110 (by decide) ?_
  have hPc := hP.sub (ws' := [(a0, .inr (11, [.ref a1, .int 0, .int 0, .ref a2, .ref a3, .ref a4, .ref a5, .int 0, .ref a6, .ref a7, .ref a8, .int 0, .int 32, .int 0, .ref a9, .ref a10, .int 0, .int 0, .ref a11, .ref a12, .ref a13, .ref a14, .ref a15, .ref a16])), (a1, .inl (cyI, 2490, .inl (yz v0 1)))]) [1, 2] rfl
  have hDc := hD.sub (ws' := [(a0, .inr (11, [.ref a1, .int 0, .int 0, .ref a2, .ref a3, .ref a4, .ref a5, .int 0, .ref a6, .ref a7, .ref a8, .int 0, .int 32, .int 0, .ref a9, .ref a10, .int 0, .int 0, .ref a11, .ref a12, .ref a13, .ref a14, .ref a15, .ref a16])), (a1, .inl (cyI, 2490, .inl (yz v0 1)))]) [1, 2] (by decide) rfl
  refine yy_calli [1, 2] [0] (wr := [(a9, .inl (cyI, 15, .inl yR))]) (va_runV (As := [.int 4]) (rest := [.int 1, .ref a0]) ⟨hx, hb, hml, hown, hts⟩ (rS_X11_was_135 l dC dI cyI cyZ cyO H.size a0 a1 a2 a3 a4 a5 a6 a7 a8 a9 a10 a11 a12 a13 a14 a15 a16 v0 ) (cwV 1 hts gX11_judge_X11_was rfl rfl rfl (by decide +kernel) ⟨Nat.le_of_ble_eq_true rfl, Nat.le_of_ble_eq_true rfl⟩) (yPreV hK hPc hDc (ci := 11) (q0 := 0) rfl rfl) rfl rfl hl.1 rfl (lv_room (Nat.le_of_ble_eq_true rfl)) dX11_judge_111 ⟨Nat.le_of_ble_eq_true rfl, Nat.le_of_ble_eq_true rfl⟩) hP hD hS hA rfl rfl (by decide) (by decide) (fun r_12 u_11 H locs hw hP hD hS => ?_)
  have hP : va_P (dC, dI) vwCl [(a9, .inl (cyI, 15, .inl yR)), (a0, .inr (11, [.ref a1, .int 0, .int 0, .ref a2, .ref a3, .ref a4, .ref a5, .int 0, .ref a6, .ref a7, .ref a8, .int 0, .int 32, .int 0, .ref a9, .ref a10, .int 0, .int 0, .ref a11, .ref a12, .ref a13, .ref a14, .ref a15, .ref a16])), (a1, .inl (cyI, 2490, .inl (yz v0 1)))] H := hP
  have hD : va_D A [(a9, .inl (cyI, 15, .inl yR)), (a0, .inr (11, [.ref a1, .int 0, .int 0, .ref a2, .ref a3, .ref a4, .ref a5, .int 0, .ref a6, .ref a7, .ref a8, .int 0, .int 32, .int 0, .ref a9, .ref a10, .int 0, .int 0, .ref a11, .ref a12, .ref a13, .ref a14, .ref a15, .ref a16])), (a1, .inl (cyI, 2490, .inl (yz v0 1)))] := hD
  refine W.widen (k := 0) (n := 0) (Nat.le_of_ble_eq_true rfl) (Nat.le_of_ble_eq_true rfl) ?_
  have hw : r_12 = 1 := hw
  subst hw
  refine lv_if_ne (tgt := 164) hx hb dX11_judge_114 (by decide) (fun _ => ?_) (fun c => absurd c (by decide))
  refine lv_iconst (v := 0) hx hb dX11_judge_164 (by decide) ?_
  have hPc := hP.sub (ws' := [(a0, .inr (11, [.ref a1, .int 0, .int 0, .ref a2, .ref a3, .ref a4, .ref a5, .int 0, .ref a6, .ref a7, .ref a8, .int 0, .int 32, .int 0, .ref a9, .ref a10, .int 0, .int 0, .ref a11, .ref a12, .ref a13, .ref a14, .ref a15, .ref a16]))]) [1] rfl
  have hDc := hD.sub (ws' := [(a0, .inr (11, [.ref a1, .int 0, .int 0, .ref a2, .ref a3, .ref a4, .ref a5, .int 0, .ref a6, .ref a7, .ref a8, .int 0, .int 32, .int 0, .ref a9, .ref a10, .int 0, .int 0, .ref a11, .ref a12, .ref a13, .ref a14, .ref a15, .ref a16]))]) [1] (by decide) rfl
  refine yy_callv [1] [0, 2] (wr := [(a9, .inl (cyI, 15, .inl yR)), (a1, .inl (cyI, 2490, .inl (yz v0 1)))]) (va_runV (As := [.int 1, .int 0]) (rest := []) ⟨hx, hb, hml, hown, hts⟩ (r0_X11_find_95 l dC dI cyI cyZ cyO H.size a0 a1 a2 a3 a4 a5 a6 a7 a8 a9 a10 a11 a12 a13 a14 a15 a16 ) (cwV 2 hts gX11_judge_X11_find rfl rfl rfl (by decide +kernel) ⟨Nat.le_of_ble_eq_true rfl, Nat.le_of_ble_eq_true rfl⟩) (yPreV hK hPc hDc (ci := 11) (q0 := 0) rfl rfl) rfl rfl hl.1 rfl (lv_room (Nat.le_of_ble_eq_true rfl)) dX11_judge_165 ⟨Nat.le_of_ble_eq_true rfl, Nat.le_of_ble_eq_true rfl⟩) hP hD hS hA rfl rfl (by decide) (by decide) (fun u_13 H locs hw hP hD hS => ?_)
  have hP : va_P (dC, dI) vwCl [(a9, .inl (cyI, 15, .inl yR)), (a1, .inl (cyI, 2490, .inl (yz v0 1))), (a0, .inr (11, [.ref a1, .int 0, .int 0, .ref a2, .ref a3, .ref a4, .ref a5, .int 0, .ref a6, .ref a7, .ref a8, .int 0, .int 32, .int 0, .ref a9, .ref a10, .int 0, .int 0, .ref a11, .ref a12, .ref a13, .ref a14, .ref a15, .ref a16]))] H := hP
  have hD : va_D A [(a9, .inl (cyI, 15, .inl yR)), (a1, .inl (cyI, 2490, .inl (yz v0 1))), (a0, .inr (11, [.ref a1, .int 0, .int 0, .ref a2, .ref a3, .ref a4, .ref a5, .int 0, .ref a6, .ref a7, .ref a8, .int 0, .int 32, .int 0, .ref a9, .ref a10, .int 0, .int 0, .ref a11, .ref a12, .ref a13, .ref a14, .ref a15, .ref a16]))] := hD
  refine W.widen (k := 0) (n := 0) (Nat.le_of_ble_eq_true rfl) (Nat.le_of_ble_eq_true rfl) ?_
  refine lv_aload_n hx hb dX11_judge_168 rfl (lv_at hl 2 rfl) ?_
  refine lv_iconst (v := 2) hx hb dX11_judge_169 (by decide) ?_
  refine lv_iload_n hx hb dX11_judge_170 rfl (lv_at hl 1 rfl) ?_
  refine lv_if_eq (tgt := 231) hx hb dX11_judge_171 (by decide) (fun c => absurd c (by decide)) (fun _ => ?_)
  refine lv_aload_n hx hb dX11_judge_174 rfl (lv_at hl 2 rfl) ?_
  refine va_get (D := (dC, dI)) (ci := 11) (v := .ref a9) (C := RX11) (T := TX11) (N := 24) hx hb hts hnX11 hown hK hP 2 rfl rfl 14 (by decide) hf39 (fun _ h9 => h9) rfl dX11_judge_175 ?_
  refine lv_iconst (v := 2) hx hb dX11_judge_178 (by decide) ?_
  refine yy_iald (v := 0) hx hb hK hP 0 0 rfl rfl (yin (by decide)) dX11_judge_179 rfl ?_
  refine lv_iconst (v := 3) hx hb dX11_judge_180 (by decide) ?_
  refine lv_icmp_ne (tgt := 231) hx hb dX11_judge_181 (by decide) (fun _ => ?_) (fun c => absurd c (by decide))
  refine lv_iconst (v := 0) hx hb dX11_judge_231 (by decide) ?_
  have hPc := hP.sub (ws' := [(a0, .inr (11, [.ref a1, .int 0, .int 0, .ref a2, .ref a3, .ref a4, .ref a5, .int 0, .ref a6, .ref a7, .ref a8, .int 0, .int 32, .int 0, .ref a9, .ref a10, .int 0, .int 0, .ref a11, .ref a12, .ref a13, .ref a14, .ref a15, .ref a16]))]) [2] rfl
  have hDc := hD.sub (ws' := [(a0, .inr (11, [.ref a1, .int 0, .int 0, .ref a2, .ref a3, .ref a4, .ref a5, .int 0, .ref a6, .ref a7, .ref a8, .int 0, .int 32, .int 0, .ref a9, .ref a10, .int 0, .int 0, .ref a11, .ref a12, .ref a13, .ref a14, .ref a15, .ref a16]))]) [2] (by decide) rfl
  refine yy_callv [2] [0, 1] (wr := [(a9, .inl (cyI, 15, .inl yR)), (a1, .inl (cyI, 2490, .inl (yz v0 1)))]) (va_runV (As := [.int 2, .int 0]) (rest := []) ⟨hx, hb, hml, hown, hts⟩ (r0_X11_find_96 l dC dI cyI cyZ cyO H.size a0 a1 a2 a3 a4 a5 a6 a7 a8 a9 a10 a11 a12 a13 a14 a15 a16 ) (cwV 2 hts gX11_judge_X11_find rfl rfl rfl (by decide +kernel) ⟨Nat.le_of_ble_eq_true rfl, Nat.le_of_ble_eq_true rfl⟩) (yPreV hK hPc hDc (ci := 11) (q0 := 0) rfl rfl) rfl rfl hl.1 rfl (lv_room (Nat.le_of_ble_eq_true rfl)) dX11_judge_232 ⟨Nat.le_of_ble_eq_true rfl, Nat.le_of_ble_eq_true rfl⟩) hP hD hS hA rfl rfl (by decide) (by decide) (fun u_14 H locs hw hP hD hS => ?_)
  have hP : va_P (dC, dI) vwCl [(a9, .inl (cyI, 15, .inl yR)), (a1, .inl (cyI, 2490, .inl (yz v0 1))), (a0, .inr (11, [.ref a1, .int 0, .int 0, .ref a2, .ref a3, .ref a4, .ref a5, .int 0, .ref a6, .ref a7, .ref a8, .int 0, .int 32, .int 0, .ref a9, .ref a10, .int 0, .int 0, .ref a11, .ref a12, .ref a13, .ref a14, .ref a15, .ref a16]))] H := hP
  have hD : va_D A [(a9, .inl (cyI, 15, .inl yR)), (a1, .inl (cyI, 2490, .inl (yz v0 1))), (a0, .inr (11, [.ref a1, .int 0, .int 0, .ref a2, .ref a3, .ref a4, .ref a5, .int 0, .ref a6, .ref a7, .ref a8, .int 0, .int 32, .int 0, .ref a9, .ref a10, .int 0, .int 0, .ref a11, .ref a12, .ref a13, .ref a14, .ref a15, .ref a16]))] := hD
  refine W.widen (k := 0) (n := 0) (Nat.le_of_ble_eq_true rfl) (Nat.le_of_ble_eq_true rfl) ?_
  refine lv_aload_n hx hb dX11_judge_235 rfl (lv_at hl 2 rfl) ?_
  refine lv_iconst (v := 3) hx hb dX11_judge_236 (by decide) ?_
  refine lv_iload_n hx hb dX11_judge_237 rfl (lv_at hl 1 rfl) ?_
  refine lv_if_eq (tgt := 277) hx hb dX11_judge_238 (by decide) (fun c => absurd c (by decide)) (fun _ => ?_)
  refine lv_iload_n hx hb dX11_judge_241 rfl (lv_at hl 0 rfl) ?_
  refine lv_if_eq (tgt := 277) hx hb dX11_judge_242 (by decide) (fun _ => ?_) (fun c => absurd (by decide) c)
  refine lv_iconst (v := 0) hx hb dX11_judge_277 (by decide) ?_
  have hPc := hP.sub (ws' := [(a0, .inr (11, [.ref a1, .int 0, .int 0, .ref a2, .ref a3, .ref a4, .ref a5, .int 0, .ref a6, .ref a7, .ref a8, .int 0, .int 32, .int 0, .ref a9, .ref a10, .int 0, .int 0, .ref a11, .ref a12, .ref a13, .ref a14, .ref a15, .ref a16]))]) [2] rfl
  have hDc := hD.sub (ws' := [(a0, .inr (11, [.ref a1, .int 0, .int 0, .ref a2, .ref a3, .ref a4, .ref a5, .int 0, .ref a6, .ref a7, .ref a8, .int 0, .int 32, .int 0, .ref a9, .ref a10, .int 0, .int 0, .ref a11, .ref a12, .ref a13, .ref a14, .ref a15, .ref a16]))]) [2] (by decide) rfl
  refine yy_callv [2] [0, 1] (wr := [(a9, .inl (cyI, 15, .inl yR)), (a1, .inl (cyI, 2490, .inl (yz v0 1)))]) (va_runV (As := [.int 3, .int 0]) (rest := []) ⟨hx, hb, hml, hown, hts⟩ (r0_X11_find_97 l dC dI cyI cyZ cyO H.size a0 a1 a2 a3 a4 a5 a6 a7 a8 a9 a10 a11 a12 a13 a14 a15 a16 ) (cwV 2 hts gX11_judge_X11_find rfl rfl rfl (by decide +kernel) ⟨Nat.le_of_ble_eq_true rfl, Nat.le_of_ble_eq_true rfl⟩) (yPreV hK hPc hDc (ci := 11) (q0 := 0) rfl rfl) rfl rfl hl.1 rfl (lv_room (Nat.le_of_ble_eq_true rfl)) dX11_judge_278 ⟨Nat.le_of_ble_eq_true rfl, Nat.le_of_ble_eq_true rfl⟩) hP hD hS hA rfl rfl (by decide) (by decide) (fun u_15 H locs hw hP hD hS => ?_)
  have hP : va_P (dC, dI) vwCl [(a9, .inl (cyI, 15, .inl yR)), (a1, .inl (cyI, 2490, .inl (yz v0 1))), (a0, .inr (11, [.ref a1, .int 0, .int 0, .ref a2, .ref a3, .ref a4, .ref a5, .int 0, .ref a6, .ref a7, .ref a8, .int 0, .int 32, .int 0, .ref a9, .ref a10, .int 0, .int 0, .ref a11, .ref a12, .ref a13, .ref a14, .ref a15, .ref a16]))] H := hP
  have hD : va_D A [(a9, .inl (cyI, 15, .inl yR)), (a1, .inl (cyI, 2490, .inl (yz v0 1))), (a0, .inr (11, [.ref a1, .int 0, .int 0, .ref a2, .ref a3, .ref a4, .ref a5, .int 0, .ref a6, .ref a7, .ref a8, .int 0, .int 32, .int 0, .ref a9, .ref a10, .int 0, .int 0, .ref a11, .ref a12, .ref a13, .ref a14, .ref a15, .ref a16]))] := hD
  refine W.widen (k := 0) (n := 0) (Nat.le_of_ble_eq_true rfl) (Nat.le_of_ble_eq_true rfl) ?_
  refine lv_aload_n hx hb dX11_judge_281 rfl (lv_at hl 2 rfl) ?_
  refine va_get (D := (dC, dI)) (ci := 11) (v := .ref a9) (C := RX11) (T := TX11) (N := 24) hx hb hts hnX11 hown hK hP 2 rfl rfl 14 (by decide) hf39 (fun _ h9 => h9) rfl dX11_judge_282 ?_
  refine lv_iconst (v := 5) hx hb dX11_judge_285 (by decide) ?_
  refine yy_iald (v := 0) hx hb hK hP 0 0 rfl rfl (yin (by decide)) dX11_judge_286 rfl ?_
  refine lv_if_eq (tgt := 303) hx hb dX11_judge_287 (by decide) (fun _ => ?_) (fun c => absurd (by decide) c)
  refine lv_iconst (v := 0) hx hb dX11_judge_303 (by decide) ?_
  refine lv_istore_n (lv' := [(3, .int 0), (2, .int 0), (1, .int 1), (0, .ref a0)]) hx hb dX11_judge_304 rfl hl (by decide) rfl (fun ls hl => ?_)
  refine lv_aload_n hx hb dX11_judge_305 rfl (lv_at hl 3 rfl) ?_
  refine lv_iconst (v := 5) hx hb dX11_judge_306 (by decide) ?_
  have hPc := hP.sub (ws' := [(a0, .inr (11, [.ref a1, .int 0, .int 0, .ref a2, .ref a3, .ref a4, .ref a5, .int 0, .ref a6, .ref a7, .ref a8, .int 0, .int 32, .int 0, .ref a9, .ref a10, .int 0, .int 0, .ref a11, .ref a12, .ref a13, .ref a14, .ref a15, .ref a16])), (a1, .inl (cyI, 2490, .inl (yz v0 1)))]) [2, 1] rfl
  have hDc := hD.sub (ws' := [(a0, .inr (11, [.ref a1, .int 0, .int 0, .ref a2, .ref a3, .ref a4, .ref a5, .int 0, .ref a6, .ref a7, .ref a8, .int 0, .int 32, .int 0, .ref a9, .ref a10, .int 0, .int 0, .ref a11, .ref a12, .ref a13, .ref a14, .ref a15, .ref a16])), (a1, .inl (cyI, 2490, .inl (yz v0 1)))]) [2, 1] (by decide) rfl
  refine yy_calli [2, 1] [0] (wr := [(a9, .inl (cyI, 15, .inl yR))]) (va_runV (As := [.int 5]) (rest := []) ⟨hx, hb, hml, hown, hts⟩ (rS_X11_was_138 l dC dI cyI cyZ cyO H.size a0 a1 a2 a3 a4 a5 a6 a7 a8 a9 a10 a11 a12 a13 a14 a15 a16 v0 ) (cwV 1 hts gX11_judge_X11_was rfl rfl rfl (by decide +kernel) ⟨Nat.le_of_ble_eq_true rfl, Nat.le_of_ble_eq_true rfl⟩) (yPreV hK hPc hDc (ci := 11) (q0 := 0) rfl rfl) rfl rfl hl.1 rfl (lv_room (Nat.le_of_ble_eq_true rfl)) dX11_judge_307 ⟨Nat.le_of_ble_eq_true rfl, Nat.le_of_ble_eq_true rfl⟩) hP hD hS hA rfl rfl (by decide) (by decide) (fun r_17 u_16 H locs hw hP hD hS => ?_)
  have hP : va_P (dC, dI) vwCl [(a9, .inl (cyI, 15, .inl yR)), (a0, .inr (11, [.ref a1, .int 0, .int 0, .ref a2, .ref a3, .ref a4, .ref a5, .int 0, .ref a6, .ref a7, .ref a8, .int 0, .int 32, .int 0, .ref a9, .ref a10, .int 0, .int 0, .ref a11, .ref a12, .ref a13, .ref a14, .ref a15, .ref a16])), (a1, .inl (cyI, 2490, .inl (yz v0 1)))] H := hP
  have hD : va_D A [(a9, .inl (cyI, 15, .inl yR)), (a0, .inr (11, [.ref a1, .int 0, .int 0, .ref a2, .ref a3, .ref a4, .ref a5, .int 0, .ref a6, .ref a7, .ref a8, .int 0, .int 32, .int 0, .ref a9, .ref a10, .int 0, .int 0, .ref a11, .ref a12, .ref a13, .ref a14, .ref a15, .ref a16])), (a1, .inl (cyI, 2490, .inl (yz v0 1)))] := hD
  refine W.widen (k := 0) (n := 0) (Nat.le_of_ble_eq_true rfl) (Nat.le_of_ble_eq_true rfl) ?_
  have hw : r_17 = 0 := hw
  subst hw
  refine lv_if_eq (tgt := 325) hx hb dX11_judge_310 (by decide) (fun _ => ?_) (fun c => absurd (by decide) c)
  refine lv_iconst (v := 0) hx hb dX11_judge_325 (by decide) ?_
  refine lv_istore (lv' := [(4, .int 0), (3, .int 0), (2, .int 0), (1, .int 1), (0, .ref a0)]) hx hb dX11_judge_326 hl (by decide) rfl (fun ls hl => ?_)
  refine lv_aload_n hx hb dX11_judge_328 rfl (lv_at hl 4 rfl) ?_
  refine lv_iconst (v := 4) hx hb dX11_judge_329 (by decide) ?_
  refine lv_iload_n hx hb dX11_judge_330 rfl (lv_at hl 3 rfl) ?_
  refine lv_if_eq (tgt := 344) hx hb dX11_judge_331 (by decide) (fun c => absurd c (by decide)) (fun _ => ?_)
  refine lv_iload_n hx hb dX11_judge_334 rfl (lv_at hl 1 rfl) ?_
  refine lv_iload hx hb dX11_judge_335 (lv_at hl 0 rfl) ?_
  refine lv_icmp_eq (tgt := 344) hx hb dX11_judge_337 (by decide) (fun _ => ?_) (fun c => absurd (by decide) c)
  refine lv_iconst (v := 0) hx hb dX11_judge_344 (by decide) ?_
  have hPc := hP.sub (ws' := [(a0, .inr (11, [.ref a1, .int 0, .int 0, .ref a2, .ref a3, .ref a4, .ref a5, .int 0, .ref a6, .ref a7, .ref a8, .int 0, .int 32, .int 0, .ref a9, .ref a10, .int 0, .int 0, .ref a11, .ref a12, .ref a13, .ref a14, .ref a15, .ref a16]))]) [1] rfl
  have hDc := hD.sub (ws' := [(a0, .inr (11, [.ref a1, .int 0, .int 0, .ref a2, .ref a3, .ref a4, .ref a5, .int 0, .ref a6, .ref a7, .ref a8, .int 0, .int 32, .int 0, .ref a9, .ref a10, .int 0, .int 0, .ref a11, .ref a12, .ref a13, .ref a14, .ref a15, .ref a16]))]) [1] (by decide) rfl
  refine yy_callv [1] [0, 2] (wr := [(a9, .inl (cyI, 15, .inl yR)), (a1, .inl (cyI, 2490, .inl (yz v0 1)))]) (va_runV (As := [.int 4, .int 0]) (rest := []) ⟨hx, hb, hml, hown, hts⟩ (r0_X11_find_99 l dC dI cyI cyZ cyO H.size a0 a1 a2 a3 a4 a5 a6 a7 a8 a9 a10 a11 a12 a13 a14 a15 a16 ) (cwV 2 hts gX11_judge_X11_find rfl rfl rfl (by decide +kernel) ⟨Nat.le_of_ble_eq_true rfl, Nat.le_of_ble_eq_true rfl⟩) (yPreV hK hPc hDc (ci := 11) (q0 := 0) rfl rfl) rfl rfl hl.1 rfl (lv_room (Nat.le_of_ble_eq_true rfl)) dX11_judge_345 ⟨Nat.le_of_ble_eq_true rfl, Nat.le_of_ble_eq_true rfl⟩) hP hD hS hA rfl rfl (by decide) (by decide) (fun u_18 H locs hw hP hD hS => ?_)
  have hP : va_P (dC, dI) vwCl [(a9, .inl (cyI, 15, .inl yR)), (a1, .inl (cyI, 2490, .inl (yz v0 1))), (a0, .inr (11, [.ref a1, .int 0, .int 0, .ref a2, .ref a3, .ref a4, .ref a5, .int 0, .ref a6, .ref a7, .ref a8, .int 0, .int 32, .int 0, .ref a9, .ref a10, .int 0, .int 0, .ref a11, .ref a12, .ref a13, .ref a14, .ref a15, .ref a16]))] H := hP
  have hD : va_D A [(a9, .inl (cyI, 15, .inl yR)), (a1, .inl (cyI, 2490, .inl (yz v0 1))), (a0, .inr (11, [.ref a1, .int 0, .int 0, .ref a2, .ref a3, .ref a4, .ref a5, .int 0, .ref a6, .ref a7, .ref a8, .int 0, .int 32, .int 0, .ref a9, .ref a10, .int 0, .int 0, .ref a11, .ref a12, .ref a13, .ref a14, .ref a15, .ref a16]))] := hD
  refine W.widen (k := 0) (n := 0) (Nat.le_of_ble_eq_true rfl) (Nat.le_of_ble_eq_true rfl) ?_
  refine lv_aload_n hx hb dX11_judge_348 rfl (lv_at hl 4 rfl) ?_
  refine lv_iconst (v := 5) hx hb dX11_judge_349 (by decide) ?_
  refine lv_aload_n hx hb dX11_judge_350 rfl (lv_at hl 4 rfl) ?_
  refine va_get (D := (dC, dI)) (ci := 11) (v := .ref a9) (C := RX11) (T := TX11) (N := 24) hx hb hts hnX11 hown hK hP 2 rfl rfl 14 (by decide) hf39 (fun _ h9 => h9) rfl dX11_judge_351 ?_
  refine lv_iconst (v := 5) hx hb dX11_judge_354 (by decide) ?_
  refine yy_iald (v := 0) hx hb hK hP 0 0 rfl rfl (yin (by decide)) dX11_judge_355 rfl ?_
  refine lv_if_eq (tgt := 367) hx hb dX11_judge_356 (by decide) (fun _ => ?_) (fun c => absurd (by decide) c)
  refine lv_iconst (v := 0) hx hb dX11_judge_367 (by decide) ?_
  have hPc := hP.sub (ws' := [(a0, .inr (11, [.ref a1, .int 0, .int 0, .ref a2, .ref a3, .ref a4, .ref a5, .int 0, .ref a6, .ref a7, .ref a8, .int 0, .int 32, .int 0, .ref a9, .ref a10, .int 0, .int 0, .ref a11, .ref a12, .ref a13, .ref a14, .ref a15, .ref a16]))]) [2] rfl
  have hDc := hD.sub (ws' := [(a0, .inr (11, [.ref a1, .int 0, .int 0, .ref a2, .ref a3, .ref a4, .ref a5, .int 0, .ref a6, .ref a7, .ref a8, .int 0, .int 32, .int 0, .ref a9, .ref a10, .int 0, .int 0, .ref a11, .ref a12, .ref a13, .ref a14, .ref a15, .ref a16]))]) [2] (by decide) rfl
  refine yy_callv [2] [0, 1] (wr := [(a9, .inl (cyI, 15, .inl yR)), (a1, .inl (cyI, 2490, .inl (yz v0 1)))]) (va_runV (As := [.int 5, .int 0]) (rest := []) ⟨hx, hb, hml, hown, hts⟩ (r0_X11_find_100 l dC dI cyI cyZ cyO H.size a0 a1 a2 a3 a4 a5 a6 a7 a8 a9 a10 a11 a12 a13 a14 a15 a16 ) (cwV 2 hts gX11_judge_X11_find rfl rfl rfl (by decide +kernel) ⟨Nat.le_of_ble_eq_true rfl, Nat.le_of_ble_eq_true rfl⟩) (yPreV hK hPc hDc (ci := 11) (q0 := 0) rfl rfl) rfl rfl hl.1 rfl (lv_room (Nat.le_of_ble_eq_true rfl)) dX11_judge_368 ⟨Nat.le_of_ble_eq_true rfl, Nat.le_of_ble_eq_true rfl⟩) hP hD hS hA rfl rfl (by decide) (by decide) (fun u_19 H locs hw hP hD hS => ?_)
  have hP : va_P (dC, dI) vwCl [(a9, .inl (cyI, 15, .inl yR)), (a1, .inl (cyI, 2490, .inl (yz v0 1))), (a0, .inr (11, [.ref a1, .int 0, .int 0, .ref a2, .ref a3, .ref a4, .ref a5, .int 0, .ref a6, .ref a7, .ref a8, .int 0, .int 32, .int 0, .ref a9, .ref a10, .int 0, .int 0, .ref a11, .ref a12, .ref a13, .ref a14, .ref a15, .ref a16]))] H := hP
  have hD : va_D A [(a9, .inl (cyI, 15, .inl yR)), (a1, .inl (cyI, 2490, .inl (yz v0 1))), (a0, .inr (11, [.ref a1, .int 0, .int 0, .ref a2, .ref a3, .ref a4, .ref a5, .int 0, .ref a6, .ref a7, .ref a8, .int 0, .int 32, .int 0, .ref a9, .ref a10, .int 0, .int 0, .ref a11, .ref a12, .ref a13, .ref a14, .ref a15, .ref a16]))] := hD
  refine W.widen (k := 0) (n := 0) (Nat.le_of_ble_eq_true rfl) (Nat.le_of_ble_eq_true rfl) ?_
  refine lv_aload_n hx hb dX11_judge_371 rfl (lv_at hl 4 rfl) ?_
  refine lv_bipush (v := 6) hx hb dX11_judge_372 (by decide) ?_
  refine lv_aload_n hx hb dX11_judge_374 rfl (lv_at hl 4 rfl) ?_
  refine va_get (D := (dC, dI)) (ci := 11) (v := .ref a9) (C := RX11) (T := TX11) (N := 24) hx hb hts hnX11 hown hK hP 2 rfl rfl 14 (by decide) hf39 (fun _ h9 => h9) rfl dX11_judge_375 ?_
  refine lv_iconst (v := 4) hx hb dX11_judge_378 (by decide) ?_
  refine yy_iald (v := 1) hx hb hK hP 0 0 rfl rfl (yin (by decide)) dX11_judge_379 rfl ?_
  refine lv_if_ne (tgt := 391) hx hb dX11_judge_380 (by decide) (fun _ => ?_) (fun c => absurd c (by decide))
  refine lv_iconst (v := 0) hx hb dX11_judge_391 (by decide) ?_
  have hPc := hP.sub (ws' := [(a0, .inr (11, [.ref a1, .int 0, .int 0, .ref a2, .ref a3, .ref a4, .ref a5, .int 0, .ref a6, .ref a7, .ref a8, .int 0, .int 32, .int 0, .ref a9, .ref a10, .int 0, .int 0, .ref a11, .ref a12, .ref a13, .ref a14, .ref a15, .ref a16]))]) [2] rfl
  have hDc := hD.sub (ws' := [(a0, .inr (11, [.ref a1, .int 0, .int 0, .ref a2, .ref a3, .ref a4, .ref a5, .int 0, .ref a6, .ref a7, .ref a8, .int 0, .int 32, .int 0, .ref a9, .ref a10, .int 0, .int 0, .ref a11, .ref a12, .ref a13, .ref a14, .ref a15, .ref a16]))]) [2] (by decide) rfl
  refine yy_callv [2] [0, 1] (wr := [(a9, .inl (cyI, 15, .inl yR)), (a1, .inl (cyI, 2490, .inl (yz v0 1)))]) (va_runV (As := [.int 6, .int 0]) (rest := []) ⟨hx, hb, hml, hown, hts⟩ (r0_X11_find_101 l dC dI cyI cyZ cyO H.size a0 a1 a2 a3 a4 a5 a6 a7 a8 a9 a10 a11 a12 a13 a14 a15 a16 ) (cwV 2 hts gX11_judge_X11_find rfl rfl rfl (by decide +kernel) ⟨Nat.le_of_ble_eq_true rfl, Nat.le_of_ble_eq_true rfl⟩) (yPreV hK hPc hDc (ci := 11) (q0 := 0) rfl rfl) rfl rfl hl.1 rfl (lv_room (Nat.le_of_ble_eq_true rfl)) dX11_judge_392 ⟨Nat.le_of_ble_eq_true rfl, Nat.le_of_ble_eq_true rfl⟩) hP hD hS hA rfl rfl (by decide) (by decide) (fun u_20 H locs hw hP hD hS => ?_)
  have hP : va_P (dC, dI) vwCl [(a9, .inl (cyI, 15, .inl yR)), (a1, .inl (cyI, 2490, .inl (yz v0 1))), (a0, .inr (11, [.ref a1, .int 0, .int 0, .ref a2, .ref a3, .ref a4, .ref a5, .int 0, .ref a6, .ref a7, .ref a8, .int 0, .int 32, .int 0, .ref a9, .ref a10, .int 0, .int 0, .ref a11, .ref a12, .ref a13, .ref a14, .ref a15, .ref a16]))] H := hP
  have hD : va_D A [(a9, .inl (cyI, 15, .inl yR)), (a1, .inl (cyI, 2490, .inl (yz v0 1))), (a0, .inr (11, [.ref a1, .int 0, .int 0, .ref a2, .ref a3, .ref a4, .ref a5, .int 0, .ref a6, .ref a7, .ref a8, .int 0, .int 32, .int 0, .ref a9, .ref a10, .int 0, .int 0, .ref a11, .ref a12, .ref a13, .ref a14, .ref a15, .ref a16]))] := hD
  refine W.widen (k := 0) (n := 0) (Nat.le_of_ble_eq_true rfl) (Nat.le_of_ble_eq_true rfl) ?_
  refine lv_aload_n hx hb dX11_judge_395 rfl (lv_at hl 4 rfl) ?_
  refine va_get (D := (dC, dI)) (ci := 11) (v := .ref a1) (C := RX11) (T := TX11) (N := 24) hx hb hts hnX11 hown hK hP 2 rfl rfl 0 (by decide) hf7 (fun _ h9 => h9) rfl dX11_judge_396 ?_
  refine lv_sipush (v := 211) hx hb dX11_judge_399 (by decide) ?_
  refine lv_aload_n hx hb dX11_judge_402 rfl (lv_at hl 4 rfl) ?_
  refine va_get (D := (dC, dI)) (ci := 11) (v := .ref a9) (C := RX11) (T := TX11) (N := 24) hx hb hts hnX11 hown hK hP 2 rfl rfl 14 (by decide) hf39 (fun _ h9 => h9) rfl dX11_judge_403 ?_
  refine lv_iconst (v := 4) hx hb dX11_judge_406 (by decide) ?_
  refine yy_iald (v := 1) hx hb hK hP 0 0 rfl rfl (yin (by decide)) dX11_judge_407 rfl ?_
  refine lv_if_ne (tgt := 424) hx hb dX11_judge_408 (by decide) (fun _ => ?_) (fun c => absurd c (by decide))
  refine lv_iconst (v := 0) hx hb dX11_judge_424 (by decide) ?_
  refine yy_iast (f' := (yz v0 1)) hx hb hK hP hD hS 1 0 rfl rfl (yin (by decide)) dX11_judge_425 (yid rfl) (fun H locs hP hD hS => ?_)
  have hP : va_P (dC, dI) vwCl [(a9, .inl (cyI, 15, .inl yR)), (a1, .inl (cyI, 2490, .inl (yz v0 1))), (a0, .inr (11, [.ref a1, .int 0, .int 0, .ref a2, .ref a3, .ref a4, .ref a5, .int 0, .ref a6, .ref a7, .ref a8, .int 0, .int 32, .int 0, .ref a9, .ref a10, .int 0, .int 0, .ref a11, .ref a12, .ref a13, .ref a14, .ref a15, .ref a16]))] H := hP
  have hD : va_D A [(a9, .inl (cyI, 15, .inl yR)), (a1, .inl (cyI, 2490, .inl (yz v0 1))), (a0, .inr (11, [.ref a1, .int 0, .int 0, .ref a2, .ref a3, .ref a4, .ref a5, .int 0, .ref a6, .ref a7, .ref a8, .int 0, .int 32, .int 0, .ref a9, .ref a10, .int 0, .int 0, .ref a11, .ref a12, .ref a13, .ref a14, .ref a15, .ref a16]))] := hD
  refine lv_aload_n hx hb dX11_judge_426 rfl (lv_at hl 4 rfl) ?_
  refine lv_bipush (v := 7) hx hb dX11_judge_427 (by decide) ?_
  refine lv_aload_n hx hb dX11_judge_429 rfl (lv_at hl 4 rfl) ?_
  refine va_get (D := (dC, dI)) (ci := 11) (v := .ref a1) (C := RX11) (T := TX11) (N := 24) hx hb hts hnX11 hown hK hP 2 rfl rfl 0 (by decide) hf7 (fun _ h9 => h9) rfl dX11_judge_430 ?_
  refine lv_sipush (v := 211) hx hb dX11_judge_433 (by decide) ?_
  refine yy_iald (v := 0) hx hb hK hP 1 0 rfl rfl (yin (by decide)) dX11_judge_436 rfl ?_
  refine lv_bipush (v := 100) hx hb dX11_judge_437 (by decide) ?_
  refine lv_icmp_ne (tgt := 446) hx hb dX11_judge_439 (by decide) (fun _ => ?_) (fun c => absurd c (by decide))
  refine lv_iconst (v := 0) hx hb dX11_judge_446 (by decide) ?_
  have hPc := hP.sub (ws' := [(a0, .inr (11, [.ref a1, .int 0, .int 0, .ref a2, .ref a3, .ref a4, .ref a5, .int 0, .ref a6, .ref a7, .ref a8, .int 0, .int 32, .int 0, .ref a9, .ref a10, .int 0, .int 0, .ref a11, .ref a12, .ref a13, .ref a14, .ref a15, .ref a16]))]) [2] rfl
  have hDc := hD.sub (ws' := [(a0, .inr (11, [.ref a1, .int 0, .int 0, .ref a2, .ref a3, .ref a4, .ref a5, .int 0, .ref a6, .ref a7, .ref a8, .int 0, .int 32, .int 0, .ref a9, .ref a10, .int 0, .int 0, .ref a11, .ref a12, .ref a13, .ref a14, .ref a15, .ref a16]))]) [2] (by decide) rfl
  refine yy_callv [2] [0, 1] (wr := [(a9, .inl (cyI, 15, .inl yR)), (a1, .inl (cyI, 2490, .inl (yz v0 1)))]) (va_runV (As := [.int 7, .int 0]) (rest := []) ⟨hx, hb, hml, hown, hts⟩ (r0_X11_find_102 l dC dI cyI cyZ cyO H.size a0 a1 a2 a3 a4 a5 a6 a7 a8 a9 a10 a11 a12 a13 a14 a15 a16 ) (cwV 2 hts gX11_judge_X11_find rfl rfl rfl (by decide +kernel) ⟨Nat.le_of_ble_eq_true rfl, Nat.le_of_ble_eq_true rfl⟩) (yPreV hK hPc hDc (ci := 11) (q0 := 0) rfl rfl) rfl rfl hl.1 rfl (lv_room (Nat.le_of_ble_eq_true rfl)) dX11_judge_447 ⟨Nat.le_of_ble_eq_true rfl, Nat.le_of_ble_eq_true rfl⟩) hP hD hS hA rfl rfl (by decide) (by decide) (fun u_21 H locs hw hP hD hS => ?_)
  have hP : va_P (dC, dI) vwCl [(a9, .inl (cyI, 15, .inl yR)), (a1, .inl (cyI, 2490, .inl (yz v0 1))), (a0, .inr (11, [.ref a1, .int 0, .int 0, .ref a2, .ref a3, .ref a4, .ref a5, .int 0, .ref a6, .ref a7, .ref a8, .int 0, .int 32, .int 0, .ref a9, .ref a10, .int 0, .int 0, .ref a11, .ref a12, .ref a13, .ref a14, .ref a15, .ref a16]))] H := hP
  have hD : va_D A [(a9, .inl (cyI, 15, .inl yR)), (a1, .inl (cyI, 2490, .inl (yz v0 1))), (a0, .inr (11, [.ref a1, .int 0, .int 0, .ref a2, .ref a3, .ref a4, .ref a5, .int 0, .ref a6, .ref a7, .ref a8, .int 0, .int 32, .int 0, .ref a9, .ref a10, .int 0, .int 0, .ref a11, .ref a12, .ref a13, .ref a14, .ref a15, .ref a16]))] := hD
  refine W.widen (k := 0) (n := 0) (Nat.le_of_ble_eq_true rfl) (Nat.le_of_ble_eq_true rfl) ?_
  refine lv_aload_n hx hb dX11_judge_450 rfl (lv_at hl 4 rfl) ?_
  refine lv_iload_n hx hb dX11_judge_451 rfl (lv_at hl 3 rfl) ?_
  have hPc := hP.sub (ws' := [(a0, .inr (11, [.ref a1, .int 0, .int 0, .ref a2, .ref a3, .ref a4, .ref a5, .int 0, .ref a6, .ref a7, .ref a8, .int 0, .int 32, .int 0, .ref a9, .ref a10, .int 0, .int 0, .ref a11, .ref a12, .ref a13, .ref a14, .ref a15, .ref a16])), (a1, .inl (cyI, 2490, .inl (yz v0 1))), (a9, .inl (cyI, 15, .inl yR))]) [2, 1, 0] rfl
  have hDc := hD.sub (ws' := [(a0, .inr (11, [.ref a1, .int 0, .int 0, .ref a2, .ref a3, .ref a4, .ref a5, .int 0, .ref a6, .ref a7, .ref a8, .int 0, .int 32, .int 0, .ref a9, .ref a10, .int 0, .int 0, .ref a11, .ref a12, .ref a13, .ref a14, .ref a15, .ref a16])), (a1, .inl (cyI, 2490, .inl (yz v0 1))), (a9, .inl (cyI, 15, .inl yR))]) [2, 1, 0] (by decide) rfl
  refine yy_callv [2, 1, 0] [] (wr := []) (va_runV (As := [.int 1]) (rest := []) ⟨hx, hb, hml, hown, hts⟩ (rS_X11_judgeLower_141 l dC dI cyI cyZ cyO H.size a0 a1 a2 a3 a4 a5 a6 a7 a8 a9 a10 a11 a12 a13 a14 a15 a16 v0 ) (cwV 1 hts gX11_judge_X11_judgeLower rfl rfl rfl (by decide +kernel) ⟨Nat.le_of_ble_eq_true rfl, Nat.le_of_ble_eq_true rfl⟩) (yPreV hK hPc hDc (ci := 11) (q0 := 0) rfl rfl) rfl rfl hl.1 rfl (lv_room (Nat.le_of_ble_eq_true rfl)) dX11_judge_452 ⟨Nat.le_of_ble_eq_true rfl, Nat.le_of_ble_eq_true rfl⟩) hP hD hS hA rfl rfl (by decide) (by decide) (fun u_22 H locs hw hP hD hS => ?_)
  have hP : va_P (dC, dI) vwCl [(a0, .inr (11, [.ref a1, .int 0, .int 0, .ref a2, .ref a3, .ref a4, .ref a5, .int 0, .ref a6, .ref a7, .ref a8, .int 0, .int 32, .int 0, .ref a9, .ref a10, .int 0, .int 0, .ref a11, .ref a12, .ref a13, .ref a14, .ref a15, .ref a16])), (a1, .inl (cyI, 2490, .inl (yz v0 1))), (a9, .inl (cyI, 15, .inl yR))] H := hP
  have hD : va_D A [(a0, .inr (11, [.ref a1, .int 0, .int 0, .ref a2, .ref a3, .ref a4, .ref a5, .int 0, .ref a6, .ref a7, .ref a8, .int 0, .int 32, .int 0, .ref a9, .ref a10, .int 0, .int 0, .ref a11, .ref a12, .ref a13, .ref a14, .ref a15, .ref a16])), (a1, .inl (cyI, 2490, .inl (yz v0 1))), (a9, .inl (cyI, 15, .inl yR))] := hD
  refine W.widen (k := 0) (n := 0) (Nat.le_of_ble_eq_true rfl) (Nat.le_of_ble_eq_true rfl) ?_
  refine W.widen (k := 0) (n := 0) (Nat.le_of_ble_eq_true rfl) (Nat.le_of_ble_eq_true rfl) ?_
  exact yy_vret () hx hb hr hlk hsz hAe hK hP hD hS [0, 1, 2] rfl rfl (by decide) (trivial) dX11_judge_455
set_option maxHeartbeats 4000000 in
set_option maxRecDepth 100000 in
theorem rS_X11_beginNext_143 (l : Launch) (dC : Nat → ClassId) (dI : Nat → Nat → Nat) (cyI cyZ cyO : ClassId) (sz : Nat) (a0 : Nat) (a1 : Nat) (a2 : Nat) (a3 : Nat) (a4 : Nat) (a5 : Nat) (a6 : Nat) (a7 : Nat) (a8 : Nat) (a9 : Nat) (a10 : Nat) (a11 : Nat) (a12 : Nat) (a13 : Nat) (a14 : Nat) (a15 : Nat) (a16 : Nat) (v0 : Int32)  : Met l yX11_beginNext wsX11_beginNext ({ frames := 0, cells := 0, slots := 0, locals := 0 }) (yPre [.ref a0] (dC, dI) [(a0, .inr (11, [.ref a1, .int 0, .int 0, .ref a2, .ref a3, .ref a4, .ref a5, .int 0, .ref a6, .ref a7, .ref a8, .int 0, .int 32, .int 0, .ref a9, .ref a10, .int 0, .int 0, .ref a11, .ref a12, .ref a13, .ref a14, .ref a15, .ref a16])), (a1, .inl (cyI, 2490, .inl (yz v0 1)))] (yT cyI cyZ cyO) sz) (yQv (fun (u : Unit) => True) (dC, dI) [(a0, .inr (11, [.ref a1, .int 0, .int 0, .ref a2, .ref a3, .ref a4, .ref a5, .int 0, .ref a6, .ref a7, .ref a8, .int 0, .int 32, .int 0, .ref a9, .ref a10, .int 0, .int 0, .ref a11, .ref a12, .ref a13, .ref a14, .ref a15, .ref a16])), (a1, .inl (cyI, 2490, .inl (yz v0 1)))] (yT cyI cyZ cyO) sz (fun _ => [(a0, .inr (11, [.ref a1, .int 0, .int 0, .ref a2, .ref a3, .ref a4, .ref a5, .int 0, .ref a6, .ref a7, .ref a8, .int 0, .int 32, .int 0, .ref a9, .ref a10, .int 0, .int 0, .ref a11, .ref a12, .ref a13, .ref a14, .ref a15, .ref a16])), (a1, .inl (cyI, 2490, .inl (yz v0 1)))])) 0 0 (va_A [(a0, .inr (11, [.ref a1, .int 0, .int 0, .ref a2, .ref a3, .ref a4, .ref a5, .int 0, .ref a6, .ref a7, .ref a8, .int 0, .int 32, .int 0, .ref a9, .ref a10, .int 0, .int 0, .ref a11, .ref a12, .ref a13, .ref a14, .ref a15, .ref a16])), (a1, .inl (cyI, 2490, .inl (yz v0 1)))] sz) := by
  refine yMet (cc := cX11_beginNext) (maxL := 2) (ret := none) (by decide) rfl (Nat.le_of_ble_eq_true rfl) ?_
  intro p e s m below meth c A hx hb hr hlk hml hts hown hnm hsz hAe hP hK hD hA hS ls hl
  have hl : lv_has ls 2 [(0, .ref a0)] := hl
  have hf7 := hts (.fieldLink RX11 7 "BusBridgeModel" "z" "[I") (by decide +kernel)
  have hnX11 : ∀ w ∈ wsX110, w ∈ wsX11_beginNext := by decide +kernel
  refine lv_aload_n hx hb dX11_beginNext_0 rfl (lv_at hl 0 rfl) ?_
  refine va_get (D := (dC, dI)) (ci := 11) (v := .ref a1) (C := RX11) (T := TX11) (N := 24) hx hb hts hnX11 hown hK hP 0 rfl rfl 0 (by decide) hf7 (fun _ h9 => h9) rfl dX11_beginNext_1 ?_
  refine lv_sipush (v := 182) hx hb dX11_beginNext_4 (by decide) ?_
  refine yy_iald (v := 0) hx hb hK hP 1 0 rfl rfl (yin (by decide)) dX11_beginNext_7 rfl ?_
  refine lv_istore_n (lv' := [(1, .int 0), (0, .ref a0)]) hx hb dX11_beginNext_8 rfl hl (by decide) rfl (fun ls hl => ?_)
  refine lv_iload_n hx hb dX11_beginNext_9 rfl (lv_at hl 0 rfl) ?_
  refine lv_aload_n hx hb dX11_beginNext_10 rfl (lv_at hl 1 rfl) ?_
  refine va_get (D := (dC, dI)) (ci := 11) (v := .ref a1) (C := RX11) (T := TX11) (N := 24) hx hb hts hnX11 hown hK hP 0 rfl rfl 0 (by decide) hf7 (fun _ h9 => h9) rfl dX11_beginNext_11 ?_
  refine lv_sipush (v := 212) hx hb dX11_beginNext_14 (by decide) ?_
  refine yy_iald (v := 0) hx hb hK hP 1 0 rfl rfl (yin (by decide)) dX11_beginNext_17 rfl ?_
  refine lv_icmp_lt (tgt := 22) hx hb dX11_beginNext_18 (by decide) (fun c => absurd c (by decide)) (fun _ => ?_)
  refine W.widen (k := 0) (n := 0) (Nat.le_of_ble_eq_true rfl) (Nat.le_of_ble_eq_true rfl) ?_
  exact yy_vret () hx hb hr hlk hsz hAe hK hP hD hS [0, 1] rfl rfl (by decide) (trivial) dX11_beginNext_21
set_option maxHeartbeats 4000000 in
set_option maxRecDepth 100000 in
theorem rS_X11_master_144 (l : Launch) (dC : Nat → ClassId) (dI : Nat → Nat → Nat) (cyI cyZ cyO : ClassId) (sz : Nat) (a0 : Nat) (a1 : Nat) (a2 : Nat) (a3 : Nat) (a4 : Nat) (a5 : Nat) (a6 : Nat) (a7 : Nat) (a8 : Nat) (a9 : Nat) (a10 : Nat) (a11 : Nat) (a12 : Nat) (a13 : Nat) (a14 : Nat) (a15 : Nat) (a16 : Nat) (v0 : Int32)  : Met l yX11_master wsX11_master ({ frames := 1, cells := 0, slots := 0, locals := 21 }) (yPre [.ref a0] (dC, dI) [(a0, .inr (11, [.ref a1, .int 0, .int 0, .ref a2, .ref a3, .ref a4, .ref a5, .int 0, .ref a6, .ref a7, .ref a8, .int 0, .int 32, .int 0, .ref a9, .ref a10, .int 0, .int 0, .ref a11, .ref a12, .ref a13, .ref a14, .ref a15, .ref a16])), (a1, .inl (cyI, 2490, .inl (yz v0 1))), (a9, .inl (cyI, 15, .inl yR)), (a10, .inl (cyI, 15, .inl yR))] (yT cyI cyZ cyO) sz) (yQv (fun (u : Unit) => True) (dC, dI) [(a0, .inr (11, [.ref a1, .int 0, .int 0, .ref a2, .ref a3, .ref a4, .ref a5, .int 0, .ref a6, .ref a7, .ref a8, .int 0, .int 32, .int 0, .ref a9, .ref a10, .int 0, .int 0, .ref a11, .ref a12, .ref a13, .ref a14, .ref a15, .ref a16])), (a1, .inl (cyI, 2490, .inl (yz v0 1))), (a9, .inl (cyI, 15, .inl yR)), (a10, .inl (cyI, 15, .inl yR))] (yT cyI cyZ cyO) sz (fun _ => [(a0, .inr (11, [.ref a1, .int 0, .int 0, .ref a2, .ref a3, .ref a4, .ref a5, .int 0, .ref a6, .ref a7, .ref a8, .int 0, .int 32, .int 0, .ref a9, .ref a10, .int 0, .int 0, .ref a11, .ref a12, .ref a13, .ref a14, .ref a15, .ref a16])), (a1, .inl (cyI, 2490, .inl (yz v0 1))), (a9, .inl (cyI, 15, .inl yR)), (a10, .inl (cyI, 15, .inl yR))])) 0 0 (va_A [(a0, .inr (11, [.ref a1, .int 0, .int 0, .ref a2, .ref a3, .ref a4, .ref a5, .int 0, .ref a6, .ref a7, .ref a8, .int 0, .int 32, .int 0, .ref a9, .ref a10, .int 0, .int 0, .ref a11, .ref a12, .ref a13, .ref a14, .ref a15, .ref a16])), (a1, .inl (cyI, 2490, .inl (yz v0 1))), (a9, .inl (cyI, 15, .inl yR)), (a10, .inl (cyI, 15, .inl yR))] sz) := by
  refine yMet (cc := cX11_master) (maxL := 2) (ret := none) (by decide) rfl (Nat.le_of_ble_eq_true rfl) ?_
  intro p e s m below meth c A hx hb hr hlk hml hts hown hnm hsz hAe hP hK hD hA hS ls hl
  have hl : lv_has ls 2 [(0, .ref a0)] := hl
  have hf39 := hts (.fieldLink RX11 39 "BusBridgeModel" "see" "[I") (by decide +kernel)
  have hf42 := hts (.fieldLink RX11 42 "BusBridgeModel" "set" "[I") (by decide +kernel)
  have hf7 := hts (.fieldLink RX11 7 "BusBridgeModel" "z" "[I") (by decide +kernel)
  have hnX11 : ∀ w ∈ wsX110, w ∈ wsX11_master := by decide +kernel
  refine lv_aload_n hx hb dX11_master_0 rfl (lv_at hl 0 rfl) ?_
  refine va_get (D := (dC, dI)) (ci := 11) (v := .ref a9) (C := RX11) (T := TX11) (N := 24) hx hb hts hnX11 hown hK hP 0 rfl rfl 14 (by decide) hf39 (fun _ h9 => h9) rfl dX11_master_1 ?_
  refine lv_iconst (v := 4) hx hb dX11_master_4 (by decide) ?_
  refine yy_iald (v := 1) hx hb hK hP 2 0 rfl rfl (yin (by decide)) dX11_master_5 rfl ?_
  refine lv_if_eq (tgt := 184) hx hb dX11_master_6 (by decide) (fun c => absurd c (by decide)) (fun _ => ?_)
  refine lv_aload_n hx hb dX11_master_9 rfl (lv_at hl 0 rfl) ?_
  refine va_get (D := (dC, dI)) (ci := 11) (v := .ref a1) (C := RX11) (T := TX11) (N := 24) hx hb hts hnX11 hown hK hP 0 rfl rfl 0 (by decide) hf7 (fun _ h9 => h9) rfl dX11_master_10 ?_
  refine lv_sipush (v := 181) hx hb dX11_master_13 (by decide) ?_
  refine yy_iald (v := (-1)) hx hb hK hP 1 0 rfl rfl (yin (by decide)) dX11_master_16 rfl ?_
  refine lv_istore_n (lv' := [(1, .int (-1)), (0, .ref a0)]) hx hb dX11_master_17 rfl hl (by decide) rfl (fun ls hl => ?_)
  refine lv_iload_n hx hb dX11_master_18 rfl (lv_at hl 0 rfl) ?_
  refine lv_if_lt (tgt := 86) hx hb dX11_master_19 (by decide) (fun _ => ?_) (fun c => absurd (by decide) c)
  refine lv_aload_n hx hb dX11_master_86 rfl (lv_at hl 1 rfl) ?_
  refine va_get (D := (dC, dI)) (ci := 11) (v := .ref a1) (C := RX11) (T := TX11) (N := 24) hx hb hts hnX11 hown hK hP 0 rfl rfl 0 (by decide) hf7 (fun _ h9 => h9) rfl dX11_master_87 ?_
  refine lv_sipush (v := 180) hx hb dX11_master_90 (by decide) ?_
  refine yy_iald (v := (-1)) hx hb hK hP 1 0 rfl rfl (yin (by decide)) dX11_master_93 rfl ?_
  refine lv_istore_n (lv' := [(1, .int (-1)), (0, .ref a0)]) hx hb dX11_master_94 rfl hl (by decide) rfl (fun ls hl => ?_)
  refine lv_aload_n hx hb dX11_master_95 rfl (lv_at hl 1 rfl) ?_
  refine va_get (D := (dC, dI)) (ci := 11) (v := .ref a1) (C := RX11) (T := TX11) (N := 24) hx hb hts hnX11 hown hK hP 0 rfl rfl 0 (by decide) hf7 (fun _ h9 => h9) rfl dX11_master_96 ?_
  refine lv_sipush (v := 181) hx hb dX11_master_99 (by decide) ?_
  refine lv_iload_n hx hb dX11_master_102 rfl (lv_at hl 0 rfl) ?_
  refine yy_iast (f' := (yz v0 1)) hx hb hK hP hD hS 1 0 rfl rfl (yin (by decide)) dX11_master_103 (yid rfl) (fun H locs hP hD hS => ?_)
  have hP : va_P (dC, dI) vwCl [(a0, .inr (11, [.ref a1, .int 0, .int 0, .ref a2, .ref a3, .ref a4, .ref a5, .int 0, .ref a6, .ref a7, .ref a8, .int 0, .int 32, .int 0, .ref a9, .ref a10, .int 0, .int 0, .ref a11, .ref a12, .ref a13, .ref a14, .ref a15, .ref a16])), (a1, .inl (cyI, 2490, .inl (yz v0 1))), (a9, .inl (cyI, 15, .inl yR)), (a10, .inl (cyI, 15, .inl yR))] H := hP
  have hD : va_D A [(a0, .inr (11, [.ref a1, .int 0, .int 0, .ref a2, .ref a3, .ref a4, .ref a5, .int 0, .ref a6, .ref a7, .ref a8, .int 0, .int 32, .int 0, .ref a9, .ref a10, .int 0, .int 0, .ref a11, .ref a12, .ref a13, .ref a14, .ref a15, .ref a16])), (a1, .inl (cyI, 2490, .inl (yz v0 1))), (a9, .inl (cyI, 15, .inl yR)), (a10, .inl (cyI, 15, .inl yR))] := hD
  refine lv_iload_n hx hb dX11_master_104 rfl (lv_at hl 0 rfl) ?_
  refine lv_if_lt (tgt := 161) hx hb dX11_master_105 (by decide) (fun _ => ?_) (fun c => absurd (by decide) c)
  refine lv_aload_n hx hb dX11_master_161 rfl (lv_at hl 1 rfl) ?_
  refine va_get (D := (dC, dI)) (ci := 11) (v := .ref a1) (C := RX11) (T := TX11) (N := 24) hx hb hts hnX11 hown hK hP 0 rfl rfl 0 (by decide) hf7 (fun _ h9 => h9) rfl dX11_master_162 ?_
  refine lv_sipush (v := 180) hx hb dX11_master_165 (by decide) ?_
  refine lv_iconst (v := (-1)) hx hb dX11_master_168 (by decide) ?_
  refine yy_iast (f' := (yz v0 1)) hx hb hK hP hD hS 1 0 rfl rfl (yin (by decide)) dX11_master_169 (yid rfl) (fun H locs hP hD hS => ?_)
  have hP : va_P (dC, dI) vwCl [(a0, .inr (11, [.ref a1, .int 0, .int 0, .ref a2, .ref a3, .ref a4, .ref a5, .int 0, .ref a6, .ref a7, .ref a8, .int 0, .int 32, .int 0, .ref a9, .ref a10, .int 0, .int 0, .ref a11, .ref a12, .ref a13, .ref a14, .ref a15, .ref a16])), (a1, .inl (cyI, 2490, .inl (yz v0 1))), (a9, .inl (cyI, 15, .inl yR)), (a10, .inl (cyI, 15, .inl yR))] H := hP
  have hD : va_D A [(a0, .inr (11, [.ref a1, .int 0, .int 0, .ref a2, .ref a3, .ref a4, .ref a5, .int 0, .ref a6, .ref a7, .ref a8, .int 0, .int 32, .int 0, .ref a9, .ref a10, .int 0, .int 0, .ref a11, .ref a12, .ref a13, .ref a14, .ref a15, .ref a16])), (a1, .inl (cyI, 2490, .inl (yz v0 1))), (a9, .inl (cyI, 15, .inl yR)), (a10, .inl (cyI, 15, .inl yR))] := hD
  refine lv_aload_n hx hb dX11_master_170 rfl (lv_at hl 1 rfl) ?_
  refine va_get (D := (dC, dI)) (ci := 11) (v := .ref a10) (C := RX11) (T := TX11) (N := 24) hx hb hts hnX11 hown hK hP 0 rfl rfl 15 (by decide) hf42 (fun _ h9 => h9) rfl dX11_master_171 ?_
  refine lv_iconst (v := 2) hx hb dX11_master_174 (by decide) ?_
  refine lv_iconst (v := 0) hx hb dX11_master_175 (by decide) ?_
  refine yy_iast (f' := yR) hx hb hK hP hD hS 3 0 rfl rfl (yin (by decide)) dX11_master_176 (yid rfl) (fun H locs hP hD hS => ?_)
  have hP : va_P (dC, dI) vwCl [(a0, .inr (11, [.ref a1, .int 0, .int 0, .ref a2, .ref a3, .ref a4, .ref a5, .int 0, .ref a6, .ref a7, .ref a8, .int 0, .int 32, .int 0, .ref a9, .ref a10, .int 0, .int 0, .ref a11, .ref a12, .ref a13, .ref a14, .ref a15, .ref a16])), (a1, .inl (cyI, 2490, .inl (yz v0 1))), (a9, .inl (cyI, 15, .inl yR)), (a10, .inl (cyI, 15, .inl yR))] H := hP
  have hD : va_D A [(a0, .inr (11, [.ref a1, .int 0, .int 0, .ref a2, .ref a3, .ref a4, .ref a5, .int 0, .ref a6, .ref a7, .ref a8, .int 0, .int 32, .int 0, .ref a9, .ref a10, .int 0, .int 0, .ref a11, .ref a12, .ref a13, .ref a14, .ref a15, .ref a16])), (a1, .inl (cyI, 2490, .inl (yz v0 1))), (a9, .inl (cyI, 15, .inl yR)), (a10, .inl (cyI, 15, .inl yR))] := hD
  refine lv_aload_n hx hb dX11_master_177 rfl (lv_at hl 1 rfl) ?_
  have hPc := hP.sub (ws' := [(a0, .inr (11, [.ref a1, .int 0, .int 0, .ref a2, .ref a3, .ref a4, .ref a5, .int 0, .ref a6, .ref a7, .ref a8, .int 0, .int 32, .int 0, .ref a9, .ref a10, .int 0, .int 0, .ref a11, .ref a12, .ref a13, .ref a14, .ref a15, .ref a16])), (a1, .inl (cyI, 2490, .inl (yz v0 1)))]) [0, 1] rfl
  have hDc := hD.sub (ws' := [(a0, .inr (11, [.ref a1, .int 0, .int 0, .ref a2, .ref a3, .ref a4, .ref a5, .int 0, .ref a6, .ref a7, .ref a8, .int 0, .int 32, .int 0, .ref a9, .ref a10, .int 0, .int 0, .ref a11, .ref a12, .ref a13, .ref a14, .ref a15, .ref a16])), (a1, .inl (cyI, 2490, .inl (yz v0 1)))]) [0, 1] (by decide) rfl
  refine yy_callv [0, 1] [2, 3] (wr := [(a9, .inl (cyI, 15, .inl yR)), (a10, .inl (cyI, 15, .inl yR))]) (va_runV (As := []) (rest := []) ⟨hx, hb, hml, hown, hts⟩ (rS_X11_beginNext_143 l dC dI cyI cyZ cyO H.size a0 a1 a2 a3 a4 a5 a6 a7 a8 a9 a10 a11 a12 a13 a14 a15 a16 v0 ) (cwV 0 hts gX11_master_X11_beginNext rfl rfl rfl (by decide +kernel) ⟨Nat.le_of_ble_eq_true rfl, Nat.le_of_ble_eq_true rfl⟩) (yPreV hK hPc hDc (ci := 11) (q0 := 0) rfl rfl) rfl rfl hl.1 rfl (lv_room (Nat.le_of_ble_eq_true rfl)) dX11_master_178 ⟨Nat.le_of_ble_eq_true rfl, Nat.le_of_ble_eq_true rfl⟩) hP hD hS hA rfl rfl (by decide) (by decide) (fun u_1 H locs hw hP hD hS => ?_)
  have hP : va_P (dC, dI) vwCl [(a9, .inl (cyI, 15, .inl yR)), (a10, .inl (cyI, 15, .inl yR)), (a0, .inr (11, [.ref a1, .int 0, .int 0, .ref a2, .ref a3, .ref a4, .ref a5, .int 0, .ref a6, .ref a7, .ref a8, .int 0, .int 32, .int 0, .ref a9, .ref a10, .int 0, .int 0, .ref a11, .ref a12, .ref a13, .ref a14, .ref a15, .ref a16])), (a1, .inl (cyI, 2490, .inl (yz v0 1)))] H := hP
  have hD : va_D A [(a9, .inl (cyI, 15, .inl yR)), (a10, .inl (cyI, 15, .inl yR)), (a0, .inr (11, [.ref a1, .int 0, .int 0, .ref a2, .ref a3, .ref a4, .ref a5, .int 0, .ref a6, .ref a7, .ref a8, .int 0, .int 32, .int 0, .ref a9, .ref a10, .int 0, .int 0, .ref a11, .ref a12, .ref a13, .ref a14, .ref a15, .ref a16])), (a1, .inl (cyI, 2490, .inl (yz v0 1)))] := hD
  refine W.widen (k := 0) (n := 0) (Nat.le_of_ble_eq_true rfl) (Nat.le_of_ble_eq_true rfl) ?_
  refine lv_goto (tgt := 319) hx hb dX11_master_181 (by decide) ?_
  refine W.widen (k := 0) (n := 0) (Nat.le_of_ble_eq_true rfl) (Nat.le_of_ble_eq_true rfl) ?_
  exact yy_vret () hx hb hr hlk hsz hAe hK hP hD hS [2, 3, 0, 1] rfl rfl (by decide) (trivial) dX11_master_319
set_option maxHeartbeats 4000000 in
set_option maxRecDepth 100000 in
theorem rS_X11_lower_145 (l : Launch) (dC : Nat → ClassId) (dI : Nat → Nat → Nat) (cyI cyZ cyO : ClassId) (sz : Nat) (a0 : Nat) (a1 : Nat) (a2 : Nat) (a3 : Nat) (a4 : Nat) (a5 : Nat) (a6 : Nat) (a7 : Nat) (a8 : Nat) (a9 : Nat) (a10 : Nat) (a11 : Nat) (a12 : Nat) (a13 : Nat) (a14 : Nat) (a15 : Nat) (a16 : Nat) (v0 : Int32)  : Met l yX11_lower wsX11_lower ({ frames := 0, cells := 0, slots := 0, locals := 0 }) (yPre [.ref a0] (dC, dI) [(a0, .inr (11, [.ref a1, .int 0, .int 0, .ref a2, .ref a3, .ref a4, .ref a5, .int 0, .ref a6, .ref a7, .ref a8, .int 0, .int 32, .int 0, .ref a9, .ref a10, .int 0, .int 0, .ref a11, .ref a12, .ref a13, .ref a14, .ref a15, .ref a16])), (a1, .inl (cyI, 2490, .inl (yz v0 1)))] (yT cyI cyZ cyO) sz) (yQv (fun (u : Unit) => True) (dC, dI) [(a0, .inr (11, [.ref a1, .int 0, .int 0, .ref a2, .ref a3, .ref a4, .ref a5, .int 0, .ref a6, .ref a7, .ref a8, .int 0, .int 32, .int 0, .ref a9, .ref a10, .int 0, .int 0, .ref a11, .ref a12, .ref a13, .ref a14, .ref a15, .ref a16])), (a1, .inl (cyI, 2490, .inl (yz v0 1)))] (yT cyI cyZ cyO) sz (fun _ => [(a0, .inr (11, [.ref a1, .int 0, .int 0, .ref a2, .ref a3, .ref a4, .ref a5, .int 0, .ref a6, .ref a7, .ref a8, .int 0, .int 32, .int 0, .ref a9, .ref a10, .int 0, .int 0, .ref a11, .ref a12, .ref a13, .ref a14, .ref a15, .ref a16])), (a1, .inl (cyI, 2490, .inl (yz v0 1)))])) 0 0 (va_A [(a0, .inr (11, [.ref a1, .int 0, .int 0, .ref a2, .ref a3, .ref a4, .ref a5, .int 0, .ref a6, .ref a7, .ref a8, .int 0, .int 32, .int 0, .ref a9, .ref a10, .int 0, .int 0, .ref a11, .ref a12, .ref a13, .ref a14, .ref a15, .ref a16])), (a1, .inl (cyI, 2490, .inl (yz v0 1)))] sz) := by
  refine yMet (cc := cX11_lower) (maxL := 1) (ret := none) (by decide) rfl (Nat.le_of_ble_eq_true rfl) ?_
  intro p e s m below meth c A hx hb hr hlk hml hts hown hnm hsz hAe hP hK hD hA hS ls hl
  have hl : lv_has ls 1 [(0, .ref a0)] := hl
  have hf7 := hts (.fieldLink RX11 7 "BusBridgeModel" "z" "[I") (by decide +kernel)
  have hnX11 : ∀ w ∈ wsX110, w ∈ wsX11_lower := by decide +kernel
  refine lv_aload_n hx hb dX11_lower_0 rfl (lv_at hl 0 rfl) ?_
  refine va_get (D := (dC, dI)) (ci := 11) (v := .ref a1) (C := RX11) (T := TX11) (N := 24) hx hb hts hnX11 hown hK hP 0 rfl rfl 0 (by decide) hf7 (fun _ h9 => h9) rfl dX11_lower_1 ?_
  refine lv_sipush (v := 201) hx hb dX11_lower_4 (by decide) ?_
  refine yy_iald (v := 0) hx hb hK hP 1 0 rfl rfl (yin (by decide)) dX11_lower_7 rfl ?_
  refine lv_iconst (v := 1) hx hb dX11_lower_8 (by decide) ?_
  refine lv_icmp_ne (tgt := 41) hx hb dX11_lower_9 (by decide) (fun _ => ?_) (fun c => absurd c (by decide))
  refine lv_aload_n hx hb dX11_lower_41 rfl (lv_at hl 0 rfl) ?_
  refine va_get (D := (dC, dI)) (ci := 11) (v := .ref a1) (C := RX11) (T := TX11) (N := 24) hx hb hts hnX11 hown hK hP 0 rfl rfl 0 (by decide) hf7 (fun _ h9 => h9) rfl dX11_lower_42 ?_
  refine lv_sipush (v := 201) hx hb dX11_lower_45 (by decide) ?_
  refine yy_iald (v := 0) hx hb hK hP 1 0 rfl rfl (yin (by decide)) dX11_lower_48 rfl ?_
  refine lv_iconst (v := 2) hx hb dX11_lower_49 (by decide) ?_
  refine lv_icmp_ne (tgt := 129) hx hb dX11_lower_50 (by decide) (fun _ => ?_) (fun c => absurd c (by decide))
  refine W.widen (k := 0) (n := 0) (Nat.le_of_ble_eq_true rfl) (Nat.le_of_ble_eq_true rfl) ?_
  exact yy_vret () hx hb hr hlk hsz hAe hK hP hD hS [0, 1] rfl rfl (by decide) (trivial) dX11_lower_129
set_option maxHeartbeats 4000000 in
set_option maxRecDepth 100000 in
theorem rS_X11_takeCase_146 (l : Launch) (dC : Nat → ClassId) (dI : Nat → Nat → Nat) (cyI cyZ cyO : ClassId) (sz : Nat) (a0 : Nat) (a1 : Nat) (a2 : Nat) (a3 : Nat) (a4 : Nat) (a5 : Nat) (a6 : Nat) (a7 : Nat) (a8 : Nat) (a9 : Nat) (a10 : Nat) (a11 : Nat) (a12 : Nat) (a13 : Nat) (a14 : Nat) (a15 : Nat) (a16 : Nat) (v0 : Int32)  : Met l yX11_takeCase wsX11_takeCase ({ frames := 0, cells := 0, slots := 0, locals := 0 }) (yPre [.ref a0] (dC, dI) [(a0, .inr (11, [.ref a1, .int 0, .int 0, .ref a2, .ref a3, .ref a4, .ref a5, .int 0, .ref a6, .ref a7, .ref a8, .int 0, .int 32, .int 0, .ref a9, .ref a10, .int 0, .int 0, .ref a11, .ref a12, .ref a13, .ref a14, .ref a15, .ref a16])), (a1, .inl (cyI, 2490, .inl (yz v0 1))), (a9, .inl (cyI, 15, .inl yR))] (yT cyI cyZ cyO) sz) (yQv (fun (u : Unit) => True) (dC, dI) [(a0, .inr (11, [.ref a1, .int 0, .int 0, .ref a2, .ref a3, .ref a4, .ref a5, .int 0, .ref a6, .ref a7, .ref a8, .int 0, .int 32, .int 0, .ref a9, .ref a10, .int 0, .int 0, .ref a11, .ref a12, .ref a13, .ref a14, .ref a15, .ref a16])), (a1, .inl (cyI, 2490, .inl (yz v0 1))), (a9, .inl (cyI, 15, .inl yR))] (yT cyI cyZ cyO) sz (fun _ => [(a0, .inr (11, [.ref a1, .int 0, .int 0, .ref a2, .ref a3, .ref a4, .ref a5, .int 0, .ref a6, .ref a7, .ref a8, .int 0, .int 32, .int 0, .ref a9, .ref a10, .int 0, .int 0, .ref a11, .ref a12, .ref a13, .ref a14, .ref a15, .ref a16])), (a1, .inl (cyI, 2490, .inl (yz v0 1))), (a9, .inl (cyI, 15, .inl yR))])) 0 0 (va_A [(a0, .inr (11, [.ref a1, .int 0, .int 0, .ref a2, .ref a3, .ref a4, .ref a5, .int 0, .ref a6, .ref a7, .ref a8, .int 0, .int 32, .int 0, .ref a9, .ref a10, .int 0, .int 0, .ref a11, .ref a12, .ref a13, .ref a14, .ref a15, .ref a16])), (a1, .inl (cyI, 2490, .inl (yz v0 1))), (a9, .inl (cyI, 15, .inl yR))] sz) := by
  refine yMet (cc := cX11_takeCase) (maxL := 1) (ret := none) (by decide) rfl (Nat.le_of_ble_eq_true rfl) ?_
  intro p e s m below meth c A hx hb hr hlk hml hts hown hnm hsz hAe hP hK hD hA hS ls hl
  have hl : lv_has ls 1 [(0, .ref a0)] := hl
  have hf39 := hts (.fieldLink RX11 39 "BusBridgeModel" "see" "[I") (by decide +kernel)
  have hf7 := hts (.fieldLink RX11 7 "BusBridgeModel" "z" "[I") (by decide +kernel)
  have hnX11 : ∀ w ∈ wsX110, w ∈ wsX11_takeCase := by decide +kernel
  refine lv_aload_n hx hb dX11_takeCase_0 rfl (lv_at hl 0 rfl) ?_
  refine va_get (D := (dC, dI)) (ci := 11) (v := .ref a9) (C := RX11) (T := TX11) (N := 24) hx hb hts hnX11 hown hK hP 0 rfl rfl 14 (by decide) hf39 (fun _ h9 => h9) rfl dX11_takeCase_1 ?_
  refine lv_iconst (v := 2) hx hb dX11_takeCase_4 (by decide) ?_
  refine yy_iald (v := 0) hx hb hK hP 2 0 rfl rfl (yin (by decide)) dX11_takeCase_5 rfl ?_
  refine lv_iconst (v := 2) hx hb dX11_takeCase_6 (by decide) ?_
  refine lv_icmp_eq (tgt := 30) hx hb dX11_takeCase_7 (by decide) (fun c => absurd c (by decide)) (fun _ => ?_)
  refine lv_aload_n hx hb dX11_takeCase_10 rfl (lv_at hl 0 rfl) ?_
  refine va_get (D := (dC, dI)) (ci := 11) (v := .ref a9) (C := RX11) (T := TX11) (N := 24) hx hb hts hnX11 hown hK hP 0 rfl rfl 14 (by decide) hf39 (fun _ h9 => h9) rfl dX11_takeCase_11 ?_
  refine lv_iconst (v := 2) hx hb dX11_takeCase_14 (by decide) ?_
  refine yy_iald (v := 0) hx hb hK hP 2 0 rfl rfl (yin (by decide)) dX11_takeCase_15 rfl ?_
  refine lv_iconst (v := 3) hx hb dX11_takeCase_16 (by decide) ?_
  refine lv_icmp_eq (tgt := 30) hx hb dX11_takeCase_17 (by decide) (fun c => absurd c (by decide)) (fun _ => ?_)
  refine lv_aload_n hx hb dX11_takeCase_20 rfl (lv_at hl 0 rfl) ?_
  refine va_get (D := (dC, dI)) (ci := 11) (v := .ref a1) (C := RX11) (T := TX11) (N := 24) hx hb hts hnX11 hown hK hP 0 rfl rfl 0 (by decide) hf7 (fun _ h9 => h9) rfl dX11_takeCase_21 ?_
  refine lv_sipush (v := 184) hx hb dX11_takeCase_24 (by decide) ?_
  refine lv_iconst (v := 0) hx hb dX11_takeCase_27 (by decide) ?_
  refine yy_iast (f' := (yz v0 1)) hx hb hK hP hD hS 1 0 rfl rfl (yin (by decide)) dX11_takeCase_28 (yid rfl) (fun H locs hP hD hS => ?_)
  have hP : va_P (dC, dI) vwCl [(a0, .inr (11, [.ref a1, .int 0, .int 0, .ref a2, .ref a3, .ref a4, .ref a5, .int 0, .ref a6, .ref a7, .ref a8, .int 0, .int 32, .int 0, .ref a9, .ref a10, .int 0, .int 0, .ref a11, .ref a12, .ref a13, .ref a14, .ref a15, .ref a16])), (a1, .inl (cyI, 2490, .inl (yz v0 1))), (a9, .inl (cyI, 15, .inl yR))] H := hP
  have hD : va_D A [(a0, .inr (11, [.ref a1, .int 0, .int 0, .ref a2, .ref a3, .ref a4, .ref a5, .int 0, .ref a6, .ref a7, .ref a8, .int 0, .int 32, .int 0, .ref a9, .ref a10, .int 0, .int 0, .ref a11, .ref a12, .ref a13, .ref a14, .ref a15, .ref a16])), (a1, .inl (cyI, 2490, .inl (yz v0 1))), (a9, .inl (cyI, 15, .inl yR))] := hD
  refine W.widen (k := 0) (n := 0) (Nat.le_of_ble_eq_true rfl) (Nat.le_of_ble_eq_true rfl) ?_
  exact yy_vret () hx hb hr hlk hsz hAe hK hP hD hS [0, 1, 2] rfl rfl (by decide) (trivial) dX11_takeCase_29
set_option maxHeartbeats 4000000 in
set_option maxRecDepth 100000 in
theorem rS_X11_bridge_147 (l : Launch) (dC : Nat → ClassId) (dI : Nat → Nat → Nat) (cyI cyZ cyO : ClassId) (sz : Nat) (a0 : Nat) (a1 : Nat) (a2 : Nat) (a3 : Nat) (a4 : Nat) (a5 : Nat) (a6 : Nat) (a7 : Nat) (a8 : Nat) (a9 : Nat) (a10 : Nat) (a11 : Nat) (a12 : Nat) (a13 : Nat) (a14 : Nat) (a15 : Nat) (a16 : Nat) (v0 : Int32)  : Met l yX11_bridge wsX11_bridge ({ frames := 1, cells := 0, slots := 0, locals := 25 }) (yPre [.ref a0] (dC, dI) [(a0, .inr (11, [.ref a1, .int 0, .int 0, .ref a2, .ref a3, .ref a4, .ref a5, .int 0, .ref a6, .ref a7, .ref a8, .int 0, .int 32, .int 0, .ref a9, .ref a10, .int 0, .int 0, .ref a11, .ref a12, .ref a13, .ref a14, .ref a15, .ref a16])), (a1, .inl (cyI, 2490, .inl (yz v0 1))), (a9, .inl (cyI, 15, .inl yR)), (a10, .inl (cyI, 15, .inl yR))] (yT cyI cyZ cyO) sz) (yQv (fun (u : Unit) => True) (dC, dI) [(a0, .inr (11, [.ref a1, .int 0, .int 0, .ref a2, .ref a3, .ref a4, .ref a5, .int 0, .ref a6, .ref a7, .ref a8, .int 0, .int 32, .int 0, .ref a9, .ref a10, .int 0, .int 0, .ref a11, .ref a12, .ref a13, .ref a14, .ref a15, .ref a16])), (a1, .inl (cyI, 2490, .inl (yz v0 1))), (a9, .inl (cyI, 15, .inl yR)), (a10, .inl (cyI, 15, .inl yR))] (yT cyI cyZ cyO) sz (fun _ => [(a0, .inr (11, [.ref a1, .int 0, .int 0, .ref a2, .ref a3, .ref a4, .ref a5, .int 0, .ref a6, .ref a7, .ref a8, .int 0, .int 32, .int 0, .ref a9, .ref a10, .int 0, .int 0, .ref a11, .ref a12, .ref a13, .ref a14, .ref a15, .ref a16])), (a1, .inl (cyI, 2490, .inl (yz v0 1))), (a9, .inl (cyI, 15, .inl yR)), (a10, .inl (cyI, 15, .inl yR))])) 0 0 (va_A [(a0, .inr (11, [.ref a1, .int 0, .int 0, .ref a2, .ref a3, .ref a4, .ref a5, .int 0, .ref a6, .ref a7, .ref a8, .int 0, .int 32, .int 0, .ref a9, .ref a10, .int 0, .int 0, .ref a11, .ref a12, .ref a13, .ref a14, .ref a15, .ref a16])), (a1, .inl (cyI, 2490, .inl (yz v0 1))), (a9, .inl (cyI, 15, .inl yR)), (a10, .inl (cyI, 15, .inl yR))] sz) := by
  refine yMet (cc := cX11_bridge) (maxL := 2) (ret := none) (by decide) rfl (Nat.le_of_ble_eq_true rfl) ?_
  intro p e s m below meth c A hx hb hr hlk hml hts hown hnm hsz hAe hP hK hD hA hS ls hl
  have hl : lv_has ls 2 [(0, .ref a0)] := hl
  have hf42 := hts (.fieldLink RX11 42 "BusBridgeModel" "set" "[I") (by decide +kernel)
  have hf7 := hts (.fieldLink RX11 7 "BusBridgeModel" "z" "[I") (by decide +kernel)
  have hl109 := hts (.constantLong RX11 109 4) (by decide +kernel)
  have hl118 := hts (.constantLong RX11 118 2) (by decide +kernel)
  have hnX11 : ∀ w ∈ wsX110, w ∈ wsX11_bridge := by decide +kernel
  refine lv_aload_n hx hb dX11_bridge_0 rfl (lv_at hl 0 rfl) ?_
  refine va_get (D := (dC, dI)) (ci := 11) (v := .ref a1) (C := RX11) (T := TX11) (N := 24) hx hb hts hnX11 hown hK hP 0 rfl rfl 0 (by decide) hf7 (fun _ h9 => h9) rfl dX11_bridge_1 ?_
  refine lv_sipush (v := 184) hx hb dX11_bridge_4 (by decide) ?_
  refine yy_iald (v := 0) hx hb hK hP 1 0 rfl rfl (yin (by decide)) dX11_bridge_7 rfl ?_
  refine lv_tableOut (tgt := 157) hx hb dX11_bridge_8 (by decide) (by decide) ?_
  refine lv_aload_n hx hb dX11_bridge_157 rfl (lv_at hl 0 rfl) ?_
  refine va_get (D := (dC, dI)) (ci := 11) (v := .ref a1) (C := RX11) (T := TX11) (N := 24) hx hb hts hnX11 hown hK hP 0 rfl rfl 0 (by decide) hf7 (fun _ h9 => h9) rfl dX11_bridge_158 ?_
  refine lv_sipush (v := 184) hx hb dX11_bridge_161 (by decide) ?_
  refine yy_iald (v := 0) hx hb hK hP 1 0 rfl rfl (yin (by decide)) dX11_bridge_164 rfl ?_
  refine lv_iconst (v := 1) hx hb dX11_bridge_165 (by decide) ?_
  refine lv_icmp_ne (tgt := 229) hx hb dX11_bridge_166 (by decide) (fun _ => ?_) (fun c => absurd c (by decide))
  refine lv_aload_n hx hb dX11_bridge_229 rfl (lv_at hl 0 rfl) ?_
  have hPc := hP.sub (ws' := [(a0, .inr (11, [.ref a1, .int 0, .int 0, .ref a2, .ref a3, .ref a4, .ref a5, .int 0, .ref a6, .ref a7, .ref a8, .int 0, .int 32, .int 0, .ref a9, .ref a10, .int 0, .int 0, .ref a11, .ref a12, .ref a13, .ref a14, .ref a15, .ref a16])), (a1, .inl (cyI, 2490, .inl (yz v0 1))), (a9, .inl (cyI, 15, .inl yR))]) [0, 1, 2] rfl
  have hDc := hD.sub (ws' := [(a0, .inr (11, [.ref a1, .int 0, .int 0, .ref a2, .ref a3, .ref a4, .ref a5, .int 0, .ref a6, .ref a7, .ref a8, .int 0, .int 32, .int 0, .ref a9, .ref a10, .int 0, .int 0, .ref a11, .ref a12, .ref a13, .ref a14, .ref a15, .ref a16])), (a1, .inl (cyI, 2490, .inl (yz v0 1))), (a9, .inl (cyI, 15, .inl yR))]) [0, 1, 2] (by decide) rfl
  refine yy_callv [0, 1, 2] [3] (wr := [(a10, .inl (cyI, 15, .inl yR))]) (va_runV (As := []) (rest := []) ⟨hx, hb, hml, hown, hts⟩ (rS_X11_takeCase_146 l dC dI cyI cyZ cyO s.heap.size a0 a1 a2 a3 a4 a5 a6 a7 a8 a9 a10 a11 a12 a13 a14 a15 a16 v0 ) (cwV 0 hts gX11_bridge_X11_takeCase rfl rfl rfl (by decide +kernel) ⟨Nat.le_of_ble_eq_true rfl, Nat.le_of_ble_eq_true rfl⟩) (yPreV hK hPc hDc (ci := 11) (q0 := 0) rfl rfl) rfl rfl hl.1 rfl (lv_room (Nat.le_of_ble_eq_true rfl)) dX11_bridge_230 ⟨Nat.le_of_ble_eq_true rfl, Nat.le_of_ble_eq_true rfl⟩) hP hD hS hA rfl rfl (by decide) (by decide) (fun u_1 H locs hw hP hD hS => ?_)
  have hP : va_P (dC, dI) vwCl [(a10, .inl (cyI, 15, .inl yR)), (a0, .inr (11, [.ref a1, .int 0, .int 0, .ref a2, .ref a3, .ref a4, .ref a5, .int 0, .ref a6, .ref a7, .ref a8, .int 0, .int 32, .int 0, .ref a9, .ref a10, .int 0, .int 0, .ref a11, .ref a12, .ref a13, .ref a14, .ref a15, .ref a16])), (a1, .inl (cyI, 2490, .inl (yz v0 1))), (a9, .inl (cyI, 15, .inl yR))] H := hP
  have hD : va_D A [(a10, .inl (cyI, 15, .inl yR)), (a0, .inr (11, [.ref a1, .int 0, .int 0, .ref a2, .ref a3, .ref a4, .ref a5, .int 0, .ref a6, .ref a7, .ref a8, .int 0, .int 32, .int 0, .ref a9, .ref a10, .int 0, .int 0, .ref a11, .ref a12, .ref a13, .ref a14, .ref a15, .ref a16])), (a1, .inl (cyI, 2490, .inl (yz v0 1))), (a9, .inl (cyI, 15, .inl yR))] := hD
  refine W.widen (k := 0) (n := 0) (Nat.le_of_ble_eq_true rfl) (Nat.le_of_ble_eq_true rfl) ?_
  refine lv_aload_n hx hb dX11_bridge_233 rfl (lv_at hl 0 rfl) ?_
  refine va_get (D := (dC, dI)) (ci := 11) (v := .ref a1) (C := RX11) (T := TX11) (N := 24) hx hb hts hnX11 hown hK hP 1 rfl rfl 0 (by decide) hf7 (fun _ h9 => h9) rfl dX11_bridge_234 ?_
  refine lv_sipush (v := 184) hx hb dX11_bridge_237 (by decide) ?_
  refine yy_iald (v := 0) hx hb hK hP 2 0 rfl rfl (yin (by decide)) dX11_bridge_240 rfl ?_
  refine lv_i2l hx hb dX11_bridge_241 rfl ?_
  refine lv_ldc2 (v := 2) hx hb hown hl118 dX11_bridge_242 ?_
  refine yy_long (v := (2 : Int32).toInt64) (by decide) ?_
  refine lv_ldc2 (v := 4) hx hb hown hl109 dX11_bridge_245 ?_
  refine yy_long (v := (4 : Int32).toInt64) (by decide) ?_
  have hPc := hP.sub (ws' := []) [] rfl
  have hDc := hD.sub (ws' := []) [] (by decide) rfl
  refine yy_calli [] [0, 1, 2, 3] (wr := [(a10, .inl (cyI, 15, .inl yR)), (a0, .inr (11, [.ref a1, .int 0, .int 0, .ref a2, .ref a3, .ref a4, .ref a5, .int 0, .ref a6, .ref a7, .ref a8, .int 0, .int 32, .int 0, .ref a9, .ref a10, .int 0, .int 0, .ref a11, .ref a12, .ref a13, .ref a14, .ref a15, .ref a16])), (a1, .inl (cyI, 2490, .inl (yz v0 1))), (a9, .inl (cyI, 15, .inl yR))]) (va_runS (As := [.long (0 : Int32).toInt64, .long (2 : Int32).toInt64, .long (4 : Int32).toInt64]) (rest := []) ⟨hx, hb, hml, hown, hts⟩ (r_in l dC dI cyI cyZ cyO H.size 0 2 4 ) (va_cwS 3 hts gX11_bridge_X11_in rfl rfl rfl (by decide +kernel) ⟨Nat.le_of_ble_eq_true rfl, Nat.le_of_ble_eq_true rfl⟩) (yPreS hK hPc hDc) rfl rfl hl.1 rfl (lv_room (Nat.le_of_ble_eq_true rfl)) dX11_bridge_248 ⟨Nat.le_of_ble_eq_true rfl, Nat.le_of_ble_eq_true rfl⟩) hP hD hS hA rfl rfl (by decide) (by decide) (fun r_3 u_2 H locs hw hP hD hS => ?_)
  have hP : va_P (dC, dI) vwCl [(a10, .inl (cyI, 15, .inl yR)), (a0, .inr (11, [.ref a1, .int 0, .int 0, .ref a2, .ref a3, .ref a4, .ref a5, .int 0, .ref a6, .ref a7, .ref a8, .int 0, .int 32, .int 0, .ref a9, .ref a10, .int 0, .int 0, .ref a11, .ref a12, .ref a13, .ref a14, .ref a15, .ref a16])), (a1, .inl (cyI, 2490, .inl (yz v0 1))), (a9, .inl (cyI, 15, .inl yR))] H := hP
  have hD : va_D A [(a10, .inl (cyI, 15, .inl yR)), (a0, .inr (11, [.ref a1, .int 0, .int 0, .ref a2, .ref a3, .ref a4, .ref a5, .int 0, .ref a6, .ref a7, .ref a8, .int 0, .int 32, .int 0, .ref a9, .ref a10, .int 0, .int 0, .ref a11, .ref a12, .ref a13, .ref a14, .ref a15, .ref a16])), (a1, .inl (cyI, 2490, .inl (yz v0 1))), (a9, .inl (cyI, 15, .inl yR))] := hD
  refine W.widen (k := 0) (n := 0) (Nat.le_of_ble_eq_true rfl) (Nat.le_of_ble_eq_true rfl) ?_
  have hw : r_3 = 0 := hw.trans (by decide)
  subst hw
  refine lv_istore_n (lv' := [(1, .int 0), (0, .ref a0)]) hx hb dX11_bridge_251 rfl hl (by decide) rfl (fun ls hl => ?_)
  refine lv_aload_n hx hb dX11_bridge_252 rfl (lv_at hl 1 rfl) ?_
  refine va_get (D := (dC, dI)) (ci := 11) (v := .ref a10) (C := RX11) (T := TX11) (N := 24) hx hb hts hnX11 hown hK hP 1 rfl rfl 15 (by decide) hf42 (fun _ h9 => h9) rfl dX11_bridge_253 ?_
  refine lv_iconst (v := 4) hx hb dX11_bridge_256 (by decide) ?_
  refine lv_iload_n hx hb dX11_bridge_257 rfl (lv_at hl 0 rfl) ?_
  refine lv_if_eq (tgt := 265) hx hb dX11_bridge_258 (by decide) (fun _ => ?_) (fun c => absurd (by decide) c)
  refine lv_iconst (v := 1) hx hb dX11_bridge_265 (by decide) ?_
  refine yy_iast (f' := yR) hx hb hK hP hD hS 0 0 rfl rfl (yin (by decide)) dX11_bridge_266 (yid rfl) (fun H locs hP hD hS => ?_)
  have hP : va_P (dC, dI) vwCl [(a10, .inl (cyI, 15, .inl yR)), (a0, .inr (11, [.ref a1, .int 0, .int 0, .ref a2, .ref a3, .ref a4, .ref a5, .int 0, .ref a6, .ref a7, .ref a8, .int 0, .int 32, .int 0, .ref a9, .ref a10, .int 0, .int 0, .ref a11, .ref a12, .ref a13, .ref a14, .ref a15, .ref a16])), (a1, .inl (cyI, 2490, .inl (yz v0 1))), (a9, .inl (cyI, 15, .inl yR))] H := hP
  have hD : va_D A [(a10, .inl (cyI, 15, .inl yR)), (a0, .inr (11, [.ref a1, .int 0, .int 0, .ref a2, .ref a3, .ref a4, .ref a5, .int 0, .ref a6, .ref a7, .ref a8, .int 0, .int 32, .int 0, .ref a9, .ref a10, .int 0, .int 0, .ref a11, .ref a12, .ref a13, .ref a14, .ref a15, .ref a16])), (a1, .inl (cyI, 2490, .inl (yz v0 1))), (a9, .inl (cyI, 15, .inl yR))] := hD
  refine lv_aload_n hx hb dX11_bridge_267 rfl (lv_at hl 1 rfl) ?_
  refine va_get (D := (dC, dI)) (ci := 11) (v := .ref a10) (C := RX11) (T := TX11) (N := 24) hx hb hts hnX11 hown hK hP 1 rfl rfl 15 (by decide) hf42 (fun _ h9 => h9) rfl dX11_bridge_268 ?_
  refine lv_iconst (v := 5) hx hb dX11_bridge_271 (by decide) ?_
  refine lv_aload_n hx hb dX11_bridge_272 rfl (lv_at hl 1 rfl) ?_
  refine va_get (D := (dC, dI)) (ci := 11) (v := .ref a1) (C := RX11) (T := TX11) (N := 24) hx hb hts hnX11 hown hK hP 1 rfl rfl 0 (by decide) hf7 (fun _ h9 => h9) rfl dX11_bridge_273 ?_
  refine lv_sipush (v := 184) hx hb dX11_bridge_276 (by decide) ?_
  refine yy_iald (v := 0) hx hb hK hP 2 0 rfl rfl (yin (by decide)) dX11_bridge_279 rfl ?_
  refine lv_iconst (v := 4) hx hb dX11_bridge_280 (by decide) ?_
  refine lv_icmp_eq (tgt := 296) hx hb dX11_bridge_281 (by decide) (fun c => absurd c (by decide)) (fun _ => ?_)
  refine lv_aload_n hx hb dX11_bridge_284 rfl (lv_at hl 1 rfl) ?_
  refine va_get (D := (dC, dI)) (ci := 11) (v := .ref a1) (C := RX11) (T := TX11) (N := 24) hx hb hts hnX11 hown hK hP 1 rfl rfl 0 (by decide) hf7 (fun _ h9 => h9) rfl dX11_bridge_285 ?_
  refine lv_sipush (v := 184) hx hb dX11_bridge_288 (by decide) ?_
  refine yy_iald (v := 0) hx hb hK hP 2 0 rfl rfl (yin (by decide)) dX11_bridge_291 rfl ?_
  refine lv_iconst (v := 5) hx hb dX11_bridge_292 (by decide) ?_
  refine lv_icmp_ne (tgt := 300) hx hb dX11_bridge_293 (by decide) (fun _ => ?_) (fun c => absurd c (by decide))
  refine lv_iconst (v := 0) hx hb dX11_bridge_300 (by decide) ?_
  refine yy_iast (f' := yR) hx hb hK hP hD hS 0 0 rfl rfl (yin (by decide)) dX11_bridge_301 (yid rfl) (fun H locs hP hD hS => ?_)
  have hP : va_P (dC, dI) vwCl [(a10, .inl (cyI, 15, .inl yR)), (a0, .inr (11, [.ref a1, .int 0, .int 0, .ref a2, .ref a3, .ref a4, .ref a5, .int 0, .ref a6, .ref a7, .ref a8, .int 0, .int 32, .int 0, .ref a9, .ref a10, .int 0, .int 0, .ref a11, .ref a12, .ref a13, .ref a14, .ref a15, .ref a16])), (a1, .inl (cyI, 2490, .inl (yz v0 1))), (a9, .inl (cyI, 15, .inl yR))] H := hP
  have hD : va_D A [(a10, .inl (cyI, 15, .inl yR)), (a0, .inr (11, [.ref a1, .int 0, .int 0, .ref a2, .ref a3, .ref a4, .ref a5, .int 0, .ref a6, .ref a7, .ref a8, .int 0, .int 32, .int 0, .ref a9, .ref a10, .int 0, .int 0, .ref a11, .ref a12, .ref a13, .ref a14, .ref a15, .ref a16])), (a1, .inl (cyI, 2490, .inl (yz v0 1))), (a9, .inl (cyI, 15, .inl yR))] := hD
  refine W.widen (k := 0) (n := 0) (Nat.le_of_ble_eq_true rfl) (Nat.le_of_ble_eq_true rfl) ?_
  exact yy_vret () hx hb hr hlk hsz hAe hK hP hD hS [1, 2, 3, 0] rfl rfl (by decide) (trivial) dX11_bridge_302
set_option maxHeartbeats 4000000 in
set_option maxRecDepth 100000 in
theorem rS_X11_act_148 (l : Launch) (dC : Nat → ClassId) (dI : Nat → Nat → Nat) (cyI cyZ cyO : ClassId) (sz : Nat) (a0 : Nat) (a1 : Nat) (a2 : Nat) (a3 : Nat) (a4 : Nat) (a5 : Nat) (a6 : Nat) (a7 : Nat) (a8 : Nat) (a9 : Nat) (a10 : Nat) (a11 : Nat) (a12 : Nat) (a13 : Nat) (a14 : Nat) (a15 : Nat) (a16 : Nat) (v0 : Int32)  : Met l yX11_act wsX11_act ({ frames := 0, cells := 0, slots := 0, locals := 0 }) (yPre [.ref a0] (dC, dI) [(a0, .inr (11, [.ref a1, .int 0, .int 0, .ref a2, .ref a3, .ref a4, .ref a5, .int 0, .ref a6, .ref a7, .ref a8, .int 0, .int 32, .int 0, .ref a9, .ref a10, .int 0, .int 0, .ref a11, .ref a12, .ref a13, .ref a14, .ref a15, .ref a16])), (a1, .inl (cyI, 2490, .inl (yz v0 1)))] (yT cyI cyZ cyO) sz) (yQv (fun (u : Unit) => True) (dC, dI) [(a0, .inr (11, [.ref a1, .int 0, .int 0, .ref a2, .ref a3, .ref a4, .ref a5, .int 0, .ref a6, .ref a7, .ref a8, .int 0, .int 32, .int 0, .ref a9, .ref a10, .int 0, .int 0, .ref a11, .ref a12, .ref a13, .ref a14, .ref a15, .ref a16])), (a1, .inl (cyI, 2490, .inl (yz v0 1)))] (yT cyI cyZ cyO) sz (fun _ => [(a0, .inr (11, [.ref a1, .int 0, .int 0, .ref a2, .ref a3, .ref a4, .ref a5, .int 0, .ref a6, .ref a7, .ref a8, .int 0, .int 32, .int 0, .ref a9, .ref a10, .int 0, .int 0, .ref a11, .ref a12, .ref a13, .ref a14, .ref a15, .ref a16])), (a1, .inl (cyI, 2490, .inl (yz v0 1)))])) 0 0 (va_A [(a0, .inr (11, [.ref a1, .int 0, .int 0, .ref a2, .ref a3, .ref a4, .ref a5, .int 0, .ref a6, .ref a7, .ref a8, .int 0, .int 32, .int 0, .ref a9, .ref a10, .int 0, .int 0, .ref a11, .ref a12, .ref a13, .ref a14, .ref a15, .ref a16])), (a1, .inl (cyI, 2490, .inl (yz v0 1)))] sz) := by
  refine yMet (cc := cX11_act) (maxL := 4) (ret := none) (by decide) rfl (Nat.le_of_ble_eq_true rfl) ?_
  intro p e s m below meth c A hx hb hr hlk hml hts hown hnm hsz hAe hP hK hD hA hS ls hl
  have hl : lv_has ls 4 [(0, .ref a0)] := hl
  have hf7 := hts (.fieldLink RX11 7 "BusBridgeModel" "z" "[I") (by decide +kernel)
  have hnX11 : ∀ w ∈ wsX110, w ∈ wsX11_act := by decide +kernel
  refine lv_aload_n hx hb dX11_act_0 rfl (lv_at hl 0 rfl) ?_
  refine va_get (D := (dC, dI)) (ci := 11) (v := .ref a1) (C := RX11) (T := TX11) (N := 24) hx hb hts hnX11 hown hK hP 0 rfl rfl 0 (by decide) hf7 (fun _ h9 => h9) rfl dX11_act_1 ?_
  refine lv_sipush (v := 201) hx hb dX11_act_4 (by decide) ?_
  refine yy_iald (v := 0) hx hb hK hP 1 0 rfl rfl (yin (by decide)) dX11_act_7 rfl ?_
  refine lv_if_eq (tgt := 12) hx hb dX11_act_8 (by decide) (fun _ => ?_) (fun c => absurd (by decide) c)
  refine lv_aload_n hx hb dX11_act_12 rfl (lv_at hl 0 rfl) ?_
  refine va_get (D := (dC, dI)) (ci := 11) (v := .ref a1) (C := RX11) (T := TX11) (N := 24) hx hb hts hnX11 hown hK hP 0 rfl rfl 0 (by decide) hf7 (fun _ h9 => h9) rfl dX11_act_13 ?_
  refine lv_sipush (v := 192) hx hb dX11_act_16 (by decide) ?_
  refine yy_iald (v := 0) hx hb hK hP 1 0 rfl rfl (yin (by decide)) dX11_act_19 rfl ?_
  refine lv_if_le (tgt := 128) hx hb dX11_act_20 (by decide) (fun _ => ?_) (fun c => absurd (by decide) c)
  refine lv_aload_n hx hb dX11_act_128 rfl (lv_at hl 0 rfl) ?_
  refine va_get (D := (dC, dI)) (ci := 11) (v := .ref a1) (C := RX11) (T := TX11) (N := 24) hx hb hts hnX11 hown hK hP 0 rfl rfl 0 (by decide) hf7 (fun _ h9 => h9) rfl dX11_act_129 ?_
  refine lv_sipush (v := 184) hx hb dX11_act_132 (by decide) ?_
  refine yy_iald (v := 0) hx hb hK hP 1 0 rfl rfl (yin (by decide)) dX11_act_135 rfl ?_
  refine lv_iconst (v := 3) hx hb dX11_act_136 (by decide) ?_
  refine lv_icmp_ne (tgt := 189) hx hb dX11_act_137 (by decide) (fun _ => ?_) (fun c => absurd c (by decide))
  refine W.widen (k := 0) (n := 0) (Nat.le_of_ble_eq_true rfl) (Nat.le_of_ble_eq_true rfl) ?_
  exact yy_vret () hx hb hr hlk hsz hAe hK hP hD hS [0, 1] rfl rfl (by decide) (trivial) dX11_act_189
set_option maxHeartbeats 4000000 in
set_option maxRecDepth 100000 in
theorem r_goOn_S (l : Launch) (dC : Nat → ClassId) (dI : Nat → Nat → Nat) (cyI cyZ cyO : ClassId) (sz : Nat) (h0 : Nat) (rz : Nat) (rf : Nat) (rl : Nat) (rwx : Nat) (rb : Nat) (rwd : Nat) (rk : Nat) (ra : Nat) (rs : Nat) (rt : Nat) (rwr : Nat) (rp : Nat) (rsi : Nat) (rke : Nat) (rkc : Nat) (rik : Nat) (t : Int32) (ht : ¬ t ≤ 0) : Met l yX11_goOn wsX11_goOn ({ frames := 3, cells := 0, slots := 0, locals := 71 }) (yPre [.ref h0] (dC, dI) [(h0, .inr (11, [.ref rz, .int 0, .int 0, .ref rf, .ref rl, .ref rwx, .ref rb, .int 0, .ref rwd, .ref rk, .ref ra, .int 0, .int 32, .int 0, .ref rs, .ref rt, .int 0, .int 0, .ref rwr, .ref rp, .ref rsi, .ref rke, .ref rkc, .ref rik])), (rz, .inl (cyI, 2490, .inl (yz t 1))), (rs, .inl (cyI, 15, .inl yR)), (rt, .inl (cyI, 15, .inl yR))] (yT cyI cyZ cyO) sz) (yQv (fun (u : Unit) => True) (dC, dI) [(h0, .inr (11, [.ref rz, .int 0, .int 0, .ref rf, .ref rl, .ref rwx, .ref rb, .int 0, .ref rwd, .ref rk, .ref ra, .int 0, .int 32, .int 0, .ref rs, .ref rt, .int 0, .int 0, .ref rwr, .ref rp, .ref rsi, .ref rke, .ref rkc, .ref rik])), (rz, .inl (cyI, 2490, .inl (yz t 1))), (rs, .inl (cyI, 15, .inl yR)), (rt, .inl (cyI, 15, .inl yR))] (yT cyI cyZ cyO) sz (fun _ => [(h0, .inr (11, [.ref rz, .int 0, .int 0, .ref rf, .ref rl, .ref rwx, .ref rb, .int 0, .ref rwd, .ref rk, .ref ra, .int 0, .int 32, .int 0, .ref rs, .ref rt, .int 0, .int 0, .ref rwr, .ref rp, .ref rsi, .ref rke, .ref rkc, .ref rik])), (rz, .inl (cyI, 2490, .inl (yz (t + 1) 1))), (rs, .inl (cyI, 15, .inl yR)), (rt, .inl (cyI, 15, .inl yR))])) 0 0 (va_A [(h0, .inr (11, [.ref rz, .int 0, .int 0, .ref rf, .ref rl, .ref rwx, .ref rb, .int 0, .ref rwd, .ref rk, .ref ra, .int 0, .int 32, .int 0, .ref rs, .ref rt, .int 0, .int 0, .ref rwr, .ref rp, .ref rsi, .ref rke, .ref rkc, .ref rik])), (rz, .inl (cyI, 2490, .inl (yz t 1))), (rs, .inl (cyI, 15, .inl yR)), (rt, .inl (cyI, 15, .inl yR))] sz) := by
  refine yMet (cc := cX11_goOn) (maxL := 2) (ret := none) (by decide) rfl (Nat.le_of_ble_eq_true rfl) ?_
  intro p e s m below meth c A hx hb hr hlk hml hts hown hnm hsz hAe hP hK hD hA hS ls hl
  have hl : lv_has ls 2 [(0, .ref h0)] := hl
  have hf39 := hts (.fieldLink RX11 39 "BusBridgeModel" "see" "[I") (by decide +kernel)
  have hf42 := hts (.fieldLink RX11 42 "BusBridgeModel" "set" "[I") (by decide +kernel)
  have hf7 := hts (.fieldLink RX11 7 "BusBridgeModel" "z" "[I") (by decide +kernel)
  have hnX11 : ∀ w ∈ wsX110, w ∈ wsX11_goOn := by decide +kernel
  refine lv_iconst (v := 0) hx hb dX11_goOn_0 (by decide) ?_
  refine lv_istore_n (lv' := [(1, .int 0), (0, .ref h0)]) hx hb dX11_goOn_1 rfl hl (by decide) rfl (fun ls hl => ?_)
  refine lv_iload_n hx hb dX11_goOn_2 rfl (lv_at hl 0 rfl) ?_
  refine lv_bipush (v := 15) hx hb dX11_goOn_3 (by decide) ?_
  refine lv_icmp_ge (tgt := 37) hx hb dX11_goOn_5 (by decide) (fun c => absurd c (by decide)) (fun _ => ?_)
  refine lv_aload_n hx hb dX11_goOn_8 rfl (lv_at hl 1 rfl) ?_
  refine va_get (D := (dC, dI)) (ci := 11) (v := .ref rs) (C := RX11) (T := TX11) (N := 24) hx hb hts hnX11 hown hK hP 0 rfl rfl 14 (by decide) hf39 (fun _ h9 => h9) rfl dX11_goOn_9 ?_
  refine lv_iload_n hx hb dX11_goOn_12 rfl (lv_at hl 0 rfl) ?_
  refine lv_aload_n hx hb dX11_goOn_13 rfl (lv_at hl 1 rfl) ?_
  refine lv_iload_n hx hb dX11_goOn_14 rfl (lv_at hl 0 rfl) ?_
  have hPc := hP.sub (ws' := [(h0, .inr (11, [.ref rz, .int 0, .int 0, .ref rf, .ref rl, .ref rwx, .ref rb, .int 0, .ref rwd, .ref rk, .ref ra, .int 0, .int 32, .int 0, .ref rs, .ref rt, .int 0, .int 0, .ref rwr, .ref rp, .ref rsi, .ref rke, .ref rkc, .ref rik])), (rz, .inl (cyI, 2490, .inl (yz t 1)))]) [0, 1] rfl
  have hDc := hD.sub (ws' := [(h0, .inr (11, [.ref rz, .int 0, .int 0, .ref rf, .ref rl, .ref rwx, .ref rb, .int 0, .ref rwd, .ref rk, .ref ra, .int 0, .int 32, .int 0, .ref rs, .ref rt, .int 0, .int 0, .ref rwr, .ref rp, .ref rsi, .ref rke, .ref rkc, .ref rik])), (rz, .inl (cyI, 2490, .inl (yz t 1)))]) [0, 1] (by decide) rfl
  refine yy_calli [0, 1] [2, 3] (wr := [(rs, .inl (cyI, 15, .inl yR)), (rt, .inl (cyI, 15, .inl yR))]) (va_runV (As := [.int 0]) (rest := [.int 0, .ref rs]) ⟨hx, hb, hml, hown, hts⟩ (rS_X11_seen_120 l dC dI cyI cyZ cyO s.heap.size h0 rz rf rl rwx rb rwd rk ra rs rt rwr rp rsi rke rkc rik t ) (cwV 1 hts gX11_goOn_X11_seen rfl rfl rfl (by decide +kernel) ⟨Nat.le_of_ble_eq_true rfl, Nat.le_of_ble_eq_true rfl⟩) (yPreV hK hPc hDc (ci := 11) (q0 := 0) rfl rfl) rfl rfl hl.1 rfl (lv_room (Nat.le_of_ble_eq_true rfl)) dX11_goOn_15 ⟨Nat.le_of_ble_eq_true rfl, Nat.le_of_ble_eq_true rfl⟩) hP hD hS hA rfl rfl (by decide) (by decide) (fun r_2 u_1 H locs hw hP hD hS => ?_)
  have hP : va_P (dC, dI) vwCl [(rs, .inl (cyI, 15, .inl yR)), (rt, .inl (cyI, 15, .inl yR)), (h0, .inr (11, [.ref rz, .int 0, .int 0, .ref rf, .ref rl, .ref rwx, .ref rb, .int 0, .ref rwd, .ref rk, .ref ra, .int 0, .int 32, .int 0, .ref rs, .ref rt, .int 0, .int 0, .ref rwr, .ref rp, .ref rsi, .ref rke, .ref rkc, .ref rik])), (rz, .inl (cyI, 2490, .inl (yz t 1)))] H := hP
  have hD : va_D A [(rs, .inl (cyI, 15, .inl yR)), (rt, .inl (cyI, 15, .inl yR)), (h0, .inr (11, [.ref rz, .int 0, .int 0, .ref rf, .ref rl, .ref rwx, .ref rb, .int 0, .ref rwd, .ref rk, .ref ra, .int 0, .int 32, .int 0, .ref rs, .ref rt, .int 0, .int 0, .ref rwr, .ref rp, .ref rsi, .ref rke, .ref rkc, .ref rik])), (rz, .inl (cyI, 2490, .inl (yz t 1)))] := hD
  refine W.widen (k := 0) (n := 0) (Nat.le_of_ble_eq_true rfl) (Nat.le_of_ble_eq_true rfl) ?_
  have hw : r_2 = 0 := hw
  subst hw
  refine yy_iast (f' := yR) hx hb hK hP hD hS 0 0 rfl rfl (yin (by decide)) dX11_goOn_18 (yid rfl) (fun H locs hP hD hS => ?_)
  have hP : va_P (dC, dI) vwCl [(rs, .inl (cyI, 15, .inl yR)), (rt, .inl (cyI, 15, .inl yR)), (h0, .inr (11, [.ref rz, .int 0, .int 0, .ref rf, .ref rl, .ref rwx, .ref rb, .int 0, .ref rwd, .ref rk, .ref ra, .int 0, .int 32, .int 0, .ref rs, .ref rt, .int 0, .int 0, .ref rwr, .ref rp, .ref rsi, .ref rke, .ref rkc, .ref rik])), (rz, .inl (cyI, 2490, .inl (yz t 1)))] H := hP
  have hD : va_D A [(rs, .inl (cyI, 15, .inl yR)), (rt, .inl (cyI, 15, .inl yR)), (h0, .inr (11, [.ref rz, .int 0, .int 0, .ref rf, .ref rl, .ref rwx, .ref rb, .int 0, .ref rwd, .ref rk, .ref ra, .int 0, .int 32, .int 0, .ref rs, .ref rt, .int 0, .int 0, .ref rwr, .ref rp, .ref rsi, .ref rke, .ref rkc, .ref rik])), (rz, .inl (cyI, 2490, .inl (yz t 1)))] := hD
  refine lv_aload_n hx hb dX11_goOn_19 rfl (lv_at hl 1 rfl) ?_
  refine va_get (D := (dC, dI)) (ci := 11) (v := .ref rt) (C := RX11) (T := TX11) (N := 24) hx hb hts hnX11 hown hK hP 2 rfl rfl 15 (by decide) hf42 (fun _ h9 => h9) rfl dX11_goOn_20 ?_
  refine lv_iload_n hx hb dX11_goOn_23 rfl (lv_at hl 0 rfl) ?_
  refine lv_aload_n hx hb dX11_goOn_24 rfl (lv_at hl 1 rfl) ?_
  refine va_get (D := (dC, dI)) (ci := 11) (v := .ref rz) (C := RX11) (T := TX11) (N := 24) hx hb hts hnX11 hown hK hP 2 rfl rfl 0 (by decide) hf7 (fun _ h9 => h9) rfl dX11_goOn_25 ?_
  refine lv_iload_n hx hb dX11_goOn_28 rfl (lv_at hl 0 rfl) ?_
  refine yy_iald (v := 0) hx hb hK hP 3 0 rfl rfl (yin (by decide)) dX11_goOn_29 rfl ?_
  refine yy_iast (f' := yR) hx hb hK hP hD hS 1 0 rfl rfl (yin (by decide)) dX11_goOn_30 (yid rfl) (fun H locs hP hD hS => ?_)
  have hP : va_P (dC, dI) vwCl [(rs, .inl (cyI, 15, .inl yR)), (rt, .inl (cyI, 15, .inl yR)), (h0, .inr (11, [.ref rz, .int 0, .int 0, .ref rf, .ref rl, .ref rwx, .ref rb, .int 0, .ref rwd, .ref rk, .ref ra, .int 0, .int 32, .int 0, .ref rs, .ref rt, .int 0, .int 0, .ref rwr, .ref rp, .ref rsi, .ref rke, .ref rkc, .ref rik])), (rz, .inl (cyI, 2490, .inl (yz t 1)))] H := hP
  have hD : va_D A [(rs, .inl (cyI, 15, .inl yR)), (rt, .inl (cyI, 15, .inl yR)), (h0, .inr (11, [.ref rz, .int 0, .int 0, .ref rf, .ref rl, .ref rwx, .ref rb, .int 0, .ref rwd, .ref rk, .ref ra, .int 0, .int 32, .int 0, .ref rs, .ref rt, .int 0, .int 0, .ref rwr, .ref rp, .ref rsi, .ref rke, .ref rkc, .ref rik])), (rz, .inl (cyI, 2490, .inl (yz t 1)))] := hD
  refine lv_iinc (v := 1) (lv' := [(1, .int 1), (0, .ref h0)]) hx hb dX11_goOn_31 hl (k := 0) rfl (by decide) (by decide) rfl (fun ls hl => ?_)
  refine lv_goto (tgt := 2) hx hb dX11_goOn_34 (by decide) ?_
  refine lv_iload_n hx hb dX11_goOn_2 rfl (lv_at hl 0 rfl) ?_
  refine lv_bipush (v := 15) hx hb dX11_goOn_3 (by decide) ?_
  refine lv_icmp_ge (tgt := 37) hx hb dX11_goOn_5 (by decide) (fun c => absurd c (by decide)) (fun _ => ?_)
  refine lv_aload_n hx hb dX11_goOn_8 rfl (lv_at hl 1 rfl) ?_
  refine va_get (D := (dC, dI)) (ci := 11) (v := .ref rs) (C := RX11) (T := TX11) (N := 24) hx hb hts hnX11 hown hK hP 2 rfl rfl 14 (by decide) hf39 (fun _ h9 => h9) rfl dX11_goOn_9 ?_
  refine lv_iload_n hx hb dX11_goOn_12 rfl (lv_at hl 0 rfl) ?_
  refine lv_aload_n hx hb dX11_goOn_13 rfl (lv_at hl 1 rfl) ?_
  refine lv_iload_n hx hb dX11_goOn_14 rfl (lv_at hl 0 rfl) ?_
  have hPc := hP.sub (ws' := [(h0, .inr (11, [.ref rz, .int 0, .int 0, .ref rf, .ref rl, .ref rwx, .ref rb, .int 0, .ref rwd, .ref rk, .ref ra, .int 0, .int 32, .int 0, .ref rs, .ref rt, .int 0, .int 0, .ref rwr, .ref rp, .ref rsi, .ref rke, .ref rkc, .ref rik])), (rz, .inl (cyI, 2490, .inl (yz t 1)))]) [2, 3] rfl
  have hDc := hD.sub (ws' := [(h0, .inr (11, [.ref rz, .int 0, .int 0, .ref rf, .ref rl, .ref rwx, .ref rb, .int 0, .ref rwd, .ref rk, .ref ra, .int 0, .int 32, .int 0, .ref rs, .ref rt, .int 0, .int 0, .ref rwr, .ref rp, .ref rsi, .ref rke, .ref rkc, .ref rik])), (rz, .inl (cyI, 2490, .inl (yz t 1)))]) [2, 3] (by decide) rfl
  refine yy_calli [2, 3] [0, 1] (wr := [(rs, .inl (cyI, 15, .inl yR)), (rt, .inl (cyI, 15, .inl yR))]) (va_runV (As := [.int 1]) (rest := [.int 1, .ref rs]) ⟨hx, hb, hml, hown, hts⟩ (rS_X11_seen_121 l dC dI cyI cyZ cyO H.size h0 rz rf rl rwx rb rwd rk ra rs rt rwr rp rsi rke rkc rik t ) (cwV 1 hts gX11_goOn_X11_seen rfl rfl rfl (by decide +kernel) ⟨Nat.le_of_ble_eq_true rfl, Nat.le_of_ble_eq_true rfl⟩) (yPreV hK hPc hDc (ci := 11) (q0 := 0) rfl rfl) rfl rfl hl.1 rfl (lv_room (Nat.le_of_ble_eq_true rfl)) dX11_goOn_15 ⟨Nat.le_of_ble_eq_true rfl, Nat.le_of_ble_eq_true rfl⟩) hP hD hS hA rfl rfl (by decide) (by decide) (fun r_4 u_3 H locs hw hP hD hS => ?_)
  have hP : va_P (dC, dI) vwCl [(rs, .inl (cyI, 15, .inl yR)), (rt, .inl (cyI, 15, .inl yR)), (h0, .inr (11, [.ref rz, .int 0, .int 0, .ref rf, .ref rl, .ref rwx, .ref rb, .int 0, .ref rwd, .ref rk, .ref ra, .int 0, .int 32, .int 0, .ref rs, .ref rt, .int 0, .int 0, .ref rwr, .ref rp, .ref rsi, .ref rke, .ref rkc, .ref rik])), (rz, .inl (cyI, 2490, .inl (yz t 1)))] H := hP
  have hD : va_D A [(rs, .inl (cyI, 15, .inl yR)), (rt, .inl (cyI, 15, .inl yR)), (h0, .inr (11, [.ref rz, .int 0, .int 0, .ref rf, .ref rl, .ref rwx, .ref rb, .int 0, .ref rwd, .ref rk, .ref ra, .int 0, .int 32, .int 0, .ref rs, .ref rt, .int 0, .int 0, .ref rwr, .ref rp, .ref rsi, .ref rke, .ref rkc, .ref rik])), (rz, .inl (cyI, 2490, .inl (yz t 1)))] := hD
  refine W.widen (k := 0) (n := 0) (Nat.le_of_ble_eq_true rfl) (Nat.le_of_ble_eq_true rfl) ?_
  have hw : r_4 = 0 := hw
  subst hw
  refine yy_iast (f' := yR) hx hb hK hP hD hS 0 0 rfl rfl (yin (by decide)) dX11_goOn_18 (yid rfl) (fun H locs hP hD hS => ?_)
  have hP : va_P (dC, dI) vwCl [(rs, .inl (cyI, 15, .inl yR)), (rt, .inl (cyI, 15, .inl yR)), (h0, .inr (11, [.ref rz, .int 0, .int 0, .ref rf, .ref rl, .ref rwx, .ref rb, .int 0, .ref rwd, .ref rk, .ref ra, .int 0, .int 32, .int 0, .ref rs, .ref rt, .int 0, .int 0, .ref rwr, .ref rp, .ref rsi, .ref rke, .ref rkc, .ref rik])), (rz, .inl (cyI, 2490, .inl (yz t 1)))] H := hP
  have hD : va_D A [(rs, .inl (cyI, 15, .inl yR)), (rt, .inl (cyI, 15, .inl yR)), (h0, .inr (11, [.ref rz, .int 0, .int 0, .ref rf, .ref rl, .ref rwx, .ref rb, .int 0, .ref rwd, .ref rk, .ref ra, .int 0, .int 32, .int 0, .ref rs, .ref rt, .int 0, .int 0, .ref rwr, .ref rp, .ref rsi, .ref rke, .ref rkc, .ref rik])), (rz, .inl (cyI, 2490, .inl (yz t 1)))] := hD
  refine lv_aload_n hx hb dX11_goOn_19 rfl (lv_at hl 1 rfl) ?_
  refine va_get (D := (dC, dI)) (ci := 11) (v := .ref rt) (C := RX11) (T := TX11) (N := 24) hx hb hts hnX11 hown hK hP 2 rfl rfl 15 (by decide) hf42 (fun _ h9 => h9) rfl dX11_goOn_20 ?_
  refine lv_iload_n hx hb dX11_goOn_23 rfl (lv_at hl 0 rfl) ?_
  refine lv_aload_n hx hb dX11_goOn_24 rfl (lv_at hl 1 rfl) ?_
  refine va_get (D := (dC, dI)) (ci := 11) (v := .ref rz) (C := RX11) (T := TX11) (N := 24) hx hb hts hnX11 hown hK hP 2 rfl rfl 0 (by decide) hf7 (fun _ h9 => h9) rfl dX11_goOn_25 ?_
  refine lv_iload_n hx hb dX11_goOn_28 rfl (lv_at hl 0 rfl) ?_
  refine yy_iald (v := 0) hx hb hK hP 3 0 rfl rfl (yin (by decide)) dX11_goOn_29 rfl ?_
  refine yy_iast (f' := yR) hx hb hK hP hD hS 1 0 rfl rfl (yin (by decide)) dX11_goOn_30 (yid rfl) (fun H locs hP hD hS => ?_)
  have hP : va_P (dC, dI) vwCl [(rs, .inl (cyI, 15, .inl yR)), (rt, .inl (cyI, 15, .inl yR)), (h0, .inr (11, [.ref rz, .int 0, .int 0, .ref rf, .ref rl, .ref rwx, .ref rb, .int 0, .ref rwd, .ref rk, .ref ra, .int 0, .int 32, .int 0, .ref rs, .ref rt, .int 0, .int 0, .ref rwr, .ref rp, .ref rsi, .ref rke, .ref rkc, .ref rik])), (rz, .inl (cyI, 2490, .inl (yz t 1)))] H := hP
  have hD : va_D A [(rs, .inl (cyI, 15, .inl yR)), (rt, .inl (cyI, 15, .inl yR)), (h0, .inr (11, [.ref rz, .int 0, .int 0, .ref rf, .ref rl, .ref rwx, .ref rb, .int 0, .ref rwd, .ref rk, .ref ra, .int 0, .int 32, .int 0, .ref rs, .ref rt, .int 0, .int 0, .ref rwr, .ref rp, .ref rsi, .ref rke, .ref rkc, .ref rik])), (rz, .inl (cyI, 2490, .inl (yz t 1)))] := hD
  refine lv_iinc (v := 2) (lv' := [(1, .int 2), (0, .ref h0)]) hx hb dX11_goOn_31 hl (k := 0) rfl (by decide) (by decide) rfl (fun ls hl => ?_)
  refine lv_goto (tgt := 2) hx hb dX11_goOn_34 (by decide) ?_
  refine lv_iload_n hx hb dX11_goOn_2 rfl (lv_at hl 0 rfl) ?_
  refine lv_bipush (v := 15) hx hb dX11_goOn_3 (by decide) ?_
  refine lv_icmp_ge (tgt := 37) hx hb dX11_goOn_5 (by decide) (fun c => absurd c (by decide)) (fun _ => ?_)
  refine lv_aload_n hx hb dX11_goOn_8 rfl (lv_at hl 1 rfl) ?_
  refine va_get (D := (dC, dI)) (ci := 11) (v := .ref rs) (C := RX11) (T := TX11) (N := 24) hx hb hts hnX11 hown hK hP 2 rfl rfl 14 (by decide) hf39 (fun _ h9 => h9) rfl dX11_goOn_9 ?_
  refine lv_iload_n hx hb dX11_goOn_12 rfl (lv_at hl 0 rfl) ?_
  refine lv_aload_n hx hb dX11_goOn_13 rfl (lv_at hl 1 rfl) ?_
  refine lv_iload_n hx hb dX11_goOn_14 rfl (lv_at hl 0 rfl) ?_
  have hPc := hP.sub (ws' := [(h0, .inr (11, [.ref rz, .int 0, .int 0, .ref rf, .ref rl, .ref rwx, .ref rb, .int 0, .ref rwd, .ref rk, .ref ra, .int 0, .int 32, .int 0, .ref rs, .ref rt, .int 0, .int 0, .ref rwr, .ref rp, .ref rsi, .ref rke, .ref rkc, .ref rik])), (rz, .inl (cyI, 2490, .inl (yz t 1)))]) [2, 3] rfl
  have hDc := hD.sub (ws' := [(h0, .inr (11, [.ref rz, .int 0, .int 0, .ref rf, .ref rl, .ref rwx, .ref rb, .int 0, .ref rwd, .ref rk, .ref ra, .int 0, .int 32, .int 0, .ref rs, .ref rt, .int 0, .int 0, .ref rwr, .ref rp, .ref rsi, .ref rke, .ref rkc, .ref rik])), (rz, .inl (cyI, 2490, .inl (yz t 1)))]) [2, 3] (by decide) rfl
  refine yy_calli [2, 3] [0, 1] (wr := [(rs, .inl (cyI, 15, .inl yR)), (rt, .inl (cyI, 15, .inl yR))]) (va_runV (As := [.int 2]) (rest := [.int 2, .ref rs]) ⟨hx, hb, hml, hown, hts⟩ (rS_X11_seen_122 l dC dI cyI cyZ cyO H.size h0 rz rf rl rwx rb rwd rk ra rs rt rwr rp rsi rke rkc rik t ) (cwV 1 hts gX11_goOn_X11_seen rfl rfl rfl (by decide +kernel) ⟨Nat.le_of_ble_eq_true rfl, Nat.le_of_ble_eq_true rfl⟩) (yPreV hK hPc hDc (ci := 11) (q0 := 0) rfl rfl) rfl rfl hl.1 rfl (lv_room (Nat.le_of_ble_eq_true rfl)) dX11_goOn_15 ⟨Nat.le_of_ble_eq_true rfl, Nat.le_of_ble_eq_true rfl⟩) hP hD hS hA rfl rfl (by decide) (by decide) (fun r_6 u_5 H locs hw hP hD hS => ?_)
  have hP : va_P (dC, dI) vwCl [(rs, .inl (cyI, 15, .inl yR)), (rt, .inl (cyI, 15, .inl yR)), (h0, .inr (11, [.ref rz, .int 0, .int 0, .ref rf, .ref rl, .ref rwx, .ref rb, .int 0, .ref rwd, .ref rk, .ref ra, .int 0, .int 32, .int 0, .ref rs, .ref rt, .int 0, .int 0, .ref rwr, .ref rp, .ref rsi, .ref rke, .ref rkc, .ref rik])), (rz, .inl (cyI, 2490, .inl (yz t 1)))] H := hP
  have hD : va_D A [(rs, .inl (cyI, 15, .inl yR)), (rt, .inl (cyI, 15, .inl yR)), (h0, .inr (11, [.ref rz, .int 0, .int 0, .ref rf, .ref rl, .ref rwx, .ref rb, .int 0, .ref rwd, .ref rk, .ref ra, .int 0, .int 32, .int 0, .ref rs, .ref rt, .int 0, .int 0, .ref rwr, .ref rp, .ref rsi, .ref rke, .ref rkc, .ref rik])), (rz, .inl (cyI, 2490, .inl (yz t 1)))] := hD
  refine W.widen (k := 0) (n := 0) (Nat.le_of_ble_eq_true rfl) (Nat.le_of_ble_eq_true rfl) ?_
  have hw : r_6 = 0 := hw
  subst hw
  refine yy_iast (f' := yR) hx hb hK hP hD hS 0 0 rfl rfl (yin (by decide)) dX11_goOn_18 (yid rfl) (fun H locs hP hD hS => ?_)
  have hP : va_P (dC, dI) vwCl [(rs, .inl (cyI, 15, .inl yR)), (rt, .inl (cyI, 15, .inl yR)), (h0, .inr (11, [.ref rz, .int 0, .int 0, .ref rf, .ref rl, .ref rwx, .ref rb, .int 0, .ref rwd, .ref rk, .ref ra, .int 0, .int 32, .int 0, .ref rs, .ref rt, .int 0, .int 0, .ref rwr, .ref rp, .ref rsi, .ref rke, .ref rkc, .ref rik])), (rz, .inl (cyI, 2490, .inl (yz t 1)))] H := hP
  have hD : va_D A [(rs, .inl (cyI, 15, .inl yR)), (rt, .inl (cyI, 15, .inl yR)), (h0, .inr (11, [.ref rz, .int 0, .int 0, .ref rf, .ref rl, .ref rwx, .ref rb, .int 0, .ref rwd, .ref rk, .ref ra, .int 0, .int 32, .int 0, .ref rs, .ref rt, .int 0, .int 0, .ref rwr, .ref rp, .ref rsi, .ref rke, .ref rkc, .ref rik])), (rz, .inl (cyI, 2490, .inl (yz t 1)))] := hD
  refine lv_aload_n hx hb dX11_goOn_19 rfl (lv_at hl 1 rfl) ?_
  refine va_get (D := (dC, dI)) (ci := 11) (v := .ref rt) (C := RX11) (T := TX11) (N := 24) hx hb hts hnX11 hown hK hP 2 rfl rfl 15 (by decide) hf42 (fun _ h9 => h9) rfl dX11_goOn_20 ?_
  refine lv_iload_n hx hb dX11_goOn_23 rfl (lv_at hl 0 rfl) ?_
  refine lv_aload_n hx hb dX11_goOn_24 rfl (lv_at hl 1 rfl) ?_
  refine va_get (D := (dC, dI)) (ci := 11) (v := .ref rz) (C := RX11) (T := TX11) (N := 24) hx hb hts hnX11 hown hK hP 2 rfl rfl 0 (by decide) hf7 (fun _ h9 => h9) rfl dX11_goOn_25 ?_
  refine lv_iload_n hx hb dX11_goOn_28 rfl (lv_at hl 0 rfl) ?_
  refine yy_iald (v := 0) hx hb hK hP 3 0 rfl rfl (yin (by decide)) dX11_goOn_29 rfl ?_
  refine yy_iast (f' := yR) hx hb hK hP hD hS 1 0 rfl rfl (yin (by decide)) dX11_goOn_30 (yid rfl) (fun H locs hP hD hS => ?_)
  have hP : va_P (dC, dI) vwCl [(rs, .inl (cyI, 15, .inl yR)), (rt, .inl (cyI, 15, .inl yR)), (h0, .inr (11, [.ref rz, .int 0, .int 0, .ref rf, .ref rl, .ref rwx, .ref rb, .int 0, .ref rwd, .ref rk, .ref ra, .int 0, .int 32, .int 0, .ref rs, .ref rt, .int 0, .int 0, .ref rwr, .ref rp, .ref rsi, .ref rke, .ref rkc, .ref rik])), (rz, .inl (cyI, 2490, .inl (yz t 1)))] H := hP
  have hD : va_D A [(rs, .inl (cyI, 15, .inl yR)), (rt, .inl (cyI, 15, .inl yR)), (h0, .inr (11, [.ref rz, .int 0, .int 0, .ref rf, .ref rl, .ref rwx, .ref rb, .int 0, .ref rwd, .ref rk, .ref ra, .int 0, .int 32, .int 0, .ref rs, .ref rt, .int 0, .int 0, .ref rwr, .ref rp, .ref rsi, .ref rke, .ref rkc, .ref rik])), (rz, .inl (cyI, 2490, .inl (yz t 1)))] := hD
  refine lv_iinc (v := 3) (lv' := [(1, .int 3), (0, .ref h0)]) hx hb dX11_goOn_31 hl (k := 0) rfl (by decide) (by decide) rfl (fun ls hl => ?_)
  refine lv_goto (tgt := 2) hx hb dX11_goOn_34 (by decide) ?_
  refine lv_iload_n hx hb dX11_goOn_2 rfl (lv_at hl 0 rfl) ?_
  refine lv_bipush (v := 15) hx hb dX11_goOn_3 (by decide) ?_
  refine lv_icmp_ge (tgt := 37) hx hb dX11_goOn_5 (by decide) (fun c => absurd c (by decide)) (fun _ => ?_)
  refine lv_aload_n hx hb dX11_goOn_8 rfl (lv_at hl 1 rfl) ?_
  refine va_get (D := (dC, dI)) (ci := 11) (v := .ref rs) (C := RX11) (T := TX11) (N := 24) hx hb hts hnX11 hown hK hP 2 rfl rfl 14 (by decide) hf39 (fun _ h9 => h9) rfl dX11_goOn_9 ?_
  refine lv_iload_n hx hb dX11_goOn_12 rfl (lv_at hl 0 rfl) ?_
  refine lv_aload_n hx hb dX11_goOn_13 rfl (lv_at hl 1 rfl) ?_
  refine lv_iload_n hx hb dX11_goOn_14 rfl (lv_at hl 0 rfl) ?_
  have hPc := hP.sub (ws' := [(h0, .inr (11, [.ref rz, .int 0, .int 0, .ref rf, .ref rl, .ref rwx, .ref rb, .int 0, .ref rwd, .ref rk, .ref ra, .int 0, .int 32, .int 0, .ref rs, .ref rt, .int 0, .int 0, .ref rwr, .ref rp, .ref rsi, .ref rke, .ref rkc, .ref rik])), (rz, .inl (cyI, 2490, .inl (yz t 1)))]) [2, 3] rfl
  have hDc := hD.sub (ws' := [(h0, .inr (11, [.ref rz, .int 0, .int 0, .ref rf, .ref rl, .ref rwx, .ref rb, .int 0, .ref rwd, .ref rk, .ref ra, .int 0, .int 32, .int 0, .ref rs, .ref rt, .int 0, .int 0, .ref rwr, .ref rp, .ref rsi, .ref rke, .ref rkc, .ref rik])), (rz, .inl (cyI, 2490, .inl (yz t 1)))]) [2, 3] (by decide) rfl
  refine yy_calli [2, 3] [0, 1] (wr := [(rs, .inl (cyI, 15, .inl yR)), (rt, .inl (cyI, 15, .inl yR))]) (va_runV (As := [.int 3]) (rest := [.int 3, .ref rs]) ⟨hx, hb, hml, hown, hts⟩ (rS_X11_seen_123 l dC dI cyI cyZ cyO H.size h0 rz rf rl rwx rb rwd rk ra rs rt rwr rp rsi rke rkc rik t ) (cwV 1 hts gX11_goOn_X11_seen rfl rfl rfl (by decide +kernel) ⟨Nat.le_of_ble_eq_true rfl, Nat.le_of_ble_eq_true rfl⟩) (yPreV hK hPc hDc (ci := 11) (q0 := 0) rfl rfl) rfl rfl hl.1 rfl (lv_room (Nat.le_of_ble_eq_true rfl)) dX11_goOn_15 ⟨Nat.le_of_ble_eq_true rfl, Nat.le_of_ble_eq_true rfl⟩) hP hD hS hA rfl rfl (by decide) (by decide) (fun r_8 u_7 H locs hw hP hD hS => ?_)
  have hP : va_P (dC, dI) vwCl [(rs, .inl (cyI, 15, .inl yR)), (rt, .inl (cyI, 15, .inl yR)), (h0, .inr (11, [.ref rz, .int 0, .int 0, .ref rf, .ref rl, .ref rwx, .ref rb, .int 0, .ref rwd, .ref rk, .ref ra, .int 0, .int 32, .int 0, .ref rs, .ref rt, .int 0, .int 0, .ref rwr, .ref rp, .ref rsi, .ref rke, .ref rkc, .ref rik])), (rz, .inl (cyI, 2490, .inl (yz t 1)))] H := hP
  have hD : va_D A [(rs, .inl (cyI, 15, .inl yR)), (rt, .inl (cyI, 15, .inl yR)), (h0, .inr (11, [.ref rz, .int 0, .int 0, .ref rf, .ref rl, .ref rwx, .ref rb, .int 0, .ref rwd, .ref rk, .ref ra, .int 0, .int 32, .int 0, .ref rs, .ref rt, .int 0, .int 0, .ref rwr, .ref rp, .ref rsi, .ref rke, .ref rkc, .ref rik])), (rz, .inl (cyI, 2490, .inl (yz t 1)))] := hD
  refine W.widen (k := 0) (n := 0) (Nat.le_of_ble_eq_true rfl) (Nat.le_of_ble_eq_true rfl) ?_
  have hw : r_8 = 0 := hw
  subst hw
  refine yy_iast (f' := yR) hx hb hK hP hD hS 0 0 rfl rfl (yin (by decide)) dX11_goOn_18 (yid rfl) (fun H locs hP hD hS => ?_)
  have hP : va_P (dC, dI) vwCl [(rs, .inl (cyI, 15, .inl yR)), (rt, .inl (cyI, 15, .inl yR)), (h0, .inr (11, [.ref rz, .int 0, .int 0, .ref rf, .ref rl, .ref rwx, .ref rb, .int 0, .ref rwd, .ref rk, .ref ra, .int 0, .int 32, .int 0, .ref rs, .ref rt, .int 0, .int 0, .ref rwr, .ref rp, .ref rsi, .ref rke, .ref rkc, .ref rik])), (rz, .inl (cyI, 2490, .inl (yz t 1)))] H := hP
  have hD : va_D A [(rs, .inl (cyI, 15, .inl yR)), (rt, .inl (cyI, 15, .inl yR)), (h0, .inr (11, [.ref rz, .int 0, .int 0, .ref rf, .ref rl, .ref rwx, .ref rb, .int 0, .ref rwd, .ref rk, .ref ra, .int 0, .int 32, .int 0, .ref rs, .ref rt, .int 0, .int 0, .ref rwr, .ref rp, .ref rsi, .ref rke, .ref rkc, .ref rik])), (rz, .inl (cyI, 2490, .inl (yz t 1)))] := hD
  refine lv_aload_n hx hb dX11_goOn_19 rfl (lv_at hl 1 rfl) ?_
  refine va_get (D := (dC, dI)) (ci := 11) (v := .ref rt) (C := RX11) (T := TX11) (N := 24) hx hb hts hnX11 hown hK hP 2 rfl rfl 15 (by decide) hf42 (fun _ h9 => h9) rfl dX11_goOn_20 ?_
  refine lv_iload_n hx hb dX11_goOn_23 rfl (lv_at hl 0 rfl) ?_
  refine lv_aload_n hx hb dX11_goOn_24 rfl (lv_at hl 1 rfl) ?_
  refine va_get (D := (dC, dI)) (ci := 11) (v := .ref rz) (C := RX11) (T := TX11) (N := 24) hx hb hts hnX11 hown hK hP 2 rfl rfl 0 (by decide) hf7 (fun _ h9 => h9) rfl dX11_goOn_25 ?_
  refine lv_iload_n hx hb dX11_goOn_28 rfl (lv_at hl 0 rfl) ?_
  refine yy_iald (v := 0) hx hb hK hP 3 0 rfl rfl (yin (by decide)) dX11_goOn_29 rfl ?_
  refine yy_iast (f' := yR) hx hb hK hP hD hS 1 0 rfl rfl (yin (by decide)) dX11_goOn_30 (yid rfl) (fun H locs hP hD hS => ?_)
  have hP : va_P (dC, dI) vwCl [(rs, .inl (cyI, 15, .inl yR)), (rt, .inl (cyI, 15, .inl yR)), (h0, .inr (11, [.ref rz, .int 0, .int 0, .ref rf, .ref rl, .ref rwx, .ref rb, .int 0, .ref rwd, .ref rk, .ref ra, .int 0, .int 32, .int 0, .ref rs, .ref rt, .int 0, .int 0, .ref rwr, .ref rp, .ref rsi, .ref rke, .ref rkc, .ref rik])), (rz, .inl (cyI, 2490, .inl (yz t 1)))] H := hP
  have hD : va_D A [(rs, .inl (cyI, 15, .inl yR)), (rt, .inl (cyI, 15, .inl yR)), (h0, .inr (11, [.ref rz, .int 0, .int 0, .ref rf, .ref rl, .ref rwx, .ref rb, .int 0, .ref rwd, .ref rk, .ref ra, .int 0, .int 32, .int 0, .ref rs, .ref rt, .int 0, .int 0, .ref rwr, .ref rp, .ref rsi, .ref rke, .ref rkc, .ref rik])), (rz, .inl (cyI, 2490, .inl (yz t 1)))] := hD
  refine lv_iinc (v := 4) (lv' := [(1, .int 4), (0, .ref h0)]) hx hb dX11_goOn_31 hl (k := 0) rfl (by decide) (by decide) rfl (fun ls hl => ?_)
  refine lv_goto (tgt := 2) hx hb dX11_goOn_34 (by decide) ?_
  refine lv_iload_n hx hb dX11_goOn_2 rfl (lv_at hl 0 rfl) ?_
  refine lv_bipush (v := 15) hx hb dX11_goOn_3 (by decide) ?_
  refine lv_icmp_ge (tgt := 37) hx hb dX11_goOn_5 (by decide) (fun c => absurd c (by decide)) (fun _ => ?_)
  refine lv_aload_n hx hb dX11_goOn_8 rfl (lv_at hl 1 rfl) ?_
  refine va_get (D := (dC, dI)) (ci := 11) (v := .ref rs) (C := RX11) (T := TX11) (N := 24) hx hb hts hnX11 hown hK hP 2 rfl rfl 14 (by decide) hf39 (fun _ h9 => h9) rfl dX11_goOn_9 ?_
  refine lv_iload_n hx hb dX11_goOn_12 rfl (lv_at hl 0 rfl) ?_
  refine lv_aload_n hx hb dX11_goOn_13 rfl (lv_at hl 1 rfl) ?_
  refine lv_iload_n hx hb dX11_goOn_14 rfl (lv_at hl 0 rfl) ?_
  have hPc := hP.sub (ws' := [(h0, .inr (11, [.ref rz, .int 0, .int 0, .ref rf, .ref rl, .ref rwx, .ref rb, .int 0, .ref rwd, .ref rk, .ref ra, .int 0, .int 32, .int 0, .ref rs, .ref rt, .int 0, .int 0, .ref rwr, .ref rp, .ref rsi, .ref rke, .ref rkc, .ref rik])), (rz, .inl (cyI, 2490, .inl (yz t 1)))]) [2, 3] rfl
  have hDc := hD.sub (ws' := [(h0, .inr (11, [.ref rz, .int 0, .int 0, .ref rf, .ref rl, .ref rwx, .ref rb, .int 0, .ref rwd, .ref rk, .ref ra, .int 0, .int 32, .int 0, .ref rs, .ref rt, .int 0, .int 0, .ref rwr, .ref rp, .ref rsi, .ref rke, .ref rkc, .ref rik])), (rz, .inl (cyI, 2490, .inl (yz t 1)))]) [2, 3] (by decide) rfl
  refine yy_calli [2, 3] [0, 1] (wr := [(rs, .inl (cyI, 15, .inl yR)), (rt, .inl (cyI, 15, .inl yR))]) (va_runV (As := [.int 4]) (rest := [.int 4, .ref rs]) ⟨hx, hb, hml, hown, hts⟩ (rS_X11_seen_124 l dC dI cyI cyZ cyO H.size h0 rz rf rl rwx rb rwd rk ra rs rt rwr rp rsi rke rkc rik t ) (cwV 1 hts gX11_goOn_X11_seen rfl rfl rfl (by decide +kernel) ⟨Nat.le_of_ble_eq_true rfl, Nat.le_of_ble_eq_true rfl⟩) (yPreV hK hPc hDc (ci := 11) (q0 := 0) rfl rfl) rfl rfl hl.1 rfl (lv_room (Nat.le_of_ble_eq_true rfl)) dX11_goOn_15 ⟨Nat.le_of_ble_eq_true rfl, Nat.le_of_ble_eq_true rfl⟩) hP hD hS hA rfl rfl (by decide) (by decide) (fun r_10 u_9 H locs hw hP hD hS => ?_)
  have hP : va_P (dC, dI) vwCl [(rs, .inl (cyI, 15, .inl yR)), (rt, .inl (cyI, 15, .inl yR)), (h0, .inr (11, [.ref rz, .int 0, .int 0, .ref rf, .ref rl, .ref rwx, .ref rb, .int 0, .ref rwd, .ref rk, .ref ra, .int 0, .int 32, .int 0, .ref rs, .ref rt, .int 0, .int 0, .ref rwr, .ref rp, .ref rsi, .ref rke, .ref rkc, .ref rik])), (rz, .inl (cyI, 2490, .inl (yz t 1)))] H := hP
  have hD : va_D A [(rs, .inl (cyI, 15, .inl yR)), (rt, .inl (cyI, 15, .inl yR)), (h0, .inr (11, [.ref rz, .int 0, .int 0, .ref rf, .ref rl, .ref rwx, .ref rb, .int 0, .ref rwd, .ref rk, .ref ra, .int 0, .int 32, .int 0, .ref rs, .ref rt, .int 0, .int 0, .ref rwr, .ref rp, .ref rsi, .ref rke, .ref rkc, .ref rik])), (rz, .inl (cyI, 2490, .inl (yz t 1)))] := hD
  refine W.widen (k := 0) (n := 0) (Nat.le_of_ble_eq_true rfl) (Nat.le_of_ble_eq_true rfl) ?_
  have hw : r_10 = 1 := hw
  subst hw
  refine yy_iast (f' := yR) hx hb hK hP hD hS 0 0 rfl rfl (yin (by decide)) dX11_goOn_18 (yid rfl) (fun H locs hP hD hS => ?_)
  have hP : va_P (dC, dI) vwCl [(rs, .inl (cyI, 15, .inl yR)), (rt, .inl (cyI, 15, .inl yR)), (h0, .inr (11, [.ref rz, .int 0, .int 0, .ref rf, .ref rl, .ref rwx, .ref rb, .int 0, .ref rwd, .ref rk, .ref ra, .int 0, .int 32, .int 0, .ref rs, .ref rt, .int 0, .int 0, .ref rwr, .ref rp, .ref rsi, .ref rke, .ref rkc, .ref rik])), (rz, .inl (cyI, 2490, .inl (yz t 1)))] H := hP
  have hD : va_D A [(rs, .inl (cyI, 15, .inl yR)), (rt, .inl (cyI, 15, .inl yR)), (h0, .inr (11, [.ref rz, .int 0, .int 0, .ref rf, .ref rl, .ref rwx, .ref rb, .int 0, .ref rwd, .ref rk, .ref ra, .int 0, .int 32, .int 0, .ref rs, .ref rt, .int 0, .int 0, .ref rwr, .ref rp, .ref rsi, .ref rke, .ref rkc, .ref rik])), (rz, .inl (cyI, 2490, .inl (yz t 1)))] := hD
  refine lv_aload_n hx hb dX11_goOn_19 rfl (lv_at hl 1 rfl) ?_
  refine va_get (D := (dC, dI)) (ci := 11) (v := .ref rt) (C := RX11) (T := TX11) (N := 24) hx hb hts hnX11 hown hK hP 2 rfl rfl 15 (by decide) hf42 (fun _ h9 => h9) rfl dX11_goOn_20 ?_
  refine lv_iload_n hx hb dX11_goOn_23 rfl (lv_at hl 0 rfl) ?_
  refine lv_aload_n hx hb dX11_goOn_24 rfl (lv_at hl 1 rfl) ?_
  refine va_get (D := (dC, dI)) (ci := 11) (v := .ref rz) (C := RX11) (T := TX11) (N := 24) hx hb hts hnX11 hown hK hP 2 rfl rfl 0 (by decide) hf7 (fun _ h9 => h9) rfl dX11_goOn_25 ?_
  refine lv_iload_n hx hb dX11_goOn_28 rfl (lv_at hl 0 rfl) ?_
  refine yy_iald (v := 1) hx hb hK hP 3 0 rfl rfl (yin (by decide)) dX11_goOn_29 rfl ?_
  refine yy_iast (f' := yR) hx hb hK hP hD hS 1 0 rfl rfl (yin (by decide)) dX11_goOn_30 (yid rfl) (fun H locs hP hD hS => ?_)
  have hP : va_P (dC, dI) vwCl [(rs, .inl (cyI, 15, .inl yR)), (rt, .inl (cyI, 15, .inl yR)), (h0, .inr (11, [.ref rz, .int 0, .int 0, .ref rf, .ref rl, .ref rwx, .ref rb, .int 0, .ref rwd, .ref rk, .ref ra, .int 0, .int 32, .int 0, .ref rs, .ref rt, .int 0, .int 0, .ref rwr, .ref rp, .ref rsi, .ref rke, .ref rkc, .ref rik])), (rz, .inl (cyI, 2490, .inl (yz t 1)))] H := hP
  have hD : va_D A [(rs, .inl (cyI, 15, .inl yR)), (rt, .inl (cyI, 15, .inl yR)), (h0, .inr (11, [.ref rz, .int 0, .int 0, .ref rf, .ref rl, .ref rwx, .ref rb, .int 0, .ref rwd, .ref rk, .ref ra, .int 0, .int 32, .int 0, .ref rs, .ref rt, .int 0, .int 0, .ref rwr, .ref rp, .ref rsi, .ref rke, .ref rkc, .ref rik])), (rz, .inl (cyI, 2490, .inl (yz t 1)))] := hD
  refine lv_iinc (v := 5) (lv' := [(1, .int 5), (0, .ref h0)]) hx hb dX11_goOn_31 hl (k := 0) rfl (by decide) (by decide) rfl (fun ls hl => ?_)
  refine lv_goto (tgt := 2) hx hb dX11_goOn_34 (by decide) ?_
  refine lv_iload_n hx hb dX11_goOn_2 rfl (lv_at hl 0 rfl) ?_
  refine lv_bipush (v := 15) hx hb dX11_goOn_3 (by decide) ?_
  refine lv_icmp_ge (tgt := 37) hx hb dX11_goOn_5 (by decide) (fun c => absurd c (by decide)) (fun _ => ?_)
  refine lv_aload_n hx hb dX11_goOn_8 rfl (lv_at hl 1 rfl) ?_
  refine va_get (D := (dC, dI)) (ci := 11) (v := .ref rs) (C := RX11) (T := TX11) (N := 24) hx hb hts hnX11 hown hK hP 2 rfl rfl 14 (by decide) hf39 (fun _ h9 => h9) rfl dX11_goOn_9 ?_
  refine lv_iload_n hx hb dX11_goOn_12 rfl (lv_at hl 0 rfl) ?_
  refine lv_aload_n hx hb dX11_goOn_13 rfl (lv_at hl 1 rfl) ?_
  refine lv_iload_n hx hb dX11_goOn_14 rfl (lv_at hl 0 rfl) ?_
  have hPc := hP.sub (ws' := [(h0, .inr (11, [.ref rz, .int 0, .int 0, .ref rf, .ref rl, .ref rwx, .ref rb, .int 0, .ref rwd, .ref rk, .ref ra, .int 0, .int 32, .int 0, .ref rs, .ref rt, .int 0, .int 0, .ref rwr, .ref rp, .ref rsi, .ref rke, .ref rkc, .ref rik])), (rz, .inl (cyI, 2490, .inl (yz t 1)))]) [2, 3] rfl
  have hDc := hD.sub (ws' := [(h0, .inr (11, [.ref rz, .int 0, .int 0, .ref rf, .ref rl, .ref rwx, .ref rb, .int 0, .ref rwd, .ref rk, .ref ra, .int 0, .int 32, .int 0, .ref rs, .ref rt, .int 0, .int 0, .ref rwr, .ref rp, .ref rsi, .ref rke, .ref rkc, .ref rik])), (rz, .inl (cyI, 2490, .inl (yz t 1)))]) [2, 3] (by decide) rfl
  refine yy_calli [2, 3] [0, 1] (wr := [(rs, .inl (cyI, 15, .inl yR)), (rt, .inl (cyI, 15, .inl yR))]) (va_runV (As := [.int 5]) (rest := [.int 5, .ref rs]) ⟨hx, hb, hml, hown, hts⟩ (rS_X11_seen_125 l dC dI cyI cyZ cyO H.size h0 rz rf rl rwx rb rwd rk ra rs rt rwr rp rsi rke rkc rik t ) (cwV 1 hts gX11_goOn_X11_seen rfl rfl rfl (by decide +kernel) ⟨Nat.le_of_ble_eq_true rfl, Nat.le_of_ble_eq_true rfl⟩) (yPreV hK hPc hDc (ci := 11) (q0 := 0) rfl rfl) rfl rfl hl.1 rfl (lv_room (Nat.le_of_ble_eq_true rfl)) dX11_goOn_15 ⟨Nat.le_of_ble_eq_true rfl, Nat.le_of_ble_eq_true rfl⟩) hP hD hS hA rfl rfl (by decide) (by decide) (fun r_12 u_11 H locs hw hP hD hS => ?_)
  have hP : va_P (dC, dI) vwCl [(rs, .inl (cyI, 15, .inl yR)), (rt, .inl (cyI, 15, .inl yR)), (h0, .inr (11, [.ref rz, .int 0, .int 0, .ref rf, .ref rl, .ref rwx, .ref rb, .int 0, .ref rwd, .ref rk, .ref ra, .int 0, .int 32, .int 0, .ref rs, .ref rt, .int 0, .int 0, .ref rwr, .ref rp, .ref rsi, .ref rke, .ref rkc, .ref rik])), (rz, .inl (cyI, 2490, .inl (yz t 1)))] H := hP
  have hD : va_D A [(rs, .inl (cyI, 15, .inl yR)), (rt, .inl (cyI, 15, .inl yR)), (h0, .inr (11, [.ref rz, .int 0, .int 0, .ref rf, .ref rl, .ref rwx, .ref rb, .int 0, .ref rwd, .ref rk, .ref ra, .int 0, .int 32, .int 0, .ref rs, .ref rt, .int 0, .int 0, .ref rwr, .ref rp, .ref rsi, .ref rke, .ref rkc, .ref rik])), (rz, .inl (cyI, 2490, .inl (yz t 1)))] := hD
  refine W.widen (k := 0) (n := 0) (Nat.le_of_ble_eq_true rfl) (Nat.le_of_ble_eq_true rfl) ?_
  have hw : r_12 = 0 := hw
  subst hw
  refine yy_iast (f' := yR) hx hb hK hP hD hS 0 0 rfl rfl (yin (by decide)) dX11_goOn_18 (yid rfl) (fun H locs hP hD hS => ?_)
  have hP : va_P (dC, dI) vwCl [(rs, .inl (cyI, 15, .inl yR)), (rt, .inl (cyI, 15, .inl yR)), (h0, .inr (11, [.ref rz, .int 0, .int 0, .ref rf, .ref rl, .ref rwx, .ref rb, .int 0, .ref rwd, .ref rk, .ref ra, .int 0, .int 32, .int 0, .ref rs, .ref rt, .int 0, .int 0, .ref rwr, .ref rp, .ref rsi, .ref rke, .ref rkc, .ref rik])), (rz, .inl (cyI, 2490, .inl (yz t 1)))] H := hP
  have hD : va_D A [(rs, .inl (cyI, 15, .inl yR)), (rt, .inl (cyI, 15, .inl yR)), (h0, .inr (11, [.ref rz, .int 0, .int 0, .ref rf, .ref rl, .ref rwx, .ref rb, .int 0, .ref rwd, .ref rk, .ref ra, .int 0, .int 32, .int 0, .ref rs, .ref rt, .int 0, .int 0, .ref rwr, .ref rp, .ref rsi, .ref rke, .ref rkc, .ref rik])), (rz, .inl (cyI, 2490, .inl (yz t 1)))] := hD
  refine lv_aload_n hx hb dX11_goOn_19 rfl (lv_at hl 1 rfl) ?_
  refine va_get (D := (dC, dI)) (ci := 11) (v := .ref rt) (C := RX11) (T := TX11) (N := 24) hx hb hts hnX11 hown hK hP 2 rfl rfl 15 (by decide) hf42 (fun _ h9 => h9) rfl dX11_goOn_20 ?_
  refine lv_iload_n hx hb dX11_goOn_23 rfl (lv_at hl 0 rfl) ?_
  refine lv_aload_n hx hb dX11_goOn_24 rfl (lv_at hl 1 rfl) ?_
  refine va_get (D := (dC, dI)) (ci := 11) (v := .ref rz) (C := RX11) (T := TX11) (N := 24) hx hb hts hnX11 hown hK hP 2 rfl rfl 0 (by decide) hf7 (fun _ h9 => h9) rfl dX11_goOn_25 ?_
  refine lv_iload_n hx hb dX11_goOn_28 rfl (lv_at hl 0 rfl) ?_
  refine yy_iald (v := 0) hx hb hK hP 3 0 rfl rfl (yin (by decide)) dX11_goOn_29 rfl ?_
  refine yy_iast (f' := yR) hx hb hK hP hD hS 1 0 rfl rfl (yin (by decide)) dX11_goOn_30 (yid rfl) (fun H locs hP hD hS => ?_)
  have hP : va_P (dC, dI) vwCl [(rs, .inl (cyI, 15, .inl yR)), (rt, .inl (cyI, 15, .inl yR)), (h0, .inr (11, [.ref rz, .int 0, .int 0, .ref rf, .ref rl, .ref rwx, .ref rb, .int 0, .ref rwd, .ref rk, .ref ra, .int 0, .int 32, .int 0, .ref rs, .ref rt, .int 0, .int 0, .ref rwr, .ref rp, .ref rsi, .ref rke, .ref rkc, .ref rik])), (rz, .inl (cyI, 2490, .inl (yz t 1)))] H := hP
  have hD : va_D A [(rs, .inl (cyI, 15, .inl yR)), (rt, .inl (cyI, 15, .inl yR)), (h0, .inr (11, [.ref rz, .int 0, .int 0, .ref rf, .ref rl, .ref rwx, .ref rb, .int 0, .ref rwd, .ref rk, .ref ra, .int 0, .int 32, .int 0, .ref rs, .ref rt, .int 0, .int 0, .ref rwr, .ref rp, .ref rsi, .ref rke, .ref rkc, .ref rik])), (rz, .inl (cyI, 2490, .inl (yz t 1)))] := hD
  refine lv_iinc (v := 6) (lv' := [(1, .int 6), (0, .ref h0)]) hx hb dX11_goOn_31 hl (k := 0) rfl (by decide) (by decide) rfl (fun ls hl => ?_)
  refine lv_goto (tgt := 2) hx hb dX11_goOn_34 (by decide) ?_
  refine lv_iload_n hx hb dX11_goOn_2 rfl (lv_at hl 0 rfl) ?_
  refine lv_bipush (v := 15) hx hb dX11_goOn_3 (by decide) ?_
  refine lv_icmp_ge (tgt := 37) hx hb dX11_goOn_5 (by decide) (fun c => absurd c (by decide)) (fun _ => ?_)
  refine lv_aload_n hx hb dX11_goOn_8 rfl (lv_at hl 1 rfl) ?_
  refine va_get (D := (dC, dI)) (ci := 11) (v := .ref rs) (C := RX11) (T := TX11) (N := 24) hx hb hts hnX11 hown hK hP 2 rfl rfl 14 (by decide) hf39 (fun _ h9 => h9) rfl dX11_goOn_9 ?_
  refine lv_iload_n hx hb dX11_goOn_12 rfl (lv_at hl 0 rfl) ?_
  refine lv_aload_n hx hb dX11_goOn_13 rfl (lv_at hl 1 rfl) ?_
  refine lv_iload_n hx hb dX11_goOn_14 rfl (lv_at hl 0 rfl) ?_
  have hPc := hP.sub (ws' := [(h0, .inr (11, [.ref rz, .int 0, .int 0, .ref rf, .ref rl, .ref rwx, .ref rb, .int 0, .ref rwd, .ref rk, .ref ra, .int 0, .int 32, .int 0, .ref rs, .ref rt, .int 0, .int 0, .ref rwr, .ref rp, .ref rsi, .ref rke, .ref rkc, .ref rik])), (rz, .inl (cyI, 2490, .inl (yz t 1)))]) [2, 3] rfl
  have hDc := hD.sub (ws' := [(h0, .inr (11, [.ref rz, .int 0, .int 0, .ref rf, .ref rl, .ref rwx, .ref rb, .int 0, .ref rwd, .ref rk, .ref ra, .int 0, .int 32, .int 0, .ref rs, .ref rt, .int 0, .int 0, .ref rwr, .ref rp, .ref rsi, .ref rke, .ref rkc, .ref rik])), (rz, .inl (cyI, 2490, .inl (yz t 1)))]) [2, 3] (by decide) rfl
  refine yy_calli [2, 3] [0, 1] (wr := [(rs, .inl (cyI, 15, .inl yR)), (rt, .inl (cyI, 15, .inl yR))]) (va_runV (As := [.int 6]) (rest := [.int 6, .ref rs]) ⟨hx, hb, hml, hown, hts⟩ (rS_X11_seen_126 l dC dI cyI cyZ cyO H.size h0 rz rf rl rwx rb rwd rk ra rs rt rwr rp rsi rke rkc rik t ) (cwV 1 hts gX11_goOn_X11_seen rfl rfl rfl (by decide +kernel) ⟨Nat.le_of_ble_eq_true rfl, Nat.le_of_ble_eq_true rfl⟩) (yPreV hK hPc hDc (ci := 11) (q0 := 0) rfl rfl) rfl rfl hl.1 rfl (lv_room (Nat.le_of_ble_eq_true rfl)) dX11_goOn_15 ⟨Nat.le_of_ble_eq_true rfl, Nat.le_of_ble_eq_true rfl⟩) hP hD hS hA rfl rfl (by decide) (by decide) (fun r_14 u_13 H locs hw hP hD hS => ?_)
  have hP : va_P (dC, dI) vwCl [(rs, .inl (cyI, 15, .inl yR)), (rt, .inl (cyI, 15, .inl yR)), (h0, .inr (11, [.ref rz, .int 0, .int 0, .ref rf, .ref rl, .ref rwx, .ref rb, .int 0, .ref rwd, .ref rk, .ref ra, .int 0, .int 32, .int 0, .ref rs, .ref rt, .int 0, .int 0, .ref rwr, .ref rp, .ref rsi, .ref rke, .ref rkc, .ref rik])), (rz, .inl (cyI, 2490, .inl (yz t 1)))] H := hP
  have hD : va_D A [(rs, .inl (cyI, 15, .inl yR)), (rt, .inl (cyI, 15, .inl yR)), (h0, .inr (11, [.ref rz, .int 0, .int 0, .ref rf, .ref rl, .ref rwx, .ref rb, .int 0, .ref rwd, .ref rk, .ref ra, .int 0, .int 32, .int 0, .ref rs, .ref rt, .int 0, .int 0, .ref rwr, .ref rp, .ref rsi, .ref rke, .ref rkc, .ref rik])), (rz, .inl (cyI, 2490, .inl (yz t 1)))] := hD
  refine W.widen (k := 0) (n := 0) (Nat.le_of_ble_eq_true rfl) (Nat.le_of_ble_eq_true rfl) ?_
  have hw : r_14 = 0 := hw
  subst hw
  refine yy_iast (f' := yR) hx hb hK hP hD hS 0 0 rfl rfl (yin (by decide)) dX11_goOn_18 (yid rfl) (fun H locs hP hD hS => ?_)
  have hP : va_P (dC, dI) vwCl [(rs, .inl (cyI, 15, .inl yR)), (rt, .inl (cyI, 15, .inl yR)), (h0, .inr (11, [.ref rz, .int 0, .int 0, .ref rf, .ref rl, .ref rwx, .ref rb, .int 0, .ref rwd, .ref rk, .ref ra, .int 0, .int 32, .int 0, .ref rs, .ref rt, .int 0, .int 0, .ref rwr, .ref rp, .ref rsi, .ref rke, .ref rkc, .ref rik])), (rz, .inl (cyI, 2490, .inl (yz t 1)))] H := hP
  have hD : va_D A [(rs, .inl (cyI, 15, .inl yR)), (rt, .inl (cyI, 15, .inl yR)), (h0, .inr (11, [.ref rz, .int 0, .int 0, .ref rf, .ref rl, .ref rwx, .ref rb, .int 0, .ref rwd, .ref rk, .ref ra, .int 0, .int 32, .int 0, .ref rs, .ref rt, .int 0, .int 0, .ref rwr, .ref rp, .ref rsi, .ref rke, .ref rkc, .ref rik])), (rz, .inl (cyI, 2490, .inl (yz t 1)))] := hD
  refine lv_aload_n hx hb dX11_goOn_19 rfl (lv_at hl 1 rfl) ?_
  refine va_get (D := (dC, dI)) (ci := 11) (v := .ref rt) (C := RX11) (T := TX11) (N := 24) hx hb hts hnX11 hown hK hP 2 rfl rfl 15 (by decide) hf42 (fun _ h9 => h9) rfl dX11_goOn_20 ?_
  refine lv_iload_n hx hb dX11_goOn_23 rfl (lv_at hl 0 rfl) ?_
  refine lv_aload_n hx hb dX11_goOn_24 rfl (lv_at hl 1 rfl) ?_
  refine va_get (D := (dC, dI)) (ci := 11) (v := .ref rz) (C := RX11) (T := TX11) (N := 24) hx hb hts hnX11 hown hK hP 2 rfl rfl 0 (by decide) hf7 (fun _ h9 => h9) rfl dX11_goOn_25 ?_
  refine lv_iload_n hx hb dX11_goOn_28 rfl (lv_at hl 0 rfl) ?_
  refine yy_iald (v := 0) hx hb hK hP 3 0 rfl rfl (yin (by decide)) dX11_goOn_29 rfl ?_
  refine yy_iast (f' := yR) hx hb hK hP hD hS 1 0 rfl rfl (yin (by decide)) dX11_goOn_30 (yid rfl) (fun H locs hP hD hS => ?_)
  have hP : va_P (dC, dI) vwCl [(rs, .inl (cyI, 15, .inl yR)), (rt, .inl (cyI, 15, .inl yR)), (h0, .inr (11, [.ref rz, .int 0, .int 0, .ref rf, .ref rl, .ref rwx, .ref rb, .int 0, .ref rwd, .ref rk, .ref ra, .int 0, .int 32, .int 0, .ref rs, .ref rt, .int 0, .int 0, .ref rwr, .ref rp, .ref rsi, .ref rke, .ref rkc, .ref rik])), (rz, .inl (cyI, 2490, .inl (yz t 1)))] H := hP
  have hD : va_D A [(rs, .inl (cyI, 15, .inl yR)), (rt, .inl (cyI, 15, .inl yR)), (h0, .inr (11, [.ref rz, .int 0, .int 0, .ref rf, .ref rl, .ref rwx, .ref rb, .int 0, .ref rwd, .ref rk, .ref ra, .int 0, .int 32, .int 0, .ref rs, .ref rt, .int 0, .int 0, .ref rwr, .ref rp, .ref rsi, .ref rke, .ref rkc, .ref rik])), (rz, .inl (cyI, 2490, .inl (yz t 1)))] := hD
  refine lv_iinc (v := 7) (lv' := [(1, .int 7), (0, .ref h0)]) hx hb dX11_goOn_31 hl (k := 0) rfl (by decide) (by decide) rfl (fun ls hl => ?_)
  refine lv_goto (tgt := 2) hx hb dX11_goOn_34 (by decide) ?_
  refine lv_iload_n hx hb dX11_goOn_2 rfl (lv_at hl 0 rfl) ?_
  refine lv_bipush (v := 15) hx hb dX11_goOn_3 (by decide) ?_
  refine lv_icmp_ge (tgt := 37) hx hb dX11_goOn_5 (by decide) (fun c => absurd c (by decide)) (fun _ => ?_)
  refine lv_aload_n hx hb dX11_goOn_8 rfl (lv_at hl 1 rfl) ?_
  refine va_get (D := (dC, dI)) (ci := 11) (v := .ref rs) (C := RX11) (T := TX11) (N := 24) hx hb hts hnX11 hown hK hP 2 rfl rfl 14 (by decide) hf39 (fun _ h9 => h9) rfl dX11_goOn_9 ?_
  refine lv_iload_n hx hb dX11_goOn_12 rfl (lv_at hl 0 rfl) ?_
  refine lv_aload_n hx hb dX11_goOn_13 rfl (lv_at hl 1 rfl) ?_
  refine lv_iload_n hx hb dX11_goOn_14 rfl (lv_at hl 0 rfl) ?_
  have hPc := hP.sub (ws' := [(h0, .inr (11, [.ref rz, .int 0, .int 0, .ref rf, .ref rl, .ref rwx, .ref rb, .int 0, .ref rwd, .ref rk, .ref ra, .int 0, .int 32, .int 0, .ref rs, .ref rt, .int 0, .int 0, .ref rwr, .ref rp, .ref rsi, .ref rke, .ref rkc, .ref rik])), (rz, .inl (cyI, 2490, .inl (yz t 1)))]) [2, 3] rfl
  have hDc := hD.sub (ws' := [(h0, .inr (11, [.ref rz, .int 0, .int 0, .ref rf, .ref rl, .ref rwx, .ref rb, .int 0, .ref rwd, .ref rk, .ref ra, .int 0, .int 32, .int 0, .ref rs, .ref rt, .int 0, .int 0, .ref rwr, .ref rp, .ref rsi, .ref rke, .ref rkc, .ref rik])), (rz, .inl (cyI, 2490, .inl (yz t 1)))]) [2, 3] (by decide) rfl
  refine yy_calli [2, 3] [0, 1] (wr := [(rs, .inl (cyI, 15, .inl yR)), (rt, .inl (cyI, 15, .inl yR))]) (va_runV (As := [.int 7]) (rest := [.int 7, .ref rs]) ⟨hx, hb, hml, hown, hts⟩ (rS_X11_seen_127 l dC dI cyI cyZ cyO H.size h0 rz rf rl rwx rb rwd rk ra rs rt rwr rp rsi rke rkc rik t ) (cwV 1 hts gX11_goOn_X11_seen rfl rfl rfl (by decide +kernel) ⟨Nat.le_of_ble_eq_true rfl, Nat.le_of_ble_eq_true rfl⟩) (yPreV hK hPc hDc (ci := 11) (q0 := 0) rfl rfl) rfl rfl hl.1 rfl (lv_room (Nat.le_of_ble_eq_true rfl)) dX11_goOn_15 ⟨Nat.le_of_ble_eq_true rfl, Nat.le_of_ble_eq_true rfl⟩) hP hD hS hA rfl rfl (by decide) (by decide) (fun r_16 u_15 H locs hw hP hD hS => ?_)
  have hP : va_P (dC, dI) vwCl [(rs, .inl (cyI, 15, .inl yR)), (rt, .inl (cyI, 15, .inl yR)), (h0, .inr (11, [.ref rz, .int 0, .int 0, .ref rf, .ref rl, .ref rwx, .ref rb, .int 0, .ref rwd, .ref rk, .ref ra, .int 0, .int 32, .int 0, .ref rs, .ref rt, .int 0, .int 0, .ref rwr, .ref rp, .ref rsi, .ref rke, .ref rkc, .ref rik])), (rz, .inl (cyI, 2490, .inl (yz t 1)))] H := hP
  have hD : va_D A [(rs, .inl (cyI, 15, .inl yR)), (rt, .inl (cyI, 15, .inl yR)), (h0, .inr (11, [.ref rz, .int 0, .int 0, .ref rf, .ref rl, .ref rwx, .ref rb, .int 0, .ref rwd, .ref rk, .ref ra, .int 0, .int 32, .int 0, .ref rs, .ref rt, .int 0, .int 0, .ref rwr, .ref rp, .ref rsi, .ref rke, .ref rkc, .ref rik])), (rz, .inl (cyI, 2490, .inl (yz t 1)))] := hD
  refine W.widen (k := 0) (n := 0) (Nat.le_of_ble_eq_true rfl) (Nat.le_of_ble_eq_true rfl) ?_
  have hw : r_16 = 0 := hw
  subst hw
  refine yy_iast (f' := yR) hx hb hK hP hD hS 0 0 rfl rfl (yin (by decide)) dX11_goOn_18 (yid rfl) (fun H locs hP hD hS => ?_)
  have hP : va_P (dC, dI) vwCl [(rs, .inl (cyI, 15, .inl yR)), (rt, .inl (cyI, 15, .inl yR)), (h0, .inr (11, [.ref rz, .int 0, .int 0, .ref rf, .ref rl, .ref rwx, .ref rb, .int 0, .ref rwd, .ref rk, .ref ra, .int 0, .int 32, .int 0, .ref rs, .ref rt, .int 0, .int 0, .ref rwr, .ref rp, .ref rsi, .ref rke, .ref rkc, .ref rik])), (rz, .inl (cyI, 2490, .inl (yz t 1)))] H := hP
  have hD : va_D A [(rs, .inl (cyI, 15, .inl yR)), (rt, .inl (cyI, 15, .inl yR)), (h0, .inr (11, [.ref rz, .int 0, .int 0, .ref rf, .ref rl, .ref rwx, .ref rb, .int 0, .ref rwd, .ref rk, .ref ra, .int 0, .int 32, .int 0, .ref rs, .ref rt, .int 0, .int 0, .ref rwr, .ref rp, .ref rsi, .ref rke, .ref rkc, .ref rik])), (rz, .inl (cyI, 2490, .inl (yz t 1)))] := hD
  refine lv_aload_n hx hb dX11_goOn_19 rfl (lv_at hl 1 rfl) ?_
  refine va_get (D := (dC, dI)) (ci := 11) (v := .ref rt) (C := RX11) (T := TX11) (N := 24) hx hb hts hnX11 hown hK hP 2 rfl rfl 15 (by decide) hf42 (fun _ h9 => h9) rfl dX11_goOn_20 ?_
  refine lv_iload_n hx hb dX11_goOn_23 rfl (lv_at hl 0 rfl) ?_
  refine lv_aload_n hx hb dX11_goOn_24 rfl (lv_at hl 1 rfl) ?_
  refine va_get (D := (dC, dI)) (ci := 11) (v := .ref rz) (C := RX11) (T := TX11) (N := 24) hx hb hts hnX11 hown hK hP 2 rfl rfl 0 (by decide) hf7 (fun _ h9 => h9) rfl dX11_goOn_25 ?_
  refine lv_iload_n hx hb dX11_goOn_28 rfl (lv_at hl 0 rfl) ?_
  refine yy_iald (v := 0) hx hb hK hP 3 0 rfl rfl (yin (by decide)) dX11_goOn_29 rfl ?_
  refine yy_iast (f' := yR) hx hb hK hP hD hS 1 0 rfl rfl (yin (by decide)) dX11_goOn_30 (yid rfl) (fun H locs hP hD hS => ?_)
  have hP : va_P (dC, dI) vwCl [(rs, .inl (cyI, 15, .inl yR)), (rt, .inl (cyI, 15, .inl yR)), (h0, .inr (11, [.ref rz, .int 0, .int 0, .ref rf, .ref rl, .ref rwx, .ref rb, .int 0, .ref rwd, .ref rk, .ref ra, .int 0, .int 32, .int 0, .ref rs, .ref rt, .int 0, .int 0, .ref rwr, .ref rp, .ref rsi, .ref rke, .ref rkc, .ref rik])), (rz, .inl (cyI, 2490, .inl (yz t 1)))] H := hP
  have hD : va_D A [(rs, .inl (cyI, 15, .inl yR)), (rt, .inl (cyI, 15, .inl yR)), (h0, .inr (11, [.ref rz, .int 0, .int 0, .ref rf, .ref rl, .ref rwx, .ref rb, .int 0, .ref rwd, .ref rk, .ref ra, .int 0, .int 32, .int 0, .ref rs, .ref rt, .int 0, .int 0, .ref rwr, .ref rp, .ref rsi, .ref rke, .ref rkc, .ref rik])), (rz, .inl (cyI, 2490, .inl (yz t 1)))] := hD
  refine lv_iinc (v := 8) (lv' := [(1, .int 8), (0, .ref h0)]) hx hb dX11_goOn_31 hl (k := 0) rfl (by decide) (by decide) rfl (fun ls hl => ?_)
  refine lv_goto (tgt := 2) hx hb dX11_goOn_34 (by decide) ?_
  refine lv_iload_n hx hb dX11_goOn_2 rfl (lv_at hl 0 rfl) ?_
  refine lv_bipush (v := 15) hx hb dX11_goOn_3 (by decide) ?_
  refine lv_icmp_ge (tgt := 37) hx hb dX11_goOn_5 (by decide) (fun c => absurd c (by decide)) (fun _ => ?_)
  refine lv_aload_n hx hb dX11_goOn_8 rfl (lv_at hl 1 rfl) ?_
  refine va_get (D := (dC, dI)) (ci := 11) (v := .ref rs) (C := RX11) (T := TX11) (N := 24) hx hb hts hnX11 hown hK hP 2 rfl rfl 14 (by decide) hf39 (fun _ h9 => h9) rfl dX11_goOn_9 ?_
  refine lv_iload_n hx hb dX11_goOn_12 rfl (lv_at hl 0 rfl) ?_
  refine lv_aload_n hx hb dX11_goOn_13 rfl (lv_at hl 1 rfl) ?_
  refine lv_iload_n hx hb dX11_goOn_14 rfl (lv_at hl 0 rfl) ?_
  have hPc := hP.sub (ws' := [(h0, .inr (11, [.ref rz, .int 0, .int 0, .ref rf, .ref rl, .ref rwx, .ref rb, .int 0, .ref rwd, .ref rk, .ref ra, .int 0, .int 32, .int 0, .ref rs, .ref rt, .int 0, .int 0, .ref rwr, .ref rp, .ref rsi, .ref rke, .ref rkc, .ref rik])), (rz, .inl (cyI, 2490, .inl (yz t 1)))]) [2, 3] rfl
  have hDc := hD.sub (ws' := [(h0, .inr (11, [.ref rz, .int 0, .int 0, .ref rf, .ref rl, .ref rwx, .ref rb, .int 0, .ref rwd, .ref rk, .ref ra, .int 0, .int 32, .int 0, .ref rs, .ref rt, .int 0, .int 0, .ref rwr, .ref rp, .ref rsi, .ref rke, .ref rkc, .ref rik])), (rz, .inl (cyI, 2490, .inl (yz t 1)))]) [2, 3] (by decide) rfl
  refine yy_calli [2, 3] [0, 1] (wr := [(rs, .inl (cyI, 15, .inl yR)), (rt, .inl (cyI, 15, .inl yR))]) (va_runV (As := [.int 8]) (rest := [.int 8, .ref rs]) ⟨hx, hb, hml, hown, hts⟩ (rS_X11_seen_128 l dC dI cyI cyZ cyO H.size h0 rz rf rl rwx rb rwd rk ra rs rt rwr rp rsi rke rkc rik t ) (cwV 1 hts gX11_goOn_X11_seen rfl rfl rfl (by decide +kernel) ⟨Nat.le_of_ble_eq_true rfl, Nat.le_of_ble_eq_true rfl⟩) (yPreV hK hPc hDc (ci := 11) (q0 := 0) rfl rfl) rfl rfl hl.1 rfl (lv_room (Nat.le_of_ble_eq_true rfl)) dX11_goOn_15 ⟨Nat.le_of_ble_eq_true rfl, Nat.le_of_ble_eq_true rfl⟩) hP hD hS hA rfl rfl (by decide) (by decide) (fun r_18 u_17 H locs hw hP hD hS => ?_)
  have hP : va_P (dC, dI) vwCl [(rs, .inl (cyI, 15, .inl yR)), (rt, .inl (cyI, 15, .inl yR)), (h0, .inr (11, [.ref rz, .int 0, .int 0, .ref rf, .ref rl, .ref rwx, .ref rb, .int 0, .ref rwd, .ref rk, .ref ra, .int 0, .int 32, .int 0, .ref rs, .ref rt, .int 0, .int 0, .ref rwr, .ref rp, .ref rsi, .ref rke, .ref rkc, .ref rik])), (rz, .inl (cyI, 2490, .inl (yz t 1)))] H := hP
  have hD : va_D A [(rs, .inl (cyI, 15, .inl yR)), (rt, .inl (cyI, 15, .inl yR)), (h0, .inr (11, [.ref rz, .int 0, .int 0, .ref rf, .ref rl, .ref rwx, .ref rb, .int 0, .ref rwd, .ref rk, .ref ra, .int 0, .int 32, .int 0, .ref rs, .ref rt, .int 0, .int 0, .ref rwr, .ref rp, .ref rsi, .ref rke, .ref rkc, .ref rik])), (rz, .inl (cyI, 2490, .inl (yz t 1)))] := hD
  refine W.widen (k := 0) (n := 0) (Nat.le_of_ble_eq_true rfl) (Nat.le_of_ble_eq_true rfl) ?_
  have hw : r_18 = 0 := hw
  subst hw
  refine yy_iast (f' := yR) hx hb hK hP hD hS 0 0 rfl rfl (yin (by decide)) dX11_goOn_18 (yid rfl) (fun H locs hP hD hS => ?_)
  have hP : va_P (dC, dI) vwCl [(rs, .inl (cyI, 15, .inl yR)), (rt, .inl (cyI, 15, .inl yR)), (h0, .inr (11, [.ref rz, .int 0, .int 0, .ref rf, .ref rl, .ref rwx, .ref rb, .int 0, .ref rwd, .ref rk, .ref ra, .int 0, .int 32, .int 0, .ref rs, .ref rt, .int 0, .int 0, .ref rwr, .ref rp, .ref rsi, .ref rke, .ref rkc, .ref rik])), (rz, .inl (cyI, 2490, .inl (yz t 1)))] H := hP
  have hD : va_D A [(rs, .inl (cyI, 15, .inl yR)), (rt, .inl (cyI, 15, .inl yR)), (h0, .inr (11, [.ref rz, .int 0, .int 0, .ref rf, .ref rl, .ref rwx, .ref rb, .int 0, .ref rwd, .ref rk, .ref ra, .int 0, .int 32, .int 0, .ref rs, .ref rt, .int 0, .int 0, .ref rwr, .ref rp, .ref rsi, .ref rke, .ref rkc, .ref rik])), (rz, .inl (cyI, 2490, .inl (yz t 1)))] := hD
  refine lv_aload_n hx hb dX11_goOn_19 rfl (lv_at hl 1 rfl) ?_
  refine va_get (D := (dC, dI)) (ci := 11) (v := .ref rt) (C := RX11) (T := TX11) (N := 24) hx hb hts hnX11 hown hK hP 2 rfl rfl 15 (by decide) hf42 (fun _ h9 => h9) rfl dX11_goOn_20 ?_
  refine lv_iload_n hx hb dX11_goOn_23 rfl (lv_at hl 0 rfl) ?_
  refine lv_aload_n hx hb dX11_goOn_24 rfl (lv_at hl 1 rfl) ?_
  refine va_get (D := (dC, dI)) (ci := 11) (v := .ref rz) (C := RX11) (T := TX11) (N := 24) hx hb hts hnX11 hown hK hP 2 rfl rfl 0 (by decide) hf7 (fun _ h9 => h9) rfl dX11_goOn_25 ?_
  refine lv_iload_n hx hb dX11_goOn_28 rfl (lv_at hl 0 rfl) ?_
  refine yy_iald (v := 0) hx hb hK hP 3 0 rfl rfl (yin (by decide)) dX11_goOn_29 rfl ?_
  refine yy_iast (f' := yR) hx hb hK hP hD hS 1 0 rfl rfl (yin (by decide)) dX11_goOn_30 (yid rfl) (fun H locs hP hD hS => ?_)
  have hP : va_P (dC, dI) vwCl [(rs, .inl (cyI, 15, .inl yR)), (rt, .inl (cyI, 15, .inl yR)), (h0, .inr (11, [.ref rz, .int 0, .int 0, .ref rf, .ref rl, .ref rwx, .ref rb, .int 0, .ref rwd, .ref rk, .ref ra, .int 0, .int 32, .int 0, .ref rs, .ref rt, .int 0, .int 0, .ref rwr, .ref rp, .ref rsi, .ref rke, .ref rkc, .ref rik])), (rz, .inl (cyI, 2490, .inl (yz t 1)))] H := hP
  have hD : va_D A [(rs, .inl (cyI, 15, .inl yR)), (rt, .inl (cyI, 15, .inl yR)), (h0, .inr (11, [.ref rz, .int 0, .int 0, .ref rf, .ref rl, .ref rwx, .ref rb, .int 0, .ref rwd, .ref rk, .ref ra, .int 0, .int 32, .int 0, .ref rs, .ref rt, .int 0, .int 0, .ref rwr, .ref rp, .ref rsi, .ref rke, .ref rkc, .ref rik])), (rz, .inl (cyI, 2490, .inl (yz t 1)))] := hD
  refine lv_iinc (v := 9) (lv' := [(1, .int 9), (0, .ref h0)]) hx hb dX11_goOn_31 hl (k := 0) rfl (by decide) (by decide) rfl (fun ls hl => ?_)
  refine lv_goto (tgt := 2) hx hb dX11_goOn_34 (by decide) ?_
  refine lv_iload_n hx hb dX11_goOn_2 rfl (lv_at hl 0 rfl) ?_
  refine lv_bipush (v := 15) hx hb dX11_goOn_3 (by decide) ?_
  refine lv_icmp_ge (tgt := 37) hx hb dX11_goOn_5 (by decide) (fun c => absurd c (by decide)) (fun _ => ?_)
  refine lv_aload_n hx hb dX11_goOn_8 rfl (lv_at hl 1 rfl) ?_
  refine va_get (D := (dC, dI)) (ci := 11) (v := .ref rs) (C := RX11) (T := TX11) (N := 24) hx hb hts hnX11 hown hK hP 2 rfl rfl 14 (by decide) hf39 (fun _ h9 => h9) rfl dX11_goOn_9 ?_
  refine lv_iload_n hx hb dX11_goOn_12 rfl (lv_at hl 0 rfl) ?_
  refine lv_aload_n hx hb dX11_goOn_13 rfl (lv_at hl 1 rfl) ?_
  refine lv_iload_n hx hb dX11_goOn_14 rfl (lv_at hl 0 rfl) ?_
  have hPc := hP.sub (ws' := [(h0, .inr (11, [.ref rz, .int 0, .int 0, .ref rf, .ref rl, .ref rwx, .ref rb, .int 0, .ref rwd, .ref rk, .ref ra, .int 0, .int 32, .int 0, .ref rs, .ref rt, .int 0, .int 0, .ref rwr, .ref rp, .ref rsi, .ref rke, .ref rkc, .ref rik])), (rz, .inl (cyI, 2490, .inl (yz t 1)))]) [2, 3] rfl
  have hDc := hD.sub (ws' := [(h0, .inr (11, [.ref rz, .int 0, .int 0, .ref rf, .ref rl, .ref rwx, .ref rb, .int 0, .ref rwd, .ref rk, .ref ra, .int 0, .int 32, .int 0, .ref rs, .ref rt, .int 0, .int 0, .ref rwr, .ref rp, .ref rsi, .ref rke, .ref rkc, .ref rik])), (rz, .inl (cyI, 2490, .inl (yz t 1)))]) [2, 3] (by decide) rfl
  refine yy_calli [2, 3] [0, 1] (wr := [(rs, .inl (cyI, 15, .inl yR)), (rt, .inl (cyI, 15, .inl yR))]) (va_runV (As := [.int 9]) (rest := [.int 9, .ref rs]) ⟨hx, hb, hml, hown, hts⟩ (rS_X11_seen_129 l dC dI cyI cyZ cyO H.size h0 rz rf rl rwx rb rwd rk ra rs rt rwr rp rsi rke rkc rik t ) (cwV 1 hts gX11_goOn_X11_seen rfl rfl rfl (by decide +kernel) ⟨Nat.le_of_ble_eq_true rfl, Nat.le_of_ble_eq_true rfl⟩) (yPreV hK hPc hDc (ci := 11) (q0 := 0) rfl rfl) rfl rfl hl.1 rfl (lv_room (Nat.le_of_ble_eq_true rfl)) dX11_goOn_15 ⟨Nat.le_of_ble_eq_true rfl, Nat.le_of_ble_eq_true rfl⟩) hP hD hS hA rfl rfl (by decide) (by decide) (fun r_20 u_19 H locs hw hP hD hS => ?_)
  have hP : va_P (dC, dI) vwCl [(rs, .inl (cyI, 15, .inl yR)), (rt, .inl (cyI, 15, .inl yR)), (h0, .inr (11, [.ref rz, .int 0, .int 0, .ref rf, .ref rl, .ref rwx, .ref rb, .int 0, .ref rwd, .ref rk, .ref ra, .int 0, .int 32, .int 0, .ref rs, .ref rt, .int 0, .int 0, .ref rwr, .ref rp, .ref rsi, .ref rke, .ref rkc, .ref rik])), (rz, .inl (cyI, 2490, .inl (yz t 1)))] H := hP
  have hD : va_D A [(rs, .inl (cyI, 15, .inl yR)), (rt, .inl (cyI, 15, .inl yR)), (h0, .inr (11, [.ref rz, .int 0, .int 0, .ref rf, .ref rl, .ref rwx, .ref rb, .int 0, .ref rwd, .ref rk, .ref ra, .int 0, .int 32, .int 0, .ref rs, .ref rt, .int 0, .int 0, .ref rwr, .ref rp, .ref rsi, .ref rke, .ref rkc, .ref rik])), (rz, .inl (cyI, 2490, .inl (yz t 1)))] := hD
  refine W.widen (k := 0) (n := 0) (Nat.le_of_ble_eq_true rfl) (Nat.le_of_ble_eq_true rfl) ?_
  have hw : r_20 = 0 := hw
  subst hw
  refine yy_iast (f' := yR) hx hb hK hP hD hS 0 0 rfl rfl (yin (by decide)) dX11_goOn_18 (yid rfl) (fun H locs hP hD hS => ?_)
  have hP : va_P (dC, dI) vwCl [(rs, .inl (cyI, 15, .inl yR)), (rt, .inl (cyI, 15, .inl yR)), (h0, .inr (11, [.ref rz, .int 0, .int 0, .ref rf, .ref rl, .ref rwx, .ref rb, .int 0, .ref rwd, .ref rk, .ref ra, .int 0, .int 32, .int 0, .ref rs, .ref rt, .int 0, .int 0, .ref rwr, .ref rp, .ref rsi, .ref rke, .ref rkc, .ref rik])), (rz, .inl (cyI, 2490, .inl (yz t 1)))] H := hP
  have hD : va_D A [(rs, .inl (cyI, 15, .inl yR)), (rt, .inl (cyI, 15, .inl yR)), (h0, .inr (11, [.ref rz, .int 0, .int 0, .ref rf, .ref rl, .ref rwx, .ref rb, .int 0, .ref rwd, .ref rk, .ref ra, .int 0, .int 32, .int 0, .ref rs, .ref rt, .int 0, .int 0, .ref rwr, .ref rp, .ref rsi, .ref rke, .ref rkc, .ref rik])), (rz, .inl (cyI, 2490, .inl (yz t 1)))] := hD
  refine lv_aload_n hx hb dX11_goOn_19 rfl (lv_at hl 1 rfl) ?_
  refine va_get (D := (dC, dI)) (ci := 11) (v := .ref rt) (C := RX11) (T := TX11) (N := 24) hx hb hts hnX11 hown hK hP 2 rfl rfl 15 (by decide) hf42 (fun _ h9 => h9) rfl dX11_goOn_20 ?_
  refine lv_iload_n hx hb dX11_goOn_23 rfl (lv_at hl 0 rfl) ?_
  refine lv_aload_n hx hb dX11_goOn_24 rfl (lv_at hl 1 rfl) ?_
  refine va_get (D := (dC, dI)) (ci := 11) (v := .ref rz) (C := RX11) (T := TX11) (N := 24) hx hb hts hnX11 hown hK hP 2 rfl rfl 0 (by decide) hf7 (fun _ h9 => h9) rfl dX11_goOn_25 ?_
  refine lv_iload_n hx hb dX11_goOn_28 rfl (lv_at hl 0 rfl) ?_
  refine yy_iald (v := 0) hx hb hK hP 3 0 rfl rfl (yin (by decide)) dX11_goOn_29 rfl ?_
  refine yy_iast (f' := yR) hx hb hK hP hD hS 1 0 rfl rfl (yin (by decide)) dX11_goOn_30 (yid rfl) (fun H locs hP hD hS => ?_)
  have hP : va_P (dC, dI) vwCl [(rs, .inl (cyI, 15, .inl yR)), (rt, .inl (cyI, 15, .inl yR)), (h0, .inr (11, [.ref rz, .int 0, .int 0, .ref rf, .ref rl, .ref rwx, .ref rb, .int 0, .ref rwd, .ref rk, .ref ra, .int 0, .int 32, .int 0, .ref rs, .ref rt, .int 0, .int 0, .ref rwr, .ref rp, .ref rsi, .ref rke, .ref rkc, .ref rik])), (rz, .inl (cyI, 2490, .inl (yz t 1)))] H := hP
  have hD : va_D A [(rs, .inl (cyI, 15, .inl yR)), (rt, .inl (cyI, 15, .inl yR)), (h0, .inr (11, [.ref rz, .int 0, .int 0, .ref rf, .ref rl, .ref rwx, .ref rb, .int 0, .ref rwd, .ref rk, .ref ra, .int 0, .int 32, .int 0, .ref rs, .ref rt, .int 0, .int 0, .ref rwr, .ref rp, .ref rsi, .ref rke, .ref rkc, .ref rik])), (rz, .inl (cyI, 2490, .inl (yz t 1)))] := hD
  refine lv_iinc (v := 10) (lv' := [(1, .int 10), (0, .ref h0)]) hx hb dX11_goOn_31 hl (k := 0) rfl (by decide) (by decide) rfl (fun ls hl => ?_)
  refine lv_goto (tgt := 2) hx hb dX11_goOn_34 (by decide) ?_
  refine lv_iload_n hx hb dX11_goOn_2 rfl (lv_at hl 0 rfl) ?_
  refine lv_bipush (v := 15) hx hb dX11_goOn_3 (by decide) ?_
  refine lv_icmp_ge (tgt := 37) hx hb dX11_goOn_5 (by decide) (fun c => absurd c (by decide)) (fun _ => ?_)
  refine lv_aload_n hx hb dX11_goOn_8 rfl (lv_at hl 1 rfl) ?_
  refine va_get (D := (dC, dI)) (ci := 11) (v := .ref rs) (C := RX11) (T := TX11) (N := 24) hx hb hts hnX11 hown hK hP 2 rfl rfl 14 (by decide) hf39 (fun _ h9 => h9) rfl dX11_goOn_9 ?_
  refine lv_iload_n hx hb dX11_goOn_12 rfl (lv_at hl 0 rfl) ?_
  refine lv_aload_n hx hb dX11_goOn_13 rfl (lv_at hl 1 rfl) ?_
  refine lv_iload_n hx hb dX11_goOn_14 rfl (lv_at hl 0 rfl) ?_
  have hPc := hP.sub (ws' := [(h0, .inr (11, [.ref rz, .int 0, .int 0, .ref rf, .ref rl, .ref rwx, .ref rb, .int 0, .ref rwd, .ref rk, .ref ra, .int 0, .int 32, .int 0, .ref rs, .ref rt, .int 0, .int 0, .ref rwr, .ref rp, .ref rsi, .ref rke, .ref rkc, .ref rik])), (rz, .inl (cyI, 2490, .inl (yz t 1)))]) [2, 3] rfl
  have hDc := hD.sub (ws' := [(h0, .inr (11, [.ref rz, .int 0, .int 0, .ref rf, .ref rl, .ref rwx, .ref rb, .int 0, .ref rwd, .ref rk, .ref ra, .int 0, .int 32, .int 0, .ref rs, .ref rt, .int 0, .int 0, .ref rwr, .ref rp, .ref rsi, .ref rke, .ref rkc, .ref rik])), (rz, .inl (cyI, 2490, .inl (yz t 1)))]) [2, 3] (by decide) rfl
  refine yy_calli [2, 3] [0, 1] (wr := [(rs, .inl (cyI, 15, .inl yR)), (rt, .inl (cyI, 15, .inl yR))]) (va_runV (As := [.int 10]) (rest := [.int 10, .ref rs]) ⟨hx, hb, hml, hown, hts⟩ (rS_X11_seen_130 l dC dI cyI cyZ cyO H.size h0 rz rf rl rwx rb rwd rk ra rs rt rwr rp rsi rke rkc rik t ) (cwV 1 hts gX11_goOn_X11_seen rfl rfl rfl (by decide +kernel) ⟨Nat.le_of_ble_eq_true rfl, Nat.le_of_ble_eq_true rfl⟩) (yPreV hK hPc hDc (ci := 11) (q0 := 0) rfl rfl) rfl rfl hl.1 rfl (lv_room (Nat.le_of_ble_eq_true rfl)) dX11_goOn_15 ⟨Nat.le_of_ble_eq_true rfl, Nat.le_of_ble_eq_true rfl⟩) hP hD hS hA rfl rfl (by decide) (by decide) (fun r_22 u_21 H locs hw hP hD hS => ?_)
  have hP : va_P (dC, dI) vwCl [(rs, .inl (cyI, 15, .inl yR)), (rt, .inl (cyI, 15, .inl yR)), (h0, .inr (11, [.ref rz, .int 0, .int 0, .ref rf, .ref rl, .ref rwx, .ref rb, .int 0, .ref rwd, .ref rk, .ref ra, .int 0, .int 32, .int 0, .ref rs, .ref rt, .int 0, .int 0, .ref rwr, .ref rp, .ref rsi, .ref rke, .ref rkc, .ref rik])), (rz, .inl (cyI, 2490, .inl (yz t 1)))] H := hP
  have hD : va_D A [(rs, .inl (cyI, 15, .inl yR)), (rt, .inl (cyI, 15, .inl yR)), (h0, .inr (11, [.ref rz, .int 0, .int 0, .ref rf, .ref rl, .ref rwx, .ref rb, .int 0, .ref rwd, .ref rk, .ref ra, .int 0, .int 32, .int 0, .ref rs, .ref rt, .int 0, .int 0, .ref rwr, .ref rp, .ref rsi, .ref rke, .ref rkc, .ref rik])), (rz, .inl (cyI, 2490, .inl (yz t 1)))] := hD
  refine W.widen (k := 0) (n := 0) (Nat.le_of_ble_eq_true rfl) (Nat.le_of_ble_eq_true rfl) ?_
  have hw : r_22 = 0 := hw
  subst hw
  refine yy_iast (f' := yR) hx hb hK hP hD hS 0 0 rfl rfl (yin (by decide)) dX11_goOn_18 (yid rfl) (fun H locs hP hD hS => ?_)
  have hP : va_P (dC, dI) vwCl [(rs, .inl (cyI, 15, .inl yR)), (rt, .inl (cyI, 15, .inl yR)), (h0, .inr (11, [.ref rz, .int 0, .int 0, .ref rf, .ref rl, .ref rwx, .ref rb, .int 0, .ref rwd, .ref rk, .ref ra, .int 0, .int 32, .int 0, .ref rs, .ref rt, .int 0, .int 0, .ref rwr, .ref rp, .ref rsi, .ref rke, .ref rkc, .ref rik])), (rz, .inl (cyI, 2490, .inl (yz t 1)))] H := hP
  have hD : va_D A [(rs, .inl (cyI, 15, .inl yR)), (rt, .inl (cyI, 15, .inl yR)), (h0, .inr (11, [.ref rz, .int 0, .int 0, .ref rf, .ref rl, .ref rwx, .ref rb, .int 0, .ref rwd, .ref rk, .ref ra, .int 0, .int 32, .int 0, .ref rs, .ref rt, .int 0, .int 0, .ref rwr, .ref rp, .ref rsi, .ref rke, .ref rkc, .ref rik])), (rz, .inl (cyI, 2490, .inl (yz t 1)))] := hD
  refine lv_aload_n hx hb dX11_goOn_19 rfl (lv_at hl 1 rfl) ?_
  refine va_get (D := (dC, dI)) (ci := 11) (v := .ref rt) (C := RX11) (T := TX11) (N := 24) hx hb hts hnX11 hown hK hP 2 rfl rfl 15 (by decide) hf42 (fun _ h9 => h9) rfl dX11_goOn_20 ?_
  refine lv_iload_n hx hb dX11_goOn_23 rfl (lv_at hl 0 rfl) ?_
  refine lv_aload_n hx hb dX11_goOn_24 rfl (lv_at hl 1 rfl) ?_
  refine va_get (D := (dC, dI)) (ci := 11) (v := .ref rz) (C := RX11) (T := TX11) (N := 24) hx hb hts hnX11 hown hK hP 2 rfl rfl 0 (by decide) hf7 (fun _ h9 => h9) rfl dX11_goOn_25 ?_
  refine lv_iload_n hx hb dX11_goOn_28 rfl (lv_at hl 0 rfl) ?_
  refine yy_iald (v := 0) hx hb hK hP 3 0 rfl rfl (yin (by decide)) dX11_goOn_29 rfl ?_
  refine yy_iast (f' := yR) hx hb hK hP hD hS 1 0 rfl rfl (yin (by decide)) dX11_goOn_30 (yid rfl) (fun H locs hP hD hS => ?_)
  have hP : va_P (dC, dI) vwCl [(rs, .inl (cyI, 15, .inl yR)), (rt, .inl (cyI, 15, .inl yR)), (h0, .inr (11, [.ref rz, .int 0, .int 0, .ref rf, .ref rl, .ref rwx, .ref rb, .int 0, .ref rwd, .ref rk, .ref ra, .int 0, .int 32, .int 0, .ref rs, .ref rt, .int 0, .int 0, .ref rwr, .ref rp, .ref rsi, .ref rke, .ref rkc, .ref rik])), (rz, .inl (cyI, 2490, .inl (yz t 1)))] H := hP
  have hD : va_D A [(rs, .inl (cyI, 15, .inl yR)), (rt, .inl (cyI, 15, .inl yR)), (h0, .inr (11, [.ref rz, .int 0, .int 0, .ref rf, .ref rl, .ref rwx, .ref rb, .int 0, .ref rwd, .ref rk, .ref ra, .int 0, .int 32, .int 0, .ref rs, .ref rt, .int 0, .int 0, .ref rwr, .ref rp, .ref rsi, .ref rke, .ref rkc, .ref rik])), (rz, .inl (cyI, 2490, .inl (yz t 1)))] := hD
  refine lv_iinc (v := 11) (lv' := [(1, .int 11), (0, .ref h0)]) hx hb dX11_goOn_31 hl (k := 0) rfl (by decide) (by decide) rfl (fun ls hl => ?_)
  refine lv_goto (tgt := 2) hx hb dX11_goOn_34 (by decide) ?_
  refine lv_iload_n hx hb dX11_goOn_2 rfl (lv_at hl 0 rfl) ?_
  refine lv_bipush (v := 15) hx hb dX11_goOn_3 (by decide) ?_
  refine lv_icmp_ge (tgt := 37) hx hb dX11_goOn_5 (by decide) (fun c => absurd c (by decide)) (fun _ => ?_)
  refine lv_aload_n hx hb dX11_goOn_8 rfl (lv_at hl 1 rfl) ?_
  refine va_get (D := (dC, dI)) (ci := 11) (v := .ref rs) (C := RX11) (T := TX11) (N := 24) hx hb hts hnX11 hown hK hP 2 rfl rfl 14 (by decide) hf39 (fun _ h9 => h9) rfl dX11_goOn_9 ?_
  refine lv_iload_n hx hb dX11_goOn_12 rfl (lv_at hl 0 rfl) ?_
  refine lv_aload_n hx hb dX11_goOn_13 rfl (lv_at hl 1 rfl) ?_
  refine lv_iload_n hx hb dX11_goOn_14 rfl (lv_at hl 0 rfl) ?_
  have hPc := hP.sub (ws' := [(h0, .inr (11, [.ref rz, .int 0, .int 0, .ref rf, .ref rl, .ref rwx, .ref rb, .int 0, .ref rwd, .ref rk, .ref ra, .int 0, .int 32, .int 0, .ref rs, .ref rt, .int 0, .int 0, .ref rwr, .ref rp, .ref rsi, .ref rke, .ref rkc, .ref rik])), (rz, .inl (cyI, 2490, .inl (yz t 1)))]) [2, 3] rfl
  have hDc := hD.sub (ws' := [(h0, .inr (11, [.ref rz, .int 0, .int 0, .ref rf, .ref rl, .ref rwx, .ref rb, .int 0, .ref rwd, .ref rk, .ref ra, .int 0, .int 32, .int 0, .ref rs, .ref rt, .int 0, .int 0, .ref rwr, .ref rp, .ref rsi, .ref rke, .ref rkc, .ref rik])), (rz, .inl (cyI, 2490, .inl (yz t 1)))]) [2, 3] (by decide) rfl
  refine yy_calli [2, 3] [0, 1] (wr := [(rs, .inl (cyI, 15, .inl yR)), (rt, .inl (cyI, 15, .inl yR))]) (va_runV (As := [.int 11]) (rest := [.int 11, .ref rs]) ⟨hx, hb, hml, hown, hts⟩ (rS_X11_seen_131 l dC dI cyI cyZ cyO H.size h0 rz rf rl rwx rb rwd rk ra rs rt rwr rp rsi rke rkc rik t ) (cwV 1 hts gX11_goOn_X11_seen rfl rfl rfl (by decide +kernel) ⟨Nat.le_of_ble_eq_true rfl, Nat.le_of_ble_eq_true rfl⟩) (yPreV hK hPc hDc (ci := 11) (q0 := 0) rfl rfl) rfl rfl hl.1 rfl (lv_room (Nat.le_of_ble_eq_true rfl)) dX11_goOn_15 ⟨Nat.le_of_ble_eq_true rfl, Nat.le_of_ble_eq_true rfl⟩) hP hD hS hA rfl rfl (by decide) (by decide) (fun r_24 u_23 H locs hw hP hD hS => ?_)
  have hP : va_P (dC, dI) vwCl [(rs, .inl (cyI, 15, .inl yR)), (rt, .inl (cyI, 15, .inl yR)), (h0, .inr (11, [.ref rz, .int 0, .int 0, .ref rf, .ref rl, .ref rwx, .ref rb, .int 0, .ref rwd, .ref rk, .ref ra, .int 0, .int 32, .int 0, .ref rs, .ref rt, .int 0, .int 0, .ref rwr, .ref rp, .ref rsi, .ref rke, .ref rkc, .ref rik])), (rz, .inl (cyI, 2490, .inl (yz t 1)))] H := hP
  have hD : va_D A [(rs, .inl (cyI, 15, .inl yR)), (rt, .inl (cyI, 15, .inl yR)), (h0, .inr (11, [.ref rz, .int 0, .int 0, .ref rf, .ref rl, .ref rwx, .ref rb, .int 0, .ref rwd, .ref rk, .ref ra, .int 0, .int 32, .int 0, .ref rs, .ref rt, .int 0, .int 0, .ref rwr, .ref rp, .ref rsi, .ref rke, .ref rkc, .ref rik])), (rz, .inl (cyI, 2490, .inl (yz t 1)))] := hD
  refine W.widen (k := 0) (n := 0) (Nat.le_of_ble_eq_true rfl) (Nat.le_of_ble_eq_true rfl) ?_
  have hw : r_24 = 0 := hw
  subst hw
  refine yy_iast (f' := yR) hx hb hK hP hD hS 0 0 rfl rfl (yin (by decide)) dX11_goOn_18 (yid rfl) (fun H locs hP hD hS => ?_)
  have hP : va_P (dC, dI) vwCl [(rs, .inl (cyI, 15, .inl yR)), (rt, .inl (cyI, 15, .inl yR)), (h0, .inr (11, [.ref rz, .int 0, .int 0, .ref rf, .ref rl, .ref rwx, .ref rb, .int 0, .ref rwd, .ref rk, .ref ra, .int 0, .int 32, .int 0, .ref rs, .ref rt, .int 0, .int 0, .ref rwr, .ref rp, .ref rsi, .ref rke, .ref rkc, .ref rik])), (rz, .inl (cyI, 2490, .inl (yz t 1)))] H := hP
  have hD : va_D A [(rs, .inl (cyI, 15, .inl yR)), (rt, .inl (cyI, 15, .inl yR)), (h0, .inr (11, [.ref rz, .int 0, .int 0, .ref rf, .ref rl, .ref rwx, .ref rb, .int 0, .ref rwd, .ref rk, .ref ra, .int 0, .int 32, .int 0, .ref rs, .ref rt, .int 0, .int 0, .ref rwr, .ref rp, .ref rsi, .ref rke, .ref rkc, .ref rik])), (rz, .inl (cyI, 2490, .inl (yz t 1)))] := hD
  refine lv_aload_n hx hb dX11_goOn_19 rfl (lv_at hl 1 rfl) ?_
  refine va_get (D := (dC, dI)) (ci := 11) (v := .ref rt) (C := RX11) (T := TX11) (N := 24) hx hb hts hnX11 hown hK hP 2 rfl rfl 15 (by decide) hf42 (fun _ h9 => h9) rfl dX11_goOn_20 ?_
  refine lv_iload_n hx hb dX11_goOn_23 rfl (lv_at hl 0 rfl) ?_
  refine lv_aload_n hx hb dX11_goOn_24 rfl (lv_at hl 1 rfl) ?_
  refine va_get (D := (dC, dI)) (ci := 11) (v := .ref rz) (C := RX11) (T := TX11) (N := 24) hx hb hts hnX11 hown hK hP 2 rfl rfl 0 (by decide) hf7 (fun _ h9 => h9) rfl dX11_goOn_25 ?_
  refine lv_iload_n hx hb dX11_goOn_28 rfl (lv_at hl 0 rfl) ?_
  refine yy_iald (v := 0) hx hb hK hP 3 0 rfl rfl (yin (by decide)) dX11_goOn_29 rfl ?_
  refine yy_iast (f' := yR) hx hb hK hP hD hS 1 0 rfl rfl (yin (by decide)) dX11_goOn_30 (yid rfl) (fun H locs hP hD hS => ?_)
  have hP : va_P (dC, dI) vwCl [(rs, .inl (cyI, 15, .inl yR)), (rt, .inl (cyI, 15, .inl yR)), (h0, .inr (11, [.ref rz, .int 0, .int 0, .ref rf, .ref rl, .ref rwx, .ref rb, .int 0, .ref rwd, .ref rk, .ref ra, .int 0, .int 32, .int 0, .ref rs, .ref rt, .int 0, .int 0, .ref rwr, .ref rp, .ref rsi, .ref rke, .ref rkc, .ref rik])), (rz, .inl (cyI, 2490, .inl (yz t 1)))] H := hP
  have hD : va_D A [(rs, .inl (cyI, 15, .inl yR)), (rt, .inl (cyI, 15, .inl yR)), (h0, .inr (11, [.ref rz, .int 0, .int 0, .ref rf, .ref rl, .ref rwx, .ref rb, .int 0, .ref rwd, .ref rk, .ref ra, .int 0, .int 32, .int 0, .ref rs, .ref rt, .int 0, .int 0, .ref rwr, .ref rp, .ref rsi, .ref rke, .ref rkc, .ref rik])), (rz, .inl (cyI, 2490, .inl (yz t 1)))] := hD
  refine lv_iinc (v := 12) (lv' := [(1, .int 12), (0, .ref h0)]) hx hb dX11_goOn_31 hl (k := 0) rfl (by decide) (by decide) rfl (fun ls hl => ?_)
  refine lv_goto (tgt := 2) hx hb dX11_goOn_34 (by decide) ?_
  refine lv_iload_n hx hb dX11_goOn_2 rfl (lv_at hl 0 rfl) ?_
  refine lv_bipush (v := 15) hx hb dX11_goOn_3 (by decide) ?_
  refine lv_icmp_ge (tgt := 37) hx hb dX11_goOn_5 (by decide) (fun c => absurd c (by decide)) (fun _ => ?_)
  refine lv_aload_n hx hb dX11_goOn_8 rfl (lv_at hl 1 rfl) ?_
  refine va_get (D := (dC, dI)) (ci := 11) (v := .ref rs) (C := RX11) (T := TX11) (N := 24) hx hb hts hnX11 hown hK hP 2 rfl rfl 14 (by decide) hf39 (fun _ h9 => h9) rfl dX11_goOn_9 ?_
  refine lv_iload_n hx hb dX11_goOn_12 rfl (lv_at hl 0 rfl) ?_
  refine lv_aload_n hx hb dX11_goOn_13 rfl (lv_at hl 1 rfl) ?_
  refine lv_iload_n hx hb dX11_goOn_14 rfl (lv_at hl 0 rfl) ?_
  have hPc := hP.sub (ws' := [(h0, .inr (11, [.ref rz, .int 0, .int 0, .ref rf, .ref rl, .ref rwx, .ref rb, .int 0, .ref rwd, .ref rk, .ref ra, .int 0, .int 32, .int 0, .ref rs, .ref rt, .int 0, .int 0, .ref rwr, .ref rp, .ref rsi, .ref rke, .ref rkc, .ref rik])), (rz, .inl (cyI, 2490, .inl (yz t 1)))]) [2, 3] rfl
  have hDc := hD.sub (ws' := [(h0, .inr (11, [.ref rz, .int 0, .int 0, .ref rf, .ref rl, .ref rwx, .ref rb, .int 0, .ref rwd, .ref rk, .ref ra, .int 0, .int 32, .int 0, .ref rs, .ref rt, .int 0, .int 0, .ref rwr, .ref rp, .ref rsi, .ref rke, .ref rkc, .ref rik])), (rz, .inl (cyI, 2490, .inl (yz t 1)))]) [2, 3] (by decide) rfl
  refine yy_calli [2, 3] [0, 1] (wr := [(rs, .inl (cyI, 15, .inl yR)), (rt, .inl (cyI, 15, .inl yR))]) (va_runV (As := [.int 12]) (rest := [.int 12, .ref rs]) ⟨hx, hb, hml, hown, hts⟩ (rS_X11_seen_132 l dC dI cyI cyZ cyO H.size h0 rz rf rl rwx rb rwd rk ra rs rt rwr rp rsi rke rkc rik t ) (cwV 1 hts gX11_goOn_X11_seen rfl rfl rfl (by decide +kernel) ⟨Nat.le_of_ble_eq_true rfl, Nat.le_of_ble_eq_true rfl⟩) (yPreV hK hPc hDc (ci := 11) (q0 := 0) rfl rfl) rfl rfl hl.1 rfl (lv_room (Nat.le_of_ble_eq_true rfl)) dX11_goOn_15 ⟨Nat.le_of_ble_eq_true rfl, Nat.le_of_ble_eq_true rfl⟩) hP hD hS hA rfl rfl (by decide) (by decide) (fun r_26 u_25 H locs hw hP hD hS => ?_)
  have hP : va_P (dC, dI) vwCl [(rs, .inl (cyI, 15, .inl yR)), (rt, .inl (cyI, 15, .inl yR)), (h0, .inr (11, [.ref rz, .int 0, .int 0, .ref rf, .ref rl, .ref rwx, .ref rb, .int 0, .ref rwd, .ref rk, .ref ra, .int 0, .int 32, .int 0, .ref rs, .ref rt, .int 0, .int 0, .ref rwr, .ref rp, .ref rsi, .ref rke, .ref rkc, .ref rik])), (rz, .inl (cyI, 2490, .inl (yz t 1)))] H := hP
  have hD : va_D A [(rs, .inl (cyI, 15, .inl yR)), (rt, .inl (cyI, 15, .inl yR)), (h0, .inr (11, [.ref rz, .int 0, .int 0, .ref rf, .ref rl, .ref rwx, .ref rb, .int 0, .ref rwd, .ref rk, .ref ra, .int 0, .int 32, .int 0, .ref rs, .ref rt, .int 0, .int 0, .ref rwr, .ref rp, .ref rsi, .ref rke, .ref rkc, .ref rik])), (rz, .inl (cyI, 2490, .inl (yz t 1)))] := hD
  refine W.widen (k := 0) (n := 0) (Nat.le_of_ble_eq_true rfl) (Nat.le_of_ble_eq_true rfl) ?_
  have hw : r_26 = 0 := hw
  subst hw
  refine yy_iast (f' := yR) hx hb hK hP hD hS 0 0 rfl rfl (yin (by decide)) dX11_goOn_18 (yid rfl) (fun H locs hP hD hS => ?_)
  have hP : va_P (dC, dI) vwCl [(rs, .inl (cyI, 15, .inl yR)), (rt, .inl (cyI, 15, .inl yR)), (h0, .inr (11, [.ref rz, .int 0, .int 0, .ref rf, .ref rl, .ref rwx, .ref rb, .int 0, .ref rwd, .ref rk, .ref ra, .int 0, .int 32, .int 0, .ref rs, .ref rt, .int 0, .int 0, .ref rwr, .ref rp, .ref rsi, .ref rke, .ref rkc, .ref rik])), (rz, .inl (cyI, 2490, .inl (yz t 1)))] H := hP
  have hD : va_D A [(rs, .inl (cyI, 15, .inl yR)), (rt, .inl (cyI, 15, .inl yR)), (h0, .inr (11, [.ref rz, .int 0, .int 0, .ref rf, .ref rl, .ref rwx, .ref rb, .int 0, .ref rwd, .ref rk, .ref ra, .int 0, .int 32, .int 0, .ref rs, .ref rt, .int 0, .int 0, .ref rwr, .ref rp, .ref rsi, .ref rke, .ref rkc, .ref rik])), (rz, .inl (cyI, 2490, .inl (yz t 1)))] := hD
  refine lv_aload_n hx hb dX11_goOn_19 rfl (lv_at hl 1 rfl) ?_
  refine va_get (D := (dC, dI)) (ci := 11) (v := .ref rt) (C := RX11) (T := TX11) (N := 24) hx hb hts hnX11 hown hK hP 2 rfl rfl 15 (by decide) hf42 (fun _ h9 => h9) rfl dX11_goOn_20 ?_
  refine lv_iload_n hx hb dX11_goOn_23 rfl (lv_at hl 0 rfl) ?_
  refine lv_aload_n hx hb dX11_goOn_24 rfl (lv_at hl 1 rfl) ?_
  refine va_get (D := (dC, dI)) (ci := 11) (v := .ref rz) (C := RX11) (T := TX11) (N := 24) hx hb hts hnX11 hown hK hP 2 rfl rfl 0 (by decide) hf7 (fun _ h9 => h9) rfl dX11_goOn_25 ?_
  refine lv_iload_n hx hb dX11_goOn_28 rfl (lv_at hl 0 rfl) ?_
  refine yy_iald (v := 0) hx hb hK hP 3 0 rfl rfl (yin (by decide)) dX11_goOn_29 rfl ?_
  refine yy_iast (f' := yR) hx hb hK hP hD hS 1 0 rfl rfl (yin (by decide)) dX11_goOn_30 (yid rfl) (fun H locs hP hD hS => ?_)
  have hP : va_P (dC, dI) vwCl [(rs, .inl (cyI, 15, .inl yR)), (rt, .inl (cyI, 15, .inl yR)), (h0, .inr (11, [.ref rz, .int 0, .int 0, .ref rf, .ref rl, .ref rwx, .ref rb, .int 0, .ref rwd, .ref rk, .ref ra, .int 0, .int 32, .int 0, .ref rs, .ref rt, .int 0, .int 0, .ref rwr, .ref rp, .ref rsi, .ref rke, .ref rkc, .ref rik])), (rz, .inl (cyI, 2490, .inl (yz t 1)))] H := hP
  have hD : va_D A [(rs, .inl (cyI, 15, .inl yR)), (rt, .inl (cyI, 15, .inl yR)), (h0, .inr (11, [.ref rz, .int 0, .int 0, .ref rf, .ref rl, .ref rwx, .ref rb, .int 0, .ref rwd, .ref rk, .ref ra, .int 0, .int 32, .int 0, .ref rs, .ref rt, .int 0, .int 0, .ref rwr, .ref rp, .ref rsi, .ref rke, .ref rkc, .ref rik])), (rz, .inl (cyI, 2490, .inl (yz t 1)))] := hD
  refine lv_iinc (v := 13) (lv' := [(1, .int 13), (0, .ref h0)]) hx hb dX11_goOn_31 hl (k := 0) rfl (by decide) (by decide) rfl (fun ls hl => ?_)
  refine lv_goto (tgt := 2) hx hb dX11_goOn_34 (by decide) ?_
  refine lv_iload_n hx hb dX11_goOn_2 rfl (lv_at hl 0 rfl) ?_
  refine lv_bipush (v := 15) hx hb dX11_goOn_3 (by decide) ?_
  refine lv_icmp_ge (tgt := 37) hx hb dX11_goOn_5 (by decide) (fun c => absurd c (by decide)) (fun _ => ?_)
  refine lv_aload_n hx hb dX11_goOn_8 rfl (lv_at hl 1 rfl) ?_
  refine va_get (D := (dC, dI)) (ci := 11) (v := .ref rs) (C := RX11) (T := TX11) (N := 24) hx hb hts hnX11 hown hK hP 2 rfl rfl 14 (by decide) hf39 (fun _ h9 => h9) rfl dX11_goOn_9 ?_
  refine lv_iload_n hx hb dX11_goOn_12 rfl (lv_at hl 0 rfl) ?_
  refine lv_aload_n hx hb dX11_goOn_13 rfl (lv_at hl 1 rfl) ?_
  refine lv_iload_n hx hb dX11_goOn_14 rfl (lv_at hl 0 rfl) ?_
  have hPc := hP.sub (ws' := [(h0, .inr (11, [.ref rz, .int 0, .int 0, .ref rf, .ref rl, .ref rwx, .ref rb, .int 0, .ref rwd, .ref rk, .ref ra, .int 0, .int 32, .int 0, .ref rs, .ref rt, .int 0, .int 0, .ref rwr, .ref rp, .ref rsi, .ref rke, .ref rkc, .ref rik])), (rz, .inl (cyI, 2490, .inl (yz t 1)))]) [2, 3] rfl
  have hDc := hD.sub (ws' := [(h0, .inr (11, [.ref rz, .int 0, .int 0, .ref rf, .ref rl, .ref rwx, .ref rb, .int 0, .ref rwd, .ref rk, .ref ra, .int 0, .int 32, .int 0, .ref rs, .ref rt, .int 0, .int 0, .ref rwr, .ref rp, .ref rsi, .ref rke, .ref rkc, .ref rik])), (rz, .inl (cyI, 2490, .inl (yz t 1)))]) [2, 3] (by decide) rfl
  refine yy_calli [2, 3] [0, 1] (wr := [(rs, .inl (cyI, 15, .inl yR)), (rt, .inl (cyI, 15, .inl yR))]) (va_runV (As := [.int 13]) (rest := [.int 13, .ref rs]) ⟨hx, hb, hml, hown, hts⟩ (rS_X11_seen_133 l dC dI cyI cyZ cyO H.size h0 rz rf rl rwx rb rwd rk ra rs rt rwr rp rsi rke rkc rik t ) (cwV 1 hts gX11_goOn_X11_seen rfl rfl rfl (by decide +kernel) ⟨Nat.le_of_ble_eq_true rfl, Nat.le_of_ble_eq_true rfl⟩) (yPreV hK hPc hDc (ci := 11) (q0 := 0) rfl rfl) rfl rfl hl.1 rfl (lv_room (Nat.le_of_ble_eq_true rfl)) dX11_goOn_15 ⟨Nat.le_of_ble_eq_true rfl, Nat.le_of_ble_eq_true rfl⟩) hP hD hS hA rfl rfl (by decide) (by decide) (fun r_28 u_27 H locs hw hP hD hS => ?_)
  have hP : va_P (dC, dI) vwCl [(rs, .inl (cyI, 15, .inl yR)), (rt, .inl (cyI, 15, .inl yR)), (h0, .inr (11, [.ref rz, .int 0, .int 0, .ref rf, .ref rl, .ref rwx, .ref rb, .int 0, .ref rwd, .ref rk, .ref ra, .int 0, .int 32, .int 0, .ref rs, .ref rt, .int 0, .int 0, .ref rwr, .ref rp, .ref rsi, .ref rke, .ref rkc, .ref rik])), (rz, .inl (cyI, 2490, .inl (yz t 1)))] H := hP
  have hD : va_D A [(rs, .inl (cyI, 15, .inl yR)), (rt, .inl (cyI, 15, .inl yR)), (h0, .inr (11, [.ref rz, .int 0, .int 0, .ref rf, .ref rl, .ref rwx, .ref rb, .int 0, .ref rwd, .ref rk, .ref ra, .int 0, .int 32, .int 0, .ref rs, .ref rt, .int 0, .int 0, .ref rwr, .ref rp, .ref rsi, .ref rke, .ref rkc, .ref rik])), (rz, .inl (cyI, 2490, .inl (yz t 1)))] := hD
  refine W.widen (k := 0) (n := 0) (Nat.le_of_ble_eq_true rfl) (Nat.le_of_ble_eq_true rfl) ?_
  have hw : r_28 = 0 := hw
  subst hw
  refine yy_iast (f' := yR) hx hb hK hP hD hS 0 0 rfl rfl (yin (by decide)) dX11_goOn_18 (yid rfl) (fun H locs hP hD hS => ?_)
  have hP : va_P (dC, dI) vwCl [(rs, .inl (cyI, 15, .inl yR)), (rt, .inl (cyI, 15, .inl yR)), (h0, .inr (11, [.ref rz, .int 0, .int 0, .ref rf, .ref rl, .ref rwx, .ref rb, .int 0, .ref rwd, .ref rk, .ref ra, .int 0, .int 32, .int 0, .ref rs, .ref rt, .int 0, .int 0, .ref rwr, .ref rp, .ref rsi, .ref rke, .ref rkc, .ref rik])), (rz, .inl (cyI, 2490, .inl (yz t 1)))] H := hP
  have hD : va_D A [(rs, .inl (cyI, 15, .inl yR)), (rt, .inl (cyI, 15, .inl yR)), (h0, .inr (11, [.ref rz, .int 0, .int 0, .ref rf, .ref rl, .ref rwx, .ref rb, .int 0, .ref rwd, .ref rk, .ref ra, .int 0, .int 32, .int 0, .ref rs, .ref rt, .int 0, .int 0, .ref rwr, .ref rp, .ref rsi, .ref rke, .ref rkc, .ref rik])), (rz, .inl (cyI, 2490, .inl (yz t 1)))] := hD
  refine lv_aload_n hx hb dX11_goOn_19 rfl (lv_at hl 1 rfl) ?_
  refine va_get (D := (dC, dI)) (ci := 11) (v := .ref rt) (C := RX11) (T := TX11) (N := 24) hx hb hts hnX11 hown hK hP 2 rfl rfl 15 (by decide) hf42 (fun _ h9 => h9) rfl dX11_goOn_20 ?_
  refine lv_iload_n hx hb dX11_goOn_23 rfl (lv_at hl 0 rfl) ?_
  refine lv_aload_n hx hb dX11_goOn_24 rfl (lv_at hl 1 rfl) ?_
  refine va_get (D := (dC, dI)) (ci := 11) (v := .ref rz) (C := RX11) (T := TX11) (N := 24) hx hb hts hnX11 hown hK hP 2 rfl rfl 0 (by decide) hf7 (fun _ h9 => h9) rfl dX11_goOn_25 ?_
  refine lv_iload_n hx hb dX11_goOn_28 rfl (lv_at hl 0 rfl) ?_
  refine yy_iald (v := 0) hx hb hK hP 3 0 rfl rfl (yin (by decide)) dX11_goOn_29 rfl ?_
  refine yy_iast (f' := yR) hx hb hK hP hD hS 1 0 rfl rfl (yin (by decide)) dX11_goOn_30 (yid rfl) (fun H locs hP hD hS => ?_)
  have hP : va_P (dC, dI) vwCl [(rs, .inl (cyI, 15, .inl yR)), (rt, .inl (cyI, 15, .inl yR)), (h0, .inr (11, [.ref rz, .int 0, .int 0, .ref rf, .ref rl, .ref rwx, .ref rb, .int 0, .ref rwd, .ref rk, .ref ra, .int 0, .int 32, .int 0, .ref rs, .ref rt, .int 0, .int 0, .ref rwr, .ref rp, .ref rsi, .ref rke, .ref rkc, .ref rik])), (rz, .inl (cyI, 2490, .inl (yz t 1)))] H := hP
  have hD : va_D A [(rs, .inl (cyI, 15, .inl yR)), (rt, .inl (cyI, 15, .inl yR)), (h0, .inr (11, [.ref rz, .int 0, .int 0, .ref rf, .ref rl, .ref rwx, .ref rb, .int 0, .ref rwd, .ref rk, .ref ra, .int 0, .int 32, .int 0, .ref rs, .ref rt, .int 0, .int 0, .ref rwr, .ref rp, .ref rsi, .ref rke, .ref rkc, .ref rik])), (rz, .inl (cyI, 2490, .inl (yz t 1)))] := hD
  refine lv_iinc (v := 14) (lv' := [(1, .int 14), (0, .ref h0)]) hx hb dX11_goOn_31 hl (k := 0) rfl (by decide) (by decide) rfl (fun ls hl => ?_)
  refine lv_goto (tgt := 2) hx hb dX11_goOn_34 (by decide) ?_
  refine lv_iload_n hx hb dX11_goOn_2 rfl (lv_at hl 0 rfl) ?_
  refine lv_bipush (v := 15) hx hb dX11_goOn_3 (by decide) ?_
  refine lv_icmp_ge (tgt := 37) hx hb dX11_goOn_5 (by decide) (fun c => absurd c (by decide)) (fun _ => ?_)
  refine lv_aload_n hx hb dX11_goOn_8 rfl (lv_at hl 1 rfl) ?_
  refine va_get (D := (dC, dI)) (ci := 11) (v := .ref rs) (C := RX11) (T := TX11) (N := 24) hx hb hts hnX11 hown hK hP 2 rfl rfl 14 (by decide) hf39 (fun _ h9 => h9) rfl dX11_goOn_9 ?_
  refine lv_iload_n hx hb dX11_goOn_12 rfl (lv_at hl 0 rfl) ?_
  refine lv_aload_n hx hb dX11_goOn_13 rfl (lv_at hl 1 rfl) ?_
  refine lv_iload_n hx hb dX11_goOn_14 rfl (lv_at hl 0 rfl) ?_
  have hPc := hP.sub (ws' := [(h0, .inr (11, [.ref rz, .int 0, .int 0, .ref rf, .ref rl, .ref rwx, .ref rb, .int 0, .ref rwd, .ref rk, .ref ra, .int 0, .int 32, .int 0, .ref rs, .ref rt, .int 0, .int 0, .ref rwr, .ref rp, .ref rsi, .ref rke, .ref rkc, .ref rik])), (rz, .inl (cyI, 2490, .inl (yz t 1)))]) [2, 3] rfl
  have hDc := hD.sub (ws' := [(h0, .inr (11, [.ref rz, .int 0, .int 0, .ref rf, .ref rl, .ref rwx, .ref rb, .int 0, .ref rwd, .ref rk, .ref ra, .int 0, .int 32, .int 0, .ref rs, .ref rt, .int 0, .int 0, .ref rwr, .ref rp, .ref rsi, .ref rke, .ref rkc, .ref rik])), (rz, .inl (cyI, 2490, .inl (yz t 1)))]) [2, 3] (by decide) rfl
  refine yy_calli [2, 3] [0, 1] (wr := [(rs, .inl (cyI, 15, .inl yR)), (rt, .inl (cyI, 15, .inl yR))]) (va_runV (As := [.int 14]) (rest := [.int 14, .ref rs]) ⟨hx, hb, hml, hown, hts⟩ (rS_X11_seen_134 l dC dI cyI cyZ cyO H.size h0 rz rf rl rwx rb rwd rk ra rs rt rwr rp rsi rke rkc rik t ) (cwV 1 hts gX11_goOn_X11_seen rfl rfl rfl (by decide +kernel) ⟨Nat.le_of_ble_eq_true rfl, Nat.le_of_ble_eq_true rfl⟩) (yPreV hK hPc hDc (ci := 11) (q0 := 0) rfl rfl) rfl rfl hl.1 rfl (lv_room (Nat.le_of_ble_eq_true rfl)) dX11_goOn_15 ⟨Nat.le_of_ble_eq_true rfl, Nat.le_of_ble_eq_true rfl⟩) hP hD hS hA rfl rfl (by decide) (by decide) (fun r_30 u_29 H locs hw hP hD hS => ?_)
  have hP : va_P (dC, dI) vwCl [(rs, .inl (cyI, 15, .inl yR)), (rt, .inl (cyI, 15, .inl yR)), (h0, .inr (11, [.ref rz, .int 0, .int 0, .ref rf, .ref rl, .ref rwx, .ref rb, .int 0, .ref rwd, .ref rk, .ref ra, .int 0, .int 32, .int 0, .ref rs, .ref rt, .int 0, .int 0, .ref rwr, .ref rp, .ref rsi, .ref rke, .ref rkc, .ref rik])), (rz, .inl (cyI, 2490, .inl (yz t 1)))] H := hP
  have hD : va_D A [(rs, .inl (cyI, 15, .inl yR)), (rt, .inl (cyI, 15, .inl yR)), (h0, .inr (11, [.ref rz, .int 0, .int 0, .ref rf, .ref rl, .ref rwx, .ref rb, .int 0, .ref rwd, .ref rk, .ref ra, .int 0, .int 32, .int 0, .ref rs, .ref rt, .int 0, .int 0, .ref rwr, .ref rp, .ref rsi, .ref rke, .ref rkc, .ref rik])), (rz, .inl (cyI, 2490, .inl (yz t 1)))] := hD
  refine W.widen (k := 0) (n := 0) (Nat.le_of_ble_eq_true rfl) (Nat.le_of_ble_eq_true rfl) ?_
  have hw : r_30 = 0 := hw
  subst hw
  refine yy_iast (f' := yR) hx hb hK hP hD hS 0 0 rfl rfl (yin (by decide)) dX11_goOn_18 (yid rfl) (fun H locs hP hD hS => ?_)
  have hP : va_P (dC, dI) vwCl [(rs, .inl (cyI, 15, .inl yR)), (rt, .inl (cyI, 15, .inl yR)), (h0, .inr (11, [.ref rz, .int 0, .int 0, .ref rf, .ref rl, .ref rwx, .ref rb, .int 0, .ref rwd, .ref rk, .ref ra, .int 0, .int 32, .int 0, .ref rs, .ref rt, .int 0, .int 0, .ref rwr, .ref rp, .ref rsi, .ref rke, .ref rkc, .ref rik])), (rz, .inl (cyI, 2490, .inl (yz t 1)))] H := hP
  have hD : va_D A [(rs, .inl (cyI, 15, .inl yR)), (rt, .inl (cyI, 15, .inl yR)), (h0, .inr (11, [.ref rz, .int 0, .int 0, .ref rf, .ref rl, .ref rwx, .ref rb, .int 0, .ref rwd, .ref rk, .ref ra, .int 0, .int 32, .int 0, .ref rs, .ref rt, .int 0, .int 0, .ref rwr, .ref rp, .ref rsi, .ref rke, .ref rkc, .ref rik])), (rz, .inl (cyI, 2490, .inl (yz t 1)))] := hD
  refine lv_aload_n hx hb dX11_goOn_19 rfl (lv_at hl 1 rfl) ?_
  refine va_get (D := (dC, dI)) (ci := 11) (v := .ref rt) (C := RX11) (T := TX11) (N := 24) hx hb hts hnX11 hown hK hP 2 rfl rfl 15 (by decide) hf42 (fun _ h9 => h9) rfl dX11_goOn_20 ?_
  refine lv_iload_n hx hb dX11_goOn_23 rfl (lv_at hl 0 rfl) ?_
  refine lv_aload_n hx hb dX11_goOn_24 rfl (lv_at hl 1 rfl) ?_
  refine va_get (D := (dC, dI)) (ci := 11) (v := .ref rz) (C := RX11) (T := TX11) (N := 24) hx hb hts hnX11 hown hK hP 2 rfl rfl 0 (by decide) hf7 (fun _ h9 => h9) rfl dX11_goOn_25 ?_
  refine lv_iload_n hx hb dX11_goOn_28 rfl (lv_at hl 0 rfl) ?_
  refine yy_iald (v := 0) hx hb hK hP 3 0 rfl rfl (yin (by decide)) dX11_goOn_29 rfl ?_
  refine yy_iast (f' := yR) hx hb hK hP hD hS 1 0 rfl rfl (yin (by decide)) dX11_goOn_30 (yid rfl) (fun H locs hP hD hS => ?_)
  have hP : va_P (dC, dI) vwCl [(rs, .inl (cyI, 15, .inl yR)), (rt, .inl (cyI, 15, .inl yR)), (h0, .inr (11, [.ref rz, .int 0, .int 0, .ref rf, .ref rl, .ref rwx, .ref rb, .int 0, .ref rwd, .ref rk, .ref ra, .int 0, .int 32, .int 0, .ref rs, .ref rt, .int 0, .int 0, .ref rwr, .ref rp, .ref rsi, .ref rke, .ref rkc, .ref rik])), (rz, .inl (cyI, 2490, .inl (yz t 1)))] H := hP
  have hD : va_D A [(rs, .inl (cyI, 15, .inl yR)), (rt, .inl (cyI, 15, .inl yR)), (h0, .inr (11, [.ref rz, .int 0, .int 0, .ref rf, .ref rl, .ref rwx, .ref rb, .int 0, .ref rwd, .ref rk, .ref ra, .int 0, .int 32, .int 0, .ref rs, .ref rt, .int 0, .int 0, .ref rwr, .ref rp, .ref rsi, .ref rke, .ref rkc, .ref rik])), (rz, .inl (cyI, 2490, .inl (yz t 1)))] := hD
  refine lv_iinc (v := 15) (lv' := [(1, .int 15), (0, .ref h0)]) hx hb dX11_goOn_31 hl (k := 0) rfl (by decide) (by decide) rfl (fun ls hl => ?_)
  refine lv_goto (tgt := 2) hx hb dX11_goOn_34 (by decide) ?_
  refine lv_iload_n hx hb dX11_goOn_2 rfl (lv_at hl 0 rfl) ?_
  refine lv_bipush (v := 15) hx hb dX11_goOn_3 (by decide) ?_
  refine lv_icmp_ge (tgt := 37) hx hb dX11_goOn_5 (by decide) (fun _ => ?_) (fun c => absurd (by decide) c)
  refine lv_aload_n hx hb dX11_goOn_37 rfl (lv_at hl 1 rfl) ?_
  have hPc := hP.sub (ws' := [(h0, .inr (11, [.ref rz, .int 0, .int 0, .ref rf, .ref rl, .ref rwx, .ref rb, .int 0, .ref rwd, .ref rk, .ref ra, .int 0, .int 32, .int 0, .ref rs, .ref rt, .int 0, .int 0, .ref rwr, .ref rp, .ref rsi, .ref rke, .ref rkc, .ref rik])), (rz, .inl (cyI, 2490, .inl (yz t 1))), (rs, .inl (cyI, 15, .inl yR))]) [2, 3, 0] rfl
  have hDc := hD.sub (ws' := [(h0, .inr (11, [.ref rz, .int 0, .int 0, .ref rf, .ref rl, .ref rwx, .ref rb, .int 0, .ref rwd, .ref rk, .ref ra, .int 0, .int 32, .int 0, .ref rs, .ref rt, .int 0, .int 0, .ref rwr, .ref rp, .ref rsi, .ref rke, .ref rkc, .ref rik])), (rz, .inl (cyI, 2490, .inl (yz t 1))), (rs, .inl (cyI, 15, .inl yR))]) [2, 3, 0] (by decide) rfl
  refine yy_callv [2, 3, 0] [1] (wr := [(rt, .inl (cyI, 15, .inl yR))]) (va_runV (As := []) (rest := []) ⟨hx, hb, hml, hown, hts⟩ (rS_X11_judge_142 l dC dI cyI cyZ cyO H.size h0 rz rf rl rwx rb rwd rk ra rs rt rwr rp rsi rke rkc rik t (by first | assumption | decide)) (cwV 0 hts gX11_goOn_X11_judge rfl rfl rfl (by decide +kernel) ⟨Nat.le_of_ble_eq_true rfl, Nat.le_of_ble_eq_true rfl⟩) (yPreV hK hPc hDc (ci := 11) (q0 := 0) rfl rfl) rfl rfl hl.1 rfl (lv_room (Nat.le_of_ble_eq_true rfl)) dX11_goOn_38 ⟨Nat.le_of_ble_eq_true rfl, Nat.le_of_ble_eq_true rfl⟩) hP hD hS hA rfl rfl (by decide) (by decide) (fun u_31 H locs hw hP hD hS => ?_)
  have hP : va_P (dC, dI) vwCl [(rt, .inl (cyI, 15, .inl yR)), (h0, .inr (11, [.ref rz, .int 0, .int 0, .ref rf, .ref rl, .ref rwx, .ref rb, .int 0, .ref rwd, .ref rk, .ref ra, .int 0, .int 32, .int 0, .ref rs, .ref rt, .int 0, .int 0, .ref rwr, .ref rp, .ref rsi, .ref rke, .ref rkc, .ref rik])), (rz, .inl (cyI, 2490, .inl (yz t 1))), (rs, .inl (cyI, 15, .inl yR))] H := hP
  have hD : va_D A [(rt, .inl (cyI, 15, .inl yR)), (h0, .inr (11, [.ref rz, .int 0, .int 0, .ref rf, .ref rl, .ref rwx, .ref rb, .int 0, .ref rwd, .ref rk, .ref ra, .int 0, .int 32, .int 0, .ref rs, .ref rt, .int 0, .int 0, .ref rwr, .ref rp, .ref rsi, .ref rke, .ref rkc, .ref rik])), (rz, .inl (cyI, 2490, .inl (yz t 1))), (rs, .inl (cyI, 15, .inl yR))] := hD
  refine W.widen (k := 0) (n := 0) (Nat.le_of_ble_eq_true rfl) (Nat.le_of_ble_eq_true rfl) ?_
  refine lv_aload_n hx hb dX11_goOn_41 rfl (lv_at hl 1 rfl) ?_
  have hPc := hP.sub (ws' := [(h0, .inr (11, [.ref rz, .int 0, .int 0, .ref rf, .ref rl, .ref rwx, .ref rb, .int 0, .ref rwd, .ref rk, .ref ra, .int 0, .int 32, .int 0, .ref rs, .ref rt, .int 0, .int 0, .ref rwr, .ref rp, .ref rsi, .ref rke, .ref rkc, .ref rik])), (rz, .inl (cyI, 2490, .inl (yz t 1))), (rs, .inl (cyI, 15, .inl yR)), (rt, .inl (cyI, 15, .inl yR))]) [1, 2, 3, 0] rfl
  have hDc := hD.sub (ws' := [(h0, .inr (11, [.ref rz, .int 0, .int 0, .ref rf, .ref rl, .ref rwx, .ref rb, .int 0, .ref rwd, .ref rk, .ref ra, .int 0, .int 32, .int 0, .ref rs, .ref rt, .int 0, .int 0, .ref rwr, .ref rp, .ref rsi, .ref rke, .ref rkc, .ref rik])), (rz, .inl (cyI, 2490, .inl (yz t 1))), (rs, .inl (cyI, 15, .inl yR)), (rt, .inl (cyI, 15, .inl yR))]) [1, 2, 3, 0] (by decide) rfl
  refine yy_callv [1, 2, 3, 0] [] (wr := []) (va_runV (As := []) (rest := []) ⟨hx, hb, hml, hown, hts⟩ (rS_X11_master_144 l dC dI cyI cyZ cyO H.size h0 rz rf rl rwx rb rwd rk ra rs rt rwr rp rsi rke rkc rik t ) (cwV 0 hts gX11_goOn_X11_master rfl rfl rfl (by decide +kernel) ⟨Nat.le_of_ble_eq_true rfl, Nat.le_of_ble_eq_true rfl⟩) (yPreV hK hPc hDc (ci := 11) (q0 := 0) rfl rfl) rfl rfl hl.1 rfl (lv_room (Nat.le_of_ble_eq_true rfl)) dX11_goOn_42 ⟨Nat.le_of_ble_eq_true rfl, Nat.le_of_ble_eq_true rfl⟩) hP hD hS hA rfl rfl (by decide) (by decide) (fun u_32 H locs hw hP hD hS => ?_)
  have hP : va_P (dC, dI) vwCl [(h0, .inr (11, [.ref rz, .int 0, .int 0, .ref rf, .ref rl, .ref rwx, .ref rb, .int 0, .ref rwd, .ref rk, .ref ra, .int 0, .int 32, .int 0, .ref rs, .ref rt, .int 0, .int 0, .ref rwr, .ref rp, .ref rsi, .ref rke, .ref rkc, .ref rik])), (rz, .inl (cyI, 2490, .inl (yz t 1))), (rs, .inl (cyI, 15, .inl yR)), (rt, .inl (cyI, 15, .inl yR))] H := hP
  have hD : va_D A [(h0, .inr (11, [.ref rz, .int 0, .int 0, .ref rf, .ref rl, .ref rwx, .ref rb, .int 0, .ref rwd, .ref rk, .ref ra, .int 0, .int 32, .int 0, .ref rs, .ref rt, .int 0, .int 0, .ref rwr, .ref rp, .ref rsi, .ref rke, .ref rkc, .ref rik])), (rz, .inl (cyI, 2490, .inl (yz t 1))), (rs, .inl (cyI, 15, .inl yR)), (rt, .inl (cyI, 15, .inl yR))] := hD
  refine W.widen (k := 0) (n := 0) (Nat.le_of_ble_eq_true rfl) (Nat.le_of_ble_eq_true rfl) ?_
  refine lv_aload_n hx hb dX11_goOn_45 rfl (lv_at hl 1 rfl) ?_
  have hPc := hP.sub (ws' := [(h0, .inr (11, [.ref rz, .int 0, .int 0, .ref rf, .ref rl, .ref rwx, .ref rb, .int 0, .ref rwd, .ref rk, .ref ra, .int 0, .int 32, .int 0, .ref rs, .ref rt, .int 0, .int 0, .ref rwr, .ref rp, .ref rsi, .ref rke, .ref rkc, .ref rik])), (rz, .inl (cyI, 2490, .inl (yz t 1)))]) [0, 1] rfl
  have hDc := hD.sub (ws' := [(h0, .inr (11, [.ref rz, .int 0, .int 0, .ref rf, .ref rl, .ref rwx, .ref rb, .int 0, .ref rwd, .ref rk, .ref ra, .int 0, .int 32, .int 0, .ref rs, .ref rt, .int 0, .int 0, .ref rwr, .ref rp, .ref rsi, .ref rke, .ref rkc, .ref rik])), (rz, .inl (cyI, 2490, .inl (yz t 1)))]) [0, 1] (by decide) rfl
  refine yy_callv [0, 1] [2, 3] (wr := [(rs, .inl (cyI, 15, .inl yR)), (rt, .inl (cyI, 15, .inl yR))]) (va_runV (As := []) (rest := []) ⟨hx, hb, hml, hown, hts⟩ (rS_X11_lower_145 l dC dI cyI cyZ cyO H.size h0 rz rf rl rwx rb rwd rk ra rs rt rwr rp rsi rke rkc rik t ) (cwV 0 hts gX11_goOn_X11_lower rfl rfl rfl (by decide +kernel) ⟨Nat.le_of_ble_eq_true rfl, Nat.le_of_ble_eq_true rfl⟩) (yPreV hK hPc hDc (ci := 11) (q0 := 0) rfl rfl) rfl rfl hl.1 rfl (lv_room (Nat.le_of_ble_eq_true rfl)) dX11_goOn_46 ⟨Nat.le_of_ble_eq_true rfl, Nat.le_of_ble_eq_true rfl⟩) hP hD hS hA rfl rfl (by decide) (by decide) (fun u_33 H locs hw hP hD hS => ?_)
  have hP : va_P (dC, dI) vwCl [(rs, .inl (cyI, 15, .inl yR)), (rt, .inl (cyI, 15, .inl yR)), (h0, .inr (11, [.ref rz, .int 0, .int 0, .ref rf, .ref rl, .ref rwx, .ref rb, .int 0, .ref rwd, .ref rk, .ref ra, .int 0, .int 32, .int 0, .ref rs, .ref rt, .int 0, .int 0, .ref rwr, .ref rp, .ref rsi, .ref rke, .ref rkc, .ref rik])), (rz, .inl (cyI, 2490, .inl (yz t 1)))] H := hP
  have hD : va_D A [(rs, .inl (cyI, 15, .inl yR)), (rt, .inl (cyI, 15, .inl yR)), (h0, .inr (11, [.ref rz, .int 0, .int 0, .ref rf, .ref rl, .ref rwx, .ref rb, .int 0, .ref rwd, .ref rk, .ref ra, .int 0, .int 32, .int 0, .ref rs, .ref rt, .int 0, .int 0, .ref rwr, .ref rp, .ref rsi, .ref rke, .ref rkc, .ref rik])), (rz, .inl (cyI, 2490, .inl (yz t 1)))] := hD
  refine W.widen (k := 0) (n := 0) (Nat.le_of_ble_eq_true rfl) (Nat.le_of_ble_eq_true rfl) ?_
  refine lv_aload_n hx hb dX11_goOn_49 rfl (lv_at hl 1 rfl) ?_
  have hPc := hP.sub (ws' := [(h0, .inr (11, [.ref rz, .int 0, .int 0, .ref rf, .ref rl, .ref rwx, .ref rb, .int 0, .ref rwd, .ref rk, .ref ra, .int 0, .int 32, .int 0, .ref rs, .ref rt, .int 0, .int 0, .ref rwr, .ref rp, .ref rsi, .ref rke, .ref rkc, .ref rik])), (rz, .inl (cyI, 2490, .inl (yz t 1))), (rs, .inl (cyI, 15, .inl yR)), (rt, .inl (cyI, 15, .inl yR))]) [2, 3, 0, 1] rfl
  have hDc := hD.sub (ws' := [(h0, .inr (11, [.ref rz, .int 0, .int 0, .ref rf, .ref rl, .ref rwx, .ref rb, .int 0, .ref rwd, .ref rk, .ref ra, .int 0, .int 32, .int 0, .ref rs, .ref rt, .int 0, .int 0, .ref rwr, .ref rp, .ref rsi, .ref rke, .ref rkc, .ref rik])), (rz, .inl (cyI, 2490, .inl (yz t 1))), (rs, .inl (cyI, 15, .inl yR)), (rt, .inl (cyI, 15, .inl yR))]) [2, 3, 0, 1] (by decide) rfl
  refine yy_callv [2, 3, 0, 1] [] (wr := []) (va_runV (As := []) (rest := []) ⟨hx, hb, hml, hown, hts⟩ (rS_X11_bridge_147 l dC dI cyI cyZ cyO H.size h0 rz rf rl rwx rb rwd rk ra rs rt rwr rp rsi rke rkc rik t ) (cwV 0 hts gX11_goOn_X11_bridge rfl rfl rfl (by decide +kernel) ⟨Nat.le_of_ble_eq_true rfl, Nat.le_of_ble_eq_true rfl⟩) (yPreV hK hPc hDc (ci := 11) (q0 := 0) rfl rfl) rfl rfl hl.1 rfl (lv_room (Nat.le_of_ble_eq_true rfl)) dX11_goOn_50 ⟨Nat.le_of_ble_eq_true rfl, Nat.le_of_ble_eq_true rfl⟩) hP hD hS hA rfl rfl (by decide) (by decide) (fun u_34 H locs hw hP hD hS => ?_)
  have hP : va_P (dC, dI) vwCl [(h0, .inr (11, [.ref rz, .int 0, .int 0, .ref rf, .ref rl, .ref rwx, .ref rb, .int 0, .ref rwd, .ref rk, .ref ra, .int 0, .int 32, .int 0, .ref rs, .ref rt, .int 0, .int 0, .ref rwr, .ref rp, .ref rsi, .ref rke, .ref rkc, .ref rik])), (rz, .inl (cyI, 2490, .inl (yz t 1))), (rs, .inl (cyI, 15, .inl yR)), (rt, .inl (cyI, 15, .inl yR))] H := hP
  have hD : va_D A [(h0, .inr (11, [.ref rz, .int 0, .int 0, .ref rf, .ref rl, .ref rwx, .ref rb, .int 0, .ref rwd, .ref rk, .ref ra, .int 0, .int 32, .int 0, .ref rs, .ref rt, .int 0, .int 0, .ref rwr, .ref rp, .ref rsi, .ref rke, .ref rkc, .ref rik])), (rz, .inl (cyI, 2490, .inl (yz t 1))), (rs, .inl (cyI, 15, .inl yR)), (rt, .inl (cyI, 15, .inl yR))] := hD
  refine W.widen (k := 0) (n := 0) (Nat.le_of_ble_eq_true rfl) (Nat.le_of_ble_eq_true rfl) ?_
  refine lv_aload_n hx hb dX11_goOn_53 rfl (lv_at hl 1 rfl) ?_
  have hPc := hP.sub (ws' := [(h0, .inr (11, [.ref rz, .int 0, .int 0, .ref rf, .ref rl, .ref rwx, .ref rb, .int 0, .ref rwd, .ref rk, .ref ra, .int 0, .int 32, .int 0, .ref rs, .ref rt, .int 0, .int 0, .ref rwr, .ref rp, .ref rsi, .ref rke, .ref rkc, .ref rik])), (rz, .inl (cyI, 2490, .inl (yz t 1)))]) [0, 1] rfl
  have hDc := hD.sub (ws' := [(h0, .inr (11, [.ref rz, .int 0, .int 0, .ref rf, .ref rl, .ref rwx, .ref rb, .int 0, .ref rwd, .ref rk, .ref ra, .int 0, .int 32, .int 0, .ref rs, .ref rt, .int 0, .int 0, .ref rwr, .ref rp, .ref rsi, .ref rke, .ref rkc, .ref rik])), (rz, .inl (cyI, 2490, .inl (yz t 1)))]) [0, 1] (by decide) rfl
  refine yy_callv [0, 1] [2, 3] (wr := [(rs, .inl (cyI, 15, .inl yR)), (rt, .inl (cyI, 15, .inl yR))]) (va_runV (As := []) (rest := []) ⟨hx, hb, hml, hown, hts⟩ (rS_X11_act_148 l dC dI cyI cyZ cyO H.size h0 rz rf rl rwx rb rwd rk ra rs rt rwr rp rsi rke rkc rik t ) (cwV 0 hts gX11_goOn_X11_act rfl rfl rfl (by decide +kernel) ⟨Nat.le_of_ble_eq_true rfl, Nat.le_of_ble_eq_true rfl⟩) (yPreV hK hPc hDc (ci := 11) (q0 := 0) rfl rfl) rfl rfl hl.1 rfl (lv_room (Nat.le_of_ble_eq_true rfl)) dX11_goOn_54 ⟨Nat.le_of_ble_eq_true rfl, Nat.le_of_ble_eq_true rfl⟩) hP hD hS hA rfl rfl (by decide) (by decide) (fun u_35 H locs hw hP hD hS => ?_)
  have hP : va_P (dC, dI) vwCl [(rs, .inl (cyI, 15, .inl yR)), (rt, .inl (cyI, 15, .inl yR)), (h0, .inr (11, [.ref rz, .int 0, .int 0, .ref rf, .ref rl, .ref rwx, .ref rb, .int 0, .ref rwd, .ref rk, .ref ra, .int 0, .int 32, .int 0, .ref rs, .ref rt, .int 0, .int 0, .ref rwr, .ref rp, .ref rsi, .ref rke, .ref rkc, .ref rik])), (rz, .inl (cyI, 2490, .inl (yz t 1)))] H := hP
  have hD : va_D A [(rs, .inl (cyI, 15, .inl yR)), (rt, .inl (cyI, 15, .inl yR)), (h0, .inr (11, [.ref rz, .int 0, .int 0, .ref rf, .ref rl, .ref rwx, .ref rb, .int 0, .ref rwd, .ref rk, .ref ra, .int 0, .int 32, .int 0, .ref rs, .ref rt, .int 0, .int 0, .ref rwr, .ref rp, .ref rsi, .ref rke, .ref rkc, .ref rik])), (rz, .inl (cyI, 2490, .inl (yz t 1)))] := hD
  refine W.widen (k := 0) (n := 0) (Nat.le_of_ble_eq_true rfl) (Nat.le_of_ble_eq_true rfl) ?_
  refine lv_aload_n hx hb dX11_goOn_57 rfl (lv_at hl 1 rfl) ?_
  have hPc := hP.sub (ws' := [(h0, .inr (11, [.ref rz, .int 0, .int 0, .ref rf, .ref rl, .ref rwx, .ref rb, .int 0, .ref rwd, .ref rk, .ref ra, .int 0, .int 32, .int 0, .ref rs, .ref rt, .int 0, .int 0, .ref rwr, .ref rp, .ref rsi, .ref rke, .ref rkc, .ref rik])), (rt, .inl (cyI, 15, .inl yR))]) [2, 1] rfl
  have hDc := hD.sub (ws' := [(h0, .inr (11, [.ref rz, .int 0, .int 0, .ref rf, .ref rl, .ref rwx, .ref rb, .int 0, .ref rwd, .ref rk, .ref ra, .int 0, .int 32, .int 0, .ref rs, .ref rt, .int 0, .int 0, .ref rwr, .ref rp, .ref rsi, .ref rke, .ref rkc, .ref rik])), (rt, .inl (cyI, 15, .inl yR))]) [2, 1] (by decide) rfl
  refine yy_callv [2, 1] [0, 3] (wr := [(rs, .inl (cyI, 15, .inl yR)), (rz, .inl (cyI, 2490, .inl (yz t 1)))]) (va_runV (As := []) (rest := []) ⟨hx, hb, hml, hown, hts⟩ (r0_X11_slavesGo_119 l dC dI cyI cyZ cyO H.size h0 rz rf rl rwx rb rwd rk ra rs rt rwr rp rsi rke rkc rik ) (cwV 0 hts gX11_goOn_X11_slavesGo rfl rfl rfl (by decide +kernel) ⟨Nat.le_of_ble_eq_true rfl, Nat.le_of_ble_eq_true rfl⟩) (yPreV hK hPc hDc (ci := 11) (q0 := 0) rfl rfl) rfl rfl hl.1 rfl (lv_room (Nat.le_of_ble_eq_true rfl)) dX11_goOn_58 ⟨Nat.le_of_ble_eq_true rfl, Nat.le_of_ble_eq_true rfl⟩) hP hD hS hA rfl rfl (by decide) (by decide) (fun u_36 H locs hw hP hD hS => ?_)
  have hP : va_P (dC, dI) vwCl [(rs, .inl (cyI, 15, .inl yR)), (rz, .inl (cyI, 2490, .inl (yz t 1))), (h0, .inr (11, [.ref rz, .int 0, .int 0, .ref rf, .ref rl, .ref rwx, .ref rb, .int 0, .ref rwd, .ref rk, .ref ra, .int 0, .int 32, .int 0, .ref rs, .ref rt, .int 0, .int 0, .ref rwr, .ref rp, .ref rsi, .ref rke, .ref rkc, .ref rik])), (rt, .inl (cyI, 15, .inl yR))] H := hP
  have hD : va_D A [(rs, .inl (cyI, 15, .inl yR)), (rz, .inl (cyI, 2490, .inl (yz t 1))), (h0, .inr (11, [.ref rz, .int 0, .int 0, .ref rf, .ref rl, .ref rwx, .ref rb, .int 0, .ref rwd, .ref rk, .ref ra, .int 0, .int 32, .int 0, .ref rs, .ref rt, .int 0, .int 0, .ref rwr, .ref rp, .ref rsi, .ref rke, .ref rkc, .ref rik])), (rt, .inl (cyI, 15, .inl yR))] := hD
  refine W.widen (k := 0) (n := 0) (Nat.le_of_ble_eq_true rfl) (Nat.le_of_ble_eq_true rfl) ?_
  refine lv_iconst (v := 0) hx hb dX11_goOn_61 (by decide) ?_
  refine lv_istore_n (lv' := [(1, .int 0), (0, .ref h0)]) hx hb dX11_goOn_62 rfl hl (by decide) rfl (fun ls hl => ?_)
  refine lv_iload_n hx hb dX11_goOn_63 rfl (lv_at hl 0 rfl) ?_
  refine lv_bipush (v := 15) hx hb dX11_goOn_64 (by decide) ?_
  refine lv_icmp_ge (tgt := 102) hx hb dX11_goOn_66 (by decide) (fun c => absurd c (by decide)) (fun _ => ?_)
  refine lv_aload_n hx hb dX11_goOn_69 rfl (lv_at hl 1 rfl) ?_
  refine va_get (D := (dC, dI)) (ci := 11) (v := .ref rz) (C := RX11) (T := TX11) (N := 24) hx hb hts hnX11 hown hK hP 2 rfl rfl 0 (by decide) hf7 (fun _ h9 => h9) rfl dX11_goOn_70 ?_
  refine lv_bipush (v := 15) hx hb dX11_goOn_73 (by decide) ?_
  refine lv_iload_n hx hb dX11_goOn_75 rfl (lv_at hl 0 rfl) ?_
  refine lv_iadd hx hb dX11_goOn_76 ?_
  refine yy_int (v := 15) (by decide) ?_
  refine lv_aload_n hx hb dX11_goOn_77 rfl (lv_at hl 1 rfl) ?_
  refine va_get (D := (dC, dI)) (ci := 11) (v := .ref rs) (C := RX11) (T := TX11) (N := 24) hx hb hts hnX11 hown hK hP 2 rfl rfl 14 (by decide) hf39 (fun _ h9 => h9) rfl dX11_goOn_78 ?_
  refine lv_iload_n hx hb dX11_goOn_81 rfl (lv_at hl 0 rfl) ?_
  refine yy_iald (v := 0) hx hb hK hP 0 0 rfl rfl (yin (by decide)) dX11_goOn_82 rfl ?_
  refine yy_iast (f' := (yz t 1)) hx hb hK hP hD hS 1 0 rfl rfl (yin (by decide)) dX11_goOn_83 (yid rfl) (fun H locs hP hD hS => ?_)
  have hP : va_P (dC, dI) vwCl [(rs, .inl (cyI, 15, .inl yR)), (rz, .inl (cyI, 2490, .inl (yz t 1))), (h0, .inr (11, [.ref rz, .int 0, .int 0, .ref rf, .ref rl, .ref rwx, .ref rb, .int 0, .ref rwd, .ref rk, .ref ra, .int 0, .int 32, .int 0, .ref rs, .ref rt, .int 0, .int 0, .ref rwr, .ref rp, .ref rsi, .ref rke, .ref rkc, .ref rik])), (rt, .inl (cyI, 15, .inl yR))] H := hP
  have hD : va_D A [(rs, .inl (cyI, 15, .inl yR)), (rz, .inl (cyI, 2490, .inl (yz t 1))), (h0, .inr (11, [.ref rz, .int 0, .int 0, .ref rf, .ref rl, .ref rwx, .ref rb, .int 0, .ref rwd, .ref rk, .ref ra, .int 0, .int 32, .int 0, .ref rs, .ref rt, .int 0, .int 0, .ref rwr, .ref rp, .ref rsi, .ref rke, .ref rkc, .ref rik])), (rt, .inl (cyI, 15, .inl yR))] := hD
  refine lv_aload_n hx hb dX11_goOn_84 rfl (lv_at hl 1 rfl) ?_
  refine va_get (D := (dC, dI)) (ci := 11) (v := .ref rz) (C := RX11) (T := TX11) (N := 24) hx hb hts hnX11 hown hK hP 2 rfl rfl 0 (by decide) hf7 (fun _ h9 => h9) rfl dX11_goOn_85 ?_
  refine lv_iload_n hx hb dX11_goOn_88 rfl (lv_at hl 0 rfl) ?_
  refine lv_aload_n hx hb dX11_goOn_89 rfl (lv_at hl 1 rfl) ?_
  refine va_get (D := (dC, dI)) (ci := 11) (v := .ref rt) (C := RX11) (T := TX11) (N := 24) hx hb hts hnX11 hown hK hP 2 rfl rfl 15 (by decide) hf42 (fun _ h9 => h9) rfl dX11_goOn_90 ?_
  refine lv_iload_n hx hb dX11_goOn_93 rfl (lv_at hl 0 rfl) ?_
  refine yy_iald (v := 0) hx hb hK hP 3 0 rfl rfl (yin (by decide)) dX11_goOn_94 rfl ?_
  refine yy_iast (f' := (yz t 1)) hx hb hK hP hD hS 1 0 rfl rfl (yin (by decide)) dX11_goOn_95 (yid rfl) (fun H locs hP hD hS => ?_)
  have hP : va_P (dC, dI) vwCl [(rs, .inl (cyI, 15, .inl yR)), (rz, .inl (cyI, 2490, .inl (yz t 1))), (h0, .inr (11, [.ref rz, .int 0, .int 0, .ref rf, .ref rl, .ref rwx, .ref rb, .int 0, .ref rwd, .ref rk, .ref ra, .int 0, .int 32, .int 0, .ref rs, .ref rt, .int 0, .int 0, .ref rwr, .ref rp, .ref rsi, .ref rke, .ref rkc, .ref rik])), (rt, .inl (cyI, 15, .inl yR))] H := hP
  have hD : va_D A [(rs, .inl (cyI, 15, .inl yR)), (rz, .inl (cyI, 2490, .inl (yz t 1))), (h0, .inr (11, [.ref rz, .int 0, .int 0, .ref rf, .ref rl, .ref rwx, .ref rb, .int 0, .ref rwd, .ref rk, .ref ra, .int 0, .int 32, .int 0, .ref rs, .ref rt, .int 0, .int 0, .ref rwr, .ref rp, .ref rsi, .ref rke, .ref rkc, .ref rik])), (rt, .inl (cyI, 15, .inl yR))] := hD
  refine lv_iinc (v := 1) (lv' := [(1, .int 1), (0, .ref h0)]) hx hb dX11_goOn_96 hl (k := 0) rfl (by decide) (by decide) rfl (fun ls hl => ?_)
  refine lv_goto (tgt := 63) hx hb dX11_goOn_99 (by decide) ?_
  refine lv_iload_n hx hb dX11_goOn_63 rfl (lv_at hl 0 rfl) ?_
  refine lv_bipush (v := 15) hx hb dX11_goOn_64 (by decide) ?_
  refine lv_icmp_ge (tgt := 102) hx hb dX11_goOn_66 (by decide) (fun c => absurd c (by decide)) (fun _ => ?_)
  refine lv_aload_n hx hb dX11_goOn_69 rfl (lv_at hl 1 rfl) ?_
  refine va_get (D := (dC, dI)) (ci := 11) (v := .ref rz) (C := RX11) (T := TX11) (N := 24) hx hb hts hnX11 hown hK hP 2 rfl rfl 0 (by decide) hf7 (fun _ h9 => h9) rfl dX11_goOn_70 ?_
  refine lv_bipush (v := 15) hx hb dX11_goOn_73 (by decide) ?_
  refine lv_iload_n hx hb dX11_goOn_75 rfl (lv_at hl 0 rfl) ?_
  refine lv_iadd hx hb dX11_goOn_76 ?_
  refine yy_int (v := 16) (by decide) ?_
  refine lv_aload_n hx hb dX11_goOn_77 rfl (lv_at hl 1 rfl) ?_
  refine va_get (D := (dC, dI)) (ci := 11) (v := .ref rs) (C := RX11) (T := TX11) (N := 24) hx hb hts hnX11 hown hK hP 2 rfl rfl 14 (by decide) hf39 (fun _ h9 => h9) rfl dX11_goOn_78 ?_
  refine lv_iload_n hx hb dX11_goOn_81 rfl (lv_at hl 0 rfl) ?_
  refine yy_iald (v := 0) hx hb hK hP 0 0 rfl rfl (yin (by decide)) dX11_goOn_82 rfl ?_
  refine yy_iast (f' := (yz t 1)) hx hb hK hP hD hS 1 0 rfl rfl (yin (by decide)) dX11_goOn_83 (yid rfl) (fun H locs hP hD hS => ?_)
  have hP : va_P (dC, dI) vwCl [(rs, .inl (cyI, 15, .inl yR)), (rz, .inl (cyI, 2490, .inl (yz t 1))), (h0, .inr (11, [.ref rz, .int 0, .int 0, .ref rf, .ref rl, .ref rwx, .ref rb, .int 0, .ref rwd, .ref rk, .ref ra, .int 0, .int 32, .int 0, .ref rs, .ref rt, .int 0, .int 0, .ref rwr, .ref rp, .ref rsi, .ref rke, .ref rkc, .ref rik])), (rt, .inl (cyI, 15, .inl yR))] H := hP
  have hD : va_D A [(rs, .inl (cyI, 15, .inl yR)), (rz, .inl (cyI, 2490, .inl (yz t 1))), (h0, .inr (11, [.ref rz, .int 0, .int 0, .ref rf, .ref rl, .ref rwx, .ref rb, .int 0, .ref rwd, .ref rk, .ref ra, .int 0, .int 32, .int 0, .ref rs, .ref rt, .int 0, .int 0, .ref rwr, .ref rp, .ref rsi, .ref rke, .ref rkc, .ref rik])), (rt, .inl (cyI, 15, .inl yR))] := hD
  refine lv_aload_n hx hb dX11_goOn_84 rfl (lv_at hl 1 rfl) ?_
  refine va_get (D := (dC, dI)) (ci := 11) (v := .ref rz) (C := RX11) (T := TX11) (N := 24) hx hb hts hnX11 hown hK hP 2 rfl rfl 0 (by decide) hf7 (fun _ h9 => h9) rfl dX11_goOn_85 ?_
  refine lv_iload_n hx hb dX11_goOn_88 rfl (lv_at hl 0 rfl) ?_
  refine lv_aload_n hx hb dX11_goOn_89 rfl (lv_at hl 1 rfl) ?_
  refine va_get (D := (dC, dI)) (ci := 11) (v := .ref rt) (C := RX11) (T := TX11) (N := 24) hx hb hts hnX11 hown hK hP 2 rfl rfl 15 (by decide) hf42 (fun _ h9 => h9) rfl dX11_goOn_90 ?_
  refine lv_iload_n hx hb dX11_goOn_93 rfl (lv_at hl 0 rfl) ?_
  refine yy_iald (v := 0) hx hb hK hP 3 0 rfl rfl (yin (by decide)) dX11_goOn_94 rfl ?_
  refine yy_iast (f' := (yz t 1)) hx hb hK hP hD hS 1 0 rfl rfl (yin (by decide)) dX11_goOn_95 (yid rfl) (fun H locs hP hD hS => ?_)
  have hP : va_P (dC, dI) vwCl [(rs, .inl (cyI, 15, .inl yR)), (rz, .inl (cyI, 2490, .inl (yz t 1))), (h0, .inr (11, [.ref rz, .int 0, .int 0, .ref rf, .ref rl, .ref rwx, .ref rb, .int 0, .ref rwd, .ref rk, .ref ra, .int 0, .int 32, .int 0, .ref rs, .ref rt, .int 0, .int 0, .ref rwr, .ref rp, .ref rsi, .ref rke, .ref rkc, .ref rik])), (rt, .inl (cyI, 15, .inl yR))] H := hP
  have hD : va_D A [(rs, .inl (cyI, 15, .inl yR)), (rz, .inl (cyI, 2490, .inl (yz t 1))), (h0, .inr (11, [.ref rz, .int 0, .int 0, .ref rf, .ref rl, .ref rwx, .ref rb, .int 0, .ref rwd, .ref rk, .ref ra, .int 0, .int 32, .int 0, .ref rs, .ref rt, .int 0, .int 0, .ref rwr, .ref rp, .ref rsi, .ref rke, .ref rkc, .ref rik])), (rt, .inl (cyI, 15, .inl yR))] := hD
  refine lv_iinc (v := 2) (lv' := [(1, .int 2), (0, .ref h0)]) hx hb dX11_goOn_96 hl (k := 0) rfl (by decide) (by decide) rfl (fun ls hl => ?_)
  refine lv_goto (tgt := 63) hx hb dX11_goOn_99 (by decide) ?_
  refine lv_iload_n hx hb dX11_goOn_63 rfl (lv_at hl 0 rfl) ?_
  refine lv_bipush (v := 15) hx hb dX11_goOn_64 (by decide) ?_
  refine lv_icmp_ge (tgt := 102) hx hb dX11_goOn_66 (by decide) (fun c => absurd c (by decide)) (fun _ => ?_)
  refine lv_aload_n hx hb dX11_goOn_69 rfl (lv_at hl 1 rfl) ?_
  refine va_get (D := (dC, dI)) (ci := 11) (v := .ref rz) (C := RX11) (T := TX11) (N := 24) hx hb hts hnX11 hown hK hP 2 rfl rfl 0 (by decide) hf7 (fun _ h9 => h9) rfl dX11_goOn_70 ?_
  refine lv_bipush (v := 15) hx hb dX11_goOn_73 (by decide) ?_
  refine lv_iload_n hx hb dX11_goOn_75 rfl (lv_at hl 0 rfl) ?_
  refine lv_iadd hx hb dX11_goOn_76 ?_
  refine yy_int (v := 17) (by decide) ?_
  refine lv_aload_n hx hb dX11_goOn_77 rfl (lv_at hl 1 rfl) ?_
  refine va_get (D := (dC, dI)) (ci := 11) (v := .ref rs) (C := RX11) (T := TX11) (N := 24) hx hb hts hnX11 hown hK hP 2 rfl rfl 14 (by decide) hf39 (fun _ h9 => h9) rfl dX11_goOn_78 ?_
  refine lv_iload_n hx hb dX11_goOn_81 rfl (lv_at hl 0 rfl) ?_
  refine yy_iald (v := 0) hx hb hK hP 0 0 rfl rfl (yin (by decide)) dX11_goOn_82 rfl ?_
  refine yy_iast (f' := (yz t 1)) hx hb hK hP hD hS 1 0 rfl rfl (yin (by decide)) dX11_goOn_83 (yid rfl) (fun H locs hP hD hS => ?_)
  have hP : va_P (dC, dI) vwCl [(rs, .inl (cyI, 15, .inl yR)), (rz, .inl (cyI, 2490, .inl (yz t 1))), (h0, .inr (11, [.ref rz, .int 0, .int 0, .ref rf, .ref rl, .ref rwx, .ref rb, .int 0, .ref rwd, .ref rk, .ref ra, .int 0, .int 32, .int 0, .ref rs, .ref rt, .int 0, .int 0, .ref rwr, .ref rp, .ref rsi, .ref rke, .ref rkc, .ref rik])), (rt, .inl (cyI, 15, .inl yR))] H := hP
  have hD : va_D A [(rs, .inl (cyI, 15, .inl yR)), (rz, .inl (cyI, 2490, .inl (yz t 1))), (h0, .inr (11, [.ref rz, .int 0, .int 0, .ref rf, .ref rl, .ref rwx, .ref rb, .int 0, .ref rwd, .ref rk, .ref ra, .int 0, .int 32, .int 0, .ref rs, .ref rt, .int 0, .int 0, .ref rwr, .ref rp, .ref rsi, .ref rke, .ref rkc, .ref rik])), (rt, .inl (cyI, 15, .inl yR))] := hD
  refine lv_aload_n hx hb dX11_goOn_84 rfl (lv_at hl 1 rfl) ?_
  refine va_get (D := (dC, dI)) (ci := 11) (v := .ref rz) (C := RX11) (T := TX11) (N := 24) hx hb hts hnX11 hown hK hP 2 rfl rfl 0 (by decide) hf7 (fun _ h9 => h9) rfl dX11_goOn_85 ?_
  refine lv_iload_n hx hb dX11_goOn_88 rfl (lv_at hl 0 rfl) ?_
  refine lv_aload_n hx hb dX11_goOn_89 rfl (lv_at hl 1 rfl) ?_
  refine va_get (D := (dC, dI)) (ci := 11) (v := .ref rt) (C := RX11) (T := TX11) (N := 24) hx hb hts hnX11 hown hK hP 2 rfl rfl 15 (by decide) hf42 (fun _ h9 => h9) rfl dX11_goOn_90 ?_
  refine lv_iload_n hx hb dX11_goOn_93 rfl (lv_at hl 0 rfl) ?_
  refine yy_iald (v := 0) hx hb hK hP 3 0 rfl rfl (yin (by decide)) dX11_goOn_94 rfl ?_
  refine yy_iast (f' := (yz t 1)) hx hb hK hP hD hS 1 0 rfl rfl (yin (by decide)) dX11_goOn_95 (yid rfl) (fun H locs hP hD hS => ?_)
  have hP : va_P (dC, dI) vwCl [(rs, .inl (cyI, 15, .inl yR)), (rz, .inl (cyI, 2490, .inl (yz t 1))), (h0, .inr (11, [.ref rz, .int 0, .int 0, .ref rf, .ref rl, .ref rwx, .ref rb, .int 0, .ref rwd, .ref rk, .ref ra, .int 0, .int 32, .int 0, .ref rs, .ref rt, .int 0, .int 0, .ref rwr, .ref rp, .ref rsi, .ref rke, .ref rkc, .ref rik])), (rt, .inl (cyI, 15, .inl yR))] H := hP
  have hD : va_D A [(rs, .inl (cyI, 15, .inl yR)), (rz, .inl (cyI, 2490, .inl (yz t 1))), (h0, .inr (11, [.ref rz, .int 0, .int 0, .ref rf, .ref rl, .ref rwx, .ref rb, .int 0, .ref rwd, .ref rk, .ref ra, .int 0, .int 32, .int 0, .ref rs, .ref rt, .int 0, .int 0, .ref rwr, .ref rp, .ref rsi, .ref rke, .ref rkc, .ref rik])), (rt, .inl (cyI, 15, .inl yR))] := hD
  refine lv_iinc (v := 3) (lv' := [(1, .int 3), (0, .ref h0)]) hx hb dX11_goOn_96 hl (k := 0) rfl (by decide) (by decide) rfl (fun ls hl => ?_)
  refine lv_goto (tgt := 63) hx hb dX11_goOn_99 (by decide) ?_
  refine lv_iload_n hx hb dX11_goOn_63 rfl (lv_at hl 0 rfl) ?_
  refine lv_bipush (v := 15) hx hb dX11_goOn_64 (by decide) ?_
  refine lv_icmp_ge (tgt := 102) hx hb dX11_goOn_66 (by decide) (fun c => absurd c (by decide)) (fun _ => ?_)
  refine lv_aload_n hx hb dX11_goOn_69 rfl (lv_at hl 1 rfl) ?_
  refine va_get (D := (dC, dI)) (ci := 11) (v := .ref rz) (C := RX11) (T := TX11) (N := 24) hx hb hts hnX11 hown hK hP 2 rfl rfl 0 (by decide) hf7 (fun _ h9 => h9) rfl dX11_goOn_70 ?_
  refine lv_bipush (v := 15) hx hb dX11_goOn_73 (by decide) ?_
  refine lv_iload_n hx hb dX11_goOn_75 rfl (lv_at hl 0 rfl) ?_
  refine lv_iadd hx hb dX11_goOn_76 ?_
  refine yy_int (v := 18) (by decide) ?_
  refine lv_aload_n hx hb dX11_goOn_77 rfl (lv_at hl 1 rfl) ?_
  refine va_get (D := (dC, dI)) (ci := 11) (v := .ref rs) (C := RX11) (T := TX11) (N := 24) hx hb hts hnX11 hown hK hP 2 rfl rfl 14 (by decide) hf39 (fun _ h9 => h9) rfl dX11_goOn_78 ?_
  refine lv_iload_n hx hb dX11_goOn_81 rfl (lv_at hl 0 rfl) ?_
  refine yy_iald (v := 0) hx hb hK hP 0 0 rfl rfl (yin (by decide)) dX11_goOn_82 rfl ?_
  refine yy_iast (f' := (yz t 1)) hx hb hK hP hD hS 1 0 rfl rfl (yin (by decide)) dX11_goOn_83 (yid rfl) (fun H locs hP hD hS => ?_)
  have hP : va_P (dC, dI) vwCl [(rs, .inl (cyI, 15, .inl yR)), (rz, .inl (cyI, 2490, .inl (yz t 1))), (h0, .inr (11, [.ref rz, .int 0, .int 0, .ref rf, .ref rl, .ref rwx, .ref rb, .int 0, .ref rwd, .ref rk, .ref ra, .int 0, .int 32, .int 0, .ref rs, .ref rt, .int 0, .int 0, .ref rwr, .ref rp, .ref rsi, .ref rke, .ref rkc, .ref rik])), (rt, .inl (cyI, 15, .inl yR))] H := hP
  have hD : va_D A [(rs, .inl (cyI, 15, .inl yR)), (rz, .inl (cyI, 2490, .inl (yz t 1))), (h0, .inr (11, [.ref rz, .int 0, .int 0, .ref rf, .ref rl, .ref rwx, .ref rb, .int 0, .ref rwd, .ref rk, .ref ra, .int 0, .int 32, .int 0, .ref rs, .ref rt, .int 0, .int 0, .ref rwr, .ref rp, .ref rsi, .ref rke, .ref rkc, .ref rik])), (rt, .inl (cyI, 15, .inl yR))] := hD
  refine lv_aload_n hx hb dX11_goOn_84 rfl (lv_at hl 1 rfl) ?_
  refine va_get (D := (dC, dI)) (ci := 11) (v := .ref rz) (C := RX11) (T := TX11) (N := 24) hx hb hts hnX11 hown hK hP 2 rfl rfl 0 (by decide) hf7 (fun _ h9 => h9) rfl dX11_goOn_85 ?_
  refine lv_iload_n hx hb dX11_goOn_88 rfl (lv_at hl 0 rfl) ?_
  refine lv_aload_n hx hb dX11_goOn_89 rfl (lv_at hl 1 rfl) ?_
  refine va_get (D := (dC, dI)) (ci := 11) (v := .ref rt) (C := RX11) (T := TX11) (N := 24) hx hb hts hnX11 hown hK hP 2 rfl rfl 15 (by decide) hf42 (fun _ h9 => h9) rfl dX11_goOn_90 ?_
  refine lv_iload_n hx hb dX11_goOn_93 rfl (lv_at hl 0 rfl) ?_
  refine yy_iald (v := 0) hx hb hK hP 3 0 rfl rfl (yin (by decide)) dX11_goOn_94 rfl ?_
  refine yy_iast (f' := (yz t 1)) hx hb hK hP hD hS 1 0 rfl rfl (yin (by decide)) dX11_goOn_95 (yid rfl) (fun H locs hP hD hS => ?_)
  have hP : va_P (dC, dI) vwCl [(rs, .inl (cyI, 15, .inl yR)), (rz, .inl (cyI, 2490, .inl (yz t 1))), (h0, .inr (11, [.ref rz, .int 0, .int 0, .ref rf, .ref rl, .ref rwx, .ref rb, .int 0, .ref rwd, .ref rk, .ref ra, .int 0, .int 32, .int 0, .ref rs, .ref rt, .int 0, .int 0, .ref rwr, .ref rp, .ref rsi, .ref rke, .ref rkc, .ref rik])), (rt, .inl (cyI, 15, .inl yR))] H := hP
  have hD : va_D A [(rs, .inl (cyI, 15, .inl yR)), (rz, .inl (cyI, 2490, .inl (yz t 1))), (h0, .inr (11, [.ref rz, .int 0, .int 0, .ref rf, .ref rl, .ref rwx, .ref rb, .int 0, .ref rwd, .ref rk, .ref ra, .int 0, .int 32, .int 0, .ref rs, .ref rt, .int 0, .int 0, .ref rwr, .ref rp, .ref rsi, .ref rke, .ref rkc, .ref rik])), (rt, .inl (cyI, 15, .inl yR))] := hD
  refine lv_iinc (v := 4) (lv' := [(1, .int 4), (0, .ref h0)]) hx hb dX11_goOn_96 hl (k := 0) rfl (by decide) (by decide) rfl (fun ls hl => ?_)
  refine lv_goto (tgt := 63) hx hb dX11_goOn_99 (by decide) ?_
  refine lv_iload_n hx hb dX11_goOn_63 rfl (lv_at hl 0 rfl) ?_
  refine lv_bipush (v := 15) hx hb dX11_goOn_64 (by decide) ?_
  refine lv_icmp_ge (tgt := 102) hx hb dX11_goOn_66 (by decide) (fun c => absurd c (by decide)) (fun _ => ?_)
  refine lv_aload_n hx hb dX11_goOn_69 rfl (lv_at hl 1 rfl) ?_
  refine va_get (D := (dC, dI)) (ci := 11) (v := .ref rz) (C := RX11) (T := TX11) (N := 24) hx hb hts hnX11 hown hK hP 2 rfl rfl 0 (by decide) hf7 (fun _ h9 => h9) rfl dX11_goOn_70 ?_
  refine lv_bipush (v := 15) hx hb dX11_goOn_73 (by decide) ?_
  refine lv_iload_n hx hb dX11_goOn_75 rfl (lv_at hl 0 rfl) ?_
  refine lv_iadd hx hb dX11_goOn_76 ?_
  refine yy_int (v := 19) (by decide) ?_
  refine lv_aload_n hx hb dX11_goOn_77 rfl (lv_at hl 1 rfl) ?_
  refine va_get (D := (dC, dI)) (ci := 11) (v := .ref rs) (C := RX11) (T := TX11) (N := 24) hx hb hts hnX11 hown hK hP 2 rfl rfl 14 (by decide) hf39 (fun _ h9 => h9) rfl dX11_goOn_78 ?_
  refine lv_iload_n hx hb dX11_goOn_81 rfl (lv_at hl 0 rfl) ?_
  refine yy_iald (v := 1) hx hb hK hP 0 0 rfl rfl (yin (by decide)) dX11_goOn_82 rfl ?_
  refine yy_iast (f' := (yz t 1)) hx hb hK hP hD hS 1 0 rfl rfl (yin (by decide)) dX11_goOn_83 (yid rfl) (fun H locs hP hD hS => ?_)
  have hP : va_P (dC, dI) vwCl [(rs, .inl (cyI, 15, .inl yR)), (rz, .inl (cyI, 2490, .inl (yz t 1))), (h0, .inr (11, [.ref rz, .int 0, .int 0, .ref rf, .ref rl, .ref rwx, .ref rb, .int 0, .ref rwd, .ref rk, .ref ra, .int 0, .int 32, .int 0, .ref rs, .ref rt, .int 0, .int 0, .ref rwr, .ref rp, .ref rsi, .ref rke, .ref rkc, .ref rik])), (rt, .inl (cyI, 15, .inl yR))] H := hP
  have hD : va_D A [(rs, .inl (cyI, 15, .inl yR)), (rz, .inl (cyI, 2490, .inl (yz t 1))), (h0, .inr (11, [.ref rz, .int 0, .int 0, .ref rf, .ref rl, .ref rwx, .ref rb, .int 0, .ref rwd, .ref rk, .ref ra, .int 0, .int 32, .int 0, .ref rs, .ref rt, .int 0, .int 0, .ref rwr, .ref rp, .ref rsi, .ref rke, .ref rkc, .ref rik])), (rt, .inl (cyI, 15, .inl yR))] := hD
  refine lv_aload_n hx hb dX11_goOn_84 rfl (lv_at hl 1 rfl) ?_
  refine va_get (D := (dC, dI)) (ci := 11) (v := .ref rz) (C := RX11) (T := TX11) (N := 24) hx hb hts hnX11 hown hK hP 2 rfl rfl 0 (by decide) hf7 (fun _ h9 => h9) rfl dX11_goOn_85 ?_
  refine lv_iload_n hx hb dX11_goOn_88 rfl (lv_at hl 0 rfl) ?_
  refine lv_aload_n hx hb dX11_goOn_89 rfl (lv_at hl 1 rfl) ?_
  refine va_get (D := (dC, dI)) (ci := 11) (v := .ref rt) (C := RX11) (T := TX11) (N := 24) hx hb hts hnX11 hown hK hP 2 rfl rfl 15 (by decide) hf42 (fun _ h9 => h9) rfl dX11_goOn_90 ?_
  refine lv_iload_n hx hb dX11_goOn_93 rfl (lv_at hl 0 rfl) ?_
  refine yy_iald (v := 1) hx hb hK hP 3 0 rfl rfl (yin (by decide)) dX11_goOn_94 rfl ?_
  refine yy_iast (f' := (yz t 1)) hx hb hK hP hD hS 1 0 rfl rfl (yin (by decide)) dX11_goOn_95 (yid rfl) (fun H locs hP hD hS => ?_)
  have hP : va_P (dC, dI) vwCl [(rs, .inl (cyI, 15, .inl yR)), (rz, .inl (cyI, 2490, .inl (yz t 1))), (h0, .inr (11, [.ref rz, .int 0, .int 0, .ref rf, .ref rl, .ref rwx, .ref rb, .int 0, .ref rwd, .ref rk, .ref ra, .int 0, .int 32, .int 0, .ref rs, .ref rt, .int 0, .int 0, .ref rwr, .ref rp, .ref rsi, .ref rke, .ref rkc, .ref rik])), (rt, .inl (cyI, 15, .inl yR))] H := hP
  have hD : va_D A [(rs, .inl (cyI, 15, .inl yR)), (rz, .inl (cyI, 2490, .inl (yz t 1))), (h0, .inr (11, [.ref rz, .int 0, .int 0, .ref rf, .ref rl, .ref rwx, .ref rb, .int 0, .ref rwd, .ref rk, .ref ra, .int 0, .int 32, .int 0, .ref rs, .ref rt, .int 0, .int 0, .ref rwr, .ref rp, .ref rsi, .ref rke, .ref rkc, .ref rik])), (rt, .inl (cyI, 15, .inl yR))] := hD
  refine lv_iinc (v := 5) (lv' := [(1, .int 5), (0, .ref h0)]) hx hb dX11_goOn_96 hl (k := 0) rfl (by decide) (by decide) rfl (fun ls hl => ?_)
  refine lv_goto (tgt := 63) hx hb dX11_goOn_99 (by decide) ?_
  refine lv_iload_n hx hb dX11_goOn_63 rfl (lv_at hl 0 rfl) ?_
  refine lv_bipush (v := 15) hx hb dX11_goOn_64 (by decide) ?_
  refine lv_icmp_ge (tgt := 102) hx hb dX11_goOn_66 (by decide) (fun c => absurd c (by decide)) (fun _ => ?_)
  refine lv_aload_n hx hb dX11_goOn_69 rfl (lv_at hl 1 rfl) ?_
  refine va_get (D := (dC, dI)) (ci := 11) (v := .ref rz) (C := RX11) (T := TX11) (N := 24) hx hb hts hnX11 hown hK hP 2 rfl rfl 0 (by decide) hf7 (fun _ h9 => h9) rfl dX11_goOn_70 ?_
  refine lv_bipush (v := 15) hx hb dX11_goOn_73 (by decide) ?_
  refine lv_iload_n hx hb dX11_goOn_75 rfl (lv_at hl 0 rfl) ?_
  refine lv_iadd hx hb dX11_goOn_76 ?_
  refine yy_int (v := 20) (by decide) ?_
  refine lv_aload_n hx hb dX11_goOn_77 rfl (lv_at hl 1 rfl) ?_
  refine va_get (D := (dC, dI)) (ci := 11) (v := .ref rs) (C := RX11) (T := TX11) (N := 24) hx hb hts hnX11 hown hK hP 2 rfl rfl 14 (by decide) hf39 (fun _ h9 => h9) rfl dX11_goOn_78 ?_
  refine lv_iload_n hx hb dX11_goOn_81 rfl (lv_at hl 0 rfl) ?_
  refine yy_iald (v := 0) hx hb hK hP 0 0 rfl rfl (yin (by decide)) dX11_goOn_82 rfl ?_
  refine yy_iast (f' := (yz t 1)) hx hb hK hP hD hS 1 0 rfl rfl (yin (by decide)) dX11_goOn_83 (yid rfl) (fun H locs hP hD hS => ?_)
  have hP : va_P (dC, dI) vwCl [(rs, .inl (cyI, 15, .inl yR)), (rz, .inl (cyI, 2490, .inl (yz t 1))), (h0, .inr (11, [.ref rz, .int 0, .int 0, .ref rf, .ref rl, .ref rwx, .ref rb, .int 0, .ref rwd, .ref rk, .ref ra, .int 0, .int 32, .int 0, .ref rs, .ref rt, .int 0, .int 0, .ref rwr, .ref rp, .ref rsi, .ref rke, .ref rkc, .ref rik])), (rt, .inl (cyI, 15, .inl yR))] H := hP
  have hD : va_D A [(rs, .inl (cyI, 15, .inl yR)), (rz, .inl (cyI, 2490, .inl (yz t 1))), (h0, .inr (11, [.ref rz, .int 0, .int 0, .ref rf, .ref rl, .ref rwx, .ref rb, .int 0, .ref rwd, .ref rk, .ref ra, .int 0, .int 32, .int 0, .ref rs, .ref rt, .int 0, .int 0, .ref rwr, .ref rp, .ref rsi, .ref rke, .ref rkc, .ref rik])), (rt, .inl (cyI, 15, .inl yR))] := hD
  refine lv_aload_n hx hb dX11_goOn_84 rfl (lv_at hl 1 rfl) ?_
  refine va_get (D := (dC, dI)) (ci := 11) (v := .ref rz) (C := RX11) (T := TX11) (N := 24) hx hb hts hnX11 hown hK hP 2 rfl rfl 0 (by decide) hf7 (fun _ h9 => h9) rfl dX11_goOn_85 ?_
  refine lv_iload_n hx hb dX11_goOn_88 rfl (lv_at hl 0 rfl) ?_
  refine lv_aload_n hx hb dX11_goOn_89 rfl (lv_at hl 1 rfl) ?_
  refine va_get (D := (dC, dI)) (ci := 11) (v := .ref rt) (C := RX11) (T := TX11) (N := 24) hx hb hts hnX11 hown hK hP 2 rfl rfl 15 (by decide) hf42 (fun _ h9 => h9) rfl dX11_goOn_90 ?_
  refine lv_iload_n hx hb dX11_goOn_93 rfl (lv_at hl 0 rfl) ?_
  refine yy_iald (v := 0) hx hb hK hP 3 0 rfl rfl (yin (by decide)) dX11_goOn_94 rfl ?_
  refine yy_iast (f' := (yz t 1)) hx hb hK hP hD hS 1 0 rfl rfl (yin (by decide)) dX11_goOn_95 (yid rfl) (fun H locs hP hD hS => ?_)
  have hP : va_P (dC, dI) vwCl [(rs, .inl (cyI, 15, .inl yR)), (rz, .inl (cyI, 2490, .inl (yz t 1))), (h0, .inr (11, [.ref rz, .int 0, .int 0, .ref rf, .ref rl, .ref rwx, .ref rb, .int 0, .ref rwd, .ref rk, .ref ra, .int 0, .int 32, .int 0, .ref rs, .ref rt, .int 0, .int 0, .ref rwr, .ref rp, .ref rsi, .ref rke, .ref rkc, .ref rik])), (rt, .inl (cyI, 15, .inl yR))] H := hP
  have hD : va_D A [(rs, .inl (cyI, 15, .inl yR)), (rz, .inl (cyI, 2490, .inl (yz t 1))), (h0, .inr (11, [.ref rz, .int 0, .int 0, .ref rf, .ref rl, .ref rwx, .ref rb, .int 0, .ref rwd, .ref rk, .ref ra, .int 0, .int 32, .int 0, .ref rs, .ref rt, .int 0, .int 0, .ref rwr, .ref rp, .ref rsi, .ref rke, .ref rkc, .ref rik])), (rt, .inl (cyI, 15, .inl yR))] := hD
  refine lv_iinc (v := 6) (lv' := [(1, .int 6), (0, .ref h0)]) hx hb dX11_goOn_96 hl (k := 0) rfl (by decide) (by decide) rfl (fun ls hl => ?_)
  refine lv_goto (tgt := 63) hx hb dX11_goOn_99 (by decide) ?_
  refine lv_iload_n hx hb dX11_goOn_63 rfl (lv_at hl 0 rfl) ?_
  refine lv_bipush (v := 15) hx hb dX11_goOn_64 (by decide) ?_
  refine lv_icmp_ge (tgt := 102) hx hb dX11_goOn_66 (by decide) (fun c => absurd c (by decide)) (fun _ => ?_)
  refine lv_aload_n hx hb dX11_goOn_69 rfl (lv_at hl 1 rfl) ?_
  refine va_get (D := (dC, dI)) (ci := 11) (v := .ref rz) (C := RX11) (T := TX11) (N := 24) hx hb hts hnX11 hown hK hP 2 rfl rfl 0 (by decide) hf7 (fun _ h9 => h9) rfl dX11_goOn_70 ?_
  refine lv_bipush (v := 15) hx hb dX11_goOn_73 (by decide) ?_
  refine lv_iload_n hx hb dX11_goOn_75 rfl (lv_at hl 0 rfl) ?_
  refine lv_iadd hx hb dX11_goOn_76 ?_
  refine yy_int (v := 21) (by decide) ?_
  refine lv_aload_n hx hb dX11_goOn_77 rfl (lv_at hl 1 rfl) ?_
  refine va_get (D := (dC, dI)) (ci := 11) (v := .ref rs) (C := RX11) (T := TX11) (N := 24) hx hb hts hnX11 hown hK hP 2 rfl rfl 14 (by decide) hf39 (fun _ h9 => h9) rfl dX11_goOn_78 ?_
  refine lv_iload_n hx hb dX11_goOn_81 rfl (lv_at hl 0 rfl) ?_
  refine yy_iald (v := 0) hx hb hK hP 0 0 rfl rfl (yin (by decide)) dX11_goOn_82 rfl ?_
  refine yy_iast (f' := (yz t 1)) hx hb hK hP hD hS 1 0 rfl rfl (yin (by decide)) dX11_goOn_83 (yid rfl) (fun H locs hP hD hS => ?_)
  have hP : va_P (dC, dI) vwCl [(rs, .inl (cyI, 15, .inl yR)), (rz, .inl (cyI, 2490, .inl (yz t 1))), (h0, .inr (11, [.ref rz, .int 0, .int 0, .ref rf, .ref rl, .ref rwx, .ref rb, .int 0, .ref rwd, .ref rk, .ref ra, .int 0, .int 32, .int 0, .ref rs, .ref rt, .int 0, .int 0, .ref rwr, .ref rp, .ref rsi, .ref rke, .ref rkc, .ref rik])), (rt, .inl (cyI, 15, .inl yR))] H := hP
  have hD : va_D A [(rs, .inl (cyI, 15, .inl yR)), (rz, .inl (cyI, 2490, .inl (yz t 1))), (h0, .inr (11, [.ref rz, .int 0, .int 0, .ref rf, .ref rl, .ref rwx, .ref rb, .int 0, .ref rwd, .ref rk, .ref ra, .int 0, .int 32, .int 0, .ref rs, .ref rt, .int 0, .int 0, .ref rwr, .ref rp, .ref rsi, .ref rke, .ref rkc, .ref rik])), (rt, .inl (cyI, 15, .inl yR))] := hD
  refine lv_aload_n hx hb dX11_goOn_84 rfl (lv_at hl 1 rfl) ?_
  refine va_get (D := (dC, dI)) (ci := 11) (v := .ref rz) (C := RX11) (T := TX11) (N := 24) hx hb hts hnX11 hown hK hP 2 rfl rfl 0 (by decide) hf7 (fun _ h9 => h9) rfl dX11_goOn_85 ?_
  refine lv_iload_n hx hb dX11_goOn_88 rfl (lv_at hl 0 rfl) ?_
  refine lv_aload_n hx hb dX11_goOn_89 rfl (lv_at hl 1 rfl) ?_
  refine va_get (D := (dC, dI)) (ci := 11) (v := .ref rt) (C := RX11) (T := TX11) (N := 24) hx hb hts hnX11 hown hK hP 2 rfl rfl 15 (by decide) hf42 (fun _ h9 => h9) rfl dX11_goOn_90 ?_
  refine lv_iload_n hx hb dX11_goOn_93 rfl (lv_at hl 0 rfl) ?_
  refine yy_iald (v := 0) hx hb hK hP 3 0 rfl rfl (yin (by decide)) dX11_goOn_94 rfl ?_
  refine yy_iast (f' := (yz t 1)) hx hb hK hP hD hS 1 0 rfl rfl (yin (by decide)) dX11_goOn_95 (yid rfl) (fun H locs hP hD hS => ?_)
  have hP : va_P (dC, dI) vwCl [(rs, .inl (cyI, 15, .inl yR)), (rz, .inl (cyI, 2490, .inl (yz t 1))), (h0, .inr (11, [.ref rz, .int 0, .int 0, .ref rf, .ref rl, .ref rwx, .ref rb, .int 0, .ref rwd, .ref rk, .ref ra, .int 0, .int 32, .int 0, .ref rs, .ref rt, .int 0, .int 0, .ref rwr, .ref rp, .ref rsi, .ref rke, .ref rkc, .ref rik])), (rt, .inl (cyI, 15, .inl yR))] H := hP
  have hD : va_D A [(rs, .inl (cyI, 15, .inl yR)), (rz, .inl (cyI, 2490, .inl (yz t 1))), (h0, .inr (11, [.ref rz, .int 0, .int 0, .ref rf, .ref rl, .ref rwx, .ref rb, .int 0, .ref rwd, .ref rk, .ref ra, .int 0, .int 32, .int 0, .ref rs, .ref rt, .int 0, .int 0, .ref rwr, .ref rp, .ref rsi, .ref rke, .ref rkc, .ref rik])), (rt, .inl (cyI, 15, .inl yR))] := hD
  refine lv_iinc (v := 7) (lv' := [(1, .int 7), (0, .ref h0)]) hx hb dX11_goOn_96 hl (k := 0) rfl (by decide) (by decide) rfl (fun ls hl => ?_)
  refine lv_goto (tgt := 63) hx hb dX11_goOn_99 (by decide) ?_
  refine lv_iload_n hx hb dX11_goOn_63 rfl (lv_at hl 0 rfl) ?_
  refine lv_bipush (v := 15) hx hb dX11_goOn_64 (by decide) ?_
  refine lv_icmp_ge (tgt := 102) hx hb dX11_goOn_66 (by decide) (fun c => absurd c (by decide)) (fun _ => ?_)
  refine lv_aload_n hx hb dX11_goOn_69 rfl (lv_at hl 1 rfl) ?_
  refine va_get (D := (dC, dI)) (ci := 11) (v := .ref rz) (C := RX11) (T := TX11) (N := 24) hx hb hts hnX11 hown hK hP 2 rfl rfl 0 (by decide) hf7 (fun _ h9 => h9) rfl dX11_goOn_70 ?_
  refine lv_bipush (v := 15) hx hb dX11_goOn_73 (by decide) ?_
  refine lv_iload_n hx hb dX11_goOn_75 rfl (lv_at hl 0 rfl) ?_
  refine lv_iadd hx hb dX11_goOn_76 ?_
  refine yy_int (v := 22) (by decide) ?_
  refine lv_aload_n hx hb dX11_goOn_77 rfl (lv_at hl 1 rfl) ?_
  refine va_get (D := (dC, dI)) (ci := 11) (v := .ref rs) (C := RX11) (T := TX11) (N := 24) hx hb hts hnX11 hown hK hP 2 rfl rfl 14 (by decide) hf39 (fun _ h9 => h9) rfl dX11_goOn_78 ?_
  refine lv_iload_n hx hb dX11_goOn_81 rfl (lv_at hl 0 rfl) ?_
  refine yy_iald (v := 0) hx hb hK hP 0 0 rfl rfl (yin (by decide)) dX11_goOn_82 rfl ?_
  refine yy_iast (f' := (yz t 1)) hx hb hK hP hD hS 1 0 rfl rfl (yin (by decide)) dX11_goOn_83 (yid rfl) (fun H locs hP hD hS => ?_)
  have hP : va_P (dC, dI) vwCl [(rs, .inl (cyI, 15, .inl yR)), (rz, .inl (cyI, 2490, .inl (yz t 1))), (h0, .inr (11, [.ref rz, .int 0, .int 0, .ref rf, .ref rl, .ref rwx, .ref rb, .int 0, .ref rwd, .ref rk, .ref ra, .int 0, .int 32, .int 0, .ref rs, .ref rt, .int 0, .int 0, .ref rwr, .ref rp, .ref rsi, .ref rke, .ref rkc, .ref rik])), (rt, .inl (cyI, 15, .inl yR))] H := hP
  have hD : va_D A [(rs, .inl (cyI, 15, .inl yR)), (rz, .inl (cyI, 2490, .inl (yz t 1))), (h0, .inr (11, [.ref rz, .int 0, .int 0, .ref rf, .ref rl, .ref rwx, .ref rb, .int 0, .ref rwd, .ref rk, .ref ra, .int 0, .int 32, .int 0, .ref rs, .ref rt, .int 0, .int 0, .ref rwr, .ref rp, .ref rsi, .ref rke, .ref rkc, .ref rik])), (rt, .inl (cyI, 15, .inl yR))] := hD
  refine lv_aload_n hx hb dX11_goOn_84 rfl (lv_at hl 1 rfl) ?_
  refine va_get (D := (dC, dI)) (ci := 11) (v := .ref rz) (C := RX11) (T := TX11) (N := 24) hx hb hts hnX11 hown hK hP 2 rfl rfl 0 (by decide) hf7 (fun _ h9 => h9) rfl dX11_goOn_85 ?_
  refine lv_iload_n hx hb dX11_goOn_88 rfl (lv_at hl 0 rfl) ?_
  refine lv_aload_n hx hb dX11_goOn_89 rfl (lv_at hl 1 rfl) ?_
  refine va_get (D := (dC, dI)) (ci := 11) (v := .ref rt) (C := RX11) (T := TX11) (N := 24) hx hb hts hnX11 hown hK hP 2 rfl rfl 15 (by decide) hf42 (fun _ h9 => h9) rfl dX11_goOn_90 ?_
  refine lv_iload_n hx hb dX11_goOn_93 rfl (lv_at hl 0 rfl) ?_
  refine yy_iald (v := 0) hx hb hK hP 3 0 rfl rfl (yin (by decide)) dX11_goOn_94 rfl ?_
  refine yy_iast (f' := (yz t 1)) hx hb hK hP hD hS 1 0 rfl rfl (yin (by decide)) dX11_goOn_95 (yid rfl) (fun H locs hP hD hS => ?_)
  have hP : va_P (dC, dI) vwCl [(rs, .inl (cyI, 15, .inl yR)), (rz, .inl (cyI, 2490, .inl (yz t 1))), (h0, .inr (11, [.ref rz, .int 0, .int 0, .ref rf, .ref rl, .ref rwx, .ref rb, .int 0, .ref rwd, .ref rk, .ref ra, .int 0, .int 32, .int 0, .ref rs, .ref rt, .int 0, .int 0, .ref rwr, .ref rp, .ref rsi, .ref rke, .ref rkc, .ref rik])), (rt, .inl (cyI, 15, .inl yR))] H := hP
  have hD : va_D A [(rs, .inl (cyI, 15, .inl yR)), (rz, .inl (cyI, 2490, .inl (yz t 1))), (h0, .inr (11, [.ref rz, .int 0, .int 0, .ref rf, .ref rl, .ref rwx, .ref rb, .int 0, .ref rwd, .ref rk, .ref ra, .int 0, .int 32, .int 0, .ref rs, .ref rt, .int 0, .int 0, .ref rwr, .ref rp, .ref rsi, .ref rke, .ref rkc, .ref rik])), (rt, .inl (cyI, 15, .inl yR))] := hD
  refine lv_iinc (v := 8) (lv' := [(1, .int 8), (0, .ref h0)]) hx hb dX11_goOn_96 hl (k := 0) rfl (by decide) (by decide) rfl (fun ls hl => ?_)
  refine lv_goto (tgt := 63) hx hb dX11_goOn_99 (by decide) ?_
  refine lv_iload_n hx hb dX11_goOn_63 rfl (lv_at hl 0 rfl) ?_
  refine lv_bipush (v := 15) hx hb dX11_goOn_64 (by decide) ?_
  refine lv_icmp_ge (tgt := 102) hx hb dX11_goOn_66 (by decide) (fun c => absurd c (by decide)) (fun _ => ?_)
  refine lv_aload_n hx hb dX11_goOn_69 rfl (lv_at hl 1 rfl) ?_
  refine va_get (D := (dC, dI)) (ci := 11) (v := .ref rz) (C := RX11) (T := TX11) (N := 24) hx hb hts hnX11 hown hK hP 2 rfl rfl 0 (by decide) hf7 (fun _ h9 => h9) rfl dX11_goOn_70 ?_
  refine lv_bipush (v := 15) hx hb dX11_goOn_73 (by decide) ?_
  refine lv_iload_n hx hb dX11_goOn_75 rfl (lv_at hl 0 rfl) ?_
  refine lv_iadd hx hb dX11_goOn_76 ?_
  refine yy_int (v := 23) (by decide) ?_
  refine lv_aload_n hx hb dX11_goOn_77 rfl (lv_at hl 1 rfl) ?_
  refine va_get (D := (dC, dI)) (ci := 11) (v := .ref rs) (C := RX11) (T := TX11) (N := 24) hx hb hts hnX11 hown hK hP 2 rfl rfl 14 (by decide) hf39 (fun _ h9 => h9) rfl dX11_goOn_78 ?_
  refine lv_iload_n hx hb dX11_goOn_81 rfl (lv_at hl 0 rfl) ?_
  refine yy_iald (v := 0) hx hb hK hP 0 0 rfl rfl (yin (by decide)) dX11_goOn_82 rfl ?_
  refine yy_iast (f' := (yz t 1)) hx hb hK hP hD hS 1 0 rfl rfl (yin (by decide)) dX11_goOn_83 (yid rfl) (fun H locs hP hD hS => ?_)
  have hP : va_P (dC, dI) vwCl [(rs, .inl (cyI, 15, .inl yR)), (rz, .inl (cyI, 2490, .inl (yz t 1))), (h0, .inr (11, [.ref rz, .int 0, .int 0, .ref rf, .ref rl, .ref rwx, .ref rb, .int 0, .ref rwd, .ref rk, .ref ra, .int 0, .int 32, .int 0, .ref rs, .ref rt, .int 0, .int 0, .ref rwr, .ref rp, .ref rsi, .ref rke, .ref rkc, .ref rik])), (rt, .inl (cyI, 15, .inl yR))] H := hP
  have hD : va_D A [(rs, .inl (cyI, 15, .inl yR)), (rz, .inl (cyI, 2490, .inl (yz t 1))), (h0, .inr (11, [.ref rz, .int 0, .int 0, .ref rf, .ref rl, .ref rwx, .ref rb, .int 0, .ref rwd, .ref rk, .ref ra, .int 0, .int 32, .int 0, .ref rs, .ref rt, .int 0, .int 0, .ref rwr, .ref rp, .ref rsi, .ref rke, .ref rkc, .ref rik])), (rt, .inl (cyI, 15, .inl yR))] := hD
  refine lv_aload_n hx hb dX11_goOn_84 rfl (lv_at hl 1 rfl) ?_
  refine va_get (D := (dC, dI)) (ci := 11) (v := .ref rz) (C := RX11) (T := TX11) (N := 24) hx hb hts hnX11 hown hK hP 2 rfl rfl 0 (by decide) hf7 (fun _ h9 => h9) rfl dX11_goOn_85 ?_
  refine lv_iload_n hx hb dX11_goOn_88 rfl (lv_at hl 0 rfl) ?_
  refine lv_aload_n hx hb dX11_goOn_89 rfl (lv_at hl 1 rfl) ?_
  refine va_get (D := (dC, dI)) (ci := 11) (v := .ref rt) (C := RX11) (T := TX11) (N := 24) hx hb hts hnX11 hown hK hP 2 rfl rfl 15 (by decide) hf42 (fun _ h9 => h9) rfl dX11_goOn_90 ?_
  refine lv_iload_n hx hb dX11_goOn_93 rfl (lv_at hl 0 rfl) ?_
  refine yy_iald (v := 0) hx hb hK hP 3 0 rfl rfl (yin (by decide)) dX11_goOn_94 rfl ?_
  refine yy_iast (f' := (yz t 1)) hx hb hK hP hD hS 1 0 rfl rfl (yin (by decide)) dX11_goOn_95 (yid rfl) (fun H locs hP hD hS => ?_)
  have hP : va_P (dC, dI) vwCl [(rs, .inl (cyI, 15, .inl yR)), (rz, .inl (cyI, 2490, .inl (yz t 1))), (h0, .inr (11, [.ref rz, .int 0, .int 0, .ref rf, .ref rl, .ref rwx, .ref rb, .int 0, .ref rwd, .ref rk, .ref ra, .int 0, .int 32, .int 0, .ref rs, .ref rt, .int 0, .int 0, .ref rwr, .ref rp, .ref rsi, .ref rke, .ref rkc, .ref rik])), (rt, .inl (cyI, 15, .inl yR))] H := hP
  have hD : va_D A [(rs, .inl (cyI, 15, .inl yR)), (rz, .inl (cyI, 2490, .inl (yz t 1))), (h0, .inr (11, [.ref rz, .int 0, .int 0, .ref rf, .ref rl, .ref rwx, .ref rb, .int 0, .ref rwd, .ref rk, .ref ra, .int 0, .int 32, .int 0, .ref rs, .ref rt, .int 0, .int 0, .ref rwr, .ref rp, .ref rsi, .ref rke, .ref rkc, .ref rik])), (rt, .inl (cyI, 15, .inl yR))] := hD
  refine lv_iinc (v := 9) (lv' := [(1, .int 9), (0, .ref h0)]) hx hb dX11_goOn_96 hl (k := 0) rfl (by decide) (by decide) rfl (fun ls hl => ?_)
  refine lv_goto (tgt := 63) hx hb dX11_goOn_99 (by decide) ?_
  refine lv_iload_n hx hb dX11_goOn_63 rfl (lv_at hl 0 rfl) ?_
  refine lv_bipush (v := 15) hx hb dX11_goOn_64 (by decide) ?_
  refine lv_icmp_ge (tgt := 102) hx hb dX11_goOn_66 (by decide) (fun c => absurd c (by decide)) (fun _ => ?_)
  refine lv_aload_n hx hb dX11_goOn_69 rfl (lv_at hl 1 rfl) ?_
  refine va_get (D := (dC, dI)) (ci := 11) (v := .ref rz) (C := RX11) (T := TX11) (N := 24) hx hb hts hnX11 hown hK hP 2 rfl rfl 0 (by decide) hf7 (fun _ h9 => h9) rfl dX11_goOn_70 ?_
  refine lv_bipush (v := 15) hx hb dX11_goOn_73 (by decide) ?_
  refine lv_iload_n hx hb dX11_goOn_75 rfl (lv_at hl 0 rfl) ?_
  refine lv_iadd hx hb dX11_goOn_76 ?_
  refine yy_int (v := 24) (by decide) ?_
  refine lv_aload_n hx hb dX11_goOn_77 rfl (lv_at hl 1 rfl) ?_
  refine va_get (D := (dC, dI)) (ci := 11) (v := .ref rs) (C := RX11) (T := TX11) (N := 24) hx hb hts hnX11 hown hK hP 2 rfl rfl 14 (by decide) hf39 (fun _ h9 => h9) rfl dX11_goOn_78 ?_
  refine lv_iload_n hx hb dX11_goOn_81 rfl (lv_at hl 0 rfl) ?_
  refine yy_iald (v := 0) hx hb hK hP 0 0 rfl rfl (yin (by decide)) dX11_goOn_82 rfl ?_
  refine yy_iast (f' := (yz t 1)) hx hb hK hP hD hS 1 0 rfl rfl (yin (by decide)) dX11_goOn_83 (yid rfl) (fun H locs hP hD hS => ?_)
  have hP : va_P (dC, dI) vwCl [(rs, .inl (cyI, 15, .inl yR)), (rz, .inl (cyI, 2490, .inl (yz t 1))), (h0, .inr (11, [.ref rz, .int 0, .int 0, .ref rf, .ref rl, .ref rwx, .ref rb, .int 0, .ref rwd, .ref rk, .ref ra, .int 0, .int 32, .int 0, .ref rs, .ref rt, .int 0, .int 0, .ref rwr, .ref rp, .ref rsi, .ref rke, .ref rkc, .ref rik])), (rt, .inl (cyI, 15, .inl yR))] H := hP
  have hD : va_D A [(rs, .inl (cyI, 15, .inl yR)), (rz, .inl (cyI, 2490, .inl (yz t 1))), (h0, .inr (11, [.ref rz, .int 0, .int 0, .ref rf, .ref rl, .ref rwx, .ref rb, .int 0, .ref rwd, .ref rk, .ref ra, .int 0, .int 32, .int 0, .ref rs, .ref rt, .int 0, .int 0, .ref rwr, .ref rp, .ref rsi, .ref rke, .ref rkc, .ref rik])), (rt, .inl (cyI, 15, .inl yR))] := hD
  refine lv_aload_n hx hb dX11_goOn_84 rfl (lv_at hl 1 rfl) ?_
  refine va_get (D := (dC, dI)) (ci := 11) (v := .ref rz) (C := RX11) (T := TX11) (N := 24) hx hb hts hnX11 hown hK hP 2 rfl rfl 0 (by decide) hf7 (fun _ h9 => h9) rfl dX11_goOn_85 ?_
  refine lv_iload_n hx hb dX11_goOn_88 rfl (lv_at hl 0 rfl) ?_
  refine lv_aload_n hx hb dX11_goOn_89 rfl (lv_at hl 1 rfl) ?_
  refine va_get (D := (dC, dI)) (ci := 11) (v := .ref rt) (C := RX11) (T := TX11) (N := 24) hx hb hts hnX11 hown hK hP 2 rfl rfl 15 (by decide) hf42 (fun _ h9 => h9) rfl dX11_goOn_90 ?_
  refine lv_iload_n hx hb dX11_goOn_93 rfl (lv_at hl 0 rfl) ?_
  refine yy_iald (v := 0) hx hb hK hP 3 0 rfl rfl (yin (by decide)) dX11_goOn_94 rfl ?_
  refine yy_iast (f' := (yz t 1)) hx hb hK hP hD hS 1 0 rfl rfl (yin (by decide)) dX11_goOn_95 (yid rfl) (fun H locs hP hD hS => ?_)
  have hP : va_P (dC, dI) vwCl [(rs, .inl (cyI, 15, .inl yR)), (rz, .inl (cyI, 2490, .inl (yz t 1))), (h0, .inr (11, [.ref rz, .int 0, .int 0, .ref rf, .ref rl, .ref rwx, .ref rb, .int 0, .ref rwd, .ref rk, .ref ra, .int 0, .int 32, .int 0, .ref rs, .ref rt, .int 0, .int 0, .ref rwr, .ref rp, .ref rsi, .ref rke, .ref rkc, .ref rik])), (rt, .inl (cyI, 15, .inl yR))] H := hP
  have hD : va_D A [(rs, .inl (cyI, 15, .inl yR)), (rz, .inl (cyI, 2490, .inl (yz t 1))), (h0, .inr (11, [.ref rz, .int 0, .int 0, .ref rf, .ref rl, .ref rwx, .ref rb, .int 0, .ref rwd, .ref rk, .ref ra, .int 0, .int 32, .int 0, .ref rs, .ref rt, .int 0, .int 0, .ref rwr, .ref rp, .ref rsi, .ref rke, .ref rkc, .ref rik])), (rt, .inl (cyI, 15, .inl yR))] := hD
  refine lv_iinc (v := 10) (lv' := [(1, .int 10), (0, .ref h0)]) hx hb dX11_goOn_96 hl (k := 0) rfl (by decide) (by decide) rfl (fun ls hl => ?_)
  refine lv_goto (tgt := 63) hx hb dX11_goOn_99 (by decide) ?_
  refine lv_iload_n hx hb dX11_goOn_63 rfl (lv_at hl 0 rfl) ?_
  refine lv_bipush (v := 15) hx hb dX11_goOn_64 (by decide) ?_
  refine lv_icmp_ge (tgt := 102) hx hb dX11_goOn_66 (by decide) (fun c => absurd c (by decide)) (fun _ => ?_)
  refine lv_aload_n hx hb dX11_goOn_69 rfl (lv_at hl 1 rfl) ?_
  refine va_get (D := (dC, dI)) (ci := 11) (v := .ref rz) (C := RX11) (T := TX11) (N := 24) hx hb hts hnX11 hown hK hP 2 rfl rfl 0 (by decide) hf7 (fun _ h9 => h9) rfl dX11_goOn_70 ?_
  refine lv_bipush (v := 15) hx hb dX11_goOn_73 (by decide) ?_
  refine lv_iload_n hx hb dX11_goOn_75 rfl (lv_at hl 0 rfl) ?_
  refine lv_iadd hx hb dX11_goOn_76 ?_
  refine yy_int (v := 25) (by decide) ?_
  refine lv_aload_n hx hb dX11_goOn_77 rfl (lv_at hl 1 rfl) ?_
  refine va_get (D := (dC, dI)) (ci := 11) (v := .ref rs) (C := RX11) (T := TX11) (N := 24) hx hb hts hnX11 hown hK hP 2 rfl rfl 14 (by decide) hf39 (fun _ h9 => h9) rfl dX11_goOn_78 ?_
  refine lv_iload_n hx hb dX11_goOn_81 rfl (lv_at hl 0 rfl) ?_
  refine yy_iald (v := 0) hx hb hK hP 0 0 rfl rfl (yin (by decide)) dX11_goOn_82 rfl ?_
  refine yy_iast (f' := (yz t 1)) hx hb hK hP hD hS 1 0 rfl rfl (yin (by decide)) dX11_goOn_83 (yid rfl) (fun H locs hP hD hS => ?_)
  have hP : va_P (dC, dI) vwCl [(rs, .inl (cyI, 15, .inl yR)), (rz, .inl (cyI, 2490, .inl (yz t 1))), (h0, .inr (11, [.ref rz, .int 0, .int 0, .ref rf, .ref rl, .ref rwx, .ref rb, .int 0, .ref rwd, .ref rk, .ref ra, .int 0, .int 32, .int 0, .ref rs, .ref rt, .int 0, .int 0, .ref rwr, .ref rp, .ref rsi, .ref rke, .ref rkc, .ref rik])), (rt, .inl (cyI, 15, .inl yR))] H := hP
  have hD : va_D A [(rs, .inl (cyI, 15, .inl yR)), (rz, .inl (cyI, 2490, .inl (yz t 1))), (h0, .inr (11, [.ref rz, .int 0, .int 0, .ref rf, .ref rl, .ref rwx, .ref rb, .int 0, .ref rwd, .ref rk, .ref ra, .int 0, .int 32, .int 0, .ref rs, .ref rt, .int 0, .int 0, .ref rwr, .ref rp, .ref rsi, .ref rke, .ref rkc, .ref rik])), (rt, .inl (cyI, 15, .inl yR))] := hD
  refine lv_aload_n hx hb dX11_goOn_84 rfl (lv_at hl 1 rfl) ?_
  refine va_get (D := (dC, dI)) (ci := 11) (v := .ref rz) (C := RX11) (T := TX11) (N := 24) hx hb hts hnX11 hown hK hP 2 rfl rfl 0 (by decide) hf7 (fun _ h9 => h9) rfl dX11_goOn_85 ?_
  refine lv_iload_n hx hb dX11_goOn_88 rfl (lv_at hl 0 rfl) ?_
  refine lv_aload_n hx hb dX11_goOn_89 rfl (lv_at hl 1 rfl) ?_
  refine va_get (D := (dC, dI)) (ci := 11) (v := .ref rt) (C := RX11) (T := TX11) (N := 24) hx hb hts hnX11 hown hK hP 2 rfl rfl 15 (by decide) hf42 (fun _ h9 => h9) rfl dX11_goOn_90 ?_
  refine lv_iload_n hx hb dX11_goOn_93 rfl (lv_at hl 0 rfl) ?_
  refine yy_iald (v := 0) hx hb hK hP 3 0 rfl rfl (yin (by decide)) dX11_goOn_94 rfl ?_
  refine yy_iast (f' := (yz t 1)) hx hb hK hP hD hS 1 0 rfl rfl (yin (by decide)) dX11_goOn_95 (yid rfl) (fun H locs hP hD hS => ?_)
  have hP : va_P (dC, dI) vwCl [(rs, .inl (cyI, 15, .inl yR)), (rz, .inl (cyI, 2490, .inl (yz t 1))), (h0, .inr (11, [.ref rz, .int 0, .int 0, .ref rf, .ref rl, .ref rwx, .ref rb, .int 0, .ref rwd, .ref rk, .ref ra, .int 0, .int 32, .int 0, .ref rs, .ref rt, .int 0, .int 0, .ref rwr, .ref rp, .ref rsi, .ref rke, .ref rkc, .ref rik])), (rt, .inl (cyI, 15, .inl yR))] H := hP
  have hD : va_D A [(rs, .inl (cyI, 15, .inl yR)), (rz, .inl (cyI, 2490, .inl (yz t 1))), (h0, .inr (11, [.ref rz, .int 0, .int 0, .ref rf, .ref rl, .ref rwx, .ref rb, .int 0, .ref rwd, .ref rk, .ref ra, .int 0, .int 32, .int 0, .ref rs, .ref rt, .int 0, .int 0, .ref rwr, .ref rp, .ref rsi, .ref rke, .ref rkc, .ref rik])), (rt, .inl (cyI, 15, .inl yR))] := hD
  refine lv_iinc (v := 11) (lv' := [(1, .int 11), (0, .ref h0)]) hx hb dX11_goOn_96 hl (k := 0) rfl (by decide) (by decide) rfl (fun ls hl => ?_)
  refine lv_goto (tgt := 63) hx hb dX11_goOn_99 (by decide) ?_
  refine lv_iload_n hx hb dX11_goOn_63 rfl (lv_at hl 0 rfl) ?_
  refine lv_bipush (v := 15) hx hb dX11_goOn_64 (by decide) ?_
  refine lv_icmp_ge (tgt := 102) hx hb dX11_goOn_66 (by decide) (fun c => absurd c (by decide)) (fun _ => ?_)
  refine lv_aload_n hx hb dX11_goOn_69 rfl (lv_at hl 1 rfl) ?_
  refine va_get (D := (dC, dI)) (ci := 11) (v := .ref rz) (C := RX11) (T := TX11) (N := 24) hx hb hts hnX11 hown hK hP 2 rfl rfl 0 (by decide) hf7 (fun _ h9 => h9) rfl dX11_goOn_70 ?_
  refine lv_bipush (v := 15) hx hb dX11_goOn_73 (by decide) ?_
  refine lv_iload_n hx hb dX11_goOn_75 rfl (lv_at hl 0 rfl) ?_
  refine lv_iadd hx hb dX11_goOn_76 ?_
  refine yy_int (v := 26) (by decide) ?_
  refine lv_aload_n hx hb dX11_goOn_77 rfl (lv_at hl 1 rfl) ?_
  refine va_get (D := (dC, dI)) (ci := 11) (v := .ref rs) (C := RX11) (T := TX11) (N := 24) hx hb hts hnX11 hown hK hP 2 rfl rfl 14 (by decide) hf39 (fun _ h9 => h9) rfl dX11_goOn_78 ?_
  refine lv_iload_n hx hb dX11_goOn_81 rfl (lv_at hl 0 rfl) ?_
  refine yy_iald (v := 0) hx hb hK hP 0 0 rfl rfl (yin (by decide)) dX11_goOn_82 rfl ?_
  refine yy_iast (f' := (yz t 1)) hx hb hK hP hD hS 1 0 rfl rfl (yin (by decide)) dX11_goOn_83 (yid rfl) (fun H locs hP hD hS => ?_)
  have hP : va_P (dC, dI) vwCl [(rs, .inl (cyI, 15, .inl yR)), (rz, .inl (cyI, 2490, .inl (yz t 1))), (h0, .inr (11, [.ref rz, .int 0, .int 0, .ref rf, .ref rl, .ref rwx, .ref rb, .int 0, .ref rwd, .ref rk, .ref ra, .int 0, .int 32, .int 0, .ref rs, .ref rt, .int 0, .int 0, .ref rwr, .ref rp, .ref rsi, .ref rke, .ref rkc, .ref rik])), (rt, .inl (cyI, 15, .inl yR))] H := hP
  have hD : va_D A [(rs, .inl (cyI, 15, .inl yR)), (rz, .inl (cyI, 2490, .inl (yz t 1))), (h0, .inr (11, [.ref rz, .int 0, .int 0, .ref rf, .ref rl, .ref rwx, .ref rb, .int 0, .ref rwd, .ref rk, .ref ra, .int 0, .int 32, .int 0, .ref rs, .ref rt, .int 0, .int 0, .ref rwr, .ref rp, .ref rsi, .ref rke, .ref rkc, .ref rik])), (rt, .inl (cyI, 15, .inl yR))] := hD
  refine lv_aload_n hx hb dX11_goOn_84 rfl (lv_at hl 1 rfl) ?_
  refine va_get (D := (dC, dI)) (ci := 11) (v := .ref rz) (C := RX11) (T := TX11) (N := 24) hx hb hts hnX11 hown hK hP 2 rfl rfl 0 (by decide) hf7 (fun _ h9 => h9) rfl dX11_goOn_85 ?_
  refine lv_iload_n hx hb dX11_goOn_88 rfl (lv_at hl 0 rfl) ?_
  refine lv_aload_n hx hb dX11_goOn_89 rfl (lv_at hl 1 rfl) ?_
  refine va_get (D := (dC, dI)) (ci := 11) (v := .ref rt) (C := RX11) (T := TX11) (N := 24) hx hb hts hnX11 hown hK hP 2 rfl rfl 15 (by decide) hf42 (fun _ h9 => h9) rfl dX11_goOn_90 ?_
  refine lv_iload_n hx hb dX11_goOn_93 rfl (lv_at hl 0 rfl) ?_
  refine yy_iald (v := 0) hx hb hK hP 3 0 rfl rfl (yin (by decide)) dX11_goOn_94 rfl ?_
  refine yy_iast (f' := (yz t 1)) hx hb hK hP hD hS 1 0 rfl rfl (yin (by decide)) dX11_goOn_95 (yid rfl) (fun H locs hP hD hS => ?_)
  have hP : va_P (dC, dI) vwCl [(rs, .inl (cyI, 15, .inl yR)), (rz, .inl (cyI, 2490, .inl (yz t 1))), (h0, .inr (11, [.ref rz, .int 0, .int 0, .ref rf, .ref rl, .ref rwx, .ref rb, .int 0, .ref rwd, .ref rk, .ref ra, .int 0, .int 32, .int 0, .ref rs, .ref rt, .int 0, .int 0, .ref rwr, .ref rp, .ref rsi, .ref rke, .ref rkc, .ref rik])), (rt, .inl (cyI, 15, .inl yR))] H := hP
  have hD : va_D A [(rs, .inl (cyI, 15, .inl yR)), (rz, .inl (cyI, 2490, .inl (yz t 1))), (h0, .inr (11, [.ref rz, .int 0, .int 0, .ref rf, .ref rl, .ref rwx, .ref rb, .int 0, .ref rwd, .ref rk, .ref ra, .int 0, .int 32, .int 0, .ref rs, .ref rt, .int 0, .int 0, .ref rwr, .ref rp, .ref rsi, .ref rke, .ref rkc, .ref rik])), (rt, .inl (cyI, 15, .inl yR))] := hD
  refine lv_iinc (v := 12) (lv' := [(1, .int 12), (0, .ref h0)]) hx hb dX11_goOn_96 hl (k := 0) rfl (by decide) (by decide) rfl (fun ls hl => ?_)
  refine lv_goto (tgt := 63) hx hb dX11_goOn_99 (by decide) ?_
  refine lv_iload_n hx hb dX11_goOn_63 rfl (lv_at hl 0 rfl) ?_
  refine lv_bipush (v := 15) hx hb dX11_goOn_64 (by decide) ?_
  refine lv_icmp_ge (tgt := 102) hx hb dX11_goOn_66 (by decide) (fun c => absurd c (by decide)) (fun _ => ?_)
  refine lv_aload_n hx hb dX11_goOn_69 rfl (lv_at hl 1 rfl) ?_
  refine va_get (D := (dC, dI)) (ci := 11) (v := .ref rz) (C := RX11) (T := TX11) (N := 24) hx hb hts hnX11 hown hK hP 2 rfl rfl 0 (by decide) hf7 (fun _ h9 => h9) rfl dX11_goOn_70 ?_
  refine lv_bipush (v := 15) hx hb dX11_goOn_73 (by decide) ?_
  refine lv_iload_n hx hb dX11_goOn_75 rfl (lv_at hl 0 rfl) ?_
  refine lv_iadd hx hb dX11_goOn_76 ?_
  refine yy_int (v := 27) (by decide) ?_
  refine lv_aload_n hx hb dX11_goOn_77 rfl (lv_at hl 1 rfl) ?_
  refine va_get (D := (dC, dI)) (ci := 11) (v := .ref rs) (C := RX11) (T := TX11) (N := 24) hx hb hts hnX11 hown hK hP 2 rfl rfl 14 (by decide) hf39 (fun _ h9 => h9) rfl dX11_goOn_78 ?_
  refine lv_iload_n hx hb dX11_goOn_81 rfl (lv_at hl 0 rfl) ?_
  refine yy_iald (v := 0) hx hb hK hP 0 0 rfl rfl (yin (by decide)) dX11_goOn_82 rfl ?_
  refine yy_iast (f' := (yz t 1)) hx hb hK hP hD hS 1 0 rfl rfl (yin (by decide)) dX11_goOn_83 (yid rfl) (fun H locs hP hD hS => ?_)
  have hP : va_P (dC, dI) vwCl [(rs, .inl (cyI, 15, .inl yR)), (rz, .inl (cyI, 2490, .inl (yz t 1))), (h0, .inr (11, [.ref rz, .int 0, .int 0, .ref rf, .ref rl, .ref rwx, .ref rb, .int 0, .ref rwd, .ref rk, .ref ra, .int 0, .int 32, .int 0, .ref rs, .ref rt, .int 0, .int 0, .ref rwr, .ref rp, .ref rsi, .ref rke, .ref rkc, .ref rik])), (rt, .inl (cyI, 15, .inl yR))] H := hP
  have hD : va_D A [(rs, .inl (cyI, 15, .inl yR)), (rz, .inl (cyI, 2490, .inl (yz t 1))), (h0, .inr (11, [.ref rz, .int 0, .int 0, .ref rf, .ref rl, .ref rwx, .ref rb, .int 0, .ref rwd, .ref rk, .ref ra, .int 0, .int 32, .int 0, .ref rs, .ref rt, .int 0, .int 0, .ref rwr, .ref rp, .ref rsi, .ref rke, .ref rkc, .ref rik])), (rt, .inl (cyI, 15, .inl yR))] := hD
  refine lv_aload_n hx hb dX11_goOn_84 rfl (lv_at hl 1 rfl) ?_
  refine va_get (D := (dC, dI)) (ci := 11) (v := .ref rz) (C := RX11) (T := TX11) (N := 24) hx hb hts hnX11 hown hK hP 2 rfl rfl 0 (by decide) hf7 (fun _ h9 => h9) rfl dX11_goOn_85 ?_
  refine lv_iload_n hx hb dX11_goOn_88 rfl (lv_at hl 0 rfl) ?_
  refine lv_aload_n hx hb dX11_goOn_89 rfl (lv_at hl 1 rfl) ?_
  refine va_get (D := (dC, dI)) (ci := 11) (v := .ref rt) (C := RX11) (T := TX11) (N := 24) hx hb hts hnX11 hown hK hP 2 rfl rfl 15 (by decide) hf42 (fun _ h9 => h9) rfl dX11_goOn_90 ?_
  refine lv_iload_n hx hb dX11_goOn_93 rfl (lv_at hl 0 rfl) ?_
  refine yy_iald (v := 0) hx hb hK hP 3 0 rfl rfl (yin (by decide)) dX11_goOn_94 rfl ?_
  refine yy_iast (f' := (yz t 1)) hx hb hK hP hD hS 1 0 rfl rfl (yin (by decide)) dX11_goOn_95 (yid rfl) (fun H locs hP hD hS => ?_)
  have hP : va_P (dC, dI) vwCl [(rs, .inl (cyI, 15, .inl yR)), (rz, .inl (cyI, 2490, .inl (yz t 1))), (h0, .inr (11, [.ref rz, .int 0, .int 0, .ref rf, .ref rl, .ref rwx, .ref rb, .int 0, .ref rwd, .ref rk, .ref ra, .int 0, .int 32, .int 0, .ref rs, .ref rt, .int 0, .int 0, .ref rwr, .ref rp, .ref rsi, .ref rke, .ref rkc, .ref rik])), (rt, .inl (cyI, 15, .inl yR))] H := hP
  have hD : va_D A [(rs, .inl (cyI, 15, .inl yR)), (rz, .inl (cyI, 2490, .inl (yz t 1))), (h0, .inr (11, [.ref rz, .int 0, .int 0, .ref rf, .ref rl, .ref rwx, .ref rb, .int 0, .ref rwd, .ref rk, .ref ra, .int 0, .int 32, .int 0, .ref rs, .ref rt, .int 0, .int 0, .ref rwr, .ref rp, .ref rsi, .ref rke, .ref rkc, .ref rik])), (rt, .inl (cyI, 15, .inl yR))] := hD
  refine lv_iinc (v := 13) (lv' := [(1, .int 13), (0, .ref h0)]) hx hb dX11_goOn_96 hl (k := 0) rfl (by decide) (by decide) rfl (fun ls hl => ?_)
  refine lv_goto (tgt := 63) hx hb dX11_goOn_99 (by decide) ?_
  refine lv_iload_n hx hb dX11_goOn_63 rfl (lv_at hl 0 rfl) ?_
  refine lv_bipush (v := 15) hx hb dX11_goOn_64 (by decide) ?_
  refine lv_icmp_ge (tgt := 102) hx hb dX11_goOn_66 (by decide) (fun c => absurd c (by decide)) (fun _ => ?_)
  refine lv_aload_n hx hb dX11_goOn_69 rfl (lv_at hl 1 rfl) ?_
  refine va_get (D := (dC, dI)) (ci := 11) (v := .ref rz) (C := RX11) (T := TX11) (N := 24) hx hb hts hnX11 hown hK hP 2 rfl rfl 0 (by decide) hf7 (fun _ h9 => h9) rfl dX11_goOn_70 ?_
  refine lv_bipush (v := 15) hx hb dX11_goOn_73 (by decide) ?_
  refine lv_iload_n hx hb dX11_goOn_75 rfl (lv_at hl 0 rfl) ?_
  refine lv_iadd hx hb dX11_goOn_76 ?_
  refine yy_int (v := 28) (by decide) ?_
  refine lv_aload_n hx hb dX11_goOn_77 rfl (lv_at hl 1 rfl) ?_
  refine va_get (D := (dC, dI)) (ci := 11) (v := .ref rs) (C := RX11) (T := TX11) (N := 24) hx hb hts hnX11 hown hK hP 2 rfl rfl 14 (by decide) hf39 (fun _ h9 => h9) rfl dX11_goOn_78 ?_
  refine lv_iload_n hx hb dX11_goOn_81 rfl (lv_at hl 0 rfl) ?_
  refine yy_iald (v := 0) hx hb hK hP 0 0 rfl rfl (yin (by decide)) dX11_goOn_82 rfl ?_
  refine yy_iast (f' := (yz t 1)) hx hb hK hP hD hS 1 0 rfl rfl (yin (by decide)) dX11_goOn_83 (yid rfl) (fun H locs hP hD hS => ?_)
  have hP : va_P (dC, dI) vwCl [(rs, .inl (cyI, 15, .inl yR)), (rz, .inl (cyI, 2490, .inl (yz t 1))), (h0, .inr (11, [.ref rz, .int 0, .int 0, .ref rf, .ref rl, .ref rwx, .ref rb, .int 0, .ref rwd, .ref rk, .ref ra, .int 0, .int 32, .int 0, .ref rs, .ref rt, .int 0, .int 0, .ref rwr, .ref rp, .ref rsi, .ref rke, .ref rkc, .ref rik])), (rt, .inl (cyI, 15, .inl yR))] H := hP
  have hD : va_D A [(rs, .inl (cyI, 15, .inl yR)), (rz, .inl (cyI, 2490, .inl (yz t 1))), (h0, .inr (11, [.ref rz, .int 0, .int 0, .ref rf, .ref rl, .ref rwx, .ref rb, .int 0, .ref rwd, .ref rk, .ref ra, .int 0, .int 32, .int 0, .ref rs, .ref rt, .int 0, .int 0, .ref rwr, .ref rp, .ref rsi, .ref rke, .ref rkc, .ref rik])), (rt, .inl (cyI, 15, .inl yR))] := hD
  refine lv_aload_n hx hb dX11_goOn_84 rfl (lv_at hl 1 rfl) ?_
  refine va_get (D := (dC, dI)) (ci := 11) (v := .ref rz) (C := RX11) (T := TX11) (N := 24) hx hb hts hnX11 hown hK hP 2 rfl rfl 0 (by decide) hf7 (fun _ h9 => h9) rfl dX11_goOn_85 ?_
  refine lv_iload_n hx hb dX11_goOn_88 rfl (lv_at hl 0 rfl) ?_
  refine lv_aload_n hx hb dX11_goOn_89 rfl (lv_at hl 1 rfl) ?_
  refine va_get (D := (dC, dI)) (ci := 11) (v := .ref rt) (C := RX11) (T := TX11) (N := 24) hx hb hts hnX11 hown hK hP 2 rfl rfl 15 (by decide) hf42 (fun _ h9 => h9) rfl dX11_goOn_90 ?_
  refine lv_iload_n hx hb dX11_goOn_93 rfl (lv_at hl 0 rfl) ?_
  refine yy_iald (v := 0) hx hb hK hP 3 0 rfl rfl (yin (by decide)) dX11_goOn_94 rfl ?_
  refine yy_iast (f' := (yz t 1)) hx hb hK hP hD hS 1 0 rfl rfl (yin (by decide)) dX11_goOn_95 (yid rfl) (fun H locs hP hD hS => ?_)
  have hP : va_P (dC, dI) vwCl [(rs, .inl (cyI, 15, .inl yR)), (rz, .inl (cyI, 2490, .inl (yz t 1))), (h0, .inr (11, [.ref rz, .int 0, .int 0, .ref rf, .ref rl, .ref rwx, .ref rb, .int 0, .ref rwd, .ref rk, .ref ra, .int 0, .int 32, .int 0, .ref rs, .ref rt, .int 0, .int 0, .ref rwr, .ref rp, .ref rsi, .ref rke, .ref rkc, .ref rik])), (rt, .inl (cyI, 15, .inl yR))] H := hP
  have hD : va_D A [(rs, .inl (cyI, 15, .inl yR)), (rz, .inl (cyI, 2490, .inl (yz t 1))), (h0, .inr (11, [.ref rz, .int 0, .int 0, .ref rf, .ref rl, .ref rwx, .ref rb, .int 0, .ref rwd, .ref rk, .ref ra, .int 0, .int 32, .int 0, .ref rs, .ref rt, .int 0, .int 0, .ref rwr, .ref rp, .ref rsi, .ref rke, .ref rkc, .ref rik])), (rt, .inl (cyI, 15, .inl yR))] := hD
  refine lv_iinc (v := 14) (lv' := [(1, .int 14), (0, .ref h0)]) hx hb dX11_goOn_96 hl (k := 0) rfl (by decide) (by decide) rfl (fun ls hl => ?_)
  refine lv_goto (tgt := 63) hx hb dX11_goOn_99 (by decide) ?_
  refine lv_iload_n hx hb dX11_goOn_63 rfl (lv_at hl 0 rfl) ?_
  refine lv_bipush (v := 15) hx hb dX11_goOn_64 (by decide) ?_
  refine lv_icmp_ge (tgt := 102) hx hb dX11_goOn_66 (by decide) (fun c => absurd c (by decide)) (fun _ => ?_)
  refine lv_aload_n hx hb dX11_goOn_69 rfl (lv_at hl 1 rfl) ?_
  refine va_get (D := (dC, dI)) (ci := 11) (v := .ref rz) (C := RX11) (T := TX11) (N := 24) hx hb hts hnX11 hown hK hP 2 rfl rfl 0 (by decide) hf7 (fun _ h9 => h9) rfl dX11_goOn_70 ?_
  refine lv_bipush (v := 15) hx hb dX11_goOn_73 (by decide) ?_
  refine lv_iload_n hx hb dX11_goOn_75 rfl (lv_at hl 0 rfl) ?_
  refine lv_iadd hx hb dX11_goOn_76 ?_
  refine yy_int (v := 29) (by decide) ?_
  refine lv_aload_n hx hb dX11_goOn_77 rfl (lv_at hl 1 rfl) ?_
  refine va_get (D := (dC, dI)) (ci := 11) (v := .ref rs) (C := RX11) (T := TX11) (N := 24) hx hb hts hnX11 hown hK hP 2 rfl rfl 14 (by decide) hf39 (fun _ h9 => h9) rfl dX11_goOn_78 ?_
  refine lv_iload_n hx hb dX11_goOn_81 rfl (lv_at hl 0 rfl) ?_
  refine yy_iald (v := 0) hx hb hK hP 0 0 rfl rfl (yin (by decide)) dX11_goOn_82 rfl ?_
  refine yy_iast (f' := (yz t 1)) hx hb hK hP hD hS 1 0 rfl rfl (yin (by decide)) dX11_goOn_83 (yid rfl) (fun H locs hP hD hS => ?_)
  have hP : va_P (dC, dI) vwCl [(rs, .inl (cyI, 15, .inl yR)), (rz, .inl (cyI, 2490, .inl (yz t 1))), (h0, .inr (11, [.ref rz, .int 0, .int 0, .ref rf, .ref rl, .ref rwx, .ref rb, .int 0, .ref rwd, .ref rk, .ref ra, .int 0, .int 32, .int 0, .ref rs, .ref rt, .int 0, .int 0, .ref rwr, .ref rp, .ref rsi, .ref rke, .ref rkc, .ref rik])), (rt, .inl (cyI, 15, .inl yR))] H := hP
  have hD : va_D A [(rs, .inl (cyI, 15, .inl yR)), (rz, .inl (cyI, 2490, .inl (yz t 1))), (h0, .inr (11, [.ref rz, .int 0, .int 0, .ref rf, .ref rl, .ref rwx, .ref rb, .int 0, .ref rwd, .ref rk, .ref ra, .int 0, .int 32, .int 0, .ref rs, .ref rt, .int 0, .int 0, .ref rwr, .ref rp, .ref rsi, .ref rke, .ref rkc, .ref rik])), (rt, .inl (cyI, 15, .inl yR))] := hD
  refine lv_aload_n hx hb dX11_goOn_84 rfl (lv_at hl 1 rfl) ?_
  refine va_get (D := (dC, dI)) (ci := 11) (v := .ref rz) (C := RX11) (T := TX11) (N := 24) hx hb hts hnX11 hown hK hP 2 rfl rfl 0 (by decide) hf7 (fun _ h9 => h9) rfl dX11_goOn_85 ?_
  refine lv_iload_n hx hb dX11_goOn_88 rfl (lv_at hl 0 rfl) ?_
  refine lv_aload_n hx hb dX11_goOn_89 rfl (lv_at hl 1 rfl) ?_
  refine va_get (D := (dC, dI)) (ci := 11) (v := .ref rt) (C := RX11) (T := TX11) (N := 24) hx hb hts hnX11 hown hK hP 2 rfl rfl 15 (by decide) hf42 (fun _ h9 => h9) rfl dX11_goOn_90 ?_
  refine lv_iload_n hx hb dX11_goOn_93 rfl (lv_at hl 0 rfl) ?_
  refine yy_iald (v := 0) hx hb hK hP 3 0 rfl rfl (yin (by decide)) dX11_goOn_94 rfl ?_
  refine yy_iast (f' := (yz t 1)) hx hb hK hP hD hS 1 0 rfl rfl (yin (by decide)) dX11_goOn_95 (yid rfl) (fun H locs hP hD hS => ?_)
  have hP : va_P (dC, dI) vwCl [(rs, .inl (cyI, 15, .inl yR)), (rz, .inl (cyI, 2490, .inl (yz t 1))), (h0, .inr (11, [.ref rz, .int 0, .int 0, .ref rf, .ref rl, .ref rwx, .ref rb, .int 0, .ref rwd, .ref rk, .ref ra, .int 0, .int 32, .int 0, .ref rs, .ref rt, .int 0, .int 0, .ref rwr, .ref rp, .ref rsi, .ref rke, .ref rkc, .ref rik])), (rt, .inl (cyI, 15, .inl yR))] H := hP
  have hD : va_D A [(rs, .inl (cyI, 15, .inl yR)), (rz, .inl (cyI, 2490, .inl (yz t 1))), (h0, .inr (11, [.ref rz, .int 0, .int 0, .ref rf, .ref rl, .ref rwx, .ref rb, .int 0, .ref rwd, .ref rk, .ref ra, .int 0, .int 32, .int 0, .ref rs, .ref rt, .int 0, .int 0, .ref rwr, .ref rp, .ref rsi, .ref rke, .ref rkc, .ref rik])), (rt, .inl (cyI, 15, .inl yR))] := hD
  refine lv_iinc (v := 15) (lv' := [(1, .int 15), (0, .ref h0)]) hx hb dX11_goOn_96 hl (k := 0) rfl (by decide) (by decide) rfl (fun ls hl => ?_)
  refine lv_goto (tgt := 63) hx hb dX11_goOn_99 (by decide) ?_
  refine lv_iload_n hx hb dX11_goOn_63 rfl (lv_at hl 0 rfl) ?_
  refine lv_bipush (v := 15) hx hb dX11_goOn_64 (by decide) ?_
  refine lv_icmp_ge (tgt := 102) hx hb dX11_goOn_66 (by decide) (fun _ => ?_) (fun c => absurd (by decide) c)
  refine lv_aload_n hx hb dX11_goOn_102 rfl (lv_at hl 1 rfl) ?_
  refine va_get (D := (dC, dI)) (ci := 11) (v := .ref rz) (C := RX11) (T := TX11) (N := 24) hx hb hts hnX11 hown hK hP 2 rfl rfl 0 (by decide) hf7 (fun _ h9 => h9) rfl dX11_goOn_103 ?_
  refine lv_sipush (v := 179) hx hb dX11_goOn_106 (by decide) ?_
  refine lv_dup2_11 hx hb dX11_goOn_109 rfl rfl ?_
  refine yy_iald (v := t) hx hb hK hP 1 0 rfl rfl (yin (by decide)) dX11_goOn_110 rfl ?_
  refine lv_iconst (v := 1) hx hb dX11_goOn_111 (by decide) ?_
  refine lv_iadd hx hb dX11_goOn_112 ?_
  refine yy_iast (f' := (yz (t + 1) 1)) hx hb hK hP hD hS 1 0 rfl rfl (yin (by decide)) dX11_goOn_113 yz_t (fun H locs hP hD hS => ?_)
  have hP : va_P (dC, dI) vwCl [(rs, .inl (cyI, 15, .inl yR)), (rz, .inl (cyI, 2490, .inl (yz (t + 1) 1))), (h0, .inr (11, [.ref rz, .int 0, .int 0, .ref rf, .ref rl, .ref rwx, .ref rb, .int 0, .ref rwd, .ref rk, .ref ra, .int 0, .int 32, .int 0, .ref rs, .ref rt, .int 0, .int 0, .ref rwr, .ref rp, .ref rsi, .ref rke, .ref rkc, .ref rik])), (rt, .inl (cyI, 15, .inl yR))] H := hP
  have hD : va_D A [(rs, .inl (cyI, 15, .inl yR)), (rz, .inl (cyI, 2490, .inl (yz (t + 1) 1))), (h0, .inr (11, [.ref rz, .int 0, .int 0, .ref rf, .ref rl, .ref rwx, .ref rb, .int 0, .ref rwd, .ref rk, .ref ra, .int 0, .int 32, .int 0, .ref rs, .ref rt, .int 0, .int 0, .ref rwr, .ref rp, .ref rsi, .ref rke, .ref rkc, .ref rik])), (rt, .inl (cyI, 15, .inl yR))] := hD
  refine W.widen (k := 0) (n := 0) (Nat.le_of_ble_eq_true rfl) (Nat.le_of_ble_eq_true rfl) ?_
  exact yy_vret () hx hb hr hlk hsz hAe hK hP hD hS [2, 1, 0, 3] rfl rfl (by decide) (trivial) dX11_goOn_114
