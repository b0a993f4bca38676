theorem ycpy_R {g : Nat → Int32} (h : ∀ j, 15 ≤ j → g j = 0) : va_cpy yR g 0 0 15 = yR := by
  funext j
  unfold va_cpy
  by_cases h2 : 0 ≤ j ∧ j < 0 + 15
  · rw [if_pos h2]; congr 1; omega
  · rw [if_neg h2, h j (by omega), yR0 j (by omega)]
set_option maxHeartbeats 4000000 in
set_option maxRecDepth 100000 in
theorem k_shown (l : Launch) (dC : Nat → ClassId) (dI : Nat → Nat → Nat) (cyI cyZ cyO : ClassId) (sz : Nat) (h0 : Nat) (h0_driven : Nat) (h0_seen : Nat) (h0_before : Nat) (h0_masks : Nat) (h0_from : Nat) (h0_until : Nat) (i : Int32) (t : Int32) (hin : vp_in i 15) : Met l yX9_shown wsX9_shown ({ frames := 0, cells := 0, slots := 0, locals := 0 }) (yPre [.ref h0, .int i, .int t] (dC, dI) [(h0, .inr (9, [.ref h0_driven, .ref h0_seen, .ref h0_before, .ref h0_masks, .ref h0_from, .ref h0_until])), (h0_driven, .inl (cyI, 15, .inl yR)), (h0_masks, .inl (cyI, 15, .inl (fun _ => 0))), (h0_from, .inl (cyI, 15, .inl (fun _ => 0))), (h0_until, .inl (cyI, 15, .inl (fun _ => 0)))] (yT cyI cyZ cyO) sz) (yQi (fun (r : Int32) (u : Unit) => r = (yR i.toNatClampNeg)) (dC, dI) [(h0, .inr (9, [.ref h0_driven, .ref h0_seen, .ref h0_before, .ref h0_masks, .ref h0_from, .ref h0_until])), (h0_driven, .inl (cyI, 15, .inl yR)), (h0_masks, .inl (cyI, 15, .inl (fun _ => 0))), (h0_from, .inl (cyI, 15, .inl (fun _ => 0))), (h0_until, .inl (cyI, 15, .inl (fun _ => 0)))] (yT cyI cyZ cyO) sz (fun _ => [(h0, .inr (9, [.ref h0_driven, .ref h0_seen, .ref h0_before, .ref h0_masks, .ref h0_from, .ref h0_until])), (h0_driven, .inl (cyI, 15, .inl yR)), (h0_masks, .inl (cyI, 15, .inl (fun _ => 0))), (h0_from, .inl (cyI, 15, .inl (fun _ => 0))), (h0_until, .inl (cyI, 15, .inl (fun _ => 0)))])) 0 0 (va_A [(h0, .inr (9, [.ref h0_driven, .ref h0_seen, .ref h0_before, .ref h0_masks, .ref h0_from, .ref h0_until])), (h0_driven, .inl (cyI, 15, .inl yR)), (h0_masks, .inl (cyI, 15, .inl (fun _ => 0))), (h0_from, .inl (cyI, 15, .inl (fun _ => 0))), (h0_until, .inl (cyI, 15, .inl (fun _ => 0)))] sz) := by
  refine yMet (cc := cX9_shown) (maxL := 4) (ret := (some .int)) (by decide) rfl (Nat.le_of_ble_eq_true rfl) ?_
  intro p e s m below meth c A hx hb hr hlk hml hts hown hnm hsz hAe hP hK hD hA hS ls hl
  have hl : lv_has ls 4 [(0, .ref h0), (1, .int i), (2, .int t)] := hl
  have hf19 := hts (.fieldLink RX9 19 "BusBridge$Wires" "masks" "[I") (by decide +kernel)
  have hf22 := hts (.fieldLink RX9 22 "BusBridge$Wires" "from" "[I") (by decide +kernel)
  have hf25 := hts (.fieldLink RX9 25 "BusBridge$Wires" "until" "[I") (by decide +kernel)
  have hf9 := hts (.fieldLink RX9 9 "BusBridge$Wires" "driven" "[I") (by decide +kernel)
  have hnX9 : ∀ w ∈ wsX90, w ∈ wsX9_shown := by decide +kernel
  refine lv_iload_n hx hb dX9_shown_0 rfl (lv_at hl 2 rfl) ?_
  refine lv_aload_n hx hb dX9_shown_1 rfl (lv_at hl 0 rfl) ?_
  refine va_get (D := (dC, dI)) (ci := 9) (v := .ref h0_from) (C := RX9) (T := TX9) (N := 6) hx hb hts hnX9 hown hK hP 0 rfl rfl 4 (by decide) hf22 (fun _ h9 => h9) rfl dX9_shown_2 ?_
  refine lv_iload_n hx hb dX9_shown_5 rfl (lv_at hl 1 rfl) ?_
  refine yy_iald (v := 0) hx hb hK hP 3 0 rfl rfl hin dX9_shown_6 rfl ?_
  refine lv_icmp_lt (tgt := 24) hx hb dX9_shown_7 (by decide) (fun c7 => ?_) (fun c7 => ?_)
  · refine lv_iconst (v := 0) hx hb dX9_shown_24 (by decide) ?_
    refine lv_istore_n (lv' := [(3, .int 0), (0, .ref h0), (1, .int i), (2, .int t)]) hx hb dX9_shown_25 rfl hl (by decide) rfl (fun ls hl => ?_)
    refine lv_iload_n hx hb dX9_shown_26 rfl (lv_at hl 0 rfl) ?_
    refine lv_if_eq (tgt := 46) hx hb dX9_shown_27 (by decide) (fun _ => ?_) (fun c => absurd (by decide) c)
    refine lv_aload_n hx hb dX9_shown_46 rfl (lv_at hl 1 rfl) ?_
    refine va_get (D := (dC, dI)) (ci := 9) (v := .ref h0_driven) (C := RX9) (T := TX9) (N := 6) hx hb hts hnX9 hown hK hP 0 rfl rfl 0 (by decide) hf9 (fun _ h9 => h9) rfl dX9_shown_47 ?_
    refine lv_iload_n hx hb dX9_shown_50 rfl (lv_at hl 2 rfl) ?_
    refine yy_iald (v := (yR i.toNatClampNeg)) hx hb hK hP 1 0 rfl rfl hin dX9_shown_51 rfl ?_
    refine W.widen (k := 0) (n := 0) (Nat.le_of_ble_eq_true rfl) (Nat.le_of_ble_eq_true rfl) ?_
    exact yy_iret (v := (yR i.toNatClampNeg)) () hx hb hr hlk rfl hsz hAe hK hP hD hS [0, 1, 2, 3, 4] rfl rfl (by decide) (rfl) dX9_shown_52
  · refine lv_iload_n hx hb dX9_shown_10 rfl (lv_at hl 2 rfl) ?_
    refine lv_aload_n hx hb dX9_shown_11 rfl (lv_at hl 0 rfl) ?_
    refine va_get (D := (dC, dI)) (ci := 9) (v := .ref h0_until) (C := RX9) (T := TX9) (N := 6) hx hb hts hnX9 hown hK hP 0 rfl rfl 5 (by decide) hf25 (fun _ h9 => h9) rfl dX9_shown_12 ?_
    refine lv_iload_n hx hb dX9_shown_15 rfl (lv_at hl 1 rfl) ?_
    refine yy_iald (v := 0) hx hb hK hP 4 0 rfl rfl hin dX9_shown_16 rfl ?_
    refine lv_icmp_gt (tgt := 24) hx hb dX9_shown_17 (by decide) (fun c17 => ?_) (fun c17 => ?_)
    · refine lv_iconst (v := 0) hx hb dX9_shown_24 (by decide) ?_
      refine lv_istore_n (lv' := [(3, .int 0), (0, .ref h0), (1, .int i), (2, .int t)]) hx hb dX9_shown_25 rfl hl (by decide) rfl (fun ls hl => ?_)
      refine lv_iload_n hx hb dX9_shown_26 rfl (lv_at hl 0 rfl) ?_
      refine lv_if_eq (tgt := 46) hx hb dX9_shown_27 (by decide) (fun _ => ?_) (fun c => absurd (by decide) c)
      refine lv_aload_n hx hb dX9_shown_46 rfl (lv_at hl 1 rfl) ?_
      refine va_get (D := (dC, dI)) (ci := 9) (v := .ref h0_driven) (C := RX9) (T := TX9) (N := 6) hx hb hts hnX9 hown hK hP 0 rfl rfl 0 (by decide) hf9 (fun _ h9 => h9) rfl dX9_shown_47 ?_
      refine lv_iload_n hx hb dX9_shown_50 rfl (lv_at hl 2 rfl) ?_
      refine yy_iald (v := (yR i.toNatClampNeg)) hx hb hK hP 1 0 rfl rfl hin dX9_shown_51 rfl ?_
      refine W.widen (k := 0) (n := 0) (Nat.le_of_ble_eq_true rfl) (Nat.le_of_ble_eq_true rfl) ?_
      exact yy_iret (v := (yR i.toNatClampNeg)) () hx hb hr hlk rfl hsz hAe hK hP hD hS [0, 1, 2, 3, 4] rfl rfl (by decide) (rfl) dX9_shown_52
    · refine lv_iconst (v := 1) hx hb dX9_shown_20 (by decide) ?_
      refine lv_goto (tgt := 25) hx hb dX9_shown_21 (by decide) ?_
      refine lv_istore_n (lv' := [(3, .int 1), (0, .ref h0), (1, .int i), (2, .int t)]) hx hb dX9_shown_25 rfl hl (by decide) rfl (fun ls hl => ?_)
      refine lv_iload_n hx hb dX9_shown_26 rfl (lv_at hl 0 rfl) ?_
      refine lv_if_eq (tgt := 46) hx hb dX9_shown_27 (by decide) (fun c => absurd c (by decide)) (fun _ => ?_)
      refine lv_aload_n hx hb dX9_shown_30 rfl (lv_at hl 1 rfl) ?_
      refine va_get (D := (dC, dI)) (ci := 9) (v := .ref h0_driven) (C := RX9) (T := TX9) (N := 6) hx hb hts hnX9 hown hK hP 0 rfl rfl 0 (by decide) hf9 (fun _ h9 => h9) rfl dX9_shown_31 ?_
      refine lv_iload_n hx hb dX9_shown_34 rfl (lv_at hl 2 rfl) ?_
      refine yy_iald (v := (yR i.toNatClampNeg)) hx hb hK hP 1 0 rfl rfl hin dX9_shown_35 rfl ?_
      refine lv_aload_n hx hb dX9_shown_36 rfl (lv_at hl 1 rfl) ?_
      refine va_get (D := (dC, dI)) (ci := 9) (v := .ref h0_masks) (C := RX9) (T := TX9) (N := 6) hx hb hts hnX9 hown hK hP 0 rfl rfl 3 (by decide) hf19 (fun _ h9 => h9) rfl dX9_shown_37 ?_
      refine lv_iload_n hx hb dX9_shown_40 rfl (lv_at hl 2 rfl) ?_
      refine yy_iald (v := 0) hx hb hK hP 2 0 rfl rfl hin dX9_shown_41 rfl ?_
      refine lv_ixor hx hb dX9_shown_42 ?_
      refine yy_int (v := (yR i.toNatClampNeg)) Int32.xor_zero ?_
      refine lv_goto (tgt := 52) hx hb dX9_shown_43 (by decide) ?_
      refine W.widen (k := 0) (n := 0) (Nat.le_of_ble_eq_true rfl) (Nat.le_of_ble_eq_true rfl) ?_
      exact yy_iret (v := (yR i.toNatClampNeg)) () hx hb hr hlk rfl hsz hAe hK hP hD hS [0, 1, 2, 3, 4] rfl rfl (by decide) (rfl) dX9_shown_52
set_option maxHeartbeats 4000000 in
set_option maxRecDepth 100000 in
theorem b0_X9_look_1 (l : Launch) (dC : Nat → ClassId) (dI : Nat → Nat → Nat) (cyI cyZ cyO : ClassId) (sz : Nat) (a0 : Nat) (a1 : Nat) (a2 : Nat) (a3 : Nat) (a4 : Nat) (a5 : Nat) (a6 : Nat)  : Met l yX9_look wsX9_look ({ frames := 1, cells := 0, slots := 0, locals := 23 }) (yPre [.ref a0, .int 0] (dC, dI) [(a0, .inr (9, [.ref a1, .ref a2, .ref a3, .ref a4, .ref a5, .ref a6])), (a1, .inl (cyI, 15, .inl yR)), (a2, .inl (cyI, 15, .inl (fun _ => 0))), (a4, .inl (cyI, 15, .inl (fun _ => 0))), (a5, .inl (cyI, 15, .inl (fun _ => 0))), (a6, .inl (cyI, 15, .inl (fun _ => 0)))] (yT cyI cyZ cyO) sz) (yQv (fun (u : Unit) => True) (dC, dI) [(a0, .inr (9, [.ref a1, .ref a2, .ref a3, .ref a4, .ref a5, .ref a6])), (a1, .inl (cyI, 15, .inl yR)), (a2, .inl (cyI, 15, .inl (fun _ => 0))), (a4, .inl (cyI, 15, .inl (fun _ => 0))), (a5, .inl (cyI, 15, .inl (fun _ => 0))), (a6, .inl (cyI, 15, .inl (fun _ => 0)))] (yT cyI cyZ cyO) sz (fun _ => [(a0, .inr (9, [.ref a1, .ref a2, .ref a3, .ref a4, .ref a5, .ref a6])), (a1, .inl (cyI, 15, .inl yR)), (a2, .inl (cyI, 15, .inl yR)), (a4, .inl (cyI, 15, .inl (fun _ => 0))), (a5, .inl (cyI, 15, .inl (fun _ => 0))), (a6, .inl (cyI, 15, .inl (fun _ => 0)))])) 0 0 (va_A [(a0, .inr (9, [.ref a1, .ref a2, .ref a3, .ref a4, .ref a5, .ref a6])), (a1, .inl (cyI, 15, .inl yR)), (a2, .inl (cyI, 15, .inl (fun _ => 0))), (a4, .inl (cyI, 15, .inl (fun _ => 0))), (a5, .inl (cyI, 15, .inl (fun _ => 0))), (a6, .inl (cyI, 15, .inl (fun _ => 0)))] sz) := by
  refine yMet (cc := cX9_look) (maxL := 3) (ret := none) (by decide) rfl (Nat.le_of_ble_eq_true rfl) ?_
  intro p e s m below meth c A hx hb hr hlk hml hts hown hnm hsz hAe hP hK hD hA hS ls hl
  have hl : lv_has ls 3 [(0, .ref a0), (1, .int 0)] := hl
  have hf13 := hts (.fieldLink RX9 13 "BusBridge$Wires" "seen" "[I") (by decide +kernel)
  have hnX9 : ∀ w ∈ wsX90, w ∈ wsX9_look := by decide +kernel
  refine lv_iconst (v := 0) hx hb dX9_look_0 (by decide) ?_
  refine lv_istore_n (lv' := [(2, .int 0), (0, .ref a0), (1, .int 0)]) hx hb dX9_look_1 rfl hl (by decide) rfl (fun ls hl => ?_)
  refine lv_iload_n hx hb dX9_look_2 rfl (lv_at hl 0 rfl) ?_
  refine lv_bipush (v := 15) hx hb dX9_look_3 (by decide) ?_
  refine lv_icmp_ge (tgt := 26) hx hb dX9_look_5 (by decide) (fun c => absurd c (by decide)) (fun _ => ?_)
  refine lv_aload_n hx hb dX9_look_8 rfl (lv_at hl 1 rfl) ?_
  refine va_get (D := (dC, dI)) (ci := 9) (v := .ref a2) (C := RX9) (T := TX9) (N := 6) hx hb hts hnX9 hown hK hP 0 rfl rfl 1 (by decide) hf13 (fun _ h9 => h9) rfl dX9_look_9 ?_
  refine lv_iload_n hx hb dX9_look_12 rfl (lv_at hl 0 rfl) ?_
  refine lv_aload_n hx hb dX9_look_13 rfl (lv_at hl 1 rfl) ?_
  refine lv_iload_n hx hb dX9_look_14 rfl (lv_at hl 0 rfl) ?_
  refine lv_iload_n hx hb dX9_look_15 rfl (lv_at hl 2 rfl) ?_
  have hPc := hP.sub (ws' := [(a0, .inr (9, [.ref a1, .ref a2, .ref a3, .ref a4, .ref a5, .ref a6])), (a1, .inl (cyI, 15, .inl yR)), (a4, .inl (cyI, 15, .inl (fun _ => 0))), (a5, .inl (cyI, 15, .inl (fun _ => 0))), (a6, .inl (cyI, 15, .inl (fun _ => 0)))]) [0, 1, 3, 4, 5] rfl
  have hDc := hD.sub (ws' := [(a0, .inr (9, [.ref a1, .ref a2, .ref a3, .ref a4, .ref a5, .ref a6])), (a1, .inl (cyI, 15, .inl yR)), (a4, .inl (cyI, 15, .inl (fun _ => 0))), (a5, .inl (cyI, 15, .inl (fun _ => 0))), (a6, .inl (cyI, 15, .inl (fun _ => 0)))]) [0, 1, 3, 4, 5] (by decide) rfl
  refine yy_calli [0, 1, 3, 4, 5] [2] (wr := [(a2, .inl (cyI, 15, .inl (fun _ => 0)))]) (va_runV (As := [.int 0, .int 0]) (rest := [.int 0, .ref a2]) ⟨hx, hb, hml, hown, hts⟩ (k_shown l dC dI cyI cyZ cyO s.heap.size a0 a1 a2 a3 a4 a5 a6 0 0 (by first | exact yin (by decide) | assumption)) (cwV 2 hts gX9_look_X9_shown rfl rfl rfl (by decide +kernel) ⟨Nat.le_of_ble_eq_true rfl, Nat.le_of_ble_eq_true rfl⟩) (yPreV hK hPc hDc (ci := 9) (q0 := 0) rfl rfl) rfl rfl hl.1 rfl (lv_room (Nat.le_of_ble_eq_true rfl)) dX9_look_16 ⟨Nat.le_of_ble_eq_true rfl, Nat.le_of_ble_eq_true rfl⟩) hP hD hS hA rfl rfl (by decide) (by decide) (fun r_2 u_1 H locs hw hP hD hS => ?_)
  have hP : va_P (dC, dI) vwCl [(a2, .inl (cyI, 15, .inl (fun _ => 0))), (a0, .inr (9, [.ref a1, .ref a2, .ref a3, .ref a4, .ref a5, .ref a6])), (a1, .inl (cyI, 15, .inl yR)), (a4, .inl (cyI, 15, .inl (fun _ => 0))), (a5, .inl (cyI, 15, .inl (fun _ => 0))), (a6, .inl (cyI, 15, .inl (fun _ => 0)))] H := hP
  have hD : va_D A [(a2, .inl (cyI, 15, .inl (fun _ => 0))), (a0, .inr (9, [.ref a1, .ref a2, .ref a3, .ref a4, .ref a5, .ref a6])), (a1, .inl (cyI, 15, .inl yR)), (a4, .inl (cyI, 15, .inl (fun _ => 0))), (a5, .inl (cyI, 15, .inl (fun _ => 0))), (a6, .inl (cyI, 15, .inl (fun _ => 0)))] := hD
  refine W.widen (k := 0) (n := 0) (Nat.le_of_ble_eq_true rfl) (Nat.le_of_ble_eq_true rfl) ?_
  have hw : r_2 = 0 := hw.trans (by decide)
  subst hw
  refine yy_iast (f' := (fun _ => 0)) hx hb hK hP hD hS 0 0 rfl rfl (yin (by decide)) dX9_look_19 (yid rfl) (fun H locs hP hD hS => ?_)
  have hP : va_P (dC, dI) vwCl [(a2, .inl (cyI, 15, .inl (fun _ => 0))), (a0, .inr (9, [.ref a1, .ref a2, .ref a3, .ref a4, .ref a5, .ref a6])), (a1, .inl (cyI, 15, .inl yR)), (a4, .inl (cyI, 15, .inl (fun _ => 0))), (a5, .inl (cyI, 15, .inl (fun _ => 0))), (a6, .inl (cyI, 15, .inl (fun _ => 0)))] H := hP
  have hD : va_D A [(a2, .inl (cyI, 15, .inl (fun _ => 0))), (a0, .inr (9, [.ref a1, .ref a2, .ref a3, .ref a4, .ref a5, .ref a6])), (a1, .inl (cyI, 15, .inl yR)), (a4, .inl (cyI, 15, .inl (fun _ => 0))), (a5, .inl (cyI, 15, .inl (fun _ => 0))), (a6, .inl (cyI, 15, .inl (fun _ => 0)))] := hD
  refine lv_iinc (v := 1) (lv' := [(2, .int 1), (0, .ref a0), (1, .int 0)]) hx hb dX9_look_20 hl (k := 0) rfl (by decide) (by decide) rfl (fun ls hl => ?_)
  refine lv_goto (tgt := 2) hx hb dX9_look_23 (by decide) ?_
  refine lv_iload_n hx hb dX9_look_2 rfl (lv_at hl 0 rfl) ?_
  refine lv_bipush (v := 15) hx hb dX9_look_3 (by decide) ?_
  refine lv_icmp_ge (tgt := 26) hx hb dX9_look_5 (by decide) (fun c => absurd c (by decide)) (fun _ => ?_)
  refine lv_aload_n hx hb dX9_look_8 rfl (lv_at hl 1 rfl) ?_
  refine va_get (D := (dC, dI)) (ci := 9) (v := .ref a2) (C := RX9) (T := TX9) (N := 6) hx hb hts hnX9 hown hK hP 1 rfl rfl 1 (by decide) hf13 (fun _ h9 => h9) rfl dX9_look_9 ?_
  refine lv_iload_n hx hb dX9_look_12 rfl (lv_at hl 0 rfl) ?_
  refine lv_aload_n hx hb dX9_look_13 rfl (lv_at hl 1 rfl) ?_
  refine lv_iload_n hx hb dX9_look_14 rfl (lv_at hl 0 rfl) ?_
  refine lv_iload_n hx hb dX9_look_15 rfl (lv_at hl 2 rfl) ?_
  have hPc := hP.sub (ws' := [(a0, .inr (9, [.ref a1, .ref a2, .ref a3, .ref a4, .ref a5, .ref a6])), (a1, .inl (cyI, 15, .inl yR)), (a4, .inl (cyI, 15, .inl (fun _ => 0))), (a5, .inl (cyI, 15, .inl (fun _ => 0))), (a6, .inl (cyI, 15, .inl (fun _ => 0)))]) [1, 2, 3, 4, 5] rfl
  have hDc := hD.sub (ws' := [(a0, .inr (9, [.ref a1, .ref a2, .ref a3, .ref a4, .ref a5, .ref a6])), (a1, .inl (cyI, 15, .inl yR)), (a4, .inl (cyI, 15, .inl (fun _ => 0))), (a5, .inl (cyI, 15, .inl (fun _ => 0))), (a6, .inl (cyI, 15, .inl (fun _ => 0)))]) [1, 2, 3, 4, 5] (by decide) rfl
  refine yy_calli [1, 2, 3, 4, 5] [0] (wr := [(a2, .inl (cyI, 15, .inl (fun _ => 0)))]) (va_runV (As := [.int 1, .int 0]) (rest := [.int 1, .ref a2]) ⟨hx, hb, hml, hown, hts⟩ (k_shown l dC dI cyI cyZ cyO H.size a0 a1 a2 a3 a4 a5 a6 1 0 (by first | exact yin (by decide) | assumption)) (cwV 2 hts gX9_look_X9_shown rfl rfl rfl (by decide +kernel) ⟨Nat.le_of_ble_eq_true rfl, Nat.le_of_ble_eq_true rfl⟩) (yPreV hK hPc hDc (ci := 9) (q0 := 0) rfl rfl) rfl rfl hl.1 rfl (lv_room (Nat.le_of_ble_eq_true rfl)) dX9_look_16 ⟨Nat.le_of_ble_eq_true rfl, Nat.le_of_ble_eq_true rfl⟩) hP hD hS hA rfl rfl (by decide) (by decide) (fun r_4 u_3 H locs hw hP hD hS => ?_)
  have hP : va_P (dC, dI) vwCl [(a2, .inl (cyI, 15, .inl (fun _ => 0))), (a0, .inr (9, [.ref a1, .ref a2, .ref a3, .ref a4, .ref a5, .ref a6])), (a1, .inl (cyI, 15, .inl yR)), (a4, .inl (cyI, 15, .inl (fun _ => 0))), (a5, .inl (cyI, 15, .inl (fun _ => 0))), (a6, .inl (cyI, 15, .inl (fun _ => 0)))] H := hP
  have hD : va_D A [(a2, .inl (cyI, 15, .inl (fun _ => 0))), (a0, .inr (9, [.ref a1, .ref a2, .ref a3, .ref a4, .ref a5, .ref a6])), (a1, .inl (cyI, 15, .inl yR)), (a4, .inl (cyI, 15, .inl (fun _ => 0))), (a5, .inl (cyI, 15, .inl (fun _ => 0))), (a6, .inl (cyI, 15, .inl (fun _ => 0)))] := hD
  refine W.widen (k := 0) (n := 0) (Nat.le_of_ble_eq_true rfl) (Nat.le_of_ble_eq_true rfl) ?_
  have hw : r_4 = 0 := hw.trans (by decide)
  subst hw
  refine yy_iast (f' := (fun _ => 0)) hx hb hK hP hD hS 0 0 rfl rfl (yin (by decide)) dX9_look_19 (yid rfl) (fun H locs hP hD hS => ?_)
  have hP : va_P (dC, dI) vwCl [(a2, .inl (cyI, 15, .inl (fun _ => 0))), (a0, .inr (9, [.ref a1, .ref a2, .ref a3, .ref a4, .ref a5, .ref a6])), (a1, .inl (cyI, 15, .inl yR)), (a4, .inl (cyI, 15, .inl (fun _ => 0))), (a5, .inl (cyI, 15, .inl (fun _ => 0))), (a6, .inl (cyI, 15, .inl (fun _ => 0)))] H := hP
  have hD : va_D A [(a2, .inl (cyI, 15, .inl (fun _ => 0))), (a0, .inr (9, [.ref a1, .ref a2, .ref a3, .ref a4, .ref a5, .ref a6])), (a1, .inl (cyI, 15, .inl yR)), (a4, .inl (cyI, 15, .inl (fun _ => 0))), (a5, .inl (cyI, 15, .inl (fun _ => 0))), (a6, .inl (cyI, 15, .inl (fun _ => 0)))] := hD
  refine lv_iinc (v := 2) (lv' := [(2, .int 2), (0, .ref a0), (1, .int 0)]) hx hb dX9_look_20 hl (k := 0) rfl (by decide) (by decide) rfl (fun ls hl => ?_)
  refine lv_goto (tgt := 2) hx hb dX9_look_23 (by decide) ?_
  refine lv_iload_n hx hb dX9_look_2 rfl (lv_at hl 0 rfl) ?_
  refine lv_bipush (v := 15) hx hb dX9_look_3 (by decide) ?_
  refine lv_icmp_ge (tgt := 26) hx hb dX9_look_5 (by decide) (fun c => absurd c (by decide)) (fun _ => ?_)
  refine lv_aload_n hx hb dX9_look_8 rfl (lv_at hl 1 rfl) ?_
  refine va_get (D := (dC, dI)) (ci := 9) (v := .ref a2) (C := RX9) (T := TX9) (N := 6) hx hb hts hnX9 hown hK hP 1 rfl rfl 1 (by decide) hf13 (fun _ h9 => h9) rfl dX9_look_9 ?_
  refine lv_iload_n hx hb dX9_look_12 rfl (lv_at hl 0 rfl) ?_
  refine lv_aload_n hx hb dX9_look_13 rfl (lv_at hl 1 rfl) ?_
  refine lv_iload_n hx hb dX9_look_14 rfl (lv_at hl 0 rfl) ?_
  refine lv_iload_n hx hb dX9_look_15 rfl (lv_at hl 2 rfl) ?_
  have hPc := hP.sub (ws' := [(a0, .inr (9, [.ref a1, .ref a2, .ref a3, .ref a4, .ref a5, .ref a6])), (a1, .inl (cyI, 15, .inl yR)), (a4, .inl (cyI, 15, .inl (fun _ => 0))), (a5, .inl (cyI, 15, .inl (fun _ => 0))), (a6, .inl (cyI, 15, .inl (fun _ => 0)))]) [1, 2, 3, 4, 5] rfl
  have hDc := hD.sub (ws' := [(a0, .inr (9, [.ref a1, .ref a2, .ref a3, .ref a4, .ref a5, .ref a6])), (a1, .inl (cyI, 15, .inl yR)), (a4, .inl (cyI, 15, .inl (fun _ => 0))), (a5, .inl (cyI, 15, .inl (fun _ => 0))), (a6, .inl (cyI, 15, .inl (fun _ => 0)))]) [1, 2, 3, 4, 5] (by decide) rfl
  refine yy_calli [1, 2, 3, 4, 5] [0] (wr := [(a2, .inl (cyI, 15, .inl (fun _ => 0)))]) (va_runV (As := [.int 2, .int 0]) (rest := [.int 2, .ref a2]) ⟨hx, hb, hml, hown, hts⟩ (k_shown l dC dI cyI cyZ cyO H.size a0 a1 a2 a3 a4 a5 a6 2 0 (by first | exact yin (by decide) | assumption)) (cwV 2 hts gX9_look_X9_shown rfl rfl rfl (by decide +kernel) ⟨Nat.le_of_ble_eq_true rfl, Nat.le_of_ble_eq_true rfl⟩) (yPreV hK hPc hDc (ci := 9) (q0 := 0) rfl rfl) rfl rfl hl.1 rfl (lv_room (Nat.le_of_ble_eq_true rfl)) dX9_look_16 ⟨Nat.le_of_ble_eq_true rfl, Nat.le_of_ble_eq_true rfl⟩) hP hD hS hA rfl rfl (by decide) (by decide) (fun r_6 u_5 H locs hw hP hD hS => ?_)
  have hP : va_P (dC, dI) vwCl [(a2, .inl (cyI, 15, .inl (fun _ => 0))), (a0, .inr (9, [.ref a1, .ref a2, .ref a3, .ref a4, .ref a5, .ref a6])), (a1, .inl (cyI, 15, .inl yR)), (a4, .inl (cyI, 15, .inl (fun _ => 0))), (a5, .inl (cyI, 15, .inl (fun _ => 0))), (a6, .inl (cyI, 15, .inl (fun _ => 0)))] H := hP
  have hD : va_D A [(a2, .inl (cyI, 15, .inl (fun _ => 0))), (a0, .inr (9, [.ref a1, .ref a2, .ref a3, .ref a4, .ref a5, .ref a6])), (a1, .inl (cyI, 15, .inl yR)), (a4, .inl (cyI, 15, .inl (fun _ => 0))), (a5, .inl (cyI, 15, .inl (fun _ => 0))), (a6, .inl (cyI, 15, .inl (fun _ => 0)))] := hD
  refine W.widen (k := 0) (n := 0) (Nat.le_of_ble_eq_true rfl) (Nat.le_of_ble_eq_true rfl) ?_
  have hw : r_6 = 0 := hw.trans (by decide)
  subst hw
  refine yy_iast (f' := (fun _ => 0)) hx hb hK hP hD hS 0 0 rfl rfl (yin (by decide)) dX9_look_19 (yid rfl) (fun H locs hP hD hS => ?_)
  have hP : va_P (dC, dI) vwCl [(a2, .inl (cyI, 15, .inl (fun _ => 0))), (a0, .inr (9, [.ref a1, .ref a2, .ref a3, .ref a4, .ref a5, .ref a6])), (a1, .inl (cyI, 15, .inl yR)), (a4, .inl (cyI, 15, .inl (fun _ => 0))), (a5, .inl (cyI, 15, .inl (fun _ => 0))), (a6, .inl (cyI, 15, .inl (fun _ => 0)))] H := hP
  have hD : va_D A [(a2, .inl (cyI, 15, .inl (fun _ => 0))), (a0, .inr (9, [.ref a1, .ref a2, .ref a3, .ref a4, .ref a5, .ref a6])), (a1, .inl (cyI, 15, .inl yR)), (a4, .inl (cyI, 15, .inl (fun _ => 0))), (a5, .inl (cyI, 15, .inl (fun _ => 0))), (a6, .inl (cyI, 15, .inl (fun _ => 0)))] := hD
  refine lv_iinc (v := 3) (lv' := [(2, .int 3), (0, .ref a0), (1, .int 0)]) hx hb dX9_look_20 hl (k := 0) rfl (by decide) (by decide) rfl (fun ls hl => ?_)
  refine lv_goto (tgt := 2) hx hb dX9_look_23 (by decide) ?_
  refine lv_iload_n hx hb dX9_look_2 rfl (lv_at hl 0 rfl) ?_
  refine lv_bipush (v := 15) hx hb dX9_look_3 (by decide) ?_
  refine lv_icmp_ge (tgt := 26) hx hb dX9_look_5 (by decide) (fun c => absurd c (by decide)) (fun _ => ?_)
  refine lv_aload_n hx hb dX9_look_8 rfl (lv_at hl 1 rfl) ?_
  refine va_get (D := (dC, dI)) (ci := 9) (v := .ref a2) (C := RX9) (T := TX9) (N := 6) hx hb hts hnX9 hown hK hP 1 rfl rfl 1 (by decide) hf13 (fun _ h9 => h9) rfl dX9_look_9 ?_
  refine lv_iload_n hx hb dX9_look_12 rfl (lv_at hl 0 rfl) ?_
  refine lv_aload_n hx hb dX9_look_13 rfl (lv_at hl 1 rfl) ?_
  refine lv_iload_n hx hb dX9_look_14 rfl (lv_at hl 0 rfl) ?_
  refine lv_iload_n hx hb dX9_look_15 rfl (lv_at hl 2 rfl) ?_
  have hPc := hP.sub (ws' := [(a0, .inr (9, [.ref a1, .ref a2, .ref a3, .ref a4, .ref a5, .ref a6])), (a1, .inl (cyI, 15, .inl yR)), (a4, .inl (cyI, 15, .inl (fun _ => 0))), (a5, .inl (cyI, 15, .inl (fun _ => 0))), (a6, .inl (cyI, 15, .inl (fun _ => 0)))]) [1, 2, 3, 4, 5] rfl
  have hDc := hD.sub (ws' := [(a0, .inr (9, [.ref a1, .ref a2, .ref a3, .ref a4, .ref a5, .ref a6])), (a1, .inl (cyI, 15, .inl yR)), (a4, .inl (cyI, 15, .inl (fun _ => 0))), (a5, .inl (cyI, 15, .inl (fun _ => 0))), (a6, .inl (cyI, 15, .inl (fun _ => 0)))]) [1, 2, 3, 4, 5] (by decide) rfl
  refine yy_calli [1, 2, 3, 4, 5] [0] (wr := [(a2, .inl (cyI, 15, .inl (fun _ => 0)))]) (va_runV (As := [.int 3, .int 0]) (rest := [.int 3, .ref a2]) ⟨hx, hb, hml, hown, hts⟩ (k_shown l dC dI cyI cyZ cyO H.size a0 a1 a2 a3 a4 a5 a6 3 0 (by first | exact yin (by decide) | assumption)) (cwV 2 hts gX9_look_X9_shown rfl rfl rfl (by decide +kernel) ⟨Nat.le_of_ble_eq_true rfl, Nat.le_of_ble_eq_true rfl⟩) (yPreV hK hPc hDc (ci := 9) (q0 := 0) rfl rfl) rfl rfl hl.1 rfl (lv_room (Nat.le_of_ble_eq_true rfl)) dX9_look_16 ⟨Nat.le_of_ble_eq_true rfl, Nat.le_of_ble_eq_true rfl⟩) hP hD hS hA rfl rfl (by decide) (by decide) (fun r_8 u_7 H locs hw hP hD hS => ?_)
  have hP : va_P (dC, dI) vwCl [(a2, .inl (cyI, 15, .inl (fun _ => 0))), (a0, .inr (9, [.ref a1, .ref a2, .ref a3, .ref a4, .ref a5, .ref a6])), (a1, .inl (cyI, 15, .inl yR)), (a4, .inl (cyI, 15, .inl (fun _ => 0))), (a5, .inl (cyI, 15, .inl (fun _ => 0))), (a6, .inl (cyI, 15, .inl (fun _ => 0)))] H := hP
  have hD : va_D A [(a2, .inl (cyI, 15, .inl (fun _ => 0))), (a0, .inr (9, [.ref a1, .ref a2, .ref a3, .ref a4, .ref a5, .ref a6])), (a1, .inl (cyI, 15, .inl yR)), (a4, .inl (cyI, 15, .inl (fun _ => 0))), (a5, .inl (cyI, 15, .inl (fun _ => 0))), (a6, .inl (cyI, 15, .inl (fun _ => 0)))] := hD
  refine W.widen (k := 0) (n := 0) (Nat.le_of_ble_eq_true rfl) (Nat.le_of_ble_eq_true rfl) ?_
  have hw : r_8 = 0 := hw.trans (by decide)
  subst hw
  refine yy_iast (f' := (fun _ => 0)) hx hb hK hP hD hS 0 0 rfl rfl (yin (by decide)) dX9_look_19 (yid rfl) (fun H locs hP hD hS => ?_)
  have hP : va_P (dC, dI) vwCl [(a2, .inl (cyI, 15, .inl (fun _ => 0))), (a0, .inr (9, [.ref a1, .ref a2, .ref a3, .ref a4, .ref a5, .ref a6])), (a1, .inl (cyI, 15, .inl yR)), (a4, .inl (cyI, 15, .inl (fun _ => 0))), (a5, .inl (cyI, 15, .inl (fun _ => 0))), (a6, .inl (cyI, 15, .inl (fun _ => 0)))] H := hP
  have hD : va_D A [(a2, .inl (cyI, 15, .inl (fun _ => 0))), (a0, .inr (9, [.ref a1, .ref a2, .ref a3, .ref a4, .ref a5, .ref a6])), (a1, .inl (cyI, 15, .inl yR)), (a4, .inl (cyI, 15, .inl (fun _ => 0))), (a5, .inl (cyI, 15, .inl (fun _ => 0))), (a6, .inl (cyI, 15, .inl (fun _ => 0)))] := hD
  refine lv_iinc (v := 4) (lv' := [(2, .int 4), (0, .ref a0), (1, .int 0)]) hx hb dX9_look_20 hl (k := 0) rfl (by decide) (by decide) rfl (fun ls hl => ?_)
  refine lv_goto (tgt := 2) hx hb dX9_look_23 (by decide) ?_
  refine lv_iload_n hx hb dX9_look_2 rfl (lv_at hl 0 rfl) ?_
  refine lv_bipush (v := 15) hx hb dX9_look_3 (by decide) ?_
  refine lv_icmp_ge (tgt := 26) hx hb dX9_look_5 (by decide) (fun c => absurd c (by decide)) (fun _ => ?_)
  refine lv_aload_n hx hb dX9_look_8 rfl (lv_at hl 1 rfl) ?_
  refine va_get (D := (dC, dI)) (ci := 9) (v := .ref a2) (C := RX9) (T := TX9) (N := 6) hx hb hts hnX9 hown hK hP 1 rfl rfl 1 (by decide) hf13 (fun _ h9 => h9) rfl dX9_look_9 ?_
  refine lv_iload_n hx hb dX9_look_12 rfl (lv_at hl 0 rfl) ?_
  refine lv_aload_n hx hb dX9_look_13 rfl (lv_at hl 1 rfl) ?_
  refine lv_iload_n hx hb dX9_look_14 rfl (lv_at hl 0 rfl) ?_
  refine lv_iload_n hx hb dX9_look_15 rfl (lv_at hl 2 rfl) ?_
  have hPc := hP.sub (ws' := [(a0, .inr (9, [.ref a1, .ref a2, .ref a3, .ref a4, .ref a5, .ref a6])), (a1, .inl (cyI, 15, .inl yR)), (a4, .inl (cyI, 15, .inl (fun _ => 0))), (a5, .inl (cyI, 15, .inl (fun _ => 0))), (a6, .inl (cyI, 15, .inl (fun _ => 0)))]) [1, 2, 3, 4, 5] rfl
  have hDc := hD.sub (ws' := [(a0, .inr (9, [.ref a1, .ref a2, .ref a3, .ref a4, .ref a5, .ref a6])), (a1, .inl (cyI, 15, .inl yR)), (a4, .inl (cyI, 15, .inl (fun _ => 0))), (a5, .inl (cyI, 15, .inl (fun _ => 0))), (a6, .inl (cyI, 15, .inl (fun _ => 0)))]) [1, 2, 3, 4, 5] (by decide) rfl
  refine yy_calli [1, 2, 3, 4, 5] [0] (wr := [(a2, .inl (cyI, 15, .inl (fun _ => 0)))]) (va_runV (As := [.int 4, .int 0]) (rest := [.int 4, .ref a2]) ⟨hx, hb, hml, hown, hts⟩ (k_shown l dC dI cyI cyZ cyO H.size a0 a1 a2 a3 a4 a5 a6 4 0 (by first | exact yin (by decide) | assumption)) (cwV 2 hts gX9_look_X9_shown rfl rfl rfl (by decide +kernel) ⟨Nat.le_of_ble_eq_true rfl, Nat.le_of_ble_eq_true rfl⟩) (yPreV hK hPc hDc (ci := 9) (q0 := 0) rfl rfl) rfl rfl hl.1 rfl (lv_room (Nat.le_of_ble_eq_true rfl)) dX9_look_16 ⟨Nat.le_of_ble_eq_true rfl, Nat.le_of_ble_eq_true rfl⟩) hP hD hS hA rfl rfl (by decide) (by decide) (fun r_10 u_9 H locs hw hP hD hS => ?_)
  have hP : va_P (dC, dI) vwCl [(a2, .inl (cyI, 15, .inl (fun _ => 0))), (a0, .inr (9, [.ref a1, .ref a2, .ref a3, .ref a4, .ref a5, .ref a6])), (a1, .inl (cyI, 15, .inl yR)), (a4, .inl (cyI, 15, .inl (fun _ => 0))), (a5, .inl (cyI, 15, .inl (fun _ => 0))), (a6, .inl (cyI, 15, .inl (fun _ => 0)))] H := hP
  have hD : va_D A [(a2, .inl (cyI, 15, .inl (fun _ => 0))), (a0, .inr (9, [.ref a1, .ref a2, .ref a3, .ref a4, .ref a5, .ref a6])), (a1, .inl (cyI, 15, .inl yR)), (a4, .inl (cyI, 15, .inl (fun _ => 0))), (a5, .inl (cyI, 15, .inl (fun _ => 0))), (a6, .inl (cyI, 15, .inl (fun _ => 0)))] := hD
  refine W.widen (k := 0) (n := 0) (Nat.le_of_ble_eq_true rfl) (Nat.le_of_ble_eq_true rfl) ?_
  have hw : r_10 = 1 := hw.trans (by decide)
  subst hw
  refine yy_iast (f' := yR) hx hb hK hP hD hS 0 0 rfl rfl (yin (by decide)) dX9_look_19 rfl (fun H locs hP hD hS => ?_)
  have hP : va_P (dC, dI) vwCl [(a2, .inl (cyI, 15, .inl yR)), (a0, .inr (9, [.ref a1, .ref a2, .ref a3, .ref a4, .ref a5, .ref a6])), (a1, .inl (cyI, 15, .inl yR)), (a4, .inl (cyI, 15, .inl (fun _ => 0))), (a5, .inl (cyI, 15, .inl (fun _ => 0))), (a6, .inl (cyI, 15, .inl (fun _ => 0)))] H := hP
  have hD : va_D A [(a2, .inl (cyI, 15, .inl yR)), (a0, .inr (9, [.ref a1, .ref a2, .ref a3, .ref a4, .ref a5, .ref a6])), (a1, .inl (cyI, 15, .inl yR)), (a4, .inl (cyI, 15, .inl (fun _ => 0))), (a5, .inl (cyI, 15, .inl (fun _ => 0))), (a6, .inl (cyI, 15, .inl (fun _ => 0)))] := hD
  refine lv_iinc (v := 5) (lv' := [(2, .int 5), (0, .ref a0), (1, .int 0)]) hx hb dX9_look_20 hl (k := 0) rfl (by decide) (by decide) rfl (fun ls hl => ?_)
  refine lv_goto (tgt := 2) hx hb dX9_look_23 (by decide) ?_
  refine lv_iload_n hx hb dX9_look_2 rfl (lv_at hl 0 rfl) ?_
  refine lv_bipush (v := 15) hx hb dX9_look_3 (by decide) ?_
  refine lv_icmp_ge (tgt := 26) hx hb dX9_look_5 (by decide) (fun c => absurd c (by decide)) (fun _ => ?_)
  refine lv_aload_n hx hb dX9_look_8 rfl (lv_at hl 1 rfl) ?_
  refine va_get (D := (dC, dI)) (ci := 9) (v := .ref a2) (C := RX9) (T := TX9) (N := 6) hx hb hts hnX9 hown hK hP 1 rfl rfl 1 (by decide) hf13 (fun _ h9 => h9) rfl dX9_look_9 ?_
  refine lv_iload_n hx hb dX9_look_12 rfl (lv_at hl 0 rfl) ?_
  refine lv_aload_n hx hb dX9_look_13 rfl (lv_at hl 1 rfl) ?_
  refine lv_iload_n hx hb dX9_look_14 rfl (lv_at hl 0 rfl) ?_
  refine lv_iload_n hx hb dX9_look_15 rfl (lv_at hl 2 rfl) ?_
  have hPc := hP.sub (ws' := [(a0, .inr (9, [.ref a1, .ref a2, .ref a3, .ref a4, .ref a5, .ref a6])), (a1, .inl (cyI, 15, .inl yR)), (a4, .inl (cyI, 15, .inl (fun _ => 0))), (a5, .inl (cyI, 15, .inl (fun _ => 0))), (a6, .inl (cyI, 15, .inl (fun _ => 0)))]) [1, 2, 3, 4, 5] rfl
  have hDc := hD.sub (ws' := [(a0, .inr (9, [.ref a1, .ref a2, .ref a3, .ref a4, .ref a5, .ref a6])), (a1, .inl (cyI, 15, .inl yR)), (a4, .inl (cyI, 15, .inl (fun _ => 0))), (a5, .inl (cyI, 15, .inl (fun _ => 0))), (a6, .inl (cyI, 15, .inl (fun _ => 0)))]) [1, 2, 3, 4, 5] (by decide) rfl
  refine yy_calli [1, 2, 3, 4, 5] [0] (wr := [(a2, .inl (cyI, 15, .inl yR))]) (va_runV (As := [.int 5, .int 0]) (rest := [.int 5, .ref a2]) ⟨hx, hb, hml, hown, hts⟩ (k_shown l dC dI cyI cyZ cyO H.size a0 a1 a2 a3 a4 a5 a6 5 0 (by first | exact yin (by decide) | assumption)) (cwV 2 hts gX9_look_X9_shown rfl rfl rfl (by decide +kernel) ⟨Nat.le_of_ble_eq_true rfl, Nat.le_of_ble_eq_true rfl⟩) (yPreV hK hPc hDc (ci := 9) (q0 := 0) rfl rfl) rfl rfl hl.1 rfl (lv_room (Nat.le_of_ble_eq_true rfl)) dX9_look_16 ⟨Nat.le_of_ble_eq_true rfl, Nat.le_of_ble_eq_true rfl⟩) hP hD hS hA rfl rfl (by decide) (by decide) (fun r_12 u_11 H locs hw hP hD hS => ?_)
  have hP : va_P (dC, dI) vwCl [(a2, .inl (cyI, 15, .inl yR)), (a0, .inr (9, [.ref a1, .ref a2, .ref a3, .ref a4, .ref a5, .ref a6])), (a1, .inl (cyI, 15, .inl yR)), (a4, .inl (cyI, 15, .inl (fun _ => 0))), (a5, .inl (cyI, 15, .inl (fun _ => 0))), (a6, .inl (cyI, 15, .inl (fun _ => 0)))] H := hP
  have hD : va_D A [(a2, .inl (cyI, 15, .inl yR)), (a0, .inr (9, [.ref a1, .ref a2, .ref a3, .ref a4, .ref a5, .ref a6])), (a1, .inl (cyI, 15, .inl yR)), (a4, .inl (cyI, 15, .inl (fun _ => 0))), (a5, .inl (cyI, 15, .inl (fun _ => 0))), (a6, .inl (cyI, 15, .inl (fun _ => 0)))] := hD
  refine W.widen (k := 0) (n := 0) (Nat.le_of_ble_eq_true rfl) (Nat.le_of_ble_eq_true rfl) ?_
  have hw : r_12 = 0 := hw.trans (by decide)
  subst hw
  refine yy_iast (f' := yR) hx hb hK hP hD hS 0 0 rfl rfl (yin (by decide)) dX9_look_19 (yid rfl) (fun H locs hP hD hS => ?_)
  have hP : va_P (dC, dI) vwCl [(a2, .inl (cyI, 15, .inl yR)), (a0, .inr (9, [.ref a1, .ref a2, .ref a3, .ref a4, .ref a5, .ref a6])), (a1, .inl (cyI, 15, .inl yR)), (a4, .inl (cyI, 15, .inl (fun _ => 0))), (a5, .inl (cyI, 15, .inl (fun _ => 0))), (a6, .inl (cyI, 15, .inl (fun _ => 0)))] H := hP
  have hD : va_D A [(a2, .inl (cyI, 15, .inl yR)), (a0, .inr (9, [.ref a1, .ref a2, .ref a3, .ref a4, .ref a5, .ref a6])), (a1, .inl (cyI, 15, .inl yR)), (a4, .inl (cyI, 15, .inl (fun _ => 0))), (a5, .inl (cyI, 15, .inl (fun _ => 0))), (a6, .inl (cyI, 15, .inl (fun _ => 0)))] := hD
  refine lv_iinc (v := 6) (lv' := [(2, .int 6), (0, .ref a0), (1, .int 0)]) hx hb dX9_look_20 hl (k := 0) rfl (by decide) (by decide) rfl (fun ls hl => ?_)
  refine lv_goto (tgt := 2) hx hb dX9_look_23 (by decide) ?_
  refine lv_iload_n hx hb dX9_look_2 rfl (lv_at hl 0 rfl) ?_
  refine lv_bipush (v := 15) hx hb dX9_look_3 (by decide) ?_
  refine lv_icmp_ge (tgt := 26) hx hb dX9_look_5 (by decide) (fun c => absurd c (by decide)) (fun _ => ?_)
  refine lv_aload_n hx hb dX9_look_8 rfl (lv_at hl 1 rfl) ?_
  refine va_get (D := (dC, dI)) (ci := 9) (v := .ref a2) (C := RX9) (T := TX9) (N := 6) hx hb hts hnX9 hown hK hP 1 rfl rfl 1 (by decide) hf13 (fun _ h9 => h9) rfl dX9_look_9 ?_
  refine lv_iload_n hx hb dX9_look_12 rfl (lv_at hl 0 rfl) ?_
  refine lv_aload_n hx hb dX9_look_13 rfl (lv_at hl 1 rfl) ?_
  refine lv_iload_n hx hb dX9_look_14 rfl (lv_at hl 0 rfl) ?_
  refine lv_iload_n hx hb dX9_look_15 rfl (lv_at hl 2 rfl) ?_
  have hPc := hP.sub (ws' := [(a0, .inr (9, [.ref a1, .ref a2, .ref a3, .ref a4, .ref a5, .ref a6])), (a1, .inl (cyI, 15, .inl yR)), (a4, .inl (cyI, 15, .inl (fun _ => 0))), (a5, .inl (cyI, 15, .inl (fun _ => 0))), (a6, .inl (cyI, 15, .inl (fun _ => 0)))]) [1, 2, 3, 4, 5] rfl
  have hDc := hD.sub (ws' := [(a0, .inr (9, [.ref a1, .ref a2, .ref a3, .ref a4, .ref a5, .ref a6])), (a1, .inl (cyI, 15, .inl yR)), (a4, .inl (cyI, 15, .inl (fun _ => 0))), (a5, .inl (cyI, 15, .inl (fun _ => 0))), (a6, .inl (cyI, 15, .inl (fun _ => 0)))]) [1, 2, 3, 4, 5] (by decide) rfl
  refine yy_calli [1, 2, 3, 4, 5] [0] (wr := [(a2, .inl (cyI, 15, .inl yR))]) (va_runV (As := [.int 6, .int 0]) (rest := [.int 6, .ref a2]) ⟨hx, hb, hml, hown, hts⟩ (k_shown l dC dI cyI cyZ cyO H.size a0 a1 a2 a3 a4 a5 a6 6 0 (by first | exact yin (by decide) | assumption)) (cwV 2 hts gX9_look_X9_shown rfl rfl rfl (by decide +kernel) ⟨Nat.le_of_ble_eq_true rfl, Nat.le_of_ble_eq_true rfl⟩) (yPreV hK hPc hDc (ci := 9) (q0 := 0) rfl rfl) rfl rfl hl.1 rfl (lv_room (Nat.le_of_ble_eq_true rfl)) dX9_look_16 ⟨Nat.le_of_ble_eq_true rfl, Nat.le_of_ble_eq_true rfl⟩) hP hD hS hA rfl rfl (by decide) (by decide) (fun r_14 u_13 H locs hw hP hD hS => ?_)
  have hP : va_P (dC, dI) vwCl [(a2, .inl (cyI, 15, .inl yR)), (a0, .inr (9, [.ref a1, .ref a2, .ref a3, .ref a4, .ref a5, .ref a6])), (a1, .inl (cyI, 15, .inl yR)), (a4, .inl (cyI, 15, .inl (fun _ => 0))), (a5, .inl (cyI, 15, .inl (fun _ => 0))), (a6, .inl (cyI, 15, .inl (fun _ => 0)))] H := hP
  have hD : va_D A [(a2, .inl (cyI, 15, .inl yR)), (a0, .inr (9, [.ref a1, .ref a2, .ref a3, .ref a4, .ref a5, .ref a6])), (a1, .inl (cyI, 15, .inl yR)), (a4, .inl (cyI, 15, .inl (fun _ => 0))), (a5, .inl (cyI, 15, .inl (fun _ => 0))), (a6, .inl (cyI, 15, .inl (fun _ => 0)))] := hD
  refine W.widen (k := 0) (n := 0) (Nat.le_of_ble_eq_true rfl) (Nat.le_of_ble_eq_true rfl) ?_
  have hw : r_14 = 0 := hw.trans (by decide)
  subst hw
  refine yy_iast (f' := yR) hx hb hK hP hD hS 0 0 rfl rfl (yin (by decide)) dX9_look_19 (yid rfl) (fun H locs hP hD hS => ?_)
  have hP : va_P (dC, dI) vwCl [(a2, .inl (cyI, 15, .inl yR)), (a0, .inr (9, [.ref a1, .ref a2, .ref a3, .ref a4, .ref a5, .ref a6])), (a1, .inl (cyI, 15, .inl yR)), (a4, .inl (cyI, 15, .inl (fun _ => 0))), (a5, .inl (cyI, 15, .inl (fun _ => 0))), (a6, .inl (cyI, 15, .inl (fun _ => 0)))] H := hP
  have hD : va_D A [(a2, .inl (cyI, 15, .inl yR)), (a0, .inr (9, [.ref a1, .ref a2, .ref a3, .ref a4, .ref a5, .ref a6])), (a1, .inl (cyI, 15, .inl yR)), (a4, .inl (cyI, 15, .inl (fun _ => 0))), (a5, .inl (cyI, 15, .inl (fun _ => 0))), (a6, .inl (cyI, 15, .inl (fun _ => 0)))] := hD
  refine lv_iinc (v := 7) (lv' := [(2, .int 7), (0, .ref a0), (1, .int 0)]) hx hb dX9_look_20 hl (k := 0) rfl (by decide) (by decide) rfl (fun ls hl => ?_)
  refine lv_goto (tgt := 2) hx hb dX9_look_23 (by decide) ?_
  refine lv_iload_n hx hb dX9_look_2 rfl (lv_at hl 0 rfl) ?_
  refine lv_bipush (v := 15) hx hb dX9_look_3 (by decide) ?_
  refine lv_icmp_ge (tgt := 26) hx hb dX9_look_5 (by decide) (fun c => absurd c (by decide)) (fun _ => ?_)
  refine lv_aload_n hx hb dX9_look_8 rfl (lv_at hl 1 rfl) ?_
  refine va_get (D := (dC, dI)) (ci := 9) (v := .ref a2) (C := RX9) (T := TX9) (N := 6) hx hb hts hnX9 hown hK hP 1 rfl rfl 1 (by decide) hf13 (fun _ h9 => h9) rfl dX9_look_9 ?_
  refine lv_iload_n hx hb dX9_look_12 rfl (lv_at hl 0 rfl) ?_
  refine lv_aload_n hx hb dX9_look_13 rfl (lv_at hl 1 rfl) ?_
  refine lv_iload_n hx hb dX9_look_14 rfl (lv_at hl 0 rfl) ?_
  refine lv_iload_n hx hb dX9_look_15 rfl (lv_at hl 2 rfl) ?_
  have hPc := hP.sub (ws' := [(a0, .inr (9, [.ref a1, .ref a2, .ref a3, .ref a4, .ref a5, .ref a6])), (a1, .inl (cyI, 15, .inl yR)), (a4, .inl (cyI, 15, .inl (fun _ => 0))), (a5, .inl (cyI, 15, .inl (fun _ => 0))), (a6, .inl (cyI, 15, .inl (fun _ => 0)))]) [1, 2, 3, 4, 5] rfl
  have hDc := hD.sub (ws' := [(a0, .inr (9, [.ref a1, .ref a2, .ref a3, .ref a4, .ref a5, .ref a6])), (a1, .inl (cyI, 15, .inl yR)), (a4, .inl (cyI, 15, .inl (fun _ => 0))), (a5, .inl (cyI, 15, .inl (fun _ => 0))), (a6, .inl (cyI, 15, .inl (fun _ => 0)))]) [1, 2, 3, 4, 5] (by decide) rfl
  refine yy_calli [1, 2, 3, 4, 5] [0] (wr := [(a2, .inl (cyI, 15, .inl yR))]) (va_runV (As := [.int 7, .int 0]) (rest := [.int 7, .ref a2]) ⟨hx, hb, hml, hown, hts⟩ (k_shown l dC dI cyI cyZ cyO H.size a0 a1 a2 a3 a4 a5 a6 7 0 (by first | exact yin (by decide) | assumption)) (cwV 2 hts gX9_look_X9_shown rfl rfl rfl (by decide +kernel) ⟨Nat.le_of_ble_eq_true rfl, Nat.le_of_ble_eq_true rfl⟩) (yPreV hK hPc hDc (ci := 9) (q0 := 0) rfl rfl) rfl rfl hl.1 rfl (lv_room (Nat.le_of_ble_eq_true rfl)) dX9_look_16 ⟨Nat.le_of_ble_eq_true rfl, Nat.le_of_ble_eq_true rfl⟩) hP hD hS hA rfl rfl (by decide) (by decide) (fun r_16 u_15 H locs hw hP hD hS => ?_)
  have hP : va_P (dC, dI) vwCl [(a2, .inl (cyI, 15, .inl yR)), (a0, .inr (9, [.ref a1, .ref a2, .ref a3, .ref a4, .ref a5, .ref a6])), (a1, .inl (cyI, 15, .inl yR)), (a4, .inl (cyI, 15, .inl (fun _ => 0))), (a5, .inl (cyI, 15, .inl (fun _ => 0))), (a6, .inl (cyI, 15, .inl (fun _ => 0)))] H := hP
  have hD : va_D A [(a2, .inl (cyI, 15, .inl yR)), (a0, .inr (9, [.ref a1, .ref a2, .ref a3, .ref a4, .ref a5, .ref a6])), (a1, .inl (cyI, 15, .inl yR)), (a4, .inl (cyI, 15, .inl (fun _ => 0))), (a5, .inl (cyI, 15, .inl (fun _ => 0))), (a6, .inl (cyI, 15, .inl (fun _ => 0)))] := hD
  refine W.widen (k := 0) (n := 0) (Nat.le_of_ble_eq_true rfl) (Nat.le_of_ble_eq_true rfl) ?_
  have hw : r_16 = 0 := hw.trans (by decide)
  subst hw
  refine yy_iast (f' := yR) hx hb hK hP hD hS 0 0 rfl rfl (yin (by decide)) dX9_look_19 (yid rfl) (fun H locs hP hD hS => ?_)
  have hP : va_P (dC, dI) vwCl [(a2, .inl (cyI, 15, .inl yR)), (a0, .inr (9, [.ref a1, .ref a2, .ref a3, .ref a4, .ref a5, .ref a6])), (a1, .inl (cyI, 15, .inl yR)), (a4, .inl (cyI, 15, .inl (fun _ => 0))), (a5, .inl (cyI, 15, .inl (fun _ => 0))), (a6, .inl (cyI, 15, .inl (fun _ => 0)))] H := hP
  have hD : va_D A [(a2, .inl (cyI, 15, .inl yR)), (a0, .inr (9, [.ref a1, .ref a2, .ref a3, .ref a4, .ref a5, .ref a6])), (a1, .inl (cyI, 15, .inl yR)), (a4, .inl (cyI, 15, .inl (fun _ => 0))), (a5, .inl (cyI, 15, .inl (fun _ => 0))), (a6, .inl (cyI, 15, .inl (fun _ => 0)))] := hD
  refine lv_iinc (v := 8) (lv' := [(2, .int 8), (0, .ref a0), (1, .int 0)]) hx hb dX9_look_20 hl (k := 0) rfl (by decide) (by decide) rfl (fun ls hl => ?_)
  refine lv_goto (tgt := 2) hx hb dX9_look_23 (by decide) ?_
  refine lv_iload_n hx hb dX9_look_2 rfl (lv_at hl 0 rfl) ?_
  refine lv_bipush (v := 15) hx hb dX9_look_3 (by decide) ?_
  refine lv_icmp_ge (tgt := 26) hx hb dX9_look_5 (by decide) (fun c => absurd c (by decide)) (fun _ => ?_)
  refine lv_aload_n hx hb dX9_look_8 rfl (lv_at hl 1 rfl) ?_
  refine va_get (D := (dC, dI)) (ci := 9) (v := .ref a2) (C := RX9) (T := TX9) (N := 6) hx hb hts hnX9 hown hK hP 1 rfl rfl 1 (by decide) hf13 (fun _ h9 => h9) rfl dX9_look_9 ?_
  refine lv_iload_n hx hb dX9_look_12 rfl (lv_at hl 0 rfl) ?_
  refine lv_aload_n hx hb dX9_look_13 rfl (lv_at hl 1 rfl) ?_
  refine lv_iload_n hx hb dX9_look_14 rfl (lv_at hl 0 rfl) ?_
  refine lv_iload_n hx hb dX9_look_15 rfl (lv_at hl 2 rfl) ?_
  have hPc := hP.sub (ws' := [(a0, .inr (9, [.ref a1, .ref a2, .ref a3, .ref a4, .ref a5, .ref a6])), (a1, .inl (cyI, 15, .inl yR)), (a4, .inl (cyI, 15, .inl (fun _ => 0))), (a5, .inl (cyI, 15, .inl (fun _ => 0))), (a6, .inl (cyI, 15, .inl (fun _ => 0)))]) [1, 2, 3, 4, 5] rfl
  have hDc := hD.sub (ws' := [(a0, .inr (9, [.ref a1, .ref a2, .ref a3, .ref a4, .ref a5, .ref a6])), (a1, .inl (cyI, 15, .inl yR)), (a4, .inl (cyI, 15, .inl (fun _ => 0))), (a5, .inl (cyI, 15, .inl (fun _ => 0))), (a6, .inl (cyI, 15, .inl (fun _ => 0)))]) [1, 2, 3, 4, 5] (by decide) rfl
  refine yy_calli [1, 2, 3, 4, 5] [0] (wr := [(a2, .inl (cyI, 15, .inl yR))]) (va_runV (As := [.int 8, .int 0]) (rest := [.int 8, .ref a2]) ⟨hx, hb, hml, hown, hts⟩ (k_shown l dC dI cyI cyZ cyO H.size a0 a1 a2 a3 a4 a5 a6 8 0 (by first | exact yin (by decide) | assumption)) (cwV 2 hts gX9_look_X9_shown rfl rfl rfl (by decide +kernel) ⟨Nat.le_of_ble_eq_true rfl, Nat.le_of_ble_eq_true rfl⟩) (yPreV hK hPc hDc (ci := 9) (q0 := 0) rfl rfl) rfl rfl hl.1 rfl (lv_room (Nat.le_of_ble_eq_true rfl)) dX9_look_16 ⟨Nat.le_of_ble_eq_true rfl, Nat.le_of_ble_eq_true rfl⟩) hP hD hS hA rfl rfl (by decide) (by decide) (fun r_18 u_17 H locs hw hP hD hS => ?_)
  have hP : va_P (dC, dI) vwCl [(a2, .inl (cyI, 15, .inl yR)), (a0, .inr (9, [.ref a1, .ref a2, .ref a3, .ref a4, .ref a5, .ref a6])), (a1, .inl (cyI, 15, .inl yR)), (a4, .inl (cyI, 15, .inl (fun _ => 0))), (a5, .inl (cyI, 15, .inl (fun _ => 0))), (a6, .inl (cyI, 15, .inl (fun _ => 0)))] H := hP
  have hD : va_D A [(a2, .inl (cyI, 15, .inl yR)), (a0, .inr (9, [.ref a1, .ref a2, .ref a3, .ref a4, .ref a5, .ref a6])), (a1, .inl (cyI, 15, .inl yR)), (a4, .inl (cyI, 15, .inl (fun _ => 0))), (a5, .inl (cyI, 15, .inl (fun _ => 0))), (a6, .inl (cyI, 15, .inl (fun _ => 0)))] := hD
  refine W.widen (k := 0) (n := 0) (Nat.le_of_ble_eq_true rfl) (Nat.le_of_ble_eq_true rfl) ?_
  have hw : r_18 = 0 := hw.trans (by decide)
  subst hw
  refine yy_iast (f' := yR) hx hb hK hP hD hS 0 0 rfl rfl (yin (by decide)) dX9_look_19 (yid rfl) (fun H locs hP hD hS => ?_)
  have hP : va_P (dC, dI) vwCl [(a2, .inl (cyI, 15, .inl yR)), (a0, .inr (9, [.ref a1, .ref a2, .ref a3, .ref a4, .ref a5, .ref a6])), (a1, .inl (cyI, 15, .inl yR)), (a4, .inl (cyI, 15, .inl (fun _ => 0))), (a5, .inl (cyI, 15, .inl (fun _ => 0))), (a6, .inl (cyI, 15, .inl (fun _ => 0)))] H := hP
  have hD : va_D A [(a2, .inl (cyI, 15, .inl yR)), (a0, .inr (9, [.ref a1, .ref a2, .ref a3, .ref a4, .ref a5, .ref a6])), (a1, .inl (cyI, 15, .inl yR)), (a4, .inl (cyI, 15, .inl (fun _ => 0))), (a5, .inl (cyI, 15, .inl (fun _ => 0))), (a6, .inl (cyI, 15, .inl (fun _ => 0)))] := hD
  refine lv_iinc (v := 9) (lv' := [(2, .int 9), (0, .ref a0), (1, .int 0)]) hx hb dX9_look_20 hl (k := 0) rfl (by decide) (by decide) rfl (fun ls hl => ?_)
  refine lv_goto (tgt := 2) hx hb dX9_look_23 (by decide) ?_
  refine lv_iload_n hx hb dX9_look_2 rfl (lv_at hl 0 rfl) ?_
  refine lv_bipush (v := 15) hx hb dX9_look_3 (by decide) ?_
  refine lv_icmp_ge (tgt := 26) hx hb dX9_look_5 (by decide) (fun c => absurd c (by decide)) (fun _ => ?_)
  refine lv_aload_n hx hb dX9_look_8 rfl (lv_at hl 1 rfl) ?_
  refine va_get (D := (dC, dI)) (ci := 9) (v := .ref a2) (C := RX9) (T := TX9) (N := 6) hx hb hts hnX9 hown hK hP 1 rfl rfl 1 (by decide) hf13 (fun _ h9 => h9) rfl dX9_look_9 ?_
  refine lv_iload_n hx hb dX9_look_12 rfl (lv_at hl 0 rfl) ?_
  refine lv_aload_n hx hb dX9_look_13 rfl (lv_at hl 1 rfl) ?_
  refine lv_iload_n hx hb dX9_look_14 rfl (lv_at hl 0 rfl) ?_
  refine lv_iload_n hx hb dX9_look_15 rfl (lv_at hl 2 rfl) ?_
  have hPc := hP.sub (ws' := [(a0, .inr (9, [.ref a1, .ref a2, .ref a3, .ref a4, .ref a5, .ref a6])), (a1, .inl (cyI, 15, .inl yR)), (a4, .inl (cyI, 15, .inl (fun _ => 0))), (a5, .inl (cyI, 15, .inl (fun _ => 0))), (a6, .inl (cyI, 15, .inl (fun _ => 0)))]) [1, 2, 3, 4, 5] rfl
  have hDc := hD.sub (ws' := [(a0, .inr (9, [.ref a1, .ref a2, .ref a3, .ref a4, .ref a5, .ref a6])), (a1, .inl (cyI, 15, .inl yR)), (a4, .inl (cyI, 15, .inl (fun _ => 0))), (a5, .inl (cyI, 15, .inl (fun _ => 0))), (a6, .inl (cyI, 15, .inl (fun _ => 0)))]) [1, 2, 3, 4, 5] (by decide) rfl
  refine yy_calli [1, 2, 3, 4, 5] [0] (wr := [(a2, .inl (cyI, 15, .inl yR))]) (va_runV (As := [.int 9, .int 0]) (rest := [.int 9, .ref a2]) ⟨hx, hb, hml, hown, hts⟩ (k_shown l dC dI cyI cyZ cyO H.size a0 a1 a2 a3 a4 a5 a6 9 0 (by first | exact yin (by decide) | assumption)) (cwV 2 hts gX9_look_X9_shown rfl rfl rfl (by decide +kernel) ⟨Nat.le_of_ble_eq_true rfl, Nat.le_of_ble_eq_true rfl⟩) (yPreV hK hPc hDc (ci := 9) (q0 := 0) rfl rfl) rfl rfl hl.1 rfl (lv_room (Nat.le_of_ble_eq_true rfl)) dX9_look_16 ⟨Nat.le_of_ble_eq_true rfl, Nat.le_of_ble_eq_true rfl⟩) hP hD hS hA rfl rfl (by decide) (by decide) (fun r_20 u_19 H locs hw hP hD hS => ?_)
  have hP : va_P (dC, dI) vwCl [(a2, .inl (cyI, 15, .inl yR)), (a0, .inr (9, [.ref a1, .ref a2, .ref a3, .ref a4, .ref a5, .ref a6])), (a1, .inl (cyI, 15, .inl yR)), (a4, .inl (cyI, 15, .inl (fun _ => 0))), (a5, .inl (cyI, 15, .inl (fun _ => 0))), (a6, .inl (cyI, 15, .inl (fun _ => 0)))] H := hP
  have hD : va_D A [(a2, .inl (cyI, 15, .inl yR)), (a0, .inr (9, [.ref a1, .ref a2, .ref a3, .ref a4, .ref a5, .ref a6])), (a1, .inl (cyI, 15, .inl yR)), (a4, .inl (cyI, 15, .inl (fun _ => 0))), (a5, .inl (cyI, 15, .inl (fun _ => 0))), (a6, .inl (cyI, 15, .inl (fun _ => 0)))] := hD
  refine W.widen (k := 0) (n := 0) (Nat.le_of_ble_eq_true rfl) (Nat.le_of_ble_eq_true rfl) ?_
  have hw : r_20 = 0 := hw.trans (by decide)
  subst hw
  refine yy_iast (f' := yR) hx hb hK hP hD hS 0 0 rfl rfl (yin (by decide)) dX9_look_19 (yid rfl) (fun H locs hP hD hS => ?_)
  have hP : va_P (dC, dI) vwCl [(a2, .inl (cyI, 15, .inl yR)), (a0, .inr (9, [.ref a1, .ref a2, .ref a3, .ref a4, .ref a5, .ref a6])), (a1, .inl (cyI, 15, .inl yR)), (a4, .inl (cyI, 15, .inl (fun _ => 0))), (a5, .inl (cyI, 15, .inl (fun _ => 0))), (a6, .inl (cyI, 15, .inl (fun _ => 0)))] H := hP
  have hD : va_D A [(a2, .inl (cyI, 15, .inl yR)), (a0, .inr (9, [.ref a1, .ref a2, .ref a3, .ref a4, .ref a5, .ref a6])), (a1, .inl (cyI, 15, .inl yR)), (a4, .inl (cyI, 15, .inl (fun _ => 0))), (a5, .inl (cyI, 15, .inl (fun _ => 0))), (a6, .inl (cyI, 15, .inl (fun _ => 0)))] := hD
  refine lv_iinc (v := 10) (lv' := [(2, .int 10), (0, .ref a0), (1, .int 0)]) hx hb dX9_look_20 hl (k := 0) rfl (by decide) (by decide) rfl (fun ls hl => ?_)
  refine lv_goto (tgt := 2) hx hb dX9_look_23 (by decide) ?_
  refine lv_iload_n hx hb dX9_look_2 rfl (lv_at hl 0 rfl) ?_
  refine lv_bipush (v := 15) hx hb dX9_look_3 (by decide) ?_
  refine lv_icmp_ge (tgt := 26) hx hb dX9_look_5 (by decide) (fun c => absurd c (by decide)) (fun _ => ?_)
  refine lv_aload_n hx hb dX9_look_8 rfl (lv_at hl 1 rfl) ?_
  refine va_get (D := (dC, dI)) (ci := 9) (v := .ref a2) (C := RX9) (T := TX9) (N := 6) hx hb hts hnX9 hown hK hP 1 rfl rfl 1 (by decide) hf13 (fun _ h9 => h9) rfl dX9_look_9 ?_
  refine lv_iload_n hx hb dX9_look_12 rfl (lv_at hl 0 rfl) ?_
  refine lv_aload_n hx hb dX9_look_13 rfl (lv_at hl 1 rfl) ?_
  refine lv_iload_n hx hb dX9_look_14 rfl (lv_at hl 0 rfl) ?_
  refine lv_iload_n hx hb dX9_look_15 rfl (lv_at hl 2 rfl) ?_
  have hPc := hP.sub (ws' := [(a0, .inr (9, [.ref a1, .ref a2, .ref a3, .ref a4, .ref a5, .ref a6])), (a1, .inl (cyI, 15, .inl yR)), (a4, .inl (cyI, 15, .inl (fun _ => 0))), (a5, .inl (cyI, 15, .inl (fun _ => 0))), (a6, .inl (cyI, 15, .inl (fun _ => 0)))]) [1, 2, 3, 4, 5] rfl
  have hDc := hD.sub (ws' := [(a0, .inr (9, [.ref a1, .ref a2, .ref a3, .ref a4, .ref a5, .ref a6])), (a1, .inl (cyI, 15, .inl yR)), (a4, .inl (cyI, 15, .inl (fun _ => 0))), (a5, .inl (cyI, 15, .inl (fun _ => 0))), (a6, .inl (cyI, 15, .inl (fun _ => 0)))]) [1, 2, 3, 4, 5] (by decide) rfl
  refine yy_calli [1, 2, 3, 4, 5] [0] (wr := [(a2, .inl (cyI, 15, .inl yR))]) (va_runV (As := [.int 10, .int 0]) (rest := [.int 10, .ref a2]) ⟨hx, hb, hml, hown, hts⟩ (k_shown l dC dI cyI cyZ cyO H.size a0 a1 a2 a3 a4 a5 a6 10 0 (by first | exact yin (by decide) | assumption)) (cwV 2 hts gX9_look_X9_shown rfl rfl rfl (by decide +kernel) ⟨Nat.le_of_ble_eq_true rfl, Nat.le_of_ble_eq_true rfl⟩) (yPreV hK hPc hDc (ci := 9) (q0 := 0) rfl rfl) rfl rfl hl.1 rfl (lv_room (Nat.le_of_ble_eq_true rfl)) dX9_look_16 ⟨Nat.le_of_ble_eq_true rfl, Nat.le_of_ble_eq_true rfl⟩) hP hD hS hA rfl rfl (by decide) (by decide) (fun r_22 u_21 H locs hw hP hD hS => ?_)
  have hP : va_P (dC, dI) vwCl [(a2, .inl (cyI, 15, .inl yR)), (a0, .inr (9, [.ref a1, .ref a2, .ref a3, .ref a4, .ref a5, .ref a6])), (a1, .inl (cyI, 15, .inl yR)), (a4, .inl (cyI, 15, .inl (fun _ => 0))), (a5, .inl (cyI, 15, .inl (fun _ => 0))), (a6, .inl (cyI, 15, .inl (fun _ => 0)))] H := hP
  have hD : va_D A [(a2, .inl (cyI, 15, .inl yR)), (a0, .inr (9, [.ref a1, .ref a2, .ref a3, .ref a4, .ref a5, .ref a6])), (a1, .inl (cyI, 15, .inl yR)), (a4, .inl (cyI, 15, .inl (fun _ => 0))), (a5, .inl (cyI, 15, .inl (fun _ => 0))), (a6, .inl (cyI, 15, .inl (fun _ => 0)))] := hD
  refine W.widen (k := 0) (n := 0) (Nat.le_of_ble_eq_true rfl) (Nat.le_of_ble_eq_true rfl) ?_
  have hw : r_22 = 0 := hw.trans (by decide)
  subst hw
  refine yy_iast (f' := yR) hx hb hK hP hD hS 0 0 rfl rfl (yin (by decide)) dX9_look_19 (yid rfl) (fun H locs hP hD hS => ?_)
  have hP : va_P (dC, dI) vwCl [(a2, .inl (cyI, 15, .inl yR)), (a0, .inr (9, [.ref a1, .ref a2, .ref a3, .ref a4, .ref a5, .ref a6])), (a1, .inl (cyI, 15, .inl yR)), (a4, .inl (cyI, 15, .inl (fun _ => 0))), (a5, .inl (cyI, 15, .inl (fun _ => 0))), (a6, .inl (cyI, 15, .inl (fun _ => 0)))] H := hP
  have hD : va_D A [(a2, .inl (cyI, 15, .inl yR)), (a0, .inr (9, [.ref a1, .ref a2, .ref a3, .ref a4, .ref a5, .ref a6])), (a1, .inl (cyI, 15, .inl yR)), (a4, .inl (cyI, 15, .inl (fun _ => 0))), (a5, .inl (cyI, 15, .inl (fun _ => 0))), (a6, .inl (cyI, 15, .inl (fun _ => 0)))] := hD
  refine lv_iinc (v := 11) (lv' := [(2, .int 11), (0, .ref a0), (1, .int 0)]) hx hb dX9_look_20 hl (k := 0) rfl (by decide) (by decide) rfl (fun ls hl => ?_)
  refine lv_goto (tgt := 2) hx hb dX9_look_23 (by decide) ?_
  refine lv_iload_n hx hb dX9_look_2 rfl (lv_at hl 0 rfl) ?_
  refine lv_bipush (v := 15) hx hb dX9_look_3 (by decide) ?_
  refine lv_icmp_ge (tgt := 26) hx hb dX9_look_5 (by decide) (fun c => absurd c (by decide)) (fun _ => ?_)
  refine lv_aload_n hx hb dX9_look_8 rfl (lv_at hl 1 rfl) ?_
  refine va_get (D := (dC, dI)) (ci := 9) (v := .ref a2) (C := RX9) (T := TX9) (N := 6) hx hb hts hnX9 hown hK hP 1 rfl rfl 1 (by decide) hf13 (fun _ h9 => h9) rfl dX9_look_9 ?_
  refine lv_iload_n hx hb dX9_look_12 rfl (lv_at hl 0 rfl) ?_
  refine lv_aload_n hx hb dX9_look_13 rfl (lv_at hl 1 rfl) ?_
  refine lv_iload_n hx hb dX9_look_14 rfl (lv_at hl 0 rfl) ?_
  refine lv_iload_n hx hb dX9_look_15 rfl (lv_at hl 2 rfl) ?_
  have hPc := hP.sub (ws' := [(a0, .inr (9, [.ref a1, .ref a2, .ref a3, .ref a4, .ref a5, .ref a6])), (a1, .inl (cyI, 15, .inl yR)), (a4, .inl (cyI, 15, .inl (fun _ => 0))), (a5, .inl (cyI, 15, .inl (fun _ => 0))), (a6, .inl (cyI, 15, .inl (fun _ => 0)))]) [1, 2, 3, 4, 5] rfl
  have hDc := hD.sub (ws' := [(a0, .inr (9, [.ref a1, .ref a2, .ref a3, .ref a4, .ref a5, .ref a6])), (a1, .inl (cyI, 15, .inl yR)), (a4, .inl (cyI, 15, .inl (fun _ => 0))), (a5, .inl (cyI, 15, .inl (fun _ => 0))), (a6, .inl (cyI, 15, .inl (fun _ => 0)))]) [1, 2, 3, 4, 5] (by decide) rfl
  refine yy_calli [1, 2, 3, 4, 5] [0] (wr := [(a2, .inl (cyI, 15, .inl yR))]) (va_runV (As := [.int 11, .int 0]) (rest := [.int 11, .ref a2]) ⟨hx, hb, hml, hown, hts⟩ (k_shown l dC dI cyI cyZ cyO H.size a0 a1 a2 a3 a4 a5 a6 11 0 (by first | exact yin (by decide) | assumption)) (cwV 2 hts gX9_look_X9_shown rfl rfl rfl (by decide +kernel) ⟨Nat.le_of_ble_eq_true rfl, Nat.le_of_ble_eq_true rfl⟩) (yPreV hK hPc hDc (ci := 9) (q0 := 0) rfl rfl) rfl rfl hl.1 rfl (lv_room (Nat.le_of_ble_eq_true rfl)) dX9_look_16 ⟨Nat.le_of_ble_eq_true rfl, Nat.le_of_ble_eq_true rfl⟩) hP hD hS hA rfl rfl (by decide) (by decide) (fun r_24 u_23 H locs hw hP hD hS => ?_)
  have hP : va_P (dC, dI) vwCl [(a2, .inl (cyI, 15, .inl yR)), (a0, .inr (9, [.ref a1, .ref a2, .ref a3, .ref a4, .ref a5, .ref a6])), (a1, .inl (cyI, 15, .inl yR)), (a4, .inl (cyI, 15, .inl (fun _ => 0))), (a5, .inl (cyI, 15, .inl (fun _ => 0))), (a6, .inl (cyI, 15, .inl (fun _ => 0)))] H := hP
  have hD : va_D A [(a2, .inl (cyI, 15, .inl yR)), (a0, .inr (9, [.ref a1, .ref a2, .ref a3, .ref a4, .ref a5, .ref a6])), (a1, .inl (cyI, 15, .inl yR)), (a4, .inl (cyI, 15, .inl (fun _ => 0))), (a5, .inl (cyI, 15, .inl (fun _ => 0))), (a6, .inl (cyI, 15, .inl (fun _ => 0)))] := hD
  refine W.widen (k := 0) (n := 0) (Nat.le_of_ble_eq_true rfl) (Nat.le_of_ble_eq_true rfl) ?_
  have hw : r_24 = 0 := hw.trans (by decide)
  subst hw
  refine yy_iast (f' := yR) hx hb hK hP hD hS 0 0 rfl rfl (yin (by decide)) dX9_look_19 (yid rfl) (fun H locs hP hD hS => ?_)
  have hP : va_P (dC, dI) vwCl [(a2, .inl (cyI, 15, .inl yR)), (a0, .inr (9, [.ref a1, .ref a2, .ref a3, .ref a4, .ref a5, .ref a6])), (a1, .inl (cyI, 15, .inl yR)), (a4, .inl (cyI, 15, .inl (fun _ => 0))), (a5, .inl (cyI, 15, .inl (fun _ => 0))), (a6, .inl (cyI, 15, .inl (fun _ => 0)))] H := hP
  have hD : va_D A [(a2, .inl (cyI, 15, .inl yR)), (a0, .inr (9, [.ref a1, .ref a2, .ref a3, .ref a4, .ref a5, .ref a6])), (a1, .inl (cyI, 15, .inl yR)), (a4, .inl (cyI, 15, .inl (fun _ => 0))), (a5, .inl (cyI, 15, .inl (fun _ => 0))), (a6, .inl (cyI, 15, .inl (fun _ => 0)))] := hD
  refine lv_iinc (v := 12) (lv' := [(2, .int 12), (0, .ref a0), (1, .int 0)]) hx hb dX9_look_20 hl (k := 0) rfl (by decide) (by decide) rfl (fun ls hl => ?_)
  refine lv_goto (tgt := 2) hx hb dX9_look_23 (by decide) ?_
  refine lv_iload_n hx hb dX9_look_2 rfl (lv_at hl 0 rfl) ?_
  refine lv_bipush (v := 15) hx hb dX9_look_3 (by decide) ?_
  refine lv_icmp_ge (tgt := 26) hx hb dX9_look_5 (by decide) (fun c => absurd c (by decide)) (fun _ => ?_)
  refine lv_aload_n hx hb dX9_look_8 rfl (lv_at hl 1 rfl) ?_
  refine va_get (D := (dC, dI)) (ci := 9) (v := .ref a2) (C := RX9) (T := TX9) (N := 6) hx hb hts hnX9 hown hK hP 1 rfl rfl 1 (by decide) hf13 (fun _ h9 => h9) rfl dX9_look_9 ?_
  refine lv_iload_n hx hb dX9_look_12 rfl (lv_at hl 0 rfl) ?_
  refine lv_aload_n hx hb dX9_look_13 rfl (lv_at hl 1 rfl) ?_
  refine lv_iload_n hx hb dX9_look_14 rfl (lv_at hl 0 rfl) ?_
  refine lv_iload_n hx hb dX9_look_15 rfl (lv_at hl 2 rfl) ?_
  have hPc := hP.sub (ws' := [(a0, .inr (9, [.ref a1, .ref a2, .ref a3, .ref a4, .ref a5, .ref a6])), (a1, .inl (cyI, 15, .inl yR)), (a4, .inl (cyI, 15, .inl (fun _ => 0))), (a5, .inl (cyI, 15, .inl (fun _ => 0))), (a6, .inl (cyI, 15, .inl (fun _ => 0)))]) [1, 2, 3, 4, 5] rfl
  have hDc := hD.sub (ws' := [(a0, .inr (9, [.ref a1, .ref a2, .ref a3, .ref a4, .ref a5, .ref a6])), (a1, .inl (cyI, 15, .inl yR)), (a4, .inl (cyI, 15, .inl (fun _ => 0))), (a5, .inl (cyI, 15, .inl (fun _ => 0))), (a6, .inl (cyI, 15, .inl (fun _ => 0)))]) [1, 2, 3, 4, 5] (by decide) rfl
  refine yy_calli [1, 2, 3, 4, 5] [0] (wr := [(a2, .inl (cyI, 15, .inl yR))]) (va_runV (As := [.int 12, .int 0]) (rest := [.int 12, .ref a2]) ⟨hx, hb, hml, hown, hts⟩ (k_shown l dC dI cyI cyZ cyO H.size a0 a1 a2 a3 a4 a5 a6 12 0 (by first | exact yin (by decide) | assumption)) (cwV 2 hts gX9_look_X9_shown rfl rfl rfl (by decide +kernel) ⟨Nat.le_of_ble_eq_true rfl, Nat.le_of_ble_eq_true rfl⟩) (yPreV hK hPc hDc (ci := 9) (q0 := 0) rfl rfl) rfl rfl hl.1 rfl (lv_room (Nat.le_of_ble_eq_true rfl)) dX9_look_16 ⟨Nat.le_of_ble_eq_true rfl, Nat.le_of_ble_eq_true rfl⟩) hP hD hS hA rfl rfl (by decide) (by decide) (fun r_26 u_25 H locs hw hP hD hS => ?_)
  have hP : va_P (dC, dI) vwCl [(a2, .inl (cyI, 15, .inl yR)), (a0, .inr (9, [.ref a1, .ref a2, .ref a3, .ref a4, .ref a5, .ref a6])), (a1, .inl (cyI, 15, .inl yR)), (a4, .inl (cyI, 15, .inl (fun _ => 0))), (a5, .inl (cyI, 15, .inl (fun _ => 0))), (a6, .inl (cyI, 15, .inl (fun _ => 0)))] H := hP
  have hD : va_D A [(a2, .inl (cyI, 15, .inl yR)), (a0, .inr (9, [.ref a1, .ref a2, .ref a3, .ref a4, .ref a5, .ref a6])), (a1, .inl (cyI, 15, .inl yR)), (a4, .inl (cyI, 15, .inl (fun _ => 0))), (a5, .inl (cyI, 15, .inl (fun _ => 0))), (a6, .inl (cyI, 15, .inl (fun _ => 0)))] := hD
  refine W.widen (k := 0) (n := 0) (Nat.le_of_ble_eq_true rfl) (Nat.le_of_ble_eq_true rfl) ?_
  have hw : r_26 = 0 := hw.trans (by decide)
  subst hw
  refine yy_iast (f' := yR) hx hb hK hP hD hS 0 0 rfl rfl (yin (by decide)) dX9_look_19 (yid rfl) (fun H locs hP hD hS => ?_)
  have hP : va_P (dC, dI) vwCl [(a2, .inl (cyI, 15, .inl yR)), (a0, .inr (9, [.ref a1, .ref a2, .ref a3, .ref a4, .ref a5, .ref a6])), (a1, .inl (cyI, 15, .inl yR)), (a4, .inl (cyI, 15, .inl (fun _ => 0))), (a5, .inl (cyI, 15, .inl (fun _ => 0))), (a6, .inl (cyI, 15, .inl (fun _ => 0)))] H := hP
  have hD : va_D A [(a2, .inl (cyI, 15, .inl yR)), (a0, .inr (9, [.ref a1, .ref a2, .ref a3, .ref a4, .ref a5, .ref a6])), (a1, .inl (cyI, 15, .inl yR)), (a4, .inl (cyI, 15, .inl (fun _ => 0))), (a5, .inl (cyI, 15, .inl (fun _ => 0))), (a6, .inl (cyI, 15, .inl (fun _ => 0)))] := hD
  refine lv_iinc (v := 13) (lv' := [(2, .int 13), (0, .ref a0), (1, .int 0)]) hx hb dX9_look_20 hl (k := 0) rfl (by decide) (by decide) rfl (fun ls hl => ?_)
  refine lv_goto (tgt := 2) hx hb dX9_look_23 (by decide) ?_
  refine lv_iload_n hx hb dX9_look_2 rfl (lv_at hl 0 rfl) ?_
  refine lv_bipush (v := 15) hx hb dX9_look_3 (by decide) ?_
  refine lv_icmp_ge (tgt := 26) hx hb dX9_look_5 (by decide) (fun c => absurd c (by decide)) (fun _ => ?_)
  refine lv_aload_n hx hb dX9_look_8 rfl (lv_at hl 1 rfl) ?_
  refine va_get (D := (dC, dI)) (ci := 9) (v := .ref a2) (C := RX9) (T := TX9) (N := 6) hx hb hts hnX9 hown hK hP 1 rfl rfl 1 (by decide) hf13 (fun _ h9 => h9) rfl dX9_look_9 ?_
  refine lv_iload_n hx hb dX9_look_12 rfl (lv_at hl 0 rfl) ?_
  refine lv_aload_n hx hb dX9_look_13 rfl (lv_at hl 1 rfl) ?_
  refine lv_iload_n hx hb dX9_look_14 rfl (lv_at hl 0 rfl) ?_
  refine lv_iload_n hx hb dX9_look_15 rfl (lv_at hl 2 rfl) ?_
  have hPc := hP.sub (ws' := [(a0, .inr (9, [.ref a1, .ref a2, .ref a3, .ref a4, .ref a5, .ref a6])), (a1, .inl (cyI, 15, .inl yR)), (a4, .inl (cyI, 15, .inl (fun _ => 0))), (a5, .inl (cyI, 15, .inl (fun _ => 0))), (a6, .inl (cyI, 15, .inl (fun _ => 0)))]) [1, 2, 3, 4, 5] rfl
  have hDc := hD.sub (ws' := [(a0, .inr (9, [.ref a1, .ref a2, .ref a3, .ref a4, .ref a5, .ref a6])), (a1, .inl (cyI, 15, .inl yR)), (a4, .inl (cyI, 15, .inl (fun _ => 0))), (a5, .inl (cyI, 15, .inl (fun _ => 0))), (a6, .inl (cyI, 15, .inl (fun _ => 0)))]) [1, 2, 3, 4, 5] (by decide) rfl
  refine yy_calli [1, 2, 3, 4, 5] [0] (wr := [(a2, .inl (cyI, 15, .inl yR))]) (va_runV (As := [.int 13, .int 0]) (rest := [.int 13, .ref a2]) ⟨hx, hb, hml, hown, hts⟩ (k_shown l dC dI cyI cyZ cyO H.size a0 a1 a2 a3 a4 a5 a6 13 0 (by first | exact yin (by decide) | assumption)) (cwV 2 hts gX9_look_X9_shown rfl rfl rfl (by decide +kernel) ⟨Nat.le_of_ble_eq_true rfl, Nat.le_of_ble_eq_true rfl⟩) (yPreV hK hPc hDc (ci := 9) (q0 := 0) rfl rfl) rfl rfl hl.1 rfl (lv_room (Nat.le_of_ble_eq_true rfl)) dX9_look_16 ⟨Nat.le_of_ble_eq_true rfl, Nat.le_of_ble_eq_true rfl⟩) hP hD hS hA rfl rfl (by decide) (by decide) (fun r_28 u_27 H locs hw hP hD hS => ?_)
  have hP : va_P (dC, dI) vwCl [(a2, .inl (cyI, 15, .inl yR)), (a0, .inr (9, [.ref a1, .ref a2, .ref a3, .ref a4, .ref a5, .ref a6])), (a1, .inl (cyI, 15, .inl yR)), (a4, .inl (cyI, 15, .inl (fun _ => 0))), (a5, .inl (cyI, 15, .inl (fun _ => 0))), (a6, .inl (cyI, 15, .inl (fun _ => 0)))] H := hP
  have hD : va_D A [(a2, .inl (cyI, 15, .inl yR)), (a0, .inr (9, [.ref a1, .ref a2, .ref a3, .ref a4, .ref a5, .ref a6])), (a1, .inl (cyI, 15, .inl yR)), (a4, .inl (cyI, 15, .inl (fun _ => 0))), (a5, .inl (cyI, 15, .inl (fun _ => 0))), (a6, .inl (cyI, 15, .inl (fun _ => 0)))] := hD
  refine W.widen (k := 0) (n := 0) (Nat.le_of_ble_eq_true rfl) (Nat.le_of_ble_eq_true rfl) ?_
  have hw : r_28 = 0 := hw.trans (by decide)
  subst hw
  refine yy_iast (f' := yR) hx hb hK hP hD hS 0 0 rfl rfl (yin (by decide)) dX9_look_19 (yid rfl) (fun H locs hP hD hS => ?_)
  have hP : va_P (dC, dI) vwCl [(a2, .inl (cyI, 15, .inl yR)), (a0, .inr (9, [.ref a1, .ref a2, .ref a3, .ref a4, .ref a5, .ref a6])), (a1, .inl (cyI, 15, .inl yR)), (a4, .inl (cyI, 15, .inl (fun _ => 0))), (a5, .inl (cyI, 15, .inl (fun _ => 0))), (a6, .inl (cyI, 15, .inl (fun _ => 0)))] H := hP
  have hD : va_D A [(a2, .inl (cyI, 15, .inl yR)), (a0, .inr (9, [.ref a1, .ref a2, .ref a3, .ref a4, .ref a5, .ref a6])), (a1, .inl (cyI, 15, .inl yR)), (a4, .inl (cyI, 15, .inl (fun _ => 0))), (a5, .inl (cyI, 15, .inl (fun _ => 0))), (a6, .inl (cyI, 15, .inl (fun _ => 0)))] := hD
  refine lv_iinc (v := 14) (lv' := [(2, .int 14), (0, .ref a0), (1, .int 0)]) hx hb dX9_look_20 hl (k := 0) rfl (by decide) (by decide) rfl (fun ls hl => ?_)
  refine lv_goto (tgt := 2) hx hb dX9_look_23 (by decide) ?_
  refine lv_iload_n hx hb dX9_look_2 rfl (lv_at hl 0 rfl) ?_
  refine lv_bipush (v := 15) hx hb dX9_look_3 (by decide) ?_
  refine lv_icmp_ge (tgt := 26) hx hb dX9_look_5 (by decide) (fun c => absurd c (by decide)) (fun _ => ?_)
  refine lv_aload_n hx hb dX9_look_8 rfl (lv_at hl 1 rfl) ?_
  refine va_get (D := (dC, dI)) (ci := 9) (v := .ref a2) (C := RX9) (T := TX9) (N := 6) hx hb hts hnX9 hown hK hP 1 rfl rfl 1 (by decide) hf13 (fun _ h9 => h9) rfl dX9_look_9 ?_
  refine lv_iload_n hx hb dX9_look_12 rfl (lv_at hl 0 rfl) ?_
  refine lv_aload_n hx hb dX9_look_13 rfl (lv_at hl 1 rfl) ?_
  refine lv_iload_n hx hb dX9_look_14 rfl (lv_at hl 0 rfl) ?_
  refine lv_iload_n hx hb dX9_look_15 rfl (lv_at hl 2 rfl) ?_
  have hPc := hP.sub (ws' := [(a0, .inr (9, [.ref a1, .ref a2, .ref a3, .ref a4, .ref a5, .ref a6])), (a1, .inl (cyI, 15, .inl yR)), (a4, .inl (cyI, 15, .inl (fun _ => 0))), (a5, .inl (cyI, 15, .inl (fun _ => 0))), (a6, .inl (cyI, 15, .inl (fun _ => 0)))]) [1, 2, 3, 4, 5] rfl
  have hDc := hD.sub (ws' := [(a0, .inr (9, [.ref a1, .ref a2, .ref a3, .ref a4, .ref a5, .ref a6])), (a1, .inl (cyI, 15, .inl yR)), (a4, .inl (cyI, 15, .inl (fun _ => 0))), (a5, .inl (cyI, 15, .inl (fun _ => 0))), (a6, .inl (cyI, 15, .inl (fun _ => 0)))]) [1, 2, 3, 4, 5] (by decide) rfl
  refine yy_calli [1, 2, 3, 4, 5] [0] (wr := [(a2, .inl (cyI, 15, .inl yR))]) (va_runV (As := [.int 14, .int 0]) (rest := [.int 14, .ref a2]) ⟨hx, hb, hml, hown, hts⟩ (k_shown l dC dI cyI cyZ cyO H.size a0 a1 a2 a3 a4 a5 a6 14 0 (by first | exact yin (by decide) | assumption)) (cwV 2 hts gX9_look_X9_shown rfl rfl rfl (by decide +kernel) ⟨Nat.le_of_ble_eq_true rfl, Nat.le_of_ble_eq_true rfl⟩) (yPreV hK hPc hDc (ci := 9) (q0 := 0) rfl rfl) rfl rfl hl.1 rfl (lv_room (Nat.le_of_ble_eq_true rfl)) dX9_look_16 ⟨Nat.le_of_ble_eq_true rfl, Nat.le_of_ble_eq_true rfl⟩) hP hD hS hA rfl rfl (by decide) (by decide) (fun r_30 u_29 H locs hw hP hD hS => ?_)
  have hP : va_P (dC, dI) vwCl [(a2, .inl (cyI, 15, .inl yR)), (a0, .inr (9, [.ref a1, .ref a2, .ref a3, .ref a4, .ref a5, .ref a6])), (a1, .inl (cyI, 15, .inl yR)), (a4, .inl (cyI, 15, .inl (fun _ => 0))), (a5, .inl (cyI, 15, .inl (fun _ => 0))), (a6, .inl (cyI, 15, .inl (fun _ => 0)))] H := hP
  have hD : va_D A [(a2, .inl (cyI, 15, .inl yR)), (a0, .inr (9, [.ref a1, .ref a2, .ref a3, .ref a4, .ref a5, .ref a6])), (a1, .inl (cyI, 15, .inl yR)), (a4, .inl (cyI, 15, .inl (fun _ => 0))), (a5, .inl (cyI, 15, .inl (fun _ => 0))), (a6, .inl (cyI, 15, .inl (fun _ => 0)))] := hD
  refine W.widen (k := 0) (n := 0) (Nat.le_of_ble_eq_true rfl) (Nat.le_of_ble_eq_true rfl) ?_
  have hw : r_30 = 0 := hw.trans (by decide)
  subst hw
  refine yy_iast (f' := yR) hx hb hK hP hD hS 0 0 rfl rfl (yin (by decide)) dX9_look_19 (yid rfl) (fun H locs hP hD hS => ?_)
  have hP : va_P (dC, dI) vwCl [(a2, .inl (cyI, 15, .inl yR)), (a0, .inr (9, [.ref a1, .ref a2, .ref a3, .ref a4, .ref a5, .ref a6])), (a1, .inl (cyI, 15, .inl yR)), (a4, .inl (cyI, 15, .inl (fun _ => 0))), (a5, .inl (cyI, 15, .inl (fun _ => 0))), (a6, .inl (cyI, 15, .inl (fun _ => 0)))] H := hP
  have hD : va_D A [(a2, .inl (cyI, 15, .inl yR)), (a0, .inr (9, [.ref a1, .ref a2, .ref a3, .ref a4, .ref a5, .ref a6])), (a1, .inl (cyI, 15, .inl yR)), (a4, .inl (cyI, 15, .inl (fun _ => 0))), (a5, .inl (cyI, 15, .inl (fun _ => 0))), (a6, .inl (cyI, 15, .inl (fun _ => 0)))] := hD
  refine lv_iinc (v := 15) (lv' := [(2, .int 15), (0, .ref a0), (1, .int 0)]) hx hb dX9_look_20 hl (k := 0) rfl (by decide) (by decide) rfl (fun ls hl => ?_)
  refine lv_goto (tgt := 2) hx hb dX9_look_23 (by decide) ?_
  refine lv_iload_n hx hb dX9_look_2 rfl (lv_at hl 0 rfl) ?_
  refine lv_bipush (v := 15) hx hb dX9_look_3 (by decide) ?_
  refine lv_icmp_ge (tgt := 26) hx hb dX9_look_5 (by decide) (fun _ => ?_) (fun c => absurd (by decide) c)
  refine W.widen (k := 0) (n := 0) (Nat.le_of_ble_eq_true rfl) (Nat.le_of_ble_eq_true rfl) ?_
  exact yy_vret () hx hb hr hlk hsz hAe hK hP hD hS [1, 2, 0, 3, 4, 5] rfl rfl (by decide) (trivial) dX9_look_26
set_option maxHeartbeats 4000000 in
set_option maxRecDepth 100000 in
theorem b0_X5_judge_2 (l : Launch) (dC : Nat → ClassId) (dI : Nat → Nat → Nat) (cyI cyZ cyO : ClassId) (sz : Nat) (a0 : Nat) (a1 : Nat) (a2 : Nat) (a3 : Nat) (a4 : Nat)  : Met l yX5_judge wsX5_judge ({ frames := 0, cells := 0, slots := 0, locals := 0 }) (yPre [.ref a0, .ref a1, .ref a2, .int 0] (dC, dI) [(a0, .inr (5, [.ref a3, .ref a4, .int 0, .int 0, .int 0]))] (yT cyI cyZ cyO) sz) (yQv (fun (u : Unit) => True) (dC, dI) [(a0, .inr (5, [.ref a3, .ref a4, .int 0, .int 0, .int 0]))] (yT cyI cyZ cyO) sz (fun _ => [(a0, .inr (5, [.ref a3, .ref a4, .int 0, .int 0, .int 0]))])) 0 0 (va_A [(a0, .inr (5, [.ref a3, .ref a4, .int 0, .int 0, .int 0]))] sz) := by
  refine yMet (cc := cX5_judge) (maxL := 8) (ret := none) (by decide) rfl (Nat.le_of_ble_eq_true rfl) ?_
  intro p e s m below meth c A hx hb hr hlk hml hts hown hnm hsz hAe hP hK hD hA hS ls hl
  have hl : lv_has ls 8 [(0, .ref a0), (1, .ref a1), (2, .ref a2), (3, .int 0)] := hl
  refine lv_iload_n hx hb dX5_judge_0 rfl (lv_at hl 3 rfl) ?_
  refine lv_if_ne (tgt := 5) hx hb dX5_judge_1 (by decide) (fun c => absurd (by decide) c) (fun _ => ?_)
  refine W.widen (k := 0) (n := 0) (Nat.le_of_ble_eq_true rfl) (Nat.le_of_ble_eq_true rfl) ?_
  exact yy_vret () hx hb hr hlk hsz hAe hK hP hD hS [0] rfl rfl (by decide) (trivial) dX5_judge_4
set_option maxHeartbeats 4000000 in
set_option maxRecDepth 100000 in
theorem b0_X4_endData_3 (l : Launch) (dC : Nat → ClassId) (dI : Nat → Nat → Nat) (cyI cyZ cyO : ClassId) (sz : Nat) (a0 : Nat) (a1 : Nat) (a2 : Nat)  : Met l yX4_endData wsX4_endData ({ frames := 0, cells := 0, slots := 0, locals := 0 }) (yPre [.ref a0, .ref a1, .int 0] (dC, dI) [(a0, .inr (4, [.ref a2, .int (-1), .int (-1), .int 0, .int 0, .int 0, .int 0]))] (yT cyI cyZ cyO) sz) (yQv (fun (u : Unit) => True) (dC, dI) [(a0, .inr (4, [.ref a2, .int (-1), .int (-1), .int 0, .int 0, .int 0, .int 0]))] (yT cyI cyZ cyO) sz (fun _ => [(a0, .inr (4, [.ref a2, .int (-1), .int (-1), .int 0, .int 0, .int 0, .int 0]))])) 0 0 (va_A [(a0, .inr (4, [.ref a2, .int (-1), .int (-1), .int 0, .int 0, .int 0, .int 0]))] sz) := by
  refine yMet (cc := cX4_endData) (maxL := 3) (ret := none) (by decide) rfl (Nat.le_of_ble_eq_true rfl) ?_
  intro p e s m below meth c A hx hb hr hlk hml hts hown hnm hsz hAe hP hK hD hA hS ls hl
  have hl : lv_has ls 3 [(0, .ref a0), (1, .ref a1), (2, .int 0)] := hl
  have hf27 := hts (.fieldLink RX4 27 "BusBridge$Master" "inData" "I") (by decide +kernel)
  have hnX4 : ∀ w ∈ wsX40, w ∈ wsX4_endData := by decide +kernel
  refine lv_aload_n hx hb dX4_endData_0 rfl (lv_at hl 0 rfl) ?_
  refine va_get (D := (dC, dI)) (ci := 4) (v := .int (-1)) (C := RX4) (T := TX4) (N := 7) hx hb hts hnX4 hown hK hP 0 rfl rfl 2 (by decide) hf27 (fun _ h9 => h9) rfl dX4_endData_1 ?_
  refine lv_if_lt (tgt := 75) hx hb dX4_endData_4 (by decide) (fun _ => ?_) (fun c => absurd (by decide) c)
  refine lv_aload_n hx hb dX4_endData_75 rfl (lv_at hl 0 rfl) ?_
  refine lv_iconst (v := (-1)) hx hb dX4_endData_76 (by decide) ?_
  refine va_put (D := (dC, dI)) (ci := 4) (v := .int (-1)) (ty := .int) (C := RX4) (T := TX4) (N := 7) hx hb hts hnX4 tyX4 tyX4_ok nmX4 hown hK hP hD hS 0 rfl rfl 2 (by decide) hf27 (fun _ h9 => h9) rfl (by decide +kernel) rfl rfl (Nat.le_of_ble_eq_true rfl) dX4_endData_77 (fun H locs hP hD hS => ?_)
  have hP : va_P (dC, dI) vwCl [(a0, .inr (4, [.ref a2, .int (-1), .int (-1), .int 0, .int 0, .int 0, .int 0]))] H := hP
  have hD : va_D A [(a0, .inr (4, [.ref a2, .int (-1), .int (-1), .int 0, .int 0, .int 0, .int 0]))] := hD
  refine W.widen (k := 0) (n := 0) (Nat.le_of_ble_eq_true rfl) (Nat.le_of_ble_eq_true rfl) ?_
  exact yy_vret () hx hb hr hlk hsz hAe hK hP hD hS [0] rfl rfl (by decide) (trivial) dX4_endData_80
set_option maxHeartbeats 4000000 in
set_option maxRecDepth 100000 in
theorem b0_X4_moveToData_4 (l : Launch) (dC : Nat → ClassId) (dI : Nat → Nat → Nat) (cyI cyZ cyO : ClassId) (sz : Nat) (a0 : Nat) (a1 : Nat) (a2 : Nat)  : Met l yX4_moveToData wsX4_moveToData ({ frames := 0, cells := 0, slots := 0, locals := 0 }) (yPre [.ref a0, .ref a1] (dC, dI) [(a0, .inr (4, [.ref a2, .int (-1), .int (-1), .int 0, .int 0, .int 0, .int 0]))] (yT cyI cyZ cyO) sz) (yQv (fun (u : Unit) => True) (dC, dI) [(a0, .inr (4, [.ref a2, .int (-1), .int (-1), .int 0, .int 0, .int 0, .int 0]))] (yT cyI cyZ cyO) sz (fun _ => [(a0, .inr (4, [.ref a2, .int (-1), .int (-1), .int 0, .int 0, .int 0, .int 0]))])) 0 0 (va_A [(a0, .inr (4, [.ref a2, .int (-1), .int (-1), .int 0, .int 0, .int 0, .int 0]))] sz) := by
  refine yMet (cc := cX4_moveToData) (maxL := 2) (ret := none) (by decide) rfl (Nat.le_of_ble_eq_true rfl) ?_
  intro p e s m below meth c A hx hb hr hlk hml hts hown hnm hsz hAe hP hK hD hA hS ls hl
  have hl : lv_has ls 2 [(0, .ref a0), (1, .ref a1)] := hl
  have hf23 := hts (.fieldLink RX4 23 "BusBridge$Master" "inAddress" "I") (by decide +kernel)
  have hf27 := hts (.fieldLink RX4 27 "BusBridge$Master" "inData" "I") (by decide +kernel)
  have hnX4 : ∀ w ∈ wsX40, w ∈ wsX4_moveToData := by decide +kernel
  refine lv_aload_n hx hb dX4_moveToData_0 rfl (lv_at hl 0 rfl) ?_
  refine lv_aload_n hx hb dX4_moveToData_1 rfl (lv_at hl 0 rfl) ?_
  refine va_get (D := (dC, dI)) (ci := 4) (v := .int (-1)) (C := RX4) (T := TX4) (N := 7) hx hb hts hnX4 hown hK hP 0 rfl rfl 1 (by decide) hf23 (fun _ h9 => h9) rfl dX4_moveToData_2 ?_
  refine va_put (D := (dC, dI)) (ci := 4) (v := .int (-1)) (ty := .int) (C := RX4) (T := TX4) (N := 7) hx hb hts hnX4 tyX4 tyX4_ok nmX4 hown hK hP hD hS 0 rfl rfl 2 (by decide) hf27 (fun _ h9 => h9) rfl (by decide +kernel) rfl rfl (Nat.le_of_ble_eq_true rfl) dX4_moveToData_5 (fun H locs hP hD hS => ?_)
  have hP : va_P (dC, dI) vwCl [(a0, .inr (4, [.ref a2, .int (-1), .int (-1), .int 0, .int 0, .int 0, .int 0]))] H := hP
  have hD : va_D A [(a0, .inr (4, [.ref a2, .int (-1), .int (-1), .int 0, .int 0, .int 0, .int 0]))] := hD
  refine lv_aload_n hx hb dX4_moveToData_8 rfl (lv_at hl 0 rfl) ?_
  refine lv_iconst (v := (-1)) hx hb dX4_moveToData_9 (by decide) ?_
  refine va_put (D := (dC, dI)) (ci := 4) (v := .int (-1)) (ty := .int) (C := RX4) (T := TX4) (N := 7) hx hb hts hnX4 tyX4 tyX4_ok nmX4 hown hK hP hD hS 0 rfl rfl 1 (by decide) hf23 (fun _ h9 => h9) rfl (by decide +kernel) rfl rfl (Nat.le_of_ble_eq_true rfl) dX4_moveToData_10 (fun H locs hP hD hS => ?_)
  have hP : va_P (dC, dI) vwCl [(a0, .inr (4, [.ref a2, .int (-1), .int (-1), .int 0, .int 0, .int 0, .int 0]))] H := hP
  have hD : va_D A [(a0, .inr (4, [.ref a2, .int (-1), .int (-1), .int 0, .int 0, .int 0, .int 0]))] := hD
  refine lv_aload_n hx hb dX4_moveToData_13 rfl (lv_at hl 0 rfl) ?_
  refine va_get (D := (dC, dI)) (ci := 4) (v := .int (-1)) (C := RX4) (T := TX4) (N := 7) hx hb hts hnX4 hown hK hP 0 rfl rfl 2 (by decide) hf27 (fun _ h9 => h9) rfl dX4_moveToData_14 ?_
  refine lv_if_lt (tgt := 67) hx hb dX4_moveToData_17 (by decide) (fun _ => ?_) (fun c => absurd (by decide) c)
  refine W.widen (k := 0) (n := 0) (Nat.le_of_ble_eq_true rfl) (Nat.le_of_ble_eq_true rfl) ?_
  exact yy_vret () hx hb hr hlk hsz hAe hK hP hD hS [0] rfl rfl (by decide) (trivial) dX4_moveToData_67
set_option maxHeartbeats 4000000 in
set_option maxRecDepth 100000 in
theorem b0_X4_beginNext_5 (l : Launch) (dC : Nat → ClassId) (dI : Nat → Nat → Nat) (cyI cyZ cyO : ClassId) (sz : Nat) (a0 : Nat) (a1 : Nat) (a2 : Nat) (a3 : Nat) (a4 : Nat) (a5 : Nat) (a6 : Nat) (a7 : Nat) (a8 : Nat) (a9 : Nat)  : Met l yX4_beginNext wsX4_beginNext ({ frames := 0, cells := 0, slots := 0, locals := 0 }) (yPre [.ref a0, .ref a1, .int 0] (dC, dI) [(a0, .inr (4, [.ref a2, .int (-1), .int (-1), .int 0, .int 0, .int 0, .int 0])), (a1, .inr (9, [.ref a3, .ref a4, .ref a5, .ref a6, .ref a7, .ref a8])), (a2, .inr (8, [.ref a9, .int 60, .int 9, .int 0])), (a3, .inl (cyI, 15, .inl yR))] (yT cyI cyZ cyO) sz) (yQv (fun (u : Unit) => True) (dC, dI) [(a0, .inr (4, [.ref a2, .int (-1), .int (-1), .int 0, .int 0, .int 0, .int 0])), (a1, .inr (9, [.ref a3, .ref a4, .ref a5, .ref a6, .ref a7, .ref a8])), (a2, .inr (8, [.ref a9, .int 60, .int 9, .int 0])), (a3, .inl (cyI, 15, .inl yR))] (yT cyI cyZ cyO) sz (fun _ => [(a0, .inr (4, [.ref a2, .int (-1), .int (-1), .int 0, .int 0, .int 0, .int 0])), (a1, .inr (9, [.ref a3, .ref a4, .ref a5, .ref a6, .ref a7, .ref a8])), (a2, .inr (8, [.ref a9, .int 60, .int 9, .int 0])), (a3, .inl (cyI, 15, .inl yR))])) 0 0 (va_A [(a0, .inr (4, [.ref a2, .int (-1), .int (-1), .int 0, .int 0, .int 0, .int 0])), (a1, .inr (9, [.ref a3, .ref a4, .ref a5, .ref a6, .ref a7, .ref a8])), (a2, .inr (8, [.ref a9, .int 60, .int 9, .int 0])), (a3, .inl (cyI, 15, .inl yR))] sz) := by
  refine yMet (cc := cX4_beginNext) (maxL := 3) (ret := none) (by decide) rfl (Nat.le_of_ble_eq_true rfl) ?_
  intro p e s m below meth c A hx hb hr hlk hml hts hown hnm hsz hAe hP hK hD hA hS ls hl
  have hl : lv_has ls 3 [(0, .ref a0), (1, .ref a1), (2, .int 0)] := hl
  have hf16 := hts (.fieldLink RX4 16 "BusBridge$Master" "rows" "LBusBridge$Table;") (by decide +kernel)
  have hf30 := hts (.fieldLink RX4 30 "BusBridge$Master" "next" "I") (by decide +kernel)
  have hf54 := hts (.fieldLink RX4 54 "BusBridge$Table" "count" "I") (by decide +kernel)
  have hf81 := hts (.fieldLink RX4 81 "BusBridge$Wires" "driven" "[I") (by decide +kernel)
  have hnX4 : ∀ w ∈ wsX40, w ∈ wsX4_beginNext := by decide +kernel
  have hnX8 : ∀ w ∈ wsX80, w ∈ wsX4_beginNext := by decide +kernel
  have hnX9 : ∀ w ∈ wsX90, w ∈ wsX4_beginNext := by decide +kernel
  refine lv_aload_n hx hb dX4_beginNext_0 rfl (lv_at hl 0 rfl) ?_
  refine va_get (D := (dC, dI)) (ci := 4) (v := .int 0) (C := RX4) (T := TX4) (N := 7) hx hb hts hnX4 hown hK hP 0 rfl rfl 3 (by decide) hf30 (fun _ h9 => h9) rfl dX4_beginNext_1 ?_
  refine lv_aload_n hx hb dX4_beginNext_4 rfl (lv_at hl 0 rfl) ?_
  refine va_get (D := (dC, dI)) (ci := 4) (v := .ref a2) (C := RX4) (T := TX4) (N := 7) hx hb hts hnX4 hown hK hP 0 rfl rfl 0 (by decide) hf16 (fun _ h9 => h9) rfl dX4_beginNext_5 ?_
  refine va_get (D := (dC, dI)) (ci := 8) (v := .int 0) (C := RX8) (T := TX8) (N := 4) hx hb hts hnX8 hown hK hP 2 rfl rfl 3 (by decide) hf54 (fun _ h9 => h9) rfl dX4_beginNext_8 ?_
  refine lv_icmp_lt (tgt := 24) hx hb dX4_beginNext_11 (by decide) (fun c => absurd c (by decide)) (fun _ => ?_)
  refine lv_aload_n hx hb dX4_beginNext_14 rfl (lv_at hl 1 rfl) ?_
  refine va_get (D := (dC, dI)) (ci := 9) (v := .ref a3) (C := RX9) (T := TX9) (N := 6) hx hb hts hnX9 hown hK hP 1 rfl rfl 0 (by decide) hf81 (fun _ h9 => h9) rfl dX4_beginNext_15 ?_
  refine lv_iconst (v := 2) hx hb dX4_beginNext_18 (by decide) ?_
  refine lv_iconst (v := 0) hx hb dX4_beginNext_19 (by decide) ?_
  refine yy_iast (f' := yR) hx hb hK hP hD hS 3 0 rfl rfl (yin (by decide)) dX4_beginNext_20 (yid rfl) (fun H locs hP hD hS => ?_)
  have hP : va_P (dC, dI) vwCl [(a0, .inr (4, [.ref a2, .int (-1), .int (-1), .int 0, .int 0, .int 0, .int 0])), (a1, .inr (9, [.ref a3, .ref a4, .ref a5, .ref a6, .ref a7, .ref a8])), (a2, .inr (8, [.ref a9, .int 60, .int 9, .int 0])), (a3, .inl (cyI, 15, .inl yR))] H := hP
  have hD : va_D A [(a0, .inr (4, [.ref a2, .int (-1), .int (-1), .int 0, .int 0, .int 0, .int 0])), (a1, .inr (9, [.ref a3, .ref a4, .ref a5, .ref a6, .ref a7, .ref a8])), (a2, .inr (8, [.ref a9, .int 60, .int 9, .int 0])), (a3, .inl (cyI, 15, .inl yR))] := hD
  refine lv_goto (tgt := 170) hx hb dX4_beginNext_21 (by decide) ?_
  refine W.widen (k := 0) (n := 0) (Nat.le_of_ble_eq_true rfl) (Nat.le_of_ble_eq_true rfl) ?_
  exact yy_vret () hx hb hr hlk hsz hAe hK hP hD hS [0, 1, 2, 3] rfl rfl (by decide) (trivial) dX4_beginNext_170
set_option maxHeartbeats 4000000 in
set_option maxRecDepth 100000 in
theorem b0_X4_pass_6 (l : Launch) (dC : Nat → ClassId) (dI : Nat → Nat → Nat) (cyI cyZ cyO : ClassId) (sz : Nat) (a0 : Nat) (a1 : Nat) (a2 : Nat) (a3 : Nat) (a4 : Nat) (a5 : Nat) (a6 : Nat) (a7 : Nat) (a8 : Nat) (a9 : Nat)  : Met l yX4_pass wsX4_pass ({ frames := 1, cells := 0, slots := 0, locals := 22 }) (yPre [.ref a0, .ref a1, .int 0] (dC, dI) [(a0, .inr (4, [.ref a2, .int (-1), .int (-1), .int 0, .int 0, .int 0, .int 0])), (a1, .inr (9, [.ref a3, .ref a4, .ref a5, .ref a6, .ref a7, .ref a8])), (a2, .inr (8, [.ref a9, .int 60, .int 9, .int 0])), (a3, .inl (cyI, 15, .inl yR)), (a4, .inl (cyI, 15, .inl yR))] (yT cyI cyZ cyO) sz) (yQv (fun (u : Unit) => True) (dC, dI) [(a0, .inr (4, [.ref a2, .int (-1), .int (-1), .int 0, .int 0, .int 0, .int 0])), (a1, .inr (9, [.ref a3, .ref a4, .ref a5, .ref a6, .ref a7, .ref a8])), (a2, .inr (8, [.ref a9, .int 60, .int 9, .int 0])), (a3, .inl (cyI, 15, .inl yR)), (a4, .inl (cyI, 15, .inl yR))] (yT cyI cyZ cyO) sz (fun _ => [(a0, .inr (4, [.ref a2, .int (-1), .int (-1), .int 0, .int 0, .int 0, .int 0])), (a1, .inr (9, [.ref a3, .ref a4, .ref a5, .ref a6, .ref a7, .ref a8])), (a2, .inr (8, [.ref a9, .int 60, .int 9, .int 0])), (a3, .inl (cyI, 15, .inl yR)), (a4, .inl (cyI, 15, .inl yR))])) 0 0 (va_A [(a0, .inr (4, [.ref a2, .int (-1), .int (-1), .int 0, .int 0, .int 0, .int 0])), (a1, .inr (9, [.ref a3, .ref a4, .ref a5, .ref a6, .ref a7, .ref a8])), (a2, .inr (8, [.ref a9, .int 60, .int 9, .int 0])), (a3, .inl (cyI, 15, .inl yR)), (a4, .inl (cyI, 15, .inl yR))] sz) := by
  refine yMet (cc := cX4_pass) (maxL := 3) (ret := none) (by decide) rfl (Nat.le_of_ble_eq_true rfl) ?_
  intro p e s m below meth c A hx hb hr hlk hml hts hown hnm hsz hAe hP hK hD hA hS ls hl
  have hl : lv_has ls 3 [(0, .ref a0), (1, .ref a1), (2, .int 0)] := hl
  have hf57 := hts (.fieldLink RX4 57 "BusBridge$Wires" "seen" "[I") (by decide +kernel)
  have hnX9 : ∀ w ∈ wsX90, w ∈ wsX4_pass := by decide +kernel
  refine lv_aload_n hx hb dX4_pass_0 rfl (lv_at hl 1 rfl) ?_
  refine va_get (D := (dC, dI)) (ci := 9) (v := .ref a4) (C := RX9) (T := TX9) (N := 6) hx hb hts hnX9 hown hK hP 1 rfl rfl 1 (by decide) hf57 (fun _ h9 => h9) rfl dX4_pass_1 ?_
  refine lv_iconst (v := 4) hx hb dX4_pass_4 (by decide) ?_
  refine yy_iald (v := 1) hx hb hK hP 4 0 rfl rfl (yin (by decide)) dX4_pass_5 rfl ?_
  refine lv_if_eq (tgt := 29) hx hb dX4_pass_6 (by decide) (fun c => absurd c (by decide)) (fun _ => ?_)
  refine lv_aload_n hx hb dX4_pass_9 rfl (lv_at hl 0 rfl) ?_
  refine lv_aload_n hx hb dX4_pass_10 rfl (lv_at hl 1 rfl) ?_
  refine lv_iload_n hx hb dX4_pass_11 rfl (lv_at hl 2 rfl) ?_
  have hPc := hP.sub (ws' := [(a0, .inr (4, [.ref a2, .int (-1), .int (-1), .int 0, .int 0, .int 0, .int 0]))]) [0] rfl
  have hDc := hD.sub (ws' := [(a0, .inr (4, [.ref a2, .int (-1), .int (-1), .int 0, .int 0, .int 0, .int 0]))]) [0] (by decide) rfl
  refine yy_callv [0] [1, 2, 3, 4] (wr := [(a1, .inr (9, [.ref a3, .ref a4, .ref a5, .ref a6, .ref a7, .ref a8])), (a2, .inr (8, [.ref a9, .int 60, .int 9, .int 0])), (a3, .inl (cyI, 15, .inl yR)), (a4, .inl (cyI, 15, .inl yR))]) (va_runV (As := [.ref a1, .int 0]) (rest := []) ⟨hx, hb, hml, hown, hts⟩ (b0_X4_endData_3 l dC dI cyI cyZ cyO s.heap.size a0 a1 a2 ) (cwV 2 hts gX4_pass_X4_endData rfl rfl rfl (by decide +kernel) ⟨Nat.le_of_ble_eq_true rfl, Nat.le_of_ble_eq_true rfl⟩) (yPreV hK hPc hDc (ci := 4) (q0 := 0) rfl rfl) rfl rfl hl.1 rfl (lv_room (Nat.le_of_ble_eq_true rfl)) dX4_pass_12 ⟨Nat.le_of_ble_eq_true rfl, Nat.le_of_ble_eq_true rfl⟩) hP hD hS hA rfl rfl (by decide) (by decide) (fun u_1 H locs hw hP hD hS => ?_)
  have hP : va_P (dC, dI) vwCl [(a1, .inr (9, [.ref a3, .ref a4, .ref a5, .ref a6, .ref a7, .ref a8])), (a2, .inr (8, [.ref a9, .int 60, .int 9, .int 0])), (a3, .inl (cyI, 15, .inl yR)), (a4, .inl (cyI, 15, .inl yR)), (a0, .inr (4, [.ref a2, .int (-1), .int (-1), .int 0, .int 0, .int 0, .int 0]))] H := hP
  have hD : va_D A [(a1, .inr (9, [.ref a3, .ref a4, .ref a5, .ref a6, .ref a7, .ref a8])), (a2, .inr (8, [.ref a9, .int 60, .int 9, .int 0])), (a3, .inl (cyI, 15, .inl yR)), (a4, .inl (cyI, 15, .inl yR)), (a0, .inr (4, [.ref a2, .int (-1), .int (-1), .int 0, .int 0, .int 0, .int 0]))] := hD
  refine W.widen (k := 0) (n := 0) (Nat.le_of_ble_eq_true rfl) (Nat.le_of_ble_eq_true rfl) ?_
  refine lv_aload_n hx hb dX4_pass_15 rfl (lv_at hl 0 rfl) ?_
  refine lv_aload_n hx hb dX4_pass_16 rfl (lv_at hl 1 rfl) ?_
  have hPc := hP.sub (ws' := [(a0, .inr (4, [.ref a2, .int (-1), .int (-1), .int 0, .int 0, .int 0, .int 0]))]) [4] rfl
  have hDc := hD.sub (ws' := [(a0, .inr (4, [.ref a2, .int (-1), .int (-1), .int 0, .int 0, .int 0, .int 0]))]) [4] (by decide) rfl
  refine yy_callv [4] [0, 1, 2, 3] (wr := [(a1, .inr (9, [.ref a3, .ref a4, .ref a5, .ref a6, .ref a7, .ref a8])), (a2, .inr (8, [.ref a9, .int 60, .int 9, .int 0])), (a3, .inl (cyI, 15, .inl yR)), (a4, .inl (cyI, 15, .inl yR))]) (va_runV (As := [.ref a1]) (rest := []) ⟨hx, hb, hml, hown, hts⟩ (b0_X4_moveToData_4 l dC dI cyI cyZ cyO H.size a0 a1 a2 ) (cwV 1 hts gX4_pass_X4_moveToData rfl rfl rfl (by decide +kernel) ⟨Nat.le_of_ble_eq_true rfl, Nat.le_of_ble_eq_true rfl⟩) (yPreV hK hPc hDc (ci := 4) (q0 := 0) rfl rfl) rfl rfl hl.1 rfl (lv_room (Nat.le_of_ble_eq_true rfl)) dX4_pass_17 ⟨Nat.le_of_ble_eq_true rfl, Nat.le_of_ble_eq_true rfl⟩) hP hD hS hA rfl rfl (by decide) (by decide) (fun u_2 H locs hw hP hD hS => ?_)
  have hP : va_P (dC, dI) vwCl [(a1, .inr (9, [.ref a3, .ref a4, .ref a5, .ref a6, .ref a7, .ref a8])), (a2, .inr (8, [.ref a9, .int 60, .int 9, .int 0])), (a3, .inl (cyI, 15, .inl yR)), (a4, .inl (cyI, 15, .inl yR)), (a0, .inr (4, [.ref a2, .int (-1), .int (-1), .int 0, .int 0, .int 0, .int 0]))] H := hP
  have hD : va_D A [(a1, .inr (9, [.ref a3, .ref a4, .ref a5, .ref a6, .ref a7, .ref a8])), (a2, .inr (8, [.ref a9, .int 60, .int 9, .int 0])), (a3, .inl (cyI, 15, .inl yR)), (a4, .inl (cyI, 15, .inl yR)), (a0, .inr (4, [.ref a2, .int (-1), .int (-1), .int 0, .int 0, .int 0, .int 0]))] := hD
  refine W.widen (k := 0) (n := 0) (Nat.le_of_ble_eq_true rfl) (Nat.le_of_ble_eq_true rfl) ?_
  refine lv_aload_n hx hb dX4_pass_20 rfl (lv_at hl 0 rfl) ?_
  refine lv_aload_n hx hb dX4_pass_21 rfl (lv_at hl 1 rfl) ?_
  refine lv_iload_n hx hb dX4_pass_22 rfl (lv_at hl 2 rfl) ?_
  have hPc := hP.sub (ws' := [(a0, .inr (4, [.ref a2, .int (-1), .int (-1), .int 0, .int 0, .int 0, .int 0])), (a1, .inr (9, [.ref a3, .ref a4, .ref a5, .ref a6, .ref a7, .ref a8])), (a2, .inr (8, [.ref a9, .int 60, .int 9, .int 0])), (a3, .inl (cyI, 15, .inl yR))]) [4, 0, 1, 2] rfl
  have hDc := hD.sub (ws' := [(a0, .inr (4, [.ref a2, .int (-1), .int (-1), .int 0, .int 0, .int 0, .int 0])), (a1, .inr (9, [.ref a3, .ref a4, .ref a5, .ref a6, .ref a7, .ref a8])), (a2, .inr (8, [.ref a9, .int 60, .int 9, .int 0])), (a3, .inl (cyI, 15, .inl yR))]) [4, 0, 1, 2] (by decide) rfl
  refine yy_callv [4, 0, 1, 2] [3] (wr := [(a4, .inl (cyI, 15, .inl yR))]) (va_runV (As := [.ref a1, .int 0]) (rest := []) ⟨hx, hb, hml, hown, hts⟩ (b0_X4_beginNext_5 l dC dI cyI cyZ cyO H.size a0 a1 a2 a3 a4 a5 a6 a7 a8 a9 ) (cwV 2 hts gX4_pass_X4_beginNext rfl rfl rfl (by decide +kernel) ⟨Nat.le_of_ble_eq_true rfl, Nat.le_of_ble_eq_true rfl⟩) (yPreV hK hPc hDc (ci := 4) (q0 := 0) rfl rfl) rfl rfl hl.1 rfl (lv_room (Nat.le_of_ble_eq_true rfl)) dX4_pass_23 ⟨Nat.le_of_ble_eq_true rfl, Nat.le_of_ble_eq_true rfl⟩) hP hD hS hA rfl rfl (by decide) (by decide) (fun u_3 H locs hw hP hD hS => ?_)
  have hP : va_P (dC, dI) vwCl [(a4, .inl (cyI, 15, .inl yR)), (a0, .inr (4, [.ref a2, .int (-1), .int (-1), .int 0, .int 0, .int 0, .int 0])), (a1, .inr (9, [.ref a3, .ref a4, .ref a5, .ref a6, .ref a7, .ref a8])), (a2, .inr (8, [.ref a9, .int 60, .int 9, .int 0])), (a3, .inl (cyI, 15, .inl yR))] H := hP
  have hD : va_D A [(a4, .inl (cyI, 15, .inl yR)), (a0, .inr (4, [.ref a2, .int (-1), .int (-1), .int 0, .int 0, .int 0, .int 0])), (a1, .inr (9, [.ref a3, .ref a4, .ref a5, .ref a6, .ref a7, .ref a8])), (a2, .inr (8, [.ref a9, .int 60, .int 9, .int 0])), (a3, .inl (cyI, 15, .inl yR))] := hD
  refine W.widen (k := 0) (n := 0) (Nat.le_of_ble_eq_true rfl) (Nat.le_of_ble_eq_true rfl) ?_
  refine lv_goto (tgt := 50) hx hb dX4_pass_26 (by decide) ?_
  refine W.widen (k := 0) (n := 0) (Nat.le_of_ble_eq_true rfl) (Nat.le_of_ble_eq_true rfl) ?_
  exact yy_vret () hx hb hr hlk hsz hAe hK hP hD hS [1, 2, 3, 4, 0] rfl rfl (by decide) (trivial) dX4_pass_50
set_option maxHeartbeats 4000000 in
set_option maxRecDepth 100000 in
theorem b0_X2_pass_7 (l : Launch) (dC : Nat → ClassId) (dI : Nat → Nat → Nat) (cyI cyZ cyO : ClassId) (sz : Nat) (a0 : Nat) (a1 : Nat) (a2 : Nat) (a3 : Nat)  : Met l yX2_pass wsX2_pass ({ frames := 0, cells := 0, slots := 0, locals := 0 }) (yPre [.ref a0, .ref a1, .ref a2, .int 0] (dC, dI) [(a0, .inr (2, [.ref a3, .int 0, .int 0, .int 0, .int 0, .int 0, .int 0, .int 0, .int 0, .int 0, .int 0, .int 0, .int (-1), .int 0]))] (yT cyI cyZ cyO) sz) (yQv (fun (u : Unit) => True) (dC, dI) [(a0, .inr (2, [.ref a3, .int 0, .int 0, .int 0, .int 0, .int 0, .int 0, .int 0, .int 0, .int 0, .int 0, .int 0, .int (-1), .int 0]))] (yT cyI cyZ cyO) sz (fun _ => [(a0, .inr (2, [.ref a3, .int 0, .int 0, .int 0, .int 0, .int 0, .int 0, .int 0, .int 0, .int 0, .int 0, .int 0, .int (-1), .int 0]))])) 0 0 (va_A [(a0, .inr (2, [.ref a3, .int 0, .int 0, .int 0, .int 0, .int 0, .int 0, .int 0, .int 0, .int 0, .int 0, .int 0, .int (-1), .int 0]))] sz) := by
  refine yMet (cc := cX2_pass) (maxL := 4) (ret := none) (by decide) rfl (Nat.le_of_ble_eq_true rfl) ?_
  intro p e s m below meth c A hx hb hr hlk hml hts hown hnm hsz hAe hP hK hD hA hS ls hl
  have hl : lv_has ls 4 [(0, .ref a0), (1, .ref a1), (2, .ref a2), (3, .int 0)] := hl
  have hf23 := hts (.fieldLink RX2 23 "BusBridge$Lower" "phase" "I") (by decide +kernel)
  have hf27 := hts (.fieldLink RX2 27 "BusBridge$Lower" "ended" "I") (by decide +kernel)
  have hnX2 : ∀ w ∈ wsX20, w ∈ wsX2_pass := by decide +kernel
  refine lv_aload_n hx hb dX2_pass_0 rfl (lv_at hl 0 rfl) ?_
  refine lv_iconst (v := 0) hx hb dX2_pass_1 (by decide) ?_
  refine va_put (D := (dC, dI)) (ci := 2) (v := .int 0) (ty := .int) (C := RX2) (T := TX2) (N := 14) hx hb hts hnX2 tyX2 tyX2_ok nmX2 hown hK hP hD hS 0 rfl rfl 2 (by decide) hf27 (fun _ h9 => h9) rfl (by decide +kernel) rfl rfl (Nat.le_of_ble_eq_true rfl) dX2_pass_2 (fun H locs hP hD hS => ?_)
  have hP : va_P (dC, dI) vwCl [(a0, .inr (2, [.ref a3, .int 0, .int 0, .int 0, .int 0, .int 0, .int 0, .int 0, .int 0, .int 0, .int 0, .int 0, .int (-1), .int 0]))] H := hP
  have hD : va_D A [(a0, .inr (2, [.ref a3, .int 0, .int 0, .int 0, .int 0, .int 0, .int 0, .int 0, .int 0, .int 0, .int 0, .int 0, .int (-1), .int 0]))] := hD
  refine lv_aload_n hx hb dX2_pass_5 rfl (lv_at hl 0 rfl) ?_
  refine va_get (D := (dC, dI)) (ci := 2) (v := .int 0) (C := RX2) (T := TX2) (N := 14) hx hb hts hnX2 hown hK hP 0 rfl rfl 1 (by decide) hf23 (fun _ h9 => h9) rfl dX2_pass_6 ?_
  refine lv_iconst (v := 1) hx hb dX2_pass_9 (by decide) ?_
  refine lv_icmp_ne (tgt := 34) hx hb dX2_pass_10 (by decide) (fun _ => ?_) (fun c => absurd c (by decide))
  refine lv_aload_n hx hb dX2_pass_34 rfl (lv_at hl 0 rfl) ?_
  refine va_get (D := (dC, dI)) (ci := 2) (v := .int 0) (C := RX2) (T := TX2) (N := 14) hx hb hts hnX2 hown hK hP 0 rfl rfl 1 (by decide) hf23 (fun _ h9 => h9) rfl dX2_pass_35 ?_
  refine lv_iconst (v := 2) hx hb dX2_pass_38 (by decide) ?_
  refine lv_icmp_ne (tgt := 114) hx hb dX2_pass_39 (by decide) (fun _ => ?_) (fun c => absurd c (by decide))
  refine W.widen (k := 0) (n := 0) (Nat.le_of_ble_eq_true rfl) (Nat.le_of_ble_eq_true rfl) ?_
  exact yy_vret () hx hb hr hlk hsz hAe hK hP hD hS [0] rfl rfl (by decide) (trivial) dX2_pass_114
set_option maxHeartbeats 4000000 in
set_option maxRecDepth 100000 in
theorem b0_X0_takeCase_8 (l : Launch) (dC : Nat → ClassId) (dI : Nat → Nat → Nat) (cyI cyZ cyO : ClassId) (sz : Nat) (a0 : Nat) (a1 : Nat) (a2 : Nat) (a3 : Nat) (a4 : Nat) (a5 : Nat) (a14 : Nat) (a15 : Nat) (a16 : Nat) (a17 : Nat) (a18 : Nat) (a19 : Nat)  : Met l yX0_takeCase wsX0_takeCase ({ frames := 1, cells := 0, slots := 0, locals := 20 }) (yPre [.ref a0, .ref a1, .ref a2] (dC, dI) [(a0, .inr (0, [.ref a3, .ref a4, .ref a5, .int 0, .int 0, .int 0, .int 0, .int 0, .int 0])), (a2, .inr (9, [.ref a14, .ref a15, .ref a16, .ref a17, .ref a18, .ref a19])), (a15, .inl (cyI, 15, .inl yR))] (yT cyI cyZ cyO) sz) (yQv (fun (u : Unit) => True) (dC, dI) [(a0, .inr (0, [.ref a3, .ref a4, .ref a5, .int 0, .int 0, .int 0, .int 0, .int 0, .int 0])), (a2, .inr (9, [.ref a14, .ref a15, .ref a16, .ref a17, .ref a18, .ref a19])), (a15, .inl (cyI, 15, .inl yR))] (yT cyI cyZ cyO) sz (fun _ => [(a0, .inr (0, [.ref a3, .ref a4, .ref a5, .int 0, .int 0, .int 0, .int 0, .int 0, .int 0])), (a2, .inr (9, [.ref a14, .ref a15, .ref a16, .ref a17, .ref a18, .ref a19])), (a15, .inl (cyI, 15, .inl yR))])) 0 0 (va_A [(a0, .inr (0, [.ref a3, .ref a4, .ref a5, .int 0, .int 0, .int 0, .int 0, .int 0, .int 0])), (a2, .inr (9, [.ref a14, .ref a15, .ref a16, .ref a17, .ref a18, .ref a19])), (a15, .inl (cyI, 15, .inl yR))] sz) := by
  refine yMet (cc := cX0_takeCase) (maxL := 3) (ret := none) (by decide) rfl (Nat.le_of_ble_eq_true rfl) ?_
  intro p e s m below meth c A hx hb hr hlk hml hts hown hnm hsz hAe hP hK hD hA hS ls hl
  have hl : lv_has ls 3 [(0, .ref a0), (1, .ref a1), (2, .ref a2)] := hl
  have hf32 := hts (.fieldLink RX0 32 "BusBridge$Bridge" "state" "I") (by decide +kernel)
  have hf77 := hts (.fieldLink RX0 77 "BusBridge$Wires" "seen" "[I") (by decide +kernel)
  have hnX0 : ∀ w ∈ wsX00, w ∈ wsX0_takeCase := by decide +kernel
  have hnX9 : ∀ w ∈ wsX90, w ∈ wsX0_takeCase := by decide +kernel
  refine lv_aload_n hx hb dX0_takeCase_0 rfl (lv_at hl 2 rfl) ?_
  refine va_get (D := (dC, dI)) (ci := 9) (v := .ref a15) (C := RX9) (T := TX9) (N := 6) hx hb hts hnX9 hown hK hP 1 rfl rfl 1 (by decide) hf77 (fun _ h9 => h9) rfl dX0_takeCase_1 ?_
  refine lv_iconst (v := 2) hx hb dX0_takeCase_4 (by decide) ?_
  refine yy_iald (v := 0) hx hb hK hP 2 0 rfl rfl (yin (by decide)) dX0_takeCase_5 rfl ?_
  have hPc := hP.sub (ws' := []) [] rfl
  have hDc := hD.sub (ws' := []) [] (by decide) rfl
  refine yy_calli [] [0, 1, 2] (wr := [(a0, .inr (0, [.ref a3, .ref a4, .ref a5, .int 0, .int 0, .int 0, .int 0, .int 0, .int 0])), (a2, .inr (9, [.ref a14, .ref a15, .ref a16, .ref a17, .ref a18, .ref a19])), (a15, .inl (cyI, 15, .inl yR))]) (va_runS (As := [.int 0]) (rest := []) ⟨hx, hb, hml, hown, hts⟩ (k_isTransfer l dC dI cyI cyZ cyO s.heap.size 0 ) (va_cwS 1 hts gX0_takeCase_X9_isTransfer rfl rfl rfl (by decide +kernel) ⟨Nat.le_of_ble_eq_true rfl, Nat.le_of_ble_eq_true rfl⟩) (yPreS hK hPc hDc) rfl rfl hl.1 rfl (lv_room (Nat.le_of_ble_eq_true rfl)) dX0_takeCase_6 ⟨Nat.le_of_ble_eq_true rfl, Nat.le_of_ble_eq_true rfl⟩) hP hD hS hA rfl rfl (by decide) (by decide) (fun r_2 u_1 H locs hw hP hD hS => ?_)
  have hP : va_P (dC, dI) vwCl [(a0, .inr (0, [.ref a3, .ref a4, .ref a5, .int 0, .int 0, .int 0, .int 0, .int 0, .int 0])), (a2, .inr (9, [.ref a14, .ref a15, .ref a16, .ref a17, .ref a18, .ref a19])), (a15, .inl (cyI, 15, .inl yR))] H := hP
  have hD : va_D A [(a0, .inr (0, [.ref a3, .ref a4, .ref a5, .int 0, .int 0, .int 0, .int 0, .int 0, .int 0])), (a2, .inr (9, [.ref a14, .ref a15, .ref a16, .ref a17, .ref a18, .ref a19])), (a15, .inl (cyI, 15, .inl yR))] := hD
  refine W.widen (k := 0) (n := 0) (Nat.le_of_ble_eq_true rfl) (Nat.le_of_ble_eq_true rfl) ?_
  have hw : r_2 = 0 := hw.trans (by decide)
  subst hw
  refine lv_if_ne (tgt := 18) hx hb dX0_takeCase_9 (by decide) (fun c => absurd (by decide) c) (fun _ => ?_)
  refine lv_aload_n hx hb dX0_takeCase_12 rfl (lv_at hl 0 rfl) ?_
  refine lv_iconst (v := 0) hx hb dX0_takeCase_13 (by decide) ?_
  refine va_put (D := (dC, dI)) (ci := 0) (v := .int 0) (ty := .int) (C := RX0) (T := TX0) (N := 9) hx hb hts hnX0 tyX0 tyX0_ok nmX0 hown hK hP hD hS 0 rfl rfl 4 (by decide) hf32 (fun _ h9 => h9) rfl (by decide +kernel) rfl rfl (Nat.le_of_ble_eq_true rfl) dX0_takeCase_14 (fun H locs hP hD hS => ?_)
  have hP : va_P (dC, dI) vwCl [(a0, .inr (0, [.ref a3, .ref a4, .ref a5, .int 0, .int 0, .int 0, .int 0, .int 0, .int 0])), (a2, .inr (9, [.ref a14, .ref a15, .ref a16, .ref a17, .ref a18, .ref a19])), (a15, .inl (cyI, 15, .inl yR))] H := hP
  have hD : va_D A [(a0, .inr (0, [.ref a3, .ref a4, .ref a5, .int 0, .int 0, .int 0, .int 0, .int 0, .int 0])), (a2, .inr (9, [.ref a14, .ref a15, .ref a16, .ref a17, .ref a18, .ref a19])), (a15, .inl (cyI, 15, .inl yR))] := hD
  refine W.widen (k := 0) (n := 0) (Nat.le_of_ble_eq_true rfl) (Nat.le_of_ble_eq_true rfl) ?_
  exact yy_vret () hx hb hr hlk hsz hAe hK hP hD hS [0, 1, 2] rfl rfl (by decide) (trivial) dX0_takeCase_17
set_option maxHeartbeats 4000000 in
set_option maxRecDepth 100000 in
theorem b0_X0_moveOn_9 (l : Launch) (dC : Nat → ClassId) (dI : Nat → Nat → Nat) (cyI cyZ cyO : ClassId) (sz : Nat) (a0 : Nat) (a1 : Nat) (a2 : Nat) (a3 : Nat) (a4 : Nat) (a5 : Nat) (a14 : Nat) (a15 : Nat) (a16 : Nat) (a17 : Nat) (a18 : Nat) (a19 : Nat)  : Met l yX0_moveOn wsX0_moveOn ({ frames := 2, cells := 0, slots := 0, locals := 42 }) (yPre [.ref a0, .ref a1, .ref a2] (dC, dI) [(a0, .inr (0, [.ref a3, .ref a4, .ref a5, .int 0, .int 0, .int 0, .int 0, .int 0, .int 0])), (a2, .inr (9, [.ref a14, .ref a15, .ref a16, .ref a17, .ref a18, .ref a19])), (a15, .inl (cyI, 15, .inl yR))] (yT cyI cyZ cyO) sz) (yQv (fun (u : Unit) => True) (dC, dI) [(a0, .inr (0, [.ref a3, .ref a4, .ref a5, .int 0, .int 0, .int 0, .int 0, .int 0, .int 0])), (a2, .inr (9, [.ref a14, .ref a15, .ref a16, .ref a17, .ref a18, .ref a19])), (a15, .inl (cyI, 15, .inl yR))] (yT cyI cyZ cyO) sz (fun _ => [(a0, .inr (0, [.ref a3, .ref a4, .ref a5, .int 0, .int 0, .int 0, .int 0, .int 0, .int 0])), (a2, .inr (9, [.ref a14, .ref a15, .ref a16, .ref a17, .ref a18, .ref a19])), (a15, .inl (cyI, 15, .inl yR))])) 0 0 (va_A [(a0, .inr (0, [.ref a3, .ref a4, .ref a5, .int 0, .int 0, .int 0, .int 0, .int 0, .int 0])), (a2, .inr (9, [.ref a14, .ref a15, .ref a16, .ref a17, .ref a18, .ref a19])), (a15, .inl (cyI, 15, .inl yR))] sz) := by
  refine yMet (cc := cX0_moveOn) (maxL := 3) (ret := none) (by decide) rfl (Nat.le_of_ble_eq_true rfl) ?_
  intro p e s m below meth c A hx hb hr hlk hml hts hown hnm hsz hAe hP hK hD hA hS ls hl
  have hl : lv_has ls 3 [(0, .ref a0), (1, .ref a1), (2, .ref a2)] := hl
  have hf32 := hts (.fieldLink RX0 32 "BusBridge$Bridge" "state" "I") (by decide +kernel)
  have hnX0 : ∀ w ∈ wsX00, w ∈ wsX0_moveOn := by decide +kernel
  refine lv_aload_n hx hb dX0_moveOn_0 rfl (lv_at hl 0 rfl) ?_
  refine va_get (D := (dC, dI)) (ci := 0) (v := .int 0) (C := RX0) (T := TX0) (N := 9) hx hb hts hnX0 hown hK hP 0 rfl rfl 4 (by decide) hf32 (fun _ h9 => h9) rfl dX0_moveOn_1 ?_
  refine lv_tableOut (tgt := 89) hx hb dX0_moveOn_4 (by decide) (by decide) ?_
  refine lv_aload_n hx hb dX0_moveOn_89 rfl (lv_at hl 0 rfl) ?_
  refine lv_aload_n hx hb dX0_moveOn_90 rfl (lv_at hl 1 rfl) ?_
  refine lv_aload_n hx hb dX0_moveOn_91 rfl (lv_at hl 2 rfl) ?_
  have hPc := hP.sub (ws' := [(a0, .inr (0, [.ref a3, .ref a4, .ref a5, .int 0, .int 0, .int 0, .int 0, .int 0, .int 0])), (a2, .inr (9, [.ref a14, .ref a15, .ref a16, .ref a17, .ref a18, .ref a19])), (a15, .inl (cyI, 15, .inl yR))]) [0, 1, 2] rfl
  have hDc := hD.sub (ws' := [(a0, .inr (0, [.ref a3, .ref a4, .ref a5, .int 0, .int 0, .int 0, .int 0, .int 0, .int 0])), (a2, .inr (9, [.ref a14, .ref a15, .ref a16, .ref a17, .ref a18, .ref a19])), (a15, .inl (cyI, 15, .inl yR))]) [0, 1, 2] (by decide) rfl
  refine yy_callv [0, 1, 2] [] (wr := []) (va_runV (As := [.ref a1, .ref a2]) (rest := []) ⟨hx, hb, hml, hown, hts⟩ (b0_X0_takeCase_8 l dC dI cyI cyZ cyO s.heap.size a0 a1 a2 a3 a4 a5 a14 a15 a16 a17 a18 a19 ) (cwV 2 hts gX0_moveOn_X0_takeCase rfl rfl rfl (by decide +kernel) ⟨Nat.le_of_ble_eq_true rfl, Nat.le_of_ble_eq_true rfl⟩) (yPreV hK hPc hDc (ci := 0) (q0 := 0) rfl rfl) rfl rfl hl.1 rfl (lv_room (Nat.le_of_ble_eq_true rfl)) dX0_moveOn_92 ⟨Nat.le_of_ble_eq_true rfl, Nat.le_of_ble_eq_true rfl⟩) hP hD hS hA rfl rfl (by decide) (by decide) (fun u_1 H locs hw hP hD hS => ?_)
  have hP : va_P (dC, dI) vwCl [(a0, .inr (0, [.ref a3, .ref a4, .ref a5, .int 0, .int 0, .int 0, .int 0, .int 0, .int 0])), (a2, .inr (9, [.ref a14, .ref a15, .ref a16, .ref a17, .ref a18, .ref a19])), (a15, .inl (cyI, 15, .inl yR))] H := hP
  have hD : va_D A [(a0, .inr (0, [.ref a3, .ref a4, .ref a5, .int 0, .int 0, .int 0, .int 0, .int 0, .int 0])), (a2, .inr (9, [.ref a14, .ref a15, .ref a16, .ref a17, .ref a18, .ref a19])), (a15, .inl (cyI, 15, .inl yR))] := hD
  refine W.widen (k := 0) (n := 0) (Nat.le_of_ble_eq_true rfl) (Nat.le_of_ble_eq_true rfl) ?_
  refine W.widen (k := 0) (n := 0) (Nat.le_of_ble_eq_true rfl) (Nat.le_of_ble_eq_true rfl) ?_
  exact yy_vret () hx hb hr hlk hsz hAe hK hP hD hS [0, 1, 2] rfl rfl (by decide) (trivial) dX0_moveOn_95
set_option maxHeartbeats 4000000 in
set_option maxRecDepth 100000 in
theorem b0_X0_beginAct_10 (l : Launch) (dC : Nat → ClassId) (dI : Nat → Nat → Nat) (cyI cyZ cyO : ClassId) (sz : Nat) (a0 : Nat) (a1 : Nat) (a2 : Nat) (a3 : Nat) (a4 : Nat) (a5 : Nat)  : Met l yX0_beginAct wsX0_beginAct ({ frames := 0, cells := 0, slots := 0, locals := 0 }) (yPre [.ref a0, .ref a1, .ref a2, .int 0] (dC, dI) [(a0, .inr (0, [.ref a3, .ref a4, .ref a5, .int 0, .int 0, .int 0, .int 0, .int 0, .int 0]))] (yT cyI cyZ cyO) sz) (yQv (fun (u : Unit) => True) (dC, dI) [(a0, .inr (0, [.ref a3, .ref a4, .ref a5, .int 0, .int 0, .int 0, .int 0, .int 0, .int 0]))] (yT cyI cyZ cyO) sz (fun _ => [(a0, .inr (0, [.ref a3, .ref a4, .ref a5, .int 0, .int 0, .int 0, .int 0, .int 0, .int 0]))])) 0 0 (va_A [(a0, .inr (0, [.ref a3, .ref a4, .ref a5, .int 0, .int 0, .int 0, .int 0, .int 0, .int 0]))] sz) := by
  refine yMet (cc := cX0_beginAct) (maxL := 4) (ret := none) (by decide) rfl (Nat.le_of_ble_eq_true rfl) ?_
  intro p e s m below meth c A hx hb hr hlk hml hts hown hnm hsz hAe hP hK hD hA hS ls hl
  have hl : lv_has ls 4 [(0, .ref a0), (1, .ref a1), (2, .ref a2), (3, .int 0)] := hl
  have hf28 := hts (.fieldLink RX0 28 "BusBridge$Bridge" "posted" "I") (by decide +kernel)
  have hf32 := hts (.fieldLink RX0 32 "BusBridge$Bridge" "state" "I") (by decide +kernel)
  have hnX0 : ∀ w ∈ wsX00, w ∈ wsX0_beginAct := by decide +kernel
  refine lv_aload_n hx hb dX0_beginAct_0 rfl (lv_at hl 0 rfl) ?_
  refine va_get (D := (dC, dI)) (ci := 0) (v := .int 0) (C := RX0) (T := TX0) (N := 9) hx hb hts hnX0 hown hK hP 0 rfl rfl 3 (by decide) hf28 (fun _ h9 => h9) rfl dX0_beginAct_1 ?_
  refine lv_if_le (tgt := 54) hx hb dX0_beginAct_4 (by decide) (fun _ => ?_) (fun c => absurd (by decide) c)
  refine lv_aload_n hx hb dX0_beginAct_54 rfl (lv_at hl 0 rfl) ?_
  refine va_get (D := (dC, dI)) (ci := 0) (v := .int 0) (C := RX0) (T := TX0) (N := 9) hx hb hts hnX0 hown hK hP 0 rfl rfl 4 (by decide) hf32 (fun _ h9 => h9) rfl dX0_beginAct_55 ?_
  refine lv_iconst (v := 3) hx hb dX0_beginAct_58 (by decide) ?_
  refine lv_icmp_ne (tgt := 111) hx hb dX0_beginAct_59 (by decide) (fun _ => ?_) (fun c => absurd c (by decide))
  refine W.widen (k := 0) (n := 0) (Nat.le_of_ble_eq_true rfl) (Nat.le_of_ble_eq_true rfl) ?_
  exact yy_vret () hx hb hr hlk hsz hAe hK hP hD hS [0] rfl rfl (by decide) (trivial) dX0_beginAct_111
set_option maxHeartbeats 4000000 in
set_option maxRecDepth 100000 in
theorem b0_X0_pass_11 (l : Launch) (dC : Nat → ClassId) (dI : Nat → Nat → Nat) (cyI cyZ cyO : ClassId) (sz : Nat) (a0 : Nat) (a1 : Nat) (a2 : Nat) (a3 : Nat) (a4 : Nat) (a5 : Nat) (a14 : Nat) (a15 : Nat) (a16 : Nat) (a17 : Nat) (a18 : Nat) (a19 : Nat) (a20 : Nat)  : Met l yX0_pass wsX0_pass ({ frames := 3, cells := 0, slots := 0, locals := 64 }) (yPre [.ref a0, .ref a1, .ref a2, .int 0] (dC, dI) [(a0, .inr (0, [.ref a3, .ref a4, .ref a5, .int 0, .int 0, .int 0, .int 0, .int 0, .int 0])), (a2, .inr (9, [.ref a14, .ref a15, .ref a16, .ref a17, .ref a18, .ref a19])), (a3, .inr (2, [.ref a20, .int 0, .int 0, .int 0, .int 0, .int 0, .int 0, .int 0, .int 0, .int 0, .int 0, .int 0, .int (-1), .int 0])), (a14, .inl (cyI, 15, .inl yR)), (a15, .inl (cyI, 15, .inl yR))] (yT cyI cyZ cyO) sz) (yQv (fun (u : Unit) => True) (dC, dI) [(a0, .inr (0, [.ref a3, .ref a4, .ref a5, .int 0, .int 0, .int 0, .int 0, .int 0, .int 0])), (a2, .inr (9, [.ref a14, .ref a15, .ref a16, .ref a17, .ref a18, .ref a19])), (a3, .inr (2, [.ref a20, .int 0, .int 0, .int 0, .int 0, .int 0, .int 0, .int 0, .int 0, .int 0, .int 0, .int 0, .int (-1), .int 0])), (a14, .inl (cyI, 15, .inl yR)), (a15, .inl (cyI, 15, .inl yR))] (yT cyI cyZ cyO) sz (fun _ => [(a0, .inr (0, [.ref a3, .ref a4, .ref a5, .int 0, .int 0, .int 0, .int 0, .int 0, .int 0])), (a2, .inr (9, [.ref a14, .ref a15, .ref a16, .ref a17, .ref a18, .ref a19])), (a3, .inr (2, [.ref a20, .int 0, .int 0, .int 0, .int 0, .int 0, .int 0, .int 0, .int 0, .int 0, .int 0, .int 0, .int (-1), .int 0])), (a14, .inl (cyI, 15, .inl yR)), (a15, .inl (cyI, 15, .inl yR))])) 0 0 (va_A [(a0, .inr (0, [.ref a3, .ref a4, .ref a5, .int 0, .int 0, .int 0, .int 0, .int 0, .int 0])), (a2, .inr (9, [.ref a14, .ref a15, .ref a16, .ref a17, .ref a18, .ref a19])), (a3, .inr (2, [.ref a20, .int 0, .int 0, .int 0, .int 0, .int 0, .int 0, .int 0, .int 0, .int 0, .int 0, .int 0, .int (-1), .int 0])), (a14, .inl (cyI, 15, .inl yR)), (a15, .inl (cyI, 15, .inl yR))] sz) := by
  refine yMet (cc := cX0_pass) (maxL := 5) (ret := none) (by decide) rfl (Nat.le_of_ble_eq_true rfl) ?_
  intro p e s m below meth c A hx hb hr hlk hml hts hown hnm hsz hAe hP hK hD hA hS ls hl
  have hl : lv_has ls 5 [(0, .ref a0), (1, .ref a1), (2, .ref a2), (3, .int 0)] := hl
  have hf10 := hts (.fieldLink RX0 10 "BusBridge$Bridge" "lower" "LBusBridge$Lower;") (by decide +kernel)
  have hf32 := hts (.fieldLink RX0 32 "BusBridge$Bridge" "state" "I") (by decide +kernel)
  have hf58 := hts (.fieldLink RX0 58 "BusBridge$Lower" "phase" "I") (by decide +kernel)
  have hf72 := hts (.fieldLink RX0 72 "BusBridge$Wires" "driven" "[I") (by decide +kernel)
  have hnX0 : ∀ w ∈ wsX00, w ∈ wsX0_pass := by decide +kernel
  have hnX2 : ∀ w ∈ wsX20, w ∈ wsX0_pass := by decide +kernel
  have hnX9 : ∀ w ∈ wsX90, w ∈ wsX0_pass := by decide +kernel
  refine lv_aload_n hx hb dX0_pass_0 rfl (lv_at hl 0 rfl) ?_
  refine va_get (D := (dC, dI)) (ci := 0) (v := .ref a3) (C := RX0) (T := TX0) (N := 9) hx hb hts hnX0 hown hK hP 0 rfl rfl 0 (by decide) hf10 (fun _ h9 => h9) rfl dX0_pass_1 ?_
  refine lv_aload_n hx hb dX0_pass_4 rfl (lv_at hl 1 rfl) ?_
  refine lv_aload_n hx hb dX0_pass_5 rfl (lv_at hl 2 rfl) ?_
  refine lv_iload_n hx hb dX0_pass_6 rfl (lv_at hl 3 rfl) ?_
  have hPc := hP.sub (ws' := [(a3, .inr (2, [.ref a20, .int 0, .int 0, .int 0, .int 0, .int 0, .int 0, .int 0, .int 0, .int 0, .int 0, .int 0, .int (-1), .int 0]))]) [2] rfl
  have hDc := hD.sub (ws' := [(a3, .inr (2, [.ref a20, .int 0, .int 0, .int 0, .int 0, .int 0, .int 0, .int 0, .int 0, .int 0, .int 0, .int 0, .int (-1), .int 0]))]) [2] (by decide) rfl
  refine yy_callv [2] [0, 1, 3, 4] (wr := [(a0, .inr (0, [.ref a3, .ref a4, .ref a5, .int 0, .int 0, .int 0, .int 0, .int 0, .int 0])), (a2, .inr (9, [.ref a14, .ref a15, .ref a16, .ref a17, .ref a18, .ref a19])), (a14, .inl (cyI, 15, .inl yR)), (a15, .inl (cyI, 15, .inl yR))]) (va_runV (As := [.ref a1, .ref a2, .int 0]) (rest := []) ⟨hx, hb, hml, hown, hts⟩ (b0_X2_pass_7 l dC dI cyI cyZ cyO s.heap.size a3 a1 a2 a20 ) (cwV 3 hts gX0_pass_X2_pass rfl rfl rfl (by decide +kernel) ⟨Nat.le_of_ble_eq_true rfl, Nat.le_of_ble_eq_true rfl⟩) (yPreV hK hPc hDc (ci := 2) (q0 := 0) rfl rfl) rfl rfl hl.1 rfl (lv_room (Nat.le_of_ble_eq_true rfl)) dX0_pass_7 ⟨Nat.le_of_ble_eq_true rfl, Nat.le_of_ble_eq_true rfl⟩) hP hD hS hA rfl rfl (by decide) (by decide) (fun u_1 H locs hw hP hD hS => ?_)
  have hP : va_P (dC, dI) vwCl [(a0, .inr (0, [.ref a3, .ref a4, .ref a5, .int 0, .int 0, .int 0, .int 0, .int 0, .int 0])), (a2, .inr (9, [.ref a14, .ref a15, .ref a16, .ref a17, .ref a18, .ref a19])), (a14, .inl (cyI, 15, .inl yR)), (a15, .inl (cyI, 15, .inl yR)), (a3, .inr (2, [.ref a20, .int 0, .int 0, .int 0, .int 0, .int 0, .int 0, .int 0, .int 0, .int 0, .int 0, .int 0, .int (-1), .int 0]))] H := hP
  have hD : va_D A [(a0, .inr (0, [.ref a3, .ref a4, .ref a5, .int 0, .int 0, .int 0, .int 0, .int 0, .int 0])), (a2, .inr (9, [.ref a14, .ref a15, .ref a16, .ref a17, .ref a18, .ref a19])), (a14, .inl (cyI, 15, .inl yR)), (a15, .inl (cyI, 15, .inl yR)), (a3, .inr (2, [.ref a20, .int 0, .int 0, .int 0, .int 0, .int 0, .int 0, .int 0, .int 0, .int 0, .int 0, .int 0, .int (-1), .int 0]))] := hD
  refine W.widen (k := 0) (n := 0) (Nat.le_of_ble_eq_true rfl) (Nat.le_of_ble_eq_true rfl) ?_
  refine lv_aload_n hx hb dX0_pass_10 rfl (lv_at hl 0 rfl) ?_
  refine lv_aload_n hx hb dX0_pass_11 rfl (lv_at hl 1 rfl) ?_
  refine lv_aload_n hx hb dX0_pass_12 rfl (lv_at hl 2 rfl) ?_
  have hPc := hP.sub (ws' := [(a0, .inr (0, [.ref a3, .ref a4, .ref a5, .int 0, .int 0, .int 0, .int 0, .int 0, .int 0])), (a2, .inr (9, [.ref a14, .ref a15, .ref a16, .ref a17, .ref a18, .ref a19])), (a15, .inl (cyI, 15, .inl yR))]) [0, 1, 3] rfl
  have hDc := hD.sub (ws' := [(a0, .inr (0, [.ref a3, .ref a4, .ref a5, .int 0, .int 0, .int 0, .int 0, .int 0, .int 0])), (a2, .inr (9, [.ref a14, .ref a15, .ref a16, .ref a17, .ref a18, .ref a19])), (a15, .inl (cyI, 15, .inl yR))]) [0, 1, 3] (by decide) rfl
  refine yy_callv [0, 1, 3] [2, 4] (wr := [(a14, .inl (cyI, 15, .inl yR)), (a3, .inr (2, [.ref a20, .int 0, .int 0, .int 0, .int 0, .int 0, .int 0, .int 0, .int 0, .int 0, .int 0, .int 0, .int (-1), .int 0]))]) (va_runV (As := [.ref a1, .ref a2]) (rest := []) ⟨hx, hb, hml, hown, hts⟩ (b0_X0_moveOn_9 l dC dI cyI cyZ cyO H.size a0 a1 a2 a3 a4 a5 a14 a15 a16 a17 a18 a19 ) (cwV 2 hts gX0_pass_X0_moveOn rfl rfl rfl (by decide +kernel) ⟨Nat.le_of_ble_eq_true rfl, Nat.le_of_ble_eq_true rfl⟩) (yPreV hK hPc hDc (ci := 0) (q0 := 0) rfl rfl) rfl rfl hl.1 rfl (lv_room (Nat.le_of_ble_eq_true rfl)) dX0_pass_13 ⟨Nat.le_of_ble_eq_true rfl, Nat.le_of_ble_eq_true rfl⟩) hP hD hS hA rfl rfl (by decide) (by decide) (fun u_2 H locs hw hP hD hS => ?_)
  have hP : va_P (dC, dI) vwCl [(a14, .inl (cyI, 15, .inl yR)), (a3, .inr (2, [.ref a20, .int 0, .int 0, .int 0, .int 0, .int 0, .int 0, .int 0, .int 0, .int 0, .int 0, .int 0, .int (-1), .int 0])), (a0, .inr (0, [.ref a3, .ref a4, .ref a5, .int 0, .int 0, .int 0, .int 0, .int 0, .int 0])), (a2, .inr (9, [.ref a14, .ref a15, .ref a16, .ref a17, .ref a18, .ref a19])), (a15, .inl (cyI, 15, .inl yR))] H := hP
  have hD : va_D A [(a14, .inl (cyI, 15, .inl yR)), (a3, .inr (2, [.ref a20, .int 0, .int 0, .int 0, .int 0, .int 0, .int 0, .int 0, .int 0, .int 0, .int 0, .int 0, .int (-1), .int 0])), (a0, .inr (0, [.ref a3, .ref a4, .ref a5, .int 0, .int 0, .int 0, .int 0, .int 0, .int 0])), (a2, .inr (9, [.ref a14, .ref a15, .ref a16, .ref a17, .ref a18, .ref a19])), (a15, .inl (cyI, 15, .inl yR))] := hD
  refine W.widen (k := 0) (n := 0) (Nat.le_of_ble_eq_true rfl) (Nat.le_of_ble_eq_true rfl) ?_
  refine lv_aload_n hx hb dX0_pass_16 rfl (lv_at hl 0 rfl) ?_
  refine va_get (D := (dC, dI)) (ci := 0) (v := .ref a3) (C := RX0) (T := TX0) (N := 9) hx hb hts hnX0 hown hK hP 2 rfl rfl 0 (by decide) hf10 (fun _ h9 => h9) rfl dX0_pass_17 ?_
  refine va_get (D := (dC, dI)) (ci := 2) (v := .int 0) (C := RX2) (T := TX2) (N := 14) hx hb hts hnX2 hown hK hP 1 rfl rfl 1 (by decide) hf58 (fun _ h9 => h9) rfl dX0_pass_20 ?_
  refine lv_if_ne (tgt := 33) hx hb dX0_pass_23 (by decide) (fun c => absurd (by decide) c) (fun _ => ?_)
  refine lv_aload_n hx hb dX0_pass_26 rfl (lv_at hl 0 rfl) ?_
  refine lv_aload_n hx hb dX0_pass_27 rfl (lv_at hl 1 rfl) ?_
  refine lv_aload_n hx hb dX0_pass_28 rfl (lv_at hl 2 rfl) ?_
  refine lv_iload_n hx hb dX0_pass_29 rfl (lv_at hl 3 rfl) ?_
  have hPc := hP.sub (ws' := [(a0, .inr (0, [.ref a3, .ref a4, .ref a5, .int 0, .int 0, .int 0, .int 0, .int 0, .int 0]))]) [2] rfl
  have hDc := hD.sub (ws' := [(a0, .inr (0, [.ref a3, .ref a4, .ref a5, .int 0, .int 0, .int 0, .int 0, .int 0, .int 0]))]) [2] (by decide) rfl
  refine yy_callv [2] [0, 1, 3, 4] (wr := [(a14, .inl (cyI, 15, .inl yR)), (a3, .inr (2, [.ref a20, .int 0, .int 0, .int 0, .int 0, .int 0, .int 0, .int 0, .int 0, .int 0, .int 0, .int 0, .int (-1), .int 0])), (a2, .inr (9, [.ref a14, .ref a15, .ref a16, .ref a17, .ref a18, .ref a19])), (a15, .inl (cyI, 15, .inl yR))]) (va_runV (As := [.ref a1, .ref a2, .int 0]) (rest := []) ⟨hx, hb, hml, hown, hts⟩ (b0_X0_beginAct_10 l dC dI cyI cyZ cyO H.size a0 a1 a2 a3 a4 a5 ) (cwV 3 hts gX0_pass_X0_beginAct rfl rfl rfl (by decide +kernel) ⟨Nat.le_of_ble_eq_true rfl, Nat.le_of_ble_eq_true rfl⟩) (yPreV hK hPc hDc (ci := 0) (q0 := 0) rfl rfl) rfl rfl hl.1 rfl (lv_room (Nat.le_of_ble_eq_true rfl)) dX0_pass_30 ⟨Nat.le_of_ble_eq_true rfl, Nat.le_of_ble_eq_true rfl⟩) hP hD hS hA rfl rfl (by decide) (by decide) (fun u_3 H locs hw hP hD hS => ?_)
  have hP : va_P (dC, dI) vwCl [(a14, .inl (cyI, 15, .inl yR)), (a3, .inr (2, [.ref a20, .int 0, .int 0, .int 0, .int 0, .int 0, .int 0, .int 0, .int 0, .int 0, .int 0, .int 0, .int (-1), .int 0])), (a2, .inr (9, [.ref a14, .ref a15, .ref a16, .ref a17, .ref a18, .ref a19])), (a15, .inl (cyI, 15, .inl yR)), (a0, .inr (0, [.ref a3, .ref a4, .ref a5, .int 0, .int 0, .int 0, .int 0, .int 0, .int 0]))] H := hP
  have hD : va_D A [(a14, .inl (cyI, 15, .inl yR)), (a3, .inr (2, [.ref a20, .int 0, .int 0, .int 0, .int 0, .int 0, .int 0, .int 0, .int 0, .int 0, .int 0, .int 0, .int (-1), .int 0])), (a2, .inr (9, [.ref a14, .ref a15, .ref a16, .ref a17, .ref a18, .ref a19])), (a15, .inl (cyI, 15, .inl yR)), (a0, .inr (0, [.ref a3, .ref a4, .ref a5, .int 0, .int 0, .int 0, .int 0, .int 0, .int 0]))] := hD
  refine W.widen (k := 0) (n := 0) (Nat.le_of_ble_eq_true rfl) (Nat.le_of_ble_eq_true rfl) ?_
  refine lv_aload_n hx hb dX0_pass_33 rfl (lv_at hl 0 rfl) ?_
  refine va_get (D := (dC, dI)) (ci := 0) (v := .int 0) (C := RX0) (T := TX0) (N := 9) hx hb hts hnX0 hown hK hP 4 rfl rfl 4 (by decide) hf32 (fun _ h9 => h9) rfl dX0_pass_34 ?_
  refine lv_iconst (v := 2) hx hb dX0_pass_37 (by decide) ?_
  refine lv_icmp_eq (tgt := 57) hx hb dX0_pass_38 (by decide) (fun c => absurd c (by decide)) (fun _ => ?_)
  refine lv_aload_n hx hb dX0_pass_41 rfl (lv_at hl 0 rfl) ?_
  refine va_get (D := (dC, dI)) (ci := 0) (v := .int 0) (C := RX0) (T := TX0) (N := 9) hx hb hts hnX0 hown hK hP 4 rfl rfl 4 (by decide) hf32 (fun _ h9 => h9) rfl dX0_pass_42 ?_
  refine lv_iconst (v := 3) hx hb dX0_pass_45 (by decide) ?_
  refine lv_icmp_eq (tgt := 57) hx hb dX0_pass_46 (by decide) (fun c => absurd c (by decide)) (fun _ => ?_)
  refine lv_aload_n hx hb dX0_pass_49 rfl (lv_at hl 0 rfl) ?_
  refine va_get (D := (dC, dI)) (ci := 0) (v := .int 0) (C := RX0) (T := TX0) (N := 9) hx hb hts hnX0 hown hK hP 4 rfl rfl 4 (by decide) hf32 (fun _ h9 => h9) rfl dX0_pass_50 ?_
  refine lv_iconst (v := 4) hx hb dX0_pass_53 (by decide) ?_
  refine lv_icmp_ne (tgt := 61) hx hb dX0_pass_54 (by decide) (fun _ => ?_) (fun c => absurd c (by decide))
  refine lv_iconst (v := 0) hx hb dX0_pass_61 (by decide) ?_
  refine lv_istore (lv' := [(4, .int 0), (0, .ref a0), (1, .ref a1), (2, .ref a2), (3, .int 0)]) hx hb dX0_pass_62 hl (by decide) rfl (fun ls hl => ?_)
  refine lv_aload_n hx hb dX0_pass_64 rfl (lv_at hl 3 rfl) ?_
  refine va_get (D := (dC, dI)) (ci := 9) (v := .ref a14) (C := RX9) (T := TX9) (N := 6) hx hb hts hnX9 hown hK hP 2 rfl rfl 0 (by decide) hf72 (fun _ h9 => h9) rfl dX0_pass_65 ?_
  refine lv_iconst (v := 4) hx hb dX0_pass_68 (by decide) ?_
  refine lv_iload hx hb dX0_pass_69 (lv_at hl 0 rfl) ?_
  refine lv_if_eq (tgt := 78) hx hb dX0_pass_71 (by decide) (fun _ => ?_) (fun c => absurd (by decide) c)
  refine lv_iconst (v := 1) hx hb dX0_pass_78 (by decide) ?_
  refine yy_iast (f' := yR) hx hb hK hP hD hS 0 0 rfl rfl (yin (by decide)) dX0_pass_79 (yid rfl) (fun H locs hP hD hS => ?_)
  have hP : va_P (dC, dI) vwCl [(a14, .inl (cyI, 15, .inl yR)), (a3, .inr (2, [.ref a20, .int 0, .int 0, .int 0, .int 0, .int 0, .int 0, .int 0, .int 0, .int 0, .int 0, .int 0, .int (-1), .int 0])), (a2, .inr (9, [.ref a14, .ref a15, .ref a16, .ref a17, .ref a18, .ref a19])), (a15, .inl (cyI, 15, .inl yR)), (a0, .inr (0, [.ref a3, .ref a4, .ref a5, .int 0, .int 0, .int 0, .int 0, .int 0, .int 0]))] H := hP
  have hD : va_D A [(a14, .inl (cyI, 15, .inl yR)), (a3, .inr (2, [.ref a20, .int 0, .int 0, .int 0, .int 0, .int 0, .int 0, .int 0, .int 0, .int 0, .int 0, .int 0, .int (-1), .int 0])), (a2, .inr (9, [.ref a14, .ref a15, .ref a16, .ref a17, .ref a18, .ref a19])), (a15, .inl (cyI, 15, .inl yR)), (a0, .inr (0, [.ref a3, .ref a4, .ref a5, .int 0, .int 0, .int 0, .int 0, .int 0, .int 0]))] := hD
  refine lv_aload_n hx hb dX0_pass_80 rfl (lv_at hl 3 rfl) ?_
  refine va_get (D := (dC, dI)) (ci := 9) (v := .ref a14) (C := RX9) (T := TX9) (N := 6) hx hb hts hnX9 hown hK hP 2 rfl rfl 0 (by decide) hf72 (fun _ h9 => h9) rfl dX0_pass_81 ?_
  refine lv_iconst (v := 5) hx hb dX0_pass_84 (by decide) ?_
  refine lv_aload_n hx hb dX0_pass_85 rfl (lv_at hl 1 rfl) ?_
  refine va_get (D := (dC, dI)) (ci := 0) (v := .int 0) (C := RX0) (T := TX0) (N := 9) hx hb hts hnX0 hown hK hP 4 rfl rfl 4 (by decide) hf32 (fun _ h9 => h9) rfl dX0_pass_86 ?_
  refine lv_iconst (v := 4) hx hb dX0_pass_89 (by decide) ?_
  refine lv_icmp_eq (tgt := 101) hx hb dX0_pass_90 (by decide) (fun c => absurd c (by decide)) (fun _ => ?_)
  refine lv_aload_n hx hb dX0_pass_93 rfl (lv_at hl 1 rfl) ?_
  refine va_get (D := (dC, dI)) (ci := 0) (v := .int 0) (C := RX0) (T := TX0) (N := 9) hx hb hts hnX0 hown hK hP 4 rfl rfl 4 (by decide) hf32 (fun _ h9 => h9) rfl dX0_pass_94 ?_
  refine lv_iconst (v := 5) hx hb dX0_pass_97 (by decide) ?_
  refine lv_icmp_ne (tgt := 105) hx hb dX0_pass_98 (by decide) (fun _ => ?_) (fun c => absurd c (by decide))
  refine lv_iconst (v := 0) hx hb dX0_pass_105 (by decide) ?_
  refine yy_iast (f' := yR) hx hb hK hP hD hS 0 0 rfl rfl (yin (by decide)) dX0_pass_106 (yid rfl) (fun H locs hP hD hS => ?_)
  have hP : va_P (dC, dI) vwCl [(a14, .inl (cyI, 15, .inl yR)), (a3, .inr (2, [.ref a20, .int 0, .int 0, .int 0, .int 0, .int 0, .int 0, .int 0, .int 0, .int 0, .int 0, .int 0, .int (-1), .int 0])), (a2, .inr (9, [.ref a14, .ref a15, .ref a16, .ref a17, .ref a18, .ref a19])), (a15, .inl (cyI, 15, .inl yR)), (a0, .inr (0, [.ref a3, .ref a4, .ref a5, .int 0, .int 0, .int 0, .int 0, .int 0, .int 0]))] H := hP
  have hD : va_D A [(a14, .inl (cyI, 15, .inl yR)), (a3, .inr (2, [.ref a20, .int 0, .int 0, .int 0, .int 0, .int 0, .int 0, .int 0, .int 0, .int 0, .int 0, .int 0, .int (-1), .int 0])), (a2, .inr (9, [.ref a14, .ref a15, .ref a16, .ref a17, .ref a18, .ref a19])), (a15, .inl (cyI, 15, .inl yR)), (a0, .inr (0, [.ref a3, .ref a4, .ref a5, .int 0, .int 0, .int 0, .int 0, .int 0, .int 0]))] := hD
  refine W.widen (k := 0) (n := 0) (Nat.le_of_ble_eq_true rfl) (Nat.le_of_ble_eq_true rfl) ?_
  exact yy_vret () hx hb hr hlk hsz hAe hK hP hD hS [4, 2, 1, 0, 3] rfl rfl (by decide) (trivial) dX0_pass_107
set_option maxHeartbeats 4000000 in
set_option maxRecDepth 100000 in
theorem b0_X7_pass_12 (l : Launch) (dC : Nat → ClassId) (dI : Nat → Nat → Nat) (cyI cyZ cyO : ClassId) (sz : Nat) (a0 : Nat) (a1 : Nat) (a2 : Nat) (a3 : Nat) (a4 : Nat) (a5 : Nat) (a6 : Nat) (a7 : Nat) (a8 : Nat) (a9 : Nat) (a10 : Nat) (a11 : Nat) (a12 : Nat) (a15 : Nat) (a16 : Nat) (a17 : Nat) (a18 : Nat) (a19 : Nat) (a20 : Nat)  : Met l yX7_pass wsX7_pass ({ frames := 0, cells := 0, slots := 0, locals := 0 }) (yPre [.ref a0, .ref a1, .ref a2, .ref a3] (dC, dI) [(a0, .inr (7, [.ref a4, .int 0, .int 0, .int 0])), (a1, .inr (6, [.ref a5, .ref a6, .ref a7, .ref a8, .ref a9, .ref a10, .ref a11, .ref a12, .int 0, .int 0, .int 0, .int 32, .int 0])), (a3, .inr (9, [.ref a15, .ref a16, .ref a17, .ref a18, .ref a19, .ref a20])), (a15, .inl (cyI, 15, .inl yR)), (a16, .inl (cyI, 15, .inl yR))] (yT cyI cyZ cyO) sz) (yQv (fun (u : Unit) => True) (dC, dI) [(a0, .inr (7, [.ref a4, .int 0, .int 0, .int 0])), (a1, .inr (6, [.ref a5, .ref a6, .ref a7, .ref a8, .ref a9, .ref a10, .ref a11, .ref a12, .int 0, .int 0, .int 0, .int 32, .int 0])), (a3, .inr (9, [.ref a15, .ref a16, .ref a17, .ref a18, .ref a19, .ref a20])), (a15, .inl (cyI, 15, .inl yR)), (a16, .inl (cyI, 15, .inl yR))] (yT cyI cyZ cyO) sz (fun _ => [(a0, .inr (7, [.ref a4, .int 0, .int 0, .int 0])), (a1, .inr (6, [.ref a5, .ref a6, .ref a7, .ref a8, .ref a9, .ref a10, .ref a11, .ref a12, .int 0, .int 0, .int 0, .int 32, .int 0])), (a3, .inr (9, [.ref a15, .ref a16, .ref a17, .ref a18, .ref a19, .ref a20])), (a15, .inl (cyI, 15, .inl yR)), (a16, .inl (cyI, 15, .inl yR))])) 0 0 (va_A [(a0, .inr (7, [.ref a4, .int 0, .int 0, .int 0])), (a1, .inr (6, [.ref a5, .ref a6, .ref a7, .ref a8, .ref a9, .ref a10, .ref a11, .ref a12, .int 0, .int 0, .int 0, .int 32, .int 0])), (a3, .inr (9, [.ref a15, .ref a16, .ref a17, .ref a18, .ref a19, .ref a20])), (a15, .inl (cyI, 15, .inl yR)), (a16, .inl (cyI, 15, .inl yR))] sz) := by
  refine yMet (cc := cX7_pass) (maxL := 7) (ret := none) (by decide) rfl (Nat.le_of_ble_eq_true rfl) ?_
  intro p e s m below meth c A hx hb hr hlk hml hts hown hnm hsz hAe hP hK hD hA hS ls hl
  have hl : lv_has ls 7 [(0, .ref a0), (1, .ref a1), (2, .ref a2), (3, .ref a3)] := hl
  have hf27 := hts (.fieldLink RX7 27 "BusBridge$Wires" "driven" "[I") (by decide +kernel)
  have hf32 := hts (.fieldLink RX7 32 "BusBridge$Wires" "seen" "[I") (by decide +kernel)
  have hf35 := hts (.fieldLink RX7 35 "BusBridge$Slaves" "ready" "I") (by decide +kernel)
  have hf39 := hts (.fieldLink RX7 39 "BusBridge$Slaves" "error" "I") (by decide +kernel)
  have hf42 := hts (.fieldLink RX7 42 "BusBridge$Slaves" "data" "I") (by decide +kernel)
  have hf45 := hts (.fieldLink RX7 45 "BusBridge$Plan" "slaves" "I") (by decide +kernel)
  have hnX6 : ∀ w ∈ wsX60, w ∈ wsX7_pass := by decide +kernel
  have hnX7 : ∀ w ∈ wsX70, w ∈ wsX7_pass := by decide +kernel
  have hnX9 : ∀ w ∈ wsX90, w ∈ wsX7_pass := by decide +kernel
  refine lv_aload_n hx hb dX7_pass_0 rfl (lv_at hl 3 rfl) ?_
  refine va_get (D := (dC, dI)) (ci := 9) (v := .ref a15) (C := RX9) (T := TX9) (N := 6) hx hb hts hnX9 hown hK hP 2 rfl rfl 0 (by decide) hf27 (fun _ h9 => h9) rfl dX7_pass_1 ?_
  refine lv_bipush (v := 14) hx hb dX7_pass_4 (by decide) ?_
  refine yy_iald (v := 0) hx hb hK hP 3 0 rfl rfl (yin (by decide)) dX7_pass_6 rfl ?_
  refine lv_istore (lv' := [(4, .int 0), (0, .ref a0), (1, .ref a1), (2, .ref a2), (3, .ref a3)]) hx hb dX7_pass_7 hl (by decide) rfl (fun ls hl => ?_)
  refine lv_aload_n hx hb dX7_pass_9 rfl (lv_at hl 4 rfl) ?_
  refine va_get (D := (dC, dI)) (ci := 9) (v := .ref a16) (C := RX9) (T := TX9) (N := 6) hx hb hts hnX9 hown hK hP 2 rfl rfl 1 (by decide) hf32 (fun _ h9 => h9) rfl dX7_pass_10 ?_
  refine lv_bipush (v := 7) hx hb dX7_pass_13 (by decide) ?_
  refine yy_iald (v := 0) hx hb hK hP 4 0 rfl rfl (yin (by decide)) dX7_pass_15 rfl ?_
  refine lv_istore (lv' := [(5, .int 0), (4, .int 0), (0, .ref a0), (1, .ref a1), (2, .ref a2), (3, .ref a3)]) hx hb dX7_pass_16 hl (by decide) rfl (fun ls hl => ?_)
  refine lv_aload_n hx hb dX7_pass_18 rfl (lv_at hl 2 rfl) ?_
  refine lv_iconst (v := 0) hx hb dX7_pass_19 (by decide) ?_
  refine va_put (D := (dC, dI)) (ci := 7) (v := .int 0) (ty := .int) (C := RX7) (T := TX7) (N := 4) hx hb hts hnX7 tyX7 tyX7_ok nmX7 hown hK hP hD hS 0 rfl rfl 1 (by decide) hf35 (fun _ h9 => h9) rfl (by decide +kernel) rfl rfl (Nat.le_of_ble_eq_true rfl) dX7_pass_20 (fun H locs hP hD hS => ?_)
  have hP : va_P (dC, dI) vwCl [(a0, .inr (7, [.ref a4, .int 0, .int 0, .int 0])), (a1, .inr (6, [.ref a5, .ref a6, .ref a7, .ref a8, .ref a9, .ref a10, .ref a11, .ref a12, .int 0, .int 0, .int 0, .int 32, .int 0])), (a3, .inr (9, [.ref a15, .ref a16, .ref a17, .ref a18, .ref a19, .ref a20])), (a15, .inl (cyI, 15, .inl yR)), (a16, .inl (cyI, 15, .inl yR))] H := hP
  have hD : va_D A [(a0, .inr (7, [.ref a4, .int 0, .int 0, .int 0])), (a1, .inr (6, [.ref a5, .ref a6, .ref a7, .ref a8, .ref a9, .ref a10, .ref a11, .ref a12, .int 0, .int 0, .int 0, .int 32, .int 0])), (a3, .inr (9, [.ref a15, .ref a16, .ref a17, .ref a18, .ref a19, .ref a20])), (a15, .inl (cyI, 15, .inl yR)), (a16, .inl (cyI, 15, .inl yR))] := hD
  refine lv_aload_n hx hb dX7_pass_23 rfl (lv_at hl 2 rfl) ?_
  refine lv_iconst (v := 0) hx hb dX7_pass_24 (by decide) ?_
  refine va_put (D := (dC, dI)) (ci := 7) (v := .int 0) (ty := .int) (C := RX7) (T := TX7) (N := 4) hx hb hts hnX7 tyX7 tyX7_ok nmX7 hown hK hP hD hS 0 rfl rfl 2 (by decide) hf39 (fun _ h9 => h9) rfl (by decide +kernel) rfl rfl (Nat.le_of_ble_eq_true rfl) dX7_pass_25 (fun H locs hP hD hS => ?_)
  have hP : va_P (dC, dI) vwCl [(a0, .inr (7, [.ref a4, .int 0, .int 0, .int 0])), (a1, .inr (6, [.ref a5, .ref a6, .ref a7, .ref a8, .ref a9, .ref a10, .ref a11, .ref a12, .int 0, .int 0, .int 0, .int 32, .int 0])), (a3, .inr (9, [.ref a15, .ref a16, .ref a17, .ref a18, .ref a19, .ref a20])), (a15, .inl (cyI, 15, .inl yR)), (a16, .inl (cyI, 15, .inl yR))] H := hP
  have hD : va_D A [(a0, .inr (7, [.ref a4, .int 0, .int 0, .int 0])), (a1, .inr (6, [.ref a5, .ref a6, .ref a7, .ref a8, .ref a9, .ref a10, .ref a11, .ref a12, .int 0, .int 0, .int 0, .int 32, .int 0])), (a3, .inr (9, [.ref a15, .ref a16, .ref a17, .ref a18, .ref a19, .ref a20])), (a15, .inl (cyI, 15, .inl yR)), (a16, .inl (cyI, 15, .inl yR))] := hD
  refine lv_aload_n hx hb dX7_pass_28 rfl (lv_at hl 2 rfl) ?_
  refine lv_iload hx hb dX7_pass_29 (lv_at hl 1 rfl) ?_
  refine va_put (D := (dC, dI)) (ci := 7) (v := .int 0) (ty := .int) (C := RX7) (T := TX7) (N := 4) hx hb hts hnX7 tyX7 tyX7_ok nmX7 hown hK hP hD hS 0 rfl rfl 3 (by decide) hf42 (fun _ h9 => h9) rfl (by decide +kernel) rfl rfl (Nat.le_of_ble_eq_true rfl) dX7_pass_31 (fun H locs hP hD hS => ?_)
  have hP : va_P (dC, dI) vwCl [(a0, .inr (7, [.ref a4, .int 0, .int 0, .int 0])), (a1, .inr (6, [.ref a5, .ref a6, .ref a7, .ref a8, .ref a9, .ref a10, .ref a11, .ref a12, .int 0, .int 0, .int 0, .int 32, .int 0])), (a3, .inr (9, [.ref a15, .ref a16, .ref a17, .ref a18, .ref a19, .ref a20])), (a15, .inl (cyI, 15, .inl yR)), (a16, .inl (cyI, 15, .inl yR))] H := hP
  have hD : va_D A [(a0, .inr (7, [.ref a4, .int 0, .int 0, .int 0])), (a1, .inr (6, [.ref a5, .ref a6, .ref a7, .ref a8, .ref a9, .ref a10, .ref a11, .ref a12, .int 0, .int 0, .int 0, .int 32, .int 0])), (a3, .inr (9, [.ref a15, .ref a16, .ref a17, .ref a18, .ref a19, .ref a20])), (a15, .inl (cyI, 15, .inl yR)), (a16, .inl (cyI, 15, .inl yR))] := hD
  refine lv_iconst (v := 0) hx hb dX7_pass_34 (by decide) ?_
  refine lv_istore (lv' := [(6, .int 0), (5, .int 0), (4, .int 0), (0, .ref a0), (1, .ref a1), (2, .ref a2), (3, .ref a3)]) hx hb dX7_pass_35 hl (by decide) rfl (fun ls hl => ?_)
  refine lv_iload hx hb dX7_pass_37 (lv_at hl 0 rfl) ?_
  refine lv_aload_n hx hb dX7_pass_39 rfl (lv_at hl 4 rfl) ?_
  refine va_get (D := (dC, dI)) (ci := 6) (v := .int 0) (C := RX6) (T := TX6) (N := 13) hx hb hts hnX6 hown hK hP 1 rfl rfl 8 (by decide) hf45 (fun _ h9 => h9) rfl dX7_pass_40 ?_
  refine lv_icmp_ge (tgt := 90) hx hb dX7_pass_43 (by decide) (fun _ => ?_) (fun c => absurd (by decide) c)
  refine lv_aload_n hx hb dX7_pass_90 rfl (lv_at hl 6 rfl) ?_
  refine va_get (D := (dC, dI)) (ci := 9) (v := .ref a15) (C := RX9) (T := TX9) (N := 6) hx hb hts hnX9 hown hK hP 2 rfl rfl 0 (by decide) hf27 (fun _ h9 => h9) rfl dX7_pass_91 ?_
  refine lv_bipush (v := 12) hx hb dX7_pass_94 (by decide) ?_
  refine lv_aload_n hx hb dX7_pass_96 rfl (lv_at hl 3 rfl) ?_
  refine va_get (D := (dC, dI)) (ci := 7) (v := .int 0) (C := RX7) (T := TX7) (N := 4) hx hb hts hnX7 hown hK hP 0 rfl rfl 1 (by decide) hf35 (fun _ h9 => h9) rfl dX7_pass_97 ?_
  refine yy_iast (f' := yR) hx hb hK hP hD hS 3 0 rfl rfl (yin (by decide)) dX7_pass_100 (yid rfl) (fun H locs hP hD hS => ?_)
  have hP : va_P (dC, dI) vwCl [(a0, .inr (7, [.ref a4, .int 0, .int 0, .int 0])), (a1, .inr (6, [.ref a5, .ref a6, .ref a7, .ref a8, .ref a9, .ref a10, .ref a11, .ref a12, .int 0, .int 0, .int 0, .int 32, .int 0])), (a3, .inr (9, [.ref a15, .ref a16, .ref a17, .ref a18, .ref a19, .ref a20])), (a15, .inl (cyI, 15, .inl yR)), (a16, .inl (cyI, 15, .inl yR))] H := hP
  have hD : va_D A [(a0, .inr (7, [.ref a4, .int 0, .int 0, .int 0])), (a1, .inr (6, [.ref a5, .ref a6, .ref a7, .ref a8, .ref a9, .ref a10, .ref a11, .ref a12, .int 0, .int 0, .int 0, .int 32, .int 0])), (a3, .inr (9, [.ref a15, .ref a16, .ref a17, .ref a18, .ref a19, .ref a20])), (a15, .inl (cyI, 15, .inl yR)), (a16, .inl (cyI, 15, .inl yR))] := hD
  refine lv_aload_n hx hb dX7_pass_101 rfl (lv_at hl 6 rfl) ?_
  refine va_get (D := (dC, dI)) (ci := 9) (v := .ref a15) (C := RX9) (T := TX9) (N := 6) hx hb hts hnX9 hown hK hP 2 rfl rfl 0 (by decide) hf27 (fun _ h9 => h9) rfl dX7_pass_102 ?_
  refine lv_bipush (v := 13) hx hb dX7_pass_105 (by decide) ?_
  refine lv_aload_n hx hb dX7_pass_107 rfl (lv_at hl 3 rfl) ?_
  refine va_get (D := (dC, dI)) (ci := 7) (v := .int 0) (C := RX7) (T := TX7) (N := 4) hx hb hts hnX7 hown hK hP 0 rfl rfl 2 (by decide) hf39 (fun _ h9 => h9) rfl dX7_pass_108 ?_
  refine yy_iast (f' := yR) hx hb hK hP hD hS 3 0 rfl rfl (yin (by decide)) dX7_pass_111 (yid rfl) (fun H locs hP hD hS => ?_)
  have hP : va_P (dC, dI) vwCl [(a0, .inr (7, [.ref a4, .int 0, .int 0, .int 0])), (a1, .inr (6, [.ref a5, .ref a6, .ref a7, .ref a8, .ref a9, .ref a10, .ref a11, .ref a12, .int 0, .int 0, .int 0, .int 32, .int 0])), (a3, .inr (9, [.ref a15, .ref a16, .ref a17, .ref a18, .ref a19, .ref a20])), (a15, .inl (cyI, 15, .inl yR)), (a16, .inl (cyI, 15, .inl yR))] H := hP
  have hD : va_D A [(a0, .inr (7, [.ref a4, .int 0, .int 0, .int 0])), (a1, .inr (6, [.ref a5, .ref a6, .ref a7, .ref a8, .ref a9, .ref a10, .ref a11, .ref a12, .int 0, .int 0, .int 0, .int 32, .int 0])), (a3, .inr (9, [.ref a15, .ref a16, .ref a17, .ref a18, .ref a19, .ref a20])), (a15, .inl (cyI, 15, .inl yR)), (a16, .inl (cyI, 15, .inl yR))] := hD
  refine lv_aload_n hx hb dX7_pass_112 rfl (lv_at hl 6 rfl) ?_
  refine va_get (D := (dC, dI)) (ci := 9) (v := .ref a15) (C := RX9) (T := TX9) (N := 6) hx hb hts hnX9 hown hK hP 2 rfl rfl 0 (by decide) hf27 (fun _ h9 => h9) rfl dX7_pass_113 ?_
  refine lv_bipush (v := 14) hx hb dX7_pass_116 (by decide) ?_
  refine lv_aload_n hx hb dX7_pass_118 rfl (lv_at hl 3 rfl) ?_
  refine va_get (D := (dC, dI)) (ci := 7) (v := .int 0) (C := RX7) (T := TX7) (N := 4) hx hb hts hnX7 hown hK hP 0 rfl rfl 3 (by decide) hf42 (fun _ h9 => h9) rfl dX7_pass_119 ?_
  refine yy_iast (f' := yR) hx hb hK hP hD hS 3 0 rfl rfl (yin (by decide)) dX7_pass_122 (yid rfl) (fun H locs hP hD hS => ?_)
  have hP : va_P (dC, dI) vwCl [(a0, .inr (7, [.ref a4, .int 0, .int 0, .int 0])), (a1, .inr (6, [.ref a5, .ref a6, .ref a7, .ref a8, .ref a9, .ref a10, .ref a11, .ref a12, .int 0, .int 0, .int 0, .int 32, .int 0])), (a3, .inr (9, [.ref a15, .ref a16, .ref a17, .ref a18, .ref a19, .ref a20])), (a15, .inl (cyI, 15, .inl yR)), (a16, .inl (cyI, 15, .inl yR))] H := hP
  have hD : va_D A [(a0, .inr (7, [.ref a4, .int 0, .int 0, .int 0])), (a1, .inr (6, [.ref a5, .ref a6, .ref a7, .ref a8, .ref a9, .ref a10, .ref a11, .ref a12, .int 0, .int 0, .int 0, .int 32, .int 0])), (a3, .inr (9, [.ref a15, .ref a16, .ref a17, .ref a18, .ref a19, .ref a20])), (a15, .inl (cyI, 15, .inl yR)), (a16, .inl (cyI, 15, .inl yR))] := hD
  refine W.widen (k := 0) (n := 0) (Nat.le_of_ble_eq_true rfl) (Nat.le_of_ble_eq_true rfl) ?_
  exact yy_vret () hx hb hr hlk hsz hAe hK hP hD hS [0, 1, 2, 3, 4] rfl rfl (by decide) (trivial) dX7_pass_123
set_option maxHeartbeats 4000000 in
set_option maxRecDepth 100000 in
theorem b0_X1_countUp_13 (l : Launch) (dC : Nat → ClassId) (dI : Nat → Nat → Nat) (cyI cyZ cyO : ClassId) (sz : Nat) (a0 : Nat) (a1 : Nat) (a2 : Nat) (a3 : Nat) (a4 : Nat) (a5 : Nat) (a6 : Nat) (a7 : Nat) (a8 : Nat) (a9 : Nat) (a10 : Nat) (a11 : Nat)  : Met l yX1_countUp wsX1_countUp ({ frames := 0, cells := 0, slots := 0, locals := 0 }) (yPre [.ref a0, .ref a1, .int 1] (dC, dI) [(a0, .inr (1, [.ref a2, .ref a3, .int (-1)])), (a1, .inr (6, [.ref a4, .ref a5, .ref a6, .ref a7, .ref a8, .ref a9, .ref a10, .ref a11, .int 0, .int 0, .int 0, .int 32, .int 0]))] (yT cyI cyZ cyO) sz) (yQv (fun (u : Unit) => True) (dC, dI) [(a0, .inr (1, [.ref a2, .ref a3, .int (-1)])), (a1, .inr (6, [.ref a4, .ref a5, .ref a6, .ref a7, .ref a8, .ref a9, .ref a10, .ref a11, .int 0, .int 0, .int 0, .int 32, .int 0]))] (yT cyI cyZ cyO) sz (fun _ => [(a0, .inr (1, [.ref a2, .ref a3, .int (-1)])), (a1, .inr (6, [.ref a4, .ref a5, .ref a6, .ref a7, .ref a8, .ref a9, .ref a10, .ref a11, .int 0, .int 0, .int 0, .int 32, .int 0]))])) 0 0 (va_A [(a0, .inr (1, [.ref a2, .ref a3, .int (-1)])), (a1, .inr (6, [.ref a4, .ref a5, .ref a6, .ref a7, .ref a8, .ref a9, .ref a10, .ref a11, .int 0, .int 0, .int 0, .int 32, .int 0]))] sz) := by
  refine yMet (cc := cX1_countUp) (maxL := 4) (ret := none) (by decide) rfl (Nat.le_of_ble_eq_true rfl) ?_
  intro p e s m below meth c A hx hb hr hlk hml hts hown hnm hsz hAe hP hK hD hA hS ls hl
  have hl : lv_has ls 4 [(0, .ref a0), (1, .ref a1), (2, .int 1)] := hl
  have hf18 := hts (.fieldLink RX1 18 "BusBridge$Cells" "fresh" "I") (by decide +kernel)
  have hf52 := hts (.fieldLink RX1 52 "BusBridge$Plan" "registers" "I") (by decide +kernel)
  have hnX1 : ∀ w ∈ wsX10, w ∈ wsX1_countUp := by decide +kernel
  have hnX6 : ∀ w ∈ wsX60, w ∈ wsX1_countUp := by decide +kernel
  refine lv_iload_n hx hb dX1_countUp_0 rfl (lv_at hl 2 rfl) ?_
  refine lv_if_gt (tgt := 5) hx hb dX1_countUp_1 (by decide) (fun _ => ?_) (fun c => absurd (by decide) c)
  refine lv_iconst (v := 0) hx hb dX1_countUp_5 (by decide) ?_
  refine lv_istore_n (lv' := [(3, .int 0), (0, .ref a0), (1, .ref a1), (2, .int 1)]) hx hb dX1_countUp_6 rfl hl (by decide) rfl (fun ls hl => ?_)
  refine lv_iload_n hx hb dX1_countUp_7 rfl (lv_at hl 0 rfl) ?_
  refine lv_aload_n hx hb dX1_countUp_8 rfl (lv_at hl 2 rfl) ?_
  refine va_get (D := (dC, dI)) (ci := 6) (v := .int 0) (C := RX6) (T := TX6) (N := 13) hx hb hts hnX6 hown hK hP 1 rfl rfl 9 (by decide) hf52 (fun _ h9 => h9) rfl dX1_countUp_9 ?_
  refine lv_icmp_ge (tgt := 55) hx hb dX1_countUp_12 (by decide) (fun _ => ?_) (fun c => absurd (by decide) c)
  refine lv_aload_n hx hb dX1_countUp_55 rfl (lv_at hl 1 rfl) ?_
  refine lv_iconst (v := (-1)) hx hb dX1_countUp_56 (by decide) ?_
  refine va_put (D := (dC, dI)) (ci := 1) (v := .int (-1)) (ty := .int) (C := RX1) (T := TX1) (N := 3) hx hb hts hnX1 tyX1 tyX1_ok nmX1 hown hK hP hD hS 0 rfl rfl 2 (by decide) hf18 (fun _ h9 => h9) rfl (by decide +kernel) rfl rfl (Nat.le_of_ble_eq_true rfl) dX1_countUp_57 (fun H locs hP hD hS => ?_)
  have hP : va_P (dC, dI) vwCl [(a0, .inr (1, [.ref a2, .ref a3, .int (-1)])), (a1, .inr (6, [.ref a4, .ref a5, .ref a6, .ref a7, .ref a8, .ref a9, .ref a10, .ref a11, .int 0, .int 0, .int 0, .int 32, .int 0]))] H := hP
  have hD : va_D A [(a0, .inr (1, [.ref a2, .ref a3, .int (-1)])), (a1, .inr (6, [.ref a4, .ref a5, .ref a6, .ref a7, .ref a8, .ref a9, .ref a10, .ref a11, .int 0, .int 0, .int 0, .int 32, .int 0]))] := hD
  refine W.widen (k := 0) (n := 0) (Nat.le_of_ble_eq_true rfl) (Nat.le_of_ble_eq_true rfl) ?_
  exact yy_vret () hx hb hr hlk hsz hAe hK hP hD hS [0, 1] rfl rfl (by decide) (trivial) dX1_countUp_60
set_option maxHeartbeats 4000000 in
set_option maxRecDepth 100000 in
theorem b0_X9_remember_14 (l : Launch) (dC : Nat → ClassId) (dI : Nat → Nat → Nat) (cyI cyZ cyO : ClassId) (sz : Nat) (a0 : Nat) (a1 : Nat) (a2 : Nat) (a3 : Nat) (a4 : Nat) (a5 : Nat) (a6 : Nat)  : Met l yX9_remember wsX9_remember ({ frames := 1, cells := 0, slots := 0, locals := 18 }) (yPre [.ref a0] (dC, dI) [(a0, .inr (9, [.ref a1, .ref a2, .ref a3, .ref a4, .ref a5, .ref a6])), (a2, .inl (cyI, 15, .inl yR)), (a3, .inl (cyI, 15, .inl (fun _ => 0)))] (yT cyI cyZ cyO) sz) (yQv (fun (u : Unit) => True) (dC, dI) [(a0, .inr (9, [.ref a1, .ref a2, .ref a3, .ref a4, .ref a5, .ref a6])), (a2, .inl (cyI, 15, .inl yR)), (a3, .inl (cyI, 15, .inl (fun _ => 0)))] (yT cyI cyZ cyO) sz (fun _ => [(a0, .inr (9, [.ref a1, .ref a2, .ref a3, .ref a4, .ref a5, .ref a6])), (a2, .inl (cyI, 15, .inl yR)), (a3, .inl (cyI, 15, .inl yR))])) 0 0 (va_A [(a0, .inr (9, [.ref a1, .ref a2, .ref a3, .ref a4, .ref a5, .ref a6])), (a2, .inl (cyI, 15, .inl yR)), (a3, .inl (cyI, 15, .inl (fun _ => 0)))] sz) := by
  refine yMet (cc := cX9_remember) (maxL := 1) (ret := none) (by decide) rfl (Nat.le_of_ble_eq_true rfl) ?_
  intro p e s m below meth c A hx hb hr hlk hml hts hown hnm hsz hAe hP hK hD hA hS ls hl
  have hl : lv_has ls 1 [(0, .ref a0)] := hl
  have hm34 := hts (.methodLink RX9 34 arraycopyName) (by decide +kernel)
  have hcn := hts (.native arraycopyName) (by decide +kernel)
  have hcs := hts (.static arraycopyName) (by decide +kernel)
  have hci := hts (.initialized "java/lang/System") (by decide +kernel)
  have hf13 := hts (.fieldLink RX9 13 "BusBridge$Wires" "seen" "[I") (by decide +kernel)
  have hf16 := hts (.fieldLink RX9 16 "BusBridge$Wires" "before" "[I") (by decide +kernel)
  have hnX9 : ∀ w ∈ wsX90, w ∈ wsX9_remember := by decide +kernel
  refine lv_aload_n hx hb dX9_remember_0 rfl (lv_at hl 0 rfl) ?_
  refine va_get (D := (dC, dI)) (ci := 9) (v := .ref a2) (C := RX9) (T := TX9) (N := 6) hx hb hts hnX9 hown hK hP 0 rfl rfl 1 (by decide) hf13 (fun _ h9 => h9) rfl dX9_remember_1 ?_
  refine lv_iconst (v := 0) hx hb dX9_remember_4 (by decide) ?_
  refine lv_aload_n hx hb dX9_remember_5 rfl (lv_at hl 0 rfl) ?_
  refine va_get (D := (dC, dI)) (ci := 9) (v := .ref a3) (C := RX9) (T := TX9) (N := 6) hx hb hts hnX9 hown hK hP 0 rfl rfl 2 (by decide) hf16 (fun _ h9 => h9) rfl dX9_remember_6 ?_
  refine lv_iconst (v := 0) hx hb dX9_remember_9 (by decide) ?_
  refine lv_bipush (v := 15) hx hb dX9_remember_10 (by decide) ?_
  refine yy_copy (f' := yR) hx hb (by rw [hml]; exact hl.1.symm) hown hm34 hcn hcs hci hK hP hD hS 1 2 0 rfl rfl rfl (by decide) (by decide) (by decide) (Nat.le_of_ble_eq_true rfl) (Nat.le_of_ble_eq_true rfl) dX9_remember_12 (ycpy_R (by first | exact fun _ _ => rfl | exact yR0)) (fun H locs hP hD hS => ?_)
  have hP : va_P (dC, dI) vwCl [(a0, .inr (9, [.ref a1, .ref a2, .ref a3, .ref a4, .ref a5, .ref a6])), (a2, .inl (cyI, 15, .inl yR)), (a3, .inl (cyI, 15, .inl yR))] H := hP
  have hD : va_D A [(a0, .inr (9, [.ref a1, .ref a2, .ref a3, .ref a4, .ref a5, .ref a6])), (a2, .inl (cyI, 15, .inl yR)), (a3, .inl (cyI, 15, .inl yR))] := hD
  refine W.widen (k := 0) (n := 0) (Nat.le_of_ble_eq_true rfl) (Nat.le_of_ble_eq_true rfl) ?_
  exact yy_vret () hx hb hr hlk hsz hAe hK hP hD hS [0, 1, 2] rfl rfl (by decide) (trivial) dX9_remember_15
set_option maxHeartbeats 4000000 in
set_option maxRecDepth 100000 in
theorem k_tick_0 (l : Launch) (dC : Nat → ClassId) (dI : Nat → Nat → Nat) (cyI cyZ cyO : ClassId) (sz : Nat) (h0 : Nat) (mW : Nat) (mWd : Nat) (mWs : Nat) (mWb : Nat) (mWm : Nat) (mWf : Nat) (mWu : Nat) (mC : Nat) (mCh : Nat) (mCs : Nat) (mT : Nat) (mTt : Nat) (mTr : Nat) (mB : Nat) (mBa : Nat) (mBd : Nat) (mL : Nat) (mLt : Nat) (mS : Nat) (mSc : Nat) (mO : Nat) (mOc : Nat) (mOt : Nat) (hp : Nat) (hp_first : Nat) (hp_last : Nat) (hp_wait : Nat) (hp_broken : Nat) (hp_words : Nat) (hp_kinds : Nat) (hp_values : Nat) (hp_owners : Nat)  : Met l yX3_tick wsX3_tick ({ frames := 4, cells := 0, slots := 0, locals := 88 }) (yPre [.ref h0, .ref hp] (dC, dI) [(h0, .inr (3, [.ref mW, .ref mC, .ref mT, .ref mB, .ref mS, .ref mO, .int 0])), (mW, .inr (9, [.ref mWd, .ref mWs, .ref mWb, .ref mWm, .ref mWf, .ref mWu])), (mWd, .inl (cyI, 15, .inl yR)), (mWs, .inl (cyI, 15, .inl (fun _ => 0))), (mWb, .inl (cyI, 15, .inl (fun _ => 0))), (mWm, .inl (cyI, 15, .inl (fun _ => 0))), (mWf, .inl (cyI, 15, .inl (fun _ => 0))), (mWu, .inl (cyI, 15, .inl (fun _ => 0))), (mC, .inr (1, [.ref mCh, .ref mCs, .int (-1)])), (mT, .inr (4, [.ref mTt, .int (-1), .int (-1), .int 0, .int 0, .int 0, .int 0])), (mTt, .inr (8, [.ref mTr, .int 60, .int 9, .int 0])), (mB, .inr (0, [.ref mL, .ref mBa, .ref mBd, .int 0, .int 0, .int 0, .int 0, .int 0, .int 0])), (mL, .inr (2, [.ref mLt, .int 0, .int 0, .int 0, .int 0, .int 0, .int 0, .int 0, .int 0, .int 0, .int 0, .int 0, .int (-1), .int 0])), (mS, .inr (7, [.ref mSc, .int 0, .int 0, .int 0])), (mO, .inr (5, [.ref mOc, .ref mOt, .int 0, .int 0, .int 0])), (hp, .inr (6, [.ref hp_first, .ref hp_last, .ref hp_wait, .ref hp_broken, .ref hp_words, .ref hp_kinds, .ref hp_values, .ref hp_owners, .int 0, .int 0, .int 0, .int 32, .int 0]))] (yT cyI cyZ cyO) sz) (yQv (fun (u : Unit) => True) (dC, dI) [(h0, .inr (3, [.ref mW, .ref mC, .ref mT, .ref mB, .ref mS, .ref mO, .int 0])), (mW, .inr (9, [.ref mWd, .ref mWs, .ref mWb, .ref mWm, .ref mWf, .ref mWu])), (mWd, .inl (cyI, 15, .inl yR)), (mWs, .inl (cyI, 15, .inl (fun _ => 0))), (mWb, .inl (cyI, 15, .inl (fun _ => 0))), (mWm, .inl (cyI, 15, .inl (fun _ => 0))), (mWf, .inl (cyI, 15, .inl (fun _ => 0))), (mWu, .inl (cyI, 15, .inl (fun _ => 0))), (mC, .inr (1, [.ref mCh, .ref mCs, .int (-1)])), (mT, .inr (4, [.ref mTt, .int (-1), .int (-1), .int 0, .int 0, .int 0, .int 0])), (mTt, .inr (8, [.ref mTr, .int 60, .int 9, .int 0])), (mB, .inr (0, [.ref mL, .ref mBa, .ref mBd, .int 0, .int 0, .int 0, .int 0, .int 0, .int 0])), (mL, .inr (2, [.ref mLt, .int 0, .int 0, .int 0, .int 0, .int 0, .int 0, .int 0, .int 0, .int 0, .int 0, .int 0, .int (-1), .int 0])), (mS, .inr (7, [.ref mSc, .int 0, .int 0, .int 0])), (mO, .inr (5, [.ref mOc, .ref mOt, .int 0, .int 0, .int 0])), (hp, .inr (6, [.ref hp_first, .ref hp_last, .ref hp_wait, .ref hp_broken, .ref hp_words, .ref hp_kinds, .ref hp_values, .ref hp_owners, .int 0, .int 0, .int 0, .int 32, .int 0]))] (yT cyI cyZ cyO) sz (fun _ => [(h0, .inr (3, [.ref mW, .ref mC, .ref mT, .ref mB, .ref mS, .ref mO, .int 1])), (mW, .inr (9, [.ref mWd, .ref mWs, .ref mWb, .ref mWm, .ref mWf, .ref mWu])), (mWd, .inl (cyI, 15, .inl yR)), (mWs, .inl (cyI, 15, .inl yR)), (mWb, .inl (cyI, 15, .inl yR)), (mWm, .inl (cyI, 15, .inl (fun _ => 0))), (mWf, .inl (cyI, 15, .inl (fun _ => 0))), (mWu, .inl (cyI, 15, .inl (fun _ => 0))), (mC, .inr (1, [.ref mCh, .ref mCs, .int (-1)])), (mT, .inr (4, [.ref mTt, .int (-1), .int (-1), .int 0, .int 0, .int 0, .int 0])), (mTt, .inr (8, [.ref mTr, .int 60, .int 9, .int 0])), (mB, .inr (0, [.ref mL, .ref mBa, .ref mBd, .int 0, .int 0, .int 0, .int 0, .int 0, .int 0])), (mL, .inr (2, [.ref mLt, .int 0, .int 0, .int 0, .int 0, .int 0, .int 0, .int 0, .int 0, .int 0, .int 0, .int 0, .int (-1), .int 0])), (mS, .inr (7, [.ref mSc, .int 0, .int 0, .int 0])), (mO, .inr (5, [.ref mOc, .ref mOt, .int 0, .int 0, .int 0])), (hp, .inr (6, [.ref hp_first, .ref hp_last, .ref hp_wait, .ref hp_broken, .ref hp_words, .ref hp_kinds, .ref hp_values, .ref hp_owners, .int 0, .int 0, .int 0, .int 32, .int 0]))])) 0 0 (va_A [(h0, .inr (3, [.ref mW, .ref mC, .ref mT, .ref mB, .ref mS, .ref mO, .int 0])), (mW, .inr (9, [.ref mWd, .ref mWs, .ref mWb, .ref mWm, .ref mWf, .ref mWu])), (mWd, .inl (cyI, 15, .inl yR)), (mWs, .inl (cyI, 15, .inl (fun _ => 0))), (mWb, .inl (cyI, 15, .inl (fun _ => 0))), (mWm, .inl (cyI, 15, .inl (fun _ => 0))), (mWf, .inl (cyI, 15, .inl (fun _ => 0))), (mWu, .inl (cyI, 15, .inl (fun _ => 0))), (mC, .inr (1, [.ref mCh, .ref mCs, .int (-1)])), (mT, .inr (4, [.ref mTt, .int (-1), .int (-1), .int 0, .int 0, .int 0, .int 0])), (mTt, .inr (8, [.ref mTr, .int 60, .int 9, .int 0])), (mB, .inr (0, [.ref mL, .ref mBa, .ref mBd, .int 0, .int 0, .int 0, .int 0, .int 0, .int 0])), (mL, .inr (2, [.ref mLt, .int 0, .int 0, .int 0, .int 0, .int 0, .int 0, .int 0, .int 0, .int 0, .int 0, .int 0, .int (-1), .int 0])), (mS, .inr (7, [.ref mSc, .int 0, .int 0, .int 0])), (mO, .inr (5, [.ref mOc, .ref mOt, .int 0, .int 0, .int 0])), (hp, .inr (6, [.ref hp_first, .ref hp_last, .ref hp_wait, .ref hp_broken, .ref hp_words, .ref hp_kinds, .ref hp_values, .ref hp_owners, .int 0, .int 0, .int 0, .int 32, .int 0]))] sz) := by
  refine yMet (cc := cX3_tick) (maxL := 2) (ret := none) (by decide) rfl (Nat.le_of_ble_eq_true rfl) ?_
  intro p e s m below meth c A hx hb hr hlk hml hts hown hnm hsz hAe hP hK hD hA hS ls hl
  have hl : lv_has ls 2 [(0, .ref h0), (1, .ref hp)] := hl
  have hf12 := hts (.fieldLink RX3 12 "BusBridge$Machine" "wires" "LBusBridge$Wires;") (by decide +kernel)
  have hf21 := hts (.fieldLink RX3 21 "BusBridge$Machine" "cells" "LBusBridge$Cells;") (by decide +kernel)
  have hf28 := hts (.fieldLink RX3 28 "BusBridge$Machine" "master" "LBusBridge$Master;") (by decide +kernel)
  have hf35 := hts (.fieldLink RX3 35 "BusBridge$Machine" "bridge" "LBusBridge$Bridge;") (by decide +kernel)
  have hf42 := hts (.fieldLink RX3 42 "BusBridge$Machine" "slaves" "LBusBridge$Slaves;") (by decide +kernel)
  have hf49 := hts (.fieldLink RX3 49 "BusBridge$Machine" "monitor" "LBusBridge$Monitor;") (by decide +kernel)
  have hf63 := hts (.fieldLink RX3 63 "BusBridge$Machine" "time" "I") (by decide +kernel)
  have hnX3 : ∀ w ∈ wsX30, w ∈ wsX3_tick := by decide +kernel
  refine lv_aload_n hx hb dX3_tick_0 rfl (lv_at hl 0 rfl) ?_
  refine va_get (D := (dC, dI)) (ci := 3) (v := .ref mW) (C := RX3) (T := TX3) (N := 7) hx hb hts hnX3 hown hK hP 0 rfl rfl 0 (by decide) hf12 (fun _ h9 => h9) rfl dX3_tick_1 ?_
  refine lv_aload_n hx hb dX3_tick_4 rfl (lv_at hl 0 rfl) ?_
  refine va_get (D := (dC, dI)) (ci := 3) (v := .int 0) (C := RX3) (T := TX3) (N := 7) hx hb hts hnX3 hown hK hP 0 rfl rfl 6 (by decide) hf63 (fun _ h9 => h9) rfl dX3_tick_5 ?_
  have hPc := hP.sub (ws' := [(mW, .inr (9, [.ref mWd, .ref mWs, .ref mWb, .ref mWm, .ref mWf, .ref mWu])), (mWd, .inl (cyI, 15, .inl yR)), (mWs, .inl (cyI, 15, .inl (fun _ => 0))), (mWm, .inl (cyI, 15, .inl (fun _ => 0))), (mWf, .inl (cyI, 15, .inl (fun _ => 0))), (mWu, .inl (cyI, 15, .inl (fun _ => 0)))]) [1, 2, 3, 5, 6, 7] rfl
  have hDc := hD.sub (ws' := [(mW, .inr (9, [.ref mWd, .ref mWs, .ref mWb, .ref mWm, .ref mWf, .ref mWu])), (mWd, .inl (cyI, 15, .inl yR)), (mWs, .inl (cyI, 15, .inl (fun _ => 0))), (mWm, .inl (cyI, 15, .inl (fun _ => 0))), (mWf, .inl (cyI, 15, .inl (fun _ => 0))), (mWu, .inl (cyI, 15, .inl (fun _ => 0)))]) [1, 2, 3, 5, 6, 7] (by decide) rfl
  refine yy_callv [1, 2, 3, 5, 6, 7] [0, 4, 8, 9, 10, 11, 12, 13, 14, 15] (wr := [(h0, .inr (3, [.ref mW, .ref mC, .ref mT, .ref mB, .ref mS, .ref mO, .int 0])), (mWb, .inl (cyI, 15, .inl (fun _ => 0))), (mC, .inr (1, [.ref mCh, .ref mCs, .int (-1)])), (mT, .inr (4, [.ref mTt, .int (-1), .int (-1), .int 0, .int 0, .int 0, .int 0])), (mTt, .inr (8, [.ref mTr, .int 60, .int 9, .int 0])), (mB, .inr (0, [.ref mL, .ref mBa, .ref mBd, .int 0, .int 0, .int 0, .int 0, .int 0, .int 0])), (mL, .inr (2, [.ref mLt, .int 0, .int 0, .int 0, .int 0, .int 0, .int 0, .int 0, .int 0, .int 0, .int 0, .int 0, .int (-1), .int 0])), (mS, .inr (7, [.ref mSc, .int 0, .int 0, .int 0])), (mO, .inr (5, [.ref mOc, .ref mOt, .int 0, .int 0, .int 0])), (hp, .inr (6, [.ref hp_first, .ref hp_last, .ref hp_wait, .ref hp_broken, .ref hp_words, .ref hp_kinds, .ref hp_values, .ref hp_owners, .int 0, .int 0, .int 0, .int 32, .int 0]))]) (va_runV (As := [.int 0]) (rest := []) ⟨hx, hb, hml, hown, hts⟩ (b0_X9_look_1 l dC dI cyI cyZ cyO s.heap.size mW mWd mWs mWb mWm mWf mWu ) (cwV 1 hts gX3_tick_X9_look rfl rfl rfl (by decide +kernel) ⟨Nat.le_of_ble_eq_true rfl, Nat.le_of_ble_eq_true rfl⟩) (yPreV hK hPc hDc (ci := 9) (q0 := 0) rfl rfl) rfl rfl hl.1 rfl (lv_room (Nat.le_of_ble_eq_true rfl)) dX3_tick_8 ⟨Nat.le_of_ble_eq_true rfl, Nat.le_of_ble_eq_true rfl⟩) hP hD hS hA rfl rfl (by decide) (by decide) (fun u_1 H locs hw hP hD hS => ?_)
  have hP : va_P (dC, dI) vwCl [(h0, .inr (3, [.ref mW, .ref mC, .ref mT, .ref mB, .ref mS, .ref mO, .int 0])), (mWb, .inl (cyI, 15, .inl (fun _ => 0))), (mC, .inr (1, [.ref mCh, .ref mCs, .int (-1)])), (mT, .inr (4, [.ref mTt, .int (-1), .int (-1), .int 0, .int 0, .int 0, .int 0])), (mTt, .inr (8, [.ref mTr, .int 60, .int 9, .int 0])), (mB, .inr (0, [.ref mL, .ref mBa, .ref mBd, .int 0, .int 0, .int 0, .int 0, .int 0, .int 0])), (mL, .inr (2, [.ref mLt, .int 0, .int 0, .int 0, .int 0, .int 0, .int 0, .int 0, .int 0, .int 0, .int 0, .int 0, .int (-1), .int 0])), (mS, .inr (7, [.ref mSc, .int 0, .int 0, .int 0])), (mO, .inr (5, [.ref mOc, .ref mOt, .int 0, .int 0, .int 0])), (hp, .inr (6, [.ref hp_first, .ref hp_last, .ref hp_wait, .ref hp_broken, .ref hp_words, .ref hp_kinds, .ref hp_values, .ref hp_owners, .int 0, .int 0, .int 0, .int 32, .int 0])), (mW, .inr (9, [.ref mWd, .ref mWs, .ref mWb, .ref mWm, .ref mWf, .ref mWu])), (mWd, .inl (cyI, 15, .inl yR)), (mWs, .inl (cyI, 15, .inl yR)), (mWm, .inl (cyI, 15, .inl (fun _ => 0))), (mWf, .inl (cyI, 15, .inl (fun _ => 0))), (mWu, .inl (cyI, 15, .inl (fun _ => 0)))] H := hP
  have hD : va_D A [(h0, .inr (3, [.ref mW, .ref mC, .ref mT, .ref mB, .ref mS, .ref mO, .int 0])), (mWb, .inl (cyI, 15, .inl (fun _ => 0))), (mC, .inr (1, [.ref mCh, .ref mCs, .int (-1)])), (mT, .inr (4, [.ref mTt, .int (-1), .int (-1), .int 0, .int 0, .int 0, .int 0])), (mTt, .inr (8, [.ref mTr, .int 60, .int 9, .int 0])), (mB, .inr (0, [.ref mL, .ref mBa, .ref mBd, .int 0, .int 0, .int 0, .int 0, .int 0, .int 0])), (mL, .inr (2, [.ref mLt, .int 0, .int 0, .int 0, .int 0, .int 0, .int 0, .int 0, .int 0, .int 0, .int 0, .int 0, .int (-1), .int 0])), (mS, .inr (7, [.ref mSc, .int 0, .int 0, .int 0])), (mO, .inr (5, [.ref mOc, .ref mOt, .int 0, .int 0, .int 0])), (hp, .inr (6, [.ref hp_first, .ref hp_last, .ref hp_wait, .ref hp_broken, .ref hp_words, .ref hp_kinds, .ref hp_values, .ref hp_owners, .int 0, .int 0, .int 0, .int 32, .int 0])), (mW, .inr (9, [.ref mWd, .ref mWs, .ref mWb, .ref mWm, .ref mWf, .ref mWu])), (mWd, .inl (cyI, 15, .inl yR)), (mWs, .inl (cyI, 15, .inl yR)), (mWm, .inl (cyI, 15, .inl (fun _ => 0))), (mWf, .inl (cyI, 15, .inl (fun _ => 0))), (mWu, .inl (cyI, 15, .inl (fun _ => 0)))] := hD
  refine W.widen (k := 0) (n := 0) (Nat.le_of_ble_eq_true rfl) (Nat.le_of_ble_eq_true rfl) ?_
  refine lv_aload_n hx hb dX3_tick_11 rfl (lv_at hl 0 rfl) ?_
  refine va_get (D := (dC, dI)) (ci := 3) (v := .ref mO) (C := RX3) (T := TX3) (N := 7) hx hb hts hnX3 hown hK hP 0 rfl rfl 5 (by decide) hf49 (fun _ h9 => h9) rfl dX3_tick_12 ?_
  refine lv_aload_n hx hb dX3_tick_15 rfl (lv_at hl 1 rfl) ?_
  refine lv_aload_n hx hb dX3_tick_16 rfl (lv_at hl 0 rfl) ?_
  refine va_get (D := (dC, dI)) (ci := 3) (v := .ref mW) (C := RX3) (T := TX3) (N := 7) hx hb hts hnX3 hown hK hP 0 rfl rfl 0 (by decide) hf12 (fun _ h9 => h9) rfl dX3_tick_17 ?_
  refine lv_aload_n hx hb dX3_tick_20 rfl (lv_at hl 0 rfl) ?_
  refine va_get (D := (dC, dI)) (ci := 3) (v := .int 0) (C := RX3) (T := TX3) (N := 7) hx hb hts hnX3 hown hK hP 0 rfl rfl 6 (by decide) hf63 (fun _ h9 => h9) rfl dX3_tick_21 ?_
  have hPc := hP.sub (ws' := [(mO, .inr (5, [.ref mOc, .ref mOt, .int 0, .int 0, .int 0]))]) [8] rfl
  have hDc := hD.sub (ws' := [(mO, .inr (5, [.ref mOc, .ref mOt, .int 0, .int 0, .int 0]))]) [8] (by decide) rfl
  refine yy_callv [8] [0, 1, 2, 3, 4, 5, 6, 7, 9, 10, 11, 12, 13, 14, 15] (wr := [(h0, .inr (3, [.ref mW, .ref mC, .ref mT, .ref mB, .ref mS, .ref mO, .int 0])), (mWb, .inl (cyI, 15, .inl (fun _ => 0))), (mC, .inr (1, [.ref mCh, .ref mCs, .int (-1)])), (mT, .inr (4, [.ref mTt, .int (-1), .int (-1), .int 0, .int 0, .int 0, .int 0])), (mTt, .inr (8, [.ref mTr, .int 60, .int 9, .int 0])), (mB, .inr (0, [.ref mL, .ref mBa, .ref mBd, .int 0, .int 0, .int 0, .int 0, .int 0, .int 0])), (mL, .inr (2, [.ref mLt, .int 0, .int 0, .int 0, .int 0, .int 0, .int 0, .int 0, .int 0, .int 0, .int 0, .int 0, .int (-1), .int 0])), (mS, .inr (7, [.ref mSc, .int 0, .int 0, .int 0])), (hp, .inr (6, [.ref hp_first, .ref hp_last, .ref hp_wait, .ref hp_broken, .ref hp_words, .ref hp_kinds, .ref hp_values, .ref hp_owners, .int 0, .int 0, .int 0, .int 32, .int 0])), (mW, .inr (9, [.ref mWd, .ref mWs, .ref mWb, .ref mWm, .ref mWf, .ref mWu])), (mWd, .inl (cyI, 15, .inl yR)), (mWs, .inl (cyI, 15, .inl yR)), (mWm, .inl (cyI, 15, .inl (fun _ => 0))), (mWf, .inl (cyI, 15, .inl (fun _ => 0))), (mWu, .inl (cyI, 15, .inl (fun _ => 0)))]) (va_runV (As := [.ref hp, .ref mW, .int 0]) (rest := []) ⟨hx, hb, hml, hown, hts⟩ (b0_X5_judge_2 l dC dI cyI cyZ cyO H.size mO hp mW mOc mOt ) (cwV 3 hts gX3_tick_X5_judge rfl rfl rfl (by decide +kernel) ⟨Nat.le_of_ble_eq_true rfl, Nat.le_of_ble_eq_true rfl⟩) (yPreV hK hPc hDc (ci := 5) (q0 := 0) rfl rfl) rfl rfl hl.1 rfl (lv_room (Nat.le_of_ble_eq_true rfl)) dX3_tick_24 ⟨Nat.le_of_ble_eq_true rfl, Nat.le_of_ble_eq_true rfl⟩) hP hD hS hA rfl rfl (by decide) (by decide) (fun u_2 H locs hw hP hD hS => ?_)
  have hP : va_P (dC, dI) vwCl [(h0, .inr (3, [.ref mW, .ref mC, .ref mT, .ref mB, .ref mS, .ref mO, .int 0])), (mWb, .inl (cyI, 15, .inl (fun _ => 0))), (mC, .inr (1, [.ref mCh, .ref mCs, .int (-1)])), (mT, .inr (4, [.ref mTt, .int (-1), .int (-1), .int 0, .int 0, .int 0, .int 0])), (mTt, .inr (8, [.ref mTr, .int 60, .int 9, .int 0])), (mB, .inr (0, [.ref mL, .ref mBa, .ref mBd, .int 0, .int 0, .int 0, .int 0, .int 0, .int 0])), (mL, .inr (2, [.ref mLt, .int 0, .int 0, .int 0, .int 0, .int 0, .int 0, .int 0, .int 0, .int 0, .int 0, .int 0, .int (-1), .int 0])), (mS, .inr (7, [.ref mSc, .int 0, .int 0, .int 0])), (hp, .inr (6, [.ref hp_first, .ref hp_last, .ref hp_wait, .ref hp_broken, .ref hp_words, .ref hp_kinds, .ref hp_values, .ref hp_owners, .int 0, .int 0, .int 0, .int 32, .int 0])), (mW, .inr (9, [.ref mWd, .ref mWs, .ref mWb, .ref mWm, .ref mWf, .ref mWu])), (mWd, .inl (cyI, 15, .inl yR)), (mWs, .inl (cyI, 15, .inl yR)), (mWm, .inl (cyI, 15, .inl (fun _ => 0))), (mWf, .inl (cyI, 15, .inl (fun _ => 0))), (mWu, .inl (cyI, 15, .inl (fun _ => 0))), (mO, .inr (5, [.ref mOc, .ref mOt, .int 0, .int 0, .int 0]))] H := hP
  have hD : va_D A [(h0, .inr (3, [.ref mW, .ref mC, .ref mT, .ref mB, .ref mS, .ref mO, .int 0])), (mWb, .inl (cyI, 15, .inl (fun _ => 0))), (mC, .inr (1, [.ref mCh, .ref mCs, .int (-1)])), (mT, .inr (4, [.ref mTt, .int (-1), .int (-1), .int 0, .int 0, .int 0, .int 0])), (mTt, .inr (8, [.ref mTr, .int 60, .int 9, .int 0])), (mB, .inr (0, [.ref mL, .ref mBa, .ref mBd, .int 0, .int 0, .int 0, .int 0, .int 0, .int 0])), (mL, .inr (2, [.ref mLt, .int 0, .int 0, .int 0, .int 0, .int 0, .int 0, .int 0, .int 0, .int 0, .int 0, .int 0, .int (-1), .int 0])), (mS, .inr (7, [.ref mSc, .int 0, .int 0, .int 0])), (hp, .inr (6, [.ref hp_first, .ref hp_last, .ref hp_wait, .ref hp_broken, .ref hp_words, .ref hp_kinds, .ref hp_values, .ref hp_owners, .int 0, .int 0, .int 0, .int 32, .int 0])), (mW, .inr (9, [.ref mWd, .ref mWs, .ref mWb, .ref mWm, .ref mWf, .ref mWu])), (mWd, .inl (cyI, 15, .inl yR)), (mWs, .inl (cyI, 15, .inl yR)), (mWm, .inl (cyI, 15, .inl (fun _ => 0))), (mWf, .inl (cyI, 15, .inl (fun _ => 0))), (mWu, .inl (cyI, 15, .inl (fun _ => 0))), (mO, .inr (5, [.ref mOc, .ref mOt, .int 0, .int 0, .int 0]))] := hD
  refine W.widen (k := 0) (n := 0) (Nat.le_of_ble_eq_true rfl) (Nat.le_of_ble_eq_true rfl) ?_
  refine lv_aload_n hx hb dX3_tick_27 rfl (lv_at hl 0 rfl) ?_
  refine va_get (D := (dC, dI)) (ci := 3) (v := .ref mT) (C := RX3) (T := TX3) (N := 7) hx hb hts hnX3 hown hK hP 0 rfl rfl 2 (by decide) hf28 (fun _ h9 => h9) rfl dX3_tick_28 ?_
  refine lv_aload_n hx hb dX3_tick_31 rfl (lv_at hl 0 rfl) ?_
  refine va_get (D := (dC, dI)) (ci := 3) (v := .ref mW) (C := RX3) (T := TX3) (N := 7) hx hb hts hnX3 hown hK hP 0 rfl rfl 0 (by decide) hf12 (fun _ h9 => h9) rfl dX3_tick_32 ?_
  refine lv_aload_n hx hb dX3_tick_35 rfl (lv_at hl 0 rfl) ?_
  refine va_get (D := (dC, dI)) (ci := 3) (v := .int 0) (C := RX3) (T := TX3) (N := 7) hx hb hts hnX3 hown hK hP 0 rfl rfl 6 (by decide) hf63 (fun _ h9 => h9) rfl dX3_tick_36 ?_
  have hPc := hP.sub (ws' := [(mT, .inr (4, [.ref mTt, .int (-1), .int (-1), .int 0, .int 0, .int 0, .int 0])), (mW, .inr (9, [.ref mWd, .ref mWs, .ref mWb, .ref mWm, .ref mWf, .ref mWu])), (mTt, .inr (8, [.ref mTr, .int 60, .int 9, .int 0])), (mWd, .inl (cyI, 15, .inl yR)), (mWs, .inl (cyI, 15, .inl yR))]) [3, 9, 4, 10, 11] rfl
  have hDc := hD.sub (ws' := [(mT, .inr (4, [.ref mTt, .int (-1), .int (-1), .int 0, .int 0, .int 0, .int 0])), (mW, .inr (9, [.ref mWd, .ref mWs, .ref mWb, .ref mWm, .ref mWf, .ref mWu])), (mTt, .inr (8, [.ref mTr, .int 60, .int 9, .int 0])), (mWd, .inl (cyI, 15, .inl yR)), (mWs, .inl (cyI, 15, .inl yR))]) [3, 9, 4, 10, 11] (by decide) rfl
  refine yy_callv [3, 9, 4, 10, 11] [0, 1, 2, 5, 6, 7, 8, 12, 13, 14, 15] (wr := [(h0, .inr (3, [.ref mW, .ref mC, .ref mT, .ref mB, .ref mS, .ref mO, .int 0])), (mWb, .inl (cyI, 15, .inl (fun _ => 0))), (mC, .inr (1, [.ref mCh, .ref mCs, .int (-1)])), (mB, .inr (0, [.ref mL, .ref mBa, .ref mBd, .int 0, .int 0, .int 0, .int 0, .int 0, .int 0])), (mL, .inr (2, [.ref mLt, .int 0, .int 0, .int 0, .int 0, .int 0, .int 0, .int 0, .int 0, .int 0, .int 0, .int 0, .int (-1), .int 0])), (mS, .inr (7, [.ref mSc, .int 0, .int 0, .int 0])), (hp, .inr (6, [.ref hp_first, .ref hp_last, .ref hp_wait, .ref hp_broken, .ref hp_words, .ref hp_kinds, .ref hp_values, .ref hp_owners, .int 0, .int 0, .int 0, .int 32, .int 0])), (mWm, .inl (cyI, 15, .inl (fun _ => 0))), (mWf, .inl (cyI, 15, .inl (fun _ => 0))), (mWu, .inl (cyI, 15, .inl (fun _ => 0))), (mO, .inr (5, [.ref mOc, .ref mOt, .int 0, .int 0, .int 0]))]) (va_runV (As := [.ref mW, .int 0]) (rest := []) ⟨hx, hb, hml, hown, hts⟩ (b0_X4_pass_6 l dC dI cyI cyZ cyO H.size mT mW mTt mWd mWs mWb mWm mWf mWu mTr ) (cwV 2 hts gX3_tick_X4_pass rfl rfl rfl (by decide +kernel) ⟨Nat.le_of_ble_eq_true rfl, Nat.le_of_ble_eq_true rfl⟩) (yPreV hK hPc hDc (ci := 4) (q0 := 0) rfl rfl) rfl rfl hl.1 rfl (lv_room (Nat.le_of_ble_eq_true rfl)) dX3_tick_39 ⟨Nat.le_of_ble_eq_true rfl, Nat.le_of_ble_eq_true rfl⟩) hP hD hS hA rfl rfl (by decide) (by decide) (fun u_3 H locs hw hP hD hS => ?_)
  have hP : va_P (dC, dI) vwCl [(h0, .inr (3, [.ref mW, .ref mC, .ref mT, .ref mB, .ref mS, .ref mO, .int 0])), (mWb, .inl (cyI, 15, .inl (fun _ => 0))), (mC, .inr (1, [.ref mCh, .ref mCs, .int (-1)])), (mB, .inr (0, [.ref mL, .ref mBa, .ref mBd, .int 0, .int 0, .int 0, .int 0, .int 0, .int 0])), (mL, .inr (2, [.ref mLt, .int 0, .int 0, .int 0, .int 0, .int 0, .int 0, .int 0, .int 0, .int 0, .int 0, .int 0, .int (-1), .int 0])), (mS, .inr (7, [.ref mSc, .int 0, .int 0, .int 0])), (hp, .inr (6, [.ref hp_first, .ref hp_last, .ref hp_wait, .ref hp_broken, .ref hp_words, .ref hp_kinds, .ref hp_values, .ref hp_owners, .int 0, .int 0, .int 0, .int 32, .int 0])), (mWm, .inl (cyI, 15, .inl (fun _ => 0))), (mWf, .inl (cyI, 15, .inl (fun _ => 0))), (mWu, .inl (cyI, 15, .inl (fun _ => 0))), (mO, .inr (5, [.ref mOc, .ref mOt, .int 0, .int 0, .int 0])), (mT, .inr (4, [.ref mTt, .int (-1), .int (-1), .int 0, .int 0, .int 0, .int 0])), (mW, .inr (9, [.ref mWd, .ref mWs, .ref mWb, .ref mWm, .ref mWf, .ref mWu])), (mTt, .inr (8, [.ref mTr, .int 60, .int 9, .int 0])), (mWd, .inl (cyI, 15, .inl yR)), (mWs, .inl (cyI, 15, .inl yR))] H := hP
  have hD : va_D A [(h0, .inr (3, [.ref mW, .ref mC, .ref mT, .ref mB, .ref mS, .ref mO, .int 0])), (mWb, .inl (cyI, 15, .inl (fun _ => 0))), (mC, .inr (1, [.ref mCh, .ref mCs, .int (-1)])), (mB, .inr (0, [.ref mL, .ref mBa, .ref mBd, .int 0, .int 0, .int 0, .int 0, .int 0, .int 0])), (mL, .inr (2, [.ref mLt, .int 0, .int 0, .int 0, .int 0, .int 0, .int 0, .int 0, .int 0, .int 0, .int 0, .int 0, .int (-1), .int 0])), (mS, .inr (7, [.ref mSc, .int 0, .int 0, .int 0])), (hp, .inr (6, [.ref hp_first, .ref hp_last, .ref hp_wait, .ref hp_broken, .ref hp_words, .ref hp_kinds, .ref hp_values, .ref hp_owners, .int 0, .int 0, .int 0, .int 32, .int 0])), (mWm, .inl (cyI, 15, .inl (fun _ => 0))), (mWf, .inl (cyI, 15, .inl (fun _ => 0))), (mWu, .inl (cyI, 15, .inl (fun _ => 0))), (mO, .inr (5, [.ref mOc, .ref mOt, .int 0, .int 0, .int 0])), (mT, .inr (4, [.ref mTt, .int (-1), .int (-1), .int 0, .int 0, .int 0, .int 0])), (mW, .inr (9, [.ref mWd, .ref mWs, .ref mWb, .ref mWm, .ref mWf, .ref mWu])), (mTt, .inr (8, [.ref mTr, .int 60, .int 9, .int 0])), (mWd, .inl (cyI, 15, .inl yR)), (mWs, .inl (cyI, 15, .inl yR))] := hD
  refine W.widen (k := 0) (n := 0) (Nat.le_of_ble_eq_true rfl) (Nat.le_of_ble_eq_true rfl) ?_
  refine lv_aload_n hx hb dX3_tick_42 rfl (lv_at hl 0 rfl) ?_
  refine va_get (D := (dC, dI)) (ci := 3) (v := .ref mB) (C := RX3) (T := TX3) (N := 7) hx hb hts hnX3 hown hK hP 0 rfl rfl 3 (by decide) hf35 (fun _ h9 => h9) rfl dX3_tick_43 ?_
  refine lv_aload_n hx hb dX3_tick_46 rfl (lv_at hl 1 rfl) ?_
  refine lv_aload_n hx hb dX3_tick_47 rfl (lv_at hl 0 rfl) ?_
  refine va_get (D := (dC, dI)) (ci := 3) (v := .ref mW) (C := RX3) (T := TX3) (N := 7) hx hb hts hnX3 hown hK hP 0 rfl rfl 0 (by decide) hf12 (fun _ h9 => h9) rfl dX3_tick_48 ?_
  refine lv_aload_n hx hb dX3_tick_51 rfl (lv_at hl 0 rfl) ?_
  refine va_get (D := (dC, dI)) (ci := 3) (v := .int 0) (C := RX3) (T := TX3) (N := 7) hx hb hts hnX3 hown hK hP 0 rfl rfl 6 (by decide) hf63 (fun _ h9 => h9) rfl dX3_tick_52 ?_
  have hPc := hP.sub (ws' := [(mB, .inr (0, [.ref mL, .ref mBa, .ref mBd, .int 0, .int 0, .int 0, .int 0, .int 0, .int 0])), (mW, .inr (9, [.ref mWd, .ref mWs, .ref mWb, .ref mWm, .ref mWf, .ref mWu])), (mL, .inr (2, [.ref mLt, .int 0, .int 0, .int 0, .int 0, .int 0, .int 0, .int 0, .int 0, .int 0, .int 0, .int 0, .int (-1), .int 0])), (mWd, .inl (cyI, 15, .inl yR)), (mWs, .inl (cyI, 15, .inl yR))]) [3, 12, 4, 14, 15] rfl
  have hDc := hD.sub (ws' := [(mB, .inr (0, [.ref mL, .ref mBa, .ref mBd, .int 0, .int 0, .int 0, .int 0, .int 0, .int 0])), (mW, .inr (9, [.ref mWd, .ref mWs, .ref mWb, .ref mWm, .ref mWf, .ref mWu])), (mL, .inr (2, [.ref mLt, .int 0, .int 0, .int 0, .int 0, .int 0, .int 0, .int 0, .int 0, .int 0, .int 0, .int 0, .int (-1), .int 0])), (mWd, .inl (cyI, 15, .inl yR)), (mWs, .inl (cyI, 15, .inl yR))]) [3, 12, 4, 14, 15] (by decide) rfl
  refine yy_callv [3, 12, 4, 14, 15] [0, 1, 2, 5, 6, 7, 8, 9, 10, 11, 13] (wr := [(h0, .inr (3, [.ref mW, .ref mC, .ref mT, .ref mB, .ref mS, .ref mO, .int 0])), (mWb, .inl (cyI, 15, .inl (fun _ => 0))), (mC, .inr (1, [.ref mCh, .ref mCs, .int (-1)])), (mS, .inr (7, [.ref mSc, .int 0, .int 0, .int 0])), (hp, .inr (6, [.ref hp_first, .ref hp_last, .ref hp_wait, .ref hp_broken, .ref hp_words, .ref hp_kinds, .ref hp_values, .ref hp_owners, .int 0, .int 0, .int 0, .int 32, .int 0])), (mWm, .inl (cyI, 15, .inl (fun _ => 0))), (mWf, .inl (cyI, 15, .inl (fun _ => 0))), (mWu, .inl (cyI, 15, .inl (fun _ => 0))), (mO, .inr (5, [.ref mOc, .ref mOt, .int 0, .int 0, .int 0])), (mT, .inr (4, [.ref mTt, .int (-1), .int (-1), .int 0, .int 0, .int 0, .int 0])), (mTt, .inr (8, [.ref mTr, .int 60, .int 9, .int 0]))]) (va_runV (As := [.ref hp, .ref mW, .int 0]) (rest := []) ⟨hx, hb, hml, hown, hts⟩ (b0_X0_pass_11 l dC dI cyI cyZ cyO H.size mB hp mW mL mBa mBd mWd mWs mWb mWm mWf mWu mLt ) (cwV 3 hts gX3_tick_X0_pass rfl rfl rfl (by decide +kernel) ⟨Nat.le_of_ble_eq_true rfl, Nat.le_of_ble_eq_true rfl⟩) (yPreV hK hPc hDc (ci := 0) (q0 := 0) rfl rfl) rfl rfl hl.1 rfl (lv_room (Nat.le_of_ble_eq_true rfl)) dX3_tick_55 ⟨Nat.le_of_ble_eq_true rfl, Nat.le_of_ble_eq_true rfl⟩) hP hD hS hA rfl rfl (by decide) (by decide) (fun u_4 H locs hw hP hD hS => ?_)
  have hP : va_P (dC, dI) vwCl [(h0, .inr (3, [.ref mW, .ref mC, .ref mT, .ref mB, .ref mS, .ref mO, .int 0])), (mWb, .inl (cyI, 15, .inl (fun _ => 0))), (mC, .inr (1, [.ref mCh, .ref mCs, .int (-1)])), (mS, .inr (7, [.ref mSc, .int 0, .int 0, .int 0])), (hp, .inr (6, [.ref hp_first, .ref hp_last, .ref hp_wait, .ref hp_broken, .ref hp_words, .ref hp_kinds, .ref hp_values, .ref hp_owners, .int 0, .int 0, .int 0, .int 32, .int 0])), (mWm, .inl (cyI, 15, .inl (fun _ => 0))), (mWf, .inl (cyI, 15, .inl (fun _ => 0))), (mWu, .inl (cyI, 15, .inl (fun _ => 0))), (mO, .inr (5, [.ref mOc, .ref mOt, .int 0, .int 0, .int 0])), (mT, .inr (4, [.ref mTt, .int (-1), .int (-1), .int 0, .int 0, .int 0, .int 0])), (mTt, .inr (8, [.ref mTr, .int 60, .int 9, .int 0])), (mB, .inr (0, [.ref mL, .ref mBa, .ref mBd, .int 0, .int 0, .int 0, .int 0, .int 0, .int 0])), (mW, .inr (9, [.ref mWd, .ref mWs, .ref mWb, .ref mWm, .ref mWf, .ref mWu])), (mL, .inr (2, [.ref mLt, .int 0, .int 0, .int 0, .int 0, .int 0, .int 0, .int 0, .int 0, .int 0, .int 0, .int 0, .int (-1), .int 0])), (mWd, .inl (cyI, 15, .inl yR)), (mWs, .inl (cyI, 15, .inl yR))] H := hP
  have hD : va_D A [(h0, .inr (3, [.ref mW, .ref mC, .ref mT, .ref mB, .ref mS, .ref mO, .int 0])), (mWb, .inl (cyI, 15, .inl (fun _ => 0))), (mC, .inr (1, [.ref mCh, .ref mCs, .int (-1)])), (mS, .inr (7, [.ref mSc, .int 0, .int 0, .int 0])), (hp, .inr (6, [.ref hp_first, .ref hp_last, .ref hp_wait, .ref hp_broken, .ref hp_words, .ref hp_kinds, .ref hp_values, .ref hp_owners, .int 0, .int 0, .int 0, .int 32, .int 0])), (mWm, .inl (cyI, 15, .inl (fun _ => 0))), (mWf, .inl (cyI, 15, .inl (fun _ => 0))), (mWu, .inl (cyI, 15, .inl (fun _ => 0))), (mO, .inr (5, [.ref mOc, .ref mOt, .int 0, .int 0, .int 0])), (mT, .inr (4, [.ref mTt, .int (-1), .int (-1), .int 0, .int 0, .int 0, .int 0])), (mTt, .inr (8, [.ref mTr, .int 60, .int 9, .int 0])), (mB, .inr (0, [.ref mL, .ref mBa, .ref mBd, .int 0, .int 0, .int 0, .int 0, .int 0, .int 0])), (mW, .inr (9, [.ref mWd, .ref mWs, .ref mWb, .ref mWm, .ref mWf, .ref mWu])), (mL, .inr (2, [.ref mLt, .int 0, .int 0, .int 0, .int 0, .int 0, .int 0, .int 0, .int 0, .int 0, .int 0, .int 0, .int (-1), .int 0])), (mWd, .inl (cyI, 15, .inl yR)), (mWs, .inl (cyI, 15, .inl yR))] := hD
  refine W.widen (k := 0) (n := 0) (Nat.le_of_ble_eq_true rfl) (Nat.le_of_ble_eq_true rfl) ?_
  refine lv_aload_n hx hb dX3_tick_58 rfl (lv_at hl 0 rfl) ?_
  refine va_get (D := (dC, dI)) (ci := 3) (v := .ref mS) (C := RX3) (T := TX3) (N := 7) hx hb hts hnX3 hown hK hP 0 rfl rfl 4 (by decide) hf42 (fun _ h9 => h9) rfl dX3_tick_59 ?_
  refine lv_aload_n hx hb dX3_tick_62 rfl (lv_at hl 1 rfl) ?_
  refine lv_aload_n hx hb dX3_tick_63 rfl (lv_at hl 0 rfl) ?_
  refine va_get (D := (dC, dI)) (ci := 3) (v := .ref mC) (C := RX3) (T := TX3) (N := 7) hx hb hts hnX3 hown hK hP 0 rfl rfl 1 (by decide) hf21 (fun _ h9 => h9) rfl dX3_tick_64 ?_
  refine lv_aload_n hx hb dX3_tick_67 rfl (lv_at hl 0 rfl) ?_
  refine va_get (D := (dC, dI)) (ci := 3) (v := .ref mW) (C := RX3) (T := TX3) (N := 7) hx hb hts hnX3 hown hK hP 0 rfl rfl 0 (by decide) hf12 (fun _ h9 => h9) rfl dX3_tick_68 ?_
  have hPc := hP.sub (ws' := [(mS, .inr (7, [.ref mSc, .int 0, .int 0, .int 0])), (hp, .inr (6, [.ref hp_first, .ref hp_last, .ref hp_wait, .ref hp_broken, .ref hp_words, .ref hp_kinds, .ref hp_values, .ref hp_owners, .int 0, .int 0, .int 0, .int 32, .int 0])), (mW, .inr (9, [.ref mWd, .ref mWs, .ref mWb, .ref mWm, .ref mWf, .ref mWu])), (mWd, .inl (cyI, 15, .inl yR)), (mWs, .inl (cyI, 15, .inl yR))]) [3, 4, 12, 14, 15] rfl
  have hDc := hD.sub (ws' := [(mS, .inr (7, [.ref mSc, .int 0, .int 0, .int 0])), (hp, .inr (6, [.ref hp_first, .ref hp_last, .ref hp_wait, .ref hp_broken, .ref hp_words, .ref hp_kinds, .ref hp_values, .ref hp_owners, .int 0, .int 0, .int 0, .int 32, .int 0])), (mW, .inr (9, [.ref mWd, .ref mWs, .ref mWb, .ref mWm, .ref mWf, .ref mWu])), (mWd, .inl (cyI, 15, .inl yR)), (mWs, .inl (cyI, 15, .inl yR))]) [3, 4, 12, 14, 15] (by decide) rfl
  refine yy_callv [3, 4, 12, 14, 15] [0, 1, 2, 5, 6, 7, 8, 9, 10, 11, 13] (wr := [(h0, .inr (3, [.ref mW, .ref mC, .ref mT, .ref mB, .ref mS, .ref mO, .int 0])), (mWb, .inl (cyI, 15, .inl (fun _ => 0))), (mC, .inr (1, [.ref mCh, .ref mCs, .int (-1)])), (mWm, .inl (cyI, 15, .inl (fun _ => 0))), (mWf, .inl (cyI, 15, .inl (fun _ => 0))), (mWu, .inl (cyI, 15, .inl (fun _ => 0))), (mO, .inr (5, [.ref mOc, .ref mOt, .int 0, .int 0, .int 0])), (mT, .inr (4, [.ref mTt, .int (-1), .int (-1), .int 0, .int 0, .int 0, .int 0])), (mTt, .inr (8, [.ref mTr, .int 60, .int 9, .int 0])), (mB, .inr (0, [.ref mL, .ref mBa, .ref mBd, .int 0, .int 0, .int 0, .int 0, .int 0, .int 0])), (mL, .inr (2, [.ref mLt, .int 0, .int 0, .int 0, .int 0, .int 0, .int 0, .int 0, .int 0, .int 0, .int 0, .int 0, .int (-1), .int 0]))]) (va_runV (As := [.ref hp, .ref mC, .ref mW]) (rest := []) ⟨hx, hb, hml, hown, hts⟩ (b0_X7_pass_12 l dC dI cyI cyZ cyO H.size mS hp mC mW mSc hp_first hp_last hp_wait hp_broken hp_words hp_kinds hp_values hp_owners mWd mWs mWb mWm mWf mWu ) (cwV 3 hts gX3_tick_X7_pass rfl rfl rfl (by decide +kernel) ⟨Nat.le_of_ble_eq_true rfl, Nat.le_of_ble_eq_true rfl⟩) (yPreV hK hPc hDc (ci := 7) (q0 := 0) rfl rfl) rfl rfl hl.1 rfl (lv_room (Nat.le_of_ble_eq_true rfl)) dX3_tick_71 ⟨Nat.le_of_ble_eq_true rfl, Nat.le_of_ble_eq_true rfl⟩) hP hD hS hA rfl rfl (by decide) (by decide) (fun u_5 H locs hw hP hD hS => ?_)
  have hP : va_P (dC, dI) vwCl [(h0, .inr (3, [.ref mW, .ref mC, .ref mT, .ref mB, .ref mS, .ref mO, .int 0])), (mWb, .inl (cyI, 15, .inl (fun _ => 0))), (mC, .inr (1, [.ref mCh, .ref mCs, .int (-1)])), (mWm, .inl (cyI, 15, .inl (fun _ => 0))), (mWf, .inl (cyI, 15, .inl (fun _ => 0))), (mWu, .inl (cyI, 15, .inl (fun _ => 0))), (mO, .inr (5, [.ref mOc, .ref mOt, .int 0, .int 0, .int 0])), (mT, .inr (4, [.ref mTt, .int (-1), .int (-1), .int 0, .int 0, .int 0, .int 0])), (mTt, .inr (8, [.ref mTr, .int 60, .int 9, .int 0])), (mB, .inr (0, [.ref mL, .ref mBa, .ref mBd, .int 0, .int 0, .int 0, .int 0, .int 0, .int 0])), (mL, .inr (2, [.ref mLt, .int 0, .int 0, .int 0, .int 0, .int 0, .int 0, .int 0, .int 0, .int 0, .int 0, .int 0, .int (-1), .int 0])), (mS, .inr (7, [.ref mSc, .int 0, .int 0, .int 0])), (hp, .inr (6, [.ref hp_first, .ref hp_last, .ref hp_wait, .ref hp_broken, .ref hp_words, .ref hp_kinds, .ref hp_values, .ref hp_owners, .int 0, .int 0, .int 0, .int 32, .int 0])), (mW, .inr (9, [.ref mWd, .ref mWs, .ref mWb, .ref mWm, .ref mWf, .ref mWu])), (mWd, .inl (cyI, 15, .inl yR)), (mWs, .inl (cyI, 15, .inl yR))] H := hP
  have hD : va_D A [(h0, .inr (3, [.ref mW, .ref mC, .ref mT, .ref mB, .ref mS, .ref mO, .int 0])), (mWb, .inl (cyI, 15, .inl (fun _ => 0))), (mC, .inr (1, [.ref mCh, .ref mCs, .int (-1)])), (mWm, .inl (cyI, 15, .inl (fun _ => 0))), (mWf, .inl (cyI, 15, .inl (fun _ => 0))), (mWu, .inl (cyI, 15, .inl (fun _ => 0))), (mO, .inr (5, [.ref mOc, .ref mOt, .int 0, .int 0, .int 0])), (mT, .inr (4, [.ref mTt, .int (-1), .int (-1), .int 0, .int 0, .int 0, .int 0])), (mTt, .inr (8, [.ref mTr, .int 60, .int 9, .int 0])), (mB, .inr (0, [.ref mL, .ref mBa, .ref mBd, .int 0, .int 0, .int 0, .int 0, .int 0, .int 0])), (mL, .inr (2, [.ref mLt, .int 0, .int 0, .int 0, .int 0, .int 0, .int 0, .int 0, .int 0, .int 0, .int 0, .int 0, .int (-1), .int 0])), (mS, .inr (7, [.ref mSc, .int 0, .int 0, .int 0])), (hp, .inr (6, [.ref hp_first, .ref hp_last, .ref hp_wait, .ref hp_broken, .ref hp_words, .ref hp_kinds, .ref hp_values, .ref hp_owners, .int 0, .int 0, .int 0, .int 32, .int 0])), (mW, .inr (9, [.ref mWd, .ref mWs, .ref mWb, .ref mWm, .ref mWf, .ref mWu])), (mWd, .inl (cyI, 15, .inl yR)), (mWs, .inl (cyI, 15, .inl yR))] := hD
  refine W.widen (k := 0) (n := 0) (Nat.le_of_ble_eq_true rfl) (Nat.le_of_ble_eq_true rfl) ?_
  refine lv_aload_n hx hb dX3_tick_74 rfl (lv_at hl 0 rfl) ?_
  refine va_get (D := (dC, dI)) (ci := 3) (v := .ref mC) (C := RX3) (T := TX3) (N := 7) hx hb hts hnX3 hown hK hP 0 rfl rfl 1 (by decide) hf21 (fun _ h9 => h9) rfl dX3_tick_75 ?_
  refine lv_aload_n hx hb dX3_tick_78 rfl (lv_at hl 1 rfl) ?_
  refine lv_iconst (v := 1) hx hb dX3_tick_79 (by decide) ?_
  have hPc := hP.sub (ws' := [(mC, .inr (1, [.ref mCh, .ref mCs, .int (-1)])), (hp, .inr (6, [.ref hp_first, .ref hp_last, .ref hp_wait, .ref hp_broken, .ref hp_words, .ref hp_kinds, .ref hp_values, .ref hp_owners, .int 0, .int 0, .int 0, .int 32, .int 0]))]) [2, 12] rfl
  have hDc := hD.sub (ws' := [(mC, .inr (1, [.ref mCh, .ref mCs, .int (-1)])), (hp, .inr (6, [.ref hp_first, .ref hp_last, .ref hp_wait, .ref hp_broken, .ref hp_words, .ref hp_kinds, .ref hp_values, .ref hp_owners, .int 0, .int 0, .int 0, .int 32, .int 0]))]) [2, 12] (by decide) rfl
  refine yy_callv [2, 12] [0, 1, 3, 4, 5, 6, 7, 8, 9, 10, 11, 13, 14, 15] (wr := [(h0, .inr (3, [.ref mW, .ref mC, .ref mT, .ref mB, .ref mS, .ref mO, .int 0])), (mWb, .inl (cyI, 15, .inl (fun _ => 0))), (mWm, .inl (cyI, 15, .inl (fun _ => 0))), (mWf, .inl (cyI, 15, .inl (fun _ => 0))), (mWu, .inl (cyI, 15, .inl (fun _ => 0))), (mO, .inr (5, [.ref mOc, .ref mOt, .int 0, .int 0, .int 0])), (mT, .inr (4, [.ref mTt, .int (-1), .int (-1), .int 0, .int 0, .int 0, .int 0])), (mTt, .inr (8, [.ref mTr, .int 60, .int 9, .int 0])), (mB, .inr (0, [.ref mL, .ref mBa, .ref mBd, .int 0, .int 0, .int 0, .int 0, .int 0, .int 0])), (mL, .inr (2, [.ref mLt, .int 0, .int 0, .int 0, .int 0, .int 0, .int 0, .int 0, .int 0, .int 0, .int 0, .int 0, .int (-1), .int 0])), (mS, .inr (7, [.ref mSc, .int 0, .int 0, .int 0])), (mW, .inr (9, [.ref mWd, .ref mWs, .ref mWb, .ref mWm, .ref mWf, .ref mWu])), (mWd, .inl (cyI, 15, .inl yR)), (mWs, .inl (cyI, 15, .inl yR))]) (va_runV (As := [.ref hp, .int 1]) (rest := []) ⟨hx, hb, hml, hown, hts⟩ (b0_X1_countUp_13 l dC dI cyI cyZ cyO H.size mC hp mCh mCs hp_first hp_last hp_wait hp_broken hp_words hp_kinds hp_values hp_owners ) (cwV 2 hts gX3_tick_X1_countUp rfl rfl rfl (by decide +kernel) ⟨Nat.le_of_ble_eq_true rfl, Nat.le_of_ble_eq_true rfl⟩) (yPreV hK hPc hDc (ci := 1) (q0 := 0) rfl rfl) rfl rfl hl.1 rfl (lv_room (Nat.le_of_ble_eq_true rfl)) dX3_tick_80 ⟨Nat.le_of_ble_eq_true rfl, Nat.le_of_ble_eq_true rfl⟩) hP hD hS hA rfl rfl (by decide) (by decide) (fun u_6 H locs hw hP hD hS => ?_)
  have hP : va_P (dC, dI) vwCl [(h0, .inr (3, [.ref mW, .ref mC, .ref mT, .ref mB, .ref mS, .ref mO, .int 0])), (mWb, .inl (cyI, 15, .inl (fun _ => 0))), (mWm, .inl (cyI, 15, .inl (fun _ => 0))), (mWf, .inl (cyI, 15, .inl (fun _ => 0))), (mWu, .inl (cyI, 15, .inl (fun _ => 0))), (mO, .inr (5, [.ref mOc, .ref mOt, .int 0, .int 0, .int 0])), (mT, .inr (4, [.ref mTt, .int (-1), .int (-1), .int 0, .int 0, .int 0, .int 0])), (mTt, .inr (8, [.ref mTr, .int 60, .int 9, .int 0])), (mB, .inr (0, [.ref mL, .ref mBa, .ref mBd, .int 0, .int 0, .int 0, .int 0, .int 0, .int 0])), (mL, .inr (2, [.ref mLt, .int 0, .int 0, .int 0, .int 0, .int 0, .int 0, .int 0, .int 0, .int 0, .int 0, .int 0, .int (-1), .int 0])), (mS, .inr (7, [.ref mSc, .int 0, .int 0, .int 0])), (mW, .inr (9, [.ref mWd, .ref mWs, .ref mWb, .ref mWm, .ref mWf, .ref mWu])), (mWd, .inl (cyI, 15, .inl yR)), (mWs, .inl (cyI, 15, .inl yR)), (mC, .inr (1, [.ref mCh, .ref mCs, .int (-1)])), (hp, .inr (6, [.ref hp_first, .ref hp_last, .ref hp_wait, .ref hp_broken, .ref hp_words, .ref hp_kinds, .ref hp_values, .ref hp_owners, .int 0, .int 0, .int 0, .int 32, .int 0]))] H := hP
  have hD : va_D A [(h0, .inr (3, [.ref mW, .ref mC, .ref mT, .ref mB, .ref mS, .ref mO, .int 0])), (mWb, .inl (cyI, 15, .inl (fun _ => 0))), (mWm, .inl (cyI, 15, .inl (fun _ => 0))), (mWf, .inl (cyI, 15, .inl (fun _ => 0))), (mWu, .inl (cyI, 15, .inl (fun _ => 0))), (mO, .inr (5, [.ref mOc, .ref mOt, .int 0, .int 0, .int 0])), (mT, .inr (4, [.ref mTt, .int (-1), .int (-1), .int 0, .int 0, .int 0, .int 0])), (mTt, .inr (8, [.ref mTr, .int 60, .int 9, .int 0])), (mB, .inr (0, [.ref mL, .ref mBa, .ref mBd, .int 0, .int 0, .int 0, .int 0, .int 0, .int 0])), (mL, .inr (2, [.ref mLt, .int 0, .int 0, .int 0, .int 0, .int 0, .int 0, .int 0, .int 0, .int 0, .int 0, .int 0, .int (-1), .int 0])), (mS, .inr (7, [.ref mSc, .int 0, .int 0, .int 0])), (mW, .inr (9, [.ref mWd, .ref mWs, .ref mWb, .ref mWm, .ref mWf, .ref mWu])), (mWd, .inl (cyI, 15, .inl yR)), (mWs, .inl (cyI, 15, .inl yR)), (mC, .inr (1, [.ref mCh, .ref mCs, .int (-1)])), (hp, .inr (6, [.ref hp_first, .ref hp_last, .ref hp_wait, .ref hp_broken, .ref hp_words, .ref hp_kinds, .ref hp_values, .ref hp_owners, .int 0, .int 0, .int 0, .int 32, .int 0]))] := hD
  refine W.widen (k := 0) (n := 0) (Nat.le_of_ble_eq_true rfl) (Nat.le_of_ble_eq_true rfl) ?_
  refine lv_aload_n hx hb dX3_tick_83 rfl (lv_at hl 0 rfl) ?_
  refine va_get (D := (dC, dI)) (ci := 3) (v := .ref mW) (C := RX3) (T := TX3) (N := 7) hx hb hts hnX3 hown hK hP 0 rfl rfl 0 (by decide) hf12 (fun _ h9 => h9) rfl dX3_tick_84 ?_
  have hPc := hP.sub (ws' := [(mW, .inr (9, [.ref mWd, .ref mWs, .ref mWb, .ref mWm, .ref mWf, .ref mWu])), (mWs, .inl (cyI, 15, .inl yR)), (mWb, .inl (cyI, 15, .inl (fun _ => 0)))]) [11, 13, 1] rfl
  have hDc := hD.sub (ws' := [(mW, .inr (9, [.ref mWd, .ref mWs, .ref mWb, .ref mWm, .ref mWf, .ref mWu])), (mWs, .inl (cyI, 15, .inl yR)), (mWb, .inl (cyI, 15, .inl (fun _ => 0)))]) [11, 13, 1] (by decide) rfl
  refine yy_callv [11, 13, 1] [0, 2, 3, 4, 5, 6, 7, 8, 9, 10, 12, 14, 15] (wr := [(h0, .inr (3, [.ref mW, .ref mC, .ref mT, .ref mB, .ref mS, .ref mO, .int 0])), (mWm, .inl (cyI, 15, .inl (fun _ => 0))), (mWf, .inl (cyI, 15, .inl (fun _ => 0))), (mWu, .inl (cyI, 15, .inl (fun _ => 0))), (mO, .inr (5, [.ref mOc, .ref mOt, .int 0, .int 0, .int 0])), (mT, .inr (4, [.ref mTt, .int (-1), .int (-1), .int 0, .int 0, .int 0, .int 0])), (mTt, .inr (8, [.ref mTr, .int 60, .int 9, .int 0])), (mB, .inr (0, [.ref mL, .ref mBa, .ref mBd, .int 0, .int 0, .int 0, .int 0, .int 0, .int 0])), (mL, .inr (2, [.ref mLt, .int 0, .int 0, .int 0, .int 0, .int 0, .int 0, .int 0, .int 0, .int 0, .int 0, .int 0, .int (-1), .int 0])), (mS, .inr (7, [.ref mSc, .int 0, .int 0, .int 0])), (mWd, .inl (cyI, 15, .inl yR)), (mC, .inr (1, [.ref mCh, .ref mCs, .int (-1)])), (hp, .inr (6, [.ref hp_first, .ref hp_last, .ref hp_wait, .ref hp_broken, .ref hp_words, .ref hp_kinds, .ref hp_values, .ref hp_owners, .int 0, .int 0, .int 0, .int 32, .int 0]))]) (va_runV (As := []) (rest := []) ⟨hx, hb, hml, hown, hts⟩ (b0_X9_remember_14 l dC dI cyI cyZ cyO H.size mW mWd mWs mWb mWm mWf mWu ) (cwV 0 hts gX3_tick_X9_remember rfl rfl rfl (by decide +kernel) ⟨Nat.le_of_ble_eq_true rfl, Nat.le_of_ble_eq_true rfl⟩) (yPreV hK hPc hDc (ci := 9) (q0 := 0) rfl rfl) rfl rfl hl.1 rfl (lv_room (Nat.le_of_ble_eq_true rfl)) dX3_tick_87 ⟨Nat.le_of_ble_eq_true rfl, Nat.le_of_ble_eq_true rfl⟩) hP hD hS hA rfl rfl (by decide) (by decide) (fun u_7 H locs hw hP hD hS => ?_)
  have hP : va_P (dC, dI) vwCl [(h0, .inr (3, [.ref mW, .ref mC, .ref mT, .ref mB, .ref mS, .ref mO, .int 0])), (mWm, .inl (cyI, 15, .inl (fun _ => 0))), (mWf, .inl (cyI, 15, .inl (fun _ => 0))), (mWu, .inl (cyI, 15, .inl (fun _ => 0))), (mO, .inr (5, [.ref mOc, .ref mOt, .int 0, .int 0, .int 0])), (mT, .inr (4, [.ref mTt, .int (-1), .int (-1), .int 0, .int 0, .int 0, .int 0])), (mTt, .inr (8, [.ref mTr, .int 60, .int 9, .int 0])), (mB, .inr (0, [.ref mL, .ref mBa, .ref mBd, .int 0, .int 0, .int 0, .int 0, .int 0, .int 0])), (mL, .inr (2, [.ref mLt, .int 0, .int 0, .int 0, .int 0, .int 0, .int 0, .int 0, .int 0, .int 0, .int 0, .int 0, .int (-1), .int 0])), (mS, .inr (7, [.ref mSc, .int 0, .int 0, .int 0])), (mWd, .inl (cyI, 15, .inl yR)), (mC, .inr (1, [.ref mCh, .ref mCs, .int (-1)])), (hp, .inr (6, [.ref hp_first, .ref hp_last, .ref hp_wait, .ref hp_broken, .ref hp_words, .ref hp_kinds, .ref hp_values, .ref hp_owners, .int 0, .int 0, .int 0, .int 32, .int 0])), (mW, .inr (9, [.ref mWd, .ref mWs, .ref mWb, .ref mWm, .ref mWf, .ref mWu])), (mWs, .inl (cyI, 15, .inl yR)), (mWb, .inl (cyI, 15, .inl yR))] H := hP
  have hD : va_D A [(h0, .inr (3, [.ref mW, .ref mC, .ref mT, .ref mB, .ref mS, .ref mO, .int 0])), (mWm, .inl (cyI, 15, .inl (fun _ => 0))), (mWf, .inl (cyI, 15, .inl (fun _ => 0))), (mWu, .inl (cyI, 15, .inl (fun _ => 0))), (mO, .inr (5, [.ref mOc, .ref mOt, .int 0, .int 0, .int 0])), (mT, .inr (4, [.ref mTt, .int (-1), .int (-1), .int 0, .int 0, .int 0, .int 0])), (mTt, .inr (8, [.ref mTr, .int 60, .int 9, .int 0])), (mB, .inr (0, [.ref mL, .ref mBa, .ref mBd, .int 0, .int 0, .int 0, .int 0, .int 0, .int 0])), (mL, .inr (2, [.ref mLt, .int 0, .int 0, .int 0, .int 0, .int 0, .int 0, .int 0, .int 0, .int 0, .int 0, .int 0, .int (-1), .int 0])), (mS, .inr (7, [.ref mSc, .int 0, .int 0, .int 0])), (mWd, .inl (cyI, 15, .inl yR)), (mC, .inr (1, [.ref mCh, .ref mCs, .int (-1)])), (hp, .inr (6, [.ref hp_first, .ref hp_last, .ref hp_wait, .ref hp_broken, .ref hp_words, .ref hp_kinds, .ref hp_values, .ref hp_owners, .int 0, .int 0, .int 0, .int 32, .int 0])), (mW, .inr (9, [.ref mWd, .ref mWs, .ref mWb, .ref mWm, .ref mWf, .ref mWu])), (mWs, .inl (cyI, 15, .inl yR)), (mWb, .inl (cyI, 15, .inl yR))] := hD
  refine W.widen (k := 0) (n := 0) (Nat.le_of_ble_eq_true rfl) (Nat.le_of_ble_eq_true rfl) ?_
  refine lv_aload_n hx hb dX3_tick_90 rfl (lv_at hl 0 rfl) ?_
  refine lv_dup hx hb dX3_tick_91 rfl ?_
  refine va_get (D := (dC, dI)) (ci := 3) (v := .int 0) (C := RX3) (T := TX3) (N := 7) hx hb hts hnX3 hown hK hP 0 rfl rfl 6 (by decide) hf63 (fun _ h9 => h9) rfl dX3_tick_92 ?_
  refine lv_iconst (v := 1) hx hb dX3_tick_95 (by decide) ?_
  refine lv_iadd hx hb dX3_tick_96 ?_
  refine yy_int (v := 1) (by decide) ?_
  refine va_put (D := (dC, dI)) (ci := 3) (v := .int 1) (ty := .int) (C := RX3) (T := TX3) (N := 7) hx hb hts hnX3 tyX3 tyX3_ok nmX3 hown hK hP hD hS 0 rfl rfl 6 (by decide) hf63 (fun _ h9 => h9) rfl (by decide +kernel) rfl rfl (Nat.le_of_ble_eq_true rfl) dX3_tick_97 (fun H locs hP hD hS => ?_)
  have hP : va_P (dC, dI) vwCl [(h0, .inr (3, [.ref mW, .ref mC, .ref mT, .ref mB, .ref mS, .ref mO, .int 1])), (mWm, .inl (cyI, 15, .inl (fun _ => 0))), (mWf, .inl (cyI, 15, .inl (fun _ => 0))), (mWu, .inl (cyI, 15, .inl (fun _ => 0))), (mO, .inr (5, [.ref mOc, .ref mOt, .int 0, .int 0, .int 0])), (mT, .inr (4, [.ref mTt, .int (-1), .int (-1), .int 0, .int 0, .int 0, .int 0])), (mTt, .inr (8, [.ref mTr, .int 60, .int 9, .int 0])), (mB, .inr (0, [.ref mL, .ref mBa, .ref mBd, .int 0, .int 0, .int 0, .int 0, .int 0, .int 0])), (mL, .inr (2, [.ref mLt, .int 0, .int 0, .int 0, .int 0, .int 0, .int 0, .int 0, .int 0, .int 0, .int 0, .int 0, .int (-1), .int 0])), (mS, .inr (7, [.ref mSc, .int 0, .int 0, .int 0])), (mWd, .inl (cyI, 15, .inl yR)), (mC, .inr (1, [.ref mCh, .ref mCs, .int (-1)])), (hp, .inr (6, [.ref hp_first, .ref hp_last, .ref hp_wait, .ref hp_broken, .ref hp_words, .ref hp_kinds, .ref hp_values, .ref hp_owners, .int 0, .int 0, .int 0, .int 32, .int 0])), (mW, .inr (9, [.ref mWd, .ref mWs, .ref mWb, .ref mWm, .ref mWf, .ref mWu])), (mWs, .inl (cyI, 15, .inl yR)), (mWb, .inl (cyI, 15, .inl yR))] H := hP
  have hD : va_D A [(h0, .inr (3, [.ref mW, .ref mC, .ref mT, .ref mB, .ref mS, .ref mO, .int 1])), (mWm, .inl (cyI, 15, .inl (fun _ => 0))), (mWf, .inl (cyI, 15, .inl (fun _ => 0))), (mWu, .inl (cyI, 15, .inl (fun _ => 0))), (mO, .inr (5, [.ref mOc, .ref mOt, .int 0, .int 0, .int 0])), (mT, .inr (4, [.ref mTt, .int (-1), .int (-1), .int 0, .int 0, .int 0, .int 0])), (mTt, .inr (8, [.ref mTr, .int 60, .int 9, .int 0])), (mB, .inr (0, [.ref mL, .ref mBa, .ref mBd, .int 0, .int 0, .int 0, .int 0, .int 0, .int 0])), (mL, .inr (2, [.ref mLt, .int 0, .int 0, .int 0, .int 0, .int 0, .int 0, .int 0, .int 0, .int 0, .int 0, .int 0, .int (-1), .int 0])), (mS, .inr (7, [.ref mSc, .int 0, .int 0, .int 0])), (mWd, .inl (cyI, 15, .inl yR)), (mC, .inr (1, [.ref mCh, .ref mCs, .int (-1)])), (hp, .inr (6, [.ref hp_first, .ref hp_last, .ref hp_wait, .ref hp_broken, .ref hp_words, .ref hp_kinds, .ref hp_values, .ref hp_owners, .int 0, .int 0, .int 0, .int 32, .int 0])), (mW, .inr (9, [.ref mWd, .ref mWs, .ref mWb, .ref mWm, .ref mWf, .ref mWu])), (mWs, .inl (cyI, 15, .inl yR)), (mWb, .inl (cyI, 15, .inl yR))] := hD
  refine W.widen (k := 0) (n := 0) (Nat.le_of_ble_eq_true rfl) (Nat.le_of_ble_eq_true rfl) ?_
  exact yy_vret () hx hb hr hlk hsz hAe hK hP hD hS [0, 13, 10, 14, 15, 1, 2, 3, 11, 5, 6, 7, 8, 9, 4, 12] rfl rfl (by decide) (trivial) dX3_tick_100
set_option maxHeartbeats 4000000 in
set_option maxRecDepth 100000 in
theorem bS_X9_look_15 (l : Launch) (dC : Nat → ClassId) (dI : Nat → Nat → Nat) (cyI cyZ cyO : ClassId) (sz : Nat) (a0 : Nat) (v0 : Int32) (a1 : Nat) (a2 : Nat) (a3 : Nat) (a4 : Nat) (a5 : Nat) (a6 : Nat)  : Met l yX9_look wsX9_look ({ frames := 1, cells := 0, slots := 0, locals := 23 }) (yPre [.ref a0, .int v0] (dC, dI) [(a0, .inr (9, [.ref a1, .ref a2, .ref a3, .ref a4, .ref a5, .ref a6])), (a1, .inl (cyI, 15, .inl yR)), (a2, .inl (cyI, 15, .inl yR)), (a4, .inl (cyI, 15, .inl (fun _ => 0))), (a5, .inl (cyI, 15, .inl (fun _ => 0))), (a6, .inl (cyI, 15, .inl (fun _ => 0)))] (yT cyI cyZ cyO) sz) (yQv (fun (u : Unit) => True) (dC, dI) [(a0, .inr (9, [.ref a1, .ref a2, .ref a3, .ref a4, .ref a5, .ref a6])), (a1, .inl (cyI, 15, .inl yR)), (a2, .inl (cyI, 15, .inl yR)), (a4, .inl (cyI, 15, .inl (fun _ => 0))), (a5, .inl (cyI, 15, .inl (fun _ => 0))), (a6, .inl (cyI, 15, .inl (fun _ => 0)))] (yT cyI cyZ cyO) sz (fun _ => [(a0, .inr (9, [.ref a1, .ref a2, .ref a3, .ref a4, .ref a5, .ref a6])), (a1, .inl (cyI, 15, .inl yR)), (a2, .inl (cyI, 15, .inl yR)), (a4, .inl (cyI, 15, .inl (fun _ => 0))), (a5, .inl (cyI, 15, .inl (fun _ => 0))), (a6, .inl (cyI, 15, .inl (fun _ => 0)))])) 0 0 (va_A [(a0, .inr (9, [.ref a1, .ref a2, .ref a3, .ref a4, .ref a5, .ref a6])), (a1, .inl (cyI, 15, .inl yR)), (a2, .inl (cyI, 15, .inl yR)), (a4, .inl (cyI, 15, .inl (fun _ => 0))), (a5, .inl (cyI, 15, .inl (fun _ => 0))), (a6, .inl (cyI, 15, .inl (fun _ => 0)))] sz) := by
  refine yMet (cc := cX9_look) (maxL := 3) (ret := none) (by decide) rfl (Nat.le_of_ble_eq_true rfl) ?_
  intro p e s m below meth c A hx hb hr hlk hml hts hown hnm hsz hAe hP hK hD hA hS ls hl
  have hl : lv_has ls 3 [(0, .ref a0), (1, .int v0)] := hl
  have hf13 := hts (.fieldLink RX9 13 "BusBridge$Wires" "seen" "[I") (by decide +kernel)
  have hnX9 : ∀ w ∈ wsX90, w ∈ wsX9_look := by decide +kernel
  refine lv_iconst (v := 0) hx hb dX9_look_0 (by decide) ?_
  refine lv_istore_n (lv' := [(2, .int 0), (0, .ref a0), (1, .int v0)]) hx hb dX9_look_1 rfl hl (by decide) rfl (fun ls hl => ?_)
  refine lv_iload_n hx hb dX9_look_2 rfl (lv_at hl 0 rfl) ?_
  refine lv_bipush (v := 15) hx hb dX9_look_3 (by decide) ?_
  refine lv_icmp_ge (tgt := 26) hx hb dX9_look_5 (by decide) (fun c => absurd c (by decide)) (fun _ => ?_)
  refine lv_aload_n hx hb dX9_look_8 rfl (lv_at hl 1 rfl) ?_
  refine va_get (D := (dC, dI)) (ci := 9) (v := .ref a2) (C := RX9) (T := TX9) (N := 6) hx hb hts hnX9 hown hK hP 0 rfl rfl 1 (by decide) hf13 (fun _ h9 => h9) rfl dX9_look_9 ?_
  refine lv_iload_n hx hb dX9_look_12 rfl (lv_at hl 0 rfl) ?_
  refine lv_aload_n hx hb dX9_look_13 rfl (lv_at hl 1 rfl) ?_
  refine lv_iload_n hx hb dX9_look_14 rfl (lv_at hl 0 rfl) ?_
  refine lv_iload_n hx hb dX9_look_15 rfl (lv_at hl 2 rfl) ?_
  have hPc := hP.sub (ws' := [(a0, .inr (9, [.ref a1, .ref a2, .ref a3, .ref a4, .ref a5, .ref a6])), (a1, .inl (cyI, 15, .inl yR)), (a4, .inl (cyI, 15, .inl (fun _ => 0))), (a5, .inl (cyI, 15, .inl (fun _ => 0))), (a6, .inl (cyI, 15, .inl (fun _ => 0)))]) [0, 1, 3, 4, 5] rfl
  have hDc := hD.sub (ws' := [(a0, .inr (9, [.ref a1, .ref a2, .ref a3, .ref a4, .ref a5, .ref a6])), (a1, .inl (cyI, 15, .inl yR)), (a4, .inl (cyI, 15, .inl (fun _ => 0))), (a5, .inl (cyI, 15, .inl (fun _ => 0))), (a6, .inl (cyI, 15, .inl (fun _ => 0)))]) [0, 1, 3, 4, 5] (by decide) rfl
  refine yy_calli [0, 1, 3, 4, 5] [2] (wr := [(a2, .inl (cyI, 15, .inl yR))]) (va_runV (As := [.int 0, .int v0]) (rest := [.int 0, .ref a2]) ⟨hx, hb, hml, hown, hts⟩ (k_shown l dC dI cyI cyZ cyO s.heap.size a0 a1 a2 a3 a4 a5 a6 0 v0 (by first | exact yin (by decide) | assumption)) (cwV 2 hts gX9_look_X9_shown rfl rfl rfl (by decide +kernel) ⟨Nat.le_of_ble_eq_true rfl, Nat.le_of_ble_eq_true rfl⟩) (yPreV hK hPc hDc (ci := 9) (q0 := 0) rfl rfl) rfl rfl hl.1 rfl (lv_room (Nat.le_of_ble_eq_true rfl)) dX9_look_16 ⟨Nat.le_of_ble_eq_true rfl, Nat.le_of_ble_eq_true rfl⟩) hP hD hS hA rfl rfl (by decide) (by decide) (fun r_2 u_1 H locs hw hP hD hS => ?_)
  have hP : va_P (dC, dI) vwCl [(a2, .inl (cyI, 15, .inl yR)), (a0, .inr (9, [.ref a1, .ref a2, .ref a3, .ref a4, .ref a5, .ref a6])), (a1, .inl (cyI, 15, .inl yR)), (a4, .inl (cyI, 15, .inl (fun _ => 0))), (a5, .inl (cyI, 15, .inl (fun _ => 0))), (a6, .inl (cyI, 15, .inl (fun _ => 0)))] H := hP
  have hD : va_D A [(a2, .inl (cyI, 15, .inl yR)), (a0, .inr (9, [.ref a1, .ref a2, .ref a3, .ref a4, .ref a5, .ref a6])), (a1, .inl (cyI, 15, .inl yR)), (a4, .inl (cyI, 15, .inl (fun _ => 0))), (a5, .inl (cyI, 15, .inl (fun _ => 0))), (a6, .inl (cyI, 15, .inl (fun _ => 0)))] := hD
  refine W.widen (k := 0) (n := 0) (Nat.le_of_ble_eq_true rfl) (Nat.le_of_ble_eq_true rfl) ?_
  have hw : r_2 = 0 := hw.trans (by decide)
  subst hw
  refine yy_iast (f' := yR) hx hb hK hP hD hS 0 0 rfl rfl (yin (by decide)) dX9_look_19 (yid rfl) (fun H locs hP hD hS => ?_)
  have hP : va_P (dC, dI) vwCl [(a2, .inl (cyI, 15, .inl yR)), (a0, .inr (9, [.ref a1, .ref a2, .ref a3, .ref a4, .ref a5, .ref a6])), (a1, .inl (cyI, 15, .inl yR)), (a4, .inl (cyI, 15, .inl (fun _ => 0))), (a5, .inl (cyI, 15, .inl (fun _ => 0))), (a6, .inl (cyI, 15, .inl (fun _ => 0)))] H := hP
  have hD : va_D A [(a2, .inl (cyI, 15, .inl yR)), (a0, .inr (9, [.ref a1, .ref a2, .ref a3, .ref a4, .ref a5, .ref a6])), (a1, .inl (cyI, 15, .inl yR)), (a4, .inl (cyI, 15, .inl (fun _ => 0))), (a5, .inl (cyI, 15, .inl (fun _ => 0))), (a6, .inl (cyI, 15, .inl (fun _ => 0)))] := hD
  refine lv_iinc (v := 1) (lv' := [(2, .int 1), (0, .ref a0), (1, .int v0)]) hx hb dX9_look_20 hl (k := 0) rfl (by decide) (by decide) rfl (fun ls hl => ?_)
  refine lv_goto (tgt := 2) hx hb dX9_look_23 (by decide) ?_
  refine lv_iload_n hx hb dX9_look_2 rfl (lv_at hl 0 rfl) ?_
  refine lv_bipush (v := 15) hx hb dX9_look_3 (by decide) ?_
  refine lv_icmp_ge (tgt := 26) hx hb dX9_look_5 (by decide) (fun c => absurd c (by decide)) (fun _ => ?_)
  refine lv_aload_n hx hb dX9_look_8 rfl (lv_at hl 1 rfl) ?_
  refine va_get (D := (dC, dI)) (ci := 9) (v := .ref a2) (C := RX9) (T := TX9) (N := 6) hx hb hts hnX9 hown hK hP 1 rfl rfl 1 (by decide) hf13 (fun _ h9 => h9) rfl dX9_look_9 ?_
  refine lv_iload_n hx hb dX9_look_12 rfl (lv_at hl 0 rfl) ?_
  refine lv_aload_n hx hb dX9_look_13 rfl (lv_at hl 1 rfl) ?_
  refine lv_iload_n hx hb dX9_look_14 rfl (lv_at hl 0 rfl) ?_
  refine lv_iload_n hx hb dX9_look_15 rfl (lv_at hl 2 rfl) ?_
  have hPc := hP.sub (ws' := [(a0, .inr (9, [.ref a1, .ref a2, .ref a3, .ref a4, .ref a5, .ref a6])), (a1, .inl (cyI, 15, .inl yR)), (a4, .inl (cyI, 15, .inl (fun _ => 0))), (a5, .inl (cyI, 15, .inl (fun _ => 0))), (a6, .inl (cyI, 15, .inl (fun _ => 0)))]) [1, 2, 3, 4, 5] rfl
  have hDc := hD.sub (ws' := [(a0, .inr (9, [.ref a1, .ref a2, .ref a3, .ref a4, .ref a5, .ref a6])), (a1, .inl (cyI, 15, .inl yR)), (a4, .inl (cyI, 15, .inl (fun _ => 0))), (a5, .inl (cyI, 15, .inl (fun _ => 0))), (a6, .inl (cyI, 15, .inl (fun _ => 0)))]) [1, 2, 3, 4, 5] (by decide) rfl
  refine yy_calli [1, 2, 3, 4, 5] [0] (wr := [(a2, .inl (cyI, 15, .inl yR))]) (va_runV (As := [.int 1, .int v0]) (rest := [.int 1, .ref a2]) ⟨hx, hb, hml, hown, hts⟩ (k_shown l dC dI cyI cyZ cyO H.size a0 a1 a2 a3 a4 a5 a6 1 v0 (by first | exact yin (by decide) | assumption)) (cwV 2 hts gX9_look_X9_shown rfl rfl rfl (by decide +kernel) ⟨Nat.le_of_ble_eq_true rfl, Nat.le_of_ble_eq_true rfl⟩) (yPreV hK hPc hDc (ci := 9) (q0 := 0) rfl rfl) rfl rfl hl.1 rfl (lv_room (Nat.le_of_ble_eq_true rfl)) dX9_look_16 ⟨Nat.le_of_ble_eq_true rfl, Nat.le_of_ble_eq_true rfl⟩) hP hD hS hA rfl rfl (by decide) (by decide) (fun r_4 u_3 H locs hw hP hD hS => ?_)
  have hP : va_P (dC, dI) vwCl [(a2, .inl (cyI, 15, .inl yR)), (a0, .inr (9, [.ref a1, .ref a2, .ref a3, .ref a4, .ref a5, .ref a6])), (a1, .inl (cyI, 15, .inl yR)), (a4, .inl (cyI, 15, .inl (fun _ => 0))), (a5, .inl (cyI, 15, .inl (fun _ => 0))), (a6, .inl (cyI, 15, .inl (fun _ => 0)))] H := hP
  have hD : va_D A [(a2, .inl (cyI, 15, .inl yR)), (a0, .inr (9, [.ref a1, .ref a2, .ref a3, .ref a4, .ref a5, .ref a6])), (a1, .inl (cyI, 15, .inl yR)), (a4, .inl (cyI, 15, .inl (fun _ => 0))), (a5, .inl (cyI, 15, .inl (fun _ => 0))), (a6, .inl (cyI, 15, .inl (fun _ => 0)))] := hD
  refine W.widen (k := 0) (n := 0) (Nat.le_of_ble_eq_true rfl) (Nat.le_of_ble_eq_true rfl) ?_
  have hw : r_4 = 0 := hw.trans (by decide)
  subst hw
  refine yy_iast (f' := yR) hx hb hK hP hD hS 0 0 rfl rfl (yin (by decide)) dX9_look_19 (yid rfl) (fun H locs hP hD hS => ?_)
  have hP : va_P (dC, dI) vwCl [(a2, .inl (cyI, 15, .inl yR)), (a0, .inr (9, [.ref a1, .ref a2, .ref a3, .ref a4, .ref a5, .ref a6])), (a1, .inl (cyI, 15, .inl yR)), (a4, .inl (cyI, 15, .inl (fun _ => 0))), (a5, .inl (cyI, 15, .inl (fun _ => 0))), (a6, .inl (cyI, 15, .inl (fun _ => 0)))] H := hP
  have hD : va_D A [(a2, .inl (cyI, 15, .inl yR)), (a0, .inr (9, [.ref a1, .ref a2, .ref a3, .ref a4, .ref a5, .ref a6])), (a1, .inl (cyI, 15, .inl yR)), (a4, .inl (cyI, 15, .inl (fun _ => 0))), (a5, .inl (cyI, 15, .inl (fun _ => 0))), (a6, .inl (cyI, 15, .inl (fun _ => 0)))] := hD
  refine lv_iinc (v := 2) (lv' := [(2, .int 2), (0, .ref a0), (1, .int v0)]) hx hb dX9_look_20 hl (k := 0) rfl (by decide) (by decide) rfl (fun ls hl => ?_)
  refine lv_goto (tgt := 2) hx hb dX9_look_23 (by decide) ?_
  refine lv_iload_n hx hb dX9_look_2 rfl (lv_at hl 0 rfl) ?_
  refine lv_bipush (v := 15) hx hb dX9_look_3 (by decide) ?_
  refine lv_icmp_ge (tgt := 26) hx hb dX9_look_5 (by decide) (fun c => absurd c (by decide)) (fun _ => ?_)
  refine lv_aload_n hx hb dX9_look_8 rfl (lv_at hl 1 rfl) ?_
  refine va_get (D := (dC, dI)) (ci := 9) (v := .ref a2) (C := RX9) (T := TX9) (N := 6) hx hb hts hnX9 hown hK hP 1 rfl rfl 1 (by decide) hf13 (fun _ h9 => h9) rfl dX9_look_9 ?_
  refine lv_iload_n hx hb dX9_look_12 rfl (lv_at hl 0 rfl) ?_
  refine lv_aload_n hx hb dX9_look_13 rfl (lv_at hl 1 rfl) ?_
  refine lv_iload_n hx hb dX9_look_14 rfl (lv_at hl 0 rfl) ?_
  refine lv_iload_n hx hb dX9_look_15 rfl (lv_at hl 2 rfl) ?_
  have hPc := hP.sub (ws' := [(a0, .inr (9, [.ref a1, .ref a2, .ref a3, .ref a4, .ref a5, .ref a6])), (a1, .inl (cyI, 15, .inl yR)), (a4, .inl (cyI, 15, .inl (fun _ => 0))), (a5, .inl (cyI, 15, .inl (fun _ => 0))), (a6, .inl (cyI, 15, .inl (fun _ => 0)))]) [1, 2, 3, 4, 5] rfl
  have hDc := hD.sub (ws' := [(a0, .inr (9, [.ref a1, .ref a2, .ref a3, .ref a4, .ref a5, .ref a6])), (a1, .inl (cyI, 15, .inl yR)), (a4, .inl (cyI, 15, .inl (fun _ => 0))), (a5, .inl (cyI, 15, .inl (fun _ => 0))), (a6, .inl (cyI, 15, .inl (fun _ => 0)))]) [1, 2, 3, 4, 5] (by decide) rfl
  refine yy_calli [1, 2, 3, 4, 5] [0] (wr := [(a2, .inl (cyI, 15, .inl yR))]) (va_runV (As := [.int 2, .int v0]) (rest := [.int 2, .ref a2]) ⟨hx, hb, hml, hown, hts⟩ (k_shown l dC dI cyI cyZ cyO H.size a0 a1 a2 a3 a4 a5 a6 2 v0 (by first | exact yin (by decide) | assumption)) (cwV 2 hts gX9_look_X9_shown rfl rfl rfl (by decide +kernel) ⟨Nat.le_of_ble_eq_true rfl, Nat.le_of_ble_eq_true rfl⟩) (yPreV hK hPc hDc (ci := 9) (q0 := 0) rfl rfl) rfl rfl hl.1 rfl (lv_room (Nat.le_of_ble_eq_true rfl)) dX9_look_16 ⟨Nat.le_of_ble_eq_true rfl, Nat.le_of_ble_eq_true rfl⟩) hP hD hS hA rfl rfl (by decide) (by decide) (fun r_6 u_5 H locs hw hP hD hS => ?_)
  have hP : va_P (dC, dI) vwCl [(a2, .inl (cyI, 15, .inl yR)), (a0, .inr (9, [.ref a1, .ref a2, .ref a3, .ref a4, .ref a5, .ref a6])), (a1, .inl (cyI, 15, .inl yR)), (a4, .inl (cyI, 15, .inl (fun _ => 0))), (a5, .inl (cyI, 15, .inl (fun _ => 0))), (a6, .inl (cyI, 15, .inl (fun _ => 0)))] H := hP
  have hD : va_D A [(a2, .inl (cyI, 15, .inl yR)), (a0, .inr (9, [.ref a1, .ref a2, .ref a3, .ref a4, .ref a5, .ref a6])), (a1, .inl (cyI, 15, .inl yR)), (a4, .inl (cyI, 15, .inl (fun _ => 0))), (a5, .inl (cyI, 15, .inl (fun _ => 0))), (a6, .inl (cyI, 15, .inl (fun _ => 0)))] := hD
  refine W.widen (k := 0) (n := 0) (Nat.le_of_ble_eq_true rfl) (Nat.le_of_ble_eq_true rfl) ?_
  have hw : r_6 = 0 := hw.trans (by decide)
  subst hw
  refine yy_iast (f' := yR) hx hb hK hP hD hS 0 0 rfl rfl (yin (by decide)) dX9_look_19 (yid rfl) (fun H locs hP hD hS => ?_)
  have hP : va_P (dC, dI) vwCl [(a2, .inl (cyI, 15, .inl yR)), (a0, .inr (9, [.ref a1, .ref a2, .ref a3, .ref a4, .ref a5, .ref a6])), (a1, .inl (cyI, 15, .inl yR)), (a4, .inl (cyI, 15, .inl (fun _ => 0))), (a5, .inl (cyI, 15, .inl (fun _ => 0))), (a6, .inl (cyI, 15, .inl (fun _ => 0)))] H := hP
  have hD : va_D A [(a2, .inl (cyI, 15, .inl yR)), (a0, .inr (9, [.ref a1, .ref a2, .ref a3, .ref a4, .ref a5, .ref a6])), (a1, .inl (cyI, 15, .inl yR)), (a4, .inl (cyI, 15, .inl (fun _ => 0))), (a5, .inl (cyI, 15, .inl (fun _ => 0))), (a6, .inl (cyI, 15, .inl (fun _ => 0)))] := hD
  refine lv_iinc (v := 3) (lv' := [(2, .int 3), (0, .ref a0), (1, .int v0)]) hx hb dX9_look_20 hl (k := 0) rfl (by decide) (by decide) rfl (fun ls hl => ?_)
  refine lv_goto (tgt := 2) hx hb dX9_look_23 (by decide) ?_
  refine lv_iload_n hx hb dX9_look_2 rfl (lv_at hl 0 rfl) ?_
  refine lv_bipush (v := 15) hx hb dX9_look_3 (by decide) ?_
  refine lv_icmp_ge (tgt := 26) hx hb dX9_look_5 (by decide) (fun c => absurd c (by decide)) (fun _ => ?_)
  refine lv_aload_n hx hb dX9_look_8 rfl (lv_at hl 1 rfl) ?_
  refine va_get (D := (dC, dI)) (ci := 9) (v := .ref a2) (C := RX9) (T := TX9) (N := 6) hx hb hts hnX9 hown hK hP 1 rfl rfl 1 (by decide) hf13 (fun _ h9 => h9) rfl dX9_look_9 ?_
  refine lv_iload_n hx hb dX9_look_12 rfl (lv_at hl 0 rfl) ?_
  refine lv_aload_n hx hb dX9_look_13 rfl (lv_at hl 1 rfl) ?_
  refine lv_iload_n hx hb dX9_look_14 rfl (lv_at hl 0 rfl) ?_
  refine lv_iload_n hx hb dX9_look_15 rfl (lv_at hl 2 rfl) ?_
  have hPc := hP.sub (ws' := [(a0, .inr (9, [.ref a1, .ref a2, .ref a3, .ref a4, .ref a5, .ref a6])), (a1, .inl (cyI, 15, .inl yR)), (a4, .inl (cyI, 15, .inl (fun _ => 0))), (a5, .inl (cyI, 15, .inl (fun _ => 0))), (a6, .inl (cyI, 15, .inl (fun _ => 0)))]) [1, 2, 3, 4, 5] rfl
  have hDc := hD.sub (ws' := [(a0, .inr (9, [.ref a1, .ref a2, .ref a3, .ref a4, .ref a5, .ref a6])), (a1, .inl (cyI, 15, .inl yR)), (a4, .inl (cyI, 15, .inl (fun _ => 0))), (a5, .inl (cyI, 15, .inl (fun _ => 0))), (a6, .inl (cyI, 15, .inl (fun _ => 0)))]) [1, 2, 3, 4, 5] (by decide) rfl
  refine yy_calli [1, 2, 3, 4, 5] [0] (wr := [(a2, .inl (cyI, 15, .inl yR))]) (va_runV (As := [.int 3, .int v0]) (rest := [.int 3, .ref a2]) ⟨hx, hb, hml, hown, hts⟩ (k_shown l dC dI cyI cyZ cyO H.size a0 a1 a2 a3 a4 a5 a6 3 v0 (by first | exact yin (by decide) | assumption)) (cwV 2 hts gX9_look_X9_shown rfl rfl rfl (by decide +kernel) ⟨Nat.le_of_ble_eq_true rfl, Nat.le_of_ble_eq_true rfl⟩) (yPreV hK hPc hDc (ci := 9) (q0 := 0) rfl rfl) rfl rfl hl.1 rfl (lv_room (Nat.le_of_ble_eq_true rfl)) dX9_look_16 ⟨Nat.le_of_ble_eq_true rfl, Nat.le_of_ble_eq_true rfl⟩) hP hD hS hA rfl rfl (by decide) (by decide) (fun r_8 u_7 H locs hw hP hD hS => ?_)
  have hP : va_P (dC, dI) vwCl [(a2, .inl (cyI, 15, .inl yR)), (a0, .inr (9, [.ref a1, .ref a2, .ref a3, .ref a4, .ref a5, .ref a6])), (a1, .inl (cyI, 15, .inl yR)), (a4, .inl (cyI, 15, .inl (fun _ => 0))), (a5, .inl (cyI, 15, .inl (fun _ => 0))), (a6, .inl (cyI, 15, .inl (fun _ => 0)))] H := hP
  have hD : va_D A [(a2, .inl (cyI, 15, .inl yR)), (a0, .inr (9, [.ref a1, .ref a2, .ref a3, .ref a4, .ref a5, .ref a6])), (a1, .inl (cyI, 15, .inl yR)), (a4, .inl (cyI, 15, .inl (fun _ => 0))), (a5, .inl (cyI, 15, .inl (fun _ => 0))), (a6, .inl (cyI, 15, .inl (fun _ => 0)))] := hD
  refine W.widen (k := 0) (n := 0) (Nat.le_of_ble_eq_true rfl) (Nat.le_of_ble_eq_true rfl) ?_
  have hw : r_8 = 0 := hw.trans (by decide)
  subst hw
  refine yy_iast (f' := yR) hx hb hK hP hD hS 0 0 rfl rfl (yin (by decide)) dX9_look_19 (yid rfl) (fun H locs hP hD hS => ?_)
  have hP : va_P (dC, dI) vwCl [(a2, .inl (cyI, 15, .inl yR)), (a0, .inr (9, [.ref a1, .ref a2, .ref a3, .ref a4, .ref a5, .ref a6])), (a1, .inl (cyI, 15, .inl yR)), (a4, .inl (cyI, 15, .inl (fun _ => 0))), (a5, .inl (cyI, 15, .inl (fun _ => 0))), (a6, .inl (cyI, 15, .inl (fun _ => 0)))] H := hP
  have hD : va_D A [(a2, .inl (cyI, 15, .inl yR)), (a0, .inr (9, [.ref a1, .ref a2, .ref a3, .ref a4, .ref a5, .ref a6])), (a1, .inl (cyI, 15, .inl yR)), (a4, .inl (cyI, 15, .inl (fun _ => 0))), (a5, .inl (cyI, 15, .inl (fun _ => 0))), (a6, .inl (cyI, 15, .inl (fun _ => 0)))] := hD
  refine lv_iinc (v := 4) (lv' := [(2, .int 4), (0, .ref a0), (1, .int v0)]) hx hb dX9_look_20 hl (k := 0) rfl (by decide) (by decide) rfl (fun ls hl => ?_)
  refine lv_goto (tgt := 2) hx hb dX9_look_23 (by decide) ?_
  refine lv_iload_n hx hb dX9_look_2 rfl (lv_at hl 0 rfl) ?_
  refine lv_bipush (v := 15) hx hb dX9_look_3 (by decide) ?_
  refine lv_icmp_ge (tgt := 26) hx hb dX9_look_5 (by decide) (fun c => absurd c (by decide)) (fun _ => ?_)
  refine lv_aload_n hx hb dX9_look_8 rfl (lv_at hl 1 rfl) ?_
  refine va_get (D := (dC, dI)) (ci := 9) (v := .ref a2) (C := RX9) (T := TX9) (N := 6) hx hb hts hnX9 hown hK hP 1 rfl rfl 1 (by decide) hf13 (fun _ h9 => h9) rfl dX9_look_9 ?_
  refine lv_iload_n hx hb dX9_look_12 rfl (lv_at hl 0 rfl) ?_
  refine lv_aload_n hx hb dX9_look_13 rfl (lv_at hl 1 rfl) ?_
  refine lv_iload_n hx hb dX9_look_14 rfl (lv_at hl 0 rfl) ?_
  refine lv_iload_n hx hb dX9_look_15 rfl (lv_at hl 2 rfl) ?_
  have hPc := hP.sub (ws' := [(a0, .inr (9, [.ref a1, .ref a2, .ref a3, .ref a4, .ref a5, .ref a6])), (a1, .inl (cyI, 15, .inl yR)), (a4, .inl (cyI, 15, .inl (fun _ => 0))), (a5, .inl (cyI, 15, .inl (fun _ => 0))), (a6, .inl (cyI, 15, .inl (fun _ => 0)))]) [1, 2, 3, 4, 5] rfl
  have hDc := hD.sub (ws' := [(a0, .inr (9, [.ref a1, .ref a2, .ref a3, .ref a4, .ref a5, .ref a6])), (a1, .inl (cyI, 15, .inl yR)), (a4, .inl (cyI, 15, .inl (fun _ => 0))), (a5, .inl (cyI, 15, .inl (fun _ => 0))), (a6, .inl (cyI, 15, .inl (fun _ => 0)))]) [1, 2, 3, 4, 5] (by decide) rfl
  refine yy_calli [1, 2, 3, 4, 5] [0] (wr := [(a2, .inl (cyI, 15, .inl yR))]) (va_runV (As := [.int 4, .int v0]) (rest := [.int 4, .ref a2]) ⟨hx, hb, hml, hown, hts⟩ (k_shown l dC dI cyI cyZ cyO H.size a0 a1 a2 a3 a4 a5 a6 4 v0 (by first | exact yin (by decide) | assumption)) (cwV 2 hts gX9_look_X9_shown rfl rfl rfl (by decide +kernel) ⟨Nat.le_of_ble_eq_true rfl, Nat.le_of_ble_eq_true rfl⟩) (yPreV hK hPc hDc (ci := 9) (q0 := 0) rfl rfl) rfl rfl hl.1 rfl (lv_room (Nat.le_of_ble_eq_true rfl)) dX9_look_16 ⟨Nat.le_of_ble_eq_true rfl, Nat.le_of_ble_eq_true rfl⟩) hP hD hS hA rfl rfl (by decide) (by decide) (fun r_10 u_9 H locs hw hP hD hS => ?_)
  have hP : va_P (dC, dI) vwCl [(a2, .inl (cyI, 15, .inl yR)), (a0, .inr (9, [.ref a1, .ref a2, .ref a3, .ref a4, .ref a5, .ref a6])), (a1, .inl (cyI, 15, .inl yR)), (a4, .inl (cyI, 15, .inl (fun _ => 0))), (a5, .inl (cyI, 15, .inl (fun _ => 0))), (a6, .inl (cyI, 15, .inl (fun _ => 0)))] H := hP
  have hD : va_D A [(a2, .inl (cyI, 15, .inl yR)), (a0, .inr (9, [.ref a1, .ref a2, .ref a3, .ref a4, .ref a5, .ref a6])), (a1, .inl (cyI, 15, .inl yR)), (a4, .inl (cyI, 15, .inl (fun _ => 0))), (a5, .inl (cyI, 15, .inl (fun _ => 0))), (a6, .inl (cyI, 15, .inl (fun _ => 0)))] := hD
  refine W.widen (k := 0) (n := 0) (Nat.le_of_ble_eq_true rfl) (Nat.le_of_ble_eq_true rfl) ?_
  have hw : r_10 = 1 := hw.trans (by decide)
  subst hw
  refine yy_iast (f' := yR) hx hb hK hP hD hS 0 0 rfl rfl (yin (by decide)) dX9_look_19 (yid rfl) (fun H locs hP hD hS => ?_)
  have hP : va_P (dC, dI) vwCl [(a2, .inl (cyI, 15, .inl yR)), (a0, .inr (9, [.ref a1, .ref a2, .ref a3, .ref a4, .ref a5, .ref a6])), (a1, .inl (cyI, 15, .inl yR)), (a4, .inl (cyI, 15, .inl (fun _ => 0))), (a5, .inl (cyI, 15, .inl (fun _ => 0))), (a6, .inl (cyI, 15, .inl (fun _ => 0)))] H := hP
  have hD : va_D A [(a2, .inl (cyI, 15, .inl yR)), (a0, .inr (9, [.ref a1, .ref a2, .ref a3, .ref a4, .ref a5, .ref a6])), (a1, .inl (cyI, 15, .inl yR)), (a4, .inl (cyI, 15, .inl (fun _ => 0))), (a5, .inl (cyI, 15, .inl (fun _ => 0))), (a6, .inl (cyI, 15, .inl (fun _ => 0)))] := hD
  refine lv_iinc (v := 5) (lv' := [(2, .int 5), (0, .ref a0), (1, .int v0)]) hx hb dX9_look_20 hl (k := 0) rfl (by decide) (by decide) rfl (fun ls hl => ?_)
  refine lv_goto (tgt := 2) hx hb dX9_look_23 (by decide) ?_
  refine lv_iload_n hx hb dX9_look_2 rfl (lv_at hl 0 rfl) ?_
  refine lv_bipush (v := 15) hx hb dX9_look_3 (by decide) ?_
  refine lv_icmp_ge (tgt := 26) hx hb dX9_look_5 (by decide) (fun c => absurd c (by decide)) (fun _ => ?_)
  refine lv_aload_n hx hb dX9_look_8 rfl (lv_at hl 1 rfl) ?_
  refine va_get (D := (dC, dI)) (ci := 9) (v := .ref a2) (C := RX9) (T := TX9) (N := 6) hx hb hts hnX9 hown hK hP 1 rfl rfl 1 (by decide) hf13 (fun _ h9 => h9) rfl dX9_look_9 ?_
  refine lv_iload_n hx hb dX9_look_12 rfl (lv_at hl 0 rfl) ?_
  refine lv_aload_n hx hb dX9_look_13 rfl (lv_at hl 1 rfl) ?_
  refine lv_iload_n hx hb dX9_look_14 rfl (lv_at hl 0 rfl) ?_
  refine lv_iload_n hx hb dX9_look_15 rfl (lv_at hl 2 rfl) ?_
  have hPc := hP.sub (ws' := [(a0, .inr (9, [.ref a1, .ref a2, .ref a3, .ref a4, .ref a5, .ref a6])), (a1, .inl (cyI, 15, .inl yR)), (a4, .inl (cyI, 15, .inl (fun _ => 0))), (a5, .inl (cyI, 15, .inl (fun _ => 0))), (a6, .inl (cyI, 15, .inl (fun _ => 0)))]) [1, 2, 3, 4, 5] rfl
  have hDc := hD.sub (ws' := [(a0, .inr (9, [.ref a1, .ref a2, .ref a3, .ref a4, .ref a5, .ref a6])), (a1, .inl (cyI, 15, .inl yR)), (a4, .inl (cyI, 15, .inl (fun _ => 0))), (a5, .inl (cyI, 15, .inl (fun _ => 0))), (a6, .inl (cyI, 15, .inl (fun _ => 0)))]) [1, 2, 3, 4, 5] (by decide) rfl
  refine yy_calli [1, 2, 3, 4, 5] [0] (wr := [(a2, .inl (cyI, 15, .inl yR))]) (va_runV (As := [.int 5, .int v0]) (rest := [.int 5, .ref a2]) ⟨hx, hb, hml, hown, hts⟩ (k_shown l dC dI cyI cyZ cyO H.size a0 a1 a2 a3 a4 a5 a6 5 v0 (by first | exact yin (by decide) | assumption)) (cwV 2 hts gX9_look_X9_shown rfl rfl rfl (by decide +kernel) ⟨Nat.le_of_ble_eq_true rfl, Nat.le_of_ble_eq_true rfl⟩) (yPreV hK hPc hDc (ci := 9) (q0 := 0) rfl rfl) rfl rfl hl.1 rfl (lv_room (Nat.le_of_ble_eq_true rfl)) dX9_look_16 ⟨Nat.le_of_ble_eq_true rfl, Nat.le_of_ble_eq_true rfl⟩) hP hD hS hA rfl rfl (by decide) (by decide) (fun r_12 u_11 H locs hw hP hD hS => ?_)
  have hP : va_P (dC, dI) vwCl [(a2, .inl (cyI, 15, .inl yR)), (a0, .inr (9, [.ref a1, .ref a2, .ref a3, .ref a4, .ref a5, .ref a6])), (a1, .inl (cyI, 15, .inl yR)), (a4, .inl (cyI, 15, .inl (fun _ => 0))), (a5, .inl (cyI, 15, .inl (fun _ => 0))), (a6, .inl (cyI, 15, .inl (fun _ => 0)))] H := hP
  have hD : va_D A [(a2, .inl (cyI, 15, .inl yR)), (a0, .inr (9, [.ref a1, .ref a2, .ref a3, .ref a4, .ref a5, .ref a6])), (a1, .inl (cyI, 15, .inl yR)), (a4, .inl (cyI, 15, .inl (fun _ => 0))), (a5, .inl (cyI, 15, .inl (fun _ => 0))), (a6, .inl (cyI, 15, .inl (fun _ => 0)))] := hD
  refine W.widen (k := 0) (n := 0) (Nat.le_of_ble_eq_true rfl) (Nat.le_of_ble_eq_true rfl) ?_
  have hw : r_12 = 0 := hw.trans (by decide)
  subst hw
  refine yy_iast (f' := yR) hx hb hK hP hD hS 0 0 rfl rfl (yin (by decide)) dX9_look_19 (yid rfl) (fun H locs hP hD hS => ?_)
  have hP : va_P (dC, dI) vwCl [(a2, .inl (cyI, 15, .inl yR)), (a0, .inr (9, [.ref a1, .ref a2, .ref a3, .ref a4, .ref a5, .ref a6])), (a1, .inl (cyI, 15, .inl yR)), (a4, .inl (cyI, 15, .inl (fun _ => 0))), (a5, .inl (cyI, 15, .inl (fun _ => 0))), (a6, .inl (cyI, 15, .inl (fun _ => 0)))] H := hP
  have hD : va_D A [(a2, .inl (cyI, 15, .inl yR)), (a0, .inr (9, [.ref a1, .ref a2, .ref a3, .ref a4, .ref a5, .ref a6])), (a1, .inl (cyI, 15, .inl yR)), (a4, .inl (cyI, 15, .inl (fun _ => 0))), (a5, .inl (cyI, 15, .inl (fun _ => 0))), (a6, .inl (cyI, 15, .inl (fun _ => 0)))] := hD
  refine lv_iinc (v := 6) (lv' := [(2, .int 6), (0, .ref a0), (1, .int v0)]) hx hb dX9_look_20 hl (k := 0) rfl (by decide) (by decide) rfl (fun ls hl => ?_)
  refine lv_goto (tgt := 2) hx hb dX9_look_23 (by decide) ?_
  refine lv_iload_n hx hb dX9_look_2 rfl (lv_at hl 0 rfl) ?_
  refine lv_bipush (v := 15) hx hb dX9_look_3 (by decide) ?_
  refine lv_icmp_ge (tgt := 26) hx hb dX9_look_5 (by decide) (fun c => absurd c (by decide)) (fun _ => ?_)
  refine lv_aload_n hx hb dX9_look_8 rfl (lv_at hl 1 rfl) ?_
  refine va_get (D := (dC, dI)) (ci := 9) (v := .ref a2) (C := RX9) (T := TX9) (N := 6) hx hb hts hnX9 hown hK hP 1 rfl rfl 1 (by decide) hf13 (fun _ h9 => h9) rfl dX9_look_9 ?_
  refine lv_iload_n hx hb dX9_look_12 rfl (lv_at hl 0 rfl) ?_
  refine lv_aload_n hx hb dX9_look_13 rfl (lv_at hl 1 rfl) ?_
  refine lv_iload_n hx hb dX9_look_14 rfl (lv_at hl 0 rfl) ?_
  refine lv_iload_n hx hb dX9_look_15 rfl (lv_at hl 2 rfl) ?_
  have hPc := hP.sub (ws' := [(a0, .inr (9, [.ref a1, .ref a2, .ref a3, .ref a4, .ref a5, .ref a6])), (a1, .inl (cyI, 15, .inl yR)), (a4, .inl (cyI, 15, .inl (fun _ => 0))), (a5, .inl (cyI, 15, .inl (fun _ => 0))), (a6, .inl (cyI, 15, .inl (fun _ => 0)))]) [1, 2, 3, 4, 5] rfl
  have hDc := hD.sub (ws' := [(a0, .inr (9, [.ref a1, .ref a2, .ref a3, .ref a4, .ref a5, .ref a6])), (a1, .inl (cyI, 15, .inl yR)), (a4, .inl (cyI, 15, .inl (fun _ => 0))), (a5, .inl (cyI, 15, .inl (fun _ => 0))), (a6, .inl (cyI, 15, .inl (fun _ => 0)))]) [1, 2, 3, 4, 5] (by decide) rfl
  refine yy_calli [1, 2, 3, 4, 5] [0] (wr := [(a2, .inl (cyI, 15, .inl yR))]) (va_runV (As := [.int 6, .int v0]) (rest := [.int 6, .ref a2]) ⟨hx, hb, hml, hown, hts⟩ (k_shown l dC dI cyI cyZ cyO H.size a0 a1 a2 a3 a4 a5 a6 6 v0 (by first | exact yin (by decide) | assumption)) (cwV 2 hts gX9_look_X9_shown rfl rfl rfl (by decide +kernel) ⟨Nat.le_of_ble_eq_true rfl, Nat.le_of_ble_eq_true rfl⟩) (yPreV hK hPc hDc (ci := 9) (q0 := 0) rfl rfl) rfl rfl hl.1 rfl (lv_room (Nat.le_of_ble_eq_true rfl)) dX9_look_16 ⟨Nat.le_of_ble_eq_true rfl, Nat.le_of_ble_eq_true rfl⟩) hP hD hS hA rfl rfl (by decide) (by decide) (fun r_14 u_13 H locs hw hP hD hS => ?_)
  have hP : va_P (dC, dI) vwCl [(a2, .inl (cyI, 15, .inl yR)), (a0, .inr (9, [.ref a1, .ref a2, .ref a3, .ref a4, .ref a5, .ref a6])), (a1, .inl (cyI, 15, .inl yR)), (a4, .inl (cyI, 15, .inl (fun _ => 0))), (a5, .inl (cyI, 15, .inl (fun _ => 0))), (a6, .inl (cyI, 15, .inl (fun _ => 0)))] H := hP
  have hD : va_D A [(a2, .inl (cyI, 15, .inl yR)), (a0, .inr (9, [.ref a1, .ref a2, .ref a3, .ref a4, .ref a5, .ref a6])), (a1, .inl (cyI, 15, .inl yR)), (a4, .inl (cyI, 15, .inl (fun _ => 0))), (a5, .inl (cyI, 15, .inl (fun _ => 0))), (a6, .inl (cyI, 15, .inl (fun _ => 0)))] := hD
  refine W.widen (k := 0) (n := 0) (Nat.le_of_ble_eq_true rfl) (Nat.le_of_ble_eq_true rfl) ?_
  have hw : r_14 = 0 := hw.trans (by decide)
  subst hw
  refine yy_iast (f' := yR) hx hb hK hP hD hS 0 0 rfl rfl (yin (by decide)) dX9_look_19 (yid rfl) (fun H locs hP hD hS => ?_)
  have hP : va_P (dC, dI) vwCl [(a2, .inl (cyI, 15, .inl yR)), (a0, .inr (9, [.ref a1, .ref a2, .ref a3, .ref a4, .ref a5, .ref a6])), (a1, .inl (cyI, 15, .inl yR)), (a4, .inl (cyI, 15, .inl (fun _ => 0))), (a5, .inl (cyI, 15, .inl (fun _ => 0))), (a6, .inl (cyI, 15, .inl (fun _ => 0)))] H := hP
  have hD : va_D A [(a2, .inl (cyI, 15, .inl yR)), (a0, .inr (9, [.ref a1, .ref a2, .ref a3, .ref a4, .ref a5, .ref a6])), (a1, .inl (cyI, 15, .inl yR)), (a4, .inl (cyI, 15, .inl (fun _ => 0))), (a5, .inl (cyI, 15, .inl (fun _ => 0))), (a6, .inl (cyI, 15, .inl (fun _ => 0)))] := hD
  refine lv_iinc (v := 7) (lv' := [(2, .int 7), (0, .ref a0), (1, .int v0)]) hx hb dX9_look_20 hl (k := 0) rfl (by decide) (by decide) rfl (fun ls hl => ?_)
  refine lv_goto (tgt := 2) hx hb dX9_look_23 (by decide) ?_
  refine lv_iload_n hx hb dX9_look_2 rfl (lv_at hl 0 rfl) ?_
  refine lv_bipush (v := 15) hx hb dX9_look_3 (by decide) ?_
  refine lv_icmp_ge (tgt := 26) hx hb dX9_look_5 (by decide) (fun c => absurd c (by decide)) (fun _ => ?_)
  refine lv_aload_n hx hb dX9_look_8 rfl (lv_at hl 1 rfl) ?_
  refine va_get (D := (dC, dI)) (ci := 9) (v := .ref a2) (C := RX9) (T := TX9) (N := 6) hx hb hts hnX9 hown hK hP 1 rfl rfl 1 (by decide) hf13 (fun _ h9 => h9) rfl dX9_look_9 ?_
  refine lv_iload_n hx hb dX9_look_12 rfl (lv_at hl 0 rfl) ?_
  refine lv_aload_n hx hb dX9_look_13 rfl (lv_at hl 1 rfl) ?_
  refine lv_iload_n hx hb dX9_look_14 rfl (lv_at hl 0 rfl) ?_
  refine lv_iload_n hx hb dX9_look_15 rfl (lv_at hl 2 rfl) ?_
  have hPc := hP.sub (ws' := [(a0, .inr (9, [.ref a1, .ref a2, .ref a3, .ref a4, .ref a5, .ref a6])), (a1, .inl (cyI, 15, .inl yR)), (a4, .inl (cyI, 15, .inl (fun _ => 0))), (a5, .inl (cyI, 15, .inl (fun _ => 0))), (a6, .inl (cyI, 15, .inl (fun _ => 0)))]) [1, 2, 3, 4, 5] rfl
  have hDc := hD.sub (ws' := [(a0, .inr (9, [.ref a1, .ref a2, .ref a3, .ref a4, .ref a5, .ref a6])), (a1, .inl (cyI, 15, .inl yR)), (a4, .inl (cyI, 15, .inl (fun _ => 0))), (a5, .inl (cyI, 15, .inl (fun _ => 0))), (a6, .inl (cyI, 15, .inl (fun _ => 0)))]) [1, 2, 3, 4, 5] (by decide) rfl
  refine yy_calli [1, 2, 3, 4, 5] [0] (wr := [(a2, .inl (cyI, 15, .inl yR))]) (va_runV (As := [.int 7, .int v0]) (rest := [.int 7, .ref a2]) ⟨hx, hb, hml, hown, hts⟩ (k_shown l dC dI cyI cyZ cyO H.size a0 a1 a2 a3 a4 a5 a6 7 v0 (by first | exact yin (by decide) | assumption)) (cwV 2 hts gX9_look_X9_shown rfl rfl rfl (by decide +kernel) ⟨Nat.le_of_ble_eq_true rfl, Nat.le_of_ble_eq_true rfl⟩) (yPreV hK hPc hDc (ci := 9) (q0 := 0) rfl rfl) rfl rfl hl.1 rfl (lv_room (Nat.le_of_ble_eq_true rfl)) dX9_look_16 ⟨Nat.le_of_ble_eq_true rfl, Nat.le_of_ble_eq_true rfl⟩) hP hD hS hA rfl rfl (by decide) (by decide) (fun r_16 u_15 H locs hw hP hD hS => ?_)
  have hP : va_P (dC, dI) vwCl [(a2, .inl (cyI, 15, .inl yR)), (a0, .inr (9, [.ref a1, .ref a2, .ref a3, .ref a4, .ref a5, .ref a6])), (a1, .inl (cyI, 15, .inl yR)), (a4, .inl (cyI, 15, .inl (fun _ => 0))), (a5, .inl (cyI, 15, .inl (fun _ => 0))), (a6, .inl (cyI, 15, .inl (fun _ => 0)))] H := hP
  have hD : va_D A [(a2, .inl (cyI, 15, .inl yR)), (a0, .inr (9, [.ref a1, .ref a2, .ref a3, .ref a4, .ref a5, .ref a6])), (a1, .inl (cyI, 15, .inl yR)), (a4, .inl (cyI, 15, .inl (fun _ => 0))), (a5, .inl (cyI, 15, .inl (fun _ => 0))), (a6, .inl (cyI, 15, .inl (fun _ => 0)))] := hD
  refine W.widen (k := 0) (n := 0) (Nat.le_of_ble_eq_true rfl) (Nat.le_of_ble_eq_true rfl) ?_
  have hw : r_16 = 0 := hw.trans (by decide)
  subst hw
  refine yy_iast (f' := yR) hx hb hK hP hD hS 0 0 rfl rfl (yin (by decide)) dX9_look_19 (yid rfl) (fun H locs hP hD hS => ?_)
  have hP : va_P (dC, dI) vwCl [(a2, .inl (cyI, 15, .inl yR)), (a0, .inr (9, [.ref a1, .ref a2, .ref a3, .ref a4, .ref a5, .ref a6])), (a1, .inl (cyI, 15, .inl yR)), (a4, .inl (cyI, 15, .inl (fun _ => 0))), (a5, .inl (cyI, 15, .inl (fun _ => 0))), (a6, .inl (cyI, 15, .inl (fun _ => 0)))] H := hP
  have hD : va_D A [(a2, .inl (cyI, 15, .inl yR)), (a0, .inr (9, [.ref a1, .ref a2, .ref a3, .ref a4, .ref a5, .ref a6])), (a1, .inl (cyI, 15, .inl yR)), (a4, .inl (cyI, 15, .inl (fun _ => 0))), (a5, .inl (cyI, 15, .inl (fun _ => 0))), (a6, .inl (cyI, 15, .inl (fun _ => 0)))] := hD
  refine lv_iinc (v := 8) (lv' := [(2, .int 8), (0, .ref a0), (1, .int v0)]) hx hb dX9_look_20 hl (k := 0) rfl (by decide) (by decide) rfl (fun ls hl => ?_)
  refine lv_goto (tgt := 2) hx hb dX9_look_23 (by decide) ?_
  refine lv_iload_n hx hb dX9_look_2 rfl (lv_at hl 0 rfl) ?_
  refine lv_bipush (v := 15) hx hb dX9_look_3 (by decide) ?_
  refine lv_icmp_ge (tgt := 26) hx hb dX9_look_5 (by decide) (fun c => absurd c (by decide)) (fun _ => ?_)
  refine lv_aload_n hx hb dX9_look_8 rfl (lv_at hl 1 rfl) ?_
  refine va_get (D := (dC, dI)) (ci := 9) (v := .ref a2) (C := RX9) (T := TX9) (N := 6) hx hb hts hnX9 hown hK hP 1 rfl rfl 1 (by decide) hf13 (fun _ h9 => h9) rfl dX9_look_9 ?_
  refine lv_iload_n hx hb dX9_look_12 rfl (lv_at hl 0 rfl) ?_
  refine lv_aload_n hx hb dX9_look_13 rfl (lv_at hl 1 rfl) ?_
  refine lv_iload_n hx hb dX9_look_14 rfl (lv_at hl 0 rfl) ?_
  refine lv_iload_n hx hb dX9_look_15 rfl (lv_at hl 2 rfl) ?_
  have hPc := hP.sub (ws' := [(a0, .inr (9, [.ref a1, .ref a2, .ref a3, .ref a4, .ref a5, .ref a6])), (a1, .inl (cyI, 15, .inl yR)), (a4, .inl (cyI, 15, .inl (fun _ => 0))), (a5, .inl (cyI, 15, .inl (fun _ => 0))), (a6, .inl (cyI, 15, .inl (fun _ => 0)))]) [1, 2, 3, 4, 5] rfl
  have hDc := hD.sub (ws' := [(a0, .inr (9, [.ref a1, .ref a2, .ref a3, .ref a4, .ref a5, .ref a6])), (a1, .inl (cyI, 15, .inl yR)), (a4, .inl (cyI, 15, .inl (fun _ => 0))), (a5, .inl (cyI, 15, .inl (fun _ => 0))), (a6, .inl (cyI, 15, .inl (fun _ => 0)))]) [1, 2, 3, 4, 5] (by decide) rfl
  refine yy_calli [1, 2, 3, 4, 5] [0] (wr := [(a2, .inl (cyI, 15, .inl yR))]) (va_runV (As := [.int 8, .int v0]) (rest := [.int 8, .ref a2]) ⟨hx, hb, hml, hown, hts⟩ (k_shown l dC dI cyI cyZ cyO H.size a0 a1 a2 a3 a4 a5 a6 8 v0 (by first | exact yin (by decide) | assumption)) (cwV 2 hts gX9_look_X9_shown rfl rfl rfl (by decide +kernel) ⟨Nat.le_of_ble_eq_true rfl, Nat.le_of_ble_eq_true rfl⟩) (yPreV hK hPc hDc (ci := 9) (q0 := 0) rfl rfl) rfl rfl hl.1 rfl (lv_room (Nat.le_of_ble_eq_true rfl)) dX9_look_16 ⟨Nat.le_of_ble_eq_true rfl, Nat.le_of_ble_eq_true rfl⟩) hP hD hS hA rfl rfl (by decide) (by decide) (fun r_18 u_17 H locs hw hP hD hS => ?_)
  have hP : va_P (dC, dI) vwCl [(a2, .inl (cyI, 15, .inl yR)), (a0, .inr (9, [.ref a1, .ref a2, .ref a3, .ref a4, .ref a5, .ref a6])), (a1, .inl (cyI, 15, .inl yR)), (a4, .inl (cyI, 15, .inl (fun _ => 0))), (a5, .inl (cyI, 15, .inl (fun _ => 0))), (a6, .inl (cyI, 15, .inl (fun _ => 0)))] H := hP
  have hD : va_D A [(a2, .inl (cyI, 15, .inl yR)), (a0, .inr (9, [.ref a1, .ref a2, .ref a3, .ref a4, .ref a5, .ref a6])), (a1, .inl (cyI, 15, .inl yR)), (a4, .inl (cyI, 15, .inl (fun _ => 0))), (a5, .inl (cyI, 15, .inl (fun _ => 0))), (a6, .inl (cyI, 15, .inl (fun _ => 0)))] := hD
  refine W.widen (k := 0) (n := 0) (Nat.le_of_ble_eq_true rfl) (Nat.le_of_ble_eq_true rfl) ?_
  have hw : r_18 = 0 := hw.trans (by decide)
  subst hw
  refine yy_iast (f' := yR) hx hb hK hP hD hS 0 0 rfl rfl (yin (by decide)) dX9_look_19 (yid rfl) (fun H locs hP hD hS => ?_)
  have hP : va_P (dC, dI) vwCl [(a2, .inl (cyI, 15, .inl yR)), (a0, .inr (9, [.ref a1, .ref a2, .ref a3, .ref a4, .ref a5, .ref a6])), (a1, .inl (cyI, 15, .inl yR)), (a4, .inl (cyI, 15, .inl (fun _ => 0))), (a5, .inl (cyI, 15, .inl (fun _ => 0))), (a6, .inl (cyI, 15, .inl (fun _ => 0)))] H := hP
  have hD : va_D A [(a2, .inl (cyI, 15, .inl yR)), (a0, .inr (9, [.ref a1, .ref a2, .ref a3, .ref a4, .ref a5, .ref a6])), (a1, .inl (cyI, 15, .inl yR)), (a4, .inl (cyI, 15, .inl (fun _ => 0))), (a5, .inl (cyI, 15, .inl (fun _ => 0))), (a6, .inl (cyI, 15, .inl (fun _ => 0)))] := hD
  refine lv_iinc (v := 9) (lv' := [(2, .int 9), (0, .ref a0), (1, .int v0)]) hx hb dX9_look_20 hl (k := 0) rfl (by decide) (by decide) rfl (fun ls hl => ?_)
  refine lv_goto (tgt := 2) hx hb dX9_look_23 (by decide) ?_
  refine lv_iload_n hx hb dX9_look_2 rfl (lv_at hl 0 rfl) ?_
  refine lv_bipush (v := 15) hx hb dX9_look_3 (by decide) ?_
  refine lv_icmp_ge (tgt := 26) hx hb dX9_look_5 (by decide) (fun c => absurd c (by decide)) (fun _ => ?_)
  refine lv_aload_n hx hb dX9_look_8 rfl (lv_at hl 1 rfl) ?_
  refine va_get (D := (dC, dI)) (ci := 9) (v := .ref a2) (C := RX9) (T := TX9) (N := 6) hx hb hts hnX9 hown hK hP 1 rfl rfl 1 (by decide) hf13 (fun _ h9 => h9) rfl dX9_look_9 ?_
  refine lv_iload_n hx hb dX9_look_12 rfl (lv_at hl 0 rfl) ?_
  refine lv_aload_n hx hb dX9_look_13 rfl (lv_at hl 1 rfl) ?_
  refine lv_iload_n hx hb dX9_look_14 rfl (lv_at hl 0 rfl) ?_
  refine lv_iload_n hx hb dX9_look_15 rfl (lv_at hl 2 rfl) ?_
  have hPc := hP.sub (ws' := [(a0, .inr (9, [.ref a1, .ref a2, .ref a3, .ref a4, .ref a5, .ref a6])), (a1, .inl (cyI, 15, .inl yR)), (a4, .inl (cyI, 15, .inl (fun _ => 0))), (a5, .inl (cyI, 15, .inl (fun _ => 0))), (a6, .inl (cyI, 15, .inl (fun _ => 0)))]) [1, 2, 3, 4, 5] rfl
  have hDc := hD.sub (ws' := [(a0, .inr (9, [.ref a1, .ref a2, .ref a3, .ref a4, .ref a5, .ref a6])), (a1, .inl (cyI, 15, .inl yR)), (a4, .inl (cyI, 15, .inl (fun _ => 0))), (a5, .inl (cyI, 15, .inl (fun _ => 0))), (a6, .inl (cyI, 15, .inl (fun _ => 0)))]) [1, 2, 3, 4, 5] (by decide) rfl
  refine yy_calli [1, 2, 3, 4, 5] [0] (wr := [(a2, .inl (cyI, 15, .inl yR))]) (va_runV (As := [.int 9, .int v0]) (rest := [.int 9, .ref a2]) ⟨hx, hb, hml, hown, hts⟩ (k_shown l dC dI cyI cyZ cyO H.size a0 a1 a2 a3 a4 a5 a6 9 v0 (by first | exact yin (by decide) | assumption)) (cwV 2 hts gX9_look_X9_shown rfl rfl rfl (by decide +kernel) ⟨Nat.le_of_ble_eq_true rfl, Nat.le_of_ble_eq_true rfl⟩) (yPreV hK hPc hDc (ci := 9) (q0 := 0) rfl rfl) rfl rfl hl.1 rfl (lv_room (Nat.le_of_ble_eq_true rfl)) dX9_look_16 ⟨Nat.le_of_ble_eq_true rfl, Nat.le_of_ble_eq_true rfl⟩) hP hD hS hA rfl rfl (by decide) (by decide) (fun r_20 u_19 H locs hw hP hD hS => ?_)
  have hP : va_P (dC, dI) vwCl [(a2, .inl (cyI, 15, .inl yR)), (a0, .inr (9, [.ref a1, .ref a2, .ref a3, .ref a4, .ref a5, .ref a6])), (a1, .inl (cyI, 15, .inl yR)), (a4, .inl (cyI, 15, .inl (fun _ => 0))), (a5, .inl (cyI, 15, .inl (fun _ => 0))), (a6, .inl (cyI, 15, .inl (fun _ => 0)))] H := hP
  have hD : va_D A [(a2, .inl (cyI, 15, .inl yR)), (a0, .inr (9, [.ref a1, .ref a2, .ref a3, .ref a4, .ref a5, .ref a6])), (a1, .inl (cyI, 15, .inl yR)), (a4, .inl (cyI, 15, .inl (fun _ => 0))), (a5, .inl (cyI, 15, .inl (fun _ => 0))), (a6, .inl (cyI, 15, .inl (fun _ => 0)))] := hD
  refine W.widen (k := 0) (n := 0) (Nat.le_of_ble_eq_true rfl) (Nat.le_of_ble_eq_true rfl) ?_
  have hw : r_20 = 0 := hw.trans (by decide)
  subst hw
  refine yy_iast (f' := yR) hx hb hK hP hD hS 0 0 rfl rfl (yin (by decide)) dX9_look_19 (yid rfl) (fun H locs hP hD hS => ?_)
  have hP : va_P (dC, dI) vwCl [(a2, .inl (cyI, 15, .inl yR)), (a0, .inr (9, [.ref a1, .ref a2, .ref a3, .ref a4, .ref a5, .ref a6])), (a1, .inl (cyI, 15, .inl yR)), (a4, .inl (cyI, 15, .inl (fun _ => 0))), (a5, .inl (cyI, 15, .inl (fun _ => 0))), (a6, .inl (cyI, 15, .inl (fun _ => 0)))] H := hP
  have hD : va_D A [(a2, .inl (cyI, 15, .inl yR)), (a0, .inr (9, [.ref a1, .ref a2, .ref a3, .ref a4, .ref a5, .ref a6])), (a1, .inl (cyI, 15, .inl yR)), (a4, .inl (cyI, 15, .inl (fun _ => 0))), (a5, .inl (cyI, 15, .inl (fun _ => 0))), (a6, .inl (cyI, 15, .inl (fun _ => 0)))] := hD
  refine lv_iinc (v := 10) (lv' := [(2, .int 10), (0, .ref a0), (1, .int v0)]) hx hb dX9_look_20 hl (k := 0) rfl (by decide) (by decide) rfl (fun ls hl => ?_)
  refine lv_goto (tgt := 2) hx hb dX9_look_23 (by decide) ?_
  refine lv_iload_n hx hb dX9_look_2 rfl (lv_at hl 0 rfl) ?_
  refine lv_bipush (v := 15) hx hb dX9_look_3 (by decide) ?_
  refine lv_icmp_ge (tgt := 26) hx hb dX9_look_5 (by decide) (fun c => absurd c (by decide)) (fun _ => ?_)
  refine lv_aload_n hx hb dX9_look_8 rfl (lv_at hl 1 rfl) ?_
  refine va_get (D := (dC, dI)) (ci := 9) (v := .ref a2) (C := RX9) (T := TX9) (N := 6) hx hb hts hnX9 hown hK hP 1 rfl rfl 1 (by decide) hf13 (fun _ h9 => h9) rfl dX9_look_9 ?_
  refine lv_iload_n hx hb dX9_look_12 rfl (lv_at hl 0 rfl) ?_
  refine lv_aload_n hx hb dX9_look_13 rfl (lv_at hl 1 rfl) ?_
  refine lv_iload_n hx hb dX9_look_14 rfl (lv_at hl 0 rfl) ?_
  refine lv_iload_n hx hb dX9_look_15 rfl (lv_at hl 2 rfl) ?_
  have hPc := hP.sub (ws' := [(a0, .inr (9, [.ref a1, .ref a2, .ref a3, .ref a4, .ref a5, .ref a6])), (a1, .inl (cyI, 15, .inl yR)), (a4, .inl (cyI, 15, .inl (fun _ => 0))), (a5, .inl (cyI, 15, .inl (fun _ => 0))), (a6, .inl (cyI, 15, .inl (fun _ => 0)))]) [1, 2, 3, 4, 5] rfl
  have hDc := hD.sub (ws' := [(a0, .inr (9, [.ref a1, .ref a2, .ref a3, .ref a4, .ref a5, .ref a6])), (a1, .inl (cyI, 15, .inl yR)), (a4, .inl (cyI, 15, .inl (fun _ => 0))), (a5, .inl (cyI, 15, .inl (fun _ => 0))), (a6, .inl (cyI, 15, .inl (fun _ => 0)))]) [1, 2, 3, 4, 5] (by decide) rfl
  refine yy_calli [1, 2, 3, 4, 5] [0] (wr := [(a2, .inl (cyI, 15, .inl yR))]) (va_runV (As := [.int 10, .int v0]) (rest := [.int 10, .ref a2]) ⟨hx, hb, hml, hown, hts⟩ (k_shown l dC dI cyI cyZ cyO H.size a0 a1 a2 a3 a4 a5 a6 10 v0 (by first | exact yin (by decide) | assumption)) (cwV 2 hts gX9_look_X9_shown rfl rfl rfl (by decide +kernel) ⟨Nat.le_of_ble_eq_true rfl, Nat.le_of_ble_eq_true rfl⟩) (yPreV hK hPc hDc (ci := 9) (q0 := 0) rfl rfl) rfl rfl hl.1 rfl (lv_room (Nat.le_of_ble_eq_true rfl)) dX9_look_16 ⟨Nat.le_of_ble_eq_true rfl, Nat.le_of_ble_eq_true rfl⟩) hP hD hS hA rfl rfl (by decide) (by decide) (fun r_22 u_21 H locs hw hP hD hS => ?_)
  have hP : va_P (dC, dI) vwCl [(a2, .inl (cyI, 15, .inl yR)), (a0, .inr (9, [.ref a1, .ref a2, .ref a3, .ref a4, .ref a5, .ref a6])), (a1, .inl (cyI, 15, .inl yR)), (a4, .inl (cyI, 15, .inl (fun _ => 0))), (a5, .inl (cyI, 15, .inl (fun _ => 0))), (a6, .inl (cyI, 15, .inl (fun _ => 0)))] H := hP
  have hD : va_D A [(a2, .inl (cyI, 15, .inl yR)), (a0, .inr (9, [.ref a1, .ref a2, .ref a3, .ref a4, .ref a5, .ref a6])), (a1, .inl (cyI, 15, .inl yR)), (a4, .inl (cyI, 15, .inl (fun _ => 0))), (a5, .inl (cyI, 15, .inl (fun _ => 0))), (a6, .inl (cyI, 15, .inl (fun _ => 0)))] := hD
  refine W.widen (k := 0) (n := 0) (Nat.le_of_ble_eq_true rfl) (Nat.le_of_ble_eq_true rfl) ?_
  have hw : r_22 = 0 := hw.trans (by decide)
  subst hw
  refine yy_iast (f' := yR) hx hb hK hP hD hS 0 0 rfl rfl (yin (by decide)) dX9_look_19 (yid rfl) (fun H locs hP hD hS => ?_)
  have hP : va_P (dC, dI) vwCl [(a2, .inl (cyI, 15, .inl yR)), (a0, .inr (9, [.ref a1, .ref a2, .ref a3, .ref a4, .ref a5, .ref a6])), (a1, .inl (cyI, 15, .inl yR)), (a4, .inl (cyI, 15, .inl (fun _ => 0))), (a5, .inl (cyI, 15, .inl (fun _ => 0))), (a6, .inl (cyI, 15, .inl (fun _ => 0)))] H := hP
  have hD : va_D A [(a2, .inl (cyI, 15, .inl yR)), (a0, .inr (9, [.ref a1, .ref a2, .ref a3, .ref a4, .ref a5, .ref a6])), (a1, .inl (cyI, 15, .inl yR)), (a4, .inl (cyI, 15, .inl (fun _ => 0))), (a5, .inl (cyI, 15, .inl (fun _ => 0))), (a6, .inl (cyI, 15, .inl (fun _ => 0)))] := hD
  refine lv_iinc (v := 11) (lv' := [(2, .int 11), (0, .ref a0), (1, .int v0)]) hx hb dX9_look_20 hl (k := 0) rfl (by decide) (by decide) rfl (fun ls hl => ?_)
  refine lv_goto (tgt := 2) hx hb dX9_look_23 (by decide) ?_
  refine lv_iload_n hx hb dX9_look_2 rfl (lv_at hl 0 rfl) ?_
  refine lv_bipush (v := 15) hx hb dX9_look_3 (by decide) ?_
  refine lv_icmp_ge (tgt := 26) hx hb dX9_look_5 (by decide) (fun c => absurd c (by decide)) (fun _ => ?_)
  refine lv_aload_n hx hb dX9_look_8 rfl (lv_at hl 1 rfl) ?_
  refine va_get (D := (dC, dI)) (ci := 9) (v := .ref a2) (C := RX9) (T := TX9) (N := 6) hx hb hts hnX9 hown hK hP 1 rfl rfl 1 (by decide) hf13 (fun _ h9 => h9) rfl dX9_look_9 ?_
  refine lv_iload_n hx hb dX9_look_12 rfl (lv_at hl 0 rfl) ?_
  refine lv_aload_n hx hb dX9_look_13 rfl (lv_at hl 1 rfl) ?_
  refine lv_iload_n hx hb dX9_look_14 rfl (lv_at hl 0 rfl) ?_
  refine lv_iload_n hx hb dX9_look_15 rfl (lv_at hl 2 rfl) ?_
  have hPc := hP.sub (ws' := [(a0, .inr (9, [.ref a1, .ref a2, .ref a3, .ref a4, .ref a5, .ref a6])), (a1, .inl (cyI, 15, .inl yR)), (a4, .inl (cyI, 15, .inl (fun _ => 0))), (a5, .inl (cyI, 15, .inl (fun _ => 0))), (a6, .inl (cyI, 15, .inl (fun _ => 0)))]) [1, 2, 3, 4, 5] rfl
  have hDc := hD.sub (ws' := [(a0, .inr (9, [.ref a1, .ref a2, .ref a3, .ref a4, .ref a5, .ref a6])), (a1, .inl (cyI, 15, .inl yR)), (a4, .inl (cyI, 15, .inl (fun _ => 0))), (a5, .inl (cyI, 15, .inl (fun _ => 0))), (a6, .inl (cyI, 15, .inl (fun _ => 0)))]) [1, 2, 3, 4, 5] (by decide) rfl
  refine yy_calli [1, 2, 3, 4, 5] [0] (wr := [(a2, .inl (cyI, 15, .inl yR))]) (va_runV (As := [.int 11, .int v0]) (rest := [.int 11, .ref a2]) ⟨hx, hb, hml, hown, hts⟩ (k_shown l dC dI cyI cyZ cyO H.size a0 a1 a2 a3 a4 a5 a6 11 v0 (by first | exact yin (by decide) | assumption)) (cwV 2 hts gX9_look_X9_shown rfl rfl rfl (by decide +kernel) ⟨Nat.le_of_ble_eq_true rfl, Nat.le_of_ble_eq_true rfl⟩) (yPreV hK hPc hDc (ci := 9) (q0 := 0) rfl rfl) rfl rfl hl.1 rfl (lv_room (Nat.le_of_ble_eq_true rfl)) dX9_look_16 ⟨Nat.le_of_ble_eq_true rfl, Nat.le_of_ble_eq_true rfl⟩) hP hD hS hA rfl rfl (by decide) (by decide) (fun r_24 u_23 H locs hw hP hD hS => ?_)
  have hP : va_P (dC, dI) vwCl [(a2, .inl (cyI, 15, .inl yR)), (a0, .inr (9, [.ref a1, .ref a2, .ref a3, .ref a4, .ref a5, .ref a6])), (a1, .inl (cyI, 15, .inl yR)), (a4, .inl (cyI, 15, .inl (fun _ => 0))), (a5, .inl (cyI, 15, .inl (fun _ => 0))), (a6, .inl (cyI, 15, .inl (fun _ => 0)))] H := hP
  have hD : va_D A [(a2, .inl (cyI, 15, .inl yR)), (a0, .inr (9, [.ref a1, .ref a2, .ref a3, .ref a4, .ref a5, .ref a6])), (a1, .inl (cyI, 15, .inl yR)), (a4, .inl (cyI, 15, .inl (fun _ => 0))), (a5, .inl (cyI, 15, .inl (fun _ => 0))), (a6, .inl (cyI, 15, .inl (fun _ => 0)))] := hD
  refine W.widen (k := 0) (n := 0) (Nat.le_of_ble_eq_true rfl) (Nat.le_of_ble_eq_true rfl) ?_
  have hw : r_24 = 0 := hw.trans (by decide)
  subst hw
  refine yy_iast (f' := yR) hx hb hK hP hD hS 0 0 rfl rfl (yin (by decide)) dX9_look_19 (yid rfl) (fun H locs hP hD hS => ?_)
  have hP : va_P (dC, dI) vwCl [(a2, .inl (cyI, 15, .inl yR)), (a0, .inr (9, [.ref a1, .ref a2, .ref a3, .ref a4, .ref a5, .ref a6])), (a1, .inl (cyI, 15, .inl yR)), (a4, .inl (cyI, 15, .inl (fun _ => 0))), (a5, .inl (cyI, 15, .inl (fun _ => 0))), (a6, .inl (cyI, 15, .inl (fun _ => 0)))] H := hP
  have hD : va_D A [(a2, .inl (cyI, 15, .inl yR)), (a0, .inr (9, [.ref a1, .ref a2, .ref a3, .ref a4, .ref a5, .ref a6])), (a1, .inl (cyI, 15, .inl yR)), (a4, .inl (cyI, 15, .inl (fun _ => 0))), (a5, .inl (cyI, 15, .inl (fun _ => 0))), (a6, .inl (cyI, 15, .inl (fun _ => 0)))] := hD
  refine lv_iinc (v := 12) (lv' := [(2, .int 12), (0, .ref a0), (1, .int v0)]) hx hb dX9_look_20 hl (k := 0) rfl (by decide) (by decide) rfl (fun ls hl => ?_)
  refine lv_goto (tgt := 2) hx hb dX9_look_23 (by decide) ?_
  refine lv_iload_n hx hb dX9_look_2 rfl (lv_at hl 0 rfl) ?_
  refine lv_bipush (v := 15) hx hb dX9_look_3 (by decide) ?_
  refine lv_icmp_ge (tgt := 26) hx hb dX9_look_5 (by decide) (fun c => absurd c (by decide)) (fun _ => ?_)
  refine lv_aload_n hx hb dX9_look_8 rfl (lv_at hl 1 rfl) ?_
  refine va_get (D := (dC, dI)) (ci := 9) (v := .ref a2) (C := RX9) (T := TX9) (N := 6) hx hb hts hnX9 hown hK hP 1 rfl rfl 1 (by decide) hf13 (fun _ h9 => h9) rfl dX9_look_9 ?_
  refine lv_iload_n hx hb dX9_look_12 rfl (lv_at hl 0 rfl) ?_
  refine lv_aload_n hx hb dX9_look_13 rfl (lv_at hl 1 rfl) ?_
  refine lv_iload_n hx hb dX9_look_14 rfl (lv_at hl 0 rfl) ?_
  refine lv_iload_n hx hb dX9_look_15 rfl (lv_at hl 2 rfl) ?_
  have hPc := hP.sub (ws' := [(a0, .inr (9, [.ref a1, .ref a2, .ref a3, .ref a4, .ref a5, .ref a6])), (a1, .inl (cyI, 15, .inl yR)), (a4, .inl (cyI, 15, .inl (fun _ => 0))), (a5, .inl (cyI, 15, .inl (fun _ => 0))), (a6, .inl (cyI, 15, .inl (fun _ => 0)))]) [1, 2, 3, 4, 5] rfl
  have hDc := hD.sub (ws' := [(a0, .inr (9, [.ref a1, .ref a2, .ref a3, .ref a4, .ref a5, .ref a6])), (a1, .inl (cyI, 15, .inl yR)), (a4, .inl (cyI, 15, .inl (fun _ => 0))), (a5, .inl (cyI, 15, .inl (fun _ => 0))), (a6, .inl (cyI, 15, .inl (fun _ => 0)))]) [1, 2, 3, 4, 5] (by decide) rfl
  refine yy_calli [1, 2, 3, 4, 5] [0] (wr := [(a2, .inl (cyI, 15, .inl yR))]) (va_runV (As := [.int 12, .int v0]) (rest := [.int 12, .ref a2]) ⟨hx, hb, hml, hown, hts⟩ (k_shown l dC dI cyI cyZ cyO H.size a0 a1 a2 a3 a4 a5 a6 12 v0 (by first | exact yin (by decide) | assumption)) (cwV 2 hts gX9_look_X9_shown rfl rfl rfl (by decide +kernel) ⟨Nat.le_of_ble_eq_true rfl, Nat.le_of_ble_eq_true rfl⟩) (yPreV hK hPc hDc (ci := 9) (q0 := 0) rfl rfl) rfl rfl hl.1 rfl (lv_room (Nat.le_of_ble_eq_true rfl)) dX9_look_16 ⟨Nat.le_of_ble_eq_true rfl, Nat.le_of_ble_eq_true rfl⟩) hP hD hS hA rfl rfl (by decide) (by decide) (fun r_26 u_25 H locs hw hP hD hS => ?_)
  have hP : va_P (dC, dI) vwCl [(a2, .inl (cyI, 15, .inl yR)), (a0, .inr (9, [.ref a1, .ref a2, .ref a3, .ref a4, .ref a5, .ref a6])), (a1, .inl (cyI, 15, .inl yR)), (a4, .inl (cyI, 15, .inl (fun _ => 0))), (a5, .inl (cyI, 15, .inl (fun _ => 0))), (a6, .inl (cyI, 15, .inl (fun _ => 0)))] H := hP
  have hD : va_D A [(a2, .inl (cyI, 15, .inl yR)), (a0, .inr (9, [.ref a1, .ref a2, .ref a3, .ref a4, .ref a5, .ref a6])), (a1, .inl (cyI, 15, .inl yR)), (a4, .inl (cyI, 15, .inl (fun _ => 0))), (a5, .inl (cyI, 15, .inl (fun _ => 0))), (a6, .inl (cyI, 15, .inl (fun _ => 0)))] := hD
  refine W.widen (k := 0) (n := 0) (Nat.le_of_ble_eq_true rfl) (Nat.le_of_ble_eq_true rfl) ?_
  have hw : r_26 = 0 := hw.trans (by decide)
  subst hw
  refine yy_iast (f' := yR) hx hb hK hP hD hS 0 0 rfl rfl (yin (by decide)) dX9_look_19 (yid rfl) (fun H locs hP hD hS => ?_)
  have hP : va_P (dC, dI) vwCl [(a2, .inl (cyI, 15, .inl yR)), (a0, .inr (9, [.ref a1, .ref a2, .ref a3, .ref a4, .ref a5, .ref a6])), (a1, .inl (cyI, 15, .inl yR)), (a4, .inl (cyI, 15, .inl (fun _ => 0))), (a5, .inl (cyI, 15, .inl (fun _ => 0))), (a6, .inl (cyI, 15, .inl (fun _ => 0)))] H := hP
  have hD : va_D A [(a2, .inl (cyI, 15, .inl yR)), (a0, .inr (9, [.ref a1, .ref a2, .ref a3, .ref a4, .ref a5, .ref a6])), (a1, .inl (cyI, 15, .inl yR)), (a4, .inl (cyI, 15, .inl (fun _ => 0))), (a5, .inl (cyI, 15, .inl (fun _ => 0))), (a6, .inl (cyI, 15, .inl (fun _ => 0)))] := hD
  refine lv_iinc (v := 13) (lv' := [(2, .int 13), (0, .ref a0), (1, .int v0)]) hx hb dX9_look_20 hl (k := 0) rfl (by decide) (by decide) rfl (fun ls hl => ?_)
  refine lv_goto (tgt := 2) hx hb dX9_look_23 (by decide) ?_
  refine lv_iload_n hx hb dX9_look_2 rfl (lv_at hl 0 rfl) ?_
  refine lv_bipush (v := 15) hx hb dX9_look_3 (by decide) ?_
  refine lv_icmp_ge (tgt := 26) hx hb dX9_look_5 (by decide) (fun c => absurd c (by decide)) (fun _ => ?_)
  refine lv_aload_n hx hb dX9_look_8 rfl (lv_at hl 1 rfl) ?_
  refine va_get (D := (dC, dI)) (ci := 9) (v := .ref a2) (C := RX9) (T := TX9) (N := 6) hx hb hts hnX9 hown hK hP 1 rfl rfl 1 (by decide) hf13 (fun _ h9 => h9) rfl dX9_look_9 ?_
  refine lv_iload_n hx hb dX9_look_12 rfl (lv_at hl 0 rfl) ?_
  refine lv_aload_n hx hb dX9_look_13 rfl (lv_at hl 1 rfl) ?_
  refine lv_iload_n hx hb dX9_look_14 rfl (lv_at hl 0 rfl) ?_
  refine lv_iload_n hx hb dX9_look_15 rfl (lv_at hl 2 rfl) ?_
  have hPc := hP.sub (ws' := [(a0, .inr (9, [.ref a1, .ref a2, .ref a3, .ref a4, .ref a5, .ref a6])), (a1, .inl (cyI, 15, .inl yR)), (a4, .inl (cyI, 15, .inl (fun _ => 0))), (a5, .inl (cyI, 15, .inl (fun _ => 0))), (a6, .inl (cyI, 15, .inl (fun _ => 0)))]) [1, 2, 3, 4, 5] rfl
  have hDc := hD.sub (ws' := [(a0, .inr (9, [.ref a1, .ref a2, .ref a3, .ref a4, .ref a5, .ref a6])), (a1, .inl (cyI, 15, .inl yR)), (a4, .inl (cyI, 15, .inl (fun _ => 0))), (a5, .inl (cyI, 15, .inl (fun _ => 0))), (a6, .inl (cyI, 15, .inl (fun _ => 0)))]) [1, 2, 3, 4, 5] (by decide) rfl
  refine yy_calli [1, 2, 3, 4, 5] [0] (wr := [(a2, .inl (cyI, 15, .inl yR))]) (va_runV (As := [.int 13, .int v0]) (rest := [.int 13, .ref a2]) ⟨hx, hb, hml, hown, hts⟩ (k_shown l dC dI cyI cyZ cyO H.size a0 a1 a2 a3 a4 a5 a6 13 v0 (by first | exact yin (by decide) | assumption)) (cwV 2 hts gX9_look_X9_shown rfl rfl rfl (by decide +kernel) ⟨Nat.le_of_ble_eq_true rfl, Nat.le_of_ble_eq_true rfl⟩) (yPreV hK hPc hDc (ci := 9) (q0 := 0) rfl rfl) rfl rfl hl.1 rfl (lv_room (Nat.le_of_ble_eq_true rfl)) dX9_look_16 ⟨Nat.le_of_ble_eq_true rfl, Nat.le_of_ble_eq_true rfl⟩) hP hD hS hA rfl rfl (by decide) (by decide) (fun r_28 u_27 H locs hw hP hD hS => ?_)
  have hP : va_P (dC, dI) vwCl [(a2, .inl (cyI, 15, .inl yR)), (a0, .inr (9, [.ref a1, .ref a2, .ref a3, .ref a4, .ref a5, .ref a6])), (a1, .inl (cyI, 15, .inl yR)), (a4, .inl (cyI, 15, .inl (fun _ => 0))), (a5, .inl (cyI, 15, .inl (fun _ => 0))), (a6, .inl (cyI, 15, .inl (fun _ => 0)))] H := hP
  have hD : va_D A [(a2, .inl (cyI, 15, .inl yR)), (a0, .inr (9, [.ref a1, .ref a2, .ref a3, .ref a4, .ref a5, .ref a6])), (a1, .inl (cyI, 15, .inl yR)), (a4, .inl (cyI, 15, .inl (fun _ => 0))), (a5, .inl (cyI, 15, .inl (fun _ => 0))), (a6, .inl (cyI, 15, .inl (fun _ => 0)))] := hD
  refine W.widen (k := 0) (n := 0) (Nat.le_of_ble_eq_true rfl) (Nat.le_of_ble_eq_true rfl) ?_
  have hw : r_28 = 0 := hw.trans (by decide)
  subst hw
  refine yy_iast (f' := yR) hx hb hK hP hD hS 0 0 rfl rfl (yin (by decide)) dX9_look_19 (yid rfl) (fun H locs hP hD hS => ?_)
  have hP : va_P (dC, dI) vwCl [(a2, .inl (cyI, 15, .inl yR)), (a0, .inr (9, [.ref a1, .ref a2, .ref a3, .ref a4, .ref a5, .ref a6])), (a1, .inl (cyI, 15, .inl yR)), (a4, .inl (cyI, 15, .inl (fun _ => 0))), (a5, .inl (cyI, 15, .inl (fun _ => 0))), (a6, .inl (cyI, 15, .inl (fun _ => 0)))] H := hP
  have hD : va_D A [(a2, .inl (cyI, 15, .inl yR)), (a0, .inr (9, [.ref a1, .ref a2, .ref a3, .ref a4, .ref a5, .ref a6])), (a1, .inl (cyI, 15, .inl yR)), (a4, .inl (cyI, 15, .inl (fun _ => 0))), (a5, .inl (cyI, 15, .inl (fun _ => 0))), (a6, .inl (cyI, 15, .inl (fun _ => 0)))] := hD
  refine lv_iinc (v := 14) (lv' := [(2, .int 14), (0, .ref a0), (1, .int v0)]) hx hb dX9_look_20 hl (k := 0) rfl (by decide) (by decide) rfl (fun ls hl => ?_)
  refine lv_goto (tgt := 2) hx hb dX9_look_23 (by decide) ?_
  refine lv_iload_n hx hb dX9_look_2 rfl (lv_at hl 0 rfl) ?_
  refine lv_bipush (v := 15) hx hb dX9_look_3 (by decide) ?_
  refine lv_icmp_ge (tgt := 26) hx hb dX9_look_5 (by decide) (fun c => absurd c (by decide)) (fun _ => ?_)
  refine lv_aload_n hx hb dX9_look_8 rfl (lv_at hl 1 rfl) ?_
  refine va_get (D := (dC, dI)) (ci := 9) (v := .ref a2) (C := RX9) (T := TX9) (N := 6) hx hb hts hnX9 hown hK hP 1 rfl rfl 1 (by decide) hf13 (fun _ h9 => h9) rfl dX9_look_9 ?_
  refine lv_iload_n hx hb dX9_look_12 rfl (lv_at hl 0 rfl) ?_
  refine lv_aload_n hx hb dX9_look_13 rfl (lv_at hl 1 rfl) ?_
  refine lv_iload_n hx hb dX9_look_14 rfl (lv_at hl 0 rfl) ?_
  refine lv_iload_n hx hb dX9_look_15 rfl (lv_at hl 2 rfl) ?_
  have hPc := hP.sub (ws' := [(a0, .inr (9, [.ref a1, .ref a2, .ref a3, .ref a4, .ref a5, .ref a6])), (a1, .inl (cyI, 15, .inl yR)), (a4, .inl (cyI, 15, .inl (fun _ => 0))), (a5, .inl (cyI, 15, .inl (fun _ => 0))), (a6, .inl (cyI, 15, .inl (fun _ => 0)))]) [1, 2, 3, 4, 5] rfl
  have hDc := hD.sub (ws' := [(a0, .inr (9, [.ref a1, .ref a2, .ref a3, .ref a4, .ref a5, .ref a6])), (a1, .inl (cyI, 15, .inl yR)), (a4, .inl (cyI, 15, .inl (fun _ => 0))), (a5, .inl (cyI, 15, .inl (fun _ => 0))), (a6, .inl (cyI, 15, .inl (fun _ => 0)))]) [1, 2, 3, 4, 5] (by decide) rfl
  refine yy_calli [1, 2, 3, 4, 5] [0] (wr := [(a2, .inl (cyI, 15, .inl yR))]) (va_runV (As := [.int 14, .int v0]) (rest := [.int 14, .ref a2]) ⟨hx, hb, hml, hown, hts⟩ (k_shown l dC dI cyI cyZ cyO H.size a0 a1 a2 a3 a4 a5 a6 14 v0 (by first | exact yin (by decide) | assumption)) (cwV 2 hts gX9_look_X9_shown rfl rfl rfl (by decide +kernel) ⟨Nat.le_of_ble_eq_true rfl, Nat.le_of_ble_eq_true rfl⟩) (yPreV hK hPc hDc (ci := 9) (q0 := 0) rfl rfl) rfl rfl hl.1 rfl (lv_room (Nat.le_of_ble_eq_true rfl)) dX9_look_16 ⟨Nat.le_of_ble_eq_true rfl, Nat.le_of_ble_eq_true rfl⟩) hP hD hS hA rfl rfl (by decide) (by decide) (fun r_30 u_29 H locs hw hP hD hS => ?_)
  have hP : va_P (dC, dI) vwCl [(a2, .inl (cyI, 15, .inl yR)), (a0, .inr (9, [.ref a1, .ref a2, .ref a3, .ref a4, .ref a5, .ref a6])), (a1, .inl (cyI, 15, .inl yR)), (a4, .inl (cyI, 15, .inl (fun _ => 0))), (a5, .inl (cyI, 15, .inl (fun _ => 0))), (a6, .inl (cyI, 15, .inl (fun _ => 0)))] H := hP
  have hD : va_D A [(a2, .inl (cyI, 15, .inl yR)), (a0, .inr (9, [.ref a1, .ref a2, .ref a3, .ref a4, .ref a5, .ref a6])), (a1, .inl (cyI, 15, .inl yR)), (a4, .inl (cyI, 15, .inl (fun _ => 0))), (a5, .inl (cyI, 15, .inl (fun _ => 0))), (a6, .inl (cyI, 15, .inl (fun _ => 0)))] := hD
  refine W.widen (k := 0) (n := 0) (Nat.le_of_ble_eq_true rfl) (Nat.le_of_ble_eq_true rfl) ?_
  have hw : r_30 = 0 := hw.trans (by decide)
  subst hw
  refine yy_iast (f' := yR) hx hb hK hP hD hS 0 0 rfl rfl (yin (by decide)) dX9_look_19 (yid rfl) (fun H locs hP hD hS => ?_)
  have hP : va_P (dC, dI) vwCl [(a2, .inl (cyI, 15, .inl yR)), (a0, .inr (9, [.ref a1, .ref a2, .ref a3, .ref a4, .ref a5, .ref a6])), (a1, .inl (cyI, 15, .inl yR)), (a4, .inl (cyI, 15, .inl (fun _ => 0))), (a5, .inl (cyI, 15, .inl (fun _ => 0))), (a6, .inl (cyI, 15, .inl (fun _ => 0)))] H := hP
  have hD : va_D A [(a2, .inl (cyI, 15, .inl yR)), (a0, .inr (9, [.ref a1, .ref a2, .ref a3, .ref a4, .ref a5, .ref a6])), (a1, .inl (cyI, 15, .inl yR)), (a4, .inl (cyI, 15, .inl (fun _ => 0))), (a5, .inl (cyI, 15, .inl (fun _ => 0))), (a6, .inl (cyI, 15, .inl (fun _ => 0)))] := hD
  refine lv_iinc (v := 15) (lv' := [(2, .int 15), (0, .ref a0), (1, .int v0)]) hx hb dX9_look_20 hl (k := 0) rfl (by decide) (by decide) rfl (fun ls hl => ?_)
  refine lv_goto (tgt := 2) hx hb dX9_look_23 (by decide) ?_
  refine lv_iload_n hx hb dX9_look_2 rfl (lv_at hl 0 rfl) ?_
  refine lv_bipush (v := 15) hx hb dX9_look_3 (by decide) ?_
  refine lv_icmp_ge (tgt := 26) hx hb dX9_look_5 (by decide) (fun _ => ?_) (fun c => absurd (by decide) c)
  refine W.widen (k := 0) (n := 0) (Nat.le_of_ble_eq_true rfl) (Nat.le_of_ble_eq_true rfl) ?_
  exact yy_vret () hx hb hr hlk hsz hAe hK hP hD hS [1, 2, 0, 3, 4, 5] rfl rfl (by decide) (trivial) dX9_look_26
set_option maxHeartbeats 4000000 in
set_option maxRecDepth 100000 in
theorem bS_X5_leavesAddress_16 (l : Launch) (dC : Nat → ClassId) (dI : Nat → Nat → Nat) (cyI cyZ cyO : ClassId) (sz : Nat) (a0 : Nat) (a1 : Nat)  : Met l yX5_leavesAddress wsX5_leavesAddress ({ frames := 0, cells := 0, slots := 0, locals := 0 }) (yPre [.ref a0, .ref a1] (dC, dI) [(a1, .inl (cyI, 15, .inl yR))] (yT cyI cyZ cyO) sz) (yQi (fun (r : Int32) (u : Unit) => r = 0) (dC, dI) [(a1, .inl (cyI, 15, .inl yR))] (yT cyI cyZ cyO) sz (fun _ => [(a1, .inl (cyI, 15, .inl yR))])) 0 0 (va_A [(a1, .inl (cyI, 15, .inl yR))] sz) := by
  refine yMet (cc := cX5_leavesAddress) (maxL := 2) (ret := (some .boolean)) (by decide) rfl (Nat.le_of_ble_eq_true rfl) ?_
  intro p e s m below meth c A hx hb hr hlk hml hts hown hnm hsz hAe hP hK hD hA hS ls hl
  have hl : lv_has ls 2 [(0, .ref a0), (1, .ref a1)] := hl
  refine lv_aload_n hx hb dX5_leavesAddress_0 rfl (lv_at hl 1 rfl) ?_
  refine lv_iconst (v := 4) hx hb dX5_leavesAddress_1 (by decide) ?_
  refine yy_iald (v := 1) hx hb hK hP 0 0 rfl rfl (yin (by decide)) dX5_leavesAddress_2 rfl ?_
  refine lv_if_ne (tgt := 52) hx hb dX5_leavesAddress_3 (by decide) (fun _ => ?_) (fun c => absurd c (by decide))
  refine lv_iconst (v := 0) hx hb dX5_leavesAddress_52 (by decide) ?_
  refine W.widen (k := 0) (n := 0) (Nat.le_of_ble_eq_true rfl) (Nat.le_of_ble_eq_true rfl) ?_
  exact yy_iret (v := 0) () hx hb hr hlk rfl hsz hAe hK hP hD hS [0] rfl rfl (by decide) (rfl) dX5_leavesAddress_53
set_option maxHeartbeats 4000000 in
set_option maxRecDepth 100000 in
theorem bS_X5_breaksAbove_17 (l : Launch) (dC : Nat → ClassId) (dI : Nat → Nat → Nat) (cyI cyZ cyO : ClassId) (sz : Nat) (a0 : Nat) (a1 : Nat) (a2 : Nat) (a3 : Nat) (a4 : Nat)  : Met l yX5_breaksAbove wsX5_breaksAbove ({ frames := 1, cells := 0, slots := 0, locals := 21 }) (yPre [.ref a0, .int 1, .ref a1, .ref a2] (dC, dI) [(a0, .inr (5, [.ref a3, .ref a4, .int 0, .int 0, .int 0])), (a2, .inl (cyI, 15, .inl yR))] (yT cyI cyZ cyO) sz) (yQi (fun (r : Int32) (u : Unit) => r = 0) (dC, dI) [(a0, .inr (5, [.ref a3, .ref a4, .int 0, .int 0, .int 0])), (a2, .inl (cyI, 15, .inl yR))] (yT cyI cyZ cyO) sz (fun _ => [(a0, .inr (5, [.ref a3, .ref a4, .int 0, .int 0, .int 0])), (a2, .inl (cyI, 15, .inl yR))])) 0 0 (va_A [(a0, .inr (5, [.ref a3, .ref a4, .int 0, .int 0, .int 0])), (a2, .inl (cyI, 15, .inl yR))] sz) := by
  refine yMet (cc := cX5_breaksAbove) (maxL := 4) (ret := (some .boolean)) (by decide) rfl (Nat.le_of_ble_eq_true rfl) ?_
  intro p e s m below meth c A hx hb hr hlk hml hts hown hnm hsz hAe hP hK hD hA hS ls hl
  have hl : lv_has ls 4 [(0, .ref a0), (1, .int 1), (2, .ref a1), (3, .ref a2)] := hl
  refine lv_iload_n hx hb dX5_breaksAbove_0 rfl (lv_at hl 1 rfl) ?_
  refine lv_tableIn (off := 43) (tgt := 44) hx hb dX5_breaksAbove_1 (by decide) (by decide) (by decide) (by decide) ?_
  refine lv_aload_n hx hb dX5_breaksAbove_44 rfl (lv_at hl 2 rfl) ?_
  refine lv_aload_n hx hb dX5_breaksAbove_45 rfl (lv_at hl 3 rfl) ?_
  have hPc := hP.sub (ws' := [(a2, .inl (cyI, 15, .inl yR))]) [1] rfl
  have hDc := hD.sub (ws' := [(a2, .inl (cyI, 15, .inl yR))]) [1] (by decide) rfl
  refine yy_calli [1] [0] (wr := [(a0, .inr (5, [.ref a3, .ref a4, .int 0, .int 0, .int 0]))]) (va_runS (As := [.ref a1, .ref a2]) (rest := []) ⟨hx, hb, hml, hown, hts⟩ (bS_X5_leavesAddress_16 l dC dI cyI cyZ cyO s.heap.size a1 a2 ) (va_cwS 2 hts gX5_breaksAbove_X5_leavesAddress rfl rfl rfl (by decide +kernel) ⟨Nat.le_of_ble_eq_true rfl, Nat.le_of_ble_eq_true rfl⟩) (yPreS hK hPc hDc) rfl rfl hl.1 rfl (lv_room (Nat.le_of_ble_eq_true rfl)) dX5_breaksAbove_46 ⟨Nat.le_of_ble_eq_true rfl, Nat.le_of_ble_eq_true rfl⟩) hP hD hS hA rfl rfl (by decide) (by decide) (fun r_2 u_1 H locs hw hP hD hS => ?_)
  have hP : va_P (dC, dI) vwCl [(a0, .inr (5, [.ref a3, .ref a4, .int 0, .int 0, .int 0])), (a2, .inl (cyI, 15, .inl yR))] H := hP
  have hD : va_D A [(a0, .inr (5, [.ref a3, .ref a4, .int 0, .int 0, .int 0])), (a2, .inl (cyI, 15, .inl yR))] := hD
  refine W.widen (k := 0) (n := 0) (Nat.le_of_ble_eq_true rfl) (Nat.le_of_ble_eq_true rfl) ?_
  have hw : r_2 = 0 := hw
  subst hw
  refine W.widen (k := 0) (n := 0) (Nat.le_of_ble_eq_true rfl) (Nat.le_of_ble_eq_true rfl) ?_
  exact yy_iret (v := 0) () hx hb hr hlk rfl hsz hAe hK hP hD hS [0, 1] rfl rfl (by decide) (rfl) dX5_breaksAbove_49
set_option maxHeartbeats 4000000 in
set_option maxRecDepth 100000 in
theorem bS_X5_followsBadly_18 (l : Launch) (dC : Nat → ClassId) (dI : Nat → Nat → Nat) (cyI cyZ cyO : ClassId) (sz : Nat) (a0 : Nat) (a1 : Nat)  : Met l yX5_followsBadly wsX5_followsBadly ({ frames := 0, cells := 0, slots := 0, locals := 0 }) (yPre [.ref a0, .ref a1] (dC, dI) [(a0, .inl (cyI, 15, .inl yR))] (yT cyI cyZ cyO) sz) (yQi (fun (r : Int32) (u : Unit) => r = 0) (dC, dI) [(a0, .inl (cyI, 15, .inl yR))] (yT cyI cyZ cyO) sz (fun _ => [(a0, .inl (cyI, 15, .inl yR))])) 0 0 (va_A [(a0, .inl (cyI, 15, .inl yR))] sz) := by
  refine yMet (cc := cX5_followsBadly) (maxL := 2) (ret := (some .boolean)) (by decide) rfl (Nat.le_of_ble_eq_true rfl) ?_
  intro p e s m below meth c A hx hb hr hlk hml hts hown hnm hsz hAe hP hK hD hA hS ls hl
  have hl : lv_has ls 2 [(0, .ref a0), (1, .ref a1)] := hl
  refine lv_aload_n hx hb dX5_followsBadly_0 rfl (lv_at hl 0 rfl) ?_
  refine lv_iconst (v := 2) hx hb dX5_followsBadly_1 (by decide) ?_
  refine yy_iald (v := 0) hx hb hK hP 0 0 rfl rfl (yin (by decide)) dX5_followsBadly_2 rfl ?_
  refine lv_iconst (v := 3) hx hb dX5_followsBadly_3 (by decide) ?_
  refine lv_icmp_ne (tgt := 46) hx hb dX5_followsBadly_4 (by decide) (fun _ => ?_) (fun c => absurd c (by decide))
  refine lv_iconst (v := 0) hx hb dX5_followsBadly_46 (by decide) ?_
  refine W.widen (k := 0) (n := 0) (Nat.le_of_ble_eq_true rfl) (Nat.le_of_ble_eq_true rfl) ?_
  exact yy_iret (v := 0) () hx hb hr hlk rfl hsz hAe hK hP hD hS [0] rfl rfl (by decide) (rfl) dX5_followsBadly_47
set_option maxHeartbeats 4000000 in
set_option maxRecDepth 100000 in
theorem bS_X5_breaksAbove_19 (l : Launch) (dC : Nat → ClassId) (dI : Nat → Nat → Nat) (cyI cyZ cyO : ClassId) (sz : Nat) (a0 : Nat) (a1 : Nat) (a2 : Nat) (a3 : Nat) (a4 : Nat)  : Met l yX5_breaksAbove wsX5_breaksAbove ({ frames := 1, cells := 0, slots := 0, locals := 21 }) (yPre [.ref a0, .int 2, .ref a1, .ref a2] (dC, dI) [(a0, .inr (5, [.ref a3, .ref a4, .int 0, .int 0, .int 0])), (a1, .inl (cyI, 15, .inl yR))] (yT cyI cyZ cyO) sz) (yQi (fun (r : Int32) (u : Unit) => r = 0) (dC, dI) [(a0, .inr (5, [.ref a3, .ref a4, .int 0, .int 0, .int 0])), (a1, .inl (cyI, 15, .inl yR))] (yT cyI cyZ cyO) sz (fun _ => [(a0, .inr (5, [.ref a3, .ref a4, .int 0, .int 0, .int 0])), (a1, .inl (cyI, 15, .inl yR))])) 0 0 (va_A [(a0, .inr (5, [.ref a3, .ref a4, .int 0, .int 0, .int 0])), (a1, .inl (cyI, 15, .inl yR))] sz) := by
  refine yMet (cc := cX5_breaksAbove) (maxL := 4) (ret := (some .boolean)) (by decide) rfl (Nat.le_of_ble_eq_true rfl) ?_
  intro p e s m below meth c A hx hb hr hlk hml hts hown hnm hsz hAe hP hK hD hA hS ls hl
  have hl : lv_has ls 4 [(0, .ref a0), (1, .int 2), (2, .ref a1), (3, .ref a2)] := hl
  refine lv_iload_n hx hb dX5_breaksAbove_0 rfl (lv_at hl 1 rfl) ?_
  refine lv_tableIn (off := 49) (tgt := 50) hx hb dX5_breaksAbove_1 (by decide) (by decide) (by decide) (by decide) ?_
  refine lv_aload_n hx hb dX5_breaksAbove_50 rfl (lv_at hl 2 rfl) ?_
  refine lv_aload_n hx hb dX5_breaksAbove_51 rfl (lv_at hl 3 rfl) ?_
  have hPc := hP.sub (ws' := [(a1, .inl (cyI, 15, .inl yR))]) [1] rfl
  have hDc := hD.sub (ws' := [(a1, .inl (cyI, 15, .inl yR))]) [1] (by decide) rfl
  refine yy_calli [1] [0] (wr := [(a0, .inr (5, [.ref a3, .ref a4, .int 0, .int 0, .int 0]))]) (va_runS (As := [.ref a1, .ref a2]) (rest := []) ⟨hx, hb, hml, hown, hts⟩ (bS_X5_followsBadly_18 l dC dI cyI cyZ cyO s.heap.size a1 a2 ) (va_cwS 2 hts gX5_breaksAbove_X5_followsBadly rfl rfl rfl (by decide +kernel) ⟨Nat.le_of_ble_eq_true rfl, Nat.le_of_ble_eq_true rfl⟩) (yPreS hK hPc hDc) rfl rfl hl.1 rfl (lv_room (Nat.le_of_ble_eq_true rfl)) dX5_breaksAbove_52 ⟨Nat.le_of_ble_eq_true rfl, Nat.le_of_ble_eq_true rfl⟩) hP hD hS hA rfl rfl (by decide) (by decide) (fun r_2 u_1 H locs hw hP hD hS => ?_)
  have hP : va_P (dC, dI) vwCl [(a0, .inr (5, [.ref a3, .ref a4, .int 0, .int 0, .int 0])), (a1, .inl (cyI, 15, .inl yR))] H := hP
  have hD : va_D A [(a0, .inr (5, [.ref a3, .ref a4, .int 0, .int 0, .int 0])), (a1, .inl (cyI, 15, .inl yR))] := hD
  refine W.widen (k := 0) (n := 0) (Nat.le_of_ble_eq_true rfl) (Nat.le_of_ble_eq_true rfl) ?_
  have hw : r_2 = 0 := hw
  subst hw
  refine W.widen (k := 0) (n := 0) (Nat.le_of_ble_eq_true rfl) (Nat.le_of_ble_eq_true rfl) ?_
  exact yy_iret (v := 0) () hx hb hr hlk rfl hsz hAe hK hP hD hS [0, 1] rfl rfl (by decide) (rfl) dX5_breaksAbove_55
set_option maxHeartbeats 4000000 in
set_option maxRecDepth 100000 in
theorem bS_X5_breaksAbove_20 (l : Launch) (dC : Nat → ClassId) (dI : Nat → Nat → Nat) (cyI cyZ cyO : ClassId) (sz : Nat) (a0 : Nat) (a1 : Nat) (a2 : Nat) (a3 : Nat) (a4 : Nat)  : Met l yX5_breaksAbove wsX5_breaksAbove ({ frames := 0, cells := 0, slots := 0, locals := 0 }) (yPre [.ref a0, .int 3, .ref a1, .ref a2] (dC, dI) [(a0, .inr (5, [.ref a3, .ref a4, .int 0, .int 0, .int 0]))] (yT cyI cyZ cyO) sz) (yQi (fun (r : Int32) (u : Unit) => r = 0) (dC, dI) [(a0, .inr (5, [.ref a3, .ref a4, .int 0, .int 0, .int 0]))] (yT cyI cyZ cyO) sz (fun _ => [(a0, .inr (5, [.ref a3, .ref a4, .int 0, .int 0, .int 0]))])) 0 0 (va_A [(a0, .inr (5, [.ref a3, .ref a4, .int 0, .int 0, .int 0]))] sz) := by
  refine yMet (cc := cX5_breaksAbove) (maxL := 4) (ret := (some .boolean)) (by decide) rfl (Nat.le_of_ble_eq_true rfl) ?_
  intro p e s m below meth c A hx hb hr hlk hml hts hown hnm hsz hAe hP hK hD hA hS ls hl
  have hl : lv_has ls 4 [(0, .ref a0), (1, .int 3), (2, .ref a1), (3, .ref a2)] := hl
  have hf31 := hts (.fieldLink RX5 31 "BusBridge$Monitor" "dataPhase" "Z") (by decide +kernel)
  have hnX5 : ∀ w ∈ wsX50, w ∈ wsX5_breaksAbove := by decide +kernel
  refine lv_iload_n hx hb dX5_breaksAbove_0 rfl (lv_at hl 1 rfl) ?_
  refine lv_tableIn (off := 55) (tgt := 56) hx hb dX5_breaksAbove_1 (by decide) (by decide) (by decide) (by decide) ?_
  refine lv_aload_n hx hb dX5_breaksAbove_56 rfl (lv_at hl 0 rfl) ?_
  refine va_get (D := (dC, dI)) (ci := 5) (v := .int 0) (C := RX5) (T := TX5) (N := 5) hx hb hts hnX5 hown hK hP 0 rfl rfl 2 (by decide) hf31 (fun _ h9 => h9) rfl dX5_breaksAbove_57 ?_
  refine lv_if_eq (tgt := 89) hx hb dX5_breaksAbove_60 (by decide) (fun _ => ?_) (fun c => absurd (by decide) c)
  refine lv_iconst (v := 0) hx hb dX5_breaksAbove_89 (by decide) ?_
  refine W.widen (k := 0) (n := 0) (Nat.le_of_ble_eq_true rfl) (Nat.le_of_ble_eq_true rfl) ?_
  exact yy_iret (v := 0) () hx hb hr hlk rfl hsz hAe hK hP hD hS [0] rfl rfl (by decide) (rfl) dX5_breaksAbove_90
set_option maxHeartbeats 4000000 in
set_option maxRecDepth 100000 in
theorem bS_X5_isSecondOfTwo_21 (l : Launch) (dC : Nat → ClassId) (dI : Nat → Nat → Nat) (cyI cyZ cyO : ClassId) (sz : Nat) (a0 : Nat)  : Met l yX5_isSecondOfTwo wsX5_isSecondOfTwo ({ frames := 0, cells := 0, slots := 0, locals := 0 }) (yPre [.ref a0] (dC, dI) [(a0, .inl (cyI, 15, .inl yR))] (yT cyI cyZ cyO) sz) (yQi (fun (r : Int32) (u : Unit) => r = 0) (dC, dI) [(a0, .inl (cyI, 15, .inl yR))] (yT cyI cyZ cyO) sz (fun _ => [(a0, .inl (cyI, 15, .inl yR))])) 0 0 (va_A [(a0, .inl (cyI, 15, .inl yR))] sz) := by
  refine yMet (cc := cX5_isSecondOfTwo) (maxL := 1) (ret := (some .boolean)) (by decide) rfl (Nat.le_of_ble_eq_true rfl) ?_
  intro p e s m below meth c A hx hb hr hlk hml hts hown hnm hsz hAe hP hK hD hA hS ls hl
  have hl : lv_has ls 1 [(0, .ref a0)] := hl
  refine lv_aload_n hx hb dX5_isSecondOfTwo_0 rfl (lv_at hl 0 rfl) ?_
  refine lv_iconst (v := 5) hx hb dX5_isSecondOfTwo_1 (by decide) ?_
  refine yy_iald (v := 0) hx hb hK hP 0 0 rfl rfl (yin (by decide)) dX5_isSecondOfTwo_2 rfl ?_
  refine lv_if_eq (tgt := 16) hx hb dX5_isSecondOfTwo_3 (by decide) (fun _ => ?_) (fun c => absurd (by decide) c)
  refine lv_iconst (v := 0) hx hb dX5_isSecondOfTwo_16 (by decide) ?_
  refine W.widen (k := 0) (n := 0) (Nat.le_of_ble_eq_true rfl) (Nat.le_of_ble_eq_true rfl) ?_
  exact yy_iret (v := 0) () hx hb hr hlk rfl hsz hAe hK hP hD hS [0] rfl rfl (by decide) (rfl) dX5_isSecondOfTwo_17
set_option maxHeartbeats 4000000 in
set_option maxRecDepth 100000 in
theorem bS_X5_isFirstOfTwo_22 (l : Launch) (dC : Nat → ClassId) (dI : Nat → Nat → Nat) (cyI cyZ cyO : ClassId) (sz : Nat) (a0 : Nat)  : Met l yX5_isFirstOfTwo wsX5_isFirstOfTwo ({ frames := 0, cells := 0, slots := 0, locals := 0 }) (yPre [.ref a0] (dC, dI) [(a0, .inl (cyI, 15, .inl yR))] (yT cyI cyZ cyO) sz) (yQi (fun (r : Int32) (u : Unit) => r = 0) (dC, dI) [(a0, .inl (cyI, 15, .inl yR))] (yT cyI cyZ cyO) sz (fun _ => [(a0, .inl (cyI, 15, .inl yR))])) 0 0 (va_A [(a0, .inl (cyI, 15, .inl yR))] sz) := by
  refine yMet (cc := cX5_isFirstOfTwo) (maxL := 1) (ret := (some .boolean)) (by decide) rfl (Nat.le_of_ble_eq_true rfl) ?_
  intro p e s m below meth c A hx hb hr hlk hml hts hown hnm hsz hAe hP hK hD hA hS ls hl
  have hl : lv_has ls 1 [(0, .ref a0)] := hl
  refine lv_aload_n hx hb dX5_isFirstOfTwo_0 rfl (lv_at hl 0 rfl) ?_
  refine lv_iconst (v := 5) hx hb dX5_isFirstOfTwo_1 (by decide) ?_
  refine yy_iald (v := 0) hx hb hK hP 0 0 rfl rfl (yin (by decide)) dX5_isFirstOfTwo_2 rfl ?_
  refine lv_if_eq (tgt := 16) hx hb dX5_isFirstOfTwo_3 (by decide) (fun _ => ?_) (fun c => absurd (by decide) c)
  refine lv_iconst (v := 0) hx hb dX5_isFirstOfTwo_16 (by decide) ?_
  refine W.widen (k := 0) (n := 0) (Nat.le_of_ble_eq_true rfl) (Nat.le_of_ble_eq_true rfl) ?_
  exact yy_iret (v := 0) () hx hb hr hlk rfl hsz hAe hK hP hD hS [0] rfl rfl (by decide) (rfl) dX5_isFirstOfTwo_17
set_option maxHeartbeats 4000000 in
set_option maxRecDepth 100000 in
theorem bS_X5_breaksAbove_23 (l : Launch) (dC : Nat → ClassId) (dI : Nat → Nat → Nat) (cyI cyZ cyO : ClassId) (sz : Nat) (a0 : Nat) (a1 : Nat) (a2 : Nat) (a3 : Nat) (a4 : Nat)  : Met l yX5_breaksAbove wsX5_breaksAbove ({ frames := 1, cells := 0, slots := 0, locals := 20 }) (yPre [.ref a0, .int 4, .ref a1, .ref a2] (dC, dI) [(a0, .inr (5, [.ref a3, .ref a4, .int 0, .int 0, .int 0])), (a1, .inl (cyI, 15, .inl yR)), (a2, .inl (cyI, 15, .inl yR))] (yT cyI cyZ cyO) sz) (yQi (fun (r : Int32) (u : Unit) => r = 0) (dC, dI) [(a0, .inr (5, [.ref a3, .ref a4, .int 0, .int 0, .int 0])), (a1, .inl (cyI, 15, .inl yR)), (a2, .inl (cyI, 15, .inl yR))] (yT cyI cyZ cyO) sz (fun _ => [(a0, .inr (5, [.ref a3, .ref a4, .int 0, .int 0, .int 0])), (a1, .inl (cyI, 15, .inl yR)), (a2, .inl (cyI, 15, .inl yR))])) 0 0 (va_A [(a0, .inr (5, [.ref a3, .ref a4, .int 0, .int 0, .int 0])), (a1, .inl (cyI, 15, .inl yR)), (a2, .inl (cyI, 15, .inl yR))] sz) := by
  refine yMet (cc := cX5_breaksAbove) (maxL := 4) (ret := (some .boolean)) (by decide) rfl (Nat.le_of_ble_eq_true rfl) ?_
  intro p e s m below meth c A hx hb hr hlk hml hts hown hnm hsz hAe hP hK hD hA hS ls hl
  have hl : lv_has ls 4 [(0, .ref a0), (1, .int 4), (2, .ref a1), (3, .ref a2)] := hl
  refine lv_iload_n hx hb dX5_breaksAbove_0 rfl (lv_at hl 1 rfl) ?_
  refine lv_tableIn (off := 90) (tgt := 91) hx hb dX5_breaksAbove_1 (by decide) (by decide) (by decide) (by decide) ?_
  refine lv_aload_n hx hb dX5_breaksAbove_91 rfl (lv_at hl 2 rfl) ?_
  have hPc := hP.sub (ws' := [(a1, .inl (cyI, 15, .inl yR))]) [1] rfl
  have hDc := hD.sub (ws' := [(a1, .inl (cyI, 15, .inl yR))]) [1] (by decide) rfl
  refine yy_calli [1] [0, 2] (wr := [(a0, .inr (5, [.ref a3, .ref a4, .int 0, .int 0, .int 0])), (a2, .inl (cyI, 15, .inl yR))]) (va_runS (As := [.ref a1]) (rest := []) ⟨hx, hb, hml, hown, hts⟩ (bS_X5_isSecondOfTwo_21 l dC dI cyI cyZ cyO s.heap.size a1 ) (va_cwS 1 hts gX5_breaksAbove_X5_isSecondOfTwo rfl rfl rfl (by decide +kernel) ⟨Nat.le_of_ble_eq_true rfl, Nat.le_of_ble_eq_true rfl⟩) (yPreS hK hPc hDc) rfl rfl hl.1 rfl (lv_room (Nat.le_of_ble_eq_true rfl)) dX5_breaksAbove_92 ⟨Nat.le_of_ble_eq_true rfl, Nat.le_of_ble_eq_true rfl⟩) hP hD hS hA rfl rfl (by decide) (by decide) (fun r_2 u_1 H locs hw hP hD hS => ?_)
  have hP : va_P (dC, dI) vwCl [(a0, .inr (5, [.ref a3, .ref a4, .int 0, .int 0, .int 0])), (a2, .inl (cyI, 15, .inl yR)), (a1, .inl (cyI, 15, .inl yR))] H := hP
  have hD : va_D A [(a0, .inr (5, [.ref a3, .ref a4, .int 0, .int 0, .int 0])), (a2, .inl (cyI, 15, .inl yR)), (a1, .inl (cyI, 15, .inl yR))] := hD
  refine W.widen (k := 0) (n := 0) (Nat.le_of_ble_eq_true rfl) (Nat.le_of_ble_eq_true rfl) ?_
  have hw : r_2 = 0 := hw
  subst hw
  refine lv_aload_n hx hb dX5_breaksAbove_95 rfl (lv_at hl 3 rfl) ?_
  have hPc := hP.sub (ws' := [(a2, .inl (cyI, 15, .inl yR))]) [1] rfl
  have hDc := hD.sub (ws' := [(a2, .inl (cyI, 15, .inl yR))]) [1] (by decide) rfl
  refine yy_calli [1] [0, 2] (wr := [(a0, .inr (5, [.ref a3, .ref a4, .int 0, .int 0, .int 0])), (a1, .inl (cyI, 15, .inl yR))]) (va_runS (As := [.ref a2]) (rest := [.int 0]) ⟨hx, hb, hml, hown, hts⟩ (bS_X5_isFirstOfTwo_22 l dC dI cyI cyZ cyO H.size a2 ) (va_cwS 1 hts gX5_breaksAbove_X5_isFirstOfTwo rfl rfl rfl (by decide +kernel) ⟨Nat.le_of_ble_eq_true rfl, Nat.le_of_ble_eq_true rfl⟩) (yPreS hK hPc hDc) rfl rfl hl.1 rfl (lv_room (Nat.le_of_ble_eq_true rfl)) dX5_breaksAbove_96 ⟨Nat.le_of_ble_eq_true rfl, Nat.le_of_ble_eq_true rfl⟩) hP hD hS hA rfl rfl (by decide) (by decide) (fun r_4 u_3 H locs hw hP hD hS => ?_)
  have hP : va_P (dC, dI) vwCl [(a0, .inr (5, [.ref a3, .ref a4, .int 0, .int 0, .int 0])), (a1, .inl (cyI, 15, .inl yR)), (a2, .inl (cyI, 15, .inl yR))] H := hP
  have hD : va_D A [(a0, .inr (5, [.ref a3, .ref a4, .int 0, .int 0, .int 0])), (a1, .inl (cyI, 15, .inl yR)), (a2, .inl (cyI, 15, .inl yR))] := hD
  refine W.widen (k := 0) (n := 0) (Nat.le_of_ble_eq_true rfl) (Nat.le_of_ble_eq_true rfl) ?_
  have hw : r_4 = 0 := hw
  subst hw
  refine lv_icmp_eq (tgt := 106) hx hb dX5_breaksAbove_99 (by decide) (fun _ => ?_) (fun c => absurd (by decide) c)
  refine lv_iconst (v := 0) hx hb dX5_breaksAbove_106 (by decide) ?_
  refine W.widen (k := 0) (n := 0) (Nat.le_of_ble_eq_true rfl) (Nat.le_of_ble_eq_true rfl) ?_
  exact yy_iret (v := 0) () hx hb hr hlk rfl hsz hAe hK hP hD hS [0, 1, 2] rfl rfl (by decide) (rfl) dX5_breaksAbove_107
set_option maxHeartbeats 4000000 in
set_option maxRecDepth 100000 in
theorem bS_X5_breaksAbove_24 (l : Launch) (dC : Nat → ClassId) (dI : Nat → Nat → Nat) (cyI cyZ cyO : ClassId) (sz : Nat) (a0 : Nat) (a1 : Nat) (a2 : Nat) (a3 : Nat) (a4 : Nat)  : Met l yX5_breaksAbove wsX5_breaksAbove ({ frames := 0, cells := 0, slots := 0, locals := 0 }) (yPre [.ref a0, .int 5, .ref a1, .ref a2] (dC, dI) [(a0, .inr (5, [.ref a3, .ref a4, .int 0, .int 0, .int 0])), (a1, .inl (cyI, 15, .inl yR))] (yT cyI cyZ cyO) sz) (yQi (fun (r : Int32) (u : Unit) => r = 0) (dC, dI) [(a0, .inr (5, [.ref a3, .ref a4, .int 0, .int 0, .int 0])), (a1, .inl (cyI, 15, .inl yR))] (yT cyI cyZ cyO) sz (fun _ => [(a0, .inr (5, [.ref a3, .ref a4, .int 0, .int 0, .int 0])), (a1, .inl (cyI, 15, .inl yR))])) 0 0 (va_A [(a0, .inr (5, [.ref a3, .ref a4, .int 0, .int 0, .int 0])), (a1, .inl (cyI, 15, .inl yR))] sz) := by
  refine yMet (cc := cX5_breaksAbove) (maxL := 4) (ret := (some .boolean)) (by decide) rfl (Nat.le_of_ble_eq_true rfl) ?_
  intro p e s m below meth c A hx hb hr hlk hml hts hown hnm hsz hAe hP hK hD hA hS ls hl
  have hl : lv_has ls 4 [(0, .ref a0), (1, .int 5), (2, .ref a1), (3, .ref a2)] := hl
  refine lv_iload_n hx hb dX5_breaksAbove_0 rfl (lv_at hl 1 rfl) ?_
  refine lv_tableIn (off := 107) (tgt := 108) hx hb dX5_breaksAbove_1 (by decide) (by decide) (by decide) (by decide) ?_
  refine lv_aload_n hx hb dX5_breaksAbove_108 rfl (lv_at hl 2 rfl) ?_
  refine lv_iconst (v := 5) hx hb dX5_breaksAbove_109 (by decide) ?_
  refine yy_iald (v := 0) hx hb hK hP 1 0 rfl rfl (yin (by decide)) dX5_breaksAbove_110 rfl ?_
  refine lv_if_eq (tgt := 125) hx hb dX5_breaksAbove_111 (by decide) (fun _ => ?_) (fun c => absurd (by decide) c)
  refine lv_iconst (v := 0) hx hb dX5_breaksAbove_125 (by decide) ?_
  refine W.widen (k := 0) (n := 0) (Nat.le_of_ble_eq_true rfl) (Nat.le_of_ble_eq_true rfl) ?_
  exact yy_iret (v := 0) () hx hb hr hlk rfl hsz hAe hK hP hD hS [0, 1] rfl rfl (by decide) (rfl) dX5_breaksAbove_126
set_option maxHeartbeats 4000000 in
set_option maxRecDepth 100000 in
theorem bS_X5_breaksAbove_25 (l : Launch) (dC : Nat → ClassId) (dI : Nat → Nat → Nat) (cyI cyZ cyO : ClassId) (sz : Nat) (a0 : Nat) (a1 : Nat) (a2 : Nat) (a3 : Nat) (a4 : Nat)  : Met l yX5_breaksAbove wsX5_breaksAbove ({ frames := 0, cells := 0, slots := 0, locals := 0 }) (yPre [.ref a0, .int 6, .ref a1, .ref a2] (dC, dI) [(a0, .inr (5, [.ref a3, .ref a4, .int 0, .int 0, .int 0])), (a1, .inl (cyI, 15, .inl yR))] (yT cyI cyZ cyO) sz) (yQi (fun (r : Int32) (u : Unit) => r = 0) (dC, dI) [(a0, .inr (5, [.ref a3, .ref a4, .int 0, .int 0, .int 0])), (a1, .inl (cyI, 15, .inl yR))] (yT cyI cyZ cyO) sz (fun _ => [(a0, .inr (5, [.ref a3, .ref a4, .int 0, .int 0, .int 0])), (a1, .inl (cyI, 15, .inl yR))])) 0 0 (va_A [(a0, .inr (5, [.ref a3, .ref a4, .int 0, .int 0, .int 0])), (a1, .inl (cyI, 15, .inl yR))] sz) := by
  refine yMet (cc := cX5_breaksAbove) (maxL := 4) (ret := (some .boolean)) (by decide) rfl (Nat.le_of_ble_eq_true rfl) ?_
  intro p e s m below meth c A hx hb hr hlk hml hts hown hnm hsz hAe hP hK hD hA hS ls hl
  have hl : lv_has ls 4 [(0, .ref a0), (1, .int 6), (2, .ref a1), (3, .ref a2)] := hl
  refine lv_iload_n hx hb dX5_breaksAbove_0 rfl (lv_at hl 1 rfl) ?_
  refine lv_tableIn (off := 126) (tgt := 127) hx hb dX5_breaksAbove_1 (by decide) (by decide) (by decide) (by decide) ?_
  refine lv_aload_n hx hb dX5_breaksAbove_127 rfl (lv_at hl 2 rfl) ?_
  refine lv_iconst (v := 4) hx hb dX5_breaksAbove_128 (by decide) ?_
  refine yy_iald (v := 1) hx hb hK hP 1 0 rfl rfl (yin (by decide)) dX5_breaksAbove_129 rfl ?_
  refine lv_if_ne (tgt := 144) hx hb dX5_breaksAbove_130 (by decide) (fun _ => ?_) (fun c => absurd c (by decide))
  refine lv_iconst (v := 0) hx hb dX5_breaksAbove_144 (by decide) ?_
  refine W.widen (k := 0) (n := 0) (Nat.le_of_ble_eq_true rfl) (Nat.le_of_ble_eq_true rfl) ?_
  exact yy_iret (v := 0) () hx hb hr hlk rfl hsz hAe hK hP hD hS [0, 1] rfl rfl (by decide) (rfl) dX5_breaksAbove_145
set_option maxHeartbeats 4000000 in
set_option maxRecDepth 100000 in
theorem bS_X5_breaksAbove_26 (l : Launch) (dC : Nat → ClassId) (dI : Nat → Nat → Nat) (cyI cyZ cyO : ClassId) (sz : Nat) (a0 : Nat) (a1 : Nat) (a2 : Nat) (a3 : Nat) (a4 : Nat)  : Met l yX5_breaksAbove wsX5_breaksAbove ({ frames := 0, cells := 0, slots := 0, locals := 0 }) (yPre [.ref a0, .int 7, .ref a1, .ref a2] (dC, dI) [(a0, .inr (5, [.ref a3, .ref a4, .int 0, .int 0, .int 0]))] (yT cyI cyZ cyO) sz) (yQi (fun (r : Int32) (u : Unit) => r = 0) (dC, dI) [(a0, .inr (5, [.ref a3, .ref a4, .int 0, .int 0, .int 0]))] (yT cyI cyZ cyO) sz (fun _ => [(a0, .inr (5, [.ref a3, .ref a4, .int 0, .int 0, .int 0]))])) 0 0 (va_A [(a0, .inr (5, [.ref a3, .ref a4, .int 0, .int 0, .int 0]))] sz) := by
  refine yMet (cc := cX5_breaksAbove) (maxL := 4) (ret := (some .boolean)) (by decide) rfl (Nat.le_of_ble_eq_true rfl) ?_
  intro p e s m below meth c A hx hb hr hlk hml hts hown hnm hsz hAe hP hK hD hA hS ls hl
  have hl : lv_has ls 4 [(0, .ref a0), (1, .int 7), (2, .ref a1), (3, .ref a2)] := hl
  have hf38 := hts (.fieldLink RX5 38 "BusBridge$Monitor" "lowClocks" "I") (by decide +kernel)
  have hnX5 : ∀ w ∈ wsX50, w ∈ wsX5_breaksAbove := by decide +kernel
  refine lv_iload_n hx hb dX5_breaksAbove_0 rfl (lv_at hl 1 rfl) ?_
  refine lv_tableIn (off := 145) (tgt := 146) hx hb dX5_breaksAbove_1 (by decide) (by decide) (by decide) (by decide) ?_
  refine lv_aload_n hx hb dX5_breaksAbove_146 rfl (lv_at hl 0 rfl) ?_
  refine va_get (D := (dC, dI)) (ci := 5) (v := .int 0) (C := RX5) (T := TX5) (N := 5) hx hb hts hnX5 hown hK hP 0 rfl rfl 4 (by decide) hf38 (fun _ h9 => h9) rfl dX5_breaksAbove_147 ?_
  refine lv_bipush (v := 100) hx hb dX5_breaksAbove_150 (by decide) ?_
  refine lv_icmp_ne (tgt := 159) hx hb dX5_breaksAbove_152 (by decide) (fun _ => ?_) (fun c => absurd c (by decide))
  refine lv_iconst (v := 0) hx hb dX5_breaksAbove_159 (by decide) ?_
  refine W.widen (k := 0) (n := 0) (Nat.le_of_ble_eq_true rfl) (Nat.le_of_ble_eq_true rfl) ?_
  exact yy_iret (v := 0) () hx hb hr hlk rfl hsz hAe hK hP hD hS [0] rfl rfl (by decide) (rfl) dX5_breaksAbove_160
set_option maxHeartbeats 4000000 in
set_option maxRecDepth 100000 in
theorem bS_J6_bitCount_0f7a4_27 (l : Launch) (dC : Nat → ClassId) (dI : Nat → Nat → Nat) (cyI cyZ cyO : ClassId) (sz : Nat)   : Met l yJ6_bitCount_0f7a4 wsJ6_bitCount_0f7a4 ({ frames := 0, cells := 0, slots := 0, locals := 0 }) (yPre [.int 0] (dC, dI) [] (yT cyI cyZ cyO) sz) (yQi (fun (r : Int32) (u : Unit) => r = 0) (dC, dI) [] (yT cyI cyZ cyO) sz (fun _ => [])) 0 0 (va_A [] sz) := by
  refine yMet (cc := cJ6_bitCount_0f7a4) (maxL := 1) (ret := (some .int)) (by decide) rfl (Nat.le_of_ble_eq_true rfl) ?_
  intro p e s m below meth c A hx hb hr hlk hml hts hown hnm hsz hAe hP hK hD hA hS ls hl
  have hl : lv_has ls 1 [(0, .int 0)] := hl
  have hk265 := hts (.constant RJ6 265 1431655765) (by decide +kernel)
  have hk266 := hts (.constant RJ6 266 858993459) (by decide +kernel)
  have hk267 := hts (.constant RJ6 267 252645135) (by decide +kernel)
  refine lv_iload_n hx hb dJ6_bitCount_0f7a4_0 rfl (lv_at hl 0 rfl) ?_
  refine lv_iload_n hx hb dJ6_bitCount_0f7a4_1 rfl (lv_at hl 0 rfl) ?_
  refine lv_iconst (v := 1) hx hb dJ6_bitCount_0f7a4_2 (by decide) ?_
  refine lv_iushr (v := 0) hx hb dJ6_bitCount_0f7a4_3 (by decide) ?_
  refine lv_ldcw hx hb hown hk265 dJ6_bitCount_0f7a4_4 ?_
  refine lv_iand hx hb dJ6_bitCount_0f7a4_7 ?_
  refine yy_int (v := 0) (by decide) ?_
  refine lv_isub hx hb dJ6_bitCount_0f7a4_8 ?_
  refine yy_int (v := 0) (by decide) ?_
  refine lv_istore_n (lv' := [(0, .int 0)]) hx hb dJ6_bitCount_0f7a4_9 rfl hl (by decide) rfl (fun ls hl => ?_)
  refine lv_iload_n hx hb dJ6_bitCount_0f7a4_10 rfl (lv_at hl 0 rfl) ?_
  refine lv_ldcw hx hb hown hk266 dJ6_bitCount_0f7a4_11 ?_
  refine lv_iand hx hb dJ6_bitCount_0f7a4_14 ?_
  refine yy_int (v := 0) (by decide) ?_
  refine lv_iload_n hx hb dJ6_bitCount_0f7a4_15 rfl (lv_at hl 0 rfl) ?_
  refine lv_iconst (v := 2) hx hb dJ6_bitCount_0f7a4_16 (by decide) ?_
  refine lv_iushr (v := 0) hx hb dJ6_bitCount_0f7a4_17 (by decide) ?_
  refine lv_ldcw hx hb hown hk266 dJ6_bitCount_0f7a4_18 ?_
  refine lv_iand hx hb dJ6_bitCount_0f7a4_21 ?_
  refine yy_int (v := 0) (by decide) ?_
  refine lv_iadd hx hb dJ6_bitCount_0f7a4_22 ?_
  refine yy_int (v := 0) (by decide) ?_
  refine lv_istore_n (lv' := [(0, .int 0)]) hx hb dJ6_bitCount_0f7a4_23 rfl hl (by decide) rfl (fun ls hl => ?_)
  refine lv_iload_n hx hb dJ6_bitCount_0f7a4_24 rfl (lv_at hl 0 rfl) ?_
  refine lv_iload_n hx hb dJ6_bitCount_0f7a4_25 rfl (lv_at hl 0 rfl) ?_
  refine lv_iconst (v := 4) hx hb dJ6_bitCount_0f7a4_26 (by decide) ?_
  refine lv_iushr (v := 0) hx hb dJ6_bitCount_0f7a4_27 (by decide) ?_
  refine lv_iadd hx hb dJ6_bitCount_0f7a4_28 ?_
  refine yy_int (v := 0) (by decide) ?_
  refine lv_ldcw hx hb hown hk267 dJ6_bitCount_0f7a4_29 ?_
  refine lv_iand hx hb dJ6_bitCount_0f7a4_32 ?_
  refine yy_int (v := 0) (by decide) ?_
  refine lv_istore_n (lv' := [(0, .int 0)]) hx hb dJ6_bitCount_0f7a4_33 rfl hl (by decide) rfl (fun ls hl => ?_)
  refine lv_iload_n hx hb dJ6_bitCount_0f7a4_34 rfl (lv_at hl 0 rfl) ?_
  refine lv_iload_n hx hb dJ6_bitCount_0f7a4_35 rfl (lv_at hl 0 rfl) ?_
  refine lv_bipush (v := 8) hx hb dJ6_bitCount_0f7a4_36 (by decide) ?_
  refine lv_iushr (v := 0) hx hb dJ6_bitCount_0f7a4_38 (by decide) ?_
  refine lv_iadd hx hb dJ6_bitCount_0f7a4_39 ?_
  refine yy_int (v := 0) (by decide) ?_
  refine lv_istore_n (lv' := [(0, .int 0)]) hx hb dJ6_bitCount_0f7a4_40 rfl hl (by decide) rfl (fun ls hl => ?_)
  refine lv_iload_n hx hb dJ6_bitCount_0f7a4_41 rfl (lv_at hl 0 rfl) ?_
  refine lv_iload_n hx hb dJ6_bitCount_0f7a4_42 rfl (lv_at hl 0 rfl) ?_
  refine lv_bipush (v := 16) hx hb dJ6_bitCount_0f7a4_43 (by decide) ?_
  refine lv_iushr (v := 0) hx hb dJ6_bitCount_0f7a4_45 (by decide) ?_
  refine lv_iadd hx hb dJ6_bitCount_0f7a4_46 ?_
  refine yy_int (v := 0) (by decide) ?_
  refine lv_istore_n (lv' := [(0, .int 0)]) hx hb dJ6_bitCount_0f7a4_47 rfl hl (by decide) rfl (fun ls hl => ?_)
  refine lv_iload_n hx hb dJ6_bitCount_0f7a4_48 rfl (lv_at hl 0 rfl) ?_
  refine lv_bipush (v := 63) hx hb dJ6_bitCount_0f7a4_49 (by decide) ?_
  refine lv_iand hx hb dJ6_bitCount_0f7a4_51 ?_
  refine yy_int (v := 0) (by decide) ?_
  refine W.widen (k := 0) (n := 0) (Nat.le_of_ble_eq_true rfl) (Nat.le_of_ble_eq_true rfl) ?_
  exact yy_iret (v := 0) () hx hb hr hlk rfl hsz hAe hK hP hD hS [] rfl rfl (by decide) (rfl) dJ6_bitCount_0f7a4_52
set_option maxHeartbeats 4000000 in
set_option maxRecDepth 100000 in
theorem bS_X5_selectsBadly_28 (l : Launch) (dC : Nat → ClassId) (dI : Nat → Nat → Nat) (cyI cyZ cyO : ClassId) (sz : Nat) (a0 : Nat) (a1 : Nat) (a2 : Nat) (a3 : Nat) (a4 : Nat) (a5 : Nat) (a6 : Nat) (a7 : Nat) (a8 : Nat)  : Met l yX5_selectsBadly wsX5_selectsBadly ({ frames := 1, cells := 0, slots := 0, locals := 20 }) (yPre [.ref a0, .int 0] (dC, dI) [(a0, .inr (6, [.ref a1, .ref a2, .ref a3, .ref a4, .ref a5, .ref a6, .ref a7, .ref a8, .int 0, .int 0, .int 0, .int 32, .int 0]))] (yT cyI cyZ cyO) sz) (yQi (fun (r : Int32) (u : Unit) => r = 0) (dC, dI) [(a0, .inr (6, [.ref a1, .ref a2, .ref a3, .ref a4, .ref a5, .ref a6, .ref a7, .ref a8, .int 0, .int 0, .int 0, .int 32, .int 0]))] (yT cyI cyZ cyO) sz (fun _ => [(a0, .inr (6, [.ref a1, .ref a2, .ref a3, .ref a4, .ref a5, .ref a6, .ref a7, .ref a8, .int 0, .int 0, .int 0, .int 32, .int 0]))])) 0 0 (va_A [(a0, .inr (6, [.ref a1, .ref a2, .ref a3, .ref a4, .ref a5, .ref a6, .ref a7, .ref a8, .int 0, .int 0, .int 0, .int 32, .int 0]))] sz) := by
  refine yMet (cc := cX5_selectsBadly) (maxL := 2) (ret := (some .boolean)) (by decide) rfl (Nat.le_of_ble_eq_true rfl) ?_
  intro p e s m below meth c A hx hb hr hlk hml hts hown hnm hsz hAe hP hK hD hA hS ls hl
  have hl : lv_has ls 2 [(0, .ref a0), (1, .int 0)] := hl
  have hf122 := hts (.fieldLink RX5 122 "BusBridge$Plan" "slaves" "I") (by decide +kernel)
  have hnX6 : ∀ w ∈ wsX60, w ∈ wsX5_selectsBadly := by decide +kernel
  refine lv_iload_n hx hb dX5_selectsBadly_0 rfl (lv_at hl 1 rfl) ?_
  have hPc := hP.sub (ws' := []) [] rfl
  have hDc := hD.sub (ws' := []) [] (by decide) rfl
  refine yy_calli [] [0] (wr := [(a0, .inr (6, [.ref a1, .ref a2, .ref a3, .ref a4, .ref a5, .ref a6, .ref a7, .ref a8, .int 0, .int 0, .int 0, .int 32, .int 0]))]) (va_runS (As := [.int 0]) (rest := []) ⟨hx, hb, hml, hown, hts⟩ (bS_J6_bitCount_0f7a4_27 l dC dI cyI cyZ cyO s.heap.size ) (va_cwS 1 hts gX5_selectsBadly_J6_bitCount_0f7a4 rfl rfl rfl (by decide +kernel) ⟨Nat.le_of_ble_eq_true rfl, Nat.le_of_ble_eq_true rfl⟩) (yPreS hK hPc hDc) rfl rfl hl.1 rfl (lv_room (Nat.le_of_ble_eq_true rfl)) dX5_selectsBadly_1 ⟨Nat.le_of_ble_eq_true rfl, Nat.le_of_ble_eq_true rfl⟩) hP hD hS hA rfl rfl (by decide) (by decide) (fun r_2 u_1 H locs hw hP hD hS => ?_)
  have hP : va_P (dC, dI) vwCl [(a0, .inr (6, [.ref a1, .ref a2, .ref a3, .ref a4, .ref a5, .ref a6, .ref a7, .ref a8, .int 0, .int 0, .int 0, .int 32, .int 0]))] H := hP
  have hD : va_D A [(a0, .inr (6, [.ref a1, .ref a2, .ref a3, .ref a4, .ref a5, .ref a6, .ref a7, .ref a8, .int 0, .int 0, .int 0, .int 32, .int 0]))] := hD
  refine W.widen (k := 0) (n := 0) (Nat.le_of_ble_eq_true rfl) (Nat.le_of_ble_eq_true rfl) ?_
  have hw : r_2 = 0 := hw
  subst hw
  refine lv_iconst (v := 1) hx hb dX5_selectsBadly_4 (by decide) ?_
  refine lv_icmp_gt (tgt := 17) hx hb dX5_selectsBadly_5 (by decide) (fun c => absurd c (by decide)) (fun _ => ?_)
  refine lv_iload_n hx hb dX5_selectsBadly_8 rfl (lv_at hl 1 rfl) ?_
  refine lv_aload_n hx hb dX5_selectsBadly_9 rfl (lv_at hl 0 rfl) ?_
  refine va_get (D := (dC, dI)) (ci := 6) (v := .int 0) (C := RX6) (T := TX6) (N := 13) hx hb hts hnX6 hown hK hP 0 rfl rfl 8 (by decide) hf122 (fun _ h9 => h9) rfl dX5_selectsBadly_10 ?_
  refine lv_iushr (v := 0) hx hb dX5_selectsBadly_13 (by decide) ?_
  refine lv_if_eq (tgt := 21) hx hb dX5_selectsBadly_14 (by decide) (fun _ => ?_) (fun c => absurd (by decide) c)
  refine lv_iconst (v := 0) hx hb dX5_selectsBadly_21 (by decide) ?_
  refine W.widen (k := 0) (n := 0) (Nat.le_of_ble_eq_true rfl) (Nat.le_of_ble_eq_true rfl) ?_
  exact yy_iret (v := 0) () hx hb hr hlk rfl hsz hAe hK hP hD hS [0] rfl rfl (by decide) (rfl) dX5_selectsBadly_22
set_option maxHeartbeats 4000000 in
set_option maxRecDepth 100000 in
theorem bS_X5_breaksBelow_29 (l : Launch) (dC : Nat → ClassId) (dI : Nat → Nat → Nat) (cyI cyZ cyO : ClassId) (sz : Nat) (a0 : Nat) (a1 : Nat) (a2 : Nat) (a3 : Nat) (a4 : Nat) (a5 : Nat) (a6 : Nat) (a7 : Nat) (a8 : Nat) (a9 : Nat) (a10 : Nat) (a11 : Nat) (a12 : Nat) (a13 : Nat)  : Met l yX5_breaksBelow wsX5_breaksBelow ({ frames := 2, cells := 0, slots := 0, locals := 41 }) (yPre [.ref a0, .int 8, .ref a1, .ref a2, .ref a3] (dC, dI) [(a0, .inr (5, [.ref a4, .ref a5, .int 0, .int 0, .int 0])), (a1, .inr (6, [.ref a6, .ref a7, .ref a8, .ref a9, .ref a10, .ref a11, .ref a12, .ref a13, .int 0, .int 0, .int 0, .int 32, .int 0])), (a2, .inl (cyI, 15, .inl yR))] (yT cyI cyZ cyO) sz) (yQi (fun (r : Int32) (u : Unit) => r = 0) (dC, dI) [(a0, .inr (5, [.ref a4, .ref a5, .int 0, .int 0, .int 0])), (a1, .inr (6, [.ref a6, .ref a7, .ref a8, .ref a9, .ref a10, .ref a11, .ref a12, .ref a13, .int 0, .int 0, .int 0, .int 32, .int 0])), (a2, .inl (cyI, 15, .inl yR))] (yT cyI cyZ cyO) sz (fun _ => [(a0, .inr (5, [.ref a4, .ref a5, .int 0, .int 0, .int 0])), (a1, .inr (6, [.ref a6, .ref a7, .ref a8, .ref a9, .ref a10, .ref a11, .ref a12, .ref a13, .int 0, .int 0, .int 0, .int 32, .int 0])), (a2, .inl (cyI, 15, .inl yR))])) 0 0 (va_A [(a0, .inr (5, [.ref a4, .ref a5, .int 0, .int 0, .int 0])), (a1, .inr (6, [.ref a6, .ref a7, .ref a8, .ref a9, .ref a10, .ref a11, .ref a12, .ref a13, .int 0, .int 0, .int 0, .int 32, .int 0])), (a2, .inl (cyI, 15, .inl yR))] sz) := by
  refine yMet (cc := cX5_breaksBelow) (maxL := 6) (ret := (some .boolean)) (by decide) rfl (Nat.le_of_ble_eq_true rfl) ?_
  intro p e s m below meth c A hx hb hr hlk hml hts hown hnm hsz hAe hP hK hD hA hS ls hl
  have hl : lv_has ls 6 [(0, .ref a0), (1, .int 8), (2, .ref a1), (3, .ref a2), (4, .ref a3)] := hl
  refine lv_aload_n hx hb dX5_breaksBelow_0 rfl (lv_at hl 3 rfl) ?_
  refine lv_bipush (v := 8) hx hb dX5_breaksBelow_1 (by decide) ?_
  refine yy_iald (v := 0) hx hb hK hP 2 0 rfl rfl (yin (by decide)) dX5_breaksBelow_3 rfl ?_
  refine lv_if_eq (tgt := 11) hx hb dX5_breaksBelow_4 (by decide) (fun _ => ?_) (fun c => absurd (by decide) c)
  refine lv_iconst (v := 0) hx hb dX5_breaksBelow_11 (by decide) ?_
  refine lv_istore (lv' := [(5, .int 0), (0, .ref a0), (1, .int 8), (2, .ref a1), (3, .ref a2), (4, .ref a3)]) hx hb dX5_breaksBelow_12 hl (by decide) rfl (fun ls hl => ?_)
  refine lv_iload_n hx hb dX5_breaksBelow_14 rfl (lv_at hl 2 rfl) ?_
  refine lv_tableIn (off := 45) (tgt := 60) hx hb dX5_breaksBelow_15 (by decide) (by decide) (by decide) (by decide) ?_
  refine lv_aload_n hx hb dX5_breaksBelow_60 rfl (lv_at hl 3 rfl) ?_
  refine lv_aload_n hx hb dX5_breaksBelow_61 rfl (lv_at hl 4 rfl) ?_
  refine lv_bipush (v := 7) hx hb dX5_breaksBelow_62 (by decide) ?_
  refine yy_iald (v := 0) hx hb hK hP 2 0 rfl rfl (yin (by decide)) dX5_breaksBelow_64 rfl ?_
  have hPc := hP.sub (ws' := [(a1, .inr (6, [.ref a6, .ref a7, .ref a8, .ref a9, .ref a10, .ref a11, .ref a12, .ref a13, .int 0, .int 0, .int 0, .int 32, .int 0]))]) [1] rfl
  have hDc := hD.sub (ws' := [(a1, .inr (6, [.ref a6, .ref a7, .ref a8, .ref a9, .ref a10, .ref a11, .ref a12, .ref a13, .int 0, .int 0, .int 0, .int 32, .int 0]))]) [1] (by decide) rfl
  refine yy_calli [1] [0, 2] (wr := [(a0, .inr (5, [.ref a4, .ref a5, .int 0, .int 0, .int 0])), (a2, .inl (cyI, 15, .inl yR))]) (va_runS (As := [.ref a1, .int 0]) (rest := []) ⟨hx, hb, hml, hown, hts⟩ (bS_X5_selectsBadly_28 l dC dI cyI cyZ cyO s.heap.size a1 a6 a7 a8 a9 a10 a11 a12 a13 ) (va_cwS 2 hts gX5_breaksBelow_X5_selectsBadly rfl rfl rfl (by decide +kernel) ⟨Nat.le_of_ble_eq_true rfl, Nat.le_of_ble_eq_true rfl⟩) (yPreS hK hPc hDc) rfl rfl hl.1 rfl (lv_room (Nat.le_of_ble_eq_true rfl)) dX5_breaksBelow_65 ⟨Nat.le_of_ble_eq_true rfl, Nat.le_of_ble_eq_true rfl⟩) hP hD hS hA rfl rfl (by decide) (by decide) (fun r_2 u_1 H locs hw hP hD hS => ?_)
  have hP : va_P (dC, dI) vwCl [(a0, .inr (5, [.ref a4, .ref a5, .int 0, .int 0, .int 0])), (a2, .inl (cyI, 15, .inl yR)), (a1, .inr (6, [.ref a6, .ref a7, .ref a8, .ref a9, .ref a10, .ref a11, .ref a12, .ref a13, .int 0, .int 0, .int 0, .int 32, .int 0]))] H := hP
  have hD : va_D A [(a0, .inr (5, [.ref a4, .ref a5, .int 0, .int 0, .int 0])), (a2, .inl (cyI, 15, .inl yR)), (a1, .inr (6, [.ref a6, .ref a7, .ref a8, .ref a9, .ref a10, .ref a11, .ref a12, .ref a13, .int 0, .int 0, .int 0, .int 32, .int 0]))] := hD
  refine W.widen (k := 0) (n := 0) (Nat.le_of_ble_eq_true rfl) (Nat.le_of_ble_eq_true rfl) ?_
  have hw : r_2 = 0 := hw
  subst hw
  refine W.widen (k := 0) (n := 0) (Nat.le_of_ble_eq_true rfl) (Nat.le_of_ble_eq_true rfl) ?_
  exact yy_iret (v := 0) () hx hb hr hlk rfl hsz hAe hK hP hD hS [0, 2, 1] rfl rfl (by decide) (rfl) dX5_breaksBelow_68
set_option maxHeartbeats 4000000 in
set_option maxRecDepth 100000 in
theorem bS_X5_breaksBelow_30 (l : Launch) (dC : Nat → ClassId) (dI : Nat → Nat → Nat) (cyI cyZ cyO : ClassId) (sz : Nat) (a0 : Nat) (a1 : Nat) (a2 : Nat) (a3 : Nat) (a4 : Nat) (a5 : Nat)  : Met l yX5_breaksBelow wsX5_breaksBelow ({ frames := 0, cells := 0, slots := 0, locals := 0 }) (yPre [.ref a0, .int 9, .ref a1, .ref a2, .ref a3] (dC, dI) [(a0, .inr (5, [.ref a4, .ref a5, .int 0, .int 0, .int 0])), (a2, .inl (cyI, 15, .inl yR))] (yT cyI cyZ cyO) sz) (yQi (fun (r : Int32) (u : Unit) => r = 0) (dC, dI) [(a0, .inr (5, [.ref a4, .ref a5, .int 0, .int 0, .int 0])), (a2, .inl (cyI, 15, .inl yR))] (yT cyI cyZ cyO) sz (fun _ => [(a0, .inr (5, [.ref a4, .ref a5, .int 0, .int 0, .int 0])), (a2, .inl (cyI, 15, .inl yR))])) 0 0 (va_A [(a0, .inr (5, [.ref a4, .ref a5, .int 0, .int 0, .int 0])), (a2, .inl (cyI, 15, .inl yR))] sz) := by
  refine yMet (cc := cX5_breaksBelow) (maxL := 6) (ret := (some .boolean)) (by decide) rfl (Nat.le_of_ble_eq_true rfl) ?_
  intro p e s m below meth c A hx hb hr hlk hml hts hown hnm hsz hAe hP hK hD hA hS ls hl
  have hl : lv_has ls 6 [(0, .ref a0), (1, .int 9), (2, .ref a1), (3, .ref a2), (4, .ref a3)] := hl
  refine lv_aload_n hx hb dX5_breaksBelow_0 rfl (lv_at hl 3 rfl) ?_
  refine lv_bipush (v := 8) hx hb dX5_breaksBelow_1 (by decide) ?_
  refine yy_iald (v := 0) hx hb hK hP 1 0 rfl rfl (yin (by decide)) dX5_breaksBelow_3 rfl ?_
  refine lv_if_eq (tgt := 11) hx hb dX5_breaksBelow_4 (by decide) (fun _ => ?_) (fun c => absurd (by decide) c)
  refine lv_iconst (v := 0) hx hb dX5_breaksBelow_11 (by decide) ?_
  refine lv_istore (lv' := [(5, .int 0), (0, .ref a0), (1, .int 9), (2, .ref a1), (3, .ref a2), (4, .ref a3)]) hx hb dX5_breaksBelow_12 hl (by decide) rfl (fun ls hl => ?_)
  refine lv_iload_n hx hb dX5_breaksBelow_14 rfl (lv_at hl 2 rfl) ?_
  refine lv_tableIn (off := 54) (tgt := 69) hx hb dX5_breaksBelow_15 (by decide) (by decide) (by decide) (by decide) ?_
  refine lv_iload hx hb dX5_breaksBelow_69 (lv_at hl 0 rfl) ?_
  refine lv_if_eq (tgt := 85) hx hb dX5_breaksBelow_71 (by decide) (fun _ => ?_) (fun c => absurd (by decide) c)
  refine lv_iconst (v := 0) hx hb dX5_breaksBelow_85 (by decide) ?_
  refine W.widen (k := 0) (n := 0) (Nat.le_of_ble_eq_true rfl) (Nat.le_of_ble_eq_true rfl) ?_
  exact yy_iret (v := 0) () hx hb hr hlk rfl hsz hAe hK hP hD hS [0, 1] rfl rfl (by decide) (rfl) dX5_breaksBelow_86
set_option maxHeartbeats 4000000 in
set_option maxRecDepth 100000 in
theorem bS_X5_breaksBelow_31 (l : Launch) (dC : Nat → ClassId) (dI : Nat → Nat → Nat) (cyI cyZ cyO : ClassId) (sz : Nat) (a0 : Nat) (a1 : Nat) (a2 : Nat) (a3 : Nat) (a4 : Nat) (a5 : Nat)  : Met l yX5_breaksBelow wsX5_breaksBelow ({ frames := 0, cells := 0, slots := 0, locals := 0 }) (yPre [.ref a0, .int 10, .ref a1, .ref a2, .ref a3] (dC, dI) [(a0, .inr (5, [.ref a4, .ref a5, .int 0, .int 0, .int 0])), (a2, .inl (cyI, 15, .inl yR))] (yT cyI cyZ cyO) sz) (yQi (fun (r : Int32) (u : Unit) => r = 0) (dC, dI) [(a0, .inr (5, [.ref a4, .ref a5, .int 0, .int 0, .int 0])), (a2, .inl (cyI, 15, .inl yR))] (yT cyI cyZ cyO) sz (fun _ => [(a0, .inr (5, [.ref a4, .ref a5, .int 0, .int 0, .int 0])), (a2, .inl (cyI, 15, .inl yR))])) 0 0 (va_A [(a0, .inr (5, [.ref a4, .ref a5, .int 0, .int 0, .int 0])), (a2, .inl (cyI, 15, .inl yR))] sz) := by
  refine yMet (cc := cX5_breaksBelow) (maxL := 6) (ret := (some .boolean)) (by decide) rfl (Nat.le_of_ble_eq_true rfl) ?_
  intro p e s m below meth c A hx hb hr hlk hml hts hown hnm hsz hAe hP hK hD hA hS ls hl
  have hl : lv_has ls 6 [(0, .ref a0), (1, .int 10), (2, .ref a1), (3, .ref a2), (4, .ref a3)] := hl
  refine lv_aload_n hx hb dX5_breaksBelow_0 rfl (lv_at hl 3 rfl) ?_
  refine lv_bipush (v := 8) hx hb dX5_breaksBelow_1 (by decide) ?_
  refine yy_iald (v := 0) hx hb hK hP 1 0 rfl rfl (yin (by decide)) dX5_breaksBelow_3 rfl ?_
  refine lv_if_eq (tgt := 11) hx hb dX5_breaksBelow_4 (by decide) (fun _ => ?_) (fun c => absurd (by decide) c)
  refine lv_iconst (v := 0) hx hb dX5_breaksBelow_11 (by decide) ?_
  refine lv_istore (lv' := [(5, .int 0), (0, .ref a0), (1, .int 10), (2, .ref a1), (3, .ref a2), (4, .ref a3)]) hx hb dX5_breaksBelow_12 hl (by decide) rfl (fun ls hl => ?_)
  refine lv_iload_n hx hb dX5_breaksBelow_14 rfl (lv_at hl 2 rfl) ?_
  refine lv_tableIn (off := 72) (tgt := 87) hx hb dX5_breaksBelow_15 (by decide) (by decide) (by decide) (by decide) ?_
  refine lv_iload hx hb dX5_breaksBelow_87 (lv_at hl 0 rfl) ?_
  refine lv_if_eq (tgt := 107) hx hb dX5_breaksBelow_89 (by decide) (fun _ => ?_) (fun c => absurd (by decide) c)
  refine lv_iconst (v := 0) hx hb dX5_breaksBelow_107 (by decide) ?_
  refine W.widen (k := 0) (n := 0) (Nat.le_of_ble_eq_true rfl) (Nat.le_of_ble_eq_true rfl) ?_
  exact yy_iret (v := 0) () hx hb hr hlk rfl hsz hAe hK hP hD hS [0, 1] rfl rfl (by decide) (rfl) dX5_breaksBelow_108
set_option maxHeartbeats 4000000 in
set_option maxRecDepth 100000 in
theorem bS_X5_breaksBelow_32 (l : Launch) (dC : Nat → ClassId) (dI : Nat → Nat → Nat) (cyI cyZ cyO : ClassId) (sz : Nat) (a0 : Nat) (a1 : Nat) (a2 : Nat) (a3 : Nat) (a4 : Nat) (a5 : Nat)  : Met l yX5_breaksBelow wsX5_breaksBelow ({ frames := 0, cells := 0, slots := 0, locals := 0 }) (yPre [.ref a0, .int 11, .ref a1, .ref a2, .ref a3] (dC, dI) [(a0, .inr (5, [.ref a4, .ref a5, .int 0, .int 0, .int 0])), (a2, .inl (cyI, 15, .inl yR)), (a3, .inl (cyI, 15, .inl yR))] (yT cyI cyZ cyO) sz) (yQi (fun (r : Int32) (u : Unit) => r = 0) (dC, dI) [(a0, .inr (5, [.ref a4, .ref a5, .int 0, .int 0, .int 0])), (a2, .inl (cyI, 15, .inl yR)), (a3, .inl (cyI, 15, .inl yR))] (yT cyI cyZ cyO) sz (fun _ => [(a0, .inr (5, [.ref a4, .ref a5, .int 0, .int 0, .int 0])), (a2, .inl (cyI, 15, .inl yR)), (a3, .inl (cyI, 15, .inl yR))])) 0 0 (va_A [(a0, .inr (5, [.ref a4, .ref a5, .int 0, .int 0, .int 0])), (a2, .inl (cyI, 15, .inl yR)), (a3, .inl (cyI, 15, .inl yR))] sz) := by
  refine yMet (cc := cX5_breaksBelow) (maxL := 6) (ret := (some .boolean)) (by decide) rfl (Nat.le_of_ble_eq_true rfl) ?_
  intro p e s m below meth c A hx hb hr hlk hml hts hown hnm hsz hAe hP hK hD hA hS ls hl
  have hl : lv_has ls 6 [(0, .ref a0), (1, .int 11), (2, .ref a1), (3, .ref a2), (4, .ref a3)] := hl
  refine lv_aload_n hx hb dX5_breaksBelow_0 rfl (lv_at hl 3 rfl) ?_
  refine lv_bipush (v := 8) hx hb dX5_breaksBelow_1 (by decide) ?_
  refine yy_iald (v := 0) hx hb hK hP 1 0 rfl rfl (yin (by decide)) dX5_breaksBelow_3 rfl ?_
  refine lv_if_eq (tgt := 11) hx hb dX5_breaksBelow_4 (by decide) (fun _ => ?_) (fun c => absurd (by decide) c)
  refine lv_iconst (v := 0) hx hb dX5_breaksBelow_11 (by decide) ?_
  refine lv_istore (lv' := [(5, .int 0), (0, .ref a0), (1, .int 11), (2, .ref a1), (3, .ref a2), (4, .ref a3)]) hx hb dX5_breaksBelow_12 hl (by decide) rfl (fun ls hl => ?_)
  refine lv_iload_n hx hb dX5_breaksBelow_14 rfl (lv_at hl 2 rfl) ?_
  refine lv_tableIn (off := 94) (tgt := 109) hx hb dX5_breaksBelow_15 (by decide) (by decide) (by decide) (by decide) ?_
  refine lv_aload hx hb dX5_breaksBelow_109 (lv_at hl 5 rfl) ?_
  refine lv_bipush (v := 7) hx hb dX5_breaksBelow_111 (by decide) ?_
  refine yy_iald (v := 0) hx hb hK hP 2 0 rfl rfl (yin (by decide)) dX5_breaksBelow_113 rfl ?_
  refine lv_if_eq (tgt := 138) hx hb dX5_breaksBelow_114 (by decide) (fun _ => ?_) (fun c => absurd (by decide) c)
  refine lv_iconst (v := 0) hx hb dX5_breaksBelow_138 (by decide) ?_
  refine W.widen (k := 0) (n := 0) (Nat.le_of_ble_eq_true rfl) (Nat.le_of_ble_eq_true rfl) ?_
  exact yy_iret (v := 0) () hx hb hr hlk rfl hsz hAe hK hP hD hS [0, 1, 2] rfl rfl (by decide) (rfl) dX5_breaksBelow_139
set_option maxHeartbeats 4000000 in
set_option maxRecDepth 100000 in
theorem bS_X5_breaksBelow_33 (l : Launch) (dC : Nat → ClassId) (dI : Nat → Nat → Nat) (cyI cyZ cyO : ClassId) (sz : Nat) (a0 : Nat) (a1 : Nat) (a2 : Nat) (a3 : Nat) (a4 : Nat) (a5 : Nat)  : Met l yX5_breaksBelow wsX5_breaksBelow ({ frames := 0, cells := 0, slots := 0, locals := 0 }) (yPre [.ref a0, .int 12, .ref a1, .ref a2, .ref a3] (dC, dI) [(a0, .inr (5, [.ref a4, .ref a5, .int 0, .int 0, .int 0])), (a2, .inl (cyI, 15, .inl yR)), (a3, .inl (cyI, 15, .inl yR))] (yT cyI cyZ cyO) sz) (yQi (fun (r : Int32) (u : Unit) => r = 0) (dC, dI) [(a0, .inr (5, [.ref a4, .ref a5, .int 0, .int 0, .int 0])), (a2, .inl (cyI, 15, .inl yR)), (a3, .inl (cyI, 15, .inl yR))] (yT cyI cyZ cyO) sz (fun _ => [(a0, .inr (5, [.ref a4, .ref a5, .int 0, .int 0, .int 0])), (a2, .inl (cyI, 15, .inl yR)), (a3, .inl (cyI, 15, .inl yR))])) 0 0 (va_A [(a0, .inr (5, [.ref a4, .ref a5, .int 0, .int 0, .int 0])), (a2, .inl (cyI, 15, .inl yR)), (a3, .inl (cyI, 15, .inl yR))] sz) := by
  refine yMet (cc := cX5_breaksBelow) (maxL := 6) (ret := (some .boolean)) (by decide) rfl (Nat.le_of_ble_eq_true rfl) ?_
  intro p e s m below meth c A hx hb hr hlk hml hts hown hnm hsz hAe hP hK hD hA hS ls hl
  have hl : lv_has ls 6 [(0, .ref a0), (1, .int 12), (2, .ref a1), (3, .ref a2), (4, .ref a3)] := hl
  refine lv_aload_n hx hb dX5_breaksBelow_0 rfl (lv_at hl 3 rfl) ?_
  refine lv_bipush (v := 8) hx hb dX5_breaksBelow_1 (by decide) ?_
  refine yy_iald (v := 0) hx hb hK hP 1 0 rfl rfl (yin (by decide)) dX5_breaksBelow_3 rfl ?_
  refine lv_if_eq (tgt := 11) hx hb dX5_breaksBelow_4 (by decide) (fun _ => ?_) (fun c => absurd (by decide) c)
  refine lv_iconst (v := 0) hx hb dX5_breaksBelow_11 (by decide) ?_
  refine lv_istore (lv' := [(5, .int 0), (0, .ref a0), (1, .int 12), (2, .ref a1), (3, .ref a2), (4, .ref a3)]) hx hb dX5_breaksBelow_12 hl (by decide) rfl (fun ls hl => ?_)
  refine lv_iload_n hx hb dX5_breaksBelow_14 rfl (lv_at hl 2 rfl) ?_
  refine lv_tableIn (off := 125) (tgt := 140) hx hb dX5_breaksBelow_15 (by decide) (by decide) (by decide) (by decide) ?_
  refine lv_aload hx hb dX5_breaksBelow_140 (lv_at hl 5 rfl) ?_
  refine lv_bipush (v := 8) hx hb dX5_breaksBelow_142 (by decide) ?_
  refine yy_iald (v := 0) hx hb hK hP 2 0 rfl rfl (yin (by decide)) dX5_breaksBelow_144 rfl ?_
  refine lv_if_eq (tgt := 169) hx hb dX5_breaksBelow_145 (by decide) (fun _ => ?_) (fun c => absurd (by decide) c)
  refine lv_iconst (v := 0) hx hb dX5_breaksBelow_169 (by decide) ?_
  refine W.widen (k := 0) (n := 0) (Nat.le_of_ble_eq_true rfl) (Nat.le_of_ble_eq_true rfl) ?_
  exact yy_iret (v := 0) () hx hb hr hlk rfl hsz hAe hK hP hD hS [0, 1, 2] rfl rfl (by decide) (rfl) dX5_breaksBelow_170
set_option maxHeartbeats 4000000 in
set_option maxRecDepth 100000 in
theorem bS_X5_breaksBelow_34 (l : Launch) (dC : Nat → ClassId) (dI : Nat → Nat → Nat) (cyI cyZ cyO : ClassId) (sz : Nat) (a0 : Nat) (a1 : Nat) (a2 : Nat) (a3 : Nat) (a4 : Nat) (a5 : Nat)  : Met l yX5_breaksBelow wsX5_breaksBelow ({ frames := 0, cells := 0, slots := 0, locals := 0 }) (yPre [.ref a0, .int 13, .ref a1, .ref a2, .ref a3] (dC, dI) [(a0, .inr (5, [.ref a4, .ref a5, .int 0, .int 0, .int 0])), (a2, .inl (cyI, 15, .inl yR))] (yT cyI cyZ cyO) sz) (yQi (fun (r : Int32) (u : Unit) => r = 0) (dC, dI) [(a0, .inr (5, [.ref a4, .ref a5, .int 0, .int 0, .int 0])), (a2, .inl (cyI, 15, .inl yR))] (yT cyI cyZ cyO) sz (fun _ => [(a0, .inr (5, [.ref a4, .ref a5, .int 0, .int 0, .int 0])), (a2, .inl (cyI, 15, .inl yR))])) 0 0 (va_A [(a0, .inr (5, [.ref a4, .ref a5, .int 0, .int 0, .int 0])), (a2, .inl (cyI, 15, .inl yR))] sz) := by
  refine yMet (cc := cX5_breaksBelow) (maxL := 6) (ret := (some .boolean)) (by decide) rfl (Nat.le_of_ble_eq_true rfl) ?_
  intro p e s m below meth c A hx hb hr hlk hml hts hown hnm hsz hAe hP hK hD hA hS ls hl
  have hl : lv_has ls 6 [(0, .ref a0), (1, .int 13), (2, .ref a1), (3, .ref a2), (4, .ref a3)] := hl
  refine lv_aload_n hx hb dX5_breaksBelow_0 rfl (lv_at hl 3 rfl) ?_
  refine lv_bipush (v := 8) hx hb dX5_breaksBelow_1 (by decide) ?_
  refine yy_iald (v := 0) hx hb hK hP 1 0 rfl rfl (yin (by decide)) dX5_breaksBelow_3 rfl ?_
  refine lv_if_eq (tgt := 11) hx hb dX5_breaksBelow_4 (by decide) (fun _ => ?_) (fun c => absurd (by decide) c)
  refine lv_iconst (v := 0) hx hb dX5_breaksBelow_11 (by decide) ?_
  refine lv_istore (lv' := [(5, .int 0), (0, .ref a0), (1, .int 13), (2, .ref a1), (3, .ref a2), (4, .ref a3)]) hx hb dX5_breaksBelow_12 hl (by decide) rfl (fun ls hl => ?_)
  refine lv_iload_n hx hb dX5_breaksBelow_14 rfl (lv_at hl 2 rfl) ?_
  refine lv_tableIn (off := 156) (tgt := 171) hx hb dX5_breaksBelow_15 (by decide) (by decide) (by decide) (by decide) ?_
  refine lv_iload hx hb dX5_breaksBelow_171 (lv_at hl 0 rfl) ?_
  refine lv_if_eq (tgt := 207) hx hb dX5_breaksBelow_173 (by decide) (fun _ => ?_) (fun c => absurd (by decide) c)
  refine lv_iconst (v := 0) hx hb dX5_breaksBelow_207 (by decide) ?_
  refine W.widen (k := 0) (n := 0) (Nat.le_of_ble_eq_true rfl) (Nat.le_of_ble_eq_true rfl) ?_
  exact yy_iret (v := 0) () hx hb hr hlk rfl hsz hAe hK hP hD hS [0, 1] rfl rfl (by decide) (rfl) dX5_breaksBelow_208
set_option maxHeartbeats 4000000 in
set_option maxRecDepth 100000 in
theorem bS_X5_breaksBelow_35 (l : Launch) (dC : Nat → ClassId) (dI : Nat → Nat → Nat) (cyI cyZ cyO : ClassId) (sz : Nat) (a0 : Nat) (a1 : Nat) (a2 : Nat) (a3 : Nat) (a4 : Nat) (a5 : Nat)  : Met l yX5_breaksBelow wsX5_breaksBelow ({ frames := 0, cells := 0, slots := 0, locals := 0 }) (yPre [.ref a0, .int 14, .ref a1, .ref a2, .ref a3] (dC, dI) [(a0, .inr (5, [.ref a4, .ref a5, .int 0, .int 0, .int 0])), (a2, .inl (cyI, 15, .inl yR)), (a3, .inl (cyI, 15, .inl yR))] (yT cyI cyZ cyO) sz) (yQi (fun (r : Int32) (u : Unit) => r = 0) (dC, dI) [(a0, .inr (5, [.ref a4, .ref a5, .int 0, .int 0, .int 0])), (a2, .inl (cyI, 15, .inl yR)), (a3, .inl (cyI, 15, .inl yR))] (yT cyI cyZ cyO) sz (fun _ => [(a0, .inr (5, [.ref a4, .ref a5, .int 0, .int 0, .int 0])), (a2, .inl (cyI, 15, .inl yR)), (a3, .inl (cyI, 15, .inl yR))])) 0 0 (va_A [(a0, .inr (5, [.ref a4, .ref a5, .int 0, .int 0, .int 0])), (a2, .inl (cyI, 15, .inl yR)), (a3, .inl (cyI, 15, .inl yR))] sz) := by
  refine yMet (cc := cX5_breaksBelow) (maxL := 6) (ret := (some .boolean)) (by decide) rfl (Nat.le_of_ble_eq_true rfl) ?_
  intro p e s m below meth c A hx hb hr hlk hml hts hown hnm hsz hAe hP hK hD hA hS ls hl
  have hl : lv_has ls 6 [(0, .ref a0), (1, .int 14), (2, .ref a1), (3, .ref a2), (4, .ref a3)] := hl
  refine lv_aload_n hx hb dX5_breaksBelow_0 rfl (lv_at hl 3 rfl) ?_
  refine lv_bipush (v := 8) hx hb dX5_breaksBelow_1 (by decide) ?_
  refine yy_iald (v := 0) hx hb hK hP 1 0 rfl rfl (yin (by decide)) dX5_breaksBelow_3 rfl ?_
  refine lv_if_eq (tgt := 11) hx hb dX5_breaksBelow_4 (by decide) (fun _ => ?_) (fun c => absurd (by decide) c)
  refine lv_iconst (v := 0) hx hb dX5_breaksBelow_11 (by decide) ?_
  refine lv_istore (lv' := [(5, .int 0), (0, .ref a0), (1, .int 14), (2, .ref a1), (3, .ref a2), (4, .ref a3)]) hx hb dX5_breaksBelow_12 hl (by decide) rfl (fun ls hl => ?_)
  refine lv_iload_n hx hb dX5_breaksBelow_14 rfl (lv_at hl 2 rfl) ?_
  refine lv_tableIn (off := 194) (tgt := 209) hx hb dX5_breaksBelow_15 (by decide) (by decide) (by decide) (by decide) ?_
  refine lv_aload hx hb dX5_breaksBelow_209 (lv_at hl 5 rfl) ?_
  refine lv_bipush (v := 8) hx hb dX5_breaksBelow_211 (by decide) ?_
  refine yy_iald (v := 0) hx hb hK hP 2 0 rfl rfl (yin (by decide)) dX5_breaksBelow_213 rfl ?_
  refine lv_if_eq (tgt := 234) hx hb dX5_breaksBelow_214 (by decide) (fun _ => ?_) (fun c => absurd (by decide) c)
  refine lv_iconst (v := 0) hx hb dX5_breaksBelow_234 (by decide) ?_
  refine W.widen (k := 0) (n := 0) (Nat.le_of_ble_eq_true rfl) (Nat.le_of_ble_eq_true rfl) ?_
  exact yy_iret (v := 0) () hx hb hr hlk rfl hsz hAe hK hP hD hS [0, 1, 2] rfl rfl (by decide) (rfl) dX5_breaksBelow_235
set_option maxHeartbeats 4000000 in
set_option maxRecDepth 100000 in
theorem bS_X5_breaksBelow_36 (l : Launch) (dC : Nat → ClassId) (dI : Nat → Nat → Nat) (cyI cyZ cyO : ClassId) (sz : Nat) (a0 : Nat) (a1 : Nat) (a2 : Nat) (a3 : Nat) (a4 : Nat) (a5 : Nat)  : Met l yX5_breaksBelow wsX5_breaksBelow ({ frames := 0, cells := 0, slots := 0, locals := 0 }) (yPre [.ref a0, .int 15, .ref a1, .ref a2, .ref a3] (dC, dI) [(a0, .inr (5, [.ref a4, .ref a5, .int 0, .int 0, .int 0])), (a2, .inl (cyI, 15, .inl yR))] (yT cyI cyZ cyO) sz) (yQi (fun (r : Int32) (u : Unit) => r = 0) (dC, dI) [(a0, .inr (5, [.ref a4, .ref a5, .int 0, .int 0, .int 0])), (a2, .inl (cyI, 15, .inl yR))] (yT cyI cyZ cyO) sz (fun _ => [(a0, .inr (5, [.ref a4, .ref a5, .int 0, .int 0, .int 0])), (a2, .inl (cyI, 15, .inl yR))])) 0 0 (va_A [(a0, .inr (5, [.ref a4, .ref a5, .int 0, .int 0, .int 0])), (a2, .inl (cyI, 15, .inl yR))] sz) := by
  refine yMet (cc := cX5_breaksBelow) (maxL := 6) (ret := (some .boolean)) (by decide) rfl (Nat.le_of_ble_eq_true rfl) ?_
  intro p e s m below meth c A hx hb hr hlk hml hts hown hnm hsz hAe hP hK hD hA hS ls hl
  have hl : lv_has ls 6 [(0, .ref a0), (1, .int 15), (2, .ref a1), (3, .ref a2), (4, .ref a3)] := hl
  refine lv_aload_n hx hb dX5_breaksBelow_0 rfl (lv_at hl 3 rfl) ?_
  refine lv_bipush (v := 8) hx hb dX5_breaksBelow_1 (by decide) ?_
  refine yy_iald (v := 0) hx hb hK hP 1 0 rfl rfl (yin (by decide)) dX5_breaksBelow_3 rfl ?_
  refine lv_if_eq (tgt := 11) hx hb dX5_breaksBelow_4 (by decide) (fun _ => ?_) (fun c => absurd (by decide) c)
  refine lv_iconst (v := 0) hx hb dX5_breaksBelow_11 (by decide) ?_
  refine lv_istore (lv' := [(5, .int 0), (0, .ref a0), (1, .int 15), (2, .ref a1), (3, .ref a2), (4, .ref a3)]) hx hb dX5_breaksBelow_12 hl (by decide) rfl (fun ls hl => ?_)
  refine lv_iload_n hx hb dX5_breaksBelow_14 rfl (lv_at hl 2 rfl) ?_
  refine lv_tableIn (off := 221) (tgt := 236) hx hb dX5_breaksBelow_15 (by decide) (by decide) (by decide) (by decide) ?_
  refine lv_iload hx hb dX5_breaksBelow_236 (lv_at hl 0 rfl) ?_
  refine lv_if_eq (tgt := 253) hx hb dX5_breaksBelow_238 (by decide) (fun _ => ?_) (fun c => absurd (by decide) c)
  refine lv_iconst (v := 0) hx hb dX5_breaksBelow_253 (by decide) ?_
  refine W.widen (k := 0) (n := 0) (Nat.le_of_ble_eq_true rfl) (Nat.le_of_ble_eq_true rfl) ?_
  exact yy_iret (v := 0) () hx hb hr hlk rfl hsz hAe hK hP hD hS [0, 1] rfl rfl (by decide) (rfl) dX5_breaksBelow_254
set_option maxHeartbeats 4000000 in
set_option maxRecDepth 100000 in
theorem bS_X5_judge_37 (l : Launch) (dC : Nat → ClassId) (dI : Nat → Nat → Nat) (cyI cyZ cyO : ClassId) (sz : Nat) (a0 : Nat) (a1 : Nat) (a2 : Nat) (v0 : Int32) (a3 : Nat) (a4 : Nat) (a5 : Nat) (a6 : Nat) (a7 : Nat) (a8 : Nat) (a9 : Nat) (a10 : Nat) (a11 : Nat) (a12 : Nat) (a13 : Nat) (a14 : Nat) (a15 : Nat) (a16 : Nat) (a17 : Nat) (a18 : Nat) (hF1 : ¬ v0 = 0) : Met l yX5_judge wsX5_judge ({ frames := 3, cells := 0, slots := 0, locals := 66 }) (yPre [.ref a0, .ref a1, .ref a2, .int v0] (dC, dI) [(a0, .inr (5, [.ref a3, .ref a4, .int 0, .int 0, .int 0])), (a1, .inr (6, [.ref a5, .ref a6, .ref a7, .ref a8, .ref a9, .ref a10, .ref a11, .ref a12, .int 0, .int 0, .int 0, .int 32, .int 0])), (a2, .inr (9, [.ref a13, .ref a14, .ref a15, .ref a16, .ref a17, .ref a18])), (a14, .inl (cyI, 15, .inl yR)), (a15, .inl (cyI, 15, .inl yR))] (yT cyI cyZ cyO) sz) (yQv (fun (u : Unit) => True) (dC, dI) [(a0, .inr (5, [.ref a3, .ref a4, .int 0, .int 0, .int 0])), (a1, .inr (6, [.ref a5, .ref a6, .ref a7, .ref a8, .ref a9, .ref a10, .ref a11, .ref a12, .int 0, .int 0, .int 0, .int 32, .int 0])), (a2, .inr (9, [.ref a13, .ref a14, .ref a15, .ref a16, .ref a17, .ref a18])), (a14, .inl (cyI, 15, .inl yR)), (a15, .inl (cyI, 15, .inl yR))] (yT cyI cyZ cyO) sz (fun _ => [(a0, .inr (5, [.ref a3, .ref a4, .int 0, .int 0, .int 0])), (a1, .inr (6, [.ref a5, .ref a6, .ref a7, .ref a8, .ref a9, .ref a10, .ref a11, .ref a12, .int 0, .int 0, .int 0, .int 32, .int 0])), (a2, .inr (9, [.ref a13, .ref a14, .ref a15, .ref a16, .ref a17, .ref a18])), (a14, .inl (cyI, 15, .inl yR)), (a15, .inl (cyI, 15, .inl yR))])) 0 0 (va_A [(a0, .inr (5, [.ref a3, .ref a4, .int 0, .int 0, .int 0])), (a1, .inr (6, [.ref a5, .ref a6, .ref a7, .ref a8, .ref a9, .ref a10, .ref a11, .ref a12, .int 0, .int 0, .int 0, .int 32, .int 0])), (a2, .inr (9, [.ref a13, .ref a14, .ref a15, .ref a16, .ref a17, .ref a18])), (a14, .inl (cyI, 15, .inl yR)), (a15, .inl (cyI, 15, .inl yR))] sz) := by
  refine yMet (cc := cX5_judge) (maxL := 8) (ret := none) (by decide) rfl (Nat.le_of_ble_eq_true rfl) ?_
  intro p e s m below meth c A hx hb hr hlk hml hts hown hnm hsz hAe hP hK hD hA hS ls hl
  have hl : lv_has ls 8 [(0, .ref a0), (1, .ref a1), (2, .ref a2), (3, .int v0)] := hl
  have hf31 := hts (.fieldLink RX5 31 "BusBridge$Monitor" "dataPhase" "Z") (by decide +kernel)
  have hf35 := hts (.fieldLink RX5 35 "BusBridge$Monitor" "writePhase" "Z") (by decide +kernel)
  have hf38 := hts (.fieldLink RX5 38 "BusBridge$Monitor" "lowClocks" "I") (by decide +kernel)
  have hf52 := hts (.fieldLink RX5 52 "BusBridge$Wires" "seen" "[I") (by decide +kernel)
  have hf57 := hts (.fieldLink RX5 57 "BusBridge$Wires" "before" "[I") (by decide +kernel)
  have hnX5 : ∀ w ∈ wsX50, w ∈ wsX5_judge := by decide +kernel
  have hnX9 : ∀ w ∈ wsX90, w ∈ wsX5_judge := by decide +kernel
  refine lv_iload_n hx hb dX5_judge_0 rfl (lv_at hl 3 rfl) ?_
  refine lv_if_ne (tgt := 5) hx hb dX5_judge_1 (by decide) (fun _ => ?_) (fun c => absurd c hF1)
  refine lv_aload_n hx hb dX5_judge_5 rfl (lv_at hl 2 rfl) ?_
  refine va_get (D := (dC, dI)) (ci := 9) (v := .ref a14) (C := RX9) (T := TX9) (N := 6) hx hb hts hnX9 hown hK hP 2 rfl rfl 1 (by decide) hf52 (fun _ h9 => h9) rfl dX5_judge_6 ?_
  refine lv_astore (lv' := [(4, .ref a14), (0, .ref a0), (1, .ref a1), (2, .ref a2), (3, .int v0)]) hx hb dX5_judge_9 hl (by decide) rfl (fun ls hl => ?_)
  refine lv_aload_n hx hb dX5_judge_11 rfl (lv_at hl 3 rfl) ?_
  refine va_get (D := (dC, dI)) (ci := 9) (v := .ref a15) (C := RX9) (T := TX9) (N := 6) hx hb hts hnX9 hown hK hP 2 rfl rfl 2 (by decide) hf57 (fun _ h9 => h9) rfl dX5_judge_12 ?_
  refine lv_astore (lv' := [(5, .ref a15), (4, .ref a14), (0, .ref a0), (1, .ref a1), (2, .ref a2), (3, .int v0)]) hx hb dX5_judge_15 hl (by decide) rfl (fun ls hl => ?_)
  refine lv_aload hx hb dX5_judge_17 (lv_at hl 0 rfl) ?_
  refine lv_iconst (v := 4) hx hb dX5_judge_19 (by decide) ?_
  refine yy_iald (v := 1) hx hb hK hP 4 0 rfl rfl (yin (by decide)) dX5_judge_20 rfl ?_
  refine lv_if_eq (tgt := 58) hx hb dX5_judge_21 (by decide) (fun c => absurd c (by decide)) (fun _ => ?_)
  refine lv_aload_n hx hb dX5_judge_24 rfl (lv_at hl 2 rfl) ?_
  refine lv_aload hx hb dX5_judge_25 (lv_at hl 0 rfl) ?_
  refine lv_iconst (v := 2) hx hb dX5_judge_27 (by decide) ?_
  refine yy_iald (v := 0) hx hb hK hP 4 0 rfl rfl (yin (by decide)) dX5_judge_28 rfl ?_
  have hPc := hP.sub (ws' := []) [] rfl
  have hDc := hD.sub (ws' := []) [] (by decide) rfl
  refine yy_calli [] [0, 1, 2, 3, 4] (wr := [(a0, .inr (5, [.ref a3, .ref a4, .int 0, .int 0, .int 0])), (a1, .inr (6, [.ref a5, .ref a6, .ref a7, .ref a8, .ref a9, .ref a10, .ref a11, .ref a12, .int 0, .int 0, .int 0, .int 32, .int 0])), (a2, .inr (9, [.ref a13, .ref a14, .ref a15, .ref a16, .ref a17, .ref a18])), (a14, .inl (cyI, 15, .inl yR)), (a15, .inl (cyI, 15, .inl yR))]) (va_runS (As := [.int 0]) (rest := [.ref a0]) ⟨hx, hb, hml, hown, hts⟩ (k_isTransfer l dC dI cyI cyZ cyO s.heap.size 0 ) (va_cwS 1 hts gX5_judge_X9_isTransfer rfl rfl rfl (by decide +kernel) ⟨Nat.le_of_ble_eq_true rfl, Nat.le_of_ble_eq_true rfl⟩) (yPreS hK hPc hDc) rfl rfl hl.1 rfl (lv_room (Nat.le_of_ble_eq_true rfl)) dX5_judge_29 ⟨Nat.le_of_ble_eq_true rfl, Nat.le_of_ble_eq_true rfl⟩) hP hD hS hA rfl rfl (by decide) (by decide) (fun r_2 u_1 H locs hw hP hD hS => ?_)
  have hP : va_P (dC, dI) vwCl [(a0, .inr (5, [.ref a3, .ref a4, .int 0, .int 0, .int 0])), (a1, .inr (6, [.ref a5, .ref a6, .ref a7, .ref a8, .ref a9, .ref a10, .ref a11, .ref a12, .int 0, .int 0, .int 0, .int 32, .int 0])), (a2, .inr (9, [.ref a13, .ref a14, .ref a15, .ref a16, .ref a17, .ref a18])), (a14, .inl (cyI, 15, .inl yR)), (a15, .inl (cyI, 15, .inl yR))] H := hP
  have hD : va_D A [(a0, .inr (5, [.ref a3, .ref a4, .int 0, .int 0, .int 0])), (a1, .inr (6, [.ref a5, .ref a6, .ref a7, .ref a8, .ref a9, .ref a10, .ref a11, .ref a12, .int 0, .int 0, .int 0, .int 32, .int 0])), (a2, .inr (9, [.ref a13, .ref a14, .ref a15, .ref a16, .ref a17, .ref a18])), (a14, .inl (cyI, 15, .inl yR)), (a15, .inl (cyI, 15, .inl yR))] := hD
  refine W.widen (k := 0) (n := 0) (Nat.le_of_ble_eq_true rfl) (Nat.le_of_ble_eq_true rfl) ?_
  have hw : r_2 = 0 := hw.trans (by decide)
  subst hw
  refine va_put (D := (dC, dI)) (ci := 5) (v := .int 0) (ty := .boolean) (C := RX5) (T := TX5) (N := 5) hx hb hts hnX5 tyX5 tyX5_ok nmX5 hown hK hP hD hS 0 rfl rfl 2 (by decide) hf31 (fun _ h9 => h9) rfl (by decide +kernel) rfl rfl (Nat.le_of_ble_eq_true rfl) dX5_judge_32 (fun H locs hP hD hS => ?_)
  have hP : va_P (dC, dI) vwCl [(a0, .inr (5, [.ref a3, .ref a4, .int 0, .int 0, .int 0])), (a1, .inr (6, [.ref a5, .ref a6, .ref a7, .ref a8, .ref a9, .ref a10, .ref a11, .ref a12, .int 0, .int 0, .int 0, .int 32, .int 0])), (a2, .inr (9, [.ref a13, .ref a14, .ref a15, .ref a16, .ref a17, .ref a18])), (a14, .inl (cyI, 15, .inl yR)), (a15, .inl (cyI, 15, .inl yR))] H := hP
  have hD : va_D A [(a0, .inr (5, [.ref a3, .ref a4, .int 0, .int 0, .int 0])), (a1, .inr (6, [.ref a5, .ref a6, .ref a7, .ref a8, .ref a9, .ref a10, .ref a11, .ref a12, .int 0, .int 0, .int 0, .int 32, .int 0])), (a2, .inr (9, [.ref a13, .ref a14, .ref a15, .ref a16, .ref a17, .ref a18])), (a14, .inl (cyI, 15, .inl yR)), (a15, .inl (cyI, 15, .inl yR))] := hD
  refine lv_aload_n hx hb dX5_judge_35 rfl (lv_at hl 2 rfl) ?_
  refine lv_aload_n hx hb dX5_judge_36 rfl (lv_at hl 2 rfl) ?_
  refine va_get (D := (dC, dI)) (ci := 5) (v := .int 0) (C := RX5) (T := TX5) (N := 5) hx hb hts hnX5 hown hK hP 0 rfl rfl 2 (by decide) hf31 (fun _ h9 => h9) rfl dX5_judge_37 ?_
  refine lv_if_eq (tgt := 54) hx hb dX5_judge_40 (by decide) (fun _ => ?_) (fun c => absurd (by decide) c)
  refine lv_iconst (v := 0) hx hb dX5_judge_54 (by decide) ?_
  refine va_put (D := (dC, dI)) (ci := 5) (v := .int 0) (ty := .boolean) (C := RX5) (T := TX5) (N := 5) hx hb hts hnX5 tyX5 tyX5_ok nmX5 hown hK hP hD hS 0 rfl rfl 3 (by decide) hf35 (fun _ h9 => h9) rfl (by decide +kernel) rfl rfl (Nat.le_of_ble_eq_true rfl) dX5_judge_55 (fun H locs hP hD hS => ?_)
  have hP : va_P (dC, dI) vwCl [(a0, .inr (5, [.ref a3, .ref a4, .int 0, .int 0, .int 0])), (a1, .inr (6, [.ref a5, .ref a6, .ref a7, .ref a8, .ref a9, .ref a10, .ref a11, .ref a12, .int 0, .int 0, .int 0, .int 32, .int 0])), (a2, .inr (9, [.ref a13, .ref a14, .ref a15, .ref a16, .ref a17, .ref a18])), (a14, .inl (cyI, 15, .inl yR)), (a15, .inl (cyI, 15, .inl yR))] H := hP
  have hD : va_D A [(a0, .inr (5, [.ref a3, .ref a4, .int 0, .int 0, .int 0])), (a1, .inr (6, [.ref a5, .ref a6, .ref a7, .ref a8, .ref a9, .ref a10, .ref a11, .ref a12, .int 0, .int 0, .int 0, .int 32, .int 0])), (a2, .inr (9, [.ref a13, .ref a14, .ref a15, .ref a16, .ref a17, .ref a18])), (a14, .inl (cyI, 15, .inl yR)), (a15, .inl (cyI, 15, .inl yR))] := hD
  refine lv_aload_n hx hb dX5_judge_58 rfl (lv_at hl 2 rfl) ?_
  refine lv_aload hx hb dX5_judge_59 (lv_at hl 1 rfl) ?_
  refine lv_iconst (v := 4) hx hb dX5_judge_61 (by decide) ?_
  refine yy_iald (v := 1) hx hb hK hP 3 0 rfl rfl (yin (by decide)) dX5_judge_62 rfl ?_
  refine lv_if_ne (tgt := 75) hx hb dX5_judge_63 (by decide) (fun _ => ?_) (fun c => absurd c (by decide))
  refine lv_iconst (v := 0) hx hb dX5_judge_75 (by decide) ?_
  refine va_put (D := (dC, dI)) (ci := 5) (v := .int 0) (ty := .int) (C := RX5) (T := TX5) (N := 5) hx hb hts hnX5 tyX5 tyX5_ok nmX5 hown hK hP hD hS 0 rfl rfl 4 (by decide) hf38 (fun _ h9 => h9) rfl (by decide +kernel) rfl rfl (Nat.le_of_ble_eq_true rfl) dX5_judge_76 (fun H locs hP hD hS => ?_)
  have hP : va_P (dC, dI) vwCl [(a0, .inr (5, [.ref a3, .ref a4, .int 0, .int 0, .int 0])), (a1, .inr (6, [.ref a5, .ref a6, .ref a7, .ref a8, .ref a9, .ref a10, .ref a11, .ref a12, .int 0, .int 0, .int 0, .int 32, .int 0])), (a2, .inr (9, [.ref a13, .ref a14, .ref a15, .ref a16, .ref a17, .ref a18])), (a14, .inl (cyI, 15, .inl yR)), (a15, .inl (cyI, 15, .inl yR))] H := hP
  have hD : va_D A [(a0, .inr (5, [.ref a3, .ref a4, .int 0, .int 0, .int 0])), (a1, .inr (6, [.ref a5, .ref a6, .ref a7, .ref a8, .ref a9, .ref a10, .ref a11, .ref a12, .int 0, .int 0, .int 0, .int 32, .int 0])), (a2, .inr (9, [.ref a13, .ref a14, .ref a15, .ref a16, .ref a17, .ref a18])), (a14, .inl (cyI, 15, .inl yR)), (a15, .inl (cyI, 15, .inl yR))] := hD
  refine lv_iconst (v := 1) hx hb dX5_judge_79 (by decide) ?_
  refine lv_istore (lv' := [(6, .int 1), (5, .ref a15), (4, .ref a14), (0, .ref a0), (1, .ref a1), (2, .ref a2), (3, .int v0)]) hx hb dX5_judge_80 hl (by decide) rfl (fun ls hl => ?_)
  refine lv_iload hx hb dX5_judge_82 (lv_at hl 0 rfl) ?_
  refine lv_bipush (v := 15) hx hb dX5_judge_84 (by decide) ?_
  refine lv_icmp_gt (tgt := 140) hx hb dX5_judge_86 (by decide) (fun c => absurd c (by decide)) (fun _ => ?_)
  refine lv_iload hx hb dX5_judge_89 (lv_at hl 0 rfl) ?_
  refine lv_bipush (v := 8) hx hb dX5_judge_91 (by decide) ?_
  refine lv_icmp_ge (tgt := 109) hx hb dX5_judge_93 (by decide) (fun c => absurd c (by decide)) (fun _ => ?_)
  refine lv_aload_n hx hb dX5_judge_96 rfl (lv_at hl 3 rfl) ?_
  refine lv_iload hx hb dX5_judge_97 (lv_at hl 0 rfl) ?_
  refine lv_aload hx hb dX5_judge_99 (lv_at hl 2 rfl) ?_
  refine lv_aload hx hb dX5_judge_101 (lv_at hl 1 rfl) ?_
  have hPc := hP.sub (ws' := [(a0, .inr (5, [.ref a3, .ref a4, .int 0, .int 0, .int 0])), (a15, .inl (cyI, 15, .inl yR))]) [0, 4] rfl
  have hDc := hD.sub (ws' := [(a0, .inr (5, [.ref a3, .ref a4, .int 0, .int 0, .int 0])), (a15, .inl (cyI, 15, .inl yR))]) [0, 4] (by decide) rfl
  refine yy_calli [0, 4] [1, 2, 3] (wr := [(a1, .inr (6, [.ref a5, .ref a6, .ref a7, .ref a8, .ref a9, .ref a10, .ref a11, .ref a12, .int 0, .int 0, .int 0, .int 32, .int 0])), (a2, .inr (9, [.ref a13, .ref a14, .ref a15, .ref a16, .ref a17, .ref a18])), (a14, .inl (cyI, 15, .inl yR))]) (va_runV (As := [.int 1, .ref a14, .ref a15]) (rest := []) ⟨hx, hb, hml, hown, hts⟩ (bS_X5_breaksAbove_17 l dC dI cyI cyZ cyO H.size a0 a14 a15 a3 a4 ) (cwV 3 hts gX5_judge_X5_breaksAbove rfl rfl rfl (by decide +kernel) ⟨Nat.le_of_ble_eq_true rfl, Nat.le_of_ble_eq_true rfl⟩) (yPreV hK hPc hDc (ci := 5) (q0 := 0) rfl rfl) rfl rfl hl.1 rfl (lv_room (Nat.le_of_ble_eq_true rfl)) dX5_judge_103 ⟨Nat.le_of_ble_eq_true rfl, Nat.le_of_ble_eq_true rfl⟩) hP hD hS hA rfl rfl (by decide) (by decide) (fun r_4 u_3 H locs hw hP hD hS => ?_)
  have hP : va_P (dC, dI) vwCl [(a1, .inr (6, [.ref a5, .ref a6, .ref a7, .ref a8, .ref a9, .ref a10, .ref a11, .ref a12, .int 0, .int 0, .int 0, .int 32, .int 0])), (a2, .inr (9, [.ref a13, .ref a14, .ref a15, .ref a16, .ref a17, .ref a18])), (a14, .inl (cyI, 15, .inl yR)), (a0, .inr (5, [.ref a3, .ref a4, .int 0, .int 0, .int 0])), (a15, .inl (cyI, 15, .inl yR))] H := hP
  have hD : va_D A [(a1, .inr (6, [.ref a5, .ref a6, .ref a7, .ref a8, .ref a9, .ref a10, .ref a11, .ref a12, .int 0, .int 0, .int 0, .int 32, .int 0])), (a2, .inr (9, [.ref a13, .ref a14, .ref a15, .ref a16, .ref a17, .ref a18])), (a14, .inl (cyI, 15, .inl yR)), (a0, .inr (5, [.ref a3, .ref a4, .int 0, .int 0, .int 0])), (a15, .inl (cyI, 15, .inl yR))] := hD
  refine W.widen (k := 0) (n := 0) (Nat.le_of_ble_eq_true rfl) (Nat.le_of_ble_eq_true rfl) ?_
  have hw : r_4 = 0 := hw
  subst hw
  refine lv_goto (tgt := 120) hx hb dX5_judge_106 (by decide) ?_
  refine lv_istore (lv' := [(7, .int 0), (6, .int 1), (5, .ref a15), (4, .ref a14), (0, .ref a0), (1, .ref a1), (2, .ref a2), (3, .int v0)]) hx hb dX5_judge_120 hl (by decide) rfl (fun ls hl => ?_)
  refine lv_iload hx hb dX5_judge_122 (lv_at hl 0 rfl) ?_
  refine lv_if_eq (tgt := 134) hx hb dX5_judge_124 (by decide) (fun _ => ?_) (fun c => absurd (by decide) c)
  refine lv_iinc (v := 2) (lv' := [(6, .int 2), (7, .int 0), (5, .ref a15), (4, .ref a14), (0, .ref a0), (1, .ref a1), (2, .ref a2), (3, .int v0)]) hx hb dX5_judge_134 hl (k := 1) rfl (by decide) (by decide) rfl (fun ls hl => ?_)
  refine lv_goto (tgt := 82) hx hb dX5_judge_137 (by decide) ?_
  refine lv_iload hx hb dX5_judge_82 (lv_at hl 0 rfl) ?_
  refine lv_bipush (v := 15) hx hb dX5_judge_84 (by decide) ?_
  refine lv_icmp_gt (tgt := 140) hx hb dX5_judge_86 (by decide) (fun c => absurd c (by decide)) (fun _ => ?_)
  refine lv_iload hx hb dX5_judge_89 (lv_at hl 0 rfl) ?_
  refine lv_bipush (v := 8) hx hb dX5_judge_91 (by decide) ?_
  refine lv_icmp_ge (tgt := 109) hx hb dX5_judge_93 (by decide) (fun c => absurd c (by decide)) (fun _ => ?_)
  refine lv_aload_n hx hb dX5_judge_96 rfl (lv_at hl 4 rfl) ?_
  refine lv_iload hx hb dX5_judge_97 (lv_at hl 0 rfl) ?_
  refine lv_aload hx hb dX5_judge_99 (lv_at hl 3 rfl) ?_
  refine lv_aload hx hb dX5_judge_101 (lv_at hl 2 rfl) ?_
  have hPc := hP.sub (ws' := [(a0, .inr (5, [.ref a3, .ref a4, .int 0, .int 0, .int 0])), (a14, .inl (cyI, 15, .inl yR))]) [3, 2] rfl
  have hDc := hD.sub (ws' := [(a0, .inr (5, [.ref a3, .ref a4, .int 0, .int 0, .int 0])), (a14, .inl (cyI, 15, .inl yR))]) [3, 2] (by decide) rfl
  refine yy_calli [3, 2] [0, 1, 4] (wr := [(a1, .inr (6, [.ref a5, .ref a6, .ref a7, .ref a8, .ref a9, .ref a10, .ref a11, .ref a12, .int 0, .int 0, .int 0, .int 32, .int 0])), (a2, .inr (9, [.ref a13, .ref a14, .ref a15, .ref a16, .ref a17, .ref a18])), (a15, .inl (cyI, 15, .inl yR))]) (va_runV (As := [.int 2, .ref a14, .ref a15]) (rest := []) ⟨hx, hb, hml, hown, hts⟩ (bS_X5_breaksAbove_19 l dC dI cyI cyZ cyO H.size a0 a14 a15 a3 a4 ) (cwV 3 hts gX5_judge_X5_breaksAbove rfl rfl rfl (by decide +kernel) ⟨Nat.le_of_ble_eq_true rfl, Nat.le_of_ble_eq_true rfl⟩) (yPreV hK hPc hDc (ci := 5) (q0 := 0) rfl rfl) rfl rfl hl.1 rfl (lv_room (Nat.le_of_ble_eq_true rfl)) dX5_judge_103 ⟨Nat.le_of_ble_eq_true rfl, Nat.le_of_ble_eq_true rfl⟩) hP hD hS hA rfl rfl (by decide) (by decide) (fun r_6 u_5 H locs hw hP hD hS => ?_)
  have hP : va_P (dC, dI) vwCl [(a1, .inr (6, [.ref a5, .ref a6, .ref a7, .ref a8, .ref a9, .ref a10, .ref a11, .ref a12, .int 0, .int 0, .int 0, .int 32, .int 0])), (a2, .inr (9, [.ref a13, .ref a14, .ref a15, .ref a16, .ref a17, .ref a18])), (a15, .inl (cyI, 15, .inl yR)), (a0, .inr (5, [.ref a3, .ref a4, .int 0, .int 0, .int 0])), (a14, .inl (cyI, 15, .inl yR))] H := hP
  have hD : va_D A [(a1, .inr (6, [.ref a5, .ref a6, .ref a7, .ref a8, .ref a9, .ref a10, .ref a11, .ref a12, .int 0, .int 0, .int 0, .int 32, .int 0])), (a2, .inr (9, [.ref a13, .ref a14, .ref a15, .ref a16, .ref a17, .ref a18])), (a15, .inl (cyI, 15, .inl yR)), (a0, .inr (5, [.ref a3, .ref a4, .int 0, .int 0, .int 0])), (a14, .inl (cyI, 15, .inl yR))] := hD
  refine W.widen (k := 0) (n := 0) (Nat.le_of_ble_eq_true rfl) (Nat.le_of_ble_eq_true rfl) ?_
  have hw : r_6 = 0 := hw
  subst hw
  refine lv_goto (tgt := 120) hx hb dX5_judge_106 (by decide) ?_
  refine lv_istore (lv' := [(7, .int 0), (6, .int 2), (5, .ref a15), (4, .ref a14), (0, .ref a0), (1, .ref a1), (2, .ref a2), (3, .int v0)]) hx hb dX5_judge_120 hl (by decide) rfl (fun ls hl => ?_)
  refine lv_iload hx hb dX5_judge_122 (lv_at hl 0 rfl) ?_
  refine lv_if_eq (tgt := 134) hx hb dX5_judge_124 (by decide) (fun _ => ?_) (fun c => absurd (by decide) c)
  refine lv_iinc (v := 3) (lv' := [(6, .int 3), (7, .int 0), (5, .ref a15), (4, .ref a14), (0, .ref a0), (1, .ref a1), (2, .ref a2), (3, .int v0)]) hx hb dX5_judge_134 hl (k := 1) rfl (by decide) (by decide) rfl (fun ls hl => ?_)
  refine lv_goto (tgt := 82) hx hb dX5_judge_137 (by decide) ?_
  refine lv_iload hx hb dX5_judge_82 (lv_at hl 0 rfl) ?_
  refine lv_bipush (v := 15) hx hb dX5_judge_84 (by decide) ?_
  refine lv_icmp_gt (tgt := 140) hx hb dX5_judge_86 (by decide) (fun c => absurd c (by decide)) (fun _ => ?_)
  refine lv_iload hx hb dX5_judge_89 (lv_at hl 0 rfl) ?_
  refine lv_bipush (v := 8) hx hb dX5_judge_91 (by decide) ?_
  refine lv_icmp_ge (tgt := 109) hx hb dX5_judge_93 (by decide) (fun c => absurd c (by decide)) (fun _ => ?_)
  refine lv_aload_n hx hb dX5_judge_96 rfl (lv_at hl 4 rfl) ?_
  refine lv_iload hx hb dX5_judge_97 (lv_at hl 0 rfl) ?_
  refine lv_aload hx hb dX5_judge_99 (lv_at hl 3 rfl) ?_
  refine lv_aload hx hb dX5_judge_101 (lv_at hl 2 rfl) ?_
  have hPc := hP.sub (ws' := [(a0, .inr (5, [.ref a3, .ref a4, .int 0, .int 0, .int 0]))]) [3] rfl
  have hDc := hD.sub (ws' := [(a0, .inr (5, [.ref a3, .ref a4, .int 0, .int 0, .int 0]))]) [3] (by decide) rfl
  refine yy_calli [3] [0, 1, 2, 4] (wr := [(a1, .inr (6, [.ref a5, .ref a6, .ref a7, .ref a8, .ref a9, .ref a10, .ref a11, .ref a12, .int 0, .int 0, .int 0, .int 32, .int 0])), (a2, .inr (9, [.ref a13, .ref a14, .ref a15, .ref a16, .ref a17, .ref a18])), (a15, .inl (cyI, 15, .inl yR)), (a14, .inl (cyI, 15, .inl yR))]) (va_runV (As := [.int 3, .ref a14, .ref a15]) (rest := []) ⟨hx, hb, hml, hown, hts⟩ (bS_X5_breaksAbove_20 l dC dI cyI cyZ cyO H.size a0 a14 a15 a3 a4 ) (cwV 3 hts gX5_judge_X5_breaksAbove rfl rfl rfl (by decide +kernel) ⟨Nat.le_of_ble_eq_true rfl, Nat.le_of_ble_eq_true rfl⟩) (yPreV hK hPc hDc (ci := 5) (q0 := 0) rfl rfl) rfl rfl hl.1 rfl (lv_room (Nat.le_of_ble_eq_true rfl)) dX5_judge_103 ⟨Nat.le_of_ble_eq_true rfl, Nat.le_of_ble_eq_true rfl⟩) hP hD hS hA rfl rfl (by decide) (by decide) (fun r_8 u_7 H locs hw hP hD hS => ?_)
  have hP : va_P (dC, dI) vwCl [(a1, .inr (6, [.ref a5, .ref a6, .ref a7, .ref a8, .ref a9, .ref a10, .ref a11, .ref a12, .int 0, .int 0, .int 0, .int 32, .int 0])), (a2, .inr (9, [.ref a13, .ref a14, .ref a15, .ref a16, .ref a17, .ref a18])), (a15, .inl (cyI, 15, .inl yR)), (a14, .inl (cyI, 15, .inl yR)), (a0, .inr (5, [.ref a3, .ref a4, .int 0, .int 0, .int 0]))] H := hP
  have hD : va_D A [(a1, .inr (6, [.ref a5, .ref a6, .ref a7, .ref a8, .ref a9, .ref a10, .ref a11, .ref a12, .int 0, .int 0, .int 0, .int 32, .int 0])), (a2, .inr (9, [.ref a13, .ref a14, .ref a15, .ref a16, .ref a17, .ref a18])), (a15, .inl (cyI, 15, .inl yR)), (a14, .inl (cyI, 15, .inl yR)), (a0, .inr (5, [.ref a3, .ref a4, .int 0, .int 0, .int 0]))] := hD
  refine W.widen (k := 0) (n := 0) (Nat.le_of_ble_eq_true rfl) (Nat.le_of_ble_eq_true rfl) ?_
  have hw : r_8 = 0 := hw
  subst hw
  refine lv_goto (tgt := 120) hx hb dX5_judge_106 (by decide) ?_
  refine lv_istore (lv' := [(7, .int 0), (6, .int 3), (5, .ref a15), (4, .ref a14), (0, .ref a0), (1, .ref a1), (2, .ref a2), (3, .int v0)]) hx hb dX5_judge_120 hl (by decide) rfl (fun ls hl => ?_)
  refine lv_iload hx hb dX5_judge_122 (lv_at hl 0 rfl) ?_
  refine lv_if_eq (tgt := 134) hx hb dX5_judge_124 (by decide) (fun _ => ?_) (fun c => absurd (by decide) c)
  refine lv_iinc (v := 4) (lv' := [(6, .int 4), (7, .int 0), (5, .ref a15), (4, .ref a14), (0, .ref a0), (1, .ref a1), (2, .ref a2), (3, .int v0)]) hx hb dX5_judge_134 hl (k := 1) rfl (by decide) (by decide) rfl (fun ls hl => ?_)
  refine lv_goto (tgt := 82) hx hb dX5_judge_137 (by decide) ?_
  refine lv_iload hx hb dX5_judge_82 (lv_at hl 0 rfl) ?_
  refine lv_bipush (v := 15) hx hb dX5_judge_84 (by decide) ?_
  refine lv_icmp_gt (tgt := 140) hx hb dX5_judge_86 (by decide) (fun c => absurd c (by decide)) (fun _ => ?_)
  refine lv_iload hx hb dX5_judge_89 (lv_at hl 0 rfl) ?_
  refine lv_bipush (v := 8) hx hb dX5_judge_91 (by decide) ?_
  refine lv_icmp_ge (tgt := 109) hx hb dX5_judge_93 (by decide) (fun c => absurd c (by decide)) (fun _ => ?_)
  refine lv_aload_n hx hb dX5_judge_96 rfl (lv_at hl 4 rfl) ?_
  refine lv_iload hx hb dX5_judge_97 (lv_at hl 0 rfl) ?_
  refine lv_aload hx hb dX5_judge_99 (lv_at hl 3 rfl) ?_
  refine lv_aload hx hb dX5_judge_101 (lv_at hl 2 rfl) ?_
  have hPc := hP.sub (ws' := [(a0, .inr (5, [.ref a3, .ref a4, .int 0, .int 0, .int 0])), (a14, .inl (cyI, 15, .inl yR)), (a15, .inl (cyI, 15, .inl yR))]) [4, 3, 2] rfl
  have hDc := hD.sub (ws' := [(a0, .inr (5, [.ref a3, .ref a4, .int 0, .int 0, .int 0])), (a14, .inl (cyI, 15, .inl yR)), (a15, .inl (cyI, 15, .inl yR))]) [4, 3, 2] (by decide) rfl
  refine yy_calli [4, 3, 2] [0, 1] (wr := [(a1, .inr (6, [.ref a5, .ref a6, .ref a7, .ref a8, .ref a9, .ref a10, .ref a11, .ref a12, .int 0, .int 0, .int 0, .int 32, .int 0])), (a2, .inr (9, [.ref a13, .ref a14, .ref a15, .ref a16, .ref a17, .ref a18]))]) (va_runV (As := [.int 4, .ref a14, .ref a15]) (rest := []) ⟨hx, hb, hml, hown, hts⟩ (bS_X5_breaksAbove_23 l dC dI cyI cyZ cyO H.size a0 a14 a15 a3 a4 ) (cwV 3 hts gX5_judge_X5_breaksAbove rfl rfl rfl (by decide +kernel) ⟨Nat.le_of_ble_eq_true rfl, Nat.le_of_ble_eq_true rfl⟩) (yPreV hK hPc hDc (ci := 5) (q0 := 0) rfl rfl) rfl rfl hl.1 rfl (lv_room (Nat.le_of_ble_eq_true rfl)) dX5_judge_103 ⟨Nat.le_of_ble_eq_true rfl, Nat.le_of_ble_eq_true rfl⟩) hP hD hS hA rfl rfl (by decide) (by decide) (fun r_10 u_9 H locs hw hP hD hS => ?_)
  have hP : va_P (dC, dI) vwCl [(a1, .inr (6, [.ref a5, .ref a6, .ref a7, .ref a8, .ref a9, .ref a10, .ref a11, .ref a12, .int 0, .int 0, .int 0, .int 32, .int 0])), (a2, .inr (9, [.ref a13, .ref a14, .ref a15, .ref a16, .ref a17, .ref a18])), (a0, .inr (5, [.ref a3, .ref a4, .int 0, .int 0, .int 0])), (a14, .inl (cyI, 15, .inl yR)), (a15, .inl (cyI, 15, .inl yR))] H := hP
  have hD : va_D A [(a1, .inr (6, [.ref a5, .ref a6, .ref a7, .ref a8, .ref a9, .ref a10, .ref a11, .ref a12, .int 0, .int 0, .int 0, .int 32, .int 0])), (a2, .inr (9, [.ref a13, .ref a14, .ref a15, .ref a16, .ref a17, .ref a18])), (a0, .inr (5, [.ref a3, .ref a4, .int 0, .int 0, .int 0])), (a14, .inl (cyI, 15, .inl yR)), (a15, .inl (cyI, 15, .inl yR))] := hD
  refine W.widen (k := 0) (n := 0) (Nat.le_of_ble_eq_true rfl) (Nat.le_of_ble_eq_true rfl) ?_
  have hw : r_10 = 0 := hw
  subst hw
  refine lv_goto (tgt := 120) hx hb dX5_judge_106 (by decide) ?_
  refine lv_istore (lv' := [(7, .int 0), (6, .int 4), (5, .ref a15), (4, .ref a14), (0, .ref a0), (1, .ref a1), (2, .ref a2), (3, .int v0)]) hx hb dX5_judge_120 hl (by decide) rfl (fun ls hl => ?_)
  refine lv_iload hx hb dX5_judge_122 (lv_at hl 0 rfl) ?_
  refine lv_if_eq (tgt := 134) hx hb dX5_judge_124 (by decide) (fun _ => ?_) (fun c => absurd (by decide) c)
  refine lv_iinc (v := 5) (lv' := [(6, .int 5), (7, .int 0), (5, .ref a15), (4, .ref a14), (0, .ref a0), (1, .ref a1), (2, .ref a2), (3, .int v0)]) hx hb dX5_judge_134 hl (k := 1) rfl (by decide) (by decide) rfl (fun ls hl => ?_)
  refine lv_goto (tgt := 82) hx hb dX5_judge_137 (by decide) ?_
  refine lv_iload hx hb dX5_judge_82 (lv_at hl 0 rfl) ?_
  refine lv_bipush (v := 15) hx hb dX5_judge_84 (by decide) ?_
  refine lv_icmp_gt (tgt := 140) hx hb dX5_judge_86 (by decide) (fun c => absurd c (by decide)) (fun _ => ?_)
  refine lv_iload hx hb dX5_judge_89 (lv_at hl 0 rfl) ?_
  refine lv_bipush (v := 8) hx hb dX5_judge_91 (by decide) ?_
  refine lv_icmp_ge (tgt := 109) hx hb dX5_judge_93 (by decide) (fun c => absurd c (by decide)) (fun _ => ?_)
  refine lv_aload_n hx hb dX5_judge_96 rfl (lv_at hl 4 rfl) ?_
  refine lv_iload hx hb dX5_judge_97 (lv_at hl 0 rfl) ?_
  refine lv_aload hx hb dX5_judge_99 (lv_at hl 3 rfl) ?_
  refine lv_aload hx hb dX5_judge_101 (lv_at hl 2 rfl) ?_
  have hPc := hP.sub (ws' := [(a0, .inr (5, [.ref a3, .ref a4, .int 0, .int 0, .int 0])), (a14, .inl (cyI, 15, .inl yR))]) [2, 3] rfl
  have hDc := hD.sub (ws' := [(a0, .inr (5, [.ref a3, .ref a4, .int 0, .int 0, .int 0])), (a14, .inl (cyI, 15, .inl yR))]) [2, 3] (by decide) rfl
  refine yy_calli [2, 3] [0, 1, 4] (wr := [(a1, .inr (6, [.ref a5, .ref a6, .ref a7, .ref a8, .ref a9, .ref a10, .ref a11, .ref a12, .int 0, .int 0, .int 0, .int 32, .int 0])), (a2, .inr (9, [.ref a13, .ref a14, .ref a15, .ref a16, .ref a17, .ref a18])), (a15, .inl (cyI, 15, .inl yR))]) (va_runV (As := [.int 5, .ref a14, .ref a15]) (rest := []) ⟨hx, hb, hml, hown, hts⟩ (bS_X5_breaksAbove_24 l dC dI cyI cyZ cyO H.size a0 a14 a15 a3 a4 ) (cwV 3 hts gX5_judge_X5_breaksAbove rfl rfl rfl (by decide +kernel) ⟨Nat.le_of_ble_eq_true rfl, Nat.le_of_ble_eq_true rfl⟩) (yPreV hK hPc hDc (ci := 5) (q0 := 0) rfl rfl) rfl rfl hl.1 rfl (lv_room (Nat.le_of_ble_eq_true rfl)) dX5_judge_103 ⟨Nat.le_of_ble_eq_true rfl, Nat.le_of_ble_eq_true rfl⟩) hP hD hS hA rfl rfl (by decide) (by decide) (fun r_12 u_11 H locs hw hP hD hS => ?_)
  have hP : va_P (dC, dI) vwCl [(a1, .inr (6, [.ref a5, .ref a6, .ref a7, .ref a8, .ref a9, .ref a10, .ref a11, .ref a12, .int 0, .int 0, .int 0, .int 32, .int 0])), (a2, .inr (9, [.ref a13, .ref a14, .ref a15, .ref a16, .ref a17, .ref a18])), (a15, .inl (cyI, 15, .inl yR)), (a0, .inr (5, [.ref a3, .ref a4, .int 0, .int 0, .int 0])), (a14, .inl (cyI, 15, .inl yR))] H := hP
  have hD : va_D A [(a1, .inr (6, [.ref a5, .ref a6, .ref a7, .ref a8, .ref a9, .ref a10, .ref a11, .ref a12, .int 0, .int 0, .int 0, .int 32, .int 0])), (a2, .inr (9, [.ref a13, .ref a14, .ref a15, .ref a16, .ref a17, .ref a18])), (a15, .inl (cyI, 15, .inl yR)), (a0, .inr (5, [.ref a3, .ref a4, .int 0, .int 0, .int 0])), (a14, .inl (cyI, 15, .inl yR))] := hD
  refine W.widen (k := 0) (n := 0) (Nat.le_of_ble_eq_true rfl) (Nat.le_of_ble_eq_true rfl) ?_
  have hw : r_12 = 0 := hw
  subst hw
  refine lv_goto (tgt := 120) hx hb dX5_judge_106 (by decide) ?_
  refine lv_istore (lv' := [(7, .int 0), (6, .int 5), (5, .ref a15), (4, .ref a14), (0, .ref a0), (1, .ref a1), (2, .ref a2), (3, .int v0)]) hx hb dX5_judge_120 hl (by decide) rfl (fun ls hl => ?_)
  refine lv_iload hx hb dX5_judge_122 (lv_at hl 0 rfl) ?_
  refine lv_if_eq (tgt := 134) hx hb dX5_judge_124 (by decide) (fun _ => ?_) (fun c => absurd (by decide) c)
  refine lv_iinc (v := 6) (lv' := [(6, .int 6), (7, .int 0), (5, .ref a15), (4, .ref a14), (0, .ref a0), (1, .ref a1), (2, .ref a2), (3, .int v0)]) hx hb dX5_judge_134 hl (k := 1) rfl (by decide) (by decide) rfl (fun ls hl => ?_)
  refine lv_goto (tgt := 82) hx hb dX5_judge_137 (by decide) ?_
  refine lv_iload hx hb dX5_judge_82 (lv_at hl 0 rfl) ?_
  refine lv_bipush (v := 15) hx hb dX5_judge_84 (by decide) ?_
  refine lv_icmp_gt (tgt := 140) hx hb dX5_judge_86 (by decide) (fun c => absurd c (by decide)) (fun _ => ?_)
  refine lv_iload hx hb dX5_judge_89 (lv_at hl 0 rfl) ?_
  refine lv_bipush (v := 8) hx hb dX5_judge_91 (by decide) ?_
  refine lv_icmp_ge (tgt := 109) hx hb dX5_judge_93 (by decide) (fun c => absurd c (by decide)) (fun _ => ?_)
  refine lv_aload_n hx hb dX5_judge_96 rfl (lv_at hl 4 rfl) ?_
  refine lv_iload hx hb dX5_judge_97 (lv_at hl 0 rfl) ?_
  refine lv_aload hx hb dX5_judge_99 (lv_at hl 3 rfl) ?_
  refine lv_aload hx hb dX5_judge_101 (lv_at hl 2 rfl) ?_
  have hPc := hP.sub (ws' := [(a0, .inr (5, [.ref a3, .ref a4, .int 0, .int 0, .int 0])), (a14, .inl (cyI, 15, .inl yR))]) [3, 4] rfl
  have hDc := hD.sub (ws' := [(a0, .inr (5, [.ref a3, .ref a4, .int 0, .int 0, .int 0])), (a14, .inl (cyI, 15, .inl yR))]) [3, 4] (by decide) rfl
  refine yy_calli [3, 4] [0, 1, 2] (wr := [(a1, .inr (6, [.ref a5, .ref a6, .ref a7, .ref a8, .ref a9, .ref a10, .ref a11, .ref a12, .int 0, .int 0, .int 0, .int 32, .int 0])), (a2, .inr (9, [.ref a13, .ref a14, .ref a15, .ref a16, .ref a17, .ref a18])), (a15, .inl (cyI, 15, .inl yR))]) (va_runV (As := [.int 6, .ref a14, .ref a15]) (rest := []) ⟨hx, hb, hml, hown, hts⟩ (bS_X5_breaksAbove_25 l dC dI cyI cyZ cyO H.size a0 a14 a15 a3 a4 ) (cwV 3 hts gX5_judge_X5_breaksAbove rfl rfl rfl (by decide +kernel) ⟨Nat.le_of_ble_eq_true rfl, Nat.le_of_ble_eq_true rfl⟩) (yPreV hK hPc hDc (ci := 5) (q0 := 0) rfl rfl) rfl rfl hl.1 rfl (lv_room (Nat.le_of_ble_eq_true rfl)) dX5_judge_103 ⟨Nat.le_of_ble_eq_true rfl, Nat.le_of_ble_eq_true rfl⟩) hP hD hS hA rfl rfl (by decide) (by decide) (fun r_14 u_13 H locs hw hP hD hS => ?_)
  have hP : va_P (dC, dI) vwCl [(a1, .inr (6, [.ref a5, .ref a6, .ref a7, .ref a8, .ref a9, .ref a10, .ref a11, .ref a12, .int 0, .int 0, .int 0, .int 32, .int 0])), (a2, .inr (9, [.ref a13, .ref a14, .ref a15, .ref a16, .ref a17, .ref a18])), (a15, .inl (cyI, 15, .inl yR)), (a0, .inr (5, [.ref a3, .ref a4, .int 0, .int 0, .int 0])), (a14, .inl (cyI, 15, .inl yR))] H := hP
  have hD : va_D A [(a1, .inr (6, [.ref a5, .ref a6, .ref a7, .ref a8, .ref a9, .ref a10, .ref a11, .ref a12, .int 0, .int 0, .int 0, .int 32, .int 0])), (a2, .inr (9, [.ref a13, .ref a14, .ref a15, .ref a16, .ref a17, .ref a18])), (a15, .inl (cyI, 15, .inl yR)), (a0, .inr (5, [.ref a3, .ref a4, .int 0, .int 0, .int 0])), (a14, .inl (cyI, 15, .inl yR))] := hD
  refine W.widen (k := 0) (n := 0) (Nat.le_of_ble_eq_true rfl) (Nat.le_of_ble_eq_true rfl) ?_
  have hw : r_14 = 0 := hw
  subst hw
  refine lv_goto (tgt := 120) hx hb dX5_judge_106 (by decide) ?_
  refine lv_istore (lv' := [(7, .int 0), (6, .int 6), (5, .ref a15), (4, .ref a14), (0, .ref a0), (1, .ref a1), (2, .ref a2), (3, .int v0)]) hx hb dX5_judge_120 hl (by decide) rfl (fun ls hl => ?_)
  refine lv_iload hx hb dX5_judge_122 (lv_at hl 0 rfl) ?_
  refine lv_if_eq (tgt := 134) hx hb dX5_judge_124 (by decide) (fun _ => ?_) (fun c => absurd (by decide) c)
  refine lv_iinc (v := 7) (lv' := [(6, .int 7), (7, .int 0), (5, .ref a15), (4, .ref a14), (0, .ref a0), (1, .ref a1), (2, .ref a2), (3, .int v0)]) hx hb dX5_judge_134 hl (k := 1) rfl (by decide) (by decide) rfl (fun ls hl => ?_)
  refine lv_goto (tgt := 82) hx hb dX5_judge_137 (by decide) ?_
  refine lv_iload hx hb dX5_judge_82 (lv_at hl 0 rfl) ?_
  refine lv_bipush (v := 15) hx hb dX5_judge_84 (by decide) ?_
  refine lv_icmp_gt (tgt := 140) hx hb dX5_judge_86 (by decide) (fun c => absurd c (by decide)) (fun _ => ?_)
  refine lv_iload hx hb dX5_judge_89 (lv_at hl 0 rfl) ?_
  refine lv_bipush (v := 8) hx hb dX5_judge_91 (by decide) ?_
  refine lv_icmp_ge (tgt := 109) hx hb dX5_judge_93 (by decide) (fun c => absurd c (by decide)) (fun _ => ?_)
  refine lv_aload_n hx hb dX5_judge_96 rfl (lv_at hl 4 rfl) ?_
  refine lv_iload hx hb dX5_judge_97 (lv_at hl 0 rfl) ?_
  refine lv_aload hx hb dX5_judge_99 (lv_at hl 3 rfl) ?_
  refine lv_aload hx hb dX5_judge_101 (lv_at hl 2 rfl) ?_
  have hPc := hP.sub (ws' := [(a0, .inr (5, [.ref a3, .ref a4, .int 0, .int 0, .int 0]))]) [3] rfl
  have hDc := hD.sub (ws' := [(a0, .inr (5, [.ref a3, .ref a4, .int 0, .int 0, .int 0]))]) [3] (by decide) rfl
  refine yy_calli [3] [0, 1, 2, 4] (wr := [(a1, .inr (6, [.ref a5, .ref a6, .ref a7, .ref a8, .ref a9, .ref a10, .ref a11, .ref a12, .int 0, .int 0, .int 0, .int 32, .int 0])), (a2, .inr (9, [.ref a13, .ref a14, .ref a15, .ref a16, .ref a17, .ref a18])), (a15, .inl (cyI, 15, .inl yR)), (a14, .inl (cyI, 15, .inl yR))]) (va_runV (As := [.int 7, .ref a14, .ref a15]) (rest := []) ⟨hx, hb, hml, hown, hts⟩ (bS_X5_breaksAbove_26 l dC dI cyI cyZ cyO H.size a0 a14 a15 a3 a4 ) (cwV 3 hts gX5_judge_X5_breaksAbove rfl rfl rfl (by decide +kernel) ⟨Nat.le_of_ble_eq_true rfl, Nat.le_of_ble_eq_true rfl⟩) (yPreV hK hPc hDc (ci := 5) (q0 := 0) rfl rfl) rfl rfl hl.1 rfl (lv_room (Nat.le_of_ble_eq_true rfl)) dX5_judge_103 ⟨Nat.le_of_ble_eq_true rfl, Nat.le_of_ble_eq_true rfl⟩) hP hD hS hA rfl rfl (by decide) (by decide) (fun r_16 u_15 H locs hw hP hD hS => ?_)
  have hP : va_P (dC, dI) vwCl [(a1, .inr (6, [.ref a5, .ref a6, .ref a7, .ref a8, .ref a9, .ref a10, .ref a11, .ref a12, .int 0, .int 0, .int 0, .int 32, .int 0])), (a2, .inr (9, [.ref a13, .ref a14, .ref a15, .ref a16, .ref a17, .ref a18])), (a15, .inl (cyI, 15, .inl yR)), (a14, .inl (cyI, 15, .inl yR)), (a0, .inr (5, [.ref a3, .ref a4, .int 0, .int 0, .int 0]))] H := hP
  have hD : va_D A [(a1, .inr (6, [.ref a5, .ref a6, .ref a7, .ref a8, .ref a9, .ref a10, .ref a11, .ref a12, .int 0, .int 0, .int 0, .int 32, .int 0])), (a2, .inr (9, [.ref a13, .ref a14, .ref a15, .ref a16, .ref a17, .ref a18])), (a15, .inl (cyI, 15, .inl yR)), (a14, .inl (cyI, 15, .inl yR)), (a0, .inr (5, [.ref a3, .ref a4, .int 0, .int 0, .int 0]))] := hD
  refine W.widen (k := 0) (n := 0) (Nat.le_of_ble_eq_true rfl) (Nat.le_of_ble_eq_true rfl) ?_
  have hw : r_16 = 0 := hw
  subst hw
  refine lv_goto (tgt := 120) hx hb dX5_judge_106 (by decide) ?_
  refine lv_istore (lv' := [(7, .int 0), (6, .int 7), (5, .ref a15), (4, .ref a14), (0, .ref a0), (1, .ref a1), (2, .ref a2), (3, .int v0)]) hx hb dX5_judge_120 hl (by decide) rfl (fun ls hl => ?_)
  refine lv_iload hx hb dX5_judge_122 (lv_at hl 0 rfl) ?_
  refine lv_if_eq (tgt := 134) hx hb dX5_judge_124 (by decide) (fun _ => ?_) (fun c => absurd (by decide) c)
  refine lv_iinc (v := 8) (lv' := [(6, .int 8), (7, .int 0), (5, .ref a15), (4, .ref a14), (0, .ref a0), (1, .ref a1), (2, .ref a2), (3, .int v0)]) hx hb dX5_judge_134 hl (k := 1) rfl (by decide) (by decide) rfl (fun ls hl => ?_)
  refine lv_goto (tgt := 82) hx hb dX5_judge_137 (by decide) ?_
  refine lv_iload hx hb dX5_judge_82 (lv_at hl 0 rfl) ?_
  refine lv_bipush (v := 15) hx hb dX5_judge_84 (by decide) ?_
  refine lv_icmp_gt (tgt := 140) hx hb dX5_judge_86 (by decide) (fun c => absurd c (by decide)) (fun _ => ?_)
  refine lv_iload hx hb dX5_judge_89 (lv_at hl 0 rfl) ?_
  refine lv_bipush (v := 8) hx hb dX5_judge_91 (by decide) ?_
  refine lv_icmp_ge (tgt := 109) hx hb dX5_judge_93 (by decide) (fun _ => ?_) (fun c => absurd (by decide) c)
  refine lv_aload_n hx hb dX5_judge_109 rfl (lv_at hl 4 rfl) ?_
  refine lv_iload hx hb dX5_judge_110 (lv_at hl 0 rfl) ?_
  refine lv_aload_n hx hb dX5_judge_112 rfl (lv_at hl 5 rfl) ?_
  refine lv_aload hx hb dX5_judge_113 (lv_at hl 3 rfl) ?_
  refine lv_aload hx hb dX5_judge_115 (lv_at hl 2 rfl) ?_
  have hPc := hP.sub (ws' := [(a0, .inr (5, [.ref a3, .ref a4, .int 0, .int 0, .int 0])), (a1, .inr (6, [.ref a5, .ref a6, .ref a7, .ref a8, .ref a9, .ref a10, .ref a11, .ref a12, .int 0, .int 0, .int 0, .int 32, .int 0])), (a14, .inl (cyI, 15, .inl yR))]) [4, 0, 3] rfl
  have hDc := hD.sub (ws' := [(a0, .inr (5, [.ref a3, .ref a4, .int 0, .int 0, .int 0])), (a1, .inr (6, [.ref a5, .ref a6, .ref a7, .ref a8, .ref a9, .ref a10, .ref a11, .ref a12, .int 0, .int 0, .int 0, .int 32, .int 0])), (a14, .inl (cyI, 15, .inl yR))]) [4, 0, 3] (by decide) rfl
  refine yy_calli [4, 0, 3] [1, 2] (wr := [(a2, .inr (9, [.ref a13, .ref a14, .ref a15, .ref a16, .ref a17, .ref a18])), (a15, .inl (cyI, 15, .inl yR))]) (va_runV (As := [.int 8, .ref a1, .ref a14, .ref a15]) (rest := []) ⟨hx, hb, hml, hown, hts⟩ (bS_X5_breaksBelow_29 l dC dI cyI cyZ cyO H.size a0 a1 a14 a15 a3 a4 a5 a6 a7 a8 a9 a10 a11 a12 ) (cwV 4 hts gX5_judge_X5_breaksBelow rfl rfl rfl (by decide +kernel) ⟨Nat.le_of_ble_eq_true rfl, Nat.le_of_ble_eq_true rfl⟩) (yPreV hK hPc hDc (ci := 5) (q0 := 0) rfl rfl) rfl rfl hl.1 rfl (lv_room (Nat.le_of_ble_eq_true rfl)) dX5_judge_117 ⟨Nat.le_of_ble_eq_true rfl, Nat.le_of_ble_eq_true rfl⟩) hP hD hS hA rfl rfl (by decide) (by decide) (fun r_18 u_17 H locs hw hP hD hS => ?_)
  have hP : va_P (dC, dI) vwCl [(a2, .inr (9, [.ref a13, .ref a14, .ref a15, .ref a16, .ref a17, .ref a18])), (a15, .inl (cyI, 15, .inl yR)), (a0, .inr (5, [.ref a3, .ref a4, .int 0, .int 0, .int 0])), (a1, .inr (6, [.ref a5, .ref a6, .ref a7, .ref a8, .ref a9, .ref a10, .ref a11, .ref a12, .int 0, .int 0, .int 0, .int 32, .int 0])), (a14, .inl (cyI, 15, .inl yR))] H := hP
  have hD : va_D A [(a2, .inr (9, [.ref a13, .ref a14, .ref a15, .ref a16, .ref a17, .ref a18])), (a15, .inl (cyI, 15, .inl yR)), (a0, .inr (5, [.ref a3, .ref a4, .int 0, .int 0, .int 0])), (a1, .inr (6, [.ref a5, .ref a6, .ref a7, .ref a8, .ref a9, .ref a10, .ref a11, .ref a12, .int 0, .int 0, .int 0, .int 32, .int 0])), (a14, .inl (cyI, 15, .inl yR))] := hD
  refine W.widen (k := 0) (n := 0) (Nat.le_of_ble_eq_true rfl) (Nat.le_of_ble_eq_true rfl) ?_
  have hw : r_18 = 0 := hw
  subst hw
  refine lv_istore (lv' := [(7, .int 0), (6, .int 8), (5, .ref a15), (4, .ref a14), (0, .ref a0), (1, .ref a1), (2, .ref a2), (3, .int v0)]) hx hb dX5_judge_120 hl (by decide) rfl (fun ls hl => ?_)
  refine lv_iload hx hb dX5_judge_122 (lv_at hl 0 rfl) ?_
  refine lv_if_eq (tgt := 134) hx hb dX5_judge_124 (by decide) (fun _ => ?_) (fun c => absurd (by decide) c)
  refine lv_iinc (v := 9) (lv' := [(6, .int 9), (7, .int 0), (5, .ref a15), (4, .ref a14), (0, .ref a0), (1, .ref a1), (2, .ref a2), (3, .int v0)]) hx hb dX5_judge_134 hl (k := 1) rfl (by decide) (by decide) rfl (fun ls hl => ?_)
  refine lv_goto (tgt := 82) hx hb dX5_judge_137 (by decide) ?_
  refine lv_iload hx hb dX5_judge_82 (lv_at hl 0 rfl) ?_
  refine lv_bipush (v := 15) hx hb dX5_judge_84 (by decide) ?_
  refine lv_icmp_gt (tgt := 140) hx hb dX5_judge_86 (by decide) (fun c => absurd c (by decide)) (fun _ => ?_)
  refine lv_iload hx hb dX5_judge_89 (lv_at hl 0 rfl) ?_
  refine lv_bipush (v := 8) hx hb dX5_judge_91 (by decide) ?_
  refine lv_icmp_ge (tgt := 109) hx hb dX5_judge_93 (by decide) (fun _ => ?_) (fun c => absurd (by decide) c)
  refine lv_aload_n hx hb dX5_judge_109 rfl (lv_at hl 4 rfl) ?_
  refine lv_iload hx hb dX5_judge_110 (lv_at hl 0 rfl) ?_
  refine lv_aload_n hx hb dX5_judge_112 rfl (lv_at hl 5 rfl) ?_
  refine lv_aload hx hb dX5_judge_113 (lv_at hl 3 rfl) ?_
  refine lv_aload hx hb dX5_judge_115 (lv_at hl 2 rfl) ?_
  have hPc := hP.sub (ws' := [(a0, .inr (5, [.ref a3, .ref a4, .int 0, .int 0, .int 0])), (a14, .inl (cyI, 15, .inl yR))]) [2, 4] rfl
  have hDc := hD.sub (ws' := [(a0, .inr (5, [.ref a3, .ref a4, .int 0, .int 0, .int 0])), (a14, .inl (cyI, 15, .inl yR))]) [2, 4] (by decide) rfl
  refine yy_calli [2, 4] [0, 1, 3] (wr := [(a2, .inr (9, [.ref a13, .ref a14, .ref a15, .ref a16, .ref a17, .ref a18])), (a15, .inl (cyI, 15, .inl yR)), (a1, .inr (6, [.ref a5, .ref a6, .ref a7, .ref a8, .ref a9, .ref a10, .ref a11, .ref a12, .int 0, .int 0, .int 0, .int 32, .int 0]))]) (va_runV (As := [.int 9, .ref a1, .ref a14, .ref a15]) (rest := []) ⟨hx, hb, hml, hown, hts⟩ (bS_X5_breaksBelow_30 l dC dI cyI cyZ cyO H.size a0 a1 a14 a15 a3 a4 ) (cwV 4 hts gX5_judge_X5_breaksBelow rfl rfl rfl (by decide +kernel) ⟨Nat.le_of_ble_eq_true rfl, Nat.le_of_ble_eq_true rfl⟩) (yPreV hK hPc hDc (ci := 5) (q0 := 0) rfl rfl) rfl rfl hl.1 rfl (lv_room (Nat.le_of_ble_eq_true rfl)) dX5_judge_117 ⟨Nat.le_of_ble_eq_true rfl, Nat.le_of_ble_eq_true rfl⟩) hP hD hS hA rfl rfl (by decide) (by decide) (fun r_20 u_19 H locs hw hP hD hS => ?_)
  have hP : va_P (dC, dI) vwCl [(a2, .inr (9, [.ref a13, .ref a14, .ref a15, .ref a16, .ref a17, .ref a18])), (a15, .inl (cyI, 15, .inl yR)), (a1, .inr (6, [.ref a5, .ref a6, .ref a7, .ref a8, .ref a9, .ref a10, .ref a11, .ref a12, .int 0, .int 0, .int 0, .int 32, .int 0])), (a0, .inr (5, [.ref a3, .ref a4, .int 0, .int 0, .int 0])), (a14, .inl (cyI, 15, .inl yR))] H := hP
  have hD : va_D A [(a2, .inr (9, [.ref a13, .ref a14, .ref a15, .ref a16, .ref a17, .ref a18])), (a15, .inl (cyI, 15, .inl yR)), (a1, .inr (6, [.ref a5, .ref a6, .ref a7, .ref a8, .ref a9, .ref a10, .ref a11, .ref a12, .int 0, .int 0, .int 0, .int 32, .int 0])), (a0, .inr (5, [.ref a3, .ref a4, .int 0, .int 0, .int 0])), (a14, .inl (cyI, 15, .inl yR))] := hD
  refine W.widen (k := 0) (n := 0) (Nat.le_of_ble_eq_true rfl) (Nat.le_of_ble_eq_true rfl) ?_
  have hw : r_20 = 0 := hw
  subst hw
  refine lv_istore (lv' := [(7, .int 0), (6, .int 9), (5, .ref a15), (4, .ref a14), (0, .ref a0), (1, .ref a1), (2, .ref a2), (3, .int v0)]) hx hb dX5_judge_120 hl (by decide) rfl (fun ls hl => ?_)
  refine lv_iload hx hb dX5_judge_122 (lv_at hl 0 rfl) ?_
  refine lv_if_eq (tgt := 134) hx hb dX5_judge_124 (by decide) (fun _ => ?_) (fun c => absurd (by decide) c)
  refine lv_iinc (v := 10) (lv' := [(6, .int 10), (7, .int 0), (5, .ref a15), (4, .ref a14), (0, .ref a0), (1, .ref a1), (2, .ref a2), (3, .int v0)]) hx hb dX5_judge_134 hl (k := 1) rfl (by decide) (by decide) rfl (fun ls hl => ?_)
  refine lv_goto (tgt := 82) hx hb dX5_judge_137 (by decide) ?_
  refine lv_iload hx hb dX5_judge_82 (lv_at hl 0 rfl) ?_
  refine lv_bipush (v := 15) hx hb dX5_judge_84 (by decide) ?_
  refine lv_icmp_gt (tgt := 140) hx hb dX5_judge_86 (by decide) (fun c => absurd c (by decide)) (fun _ => ?_)
  refine lv_iload hx hb dX5_judge_89 (lv_at hl 0 rfl) ?_
  refine lv_bipush (v := 8) hx hb dX5_judge_91 (by decide) ?_
  refine lv_icmp_ge (tgt := 109) hx hb dX5_judge_93 (by decide) (fun _ => ?_) (fun c => absurd (by decide) c)
  refine lv_aload_n hx hb dX5_judge_109 rfl (lv_at hl 4 rfl) ?_
  refine lv_iload hx hb dX5_judge_110 (lv_at hl 0 rfl) ?_
  refine lv_aload_n hx hb dX5_judge_112 rfl (lv_at hl 5 rfl) ?_
  refine lv_aload hx hb dX5_judge_113 (lv_at hl 3 rfl) ?_
  refine lv_aload hx hb dX5_judge_115 (lv_at hl 2 rfl) ?_
  have hPc := hP.sub (ws' := [(a0, .inr (5, [.ref a3, .ref a4, .int 0, .int 0, .int 0])), (a14, .inl (cyI, 15, .inl yR))]) [3, 4] rfl
  have hDc := hD.sub (ws' := [(a0, .inr (5, [.ref a3, .ref a4, .int 0, .int 0, .int 0])), (a14, .inl (cyI, 15, .inl yR))]) [3, 4] (by decide) rfl
  refine yy_calli [3, 4] [0, 1, 2] (wr := [(a2, .inr (9, [.ref a13, .ref a14, .ref a15, .ref a16, .ref a17, .ref a18])), (a15, .inl (cyI, 15, .inl yR)), (a1, .inr (6, [.ref a5, .ref a6, .ref a7, .ref a8, .ref a9, .ref a10, .ref a11, .ref a12, .int 0, .int 0, .int 0, .int 32, .int 0]))]) (va_runV (As := [.int 10, .ref a1, .ref a14, .ref a15]) (rest := []) ⟨hx, hb, hml, hown, hts⟩ (bS_X5_breaksBelow_31 l dC dI cyI cyZ cyO H.size a0 a1 a14 a15 a3 a4 ) (cwV 4 hts gX5_judge_X5_breaksBelow rfl rfl rfl (by decide +kernel) ⟨Nat.le_of_ble_eq_true rfl, Nat.le_of_ble_eq_true rfl⟩) (yPreV hK hPc hDc (ci := 5) (q0 := 0) rfl rfl) rfl rfl hl.1 rfl (lv_room (Nat.le_of_ble_eq_true rfl)) dX5_judge_117 ⟨Nat.le_of_ble_eq_true rfl, Nat.le_of_ble_eq_true rfl⟩) hP hD hS hA rfl rfl (by decide) (by decide) (fun r_22 u_21 H locs hw hP hD hS => ?_)
  have hP : va_P (dC, dI) vwCl [(a2, .inr (9, [.ref a13, .ref a14, .ref a15, .ref a16, .ref a17, .ref a18])), (a15, .inl (cyI, 15, .inl yR)), (a1, .inr (6, [.ref a5, .ref a6, .ref a7, .ref a8, .ref a9, .ref a10, .ref a11, .ref a12, .int 0, .int 0, .int 0, .int 32, .int 0])), (a0, .inr (5, [.ref a3, .ref a4, .int 0, .int 0, .int 0])), (a14, .inl (cyI, 15, .inl yR))] H := hP
  have hD : va_D A [(a2, .inr (9, [.ref a13, .ref a14, .ref a15, .ref a16, .ref a17, .ref a18])), (a15, .inl (cyI, 15, .inl yR)), (a1, .inr (6, [.ref a5, .ref a6, .ref a7, .ref a8, .ref a9, .ref a10, .ref a11, .ref a12, .int 0, .int 0, .int 0, .int 32, .int 0])), (a0, .inr (5, [.ref a3, .ref a4, .int 0, .int 0, .int 0])), (a14, .inl (cyI, 15, .inl yR))] := hD
  refine W.widen (k := 0) (n := 0) (Nat.le_of_ble_eq_true rfl) (Nat.le_of_ble_eq_true rfl) ?_
  have hw : r_22 = 0 := hw
  subst hw
  refine lv_istore (lv' := [(7, .int 0), (6, .int 10), (5, .ref a15), (4, .ref a14), (0, .ref a0), (1, .ref a1), (2, .ref a2), (3, .int v0)]) hx hb dX5_judge_120 hl (by decide) rfl (fun ls hl => ?_)
  refine lv_iload hx hb dX5_judge_122 (lv_at hl 0 rfl) ?_
  refine lv_if_eq (tgt := 134) hx hb dX5_judge_124 (by decide) (fun _ => ?_) (fun c => absurd (by decide) c)
  refine lv_iinc (v := 11) (lv' := [(6, .int 11), (7, .int 0), (5, .ref a15), (4, .ref a14), (0, .ref a0), (1, .ref a1), (2, .ref a2), (3, .int v0)]) hx hb dX5_judge_134 hl (k := 1) rfl (by decide) (by decide) rfl (fun ls hl => ?_)
  refine lv_goto (tgt := 82) hx hb dX5_judge_137 (by decide) ?_
  refine lv_iload hx hb dX5_judge_82 (lv_at hl 0 rfl) ?_
  refine lv_bipush (v := 15) hx hb dX5_judge_84 (by decide) ?_
  refine lv_icmp_gt (tgt := 140) hx hb dX5_judge_86 (by decide) (fun c => absurd c (by decide)) (fun _ => ?_)
  refine lv_iload hx hb dX5_judge_89 (lv_at hl 0 rfl) ?_
  refine lv_bipush (v := 8) hx hb dX5_judge_91 (by decide) ?_
  refine lv_icmp_ge (tgt := 109) hx hb dX5_judge_93 (by decide) (fun _ => ?_) (fun c => absurd (by decide) c)
  refine lv_aload_n hx hb dX5_judge_109 rfl (lv_at hl 4 rfl) ?_
  refine lv_iload hx hb dX5_judge_110 (lv_at hl 0 rfl) ?_
  refine lv_aload_n hx hb dX5_judge_112 rfl (lv_at hl 5 rfl) ?_
  refine lv_aload hx hb dX5_judge_113 (lv_at hl 3 rfl) ?_
  refine lv_aload hx hb dX5_judge_115 (lv_at hl 2 rfl) ?_
  have hPc := hP.sub (ws' := [(a0, .inr (5, [.ref a3, .ref a4, .int 0, .int 0, .int 0])), (a14, .inl (cyI, 15, .inl yR)), (a15, .inl (cyI, 15, .inl yR))]) [3, 4, 1] rfl
  have hDc := hD.sub (ws' := [(a0, .inr (5, [.ref a3, .ref a4, .int 0, .int 0, .int 0])), (a14, .inl (cyI, 15, .inl yR)), (a15, .inl (cyI, 15, .inl yR))]) [3, 4, 1] (by decide) rfl
  refine yy_calli [3, 4, 1] [0, 2] (wr := [(a2, .inr (9, [.ref a13, .ref a14, .ref a15, .ref a16, .ref a17, .ref a18])), (a1, .inr (6, [.ref a5, .ref a6, .ref a7, .ref a8, .ref a9, .ref a10, .ref a11, .ref a12, .int 0, .int 0, .int 0, .int 32, .int 0]))]) (va_runV (As := [.int 11, .ref a1, .ref a14, .ref a15]) (rest := []) ⟨hx, hb, hml, hown, hts⟩ (bS_X5_breaksBelow_32 l dC dI cyI cyZ cyO H.size a0 a1 a14 a15 a3 a4 ) (cwV 4 hts gX5_judge_X5_breaksBelow rfl rfl rfl (by decide +kernel) ⟨Nat.le_of_ble_eq_true rfl, Nat.le_of_ble_eq_true rfl⟩) (yPreV hK hPc hDc (ci := 5) (q0 := 0) rfl rfl) rfl rfl hl.1 rfl (lv_room (Nat.le_of_ble_eq_true rfl)) dX5_judge_117 ⟨Nat.le_of_ble_eq_true rfl, Nat.le_of_ble_eq_true rfl⟩) hP hD hS hA rfl rfl (by decide) (by decide) (fun r_24 u_23 H locs hw hP hD hS => ?_)
  have hP : va_P (dC, dI) vwCl [(a2, .inr (9, [.ref a13, .ref a14, .ref a15, .ref a16, .ref a17, .ref a18])), (a1, .inr (6, [.ref a5, .ref a6, .ref a7, .ref a8, .ref a9, .ref a10, .ref a11, .ref a12, .int 0, .int 0, .int 0, .int 32, .int 0])), (a0, .inr (5, [.ref a3, .ref a4, .int 0, .int 0, .int 0])), (a14, .inl (cyI, 15, .inl yR)), (a15, .inl (cyI, 15, .inl yR))] H := hP
  have hD : va_D A [(a2, .inr (9, [.ref a13, .ref a14, .ref a15, .ref a16, .ref a17, .ref a18])), (a1, .inr (6, [.ref a5, .ref a6, .ref a7, .ref a8, .ref a9, .ref a10, .ref a11, .ref a12, .int 0, .int 0, .int 0, .int 32, .int 0])), (a0, .inr (5, [.ref a3, .ref a4, .int 0, .int 0, .int 0])), (a14, .inl (cyI, 15, .inl yR)), (a15, .inl (cyI, 15, .inl yR))] := hD
  refine W.widen (k := 0) (n := 0) (Nat.le_of_ble_eq_true rfl) (Nat.le_of_ble_eq_true rfl) ?_
  have hw : r_24 = 0 := hw
  subst hw
  refine lv_istore (lv' := [(7, .int 0), (6, .int 11), (5, .ref a15), (4, .ref a14), (0, .ref a0), (1, .ref a1), (2, .ref a2), (3, .int v0)]) hx hb dX5_judge_120 hl (by decide) rfl (fun ls hl => ?_)
  refine lv_iload hx hb dX5_judge_122 (lv_at hl 0 rfl) ?_
  refine lv_if_eq (tgt := 134) hx hb dX5_judge_124 (by decide) (fun _ => ?_) (fun c => absurd (by decide) c)
  refine lv_iinc (v := 12) (lv' := [(6, .int 12), (7, .int 0), (5, .ref a15), (4, .ref a14), (0, .ref a0), (1, .ref a1), (2, .ref a2), (3, .int v0)]) hx hb dX5_judge_134 hl (k := 1) rfl (by decide) (by decide) rfl (fun ls hl => ?_)
  refine lv_goto (tgt := 82) hx hb dX5_judge_137 (by decide) ?_
  refine lv_iload hx hb dX5_judge_82 (lv_at hl 0 rfl) ?_
  refine lv_bipush (v := 15) hx hb dX5_judge_84 (by decide) ?_
  refine lv_icmp_gt (tgt := 140) hx hb dX5_judge_86 (by decide) (fun c => absurd c (by decide)) (fun _ => ?_)
  refine lv_iload hx hb dX5_judge_89 (lv_at hl 0 rfl) ?_
  refine lv_bipush (v := 8) hx hb dX5_judge_91 (by decide) ?_
  refine lv_icmp_ge (tgt := 109) hx hb dX5_judge_93 (by decide) (fun _ => ?_) (fun c => absurd (by decide) c)
  refine lv_aload_n hx hb dX5_judge_109 rfl (lv_at hl 4 rfl) ?_
  refine lv_iload hx hb dX5_judge_110 (lv_at hl 0 rfl) ?_
  refine lv_aload_n hx hb dX5_judge_112 rfl (lv_at hl 5 rfl) ?_
  refine lv_aload hx hb dX5_judge_113 (lv_at hl 3 rfl) ?_
  refine lv_aload hx hb dX5_judge_115 (lv_at hl 2 rfl) ?_
  have hPc := hP.sub (ws' := [(a0, .inr (5, [.ref a3, .ref a4, .int 0, .int 0, .int 0])), (a14, .inl (cyI, 15, .inl yR)), (a15, .inl (cyI, 15, .inl yR))]) [2, 3, 4] rfl
  have hDc := hD.sub (ws' := [(a0, .inr (5, [.ref a3, .ref a4, .int 0, .int 0, .int 0])), (a14, .inl (cyI, 15, .inl yR)), (a15, .inl (cyI, 15, .inl yR))]) [2, 3, 4] (by decide) rfl
  refine yy_calli [2, 3, 4] [0, 1] (wr := [(a2, .inr (9, [.ref a13, .ref a14, .ref a15, .ref a16, .ref a17, .ref a18])), (a1, .inr (6, [.ref a5, .ref a6, .ref a7, .ref a8, .ref a9, .ref a10, .ref a11, .ref a12, .int 0, .int 0, .int 0, .int 32, .int 0]))]) (va_runV (As := [.int 12, .ref a1, .ref a14, .ref a15]) (rest := []) ⟨hx, hb, hml, hown, hts⟩ (bS_X5_breaksBelow_33 l dC dI cyI cyZ cyO H.size a0 a1 a14 a15 a3 a4 ) (cwV 4 hts gX5_judge_X5_breaksBelow rfl rfl rfl (by decide +kernel) ⟨Nat.le_of_ble_eq_true rfl, Nat.le_of_ble_eq_true rfl⟩) (yPreV hK hPc hDc (ci := 5) (q0 := 0) rfl rfl) rfl rfl hl.1 rfl (lv_room (Nat.le_of_ble_eq_true rfl)) dX5_judge_117 ⟨Nat.le_of_ble_eq_true rfl, Nat.le_of_ble_eq_true rfl⟩) hP hD hS hA rfl rfl (by decide) (by decide) (fun r_26 u_25 H locs hw hP hD hS => ?_)
  have hP : va_P (dC, dI) vwCl [(a2, .inr (9, [.ref a13, .ref a14, .ref a15, .ref a16, .ref a17, .ref a18])), (a1, .inr (6, [.ref a5, .ref a6, .ref a7, .ref a8, .ref a9, .ref a10, .ref a11, .ref a12, .int 0, .int 0, .int 0, .int 32, .int 0])), (a0, .inr (5, [.ref a3, .ref a4, .int 0, .int 0, .int 0])), (a14, .inl (cyI, 15, .inl yR)), (a15, .inl (cyI, 15, .inl yR))] H := hP
  have hD : va_D A [(a2, .inr (9, [.ref a13, .ref a14, .ref a15, .ref a16, .ref a17, .ref a18])), (a1, .inr (6, [.ref a5, .ref a6, .ref a7, .ref a8, .ref a9, .ref a10, .ref a11, .ref a12, .int 0, .int 0, .int 0, .int 32, .int 0])), (a0, .inr (5, [.ref a3, .ref a4, .int 0, .int 0, .int 0])), (a14, .inl (cyI, 15, .inl yR)), (a15, .inl (cyI, 15, .inl yR))] := hD
  refine W.widen (k := 0) (n := 0) (Nat.le_of_ble_eq_true rfl) (Nat.le_of_ble_eq_true rfl) ?_
  have hw : r_26 = 0 := hw
  subst hw
  refine lv_istore (lv' := [(7, .int 0), (6, .int 12), (5, .ref a15), (4, .ref a14), (0, .ref a0), (1, .ref a1), (2, .ref a2), (3, .int v0)]) hx hb dX5_judge_120 hl (by decide) rfl (fun ls hl => ?_)
  refine lv_iload hx hb dX5_judge_122 (lv_at hl 0 rfl) ?_
  refine lv_if_eq (tgt := 134) hx hb dX5_judge_124 (by decide) (fun _ => ?_) (fun c => absurd (by decide) c)
  refine lv_iinc (v := 13) (lv' := [(6, .int 13), (7, .int 0), (5, .ref a15), (4, .ref a14), (0, .ref a0), (1, .ref a1), (2, .ref a2), (3, .int v0)]) hx hb dX5_judge_134 hl (k := 1) rfl (by decide) (by decide) rfl (fun ls hl => ?_)
  refine lv_goto (tgt := 82) hx hb dX5_judge_137 (by decide) ?_
  refine lv_iload hx hb dX5_judge_82 (lv_at hl 0 rfl) ?_
  refine lv_bipush (v := 15) hx hb dX5_judge_84 (by decide) ?_
  refine lv_icmp_gt (tgt := 140) hx hb dX5_judge_86 (by decide) (fun c => absurd c (by decide)) (fun _ => ?_)
  refine lv_iload hx hb dX5_judge_89 (lv_at hl 0 rfl) ?_
  refine lv_bipush (v := 8) hx hb dX5_judge_91 (by decide) ?_
  refine lv_icmp_ge (tgt := 109) hx hb dX5_judge_93 (by decide) (fun _ => ?_) (fun c => absurd (by decide) c)
  refine lv_aload_n hx hb dX5_judge_109 rfl (lv_at hl 4 rfl) ?_
  refine lv_iload hx hb dX5_judge_110 (lv_at hl 0 rfl) ?_
  refine lv_aload_n hx hb dX5_judge_112 rfl (lv_at hl 5 rfl) ?_
  refine lv_aload hx hb dX5_judge_113 (lv_at hl 3 rfl) ?_
  refine lv_aload hx hb dX5_judge_115 (lv_at hl 2 rfl) ?_
  have hPc := hP.sub (ws' := [(a0, .inr (5, [.ref a3, .ref a4, .int 0, .int 0, .int 0])), (a14, .inl (cyI, 15, .inl yR))]) [2, 3] rfl
  have hDc := hD.sub (ws' := [(a0, .inr (5, [.ref a3, .ref a4, .int 0, .int 0, .int 0])), (a14, .inl (cyI, 15, .inl yR))]) [2, 3] (by decide) rfl
  refine yy_calli [2, 3] [0, 1, 4] (wr := [(a2, .inr (9, [.ref a13, .ref a14, .ref a15, .ref a16, .ref a17, .ref a18])), (a1, .inr (6, [.ref a5, .ref a6, .ref a7, .ref a8, .ref a9, .ref a10, .ref a11, .ref a12, .int 0, .int 0, .int 0, .int 32, .int 0])), (a15, .inl (cyI, 15, .inl yR))]) (va_runV (As := [.int 13, .ref a1, .ref a14, .ref a15]) (rest := []) ⟨hx, hb, hml, hown, hts⟩ (bS_X5_breaksBelow_34 l dC dI cyI cyZ cyO H.size a0 a1 a14 a15 a3 a4 ) (cwV 4 hts gX5_judge_X5_breaksBelow rfl rfl rfl (by decide +kernel) ⟨Nat.le_of_ble_eq_true rfl, Nat.le_of_ble_eq_true rfl⟩) (yPreV hK hPc hDc (ci := 5) (q0 := 0) rfl rfl) rfl rfl hl.1 rfl (lv_room (Nat.le_of_ble_eq_true rfl)) dX5_judge_117 ⟨Nat.le_of_ble_eq_true rfl, Nat.le_of_ble_eq_true rfl⟩) hP hD hS hA rfl rfl (by decide) (by decide) (fun r_28 u_27 H locs hw hP hD hS => ?_)
  have hP : va_P (dC, dI) vwCl [(a2, .inr (9, [.ref a13, .ref a14, .ref a15, .ref a16, .ref a17, .ref a18])), (a1, .inr (6, [.ref a5, .ref a6, .ref a7, .ref a8, .ref a9, .ref a10, .ref a11, .ref a12, .int 0, .int 0, .int 0, .int 32, .int 0])), (a15, .inl (cyI, 15, .inl yR)), (a0, .inr (5, [.ref a3, .ref a4, .int 0, .int 0, .int 0])), (a14, .inl (cyI, 15, .inl yR))] H := hP
  have hD : va_D A [(a2, .inr (9, [.ref a13, .ref a14, .ref a15, .ref a16, .ref a17, .ref a18])), (a1, .inr (6, [.ref a5, .ref a6, .ref a7, .ref a8, .ref a9, .ref a10, .ref a11, .ref a12, .int 0, .int 0, .int 0, .int 32, .int 0])), (a15, .inl (cyI, 15, .inl yR)), (a0, .inr (5, [.ref a3, .ref a4, .int 0, .int 0, .int 0])), (a14, .inl (cyI, 15, .inl yR))] := hD
  refine W.widen (k := 0) (n := 0) (Nat.le_of_ble_eq_true rfl) (Nat.le_of_ble_eq_true rfl) ?_
  have hw : r_28 = 0 := hw
  subst hw
  refine lv_istore (lv' := [(7, .int 0), (6, .int 13), (5, .ref a15), (4, .ref a14), (0, .ref a0), (1, .ref a1), (2, .ref a2), (3, .int v0)]) hx hb dX5_judge_120 hl (by decide) rfl (fun ls hl => ?_)
  refine lv_iload hx hb dX5_judge_122 (lv_at hl 0 rfl) ?_
  refine lv_if_eq (tgt := 134) hx hb dX5_judge_124 (by decide) (fun _ => ?_) (fun c => absurd (by decide) c)
  refine lv_iinc (v := 14) (lv' := [(6, .int 14), (7, .int 0), (5, .ref a15), (4, .ref a14), (0, .ref a0), (1, .ref a1), (2, .ref a2), (3, .int v0)]) hx hb dX5_judge_134 hl (k := 1) rfl (by decide) (by decide) rfl (fun ls hl => ?_)
  refine lv_goto (tgt := 82) hx hb dX5_judge_137 (by decide) ?_
  refine lv_iload hx hb dX5_judge_82 (lv_at hl 0 rfl) ?_
  refine lv_bipush (v := 15) hx hb dX5_judge_84 (by decide) ?_
  refine lv_icmp_gt (tgt := 140) hx hb dX5_judge_86 (by decide) (fun c => absurd c (by decide)) (fun _ => ?_)
  refine lv_iload hx hb dX5_judge_89 (lv_at hl 0 rfl) ?_
  refine lv_bipush (v := 8) hx hb dX5_judge_91 (by decide) ?_
  refine lv_icmp_ge (tgt := 109) hx hb dX5_judge_93 (by decide) (fun _ => ?_) (fun c => absurd (by decide) c)
  refine lv_aload_n hx hb dX5_judge_109 rfl (lv_at hl 4 rfl) ?_
  refine lv_iload hx hb dX5_judge_110 (lv_at hl 0 rfl) ?_
  refine lv_aload_n hx hb dX5_judge_112 rfl (lv_at hl 5 rfl) ?_
  refine lv_aload hx hb dX5_judge_113 (lv_at hl 3 rfl) ?_
  refine lv_aload hx hb dX5_judge_115 (lv_at hl 2 rfl) ?_
  have hPc := hP.sub (ws' := [(a0, .inr (5, [.ref a3, .ref a4, .int 0, .int 0, .int 0])), (a14, .inl (cyI, 15, .inl yR)), (a15, .inl (cyI, 15, .inl yR))]) [3, 4, 2] rfl
  have hDc := hD.sub (ws' := [(a0, .inr (5, [.ref a3, .ref a4, .int 0, .int 0, .int 0])), (a14, .inl (cyI, 15, .inl yR)), (a15, .inl (cyI, 15, .inl yR))]) [3, 4, 2] (by decide) rfl
  refine yy_calli [3, 4, 2] [0, 1] (wr := [(a2, .inr (9, [.ref a13, .ref a14, .ref a15, .ref a16, .ref a17, .ref a18])), (a1, .inr (6, [.ref a5, .ref a6, .ref a7, .ref a8, .ref a9, .ref a10, .ref a11, .ref a12, .int 0, .int 0, .int 0, .int 32, .int 0]))]) (va_runV (As := [.int 14, .ref a1, .ref a14, .ref a15]) (rest := []) ⟨hx, hb, hml, hown, hts⟩ (bS_X5_breaksBelow_35 l dC dI cyI cyZ cyO H.size a0 a1 a14 a15 a3 a4 ) (cwV 4 hts gX5_judge_X5_breaksBelow rfl rfl rfl (by decide +kernel) ⟨Nat.le_of_ble_eq_true rfl, Nat.le_of_ble_eq_true rfl⟩) (yPreV hK hPc hDc (ci := 5) (q0 := 0) rfl rfl) rfl rfl hl.1 rfl (lv_room (Nat.le_of_ble_eq_true rfl)) dX5_judge_117 ⟨Nat.le_of_ble_eq_true rfl, Nat.le_of_ble_eq_true rfl⟩) hP hD hS hA rfl rfl (by decide) (by decide) (fun r_30 u_29 H locs hw hP hD hS => ?_)
  have hP : va_P (dC, dI) vwCl [(a2, .inr (9, [.ref a13, .ref a14, .ref a15, .ref a16, .ref a17, .ref a18])), (a1, .inr (6, [.ref a5, .ref a6, .ref a7, .ref a8, .ref a9, .ref a10, .ref a11, .ref a12, .int 0, .int 0, .int 0, .int 32, .int 0])), (a0, .inr (5, [.ref a3, .ref a4, .int 0, .int 0, .int 0])), (a14, .inl (cyI, 15, .inl yR)), (a15, .inl (cyI, 15, .inl yR))] H := hP
  have hD : va_D A [(a2, .inr (9, [.ref a13, .ref a14, .ref a15, .ref a16, .ref a17, .ref a18])), (a1, .inr (6, [.ref a5, .ref a6, .ref a7, .ref a8, .ref a9, .ref a10, .ref a11, .ref a12, .int 0, .int 0, .int 0, .int 32, .int 0])), (a0, .inr (5, [.ref a3, .ref a4, .int 0, .int 0, .int 0])), (a14, .inl (cyI, 15, .inl yR)), (a15, .inl (cyI, 15, .inl yR))] := hD
  refine W.widen (k := 0) (n := 0) (Nat.le_of_ble_eq_true rfl) (Nat.le_of_ble_eq_true rfl) ?_
  have hw : r_30 = 0 := hw
  subst hw
  refine lv_istore (lv' := [(7, .int 0), (6, .int 14), (5, .ref a15), (4, .ref a14), (0, .ref a0), (1, .ref a1), (2, .ref a2), (3, .int v0)]) hx hb dX5_judge_120 hl (by decide) rfl (fun ls hl => ?_)
  refine lv_iload hx hb dX5_judge_122 (lv_at hl 0 rfl) ?_
  refine lv_if_eq (tgt := 134) hx hb dX5_judge_124 (by decide) (fun _ => ?_) (fun c => absurd (by decide) c)
  refine lv_iinc (v := 15) (lv' := [(6, .int 15), (7, .int 0), (5, .ref a15), (4, .ref a14), (0, .ref a0), (1, .ref a1), (2, .ref a2), (3, .int v0)]) hx hb dX5_judge_134 hl (k := 1) rfl (by decide) (by decide) rfl (fun ls hl => ?_)
  refine lv_goto (tgt := 82) hx hb dX5_judge_137 (by decide) ?_
  refine lv_iload hx hb dX5_judge_82 (lv_at hl 0 rfl) ?_
  refine lv_bipush (v := 15) hx hb dX5_judge_84 (by decide) ?_
  refine lv_icmp_gt (tgt := 140) hx hb dX5_judge_86 (by decide) (fun c => absurd c (by decide)) (fun _ => ?_)
  refine lv_iload hx hb dX5_judge_89 (lv_at hl 0 rfl) ?_
  refine lv_bipush (v := 8) hx hb dX5_judge_91 (by decide) ?_
  refine lv_icmp_ge (tgt := 109) hx hb dX5_judge_93 (by decide) (fun _ => ?_) (fun c => absurd (by decide) c)
  refine lv_aload_n hx hb dX5_judge_109 rfl (lv_at hl 4 rfl) ?_
  refine lv_iload hx hb dX5_judge_110 (lv_at hl 0 rfl) ?_
  refine lv_aload_n hx hb dX5_judge_112 rfl (lv_at hl 5 rfl) ?_
  refine lv_aload hx hb dX5_judge_113 (lv_at hl 3 rfl) ?_
  refine lv_aload hx hb dX5_judge_115 (lv_at hl 2 rfl) ?_
  have hPc := hP.sub (ws' := [(a0, .inr (5, [.ref a3, .ref a4, .int 0, .int 0, .int 0])), (a14, .inl (cyI, 15, .inl yR))]) [2, 3] rfl
  have hDc := hD.sub (ws' := [(a0, .inr (5, [.ref a3, .ref a4, .int 0, .int 0, .int 0])), (a14, .inl (cyI, 15, .inl yR))]) [2, 3] (by decide) rfl
  refine yy_calli [2, 3] [0, 1, 4] (wr := [(a2, .inr (9, [.ref a13, .ref a14, .ref a15, .ref a16, .ref a17, .ref a18])), (a1, .inr (6, [.ref a5, .ref a6, .ref a7, .ref a8, .ref a9, .ref a10, .ref a11, .ref a12, .int 0, .int 0, .int 0, .int 32, .int 0])), (a15, .inl (cyI, 15, .inl yR))]) (va_runV (As := [.int 15, .ref a1, .ref a14, .ref a15]) (rest := []) ⟨hx, hb, hml, hown, hts⟩ (bS_X5_breaksBelow_36 l dC dI cyI cyZ cyO H.size a0 a1 a14 a15 a3 a4 ) (cwV 4 hts gX5_judge_X5_breaksBelow rfl rfl rfl (by decide +kernel) ⟨Nat.le_of_ble_eq_true rfl, Nat.le_of_ble_eq_true rfl⟩) (yPreV hK hPc hDc (ci := 5) (q0 := 0) rfl rfl) rfl rfl hl.1 rfl (lv_room (Nat.le_of_ble_eq_true rfl)) dX5_judge_117 ⟨Nat.le_of_ble_eq_true rfl, Nat.le_of_ble_eq_true rfl⟩) hP hD hS hA rfl rfl (by decide) (by decide) (fun r_32 u_31 H locs hw hP hD hS => ?_)
  have hP : va_P (dC, dI) vwCl [(a2, .inr (9, [.ref a13, .ref a14, .ref a15, .ref a16, .ref a17, .ref a18])), (a1, .inr (6, [.ref a5, .ref a6, .ref a7, .ref a8, .ref a9, .ref a10, .ref a11, .ref a12, .int 0, .int 0, .int 0, .int 32, .int 0])), (a15, .inl (cyI, 15, .inl yR)), (a0, .inr (5, [.ref a3, .ref a4, .int 0, .int 0, .int 0])), (a14, .inl (cyI, 15, .inl yR))] H := hP
  have hD : va_D A [(a2, .inr (9, [.ref a13, .ref a14, .ref a15, .ref a16, .ref a17, .ref a18])), (a1, .inr (6, [.ref a5, .ref a6, .ref a7, .ref a8, .ref a9, .ref a10, .ref a11, .ref a12, .int 0, .int 0, .int 0, .int 32, .int 0])), (a15, .inl (cyI, 15, .inl yR)), (a0, .inr (5, [.ref a3, .ref a4, .int 0, .int 0, .int 0])), (a14, .inl (cyI, 15, .inl yR))] := hD
  refine W.widen (k := 0) (n := 0) (Nat.le_of_ble_eq_true rfl) (Nat.le_of_ble_eq_true rfl) ?_
  have hw : r_32 = 0 := hw
  subst hw
  refine lv_istore (lv' := [(7, .int 0), (6, .int 15), (5, .ref a15), (4, .ref a14), (0, .ref a0), (1, .ref a1), (2, .ref a2), (3, .int v0)]) hx hb dX5_judge_120 hl (by decide) rfl (fun ls hl => ?_)
  refine lv_iload hx hb dX5_judge_122 (lv_at hl 0 rfl) ?_
  refine lv_if_eq (tgt := 134) hx hb dX5_judge_124 (by decide) (fun _ => ?_) (fun c => absurd (by decide) c)
  refine lv_iinc (v := 16) (lv' := [(6, .int 16), (7, .int 0), (5, .ref a15), (4, .ref a14), (0, .ref a0), (1, .ref a1), (2, .ref a2), (3, .int v0)]) hx hb dX5_judge_134 hl (k := 1) rfl (by decide) (by decide) rfl (fun ls hl => ?_)
  refine lv_goto (tgt := 82) hx hb dX5_judge_137 (by decide) ?_
  refine lv_iload hx hb dX5_judge_82 (lv_at hl 0 rfl) ?_
  refine lv_bipush (v := 15) hx hb dX5_judge_84 (by decide) ?_
  refine lv_icmp_gt (tgt := 140) hx hb dX5_judge_86 (by decide) (fun _ => ?_) (fun c => absurd (by decide) c)
  refine W.widen (k := 0) (n := 0) (Nat.le_of_ble_eq_true rfl) (Nat.le_of_ble_eq_true rfl) ?_
  exact yy_vret () hx hb hr hlk hsz hAe hK hP hD hS [3, 1, 0, 4, 2] rfl rfl (by decide) (trivial) dX5_judge_140
set_option maxHeartbeats 4000000 in
set_option maxRecDepth 100000 in
theorem bS_X4_endData_38 (l : Launch) (dC : Nat → ClassId) (dI : Nat → Nat → Nat) (cyI cyZ cyO : ClassId) (sz : Nat) (a0 : Nat) (a1 : Nat) (v0 : Int32) (a2 : Nat)  : Met l yX4_endData wsX4_endData ({ frames := 0, cells := 0, slots := 0, locals := 0 }) (yPre [.ref a0, .ref a1, .int v0] (dC, dI) [(a0, .inr (4, [.ref a2, .int (-1), .int (-1), .int 0, .int 0, .int 0, .int 0]))] (yT cyI cyZ cyO) sz) (yQv (fun (u : Unit) => True) (dC, dI) [(a0, .inr (4, [.ref a2, .int (-1), .int (-1), .int 0, .int 0, .int 0, .int 0]))] (yT cyI cyZ cyO) sz (fun _ => [(a0, .inr (4, [.ref a2, .int (-1), .int (-1), .int 0, .int 0, .int 0, .int 0]))])) 0 0 (va_A [(a0, .inr (4, [.ref a2, .int (-1), .int (-1), .int 0, .int 0, .int 0, .int 0]))] sz) := by
  refine yMet (cc := cX4_endData) (maxL := 3) (ret := none) (by decide) rfl (Nat.le_of_ble_eq_true rfl) ?_
  intro p e s m below meth c A hx hb hr hlk hml hts hown hnm hsz hAe hP hK hD hA hS ls hl
  have hl : lv_has ls 3 [(0, .ref a0), (1, .ref a1), (2, .int v0)] := hl
  have hf27 := hts (.fieldLink RX4 27 "BusBridge$Master" "inData" "I") (by decide +kernel)
  have hnX4 : ∀ w ∈ wsX40, w ∈ wsX4_endData := by decide +kernel
  refine lv_aload_n hx hb dX4_endData_0 rfl (lv_at hl 0 rfl) ?_
  refine va_get (D := (dC, dI)) (ci := 4) (v := .int (-1)) (C := RX4) (T := TX4) (N := 7) hx hb hts hnX4 hown hK hP 0 rfl rfl 2 (by decide) hf27 (fun _ h9 => h9) rfl dX4_endData_1 ?_
  refine lv_if_lt (tgt := 75) hx hb dX4_endData_4 (by decide) (fun _ => ?_) (fun c => absurd (by decide) c)
  refine lv_aload_n hx hb dX4_endData_75 rfl (lv_at hl 0 rfl) ?_
  refine lv_iconst (v := (-1)) hx hb dX4_endData_76 (by decide) ?_
  refine va_put (D := (dC, dI)) (ci := 4) (v := .int (-1)) (ty := .int) (C := RX4) (T := TX4) (N := 7) hx hb hts hnX4 tyX4 tyX4_ok nmX4 hown hK hP hD hS 0 rfl rfl 2 (by decide) hf27 (fun _ h9 => h9) rfl (by decide +kernel) rfl rfl (Nat.le_of_ble_eq_true rfl) dX4_endData_77 (fun H locs hP hD hS => ?_)
  have hP : va_P (dC, dI) vwCl [(a0, .inr (4, [.ref a2, .int (-1), .int (-1), .int 0, .int 0, .int 0, .int 0]))] H := hP
  have hD : va_D A [(a0, .inr (4, [.ref a2, .int (-1), .int (-1), .int 0, .int 0, .int 0, .int 0]))] := hD
  refine W.widen (k := 0) (n := 0) (Nat.le_of_ble_eq_true rfl) (Nat.le_of_ble_eq_true rfl) ?_
  exact yy_vret () hx hb hr hlk hsz hAe hK hP hD hS [0] rfl rfl (by decide) (trivial) dX4_endData_80
set_option maxHeartbeats 4000000 in
set_option maxRecDepth 100000 in
theorem bS_X4_beginNext_39 (l : Launch) (dC : Nat → ClassId) (dI : Nat → Nat → Nat) (cyI cyZ cyO : ClassId) (sz : Nat) (a0 : Nat) (a1 : Nat) (v0 : Int32) (a2 : Nat) (a3 : Nat) (a4 : Nat) (a5 : Nat) (a6 : Nat) (a7 : Nat) (a8 : Nat) (a9 : Nat)  : Met l yX4_beginNext wsX4_beginNext ({ frames := 0, cells := 0, slots := 0, locals := 0 }) (yPre [.ref a0, .ref a1, .int v0] (dC, dI) [(a0, .inr (4, [.ref a2, .int (-1), .int (-1), .int 0, .int 0, .int 0, .int 0])), (a1, .inr (9, [.ref a3, .ref a4, .ref a5, .ref a6, .ref a7, .ref a8])), (a2, .inr (8, [.ref a9, .int 60, .int 9, .int 0])), (a3, .inl (cyI, 15, .inl yR))] (yT cyI cyZ cyO) sz) (yQv (fun (u : Unit) => True) (dC, dI) [(a0, .inr (4, [.ref a2, .int (-1), .int (-1), .int 0, .int 0, .int 0, .int 0])), (a1, .inr (9, [.ref a3, .ref a4, .ref a5, .ref a6, .ref a7, .ref a8])), (a2, .inr (8, [.ref a9, .int 60, .int 9, .int 0])), (a3, .inl (cyI, 15, .inl yR))] (yT cyI cyZ cyO) sz (fun _ => [(a0, .inr (4, [.ref a2, .int (-1), .int (-1), .int 0, .int 0, .int 0, .int 0])), (a1, .inr (9, [.ref a3, .ref a4, .ref a5, .ref a6, .ref a7, .ref a8])), (a2, .inr (8, [.ref a9, .int 60, .int 9, .int 0])), (a3, .inl (cyI, 15, .inl yR))])) 0 0 (va_A [(a0, .inr (4, [.ref a2, .int (-1), .int (-1), .int 0, .int 0, .int 0, .int 0])), (a1, .inr (9, [.ref a3, .ref a4, .ref a5, .ref a6, .ref a7, .ref a8])), (a2, .inr (8, [.ref a9, .int 60, .int 9, .int 0])), (a3, .inl (cyI, 15, .inl yR))] sz) := by
  refine yMet (cc := cX4_beginNext) (maxL := 3) (ret := none) (by decide) rfl (Nat.le_of_ble_eq_true rfl) ?_
  intro p e s m below meth c A hx hb hr hlk hml hts hown hnm hsz hAe hP hK hD hA hS ls hl
  have hl : lv_has ls 3 [(0, .ref a0), (1, .ref a1), (2, .int v0)] := hl
  have hf16 := hts (.fieldLink RX4 16 "BusBridge$Master" "rows" "LBusBridge$Table;") (by decide +kernel)
  have hf30 := hts (.fieldLink RX4 30 "BusBridge$Master" "next" "I") (by decide +kernel)
  have hf54 := hts (.fieldLink RX4 54 "BusBridge$Table" "count" "I") (by decide +kernel)
  have hf81 := hts (.fieldLink RX4 81 "BusBridge$Wires" "driven" "[I") (by decide +kernel)
  have hnX4 : ∀ w ∈ wsX40, w ∈ wsX4_beginNext := by decide +kernel
  have hnX8 : ∀ w ∈ wsX80, w ∈ wsX4_beginNext := by decide +kernel
  have hnX9 : ∀ w ∈ wsX90, w ∈ wsX4_beginNext := by decide +kernel
  refine lv_aload_n hx hb dX4_beginNext_0 rfl (lv_at hl 0 rfl) ?_
  refine va_get (D := (dC, dI)) (ci := 4) (v := .int 0) (C := RX4) (T := TX4) (N := 7) hx hb hts hnX4 hown hK hP 0 rfl rfl 3 (by decide) hf30 (fun _ h9 => h9) rfl dX4_beginNext_1 ?_
  refine lv_aload_n hx hb dX4_beginNext_4 rfl (lv_at hl 0 rfl) ?_
  refine va_get (D := (dC, dI)) (ci := 4) (v := .ref a2) (C := RX4) (T := TX4) (N := 7) hx hb hts hnX4 hown hK hP 0 rfl rfl 0 (by decide) hf16 (fun _ h9 => h9) rfl dX4_beginNext_5 ?_
  refine va_get (D := (dC, dI)) (ci := 8) (v := .int 0) (C := RX8) (T := TX8) (N := 4) hx hb hts hnX8 hown hK hP 2 rfl rfl 3 (by decide) hf54 (fun _ h9 => h9) rfl dX4_beginNext_8 ?_
  refine lv_icmp_lt (tgt := 24) hx hb dX4_beginNext_11 (by decide) (fun c => absurd c (by decide)) (fun _ => ?_)
  refine lv_aload_n hx hb dX4_beginNext_14 rfl (lv_at hl 1 rfl) ?_
  refine va_get (D := (dC, dI)) (ci := 9) (v := .ref a3) (C := RX9) (T := TX9) (N := 6) hx hb hts hnX9 hown hK hP 1 rfl rfl 0 (by decide) hf81 (fun _ h9 => h9) rfl dX4_beginNext_15 ?_
  refine lv_iconst (v := 2) hx hb dX4_beginNext_18 (by decide) ?_
  refine lv_iconst (v := 0) hx hb dX4_beginNext_19 (by decide) ?_
  refine yy_iast (f' := yR) hx hb hK hP hD hS 3 0 rfl rfl (yin (by decide)) dX4_beginNext_20 (yid rfl) (fun H locs hP hD hS => ?_)
  have hP : va_P (dC, dI) vwCl [(a0, .inr (4, [.ref a2, .int (-1), .int (-1), .int 0, .int 0, .int 0, .int 0])), (a1, .inr (9, [.ref a3, .ref a4, .ref a5, .ref a6, .ref a7, .ref a8])), (a2, .inr (8, [.ref a9, .int 60, .int 9, .int 0])), (a3, .inl (cyI, 15, .inl yR))] H := hP
  have hD : va_D A [(a0, .inr (4, [.ref a2, .int (-1), .int (-1), .int 0, .int 0, .int 0, .int 0])), (a1, .inr (9, [.ref a3, .ref a4, .ref a5, .ref a6, .ref a7, .ref a8])), (a2, .inr (8, [.ref a9, .int 60, .int 9, .int 0])), (a3, .inl (cyI, 15, .inl yR))] := hD
  refine lv_goto (tgt := 170) hx hb dX4_beginNext_21 (by decide) ?_
  refine W.widen (k := 0) (n := 0) (Nat.le_of_ble_eq_true rfl) (Nat.le_of_ble_eq_true rfl) ?_
  exact yy_vret () hx hb hr hlk hsz hAe hK hP hD hS [0, 1, 2, 3] rfl rfl (by decide) (trivial) dX4_beginNext_170
set_option maxHeartbeats 4000000 in
set_option maxRecDepth 100000 in
theorem bS_X4_pass_40 (l : Launch) (dC : Nat → ClassId) (dI : Nat → Nat → Nat) (cyI cyZ cyO : ClassId) (sz : Nat) (a0 : Nat) (a1 : Nat) (v0 : Int32) (a2 : Nat) (a3 : Nat) (a4 : Nat) (a5 : Nat) (a6 : Nat) (a7 : Nat) (a8 : Nat) (a9 : Nat)  : Met l yX4_pass wsX4_pass ({ frames := 1, cells := 0, slots := 0, locals := 22 }) (yPre [.ref a0, .ref a1, .int v0] (dC, dI) [(a0, .inr (4, [.ref a2, .int (-1), .int (-1), .int 0, .int 0, .int 0, .int 0])), (a1, .inr (9, [.ref a3, .ref a4, .ref a5, .ref a6, .ref a7, .ref a8])), (a2, .inr (8, [.ref a9, .int 60, .int 9, .int 0])), (a3, .inl (cyI, 15, .inl yR)), (a4, .inl (cyI, 15, .inl yR))] (yT cyI cyZ cyO) sz) (yQv (fun (u : Unit) => True) (dC, dI) [(a0, .inr (4, [.ref a2, .int (-1), .int (-1), .int 0, .int 0, .int 0, .int 0])), (a1, .inr (9, [.ref a3, .ref a4, .ref a5, .ref a6, .ref a7, .ref a8])), (a2, .inr (8, [.ref a9, .int 60, .int 9, .int 0])), (a3, .inl (cyI, 15, .inl yR)), (a4, .inl (cyI, 15, .inl yR))] (yT cyI cyZ cyO) sz (fun _ => [(a0, .inr (4, [.ref a2, .int (-1), .int (-1), .int 0, .int 0, .int 0, .int 0])), (a1, .inr (9, [.ref a3, .ref a4, .ref a5, .ref a6, .ref a7, .ref a8])), (a2, .inr (8, [.ref a9, .int 60, .int 9, .int 0])), (a3, .inl (cyI, 15, .inl yR)), (a4, .inl (cyI, 15, .inl yR))])) 0 0 (va_A [(a0, .inr (4, [.ref a2, .int (-1), .int (-1), .int 0, .int 0, .int 0, .int 0])), (a1, .inr (9, [.ref a3, .ref a4, .ref a5, .ref a6, .ref a7, .ref a8])), (a2, .inr (8, [.ref a9, .int 60, .int 9, .int 0])), (a3, .inl (cyI, 15, .inl yR)), (a4, .inl (cyI, 15, .inl yR))] sz) := by
  refine yMet (cc := cX4_pass) (maxL := 3) (ret := none) (by decide) rfl (Nat.le_of_ble_eq_true rfl) ?_
  intro p e s m below meth c A hx hb hr hlk hml hts hown hnm hsz hAe hP hK hD hA hS ls hl
  have hl : lv_has ls 3 [(0, .ref a0), (1, .ref a1), (2, .int v0)] := hl
  have hf57 := hts (.fieldLink RX4 57 "BusBridge$Wires" "seen" "[I") (by decide +kernel)
  have hnX9 : ∀ w ∈ wsX90, w ∈ wsX4_pass := by decide +kernel
  refine lv_aload_n hx hb dX4_pass_0 rfl (lv_at hl 1 rfl) ?_
  refine va_get (D := (dC, dI)) (ci := 9) (v := .ref a4) (C := RX9) (T := TX9) (N := 6) hx hb hts hnX9 hown hK hP 1 rfl rfl 1 (by decide) hf57 (fun _ h9 => h9) rfl dX4_pass_1 ?_
  refine lv_iconst (v := 4) hx hb dX4_pass_4 (by decide) ?_
  refine yy_iald (v := 1) hx hb hK hP 4 0 rfl rfl (yin (by decide)) dX4_pass_5 rfl ?_
  refine lv_if_eq (tgt := 29) hx hb dX4_pass_6 (by decide) (fun c => absurd c (by decide)) (fun _ => ?_)
  refine lv_aload_n hx hb dX4_pass_9 rfl (lv_at hl 0 rfl) ?_
  refine lv_aload_n hx hb dX4_pass_10 rfl (lv_at hl 1 rfl) ?_
  refine lv_iload_n hx hb dX4_pass_11 rfl (lv_at hl 2 rfl) ?_
  have hPc := hP.sub (ws' := [(a0, .inr (4, [.ref a2, .int (-1), .int (-1), .int 0, .int 0, .int 0, .int 0]))]) [0] rfl
  have hDc := hD.sub (ws' := [(a0, .inr (4, [.ref a2, .int (-1), .int (-1), .int 0, .int 0, .int 0, .int 0]))]) [0] (by decide) rfl
  refine yy_callv [0] [1, 2, 3, 4] (wr := [(a1, .inr (9, [.ref a3, .ref a4, .ref a5, .ref a6, .ref a7, .ref a8])), (a2, .inr (8, [.ref a9, .int 60, .int 9, .int 0])), (a3, .inl (cyI, 15, .inl yR)), (a4, .inl (cyI, 15, .inl yR))]) (va_runV (As := [.ref a1, .int v0]) (rest := []) ⟨hx, hb, hml, hown, hts⟩ (bS_X4_endData_38 l dC dI cyI cyZ cyO s.heap.size a0 a1 v0 a2 ) (cwV 2 hts gX4_pass_X4_endData rfl rfl rfl (by decide +kernel) ⟨Nat.le_of_ble_eq_true rfl, Nat.le_of_ble_eq_true rfl⟩) (yPreV hK hPc hDc (ci := 4) (q0 := 0) rfl rfl) rfl rfl hl.1 rfl (lv_room (Nat.le_of_ble_eq_true rfl)) dX4_pass_12 ⟨Nat.le_of_ble_eq_true rfl, Nat.le_of_ble_eq_true rfl⟩) hP hD hS hA rfl rfl (by decide) (by decide) (fun u_1 H locs hw hP hD hS => ?_)
  have hP : va_P (dC, dI) vwCl [(a1, .inr (9, [.ref a3, .ref a4, .ref a5, .ref a6, .ref a7, .ref a8])), (a2, .inr (8, [.ref a9, .int 60, .int 9, .int 0])), (a3, .inl (cyI, 15, .inl yR)), (a4, .inl (cyI, 15, .inl yR)), (a0, .inr (4, [.ref a2, .int (-1), .int (-1), .int 0, .int 0, .int 0, .int 0]))] H := hP
  have hD : va_D A [(a1, .inr (9, [.ref a3, .ref a4, .ref a5, .ref a6, .ref a7, .ref a8])), (a2, .inr (8, [.ref a9, .int 60, .int 9, .int 0])), (a3, .inl (cyI, 15, .inl yR)), (a4, .inl (cyI, 15, .inl yR)), (a0, .inr (4, [.ref a2, .int (-1), .int (-1), .int 0, .int 0, .int 0, .int 0]))] := hD
  refine W.widen (k := 0) (n := 0) (Nat.le_of_ble_eq_true rfl) (Nat.le_of_ble_eq_true rfl) ?_
  refine lv_aload_n hx hb dX4_pass_15 rfl (lv_at hl 0 rfl) ?_
  refine lv_aload_n hx hb dX4_pass_16 rfl (lv_at hl 1 rfl) ?_
  have hPc := hP.sub (ws' := [(a0, .inr (4, [.ref a2, .int (-1), .int (-1), .int 0, .int 0, .int 0, .int 0]))]) [4] rfl
  have hDc := hD.sub (ws' := [(a0, .inr (4, [.ref a2, .int (-1), .int (-1), .int 0, .int 0, .int 0, .int 0]))]) [4] (by decide) rfl
  refine yy_callv [4] [0, 1, 2, 3] (wr := [(a1, .inr (9, [.ref a3, .ref a4, .ref a5, .ref a6, .ref a7, .ref a8])), (a2, .inr (8, [.ref a9, .int 60, .int 9, .int 0])), (a3, .inl (cyI, 15, .inl yR)), (a4, .inl (cyI, 15, .inl yR))]) (va_runV (As := [.ref a1]) (rest := []) ⟨hx, hb, hml, hown, hts⟩ (b0_X4_moveToData_4 l dC dI cyI cyZ cyO H.size a0 a1 a2 ) (cwV 1 hts gX4_pass_X4_moveToData rfl rfl rfl (by decide +kernel) ⟨Nat.le_of_ble_eq_true rfl, Nat.le_of_ble_eq_true rfl⟩) (yPreV hK hPc hDc (ci := 4) (q0 := 0) rfl rfl) rfl rfl hl.1 rfl (lv_room (Nat.le_of_ble_eq_true rfl)) dX4_pass_17 ⟨Nat.le_of_ble_eq_true rfl, Nat.le_of_ble_eq_true rfl⟩) hP hD hS hA rfl rfl (by decide) (by decide) (fun u_2 H locs hw hP hD hS => ?_)
  have hP : va_P (dC, dI) vwCl [(a1, .inr (9, [.ref a3, .ref a4, .ref a5, .ref a6, .ref a7, .ref a8])), (a2, .inr (8, [.ref a9, .int 60, .int 9, .int 0])), (a3, .inl (cyI, 15, .inl yR)), (a4, .inl (cyI, 15, .inl yR)), (a0, .inr (4, [.ref a2, .int (-1), .int (-1), .int 0, .int 0, .int 0, .int 0]))] H := hP
  have hD : va_D A [(a1, .inr (9, [.ref a3, .ref a4, .ref a5, .ref a6, .ref a7, .ref a8])), (a2, .inr (8, [.ref a9, .int 60, .int 9, .int 0])), (a3, .inl (cyI, 15, .inl yR)), (a4, .inl (cyI, 15, .inl yR)), (a0, .inr (4, [.ref a2, .int (-1), .int (-1), .int 0, .int 0, .int 0, .int 0]))] := hD
  refine W.widen (k := 0) (n := 0) (Nat.le_of_ble_eq_true rfl) (Nat.le_of_ble_eq_true rfl) ?_
  refine lv_aload_n hx hb dX4_pass_20 rfl (lv_at hl 0 rfl) ?_
  refine lv_aload_n hx hb dX4_pass_21 rfl (lv_at hl 1 rfl) ?_
  refine lv_iload_n hx hb dX4_pass_22 rfl (lv_at hl 2 rfl) ?_
  have hPc := hP.sub (ws' := [(a0, .inr (4, [.ref a2, .int (-1), .int (-1), .int 0, .int 0, .int 0, .int 0])), (a1, .inr (9, [.ref a3, .ref a4, .ref a5, .ref a6, .ref a7, .ref a8])), (a2, .inr (8, [.ref a9, .int 60, .int 9, .int 0])), (a3, .inl (cyI, 15, .inl yR))]) [4, 0, 1, 2] rfl
  have hDc := hD.sub (ws' := [(a0, .inr (4, [.ref a2, .int (-1), .int (-1), .int 0, .int 0, .int 0, .int 0])), (a1, .inr (9, [.ref a3, .ref a4, .ref a5, .ref a6, .ref a7, .ref a8])), (a2, .inr (8, [.ref a9, .int 60, .int 9, .int 0])), (a3, .inl (cyI, 15, .inl yR))]) [4, 0, 1, 2] (by decide) rfl
  refine yy_callv [4, 0, 1, 2] [3] (wr := [(a4, .inl (cyI, 15, .inl yR))]) (va_runV (As := [.ref a1, .int v0]) (rest := []) ⟨hx, hb, hml, hown, hts⟩ (bS_X4_beginNext_39 l dC dI cyI cyZ cyO H.size a0 a1 v0 a2 a3 a4 a5 a6 a7 a8 a9 ) (cwV 2 hts gX4_pass_X4_beginNext rfl rfl rfl (by decide +kernel) ⟨Nat.le_of_ble_eq_true rfl, Nat.le_of_ble_eq_true rfl⟩) (yPreV hK hPc hDc (ci := 4) (q0 := 0) rfl rfl) rfl rfl hl.1 rfl (lv_room (Nat.le_of_ble_eq_true rfl)) dX4_pass_23 ⟨Nat.le_of_ble_eq_true rfl, Nat.le_of_ble_eq_true rfl⟩) hP hD hS hA rfl rfl (by decide) (by decide) (fun u_3 H locs hw hP hD hS => ?_)
  have hP : va_P (dC, dI) vwCl [(a4, .inl (cyI, 15, .inl yR)), (a0, .inr (4, [.ref a2, .int (-1), .int (-1), .int 0, .int 0, .int 0, .int 0])), (a1, .inr (9, [.ref a3, .ref a4, .ref a5, .ref a6, .ref a7, .ref a8])), (a2, .inr (8, [.ref a9, .int 60, .int 9, .int 0])), (a3, .inl (cyI, 15, .inl yR))] H := hP
  have hD : va_D A [(a4, .inl (cyI, 15, .inl yR)), (a0, .inr (4, [.ref a2, .int (-1), .int (-1), .int 0, .int 0, .int 0, .int 0])), (a1, .inr (9, [.ref a3, .ref a4, .ref a5, .ref a6, .ref a7, .ref a8])), (a2, .inr (8, [.ref a9, .int 60, .int 9, .int 0])), (a3, .inl (cyI, 15, .inl yR))] := hD
  refine W.widen (k := 0) (n := 0) (Nat.le_of_ble_eq_true rfl) (Nat.le_of_ble_eq_true rfl) ?_
  refine lv_goto (tgt := 50) hx hb dX4_pass_26 (by decide) ?_
  refine W.widen (k := 0) (n := 0) (Nat.le_of_ble_eq_true rfl) (Nat.le_of_ble_eq_true rfl) ?_
  exact yy_vret () hx hb hr hlk hsz hAe hK hP hD hS [1, 2, 3, 4, 0] rfl rfl (by decide) (trivial) dX4_pass_50
set_option maxHeartbeats 4000000 in
set_option maxRecDepth 100000 in
theorem bS_X2_pass_41 (l : Launch) (dC : Nat → ClassId) (dI : Nat → Nat → Nat) (cyI cyZ cyO : ClassId) (sz : Nat) (a0 : Nat) (a1 : Nat) (a2 : Nat) (v0 : Int32) (a3 : Nat)  : Met l yX2_pass wsX2_pass ({ frames := 0, cells := 0, slots := 0, locals := 0 }) (yPre [.ref a0, .ref a1, .ref a2, .int v0] (dC, dI) [(a0, .inr (2, [.ref a3, .int 0, .int 0, .int 0, .int 0, .int 0, .int 0, .int 0, .int 0, .int 0, .int 0, .int 0, .int (-1), .int 0]))] (yT cyI cyZ cyO) sz) (yQv (fun (u : Unit) => True) (dC, dI) [(a0, .inr (2, [.ref a3, .int 0, .int 0, .int 0, .int 0, .int 0, .int 0, .int 0, .int 0, .int 0, .int 0, .int 0, .int (-1), .int 0]))] (yT cyI cyZ cyO) sz (fun _ => [(a0, .inr (2, [.ref a3, .int 0, .int 0, .int 0, .int 0, .int 0, .int 0, .int 0, .int 0, .int 0, .int 0, .int 0, .int (-1), .int 0]))])) 0 0 (va_A [(a0, .inr (2, [.ref a3, .int 0, .int 0, .int 0, .int 0, .int 0, .int 0, .int 0, .int 0, .int 0, .int 0, .int 0, .int (-1), .int 0]))] sz) := by
  refine yMet (cc := cX2_pass) (maxL := 4) (ret := none) (by decide) rfl (Nat.le_of_ble_eq_true rfl) ?_
  intro p e s m below meth c A hx hb hr hlk hml hts hown hnm hsz hAe hP hK hD hA hS ls hl
  have hl : lv_has ls 4 [(0, .ref a0), (1, .ref a1), (2, .ref a2), (3, .int v0)] := hl
  have hf23 := hts (.fieldLink RX2 23 "BusBridge$Lower" "phase" "I") (by decide +kernel)
  have hf27 := hts (.fieldLink RX2 27 "BusBridge$Lower" "ended" "I") (by decide +kernel)
  have hnX2 : ∀ w ∈ wsX20, w ∈ wsX2_pass := by decide +kernel
  refine lv_aload_n hx hb dX2_pass_0 rfl (lv_at hl 0 rfl) ?_
  refine lv_iconst (v := 0) hx hb dX2_pass_1 (by decide) ?_
  refine va_put (D := (dC, dI)) (ci := 2) (v := .int 0) (ty := .int) (C := RX2) (T := TX2) (N := 14) hx hb hts hnX2 tyX2 tyX2_ok nmX2 hown hK hP hD hS 0 rfl rfl 2 (by decide) hf27 (fun _ h9 => h9) rfl (by decide +kernel) rfl rfl (Nat.le_of_ble_eq_true rfl) dX2_pass_2 (fun H locs hP hD hS => ?_)
  have hP : va_P (dC, dI) vwCl [(a0, .inr (2, [.ref a3, .int 0, .int 0, .int 0, .int 0, .int 0, .int 0, .int 0, .int 0, .int 0, .int 0, .int 0, .int (-1), .int 0]))] H := hP
  have hD : va_D A [(a0, .inr (2, [.ref a3, .int 0, .int 0, .int 0, .int 0, .int 0, .int 0, .int 0, .int 0, .int 0, .int 0, .int 0, .int (-1), .int 0]))] := hD
  refine lv_aload_n hx hb dX2_pass_5 rfl (lv_at hl 0 rfl) ?_
  refine va_get (D := (dC, dI)) (ci := 2) (v := .int 0) (C := RX2) (T := TX2) (N := 14) hx hb hts hnX2 hown hK hP 0 rfl rfl 1 (by decide) hf23 (fun _ h9 => h9) rfl dX2_pass_6 ?_
  refine lv_iconst (v := 1) hx hb dX2_pass_9 (by decide) ?_
  refine lv_icmp_ne (tgt := 34) hx hb dX2_pass_10 (by decide) (fun _ => ?_) (fun c => absurd c (by decide))
  refine lv_aload_n hx hb dX2_pass_34 rfl (lv_at hl 0 rfl) ?_
  refine va_get (D := (dC, dI)) (ci := 2) (v := .int 0) (C := RX2) (T := TX2) (N := 14) hx hb hts hnX2 hown hK hP 0 rfl rfl 1 (by decide) hf23 (fun _ h9 => h9) rfl dX2_pass_35 ?_
  refine lv_iconst (v := 2) hx hb dX2_pass_38 (by decide) ?_
  refine lv_icmp_ne (tgt := 114) hx hb dX2_pass_39 (by decide) (fun _ => ?_) (fun c => absurd c (by decide))
  refine W.widen (k := 0) (n := 0) (Nat.le_of_ble_eq_true rfl) (Nat.le_of_ble_eq_true rfl) ?_
  exact yy_vret () hx hb hr hlk hsz hAe hK hP hD hS [0] rfl rfl (by decide) (trivial) dX2_pass_114
set_option maxHeartbeats 4000000 in
set_option maxRecDepth 100000 in
theorem bS_X0_beginAct_42 (l : Launch) (dC : Nat → ClassId) (dI : Nat → Nat → Nat) (cyI cyZ cyO : ClassId) (sz : Nat) (a0 : Nat) (a1 : Nat) (a2 : Nat) (v0 : Int32) (a3 : Nat) (a4 : Nat) (a5 : Nat)  : Met l yX0_beginAct wsX0_beginAct ({ frames := 0, cells := 0, slots := 0, locals := 0 }) (yPre [.ref a0, .ref a1, .ref a2, .int v0] (dC, dI) [(a0, .inr (0, [.ref a3, .ref a4, .ref a5, .int 0, .int 0, .int 0, .int 0, .int 0, .int 0]))] (yT cyI cyZ cyO) sz) (yQv (fun (u : Unit) => True) (dC, dI) [(a0, .inr (0, [.ref a3, .ref a4, .ref a5, .int 0, .int 0, .int 0, .int 0, .int 0, .int 0]))] (yT cyI cyZ cyO) sz (fun _ => [(a0, .inr (0, [.ref a3, .ref a4, .ref a5, .int 0, .int 0, .int 0, .int 0, .int 0, .int 0]))])) 0 0 (va_A [(a0, .inr (0, [.ref a3, .ref a4, .ref a5, .int 0, .int 0, .int 0, .int 0, .int 0, .int 0]))] sz) := by
  refine yMet (cc := cX0_beginAct) (maxL := 4) (ret := none) (by decide) rfl (Nat.le_of_ble_eq_true rfl) ?_
  intro p e s m below meth c A hx hb hr hlk hml hts hown hnm hsz hAe hP hK hD hA hS ls hl
  have hl : lv_has ls 4 [(0, .ref a0), (1, .ref a1), (2, .ref a2), (3, .int v0)] := hl
  have hf28 := hts (.fieldLink RX0 28 "BusBridge$Bridge" "posted" "I") (by decide +kernel)
  have hf32 := hts (.fieldLink RX0 32 "BusBridge$Bridge" "state" "I") (by decide +kernel)
  have hnX0 : ∀ w ∈ wsX00, w ∈ wsX0_beginAct := by decide +kernel
  refine lv_aload_n hx hb dX0_beginAct_0 rfl (lv_at hl 0 rfl) ?_
  refine va_get (D := (dC, dI)) (ci := 0) (v := .int 0) (C := RX0) (T := TX0) (N := 9) hx hb hts hnX0 hown hK hP 0 rfl rfl 3 (by decide) hf28 (fun _ h9 => h9) rfl dX0_beginAct_1 ?_
  refine lv_if_le (tgt := 54) hx hb dX0_beginAct_4 (by decide) (fun _ => ?_) (fun c => absurd (by decide) c)
  refine lv_aload_n hx hb dX0_beginAct_54 rfl (lv_at hl 0 rfl) ?_
  refine va_get (D := (dC, dI)) (ci := 0) (v := .int 0) (C := RX0) (T := TX0) (N := 9) hx hb hts hnX0 hown hK hP 0 rfl rfl 4 (by decide) hf32 (fun _ h9 => h9) rfl dX0_beginAct_55 ?_
  refine lv_iconst (v := 3) hx hb dX0_beginAct_58 (by decide) ?_
  refine lv_icmp_ne (tgt := 111) hx hb dX0_beginAct_59 (by decide) (fun _ => ?_) (fun c => absurd c (by decide))
  refine W.widen (k := 0) (n := 0) (Nat.le_of_ble_eq_true rfl) (Nat.le_of_ble_eq_true rfl) ?_
  exact yy_vret () hx hb hr hlk hsz hAe hK hP hD hS [0] rfl rfl (by decide) (trivial) dX0_beginAct_111
set_option maxHeartbeats 4000000 in
set_option maxRecDepth 100000 in
theorem bS_X0_pass_43 (l : Launch) (dC : Nat → ClassId) (dI : Nat → Nat → Nat) (cyI cyZ cyO : ClassId) (sz : Nat) (a0 : Nat) (a1 : Nat) (a2 : Nat) (v0 : Int32) (a3 : Nat) (a4 : Nat) (a5 : Nat) (a14 : Nat) (a15 : Nat) (a16 : Nat) (a17 : Nat) (a18 : Nat) (a19 : Nat) (a20 : Nat)  : Met l yX0_pass wsX0_pass ({ frames := 3, cells := 0, slots := 0, locals := 64 }) (yPre [.ref a0, .ref a1, .ref a2, .int v0] (dC, dI) [(a0, .inr (0, [.ref a3, .ref a4, .ref a5, .int 0, .int 0, .int 0, .int 0, .int 0, .int 0])), (a2, .inr (9, [.ref a14, .ref a15, .ref a16, .ref a17, .ref a18, .ref a19])), (a3, .inr (2, [.ref a20, .int 0, .int 0, .int 0, .int 0, .int 0, .int 0, .int 0, .int 0, .int 0, .int 0, .int 0, .int (-1), .int 0])), (a14, .inl (cyI, 15, .inl yR)), (a15, .inl (cyI, 15, .inl yR))] (yT cyI cyZ cyO) sz) (yQv (fun (u : Unit) => True) (dC, dI) [(a0, .inr (0, [.ref a3, .ref a4, .ref a5, .int 0, .int 0, .int 0, .int 0, .int 0, .int 0])), (a2, .inr (9, [.ref a14, .ref a15, .ref a16, .ref a17, .ref a18, .ref a19])), (a3, .inr (2, [.ref a20, .int 0, .int 0, .int 0, .int 0, .int 0, .int 0, .int 0, .int 0, .int 0, .int 0, .int 0, .int (-1), .int 0])), (a14, .inl (cyI, 15, .inl yR)), (a15, .inl (cyI, 15, .inl yR))] (yT cyI cyZ cyO) sz (fun _ => [(a0, .inr (0, [.ref a3, .ref a4, .ref a5, .int 0, .int 0, .int 0, .int 0, .int 0, .int 0])), (a2, .inr (9, [.ref a14, .ref a15, .ref a16, .ref a17, .ref a18, .ref a19])), (a3, .inr (2, [.ref a20, .int 0, .int 0, .int 0, .int 0, .int 0, .int 0, .int 0, .int 0, .int 0, .int 0, .int 0, .int (-1), .int 0])), (a14, .inl (cyI, 15, .inl yR)), (a15, .inl (cyI, 15, .inl yR))])) 0 0 (va_A [(a0, .inr (0, [.ref a3, .ref a4, .ref a5, .int 0, .int 0, .int 0, .int 0, .int 0, .int 0])), (a2, .inr (9, [.ref a14, .ref a15, .ref a16, .ref a17, .ref a18, .ref a19])), (a3, .inr (2, [.ref a20, .int 0, .int 0, .int 0, .int 0, .int 0, .int 0, .int 0, .int 0, .int 0, .int 0, .int 0, .int (-1), .int 0])), (a14, .inl (cyI, 15, .inl yR)), (a15, .inl (cyI, 15, .inl yR))] sz) := by
  refine yMet (cc := cX0_pass) (maxL := 5) (ret := none) (by decide) rfl (Nat.le_of_ble_eq_true rfl) ?_
  intro p e s m below meth c A hx hb hr hlk hml hts hown hnm hsz hAe hP hK hD hA hS ls hl
  have hl : lv_has ls 5 [(0, .ref a0), (1, .ref a1), (2, .ref a2), (3, .int v0)] := hl
  have hf10 := hts (.fieldLink RX0 10 "BusBridge$Bridge" "lower" "LBusBridge$Lower;") (by decide +kernel)
  have hf32 := hts (.fieldLink RX0 32 "BusBridge$Bridge" "state" "I") (by decide +kernel)
  have hf58 := hts (.fieldLink RX0 58 "BusBridge$Lower" "phase" "I") (by decide +kernel)
  have hf72 := hts (.fieldLink RX0 72 "BusBridge$Wires" "driven" "[I") (by decide +kernel)
  have hnX0 : ∀ w ∈ wsX00, w ∈ wsX0_pass := by decide +kernel
  have hnX2 : ∀ w ∈ wsX20, w ∈ wsX0_pass := by decide +kernel
  have hnX9 : ∀ w ∈ wsX90, w ∈ wsX0_pass := by decide +kernel
  refine lv_aload_n hx hb dX0_pass_0 rfl (lv_at hl 0 rfl) ?_
  refine va_get (D := (dC, dI)) (ci := 0) (v := .ref a3) (C := RX0) (T := TX0) (N := 9) hx hb hts hnX0 hown hK hP 0 rfl rfl 0 (by decide) hf10 (fun _ h9 => h9) rfl dX0_pass_1 ?_
  refine lv_aload_n hx hb dX0_pass_4 rfl (lv_at hl 1 rfl) ?_
  refine lv_aload_n hx hb dX0_pass_5 rfl (lv_at hl 2 rfl) ?_
  refine lv_iload_n hx hb dX0_pass_6 rfl (lv_at hl 3 rfl) ?_
  have hPc := hP.sub (ws' := [(a3, .inr (2, [.ref a20, .int 0, .int 0, .int 0, .int 0, .int 0, .int 0, .int 0, .int 0, .int 0, .int 0, .int 0, .int (-1), .int 0]))]) [2] rfl
  have hDc := hD.sub (ws' := [(a3, .inr (2, [.ref a20, .int 0, .int 0, .int 0, .int 0, .int 0, .int 0, .int 0, .int 0, .int 0, .int 0, .int 0, .int (-1), .int 0]))]) [2] (by decide) rfl
  refine yy_callv [2] [0, 1, 3, 4] (wr := [(a0, .inr (0, [.ref a3, .ref a4, .ref a5, .int 0, .int 0, .int 0, .int 0, .int 0, .int 0])), (a2, .inr (9, [.ref a14, .ref a15, .ref a16, .ref a17, .ref a18, .ref a19])), (a14, .inl (cyI, 15, .inl yR)), (a15, .inl (cyI, 15, .inl yR))]) (va_runV (As := [.ref a1, .ref a2, .int v0]) (rest := []) ⟨hx, hb, hml, hown, hts⟩ (bS_X2_pass_41 l dC dI cyI cyZ cyO s.heap.size a3 a1 a2 v0 a20 ) (cwV 3 hts gX0_pass_X2_pass rfl rfl rfl (by decide +kernel) ⟨Nat.le_of_ble_eq_true rfl, Nat.le_of_ble_eq_true rfl⟩) (yPreV hK hPc hDc (ci := 2) (q0 := 0) rfl rfl) rfl rfl hl.1 rfl (lv_room (Nat.le_of_ble_eq_true rfl)) dX0_pass_7 ⟨Nat.le_of_ble_eq_true rfl, Nat.le_of_ble_eq_true rfl⟩) hP hD hS hA rfl rfl (by decide) (by decide) (fun u_1 H locs hw hP hD hS => ?_)
  have hP : va_P (dC, dI) vwCl [(a0, .inr (0, [.ref a3, .ref a4, .ref a5, .int 0, .int 0, .int 0, .int 0, .int 0, .int 0])), (a2, .inr (9, [.ref a14, .ref a15, .ref a16, .ref a17, .ref a18, .ref a19])), (a14, .inl (cyI, 15, .inl yR)), (a15, .inl (cyI, 15, .inl yR)), (a3, .inr (2, [.ref a20, .int 0, .int 0, .int 0, .int 0, .int 0, .int 0, .int 0, .int 0, .int 0, .int 0, .int 0, .int (-1), .int 0]))] H := hP
  have hD : va_D A [(a0, .inr (0, [.ref a3, .ref a4, .ref a5, .int 0, .int 0, .int 0, .int 0, .int 0, .int 0])), (a2, .inr (9, [.ref a14, .ref a15, .ref a16, .ref a17, .ref a18, .ref a19])), (a14, .inl (cyI, 15, .inl yR)), (a15, .inl (cyI, 15, .inl yR)), (a3, .inr (2, [.ref a20, .int 0, .int 0, .int 0, .int 0, .int 0, .int 0, .int 0, .int 0, .int 0, .int 0, .int 0, .int (-1), .int 0]))] := hD
  refine W.widen (k := 0) (n := 0) (Nat.le_of_ble_eq_true rfl) (Nat.le_of_ble_eq_true rfl) ?_
  refine lv_aload_n hx hb dX0_pass_10 rfl (lv_at hl 0 rfl) ?_
  refine lv_aload_n hx hb dX0_pass_11 rfl (lv_at hl 1 rfl) ?_
  refine lv_aload_n hx hb dX0_pass_12 rfl (lv_at hl 2 rfl) ?_
  have hPc := hP.sub (ws' := [(a0, .inr (0, [.ref a3, .ref a4, .ref a5, .int 0, .int 0, .int 0, .int 0, .int 0, .int 0])), (a2, .inr (9, [.ref a14, .ref a15, .ref a16, .ref a17, .ref a18, .ref a19])), (a15, .inl (cyI, 15, .inl yR))]) [0, 1, 3] rfl
  have hDc := hD.sub (ws' := [(a0, .inr (0, [.ref a3, .ref a4, .ref a5, .int 0, .int 0, .int 0, .int 0, .int 0, .int 0])), (a2, .inr (9, [.ref a14, .ref a15, .ref a16, .ref a17, .ref a18, .ref a19])), (a15, .inl (cyI, 15, .inl yR))]) [0, 1, 3] (by decide) rfl
  refine yy_callv [0, 1, 3] [2, 4] (wr := [(a14, .inl (cyI, 15, .inl yR)), (a3, .inr (2, [.ref a20, .int 0, .int 0, .int 0, .int 0, .int 0, .int 0, .int 0, .int 0, .int 0, .int 0, .int 0, .int (-1), .int 0]))]) (va_runV (As := [.ref a1, .ref a2]) (rest := []) ⟨hx, hb, hml, hown, hts⟩ (b0_X0_moveOn_9 l dC dI cyI cyZ cyO H.size a0 a1 a2 a3 a4 a5 a14 a15 a16 a17 a18 a19 ) (cwV 2 hts gX0_pass_X0_moveOn rfl rfl rfl (by decide +kernel) ⟨Nat.le_of_ble_eq_true rfl, Nat.le_of_ble_eq_true rfl⟩) (yPreV hK hPc hDc (ci := 0) (q0 := 0) rfl rfl) rfl rfl hl.1 rfl (lv_room (Nat.le_of_ble_eq_true rfl)) dX0_pass_13 ⟨Nat.le_of_ble_eq_true rfl, Nat.le_of_ble_eq_true rfl⟩) hP hD hS hA rfl rfl (by decide) (by decide) (fun u_2 H locs hw hP hD hS => ?_)
  have hP : va_P (dC, dI) vwCl [(a14, .inl (cyI, 15, .inl yR)), (a3, .inr (2, [.ref a20, .int 0, .int 0, .int 0, .int 0, .int 0, .int 0, .int 0, .int 0, .int 0, .int 0, .int 0, .int (-1), .int 0])), (a0, .inr (0, [.ref a3, .ref a4, .ref a5, .int 0, .int 0, .int 0, .int 0, .int 0, .int 0])), (a2, .inr (9, [.ref a14, .ref a15, .ref a16, .ref a17, .ref a18, .ref a19])), (a15, .inl (cyI, 15, .inl yR))] H := hP
  have hD : va_D A [(a14, .inl (cyI, 15, .inl yR)), (a3, .inr (2, [.ref a20, .int 0, .int 0, .int 0, .int 0, .int 0, .int 0, .int 0, .int 0, .int 0, .int 0, .int 0, .int (-1), .int 0])), (a0, .inr (0, [.ref a3, .ref a4, .ref a5, .int 0, .int 0, .int 0, .int 0, .int 0, .int 0])), (a2, .inr (9, [.ref a14, .ref a15, .ref a16, .ref a17, .ref a18, .ref a19])), (a15, .inl (cyI, 15, .inl yR))] := hD
  refine W.widen (k := 0) (n := 0) (Nat.le_of_ble_eq_true rfl) (Nat.le_of_ble_eq_true rfl) ?_
  refine lv_aload_n hx hb dX0_pass_16 rfl (lv_at hl 0 rfl) ?_
  refine va_get (D := (dC, dI)) (ci := 0) (v := .ref a3) (C := RX0) (T := TX0) (N := 9) hx hb hts hnX0 hown hK hP 2 rfl rfl 0 (by decide) hf10 (fun _ h9 => h9) rfl dX0_pass_17 ?_
  refine va_get (D := (dC, dI)) (ci := 2) (v := .int 0) (C := RX2) (T := TX2) (N := 14) hx hb hts hnX2 hown hK hP 1 rfl rfl 1 (by decide) hf58 (fun _ h9 => h9) rfl dX0_pass_20 ?_
  refine lv_if_ne (tgt := 33) hx hb dX0_pass_23 (by decide) (fun c => absurd (by decide) c) (fun _ => ?_)
  refine lv_aload_n hx hb dX0_pass_26 rfl (lv_at hl 0 rfl) ?_
  refine lv_aload_n hx hb dX0_pass_27 rfl (lv_at hl 1 rfl) ?_
  refine lv_aload_n hx hb dX0_pass_28 rfl (lv_at hl 2 rfl) ?_
  refine lv_iload_n hx hb dX0_pass_29 rfl (lv_at hl 3 rfl) ?_
  have hPc := hP.sub (ws' := [(a0, .inr (0, [.ref a3, .ref a4, .ref a5, .int 0, .int 0, .int 0, .int 0, .int 0, .int 0]))]) [2] rfl
  have hDc := hD.sub (ws' := [(a0, .inr (0, [.ref a3, .ref a4, .ref a5, .int 0, .int 0, .int 0, .int 0, .int 0, .int 0]))]) [2] (by decide) rfl
  refine yy_callv [2] [0, 1, 3, 4] (wr := [(a14, .inl (cyI, 15, .inl yR)), (a3, .inr (2, [.ref a20, .int 0, .int 0, .int 0, .int 0, .int 0, .int 0, .int 0, .int 0, .int 0, .int 0, .int 0, .int (-1), .int 0])), (a2, .inr (9, [.ref a14, .ref a15, .ref a16, .ref a17, .ref a18, .ref a19])), (a15, .inl (cyI, 15, .inl yR))]) (va_runV (As := [.ref a1, .ref a2, .int v0]) (rest := []) ⟨hx, hb, hml, hown, hts⟩ (bS_X0_beginAct_42 l dC dI cyI cyZ cyO H.size a0 a1 a2 v0 a3 a4 a5 ) (cwV 3 hts gX0_pass_X0_beginAct rfl rfl rfl (by decide +kernel) ⟨Nat.le_of_ble_eq_true rfl, Nat.le_of_ble_eq_true rfl⟩) (yPreV hK hPc hDc (ci := 0) (q0 := 0) rfl rfl) rfl rfl hl.1 rfl (lv_room (Nat.le_of_ble_eq_true rfl)) dX0_pass_30 ⟨Nat.le_of_ble_eq_true rfl, Nat.le_of_ble_eq_true rfl⟩) hP hD hS hA rfl rfl (by decide) (by decide) (fun u_3 H locs hw hP hD hS => ?_)
  have hP : va_P (dC, dI) vwCl [(a14, .inl (cyI, 15, .inl yR)), (a3, .inr (2, [.ref a20, .int 0, .int 0, .int 0, .int 0, .int 0, .int 0, .int 0, .int 0, .int 0, .int 0, .int 0, .int (-1), .int 0])), (a2, .inr (9, [.ref a14, .ref a15, .ref a16, .ref a17, .ref a18, .ref a19])), (a15, .inl (cyI, 15, .inl yR)), (a0, .inr (0, [.ref a3, .ref a4, .ref a5, .int 0, .int 0, .int 0, .int 0, .int 0, .int 0]))] H := hP
  have hD : va_D A [(a14, .inl (cyI, 15, .inl yR)), (a3, .inr (2, [.ref a20, .int 0, .int 0, .int 0, .int 0, .int 0, .int 0, .int 0, .int 0, .int 0, .int 0, .int 0, .int (-1), .int 0])), (a2, .inr (9, [.ref a14, .ref a15, .ref a16, .ref a17, .ref a18, .ref a19])), (a15, .inl (cyI, 15, .inl yR)), (a0, .inr (0, [.ref a3, .ref a4, .ref a5, .int 0, .int 0, .int 0, .int 0, .int 0, .int 0]))] := hD
  refine W.widen (k := 0) (n := 0) (Nat.le_of_ble_eq_true rfl) (Nat.le_of_ble_eq_true rfl) ?_
  refine lv_aload_n hx hb dX0_pass_33 rfl (lv_at hl 0 rfl) ?_
  refine va_get (D := (dC, dI)) (ci := 0) (v := .int 0) (C := RX0) (T := TX0) (N := 9) hx hb hts hnX0 hown hK hP 4 rfl rfl 4 (by decide) hf32 (fun _ h9 => h9) rfl dX0_pass_34 ?_
  refine lv_iconst (v := 2) hx hb dX0_pass_37 (by decide) ?_
  refine lv_icmp_eq (tgt := 57) hx hb dX0_pass_38 (by decide) (fun c => absurd c (by decide)) (fun _ => ?_)
  refine lv_aload_n hx hb dX0_pass_41 rfl (lv_at hl 0 rfl) ?_
  refine va_get (D := (dC, dI)) (ci := 0) (v := .int 0) (C := RX0) (T := TX0) (N := 9) hx hb hts hnX0 hown hK hP 4 rfl rfl 4 (by decide) hf32 (fun _ h9 => h9) rfl dX0_pass_42 ?_
  refine lv_iconst (v := 3) hx hb dX0_pass_45 (by decide) ?_
  refine lv_icmp_eq (tgt := 57) hx hb dX0_pass_46 (by decide) (fun c => absurd c (by decide)) (fun _ => ?_)
  refine lv_aload_n hx hb dX0_pass_49 rfl (lv_at hl 0 rfl) ?_
  refine va_get (D := (dC, dI)) (ci := 0) (v := .int 0) (C := RX0) (T := TX0) (N := 9) hx hb hts hnX0 hown hK hP 4 rfl rfl 4 (by decide) hf32 (fun _ h9 => h9) rfl dX0_pass_50 ?_
  refine lv_iconst (v := 4) hx hb dX0_pass_53 (by decide) ?_
  refine lv_icmp_ne (tgt := 61) hx hb dX0_pass_54 (by decide) (fun _ => ?_) (fun c => absurd c (by decide))
  refine lv_iconst (v := 0) hx hb dX0_pass_61 (by decide) ?_
  refine lv_istore (lv' := [(4, .int 0), (0, .ref a0), (1, .ref a1), (2, .ref a2), (3, .int v0)]) hx hb dX0_pass_62 hl (by decide) rfl (fun ls hl => ?_)
  refine lv_aload_n hx hb dX0_pass_64 rfl (lv_at hl 3 rfl) ?_
  refine va_get (D := (dC, dI)) (ci := 9) (v := .ref a14) (C := RX9) (T := TX9) (N := 6) hx hb hts hnX9 hown hK hP 2 rfl rfl 0 (by decide) hf72 (fun _ h9 => h9) rfl dX0_pass_65 ?_
  refine lv_iconst (v := 4) hx hb dX0_pass_68 (by decide) ?_
  refine lv_iload hx hb dX0_pass_69 (lv_at hl 0 rfl) ?_
  refine lv_if_eq (tgt := 78) hx hb dX0_pass_71 (by decide) (fun _ => ?_) (fun c => absurd (by decide) c)
  refine lv_iconst (v := 1) hx hb dX0_pass_78 (by decide) ?_
  refine yy_iast (f' := yR) hx hb hK hP hD hS 0 0 rfl rfl (yin (by decide)) dX0_pass_79 (yid rfl) (fun H locs hP hD hS => ?_)
  have hP : va_P (dC, dI) vwCl [(a14, .inl (cyI, 15, .inl yR)), (a3, .inr (2, [.ref a20, .int 0, .int 0, .int 0, .int 0, .int 0, .int 0, .int 0, .int 0, .int 0, .int 0, .int 0, .int (-1), .int 0])), (a2, .inr (9, [.ref a14, .ref a15, .ref a16, .ref a17, .ref a18, .ref a19])), (a15, .inl (cyI, 15, .inl yR)), (a0, .inr (0, [.ref a3, .ref a4, .ref a5, .int 0, .int 0, .int 0, .int 0, .int 0, .int 0]))] H := hP
  have hD : va_D A [(a14, .inl (cyI, 15, .inl yR)), (a3, .inr (2, [.ref a20, .int 0, .int 0, .int 0, .int 0, .int 0, .int 0, .int 0, .int 0, .int 0, .int 0, .int 0, .int (-1), .int 0])), (a2, .inr (9, [.ref a14, .ref a15, .ref a16, .ref a17, .ref a18, .ref a19])), (a15, .inl (cyI, 15, .inl yR)), (a0, .inr (0, [.ref a3, .ref a4, .ref a5, .int 0, .int 0, .int 0, .int 0, .int 0, .int 0]))] := hD
  refine lv_aload_n hx hb dX0_pass_80 rfl (lv_at hl 3 rfl) ?_
  refine va_get (D := (dC, dI)) (ci := 9) (v := .ref a14) (C := RX9) (T := TX9) (N := 6) hx hb hts hnX9 hown hK hP 2 rfl rfl 0 (by decide) hf72 (fun _ h9 => h9) rfl dX0_pass_81 ?_
  refine lv_iconst (v := 5) hx hb dX0_pass_84 (by decide) ?_
  refine lv_aload_n hx hb dX0_pass_85 rfl (lv_at hl 1 rfl) ?_
  refine va_get (D := (dC, dI)) (ci := 0) (v := .int 0) (C := RX0) (T := TX0) (N := 9) hx hb hts hnX0 hown hK hP 4 rfl rfl 4 (by decide) hf32 (fun _ h9 => h9) rfl dX0_pass_86 ?_
  refine lv_iconst (v := 4) hx hb dX0_pass_89 (by decide) ?_
  refine lv_icmp_eq (tgt := 101) hx hb dX0_pass_90 (by decide) (fun c => absurd c (by decide)) (fun _ => ?_)
  refine lv_aload_n hx hb dX0_pass_93 rfl (lv_at hl 1 rfl) ?_
  refine va_get (D := (dC, dI)) (ci := 0) (v := .int 0) (C := RX0) (T := TX0) (N := 9) hx hb hts hnX0 hown hK hP 4 rfl rfl 4 (by decide) hf32 (fun _ h9 => h9) rfl dX0_pass_94 ?_
  refine lv_iconst (v := 5) hx hb dX0_pass_97 (by decide) ?_
  refine lv_icmp_ne (tgt := 105) hx hb dX0_pass_98 (by decide) (fun _ => ?_) (fun c => absurd c (by decide))
  refine lv_iconst (v := 0) hx hb dX0_pass_105 (by decide) ?_
  refine yy_iast (f' := yR) hx hb hK hP hD hS 0 0 rfl rfl (yin (by decide)) dX0_pass_106 (yid rfl) (fun H locs hP hD hS => ?_)
  have hP : va_P (dC, dI) vwCl [(a14, .inl (cyI, 15, .inl yR)), (a3, .inr (2, [.ref a20, .int 0, .int 0, .int 0, .int 0, .int 0, .int 0, .int 0, .int 0, .int 0, .int 0, .int 0, .int (-1), .int 0])), (a2, .inr (9, [.ref a14, .ref a15, .ref a16, .ref a17, .ref a18, .ref a19])), (a15, .inl (cyI, 15, .inl yR)), (a0, .inr (0, [.ref a3, .ref a4, .ref a5, .int 0, .int 0, .int 0, .int 0, .int 0, .int 0]))] H := hP
  have hD : va_D A [(a14, .inl (cyI, 15, .inl yR)), (a3, .inr (2, [.ref a20, .int 0, .int 0, .int 0, .int 0, .int 0, .int 0, .int 0, .int 0, .int 0, .int 0, .int 0, .int (-1), .int 0])), (a2, .inr (9, [.ref a14, .ref a15, .ref a16, .ref a17, .ref a18, .ref a19])), (a15, .inl (cyI, 15, .inl yR)), (a0, .inr (0, [.ref a3, .ref a4, .ref a5, .int 0, .int 0, .int 0, .int 0, .int 0, .int 0]))] := hD
  refine W.widen (k := 0) (n := 0) (Nat.le_of_ble_eq_true rfl) (Nat.le_of_ble_eq_true rfl) ?_
  exact yy_vret () hx hb hr hlk hsz hAe hK hP hD hS [4, 2, 1, 0, 3] rfl rfl (by decide) (trivial) dX0_pass_107
set_option maxHeartbeats 4000000 in
set_option maxRecDepth 100000 in
theorem bS_X9_remember_44 (l : Launch) (dC : Nat → ClassId) (dI : Nat → Nat → Nat) (cyI cyZ cyO : ClassId) (sz : Nat) (a0 : Nat) (a1 : Nat) (a2 : Nat) (a3 : Nat) (a4 : Nat) (a5 : Nat) (a6 : Nat)  : Met l yX9_remember wsX9_remember ({ frames := 1, cells := 0, slots := 0, locals := 18 }) (yPre [.ref a0] (dC, dI) [(a0, .inr (9, [.ref a1, .ref a2, .ref a3, .ref a4, .ref a5, .ref a6])), (a2, .inl (cyI, 15, .inl yR)), (a3, .inl (cyI, 15, .inl yR))] (yT cyI cyZ cyO) sz) (yQv (fun (u : Unit) => True) (dC, dI) [(a0, .inr (9, [.ref a1, .ref a2, .ref a3, .ref a4, .ref a5, .ref a6])), (a2, .inl (cyI, 15, .inl yR)), (a3, .inl (cyI, 15, .inl yR))] (yT cyI cyZ cyO) sz (fun _ => [(a0, .inr (9, [.ref a1, .ref a2, .ref a3, .ref a4, .ref a5, .ref a6])), (a2, .inl (cyI, 15, .inl yR)), (a3, .inl (cyI, 15, .inl yR))])) 0 0 (va_A [(a0, .inr (9, [.ref a1, .ref a2, .ref a3, .ref a4, .ref a5, .ref a6])), (a2, .inl (cyI, 15, .inl yR)), (a3, .inl (cyI, 15, .inl yR))] sz) := by
  refine yMet (cc := cX9_remember) (maxL := 1) (ret := none) (by decide) rfl (Nat.le_of_ble_eq_true rfl) ?_
  intro p e s m below meth c A hx hb hr hlk hml hts hown hnm hsz hAe hP hK hD hA hS ls hl
  have hl : lv_has ls 1 [(0, .ref a0)] := hl
  have hm34 := hts (.methodLink RX9 34 arraycopyName) (by decide +kernel)
  have hcn := hts (.native arraycopyName) (by decide +kernel)
  have hcs := hts (.static arraycopyName) (by decide +kernel)
  have hci := hts (.initialized "java/lang/System") (by decide +kernel)
  have hf13 := hts (.fieldLink RX9 13 "BusBridge$Wires" "seen" "[I") (by decide +kernel)
  have hf16 := hts (.fieldLink RX9 16 "BusBridge$Wires" "before" "[I") (by decide +kernel)
  have hnX9 : ∀ w ∈ wsX90, w ∈ wsX9_remember := by decide +kernel
  refine lv_aload_n hx hb dX9_remember_0 rfl (lv_at hl 0 rfl) ?_
  refine va_get (D := (dC, dI)) (ci := 9) (v := .ref a2) (C := RX9) (T := TX9) (N := 6) hx hb hts hnX9 hown hK hP 0 rfl rfl 1 (by decide) hf13 (fun _ h9 => h9) rfl dX9_remember_1 ?_
  refine lv_iconst (v := 0) hx hb dX9_remember_4 (by decide) ?_
  refine lv_aload_n hx hb dX9_remember_5 rfl (lv_at hl 0 rfl) ?_
  refine va_get (D := (dC, dI)) (ci := 9) (v := .ref a3) (C := RX9) (T := TX9) (N := 6) hx hb hts hnX9 hown hK hP 0 rfl rfl 2 (by decide) hf16 (fun _ h9 => h9) rfl dX9_remember_6 ?_
  refine lv_iconst (v := 0) hx hb dX9_remember_9 (by decide) ?_
  refine lv_bipush (v := 15) hx hb dX9_remember_10 (by decide) ?_
  refine yy_copy (f' := yR) hx hb (by rw [hml]; exact hl.1.symm) hown hm34 hcn hcs hci hK hP hD hS 1 2 0 rfl rfl rfl (by decide) (by decide) (by decide) (Nat.le_of_ble_eq_true rfl) (Nat.le_of_ble_eq_true rfl) dX9_remember_12 (ycpy_R (by first | exact fun _ _ => rfl | exact yR0)) (fun H locs hP hD hS => ?_)
  have hP : va_P (dC, dI) vwCl [(a0, .inr (9, [.ref a1, .ref a2, .ref a3, .ref a4, .ref a5, .ref a6])), (a2, .inl (cyI, 15, .inl yR)), (a3, .inl (cyI, 15, .inl yR))] H := hP
  have hD : va_D A [(a0, .inr (9, [.ref a1, .ref a2, .ref a3, .ref a4, .ref a5, .ref a6])), (a2, .inl (cyI, 15, .inl yR)), (a3, .inl (cyI, 15, .inl yR))] := hD
  refine W.widen (k := 0) (n := 0) (Nat.le_of_ble_eq_true rfl) (Nat.le_of_ble_eq_true rfl) ?_
  exact yy_vret () hx hb hr hlk hsz hAe hK hP hD hS [0, 1, 2] rfl rfl (by decide) (trivial) dX9_remember_15
set_option maxHeartbeats 4000000 in
set_option maxRecDepth 100000 in
theorem k_tick_S (l : Launch) (dC : Nat → ClassId) (dI : Nat → Nat → Nat) (cyI cyZ cyO : ClassId) (sz : Nat) (h0 : Nat) (mW : Nat) (mWd : Nat) (mWs : Nat) (mWb : Nat) (mWm : Nat) (mWf : Nat) (mWu : Nat) (mC : Nat) (mCh : Nat) (mCs : Nat) (mT : Nat) (mTt : Nat) (mTr : Nat) (mB : Nat) (mBa : Nat) (mBd : Nat) (mL : Nat) (mLt : Nat) (mS : Nat) (mSc : Nat) (mO : Nat) (mOc : Nat) (mOt : Nat) (hp : Nat) (hp_first : Nat) (hp_last : Nat) (hp_wait : Nat) (hp_broken : Nat) (hp_words : Nat) (hp_kinds : Nat) (hp_values : Nat) (hp_owners : Nat) (t : Int32) (ht : ¬ t = 0) : Met l yX3_tick wsX3_tick ({ frames := 4, cells := 0, slots := 0, locals := 93 }) (yPre [.ref h0, .ref hp] (dC, dI) [(h0, .inr (3, [.ref mW, .ref mC, .ref mT, .ref mB, .ref mS, .ref mO, .int t])), (mW, .inr (9, [.ref mWd, .ref mWs, .ref mWb, .ref mWm, .ref mWf, .ref mWu])), (mWd, .inl (cyI, 15, .inl yR)), (mWs, .inl (cyI, 15, .inl yR)), (mWb, .inl (cyI, 15, .inl yR)), (mWm, .inl (cyI, 15, .inl (fun _ => 0))), (mWf, .inl (cyI, 15, .inl (fun _ => 0))), (mWu, .inl (cyI, 15, .inl (fun _ => 0))), (mC, .inr (1, [.ref mCh, .ref mCs, .int (-1)])), (mT, .inr (4, [.ref mTt, .int (-1), .int (-1), .int 0, .int 0, .int 0, .int 0])), (mTt, .inr (8, [.ref mTr, .int 60, .int 9, .int 0])), (mB, .inr (0, [.ref mL, .ref mBa, .ref mBd, .int 0, .int 0, .int 0, .int 0, .int 0, .int 0])), (mL, .inr (2, [.ref mLt, .int 0, .int 0, .int 0, .int 0, .int 0, .int 0, .int 0, .int 0, .int 0, .int 0, .int 0, .int (-1), .int 0])), (mS, .inr (7, [.ref mSc, .int 0, .int 0, .int 0])), (mO, .inr (5, [.ref mOc, .ref mOt, .int 0, .int 0, .int 0])), (hp, .inr (6, [.ref hp_first, .ref hp_last, .ref hp_wait, .ref hp_broken, .ref hp_words, .ref hp_kinds, .ref hp_values, .ref hp_owners, .int 0, .int 0, .int 0, .int 32, .int 0]))] (yT cyI cyZ cyO) sz) (yQv (fun (u : Unit) => True) (dC, dI) [(h0, .inr (3, [.ref mW, .ref mC, .ref mT, .ref mB, .ref mS, .ref mO, .int t])), (mW, .inr (9, [.ref mWd, .ref mWs, .ref mWb, .ref mWm, .ref mWf, .ref mWu])), (mWd, .inl (cyI, 15, .inl yR)), (mWs, .inl (cyI, 15, .inl yR)), (mWb, .inl (cyI, 15, .inl yR)), (mWm, .inl (cyI, 15, .inl (fun _ => 0))), (mWf, .inl (cyI, 15, .inl (fun _ => 0))), (mWu, .inl (cyI, 15, .inl (fun _ => 0))), (mC, .inr (1, [.ref mCh, .ref mCs, .int (-1)])), (mT, .inr (4, [.ref mTt, .int (-1), .int (-1), .int 0, .int 0, .int 0, .int 0])), (mTt, .inr (8, [.ref mTr, .int 60, .int 9, .int 0])), (mB, .inr (0, [.ref mL, .ref mBa, .ref mBd, .int 0, .int 0, .int 0, .int 0, .int 0, .int 0])), (mL, .inr (2, [.ref mLt, .int 0, .int 0, .int 0, .int 0, .int 0, .int 0, .int 0, .int 0, .int 0, .int 0, .int 0, .int (-1), .int 0])), (mS, .inr (7, [.ref mSc, .int 0, .int 0, .int 0])), (mO, .inr (5, [.ref mOc, .ref mOt, .int 0, .int 0, .int 0])), (hp, .inr (6, [.ref hp_first, .ref hp_last, .ref hp_wait, .ref hp_broken, .ref hp_words, .ref hp_kinds, .ref hp_values, .ref hp_owners, .int 0, .int 0, .int 0, .int 32, .int 0]))] (yT cyI cyZ cyO) sz (fun _ => [(h0, .inr (3, [.ref mW, .ref mC, .ref mT, .ref mB, .ref mS, .ref mO, .int (t + 1)])), (mW, .inr (9, [.ref mWd, .ref mWs, .ref mWb, .ref mWm, .ref mWf, .ref mWu])), (mWd, .inl (cyI, 15, .inl yR)), (mWs, .inl (cyI, 15, .inl yR)), (mWb, .inl (cyI, 15, .inl yR)), (mWm, .inl (cyI, 15, .inl (fun _ => 0))), (mWf, .inl (cyI, 15, .inl (fun _ => 0))), (mWu, .inl (cyI, 15, .inl (fun _ => 0))), (mC, .inr (1, [.ref mCh, .ref mCs, .int (-1)])), (mT, .inr (4, [.ref mTt, .int (-1), .int (-1), .int 0, .int 0, .int 0, .int 0])), (mTt, .inr (8, [.ref mTr, .int 60, .int 9, .int 0])), (mB, .inr (0, [.ref mL, .ref mBa, .ref mBd, .int 0, .int 0, .int 0, .int 0, .int 0, .int 0])), (mL, .inr (2, [.ref mLt, .int 0, .int 0, .int 0, .int 0, .int 0, .int 0, .int 0, .int 0, .int 0, .int 0, .int 0, .int (-1), .int 0])), (mS, .inr (7, [.ref mSc, .int 0, .int 0, .int 0])), (mO, .inr (5, [.ref mOc, .ref mOt, .int 0, .int 0, .int 0])), (hp, .inr (6, [.ref hp_first, .ref hp_last, .ref hp_wait, .ref hp_broken, .ref hp_words, .ref hp_kinds, .ref hp_values, .ref hp_owners, .int 0, .int 0, .int 0, .int 32, .int 0]))])) 0 0 (va_A [(h0, .inr (3, [.ref mW, .ref mC, .ref mT, .ref mB, .ref mS, .ref mO, .int t])), (mW, .inr (9, [.ref mWd, .ref mWs, .ref mWb, .ref mWm, .ref mWf, .ref mWu])), (mWd, .inl (cyI, 15, .inl yR)), (mWs, .inl (cyI, 15, .inl yR)), (mWb, .inl (cyI, 15, .inl yR)), (mWm, .inl (cyI, 15, .inl (fun _ => 0))), (mWf, .inl (cyI, 15, .inl (fun _ => 0))), (mWu, .inl (cyI, 15, .inl (fun _ => 0))), (mC, .inr (1, [.ref mCh, .ref mCs, .int (-1)])), (mT, .inr (4, [.ref mTt, .int (-1), .int (-1), .int 0, .int 0, .int 0, .int 0])), (mTt, .inr (8, [.ref mTr, .int 60, .int 9, .int 0])), (mB, .inr (0, [.ref mL, .ref mBa, .ref mBd, .int 0, .int 0, .int 0, .int 0, .int 0, .int 0])), (mL, .inr (2, [.ref mLt, .int 0, .int 0, .int 0, .int 0, .int 0, .int 0, .int 0, .int 0, .int 0, .int 0, .int 0, .int (-1), .int 0])), (mS, .inr (7, [.ref mSc, .int 0, .int 0, .int 0])), (mO, .inr (5, [.ref mOc, .ref mOt, .int 0, .int 0, .int 0])), (hp, .inr (6, [.ref hp_first, .ref hp_last, .ref hp_wait, .ref hp_broken, .ref hp_words, .ref hp_kinds, .ref hp_values, .ref hp_owners, .int 0, .int 0, .int 0, .int 32, .int 0]))] sz) := by
  refine yMet (cc := cX3_tick) (maxL := 2) (ret := none) (by decide) rfl (Nat.le_of_ble_eq_true rfl) ?_
  intro p e s m below meth c A hx hb hr hlk hml hts hown hnm hsz hAe hP hK hD hA hS ls hl
  have hl : lv_has ls 2 [(0, .ref h0), (1, .ref hp)] := hl
  have hf12 := hts (.fieldLink RX3 12 "BusBridge$Machine" "wires" "LBusBridge$Wires;") (by decide +kernel)
  have hf21 := hts (.fieldLink RX3 21 "BusBridge$Machine" "cells" "LBusBridge$Cells;") (by decide +kernel)
  have hf28 := hts (.fieldLink RX3 28 "BusBridge$Machine" "master" "LBusBridge$Master;") (by decide +kernel)
  have hf35 := hts (.fieldLink RX3 35 "BusBridge$Machine" "bridge" "LBusBridge$Bridge;") (by decide +kernel)
  have hf42 := hts (.fieldLink RX3 42 "BusBridge$Machine" "slaves" "LBusBridge$Slaves;") (by decide +kernel)
  have hf49 := hts (.fieldLink RX3 49 "BusBridge$Machine" "monitor" "LBusBridge$Monitor;") (by decide +kernel)
  have hf63 := hts (.fieldLink RX3 63 "BusBridge$Machine" "time" "I") (by decide +kernel)
  have hnX3 : ∀ w ∈ wsX30, w ∈ wsX3_tick := by decide +kernel
  refine lv_aload_n hx hb dX3_tick_0 rfl (lv_at hl 0 rfl) ?_
  refine va_get (D := (dC, dI)) (ci := 3) (v := .ref mW) (C := RX3) (T := TX3) (N := 7) hx hb hts hnX3 hown hK hP 0 rfl rfl 0 (by decide) hf12 (fun _ h9 => h9) rfl dX3_tick_1 ?_
  refine lv_aload_n hx hb dX3_tick_4 rfl (lv_at hl 0 rfl) ?_
  refine va_get (D := (dC, dI)) (ci := 3) (v := .int t) (C := RX3) (T := TX3) (N := 7) hx hb hts hnX3 hown hK hP 0 rfl rfl 6 (by decide) hf63 (fun _ h9 => h9) rfl dX3_tick_5 ?_
  have hPc := hP.sub (ws' := [(mW, .inr (9, [.ref mWd, .ref mWs, .ref mWb, .ref mWm, .ref mWf, .ref mWu])), (mWd, .inl (cyI, 15, .inl yR)), (mWs, .inl (cyI, 15, .inl yR)), (mWm, .inl (cyI, 15, .inl (fun _ => 0))), (mWf, .inl (cyI, 15, .inl (fun _ => 0))), (mWu, .inl (cyI, 15, .inl (fun _ => 0)))]) [1, 2, 3, 5, 6, 7] rfl
  have hDc := hD.sub (ws' := [(mW, .inr (9, [.ref mWd, .ref mWs, .ref mWb, .ref mWm, .ref mWf, .ref mWu])), (mWd, .inl (cyI, 15, .inl yR)), (mWs, .inl (cyI, 15, .inl yR)), (mWm, .inl (cyI, 15, .inl (fun _ => 0))), (mWf, .inl (cyI, 15, .inl (fun _ => 0))), (mWu, .inl (cyI, 15, .inl (fun _ => 0)))]) [1, 2, 3, 5, 6, 7] (by decide) rfl
  refine yy_callv [1, 2, 3, 5, 6, 7] [0, 4, 8, 9, 10, 11, 12, 13, 14, 15] (wr := [(h0, .inr (3, [.ref mW, .ref mC, .ref mT, .ref mB, .ref mS, .ref mO, .int t])), (mWb, .inl (cyI, 15, .inl yR)), (mC, .inr (1, [.ref mCh, .ref mCs, .int (-1)])), (mT, .inr (4, [.ref mTt, .int (-1), .int (-1), .int 0, .int 0, .int 0, .int 0])), (mTt, .inr (8, [.ref mTr, .int 60, .int 9, .int 0])), (mB, .inr (0, [.ref mL, .ref mBa, .ref mBd, .int 0, .int 0, .int 0, .int 0, .int 0, .int 0])), (mL, .inr (2, [.ref mLt, .int 0, .int 0, .int 0, .int 0, .int 0, .int 0, .int 0, .int 0, .int 0, .int 0, .int 0, .int (-1), .int 0])), (mS, .inr (7, [.ref mSc, .int 0, .int 0, .int 0])), (mO, .inr (5, [.ref mOc, .ref mOt, .int 0, .int 0, .int 0])), (hp, .inr (6, [.ref hp_first, .ref hp_last, .ref hp_wait, .ref hp_broken, .ref hp_words, .ref hp_kinds, .ref hp_values, .ref hp_owners, .int 0, .int 0, .int 0, .int 32, .int 0]))]) (va_runV (As := [.int t]) (rest := []) ⟨hx, hb, hml, hown, hts⟩ (bS_X9_look_15 l dC dI cyI cyZ cyO s.heap.size mW t mWd mWs mWb mWm mWf mWu ) (cwV 1 hts gX3_tick_X9_look rfl rfl rfl (by decide +kernel) ⟨Nat.le_of_ble_eq_true rfl, Nat.le_of_ble_eq_true rfl⟩) (yPreV hK hPc hDc (ci := 9) (q0 := 0) rfl rfl) rfl rfl hl.1 rfl (lv_room (Nat.le_of_ble_eq_true rfl)) dX3_tick_8 ⟨Nat.le_of_ble_eq_true rfl, Nat.le_of_ble_eq_true rfl⟩) hP hD hS hA rfl rfl (by decide) (by decide) (fun u_1 H locs hw hP hD hS => ?_)
  have hP : va_P (dC, dI) vwCl [(h0, .inr (3, [.ref mW, .ref mC, .ref mT, .ref mB, .ref mS, .ref mO, .int t])), (mWb, .inl (cyI, 15, .inl yR)), (mC, .inr (1, [.ref mCh, .ref mCs, .int (-1)])), (mT, .inr (4, [.ref mTt, .int (-1), .int (-1), .int 0, .int 0, .int 0, .int 0])), (mTt, .inr (8, [.ref mTr, .int 60, .int 9, .int 0])), (mB, .inr (0, [.ref mL, .ref mBa, .ref mBd, .int 0, .int 0, .int 0, .int 0, .int 0, .int 0])), (mL, .inr (2, [.ref mLt, .int 0, .int 0, .int 0, .int 0, .int 0, .int 0, .int 0, .int 0, .int 0, .int 0, .int 0, .int (-1), .int 0])), (mS, .inr (7, [.ref mSc, .int 0, .int 0, .int 0])), (mO, .inr (5, [.ref mOc, .ref mOt, .int 0, .int 0, .int 0])), (hp, .inr (6, [.ref hp_first, .ref hp_last, .ref hp_wait, .ref hp_broken, .ref hp_words, .ref hp_kinds, .ref hp_values, .ref hp_owners, .int 0, .int 0, .int 0, .int 32, .int 0])), (mW, .inr (9, [.ref mWd, .ref mWs, .ref mWb, .ref mWm, .ref mWf, .ref mWu])), (mWd, .inl (cyI, 15, .inl yR)), (mWs, .inl (cyI, 15, .inl yR)), (mWm, .inl (cyI, 15, .inl (fun _ => 0))), (mWf, .inl (cyI, 15, .inl (fun _ => 0))), (mWu, .inl (cyI, 15, .inl (fun _ => 0)))] H := hP
  have hD : va_D A [(h0, .inr (3, [.ref mW, .ref mC, .ref mT, .ref mB, .ref mS, .ref mO, .int t])), (mWb, .inl (cyI, 15, .inl yR)), (mC, .inr (1, [.ref mCh, .ref mCs, .int (-1)])), (mT, .inr (4, [.ref mTt, .int (-1), .int (-1), .int 0, .int 0, .int 0, .int 0])), (mTt, .inr (8, [.ref mTr, .int 60, .int 9, .int 0])), (mB, .inr (0, [.ref mL, .ref mBa, .ref mBd, .int 0, .int 0, .int 0, .int 0, .int 0, .int 0])), (mL, .inr (2, [.ref mLt, .int 0, .int 0, .int 0, .int 0, .int 0, .int 0, .int 0, .int 0, .int 0, .int 0, .int 0, .int (-1), .int 0])), (mS, .inr (7, [.ref mSc, .int 0, .int 0, .int 0])), (mO, .inr (5, [.ref mOc, .ref mOt, .int 0, .int 0, .int 0])), (hp, .inr (6, [.ref hp_first, .ref hp_last, .ref hp_wait, .ref hp_broken, .ref hp_words, .ref hp_kinds, .ref hp_values, .ref hp_owners, .int 0, .int 0, .int 0, .int 32, .int 0])), (mW, .inr (9, [.ref mWd, .ref mWs, .ref mWb, .ref mWm, .ref mWf, .ref mWu])), (mWd, .inl (cyI, 15, .inl yR)), (mWs, .inl (cyI, 15, .inl yR)), (mWm, .inl (cyI, 15, .inl (fun _ => 0))), (mWf, .inl (cyI, 15, .inl (fun _ => 0))), (mWu, .inl (cyI, 15, .inl (fun _ => 0)))] := hD
  refine W.widen (k := 0) (n := 0) (Nat.le_of_ble_eq_true rfl) (Nat.le_of_ble_eq_true rfl) ?_
  refine lv_aload_n hx hb dX3_tick_11 rfl (lv_at hl 0 rfl) ?_
  refine va_get (D := (dC, dI)) (ci := 3) (v := .ref mO) (C := RX3) (T := TX3) (N := 7) hx hb hts hnX3 hown hK hP 0 rfl rfl 5 (by decide) hf49 (fun _ h9 => h9) rfl dX3_tick_12 ?_
  refine lv_aload_n hx hb dX3_tick_15 rfl (lv_at hl 1 rfl) ?_
  refine lv_aload_n hx hb dX3_tick_16 rfl (lv_at hl 0 rfl) ?_
  refine va_get (D := (dC, dI)) (ci := 3) (v := .ref mW) (C := RX3) (T := TX3) (N := 7) hx hb hts hnX3 hown hK hP 0 rfl rfl 0 (by decide) hf12 (fun _ h9 => h9) rfl dX3_tick_17 ?_
  refine lv_aload_n hx hb dX3_tick_20 rfl (lv_at hl 0 rfl) ?_
  refine va_get (D := (dC, dI)) (ci := 3) (v := .int t) (C := RX3) (T := TX3) (N := 7) hx hb hts hnX3 hown hK hP 0 rfl rfl 6 (by decide) hf63 (fun _ h9 => h9) rfl dX3_tick_21 ?_
  have hPc := hP.sub (ws' := [(mO, .inr (5, [.ref mOc, .ref mOt, .int 0, .int 0, .int 0])), (hp, .inr (6, [.ref hp_first, .ref hp_last, .ref hp_wait, .ref hp_broken, .ref hp_words, .ref hp_kinds, .ref hp_values, .ref hp_owners, .int 0, .int 0, .int 0, .int 32, .int 0])), (mW, .inr (9, [.ref mWd, .ref mWs, .ref mWb, .ref mWm, .ref mWf, .ref mWu])), (mWs, .inl (cyI, 15, .inl yR)), (mWb, .inl (cyI, 15, .inl yR))]) [8, 9, 10, 12, 1] rfl
  have hDc := hD.sub (ws' := [(mO, .inr (5, [.ref mOc, .ref mOt, .int 0, .int 0, .int 0])), (hp, .inr (6, [.ref hp_first, .ref hp_last, .ref hp_wait, .ref hp_broken, .ref hp_words, .ref hp_kinds, .ref hp_values, .ref hp_owners, .int 0, .int 0, .int 0, .int 32, .int 0])), (mW, .inr (9, [.ref mWd, .ref mWs, .ref mWb, .ref mWm, .ref mWf, .ref mWu])), (mWs, .inl (cyI, 15, .inl yR)), (mWb, .inl (cyI, 15, .inl yR))]) [8, 9, 10, 12, 1] (by decide) rfl
  refine yy_callv [8, 9, 10, 12, 1] [0, 2, 3, 4, 5, 6, 7, 11, 13, 14, 15] (wr := [(h0, .inr (3, [.ref mW, .ref mC, .ref mT, .ref mB, .ref mS, .ref mO, .int t])), (mC, .inr (1, [.ref mCh, .ref mCs, .int (-1)])), (mT, .inr (4, [.ref mTt, .int (-1), .int (-1), .int 0, .int 0, .int 0, .int 0])), (mTt, .inr (8, [.ref mTr, .int 60, .int 9, .int 0])), (mB, .inr (0, [.ref mL, .ref mBa, .ref mBd, .int 0, .int 0, .int 0, .int 0, .int 0, .int 0])), (mL, .inr (2, [.ref mLt, .int 0, .int 0, .int 0, .int 0, .int 0, .int 0, .int 0, .int 0, .int 0, .int 0, .int 0, .int (-1), .int 0])), (mS, .inr (7, [.ref mSc, .int 0, .int 0, .int 0])), (mWd, .inl (cyI, 15, .inl yR)), (mWm, .inl (cyI, 15, .inl (fun _ => 0))), (mWf, .inl (cyI, 15, .inl (fun _ => 0))), (mWu, .inl (cyI, 15, .inl (fun _ => 0)))]) (va_runV (As := [.ref hp, .ref mW, .int t]) (rest := []) ⟨hx, hb, hml, hown, hts⟩ (bS_X5_judge_37 l dC dI cyI cyZ cyO H.size mO hp mW t mOc mOt hp_first hp_last hp_wait hp_broken hp_words hp_kinds hp_values hp_owners mWd mWs mWb mWm mWf mWu (by first | assumption | decide)) (cwV 3 hts gX3_tick_X5_judge rfl rfl rfl (by decide +kernel) ⟨Nat.le_of_ble_eq_true rfl, Nat.le_of_ble_eq_true rfl⟩) (yPreV hK hPc hDc (ci := 5) (q0 := 0) rfl rfl) rfl rfl hl.1 rfl (lv_room (Nat.le_of_ble_eq_true rfl)) dX3_tick_24 ⟨Nat.le_of_ble_eq_true rfl, Nat.le_of_ble_eq_true rfl⟩) hP hD hS hA rfl rfl (by decide) (by decide) (fun u_2 H locs hw hP hD hS => ?_)
  have hP : va_P (dC, dI) vwCl [(h0, .inr (3, [.ref mW, .ref mC, .ref mT, .ref mB, .ref mS, .ref mO, .int t])), (mC, .inr (1, [.ref mCh, .ref mCs, .int (-1)])), (mT, .inr (4, [.ref mTt, .int (-1), .int (-1), .int 0, .int 0, .int 0, .int 0])), (mTt, .inr (8, [.ref mTr, .int 60, .int 9, .int 0])), (mB, .inr (0, [.ref mL, .ref mBa, .ref mBd, .int 0, .int 0, .int 0, .int 0, .int 0, .int 0])), (mL, .inr (2, [.ref mLt, .int 0, .int 0, .int 0, .int 0, .int 0, .int 0, .int 0, .int 0, .int 0, .int 0, .int 0, .int (-1), .int 0])), (mS, .inr (7, [.ref mSc, .int 0, .int 0, .int 0])), (mWd, .inl (cyI, 15, .inl yR)), (mWm, .inl (cyI, 15, .inl (fun _ => 0))), (mWf, .inl (cyI, 15, .inl (fun _ => 0))), (mWu, .inl (cyI, 15, .inl (fun _ => 0))), (mO, .inr (5, [.ref mOc, .ref mOt, .int 0, .int 0, .int 0])), (hp, .inr (6, [.ref hp_first, .ref hp_last, .ref hp_wait, .ref hp_broken, .ref hp_words, .ref hp_kinds, .ref hp_values, .ref hp_owners, .int 0, .int 0, .int 0, .int 32, .int 0])), (mW, .inr (9, [.ref mWd, .ref mWs, .ref mWb, .ref mWm, .ref mWf, .ref mWu])), (mWs, .inl (cyI, 15, .inl yR)), (mWb, .inl (cyI, 15, .inl yR))] H := hP
  have hD : va_D A [(h0, .inr (3, [.ref mW, .ref mC, .ref mT, .ref mB, .ref mS, .ref mO, .int t])), (mC, .inr (1, [.ref mCh, .ref mCs, .int (-1)])), (mT, .inr (4, [.ref mTt, .int (-1), .int (-1), .int 0, .int 0, .int 0, .int 0])), (mTt, .inr (8, [.ref mTr, .int 60, .int 9, .int 0])), (mB, .inr (0, [.ref mL, .ref mBa, .ref mBd, .int 0, .int 0, .int 0, .int 0, .int 0, .int 0])), (mL, .inr (2, [.ref mLt, .int 0, .int 0, .int 0, .int 0, .int 0, .int 0, .int 0, .int 0, .int 0, .int 0, .int 0, .int (-1), .int 0])), (mS, .inr (7, [.ref mSc, .int 0, .int 0, .int 0])), (mWd, .inl (cyI, 15, .inl yR)), (mWm, .inl (cyI, 15, .inl (fun _ => 0))), (mWf, .inl (cyI, 15, .inl (fun _ => 0))), (mWu, .inl (cyI, 15, .inl (fun _ => 0))), (mO, .inr (5, [.ref mOc, .ref mOt, .int 0, .int 0, .int 0])), (hp, .inr (6, [.ref hp_first, .ref hp_last, .ref hp_wait, .ref hp_broken, .ref hp_words, .ref hp_kinds, .ref hp_values, .ref hp_owners, .int 0, .int 0, .int 0, .int 32, .int 0])), (mW, .inr (9, [.ref mWd, .ref mWs, .ref mWb, .ref mWm, .ref mWf, .ref mWu])), (mWs, .inl (cyI, 15, .inl yR)), (mWb, .inl (cyI, 15, .inl yR))] := hD
  refine W.widen (k := 0) (n := 0) (Nat.le_of_ble_eq_true rfl) (Nat.le_of_ble_eq_true rfl) ?_
  refine lv_aload_n hx hb dX3_tick_27 rfl (lv_at hl 0 rfl) ?_
  refine va_get (D := (dC, dI)) (ci := 3) (v := .ref mT) (C := RX3) (T := TX3) (N := 7) hx hb hts hnX3 hown hK hP 0 rfl rfl 2 (by decide) hf28 (fun _ h9 => h9) rfl dX3_tick_28 ?_
  refine lv_aload_n hx hb dX3_tick_31 rfl (lv_at hl 0 rfl) ?_
  refine va_get (D := (dC, dI)) (ci := 3) (v := .ref mW) (C := RX3) (T := TX3) (N := 7) hx hb hts hnX3 hown hK hP 0 rfl rfl 0 (by decide) hf12 (fun _ h9 => h9) rfl dX3_tick_32 ?_
  refine lv_aload_n hx hb dX3_tick_35 rfl (lv_at hl 0 rfl) ?_
  refine va_get (D := (dC, dI)) (ci := 3) (v := .int t) (C := RX3) (T := TX3) (N := 7) hx hb hts hnX3 hown hK hP 0 rfl rfl 6 (by decide) hf63 (fun _ h9 => h9) rfl dX3_tick_36 ?_
  have hPc := hP.sub (ws' := [(mT, .inr (4, [.ref mTt, .int (-1), .int (-1), .int 0, .int 0, .int 0, .int 0])), (mW, .inr (9, [.ref mWd, .ref mWs, .ref mWb, .ref mWm, .ref mWf, .ref mWu])), (mTt, .inr (8, [.ref mTr, .int 60, .int 9, .int 0])), (mWd, .inl (cyI, 15, .inl yR)), (mWs, .inl (cyI, 15, .inl yR))]) [2, 13, 3, 7, 14] rfl
  have hDc := hD.sub (ws' := [(mT, .inr (4, [.ref mTt, .int (-1), .int (-1), .int 0, .int 0, .int 0, .int 0])), (mW, .inr (9, [.ref mWd, .ref mWs, .ref mWb, .ref mWm, .ref mWf, .ref mWu])), (mTt, .inr (8, [.ref mTr, .int 60, .int 9, .int 0])), (mWd, .inl (cyI, 15, .inl yR)), (mWs, .inl (cyI, 15, .inl yR))]) [2, 13, 3, 7, 14] (by decide) rfl
  refine yy_callv [2, 13, 3, 7, 14] [0, 1, 4, 5, 6, 8, 9, 10, 11, 12, 15] (wr := [(h0, .inr (3, [.ref mW, .ref mC, .ref mT, .ref mB, .ref mS, .ref mO, .int t])), (mC, .inr (1, [.ref mCh, .ref mCs, .int (-1)])), (mB, .inr (0, [.ref mL, .ref mBa, .ref mBd, .int 0, .int 0, .int 0, .int 0, .int 0, .int 0])), (mL, .inr (2, [.ref mLt, .int 0, .int 0, .int 0, .int 0, .int 0, .int 0, .int 0, .int 0, .int 0, .int 0, .int 0, .int (-1), .int 0])), (mS, .inr (7, [.ref mSc, .int 0, .int 0, .int 0])), (mWm, .inl (cyI, 15, .inl (fun _ => 0))), (mWf, .inl (cyI, 15, .inl (fun _ => 0))), (mWu, .inl (cyI, 15, .inl (fun _ => 0))), (mO, .inr (5, [.ref mOc, .ref mOt, .int 0, .int 0, .int 0])), (hp, .inr (6, [.ref hp_first, .ref hp_last, .ref hp_wait, .ref hp_broken, .ref hp_words, .ref hp_kinds, .ref hp_values, .ref hp_owners, .int 0, .int 0, .int 0, .int 32, .int 0])), (mWb, .inl (cyI, 15, .inl yR))]) (va_runV (As := [.ref mW, .int t]) (rest := []) ⟨hx, hb, hml, hown, hts⟩ (bS_X4_pass_40 l dC dI cyI cyZ cyO H.size mT mW t mTt mWd mWs mWb mWm mWf mWu mTr ) (cwV 2 hts gX3_tick_X4_pass rfl rfl rfl (by decide +kernel) ⟨Nat.le_of_ble_eq_true rfl, Nat.le_of_ble_eq_true rfl⟩) (yPreV hK hPc hDc (ci := 4) (q0 := 0) rfl rfl) rfl rfl hl.1 rfl (lv_room (Nat.le_of_ble_eq_true rfl)) dX3_tick_39 ⟨Nat.le_of_ble_eq_true rfl, Nat.le_of_ble_eq_true rfl⟩) hP hD hS hA rfl rfl (by decide) (by decide) (fun u_3 H locs hw hP hD hS => ?_)
  have hP : va_P (dC, dI) vwCl [(h0, .inr (3, [.ref mW, .ref mC, .ref mT, .ref mB, .ref mS, .ref mO, .int t])), (mC, .inr (1, [.ref mCh, .ref mCs, .int (-1)])), (mB, .inr (0, [.ref mL, .ref mBa, .ref mBd, .int 0, .int 0, .int 0, .int 0, .int 0, .int 0])), (mL, .inr (2, [.ref mLt, .int 0, .int 0, .int 0, .int 0, .int 0, .int 0, .int 0, .int 0, .int 0, .int 0, .int 0, .int (-1), .int 0])), (mS, .inr (7, [.ref mSc, .int 0, .int 0, .int 0])), (mWm, .inl (cyI, 15, .inl (fun _ => 0))), (mWf, .inl (cyI, 15, .inl (fun _ => 0))), (mWu, .inl (cyI, 15, .inl (fun _ => 0))), (mO, .inr (5, [.ref mOc, .ref mOt, .int 0, .int 0, .int 0])), (hp, .inr (6, [.ref hp_first, .ref hp_last, .ref hp_wait, .ref hp_broken, .ref hp_words, .ref hp_kinds, .ref hp_values, .ref hp_owners, .int 0, .int 0, .int 0, .int 32, .int 0])), (mWb, .inl (cyI, 15, .inl yR)), (mT, .inr (4, [.ref mTt, .int (-1), .int (-1), .int 0, .int 0, .int 0, .int 0])), (mW, .inr (9, [.ref mWd, .ref mWs, .ref mWb, .ref mWm, .ref mWf, .ref mWu])), (mTt, .inr (8, [.ref mTr, .int 60, .int 9, .int 0])), (mWd, .inl (cyI, 15, .inl yR)), (mWs, .inl (cyI, 15, .inl yR))] H := hP
  have hD : va_D A [(h0, .inr (3, [.ref mW, .ref mC, .ref mT, .ref mB, .ref mS, .ref mO, .int t])), (mC, .inr (1, [.ref mCh, .ref mCs, .int (-1)])), (mB, .inr (0, [.ref mL, .ref mBa, .ref mBd, .int 0, .int 0, .int 0, .int 0, .int 0, .int 0])), (mL, .inr (2, [.ref mLt, .int 0, .int 0, .int 0, .int 0, .int 0, .int 0, .int 0, .int 0, .int 0, .int 0, .int 0, .int (-1), .int 0])), (mS, .inr (7, [.ref mSc, .int 0, .int 0, .int 0])), (mWm, .inl (cyI, 15, .inl (fun _ => 0))), (mWf, .inl (cyI, 15, .inl (fun _ => 0))), (mWu, .inl (cyI, 15, .inl (fun _ => 0))), (mO, .inr (5, [.ref mOc, .ref mOt, .int 0, .int 0, .int 0])), (hp, .inr (6, [.ref hp_first, .ref hp_last, .ref hp_wait, .ref hp_broken, .ref hp_words, .ref hp_kinds, .ref hp_values, .ref hp_owners, .int 0, .int 0, .int 0, .int 32, .int 0])), (mWb, .inl (cyI, 15, .inl yR)), (mT, .inr (4, [.ref mTt, .int (-1), .int (-1), .int 0, .int 0, .int 0, .int 0])), (mW, .inr (9, [.ref mWd, .ref mWs, .ref mWb, .ref mWm, .ref mWf, .ref mWu])), (mTt, .inr (8, [.ref mTr, .int 60, .int 9, .int 0])), (mWd, .inl (cyI, 15, .inl yR)), (mWs, .inl (cyI, 15, .inl yR))] := hD
  refine W.widen (k := 0) (n := 0) (Nat.le_of_ble_eq_true rfl) (Nat.le_of_ble_eq_true rfl) ?_
  refine lv_aload_n hx hb dX3_tick_42 rfl (lv_at hl 0 rfl) ?_
  refine va_get (D := (dC, dI)) (ci := 3) (v := .ref mB) (C := RX3) (T := TX3) (N := 7) hx hb hts hnX3 hown hK hP 0 rfl rfl 3 (by decide) hf35 (fun _ h9 => h9) rfl dX3_tick_43 ?_
  refine lv_aload_n hx hb dX3_tick_46 rfl (lv_at hl 1 rfl) ?_
  refine lv_aload_n hx hb dX3_tick_47 rfl (lv_at hl 0 rfl) ?_
  refine va_get (D := (dC, dI)) (ci := 3) (v := .ref mW) (C := RX3) (T := TX3) (N := 7) hx hb hts hnX3 hown hK hP 0 rfl rfl 0 (by decide) hf12 (fun _ h9 => h9) rfl dX3_tick_48 ?_
  refine lv_aload_n hx hb dX3_tick_51 rfl (lv_at hl 0 rfl) ?_
  refine va_get (D := (dC, dI)) (ci := 3) (v := .int t) (C := RX3) (T := TX3) (N := 7) hx hb hts hnX3 hown hK hP 0 rfl rfl 6 (by decide) hf63 (fun _ h9 => h9) rfl dX3_tick_52 ?_
  have hPc := hP.sub (ws' := [(mB, .inr (0, [.ref mL, .ref mBa, .ref mBd, .int 0, .int 0, .int 0, .int 0, .int 0, .int 0])), (mW, .inr (9, [.ref mWd, .ref mWs, .ref mWb, .ref mWm, .ref mWf, .ref mWu])), (mL, .inr (2, [.ref mLt, .int 0, .int 0, .int 0, .int 0, .int 0, .int 0, .int 0, .int 0, .int 0, .int 0, .int 0, .int (-1), .int 0])), (mWd, .inl (cyI, 15, .inl yR)), (mWs, .inl (cyI, 15, .inl yR))]) [2, 12, 3, 14, 15] rfl
  have hDc := hD.sub (ws' := [(mB, .inr (0, [.ref mL, .ref mBa, .ref mBd, .int 0, .int 0, .int 0, .int 0, .int 0, .int 0])), (mW, .inr (9, [.ref mWd, .ref mWs, .ref mWb, .ref mWm, .ref mWf, .ref mWu])), (mL, .inr (2, [.ref mLt, .int 0, .int 0, .int 0, .int 0, .int 0, .int 0, .int 0, .int 0, .int 0, .int 0, .int 0, .int (-1), .int 0])), (mWd, .inl (cyI, 15, .inl yR)), (mWs, .inl (cyI, 15, .inl yR))]) [2, 12, 3, 14, 15] (by decide) rfl
  refine yy_callv [2, 12, 3, 14, 15] [0, 1, 4, 5, 6, 7, 8, 9, 10, 11, 13] (wr := [(h0, .inr (3, [.ref mW, .ref mC, .ref mT, .ref mB, .ref mS, .ref mO, .int t])), (mC, .inr (1, [.ref mCh, .ref mCs, .int (-1)])), (mS, .inr (7, [.ref mSc, .int 0, .int 0, .int 0])), (mWm, .inl (cyI, 15, .inl (fun _ => 0))), (mWf, .inl (cyI, 15, .inl (fun _ => 0))), (mWu, .inl (cyI, 15, .inl (fun _ => 0))), (mO, .inr (5, [.ref mOc, .ref mOt, .int 0, .int 0, .int 0])), (hp, .inr (6, [.ref hp_first, .ref hp_last, .ref hp_wait, .ref hp_broken, .ref hp_words, .ref hp_kinds, .ref hp_values, .ref hp_owners, .int 0, .int 0, .int 0, .int 32, .int 0])), (mWb, .inl (cyI, 15, .inl yR)), (mT, .inr (4, [.ref mTt, .int (-1), .int (-1), .int 0, .int 0, .int 0, .int 0])), (mTt, .inr (8, [.ref mTr, .int 60, .int 9, .int 0]))]) (va_runV (As := [.ref hp, .ref mW, .int t]) (rest := []) ⟨hx, hb, hml, hown, hts⟩ (bS_X0_pass_43 l dC dI cyI cyZ cyO H.size mB hp mW t mL mBa mBd mWd mWs mWb mWm mWf mWu mLt ) (cwV 3 hts gX3_tick_X0_pass rfl rfl rfl (by decide +kernel) ⟨Nat.le_of_ble_eq_true rfl, Nat.le_of_ble_eq_true rfl⟩) (yPreV hK hPc hDc (ci := 0) (q0 := 0) rfl rfl) rfl rfl hl.1 rfl (lv_room (Nat.le_of_ble_eq_true rfl)) dX3_tick_55 ⟨Nat.le_of_ble_eq_true rfl, Nat.le_of_ble_eq_true rfl⟩) hP hD hS hA rfl rfl (by decide) (by decide) (fun u_4 H locs hw hP hD hS => ?_)
  have hP : va_P (dC, dI) vwCl [(h0, .inr (3, [.ref mW, .ref mC, .ref mT, .ref mB, .ref mS, .ref mO, .int t])), (mC, .inr (1, [.ref mCh, .ref mCs, .int (-1)])), (mS, .inr (7, [.ref mSc, .int 0, .int 0, .int 0])), (mWm, .inl (cyI, 15, .inl (fun _ => 0))), (mWf, .inl (cyI, 15, .inl (fun _ => 0))), (mWu, .inl (cyI, 15, .inl (fun _ => 0))), (mO, .inr (5, [.ref mOc, .ref mOt, .int 0, .int 0, .int 0])), (hp, .inr (6, [.ref hp_first, .ref hp_last, .ref hp_wait, .ref hp_broken, .ref hp_words, .ref hp_kinds, .ref hp_values, .ref hp_owners, .int 0, .int 0, .int 0, .int 32, .int 0])), (mWb, .inl (cyI, 15, .inl yR)), (mT, .inr (4, [.ref mTt, .int (-1), .int (-1), .int 0, .int 0, .int 0, .int 0])), (mTt, .inr (8, [.ref mTr, .int 60, .int 9, .int 0])), (mB, .inr (0, [.ref mL, .ref mBa, .ref mBd, .int 0, .int 0, .int 0, .int 0, .int 0, .int 0])), (mW, .inr (9, [.ref mWd, .ref mWs, .ref mWb, .ref mWm, .ref mWf, .ref mWu])), (mL, .inr (2, [.ref mLt, .int 0, .int 0, .int 0, .int 0, .int 0, .int 0, .int 0, .int 0, .int 0, .int 0, .int 0, .int (-1), .int 0])), (mWd, .inl (cyI, 15, .inl yR)), (mWs, .inl (cyI, 15, .inl yR))] H := hP
  have hD : va_D A [(h0, .inr (3, [.ref mW, .ref mC, .ref mT, .ref mB, .ref mS, .ref mO, .int t])), (mC, .inr (1, [.ref mCh, .ref mCs, .int (-1)])), (mS, .inr (7, [.ref mSc, .int 0, .int 0, .int 0])), (mWm, .inl (cyI, 15, .inl (fun _ => 0))), (mWf, .inl (cyI, 15, .inl (fun _ => 0))), (mWu, .inl (cyI, 15, .inl (fun _ => 0))), (mO, .inr (5, [.ref mOc, .ref mOt, .int 0, .int 0, .int 0])), (hp, .inr (6, [.ref hp_first, .ref hp_last, .ref hp_wait, .ref hp_broken, .ref hp_words, .ref hp_kinds, .ref hp_values, .ref hp_owners, .int 0, .int 0, .int 0, .int 32, .int 0])), (mWb, .inl (cyI, 15, .inl yR)), (mT, .inr (4, [.ref mTt, .int (-1), .int (-1), .int 0, .int 0, .int 0, .int 0])), (mTt, .inr (8, [.ref mTr, .int 60, .int 9, .int 0])), (mB, .inr (0, [.ref mL, .ref mBa, .ref mBd, .int 0, .int 0, .int 0, .int 0, .int 0, .int 0])), (mW, .inr (9, [.ref mWd, .ref mWs, .ref mWb, .ref mWm, .ref mWf, .ref mWu])), (mL, .inr (2, [.ref mLt, .int 0, .int 0, .int 0, .int 0, .int 0, .int 0, .int 0, .int 0, .int 0, .int 0, .int 0, .int (-1), .int 0])), (mWd, .inl (cyI, 15, .inl yR)), (mWs, .inl (cyI, 15, .inl yR))] := hD
  refine W.widen (k := 0) (n := 0) (Nat.le_of_ble_eq_true rfl) (Nat.le_of_ble_eq_true rfl) ?_
  refine lv_aload_n hx hb dX3_tick_58 rfl (lv_at hl 0 rfl) ?_
  refine va_get (D := (dC, dI)) (ci := 3) (v := .ref mS) (C := RX3) (T := TX3) (N := 7) hx hb hts hnX3 hown hK hP 0 rfl rfl 4 (by decide) hf42 (fun _ h9 => h9) rfl dX3_tick_59 ?_
  refine lv_aload_n hx hb dX3_tick_62 rfl (lv_at hl 1 rfl) ?_
  refine lv_aload_n hx hb dX3_tick_63 rfl (lv_at hl 0 rfl) ?_
  refine va_get (D := (dC, dI)) (ci := 3) (v := .ref mC) (C := RX3) (T := TX3) (N := 7) hx hb hts hnX3 hown hK hP 0 rfl rfl 1 (by decide) hf21 (fun _ h9 => h9) rfl dX3_tick_64 ?_
  refine lv_aload_n hx hb dX3_tick_67 rfl (lv_at hl 0 rfl) ?_
  refine va_get (D := (dC, dI)) (ci := 3) (v := .ref mW) (C := RX3) (T := TX3) (N := 7) hx hb hts hnX3 hown hK hP 0 rfl rfl 0 (by decide) hf12 (fun _ h9 => h9) rfl dX3_tick_68 ?_
  have hPc := hP.sub (ws' := [(mS, .inr (7, [.ref mSc, .int 0, .int 0, .int 0])), (hp, .inr (6, [.ref hp_first, .ref hp_last, .ref hp_wait, .ref hp_broken, .ref hp_words, .ref hp_kinds, .ref hp_values, .ref hp_owners, .int 0, .int 0, .int 0, .int 32, .int 0])), (mW, .inr (9, [.ref mWd, .ref mWs, .ref mWb, .ref mWm, .ref mWf, .ref mWu])), (mWd, .inl (cyI, 15, .inl yR)), (mWs, .inl (cyI, 15, .inl yR))]) [2, 7, 12, 14, 15] rfl
  have hDc := hD.sub (ws' := [(mS, .inr (7, [.ref mSc, .int 0, .int 0, .int 0])), (hp, .inr (6, [.ref hp_first, .ref hp_last, .ref hp_wait, .ref hp_broken, .ref hp_words, .ref hp_kinds, .ref hp_values, .ref hp_owners, .int 0, .int 0, .int 0, .int 32, .int 0])), (mW, .inr (9, [.ref mWd, .ref mWs, .ref mWb, .ref mWm, .ref mWf, .ref mWu])), (mWd, .inl (cyI, 15, .inl yR)), (mWs, .inl (cyI, 15, .inl yR))]) [2, 7, 12, 14, 15] (by decide) rfl
  refine yy_callv [2, 7, 12, 14, 15] [0, 1, 3, 4, 5, 6, 8, 9, 10, 11, 13] (wr := [(h0, .inr (3, [.ref mW, .ref mC, .ref mT, .ref mB, .ref mS, .ref mO, .int t])), (mC, .inr (1, [.ref mCh, .ref mCs, .int (-1)])), (mWm, .inl (cyI, 15, .inl (fun _ => 0))), (mWf, .inl (cyI, 15, .inl (fun _ => 0))), (mWu, .inl (cyI, 15, .inl (fun _ => 0))), (mO, .inr (5, [.ref mOc, .ref mOt, .int 0, .int 0, .int 0])), (mWb, .inl (cyI, 15, .inl yR)), (mT, .inr (4, [.ref mTt, .int (-1), .int (-1), .int 0, .int 0, .int 0, .int 0])), (mTt, .inr (8, [.ref mTr, .int 60, .int 9, .int 0])), (mB, .inr (0, [.ref mL, .ref mBa, .ref mBd, .int 0, .int 0, .int 0, .int 0, .int 0, .int 0])), (mL, .inr (2, [.ref mLt, .int 0, .int 0, .int 0, .int 0, .int 0, .int 0, .int 0, .int 0, .int 0, .int 0, .int 0, .int (-1), .int 0]))]) (va_runV (As := [.ref hp, .ref mC, .ref mW]) (rest := []) ⟨hx, hb, hml, hown, hts⟩ (b0_X7_pass_12 l dC dI cyI cyZ cyO H.size mS hp mC mW mSc hp_first hp_last hp_wait hp_broken hp_words hp_kinds hp_values hp_owners mWd mWs mWb mWm mWf mWu ) (cwV 3 hts gX3_tick_X7_pass rfl rfl rfl (by decide +kernel) ⟨Nat.le_of_ble_eq_true rfl, Nat.le_of_ble_eq_true rfl⟩) (yPreV hK hPc hDc (ci := 7) (q0 := 0) rfl rfl) rfl rfl hl.1 rfl (lv_room (Nat.le_of_ble_eq_true rfl)) dX3_tick_71 ⟨Nat.le_of_ble_eq_true rfl, Nat.le_of_ble_eq_true rfl⟩) hP hD hS hA rfl rfl (by decide) (by decide) (fun u_5 H locs hw hP hD hS => ?_)
  have hP : va_P (dC, dI) vwCl [(h0, .inr (3, [.ref mW, .ref mC, .ref mT, .ref mB, .ref mS, .ref mO, .int t])), (mC, .inr (1, [.ref mCh, .ref mCs, .int (-1)])), (mWm, .inl (cyI, 15, .inl (fun _ => 0))), (mWf, .inl (cyI, 15, .inl (fun _ => 0))), (mWu, .inl (cyI, 15, .inl (fun _ => 0))), (mO, .inr (5, [.ref mOc, .ref mOt, .int 0, .int 0, .int 0])), (mWb, .inl (cyI, 15, .inl yR)), (mT, .inr (4, [.ref mTt, .int (-1), .int (-1), .int 0, .int 0, .int 0, .int 0])), (mTt, .inr (8, [.ref mTr, .int 60, .int 9, .int 0])), (mB, .inr (0, [.ref mL, .ref mBa, .ref mBd, .int 0, .int 0, .int 0, .int 0, .int 0, .int 0])), (mL, .inr (2, [.ref mLt, .int 0, .int 0, .int 0, .int 0, .int 0, .int 0, .int 0, .int 0, .int 0, .int 0, .int 0, .int (-1), .int 0])), (mS, .inr (7, [.ref mSc, .int 0, .int 0, .int 0])), (hp, .inr (6, [.ref hp_first, .ref hp_last, .ref hp_wait, .ref hp_broken, .ref hp_words, .ref hp_kinds, .ref hp_values, .ref hp_owners, .int 0, .int 0, .int 0, .int 32, .int 0])), (mW, .inr (9, [.ref mWd, .ref mWs, .ref mWb, .ref mWm, .ref mWf, .ref mWu])), (mWd, .inl (cyI, 15, .inl yR)), (mWs, .inl (cyI, 15, .inl yR))] H := hP
  have hD : va_D A [(h0, .inr (3, [.ref mW, .ref mC, .ref mT, .ref mB, .ref mS, .ref mO, .int t])), (mC, .inr (1, [.ref mCh, .ref mCs, .int (-1)])), (mWm, .inl (cyI, 15, .inl (fun _ => 0))), (mWf, .inl (cyI, 15, .inl (fun _ => 0))), (mWu, .inl (cyI, 15, .inl (fun _ => 0))), (mO, .inr (5, [.ref mOc, .ref mOt, .int 0, .int 0, .int 0])), (mWb, .inl (cyI, 15, .inl yR)), (mT, .inr (4, [.ref mTt, .int (-1), .int (-1), .int 0, .int 0, .int 0, .int 0])), (mTt, .inr (8, [.ref mTr, .int 60, .int 9, .int 0])), (mB, .inr (0, [.ref mL, .ref mBa, .ref mBd, .int 0, .int 0, .int 0, .int 0, .int 0, .int 0])), (mL, .inr (2, [.ref mLt, .int 0, .int 0, .int 0, .int 0, .int 0, .int 0, .int 0, .int 0, .int 0, .int 0, .int 0, .int (-1), .int 0])), (mS, .inr (7, [.ref mSc, .int 0, .int 0, .int 0])), (hp, .inr (6, [.ref hp_first, .ref hp_last, .ref hp_wait, .ref hp_broken, .ref hp_words, .ref hp_kinds, .ref hp_values, .ref hp_owners, .int 0, .int 0, .int 0, .int 32, .int 0])), (mW, .inr (9, [.ref mWd, .ref mWs, .ref mWb, .ref mWm, .ref mWf, .ref mWu])), (mWd, .inl (cyI, 15, .inl yR)), (mWs, .inl (cyI, 15, .inl yR))] := hD
  refine W.widen (k := 0) (n := 0) (Nat.le_of_ble_eq_true rfl) (Nat.le_of_ble_eq_true rfl) ?_
  refine lv_aload_n hx hb dX3_tick_74 rfl (lv_at hl 0 rfl) ?_
  refine va_get (D := (dC, dI)) (ci := 3) (v := .ref mC) (C := RX3) (T := TX3) (N := 7) hx hb hts hnX3 hown hK hP 0 rfl rfl 1 (by decide) hf21 (fun _ h9 => h9) rfl dX3_tick_75 ?_
  refine lv_aload_n hx hb dX3_tick_78 rfl (lv_at hl 1 rfl) ?_
  refine lv_iconst (v := 1) hx hb dX3_tick_79 (by decide) ?_
  have hPc := hP.sub (ws' := [(mC, .inr (1, [.ref mCh, .ref mCs, .int (-1)])), (hp, .inr (6, [.ref hp_first, .ref hp_last, .ref hp_wait, .ref hp_broken, .ref hp_words, .ref hp_kinds, .ref hp_values, .ref hp_owners, .int 0, .int 0, .int 0, .int 32, .int 0]))]) [1, 12] rfl
  have hDc := hD.sub (ws' := [(mC, .inr (1, [.ref mCh, .ref mCs, .int (-1)])), (hp, .inr (6, [.ref hp_first, .ref hp_last, .ref hp_wait, .ref hp_broken, .ref hp_words, .ref hp_kinds, .ref hp_values, .ref hp_owners, .int 0, .int 0, .int 0, .int 32, .int 0]))]) [1, 12] (by decide) rfl
  refine yy_callv [1, 12] [0, 2, 3, 4, 5, 6, 7, 8, 9, 10, 11, 13, 14, 15] (wr := [(h0, .inr (3, [.ref mW, .ref mC, .ref mT, .ref mB, .ref mS, .ref mO, .int t])), (mWm, .inl (cyI, 15, .inl (fun _ => 0))), (mWf, .inl (cyI, 15, .inl (fun _ => 0))), (mWu, .inl (cyI, 15, .inl (fun _ => 0))), (mO, .inr (5, [.ref mOc, .ref mOt, .int 0, .int 0, .int 0])), (mWb, .inl (cyI, 15, .inl yR)), (mT, .inr (4, [.ref mTt, .int (-1), .int (-1), .int 0, .int 0, .int 0, .int 0])), (mTt, .inr (8, [.ref mTr, .int 60, .int 9, .int 0])), (mB, .inr (0, [.ref mL, .ref mBa, .ref mBd, .int 0, .int 0, .int 0, .int 0, .int 0, .int 0])), (mL, .inr (2, [.ref mLt, .int 0, .int 0, .int 0, .int 0, .int 0, .int 0, .int 0, .int 0, .int 0, .int 0, .int 0, .int (-1), .int 0])), (mS, .inr (7, [.ref mSc, .int 0, .int 0, .int 0])), (mW, .inr (9, [.ref mWd, .ref mWs, .ref mWb, .ref mWm, .ref mWf, .ref mWu])), (mWd, .inl (cyI, 15, .inl yR)), (mWs, .inl (cyI, 15, .inl yR))]) (va_runV (As := [.ref hp, .int 1]) (rest := []) ⟨hx, hb, hml, hown, hts⟩ (b0_X1_countUp_13 l dC dI cyI cyZ cyO H.size mC hp mCh mCs hp_first hp_last hp_wait hp_broken hp_words hp_kinds hp_values hp_owners ) (cwV 2 hts gX3_tick_X1_countUp rfl rfl rfl (by decide +kernel) ⟨Nat.le_of_ble_eq_true rfl, Nat.le_of_ble_eq_true rfl⟩) (yPreV hK hPc hDc (ci := 1) (q0 := 0) rfl rfl) rfl rfl hl.1 rfl (lv_room (Nat.le_of_ble_eq_true rfl)) dX3_tick_80 ⟨Nat.le_of_ble_eq_true rfl, Nat.le_of_ble_eq_true rfl⟩) hP hD hS hA rfl rfl (by decide) (by decide) (fun u_6 H locs hw hP hD hS => ?_)
  have hP : va_P (dC, dI) vwCl [(h0, .inr (3, [.ref mW, .ref mC, .ref mT, .ref mB, .ref mS, .ref mO, .int t])), (mWm, .inl (cyI, 15, .inl (fun _ => 0))), (mWf, .inl (cyI, 15, .inl (fun _ => 0))), (mWu, .inl (cyI, 15, .inl (fun _ => 0))), (mO, .inr (5, [.ref mOc, .ref mOt, .int 0, .int 0, .int 0])), (mWb, .inl (cyI, 15, .inl yR)), (mT, .inr (4, [.ref mTt, .int (-1), .int (-1), .int 0, .int 0, .int 0, .int 0])), (mTt, .inr (8, [.ref mTr, .int 60, .int 9, .int 0])), (mB, .inr (0, [.ref mL, .ref mBa, .ref mBd, .int 0, .int 0, .int 0, .int 0, .int 0, .int 0])), (mL, .inr (2, [.ref mLt, .int 0, .int 0, .int 0, .int 0, .int 0, .int 0, .int 0, .int 0, .int 0, .int 0, .int 0, .int (-1), .int 0])), (mS, .inr (7, [.ref mSc, .int 0, .int 0, .int 0])), (mW, .inr (9, [.ref mWd, .ref mWs, .ref mWb, .ref mWm, .ref mWf, .ref mWu])), (mWd, .inl (cyI, 15, .inl yR)), (mWs, .inl (cyI, 15, .inl yR)), (mC, .inr (1, [.ref mCh, .ref mCs, .int (-1)])), (hp, .inr (6, [.ref hp_first, .ref hp_last, .ref hp_wait, .ref hp_broken, .ref hp_words, .ref hp_kinds, .ref hp_values, .ref hp_owners, .int 0, .int 0, .int 0, .int 32, .int 0]))] H := hP
  have hD : va_D A [(h0, .inr (3, [.ref mW, .ref mC, .ref mT, .ref mB, .ref mS, .ref mO, .int t])), (mWm, .inl (cyI, 15, .inl (fun _ => 0))), (mWf, .inl (cyI, 15, .inl (fun _ => 0))), (mWu, .inl (cyI, 15, .inl (fun _ => 0))), (mO, .inr (5, [.ref mOc, .ref mOt, .int 0, .int 0, .int 0])), (mWb, .inl (cyI, 15, .inl yR)), (mT, .inr (4, [.ref mTt, .int (-1), .int (-1), .int 0, .int 0, .int 0, .int 0])), (mTt, .inr (8, [.ref mTr, .int 60, .int 9, .int 0])), (mB, .inr (0, [.ref mL, .ref mBa, .ref mBd, .int 0, .int 0, .int 0, .int 0, .int 0, .int 0])), (mL, .inr (2, [.ref mLt, .int 0, .int 0, .int 0, .int 0, .int 0, .int 0, .int 0, .int 0, .int 0, .int 0, .int 0, .int (-1), .int 0])), (mS, .inr (7, [.ref mSc, .int 0, .int 0, .int 0])), (mW, .inr (9, [.ref mWd, .ref mWs, .ref mWb, .ref mWm, .ref mWf, .ref mWu])), (mWd, .inl (cyI, 15, .inl yR)), (mWs, .inl (cyI, 15, .inl yR)), (mC, .inr (1, [.ref mCh, .ref mCs, .int (-1)])), (hp, .inr (6, [.ref hp_first, .ref hp_last, .ref hp_wait, .ref hp_broken, .ref hp_words, .ref hp_kinds, .ref hp_values, .ref hp_owners, .int 0, .int 0, .int 0, .int 32, .int 0]))] := hD
  refine W.widen (k := 0) (n := 0) (Nat.le_of_ble_eq_true rfl) (Nat.le_of_ble_eq_true rfl) ?_
  refine lv_aload_n hx hb dX3_tick_83 rfl (lv_at hl 0 rfl) ?_
  refine va_get (D := (dC, dI)) (ci := 3) (v := .ref mW) (C := RX3) (T := TX3) (N := 7) hx hb hts hnX3 hown hK hP 0 rfl rfl 0 (by decide) hf12 (fun _ h9 => h9) rfl dX3_tick_84 ?_
  have hPc := hP.sub (ws' := [(mW, .inr (9, [.ref mWd, .ref mWs, .ref mWb, .ref mWm, .ref mWf, .ref mWu])), (mWs, .inl (cyI, 15, .inl yR)), (mWb, .inl (cyI, 15, .inl yR))]) [11, 13, 5] rfl
  have hDc := hD.sub (ws' := [(mW, .inr (9, [.ref mWd, .ref mWs, .ref mWb, .ref mWm, .ref mWf, .ref mWu])), (mWs, .inl (cyI, 15, .inl yR)), (mWb, .inl (cyI, 15, .inl yR))]) [11, 13, 5] (by decide) rfl
  refine yy_callv [11, 13, 5] [0, 1, 2, 3, 4, 6, 7, 8, 9, 10, 12, 14, 15] (wr := [(h0, .inr (3, [.ref mW, .ref mC, .ref mT, .ref mB, .ref mS, .ref mO, .int t])), (mWm, .inl (cyI, 15, .inl (fun _ => 0))), (mWf, .inl (cyI, 15, .inl (fun _ => 0))), (mWu, .inl (cyI, 15, .inl (fun _ => 0))), (mO, .inr (5, [.ref mOc, .ref mOt, .int 0, .int 0, .int 0])), (mT, .inr (4, [.ref mTt, .int (-1), .int (-1), .int 0, .int 0, .int 0, .int 0])), (mTt, .inr (8, [.ref mTr, .int 60, .int 9, .int 0])), (mB, .inr (0, [.ref mL, .ref mBa, .ref mBd, .int 0, .int 0, .int 0, .int 0, .int 0, .int 0])), (mL, .inr (2, [.ref mLt, .int 0, .int 0, .int 0, .int 0, .int 0, .int 0, .int 0, .int 0, .int 0, .int 0, .int 0, .int (-1), .int 0])), (mS, .inr (7, [.ref mSc, .int 0, .int 0, .int 0])), (mWd, .inl (cyI, 15, .inl yR)), (mC, .inr (1, [.ref mCh, .ref mCs, .int (-1)])), (hp, .inr (6, [.ref hp_first, .ref hp_last, .ref hp_wait, .ref hp_broken, .ref hp_words, .ref hp_kinds, .ref hp_values, .ref hp_owners, .int 0, .int 0, .int 0, .int 32, .int 0]))]) (va_runV (As := []) (rest := []) ⟨hx, hb, hml, hown, hts⟩ (bS_X9_remember_44 l dC dI cyI cyZ cyO H.size mW mWd mWs mWb mWm mWf mWu ) (cwV 0 hts gX3_tick_X9_remember rfl rfl rfl (by decide +kernel) ⟨Nat.le_of_ble_eq_true rfl, Nat.le_of_ble_eq_true rfl⟩) (yPreV hK hPc hDc (ci := 9) (q0 := 0) rfl rfl) rfl rfl hl.1 rfl (lv_room (Nat.le_of_ble_eq_true rfl)) dX3_tick_87 ⟨Nat.le_of_ble_eq_true rfl, Nat.le_of_ble_eq_true rfl⟩) hP hD hS hA rfl rfl (by decide) (by decide) (fun u_7 H locs hw hP hD hS => ?_)
  have hP : va_P (dC, dI) vwCl [(h0, .inr (3, [.ref mW, .ref mC, .ref mT, .ref mB, .ref mS, .ref mO, .int t])), (mWm, .inl (cyI, 15, .inl (fun _ => 0))), (mWf, .inl (cyI, 15, .inl (fun _ => 0))), (mWu, .inl (cyI, 15, .inl (fun _ => 0))), (mO, .inr (5, [.ref mOc, .ref mOt, .int 0, .int 0, .int 0])), (mT, .inr (4, [.ref mTt, .int (-1), .int (-1), .int 0, .int 0, .int 0, .int 0])), (mTt, .inr (8, [.ref mTr, .int 60, .int 9, .int 0])), (mB, .inr (0, [.ref mL, .ref mBa, .ref mBd, .int 0, .int 0, .int 0, .int 0, .int 0, .int 0])), (mL, .inr (2, [.ref mLt, .int 0, .int 0, .int 0, .int 0, .int 0, .int 0, .int 0, .int 0, .int 0, .int 0, .int 0, .int (-1), .int 0])), (mS, .inr (7, [.ref mSc, .int 0, .int 0, .int 0])), (mWd, .inl (cyI, 15, .inl yR)), (mC, .inr (1, [.ref mCh, .ref mCs, .int (-1)])), (hp, .inr (6, [.ref hp_first, .ref hp_last, .ref hp_wait, .ref hp_broken, .ref hp_words, .ref hp_kinds, .ref hp_values, .ref hp_owners, .int 0, .int 0, .int 0, .int 32, .int 0])), (mW, .inr (9, [.ref mWd, .ref mWs, .ref mWb, .ref mWm, .ref mWf, .ref mWu])), (mWs, .inl (cyI, 15, .inl yR)), (mWb, .inl (cyI, 15, .inl yR))] H := hP
  have hD : va_D A [(h0, .inr (3, [.ref mW, .ref mC, .ref mT, .ref mB, .ref mS, .ref mO, .int t])), (mWm, .inl (cyI, 15, .inl (fun _ => 0))), (mWf, .inl (cyI, 15, .inl (fun _ => 0))), (mWu, .inl (cyI, 15, .inl (fun _ => 0))), (mO, .inr (5, [.ref mOc, .ref mOt, .int 0, .int 0, .int 0])), (mT, .inr (4, [.ref mTt, .int (-1), .int (-1), .int 0, .int 0, .int 0, .int 0])), (mTt, .inr (8, [.ref mTr, .int 60, .int 9, .int 0])), (mB, .inr (0, [.ref mL, .ref mBa, .ref mBd, .int 0, .int 0, .int 0, .int 0, .int 0, .int 0])), (mL, .inr (2, [.ref mLt, .int 0, .int 0, .int 0, .int 0, .int 0, .int 0, .int 0, .int 0, .int 0, .int 0, .int 0, .int (-1), .int 0])), (mS, .inr (7, [.ref mSc, .int 0, .int 0, .int 0])), (mWd, .inl (cyI, 15, .inl yR)), (mC, .inr (1, [.ref mCh, .ref mCs, .int (-1)])), (hp, .inr (6, [.ref hp_first, .ref hp_last, .ref hp_wait, .ref hp_broken, .ref hp_words, .ref hp_kinds, .ref hp_values, .ref hp_owners, .int 0, .int 0, .int 0, .int 32, .int 0])), (mW, .inr (9, [.ref mWd, .ref mWs, .ref mWb, .ref mWm, .ref mWf, .ref mWu])), (mWs, .inl (cyI, 15, .inl yR)), (mWb, .inl (cyI, 15, .inl yR))] := hD
  refine W.widen (k := 0) (n := 0) (Nat.le_of_ble_eq_true rfl) (Nat.le_of_ble_eq_true rfl) ?_
  refine lv_aload_n hx hb dX3_tick_90 rfl (lv_at hl 0 rfl) ?_
  refine lv_dup hx hb dX3_tick_91 rfl ?_
  refine va_get (D := (dC, dI)) (ci := 3) (v := .int t) (C := RX3) (T := TX3) (N := 7) hx hb hts hnX3 hown hK hP 0 rfl rfl 6 (by decide) hf63 (fun _ h9 => h9) rfl dX3_tick_92 ?_
  refine lv_iconst (v := 1) hx hb dX3_tick_95 (by decide) ?_
  refine lv_iadd hx hb dX3_tick_96 ?_
  refine va_put (D := (dC, dI)) (ci := 3) (v := .int (t + 1)) (ty := .int) (C := RX3) (T := TX3) (N := 7) hx hb hts hnX3 tyX3 tyX3_ok nmX3 hown hK hP hD hS 0 rfl rfl 6 (by decide) hf63 (fun _ h9 => h9) rfl (by decide +kernel) rfl rfl (Nat.le_of_ble_eq_true rfl) dX3_tick_97 (fun H locs hP hD hS => ?_)
  have hP : va_P (dC, dI) vwCl [(h0, .inr (3, [.ref mW, .ref mC, .ref mT, .ref mB, .ref mS, .ref mO, .int (t + 1)])), (mWm, .inl (cyI, 15, .inl (fun _ => 0))), (mWf, .inl (cyI, 15, .inl (fun _ => 0))), (mWu, .inl (cyI, 15, .inl (fun _ => 0))), (mO, .inr (5, [.ref mOc, .ref mOt, .int 0, .int 0, .int 0])), (mT, .inr (4, [.ref mTt, .int (-1), .int (-1), .int 0, .int 0, .int 0, .int 0])), (mTt, .inr (8, [.ref mTr, .int 60, .int 9, .int 0])), (mB, .inr (0, [.ref mL, .ref mBa, .ref mBd, .int 0, .int 0, .int 0, .int 0, .int 0, .int 0])), (mL, .inr (2, [.ref mLt, .int 0, .int 0, .int 0, .int 0, .int 0, .int 0, .int 0, .int 0, .int 0, .int 0, .int 0, .int (-1), .int 0])), (mS, .inr (7, [.ref mSc, .int 0, .int 0, .int 0])), (mWd, .inl (cyI, 15, .inl yR)), (mC, .inr (1, [.ref mCh, .ref mCs, .int (-1)])), (hp, .inr (6, [.ref hp_first, .ref hp_last, .ref hp_wait, .ref hp_broken, .ref hp_words, .ref hp_kinds, .ref hp_values, .ref hp_owners, .int 0, .int 0, .int 0, .int 32, .int 0])), (mW, .inr (9, [.ref mWd, .ref mWs, .ref mWb, .ref mWm, .ref mWf, .ref mWu])), (mWs, .inl (cyI, 15, .inl yR)), (mWb, .inl (cyI, 15, .inl yR))] H := hP
  have hD : va_D A [(h0, .inr (3, [.ref mW, .ref mC, .ref mT, .ref mB, .ref mS, .ref mO, .int (t + 1)])), (mWm, .inl (cyI, 15, .inl (fun _ => 0))), (mWf, .inl (cyI, 15, .inl (fun _ => 0))), (mWu, .inl (cyI, 15, .inl (fun _ => 0))), (mO, .inr (5, [.ref mOc, .ref mOt, .int 0, .int 0, .int 0])), (mT, .inr (4, [.ref mTt, .int (-1), .int (-1), .int 0, .int 0, .int 0, .int 0])), (mTt, .inr (8, [.ref mTr, .int 60, .int 9, .int 0])), (mB, .inr (0, [.ref mL, .ref mBa, .ref mBd, .int 0, .int 0, .int 0, .int 0, .int 0, .int 0])), (mL, .inr (2, [.ref mLt, .int 0, .int 0, .int 0, .int 0, .int 0, .int 0, .int 0, .int 0, .int 0, .int 0, .int 0, .int (-1), .int 0])), (mS, .inr (7, [.ref mSc, .int 0, .int 0, .int 0])), (mWd, .inl (cyI, 15, .inl yR)), (mC, .inr (1, [.ref mCh, .ref mCs, .int (-1)])), (hp, .inr (6, [.ref hp_first, .ref hp_last, .ref hp_wait, .ref hp_broken, .ref hp_words, .ref hp_kinds, .ref hp_values, .ref hp_owners, .int 0, .int 0, .int 0, .int 32, .int 0])), (mW, .inr (9, [.ref mWd, .ref mWs, .ref mWb, .ref mWm, .ref mWf, .ref mWu])), (mWs, .inl (cyI, 15, .inl yR)), (mWb, .inl (cyI, 15, .inl yR))] := hD
  refine W.widen (k := 0) (n := 0) (Nat.le_of_ble_eq_true rfl) (Nat.le_of_ble_eq_true rfl) ?_
  exact yy_vret () hx hb hr hlk hsz hAe hK hP hD hS [0, 13, 10, 14, 15, 1, 2, 3, 11, 5, 6, 7, 8, 9, 4, 12] rfl rfl (by decide) (trivial) dX3_tick_100
