set_option maxHeartbeats 4000000 in
set_option maxRecDepth 100000 in
theorem g_Spass (l : Launch) (dC : Nat → ClassId) (dI : Nat → Nat → Nat) (cyI cyZ cyO : ClassId) (sz : Nat) (h0 : Nat) (h0_ready : Int32) (h0_error : Int32) (h0_data : Int32) (h0_counted : Nat) (gh0_counted : Nat → Int32) (ap : Nat) (ap_slaves : Int32) (ap_registers : Int32) (ap_depth : Int32) (ap_limit : Int32) (ap_changes : Int32) (ap_first : Nat) (ap_last : Nat) (ap_wait : Nat) (gap_wait : Nat → Int32) (ap_broken : Nat) (gap_broken : Nat → Int32) (ap_words : Nat) (gap_words : Nat → Int32) (ap_kinds : Nat) (gap_kinds : Nat → Int32) (ap_values : Nat) (ap_owners : Nat) (gap_owners : Nat → Int32) (ac : Nat) (ac_fresh : Int32) (ac_held : Nat) (gac_held : Nat → Int32) (ac_spent : Nat) (gac_spent : Nat → Int32) (aw : Nat) (aw_driven : Nat) (gaw_driven : Nat → Int32) (aw_seen : Nat) (gaw_seen : Nat → Int32) (aw_before : Nat) (aw_masks : Nat) (aw_from : Nat) (aw_until : Nat) (h_ap_slaves : yr 0 8 ap_slaves) (h_ap_registers : yr 0 48 ap_registers) (h_ap_depth : yr 0 4 ap_depth) : Met l yX7_pass wsX7_pass ({ frames := 4, cells := 0, slots := 0, locals := 98 }) (yPre [.ref h0, .ref ap, .ref ac, .ref aw] (dC, dI) [(h0, .inr (7, [.ref h0_counted, .int h0_ready, .int h0_error, .int h0_data])), (h0_counted, .inl (cyI, 8, .inl gh0_counted)), (ap, .inr (6, [.ref ap_first, .ref ap_last, .ref ap_wait, .ref ap_broken, .ref ap_words, .ref ap_kinds, .ref ap_values, .ref ap_owners, .int ap_slaves, .int ap_registers, .int ap_depth, .int ap_limit, .int ap_changes])), (ap_wait, .inl (cyI, 8, .inl gap_wait)), (ap_broken, .inl (cyZ, 8, .inl gap_broken)), (ap_words, .inl (cyI, 48, .inl gap_words)), (ap_kinds, .inl (cyI, 48, .inl gap_kinds)), (ap_owners, .inl (cyI, 48, .inl gap_owners)), (ac, .inr (1, [.ref ac_held, .ref ac_spent, .int ac_fresh])), (ac_held, .inl (cyI, 48, .inl gac_held)), (ac_spent, .inl (cyI, 48, .inl gac_spent)), (aw, .inr (9, [.ref aw_driven, .ref aw_seen, .ref aw_before, .ref aw_masks, .ref aw_from, .ref aw_until])), (aw_driven, .inl (cyI, 15, .inl gaw_driven)), (aw_seen, .inl (cyI, 15, .inl gaw_seen))] (yT cyI cyZ cyO) sz) (yQv (fun (u : yU) => True) (dC, dI) [(h0, .inr (7, [.ref h0_counted, .int h0_ready, .int h0_error, .int h0_data])), (h0_counted, .inl (cyI, 8, .inl gh0_counted)), (ap, .inr (6, [.ref ap_first, .ref ap_last, .ref ap_wait, .ref ap_broken, .ref ap_words, .ref ap_kinds, .ref ap_values, .ref ap_owners, .int ap_slaves, .int ap_registers, .int ap_depth, .int ap_limit, .int ap_changes])), (ap_wait, .inl (cyI, 8, .inl gap_wait)), (ap_broken, .inl (cyZ, 8, .inl gap_broken)), (ap_words, .inl (cyI, 48, .inl gap_words)), (ap_kinds, .inl (cyI, 48, .inl gap_kinds)), (ap_owners, .inl (cyI, 48, .inl gap_owners)), (ac, .inr (1, [.ref ac_held, .ref ac_spent, .int ac_fresh])), (ac_held, .inl (cyI, 48, .inl gac_held)), (ac_spent, .inl (cyI, 48, .inl gac_spent)), (aw, .inr (9, [.ref aw_driven, .ref aw_seen, .ref aw_before, .ref aw_masks, .ref aw_from, .ref aw_until])), (aw_driven, .inl (cyI, 15, .inl gaw_driven)), (aw_seen, .inl (cyI, 15, .inl gaw_seen))] (yT cyI cyZ cyO) sz (fun u => [(h0, .inr (7, [.ref h0_counted, .int (u.1 0), .int (u.1 1), .int (u.1 2)])), (h0_counted, .inl (cyI, 8, .inl (u.2 0))), (ap, .inr (6, [.ref ap_first, .ref ap_last, .ref ap_wait, .ref ap_broken, .ref ap_words, .ref ap_kinds, .ref ap_values, .ref ap_owners, .int ap_slaves, .int ap_registers, .int ap_depth, .int ap_limit, .int ap_changes])), (ap_wait, .inl (cyI, 8, .inl gap_wait)), (ap_broken, .inl (cyZ, 8, .inl gap_broken)), (ap_words, .inl (cyI, 48, .inl gap_words)), (ap_kinds, .inl (cyI, 48, .inl gap_kinds)), (ap_owners, .inl (cyI, 48, .inl gap_owners)), (ac, .inr (1, [.ref ac_held, .ref ac_spent, .int (u.1 3)])), (ac_held, .inl (cyI, 48, .inl (u.2 1))), (ac_spent, .inl (cyI, 48, .inl (u.2 2))), (aw, .inr (9, [.ref aw_driven, .ref aw_seen, .ref aw_before, .ref aw_masks, .ref aw_from, .ref aw_until])), (aw_driven, .inl (cyI, 15, .inl (u.2 3))), (aw_seen, .inl (cyI, 15, .inl gaw_seen))])) 0 0 (va_A [(h0, .inr (7, [.ref h0_counted, .int h0_ready, .int h0_error, .int h0_data])), (h0_counted, .inl (cyI, 8, .inl gh0_counted)), (ap, .inr (6, [.ref ap_first, .ref ap_last, .ref ap_wait, .ref ap_broken, .ref ap_words, .ref ap_kinds, .ref ap_values, .ref ap_owners, .int ap_slaves, .int ap_registers, .int ap_depth, .int ap_limit, .int ap_changes])), (ap_wait, .inl (cyI, 8, .inl gap_wait)), (ap_broken, .inl (cyZ, 8, .inl gap_broken)), (ap_words, .inl (cyI, 48, .inl gap_words)), (ap_kinds, .inl (cyI, 48, .inl gap_kinds)), (ap_owners, .inl (cyI, 48, .inl gap_owners)), (ac, .inr (1, [.ref ac_held, .ref ac_spent, .int ac_fresh])), (ac_held, .inl (cyI, 48, .inl gac_held)), (ac_spent, .inl (cyI, 48, .inl gac_spent)), (aw, .inr (9, [.ref aw_driven, .ref aw_seen, .ref aw_before, .ref aw_masks, .ref aw_from, .ref aw_until])), (aw_driven, .inl (cyI, 15, .inl gaw_driven)), (aw_seen, .inl (cyI, 15, .inl gaw_seen))] sz) := by
  refine yMet (cc := cX7_pass) (maxL := 7) (ret := none) (by decide) rfl (Nat.le_of_ble_eq_true rfl) ?_
  intro p e s m below meth c A hx hb hr hlk hml hts hown hnm hsz hAe hP hK hD hA hS ls hl
  have hl : lv_has ls 7 [(0, .ref h0), (1, .ref ap), (2, .ref ac), (3, .ref aw)] := hl
  have hf27 := hts (.fieldLink RX7 27 "BusBridge$Wires" "driven" "[I") (by decide +kernel)
  have hf32 := hts (.fieldLink RX7 32 "BusBridge$Wires" "seen" "[I") (by decide +kernel)
  have hf35 := hts (.fieldLink RX7 35 "BusBridge$Slaves" "ready" "I") (by decide +kernel)
  have hf39 := hts (.fieldLink RX7 39 "BusBridge$Slaves" "error" "I") (by decide +kernel)
  have hf42 := hts (.fieldLink RX7 42 "BusBridge$Slaves" "data" "I") (by decide +kernel)
  have hf45 := hts (.fieldLink RX7 45 "BusBridge$Plan" "slaves" "I") (by decide +kernel)
  have hnX6 : ∀ w ∈ wsX60, w ∈ wsX7_pass := by decide +kernel
  have hnX7 : ∀ w ∈ wsX70, w ∈ wsX7_pass := by decide +kernel
  have hnX9 : ∀ w ∈ wsX90, w ∈ wsX7_pass := by decide +kernel
  refine lv_aload_n hx hb dX7_pass_0 rfl (lv_at hl 3 rfl) ?_
  refine va_get (D := (dC, dI)) (ci := 9) (v := .ref aw_driven) (C := RX9) (T := TX9) (N := 6) hx hb hts hnX9 hown hK hP 11 rfl rfl 0 (by decide) hf27 (fun _ h9 => h9) rfl dX7_pass_1 ?_
  refine lv_bipush (v := 14) hx hb dX7_pass_4 (by decide) ?_
  refine va_iald hx hb hK hP 12 0 rfl rfl (yin (by decide)) dX7_pass_6 ?_
  refine lv_topi (fun v6 ev6 => ?_)
  refine lv_istore (lv' := [(4, .int v6), (0, .ref h0), (1, .ref ap), (2, .ref ac), (3, .ref aw)]) hx hb dX7_pass_7 hl (by decide) rfl (fun ls hl => ?_)
  refine lv_aload_n hx hb dX7_pass_9 rfl (lv_at hl 4 rfl) ?_
  refine va_get (D := (dC, dI)) (ci := 9) (v := .ref aw_seen) (C := RX9) (T := TX9) (N := 6) hx hb hts hnX9 hown hK hP 11 rfl rfl 1 (by decide) hf32 (fun _ h9 => h9) rfl dX7_pass_10 ?_
  refine lv_bipush (v := 7) hx hb dX7_pass_13 (by decide) ?_
  refine va_iald hx hb hK hP 13 0 rfl rfl (yin (by decide)) dX7_pass_15 ?_
  refine lv_topi (fun v15 ev15 => ?_)
  refine lv_istore (lv' := [(5, .int v15), (4, .int v6), (0, .ref h0), (1, .ref ap), (2, .ref ac), (3, .ref aw)]) hx hb dX7_pass_16 hl (by decide) rfl (fun ls hl => ?_)
  refine lv_aload_n hx hb dX7_pass_18 rfl (lv_at hl 2 rfl) ?_
  refine lv_iconst (v := 0) hx hb dX7_pass_19 (by decide) ?_
  refine va_put (D := (dC, dI)) (ci := 7) (v := .int 0) (ty := .int) (C := RX7) (T := TX7) (N := 4) hx hb hts hnX7 tyX7 tyX7_ok nmX7 hown hK hP hD hS 0 rfl rfl 1 (by decide) hf35 (fun _ h9 => h9) rfl (by decide +kernel) rfl rfl (Nat.le_of_ble_eq_true rfl) dX7_pass_20 (fun H locs hP hD hS => ?_)
  have hP : va_P (dC, dI) vwCl [(h0, .inr (7, [.ref h0_counted, .int 0, .int h0_error, .int h0_data])), (h0_counted, .inl (cyI, 8, .inl gh0_counted)), (ap, .inr (6, [.ref ap_first, .ref ap_last, .ref ap_wait, .ref ap_broken, .ref ap_words, .ref ap_kinds, .ref ap_values, .ref ap_owners, .int ap_slaves, .int ap_registers, .int ap_depth, .int ap_limit, .int ap_changes])), (ap_wait, .inl (cyI, 8, .inl gap_wait)), (ap_broken, .inl (cyZ, 8, .inl gap_broken)), (ap_words, .inl (cyI, 48, .inl gap_words)), (ap_kinds, .inl (cyI, 48, .inl gap_kinds)), (ap_owners, .inl (cyI, 48, .inl gap_owners)), (ac, .inr (1, [.ref ac_held, .ref ac_spent, .int ac_fresh])), (ac_held, .inl (cyI, 48, .inl gac_held)), (ac_spent, .inl (cyI, 48, .inl gac_spent)), (aw, .inr (9, [.ref aw_driven, .ref aw_seen, .ref aw_before, .ref aw_masks, .ref aw_from, .ref aw_until])), (aw_driven, .inl (cyI, 15, .inl gaw_driven)), (aw_seen, .inl (cyI, 15, .inl gaw_seen))] H := hP
  have hD : va_D A [(h0, .inr (7, [.ref h0_counted, .int 0, .int h0_error, .int h0_data])), (h0_counted, .inl (cyI, 8, .inl gh0_counted)), (ap, .inr (6, [.ref ap_first, .ref ap_last, .ref ap_wait, .ref ap_broken, .ref ap_words, .ref ap_kinds, .ref ap_values, .ref ap_owners, .int ap_slaves, .int ap_registers, .int ap_depth, .int ap_limit, .int ap_changes])), (ap_wait, .inl (cyI, 8, .inl gap_wait)), (ap_broken, .inl (cyZ, 8, .inl gap_broken)), (ap_words, .inl (cyI, 48, .inl gap_words)), (ap_kinds, .inl (cyI, 48, .inl gap_kinds)), (ap_owners, .inl (cyI, 48, .inl gap_owners)), (ac, .inr (1, [.ref ac_held, .ref ac_spent, .int ac_fresh])), (ac_held, .inl (cyI, 48, .inl gac_held)), (ac_spent, .inl (cyI, 48, .inl gac_spent)), (aw, .inr (9, [.ref aw_driven, .ref aw_seen, .ref aw_before, .ref aw_masks, .ref aw_from, .ref aw_until])), (aw_driven, .inl (cyI, 15, .inl gaw_driven)), (aw_seen, .inl (cyI, 15, .inl gaw_seen))] := hD
  refine lv_aload_n hx hb dX7_pass_23 rfl (lv_at hl 2 rfl) ?_
  refine lv_iconst (v := 0) hx hb dX7_pass_24 (by decide) ?_
  refine va_put (D := (dC, dI)) (ci := 7) (v := .int 0) (ty := .int) (C := RX7) (T := TX7) (N := 4) hx hb hts hnX7 tyX7 tyX7_ok nmX7 hown hK hP hD hS 0 rfl rfl 2 (by decide) hf39 (fun _ h9 => h9) rfl (by decide +kernel) rfl rfl (Nat.le_of_ble_eq_true rfl) dX7_pass_25 (fun H locs hP hD hS => ?_)
  have hP : va_P (dC, dI) vwCl [(h0, .inr (7, [.ref h0_counted, .int 0, .int 0, .int h0_data])), (h0_counted, .inl (cyI, 8, .inl gh0_counted)), (ap, .inr (6, [.ref ap_first, .ref ap_last, .ref ap_wait, .ref ap_broken, .ref ap_words, .ref ap_kinds, .ref ap_values, .ref ap_owners, .int ap_slaves, .int ap_registers, .int ap_depth, .int ap_limit, .int ap_changes])), (ap_wait, .inl (cyI, 8, .inl gap_wait)), (ap_broken, .inl (cyZ, 8, .inl gap_broken)), (ap_words, .inl (cyI, 48, .inl gap_words)), (ap_kinds, .inl (cyI, 48, .inl gap_kinds)), (ap_owners, .inl (cyI, 48, .inl gap_owners)), (ac, .inr (1, [.ref ac_held, .ref ac_spent, .int ac_fresh])), (ac_held, .inl (cyI, 48, .inl gac_held)), (ac_spent, .inl (cyI, 48, .inl gac_spent)), (aw, .inr (9, [.ref aw_driven, .ref aw_seen, .ref aw_before, .ref aw_masks, .ref aw_from, .ref aw_until])), (aw_driven, .inl (cyI, 15, .inl gaw_driven)), (aw_seen, .inl (cyI, 15, .inl gaw_seen))] H := hP
  have hD : va_D A [(h0, .inr (7, [.ref h0_counted, .int 0, .int 0, .int h0_data])), (h0_counted, .inl (cyI, 8, .inl gh0_counted)), (ap, .inr (6, [.ref ap_first, .ref ap_last, .ref ap_wait, .ref ap_broken, .ref ap_words, .ref ap_kinds, .ref ap_values, .ref ap_owners, .int ap_slaves, .int ap_registers, .int ap_depth, .int ap_limit, .int ap_changes])), (ap_wait, .inl (cyI, 8, .inl gap_wait)), (ap_broken, .inl (cyZ, 8, .inl gap_broken)), (ap_words, .inl (cyI, 48, .inl gap_words)), (ap_kinds, .inl (cyI, 48, .inl gap_kinds)), (ap_owners, .inl (cyI, 48, .inl gap_owners)), (ac, .inr (1, [.ref ac_held, .ref ac_spent, .int ac_fresh])), (ac_held, .inl (cyI, 48, .inl gac_held)), (ac_spent, .inl (cyI, 48, .inl gac_spent)), (aw, .inr (9, [.ref aw_driven, .ref aw_seen, .ref aw_before, .ref aw_masks, .ref aw_from, .ref aw_until])), (aw_driven, .inl (cyI, 15, .inl gaw_driven)), (aw_seen, .inl (cyI, 15, .inl gaw_seen))] := hD
  refine lv_aload_n hx hb dX7_pass_28 rfl (lv_at hl 2 rfl) ?_
  refine lv_iload hx hb dX7_pass_29 (lv_at hl 1 rfl) ?_
  refine va_put (D := (dC, dI)) (ci := 7) (v := .int v6) (ty := .int) (C := RX7) (T := TX7) (N := 4) hx hb hts hnX7 tyX7 tyX7_ok nmX7 hown hK hP hD hS 0 rfl rfl 3 (by decide) hf42 (fun _ h9 => h9) rfl (by decide +kernel) rfl rfl (Nat.le_of_ble_eq_true rfl) dX7_pass_31 (fun H locs hP hD hS => ?_)
  have hP : va_P (dC, dI) vwCl [(h0, .inr (7, [.ref h0_counted, .int 0, .int 0, .int v6])), (h0_counted, .inl (cyI, 8, .inl gh0_counted)), (ap, .inr (6, [.ref ap_first, .ref ap_last, .ref ap_wait, .ref ap_broken, .ref ap_words, .ref ap_kinds, .ref ap_values, .ref ap_owners, .int ap_slaves, .int ap_registers, .int ap_depth, .int ap_limit, .int ap_changes])), (ap_wait, .inl (cyI, 8, .inl gap_wait)), (ap_broken, .inl (cyZ, 8, .inl gap_broken)), (ap_words, .inl (cyI, 48, .inl gap_words)), (ap_kinds, .inl (cyI, 48, .inl gap_kinds)), (ap_owners, .inl (cyI, 48, .inl gap_owners)), (ac, .inr (1, [.ref ac_held, .ref ac_spent, .int ac_fresh])), (ac_held, .inl (cyI, 48, .inl gac_held)), (ac_spent, .inl (cyI, 48, .inl gac_spent)), (aw, .inr (9, [.ref aw_driven, .ref aw_seen, .ref aw_before, .ref aw_masks, .ref aw_from, .ref aw_until])), (aw_driven, .inl (cyI, 15, .inl gaw_driven)), (aw_seen, .inl (cyI, 15, .inl gaw_seen))] H := hP
  have hD : va_D A [(h0, .inr (7, [.ref h0_counted, .int 0, .int 0, .int v6])), (h0_counted, .inl (cyI, 8, .inl gh0_counted)), (ap, .inr (6, [.ref ap_first, .ref ap_last, .ref ap_wait, .ref ap_broken, .ref ap_words, .ref ap_kinds, .ref ap_values, .ref ap_owners, .int ap_slaves, .int ap_registers, .int ap_depth, .int ap_limit, .int ap_changes])), (ap_wait, .inl (cyI, 8, .inl gap_wait)), (ap_broken, .inl (cyZ, 8, .inl gap_broken)), (ap_words, .inl (cyI, 48, .inl gap_words)), (ap_kinds, .inl (cyI, 48, .inl gap_kinds)), (ap_owners, .inl (cyI, 48, .inl gap_owners)), (ac, .inr (1, [.ref ac_held, .ref ac_spent, .int ac_fresh])), (ac_held, .inl (cyI, 48, .inl gac_held)), (ac_spent, .inl (cyI, 48, .inl gac_spent)), (aw, .inr (9, [.ref aw_driven, .ref aw_seen, .ref aw_before, .ref aw_masks, .ref aw_from, .ref aw_until])), (aw_driven, .inl (cyI, 15, .inl gaw_driven)), (aw_seen, .inl (cyI, 15, .inl gaw_seen))] := hD
  refine lv_iconst (v := 0) hx hb dX7_pass_34 (by decide) ?_
  refine lv_istore (lv' := [(6, .int 0), (5, .int v15), (4, .int v6), (0, .ref h0), (1, .ref ap), (2, .ref ac), (3, .ref aw)]) hx hb dX7_pass_35 hl (by decide) rfl (fun ls hl => ?_)
  have J37 : ∀ (n37 : Nat) (j37_cac_held : Nat → Int32) (j37_cac_spent : Nat → Int32) (j37_ch0_counted : Nat → Int32) (j37_fac_2 : Int32) (j37_fh0_1 : Int32) (j37_fh0_2 : Int32) (j37_fh0_3 : Int32) (j37_l6 : Int32) (H : Heap) (locs : List Loc) (ls : Array Slot), (8 - (j37_l6 : Int32).toInt).toNat < n37 → yr 0 8 j37_l6 → va_P (dC, dI) vwCl [(h0, .inr (7, [.ref h0_counted, .int j37_fh0_1, .int j37_fh0_2, .int j37_fh0_3])), (h0_counted, .inl (cyI, 8, .inl j37_ch0_counted)), (ap, .inr (6, [.ref ap_first, .ref ap_last, .ref ap_wait, .ref ap_broken, .ref ap_words, .ref ap_kinds, .ref ap_values, .ref ap_owners, .int ap_slaves, .int ap_registers, .int ap_depth, .int ap_limit, .int ap_changes])), (ap_wait, .inl (cyI, 8, .inl gap_wait)), (ap_broken, .inl (cyZ, 8, .inl gap_broken)), (ap_words, .inl (cyI, 48, .inl gap_words)), (ap_kinds, .inl (cyI, 48, .inl gap_kinds)), (ap_owners, .inl (cyI, 48, .inl gap_owners)), (ac, .inr (1, [.ref ac_held, .ref ac_spent, .int j37_fac_2])), (ac_held, .inl (cyI, 48, .inl j37_cac_held)), (ac_spent, .inl (cyI, 48, .inl j37_cac_spent)), (aw, .inr (9, [.ref aw_driven, .ref aw_seen, .ref aw_before, .ref aw_masks, .ref aw_from, .ref aw_until])), (aw_driven, .inl (cyI, 15, .inl gaw_driven)), (aw_seen, .inl (cyI, 15, .inl gaw_seen))] H → va_D A [(h0, .inr (7, [.ref h0_counted, .int j37_fh0_1, .int j37_fh0_2, .int j37_fh0_3])), (h0_counted, .inl (cyI, 8, .inl j37_ch0_counted)), (ap, .inr (6, [.ref ap_first, .ref ap_last, .ref ap_wait, .ref ap_broken, .ref ap_words, .ref ap_kinds, .ref ap_values, .ref ap_owners, .int ap_slaves, .int ap_registers, .int ap_depth, .int ap_limit, .int ap_changes])), (ap_wait, .inl (cyI, 8, .inl gap_wait)), (ap_broken, .inl (cyZ, 8, .inl gap_broken)), (ap_words, .inl (cyI, 48, .inl gap_words)), (ap_kinds, .inl (cyI, 48, .inl gap_kinds)), (ap_owners, .inl (cyI, 48, .inl gap_owners)), (ac, .inr (1, [.ref ac_held, .ref ac_spent, .int j37_fac_2])), (ac_held, .inl (cyI, 48, .inl j37_cac_held)), (ac_spent, .inl (cyI, 48, .inl j37_cac_spent)), (aw, .inr (9, [.ref aw_driven, .ref aw_seen, .ref aw_before, .ref aw_masks, .ref aw_from, .ref aw_until])), (aw_driven, .inl (cyI, 15, .inl gaw_driven)), (aw_seen, .inl (cyI, 15, .inl gaw_seen))] → va_S A s.heap H locs → lv_has ls 7 [(0, .ref h0), (1, .ref ap), (2, .ref ac), (3, .ref aw), (4, .int v6), (5, .int v15), (6, .int j37_l6)] → W p l e ({ frames := 4, cells := 0, slots := 0, locals := 98 } : Room) s m [.ref h0, .ref ap, .ref ac, .ref aw].toArray below meth c H locs 0 0 (MQ below (yQv (fun (u : yU) => True) (dC, dI) [(h0, .inr (7, [.ref h0_counted, .int h0_ready, .int h0_error, .int h0_data])), (h0_counted, .inl (cyI, 8, .inl gh0_counted)), (ap, .inr (6, [.ref ap_first, .ref ap_last, .ref ap_wait, .ref ap_broken, .ref ap_words, .ref ap_kinds, .ref ap_values, .ref ap_owners, .int ap_slaves, .int ap_registers, .int ap_depth, .int ap_limit, .int ap_changes])), (ap_wait, .inl (cyI, 8, .inl gap_wait)), (ap_broken, .inl (cyZ, 8, .inl gap_broken)), (ap_words, .inl (cyI, 48, .inl gap_words)), (ap_kinds, .inl (cyI, 48, .inl gap_kinds)), (ap_owners, .inl (cyI, 48, .inl gap_owners)), (ac, .inr (1, [.ref ac_held, .ref ac_spent, .int ac_fresh])), (ac_held, .inl (cyI, 48, .inl gac_held)), (ac_spent, .inl (cyI, 48, .inl gac_spent)), (aw, .inr (9, [.ref aw_driven, .ref aw_seen, .ref aw_before, .ref aw_masks, .ref aw_from, .ref aw_until])), (aw_driven, .inl (cyI, 15, .inl gaw_driven)), (aw_seen, .inl (cyI, 15, .inl gaw_seen))] (yT cyI cyZ cyO) sz (fun u => [(h0, .inr (7, [.ref h0_counted, .int (u.1 0), .int (u.1 1), .int (u.1 2)])), (h0_counted, .inl (cyI, 8, .inl (u.2 0))), (ap, .inr (6, [.ref ap_first, .ref ap_last, .ref ap_wait, .ref ap_broken, .ref ap_words, .ref ap_kinds, .ref ap_values, .ref ap_owners, .int ap_slaves, .int ap_registers, .int ap_depth, .int ap_limit, .int ap_changes])), (ap_wait, .inl (cyI, 8, .inl gap_wait)), (ap_broken, .inl (cyZ, 8, .inl gap_broken)), (ap_words, .inl (cyI, 48, .inl gap_words)), (ap_kinds, .inl (cyI, 48, .inl gap_kinds)), (ap_owners, .inl (cyI, 48, .inl gap_owners)), (ac, .inr (1, [.ref ac_held, .ref ac_spent, .int (u.1 3)])), (ac_held, .inl (cyI, 48, .inl (u.2 1))), (ac_spent, .inl (cyI, 48, .inl (u.2 2))), (aw, .inr (9, [.ref aw_driven, .ref aw_seen, .ref aw_before, .ref aw_masks, .ref aw_from, .ref aw_until])), (aw_driven, .inl (cyI, 15, .inl (u.2 3))), (aw_seen, .inl (cyI, 15, .inl gaw_seen))])) [.ref h0, .ref ap, .ref ac, .ref aw].toArray s 0 0 A) (F0 m 37 ls []) := by
    intro n37
    induction n37 with
    | zero => intro j37_cac_held j37_cac_spent j37_ch0_counted j37_fac_2 j37_fh0_1 j37_fh0_2 j37_fh0_3 j37_l6 H locs ls hm; exact absurd hm (Nat.not_lt_zero _)
    | succ n37 ih37 =>
      intro j37_cac_held j37_cac_spent j37_ch0_counted j37_fac_2 j37_fh0_1 j37_fh0_2 j37_fh0_3 j37_l6 H locs ls hm37 hj37_l6  hP hD hS hl
      refine lv_iload hx hb dX7_pass_37 (lv_at hl 6 rfl) ?_
      refine lv_aload_n hx hb dX7_pass_39 rfl (lv_at hl 1 rfl) ?_
      refine va_get (D := (dC, dI)) (ci := 6) (v := .int ap_slaves) (C := RX6) (T := TX6) (N := 13) hx hb hts hnX6 hown hK hP 2 rfl rfl 8 (by decide) hf45 (fun _ h9 => h9) rfl dX7_pass_40 ?_
      refine lv_icmp_ge (tgt := 90) hx hb dX7_pass_43 (by decide) (fun c43 => ?_) (fun c43 => ?_)
      · refine lv_aload_n hx hb dX7_pass_90 rfl (lv_at hl 3 rfl) ?_
        refine va_get (D := (dC, dI)) (ci := 9) (v := .ref aw_driven) (C := RX9) (T := TX9) (N := 6) hx hb hts hnX9 hown hK hP 11 rfl rfl 0 (by decide) hf27 (fun _ h9 => h9) rfl dX7_pass_91 ?_
        refine lv_bipush (v := 12) hx hb dX7_pass_94 (by decide) ?_
        refine lv_aload_n hx hb dX7_pass_96 rfl (lv_at hl 0 rfl) ?_
        refine va_get (D := (dC, dI)) (ci := 7) (v := .int j37_fh0_1) (C := RX7) (T := TX7) (N := 4) hx hb hts hnX7 hown hK hP 0 rfl rfl 1 (by decide) hf35 (fun _ h9 => h9) rfl dX7_pass_97 ?_
        refine yg_iast hx hb hK hP hD hS 12 0 rfl rfl (yin (by decide)) dX7_pass_100 (fun f100 ef100 H locs hP hD hS => ?_)
        have hP : va_P (dC, dI) vwCl [(h0, .inr (7, [.ref h0_counted, .int j37_fh0_1, .int j37_fh0_2, .int j37_fh0_3])), (h0_counted, .inl (cyI, 8, .inl j37_ch0_counted)), (ap, .inr (6, [.ref ap_first, .ref ap_last, .ref ap_wait, .ref ap_broken, .ref ap_words, .ref ap_kinds, .ref ap_values, .ref ap_owners, .int ap_slaves, .int ap_registers, .int ap_depth, .int ap_limit, .int ap_changes])), (ap_wait, .inl (cyI, 8, .inl gap_wait)), (ap_broken, .inl (cyZ, 8, .inl gap_broken)), (ap_words, .inl (cyI, 48, .inl gap_words)), (ap_kinds, .inl (cyI, 48, .inl gap_kinds)), (ap_owners, .inl (cyI, 48, .inl gap_owners)), (ac, .inr (1, [.ref ac_held, .ref ac_spent, .int j37_fac_2])), (ac_held, .inl (cyI, 48, .inl j37_cac_held)), (ac_spent, .inl (cyI, 48, .inl j37_cac_spent)), (aw, .inr (9, [.ref aw_driven, .ref aw_seen, .ref aw_before, .ref aw_masks, .ref aw_from, .ref aw_until])), (aw_driven, .inl (cyI, 15, .inl f100)), (aw_seen, .inl (cyI, 15, .inl gaw_seen))] H := hP
        have hD : va_D A [(h0, .inr (7, [.ref h0_counted, .int j37_fh0_1, .int j37_fh0_2, .int j37_fh0_3])), (h0_counted, .inl (cyI, 8, .inl j37_ch0_counted)), (ap, .inr (6, [.ref ap_first, .ref ap_last, .ref ap_wait, .ref ap_broken, .ref ap_words, .ref ap_kinds, .ref ap_values, .ref ap_owners, .int ap_slaves, .int ap_registers, .int ap_depth, .int ap_limit, .int ap_changes])), (ap_wait, .inl (cyI, 8, .inl gap_wait)), (ap_broken, .inl (cyZ, 8, .inl gap_broken)), (ap_words, .inl (cyI, 48, .inl gap_words)), (ap_kinds, .inl (cyI, 48, .inl gap_kinds)), (ap_owners, .inl (cyI, 48, .inl gap_owners)), (ac, .inr (1, [.ref ac_held, .ref ac_spent, .int j37_fac_2])), (ac_held, .inl (cyI, 48, .inl j37_cac_held)), (ac_spent, .inl (cyI, 48, .inl j37_cac_spent)), (aw, .inr (9, [.ref aw_driven, .ref aw_seen, .ref aw_before, .ref aw_masks, .ref aw_from, .ref aw_until])), (aw_driven, .inl (cyI, 15, .inl f100)), (aw_seen, .inl (cyI, 15, .inl gaw_seen))] := hD
        refine lv_aload_n hx hb dX7_pass_101 rfl (lv_at hl 3 rfl) ?_
        refine va_get (D := (dC, dI)) (ci := 9) (v := .ref aw_driven) (C := RX9) (T := TX9) (N := 6) hx hb hts hnX9 hown hK hP 11 rfl rfl 0 (by decide) hf27 (fun _ h9 => h9) rfl dX7_pass_102 ?_
        refine lv_bipush (v := 13) hx hb dX7_pass_105 (by decide) ?_
        refine lv_aload_n hx hb dX7_pass_107 rfl (lv_at hl 0 rfl) ?_
        refine va_get (D := (dC, dI)) (ci := 7) (v := .int j37_fh0_2) (C := RX7) (T := TX7) (N := 4) hx hb hts hnX7 hown hK hP 0 rfl rfl 2 (by decide) hf39 (fun _ h9 => h9) rfl dX7_pass_108 ?_
        refine yg_iast hx hb hK hP hD hS 12 0 rfl rfl (yin (by decide)) dX7_pass_111 (fun f111 ef111 H locs hP hD hS => ?_)
        have hP : va_P (dC, dI) vwCl [(h0, .inr (7, [.ref h0_counted, .int j37_fh0_1, .int j37_fh0_2, .int j37_fh0_3])), (h0_counted, .inl (cyI, 8, .inl j37_ch0_counted)), (ap, .inr (6, [.ref ap_first, .ref ap_last, .ref ap_wait, .ref ap_broken, .ref ap_words, .ref ap_kinds, .ref ap_values, .ref ap_owners, .int ap_slaves, .int ap_registers, .int ap_depth, .int ap_limit, .int ap_changes])), (ap_wait, .inl (cyI, 8, .inl gap_wait)), (ap_broken, .inl (cyZ, 8, .inl gap_broken)), (ap_words, .inl (cyI, 48, .inl gap_words)), (ap_kinds, .inl (cyI, 48, .inl gap_kinds)), (ap_owners, .inl (cyI, 48, .inl gap_owners)), (ac, .inr (1, [.ref ac_held, .ref ac_spent, .int j37_fac_2])), (ac_held, .inl (cyI, 48, .inl j37_cac_held)), (ac_spent, .inl (cyI, 48, .inl j37_cac_spent)), (aw, .inr (9, [.ref aw_driven, .ref aw_seen, .ref aw_before, .ref aw_masks, .ref aw_from, .ref aw_until])), (aw_driven, .inl (cyI, 15, .inl f111)), (aw_seen, .inl (cyI, 15, .inl gaw_seen))] H := hP
        have hD : va_D A [(h0, .inr (7, [.ref h0_counted, .int j37_fh0_1, .int j37_fh0_2, .int j37_fh0_3])), (h0_counted, .inl (cyI, 8, .inl j37_ch0_counted)), (ap, .inr (6, [.ref ap_first, .ref ap_last, .ref ap_wait, .ref ap_broken, .ref ap_words, .ref ap_kinds, .ref ap_values, .ref ap_owners, .int ap_slaves, .int ap_registers, .int ap_depth, .int ap_limit, .int ap_changes])), (ap_wait, .inl (cyI, 8, .inl gap_wait)), (ap_broken, .inl (cyZ, 8, .inl gap_broken)), (ap_words, .inl (cyI, 48, .inl gap_words)), (ap_kinds, .inl (cyI, 48, .inl gap_kinds)), (ap_owners, .inl (cyI, 48, .inl gap_owners)), (ac, .inr (1, [.ref ac_held, .ref ac_spent, .int j37_fac_2])), (ac_held, .inl (cyI, 48, .inl j37_cac_held)), (ac_spent, .inl (cyI, 48, .inl j37_cac_spent)), (aw, .inr (9, [.ref aw_driven, .ref aw_seen, .ref aw_before, .ref aw_masks, .ref aw_from, .ref aw_until])), (aw_driven, .inl (cyI, 15, .inl f111)), (aw_seen, .inl (cyI, 15, .inl gaw_seen))] := hD
        refine lv_aload_n hx hb dX7_pass_112 rfl (lv_at hl 3 rfl) ?_
        refine va_get (D := (dC, dI)) (ci := 9) (v := .ref aw_driven) (C := RX9) (T := TX9) (N := 6) hx hb hts hnX9 hown hK hP 11 rfl rfl 0 (by decide) hf27 (fun _ h9 => h9) rfl dX7_pass_113 ?_
        refine lv_bipush (v := 14) hx hb dX7_pass_116 (by decide) ?_
        refine lv_aload_n hx hb dX7_pass_118 rfl (lv_at hl 0 rfl) ?_
        refine va_get (D := (dC, dI)) (ci := 7) (v := .int j37_fh0_3) (C := RX7) (T := TX7) (N := 4) hx hb hts hnX7 hown hK hP 0 rfl rfl 3 (by decide) hf42 (fun _ h9 => h9) rfl dX7_pass_119 ?_
        refine yg_iast hx hb hK hP hD hS 12 0 rfl rfl (yin (by decide)) dX7_pass_122 (fun f122 ef122 H locs hP hD hS => ?_)
        have hP : va_P (dC, dI) vwCl [(h0, .inr (7, [.ref h0_counted, .int j37_fh0_1, .int j37_fh0_2, .int j37_fh0_3])), (h0_counted, .inl (cyI, 8, .inl j37_ch0_counted)), (ap, .inr (6, [.ref ap_first, .ref ap_last, .ref ap_wait, .ref ap_broken, .ref ap_words, .ref ap_kinds, .ref ap_values, .ref ap_owners, .int ap_slaves, .int ap_registers, .int ap_depth, .int ap_limit, .int ap_changes])), (ap_wait, .inl (cyI, 8, .inl gap_wait)), (ap_broken, .inl (cyZ, 8, .inl gap_broken)), (ap_words, .inl (cyI, 48, .inl gap_words)), (ap_kinds, .inl (cyI, 48, .inl gap_kinds)), (ap_owners, .inl (cyI, 48, .inl gap_owners)), (ac, .inr (1, [.ref ac_held, .ref ac_spent, .int j37_fac_2])), (ac_held, .inl (cyI, 48, .inl j37_cac_held)), (ac_spent, .inl (cyI, 48, .inl j37_cac_spent)), (aw, .inr (9, [.ref aw_driven, .ref aw_seen, .ref aw_before, .ref aw_masks, .ref aw_from, .ref aw_until])), (aw_driven, .inl (cyI, 15, .inl f122)), (aw_seen, .inl (cyI, 15, .inl gaw_seen))] H := hP
        have hD : va_D A [(h0, .inr (7, [.ref h0_counted, .int j37_fh0_1, .int j37_fh0_2, .int j37_fh0_3])), (h0_counted, .inl (cyI, 8, .inl j37_ch0_counted)), (ap, .inr (6, [.ref ap_first, .ref ap_last, .ref ap_wait, .ref ap_broken, .ref ap_words, .ref ap_kinds, .ref ap_values, .ref ap_owners, .int ap_slaves, .int ap_registers, .int ap_depth, .int ap_limit, .int ap_changes])), (ap_wait, .inl (cyI, 8, .inl gap_wait)), (ap_broken, .inl (cyZ, 8, .inl gap_broken)), (ap_words, .inl (cyI, 48, .inl gap_words)), (ap_kinds, .inl (cyI, 48, .inl gap_kinds)), (ap_owners, .inl (cyI, 48, .inl gap_owners)), (ac, .inr (1, [.ref ac_held, .ref ac_spent, .int j37_fac_2])), (ac_held, .inl (cyI, 48, .inl j37_cac_held)), (ac_spent, .inl (cyI, 48, .inl j37_cac_spent)), (aw, .inr (9, [.ref aw_driven, .ref aw_seen, .ref aw_before, .ref aw_masks, .ref aw_from, .ref aw_until])), (aw_driven, .inl (cyI, 15, .inl f122)), (aw_seen, .inl (cyI, 15, .inl gaw_seen))] := hD
        refine W.widen (k := 0) (n := 0) (Nat.le_of_ble_eq_true rfl) (Nat.le_of_ble_eq_true rfl) ?_
        exact yy_vret (((fun k0_ => match k0_ with | 0 => j37_fh0_1 | 1 => j37_fh0_2 | 2 => j37_fh0_3 | 3 => j37_fac_2 | _ => 0), (fun k0_ => match k0_ with | 0 => j37_ch0_counted | 1 => j37_cac_held | 2 => j37_cac_spent | 3 => f122 | _ => fun _ => 0)) : yU) hx hb hr hlk hsz hAe hK hP hD hS [0, 1, 2, 3, 4, 5, 6, 7, 8, 9, 10, 11, 12, 13] rfl rfl (by decide) trivial dX7_pass_123
      · have hq46_1 : yr 0 7 j37_l6 := yr_ltL hj37_l6 h_ap_slaves (Int32.not_le.mp c43) (by decide)
        have hq46_2 : yr 1 8 ap_slaves := yr_ltR hj37_l6 h_ap_slaves (Int32.not_le.mp c43) (by decide)
        refine lv_iload hx hb dX7_pass_46 (lv_at hl 5 rfl) ?_
        refine lv_iload hx hb dX7_pass_48 (lv_at hl 6 rfl) ?_
        refine lv_ishr hx hb dX7_pass_50 ?_
        refine lv_topi (fun v50 ev50 => ?_)
        refine lv_iconst (v := 1) hx hb dX7_pass_51 (by decide) ?_
        refine lv_iand hx hb dX7_pass_52 ?_
        refine lv_topi (fun v52 ev52 => ?_)
        have J84 : ∀ (j84_cac_held : Nat → Int32) (j84_cac_spent : Nat → Int32) (j84_ch0_counted : Nat → Int32) (j84_fac_2 : Int32) (j84_fh0_1 : Int32) (j84_fh0_2 : Int32) (j84_fh0_3 : Int32) (H : Heap) (locs : List Loc) (ls : Array Slot), va_P (dC, dI) vwCl [(h0, .inr (7, [.ref h0_counted, .int j84_fh0_1, .int j84_fh0_2, .int j84_fh0_3])), (h0_counted, .inl (cyI, 8, .inl j84_ch0_counted)), (ap, .inr (6, [.ref ap_first, .ref ap_last, .ref ap_wait, .ref ap_broken, .ref ap_words, .ref ap_kinds, .ref ap_values, .ref ap_owners, .int ap_slaves, .int ap_registers, .int ap_depth, .int ap_limit, .int ap_changes])), (ap_wait, .inl (cyI, 8, .inl gap_wait)), (ap_broken, .inl (cyZ, 8, .inl gap_broken)), (ap_words, .inl (cyI, 48, .inl gap_words)), (ap_kinds, .inl (cyI, 48, .inl gap_kinds)), (ap_owners, .inl (cyI, 48, .inl gap_owners)), (ac, .inr (1, [.ref ac_held, .ref ac_spent, .int j84_fac_2])), (ac_held, .inl (cyI, 48, .inl j84_cac_held)), (ac_spent, .inl (cyI, 48, .inl j84_cac_spent)), (aw, .inr (9, [.ref aw_driven, .ref aw_seen, .ref aw_before, .ref aw_masks, .ref aw_from, .ref aw_until])), (aw_driven, .inl (cyI, 15, .inl gaw_driven)), (aw_seen, .inl (cyI, 15, .inl gaw_seen))] H → va_D A [(h0, .inr (7, [.ref h0_counted, .int j84_fh0_1, .int j84_fh0_2, .int j84_fh0_3])), (h0_counted, .inl (cyI, 8, .inl j84_ch0_counted)), (ap, .inr (6, [.ref ap_first, .ref ap_last, .ref ap_wait, .ref ap_broken, .ref ap_words, .ref ap_kinds, .ref ap_values, .ref ap_owners, .int ap_slaves, .int ap_registers, .int ap_depth, .int ap_limit, .int ap_changes])), (ap_wait, .inl (cyI, 8, .inl gap_wait)), (ap_broken, .inl (cyZ, 8, .inl gap_broken)), (ap_words, .inl (cyI, 48, .inl gap_words)), (ap_kinds, .inl (cyI, 48, .inl gap_kinds)), (ap_owners, .inl (cyI, 48, .inl gap_owners)), (ac, .inr (1, [.ref ac_held, .ref ac_spent, .int j84_fac_2])), (ac_held, .inl (cyI, 48, .inl j84_cac_held)), (ac_spent, .inl (cyI, 48, .inl j84_cac_spent)), (aw, .inr (9, [.ref aw_driven, .ref aw_seen, .ref aw_before, .ref aw_masks, .ref aw_from, .ref aw_until])), (aw_driven, .inl (cyI, 15, .inl gaw_driven)), (aw_seen, .inl (cyI, 15, .inl gaw_seen))] → va_S A s.heap H locs → lv_has ls 7 [(0, .ref h0), (1, .ref ap), (2, .ref ac), (3, .ref aw), (4, .int v6), (5, .int v15), (6, .int j37_l6)] → W p l e ({ frames := 4, cells := 0, slots := 0, locals := 98 } : Room) s m [.ref h0, .ref ap, .ref ac, .ref aw].toArray below meth c H locs 0 0 (MQ below (yQv (fun (u : yU) => True) (dC, dI) [(h0, .inr (7, [.ref h0_counted, .int h0_ready, .int h0_error, .int h0_data])), (h0_counted, .inl (cyI, 8, .inl gh0_counted)), (ap, .inr (6, [.ref ap_first, .ref ap_last, .ref ap_wait, .ref ap_broken, .ref ap_words, .ref ap_kinds, .ref ap_values, .ref ap_owners, .int ap_slaves, .int ap_registers, .int ap_depth, .int ap_limit, .int ap_changes])), (ap_wait, .inl (cyI, 8, .inl gap_wait)), (ap_broken, .inl (cyZ, 8, .inl gap_broken)), (ap_words, .inl (cyI, 48, .inl gap_words)), (ap_kinds, .inl (cyI, 48, .inl gap_kinds)), (ap_owners, .inl (cyI, 48, .inl gap_owners)), (ac, .inr (1, [.ref ac_held, .ref ac_spent, .int ac_fresh])), (ac_held, .inl (cyI, 48, .inl gac_held)), (ac_spent, .inl (cyI, 48, .inl gac_spent)), (aw, .inr (9, [.ref aw_driven, .ref aw_seen, .ref aw_before, .ref aw_masks, .ref aw_from, .ref aw_until])), (aw_driven, .inl (cyI, 15, .inl gaw_driven)), (aw_seen, .inl (cyI, 15, .inl gaw_seen))] (yT cyI cyZ cyO) sz (fun u => [(h0, .inr (7, [.ref h0_counted, .int (u.1 0), .int (u.1 1), .int (u.1 2)])), (h0_counted, .inl (cyI, 8, .inl (u.2 0))), (ap, .inr (6, [.ref ap_first, .ref ap_last, .ref ap_wait, .ref ap_broken, .ref ap_words, .ref ap_kinds, .ref ap_values, .ref ap_owners, .int ap_slaves, .int ap_registers, .int ap_depth, .int ap_limit, .int ap_changes])), (ap_wait, .inl (cyI, 8, .inl gap_wait)), (ap_broken, .inl (cyZ, 8, .inl gap_broken)), (ap_words, .inl (cyI, 48, .inl gap_words)), (ap_kinds, .inl (cyI, 48, .inl gap_kinds)), (ap_owners, .inl (cyI, 48, .inl gap_owners)), (ac, .inr (1, [.ref ac_held, .ref ac_spent, .int (u.1 3)])), (ac_held, .inl (cyI, 48, .inl (u.2 1))), (ac_spent, .inl (cyI, 48, .inl (u.2 2))), (aw, .inr (9, [.ref aw_driven, .ref aw_seen, .ref aw_before, .ref aw_masks, .ref aw_from, .ref aw_until])), (aw_driven, .inl (cyI, 15, .inl (u.2 3))), (aw_seen, .inl (cyI, 15, .inl gaw_seen))])) [.ref h0, .ref ap, .ref ac, .ref aw].toArray s 0 0 A) (F0 m 84 ls []) := by
          intro j84_cac_held j84_cac_spent j84_ch0_counted j84_fac_2 j84_fh0_1 j84_fh0_2 j84_fh0_3 H locs ls   hP hD hS hl
          have hq84_3 : yr 1 8 (j37_l6 + 1) := yr_add hq46_1 (yrc (a := 1) (b := 1) (by decide) (by decide)) (by decide) (by decide) (by decide) (by decide)
          refine lv_iinc (v := (j37_l6 + 1)) (lv' := [(6, .int (j37_l6 + 1)), (0, .ref h0), (1, .ref ap), (2, .ref ac), (3, .ref aw), (4, .int v6), (5, .int v15)]) hx hb dX7_pass_84 hl (k := 6) rfl rfl (by decide) rfl (fun ls hl => ?_)
          refine lv_goto (tgt := 37) hx hb dX7_pass_87 (by decide) ?_
          exact ih37 j84_cac_held j84_cac_spent j84_ch0_counted j84_fac_2 j84_fh0_1 j84_fh0_2 j84_fh0_3 (j37_l6 + 1) _ _ _ (yms hm37 (yr_w hq46_1 (by decide) (by decide)) rfl) (yr_w hq84_3 (by decide) (by decide))  (hP.sub [0, 1, 2, 3, 4, 5, 6, 7, 8, 9, 10, 11, 12, 13] rfl) (hD.sub [0, 1, 2, 3, 4, 5, 6, 7, 8, 9, 10, 11, 12, 13] (by decide) rfl) hS (lv_sub hl [1, 2, 3, 4, 5, 6, 0] rfl)
        refine lv_if_eq (tgt := 84) hx hb dX7_pass_53 (by decide) (fun c53 => ?_) (fun c53 => ?_)
        · have hq84_4 : yr 0 0 v52 := yr_eq (yr_all _) (yrc (a := 0) (b := 0) (x := 0) (by decide) (by decide)) c53 (by decide) (by decide)
          exact J84 j37_cac_held j37_cac_spent j37_ch0_counted j37_fac_2 j37_fh0_1 j37_fh0_2 j37_fh0_3 _ _ _   (hP.sub [0, 1, 2, 3, 4, 5, 6, 7, 8, 9, 10, 11, 12, 13] rfl) (hD.sub [0, 1, 2, 3, 4, 5, 6, 7, 8, 9, 10, 11, 12, 13] (by decide) rfl) hS (lv_sub hl [0, 1, 2, 3, 4, 5, 6] rfl)
        · refine lv_aload_n hx hb dX7_pass_56 rfl (lv_at hl 0 rfl) ?_
          refine lv_iconst (v := 0) hx hb dX7_pass_57 (by decide) ?_
          refine va_put (D := (dC, dI)) (ci := 7) (v := .int 0) (ty := .int) (C := RX7) (T := TX7) (N := 4) hx hb hts hnX7 tyX7 tyX7_ok nmX7 hown hK hP hD hS 0 rfl rfl 1 (by decide) hf35 (fun _ h9 => h9) rfl (by decide +kernel) rfl rfl (Nat.le_of_ble_eq_true rfl) dX7_pass_58 (fun H locs hP hD hS => ?_)
          have hP : va_P (dC, dI) vwCl [(h0, .inr (7, [.ref h0_counted, .int 0, .int j37_fh0_2, .int j37_fh0_3])), (h0_counted, .inl (cyI, 8, .inl j37_ch0_counted)), (ap, .inr (6, [.ref ap_first, .ref ap_last, .ref ap_wait, .ref ap_broken, .ref ap_words, .ref ap_kinds, .ref ap_values, .ref ap_owners, .int ap_slaves, .int ap_registers, .int ap_depth, .int ap_limit, .int ap_changes])), (ap_wait, .inl (cyI, 8, .inl gap_wait)), (ap_broken, .inl (cyZ, 8, .inl gap_broken)), (ap_words, .inl (cyI, 48, .inl gap_words)), (ap_kinds, .inl (cyI, 48, .inl gap_kinds)), (ap_owners, .inl (cyI, 48, .inl gap_owners)), (ac, .inr (1, [.ref ac_held, .ref ac_spent, .int j37_fac_2])), (ac_held, .inl (cyI, 48, .inl j37_cac_held)), (ac_spent, .inl (cyI, 48, .inl j37_cac_spent)), (aw, .inr (9, [.ref aw_driven, .ref aw_seen, .ref aw_before, .ref aw_masks, .ref aw_from, .ref aw_until])), (aw_driven, .inl (cyI, 15, .inl gaw_driven)), (aw_seen, .inl (cyI, 15, .inl gaw_seen))] H := hP
          have hD : va_D A [(h0, .inr (7, [.ref h0_counted, .int 0, .int j37_fh0_2, .int j37_fh0_3])), (h0_counted, .inl (cyI, 8, .inl j37_ch0_counted)), (ap, .inr (6, [.ref ap_first, .ref ap_last, .ref ap_wait, .ref ap_broken, .ref ap_words, .ref ap_kinds, .ref ap_values, .ref ap_owners, .int ap_slaves, .int ap_registers, .int ap_depth, .int ap_limit, .int ap_changes])), (ap_wait, .inl (cyI, 8, .inl gap_wait)), (ap_broken, .inl (cyZ, 8, .inl gap_broken)), (ap_words, .inl (cyI, 48, .inl gap_words)), (ap_kinds, .inl (cyI, 48, .inl gap_kinds)), (ap_owners, .inl (cyI, 48, .inl gap_owners)), (ac, .inr (1, [.ref ac_held, .ref ac_spent, .int j37_fac_2])), (ac_held, .inl (cyI, 48, .inl j37_cac_held)), (ac_spent, .inl (cyI, 48, .inl j37_cac_spent)), (aw, .inr (9, [.ref aw_driven, .ref aw_seen, .ref aw_before, .ref aw_masks, .ref aw_from, .ref aw_until])), (aw_driven, .inl (cyI, 15, .inl gaw_driven)), (aw_seen, .inl (cyI, 15, .inl gaw_seen))] := hD
          refine lv_aload_n hx hb dX7_pass_61 rfl (lv_at hl 0 rfl) ?_
          refine lv_iconst (v := 0) hx hb dX7_pass_62 (by decide) ?_
          refine va_put (D := (dC, dI)) (ci := 7) (v := .int 0) (ty := .int) (C := RX7) (T := TX7) (N := 4) hx hb hts hnX7 tyX7 tyX7_ok nmX7 hown hK hP hD hS 0 rfl rfl 2 (by decide) hf39 (fun _ h9 => h9) rfl (by decide +kernel) rfl rfl (Nat.le_of_ble_eq_true rfl) dX7_pass_63 (fun H locs hP hD hS => ?_)
          have hP : va_P (dC, dI) vwCl [(h0, .inr (7, [.ref h0_counted, .int 0, .int 0, .int j37_fh0_3])), (h0_counted, .inl (cyI, 8, .inl j37_ch0_counted)), (ap, .inr (6, [.ref ap_first, .ref ap_last, .ref ap_wait, .ref ap_broken, .ref ap_words, .ref ap_kinds, .ref ap_values, .ref ap_owners, .int ap_slaves, .int ap_registers, .int ap_depth, .int ap_limit, .int ap_changes])), (ap_wait, .inl (cyI, 8, .inl gap_wait)), (ap_broken, .inl (cyZ, 8, .inl gap_broken)), (ap_words, .inl (cyI, 48, .inl gap_words)), (ap_kinds, .inl (cyI, 48, .inl gap_kinds)), (ap_owners, .inl (cyI, 48, .inl gap_owners)), (ac, .inr (1, [.ref ac_held, .ref ac_spent, .int j37_fac_2])), (ac_held, .inl (cyI, 48, .inl j37_cac_held)), (ac_spent, .inl (cyI, 48, .inl j37_cac_spent)), (aw, .inr (9, [.ref aw_driven, .ref aw_seen, .ref aw_before, .ref aw_masks, .ref aw_from, .ref aw_until])), (aw_driven, .inl (cyI, 15, .inl gaw_driven)), (aw_seen, .inl (cyI, 15, .inl gaw_seen))] H := hP
          have hD : va_D A [(h0, .inr (7, [.ref h0_counted, .int 0, .int 0, .int j37_fh0_3])), (h0_counted, .inl (cyI, 8, .inl j37_ch0_counted)), (ap, .inr (6, [.ref ap_first, .ref ap_last, .ref ap_wait, .ref ap_broken, .ref ap_words, .ref ap_kinds, .ref ap_values, .ref ap_owners, .int ap_slaves, .int ap_registers, .int ap_depth, .int ap_limit, .int ap_changes])), (ap_wait, .inl (cyI, 8, .inl gap_wait)), (ap_broken, .inl (cyZ, 8, .inl gap_broken)), (ap_words, .inl (cyI, 48, .inl gap_words)), (ap_kinds, .inl (cyI, 48, .inl gap_kinds)), (ap_owners, .inl (cyI, 48, .inl gap_owners)), (ac, .inr (1, [.ref ac_held, .ref ac_spent, .int j37_fac_2])), (ac_held, .inl (cyI, 48, .inl j37_cac_held)), (ac_spent, .inl (cyI, 48, .inl j37_cac_spent)), (aw, .inr (9, [.ref aw_driven, .ref aw_seen, .ref aw_before, .ref aw_masks, .ref aw_from, .ref aw_until])), (aw_driven, .inl (cyI, 15, .inl gaw_driven)), (aw_seen, .inl (cyI, 15, .inl gaw_seen))] := hD
          refine lv_aload_n hx hb dX7_pass_66 rfl (lv_at hl 0 rfl) ?_
          refine lv_iload hx hb dX7_pass_67 (lv_at hl 4 rfl) ?_
          refine va_put (D := (dC, dI)) (ci := 7) (v := .int v6) (ty := .int) (C := RX7) (T := TX7) (N := 4) hx hb hts hnX7 tyX7 tyX7_ok nmX7 hown hK hP hD hS 0 rfl rfl 3 (by decide) hf42 (fun _ h9 => h9) rfl (by decide +kernel) rfl rfl (Nat.le_of_ble_eq_true rfl) dX7_pass_69 (fun H locs hP hD hS => ?_)
          have hP : va_P (dC, dI) vwCl [(h0, .inr (7, [.ref h0_counted, .int 0, .int 0, .int v6])), (h0_counted, .inl (cyI, 8, .inl j37_ch0_counted)), (ap, .inr (6, [.ref ap_first, .ref ap_last, .ref ap_wait, .ref ap_broken, .ref ap_words, .ref ap_kinds, .ref ap_values, .ref ap_owners, .int ap_slaves, .int ap_registers, .int ap_depth, .int ap_limit, .int ap_changes])), (ap_wait, .inl (cyI, 8, .inl gap_wait)), (ap_broken, .inl (cyZ, 8, .inl gap_broken)), (ap_words, .inl (cyI, 48, .inl gap_words)), (ap_kinds, .inl (cyI, 48, .inl gap_kinds)), (ap_owners, .inl (cyI, 48, .inl gap_owners)), (ac, .inr (1, [.ref ac_held, .ref ac_spent, .int j37_fac_2])), (ac_held, .inl (cyI, 48, .inl j37_cac_held)), (ac_spent, .inl (cyI, 48, .inl j37_cac_spent)), (aw, .inr (9, [.ref aw_driven, .ref aw_seen, .ref aw_before, .ref aw_masks, .ref aw_from, .ref aw_until])), (aw_driven, .inl (cyI, 15, .inl gaw_driven)), (aw_seen, .inl (cyI, 15, .inl gaw_seen))] H := hP
          have hD : va_D A [(h0, .inr (7, [.ref h0_counted, .int 0, .int 0, .int v6])), (h0_counted, .inl (cyI, 8, .inl j37_ch0_counted)), (ap, .inr (6, [.ref ap_first, .ref ap_last, .ref ap_wait, .ref ap_broken, .ref ap_words, .ref ap_kinds, .ref ap_values, .ref ap_owners, .int ap_slaves, .int ap_registers, .int ap_depth, .int ap_limit, .int ap_changes])), (ap_wait, .inl (cyI, 8, .inl gap_wait)), (ap_broken, .inl (cyZ, 8, .inl gap_broken)), (ap_words, .inl (cyI, 48, .inl gap_words)), (ap_kinds, .inl (cyI, 48, .inl gap_kinds)), (ap_owners, .inl (cyI, 48, .inl gap_owners)), (ac, .inr (1, [.ref ac_held, .ref ac_spent, .int j37_fac_2])), (ac_held, .inl (cyI, 48, .inl j37_cac_held)), (ac_spent, .inl (cyI, 48, .inl j37_cac_spent)), (aw, .inr (9, [.ref aw_driven, .ref aw_seen, .ref aw_before, .ref aw_masks, .ref aw_from, .ref aw_until])), (aw_driven, .inl (cyI, 15, .inl gaw_driven)), (aw_seen, .inl (cyI, 15, .inl gaw_seen))] := hD
          refine lv_aload_n hx hb dX7_pass_72 rfl (lv_at hl 0 rfl) ?_
          refine lv_iload hx hb dX7_pass_73 (lv_at hl 6 rfl) ?_
          refine lv_aload_n hx hb dX7_pass_75 rfl (lv_at hl 1 rfl) ?_
          refine lv_aload_n hx hb dX7_pass_76 rfl (lv_at hl 2 rfl) ?_
          refine lv_aload_n hx hb dX7_pass_77 rfl (lv_at hl 3 rfl) ?_
          refine va_get (D := (dC, dI)) (ci := 9) (v := .ref aw_seen) (C := RX9) (T := TX9) (N := 6) hx hb hts hnX9 hown hK hP 11 rfl rfl 1 (by decide) hf32 (fun _ h9 => h9) rfl dX7_pass_78 ?_
          have hPc := hP.sub (ws' := [(h0, .inr (7, [.ref h0_counted, .int 0, .int 0, .int v6])), (h0_counted, .inl (cyI, 8, .inl j37_ch0_counted)), (ap, .inr (6, [.ref ap_first, .ref ap_last, .ref ap_wait, .ref ap_broken, .ref ap_words, .ref ap_kinds, .ref ap_values, .ref ap_owners, .int ap_slaves, .int ap_registers, .int ap_depth, .int ap_limit, .int ap_changes])), (ap_wait, .inl (cyI, 8, .inl gap_wait)), (ap_broken, .inl (cyZ, 8, .inl gap_broken)), (ap_words, .inl (cyI, 48, .inl gap_words)), (ap_kinds, .inl (cyI, 48, .inl gap_kinds)), (ap_owners, .inl (cyI, 48, .inl gap_owners)), (ac, .inr (1, [.ref ac_held, .ref ac_spent, .int j37_fac_2])), (ac_held, .inl (cyI, 48, .inl j37_cac_held)), (ac_spent, .inl (cyI, 48, .inl j37_cac_spent)), (aw_seen, .inl (cyI, 15, .inl gaw_seen))]) [0, 1, 2, 3, 4, 5, 6, 7, 8, 9, 10, 13] rfl
          have hDc := hD.sub (ws' := [(h0, .inr (7, [.ref h0_counted, .int 0, .int 0, .int v6])), (h0_counted, .inl (cyI, 8, .inl j37_ch0_counted)), (ap, .inr (6, [.ref ap_first, .ref ap_last, .ref ap_wait, .ref ap_broken, .ref ap_words, .ref ap_kinds, .ref ap_values, .ref ap_owners, .int ap_slaves, .int ap_registers, .int ap_depth, .int ap_limit, .int ap_changes])), (ap_wait, .inl (cyI, 8, .inl gap_wait)), (ap_broken, .inl (cyZ, 8, .inl gap_broken)), (ap_words, .inl (cyI, 48, .inl gap_words)), (ap_kinds, .inl (cyI, 48, .inl gap_kinds)), (ap_owners, .inl (cyI, 48, .inl gap_owners)), (ac, .inr (1, [.ref ac_held, .ref ac_spent, .int j37_fac_2])), (ac_held, .inl (cyI, 48, .inl j37_cac_held)), (ac_spent, .inl (cyI, 48, .inl j37_cac_spent)), (aw_seen, .inl (cyI, 15, .inl gaw_seen))]) [0, 1, 2, 3, 4, 5, 6, 7, 8, 9, 10, 13] (by decide) rfl
          refine yy_callv [0, 1, 2, 3, 4, 5, 6, 7, 8, 9, 10, 13] [11, 12] (wr := [(aw, .inr (9, [.ref aw_driven, .ref aw_seen, .ref aw_before, .ref aw_masks, .ref aw_from, .ref aw_until])), (aw_driven, .inl (cyI, 15, .inl gaw_driven))]) (va_runV (As := [.int j37_l6, .ref ap, .ref ac, .ref aw_seen]) (rest := []) ⟨hx, hb, hml, hown, hts⟩ (g_attend l dC dI cyI cyZ cyO H.size h0 0 0 v6 h0_counted j37_ch0_counted j37_l6 ap ap_slaves ap_registers ap_depth ap_limit ap_changes ap_first ap_last ap_wait gap_wait ap_broken gap_broken ap_words gap_words ap_kinds gap_kinds ap_values ap_owners gap_owners ac j37_fac_2 ac_held j37_cac_held ac_spent j37_cac_spent aw_seen gaw_seen hq46_1 (yr_w hq46_2 (by decide) (by decide)) h_ap_registers h_ap_depth) (cwV 4 hts gX7_pass_X7_attend rfl rfl rfl (by decide +kernel) ⟨Nat.le_of_ble_eq_true rfl, Nat.le_of_ble_eq_true rfl⟩) (yPreV hK hPc hDc (ci := 7) (q0 := 0) rfl rfl) rfl rfl hl.1 rfl (lv_room (Nat.le_of_ble_eq_true rfl)) dX7_pass_81 ⟨Nat.le_of_ble_eq_true rfl, Nat.le_of_ble_eq_true rfl⟩) hP hD hS hA rfl rfl (by decide) (by decide) (fun u81 H locs hw hP hD hS => ?_)
          have hP : va_P (dC, dI) vwCl [(aw, .inr (9, [.ref aw_driven, .ref aw_seen, .ref aw_before, .ref aw_masks, .ref aw_from, .ref aw_until])), (aw_driven, .inl (cyI, 15, .inl gaw_driven)), (h0, .inr (7, [.ref h0_counted, .int (u81.1 0), .int (u81.1 1), .int (u81.1 2)])), (h0_counted, .inl (cyI, 8, .inl (u81.2 0))), (ap, .inr (6, [.ref ap_first, .ref ap_last, .ref ap_wait, .ref ap_broken, .ref ap_words, .ref ap_kinds, .ref ap_values, .ref ap_owners, .int ap_slaves, .int ap_registers, .int ap_depth, .int ap_limit, .int ap_changes])), (ap_wait, .inl (cyI, 8, .inl gap_wait)), (ap_broken, .inl (cyZ, 8, .inl gap_broken)), (ap_words, .inl (cyI, 48, .inl gap_words)), (ap_kinds, .inl (cyI, 48, .inl gap_kinds)), (ap_owners, .inl (cyI, 48, .inl gap_owners)), (ac, .inr (1, [.ref ac_held, .ref ac_spent, .int (u81.1 3)])), (ac_held, .inl (cyI, 48, .inl (u81.2 1))), (ac_spent, .inl (cyI, 48, .inl (u81.2 2))), (aw_seen, .inl (cyI, 15, .inl gaw_seen))] H := hP
          have hD : va_D A [(aw, .inr (9, [.ref aw_driven, .ref aw_seen, .ref aw_before, .ref aw_masks, .ref aw_from, .ref aw_until])), (aw_driven, .inl (cyI, 15, .inl gaw_driven)), (h0, .inr (7, [.ref h0_counted, .int (u81.1 0), .int (u81.1 1), .int (u81.1 2)])), (h0_counted, .inl (cyI, 8, .inl (u81.2 0))), (ap, .inr (6, [.ref ap_first, .ref ap_last, .ref ap_wait, .ref ap_broken, .ref ap_words, .ref ap_kinds, .ref ap_values, .ref ap_owners, .int ap_slaves, .int ap_registers, .int ap_depth, .int ap_limit, .int ap_changes])), (ap_wait, .inl (cyI, 8, .inl gap_wait)), (ap_broken, .inl (cyZ, 8, .inl gap_broken)), (ap_words, .inl (cyI, 48, .inl gap_words)), (ap_kinds, .inl (cyI, 48, .inl gap_kinds)), (ap_owners, .inl (cyI, 48, .inl gap_owners)), (ac, .inr (1, [.ref ac_held, .ref ac_spent, .int (u81.1 3)])), (ac_held, .inl (cyI, 48, .inl (u81.2 1))), (ac_spent, .inl (cyI, 48, .inl (u81.2 2))), (aw_seen, .inl (cyI, 15, .inl gaw_seen))] := hD
          refine W.widen (k := 0) (n := 0) (Nat.le_of_ble_eq_true rfl) (Nat.le_of_ble_eq_true rfl) ?_
          exact J84 (u81.2 1) (u81.2 2) (u81.2 0) (u81.1 3) (u81.1 0) (u81.1 1) (u81.1 2) _ _ _   (hP.sub [2, 3, 4, 5, 6, 7, 8, 9, 10, 11, 12, 0, 1, 13] rfl) (hD.sub [2, 3, 4, 5, 6, 7, 8, 9, 10, 11, 12, 0, 1, 13] (by decide) rfl) hS (lv_sub hl [0, 1, 2, 3, 4, 5, 6] rfl)
  exact J37 _ gac_held gac_spent gh0_counted ac_fresh 0 0 v6 0 _ _ _ (Nat.lt_succ_self _) (yrc (a := 0) (b := 8) (x := 0) (by decide) (by decide))  (hP.sub [0, 1, 2, 3, 4, 5, 6, 7, 8, 9, 10, 11, 12, 13] rfl) (hD.sub [0, 1, 2, 3, 4, 5, 6, 7, 8, 9, 10, 11, 12, 13] (by decide) rfl) hS (lv_sub hl [3, 4, 5, 6, 2, 1, 0] rfl)
set_option maxHeartbeats 4000000 in
set_option maxRecDepth 100000 in
theorem g_Oclear (l : Launch) (dC : Nat → ClassId) (dI : Nat → Nat → Nat) (cyI cyZ cyO : ClassId) (sz : Nat) (h0 : Nat) (h0_dataPhase : Int32) (h0_writePhase : Int32) (h0_lowClocks : Int32) (h0_counts : Nat) (gh0_counts : Nat → Int32) (h0_rows : Nat) (h0_rows_count : Int32) (h0_rows_row : Nat) (h_h0_dataPhase : yr 0 1 h0_dataPhase) (h_h0_writePhase : yr 0 1 h0_writePhase) (h_h0_rows_count : yr 0 60 h0_rows_count) : Met l yX5_clear wsX5_clear ({ frames := 1, cells := 0, slots := 0, locals := 23 }) (yPre [.ref h0] (dC, dI) [(h0, .inr (5, [.ref h0_counts, .ref h0_rows, .int h0_dataPhase, .int h0_writePhase, .int h0_lowClocks])), (h0_counts, .inl (cyI, 16, .inl gh0_counts)), (h0_rows, .inr (8, [.ref h0_rows_row, .int 60, .int 2, .int h0_rows_count]))] (yT cyI cyZ cyO) sz) (yQv (fun (u : yU) => yr 0 1 (u.1 0) ∧ yr 0 1 (u.1 1) ∧ yr 0 60 (u.1 3)) (dC, dI) [(h0, .inr (5, [.ref h0_counts, .ref h0_rows, .int h0_dataPhase, .int h0_writePhase, .int h0_lowClocks])), (h0_counts, .inl (cyI, 16, .inl gh0_counts)), (h0_rows, .inr (8, [.ref h0_rows_row, .int 60, .int 2, .int h0_rows_count]))] (yT cyI cyZ cyO) sz (fun u => [(h0, .inr (5, [.ref h0_counts, .ref h0_rows, .int (u.1 0), .int (u.1 1), .int (u.1 2)])), (h0_counts, .inl (cyI, 16, .inl (u.2 0))), (h0_rows, .inr (8, [.ref h0_rows_row, .int 60, .int 2, .int (u.1 3)]))])) 0 0 (va_A [(h0, .inr (5, [.ref h0_counts, .ref h0_rows, .int h0_dataPhase, .int h0_writePhase, .int h0_lowClocks])), (h0_counts, .inl (cyI, 16, .inl gh0_counts)), (h0_rows, .inr (8, [.ref h0_rows_row, .int 60, .int 2, .int h0_rows_count]))] sz) := by
  refine yMet (cc := cX5_clear) (maxL := 1) (ret := none) (by decide) rfl (Nat.le_of_ble_eq_true rfl) ?_
  intro p e s m below meth c A hx hb hr hlk hml hts hown hnm hsz hAe hP hK hD hA hS ls hl
  have hl : lv_has ls 1 [(0, .ref h0)] := hl
  have hf18 := hts (.fieldLink RX5 18 "BusBridge$Monitor" "rows" "LBusBridge$Table;") (by decide +kernel)
  have hf31 := hts (.fieldLink RX5 31 "BusBridge$Monitor" "dataPhase" "Z") (by decide +kernel)
  have hf35 := hts (.fieldLink RX5 35 "BusBridge$Monitor" "writePhase" "Z") (by decide +kernel)
  have hf38 := hts (.fieldLink RX5 38 "BusBridge$Monitor" "lowClocks" "I") (by decide +kernel)
  have hf9 := hts (.fieldLink RX5 9 "BusBridge$Monitor" "counts" "[I") (by decide +kernel)
  have hnX5 : ∀ w ∈ wsX50, w ∈ wsX5_clear := by decide +kernel
  refine lv_aload_n hx hb dX5_clear_0 rfl (lv_at hl 0 rfl) ?_
  refine va_get (D := (dC, dI)) (ci := 5) (v := .ref h0_counts) (C := RX5) (T := TX5) (N := 5) hx hb hts hnX5 hown hK hP 0 rfl rfl 0 (by decide) hf9 (fun _ h9 => h9) rfl dX5_clear_1 ?_
  refine lv_iconst (v := 0) hx hb dX5_clear_4 (by decide) ?_
  have hPc := hP.sub (ws' := [(h0_counts, .inl (cyI, 16, .inl gh0_counts))]) [1] rfl
  have hDc := hD.sub (ws' := [(h0_counts, .inl (cyI, 16, .inl gh0_counts))]) [1] (by decide) rfl
  refine yy_callv [1] [0, 2] (wr := [(h0, .inr (5, [.ref h0_counts, .ref h0_rows, .int h0_dataPhase, .int h0_writePhase, .int h0_lowClocks])), (h0_rows, .inr (8, [.ref h0_rows_row, .int 60, .int 2, .int h0_rows_count]))]) (va_runS (As := [.ref h0_counts, .int 0]) (rest := []) ⟨hx, hb, hml, hown, hts⟩ (g_fill16 l dC dI cyI cyZ cyO s.heap.size h0_counts gh0_counts 0 ) (va_cwS 2 hts gX5_clear_J7_fill_53178 rfl rfl rfl (by decide +kernel) ⟨Nat.le_of_ble_eq_true rfl, Nat.le_of_ble_eq_true rfl⟩) (yPreS hK hPc hDc) rfl rfl hl.1 rfl (lv_room (Nat.le_of_ble_eq_true rfl)) dX5_clear_5 ⟨Nat.le_of_ble_eq_true rfl, Nat.le_of_ble_eq_true rfl⟩) hP hD hS hA rfl rfl (by decide) (by decide) (fun u5 H locs hw hP hD hS => ?_)
  have hP : va_P (dC, dI) vwCl [(h0, .inr (5, [.ref h0_counts, .ref h0_rows, .int h0_dataPhase, .int h0_writePhase, .int h0_lowClocks])), (h0_rows, .inr (8, [.ref h0_rows_row, .int 60, .int 2, .int h0_rows_count])), (h0_counts, .inl (cyI, 16, .inl (u5.2 0)))] H := hP
  have hD : va_D A [(h0, .inr (5, [.ref h0_counts, .ref h0_rows, .int h0_dataPhase, .int h0_writePhase, .int h0_lowClocks])), (h0_rows, .inr (8, [.ref h0_rows_row, .int 60, .int 2, .int h0_rows_count])), (h0_counts, .inl (cyI, 16, .inl (u5.2 0)))] := hD
  refine W.widen (k := 0) (n := 0) (Nat.le_of_ble_eq_true rfl) (Nat.le_of_ble_eq_true rfl) ?_
  refine lv_aload_n hx hb dX5_clear_8 rfl (lv_at hl 0 rfl) ?_
  refine va_get (D := (dC, dI)) (ci := 5) (v := .ref h0_rows) (C := RX5) (T := TX5) (N := 5) hx hb hts hnX5 hown hK hP 0 rfl rfl 1 (by decide) hf18 (fun _ h9 => h9) rfl dX5_clear_9 ?_
  have hPc := hP.sub (ws' := [(h0_rows, .inr (8, [.ref h0_rows_row, .int 60, .int 2, .int h0_rows_count]))]) [1] rfl
  have hDc := hD.sub (ws' := [(h0_rows, .inr (8, [.ref h0_rows_row, .int 60, .int 2, .int h0_rows_count]))]) [1] (by decide) rfl
  refine yy_callv [1] [0, 2] (wr := [(h0, .inr (5, [.ref h0_counts, .ref h0_rows, .int h0_dataPhase, .int h0_writePhase, .int h0_lowClocks])), (h0_counts, .inl (cyI, 16, .inl (u5.2 0)))]) (va_runV (As := []) (rest := []) ⟨hx, hb, hml, hown, hts⟩ (k_Tclear l dC dI cyI cyZ cyO H.size h0_rows h0_rows_row 60 2 h0_rows_count ) (cwV 0 hts gX5_clear_X8_clear rfl rfl rfl (by decide +kernel) ⟨Nat.le_of_ble_eq_true rfl, Nat.le_of_ble_eq_true rfl⟩) (yPreV hK hPc hDc (ci := 8) (q0 := 0) rfl rfl) rfl rfl hl.1 rfl (lv_room (Nat.le_of_ble_eq_true rfl)) dX5_clear_12 ⟨Nat.le_of_ble_eq_true rfl, Nat.le_of_ble_eq_true rfl⟩) hP hD hS hA rfl rfl (by decide) (by decide) (fun u12 H locs hw hP hD hS => ?_)
  have hP : va_P (dC, dI) vwCl [(h0, .inr (5, [.ref h0_counts, .ref h0_rows, .int h0_dataPhase, .int h0_writePhase, .int h0_lowClocks])), (h0_counts, .inl (cyI, 16, .inl (u5.2 0))), (h0_rows, .inr (8, [.ref h0_rows_row, .int 60, .int 2, .int 0]))] H := hP
  have hD : va_D A [(h0, .inr (5, [.ref h0_counts, .ref h0_rows, .int h0_dataPhase, .int h0_writePhase, .int h0_lowClocks])), (h0_counts, .inl (cyI, 16, .inl (u5.2 0))), (h0_rows, .inr (8, [.ref h0_rows_row, .int 60, .int 2, .int 0]))] := hD
  refine W.widen (k := 0) (n := 0) (Nat.le_of_ble_eq_true rfl) (Nat.le_of_ble_eq_true rfl) ?_
  refine lv_aload_n hx hb dX5_clear_15 rfl (lv_at hl 0 rfl) ?_
  refine lv_iconst (v := 0) hx hb dX5_clear_16 (by decide) ?_
  refine va_put (D := (dC, dI)) (ci := 5) (v := .int 0) (ty := .boolean) (C := RX5) (T := TX5) (N := 5) hx hb hts hnX5 tyX5 tyX5_ok nmX5 hown hK hP hD hS 0 rfl rfl 2 (by decide) hf31 (fun _ h9 => h9) rfl (by decide +kernel) rfl rfl (Nat.le_of_ble_eq_true rfl) dX5_clear_17 (fun H locs hP hD hS => ?_)
  have hP : va_P (dC, dI) vwCl [(h0, .inr (5, [.ref h0_counts, .ref h0_rows, .int 0, .int h0_writePhase, .int h0_lowClocks])), (h0_counts, .inl (cyI, 16, .inl (u5.2 0))), (h0_rows, .inr (8, [.ref h0_rows_row, .int 60, .int 2, .int 0]))] H := hP
  have hD : va_D A [(h0, .inr (5, [.ref h0_counts, .ref h0_rows, .int 0, .int h0_writePhase, .int h0_lowClocks])), (h0_counts, .inl (cyI, 16, .inl (u5.2 0))), (h0_rows, .inr (8, [.ref h0_rows_row, .int 60, .int 2, .int 0]))] := hD
  refine lv_aload_n hx hb dX5_clear_20 rfl (lv_at hl 0 rfl) ?_
  refine lv_iconst (v := 0) hx hb dX5_clear_21 (by decide) ?_
  refine va_put (D := (dC, dI)) (ci := 5) (v := .int 0) (ty := .boolean) (C := RX5) (T := TX5) (N := 5) hx hb hts hnX5 tyX5 tyX5_ok nmX5 hown hK hP hD hS 0 rfl rfl 3 (by decide) hf35 (fun _ h9 => h9) rfl (by decide +kernel) rfl rfl (Nat.le_of_ble_eq_true rfl) dX5_clear_22 (fun H locs hP hD hS => ?_)
  have hP : va_P (dC, dI) vwCl [(h0, .inr (5, [.ref h0_counts, .ref h0_rows, .int 0, .int 0, .int h0_lowClocks])), (h0_counts, .inl (cyI, 16, .inl (u5.2 0))), (h0_rows, .inr (8, [.ref h0_rows_row, .int 60, .int 2, .int 0]))] H := hP
  have hD : va_D A [(h0, .inr (5, [.ref h0_counts, .ref h0_rows, .int 0, .int 0, .int h0_lowClocks])), (h0_counts, .inl (cyI, 16, .inl (u5.2 0))), (h0_rows, .inr (8, [.ref h0_rows_row, .int 60, .int 2, .int 0]))] := hD
  refine lv_aload_n hx hb dX5_clear_25 rfl (lv_at hl 0 rfl) ?_
  refine lv_iconst (v := 0) hx hb dX5_clear_26 (by decide) ?_
  refine va_put (D := (dC, dI)) (ci := 5) (v := .int 0) (ty := .int) (C := RX5) (T := TX5) (N := 5) hx hb hts hnX5 tyX5 tyX5_ok nmX5 hown hK hP hD hS 0 rfl rfl 4 (by decide) hf38 (fun _ h9 => h9) rfl (by decide +kernel) rfl rfl (Nat.le_of_ble_eq_true rfl) dX5_clear_27 (fun H locs hP hD hS => ?_)
  have hP : va_P (dC, dI) vwCl [(h0, .inr (5, [.ref h0_counts, .ref h0_rows, .int 0, .int 0, .int 0])), (h0_counts, .inl (cyI, 16, .inl (u5.2 0))), (h0_rows, .inr (8, [.ref h0_rows_row, .int 60, .int 2, .int 0]))] H := hP
  have hD : va_D A [(h0, .inr (5, [.ref h0_counts, .ref h0_rows, .int 0, .int 0, .int 0])), (h0_counts, .inl (cyI, 16, .inl (u5.2 0))), (h0_rows, .inr (8, [.ref h0_rows_row, .int 60, .int 2, .int 0]))] := hD
  refine W.widen (k := 0) (n := 0) (Nat.le_of_ble_eq_true rfl) (Nat.le_of_ble_eq_true rfl) ?_
  exact yy_vret (((fun k0_ => match k0_ with | 0 => 0 | 1 => 0 | 2 => 0 | 3 => 0 | _ => 0), (fun k0_ => match k0_ with | 0 => (u5.2 0) | _ => fun _ => 0)) : yU) hx hb hr hlk hsz hAe hK hP hD hS [0, 1, 2] rfl rfl (by decide) ⟨(yrc (a := 0) (b := 1) (x := 0) (by decide) (by decide)), (yrc (a := 0) (b := 1) (x := 0) (by decide) (by decide)), (yrc (a := 0) (b := 60) (x := 0) (by decide) (by decide))⟩ dX5_clear_30
set_option maxHeartbeats 4000000 in
set_option maxRecDepth 100000 in
theorem g_Ocopy (l : Launch) (dC : Nat → ClassId) (dI : Nat → Nat → Nat) (cyI cyZ cyO : ClassId) (sz : Nat) (h0 : Nat) (h0_dataPhase : Int32) (h0_writePhase : Int32) (h0_lowClocks : Int32) (h0_counts : Nat) (gh0_counts : Nat → Int32) (h0_rows : Nat) (h0_rows_count : Int32) (h0_rows_row : Nat) (gh0_rows_row : Nat → Int32) (ao : Nat) (ao_dataPhase : Int32) (ao_writePhase : Int32) (ao_lowClocks : Int32) (ao_counts : Nat) (gao_counts : Nat → Int32) (ao_rows : Nat) (ao_rows_count : Int32) (ao_rows_row : Nat) (gao_rows_row : Nat → Int32) (h_h0_dataPhase : yr 0 1 h0_dataPhase) (h_h0_writePhase : yr 0 1 h0_writePhase) (h_h0_rows_count : yr 0 60 h0_rows_count) (h_ao_dataPhase : yr 0 1 ao_dataPhase) (h_ao_writePhase : yr 0 1 ao_writePhase) (h_ao_rows_count : yr 0 60 ao_rows_count) : Met l yX5_copyFrom wsX5_copyFrom ({ frames := 2, cells := 0, slots := 0, locals := 39 }) (yPre [.ref h0, .ref ao] (dC, dI) [(h0, .inr (5, [.ref h0_counts, .ref h0_rows, .int h0_dataPhase, .int h0_writePhase, .int h0_lowClocks])), (h0_counts, .inl (cyI, 16, .inl gh0_counts)), (h0_rows, .inr (8, [.ref h0_rows_row, .int 60, .int 2, .int h0_rows_count])), (h0_rows_row, .inl (cyI, 120, .inl gh0_rows_row)), (ao, .inr (5, [.ref ao_counts, .ref ao_rows, .int ao_dataPhase, .int ao_writePhase, .int ao_lowClocks])), (ao_counts, .inl (cyI, 16, .inl gao_counts)), (ao_rows, .inr (8, [.ref ao_rows_row, .int 60, .int 2, .int ao_rows_count])), (ao_rows_row, .inl (cyI, 120, .inl gao_rows_row))] (yT cyI cyZ cyO) sz) (yQv (fun (u : yU) => yr 0 1 (u.1 0) ∧ yr 0 1 (u.1 1) ∧ yr 0 60 (u.1 3)) (dC, dI) [(h0, .inr (5, [.ref h0_counts, .ref h0_rows, .int h0_dataPhase, .int h0_writePhase, .int h0_lowClocks])), (h0_counts, .inl (cyI, 16, .inl gh0_counts)), (h0_rows, .inr (8, [.ref h0_rows_row, .int 60, .int 2, .int h0_rows_count])), (h0_rows_row, .inl (cyI, 120, .inl gh0_rows_row)), (ao, .inr (5, [.ref ao_counts, .ref ao_rows, .int ao_dataPhase, .int ao_writePhase, .int ao_lowClocks])), (ao_counts, .inl (cyI, 16, .inl gao_counts)), (ao_rows, .inr (8, [.ref ao_rows_row, .int 60, .int 2, .int ao_rows_count])), (ao_rows_row, .inl (cyI, 120, .inl gao_rows_row))] (yT cyI cyZ cyO) sz (fun u => [(h0, .inr (5, [.ref h0_counts, .ref h0_rows, .int (u.1 0), .int (u.1 1), .int (u.1 2)])), (h0_counts, .inl (cyI, 16, .inl (u.2 0))), (h0_rows, .inr (8, [.ref h0_rows_row, .int 60, .int 2, .int (u.1 3)])), (h0_rows_row, .inl (cyI, 120, .inl (u.2 1))), (ao, .inr (5, [.ref ao_counts, .ref ao_rows, .int ao_dataPhase, .int ao_writePhase, .int ao_lowClocks])), (ao_counts, .inl (cyI, 16, .inl gao_counts)), (ao_rows, .inr (8, [.ref ao_rows_row, .int 60, .int 2, .int ao_rows_count])), (ao_rows_row, .inl (cyI, 120, .inl gao_rows_row))])) 0 0 (va_A [(h0, .inr (5, [.ref h0_counts, .ref h0_rows, .int h0_dataPhase, .int h0_writePhase, .int h0_lowClocks])), (h0_counts, .inl (cyI, 16, .inl gh0_counts)), (h0_rows, .inr (8, [.ref h0_rows_row, .int 60, .int 2, .int h0_rows_count])), (h0_rows_row, .inl (cyI, 120, .inl gh0_rows_row)), (ao, .inr (5, [.ref ao_counts, .ref ao_rows, .int ao_dataPhase, .int ao_writePhase, .int ao_lowClocks])), (ao_counts, .inl (cyI, 16, .inl gao_counts)), (ao_rows, .inr (8, [.ref ao_rows_row, .int 60, .int 2, .int ao_rows_count])), (ao_rows_row, .inl (cyI, 120, .inl gao_rows_row))] sz) := by
  refine yMet (cc := cX5_copyFrom) (maxL := 2) (ret := none) (by decide) rfl (Nat.le_of_ble_eq_true rfl) ?_
  intro p e s m below meth c A hx hb hr hlk hml hts hown hnm hsz hAe hP hK hD hA hS ls hl
  have hl : lv_has ls 2 [(0, .ref h0), (1, .ref ao)] := hl
  have hm42 := hts (.methodLink RX5 42 arraycopyName) (by decide +kernel)
  have hcn := hts (.native arraycopyName) (by decide +kernel)
  have hcs := hts (.static arraycopyName) (by decide +kernel)
  have hci := hts (.initialized "java/lang/System") (by decide +kernel)
  have hf18 := hts (.fieldLink RX5 18 "BusBridge$Monitor" "rows" "LBusBridge$Table;") (by decide +kernel)
  have hf31 := hts (.fieldLink RX5 31 "BusBridge$Monitor" "dataPhase" "Z") (by decide +kernel)
  have hf35 := hts (.fieldLink RX5 35 "BusBridge$Monitor" "writePhase" "Z") (by decide +kernel)
  have hf38 := hts (.fieldLink RX5 38 "BusBridge$Monitor" "lowClocks" "I") (by decide +kernel)
  have hf9 := hts (.fieldLink RX5 9 "BusBridge$Monitor" "counts" "[I") (by decide +kernel)
  have hnX5 : ∀ w ∈ wsX50, w ∈ wsX5_copyFrom := by decide +kernel
  refine lv_aload_n hx hb dX5_copyFrom_0 rfl (lv_at hl 1 rfl) ?_
  refine va_get (D := (dC, dI)) (ci := 5) (v := .ref ao_counts) (C := RX5) (T := TX5) (N := 5) hx hb hts hnX5 hown hK hP 4 rfl rfl 0 (by decide) hf9 (fun _ h9 => h9) rfl dX5_copyFrom_1 ?_
  refine lv_iconst (v := 0) hx hb dX5_copyFrom_4 (by decide) ?_
  refine lv_aload_n hx hb dX5_copyFrom_5 rfl (lv_at hl 0 rfl) ?_
  refine va_get (D := (dC, dI)) (ci := 5) (v := .ref h0_counts) (C := RX5) (T := TX5) (N := 5) hx hb hts hnX5 hown hK hP 0 rfl rfl 0 (by decide) hf9 (fun _ h9 => h9) rfl dX5_copyFrom_6 ?_
  refine lv_iconst (v := 0) hx hb dX5_copyFrom_9 (by decide) ?_
  refine lv_aload_n hx hb dX5_copyFrom_10 rfl (lv_at hl 0 rfl) ?_
  refine va_get (D := (dC, dI)) (ci := 5) (v := .ref h0_counts) (C := RX5) (T := TX5) (N := 5) hx hb hts hnX5 hown hK hP 0 rfl rfl 0 (by decide) hf9 (fun _ h9 => h9) rfl dX5_copyFrom_11 ?_
  refine va_alen (v := 16) hx hb hK hP 1 0 rfl rfl rfl dX5_copyFrom_14 ?_
  refine yg_copy hx hb (by rw [hml]; exact hl.1.symm) hown hm42 hcn hcs hci hK hP hD hS 5 1 0 rfl rfl rfl (by decide) (by decide) (by decide) (Nat.le_of_ble_eq_true rfl) (Nat.le_of_ble_eq_true rfl) dX5_copyFrom_15 (fun f15 H locs hP hD hS => ?_)
  have hP : va_P (dC, dI) vwCl [(h0, .inr (5, [.ref h0_counts, .ref h0_rows, .int h0_dataPhase, .int h0_writePhase, .int h0_lowClocks])), (h0_counts, .inl (cyI, 16, .inl f15)), (h0_rows, .inr (8, [.ref h0_rows_row, .int 60, .int 2, .int h0_rows_count])), (h0_rows_row, .inl (cyI, 120, .inl gh0_rows_row)), (ao, .inr (5, [.ref ao_counts, .ref ao_rows, .int ao_dataPhase, .int ao_writePhase, .int ao_lowClocks])), (ao_counts, .inl (cyI, 16, .inl gao_counts)), (ao_rows, .inr (8, [.ref ao_rows_row, .int 60, .int 2, .int ao_rows_count])), (ao_rows_row, .inl (cyI, 120, .inl gao_rows_row))] H := hP
  have hD : va_D A [(h0, .inr (5, [.ref h0_counts, .ref h0_rows, .int h0_dataPhase, .int h0_writePhase, .int h0_lowClocks])), (h0_counts, .inl (cyI, 16, .inl f15)), (h0_rows, .inr (8, [.ref h0_rows_row, .int 60, .int 2, .int h0_rows_count])), (h0_rows_row, .inl (cyI, 120, .inl gh0_rows_row)), (ao, .inr (5, [.ref ao_counts, .ref ao_rows, .int ao_dataPhase, .int ao_writePhase, .int ao_lowClocks])), (ao_counts, .inl (cyI, 16, .inl gao_counts)), (ao_rows, .inr (8, [.ref ao_rows_row, .int 60, .int 2, .int ao_rows_count])), (ao_rows_row, .inl (cyI, 120, .inl gao_rows_row))] := hD
  refine lv_aload_n hx hb dX5_copyFrom_18 rfl (lv_at hl 0 rfl) ?_
  refine va_get (D := (dC, dI)) (ci := 5) (v := .ref h0_rows) (C := RX5) (T := TX5) (N := 5) hx hb hts hnX5 hown hK hP 0 rfl rfl 1 (by decide) hf18 (fun _ h9 => h9) rfl dX5_copyFrom_19 ?_
  refine lv_aload_n hx hb dX5_copyFrom_22 rfl (lv_at hl 1 rfl) ?_
  refine va_get (D := (dC, dI)) (ci := 5) (v := .ref ao_rows) (C := RX5) (T := TX5) (N := 5) hx hb hts hnX5 hown hK hP 4 rfl rfl 1 (by decide) hf18 (fun _ h9 => h9) rfl dX5_copyFrom_23 ?_
  have hPc := hP.sub (ws' := [(h0_rows, .inr (8, [.ref h0_rows_row, .int 60, .int 2, .int h0_rows_count])), (h0_rows_row, .inl (cyI, 120, .inl gh0_rows_row)), (ao_rows, .inr (8, [.ref ao_rows_row, .int 60, .int 2, .int ao_rows_count])), (ao_rows_row, .inl (cyI, 120, .inl gao_rows_row))]) [2, 3, 6, 7] rfl
  have hDc := hD.sub (ws' := [(h0_rows, .inr (8, [.ref h0_rows_row, .int 60, .int 2, .int h0_rows_count])), (h0_rows_row, .inl (cyI, 120, .inl gh0_rows_row)), (ao_rows, .inr (8, [.ref ao_rows_row, .int 60, .int 2, .int ao_rows_count])), (ao_rows_row, .inl (cyI, 120, .inl gao_rows_row))]) [2, 3, 6, 7] (by decide) rfl
  refine yy_callv [2, 3, 6, 7] [0, 1, 4, 5] (wr := [(h0, .inr (5, [.ref h0_counts, .ref h0_rows, .int h0_dataPhase, .int h0_writePhase, .int h0_lowClocks])), (h0_counts, .inl (cyI, 16, .inl f15)), (ao, .inr (5, [.ref ao_counts, .ref ao_rows, .int ao_dataPhase, .int ao_writePhase, .int ao_lowClocks])), (ao_counts, .inl (cyI, 16, .inl gao_counts))]) (va_runV (As := [.ref ao_rows]) (rest := []) ⟨hx, hb, hml, hown, hts⟩ (g_TcopyC l dC dI cyI cyZ cyO H.size h0_rows h0_rows_count h0_rows_row gh0_rows_row ao_rows ao_rows_count ao_rows_row gao_rows_row h_h0_rows_count h_ao_rows_count) (cwV 1 hts gX5_copyFrom_X8_copyFrom rfl rfl rfl (by decide +kernel) ⟨Nat.le_of_ble_eq_true rfl, Nat.le_of_ble_eq_true rfl⟩) (yPreV hK hPc hDc (ci := 8) (q0 := 0) rfl rfl) rfl rfl hl.1 rfl (lv_room (Nat.le_of_ble_eq_true rfl)) dX5_copyFrom_26 ⟨Nat.le_of_ble_eq_true rfl, Nat.le_of_ble_eq_true rfl⟩) hP hD hS hA rfl rfl (by decide) (by decide) (fun u26 H locs hw hP hD hS => ?_)
  have hP : va_P (dC, dI) vwCl [(h0, .inr (5, [.ref h0_counts, .ref h0_rows, .int h0_dataPhase, .int h0_writePhase, .int h0_lowClocks])), (h0_counts, .inl (cyI, 16, .inl f15)), (ao, .inr (5, [.ref ao_counts, .ref ao_rows, .int ao_dataPhase, .int ao_writePhase, .int ao_lowClocks])), (ao_counts, .inl (cyI, 16, .inl gao_counts)), (h0_rows, .inr (8, [.ref h0_rows_row, .int 60, .int 2, .int (u26.1 0)])), (h0_rows_row, .inl (cyI, 120, .inl (u26.2 0))), (ao_rows, .inr (8, [.ref ao_rows_row, .int 60, .int 2, .int ao_rows_count])), (ao_rows_row, .inl (cyI, 120, .inl gao_rows_row))] H := hP
  have hD : va_D A [(h0, .inr (5, [.ref h0_counts, .ref h0_rows, .int h0_dataPhase, .int h0_writePhase, .int h0_lowClocks])), (h0_counts, .inl (cyI, 16, .inl f15)), (ao, .inr (5, [.ref ao_counts, .ref ao_rows, .int ao_dataPhase, .int ao_writePhase, .int ao_lowClocks])), (ao_counts, .inl (cyI, 16, .inl gao_counts)), (h0_rows, .inr (8, [.ref h0_rows_row, .int 60, .int 2, .int (u26.1 0)])), (h0_rows_row, .inl (cyI, 120, .inl (u26.2 0))), (ao_rows, .inr (8, [.ref ao_rows_row, .int 60, .int 2, .int ao_rows_count])), (ao_rows_row, .inl (cyI, 120, .inl gao_rows_row))] := hD
  refine W.widen (k := 0) (n := 0) (Nat.le_of_ble_eq_true rfl) (Nat.le_of_ble_eq_true rfl) ?_
  have hw26_0 := hw
  refine lv_aload_n hx hb dX5_copyFrom_29 rfl (lv_at hl 0 rfl) ?_
  refine lv_aload_n hx hb dX5_copyFrom_30 rfl (lv_at hl 1 rfl) ?_
  refine va_get (D := (dC, dI)) (ci := 5) (v := .int ao_dataPhase) (C := RX5) (T := TX5) (N := 5) hx hb hts hnX5 hown hK hP 2 rfl rfl 2 (by decide) hf31 (fun _ h9 => h9) rfl dX5_copyFrom_31 ?_
  refine va_put (D := (dC, dI)) (ci := 5) (v := .int ao_dataPhase) (ty := .boolean) (C := RX5) (T := TX5) (N := 5) hx hb hts hnX5 tyX5 tyX5_ok nmX5 hown hK hP hD hS 0 rfl rfl 2 (by decide) hf31 (fun _ h9 => h9) rfl (by decide +kernel) (yr_nz h_ao_dataPhase) (yr_fz h_ao_dataPhase) (Nat.le_of_ble_eq_true rfl) dX5_copyFrom_34 (fun H locs hP hD hS => ?_)
  have hP : va_P (dC, dI) vwCl [(h0, .inr (5, [.ref h0_counts, .ref h0_rows, .int ao_dataPhase, .int h0_writePhase, .int h0_lowClocks])), (h0_counts, .inl (cyI, 16, .inl f15)), (ao, .inr (5, [.ref ao_counts, .ref ao_rows, .int ao_dataPhase, .int ao_writePhase, .int ao_lowClocks])), (ao_counts, .inl (cyI, 16, .inl gao_counts)), (h0_rows, .inr (8, [.ref h0_rows_row, .int 60, .int 2, .int (u26.1 0)])), (h0_rows_row, .inl (cyI, 120, .inl (u26.2 0))), (ao_rows, .inr (8, [.ref ao_rows_row, .int 60, .int 2, .int ao_rows_count])), (ao_rows_row, .inl (cyI, 120, .inl gao_rows_row))] H := hP
  have hD : va_D A [(h0, .inr (5, [.ref h0_counts, .ref h0_rows, .int ao_dataPhase, .int h0_writePhase, .int h0_lowClocks])), (h0_counts, .inl (cyI, 16, .inl f15)), (ao, .inr (5, [.ref ao_counts, .ref ao_rows, .int ao_dataPhase, .int ao_writePhase, .int ao_lowClocks])), (ao_counts, .inl (cyI, 16, .inl gao_counts)), (h0_rows, .inr (8, [.ref h0_rows_row, .int 60, .int 2, .int (u26.1 0)])), (h0_rows_row, .inl (cyI, 120, .inl (u26.2 0))), (ao_rows, .inr (8, [.ref ao_rows_row, .int 60, .int 2, .int ao_rows_count])), (ao_rows_row, .inl (cyI, 120, .inl gao_rows_row))] := hD
  refine lv_aload_n hx hb dX5_copyFrom_37 rfl (lv_at hl 0 rfl) ?_
  refine lv_aload_n hx hb dX5_copyFrom_38 rfl (lv_at hl 1 rfl) ?_
  refine va_get (D := (dC, dI)) (ci := 5) (v := .int ao_writePhase) (C := RX5) (T := TX5) (N := 5) hx hb hts hnX5 hown hK hP 2 rfl rfl 3 (by decide) hf35 (fun _ h9 => h9) rfl dX5_copyFrom_39 ?_
  refine va_put (D := (dC, dI)) (ci := 5) (v := .int ao_writePhase) (ty := .boolean) (C := RX5) (T := TX5) (N := 5) hx hb hts hnX5 tyX5 tyX5_ok nmX5 hown hK hP hD hS 0 rfl rfl 3 (by decide) hf35 (fun _ h9 => h9) rfl (by decide +kernel) (yr_nz h_ao_writePhase) (yr_fz h_ao_writePhase) (Nat.le_of_ble_eq_true rfl) dX5_copyFrom_42 (fun H locs hP hD hS => ?_)
  have hP : va_P (dC, dI) vwCl [(h0, .inr (5, [.ref h0_counts, .ref h0_rows, .int ao_dataPhase, .int ao_writePhase, .int h0_lowClocks])), (h0_counts, .inl (cyI, 16, .inl f15)), (ao, .inr (5, [.ref ao_counts, .ref ao_rows, .int ao_dataPhase, .int ao_writePhase, .int ao_lowClocks])), (ao_counts, .inl (cyI, 16, .inl gao_counts)), (h0_rows, .inr (8, [.ref h0_rows_row, .int 60, .int 2, .int (u26.1 0)])), (h0_rows_row, .inl (cyI, 120, .inl (u26.2 0))), (ao_rows, .inr (8, [.ref ao_rows_row, .int 60, .int 2, .int ao_rows_count])), (ao_rows_row, .inl (cyI, 120, .inl gao_rows_row))] H := hP
  have hD : va_D A [(h0, .inr (5, [.ref h0_counts, .ref h0_rows, .int ao_dataPhase, .int ao_writePhase, .int h0_lowClocks])), (h0_counts, .inl (cyI, 16, .inl f15)), (ao, .inr (5, [.ref ao_counts, .ref ao_rows, .int ao_dataPhase, .int ao_writePhase, .int ao_lowClocks])), (ao_counts, .inl (cyI, 16, .inl gao_counts)), (h0_rows, .inr (8, [.ref h0_rows_row, .int 60, .int 2, .int (u26.1 0)])), (h0_rows_row, .inl (cyI, 120, .inl (u26.2 0))), (ao_rows, .inr (8, [.ref ao_rows_row, .int 60, .int 2, .int ao_rows_count])), (ao_rows_row, .inl (cyI, 120, .inl gao_rows_row))] := hD
  refine lv_aload_n hx hb dX5_copyFrom_45 rfl (lv_at hl 0 rfl) ?_
  refine lv_aload_n hx hb dX5_copyFrom_46 rfl (lv_at hl 1 rfl) ?_
  refine va_get (D := (dC, dI)) (ci := 5) (v := .int ao_lowClocks) (C := RX5) (T := TX5) (N := 5) hx hb hts hnX5 hown hK hP 2 rfl rfl 4 (by decide) hf38 (fun _ h9 => h9) rfl dX5_copyFrom_47 ?_
  refine va_put (D := (dC, dI)) (ci := 5) (v := .int ao_lowClocks) (ty := .int) (C := RX5) (T := TX5) (N := 5) hx hb hts hnX5 tyX5 tyX5_ok nmX5 hown hK hP hD hS 0 rfl rfl 4 (by decide) hf38 (fun _ h9 => h9) rfl (by decide +kernel) rfl rfl (Nat.le_of_ble_eq_true rfl) dX5_copyFrom_50 (fun H locs hP hD hS => ?_)
  have hP : va_P (dC, dI) vwCl [(h0, .inr (5, [.ref h0_counts, .ref h0_rows, .int ao_dataPhase, .int ao_writePhase, .int ao_lowClocks])), (h0_counts, .inl (cyI, 16, .inl f15)), (ao, .inr (5, [.ref ao_counts, .ref ao_rows, .int ao_dataPhase, .int ao_writePhase, .int ao_lowClocks])), (ao_counts, .inl (cyI, 16, .inl gao_counts)), (h0_rows, .inr (8, [.ref h0_rows_row, .int 60, .int 2, .int (u26.1 0)])), (h0_rows_row, .inl (cyI, 120, .inl (u26.2 0))), (ao_rows, .inr (8, [.ref ao_rows_row, .int 60, .int 2, .int ao_rows_count])), (ao_rows_row, .inl (cyI, 120, .inl gao_rows_row))] H := hP
  have hD : va_D A [(h0, .inr (5, [.ref h0_counts, .ref h0_rows, .int ao_dataPhase, .int ao_writePhase, .int ao_lowClocks])), (h0_counts, .inl (cyI, 16, .inl f15)), (ao, .inr (5, [.ref ao_counts, .ref ao_rows, .int ao_dataPhase, .int ao_writePhase, .int ao_lowClocks])), (ao_counts, .inl (cyI, 16, .inl gao_counts)), (h0_rows, .inr (8, [.ref h0_rows_row, .int 60, .int 2, .int (u26.1 0)])), (h0_rows_row, .inl (cyI, 120, .inl (u26.2 0))), (ao_rows, .inr (8, [.ref ao_rows_row, .int 60, .int 2, .int ao_rows_count])), (ao_rows_row, .inl (cyI, 120, .inl gao_rows_row))] := hD
  refine W.widen (k := 0) (n := 0) (Nat.le_of_ble_eq_true rfl) (Nat.le_of_ble_eq_true rfl) ?_
  exact yy_vret (((fun k0_ => match k0_ with | 0 => ao_dataPhase | 1 => ao_writePhase | 2 => ao_lowClocks | 3 => (u26.1 0) | _ => 0), (fun k0_ => match k0_ with | 0 => f15 | 1 => (u26.2 0) | _ => fun _ => 0)) : yU) hx hb hr hlk hsz hAe hK hP hD hS [0, 1, 4, 5, 2, 3, 6, 7] rfl rfl (by decide) ⟨h_ao_dataPhase, h_ao_writePhase, hw26_0⟩ dX5_copyFrom_53
set_option maxHeartbeats 4000000 in
set_option maxRecDepth 100000 in
theorem g_bitCount (l : Launch) (dC : Nat → ClassId) (dI : Nat → Nat → Nat) (cyI cyZ cyO : ClassId) (sz : Nat) (k : Int32)  : Met l yJ6_bitCount_0f7a4 wsJ6_bitCount_0f7a4 ({ frames := 0, cells := 0, slots := 0, locals := 0 }) (yPre [.int k] (dC, dI) [] (yT cyI cyZ cyO) sz) (yQi (fun (r : Int32) (u : yU) => True) (dC, dI) [] (yT cyI cyZ cyO) sz (fun u => [])) 0 0 (va_A [] sz) := by
  refine yMet (cc := cJ6_bitCount_0f7a4) (maxL := 1) (ret := (some .int)) (by decide) rfl (Nat.le_of_ble_eq_true rfl) ?_
  intro p e s m below meth c A hx hb hr hlk hml hts hown hnm hsz hAe hP hK hD hA hS ls hl
  have hl : lv_has ls 1 [(0, .int k)] := hl
  have hk265 := hts (.constant RJ6 265 1431655765) (by decide +kernel)
  have hk266 := hts (.constant RJ6 266 858993459) (by decide +kernel)
  have hk267 := hts (.constant RJ6 267 252645135) (by decide +kernel)
  refine lv_iload_n hx hb dJ6_bitCount_0f7a4_0 rfl (lv_at hl 0 rfl) ?_
  refine lv_iload_n hx hb dJ6_bitCount_0f7a4_1 rfl (lv_at hl 0 rfl) ?_
  refine lv_iconst (v := 1) hx hb dJ6_bitCount_0f7a4_2 (by decide) ?_
  refine lv_iushr hx hb dJ6_bitCount_0f7a4_3 rfl ?_
  refine lv_topi (fun v3 ev3 => ?_)
  refine lv_ldcw hx hb hown hk265 dJ6_bitCount_0f7a4_4 ?_
  refine lv_iand hx hb dJ6_bitCount_0f7a4_7 ?_
  refine lv_topi (fun v7 ev7 => ?_)
  refine lv_isub hx hb dJ6_bitCount_0f7a4_8 ?_
  refine lv_topi (fun v8 ev8 => ?_)
  refine lv_istore_n (lv' := [(0, .int v8)]) hx hb dJ6_bitCount_0f7a4_9 rfl hl (by decide) rfl (fun ls hl => ?_)
  refine lv_iload_n hx hb dJ6_bitCount_0f7a4_10 rfl (lv_at hl 0 rfl) ?_
  refine lv_ldcw hx hb hown hk266 dJ6_bitCount_0f7a4_11 ?_
  refine lv_iand hx hb dJ6_bitCount_0f7a4_14 ?_
  refine lv_topi (fun v14 ev14 => ?_)
  refine lv_iload_n hx hb dJ6_bitCount_0f7a4_15 rfl (lv_at hl 0 rfl) ?_
  refine lv_iconst (v := 2) hx hb dJ6_bitCount_0f7a4_16 (by decide) ?_
  refine lv_iushr hx hb dJ6_bitCount_0f7a4_17 rfl ?_
  refine lv_topi (fun v17 ev17 => ?_)
  refine lv_ldcw hx hb hown hk266 dJ6_bitCount_0f7a4_18 ?_
  refine lv_iand hx hb dJ6_bitCount_0f7a4_21 ?_
  refine lv_topi (fun v21 ev21 => ?_)
  refine lv_iadd hx hb dJ6_bitCount_0f7a4_22 ?_
  refine lv_topi (fun v22 ev22 => ?_)
  refine lv_istore_n (lv' := [(0, .int v22)]) hx hb dJ6_bitCount_0f7a4_23 rfl hl (by decide) rfl (fun ls hl => ?_)
  refine lv_iload_n hx hb dJ6_bitCount_0f7a4_24 rfl (lv_at hl 0 rfl) ?_
  refine lv_iload_n hx hb dJ6_bitCount_0f7a4_25 rfl (lv_at hl 0 rfl) ?_
  refine lv_iconst (v := 4) hx hb dJ6_bitCount_0f7a4_26 (by decide) ?_
  refine lv_iushr hx hb dJ6_bitCount_0f7a4_27 rfl ?_
  refine lv_topi (fun v27 ev27 => ?_)
  refine lv_iadd hx hb dJ6_bitCount_0f7a4_28 ?_
  refine lv_topi (fun v28 ev28 => ?_)
  refine lv_ldcw hx hb hown hk267 dJ6_bitCount_0f7a4_29 ?_
  refine lv_iand hx hb dJ6_bitCount_0f7a4_32 ?_
  refine lv_topi (fun v32 ev32 => ?_)
  refine lv_istore_n (lv' := [(0, .int v32)]) hx hb dJ6_bitCount_0f7a4_33 rfl hl (by decide) rfl (fun ls hl => ?_)
  refine lv_iload_n hx hb dJ6_bitCount_0f7a4_34 rfl (lv_at hl 0 rfl) ?_
  refine lv_iload_n hx hb dJ6_bitCount_0f7a4_35 rfl (lv_at hl 0 rfl) ?_
  refine lv_bipush (v := 8) hx hb dJ6_bitCount_0f7a4_36 (by decide) ?_
  refine lv_iushr hx hb dJ6_bitCount_0f7a4_38 rfl ?_
  refine lv_topi (fun v38 ev38 => ?_)
  refine lv_iadd hx hb dJ6_bitCount_0f7a4_39 ?_
  refine lv_topi (fun v39 ev39 => ?_)
  refine lv_istore_n (lv' := [(0, .int v39)]) hx hb dJ6_bitCount_0f7a4_40 rfl hl (by decide) rfl (fun ls hl => ?_)
  refine lv_iload_n hx hb dJ6_bitCount_0f7a4_41 rfl (lv_at hl 0 rfl) ?_
  refine lv_iload_n hx hb dJ6_bitCount_0f7a4_42 rfl (lv_at hl 0 rfl) ?_
  refine lv_bipush (v := 16) hx hb dJ6_bitCount_0f7a4_43 (by decide) ?_
  refine lv_iushr hx hb dJ6_bitCount_0f7a4_45 rfl ?_
  refine lv_topi (fun v45 ev45 => ?_)
  refine lv_iadd hx hb dJ6_bitCount_0f7a4_46 ?_
  refine lv_topi (fun v46 ev46 => ?_)
  refine lv_istore_n (lv' := [(0, .int v46)]) hx hb dJ6_bitCount_0f7a4_47 rfl hl (by decide) rfl (fun ls hl => ?_)
  refine lv_iload_n hx hb dJ6_bitCount_0f7a4_48 rfl (lv_at hl 0 rfl) ?_
  refine lv_bipush (v := 63) hx hb dJ6_bitCount_0f7a4_49 (by decide) ?_
  refine lv_iand hx hb dJ6_bitCount_0f7a4_51 ?_
  refine lv_topi (fun v51 ev51 => ?_)
  refine W.widen (k := 0) (n := 0) (Nat.le_of_ble_eq_true rfl) (Nat.le_of_ble_eq_true rfl) ?_
  exact yy_iret (v := v51) (((fun _ => 0), (fun _ _ => 0)) : yU) hx hb hr hlk rfl hsz hAe hK hP hD hS [] rfl rfl (by decide) trivial dJ6_bitCount_0f7a4_52
set_option maxHeartbeats 4000000 in
set_option maxRecDepth 100000 in
theorem g_changed (l : Launch) (dC : Nat → ClassId) (dI : Nat → Nat → Nat) (cyI cyZ cyO : ClassId) (sz : Nat) (i : Int32) (az : Nat) (gaz : Nat → Int32) (av : Nat) (gav : Nat → Int32) (h_i : yr 0 14 i) : Met l yX5_changed wsX5_changed ({ frames := 0, cells := 0, slots := 0, locals := 0 }) (yPre [.int i, .ref az, .ref av] (dC, dI) [(az, .inl (cyI, 15, .inl gaz)), (av, .inl (cyI, 15, .inl gav))] (yT cyI cyZ cyO) sz) (yQi (fun (r : Int32) (u : yU) => yr 0 1 r) (dC, dI) [(az, .inl (cyI, 15, .inl gaz)), (av, .inl (cyI, 15, .inl gav))] (yT cyI cyZ cyO) sz (fun u => [(az, .inl (cyI, 15, .inl gaz)), (av, .inl (cyI, 15, .inl gav))])) 0 0 (va_A [(az, .inl (cyI, 15, .inl gaz)), (av, .inl (cyI, 15, .inl gav))] sz) := by
  refine yMet (cc := cX5_changed) (maxL := 3) (ret := (some .boolean)) (by decide) rfl (Nat.le_of_ble_eq_true rfl) ?_
  intro p e s m below meth c A hx hb hr hlk hml hts hown hnm hsz hAe hP hK hD hA hS ls hl
  have hl : lv_has ls 3 [(0, .int i), (1, .ref az), (2, .ref av)] := hl
  refine lv_aload_n hx hb dX5_changed_0 rfl (lv_at hl 1 rfl) ?_
  refine lv_iload_n hx hb dX5_changed_1 rfl (lv_at hl 0 rfl) ?_
  refine va_iald hx hb hK hP 0 0 rfl rfl (yr_in h_i (by decide) (by decide)) dX5_changed_2 ?_
  refine lv_topi (fun v2 ev2 => ?_)
  refine lv_aload_n hx hb dX5_changed_3 rfl (lv_at hl 2 rfl) ?_
  refine lv_iload_n hx hb dX5_changed_4 rfl (lv_at hl 0 rfl) ?_
  refine va_iald hx hb hK hP 1 0 rfl rfl (yr_in h_i (by decide) (by decide)) dX5_changed_5 ?_
  refine lv_topi (fun v5 ev5 => ?_)
  have J14 : ∀ (j14_s0 : Int32) (H : Heap) (locs : List Loc) (ls : Array Slot), yr 0 1 j14_s0 → va_P (dC, dI) vwCl [(az, .inl (cyI, 15, .inl gaz)), (av, .inl (cyI, 15, .inl gav))] H → va_D A [(az, .inl (cyI, 15, .inl gaz)), (av, .inl (cyI, 15, .inl gav))] → va_S A s.heap H locs → lv_has ls 3 [(0, .int i), (1, .ref az), (2, .ref av)] → W p l e ({ frames := 0, cells := 0, slots := 0, locals := 0 } : Room) s m [.int i, .ref az, .ref av].toArray below meth c H locs 0 0 (MQ below (yQi (fun (r : Int32) (u : yU) => yr 0 1 r) (dC, dI) [(az, .inl (cyI, 15, .inl gaz)), (av, .inl (cyI, 15, .inl gav))] (yT cyI cyZ cyO) sz (fun u => [(az, .inl (cyI, 15, .inl gaz)), (av, .inl (cyI, 15, .inl gav))])) [.int i, .ref az, .ref av].toArray s 0 0 A) (F0 m 14 ls [.int j14_s0]) := by
    intro j14_s0 H locs ls hj14_s0  hP hD hS hl
    refine W.widen (k := 0) (n := 0) (Nat.le_of_ble_eq_true rfl) (Nat.le_of_ble_eq_true rfl) ?_
    exact yy_iret (v := j14_s0) (((fun _ => 0), (fun _ _ => 0)) : yU) hx hb hr hlk (yr_nz hj14_s0) hsz hAe hK hP hD hS [0, 1] rfl rfl (by decide) hj14_s0 dX5_changed_14
  refine lv_icmp_eq (tgt := 13) hx hb dX5_changed_6 (by decide) (fun c6 => ?_) (fun c6 => ?_)
  · refine lv_iconst (v := 0) hx hb dX5_changed_13 (by decide) ?_
    exact J14 0 _ _ _ (yrc (a := 0) (b := 1) (x := 0) (by decide) (by decide))  (hP.sub [0, 1] rfl) (hD.sub [0, 1] (by decide) rfl) hS (lv_sub hl [0, 1, 2] rfl)
  · refine lv_iconst (v := 1) hx hb dX5_changed_9 (by decide) ?_
    refine lv_goto (tgt := 14) hx hb dX5_changed_10 (by decide) ?_
    exact J14 1 _ _ _ (yrc (a := 0) (b := 1) (x := 1) (by decide) (by decide))  (hP.sub [0, 1] rfl) (hD.sub [0, 1] (by decide) rfl) hS (lv_sub hl [0, 1, 2] rfl)
set_option maxHeartbeats 4000000 in
set_option maxRecDepth 100000 in
theorem g_leavesAddress (l : Launch) (dC : Nat → ClassId) (dI : Nat → Nat → Nat) (cyI cyZ cyO : ClassId) (sz : Nat) (az : Nat) (gaz : Nat → Int32) (av : Nat) (gav : Nat → Int32)  : Met l yX5_leavesAddress wsX5_leavesAddress ({ frames := 1, cells := 0, slots := 0, locals := 22 }) (yPre [.ref az, .ref av] (dC, dI) [(az, .inl (cyI, 15, .inl gaz)), (av, .inl (cyI, 15, .inl gav))] (yT cyI cyZ cyO) sz) (yQi (fun (r : Int32) (u : yU) => yr 0 1 r) (dC, dI) [(az, .inl (cyI, 15, .inl gaz)), (av, .inl (cyI, 15, .inl gav))] (yT cyI cyZ cyO) sz (fun u => [(az, .inl (cyI, 15, .inl gaz)), (av, .inl (cyI, 15, .inl gav))])) 0 0 (va_A [(az, .inl (cyI, 15, .inl gaz)), (av, .inl (cyI, 15, .inl gav))] sz) := by
  refine yMet (cc := cX5_leavesAddress) (maxL := 2) (ret := (some .boolean)) (by decide) rfl (Nat.le_of_ble_eq_true rfl) ?_
  intro p e s m below meth c A hx hb hr hlk hml hts hown hnm hsz hAe hP hK hD hA hS ls hl
  have hl : lv_has ls 2 [(0, .ref az), (1, .ref av)] := hl
  refine lv_aload_n hx hb dX5_leavesAddress_0 rfl (lv_at hl 1 rfl) ?_
  refine lv_iconst (v := 4) hx hb dX5_leavesAddress_1 (by decide) ?_
  refine va_iald hx hb hK hP 1 0 rfl rfl (yin (by decide)) dX5_leavesAddress_2 ?_
  refine lv_topi (fun v2 ev2 => ?_)
  have J53 : ∀ (j53_s0 : Int32) (H : Heap) (locs : List Loc) (ls : Array Slot), yr 0 1 j53_s0 → va_P (dC, dI) vwCl [(az, .inl (cyI, 15, .inl gaz)), (av, .inl (cyI, 15, .inl gav))] H → va_D A [(az, .inl (cyI, 15, .inl gaz)), (av, .inl (cyI, 15, .inl gav))] → va_S A s.heap H locs → lv_has ls 2 [(0, .ref az), (1, .ref av)] → W p l e ({ frames := 1, cells := 0, slots := 0, locals := 22 } : Room) s m [.ref az, .ref av].toArray below meth c H locs 0 0 (MQ below (yQi (fun (r : Int32) (u : yU) => yr 0 1 r) (dC, dI) [(az, .inl (cyI, 15, .inl gaz)), (av, .inl (cyI, 15, .inl gav))] (yT cyI cyZ cyO) sz (fun u => [(az, .inl (cyI, 15, .inl gaz)), (av, .inl (cyI, 15, .inl gav))])) [.ref az, .ref av].toArray s 0 0 A) (F0 m 53 ls [.int j53_s0]) := by
    intro j53_s0 H locs ls hj53_s0  hP hD hS hl
    refine W.widen (k := 0) (n := 0) (Nat.le_of_ble_eq_true rfl) (Nat.le_of_ble_eq_true rfl) ?_
    exact yy_iret (v := j53_s0) (((fun _ => 0), (fun _ _ => 0)) : yU) hx hb hr hlk (yr_nz hj53_s0) hsz hAe hK hP hD hS [0, 1] rfl rfl (by decide) hj53_s0 dX5_leavesAddress_53
  have J52 : ∀  (H : Heap) (locs : List Loc) (ls : Array Slot), va_P (dC, dI) vwCl [(az, .inl (cyI, 15, .inl gaz)), (av, .inl (cyI, 15, .inl gav))] H → va_D A [(az, .inl (cyI, 15, .inl gaz)), (av, .inl (cyI, 15, .inl gav))] → va_S A s.heap H locs → lv_has ls 2 [(0, .ref az), (1, .ref av)] → W p l e ({ frames := 1, cells := 0, slots := 0, locals := 22 } : Room) s m [.ref az, .ref av].toArray below meth c H locs 0 0 (MQ below (yQi (fun (r : Int32) (u : yU) => yr 0 1 r) (dC, dI) [(az, .inl (cyI, 15, .inl gaz)), (av, .inl (cyI, 15, .inl gav))] (yT cyI cyZ cyO) sz (fun u => [(az, .inl (cyI, 15, .inl gaz)), (av, .inl (cyI, 15, .inl gav))])) [.ref az, .ref av].toArray s 0 0 A) (F0 m 52 ls []) := by
    intro  H locs ls   hP hD hS hl
    refine lv_iconst (v := 0) hx hb dX5_leavesAddress_52 (by decide) ?_
    exact J53 0 _ _ _ (yrc (a := 0) (b := 1) (x := 0) (by decide) (by decide))  (hP.sub [0, 1] rfl) (hD.sub [0, 1] (by decide) rfl) hS (lv_sub hl [0, 1] rfl)
  refine lv_if_ne (tgt := 52) hx hb dX5_leavesAddress_3 (by decide) (fun c3 => ?_) (fun c3 => ?_)
  · exact J52  _ _ _   (hP.sub [0, 1] rfl) (hD.sub [0, 1] (by decide) rfl) hS (lv_sub hl [0, 1] rfl)
  · have hq6_1 : yr 0 0 v2 := yr_eq (yr_all _) (yrc (a := 0) (b := 0) (x := 0) (by decide) (by decide)) c3 (by decide) (by decide)
    refine lv_aload_n hx hb dX5_leavesAddress_6 rfl (lv_at hl 1 rfl) ?_
    refine lv_iconst (v := 5) hx hb dX5_leavesAddress_7 (by decide) ?_
    refine va_iald hx hb hK hP 1 0 rfl rfl (yin (by decide)) dX5_leavesAddress_8 ?_
    refine lv_topi (fun v8 ev8 => ?_)
    refine lv_if_ne (tgt := 52) hx hb dX5_leavesAddress_9 (by decide) (fun c9 => ?_) (fun c9 => ?_)
    · exact J52  _ _ _   (hP.sub [0, 1] rfl) (hD.sub [0, 1] (by decide) rfl) hS (lv_sub hl [0, 1] rfl)
    · have hq12_2 : yr 0 0 v8 := yr_eq (yr_all _) (yrc (a := 0) (b := 0) (x := 0) (by decide) (by decide)) c9 (by decide) (by decide)
      refine lv_aload_n hx hb dX5_leavesAddress_12 rfl (lv_at hl 1 rfl) ?_
      refine lv_iconst (v := 2) hx hb dX5_leavesAddress_13 (by decide) ?_
      refine va_iald hx hb hK hP 1 0 rfl rfl (yin (by decide)) dX5_leavesAddress_14 ?_
      refine lv_topi (fun v14 ev14 => ?_)
      have hPc := hP.sub (ws' := []) [] rfl
      have hDc := hD.sub (ws' := []) [] (by decide) rfl
      refine yy_calli [] [0, 1] (wr := [(az, .inl (cyI, 15, .inl gaz)), (av, .inl (cyI, 15, .inl gav))]) (va_runS (As := [.int v14]) (rest := []) ⟨hx, hb, hml, hown, hts⟩ (k_isTransfer l dC dI cyI cyZ cyO s.heap.size v14 ) (va_cwS 1 hts gX5_leavesAddress_X9_isTransfer rfl rfl rfl (by decide +kernel) ⟨Nat.le_of_ble_eq_true rfl, Nat.le_of_ble_eq_true rfl⟩) (yPreS hK hPc hDc) rfl rfl hl.1 rfl (lv_room (Nat.le_of_ble_eq_true rfl)) dX5_leavesAddress_15 ⟨Nat.le_of_ble_eq_true rfl, Nat.le_of_ble_eq_true rfl⟩) hP hD hS hA rfl rfl (by decide) (by decide) (fun r15 u15 H locs hw hP hD hS => ?_)
      have hP : va_P (dC, dI) vwCl [(az, .inl (cyI, 15, .inl gaz)), (av, .inl (cyI, 15, .inl gav))] H := hP
      have hD : va_D A [(az, .inl (cyI, 15, .inl gaz)), (av, .inl (cyI, 15, .inl gav))] := hD
      refine W.widen (k := 0) (n := 0) (Nat.le_of_ble_eq_true rfl) (Nat.le_of_ble_eq_true rfl) ?_
      have hw : r15 = (zB (v14 = 2 ∨ v14 = 3)) := hw
      subst hw
      refine lv_if_eq (tgt := 52) hx hb dX5_leavesAddress_18 (by decide) (fun c18 => ?_) (fun c18 => ?_)
      · exact J52  _ _ _   (hP.sub [0, 1] rfl) (hD.sub [0, 1] (by decide) rfl) hS (lv_sub hl [0, 1] rfl)
      · have hp18 := yzP c18
        refine lv_iconst (v := 0) hx hb dX5_leavesAddress_21 (by decide) ?_
        refine lv_aload_n hx hb dX5_leavesAddress_22 rfl (lv_at hl 0 rfl) ?_
        refine lv_aload_n hx hb dX5_leavesAddress_23 rfl (lv_at hl 1 rfl) ?_
        have hPc := hP.sub (ws' := [(az, .inl (cyI, 15, .inl gaz)), (av, .inl (cyI, 15, .inl gav))]) [0, 1] rfl
        have hDc := hD.sub (ws' := [(az, .inl (cyI, 15, .inl gaz)), (av, .inl (cyI, 15, .inl gav))]) [0, 1] (by decide) rfl
        refine yy_calli [0, 1] [] (wr := []) (va_runS (As := [.int 0, .ref az, .ref av]) (rest := []) ⟨hx, hb, hml, hown, hts⟩ (g_changed l dC dI cyI cyZ cyO H.size 0 az gaz av gav (yrc (a := 0) (b := 14) (x := 0) (by decide) (by decide))) (va_cwS 3 hts gX5_leavesAddress_X5_changed rfl rfl rfl (by decide +kernel) ⟨Nat.le_of_ble_eq_true rfl, Nat.le_of_ble_eq_true rfl⟩) (yPreS hK hPc hDc) rfl rfl hl.1 rfl (lv_room (Nat.le_of_ble_eq_true rfl)) dX5_leavesAddress_24 ⟨Nat.le_of_ble_eq_true rfl, Nat.le_of_ble_eq_true rfl⟩) hP hD hS hA rfl rfl (by decide) (by decide) (fun r24 u24 H locs hw hP hD hS => ?_)
        have hP : va_P (dC, dI) vwCl [(az, .inl (cyI, 15, .inl gaz)), (av, .inl (cyI, 15, .inl gav))] H := hP
        have hD : va_D A [(az, .inl (cyI, 15, .inl gaz)), (av, .inl (cyI, 15, .inl gav))] := hD
        refine W.widen (k := 0) (n := 0) (Nat.le_of_ble_eq_true rfl) (Nat.le_of_ble_eq_true rfl) ?_
        have hw24_0 := hw
        have J48 : ∀  (H : Heap) (locs : List Loc) (ls : Array Slot), va_P (dC, dI) vwCl [(az, .inl (cyI, 15, .inl gaz)), (av, .inl (cyI, 15, .inl gav))] H → va_D A [(az, .inl (cyI, 15, .inl gaz)), (av, .inl (cyI, 15, .inl gav))] → va_S A s.heap H locs → lv_has ls 2 [(0, .ref az), (1, .ref av)] → W p l e ({ frames := 1, cells := 0, slots := 0, locals := 22 } : Room) s m [.ref az, .ref av].toArray below meth c H locs 0 0 (MQ below (yQi (fun (r : Int32) (u : yU) => yr 0 1 r) (dC, dI) [(az, .inl (cyI, 15, .inl gaz)), (av, .inl (cyI, 15, .inl gav))] (yT cyI cyZ cyO) sz (fun u => [(az, .inl (cyI, 15, .inl gaz)), (av, .inl (cyI, 15, .inl gav))])) [.ref az, .ref av].toArray s 0 0 A) (F0 m 48 ls []) := by
          intro  H locs ls   hP hD hS hl
          refine lv_iconst (v := 1) hx hb dX5_leavesAddress_48 (by decide) ?_
          refine lv_goto (tgt := 53) hx hb dX5_leavesAddress_49 (by decide) ?_
          exact J53 1 _ _ _ (yrc (a := 0) (b := 1) (x := 1) (by decide) (by decide))  (hP.sub [0, 1] rfl) (hD.sub [0, 1] (by decide) rfl) hS (lv_sub hl [0, 1] rfl)
        refine lv_if_ne (tgt := 48) hx hb dX5_leavesAddress_27 (by decide) (fun c27 => ?_) (fun c27 => ?_)
        · have hq48_3 : yr 1 1 r24 := yr_neL hw24_0 c27 (by decide) (by decide)
          exact J48  _ _ _   (hP.sub [0, 1] rfl) (hD.sub [0, 1] (by decide) rfl) hS (lv_sub hl [0, 1] rfl)
        · have hq30_4 : yr 0 0 r24 := yr_eq hw24_0 (yrc (a := 0) (b := 0) (x := 0) (by decide) (by decide)) c27 (by decide) (by decide)
          refine lv_iconst (v := 1) hx hb dX5_leavesAddress_30 (by decide) ?_
          refine lv_aload_n hx hb dX5_leavesAddress_31 rfl (lv_at hl 0 rfl) ?_
          refine lv_aload_n hx hb dX5_leavesAddress_32 rfl (lv_at hl 1 rfl) ?_
          have hPc := hP.sub (ws' := [(az, .inl (cyI, 15, .inl gaz)), (av, .inl (cyI, 15, .inl gav))]) [0, 1] rfl
          have hDc := hD.sub (ws' := [(az, .inl (cyI, 15, .inl gaz)), (av, .inl (cyI, 15, .inl gav))]) [0, 1] (by decide) rfl
          refine yy_calli [0, 1] [] (wr := []) (va_runS (As := [.int 1, .ref az, .ref av]) (rest := []) ⟨hx, hb, hml, hown, hts⟩ (g_changed l dC dI cyI cyZ cyO H.size 1 az gaz av gav (yrc (a := 0) (b := 14) (x := 1) (by decide) (by decide))) (va_cwS 3 hts gX5_leavesAddress_X5_changed rfl rfl rfl (by decide +kernel) ⟨Nat.le_of_ble_eq_true rfl, Nat.le_of_ble_eq_true rfl⟩) (yPreS hK hPc hDc) rfl rfl hl.1 rfl (lv_room (Nat.le_of_ble_eq_true rfl)) dX5_leavesAddress_33 ⟨Nat.le_of_ble_eq_true rfl, Nat.le_of_ble_eq_true rfl⟩) hP hD hS hA rfl rfl (by decide) (by decide) (fun r33 u33 H locs hw hP hD hS => ?_)
          have hP : va_P (dC, dI) vwCl [(az, .inl (cyI, 15, .inl gaz)), (av, .inl (cyI, 15, .inl gav))] H := hP
          have hD : va_D A [(az, .inl (cyI, 15, .inl gaz)), (av, .inl (cyI, 15, .inl gav))] := hD
          refine W.widen (k := 0) (n := 0) (Nat.le_of_ble_eq_true rfl) (Nat.le_of_ble_eq_true rfl) ?_
          have hw33_0 := hw
          refine lv_if_ne (tgt := 48) hx hb dX5_leavesAddress_36 (by decide) (fun c36 => ?_) (fun c36 => ?_)
          · have hq48_5 : yr 1 1 r33 := yr_neL hw33_0 c36 (by decide) (by decide)
            exact J48  _ _ _   (hP.sub [0, 1] rfl) (hD.sub [0, 1] (by decide) rfl) hS (lv_sub hl [0, 1] rfl)
          · have hq39_6 : yr 0 0 r33 := yr_eq hw33_0 (yrc (a := 0) (b := 0) (x := 0) (by decide) (by decide)) c36 (by decide) (by decide)
            refine lv_iconst (v := 2) hx hb dX5_leavesAddress_39 (by decide) ?_
            refine lv_aload_n hx hb dX5_leavesAddress_40 rfl (lv_at hl 0 rfl) ?_
            refine lv_aload_n hx hb dX5_leavesAddress_41 rfl (lv_at hl 1 rfl) ?_
            have hPc := hP.sub (ws' := [(az, .inl (cyI, 15, .inl gaz)), (av, .inl (cyI, 15, .inl gav))]) [0, 1] rfl
            have hDc := hD.sub (ws' := [(az, .inl (cyI, 15, .inl gaz)), (av, .inl (cyI, 15, .inl gav))]) [0, 1] (by decide) rfl
            refine yy_calli [0, 1] [] (wr := []) (va_runS (As := [.int 2, .ref az, .ref av]) (rest := []) ⟨hx, hb, hml, hown, hts⟩ (g_changed l dC dI cyI cyZ cyO H.size 2 az gaz av gav (yrc (a := 0) (b := 14) (x := 2) (by decide) (by decide))) (va_cwS 3 hts gX5_leavesAddress_X5_changed rfl rfl rfl (by decide +kernel) ⟨Nat.le_of_ble_eq_true rfl, Nat.le_of_ble_eq_true rfl⟩) (yPreS hK hPc hDc) rfl rfl hl.1 rfl (lv_room (Nat.le_of_ble_eq_true rfl)) dX5_leavesAddress_42 ⟨Nat.le_of_ble_eq_true rfl, Nat.le_of_ble_eq_true rfl⟩) hP hD hS hA rfl rfl (by decide) (by decide) (fun r42 u42 H locs hw hP hD hS => ?_)
            have hP : va_P (dC, dI) vwCl [(az, .inl (cyI, 15, .inl gaz)), (av, .inl (cyI, 15, .inl gav))] H := hP
            have hD : va_D A [(az, .inl (cyI, 15, .inl gaz)), (av, .inl (cyI, 15, .inl gav))] := hD
            refine W.widen (k := 0) (n := 0) (Nat.le_of_ble_eq_true rfl) (Nat.le_of_ble_eq_true rfl) ?_
            have hw42_0 := hw
            refine lv_if_eq (tgt := 52) hx hb dX5_leavesAddress_45 (by decide) (fun c45 => ?_) (fun c45 => ?_)
            · have hq52_7 : yr 0 0 r42 := yr_eq hw42_0 (yrc (a := 0) (b := 0) (x := 0) (by decide) (by decide)) c45 (by decide) (by decide)
              exact J52  _ _ _   (hP.sub [0, 1] rfl) (hD.sub [0, 1] (by decide) rfl) hS (lv_sub hl [0, 1] rfl)
            · have hq48_8 : yr 1 1 r42 := yr_neL hw42_0 c45 (by decide) (by decide)
              exact J48  _ _ _   (hP.sub [0, 1] rfl) (hD.sub [0, 1] (by decide) rfl) hS (lv_sub hl [0, 1] rfl)
set_option maxHeartbeats 4000000 in
set_option maxRecDepth 100000 in
theorem g_followsBadly (l : Launch) (dC : Nat → ClassId) (dI : Nat → Nat → Nat) (cyI cyZ cyO : ClassId) (sz : Nat) (az : Nat) (gaz : Nat → Int32) (av : Nat) (gav : Nat → Int32)  : Met l yX5_followsBadly wsX5_followsBadly ({ frames := 1, cells := 0, slots := 0, locals := 22 }) (yPre [.ref az, .ref av] (dC, dI) [(az, .inl (cyI, 15, .inl gaz)), (av, .inl (cyI, 15, .inl gav))] (yT cyI cyZ cyO) sz) (yQi (fun (r : Int32) (u : yU) => yr 0 1 r) (dC, dI) [(az, .inl (cyI, 15, .inl gaz)), (av, .inl (cyI, 15, .inl gav))] (yT cyI cyZ cyO) sz (fun u => [(az, .inl (cyI, 15, .inl gaz)), (av, .inl (cyI, 15, .inl gav))])) 0 0 (va_A [(az, .inl (cyI, 15, .inl gaz)), (av, .inl (cyI, 15, .inl gav))] sz) := by
  refine yMet (cc := cX5_followsBadly) (maxL := 2) (ret := (some .boolean)) (by decide) rfl (Nat.le_of_ble_eq_true rfl) ?_
  intro p e s m below meth c A hx hb hr hlk hml hts hown hnm hsz hAe hP hK hD hA hS ls hl
  have hl : lv_has ls 2 [(0, .ref az), (1, .ref av)] := hl
  refine lv_aload_n hx hb dX5_followsBadly_0 rfl (lv_at hl 0 rfl) ?_
  refine lv_iconst (v := 2) hx hb dX5_followsBadly_1 (by decide) ?_
  refine va_iald hx hb hK hP 0 0 rfl rfl (yin (by decide)) dX5_followsBadly_2 ?_
  refine lv_topi (fun v2 ev2 => ?_)
  refine lv_iconst (v := 3) hx hb dX5_followsBadly_3 (by decide) ?_
  have J47 : ∀ (j47_s0 : Int32) (H : Heap) (locs : List Loc) (ls : Array Slot), yr 0 1 j47_s0 → va_P (dC, dI) vwCl [(az, .inl (cyI, 15, .inl gaz)), (av, .inl (cyI, 15, .inl gav))] H → va_D A [(az, .inl (cyI, 15, .inl gaz)), (av, .inl (cyI, 15, .inl gav))] → va_S A s.heap H locs → lv_has ls 2 [(0, .ref az), (1, .ref av)] → W p l e ({ frames := 1, cells := 0, slots := 0, locals := 22 } : Room) s m [.ref az, .ref av].toArray below meth c H locs 0 0 (MQ below (yQi (fun (r : Int32) (u : yU) => yr 0 1 r) (dC, dI) [(az, .inl (cyI, 15, .inl gaz)), (av, .inl (cyI, 15, .inl gav))] (yT cyI cyZ cyO) sz (fun u => [(az, .inl (cyI, 15, .inl gaz)), (av, .inl (cyI, 15, .inl gav))])) [.ref az, .ref av].toArray s 0 0 A) (F0 m 47 ls [.int j47_s0]) := by
    intro j47_s0 H locs ls hj47_s0  hP hD hS hl
    refine W.widen (k := 0) (n := 0) (Nat.le_of_ble_eq_true rfl) (Nat.le_of_ble_eq_true rfl) ?_
    exact yy_iret (v := j47_s0) (((fun _ => 0), (fun _ _ => 0)) : yU) hx hb hr hlk (yr_nz hj47_s0) hsz hAe hK hP hD hS [0, 1] rfl rfl (by decide) hj47_s0 dX5_followsBadly_47
  have J46 : ∀  (H : Heap) (locs : List Loc) (ls : Array Slot), va_P (dC, dI) vwCl [(az, .inl (cyI, 15, .inl gaz)), (av, .inl (cyI, 15, .inl gav))] H → va_D A [(az, .inl (cyI, 15, .inl gaz)), (av, .inl (cyI, 15, .inl gav))] → va_S A s.heap H locs → lv_has ls 2 [(0, .ref az), (1, .ref av)] → W p l e ({ frames := 1, cells := 0, slots := 0, locals := 22 } : Room) s m [.ref az, .ref av].toArray below meth c H locs 0 0 (MQ below (yQi (fun (r : Int32) (u : yU) => yr 0 1 r) (dC, dI) [(az, .inl (cyI, 15, .inl gaz)), (av, .inl (cyI, 15, .inl gav))] (yT cyI cyZ cyO) sz (fun u => [(az, .inl (cyI, 15, .inl gaz)), (av, .inl (cyI, 15, .inl gav))])) [.ref az, .ref av].toArray s 0 0 A) (F0 m 46 ls []) := by
    intro  H locs ls   hP hD hS hl
    refine lv_iconst (v := 0) hx hb dX5_followsBadly_46 (by decide) ?_
    exact J47 0 _ _ _ (yrc (a := 0) (b := 1) (x := 0) (by decide) (by decide))  (hP.sub [0, 1] rfl) (hD.sub [0, 1] (by decide) rfl) hS (lv_sub hl [0, 1] rfl)
  refine lv_icmp_ne (tgt := 46) hx hb dX5_followsBadly_4 (by decide) (fun c4 => ?_) (fun c4 => ?_)
  · exact J46  _ _ _   (hP.sub [0, 1] rfl) (hD.sub [0, 1] (by decide) rfl) hS (lv_sub hl [0, 1] rfl)
  · have hq7_1 : yr 3 3 v2 := yr_eq (yr_all _) (yrc (a := 3) (b := 3) (x := 3) (by decide) (by decide)) c4 (by decide) (by decide)
    refine lv_aload_n hx hb dX5_followsBadly_7 rfl (lv_at hl 1 rfl) ?_
    refine lv_iconst (v := 4) hx hb dX5_followsBadly_8 (by decide) ?_
    refine va_iald hx hb hK hP 1 0 rfl rfl (yin (by decide)) dX5_followsBadly_9 ?_
    refine lv_topi (fun v9 ev9 => ?_)
    refine lv_if_eq (tgt := 46) hx hb dX5_followsBadly_10 (by decide) (fun c10 => ?_) (fun c10 => ?_)
    · have hq46_2 : yr 0 0 v9 := yr_eq (yr_all _) (yrc (a := 0) (b := 0) (x := 0) (by decide) (by decide)) c10 (by decide) (by decide)
      exact J46  _ _ _   (hP.sub [0, 1] rfl) (hD.sub [0, 1] (by decide) rfl) hS (lv_sub hl [0, 1] rfl)
    · refine lv_aload_n hx hb dX5_followsBadly_13 rfl (lv_at hl 1 rfl) ?_
      refine lv_iconst (v := 2) hx hb dX5_followsBadly_14 (by decide) ?_
      refine va_iald hx hb hK hP 1 0 rfl rfl (yin (by decide)) dX5_followsBadly_15 ?_
      refine lv_topi (fun v15 ev15 => ?_)
      have hPc := hP.sub (ws' := []) [] rfl
      have hDc := hD.sub (ws' := []) [] (by decide) rfl
      refine yy_calli [] [0, 1] (wr := [(az, .inl (cyI, 15, .inl gaz)), (av, .inl (cyI, 15, .inl gav))]) (va_runS (As := [.int v15]) (rest := []) ⟨hx, hb, hml, hown, hts⟩ (k_isTransfer l dC dI cyI cyZ cyO s.heap.size v15 ) (va_cwS 1 hts gX5_followsBadly_X9_isTransfer rfl rfl rfl (by decide +kernel) ⟨Nat.le_of_ble_eq_true rfl, Nat.le_of_ble_eq_true rfl⟩) (yPreS hK hPc hDc) rfl rfl hl.1 rfl (lv_room (Nat.le_of_ble_eq_true rfl)) dX5_followsBadly_16 ⟨Nat.le_of_ble_eq_true rfl, Nat.le_of_ble_eq_true rfl⟩) hP hD hS hA rfl rfl (by decide) (by decide) (fun r16 u16 H locs hw hP hD hS => ?_)
      have hP : va_P (dC, dI) vwCl [(az, .inl (cyI, 15, .inl gaz)), (av, .inl (cyI, 15, .inl gav))] H := hP
      have hD : va_D A [(az, .inl (cyI, 15, .inl gaz)), (av, .inl (cyI, 15, .inl gav))] := hD
      refine W.widen (k := 0) (n := 0) (Nat.le_of_ble_eq_true rfl) (Nat.le_of_ble_eq_true rfl) ?_
      have hw : r16 = (zB (v15 = 2 ∨ v15 = 3)) := hw
      subst hw
      have J42 : ∀  (H : Heap) (locs : List Loc) (ls : Array Slot), va_P (dC, dI) vwCl [(az, .inl (cyI, 15, .inl gaz)), (av, .inl (cyI, 15, .inl gav))] H → va_D A [(az, .inl (cyI, 15, .inl gaz)), (av, .inl (cyI, 15, .inl gav))] → va_S A s.heap H locs → lv_has ls 2 [(0, .ref az), (1, .ref av)] → W p l e ({ frames := 1, cells := 0, slots := 0, locals := 22 } : Room) s m [.ref az, .ref av].toArray below meth c H locs 0 0 (MQ below (yQi (fun (r : Int32) (u : yU) => yr 0 1 r) (dC, dI) [(az, .inl (cyI, 15, .inl gaz)), (av, .inl (cyI, 15, .inl gav))] (yT cyI cyZ cyO) sz (fun u => [(az, .inl (cyI, 15, .inl gaz)), (av, .inl (cyI, 15, .inl gav))])) [.ref az, .ref av].toArray s 0 0 A) (F0 m 42 ls []) := by
        intro  H locs ls   hP hD hS hl
        refine lv_iconst (v := 1) hx hb dX5_followsBadly_42 (by decide) ?_
        refine lv_goto (tgt := 47) hx hb dX5_followsBadly_43 (by decide) ?_
        exact J47 1 _ _ _ (yrc (a := 0) (b := 1) (x := 1) (by decide) (by decide))  (hP.sub [0, 1] rfl) (hD.sub [0, 1] (by decide) rfl) hS (lv_sub hl [0, 1] rfl)
      refine lv_if_eq (tgt := 42) hx hb dX5_followsBadly_19 (by decide) (fun c19 => ?_) (fun c19 => ?_)
      · exact J42  _ _ _   (hP.sub [0, 1] rfl) (hD.sub [0, 1] (by decide) rfl) hS (lv_sub hl [0, 1] rfl)
      · have hp19 := yzP c19
        refine lv_aload_n hx hb dX5_followsBadly_22 rfl (lv_at hl 0 rfl) ?_
        refine lv_iconst (v := 0) hx hb dX5_followsBadly_23 (by decide) ?_
        refine va_iald hx hb hK hP 0 0 rfl rfl (yin (by decide)) dX5_followsBadly_24 ?_
        refine lv_topi (fun v24 ev24 => ?_)
        refine lv_aload_n hx hb dX5_followsBadly_25 rfl (lv_at hl 1 rfl) ?_
        refine lv_iconst (v := 0) hx hb dX5_followsBadly_26 (by decide) ?_
        refine va_iald hx hb hK hP 1 0 rfl rfl (yin (by decide)) dX5_followsBadly_27 ?_
        refine lv_topi (fun v27 ev27 => ?_)
        refine lv_iconst (v := 4) hx hb dX5_followsBadly_28 (by decide) ?_
        refine lv_iadd hx hb dX5_followsBadly_29 ?_
        refine lv_topi (fun v29 ev29 => ?_)
        refine lv_icmp_ne (tgt := 42) hx hb dX5_followsBadly_30 (by decide) (fun c30 => ?_) (fun c30 => ?_)
        · exact J42  _ _ _   (hP.sub [0, 1] rfl) (hD.sub [0, 1] (by decide) rfl) hS (lv_sub hl [0, 1] rfl)
        · refine lv_iconst (v := 1) hx hb dX5_followsBadly_33 (by decide) ?_
          refine lv_aload_n hx hb dX5_followsBadly_34 rfl (lv_at hl 0 rfl) ?_
          refine lv_aload_n hx hb dX5_followsBadly_35 rfl (lv_at hl 1 rfl) ?_
          have hPc := hP.sub (ws' := [(az, .inl (cyI, 15, .inl gaz)), (av, .inl (cyI, 15, .inl gav))]) [0, 1] rfl
          have hDc := hD.sub (ws' := [(az, .inl (cyI, 15, .inl gaz)), (av, .inl (cyI, 15, .inl gav))]) [0, 1] (by decide) rfl
          refine yy_calli [0, 1] [] (wr := []) (va_runS (As := [.int 1, .ref az, .ref av]) (rest := []) ⟨hx, hb, hml, hown, hts⟩ (g_changed l dC dI cyI cyZ cyO H.size 1 az gaz av gav (yrc (a := 0) (b := 14) (x := 1) (by decide) (by decide))) (va_cwS 3 hts gX5_followsBadly_X5_changed rfl rfl rfl (by decide +kernel) ⟨Nat.le_of_ble_eq_true rfl, Nat.le_of_ble_eq_true rfl⟩) (yPreS hK hPc hDc) rfl rfl hl.1 rfl (lv_room (Nat.le_of_ble_eq_true rfl)) dX5_followsBadly_36 ⟨Nat.le_of_ble_eq_true rfl, Nat.le_of_ble_eq_true rfl⟩) hP hD hS hA rfl rfl (by decide) (by decide) (fun r36 u36 H locs hw hP hD hS => ?_)
          have hP : va_P (dC, dI) vwCl [(az, .inl (cyI, 15, .inl gaz)), (av, .inl (cyI, 15, .inl gav))] H := hP
          have hD : va_D A [(az, .inl (cyI, 15, .inl gaz)), (av, .inl (cyI, 15, .inl gav))] := hD
          refine W.widen (k := 0) (n := 0) (Nat.le_of_ble_eq_true rfl) (Nat.le_of_ble_eq_true rfl) ?_
          have hw36_0 := hw
          refine lv_if_eq (tgt := 46) hx hb dX5_followsBadly_39 (by decide) (fun c39 => ?_) (fun c39 => ?_)
          · have hq46_3 : yr 0 0 r36 := yr_eq hw36_0 (yrc (a := 0) (b := 0) (x := 0) (by decide) (by decide)) c39 (by decide) (by decide)
            exact J46  _ _ _   (hP.sub [0, 1] rfl) (hD.sub [0, 1] (by decide) rfl) hS (lv_sub hl [0, 1] rfl)
          · have hq42_4 : yr 1 1 r36 := yr_neL hw36_0 c39 (by decide) (by decide)
            exact J42  _ _ _   (hP.sub [0, 1] rfl) (hD.sub [0, 1] (by decide) rfl) hS (lv_sub hl [0, 1] rfl)
set_option maxHeartbeats 4000000 in
set_option maxRecDepth 100000 in
theorem g_breaksOff (l : Launch) (dC : Nat → ClassId) (dI : Nat → Nat → Nat) (cyI cyZ cyO : ClassId) (sz : Nat) (az : Nat) (gaz : Nat → Int32) (av : Nat) (gav : Nat → Int32)  : Met l yX5_breaksOff wsX5_breaksOff ({ frames := 1, cells := 0, slots := 0, locals := 22 }) (yPre [.ref az, .ref av] (dC, dI) [(az, .inl (cyI, 15, .inl gaz)), (av, .inl (cyI, 15, .inl gav))] (yT cyI cyZ cyO) sz) (yQi (fun (r : Int32) (u : yU) => yr 0 1 r) (dC, dI) [(az, .inl (cyI, 15, .inl gaz)), (av, .inl (cyI, 15, .inl gav))] (yT cyI cyZ cyO) sz (fun u => [(az, .inl (cyI, 15, .inl gaz)), (av, .inl (cyI, 15, .inl gav))])) 0 0 (va_A [(az, .inl (cyI, 15, .inl gaz)), (av, .inl (cyI, 15, .inl gav))] sz) := by
  refine yMet (cc := cX5_breaksOff) (maxL := 2) (ret := (some .boolean)) (by decide) rfl (Nat.le_of_ble_eq_true rfl) ?_
  intro p e s m below meth c A hx hb hr hlk hml hts hown hnm hsz hAe hP hK hD hA hS ls hl
  have hl : lv_has ls 2 [(0, .ref az), (1, .ref av)] := hl
  refine lv_bipush (v := 7) hx hb dX5_breaksOff_0 (by decide) ?_
  refine lv_aload_n hx hb dX5_breaksOff_2 rfl (lv_at hl 0 rfl) ?_
  refine lv_aload_n hx hb dX5_breaksOff_3 rfl (lv_at hl 1 rfl) ?_
  have hPc := hP.sub (ws' := [(az, .inl (cyI, 15, .inl gaz)), (av, .inl (cyI, 15, .inl gav))]) [0, 1] rfl
  have hDc := hD.sub (ws' := [(az, .inl (cyI, 15, .inl gaz)), (av, .inl (cyI, 15, .inl gav))]) [0, 1] (by decide) rfl
  refine yy_calli [0, 1] [] (wr := []) (va_runS (As := [.int 7, .ref az, .ref av]) (rest := []) ⟨hx, hb, hml, hown, hts⟩ (g_changed l dC dI cyI cyZ cyO s.heap.size 7 az gaz av gav (yrc (a := 0) (b := 14) (x := 7) (by decide) (by decide))) (va_cwS 3 hts gX5_breaksOff_X5_changed rfl rfl rfl (by decide +kernel) ⟨Nat.le_of_ble_eq_true rfl, Nat.le_of_ble_eq_true rfl⟩) (yPreS hK hPc hDc) rfl rfl hl.1 rfl (lv_room (Nat.le_of_ble_eq_true rfl)) dX5_breaksOff_4 ⟨Nat.le_of_ble_eq_true rfl, Nat.le_of_ble_eq_true rfl⟩) hP hD hS hA rfl rfl (by decide) (by decide) (fun r4 u4 H locs hw hP hD hS => ?_)
  have hP : va_P (dC, dI) vwCl [(az, .inl (cyI, 15, .inl gaz)), (av, .inl (cyI, 15, .inl gav))] H := hP
  have hD : va_D A [(az, .inl (cyI, 15, .inl gaz)), (av, .inl (cyI, 15, .inl gav))] := hD
  refine W.widen (k := 0) (n := 0) (Nat.le_of_ble_eq_true rfl) (Nat.le_of_ble_eq_true rfl) ?_
  have hw4_0 := hw
  have J22 : ∀ (j22_s0 : Int32) (H : Heap) (locs : List Loc) (ls : Array Slot), yr 0 1 j22_s0 → va_P (dC, dI) vwCl [(az, .inl (cyI, 15, .inl gaz)), (av, .inl (cyI, 15, .inl gav))] H → va_D A [(az, .inl (cyI, 15, .inl gaz)), (av, .inl (cyI, 15, .inl gav))] → va_S A s.heap H locs → lv_has ls 2 [(0, .ref az), (1, .ref av)] → W p l e ({ frames := 1, cells := 0, slots := 0, locals := 22 } : Room) s m [.ref az, .ref av].toArray below meth c H locs 0 0 (MQ below (yQi (fun (r : Int32) (u : yU) => yr 0 1 r) (dC, dI) [(az, .inl (cyI, 15, .inl gaz)), (av, .inl (cyI, 15, .inl gav))] (yT cyI cyZ cyO) sz (fun u => [(az, .inl (cyI, 15, .inl gaz)), (av, .inl (cyI, 15, .inl gav))])) [.ref az, .ref av].toArray s 0 0 A) (F0 m 22 ls [.int j22_s0]) := by
    intro j22_s0 H locs ls hj22_s0  hP hD hS hl
    refine W.widen (k := 0) (n := 0) (Nat.le_of_ble_eq_true rfl) (Nat.le_of_ble_eq_true rfl) ?_
    exact yy_iret (v := j22_s0) (((fun _ => 0), (fun _ _ => 0)) : yU) hx hb hr hlk (yr_nz hj22_s0) hsz hAe hK hP hD hS [0, 1] rfl rfl (by decide) hj22_s0 dX5_breaksOff_22
  have J17 : ∀  (H : Heap) (locs : List Loc) (ls : Array Slot), va_P (dC, dI) vwCl [(az, .inl (cyI, 15, .inl gaz)), (av, .inl (cyI, 15, .inl gav))] H → va_D A [(az, .inl (cyI, 15, .inl gaz)), (av, .inl (cyI, 15, .inl gav))] → va_S A s.heap H locs → lv_has ls 2 [(0, .ref az), (1, .ref av)] → W p l e ({ frames := 1, cells := 0, slots := 0, locals := 22 } : Room) s m [.ref az, .ref av].toArray below meth c H locs 0 0 (MQ below (yQi (fun (r : Int32) (u : yU) => yr 0 1 r) (dC, dI) [(az, .inl (cyI, 15, .inl gaz)), (av, .inl (cyI, 15, .inl gav))] (yT cyI cyZ cyO) sz (fun u => [(az, .inl (cyI, 15, .inl gaz)), (av, .inl (cyI, 15, .inl gav))])) [.ref az, .ref av].toArray s 0 0 A) (F0 m 17 ls []) := by
    intro  H locs ls   hP hD hS hl
    refine lv_iconst (v := 1) hx hb dX5_breaksOff_17 (by decide) ?_
    refine lv_goto (tgt := 22) hx hb dX5_breaksOff_18 (by decide) ?_
    exact J22 1 _ _ _ (yrc (a := 0) (b := 1) (x := 1) (by decide) (by decide))  (hP.sub [0, 1] rfl) (hD.sub [0, 1] (by decide) rfl) hS (lv_sub hl [0, 1] rfl)
  refine lv_if_ne (tgt := 17) hx hb dX5_breaksOff_7 (by decide) (fun c7 => ?_) (fun c7 => ?_)
  · have hq17_1 : yr 1 1 r4 := yr_neL hw4_0 c7 (by decide) (by decide)
    exact J17  _ _ _   (hP.sub [0, 1] rfl) (hD.sub [0, 1] (by decide) rfl) hS (lv_sub hl [0, 1] rfl)
  · have hq10_2 : yr 0 0 r4 := yr_eq hw4_0 (yrc (a := 0) (b := 0) (x := 0) (by decide) (by decide)) c7 (by decide) (by decide)
    refine lv_aload_n hx hb dX5_breaksOff_10 rfl (lv_at hl 0 rfl) ?_
    refine lv_bipush (v := 8) hx hb dX5_breaksOff_11 (by decide) ?_
    refine va_iald hx hb hK hP 0 0 rfl rfl (yin (by decide)) dX5_breaksOff_13 ?_
    refine lv_topi (fun v13 ev13 => ?_)
    refine lv_if_ne (tgt := 21) hx hb dX5_breaksOff_14 (by decide) (fun c14 => ?_) (fun c14 => ?_)
    · refine lv_iconst (v := 0) hx hb dX5_breaksOff_21 (by decide) ?_
      exact J22 0 _ _ _ (yrc (a := 0) (b := 1) (x := 0) (by decide) (by decide))  (hP.sub [0, 1] rfl) (hD.sub [0, 1] (by decide) rfl) hS (lv_sub hl [0, 1] rfl)
    · have hq17_3 : yr 0 0 v13 := yr_eq (yr_all _) (yrc (a := 0) (b := 0) (x := 0) (by decide) (by decide)) c14 (by decide) (by decide)
      exact J17  _ _ _   (hP.sub [0, 1] rfl) (hD.sub [0, 1] (by decide) rfl) hS (lv_sub hl [0, 1] rfl)
set_option maxHeartbeats 4000000 in
set_option maxRecDepth 100000 in
theorem g_changesAct (l : Launch) (dC : Nat → ClassId) (dI : Nat → Nat → Nat) (cyI cyZ cyO : ClassId) (sz : Nat) (az : Nat) (gaz : Nat → Int32) (av : Nat) (gav : Nat → Int32)  : Met l yX5_changesAct wsX5_changesAct ({ frames := 1, cells := 0, slots := 0, locals := 22 }) (yPre [.ref az, .ref av] (dC, dI) [(az, .inl (cyI, 15, .inl gaz)), (av, .inl (cyI, 15, .inl gav))] (yT cyI cyZ cyO) sz) (yQi (fun (r : Int32) (u : yU) => yr 0 1 r) (dC, dI) [(az, .inl (cyI, 15, .inl gaz)), (av, .inl (cyI, 15, .inl gav))] (yT cyI cyZ cyO) sz (fun u => [(az, .inl (cyI, 15, .inl gaz)), (av, .inl (cyI, 15, .inl gav))])) 0 0 (va_A [(az, .inl (cyI, 15, .inl gaz)), (av, .inl (cyI, 15, .inl gav))] sz) := by
  refine yMet (cc := cX5_changesAct) (maxL := 2) (ret := (some .boolean)) (by decide) rfl (Nat.le_of_ble_eq_true rfl) ?_
  intro p e s m below meth c A hx hb hr hlk hml hts hown hnm hsz hAe hP hK hD hA hS ls hl
  have hl : lv_has ls 2 [(0, .ref az), (1, .ref av)] := hl
  refine lv_bipush (v := 9) hx hb dX5_changesAct_0 (by decide) ?_
  refine lv_aload_n hx hb dX5_changesAct_2 rfl (lv_at hl 0 rfl) ?_
  refine lv_aload_n hx hb dX5_changesAct_3 rfl (lv_at hl 1 rfl) ?_
  have hPc := hP.sub (ws' := [(az, .inl (cyI, 15, .inl gaz)), (av, .inl (cyI, 15, .inl gav))]) [0, 1] rfl
  have hDc := hD.sub (ws' := [(az, .inl (cyI, 15, .inl gaz)), (av, .inl (cyI, 15, .inl gav))]) [0, 1] (by decide) rfl
  refine yy_calli [0, 1] [] (wr := []) (va_runS (As := [.int 9, .ref az, .ref av]) (rest := []) ⟨hx, hb, hml, hown, hts⟩ (g_changed l dC dI cyI cyZ cyO s.heap.size 9 az gaz av gav (yrc (a := 0) (b := 14) (x := 9) (by decide) (by decide))) (va_cwS 3 hts gX5_changesAct_X5_changed rfl rfl rfl (by decide +kernel) ⟨Nat.le_of_ble_eq_true rfl, Nat.le_of_ble_eq_true rfl⟩) (yPreS hK hPc hDc) rfl rfl hl.1 rfl (lv_room (Nat.le_of_ble_eq_true rfl)) dX5_changesAct_4 ⟨Nat.le_of_ble_eq_true rfl, Nat.le_of_ble_eq_true rfl⟩) hP hD hS hA rfl rfl (by decide) (by decide) (fun r4 u4 H locs hw hP hD hS => ?_)
  have hP : va_P (dC, dI) vwCl [(az, .inl (cyI, 15, .inl gaz)), (av, .inl (cyI, 15, .inl gav))] H := hP
  have hD : va_D A [(az, .inl (cyI, 15, .inl gaz)), (av, .inl (cyI, 15, .inl gav))] := hD
  refine W.widen (k := 0) (n := 0) (Nat.le_of_ble_eq_true rfl) (Nat.le_of_ble_eq_true rfl) ?_
  have hw4_0 := hw
  have J42 : ∀ (j42_s0 : Int32) (H : Heap) (locs : List Loc) (ls : Array Slot), yr 0 1 j42_s0 → va_P (dC, dI) vwCl [(az, .inl (cyI, 15, .inl gaz)), (av, .inl (cyI, 15, .inl gav))] H → va_D A [(az, .inl (cyI, 15, .inl gaz)), (av, .inl (cyI, 15, .inl gav))] → va_S A s.heap H locs → lv_has ls 2 [(0, .ref az), (1, .ref av)] → W p l e ({ frames := 1, cells := 0, slots := 0, locals := 22 } : Room) s m [.ref az, .ref av].toArray below meth c H locs 0 0 (MQ below (yQi (fun (r : Int32) (u : yU) => yr 0 1 r) (dC, dI) [(az, .inl (cyI, 15, .inl gaz)), (av, .inl (cyI, 15, .inl gav))] (yT cyI cyZ cyO) sz (fun u => [(az, .inl (cyI, 15, .inl gaz)), (av, .inl (cyI, 15, .inl gav))])) [.ref az, .ref av].toArray s 0 0 A) (F0 m 42 ls [.int j42_s0]) := by
    intro j42_s0 H locs ls hj42_s0  hP hD hS hl
    refine W.widen (k := 0) (n := 0) (Nat.le_of_ble_eq_true rfl) (Nat.le_of_ble_eq_true rfl) ?_
    exact yy_iret (v := j42_s0) (((fun _ => 0), (fun _ _ => 0)) : yU) hx hb hr hlk (yr_nz hj42_s0) hsz hAe hK hP hD hS [0, 1] rfl rfl (by decide) hj42_s0 dX5_changesAct_42
  have J37 : ∀  (H : Heap) (locs : List Loc) (ls : Array Slot), va_P (dC, dI) vwCl [(az, .inl (cyI, 15, .inl gaz)), (av, .inl (cyI, 15, .inl gav))] H → va_D A [(az, .inl (cyI, 15, .inl gaz)), (av, .inl (cyI, 15, .inl gav))] → va_S A s.heap H locs → lv_has ls 2 [(0, .ref az), (1, .ref av)] → W p l e ({ frames := 1, cells := 0, slots := 0, locals := 22 } : Room) s m [.ref az, .ref av].toArray below meth c H locs 0 0 (MQ below (yQi (fun (r : Int32) (u : yU) => yr 0 1 r) (dC, dI) [(az, .inl (cyI, 15, .inl gaz)), (av, .inl (cyI, 15, .inl gav))] (yT cyI cyZ cyO) sz (fun u => [(az, .inl (cyI, 15, .inl gaz)), (av, .inl (cyI, 15, .inl gav))])) [.ref az, .ref av].toArray s 0 0 A) (F0 m 37 ls []) := by
    intro  H locs ls   hP hD hS hl
    refine lv_iconst (v := 1) hx hb dX5_changesAct_37 (by decide) ?_
    refine lv_goto (tgt := 42) hx hb dX5_changesAct_38 (by decide) ?_
    exact J42 1 _ _ _ (yrc (a := 0) (b := 1) (x := 1) (by decide) (by decide))  (hP.sub [0, 1] rfl) (hD.sub [0, 1] (by decide) rfl) hS (lv_sub hl [0, 1] rfl)
  refine lv_if_ne (tgt := 37) hx hb dX5_changesAct_7 (by decide) (fun c7 => ?_) (fun c7 => ?_)
  · have hq37_1 : yr 1 1 r4 := yr_neL hw4_0 c7 (by decide) (by decide)
    exact J37  _ _ _   (hP.sub [0, 1] rfl) (hD.sub [0, 1] (by decide) rfl) hS (lv_sub hl [0, 1] rfl)
  · have hq10_2 : yr 0 0 r4 := yr_eq hw4_0 (yrc (a := 0) (b := 0) (x := 0) (by decide) (by decide)) c7 (by decide) (by decide)
    refine lv_bipush (v := 10) hx hb dX5_changesAct_10 (by decide) ?_
    refine lv_aload_n hx hb dX5_changesAct_12 rfl (lv_at hl 0 rfl) ?_
    refine lv_aload_n hx hb dX5_changesAct_13 rfl (lv_at hl 1 rfl) ?_
    have hPc := hP.sub (ws' := [(az, .inl (cyI, 15, .inl gaz)), (av, .inl (cyI, 15, .inl gav))]) [0, 1] rfl
    have hDc := hD.sub (ws' := [(az, .inl (cyI, 15, .inl gaz)), (av, .inl (cyI, 15, .inl gav))]) [0, 1] (by decide) rfl
    refine yy_calli [0, 1] [] (wr := []) (va_runS (As := [.int 10, .ref az, .ref av]) (rest := []) ⟨hx, hb, hml, hown, hts⟩ (g_changed l dC dI cyI cyZ cyO H.size 10 az gaz av gav (yrc (a := 0) (b := 14) (x := 10) (by decide) (by decide))) (va_cwS 3 hts gX5_changesAct_X5_changed rfl rfl rfl (by decide +kernel) ⟨Nat.le_of_ble_eq_true rfl, Nat.le_of_ble_eq_true rfl⟩) (yPreS hK hPc hDc) rfl rfl hl.1 rfl (lv_room (Nat.le_of_ble_eq_true rfl)) dX5_changesAct_14 ⟨Nat.le_of_ble_eq_true rfl, Nat.le_of_ble_eq_true rfl⟩) hP hD hS hA rfl rfl (by decide) (by decide) (fun r14 u14 H locs hw hP hD hS => ?_)
    have hP : va_P (dC, dI) vwCl [(az, .inl (cyI, 15, .inl gaz)), (av, .inl (cyI, 15, .inl gav))] H := hP
    have hD : va_D A [(az, .inl (cyI, 15, .inl gaz)), (av, .inl (cyI, 15, .inl gav))] := hD
    refine W.widen (k := 0) (n := 0) (Nat.le_of_ble_eq_true rfl) (Nat.le_of_ble_eq_true rfl) ?_
    have hw14_0 := hw
    refine lv_if_ne (tgt := 37) hx hb dX5_changesAct_17 (by decide) (fun c17 => ?_) (fun c17 => ?_)
    · have hq37_3 : yr 1 1 r14 := yr_neL hw14_0 c17 (by decide) (by decide)
      exact J37  _ _ _   (hP.sub [0, 1] rfl) (hD.sub [0, 1] (by decide) rfl) hS (lv_sub hl [0, 1] rfl)
    · have hq20_4 : yr 0 0 r14 := yr_eq hw14_0 (yrc (a := 0) (b := 0) (x := 0) (by decide) (by decide)) c17 (by decide) (by decide)
      refine lv_aload_n hx hb dX5_changesAct_20 rfl (lv_at hl 0 rfl) ?_
      refine lv_bipush (v := 10) hx hb dX5_changesAct_21 (by decide) ?_
      refine va_iald hx hb hK hP 0 0 rfl rfl (yin (by decide)) dX5_changesAct_23 ?_
      refine lv_topi (fun v23 ev23 => ?_)
      have J41 : ∀  (H : Heap) (locs : List Loc) (ls : Array Slot), va_P (dC, dI) vwCl [(az, .inl (cyI, 15, .inl gaz)), (av, .inl (cyI, 15, .inl gav))] H → va_D A [(az, .inl (cyI, 15, .inl gaz)), (av, .inl (cyI, 15, .inl gav))] → va_S A s.heap H locs → lv_has ls 2 [(0, .ref az), (1, .ref av)] → W p l e ({ frames := 1, cells := 0, slots := 0, locals := 22 } : Room) s m [.ref az, .ref av].toArray below meth c H locs 0 0 (MQ below (yQi (fun (r : Int32) (u : yU) => yr 0 1 r) (dC, dI) [(az, .inl (cyI, 15, .inl gaz)), (av, .inl (cyI, 15, .inl gav))] (yT cyI cyZ cyO) sz (fun u => [(az, .inl (cyI, 15, .inl gaz)), (av, .inl (cyI, 15, .inl gav))])) [.ref az, .ref av].toArray s 0 0 A) (F0 m 41 ls []) := by
        intro  H locs ls   hP hD hS hl
        refine lv_iconst (v := 0) hx hb dX5_changesAct_41 (by decide) ?_
        exact J42 0 _ _ _ (yrc (a := 0) (b := 1) (x := 0) (by decide) (by decide))  (hP.sub [0, 1] rfl) (hD.sub [0, 1] (by decide) rfl) hS (lv_sub hl [0, 1] rfl)
      refine lv_if_eq (tgt := 41) hx hb dX5_changesAct_24 (by decide) (fun c24 => ?_) (fun c24 => ?_)
      · have hq41_5 : yr 0 0 v23 := yr_eq (yr_all _) (yrc (a := 0) (b := 0) (x := 0) (by decide) (by decide)) c24 (by decide) (by decide)
        exact J41  _ _ _   (hP.sub [0, 1] rfl) (hD.sub [0, 1] (by decide) rfl) hS (lv_sub hl [0, 1] rfl)
      · refine lv_bipush (v := 11) hx hb dX5_changesAct_27 (by decide) ?_
        refine lv_aload_n hx hb dX5_changesAct_29 rfl (lv_at hl 0 rfl) ?_
        refine lv_aload_n hx hb dX5_changesAct_30 rfl (lv_at hl 1 rfl) ?_
        have hPc := hP.sub (ws' := [(az, .inl (cyI, 15, .inl gaz)), (av, .inl (cyI, 15, .inl gav))]) [0, 1] rfl
        have hDc := hD.sub (ws' := [(az, .inl (cyI, 15, .inl gaz)), (av, .inl (cyI, 15, .inl gav))]) [0, 1] (by decide) rfl
        refine yy_calli [0, 1] [] (wr := []) (va_runS (As := [.int 11, .ref az, .ref av]) (rest := []) ⟨hx, hb, hml, hown, hts⟩ (g_changed l dC dI cyI cyZ cyO H.size 11 az gaz av gav (yrc (a := 0) (b := 14) (x := 11) (by decide) (by decide))) (va_cwS 3 hts gX5_changesAct_X5_changed rfl rfl rfl (by decide +kernel) ⟨Nat.le_of_ble_eq_true rfl, Nat.le_of_ble_eq_true rfl⟩) (yPreS hK hPc hDc) rfl rfl hl.1 rfl (lv_room (Nat.le_of_ble_eq_true rfl)) dX5_changesAct_31 ⟨Nat.le_of_ble_eq_true rfl, Nat.le_of_ble_eq_true rfl⟩) hP hD hS hA rfl rfl (by decide) (by decide) (fun r31 u31 H locs hw hP hD hS => ?_)
        have hP : va_P (dC, dI) vwCl [(az, .inl (cyI, 15, .inl gaz)), (av, .inl (cyI, 15, .inl gav))] H := hP
        have hD : va_D A [(az, .inl (cyI, 15, .inl gaz)), (av, .inl (cyI, 15, .inl gav))] := hD
        refine W.widen (k := 0) (n := 0) (Nat.le_of_ble_eq_true rfl) (Nat.le_of_ble_eq_true rfl) ?_
        have hw31_0 := hw
        refine lv_if_eq (tgt := 41) hx hb dX5_changesAct_34 (by decide) (fun c34 => ?_) (fun c34 => ?_)
        · have hq41_6 : yr 0 0 r31 := yr_eq hw31_0 (yrc (a := 0) (b := 0) (x := 0) (by decide) (by decide)) c34 (by decide) (by decide)
          exact J41  _ _ _   (hP.sub [0, 1] rfl) (hD.sub [0, 1] (by decide) rfl) hS (lv_sub hl [0, 1] rfl)
        · have hq37_7 : yr 1 1 r31 := yr_neL hw31_0 c34 (by decide) (by decide)
          exact J37  _ _ _   (hP.sub [0, 1] rfl) (hD.sub [0, 1] (by decide) rfl) hS (lv_sub hl [0, 1] rfl)
set_option maxHeartbeats 4000000 in
set_option maxRecDepth 100000 in
theorem g_isFirstOfTwo (l : Launch) (dC : Nat → ClassId) (dI : Nat → Nat → Nat) (cyI cyZ cyO : ClassId) (sz : Nat) (az : Nat) (gaz : Nat → Int32)  : Met l yX5_isFirstOfTwo wsX5_isFirstOfTwo ({ frames := 0, cells := 0, slots := 0, locals := 0 }) (yPre [.ref az] (dC, dI) [(az, .inl (cyI, 15, .inl gaz))] (yT cyI cyZ cyO) sz) (yQi (fun (r : Int32) (u : yU) => yr 0 1 r) (dC, dI) [(az, .inl (cyI, 15, .inl gaz))] (yT cyI cyZ cyO) sz (fun u => [(az, .inl (cyI, 15, .inl gaz))])) 0 0 (va_A [(az, .inl (cyI, 15, .inl gaz))] sz) := by
  refine yMet (cc := cX5_isFirstOfTwo) (maxL := 1) (ret := (some .boolean)) (by decide) rfl (Nat.le_of_ble_eq_true rfl) ?_
  intro p e s m below meth c A hx hb hr hlk hml hts hown hnm hsz hAe hP hK hD hA hS ls hl
  have hl : lv_has ls 1 [(0, .ref az)] := hl
  refine lv_aload_n hx hb dX5_isFirstOfTwo_0 rfl (lv_at hl 0 rfl) ?_
  refine lv_iconst (v := 5) hx hb dX5_isFirstOfTwo_1 (by decide) ?_
  refine va_iald hx hb hK hP 0 0 rfl rfl (yin (by decide)) dX5_isFirstOfTwo_2 ?_
  refine lv_topi (fun v2 ev2 => ?_)
  have J17 : ∀ (j17_s0 : Int32) (H : Heap) (locs : List Loc) (ls : Array Slot), yr 0 1 j17_s0 → va_P (dC, dI) vwCl [(az, .inl (cyI, 15, .inl gaz))] H → va_D A [(az, .inl (cyI, 15, .inl gaz))] → va_S A s.heap H locs → lv_has ls 1 [(0, .ref az)] → W p l e ({ frames := 0, cells := 0, slots := 0, locals := 0 } : Room) s m [.ref az].toArray below meth c H locs 0 0 (MQ below (yQi (fun (r : Int32) (u : yU) => yr 0 1 r) (dC, dI) [(az, .inl (cyI, 15, .inl gaz))] (yT cyI cyZ cyO) sz (fun u => [(az, .inl (cyI, 15, .inl gaz))])) [.ref az].toArray s 0 0 A) (F0 m 17 ls [.int j17_s0]) := by
    intro j17_s0 H locs ls hj17_s0  hP hD hS hl
    refine W.widen (k := 0) (n := 0) (Nat.le_of_ble_eq_true rfl) (Nat.le_of_ble_eq_true rfl) ?_
    exact yy_iret (v := j17_s0) (((fun _ => 0), (fun _ _ => 0)) : yU) hx hb hr hlk (yr_nz hj17_s0) hsz hAe hK hP hD hS [0] rfl rfl (by decide) hj17_s0 dX5_isFirstOfTwo_17
  have J16 : ∀  (H : Heap) (locs : List Loc) (ls : Array Slot), va_P (dC, dI) vwCl [(az, .inl (cyI, 15, .inl gaz))] H → va_D A [(az, .inl (cyI, 15, .inl gaz))] → va_S A s.heap H locs → lv_has ls 1 [(0, .ref az)] → W p l e ({ frames := 0, cells := 0, slots := 0, locals := 0 } : Room) s m [.ref az].toArray below meth c H locs 0 0 (MQ below (yQi (fun (r : Int32) (u : yU) => yr 0 1 r) (dC, dI) [(az, .inl (cyI, 15, .inl gaz))] (yT cyI cyZ cyO) sz (fun u => [(az, .inl (cyI, 15, .inl gaz))])) [.ref az].toArray s 0 0 A) (F0 m 16 ls []) := by
    intro  H locs ls   hP hD hS hl
    refine lv_iconst (v := 0) hx hb dX5_isFirstOfTwo_16 (by decide) ?_
    exact J17 0 _ _ _ (yrc (a := 0) (b := 1) (x := 0) (by decide) (by decide))  (hP.sub [0] rfl) (hD.sub [0] (by decide) rfl) hS (lv_sub hl [0] rfl)
  refine lv_if_eq (tgt := 16) hx hb dX5_isFirstOfTwo_3 (by decide) (fun c3 => ?_) (fun c3 => ?_)
  · have hq16_1 : yr 0 0 v2 := yr_eq (yr_all _) (yrc (a := 0) (b := 0) (x := 0) (by decide) (by decide)) c3 (by decide) (by decide)
    exact J16  _ _ _   (hP.sub [0] rfl) (hD.sub [0] (by decide) rfl) hS (lv_sub hl [0] rfl)
  · refine lv_aload_n hx hb dX5_isFirstOfTwo_6 rfl (lv_at hl 0 rfl) ?_
    refine lv_iconst (v := 4) hx hb dX5_isFirstOfTwo_7 (by decide) ?_
    refine va_iald hx hb hK hP 0 0 rfl rfl (yin (by decide)) dX5_isFirstOfTwo_8 ?_
    refine lv_topi (fun v8 ev8 => ?_)
    refine lv_if_ne (tgt := 16) hx hb dX5_isFirstOfTwo_9 (by decide) (fun c9 => ?_) (fun c9 => ?_)
    · exact J16  _ _ _   (hP.sub [0] rfl) (hD.sub [0] (by decide) rfl) hS (lv_sub hl [0] rfl)
    · have hq12_2 : yr 0 0 v8 := yr_eq (yr_all _) (yrc (a := 0) (b := 0) (x := 0) (by decide) (by decide)) c9 (by decide) (by decide)
      refine lv_iconst (v := 1) hx hb dX5_isFirstOfTwo_12 (by decide) ?_
      refine lv_goto (tgt := 17) hx hb dX5_isFirstOfTwo_13 (by decide) ?_
      exact J17 1 _ _ _ (yrc (a := 0) (b := 1) (x := 1) (by decide) (by decide))  (hP.sub [0] rfl) (hD.sub [0] (by decide) rfl) hS (lv_sub hl [0] rfl)
set_option maxHeartbeats 4000000 in
set_option maxRecDepth 100000 in
theorem g_isSecondOfTwo (l : Launch) (dC : Nat → ClassId) (dI : Nat → Nat → Nat) (cyI cyZ cyO : ClassId) (sz : Nat) (az : Nat) (gaz : Nat → Int32)  : Met l yX5_isSecondOfTwo wsX5_isSecondOfTwo ({ frames := 0, cells := 0, slots := 0, locals := 0 }) (yPre [.ref az] (dC, dI) [(az, .inl (cyI, 15, .inl gaz))] (yT cyI cyZ cyO) sz) (yQi (fun (r : Int32) (u : yU) => yr 0 1 r) (dC, dI) [(az, .inl (cyI, 15, .inl gaz))] (yT cyI cyZ cyO) sz (fun u => [(az, .inl (cyI, 15, .inl gaz))])) 0 0 (va_A [(az, .inl (cyI, 15, .inl gaz))] sz) := by
  refine yMet (cc := cX5_isSecondOfTwo) (maxL := 1) (ret := (some .boolean)) (by decide) rfl (Nat.le_of_ble_eq_true rfl) ?_
  intro p e s m below meth c A hx hb hr hlk hml hts hown hnm hsz hAe hP hK hD hA hS ls hl
  have hl : lv_has ls 1 [(0, .ref az)] := hl
  refine lv_aload_n hx hb dX5_isSecondOfTwo_0 rfl (lv_at hl 0 rfl) ?_
  refine lv_iconst (v := 5) hx hb dX5_isSecondOfTwo_1 (by decide) ?_
  refine va_iald hx hb hK hP 0 0 rfl rfl (yin (by decide)) dX5_isSecondOfTwo_2 ?_
  refine lv_topi (fun v2 ev2 => ?_)
  have J17 : ∀ (j17_s0 : Int32) (H : Heap) (locs : List Loc) (ls : Array Slot), yr 0 1 j17_s0 → va_P (dC, dI) vwCl [(az, .inl (cyI, 15, .inl gaz))] H → va_D A [(az, .inl (cyI, 15, .inl gaz))] → va_S A s.heap H locs → lv_has ls 1 [(0, .ref az)] → W p l e ({ frames := 0, cells := 0, slots := 0, locals := 0 } : Room) s m [.ref az].toArray below meth c H locs 0 0 (MQ below (yQi (fun (r : Int32) (u : yU) => yr 0 1 r) (dC, dI) [(az, .inl (cyI, 15, .inl gaz))] (yT cyI cyZ cyO) sz (fun u => [(az, .inl (cyI, 15, .inl gaz))])) [.ref az].toArray s 0 0 A) (F0 m 17 ls [.int j17_s0]) := by
    intro j17_s0 H locs ls hj17_s0  hP hD hS hl
    refine W.widen (k := 0) (n := 0) (Nat.le_of_ble_eq_true rfl) (Nat.le_of_ble_eq_true rfl) ?_
    exact yy_iret (v := j17_s0) (((fun _ => 0), (fun _ _ => 0)) : yU) hx hb hr hlk (yr_nz hj17_s0) hsz hAe hK hP hD hS [0] rfl rfl (by decide) hj17_s0 dX5_isSecondOfTwo_17
  have J16 : ∀  (H : Heap) (locs : List Loc) (ls : Array Slot), va_P (dC, dI) vwCl [(az, .inl (cyI, 15, .inl gaz))] H → va_D A [(az, .inl (cyI, 15, .inl gaz))] → va_S A s.heap H locs → lv_has ls 1 [(0, .ref az)] → W p l e ({ frames := 0, cells := 0, slots := 0, locals := 0 } : Room) s m [.ref az].toArray below meth c H locs 0 0 (MQ below (yQi (fun (r : Int32) (u : yU) => yr 0 1 r) (dC, dI) [(az, .inl (cyI, 15, .inl gaz))] (yT cyI cyZ cyO) sz (fun u => [(az, .inl (cyI, 15, .inl gaz))])) [.ref az].toArray s 0 0 A) (F0 m 16 ls []) := by
    intro  H locs ls   hP hD hS hl
    refine lv_iconst (v := 0) hx hb dX5_isSecondOfTwo_16 (by decide) ?_
    exact J17 0 _ _ _ (yrc (a := 0) (b := 1) (x := 0) (by decide) (by decide))  (hP.sub [0] rfl) (hD.sub [0] (by decide) rfl) hS (lv_sub hl [0] rfl)
  refine lv_if_eq (tgt := 16) hx hb dX5_isSecondOfTwo_3 (by decide) (fun c3 => ?_) (fun c3 => ?_)
  · have hq16_1 : yr 0 0 v2 := yr_eq (yr_all _) (yrc (a := 0) (b := 0) (x := 0) (by decide) (by decide)) c3 (by decide) (by decide)
    exact J16  _ _ _   (hP.sub [0] rfl) (hD.sub [0] (by decide) rfl) hS (lv_sub hl [0] rfl)
  · refine lv_aload_n hx hb dX5_isSecondOfTwo_6 rfl (lv_at hl 0 rfl) ?_
    refine lv_iconst (v := 4) hx hb dX5_isSecondOfTwo_7 (by decide) ?_
    refine va_iald hx hb hK hP 0 0 rfl rfl (yin (by decide)) dX5_isSecondOfTwo_8 ?_
    refine lv_topi (fun v8 ev8 => ?_)
    refine lv_if_eq (tgt := 16) hx hb dX5_isSecondOfTwo_9 (by decide) (fun c9 => ?_) (fun c9 => ?_)
    · have hq16_2 : yr 0 0 v8 := yr_eq (yr_all _) (yrc (a := 0) (b := 0) (x := 0) (by decide) (by decide)) c9 (by decide) (by decide)
      exact J16  _ _ _   (hP.sub [0] rfl) (hD.sub [0] (by decide) rfl) hS (lv_sub hl [0] rfl)
    · refine lv_iconst (v := 1) hx hb dX5_isSecondOfTwo_12 (by decide) ?_
      refine lv_goto (tgt := 17) hx hb dX5_isSecondOfTwo_13 (by decide) ?_
      exact J17 1 _ _ _ (yrc (a := 0) (b := 1) (x := 1) (by decide) (by decide))  (hP.sub [0] rfl) (hD.sub [0] (by decide) rfl) hS (lv_sub hl [0] rfl)
set_option maxHeartbeats 4000000 in
set_option maxRecDepth 100000 in
theorem g_selectsBadly (l : Launch) (dC : Nat → ClassId) (dI : Nat → Nat → Nat) (cyI cyZ cyO : ClassId) (sz : Nat) (ap : Nat) (ap_slaves : Int32) (ap_registers : Int32) (ap_depth : Int32) (ap_limit : Int32) (ap_changes : Int32) (ap_first : Nat) (ap_last : Nat) (ap_wait : Nat) (ap_broken : Nat) (ap_words : Nat) (ap_kinds : Nat) (ap_values : Nat) (ap_owners : Nat) (k : Int32) (h_ap_slaves : yr 0 8 ap_slaves) (h_ap_registers : yr 0 48 ap_registers) (h_ap_depth : yr 0 4 ap_depth) : Met l yX5_selectsBadly wsX5_selectsBadly ({ frames := 1, cells := 0, slots := 0, locals := 20 }) (yPre [.ref ap, .int k] (dC, dI) [(ap, .inr (6, [.ref ap_first, .ref ap_last, .ref ap_wait, .ref ap_broken, .ref ap_words, .ref ap_kinds, .ref ap_values, .ref ap_owners, .int ap_slaves, .int ap_registers, .int ap_depth, .int ap_limit, .int ap_changes]))] (yT cyI cyZ cyO) sz) (yQi (fun (r : Int32) (u : yU) => yr 0 1 r) (dC, dI) [(ap, .inr (6, [.ref ap_first, .ref ap_last, .ref ap_wait, .ref ap_broken, .ref ap_words, .ref ap_kinds, .ref ap_values, .ref ap_owners, .int ap_slaves, .int ap_registers, .int ap_depth, .int ap_limit, .int ap_changes]))] (yT cyI cyZ cyO) sz (fun u => [(ap, .inr (6, [.ref ap_first, .ref ap_last, .ref ap_wait, .ref ap_broken, .ref ap_words, .ref ap_kinds, .ref ap_values, .ref ap_owners, .int ap_slaves, .int ap_registers, .int ap_depth, .int ap_limit, .int ap_changes]))])) 0 0 (va_A [(ap, .inr (6, [.ref ap_first, .ref ap_last, .ref ap_wait, .ref ap_broken, .ref ap_words, .ref ap_kinds, .ref ap_values, .ref ap_owners, .int ap_slaves, .int ap_registers, .int ap_depth, .int ap_limit, .int ap_changes]))] sz) := by
  refine yMet (cc := cX5_selectsBadly) (maxL := 2) (ret := (some .boolean)) (by decide) rfl (Nat.le_of_ble_eq_true rfl) ?_
  intro p e s m below meth c A hx hb hr hlk hml hts hown hnm hsz hAe hP hK hD hA hS ls hl
  have hl : lv_has ls 2 [(0, .ref ap), (1, .int k)] := hl
  have hf122 := hts (.fieldLink RX5 122 "BusBridge$Plan" "slaves" "I") (by decide +kernel)
  have hnX6 : ∀ w ∈ wsX60, w ∈ wsX5_selectsBadly := by decide +kernel
  refine lv_iload_n hx hb dX5_selectsBadly_0 rfl (lv_at hl 1 rfl) ?_
  have hPc := hP.sub (ws' := []) [] rfl
  have hDc := hD.sub (ws' := []) [] (by decide) rfl
  refine yy_calli [] [0] (wr := [(ap, .inr (6, [.ref ap_first, .ref ap_last, .ref ap_wait, .ref ap_broken, .ref ap_words, .ref ap_kinds, .ref ap_values, .ref ap_owners, .int ap_slaves, .int ap_registers, .int ap_depth, .int ap_limit, .int ap_changes]))]) (va_runS (As := [.int k]) (rest := []) ⟨hx, hb, hml, hown, hts⟩ (g_bitCount l dC dI cyI cyZ cyO s.heap.size k ) (va_cwS 1 hts gX5_selectsBadly_J6_bitCount_0f7a4 rfl rfl rfl (by decide +kernel) ⟨Nat.le_of_ble_eq_true rfl, Nat.le_of_ble_eq_true rfl⟩) (yPreS hK hPc hDc) rfl rfl hl.1 rfl (lv_room (Nat.le_of_ble_eq_true rfl)) dX5_selectsBadly_1 ⟨Nat.le_of_ble_eq_true rfl, Nat.le_of_ble_eq_true rfl⟩) hP hD hS hA rfl rfl (by decide) (by decide) (fun r1 u1 H locs hw hP hD hS => ?_)
  have hP : va_P (dC, dI) vwCl [(ap, .inr (6, [.ref ap_first, .ref ap_last, .ref ap_wait, .ref ap_broken, .ref ap_words, .ref ap_kinds, .ref ap_values, .ref ap_owners, .int ap_slaves, .int ap_registers, .int ap_depth, .int ap_limit, .int ap_changes]))] H := hP
  have hD : va_D A [(ap, .inr (6, [.ref ap_first, .ref ap_last, .ref ap_wait, .ref ap_broken, .ref ap_words, .ref ap_kinds, .ref ap_values, .ref ap_owners, .int ap_slaves, .int ap_registers, .int ap_depth, .int ap_limit, .int ap_changes]))] := hD
  refine W.widen (k := 0) (n := 0) (Nat.le_of_ble_eq_true rfl) (Nat.le_of_ble_eq_true rfl) ?_
  refine lv_iconst (v := 1) hx hb dX5_selectsBadly_4 (by decide) ?_
  have J22 : ∀ (j22_s0 : Int32) (H : Heap) (locs : List Loc) (ls : Array Slot), yr 0 1 j22_s0 → va_P (dC, dI) vwCl [(ap, .inr (6, [.ref ap_first, .ref ap_last, .ref ap_wait, .ref ap_broken, .ref ap_words, .ref ap_kinds, .ref ap_values, .ref ap_owners, .int ap_slaves, .int ap_registers, .int ap_depth, .int ap_limit, .int ap_changes]))] H → va_D A [(ap, .inr (6, [.ref ap_first, .ref ap_last, .ref ap_wait, .ref ap_broken, .ref ap_words, .ref ap_kinds, .ref ap_values, .ref ap_owners, .int ap_slaves, .int ap_registers, .int ap_depth, .int ap_limit, .int ap_changes]))] → va_S A s.heap H locs → lv_has ls 2 [(0, .ref ap), (1, .int k)] → W p l e ({ frames := 1, cells := 0, slots := 0, locals := 20 } : Room) s m [.ref ap, .int k].toArray below meth c H locs 0 0 (MQ below (yQi (fun (r : Int32) (u : yU) => yr 0 1 r) (dC, dI) [(ap, .inr (6, [.ref ap_first, .ref ap_last, .ref ap_wait, .ref ap_broken, .ref ap_words, .ref ap_kinds, .ref ap_values, .ref ap_owners, .int ap_slaves, .int ap_registers, .int ap_depth, .int ap_limit, .int ap_changes]))] (yT cyI cyZ cyO) sz (fun u => [(ap, .inr (6, [.ref ap_first, .ref ap_last, .ref ap_wait, .ref ap_broken, .ref ap_words, .ref ap_kinds, .ref ap_values, .ref ap_owners, .int ap_slaves, .int ap_registers, .int ap_depth, .int ap_limit, .int ap_changes]))])) [.ref ap, .int k].toArray s 0 0 A) (F0 m 22 ls [.int j22_s0]) := by
    intro j22_s0 H locs ls hj22_s0  hP hD hS hl
    refine W.widen (k := 0) (n := 0) (Nat.le_of_ble_eq_true rfl) (Nat.le_of_ble_eq_true rfl) ?_
    exact yy_iret (v := j22_s0) (((fun _ => 0), (fun _ _ => 0)) : yU) hx hb hr hlk (yr_nz hj22_s0) hsz hAe hK hP hD hS [0] rfl rfl (by decide) hj22_s0 dX5_selectsBadly_22
  have J17 : ∀  (H : Heap) (locs : List Loc) (ls : Array Slot), va_P (dC, dI) vwCl [(ap, .inr (6, [.ref ap_first, .ref ap_last, .ref ap_wait, .ref ap_broken, .ref ap_words, .ref ap_kinds, .ref ap_values, .ref ap_owners, .int ap_slaves, .int ap_registers, .int ap_depth, .int ap_limit, .int ap_changes]))] H → va_D A [(ap, .inr (6, [.ref ap_first, .ref ap_last, .ref ap_wait, .ref ap_broken, .ref ap_words, .ref ap_kinds, .ref ap_values, .ref ap_owners, .int ap_slaves, .int ap_registers, .int ap_depth, .int ap_limit, .int ap_changes]))] → va_S A s.heap H locs → lv_has ls 2 [(0, .ref ap), (1, .int k)] → W p l e ({ frames := 1, cells := 0, slots := 0, locals := 20 } : Room) s m [.ref ap, .int k].toArray below meth c H locs 0 0 (MQ below (yQi (fun (r : Int32) (u : yU) => yr 0 1 r) (dC, dI) [(ap, .inr (6, [.ref ap_first, .ref ap_last, .ref ap_wait, .ref ap_broken, .ref ap_words, .ref ap_kinds, .ref ap_values, .ref ap_owners, .int ap_slaves, .int ap_registers, .int ap_depth, .int ap_limit, .int ap_changes]))] (yT cyI cyZ cyO) sz (fun u => [(ap, .inr (6, [.ref ap_first, .ref ap_last, .ref ap_wait, .ref ap_broken, .ref ap_words, .ref ap_kinds, .ref ap_values, .ref ap_owners, .int ap_slaves, .int ap_registers, .int ap_depth, .int ap_limit, .int ap_changes]))])) [.ref ap, .int k].toArray s 0 0 A) (F0 m 17 ls []) := by
    intro  H locs ls   hP hD hS hl
    refine lv_iconst (v := 1) hx hb dX5_selectsBadly_17 (by decide) ?_
    refine lv_goto (tgt := 22) hx hb dX5_selectsBadly_18 (by decide) ?_
    exact J22 1 _ _ _ (yrc (a := 0) (b := 1) (x := 1) (by decide) (by decide))  (hP.sub [0] rfl) (hD.sub [0] (by decide) rfl) hS (lv_sub hl [0, 1] rfl)
  refine lv_icmp_gt (tgt := 17) hx hb dX5_selectsBadly_5 (by decide) (fun c5 => ?_) (fun c5 => ?_)
  · have hq17_1 : yr 2 2147483647 r1 := yr_ltR (yrc (a := 1) (b := 1) (x := 1) (by decide) (by decide)) (yr_all _) c5 (by decide)
    exact J17  _ _ _   (hP.sub [0] rfl) (hD.sub [0] (by decide) rfl) hS (lv_sub hl [0, 1] rfl)
  · have hq8_2 : yr (-2147483648) 1 r1 := yr_leL (yr_all _) (yrc (a := 1) (b := 1) (x := 1) (by decide) (by decide)) (Int32.not_lt.mp c5) (by decide)
    refine lv_iload_n hx hb dX5_selectsBadly_8 rfl (lv_at hl 1 rfl) ?_
    refine lv_aload_n hx hb dX5_selectsBadly_9 rfl (lv_at hl 0 rfl) ?_
    refine va_get (D := (dC, dI)) (ci := 6) (v := .int ap_slaves) (C := RX6) (T := TX6) (N := 13) hx hb hts hnX6 hown hK hP 0 rfl rfl 8 (by decide) hf122 (fun _ h9 => h9) rfl dX5_selectsBadly_10 ?_
    refine lv_iushr hx hb dX5_selectsBadly_13 rfl ?_
    refine lv_topi (fun v13 ev13 => ?_)
    refine lv_if_eq (tgt := 21) hx hb dX5_selectsBadly_14 (by decide) (fun c14 => ?_) (fun c14 => ?_)
    · have hq21_3 : yr 0 0 v13 := yr_eq (yr_all _) (yrc (a := 0) (b := 0) (x := 0) (by decide) (by decide)) c14 (by decide) (by decide)
      refine lv_iconst (v := 0) hx hb dX5_selectsBadly_21 (by decide) ?_
      exact J22 0 _ _ _ (yrc (a := 0) (b := 1) (x := 0) (by decide) (by decide))  (hP.sub [0] rfl) (hD.sub [0] (by decide) rfl) hS (lv_sub hl [0, 1] rfl)
    · exact J17  _ _ _   (hP.sub [0] rfl) (hD.sub [0] (by decide) rfl) hS (lv_sub hl [0, 1] rfl)
set_option maxHeartbeats 4000000 in
set_option maxRecDepth 100000 in
theorem g_isAimed (l : Launch) (dC : Nat → ClassId) (dI : Nat → Nat → Nat) (cyI cyZ cyO : ClassId) (sz : Nat) (ap : Nat) (ap_slaves : Int32) (ap_registers : Int32) (ap_depth : Int32) (ap_limit : Int32) (ap_changes : Int32) (ap_first : Nat) (gap_first : Nat → Int32) (ap_last : Nat) (gap_last : Nat → Int32) (ap_wait : Nat) (ap_broken : Nat) (ap_words : Nat) (ap_kinds : Nat) (ap_values : Nat) (ap_owners : Nat) (az : Nat) (gaz : Nat → Int32) (h_ap_slaves : yr 0 8 ap_slaves) (h_ap_registers : yr 0 48 ap_registers) (h_ap_depth : yr 0 4 ap_depth) : Met l yX5_isAimed wsX5_isAimed ({ frames := 2, cells := 0, slots := 0, locals := 44 }) (yPre [.ref ap, .ref az] (dC, dI) [(ap, .inr (6, [.ref ap_first, .ref ap_last, .ref ap_wait, .ref ap_broken, .ref ap_words, .ref ap_kinds, .ref ap_values, .ref ap_owners, .int ap_slaves, .int ap_registers, .int ap_depth, .int ap_limit, .int ap_changes])), (ap_first, .inl (cyI, 8, .inl gap_first)), (ap_last, .inl (cyI, 8, .inl gap_last)), (az, .inl (cyI, 15, .inl gaz))] (yT cyI cyZ cyO) sz) (yQi (fun (r : Int32) (u : yU) => yr 0 1 r) (dC, dI) [(ap, .inr (6, [.ref ap_first, .ref ap_last, .ref ap_wait, .ref ap_broken, .ref ap_words, .ref ap_kinds, .ref ap_values, .ref ap_owners, .int ap_slaves, .int ap_registers, .int ap_depth, .int ap_limit, .int ap_changes])), (ap_first, .inl (cyI, 8, .inl gap_first)), (ap_last, .inl (cyI, 8, .inl gap_last)), (az, .inl (cyI, 15, .inl gaz))] (yT cyI cyZ cyO) sz (fun u => [(ap, .inr (6, [.ref ap_first, .ref ap_last, .ref ap_wait, .ref ap_broken, .ref ap_words, .ref ap_kinds, .ref ap_values, .ref ap_owners, .int ap_slaves, .int ap_registers, .int ap_depth, .int ap_limit, .int ap_changes])), (ap_first, .inl (cyI, 8, .inl gap_first)), (ap_last, .inl (cyI, 8, .inl gap_last)), (az, .inl (cyI, 15, .inl gaz))])) 0 0 (va_A [(ap, .inr (6, [.ref ap_first, .ref ap_last, .ref ap_wait, .ref ap_broken, .ref ap_words, .ref ap_kinds, .ref ap_values, .ref ap_owners, .int ap_slaves, .int ap_registers, .int ap_depth, .int ap_limit, .int ap_changes])), (ap_first, .inl (cyI, 8, .inl gap_first)), (ap_last, .inl (cyI, 8, .inl gap_last)), (az, .inl (cyI, 15, .inl gaz))] sz) := by
  refine yMet (cc := cX5_isAimed) (maxL := 3) (ret := (some .boolean)) (by decide) rfl (Nat.le_of_ble_eq_true rfl) ?_
  intro p e s m below meth c A hx hb hr hlk hml hts hown hnm hsz hAe hP hK hD hA hS ls hl
  have hl : lv_has ls 3 [(0, .ref ap), (1, .ref az)] := hl
  refine lv_aload_n hx hb dX5_isAimed_0 rfl (lv_at hl 0 rfl) ?_
  refine lv_aload_n hx hb dX5_isAimed_1 rfl (lv_at hl 1 rfl) ?_
  refine lv_bipush (v := 9) hx hb dX5_isAimed_2 (by decide) ?_
  refine va_iald hx hb hK hP 3 0 rfl rfl (yin (by decide)) dX5_isAimed_4 ?_
  refine lv_topi (fun v4 ev4 => ?_)
  have hPc := hP.sub (ws' := [(ap, .inr (6, [.ref ap_first, .ref ap_last, .ref ap_wait, .ref ap_broken, .ref ap_words, .ref ap_kinds, .ref ap_values, .ref ap_owners, .int ap_slaves, .int ap_registers, .int ap_depth, .int ap_limit, .int ap_changes])), (ap_first, .inl (cyI, 8, .inl gap_first)), (ap_last, .inl (cyI, 8, .inl gap_last))]) [0, 1, 2] rfl
  have hDc := hD.sub (ws' := [(ap, .inr (6, [.ref ap_first, .ref ap_last, .ref ap_wait, .ref ap_broken, .ref ap_words, .ref ap_kinds, .ref ap_values, .ref ap_owners, .int ap_slaves, .int ap_registers, .int ap_depth, .int ap_limit, .int ap_changes])), (ap_first, .inl (cyI, 8, .inl gap_first)), (ap_last, .inl (cyI, 8, .inl gap_last))]) [0, 1, 2] (by decide) rfl
  refine yy_calli [0, 1, 2] [3] (wr := [(az, .inl (cyI, 15, .inl gaz))]) (va_runV (As := [.int v4]) (rest := []) ⟨hx, hb, hml, hown, hts⟩ (g_slaveAt l dC dI cyI cyZ cyO s.heap.size ap ap_slaves ap_registers ap_depth ap_limit ap_changes ap_first gap_first ap_last gap_last ap_wait ap_broken ap_words ap_kinds ap_values ap_owners v4 h_ap_slaves h_ap_registers h_ap_depth) (cwV 1 hts gX5_isAimed_X6_slaveAt rfl rfl rfl (by decide +kernel) ⟨Nat.le_of_ble_eq_true rfl, Nat.le_of_ble_eq_true rfl⟩) (yPreV hK hPc hDc (ci := 6) (q0 := 0) rfl rfl) rfl rfl hl.1 rfl (lv_room (Nat.le_of_ble_eq_true rfl)) dX5_isAimed_5 ⟨Nat.le_of_ble_eq_true rfl, Nat.le_of_ble_eq_true rfl⟩) hP hD hS hA rfl rfl (by decide) (by decide) (fun r5 u5 H locs hw hP hD hS => ?_)
  have hP : va_P (dC, dI) vwCl [(az, .inl (cyI, 15, .inl gaz)), (ap, .inr (6, [.ref ap_first, .ref ap_last, .ref ap_wait, .ref ap_broken, .ref ap_words, .ref ap_kinds, .ref ap_values, .ref ap_owners, .int ap_slaves, .int ap_registers, .int ap_depth, .int ap_limit, .int ap_changes])), (ap_first, .inl (cyI, 8, .inl gap_first)), (ap_last, .inl (cyI, 8, .inl gap_last))] H := hP
  have hD : va_D A [(az, .inl (cyI, 15, .inl gaz)), (ap, .inr (6, [.ref ap_first, .ref ap_last, .ref ap_wait, .ref ap_broken, .ref ap_words, .ref ap_kinds, .ref ap_values, .ref ap_owners, .int ap_slaves, .int ap_registers, .int ap_depth, .int ap_limit, .int ap_changes])), (ap_first, .inl (cyI, 8, .inl gap_first)), (ap_last, .inl (cyI, 8, .inl gap_last))] := hD
  refine W.widen (k := 0) (n := 0) (Nat.le_of_ble_eq_true rfl) (Nat.le_of_ble_eq_true rfl) ?_
  have hw5_0 := hw
  refine lv_istore_n (lv' := [(2, .int r5), (0, .ref ap), (1, .ref az)]) hx hb dX5_isAimed_8 rfl hl (by decide) rfl (fun ls hl => ?_)
  refine lv_iload_n hx hb dX5_isAimed_9 rfl (lv_at hl 0 rfl) ?_
  have J29 : ∀ (j29_s0 : Int32) (H : Heap) (locs : List Loc) (ls : Array Slot), yr 0 1 j29_s0 → va_P (dC, dI) vwCl [(az, .inl (cyI, 15, .inl gaz)), (ap, .inr (6, [.ref ap_first, .ref ap_last, .ref ap_wait, .ref ap_broken, .ref ap_words, .ref ap_kinds, .ref ap_values, .ref ap_owners, .int ap_slaves, .int ap_registers, .int ap_depth, .int ap_limit, .int ap_changes])), (ap_first, .inl (cyI, 8, .inl gap_first)), (ap_last, .inl (cyI, 8, .inl gap_last))] H → va_D A [(az, .inl (cyI, 15, .inl gaz)), (ap, .inr (6, [.ref ap_first, .ref ap_last, .ref ap_wait, .ref ap_broken, .ref ap_words, .ref ap_kinds, .ref ap_values, .ref ap_owners, .int ap_slaves, .int ap_registers, .int ap_depth, .int ap_limit, .int ap_changes])), (ap_first, .inl (cyI, 8, .inl gap_first)), (ap_last, .inl (cyI, 8, .inl gap_last))] → va_S A s.heap H locs → lv_has ls 3 [(0, .ref ap), (1, .ref az), (2, .int r5)] → W p l e ({ frames := 2, cells := 0, slots := 0, locals := 44 } : Room) s m [.ref ap, .ref az].toArray below meth c H locs 0 0 (MQ below (yQi (fun (r : Int32) (u : yU) => yr 0 1 r) (dC, dI) [(ap, .inr (6, [.ref ap_first, .ref ap_last, .ref ap_wait, .ref ap_broken, .ref ap_words, .ref ap_kinds, .ref ap_values, .ref ap_owners, .int ap_slaves, .int ap_registers, .int ap_depth, .int ap_limit, .int ap_changes])), (ap_first, .inl (cyI, 8, .inl gap_first)), (ap_last, .inl (cyI, 8, .inl gap_last)), (az, .inl (cyI, 15, .inl gaz))] (yT cyI cyZ cyO) sz (fun u => [(ap, .inr (6, [.ref ap_first, .ref ap_last, .ref ap_wait, .ref ap_broken, .ref ap_words, .ref ap_kinds, .ref ap_values, .ref ap_owners, .int ap_slaves, .int ap_registers, .int ap_depth, .int ap_limit, .int ap_changes])), (ap_first, .inl (cyI, 8, .inl gap_first)), (ap_last, .inl (cyI, 8, .inl gap_last)), (az, .inl (cyI, 15, .inl gaz))])) [.ref ap, .ref az].toArray s 0 0 A) (F0 m 29 ls [.int j29_s0]) := by
    intro j29_s0 H locs ls hj29_s0  hP hD hS hl
    refine W.widen (k := 0) (n := 0) (Nat.le_of_ble_eq_true rfl) (Nat.le_of_ble_eq_true rfl) ?_
    exact yy_iret (v := j29_s0) (((fun _ => 0), (fun _ _ => 0)) : yU) hx hb hr hlk (yr_nz hj29_s0) hsz hAe hK hP hD hS [1, 2, 3, 0] rfl rfl (by decide) hj29_s0 dX5_isAimed_29
  have J28 : ∀  (H : Heap) (locs : List Loc) (ls : Array Slot), va_P (dC, dI) vwCl [(az, .inl (cyI, 15, .inl gaz)), (ap, .inr (6, [.ref ap_first, .ref ap_last, .ref ap_wait, .ref ap_broken, .ref ap_words, .ref ap_kinds, .ref ap_values, .ref ap_owners, .int ap_slaves, .int ap_registers, .int ap_depth, .int ap_limit, .int ap_changes])), (ap_first, .inl (cyI, 8, .inl gap_first)), (ap_last, .inl (cyI, 8, .inl gap_last))] H → va_D A [(az, .inl (cyI, 15, .inl gaz)), (ap, .inr (6, [.ref ap_first, .ref ap_last, .ref ap_wait, .ref ap_broken, .ref ap_words, .ref ap_kinds, .ref ap_values, .ref ap_owners, .int ap_slaves, .int ap_registers, .int ap_depth, .int ap_limit, .int ap_changes])), (ap_first, .inl (cyI, 8, .inl gap_first)), (ap_last, .inl (cyI, 8, .inl gap_last))] → va_S A s.heap H locs → lv_has ls 3 [(0, .ref ap), (1, .ref az), (2, .int r5)] → W p l e ({ frames := 2, cells := 0, slots := 0, locals := 44 } : Room) s m [.ref ap, .ref az].toArray below meth c H locs 0 0 (MQ below (yQi (fun (r : Int32) (u : yU) => yr 0 1 r) (dC, dI) [(ap, .inr (6, [.ref ap_first, .ref ap_last, .ref ap_wait, .ref ap_broken, .ref ap_words, .ref ap_kinds, .ref ap_values, .ref ap_owners, .int ap_slaves, .int ap_registers, .int ap_depth, .int ap_limit, .int ap_changes])), (ap_first, .inl (cyI, 8, .inl gap_first)), (ap_last, .inl (cyI, 8, .inl gap_last)), (az, .inl (cyI, 15, .inl gaz))] (yT cyI cyZ cyO) sz (fun u => [(ap, .inr (6, [.ref ap_first, .ref ap_last, .ref ap_wait, .ref ap_broken, .ref ap_words, .ref ap_kinds, .ref ap_values, .ref ap_owners, .int ap_slaves, .int ap_registers, .int ap_depth, .int ap_limit, .int ap_changes])), (ap_first, .inl (cyI, 8, .inl gap_first)), (ap_last, .inl (cyI, 8, .inl gap_last)), (az, .inl (cyI, 15, .inl gaz))])) [.ref ap, .ref az].toArray s 0 0 A) (F0 m 28 ls []) := by
    intro  H locs ls   hP hD hS hl
    refine lv_iconst (v := 0) hx hb dX5_isAimed_28 (by decide) ?_
    exact J29 0 _ _ _ (yrc (a := 0) (b := 1) (x := 0) (by decide) (by decide))  (hP.sub [0, 1, 2, 3] rfl) (hD.sub [0, 1, 2, 3] (by decide) rfl) hS (lv_sub hl [0, 1, 2] rfl)
  refine lv_if_lt (tgt := 28) hx hb dX5_isAimed_10 (by decide) (fun c10 => ?_) (fun c10 => ?_)
  · have hq28_1 : yr (-1) (-1) r5 := yr_ltL hw5_0 (yrc (a := 0) (b := 0) (x := 0) (by decide) (by decide)) c10 (by decide)
    exact J28  _ _ _   (hP.sub [0, 1, 2, 3] rfl) (hD.sub [0, 1, 2, 3] (by decide) rfl) hS (lv_sub hl [1, 2, 0] rfl)
  · have hq13_2 : yr 0 7 r5 := yr_leR (yrc (a := 0) (b := 0) (x := 0) (by decide) (by decide)) hw5_0 (Int32.not_lt.mp c10) (by decide)
    refine lv_aload_n hx hb dX5_isAimed_13 rfl (lv_at hl 2 rfl) ?_
    refine lv_bipush (v := 7) hx hb dX5_isAimed_14 (by decide) ?_
    refine va_iald hx hb hK hP 0 0 rfl rfl (yin (by decide)) dX5_isAimed_16 ?_
    refine lv_topi (fun v16 ev16 => ?_)
    refine lv_iload_n hx hb dX5_isAimed_17 rfl (lv_at hl 0 rfl) ?_
    refine lv_ishr hx hb dX5_isAimed_18 ?_
    refine lv_topi (fun v18 ev18 => ?_)
    refine lv_iconst (v := 1) hx hb dX5_isAimed_19 (by decide) ?_
    refine lv_iand hx hb dX5_isAimed_20 ?_
    refine lv_topi (fun v20 ev20 => ?_)
    refine lv_if_eq (tgt := 28) hx hb dX5_isAimed_21 (by decide) (fun c21 => ?_) (fun c21 => ?_)
    · have hq28_3 : yr 0 0 v20 := yr_eq (yr_all _) (yrc (a := 0) (b := 0) (x := 0) (by decide) (by decide)) c21 (by decide) (by decide)
      exact J28  _ _ _   (hP.sub [0, 1, 2, 3] rfl) (hD.sub [0, 1, 2, 3] (by decide) rfl) hS (lv_sub hl [1, 2, 0] rfl)
    · refine lv_iconst (v := 1) hx hb dX5_isAimed_24 (by decide) ?_
      refine lv_goto (tgt := 29) hx hb dX5_isAimed_25 (by decide) ?_
      exact J29 1 _ _ _ (yrc (a := 0) (b := 1) (x := 1) (by decide) (by decide))  (hP.sub [0, 1, 2, 3] rfl) (hD.sub [0, 1, 2, 3] (by decide) rfl) hS (lv_sub hl [1, 2, 0] rfl)
set_option maxHeartbeats 4000000 in
set_option maxRecDepth 100000 in
theorem g_breaksAbove (l : Launch) (dC : Nat → ClassId) (dI : Nat → Nat → Nat) (cyI cyZ cyO : ClassId) (sz : Nat) (h0 : Nat) (h0_dataPhase : Int32) (h0_writePhase : Int32) (h0_lowClocks : Int32) (h0_counts : Nat) (h0_rows : Nat) (k : Int32) (az : Nat) (gaz : Nat → Int32) (av : Nat) (gav : Nat → Int32) (h_h0_dataPhase : yr 0 1 h0_dataPhase) (h_h0_writePhase : yr 0 1 h0_writePhase) : Met l yX5_breaksAbove wsX5_breaksAbove ({ frames := 2, cells := 0, slots := 0, locals := 43 }) (yPre [.ref h0, .int k, .ref az, .ref av] (dC, dI) [(h0, .inr (5, [.ref h0_counts, .ref h0_rows, .int h0_dataPhase, .int h0_writePhase, .int h0_lowClocks])), (az, .inl (cyI, 15, .inl gaz)), (av, .inl (cyI, 15, .inl gav))] (yT cyI cyZ cyO) sz) (yQi (fun (r : Int32) (u : yU) => yr 0 1 r) (dC, dI) [(h0, .inr (5, [.ref h0_counts, .ref h0_rows, .int h0_dataPhase, .int h0_writePhase, .int h0_lowClocks])), (az, .inl (cyI, 15, .inl gaz)), (av, .inl (cyI, 15, .inl gav))] (yT cyI cyZ cyO) sz (fun u => [(h0, .inr (5, [.ref h0_counts, .ref h0_rows, .int h0_dataPhase, .int h0_writePhase, .int h0_lowClocks])), (az, .inl (cyI, 15, .inl gaz)), (av, .inl (cyI, 15, .inl gav))])) 0 0 (va_A [(h0, .inr (5, [.ref h0_counts, .ref h0_rows, .int h0_dataPhase, .int h0_writePhase, .int h0_lowClocks])), (az, .inl (cyI, 15, .inl gaz)), (av, .inl (cyI, 15, .inl gav))] sz) := by
  refine yMet (cc := cX5_breaksAbove) (maxL := 4) (ret := (some .boolean)) (by decide) rfl (Nat.le_of_ble_eq_true rfl) ?_
  intro p e s m below meth c A hx hb hr hlk hml hts hown hnm hsz hAe hP hK hD hA hS ls hl
  have hl : lv_has ls 4 [(0, .ref h0), (1, .int k), (2, .ref az), (3, .ref av)] := hl
  have hf31 := hts (.fieldLink RX5 31 "BusBridge$Monitor" "dataPhase" "Z") (by decide +kernel)
  have hf35 := hts (.fieldLink RX5 35 "BusBridge$Monitor" "writePhase" "Z") (by decide +kernel)
  have hf38 := hts (.fieldLink RX5 38 "BusBridge$Monitor" "lowClocks" "I") (by decide +kernel)
  have hnX5 : ∀ w ∈ wsX50, w ∈ wsX5_breaksAbove := by decide +kernel
  refine lv_iload_n hx hb dX5_breaksAbove_0 rfl (lv_at hl 1 rfl) ?_
  rcases ysw1_7 k with c1 | c1 | c1 | c1 | c1 | c1 | c1 | c1
  · refine yy_int (v := 1) c1 ?_
    refine lv_tableIn (off := 43) (tgt := 44) hx hb dX5_breaksAbove_1 (by decide) (by decide) (by decide) (by decide) ?_
    refine lv_aload_n hx hb dX5_breaksAbove_44 rfl (lv_at hl 2 rfl) ?_
    refine lv_aload_n hx hb dX5_breaksAbove_45 rfl (lv_at hl 3 rfl) ?_
    have hPc := hP.sub (ws' := [(az, .inl (cyI, 15, .inl gaz)), (av, .inl (cyI, 15, .inl gav))]) [1, 2] rfl
    have hDc := hD.sub (ws' := [(az, .inl (cyI, 15, .inl gaz)), (av, .inl (cyI, 15, .inl gav))]) [1, 2] (by decide) rfl
    refine yy_calli [1, 2] [0] (wr := [(h0, .inr (5, [.ref h0_counts, .ref h0_rows, .int h0_dataPhase, .int h0_writePhase, .int h0_lowClocks]))]) (va_runS (As := [.ref az, .ref av]) (rest := []) ⟨hx, hb, hml, hown, hts⟩ (g_leavesAddress l dC dI cyI cyZ cyO s.heap.size az gaz av gav ) (va_cwS 2 hts gX5_breaksAbove_X5_leavesAddress rfl rfl rfl (by decide +kernel) ⟨Nat.le_of_ble_eq_true rfl, Nat.le_of_ble_eq_true rfl⟩) (yPreS hK hPc hDc) rfl rfl hl.1 rfl (lv_room (Nat.le_of_ble_eq_true rfl)) dX5_breaksAbove_46 ⟨Nat.le_of_ble_eq_true rfl, Nat.le_of_ble_eq_true rfl⟩) hP hD hS hA rfl rfl (by decide) (by decide) (fun r46 u46 H locs hw hP hD hS => ?_)
    have hP : va_P (dC, dI) vwCl [(h0, .inr (5, [.ref h0_counts, .ref h0_rows, .int h0_dataPhase, .int h0_writePhase, .int h0_lowClocks])), (az, .inl (cyI, 15, .inl gaz)), (av, .inl (cyI, 15, .inl gav))] H := hP
    have hD : va_D A [(h0, .inr (5, [.ref h0_counts, .ref h0_rows, .int h0_dataPhase, .int h0_writePhase, .int h0_lowClocks])), (az, .inl (cyI, 15, .inl gaz)), (av, .inl (cyI, 15, .inl gav))] := hD
    refine W.widen (k := 0) (n := 0) (Nat.le_of_ble_eq_true rfl) (Nat.le_of_ble_eq_true rfl) ?_
    have hw46_0 := hw
    refine W.widen (k := 0) (n := 0) (Nat.le_of_ble_eq_true rfl) (Nat.le_of_ble_eq_true rfl) ?_
    exact yy_iret (v := r46) (((fun _ => 0), (fun _ _ => 0)) : yU) hx hb hr hlk (yr_nz hw46_0) hsz hAe hK hP hD hS [0, 1, 2] rfl rfl (by decide) hw46_0 dX5_breaksAbove_49
  · refine yy_int (v := 2) c1 ?_
    refine lv_tableIn (off := 49) (tgt := 50) hx hb dX5_breaksAbove_1 (by decide) (by decide) (by decide) (by decide) ?_
    refine lv_aload_n hx hb dX5_breaksAbove_50 rfl (lv_at hl 2 rfl) ?_
    refine lv_aload_n hx hb dX5_breaksAbove_51 rfl (lv_at hl 3 rfl) ?_
    have hPc := hP.sub (ws' := [(az, .inl (cyI, 15, .inl gaz)), (av, .inl (cyI, 15, .inl gav))]) [1, 2] rfl
    have hDc := hD.sub (ws' := [(az, .inl (cyI, 15, .inl gaz)), (av, .inl (cyI, 15, .inl gav))]) [1, 2] (by decide) rfl
    refine yy_calli [1, 2] [0] (wr := [(h0, .inr (5, [.ref h0_counts, .ref h0_rows, .int h0_dataPhase, .int h0_writePhase, .int h0_lowClocks]))]) (va_runS (As := [.ref az, .ref av]) (rest := []) ⟨hx, hb, hml, hown, hts⟩ (g_followsBadly l dC dI cyI cyZ cyO s.heap.size az gaz av gav ) (va_cwS 2 hts gX5_breaksAbove_X5_followsBadly rfl rfl rfl (by decide +kernel) ⟨Nat.le_of_ble_eq_true rfl, Nat.le_of_ble_eq_true rfl⟩) (yPreS hK hPc hDc) rfl rfl hl.1 rfl (lv_room (Nat.le_of_ble_eq_true rfl)) dX5_breaksAbove_52 ⟨Nat.le_of_ble_eq_true rfl, Nat.le_of_ble_eq_true rfl⟩) hP hD hS hA rfl rfl (by decide) (by decide) (fun r52 u52 H locs hw hP hD hS => ?_)
    have hP : va_P (dC, dI) vwCl [(h0, .inr (5, [.ref h0_counts, .ref h0_rows, .int h0_dataPhase, .int h0_writePhase, .int h0_lowClocks])), (az, .inl (cyI, 15, .inl gaz)), (av, .inl (cyI, 15, .inl gav))] H := hP
    have hD : va_D A [(h0, .inr (5, [.ref h0_counts, .ref h0_rows, .int h0_dataPhase, .int h0_writePhase, .int h0_lowClocks])), (az, .inl (cyI, 15, .inl gaz)), (av, .inl (cyI, 15, .inl gav))] := hD
    refine W.widen (k := 0) (n := 0) (Nat.le_of_ble_eq_true rfl) (Nat.le_of_ble_eq_true rfl) ?_
    have hw52_0 := hw
    refine W.widen (k := 0) (n := 0) (Nat.le_of_ble_eq_true rfl) (Nat.le_of_ble_eq_true rfl) ?_
    exact yy_iret (v := r52) (((fun _ => 0), (fun _ _ => 0)) : yU) hx hb hr hlk (yr_nz hw52_0) hsz hAe hK hP hD hS [0, 1, 2] rfl rfl (by decide) hw52_0 dX5_breaksAbove_55
  · refine yy_int (v := 3) c1 ?_
    refine lv_tableIn (off := 55) (tgt := 56) hx hb dX5_breaksAbove_1 (by decide) (by decide) (by decide) (by decide) ?_
    refine lv_aload_n hx hb dX5_breaksAbove_56 rfl (lv_at hl 0 rfl) ?_
    refine va_get (D := (dC, dI)) (ci := 5) (v := .int h0_dataPhase) (C := RX5) (T := TX5) (N := 5) hx hb hts hnX5 hown hK hP 0 rfl rfl 2 (by decide) hf31 (fun _ h9 => h9) rfl dX5_breaksAbove_57 ?_
    have J90 : ∀ (j90_s0 : Int32) (H : Heap) (locs : List Loc) (ls : Array Slot), yr 0 1 j90_s0 → va_P (dC, dI) vwCl [(h0, .inr (5, [.ref h0_counts, .ref h0_rows, .int h0_dataPhase, .int h0_writePhase, .int h0_lowClocks])), (az, .inl (cyI, 15, .inl gaz)), (av, .inl (cyI, 15, .inl gav))] H → va_D A [(h0, .inr (5, [.ref h0_counts, .ref h0_rows, .int h0_dataPhase, .int h0_writePhase, .int h0_lowClocks])), (az, .inl (cyI, 15, .inl gaz)), (av, .inl (cyI, 15, .inl gav))] → va_S A s.heap H locs → lv_has ls 4 [(0, .ref h0), (1, .int k), (2, .ref az), (3, .ref av)] → W p l e ({ frames := 2, cells := 0, slots := 0, locals := 43 } : Room) s m [.ref h0, .int k, .ref az, .ref av].toArray below meth c H locs 0 0 (MQ below (yQi (fun (r : Int32) (u : yU) => yr 0 1 r) (dC, dI) [(h0, .inr (5, [.ref h0_counts, .ref h0_rows, .int h0_dataPhase, .int h0_writePhase, .int h0_lowClocks])), (az, .inl (cyI, 15, .inl gaz)), (av, .inl (cyI, 15, .inl gav))] (yT cyI cyZ cyO) sz (fun u => [(h0, .inr (5, [.ref h0_counts, .ref h0_rows, .int h0_dataPhase, .int h0_writePhase, .int h0_lowClocks])), (az, .inl (cyI, 15, .inl gaz)), (av, .inl (cyI, 15, .inl gav))])) [.ref h0, .int k, .ref az, .ref av].toArray s 0 0 A) (F0 m 90 ls [.int j90_s0]) := by
      intro j90_s0 H locs ls hj90_s0  hP hD hS hl
      refine W.widen (k := 0) (n := 0) (Nat.le_of_ble_eq_true rfl) (Nat.le_of_ble_eq_true rfl) ?_
      exact yy_iret (v := j90_s0) (((fun _ => 0), (fun _ _ => 0)) : yU) hx hb hr hlk (yr_nz hj90_s0) hsz hAe hK hP hD hS [0, 1, 2] rfl rfl (by decide) hj90_s0 dX5_breaksAbove_90
    have J89 : ∀  (H : Heap) (locs : List Loc) (ls : Array Slot), va_P (dC, dI) vwCl [(h0, .inr (5, [.ref h0_counts, .ref h0_rows, .int h0_dataPhase, .int h0_writePhase, .int h0_lowClocks])), (az, .inl (cyI, 15, .inl gaz)), (av, .inl (cyI, 15, .inl gav))] H → va_D A [(h0, .inr (5, [.ref h0_counts, .ref h0_rows, .int h0_dataPhase, .int h0_writePhase, .int h0_lowClocks])), (az, .inl (cyI, 15, .inl gaz)), (av, .inl (cyI, 15, .inl gav))] → va_S A s.heap H locs → lv_has ls 4 [(0, .ref h0), (1, .int k), (2, .ref az), (3, .ref av)] → W p l e ({ frames := 2, cells := 0, slots := 0, locals := 43 } : Room) s m [.ref h0, .int k, .ref az, .ref av].toArray below meth c H locs 0 0 (MQ below (yQi (fun (r : Int32) (u : yU) => yr 0 1 r) (dC, dI) [(h0, .inr (5, [.ref h0_counts, .ref h0_rows, .int h0_dataPhase, .int h0_writePhase, .int h0_lowClocks])), (az, .inl (cyI, 15, .inl gaz)), (av, .inl (cyI, 15, .inl gav))] (yT cyI cyZ cyO) sz (fun u => [(h0, .inr (5, [.ref h0_counts, .ref h0_rows, .int h0_dataPhase, .int h0_writePhase, .int h0_lowClocks])), (az, .inl (cyI, 15, .inl gaz)), (av, .inl (cyI, 15, .inl gav))])) [.ref h0, .int k, .ref az, .ref av].toArray s 0 0 A) (F0 m 89 ls []) := by
      intro  H locs ls   hP hD hS hl
      refine lv_iconst (v := 0) hx hb dX5_breaksAbove_89 (by decide) ?_
      exact J90 0 _ _ _ (yrc (a := 0) (b := 1) (x := 0) (by decide) (by decide))  (hP.sub [0, 1, 2] rfl) (hD.sub [0, 1, 2] (by decide) rfl) hS (lv_sub hl [0, 1, 2, 3] rfl)
    refine lv_if_eq (tgt := 89) hx hb dX5_breaksAbove_60 (by decide) (fun c60 => ?_) (fun c60 => ?_)
    · have hq89_1 : yr 0 0 h0_dataPhase := yr_eq h_h0_dataPhase (yrc (a := 0) (b := 0) (x := 0) (by decide) (by decide)) c60 (by decide) (by decide)
      exact J89  _ _ _   (hP.sub [0, 1, 2] rfl) (hD.sub [0, 1, 2] (by decide) rfl) hS (lv_sub hl [0, 1, 2, 3] rfl)
    · have hq63_2 : yr 1 1 h0_dataPhase := yr_neL h_h0_dataPhase c60 (by decide) (by decide)
      refine lv_aload_n hx hb dX5_breaksAbove_63 rfl (lv_at hl 0 rfl) ?_
      refine va_get (D := (dC, dI)) (ci := 5) (v := .int h0_writePhase) (C := RX5) (T := TX5) (N := 5) hx hb hts hnX5 hown hK hP 0 rfl rfl 3 (by decide) hf35 (fun _ h9 => h9) rfl dX5_breaksAbove_64 ?_
      refine lv_if_eq (tgt := 89) hx hb dX5_breaksAbove_67 (by decide) (fun c67 => ?_) (fun c67 => ?_)
      · have hq89_3 : yr 0 0 h0_writePhase := yr_eq h_h0_writePhase (yrc (a := 0) (b := 0) (x := 0) (by decide) (by decide)) c67 (by decide) (by decide)
        exact J89  _ _ _   (hP.sub [0, 1, 2] rfl) (hD.sub [0, 1, 2] (by decide) rfl) hS (lv_sub hl [0, 1, 2, 3] rfl)
      · have hq70_4 : yr 1 1 h0_writePhase := yr_neL h_h0_writePhase c67 (by decide) (by decide)
        refine lv_aload_n hx hb dX5_breaksAbove_70 rfl (lv_at hl 3 rfl) ?_
        refine lv_iconst (v := 4) hx hb dX5_breaksAbove_71 (by decide) ?_
        refine va_iald hx hb hK hP 2 0 rfl rfl (yin (by decide)) dX5_breaksAbove_72 ?_
        refine lv_topi (fun v72 ev72 => ?_)
        refine lv_if_ne (tgt := 89) hx hb dX5_breaksAbove_73 (by decide) (fun c73 => ?_) (fun c73 => ?_)
        · exact J89  _ _ _   (hP.sub [0, 1, 2] rfl) (hD.sub [0, 1, 2] (by decide) rfl) hS (lv_sub hl [0, 1, 2, 3] rfl)
        · have hq76_5 : yr 0 0 v72 := yr_eq (yr_all _) (yrc (a := 0) (b := 0) (x := 0) (by decide) (by decide)) c73 (by decide) (by decide)
          refine lv_iconst (v := 3) hx hb dX5_breaksAbove_76 (by decide) ?_
          refine lv_aload_n hx hb dX5_breaksAbove_77 rfl (lv_at hl 2 rfl) ?_
          refine lv_aload_n hx hb dX5_breaksAbove_78 rfl (lv_at hl 3 rfl) ?_
          have hPc := hP.sub (ws' := [(az, .inl (cyI, 15, .inl gaz)), (av, .inl (cyI, 15, .inl gav))]) [1, 2] rfl
          have hDc := hD.sub (ws' := [(az, .inl (cyI, 15, .inl gaz)), (av, .inl (cyI, 15, .inl gav))]) [1, 2] (by decide) rfl
          refine yy_calli [1, 2] [0] (wr := [(h0, .inr (5, [.ref h0_counts, .ref h0_rows, .int h0_dataPhase, .int h0_writePhase, .int h0_lowClocks]))]) (va_runS (As := [.int 3, .ref az, .ref av]) (rest := []) ⟨hx, hb, hml, hown, hts⟩ (g_changed l dC dI cyI cyZ cyO s.heap.size 3 az gaz av gav (yrc (a := 0) (b := 14) (x := 3) (by decide) (by decide))) (va_cwS 3 hts gX5_breaksAbove_X5_changed rfl rfl rfl (by decide +kernel) ⟨Nat.le_of_ble_eq_true rfl, Nat.le_of_ble_eq_true rfl⟩) (yPreS hK hPc hDc) rfl rfl hl.1 rfl (lv_room (Nat.le_of_ble_eq_true rfl)) dX5_breaksAbove_79 ⟨Nat.le_of_ble_eq_true rfl, Nat.le_of_ble_eq_true rfl⟩) hP hD hS hA rfl rfl (by decide) (by decide) (fun r79 u79 H locs hw hP hD hS => ?_)
          have hP : va_P (dC, dI) vwCl [(h0, .inr (5, [.ref h0_counts, .ref h0_rows, .int h0_dataPhase, .int h0_writePhase, .int h0_lowClocks])), (az, .inl (cyI, 15, .inl gaz)), (av, .inl (cyI, 15, .inl gav))] H := hP
          have hD : va_D A [(h0, .inr (5, [.ref h0_counts, .ref h0_rows, .int h0_dataPhase, .int h0_writePhase, .int h0_lowClocks])), (az, .inl (cyI, 15, .inl gaz)), (av, .inl (cyI, 15, .inl gav))] := hD
          refine W.widen (k := 0) (n := 0) (Nat.le_of_ble_eq_true rfl) (Nat.le_of_ble_eq_true rfl) ?_
          have hw79_0 := hw
          refine lv_if_eq (tgt := 89) hx hb dX5_breaksAbove_82 (by decide) (fun c82 => ?_) (fun c82 => ?_)
          · have hq89_6 : yr 0 0 r79 := yr_eq hw79_0 (yrc (a := 0) (b := 0) (x := 0) (by decide) (by decide)) c82 (by decide) (by decide)
            exact J89  _ _ _   (hP.sub [0, 1, 2] rfl) (hD.sub [0, 1, 2] (by decide) rfl) hS (lv_sub hl [0, 1, 2, 3] rfl)
          · have hq85_7 : yr 1 1 r79 := yr_neL hw79_0 c82 (by decide) (by decide)
            refine lv_iconst (v := 1) hx hb dX5_breaksAbove_85 (by decide) ?_
            refine lv_goto (tgt := 90) hx hb dX5_breaksAbove_86 (by decide) ?_
            exact J90 1 _ _ _ (yrc (a := 0) (b := 1) (x := 1) (by decide) (by decide))  (hP.sub [0, 1, 2] rfl) (hD.sub [0, 1, 2] (by decide) rfl) hS (lv_sub hl [0, 1, 2, 3] rfl)
  · refine yy_int (v := 4) c1 ?_
    refine lv_tableIn (off := 90) (tgt := 91) hx hb dX5_breaksAbove_1 (by decide) (by decide) (by decide) (by decide) ?_
    refine lv_aload_n hx hb dX5_breaksAbove_91 rfl (lv_at hl 2 rfl) ?_
    have hPc := hP.sub (ws' := [(az, .inl (cyI, 15, .inl gaz))]) [1] rfl
    have hDc := hD.sub (ws' := [(az, .inl (cyI, 15, .inl gaz))]) [1] (by decide) rfl
    refine yy_calli [1] [0, 2] (wr := [(h0, .inr (5, [.ref h0_counts, .ref h0_rows, .int h0_dataPhase, .int h0_writePhase, .int h0_lowClocks])), (av, .inl (cyI, 15, .inl gav))]) (va_runS (As := [.ref az]) (rest := []) ⟨hx, hb, hml, hown, hts⟩ (g_isSecondOfTwo l dC dI cyI cyZ cyO s.heap.size az gaz ) (va_cwS 1 hts gX5_breaksAbove_X5_isSecondOfTwo rfl rfl rfl (by decide +kernel) ⟨Nat.le_of_ble_eq_true rfl, Nat.le_of_ble_eq_true rfl⟩) (yPreS hK hPc hDc) rfl rfl hl.1 rfl (lv_room (Nat.le_of_ble_eq_true rfl)) dX5_breaksAbove_92 ⟨Nat.le_of_ble_eq_true rfl, Nat.le_of_ble_eq_true rfl⟩) hP hD hS hA rfl rfl (by decide) (by decide) (fun r92 u92 H locs hw hP hD hS => ?_)
    have hP : va_P (dC, dI) vwCl [(h0, .inr (5, [.ref h0_counts, .ref h0_rows, .int h0_dataPhase, .int h0_writePhase, .int h0_lowClocks])), (av, .inl (cyI, 15, .inl gav)), (az, .inl (cyI, 15, .inl gaz))] H := hP
    have hD : va_D A [(h0, .inr (5, [.ref h0_counts, .ref h0_rows, .int h0_dataPhase, .int h0_writePhase, .int h0_lowClocks])), (av, .inl (cyI, 15, .inl gav)), (az, .inl (cyI, 15, .inl gaz))] := hD
    refine W.widen (k := 0) (n := 0) (Nat.le_of_ble_eq_true rfl) (Nat.le_of_ble_eq_true rfl) ?_
    have hw92_0 := hw
    refine lv_aload_n hx hb dX5_breaksAbove_95 rfl (lv_at hl 3 rfl) ?_
    have hPc := hP.sub (ws' := [(av, .inl (cyI, 15, .inl gav))]) [1] rfl
    have hDc := hD.sub (ws' := [(av, .inl (cyI, 15, .inl gav))]) [1] (by decide) rfl
    refine yy_calli [1] [0, 2] (wr := [(h0, .inr (5, [.ref h0_counts, .ref h0_rows, .int h0_dataPhase, .int h0_writePhase, .int h0_lowClocks])), (az, .inl (cyI, 15, .inl gaz))]) (va_runS (As := [.ref av]) (rest := [.int r92]) ⟨hx, hb, hml, hown, hts⟩ (g_isFirstOfTwo l dC dI cyI cyZ cyO H.size av gav ) (va_cwS 1 hts gX5_breaksAbove_X5_isFirstOfTwo rfl rfl rfl (by decide +kernel) ⟨Nat.le_of_ble_eq_true rfl, Nat.le_of_ble_eq_true rfl⟩) (yPreS hK hPc hDc) rfl rfl hl.1 rfl (lv_room (Nat.le_of_ble_eq_true rfl)) dX5_breaksAbove_96 ⟨Nat.le_of_ble_eq_true rfl, Nat.le_of_ble_eq_true rfl⟩) hP hD hS hA rfl rfl (by decide) (by decide) (fun r96 u96 H locs hw hP hD hS => ?_)
    have hP : va_P (dC, dI) vwCl [(h0, .inr (5, [.ref h0_counts, .ref h0_rows, .int h0_dataPhase, .int h0_writePhase, .int h0_lowClocks])), (az, .inl (cyI, 15, .inl gaz)), (av, .inl (cyI, 15, .inl gav))] H := hP
    have hD : va_D A [(h0, .inr (5, [.ref h0_counts, .ref h0_rows, .int h0_dataPhase, .int h0_writePhase, .int h0_lowClocks])), (az, .inl (cyI, 15, .inl gaz)), (av, .inl (cyI, 15, .inl gav))] := hD
    refine W.widen (k := 0) (n := 0) (Nat.le_of_ble_eq_true rfl) (Nat.le_of_ble_eq_true rfl) ?_
    have hw96_0 := hw
    have J107 : ∀ (j107_s0 : Int32) (H : Heap) (locs : List Loc) (ls : Array Slot), yr 0 1 j107_s0 → va_P (dC, dI) vwCl [(h0, .inr (5, [.ref h0_counts, .ref h0_rows, .int h0_dataPhase, .int h0_writePhase, .int h0_lowClocks])), (az, .inl (cyI, 15, .inl gaz)), (av, .inl (cyI, 15, .inl gav))] H → va_D A [(h0, .inr (5, [.ref h0_counts, .ref h0_rows, .int h0_dataPhase, .int h0_writePhase, .int h0_lowClocks])), (az, .inl (cyI, 15, .inl gaz)), (av, .inl (cyI, 15, .inl gav))] → va_S A s.heap H locs → lv_has ls 4 [(0, .ref h0), (1, .int k), (2, .ref az), (3, .ref av)] → W p l e ({ frames := 2, cells := 0, slots := 0, locals := 43 } : Room) s m [.ref h0, .int k, .ref az, .ref av].toArray below meth c H locs 0 0 (MQ below (yQi (fun (r : Int32) (u : yU) => yr 0 1 r) (dC, dI) [(h0, .inr (5, [.ref h0_counts, .ref h0_rows, .int h0_dataPhase, .int h0_writePhase, .int h0_lowClocks])), (az, .inl (cyI, 15, .inl gaz)), (av, .inl (cyI, 15, .inl gav))] (yT cyI cyZ cyO) sz (fun u => [(h0, .inr (5, [.ref h0_counts, .ref h0_rows, .int h0_dataPhase, .int h0_writePhase, .int h0_lowClocks])), (az, .inl (cyI, 15, .inl gaz)), (av, .inl (cyI, 15, .inl gav))])) [.ref h0, .int k, .ref az, .ref av].toArray s 0 0 A) (F0 m 107 ls [.int j107_s0]) := by
      intro j107_s0 H locs ls hj107_s0  hP hD hS hl
      refine W.widen (k := 0) (n := 0) (Nat.le_of_ble_eq_true rfl) (Nat.le_of_ble_eq_true rfl) ?_
      exact yy_iret (v := j107_s0) (((fun _ => 0), (fun _ _ => 0)) : yU) hx hb hr hlk (yr_nz hj107_s0) hsz hAe hK hP hD hS [0, 1, 2] rfl rfl (by decide) hj107_s0 dX5_breaksAbove_107
    refine lv_icmp_eq (tgt := 106) hx hb dX5_breaksAbove_99 (by decide) (fun c99 => ?_) (fun c99 => ?_)
    · refine lv_iconst (v := 0) hx hb dX5_breaksAbove_106 (by decide) ?_
      exact J107 0 _ _ _ (yrc (a := 0) (b := 1) (x := 0) (by decide) (by decide))  (hP.sub [0, 1, 2] rfl) (hD.sub [0, 1, 2] (by decide) rfl) hS (lv_sub hl [0, 1, 2, 3] rfl)
    · refine lv_iconst (v := 1) hx hb dX5_breaksAbove_102 (by decide) ?_
      refine lv_goto (tgt := 107) hx hb dX5_breaksAbove_103 (by decide) ?_
      exact J107 1 _ _ _ (yrc (a := 0) (b := 1) (x := 1) (by decide) (by decide))  (hP.sub [0, 1, 2] rfl) (hD.sub [0, 1, 2] (by decide) rfl) hS (lv_sub hl [0, 1, 2, 3] rfl)
  · refine yy_int (v := 5) c1 ?_
    refine lv_tableIn (off := 107) (tgt := 108) hx hb dX5_breaksAbove_1 (by decide) (by decide) (by decide) (by decide) ?_
    refine lv_aload_n hx hb dX5_breaksAbove_108 rfl (lv_at hl 2 rfl) ?_
    refine lv_iconst (v := 5) hx hb dX5_breaksAbove_109 (by decide) ?_
    refine va_iald hx hb hK hP 1 0 rfl rfl (yin (by decide)) dX5_breaksAbove_110 ?_
    refine lv_topi (fun v110 ev110 => ?_)
    have J126 : ∀ (j126_s0 : Int32) (H : Heap) (locs : List Loc) (ls : Array Slot), yr 0 1 j126_s0 → va_P (dC, dI) vwCl [(h0, .inr (5, [.ref h0_counts, .ref h0_rows, .int h0_dataPhase, .int h0_writePhase, .int h0_lowClocks])), (az, .inl (cyI, 15, .inl gaz)), (av, .inl (cyI, 15, .inl gav))] H → va_D A [(h0, .inr (5, [.ref h0_counts, .ref h0_rows, .int h0_dataPhase, .int h0_writePhase, .int h0_lowClocks])), (az, .inl (cyI, 15, .inl gaz)), (av, .inl (cyI, 15, .inl gav))] → va_S A s.heap H locs → lv_has ls 4 [(0, .ref h0), (1, .int k), (2, .ref az), (3, .ref av)] → W p l e ({ frames := 2, cells := 0, slots := 0, locals := 43 } : Room) s m [.ref h0, .int k, .ref az, .ref av].toArray below meth c H locs 0 0 (MQ below (yQi (fun (r : Int32) (u : yU) => yr 0 1 r) (dC, dI) [(h0, .inr (5, [.ref h0_counts, .ref h0_rows, .int h0_dataPhase, .int h0_writePhase, .int h0_lowClocks])), (az, .inl (cyI, 15, .inl gaz)), (av, .inl (cyI, 15, .inl gav))] (yT cyI cyZ cyO) sz (fun u => [(h0, .inr (5, [.ref h0_counts, .ref h0_rows, .int h0_dataPhase, .int h0_writePhase, .int h0_lowClocks])), (az, .inl (cyI, 15, .inl gaz)), (av, .inl (cyI, 15, .inl gav))])) [.ref h0, .int k, .ref az, .ref av].toArray s 0 0 A) (F0 m 126 ls [.int j126_s0]) := by
      intro j126_s0 H locs ls hj126_s0  hP hD hS hl
      refine W.widen (k := 0) (n := 0) (Nat.le_of_ble_eq_true rfl) (Nat.le_of_ble_eq_true rfl) ?_
      exact yy_iret (v := j126_s0) (((fun _ => 0), (fun _ _ => 0)) : yU) hx hb hr hlk (yr_nz hj126_s0) hsz hAe hK hP hD hS [0, 1, 2] rfl rfl (by decide) hj126_s0 dX5_breaksAbove_126
    have J125 : ∀  (H : Heap) (locs : List Loc) (ls : Array Slot), va_P (dC, dI) vwCl [(h0, .inr (5, [.ref h0_counts, .ref h0_rows, .int h0_dataPhase, .int h0_writePhase, .int h0_lowClocks])), (az, .inl (cyI, 15, .inl gaz)), (av, .inl (cyI, 15, .inl gav))] H → va_D A [(h0, .inr (5, [.ref h0_counts, .ref h0_rows, .int h0_dataPhase, .int h0_writePhase, .int h0_lowClocks])), (az, .inl (cyI, 15, .inl gaz)), (av, .inl (cyI, 15, .inl gav))] → va_S A s.heap H locs → lv_has ls 4 [(0, .ref h0), (1, .int k), (2, .ref az), (3, .ref av)] → W p l e ({ frames := 2, cells := 0, slots := 0, locals := 43 } : Room) s m [.ref h0, .int k, .ref az, .ref av].toArray below meth c H locs 0 0 (MQ below (yQi (fun (r : Int32) (u : yU) => yr 0 1 r) (dC, dI) [(h0, .inr (5, [.ref h0_counts, .ref h0_rows, .int h0_dataPhase, .int h0_writePhase, .int h0_lowClocks])), (az, .inl (cyI, 15, .inl gaz)), (av, .inl (cyI, 15, .inl gav))] (yT cyI cyZ cyO) sz (fun u => [(h0, .inr (5, [.ref h0_counts, .ref h0_rows, .int h0_dataPhase, .int h0_writePhase, .int h0_lowClocks])), (az, .inl (cyI, 15, .inl gaz)), (av, .inl (cyI, 15, .inl gav))])) [.ref h0, .int k, .ref az, .ref av].toArray s 0 0 A) (F0 m 125 ls []) := by
      intro  H locs ls   hP hD hS hl
      refine lv_iconst (v := 0) hx hb dX5_breaksAbove_125 (by decide) ?_
      exact J126 0 _ _ _ (yrc (a := 0) (b := 1) (x := 0) (by decide) (by decide))  (hP.sub [0, 1, 2] rfl) (hD.sub [0, 1, 2] (by decide) rfl) hS (lv_sub hl [0, 1, 2, 3] rfl)
    refine lv_if_eq (tgt := 125) hx hb dX5_breaksAbove_111 (by decide) (fun c111 => ?_) (fun c111 => ?_)
    · have hq125_8 : yr 0 0 v110 := yr_eq (yr_all _) (yrc (a := 0) (b := 0) (x := 0) (by decide) (by decide)) c111 (by decide) (by decide)
      exact J125  _ _ _   (hP.sub [0, 1, 2] rfl) (hD.sub [0, 1, 2] (by decide) rfl) hS (lv_sub hl [0, 1, 2, 3] rfl)
    · refine lv_aload_n hx hb dX5_breaksAbove_114 rfl (lv_at hl 0 rfl) ?_
      refine va_get (D := (dC, dI)) (ci := 5) (v := .int h0_dataPhase) (C := RX5) (T := TX5) (N := 5) hx hb hts hnX5 hown hK hP 0 rfl rfl 2 (by decide) hf31 (fun _ h9 => h9) rfl dX5_breaksAbove_115 ?_
      refine lv_if_ne (tgt := 125) hx hb dX5_breaksAbove_118 (by decide) (fun c118 => ?_) (fun c118 => ?_)
      · have hq125_9 : yr 1 1 h0_dataPhase := yr_neL h_h0_dataPhase c118 (by decide) (by decide)
        exact J125  _ _ _   (hP.sub [0, 1, 2] rfl) (hD.sub [0, 1, 2] (by decide) rfl) hS (lv_sub hl [0, 1, 2, 3] rfl)
      · have hq121_10 : yr 0 0 h0_dataPhase := yr_eq h_h0_dataPhase (yrc (a := 0) (b := 0) (x := 0) (by decide) (by decide)) c118 (by decide) (by decide)
        refine lv_iconst (v := 1) hx hb dX5_breaksAbove_121 (by decide) ?_
        refine lv_goto (tgt := 126) hx hb dX5_breaksAbove_122 (by decide) ?_
        exact J126 1 _ _ _ (yrc (a := 0) (b := 1) (x := 1) (by decide) (by decide))  (hP.sub [0, 1, 2] rfl) (hD.sub [0, 1, 2] (by decide) rfl) hS (lv_sub hl [0, 1, 2, 3] rfl)
  · refine yy_int (v := 6) c1 ?_
    refine lv_tableIn (off := 126) (tgt := 127) hx hb dX5_breaksAbove_1 (by decide) (by decide) (by decide) (by decide) ?_
    refine lv_aload_n hx hb dX5_breaksAbove_127 rfl (lv_at hl 2 rfl) ?_
    refine lv_iconst (v := 4) hx hb dX5_breaksAbove_128 (by decide) ?_
    refine va_iald hx hb hK hP 1 0 rfl rfl (yin (by decide)) dX5_breaksAbove_129 ?_
    refine lv_topi (fun v129 ev129 => ?_)
    have J145 : ∀ (j145_s0 : Int32) (H : Heap) (locs : List Loc) (ls : Array Slot), yr 0 1 j145_s0 → va_P (dC, dI) vwCl [(h0, .inr (5, [.ref h0_counts, .ref h0_rows, .int h0_dataPhase, .int h0_writePhase, .int h0_lowClocks])), (az, .inl (cyI, 15, .inl gaz)), (av, .inl (cyI, 15, .inl gav))] H → va_D A [(h0, .inr (5, [.ref h0_counts, .ref h0_rows, .int h0_dataPhase, .int h0_writePhase, .int h0_lowClocks])), (az, .inl (cyI, 15, .inl gaz)), (av, .inl (cyI, 15, .inl gav))] → va_S A s.heap H locs → lv_has ls 4 [(0, .ref h0), (1, .int k), (2, .ref az), (3, .ref av)] → W p l e ({ frames := 2, cells := 0, slots := 0, locals := 43 } : Room) s m [.ref h0, .int k, .ref az, .ref av].toArray below meth c H locs 0 0 (MQ below (yQi (fun (r : Int32) (u : yU) => yr 0 1 r) (dC, dI) [(h0, .inr (5, [.ref h0_counts, .ref h0_rows, .int h0_dataPhase, .int h0_writePhase, .int h0_lowClocks])), (az, .inl (cyI, 15, .inl gaz)), (av, .inl (cyI, 15, .inl gav))] (yT cyI cyZ cyO) sz (fun u => [(h0, .inr (5, [.ref h0_counts, .ref h0_rows, .int h0_dataPhase, .int h0_writePhase, .int h0_lowClocks])), (az, .inl (cyI, 15, .inl gaz)), (av, .inl (cyI, 15, .inl gav))])) [.ref h0, .int k, .ref az, .ref av].toArray s 0 0 A) (F0 m 145 ls [.int j145_s0]) := by
      intro j145_s0 H locs ls hj145_s0  hP hD hS hl
      refine W.widen (k := 0) (n := 0) (Nat.le_of_ble_eq_true rfl) (Nat.le_of_ble_eq_true rfl) ?_
      exact yy_iret (v := j145_s0) (((fun _ => 0), (fun _ _ => 0)) : yU) hx hb hr hlk (yr_nz hj145_s0) hsz hAe hK hP hD hS [0, 1, 2] rfl rfl (by decide) hj145_s0 dX5_breaksAbove_145
    have J144 : ∀  (H : Heap) (locs : List Loc) (ls : Array Slot), va_P (dC, dI) vwCl [(h0, .inr (5, [.ref h0_counts, .ref h0_rows, .int h0_dataPhase, .int h0_writePhase, .int h0_lowClocks])), (az, .inl (cyI, 15, .inl gaz)), (av, .inl (cyI, 15, .inl gav))] H → va_D A [(h0, .inr (5, [.ref h0_counts, .ref h0_rows, .int h0_dataPhase, .int h0_writePhase, .int h0_lowClocks])), (az, .inl (cyI, 15, .inl gaz)), (av, .inl (cyI, 15, .inl gav))] → va_S A s.heap H locs → lv_has ls 4 [(0, .ref h0), (1, .int k), (2, .ref az), (3, .ref av)] → W p l e ({ frames := 2, cells := 0, slots := 0, locals := 43 } : Room) s m [.ref h0, .int k, .ref az, .ref av].toArray below meth c H locs 0 0 (MQ below (yQi (fun (r : Int32) (u : yU) => yr 0 1 r) (dC, dI) [(h0, .inr (5, [.ref h0_counts, .ref h0_rows, .int h0_dataPhase, .int h0_writePhase, .int h0_lowClocks])), (az, .inl (cyI, 15, .inl gaz)), (av, .inl (cyI, 15, .inl gav))] (yT cyI cyZ cyO) sz (fun u => [(h0, .inr (5, [.ref h0_counts, .ref h0_rows, .int h0_dataPhase, .int h0_writePhase, .int h0_lowClocks])), (az, .inl (cyI, 15, .inl gaz)), (av, .inl (cyI, 15, .inl gav))])) [.ref h0, .int k, .ref az, .ref av].toArray s 0 0 A) (F0 m 144 ls []) := by
      intro  H locs ls   hP hD hS hl
      refine lv_iconst (v := 0) hx hb dX5_breaksAbove_144 (by decide) ?_
      exact J145 0 _ _ _ (yrc (a := 0) (b := 1) (x := 0) (by decide) (by decide))  (hP.sub [0, 1, 2] rfl) (hD.sub [0, 1, 2] (by decide) rfl) hS (lv_sub hl [0, 1, 2, 3] rfl)
    refine lv_if_ne (tgt := 144) hx hb dX5_breaksAbove_130 (by decide) (fun c130 => ?_) (fun c130 => ?_)
    · exact J144  _ _ _   (hP.sub [0, 1, 2] rfl) (hD.sub [0, 1, 2] (by decide) rfl) hS (lv_sub hl [0, 1, 2, 3] rfl)
    · have hq133_11 : yr 0 0 v129 := yr_eq (yr_all _) (yrc (a := 0) (b := 0) (x := 0) (by decide) (by decide)) c130 (by decide) (by decide)
      refine lv_aload_n hx hb dX5_breaksAbove_133 rfl (lv_at hl 0 rfl) ?_
      refine va_get (D := (dC, dI)) (ci := 5) (v := .int h0_dataPhase) (C := RX5) (T := TX5) (N := 5) hx hb hts hnX5 hown hK hP 0 rfl rfl 2 (by decide) hf31 (fun _ h9 => h9) rfl dX5_breaksAbove_134 ?_
      refine lv_if_ne (tgt := 144) hx hb dX5_breaksAbove_137 (by decide) (fun c137 => ?_) (fun c137 => ?_)
      · have hq144_12 : yr 1 1 h0_dataPhase := yr_neL h_h0_dataPhase c137 (by decide) (by decide)
        exact J144  _ _ _   (hP.sub [0, 1, 2] rfl) (hD.sub [0, 1, 2] (by decide) rfl) hS (lv_sub hl [0, 1, 2, 3] rfl)
      · have hq140_13 : yr 0 0 h0_dataPhase := yr_eq h_h0_dataPhase (yrc (a := 0) (b := 0) (x := 0) (by decide) (by decide)) c137 (by decide) (by decide)
        refine lv_iconst (v := 1) hx hb dX5_breaksAbove_140 (by decide) ?_
        refine lv_goto (tgt := 145) hx hb dX5_breaksAbove_141 (by decide) ?_
        exact J145 1 _ _ _ (yrc (a := 0) (b := 1) (x := 1) (by decide) (by decide))  (hP.sub [0, 1, 2] rfl) (hD.sub [0, 1, 2] (by decide) rfl) hS (lv_sub hl [0, 1, 2, 3] rfl)
  · refine yy_int (v := 7) c1 ?_
    refine lv_tableIn (off := 145) (tgt := 146) hx hb dX5_breaksAbove_1 (by decide) (by decide) (by decide) (by decide) ?_
    refine lv_aload_n hx hb dX5_breaksAbove_146 rfl (lv_at hl 0 rfl) ?_
    refine va_get (D := (dC, dI)) (ci := 5) (v := .int h0_lowClocks) (C := RX5) (T := TX5) (N := 5) hx hb hts hnX5 hown hK hP 0 rfl rfl 4 (by decide) hf38 (fun _ h9 => h9) rfl dX5_breaksAbove_147 ?_
    refine lv_bipush (v := 100) hx hb dX5_breaksAbove_150 (by decide) ?_
    have J160 : ∀ (j160_s0 : Int32) (H : Heap) (locs : List Loc) (ls : Array Slot), yr 0 1 j160_s0 → va_P (dC, dI) vwCl [(h0, .inr (5, [.ref h0_counts, .ref h0_rows, .int h0_dataPhase, .int h0_writePhase, .int h0_lowClocks])), (az, .inl (cyI, 15, .inl gaz)), (av, .inl (cyI, 15, .inl gav))] H → va_D A [(h0, .inr (5, [.ref h0_counts, .ref h0_rows, .int h0_dataPhase, .int h0_writePhase, .int h0_lowClocks])), (az, .inl (cyI, 15, .inl gaz)), (av, .inl (cyI, 15, .inl gav))] → va_S A s.heap H locs → lv_has ls 4 [(0, .ref h0), (1, .int k), (2, .ref az), (3, .ref av)] → W p l e ({ frames := 2, cells := 0, slots := 0, locals := 43 } : Room) s m [.ref h0, .int k, .ref az, .ref av].toArray below meth c H locs 0 0 (MQ below (yQi (fun (r : Int32) (u : yU) => yr 0 1 r) (dC, dI) [(h0, .inr (5, [.ref h0_counts, .ref h0_rows, .int h0_dataPhase, .int h0_writePhase, .int h0_lowClocks])), (az, .inl (cyI, 15, .inl gaz)), (av, .inl (cyI, 15, .inl gav))] (yT cyI cyZ cyO) sz (fun u => [(h0, .inr (5, [.ref h0_counts, .ref h0_rows, .int h0_dataPhase, .int h0_writePhase, .int h0_lowClocks])), (az, .inl (cyI, 15, .inl gaz)), (av, .inl (cyI, 15, .inl gav))])) [.ref h0, .int k, .ref az, .ref av].toArray s 0 0 A) (F0 m 160 ls [.int j160_s0]) := by
      intro j160_s0 H locs ls hj160_s0  hP hD hS hl
      refine W.widen (k := 0) (n := 0) (Nat.le_of_ble_eq_true rfl) (Nat.le_of_ble_eq_true rfl) ?_
      exact yy_iret (v := j160_s0) (((fun _ => 0), (fun _ _ => 0)) : yU) hx hb hr hlk (yr_nz hj160_s0) hsz hAe hK hP hD hS [0, 1, 2] rfl rfl (by decide) hj160_s0 dX5_breaksAbove_160
    refine lv_icmp_ne (tgt := 159) hx hb dX5_breaksAbove_152 (by decide) (fun c152 => ?_) (fun c152 => ?_)
    · refine lv_iconst (v := 0) hx hb dX5_breaksAbove_159 (by decide) ?_
      exact J160 0 _ _ _ (yrc (a := 0) (b := 1) (x := 0) (by decide) (by decide))  (hP.sub [0, 1, 2] rfl) (hD.sub [0, 1, 2] (by decide) rfl) hS (lv_sub hl [0, 1, 2, 3] rfl)
    · have hq155_14 : yr 100 100 h0_lowClocks := yr_eq (yr_all _) (yrc (a := 100) (b := 100) (x := 100) (by decide) (by decide)) c152 (by decide) (by decide)
      refine lv_iconst (v := 1) hx hb dX5_breaksAbove_155 (by decide) ?_
      refine lv_goto (tgt := 160) hx hb dX5_breaksAbove_156 (by decide) ?_
      exact J160 1 _ _ _ (yrc (a := 0) (b := 1) (x := 1) (by decide) (by decide))  (hP.sub [0, 1, 2] rfl) (hD.sub [0, 1, 2] (by decide) rfl) hS (lv_sub hl [0, 1, 2, 3] rfl)
  · refine lv_tableOut (tgt := 161) hx hb dX5_breaksAbove_1 c1 (by decide) ?_
    refine lv_iconst (v := 0) hx hb dX5_breaksAbove_161 (by decide) ?_
    refine W.widen (k := 0) (n := 0) (Nat.le_of_ble_eq_true rfl) (Nat.le_of_ble_eq_true rfl) ?_
    exact yy_iret (v := 0) (((fun _ => 0), (fun _ _ => 0)) : yU) hx hb hr hlk rfl hsz hAe hK hP hD hS [0, 1, 2] rfl rfl (by decide) (yrc (a := 0) (b := 1) (x := 0) (by decide) (by decide)) dX5_breaksAbove_162
