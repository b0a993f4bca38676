set_option maxHeartbeats 4000000 in
set_option maxRecDepth 100000 in
theorem g_meets (l : Launch) (dC : Nat → ClassId) (dI : Nat → Nat → Nat) (cyI cyZ cyO : ClassId) (sz : Nat) (h0 : Nat) (h0_slaves : Int32) (h0_registers : Int32) (h0_depth : Int32) (h0_limit : Int32) (h0_changes : Int32) (h0_first : Nat) (gh0_first : Nat → Int32) (h0_last : Nat) (gh0_last : Nat → Int32) (h0_wait : Nat) (h0_broken : Nat) (h0_words : Nat) (h0_kinds : Nat) (h0_values : Nat) (h0_owners : Nat) (a : Int32) (b : Int32) (h_h0_slaves : yr 0 8 h0_slaves) (h_h0_registers : yr 0 48 h0_registers) (h_h0_depth : yr 0 4 h0_depth) : Met l yX6_meets wsX6_meets ({ frames := 0, cells := 0, slots := 0, locals := 0 }) (yPre [.ref h0, .int a, .int b] (dC, dI) [(h0, .inr (6, [.ref h0_first, .ref h0_last, .ref h0_wait, .ref h0_broken, .ref h0_words, .ref h0_kinds, .ref h0_values, .ref h0_owners, .int h0_slaves, .int h0_registers, .int h0_depth, .int h0_limit, .int h0_changes])), (h0_first, .inl (cyI, 8, .inl gh0_first)), (h0_last, .inl (cyI, 8, .inl gh0_last))] (yT cyI cyZ cyO) sz) (yQi (fun (r : Int32) (u : yU) => yr 0 1 r) (dC, dI) [(h0, .inr (6, [.ref h0_first, .ref h0_last, .ref h0_wait, .ref h0_broken, .ref h0_words, .ref h0_kinds, .ref h0_values, .ref h0_owners, .int h0_slaves, .int h0_registers, .int h0_depth, .int h0_limit, .int h0_changes])), (h0_first, .inl (cyI, 8, .inl gh0_first)), (h0_last, .inl (cyI, 8, .inl gh0_last))] (yT cyI cyZ cyO) sz (fun u => [(h0, .inr (6, [.ref h0_first, .ref h0_last, .ref h0_wait, .ref h0_broken, .ref h0_words, .ref h0_kinds, .ref h0_values, .ref h0_owners, .int h0_slaves, .int h0_registers, .int h0_depth, .int h0_limit, .int h0_changes])), (h0_first, .inl (cyI, 8, .inl gh0_first)), (h0_last, .inl (cyI, 8, .inl gh0_last))])) 0 0 (va_A [(h0, .inr (6, [.ref h0_first, .ref h0_last, .ref h0_wait, .ref h0_broken, .ref h0_words, .ref h0_kinds, .ref h0_values, .ref h0_owners, .int h0_slaves, .int h0_registers, .int h0_depth, .int h0_limit, .int h0_changes])), (h0_first, .inl (cyI, 8, .inl gh0_first)), (h0_last, .inl (cyI, 8, .inl gh0_last))] sz) := by
  refine yMet (cc := cX6_meets) (maxL := 4) (ret := (some .boolean)) (by decide) rfl (Nat.le_of_ble_eq_true rfl) ?_
  intro p e s m below meth c A hx hb hr hlk hml hts hown hnm hsz hAe hP hK hD hA hS ls hl
  have hl : lv_has ls 4 [(0, .ref h0), (1, .int a), (2, .int b)] := hl
  have hf11 := hts (.fieldLink RX6 11 "BusBridge$Plan" "first" "[I") (by decide +kernel)
  have hf15 := hts (.fieldLink RX6 15 "BusBridge$Plan" "last" "[I") (by decide +kernel)
  have hf42 := hts (.fieldLink RX6 42 "BusBridge$Plan" "slaves" "I") (by decide +kernel)
  have hnX6 : ∀ w ∈ wsX60, w ∈ wsX6_meets := by decide +kernel
  refine lv_iconst (v := 0) hx hb dX6_meets_0 (by decide) ?_
  refine lv_istore_n (lv' := [(3, .int 0), (0, .ref h0), (1, .int a), (2, .int b)]) hx hb dX6_meets_1 rfl hl (by decide) rfl (fun ls hl => ?_)
  have J2 : ∀ (n2 : Nat) (j2_l3 : Int32) (H : Heap) (locs : List Loc) (ls : Array Slot), (8 - (j2_l3 : Int32).toInt).toNat < n2 → yr 0 8 j2_l3 → va_P (dC, dI) vwCl [(h0, .inr (6, [.ref h0_first, .ref h0_last, .ref h0_wait, .ref h0_broken, .ref h0_words, .ref h0_kinds, .ref h0_values, .ref h0_owners, .int h0_slaves, .int h0_registers, .int h0_depth, .int h0_limit, .int h0_changes])), (h0_first, .inl (cyI, 8, .inl gh0_first)), (h0_last, .inl (cyI, 8, .inl gh0_last))] H → va_D A [(h0, .inr (6, [.ref h0_first, .ref h0_last, .ref h0_wait, .ref h0_broken, .ref h0_words, .ref h0_kinds, .ref h0_values, .ref h0_owners, .int h0_slaves, .int h0_registers, .int h0_depth, .int h0_limit, .int h0_changes])), (h0_first, .inl (cyI, 8, .inl gh0_first)), (h0_last, .inl (cyI, 8, .inl gh0_last))] → va_S A s.heap H locs → lv_has ls 4 [(0, .ref h0), (1, .int a), (2, .int b), (3, .int j2_l3)] → W p l e ({ frames := 0, cells := 0, slots := 0, locals := 0 } : Room) s m [.ref h0, .int a, .int b].toArray below meth c H locs 0 0 (MQ below (yQi (fun (r : Int32) (u : yU) => yr 0 1 r) (dC, dI) [(h0, .inr (6, [.ref h0_first, .ref h0_last, .ref h0_wait, .ref h0_broken, .ref h0_words, .ref h0_kinds, .ref h0_values, .ref h0_owners, .int h0_slaves, .int h0_registers, .int h0_depth, .int h0_limit, .int h0_changes])), (h0_first, .inl (cyI, 8, .inl gh0_first)), (h0_last, .inl (cyI, 8, .inl gh0_last))] (yT cyI cyZ cyO) sz (fun u => [(h0, .inr (6, [.ref h0_first, .ref h0_last, .ref h0_wait, .ref h0_broken, .ref h0_words, .ref h0_kinds, .ref h0_values, .ref h0_owners, .int h0_slaves, .int h0_registers, .int h0_depth, .int h0_limit, .int h0_changes])), (h0_first, .inl (cyI, 8, .inl gh0_first)), (h0_last, .inl (cyI, 8, .inl gh0_last))])) [.ref h0, .int a, .int b].toArray s 0 0 A) (F0 m 2 ls []) := by
    intro n2
    induction n2 with
    | zero => intro j2_l3 H locs ls hm; exact absurd hm (Nat.not_lt_zero _)
    | succ n2 ih2 =>
      intro j2_l3 H locs ls hm2 hj2_l3  hP hD hS hl
      refine lv_iload_n hx hb dX6_meets_2 rfl (lv_at hl 3 rfl) ?_
      refine lv_aload_n hx hb dX6_meets_3 rfl (lv_at hl 0 rfl) ?_
      refine va_get (D := (dC, dI)) (ci := 6) (v := .int h0_slaves) (C := RX6) (T := TX6) (N := 13) hx hb hts hnX6 hown hK hP 0 rfl rfl 8 (by decide) hf42 (fun _ h9 => h9) rfl dX6_meets_4 ?_
      refine lv_icmp_ge (tgt := 38) hx hb dX6_meets_7 (by decide) (fun c7 => ?_) (fun c7 => ?_)
      · refine lv_iconst (v := 0) hx hb dX6_meets_38 (by decide) ?_
        refine W.widen (k := 0) (n := 0) (Nat.le_of_ble_eq_true rfl) (Nat.le_of_ble_eq_true rfl) ?_
        exact yy_iret (v := 0) (((fun _ => 0), (fun _ _ => 0)) : yU) hx hb hr hlk rfl hsz hAe hK hP hD hS [0, 1, 2] rfl rfl (by decide) (yrc (a := 0) (b := 1) (x := 0) (by decide) (by decide)) dX6_meets_39
      · have hq10_1 : yr 0 7 j2_l3 := yr_ltL hj2_l3 h_h0_slaves (Int32.not_le.mp c7) (by decide)
        have hq10_2 : yr 1 8 h0_slaves := yr_ltR hj2_l3 h_h0_slaves (Int32.not_le.mp c7) (by decide)
        refine lv_iload_n hx hb dX6_meets_10 rfl (lv_at hl 1 rfl) ?_
        refine lv_aload_n hx hb dX6_meets_11 rfl (lv_at hl 0 rfl) ?_
        refine va_get (D := (dC, dI)) (ci := 6) (v := .ref h0_last) (C := RX6) (T := TX6) (N := 13) hx hb hts hnX6 hown hK hP 0 rfl rfl 1 (by decide) hf15 (fun _ h9 => h9) rfl dX6_meets_12 ?_
        refine lv_iload_n hx hb dX6_meets_15 rfl (lv_at hl 3 rfl) ?_
        refine va_iald hx hb hK hP 2 0 rfl rfl (yr_in hq10_1 (by decide) (by decide)) dX6_meets_16 ?_
        refine lv_topi (fun v16 ev16 => ?_)
        have J32 : ∀  (H : Heap) (locs : List Loc) (ls : Array Slot), va_P (dC, dI) vwCl [(h0, .inr (6, [.ref h0_first, .ref h0_last, .ref h0_wait, .ref h0_broken, .ref h0_words, .ref h0_kinds, .ref h0_values, .ref h0_owners, .int h0_slaves, .int h0_registers, .int h0_depth, .int h0_limit, .int h0_changes])), (h0_first, .inl (cyI, 8, .inl gh0_first)), (h0_last, .inl (cyI, 8, .inl gh0_last))] H → va_D A [(h0, .inr (6, [.ref h0_first, .ref h0_last, .ref h0_wait, .ref h0_broken, .ref h0_words, .ref h0_kinds, .ref h0_values, .ref h0_owners, .int h0_slaves, .int h0_registers, .int h0_depth, .int h0_limit, .int h0_changes])), (h0_first, .inl (cyI, 8, .inl gh0_first)), (h0_last, .inl (cyI, 8, .inl gh0_last))] → va_S A s.heap H locs → lv_has ls 4 [(0, .ref h0), (1, .int a), (2, .int b), (3, .int j2_l3)] → W p l e ({ frames := 0, cells := 0, slots := 0, locals := 0 } : Room) s m [.ref h0, .int a, .int b].toArray below meth c H locs 0 0 (MQ below (yQi (fun (r : Int32) (u : yU) => yr 0 1 r) (dC, dI) [(h0, .inr (6, [.ref h0_first, .ref h0_last, .ref h0_wait, .ref h0_broken, .ref h0_words, .ref h0_kinds, .ref h0_values, .ref h0_owners, .int h0_slaves, .int h0_registers, .int h0_depth, .int h0_limit, .int h0_changes])), (h0_first, .inl (cyI, 8, .inl gh0_first)), (h0_last, .inl (cyI, 8, .inl gh0_last))] (yT cyI cyZ cyO) sz (fun u => [(h0, .inr (6, [.ref h0_first, .ref h0_last, .ref h0_wait, .ref h0_broken, .ref h0_words, .ref h0_kinds, .ref h0_values, .ref h0_owners, .int h0_slaves, .int h0_registers, .int h0_depth, .int h0_limit, .int h0_changes])), (h0_first, .inl (cyI, 8, .inl gh0_first)), (h0_last, .inl (cyI, 8, .inl gh0_last))])) [.ref h0, .int a, .int b].toArray s 0 0 A) (F0 m 32 ls []) := by
          intro  H locs ls   hP hD hS hl
          have hq32_3 : yr 1 8 (j2_l3 + 1) := yr_add hq10_1 (yrc (a := 1) (b := 1) (by decide) (by decide)) (by decide) (by decide) (by decide) (by decide)
          refine lv_iinc (v := (j2_l3 + 1)) (lv' := [(3, .int (j2_l3 + 1)), (0, .ref h0), (1, .int a), (2, .int b)]) hx hb dX6_meets_32 hl (k := 3) rfl rfl (by decide) rfl (fun ls hl => ?_)
          refine lv_goto (tgt := 2) hx hb dX6_meets_35 (by decide) ?_
          exact ih2 (j2_l3 + 1) _ _ _ (yms hm2 (yr_w hq10_1 (by decide) (by decide)) rfl) (yr_w hq32_3 (by decide) (by decide))  (hP.sub [0, 1, 2] rfl) (hD.sub [0, 1, 2] (by decide) rfl) hS (lv_sub hl [1, 2, 3, 0] rfl)
        refine lv_icmp_gt (tgt := 32) hx hb dX6_meets_17 (by decide) (fun c17 => ?_) (fun c17 => ?_)
        · have hq32_4 : yr (-2147483648) 2147483646 v16 := yr_ltL (yr_all _) (yr_all _) c17 (by decide)
          have hq32_5 : yr (-2147483647) 2147483647 a := yr_ltR (yr_all _) (yr_all _) c17 (by decide)
          exact J32  _ _ _   (hP.sub [0, 1, 2] rfl) (hD.sub [0, 1, 2] (by decide) rfl) hS (lv_sub hl [0, 1, 2, 3] rfl)
        · refine lv_aload_n hx hb dX6_meets_20 rfl (lv_at hl 0 rfl) ?_
          refine va_get (D := (dC, dI)) (ci := 6) (v := .ref h0_first) (C := RX6) (T := TX6) (N := 13) hx hb hts hnX6 hown hK hP 0 rfl rfl 0 (by decide) hf11 (fun _ h9 => h9) rfl dX6_meets_21 ?_
          refine lv_iload_n hx hb dX6_meets_24 rfl (lv_at hl 3 rfl) ?_
          refine va_iald hx hb hK hP 1 0 rfl rfl (yr_in hq10_1 (by decide) (by decide)) dX6_meets_25 ?_
          refine lv_topi (fun v25 ev25 => ?_)
          refine lv_iload_n hx hb dX6_meets_26 rfl (lv_at hl 2 rfl) ?_
          refine lv_icmp_gt (tgt := 32) hx hb dX6_meets_27 (by decide) (fun c27 => ?_) (fun c27 => ?_)
          · have hq32_6 : yr (-2147483648) 2147483646 b := yr_ltL (yr_all _) (yr_all _) c27 (by decide)
            have hq32_7 : yr (-2147483647) 2147483647 v25 := yr_ltR (yr_all _) (yr_all _) c27 (by decide)
            exact J32  _ _ _   (hP.sub [0, 1, 2] rfl) (hD.sub [0, 1, 2] (by decide) rfl) hS (lv_sub hl [0, 1, 2, 3] rfl)
          · refine lv_iconst (v := 1) hx hb dX6_meets_30 (by decide) ?_
            refine W.widen (k := 0) (n := 0) (Nat.le_of_ble_eq_true rfl) (Nat.le_of_ble_eq_true rfl) ?_
            exact yy_iret (v := 1) (((fun _ => 0), (fun _ _ => 0)) : yU) hx hb hr hlk rfl hsz hAe hK hP hD hS [0, 1, 2] rfl rfl (by decide) (yrc (a := 0) (b := 1) (x := 1) (by decide) (by decide)) dX6_meets_31
  exact J2 _ 0 _ _ _ (Nat.lt_succ_self _) (yrc (a := 0) (b := 8) (x := 0) (by decide) (by decide))  (hP.sub [0, 1, 2] rfl) (hD.sub [0, 1, 2] (by decide) rfl) hS (lv_sub hl [1, 2, 3, 0] rfl)
set_option maxHeartbeats 4000000 in
set_option maxRecDepth 100000 in
theorem g_isInRange (l : Launch) (dC : Nat → ClassId) (dI : Nat → Nat → Nat) (cyI cyZ cyO : ClassId) (sz : Nat) (h0 : Nat) (h0_slaves : Int32) (h0_registers : Int32) (h0_depth : Int32) (h0_limit : Int32) (h0_changes : Int32) (h0_first : Nat) (gh0_first : Nat → Int32) (h0_last : Nat) (gh0_last : Nat → Int32) (h0_wait : Nat) (h0_broken : Nat) (h0_words : Nat) (h0_kinds : Nat) (h0_values : Nat) (h0_owners : Nat) (i : Int32) (a : Int32) (h_h0_slaves : yr 0 8 h0_slaves) (h_h0_registers : yr 0 48 h0_registers) (h_h0_depth : yr 0 4 h0_depth) : Met l yX6_isInRange wsX6_isInRange ({ frames := 0, cells := 0, slots := 0, locals := 0 }) (yPre [.ref h0, .int i, .int a] (dC, dI) [(h0, .inr (6, [.ref h0_first, .ref h0_last, .ref h0_wait, .ref h0_broken, .ref h0_words, .ref h0_kinds, .ref h0_values, .ref h0_owners, .int h0_slaves, .int h0_registers, .int h0_depth, .int h0_limit, .int h0_changes])), (h0_first, .inl (cyI, 8, .inl gh0_first)), (h0_last, .inl (cyI, 8, .inl gh0_last))] (yT cyI cyZ cyO) sz) (yQi (fun (r : Int32) (u : yU) => yr 0 1 r) (dC, dI) [(h0, .inr (6, [.ref h0_first, .ref h0_last, .ref h0_wait, .ref h0_broken, .ref h0_words, .ref h0_kinds, .ref h0_values, .ref h0_owners, .int h0_slaves, .int h0_registers, .int h0_depth, .int h0_limit, .int h0_changes])), (h0_first, .inl (cyI, 8, .inl gh0_first)), (h0_last, .inl (cyI, 8, .inl gh0_last))] (yT cyI cyZ cyO) sz (fun u => [(h0, .inr (6, [.ref h0_first, .ref h0_last, .ref h0_wait, .ref h0_broken, .ref h0_words, .ref h0_kinds, .ref h0_values, .ref h0_owners, .int h0_slaves, .int h0_registers, .int h0_depth, .int h0_limit, .int h0_changes])), (h0_first, .inl (cyI, 8, .inl gh0_first)), (h0_last, .inl (cyI, 8, .inl gh0_last))])) 0 0 (va_A [(h0, .inr (6, [.ref h0_first, .ref h0_last, .ref h0_wait, .ref h0_broken, .ref h0_words, .ref h0_kinds, .ref h0_values, .ref h0_owners, .int h0_slaves, .int h0_registers, .int h0_depth, .int h0_limit, .int h0_changes])), (h0_first, .inl (cyI, 8, .inl gh0_first)), (h0_last, .inl (cyI, 8, .inl gh0_last))] sz) := by
  refine yMet (cc := cX6_isInRange) (maxL := 3) (ret := (some .boolean)) (by decide) rfl (Nat.le_of_ble_eq_true rfl) ?_
  intro p e s m below meth c A hx hb hr hlk hml hts hown hnm hsz hAe hP hK hD hA hS ls hl
  have hl : lv_has ls 3 [(0, .ref h0), (1, .int i), (2, .int a)] := hl
  have hf11 := hts (.fieldLink RX6 11 "BusBridge$Plan" "first" "[I") (by decide +kernel)
  have hf15 := hts (.fieldLink RX6 15 "BusBridge$Plan" "last" "[I") (by decide +kernel)
  have hf42 := hts (.fieldLink RX6 42 "BusBridge$Plan" "slaves" "I") (by decide +kernel)
  have hnX6 : ∀ w ∈ wsX60, w ∈ wsX6_isInRange := by decide +kernel
  refine lv_iload_n hx hb dX6_isInRange_0 rfl (lv_at hl 1 rfl) ?_
  have J39 : ∀ (j39_s0 : Int32) (H : Heap) (locs : List Loc) (ls : Array Slot), yr 0 1 j39_s0 → va_P (dC, dI) vwCl [(h0, .inr (6, [.ref h0_first, .ref h0_last, .ref h0_wait, .ref h0_broken, .ref h0_words, .ref h0_kinds, .ref h0_values, .ref h0_owners, .int h0_slaves, .int h0_registers, .int h0_depth, .int h0_limit, .int h0_changes])), (h0_first, .inl (cyI, 8, .inl gh0_first)), (h0_last, .inl (cyI, 8, .inl gh0_last))] H → va_D A [(h0, .inr (6, [.ref h0_first, .ref h0_last, .ref h0_wait, .ref h0_broken, .ref h0_words, .ref h0_kinds, .ref h0_values, .ref h0_owners, .int h0_slaves, .int h0_registers, .int h0_depth, .int h0_limit, .int h0_changes])), (h0_first, .inl (cyI, 8, .inl gh0_first)), (h0_last, .inl (cyI, 8, .inl gh0_last))] → va_S A s.heap H locs → lv_has ls 3 [(0, .ref h0), (1, .int i), (2, .int a)] → W p l e ({ frames := 0, cells := 0, slots := 0, locals := 0 } : Room) s m [.ref h0, .int i, .int a].toArray below meth c H locs 0 0 (MQ below (yQi (fun (r : Int32) (u : yU) => yr 0 1 r) (dC, dI) [(h0, .inr (6, [.ref h0_first, .ref h0_last, .ref h0_wait, .ref h0_broken, .ref h0_words, .ref h0_kinds, .ref h0_values, .ref h0_owners, .int h0_slaves, .int h0_registers, .int h0_depth, .int h0_limit, .int h0_changes])), (h0_first, .inl (cyI, 8, .inl gh0_first)), (h0_last, .inl (cyI, 8, .inl gh0_last))] (yT cyI cyZ cyO) sz (fun u => [(h0, .inr (6, [.ref h0_first, .ref h0_last, .ref h0_wait, .ref h0_broken, .ref h0_words, .ref h0_kinds, .ref h0_values, .ref h0_owners, .int h0_slaves, .int h0_registers, .int h0_depth, .int h0_limit, .int h0_changes])), (h0_first, .inl (cyI, 8, .inl gh0_first)), (h0_last, .inl (cyI, 8, .inl gh0_last))])) [.ref h0, .int i, .int a].toArray s 0 0 A) (F0 m 39 ls [.int j39_s0]) := by
    intro j39_s0 H locs ls hj39_s0  hP hD hS hl
    refine W.widen (k := 0) (n := 0) (Nat.le_of_ble_eq_true rfl) (Nat.le_of_ble_eq_true rfl) ?_
    exact yy_iret (v := j39_s0) (((fun _ => 0), (fun _ _ => 0)) : yU) hx hb hr hlk (yr_nz hj39_s0) hsz hAe hK hP hD hS [0, 1, 2] rfl rfl (by decide) hj39_s0 dX6_isInRange_39
  have J38 : ∀  (H : Heap) (locs : List Loc) (ls : Array Slot), va_P (dC, dI) vwCl [(h0, .inr (6, [.ref h0_first, .ref h0_last, .ref h0_wait, .ref h0_broken, .ref h0_words, .ref h0_kinds, .ref h0_values, .ref h0_owners, .int h0_slaves, .int h0_registers, .int h0_depth, .int h0_limit, .int h0_changes])), (h0_first, .inl (cyI, 8, .inl gh0_first)), (h0_last, .inl (cyI, 8, .inl gh0_last))] H → va_D A [(h0, .inr (6, [.ref h0_first, .ref h0_last, .ref h0_wait, .ref h0_broken, .ref h0_words, .ref h0_kinds, .ref h0_values, .ref h0_owners, .int h0_slaves, .int h0_registers, .int h0_depth, .int h0_limit, .int h0_changes])), (h0_first, .inl (cyI, 8, .inl gh0_first)), (h0_last, .inl (cyI, 8, .inl gh0_last))] → va_S A s.heap H locs → lv_has ls 3 [(0, .ref h0), (1, .int i), (2, .int a)] → W p l e ({ frames := 0, cells := 0, slots := 0, locals := 0 } : Room) s m [.ref h0, .int i, .int a].toArray below meth c H locs 0 0 (MQ below (yQi (fun (r : Int32) (u : yU) => yr 0 1 r) (dC, dI) [(h0, .inr (6, [.ref h0_first, .ref h0_last, .ref h0_wait, .ref h0_broken, .ref h0_words, .ref h0_kinds, .ref h0_values, .ref h0_owners, .int h0_slaves, .int h0_registers, .int h0_depth, .int h0_limit, .int h0_changes])), (h0_first, .inl (cyI, 8, .inl gh0_first)), (h0_last, .inl (cyI, 8, .inl gh0_last))] (yT cyI cyZ cyO) sz (fun u => [(h0, .inr (6, [.ref h0_first, .ref h0_last, .ref h0_wait, .ref h0_broken, .ref h0_words, .ref h0_kinds, .ref h0_values, .ref h0_owners, .int h0_slaves, .int h0_registers, .int h0_depth, .int h0_limit, .int h0_changes])), (h0_first, .inl (cyI, 8, .inl gh0_first)), (h0_last, .inl (cyI, 8, .inl gh0_last))])) [.ref h0, .int i, .int a].toArray s 0 0 A) (F0 m 38 ls []) := by
    intro  H locs ls   hP hD hS hl
    refine lv_iconst (v := 0) hx hb dX6_isInRange_38 (by decide) ?_
    exact J39 0 _ _ _ (yrc (a := 0) (b := 1) (x := 0) (by decide) (by decide))  (hP.sub [0, 1, 2] rfl) (hD.sub [0, 1, 2] (by decide) rfl) hS (lv_sub hl [0, 1, 2] rfl)
  refine lv_if_lt (tgt := 38) hx hb dX6_isInRange_1 (by decide) (fun c1 => ?_) (fun c1 => ?_)
  · have hq38_1 : yr (-2147483648) (-1) i := yr_ltL (yr_all _) (yrc (a := 0) (b := 0) (x := 0) (by decide) (by decide)) c1 (by decide)
    exact J38  _ _ _   (hP.sub [0, 1, 2] rfl) (hD.sub [0, 1, 2] (by decide) rfl) hS (lv_sub hl [0, 1, 2] rfl)
  · have hq4_2 : yr 0 2147483647 i := yr_leR (yrc (a := 0) (b := 0) (x := 0) (by decide) (by decide)) (yr_all _) (Int32.not_lt.mp c1) (by decide)
    refine lv_iload_n hx hb dX6_isInRange_4 rfl (lv_at hl 1 rfl) ?_
    refine lv_aload_n hx hb dX6_isInRange_5 rfl (lv_at hl 0 rfl) ?_
    refine va_get (D := (dC, dI)) (ci := 6) (v := .int h0_slaves) (C := RX6) (T := TX6) (N := 13) hx hb hts hnX6 hown hK hP 0 rfl rfl 8 (by decide) hf42 (fun _ h9 => h9) rfl dX6_isInRange_6 ?_
    refine lv_icmp_ge (tgt := 38) hx hb dX6_isInRange_9 (by decide) (fun c9 => ?_) (fun c9 => ?_)
    · exact J38  _ _ _   (hP.sub [0, 1, 2] rfl) (hD.sub [0, 1, 2] (by decide) rfl) hS (lv_sub hl [0, 1, 2] rfl)
    · have hq12_3 : yr 0 7 i := yr_ltL hq4_2 h_h0_slaves (Int32.not_le.mp c9) (by decide)
      have hq12_4 : yr 1 8 h0_slaves := yr_ltR hq4_2 h_h0_slaves (Int32.not_le.mp c9) (by decide)
      refine lv_iload_n hx hb dX6_isInRange_12 rfl (lv_at hl 2 rfl) ?_
      refine lv_aload_n hx hb dX6_isInRange_13 rfl (lv_at hl 0 rfl) ?_
      refine va_get (D := (dC, dI)) (ci := 6) (v := .ref h0_first) (C := RX6) (T := TX6) (N := 13) hx hb hts hnX6 hown hK hP 0 rfl rfl 0 (by decide) hf11 (fun _ h9 => h9) rfl dX6_isInRange_14 ?_
      refine lv_iload_n hx hb dX6_isInRange_17 rfl (lv_at hl 1 rfl) ?_
      refine va_iald hx hb hK hP 1 0 rfl rfl (yr_in hq12_3 (by decide) (by decide)) dX6_isInRange_18 ?_
      refine lv_topi (fun v18 ev18 => ?_)
      refine lv_icmp_lt (tgt := 38) hx hb dX6_isInRange_19 (by decide) (fun c19 => ?_) (fun c19 => ?_)
      · have hq38_5 : yr (-2147483648) 2147483646 a := yr_ltL (yr_all _) (yr_all _) c19 (by decide)
        have hq38_6 : yr (-2147483647) 2147483647 v18 := yr_ltR (yr_all _) (yr_all _) c19 (by decide)
        exact J38  _ _ _   (hP.sub [0, 1, 2] rfl) (hD.sub [0, 1, 2] (by decide) rfl) hS (lv_sub hl [0, 1, 2] rfl)
      · refine lv_iload_n hx hb dX6_isInRange_22 rfl (lv_at hl 2 rfl) ?_
        refine lv_aload_n hx hb dX6_isInRange_23 rfl (lv_at hl 0 rfl) ?_
        refine va_get (D := (dC, dI)) (ci := 6) (v := .ref h0_last) (C := RX6) (T := TX6) (N := 13) hx hb hts hnX6 hown hK hP 0 rfl rfl 1 (by decide) hf15 (fun _ h9 => h9) rfl dX6_isInRange_24 ?_
        refine lv_iload_n hx hb dX6_isInRange_27 rfl (lv_at hl 1 rfl) ?_
        refine va_iald hx hb hK hP 2 0 rfl rfl (yr_in hq12_3 (by decide) (by decide)) dX6_isInRange_28 ?_
        refine lv_topi (fun v28 ev28 => ?_)
        refine lv_iconst (v := 4) hx hb dX6_isInRange_29 (by decide) ?_
        refine lv_iadd hx hb dX6_isInRange_30 ?_
        refine lv_topi (fun v30 ev30 => ?_)
        refine lv_icmp_ge (tgt := 38) hx hb dX6_isInRange_31 (by decide) (fun c31 => ?_) (fun c31 => ?_)
        · exact J38  _ _ _   (hP.sub [0, 1, 2] rfl) (hD.sub [0, 1, 2] (by decide) rfl) hS (lv_sub hl [0, 1, 2] rfl)
        · have hq34_7 : yr (-2147483648) 2147483646 a := yr_ltL (yr_all _) (yr_all _) (Int32.not_le.mp c31) (by decide)
          have hq34_8 : yr (-2147483647) 2147483647 v30 := yr_ltR (yr_all _) (yr_all _) (Int32.not_le.mp c31) (by decide)
          refine lv_iconst (v := 1) hx hb dX6_isInRange_34 (by decide) ?_
          refine lv_goto (tgt := 39) hx hb dX6_isInRange_35 (by decide) ?_
          exact J39 1 _ _ _ (yrc (a := 0) (b := 1) (x := 1) (by decide) (by decide))  (hP.sub [0, 1, 2] rfl) (hD.sub [0, 1, 2] (by decide) rfl) hS (lv_sub hl [0, 1, 2] rfl)
set_option maxHeartbeats 4000000 in
set_option maxRecDepth 100000 in
theorem g_slaveAt (l : Launch) (dC : Nat → ClassId) (dI : Nat → Nat → Nat) (cyI cyZ cyO : ClassId) (sz : Nat) (h0 : Nat) (h0_slaves : Int32) (h0_registers : Int32) (h0_depth : Int32) (h0_limit : Int32) (h0_changes : Int32) (h0_first : Nat) (gh0_first : Nat → Int32) (h0_last : Nat) (gh0_last : Nat → Int32) (h0_wait : Nat) (h0_broken : Nat) (h0_words : Nat) (h0_kinds : Nat) (h0_values : Nat) (h0_owners : Nat) (a : Int32) (h_h0_slaves : yr 0 8 h0_slaves) (h_h0_registers : yr 0 48 h0_registers) (h_h0_depth : yr 0 4 h0_depth) : Met l yX6_slaveAt wsX6_slaveAt ({ frames := 1, cells := 0, slots := 0, locals := 22 }) (yPre [.ref h0, .int a] (dC, dI) [(h0, .inr (6, [.ref h0_first, .ref h0_last, .ref h0_wait, .ref h0_broken, .ref h0_words, .ref h0_kinds, .ref h0_values, .ref h0_owners, .int h0_slaves, .int h0_registers, .int h0_depth, .int h0_limit, .int h0_changes])), (h0_first, .inl (cyI, 8, .inl gh0_first)), (h0_last, .inl (cyI, 8, .inl gh0_last))] (yT cyI cyZ cyO) sz) (yQi (fun (r : Int32) (u : yU) => yr (-1) 7 r) (dC, dI) [(h0, .inr (6, [.ref h0_first, .ref h0_last, .ref h0_wait, .ref h0_broken, .ref h0_words, .ref h0_kinds, .ref h0_values, .ref h0_owners, .int h0_slaves, .int h0_registers, .int h0_depth, .int h0_limit, .int h0_changes])), (h0_first, .inl (cyI, 8, .inl gh0_first)), (h0_last, .inl (cyI, 8, .inl gh0_last))] (yT cyI cyZ cyO) sz (fun u => [(h0, .inr (6, [.ref h0_first, .ref h0_last, .ref h0_wait, .ref h0_broken, .ref h0_words, .ref h0_kinds, .ref h0_values, .ref h0_owners, .int h0_slaves, .int h0_registers, .int h0_depth, .int h0_limit, .int h0_changes])), (h0_first, .inl (cyI, 8, .inl gh0_first)), (h0_last, .inl (cyI, 8, .inl gh0_last))])) 0 0 (va_A [(h0, .inr (6, [.ref h0_first, .ref h0_last, .ref h0_wait, .ref h0_broken, .ref h0_words, .ref h0_kinds, .ref h0_values, .ref h0_owners, .int h0_slaves, .int h0_registers, .int h0_depth, .int h0_limit, .int h0_changes])), (h0_first, .inl (cyI, 8, .inl gh0_first)), (h0_last, .inl (cyI, 8, .inl gh0_last))] sz) := by
  refine yMet (cc := cX6_slaveAt) (maxL := 3) (ret := (some .int)) (by decide) rfl (Nat.le_of_ble_eq_true rfl) ?_
  intro p e s m below meth c A hx hb hr hlk hml hts hown hnm hsz hAe hP hK hD hA hS ls hl
  have hl : lv_has ls 3 [(0, .ref h0), (1, .int a)] := hl
  have hf42 := hts (.fieldLink RX6 42 "BusBridge$Plan" "slaves" "I") (by decide +kernel)
  have hnX6 : ∀ w ∈ wsX60, w ∈ wsX6_slaveAt := by decide +kernel
  refine lv_iconst (v := 0) hx hb dX6_slaveAt_0 (by decide) ?_
  refine lv_istore_n (lv' := [(2, .int 0), (0, .ref h0), (1, .int a)]) hx hb dX6_slaveAt_1 rfl hl (by decide) rfl (fun ls hl => ?_)
  have J2 : ∀ (n2 : Nat) (j2_l2 : Int32) (H : Heap) (locs : List Loc) (ls : Array Slot), (8 - (j2_l2 : Int32).toInt).toNat < n2 → yr 0 8 j2_l2 → va_P (dC, dI) vwCl [(h0, .inr (6, [.ref h0_first, .ref h0_last, .ref h0_wait, .ref h0_broken, .ref h0_words, .ref h0_kinds, .ref h0_values, .ref h0_owners, .int h0_slaves, .int h0_registers, .int h0_depth, .int h0_limit, .int h0_changes])), (h0_first, .inl (cyI, 8, .inl gh0_first)), (h0_last, .inl (cyI, 8, .inl gh0_last))] H → va_D A [(h0, .inr (6, [.ref h0_first, .ref h0_last, .ref h0_wait, .ref h0_broken, .ref h0_words, .ref h0_kinds, .ref h0_values, .ref h0_owners, .int h0_slaves, .int h0_registers, .int h0_depth, .int h0_limit, .int h0_changes])), (h0_first, .inl (cyI, 8, .inl gh0_first)), (h0_last, .inl (cyI, 8, .inl gh0_last))] → va_S A s.heap H locs → lv_has ls 3 [(0, .ref h0), (1, .int a), (2, .int j2_l2)] → W p l e ({ frames := 1, cells := 0, slots := 0, locals := 22 } : Room) s m [.ref h0, .int a].toArray below meth c H locs 0 0 (MQ below (yQi (fun (r : Int32) (u : yU) => yr (-1) 7 r) (dC, dI) [(h0, .inr (6, [.ref h0_first, .ref h0_last, .ref h0_wait, .ref h0_broken, .ref h0_words, .ref h0_kinds, .ref h0_values, .ref h0_owners, .int h0_slaves, .int h0_registers, .int h0_depth, .int h0_limit, .int h0_changes])), (h0_first, .inl (cyI, 8, .inl gh0_first)), (h0_last, .inl (cyI, 8, .inl gh0_last))] (yT cyI cyZ cyO) sz (fun u => [(h0, .inr (6, [.ref h0_first, .ref h0_last, .ref h0_wait, .ref h0_broken, .ref h0_words, .ref h0_kinds, .ref h0_values, .ref h0_owners, .int h0_slaves, .int h0_registers, .int h0_depth, .int h0_limit, .int h0_changes])), (h0_first, .inl (cyI, 8, .inl gh0_first)), (h0_last, .inl (cyI, 8, .inl gh0_last))])) [.ref h0, .int a].toArray s 0 0 A) (F0 m 2 ls []) := by
    intro n2
    induction n2 with
    | zero => intro j2_l2 H locs ls hm; exact absurd hm (Nat.not_lt_zero _)
    | succ n2 ih2 =>
      intro j2_l2 H locs ls hm2 hj2_l2  hP hD hS hl
      refine lv_iload_n hx hb dX6_slaveAt_2 rfl (lv_at hl 2 rfl) ?_
      refine lv_aload_n hx hb dX6_slaveAt_3 rfl (lv_at hl 0 rfl) ?_
      refine va_get (D := (dC, dI)) (ci := 6) (v := .int h0_slaves) (C := RX6) (T := TX6) (N := 13) hx hb hts hnX6 hown hK hP 0 rfl rfl 8 (by decide) hf42 (fun _ h9 => h9) rfl dX6_slaveAt_4 ?_
      refine lv_icmp_ge (tgt := 27) hx hb dX6_slaveAt_7 (by decide) (fun c7 => ?_) (fun c7 => ?_)
      · refine lv_iconst (v := (-1)) hx hb dX6_slaveAt_27 (by decide) ?_
        refine W.widen (k := 0) (n := 0) (Nat.le_of_ble_eq_true rfl) (Nat.le_of_ble_eq_true rfl) ?_
        exact yy_iret (v := (-1)) (((fun _ => 0), (fun _ _ => 0)) : yU) hx hb hr hlk rfl hsz hAe hK hP hD hS [0, 1, 2] rfl rfl (by decide) (yrc (a := (-1)) (b := 7) (x := (-1)) (by decide) (by decide)) dX6_slaveAt_28
      · have hq10_1 : yr 0 7 j2_l2 := yr_ltL hj2_l2 h_h0_slaves (Int32.not_le.mp c7) (by decide)
        have hq10_2 : yr 1 8 h0_slaves := yr_ltR hj2_l2 h_h0_slaves (Int32.not_le.mp c7) (by decide)
        refine lv_aload_n hx hb dX6_slaveAt_10 rfl (lv_at hl 0 rfl) ?_
        refine lv_iload_n hx hb dX6_slaveAt_11 rfl (lv_at hl 2 rfl) ?_
        refine lv_iload_n hx hb dX6_slaveAt_12 rfl (lv_at hl 1 rfl) ?_
        have hPc := hP.sub (ws' := [(h0, .inr (6, [.ref h0_first, .ref h0_last, .ref h0_wait, .ref h0_broken, .ref h0_words, .ref h0_kinds, .ref h0_values, .ref h0_owners, .int h0_slaves, .int h0_registers, .int h0_depth, .int h0_limit, .int h0_changes])), (h0_first, .inl (cyI, 8, .inl gh0_first)), (h0_last, .inl (cyI, 8, .inl gh0_last))]) [0, 1, 2] rfl
        have hDc := hD.sub (ws' := [(h0, .inr (6, [.ref h0_first, .ref h0_last, .ref h0_wait, .ref h0_broken, .ref h0_words, .ref h0_kinds, .ref h0_values, .ref h0_owners, .int h0_slaves, .int h0_registers, .int h0_depth, .int h0_limit, .int h0_changes])), (h0_first, .inl (cyI, 8, .inl gh0_first)), (h0_last, .inl (cyI, 8, .inl gh0_last))]) [0, 1, 2] (by decide) rfl
        refine yy_calli [0, 1, 2] [] (wr := []) (va_runV (As := [.int j2_l2, .int a]) (rest := []) ⟨hx, hb, hml, hown, hts⟩ (g_isInRange l dC dI cyI cyZ cyO H.size h0 h0_slaves h0_registers h0_depth h0_limit h0_changes h0_first gh0_first h0_last gh0_last h0_wait h0_broken h0_words h0_kinds h0_values h0_owners j2_l2 a (yr_w hq10_2 (by decide) (by decide)) h_h0_registers h_h0_depth) (cwV 2 hts gX6_slaveAt_X6_isInRange rfl rfl rfl (by decide +kernel) ⟨Nat.le_of_ble_eq_true rfl, Nat.le_of_ble_eq_true rfl⟩) (yPreV hK hPc hDc (ci := 6) (q0 := 0) rfl rfl) rfl rfl hl.1 rfl (lv_room (Nat.le_of_ble_eq_true rfl)) dX6_slaveAt_13 ⟨Nat.le_of_ble_eq_true rfl, Nat.le_of_ble_eq_true rfl⟩) hP hD hS hA rfl rfl (by decide) (by decide) (fun r13 u13 H locs hw hP hD hS => ?_)
        have hP : va_P (dC, dI) vwCl [(h0, .inr (6, [.ref h0_first, .ref h0_last, .ref h0_wait, .ref h0_broken, .ref h0_words, .ref h0_kinds, .ref h0_values, .ref h0_owners, .int h0_slaves, .int h0_registers, .int h0_depth, .int h0_limit, .int h0_changes])), (h0_first, .inl (cyI, 8, .inl gh0_first)), (h0_last, .inl (cyI, 8, .inl gh0_last))] H := hP
        have hD : va_D A [(h0, .inr (6, [.ref h0_first, .ref h0_last, .ref h0_wait, .ref h0_broken, .ref h0_words, .ref h0_kinds, .ref h0_values, .ref h0_owners, .int h0_slaves, .int h0_registers, .int h0_depth, .int h0_limit, .int h0_changes])), (h0_first, .inl (cyI, 8, .inl gh0_first)), (h0_last, .inl (cyI, 8, .inl gh0_last))] := hD
        refine W.widen (k := 0) (n := 0) (Nat.le_of_ble_eq_true rfl) (Nat.le_of_ble_eq_true rfl) ?_
        have hw13_0 := hw
        refine lv_if_eq (tgt := 21) hx hb dX6_slaveAt_16 (by decide) (fun c16 => ?_) (fun c16 => ?_)
        · have hq21_3 : yr 0 0 r13 := yr_eq hw13_0 (yrc (a := 0) (b := 0) (x := 0) (by decide) (by decide)) c16 (by decide) (by decide)
          have hq21_4 : yr 1 8 (j2_l2 + 1) := yr_add hq10_1 (yrc (a := 1) (b := 1) (by decide) (by decide)) (by decide) (by decide) (by decide) (by decide)
          refine lv_iinc (v := (j2_l2 + 1)) (lv' := [(2, .int (j2_l2 + 1)), (0, .ref h0), (1, .int a)]) hx hb dX6_slaveAt_21 hl (k := 2) rfl rfl (by decide) rfl (fun ls hl => ?_)
          refine lv_goto (tgt := 2) hx hb dX6_slaveAt_24 (by decide) ?_
          exact ih2 (j2_l2 + 1) _ _ _ (yms hm2 (yr_w hq10_1 (by decide) (by decide)) rfl) (yr_w hq21_4 (by decide) (by decide))  (hP.sub [0, 1, 2] rfl) (hD.sub [0, 1, 2] (by decide) rfl) hS (lv_sub hl [1, 2, 0] rfl)
        · have hq19_5 : yr 1 1 r13 := yr_neL hw13_0 c16 (by decide) (by decide)
          refine lv_iload_n hx hb dX6_slaveAt_19 rfl (lv_at hl 2 rfl) ?_
          refine W.widen (k := 0) (n := 0) (Nat.le_of_ble_eq_true rfl) (Nat.le_of_ble_eq_true rfl) ?_
          exact yy_iret (v := j2_l2) (((fun _ => 0), (fun _ _ => 0)) : yU) hx hb hr hlk rfl hsz hAe hK hP hD hS [0, 1, 2] rfl rfl (by decide) (yr_w hq10_1 (by decide) (by decide)) dX6_slaveAt_20
  exact J2 _ 0 _ _ _ (Nat.lt_succ_self _) (yrc (a := 0) (b := 8) (x := 0) (by decide) (by decide))  (hP.sub [0, 1, 2] rfl) (hD.sub [0, 1, 2] (by decide) rfl) hS (lv_sub hl [1, 2, 0] rfl)
set_option maxHeartbeats 4000000 in
set_option maxRecDepth 100000 in
theorem g_registerOf (l : Launch) (dC : Nat → ClassId) (dI : Nat → Nat → Nat) (cyI cyZ cyO : ClassId) (sz : Nat) (h0 : Nat) (h0_slaves : Int32) (h0_registers : Int32) (h0_depth : Int32) (h0_limit : Int32) (h0_changes : Int32) (h0_first : Nat) (h0_last : Nat) (h0_wait : Nat) (h0_broken : Nat) (h0_words : Nat) (gh0_words : Nat → Int32) (h0_kinds : Nat) (h0_values : Nat) (h0_owners : Nat) (gh0_owners : Nat → Int32) (i : Int32) (a : Int32) (h_h0_slaves : yr 0 8 h0_slaves) (h_h0_registers : yr 0 48 h0_registers) (h_h0_depth : yr 0 4 h0_depth) : Met l yX6_registerOf wsX6_registerOf ({ frames := 0, cells := 0, slots := 0, locals := 0 }) (yPre [.ref h0, .int i, .int a] (dC, dI) [(h0, .inr (6, [.ref h0_first, .ref h0_last, .ref h0_wait, .ref h0_broken, .ref h0_words, .ref h0_kinds, .ref h0_values, .ref h0_owners, .int h0_slaves, .int h0_registers, .int h0_depth, .int h0_limit, .int h0_changes])), (h0_words, .inl (cyI, 48, .inl gh0_words)), (h0_owners, .inl (cyI, 48, .inl gh0_owners))] (yT cyI cyZ cyO) sz) (yQi (fun (r : Int32) (u : yU) => yr (-1) 47 r) (dC, dI) [(h0, .inr (6, [.ref h0_first, .ref h0_last, .ref h0_wait, .ref h0_broken, .ref h0_words, .ref h0_kinds, .ref h0_values, .ref h0_owners, .int h0_slaves, .int h0_registers, .int h0_depth, .int h0_limit, .int h0_changes])), (h0_words, .inl (cyI, 48, .inl gh0_words)), (h0_owners, .inl (cyI, 48, .inl gh0_owners))] (yT cyI cyZ cyO) sz (fun u => [(h0, .inr (6, [.ref h0_first, .ref h0_last, .ref h0_wait, .ref h0_broken, .ref h0_words, .ref h0_kinds, .ref h0_values, .ref h0_owners, .int h0_slaves, .int h0_registers, .int h0_depth, .int h0_limit, .int h0_changes])), (h0_words, .inl (cyI, 48, .inl gh0_words)), (h0_owners, .inl (cyI, 48, .inl gh0_owners))])) 0 0 (va_A [(h0, .inr (6, [.ref h0_first, .ref h0_last, .ref h0_wait, .ref h0_broken, .ref h0_words, .ref h0_kinds, .ref h0_values, .ref h0_owners, .int h0_slaves, .int h0_registers, .int h0_depth, .int h0_limit, .int h0_changes])), (h0_words, .inl (cyI, 48, .inl gh0_words)), (h0_owners, .inl (cyI, 48, .inl gh0_owners))] sz) := by
  refine yMet (cc := cX6_registerOf) (maxL := 4) (ret := (some .int)) (by decide) rfl (Nat.le_of_ble_eq_true rfl) ?_
  intro p e s m below meth c A hx hb hr hlk hml hts hown hnm hsz hAe hP hK hD hA hS ls hl
  have hl : lv_has ls 4 [(0, .ref h0), (1, .int i), (2, .int a)] := hl
  have hf25 := hts (.fieldLink RX6 25 "BusBridge$Plan" "words" "[I") (by decide +kernel)
  have hf34 := hts (.fieldLink RX6 34 "BusBridge$Plan" "owners" "[I") (by decide +kernel)
  have hf48 := hts (.fieldLink RX6 48 "BusBridge$Plan" "registers" "I") (by decide +kernel)
  have hnX6 : ∀ w ∈ wsX60, w ∈ wsX6_registerOf := by decide +kernel
  refine lv_iconst (v := 0) hx hb dX6_registerOf_0 (by decide) ?_
  refine lv_istore_n (lv' := [(3, .int 0), (0, .ref h0), (1, .int i), (2, .int a)]) hx hb dX6_registerOf_1 rfl hl (by decide) rfl (fun ls hl => ?_)
  have J2 : ∀ (n2 : Nat) (j2_l3 : Int32) (H : Heap) (locs : List Loc) (ls : Array Slot), (48 - (j2_l3 : Int32).toInt).toNat < n2 → yr 0 48 j2_l3 → va_P (dC, dI) vwCl [(h0, .inr (6, [.ref h0_first, .ref h0_last, .ref h0_wait, .ref h0_broken, .ref h0_words, .ref h0_kinds, .ref h0_values, .ref h0_owners, .int h0_slaves, .int h0_registers, .int h0_depth, .int h0_limit, .int h0_changes])), (h0_words, .inl (cyI, 48, .inl gh0_words)), (h0_owners, .inl (cyI, 48, .inl gh0_owners))] H → va_D A [(h0, .inr (6, [.ref h0_first, .ref h0_last, .ref h0_wait, .ref h0_broken, .ref h0_words, .ref h0_kinds, .ref h0_values, .ref h0_owners, .int h0_slaves, .int h0_registers, .int h0_depth, .int h0_limit, .int h0_changes])), (h0_words, .inl (cyI, 48, .inl gh0_words)), (h0_owners, .inl (cyI, 48, .inl gh0_owners))] → va_S A s.heap H locs → lv_has ls 4 [(0, .ref h0), (1, .int i), (2, .int a), (3, .int j2_l3)] → W p l e ({ frames := 0, cells := 0, slots := 0, locals := 0 } : Room) s m [.ref h0, .int i, .int a].toArray below meth c H locs 0 0 (MQ below (yQi (fun (r : Int32) (u : yU) => yr (-1) 47 r) (dC, dI) [(h0, .inr (6, [.ref h0_first, .ref h0_last, .ref h0_wait, .ref h0_broken, .ref h0_words, .ref h0_kinds, .ref h0_values, .ref h0_owners, .int h0_slaves, .int h0_registers, .int h0_depth, .int h0_limit, .int h0_changes])), (h0_words, .inl (cyI, 48, .inl gh0_words)), (h0_owners, .inl (cyI, 48, .inl gh0_owners))] (yT cyI cyZ cyO) sz (fun u => [(h0, .inr (6, [.ref h0_first, .ref h0_last, .ref h0_wait, .ref h0_broken, .ref h0_words, .ref h0_kinds, .ref h0_values, .ref h0_owners, .int h0_slaves, .int h0_registers, .int h0_depth, .int h0_limit, .int h0_changes])), (h0_words, .inl (cyI, 48, .inl gh0_words)), (h0_owners, .inl (cyI, 48, .inl gh0_owners))])) [.ref h0, .int i, .int a].toArray s 0 0 A) (F0 m 2 ls []) := by
    intro n2
    induction n2 with
    | zero => intro j2_l3 H locs ls hm; exact absurd hm (Nat.not_lt_zero _)
    | succ n2 ih2 =>
      intro j2_l3 H locs ls hm2 hj2_l3  hP hD hS hl
      refine lv_iload_n hx hb dX6_registerOf_2 rfl (lv_at hl 3 rfl) ?_
      refine lv_aload_n hx hb dX6_registerOf_3 rfl (lv_at hl 0 rfl) ?_
      refine va_get (D := (dC, dI)) (ci := 6) (v := .int h0_registers) (C := RX6) (T := TX6) (N := 13) hx hb hts hnX6 hown hK hP 0 rfl rfl 9 (by decide) hf48 (fun _ h9 => h9) rfl dX6_registerOf_4 ?_
      refine lv_icmp_ge (tgt := 38) hx hb dX6_registerOf_7 (by decide) (fun c7 => ?_) (fun c7 => ?_)
      · refine lv_iconst (v := (-1)) hx hb dX6_registerOf_38 (by decide) ?_
        refine W.widen (k := 0) (n := 0) (Nat.le_of_ble_eq_true rfl) (Nat.le_of_ble_eq_true rfl) ?_
        exact yy_iret (v := (-1)) (((fun _ => 0), (fun _ _ => 0)) : yU) hx hb hr hlk rfl hsz hAe hK hP hD hS [0, 1, 2] rfl rfl (by decide) (yrc (a := (-1)) (b := 47) (x := (-1)) (by decide) (by decide)) dX6_registerOf_39
      · have hq10_1 : yr 0 47 j2_l3 := yr_ltL hj2_l3 h_h0_registers (Int32.not_le.mp c7) (by decide)
        have hq10_2 : yr 1 48 h0_registers := yr_ltR hj2_l3 h_h0_registers (Int32.not_le.mp c7) (by decide)
        refine lv_aload_n hx hb dX6_registerOf_10 rfl (lv_at hl 0 rfl) ?_
        refine va_get (D := (dC, dI)) (ci := 6) (v := .ref h0_words) (C := RX6) (T := TX6) (N := 13) hx hb hts hnX6 hown hK hP 0 rfl rfl 4 (by decide) hf25 (fun _ h9 => h9) rfl dX6_registerOf_11 ?_
        refine lv_iload_n hx hb dX6_registerOf_14 rfl (lv_at hl 3 rfl) ?_
        refine va_iald hx hb hK hP 1 0 rfl rfl (yr_in hq10_1 (by decide) (by decide)) dX6_registerOf_15 ?_
        refine lv_topi (fun v15 ev15 => ?_)
        refine lv_iload_n hx hb dX6_registerOf_16 rfl (lv_at hl 2 rfl) ?_
        have J32 : ∀  (H : Heap) (locs : List Loc) (ls : Array Slot), va_P (dC, dI) vwCl [(h0, .inr (6, [.ref h0_first, .ref h0_last, .ref h0_wait, .ref h0_broken, .ref h0_words, .ref h0_kinds, .ref h0_values, .ref h0_owners, .int h0_slaves, .int h0_registers, .int h0_depth, .int h0_limit, .int h0_changes])), (h0_words, .inl (cyI, 48, .inl gh0_words)), (h0_owners, .inl (cyI, 48, .inl gh0_owners))] H → va_D A [(h0, .inr (6, [.ref h0_first, .ref h0_last, .ref h0_wait, .ref h0_broken, .ref h0_words, .ref h0_kinds, .ref h0_values, .ref h0_owners, .int h0_slaves, .int h0_registers, .int h0_depth, .int h0_limit, .int h0_changes])), (h0_words, .inl (cyI, 48, .inl gh0_words)), (h0_owners, .inl (cyI, 48, .inl gh0_owners))] → va_S A s.heap H locs → lv_has ls 4 [(0, .ref h0), (1, .int i), (2, .int a), (3, .int j2_l3)] → W p l e ({ frames := 0, cells := 0, slots := 0, locals := 0 } : Room) s m [.ref h0, .int i, .int a].toArray below meth c H locs 0 0 (MQ below (yQi (fun (r : Int32) (u : yU) => yr (-1) 47 r) (dC, dI) [(h0, .inr (6, [.ref h0_first, .ref h0_last, .ref h0_wait, .ref h0_broken, .ref h0_words, .ref h0_kinds, .ref h0_values, .ref h0_owners, .int h0_slaves, .int h0_registers, .int h0_depth, .int h0_limit, .int h0_changes])), (h0_words, .inl (cyI, 48, .inl gh0_words)), (h0_owners, .inl (cyI, 48, .inl gh0_owners))] (yT cyI cyZ cyO) sz (fun u => [(h0, .inr (6, [.ref h0_first, .ref h0_last, .ref h0_wait, .ref h0_broken, .ref h0_words, .ref h0_kinds, .ref h0_values, .ref h0_owners, .int h0_slaves, .int h0_registers, .int h0_depth, .int h0_limit, .int h0_changes])), (h0_words, .inl (cyI, 48, .inl gh0_words)), (h0_owners, .inl (cyI, 48, .inl gh0_owners))])) [.ref h0, .int i, .int a].toArray s 0 0 A) (F0 m 32 ls []) := by
          intro  H locs ls   hP hD hS hl
          have hq32_3 : yr 1 48 (j2_l3 + 1) := yr_add hq10_1 (yrc (a := 1) (b := 1) (by decide) (by decide)) (by decide) (by decide) (by decide) (by decide)
          refine lv_iinc (v := (j2_l3 + 1)) (lv' := [(3, .int (j2_l3 + 1)), (0, .ref h0), (1, .int i), (2, .int a)]) hx hb dX6_registerOf_32 hl (k := 3) rfl rfl (by decide) rfl (fun ls hl => ?_)
          refine lv_goto (tgt := 2) hx hb dX6_registerOf_35 (by decide) ?_
          exact ih2 (j2_l3 + 1) _ _ _ (yms hm2 (yr_w hq10_1 (by decide) (by decide)) rfl) (yr_w hq32_3 (by decide) (by decide))  (hP.sub [0, 1, 2] rfl) (hD.sub [0, 1, 2] (by decide) rfl) hS (lv_sub hl [1, 2, 3, 0] rfl)
        refine lv_icmp_ne (tgt := 32) hx hb dX6_registerOf_17 (by decide) (fun c17 => ?_) (fun c17 => ?_)
        · exact J32  _ _ _   (hP.sub [0, 1, 2] rfl) (hD.sub [0, 1, 2] (by decide) rfl) hS (lv_sub hl [0, 1, 2, 3] rfl)
        · refine lv_aload_n hx hb dX6_registerOf_20 rfl (lv_at hl 0 rfl) ?_
          refine va_get (D := (dC, dI)) (ci := 6) (v := .ref h0_owners) (C := RX6) (T := TX6) (N := 13) hx hb hts hnX6 hown hK hP 0 rfl rfl 7 (by decide) hf34 (fun _ h9 => h9) rfl dX6_registerOf_21 ?_
          refine lv_iload_n hx hb dX6_registerOf_24 rfl (lv_at hl 3 rfl) ?_
          refine va_iald hx hb hK hP 2 0 rfl rfl (yr_in hq10_1 (by decide) (by decide)) dX6_registerOf_25 ?_
          refine lv_topi (fun v25 ev25 => ?_)
          refine lv_iload_n hx hb dX6_registerOf_26 rfl (lv_at hl 1 rfl) ?_
          refine lv_icmp_ne (tgt := 32) hx hb dX6_registerOf_27 (by decide) (fun c27 => ?_) (fun c27 => ?_)
          · exact J32  _ _ _   (hP.sub [0, 1, 2] rfl) (hD.sub [0, 1, 2] (by decide) rfl) hS (lv_sub hl [0, 1, 2, 3] rfl)
          · refine lv_iload_n hx hb dX6_registerOf_30 rfl (lv_at hl 3 rfl) ?_
            refine W.widen (k := 0) (n := 0) (Nat.le_of_ble_eq_true rfl) (Nat.le_of_ble_eq_true rfl) ?_
            exact yy_iret (v := j2_l3) (((fun _ => 0), (fun _ _ => 0)) : yU) hx hb hr hlk rfl hsz hAe hK hP hD hS [0, 1, 2] rfl rfl (by decide) (yr_w hq10_1 (by decide) (by decide)) dX6_registerOf_31
  exact J2 _ 0 _ _ _ (Nat.lt_succ_self _) (yrc (a := 0) (b := 48) (x := 0) (by decide) (by decide))  (hP.sub [0, 1, 2] rfl) (hD.sub [0, 1, 2] (by decide) rfl) hS (lv_sub hl [1, 2, 3, 0] rfl)
set_option maxHeartbeats 4000000 in
set_option maxRecDepth 100000 in
theorem g_addSlave (l : Launch) (dC : Nat → ClassId) (dI : Nat → Nat → Nat) (cyI cyZ cyO : ClassId) (sz : Nat) (h0 : Nat) (h0_slaves : Int32) (h0_registers : Int32) (h0_depth : Int32) (h0_limit : Int32) (h0_changes : Int32) (h0_first : Nat) (gh0_first : Nat → Int32) (h0_last : Nat) (gh0_last : Nat → Int32) (h0_wait : Nat) (gh0_wait : Nat → Int32) (h0_broken : Nat) (gh0_broken : Nat → Int32) (h0_words : Nat) (h0_kinds : Nat) (h0_values : Nat) (h0_owners : Nat) (a : Int32) (b : Int32) (w : Int32) (k : Int32) (h_h0_slaves : yr 0 8 h0_slaves) (h_h0_registers : yr 0 48 h0_registers) (h_h0_depth : yr 0 4 h0_depth) : Met l yX6_addSlave wsX6_addSlave ({ frames := 0, cells := 0, slots := 0, locals := 0 }) (yPre [.ref h0, .int a, .int b, .int w, .int k] (dC, dI) [(h0, .inr (6, [.ref h0_first, .ref h0_last, .ref h0_wait, .ref h0_broken, .ref h0_words, .ref h0_kinds, .ref h0_values, .ref h0_owners, .int h0_slaves, .int h0_registers, .int h0_depth, .int h0_limit, .int h0_changes])), (h0_first, .inl (cyI, 8, .inl gh0_first)), (h0_last, .inl (cyI, 8, .inl gh0_last)), (h0_wait, .inl (cyI, 8, .inl gh0_wait)), (h0_broken, .inl (cyZ, 8, .inl gh0_broken))] (yT cyI cyZ cyO) sz) (yQi (fun (r : Int32) (u : yU) => yr (-4) 7 r ∧ yr 0 8 (u.1 0)) (dC, dI) [(h0, .inr (6, [.ref h0_first, .ref h0_last, .ref h0_wait, .ref h0_broken, .ref h0_words, .ref h0_kinds, .ref h0_values, .ref h0_owners, .int h0_slaves, .int h0_registers, .int h0_depth, .int h0_limit, .int h0_changes])), (h0_first, .inl (cyI, 8, .inl gh0_first)), (h0_last, .inl (cyI, 8, .inl gh0_last)), (h0_wait, .inl (cyI, 8, .inl gh0_wait)), (h0_broken, .inl (cyZ, 8, .inl gh0_broken))] (yT cyI cyZ cyO) sz (fun u => [(h0, .inr (6, [.ref h0_first, .ref h0_last, .ref h0_wait, .ref h0_broken, .ref h0_words, .ref h0_kinds, .ref h0_values, .ref h0_owners, .int (u.1 0), .int h0_registers, .int h0_depth, .int h0_limit, .int (u.1 1)])), (h0_first, .inl (cyI, 8, .inl (u.2 0))), (h0_last, .inl (cyI, 8, .inl (u.2 1))), (h0_wait, .inl (cyI, 8, .inl (u.2 2))), (h0_broken, .inl (cyZ, 8, .inl (u.2 3)))])) 0 0 (va_A [(h0, .inr (6, [.ref h0_first, .ref h0_last, .ref h0_wait, .ref h0_broken, .ref h0_words, .ref h0_kinds, .ref h0_values, .ref h0_owners, .int h0_slaves, .int h0_registers, .int h0_depth, .int h0_limit, .int h0_changes])), (h0_first, .inl (cyI, 8, .inl gh0_first)), (h0_last, .inl (cyI, 8, .inl gh0_last)), (h0_wait, .inl (cyI, 8, .inl gh0_wait)), (h0_broken, .inl (cyZ, 8, .inl gh0_broken))] sz) := by
  refine yMet (cc := cX6_addSlave) (maxL := 5) (ret := (some .int)) (by decide) rfl (Nat.le_of_ble_eq_true rfl) ?_
  intro p e s m below meth c A hx hb hr hlk hml hts hown hnm hsz hAe hP hK hD hA hS ls hl
  have hl : lv_has ls 5 [(0, .ref h0), (1, .int a), (2, .int b), (3, .int w), (4, .int k)] := hl
  have hf11 := hts (.fieldLink RX6 11 "BusBridge$Plan" "first" "[I") (by decide +kernel)
  have hf15 := hts (.fieldLink RX6 15 "BusBridge$Plan" "last" "[I") (by decide +kernel)
  have hf18 := hts (.fieldLink RX6 18 "BusBridge$Plan" "wait" "[I") (by decide +kernel)
  have hf21 := hts (.fieldLink RX6 21 "BusBridge$Plan" "broken" "[Z") (by decide +kernel)
  have hf42 := hts (.fieldLink RX6 42 "BusBridge$Plan" "slaves" "I") (by decide +kernel)
  have hf45 := hts (.fieldLink RX6 45 "BusBridge$Plan" "changes" "I") (by decide +kernel)
  have hnX6 : ∀ w ∈ wsX60, w ∈ wsX6_addSlave := by decide +kernel
  refine lv_aload_n hx hb dX6_addSlave_0 rfl (lv_at hl 0 rfl) ?_
  refine va_get (D := (dC, dI)) (ci := 6) (v := .int h0_slaves) (C := RX6) (T := TX6) (N := 13) hx hb hts hnX6 hown hK hP 0 rfl rfl 8 (by decide) hf42 (fun _ h9 => h9) rfl dX6_addSlave_1 ?_
  refine lv_bipush (v := 8) hx hb dX6_addSlave_4 (by decide) ?_
  refine lv_icmp_lt (tgt := 12) hx hb dX6_addSlave_6 (by decide) (fun c6 => ?_) (fun c6 => ?_)
  · have hq12_1 : yr 0 7 h0_slaves := yr_ltL h_h0_slaves (yrc (a := 8) (b := 8) (x := 8) (by decide) (by decide)) c6 (by decide)
    refine lv_aload_n hx hb dX6_addSlave_12 rfl (lv_at hl 0 rfl) ?_
    refine va_get (D := (dC, dI)) (ci := 6) (v := .ref h0_first) (C := RX6) (T := TX6) (N := 13) hx hb hts hnX6 hown hK hP 0 rfl rfl 0 (by decide) hf11 (fun _ h9 => h9) rfl dX6_addSlave_13 ?_
    refine lv_aload_n hx hb dX6_addSlave_16 rfl (lv_at hl 0 rfl) ?_
    refine va_get (D := (dC, dI)) (ci := 6) (v := .int h0_slaves) (C := RX6) (T := TX6) (N := 13) hx hb hts hnX6 hown hK hP 0 rfl rfl 8 (by decide) hf42 (fun _ h9 => h9) rfl dX6_addSlave_17 ?_
    refine lv_iload_n hx hb dX6_addSlave_20 rfl (lv_at hl 1 rfl) ?_
    refine yg_iast hx hb hK hP hD hS 1 0 rfl rfl (yr_in hq12_1 (by decide) (by decide)) dX6_addSlave_21 (fun f21 ef21 H locs hP hD hS => ?_)
    have hP : va_P (dC, dI) vwCl [(h0, .inr (6, [.ref h0_first, .ref h0_last, .ref h0_wait, .ref h0_broken, .ref h0_words, .ref h0_kinds, .ref h0_values, .ref h0_owners, .int h0_slaves, .int h0_registers, .int h0_depth, .int h0_limit, .int h0_changes])), (h0_first, .inl (cyI, 8, .inl f21)), (h0_last, .inl (cyI, 8, .inl gh0_last)), (h0_wait, .inl (cyI, 8, .inl gh0_wait)), (h0_broken, .inl (cyZ, 8, .inl gh0_broken))] H := hP
    have hD : va_D A [(h0, .inr (6, [.ref h0_first, .ref h0_last, .ref h0_wait, .ref h0_broken, .ref h0_words, .ref h0_kinds, .ref h0_values, .ref h0_owners, .int h0_slaves, .int h0_registers, .int h0_depth, .int h0_limit, .int h0_changes])), (h0_first, .inl (cyI, 8, .inl f21)), (h0_last, .inl (cyI, 8, .inl gh0_last)), (h0_wait, .inl (cyI, 8, .inl gh0_wait)), (h0_broken, .inl (cyZ, 8, .inl gh0_broken))] := hD
    refine lv_aload_n hx hb dX6_addSlave_22 rfl (lv_at hl 0 rfl) ?_
    refine va_get (D := (dC, dI)) (ci := 6) (v := .ref h0_last) (C := RX6) (T := TX6) (N := 13) hx hb hts hnX6 hown hK hP 0 rfl rfl 1 (by decide) hf15 (fun _ h9 => h9) rfl dX6_addSlave_23 ?_
    refine lv_aload_n hx hb dX6_addSlave_26 rfl (lv_at hl 0 rfl) ?_
    refine va_get (D := (dC, dI)) (ci := 6) (v := .int h0_slaves) (C := RX6) (T := TX6) (N := 13) hx hb hts hnX6 hown hK hP 0 rfl rfl 8 (by decide) hf42 (fun _ h9 => h9) rfl dX6_addSlave_27 ?_
    refine lv_iload_n hx hb dX6_addSlave_30 rfl (lv_at hl 2 rfl) ?_
    refine yg_iast hx hb hK hP hD hS 2 0 rfl rfl (yr_in hq12_1 (by decide) (by decide)) dX6_addSlave_31 (fun f31 ef31 H locs hP hD hS => ?_)
    have hP : va_P (dC, dI) vwCl [(h0, .inr (6, [.ref h0_first, .ref h0_last, .ref h0_wait, .ref h0_broken, .ref h0_words, .ref h0_kinds, .ref h0_values, .ref h0_owners, .int h0_slaves, .int h0_registers, .int h0_depth, .int h0_limit, .int h0_changes])), (h0_first, .inl (cyI, 8, .inl f21)), (h0_last, .inl (cyI, 8, .inl f31)), (h0_wait, .inl (cyI, 8, .inl gh0_wait)), (h0_broken, .inl (cyZ, 8, .inl gh0_broken))] H := hP
    have hD : va_D A [(h0, .inr (6, [.ref h0_first, .ref h0_last, .ref h0_wait, .ref h0_broken, .ref h0_words, .ref h0_kinds, .ref h0_values, .ref h0_owners, .int h0_slaves, .int h0_registers, .int h0_depth, .int h0_limit, .int h0_changes])), (h0_first, .inl (cyI, 8, .inl f21)), (h0_last, .inl (cyI, 8, .inl f31)), (h0_wait, .inl (cyI, 8, .inl gh0_wait)), (h0_broken, .inl (cyZ, 8, .inl gh0_broken))] := hD
    refine lv_aload_n hx hb dX6_addSlave_32 rfl (lv_at hl 0 rfl) ?_
    refine va_get (D := (dC, dI)) (ci := 6) (v := .ref h0_wait) (C := RX6) (T := TX6) (N := 13) hx hb hts hnX6 hown hK hP 0 rfl rfl 2 (by decide) hf18 (fun _ h9 => h9) rfl dX6_addSlave_33 ?_
    refine lv_aload_n hx hb dX6_addSlave_36 rfl (lv_at hl 0 rfl) ?_
    refine va_get (D := (dC, dI)) (ci := 6) (v := .int h0_slaves) (C := RX6) (T := TX6) (N := 13) hx hb hts hnX6 hown hK hP 0 rfl rfl 8 (by decide) hf42 (fun _ h9 => h9) rfl dX6_addSlave_37 ?_
    refine lv_iload_n hx hb dX6_addSlave_40 rfl (lv_at hl 3 rfl) ?_
    refine yg_iast hx hb hK hP hD hS 3 0 rfl rfl (yr_in hq12_1 (by decide) (by decide)) dX6_addSlave_41 (fun f41 ef41 H locs hP hD hS => ?_)
    have hP : va_P (dC, dI) vwCl [(h0, .inr (6, [.ref h0_first, .ref h0_last, .ref h0_wait, .ref h0_broken, .ref h0_words, .ref h0_kinds, .ref h0_values, .ref h0_owners, .int h0_slaves, .int h0_registers, .int h0_depth, .int h0_limit, .int h0_changes])), (h0_first, .inl (cyI, 8, .inl f21)), (h0_last, .inl (cyI, 8, .inl f31)), (h0_wait, .inl (cyI, 8, .inl f41)), (h0_broken, .inl (cyZ, 8, .inl gh0_broken))] H := hP
    have hD : va_D A [(h0, .inr (6, [.ref h0_first, .ref h0_last, .ref h0_wait, .ref h0_broken, .ref h0_words, .ref h0_kinds, .ref h0_values, .ref h0_owners, .int h0_slaves, .int h0_registers, .int h0_depth, .int h0_limit, .int h0_changes])), (h0_first, .inl (cyI, 8, .inl f21)), (h0_last, .inl (cyI, 8, .inl f31)), (h0_wait, .inl (cyI, 8, .inl f41)), (h0_broken, .inl (cyZ, 8, .inl gh0_broken))] := hD
    refine lv_aload_n hx hb dX6_addSlave_42 rfl (lv_at hl 0 rfl) ?_
    refine va_get (D := (dC, dI)) (ci := 6) (v := .ref h0_broken) (C := RX6) (T := TX6) (N := 13) hx hb hts hnX6 hown hK hP 0 rfl rfl 3 (by decide) hf21 (fun _ h9 => h9) rfl dX6_addSlave_43 ?_
    refine lv_aload_n hx hb dX6_addSlave_46 rfl (lv_at hl 0 rfl) ?_
    refine va_get (D := (dC, dI)) (ci := 6) (v := .int h0_slaves) (C := RX6) (T := TX6) (N := 13) hx hb hts hnX6 hown hK hP 0 rfl rfl 8 (by decide) hf42 (fun _ h9 => h9) rfl dX6_addSlave_47 ?_
    refine lv_iload hx hb dX6_addSlave_50 (lv_at hl 4 rfl) ?_
    refine yg_zast hx hb hK hP hD hS 4 1 rfl rfl (yr_in hq12_1 (by decide) (by decide)) dX6_addSlave_52 (fun f52 ef52 H locs hP hD hS => ?_)
    have hP : va_P (dC, dI) vwCl [(h0, .inr (6, [.ref h0_first, .ref h0_last, .ref h0_wait, .ref h0_broken, .ref h0_words, .ref h0_kinds, .ref h0_values, .ref h0_owners, .int h0_slaves, .int h0_registers, .int h0_depth, .int h0_limit, .int h0_changes])), (h0_first, .inl (cyI, 8, .inl f21)), (h0_last, .inl (cyI, 8, .inl f31)), (h0_wait, .inl (cyI, 8, .inl f41)), (h0_broken, .inl (cyZ, 8, .inl f52))] H := hP
    have hD : va_D A [(h0, .inr (6, [.ref h0_first, .ref h0_last, .ref h0_wait, .ref h0_broken, .ref h0_words, .ref h0_kinds, .ref h0_values, .ref h0_owners, .int h0_slaves, .int h0_registers, .int h0_depth, .int h0_limit, .int h0_changes])), (h0_first, .inl (cyI, 8, .inl f21)), (h0_last, .inl (cyI, 8, .inl f31)), (h0_wait, .inl (cyI, 8, .inl f41)), (h0_broken, .inl (cyZ, 8, .inl f52))] := hD
    refine lv_aload_n hx hb dX6_addSlave_53 rfl (lv_at hl 0 rfl) ?_
    refine lv_dup hx hb dX6_addSlave_54 rfl ?_
    refine va_get (D := (dC, dI)) (ci := 6) (v := .int h0_slaves) (C := RX6) (T := TX6) (N := 13) hx hb hts hnX6 hown hK hP 0 rfl rfl 8 (by decide) hf42 (fun _ h9 => h9) rfl dX6_addSlave_55 ?_
    refine lv_iconst (v := 1) hx hb dX6_addSlave_58 (by decide) ?_
    refine lv_iadd hx hb dX6_addSlave_59 ?_
    refine lv_topi (fun v59 ev59 => ?_)
    have hq59_2 : yr 1 8 v59 := by rw [ev59]; exact yr_add hq12_1 (yrc (a := 1) (b := 1) (x := 1) (by decide) (by decide)) (by decide) (by decide) (by decide) (by decide)
    refine va_put (D := (dC, dI)) (ci := 6) (v := .int v59) (ty := .int) (C := RX6) (T := TX6) (N := 13) hx hb hts hnX6 tyX6 tyX6_ok nmX6 hown hK hP hD hS 0 rfl rfl 8 (by decide) hf42 (fun _ h9 => h9) rfl (by decide +kernel) rfl rfl (Nat.le_of_ble_eq_true rfl) dX6_addSlave_60 (fun H locs hP hD hS => ?_)
    have hP : va_P (dC, dI) vwCl [(h0, .inr (6, [.ref h0_first, .ref h0_last, .ref h0_wait, .ref h0_broken, .ref h0_words, .ref h0_kinds, .ref h0_values, .ref h0_owners, .int v59, .int h0_registers, .int h0_depth, .int h0_limit, .int h0_changes])), (h0_first, .inl (cyI, 8, .inl f21)), (h0_last, .inl (cyI, 8, .inl f31)), (h0_wait, .inl (cyI, 8, .inl f41)), (h0_broken, .inl (cyZ, 8, .inl f52))] H := hP
    have hD : va_D A [(h0, .inr (6, [.ref h0_first, .ref h0_last, .ref h0_wait, .ref h0_broken, .ref h0_words, .ref h0_kinds, .ref h0_values, .ref h0_owners, .int v59, .int h0_registers, .int h0_depth, .int h0_limit, .int h0_changes])), (h0_first, .inl (cyI, 8, .inl f21)), (h0_last, .inl (cyI, 8, .inl f31)), (h0_wait, .inl (cyI, 8, .inl f41)), (h0_broken, .inl (cyZ, 8, .inl f52))] := hD
    refine lv_aload_n hx hb dX6_addSlave_63 rfl (lv_at hl 0 rfl) ?_
    refine lv_dup hx hb dX6_addSlave_64 rfl ?_
    refine va_get (D := (dC, dI)) (ci := 6) (v := .int h0_changes) (C := RX6) (T := TX6) (N := 13) hx hb hts hnX6 hown hK hP 0 rfl rfl 12 (by decide) hf45 (fun _ h9 => h9) rfl dX6_addSlave_65 ?_
    refine lv_iconst (v := 1) hx hb dX6_addSlave_68 (by decide) ?_
    refine lv_iadd hx hb dX6_addSlave_69 ?_
    refine lv_topi (fun v69 ev69 => ?_)
    refine va_put (D := (dC, dI)) (ci := 6) (v := .int v69) (ty := .int) (C := RX6) (T := TX6) (N := 13) hx hb hts hnX6 tyX6 tyX6_ok nmX6 hown hK hP hD hS 0 rfl rfl 12 (by decide) hf45 (fun _ h9 => h9) rfl (by decide +kernel) rfl rfl (Nat.le_of_ble_eq_true rfl) dX6_addSlave_70 (fun H locs hP hD hS => ?_)
    have hP : va_P (dC, dI) vwCl [(h0, .inr (6, [.ref h0_first, .ref h0_last, .ref h0_wait, .ref h0_broken, .ref h0_words, .ref h0_kinds, .ref h0_values, .ref h0_owners, .int v59, .int h0_registers, .int h0_depth, .int h0_limit, .int v69])), (h0_first, .inl (cyI, 8, .inl f21)), (h0_last, .inl (cyI, 8, .inl f31)), (h0_wait, .inl (cyI, 8, .inl f41)), (h0_broken, .inl (cyZ, 8, .inl f52))] H := hP
    have hD : va_D A [(h0, .inr (6, [.ref h0_first, .ref h0_last, .ref h0_wait, .ref h0_broken, .ref h0_words, .ref h0_kinds, .ref h0_values, .ref h0_owners, .int v59, .int h0_registers, .int h0_depth, .int h0_limit, .int v69])), (h0_first, .inl (cyI, 8, .inl f21)), (h0_last, .inl (cyI, 8, .inl f31)), (h0_wait, .inl (cyI, 8, .inl f41)), (h0_broken, .inl (cyZ, 8, .inl f52))] := hD
    refine lv_aload_n hx hb dX6_addSlave_73 rfl (lv_at hl 0 rfl) ?_
    refine va_get (D := (dC, dI)) (ci := 6) (v := .int v59) (C := RX6) (T := TX6) (N := 13) hx hb hts hnX6 hown hK hP 0 rfl rfl 8 (by decide) hf42 (fun _ h9 => h9) rfl dX6_addSlave_74 ?_
    refine lv_iconst (v := 1) hx hb dX6_addSlave_77 (by decide) ?_
    refine lv_isub hx hb dX6_addSlave_78 ?_
    refine lv_topi (fun v78 ev78 => ?_)
    have hq78_3 : yr 0 7 v78 := by rw [ev78]; exact yr_sub hq59_2 (yrc (a := 1) (b := 1) (x := 1) (by decide) (by decide)) (by decide) (by decide) (by decide) (by decide)
    refine W.widen (k := 0) (n := 0) (Nat.le_of_ble_eq_true rfl) (Nat.le_of_ble_eq_true rfl) ?_
    exact yy_iret (v := v78) (((fun k0_ => match k0_ with | 0 => v59 | 1 => v69 | _ => 0), (fun k0_ => match k0_ with | 0 => f21 | 1 => f31 | 2 => f41 | 3 => f52 | _ => fun _ => 0)) : yU) hx hb hr hlk rfl hsz hAe hK hP hD hS [0, 1, 2, 3, 4] rfl rfl (by decide) ⟨(yr_w hq78_3 (by decide) (by decide)), (yr_w hq59_2 (by decide) (by decide))⟩ dX6_addSlave_79
  · have hq9_4 : yr 8 8 h0_slaves := yr_leR (yrc (a := 8) (b := 8) (x := 8) (by decide) (by decide)) h_h0_slaves (Int32.not_lt.mp c6) (by decide)
    refine lv_bipush (v := (-4)) hx hb dX6_addSlave_9 (by decide) ?_
    refine W.widen (k := 0) (n := 0) (Nat.le_of_ble_eq_true rfl) (Nat.le_of_ble_eq_true rfl) ?_
    exact yy_iret (v := (-4)) (((fun k0_ => match k0_ with | 0 => h0_slaves | 1 => h0_changes | _ => 0), (fun k0_ => match k0_ with | 0 => gh0_first | 1 => gh0_last | 2 => gh0_wait | 3 => gh0_broken | _ => fun _ => 0)) : yU) hx hb hr hlk rfl hsz hAe hK hP hD hS [0, 1, 2, 3, 4] rfl rfl (by decide) ⟨(yrc (a := (-4)) (b := 7) (x := (-4)) (by decide) (by decide)), (yr_w hq9_4 (by decide) (by decide))⟩ dX6_addSlave_11
set_option maxHeartbeats 4000000 in
set_option maxRecDepth 100000 in
theorem g_addRegister (l : Launch) (dC : Nat → ClassId) (dI : Nat → Nat → Nat) (cyI cyZ cyO : ClassId) (sz : Nat) (h0 : Nat) (h0_slaves : Int32) (h0_registers : Int32) (h0_depth : Int32) (h0_limit : Int32) (h0_changes : Int32) (h0_first : Nat) (h0_last : Nat) (h0_wait : Nat) (h0_broken : Nat) (h0_words : Nat) (gh0_words : Nat → Int32) (h0_kinds : Nat) (gh0_kinds : Nat → Int32) (h0_values : Nat) (gh0_values : Nat → Int32) (h0_owners : Nat) (gh0_owners : Nat → Int32) (a : Int32) (b : Int32) (w : Int32) (k : Int32) (h_h0_slaves : yr 0 8 h0_slaves) (h_h0_registers : yr 0 48 h0_registers) (h_h0_depth : yr 0 4 h0_depth) : Met l yX6_addRegister wsX6_addRegister ({ frames := 0, cells := 0, slots := 0, locals := 0 }) (yPre [.ref h0, .int a, .int b, .int w, .int k] (dC, dI) [(h0, .inr (6, [.ref h0_first, .ref h0_last, .ref h0_wait, .ref h0_broken, .ref h0_words, .ref h0_kinds, .ref h0_values, .ref h0_owners, .int h0_slaves, .int h0_registers, .int h0_depth, .int h0_limit, .int h0_changes])), (h0_words, .inl (cyI, 48, .inl gh0_words)), (h0_kinds, .inl (cyI, 48, .inl gh0_kinds)), (h0_values, .inl (cyI, 48, .inl gh0_values)), (h0_owners, .inl (cyI, 48, .inl gh0_owners))] (yT cyI cyZ cyO) sz) (yQv (fun (u : yU) => yr 0 48 (u.1 0)) (dC, dI) [(h0, .inr (6, [.ref h0_first, .ref h0_last, .ref h0_wait, .ref h0_broken, .ref h0_words, .ref h0_kinds, .ref h0_values, .ref h0_owners, .int h0_slaves, .int h0_registers, .int h0_depth, .int h0_limit, .int h0_changes])), (h0_words, .inl (cyI, 48, .inl gh0_words)), (h0_kinds, .inl (cyI, 48, .inl gh0_kinds)), (h0_values, .inl (cyI, 48, .inl gh0_values)), (h0_owners, .inl (cyI, 48, .inl gh0_owners))] (yT cyI cyZ cyO) sz (fun u => [(h0, .inr (6, [.ref h0_first, .ref h0_last, .ref h0_wait, .ref h0_broken, .ref h0_words, .ref h0_kinds, .ref h0_values, .ref h0_owners, .int h0_slaves, .int (u.1 0), .int h0_depth, .int h0_limit, .int (u.1 1)])), (h0_words, .inl (cyI, 48, .inl (u.2 0))), (h0_kinds, .inl (cyI, 48, .inl (u.2 1))), (h0_values, .inl (cyI, 48, .inl (u.2 2))), (h0_owners, .inl (cyI, 48, .inl (u.2 3)))])) 0 0 (va_A [(h0, .inr (6, [.ref h0_first, .ref h0_last, .ref h0_wait, .ref h0_broken, .ref h0_words, .ref h0_kinds, .ref h0_values, .ref h0_owners, .int h0_slaves, .int h0_registers, .int h0_depth, .int h0_limit, .int h0_changes])), (h0_words, .inl (cyI, 48, .inl gh0_words)), (h0_kinds, .inl (cyI, 48, .inl gh0_kinds)), (h0_values, .inl (cyI, 48, .inl gh0_values)), (h0_owners, .inl (cyI, 48, .inl gh0_owners))] sz) := by
  refine yMet (cc := cX6_addRegister) (maxL := 5) (ret := none) (by decide) rfl (Nat.le_of_ble_eq_true rfl) ?_
  intro p e s m below meth c A hx hb hr hlk hml hts hown hnm hsz hAe hP hK hD hA hS ls hl
  have hl : lv_has ls 5 [(0, .ref h0), (1, .int a), (2, .int b), (3, .int w), (4, .int k)] := hl
  have hf25 := hts (.fieldLink RX6 25 "BusBridge$Plan" "words" "[I") (by decide +kernel)
  have hf28 := hts (.fieldLink RX6 28 "BusBridge$Plan" "kinds" "[I") (by decide +kernel)
  have hf31 := hts (.fieldLink RX6 31 "BusBridge$Plan" "values" "[I") (by decide +kernel)
  have hf34 := hts (.fieldLink RX6 34 "BusBridge$Plan" "owners" "[I") (by decide +kernel)
  have hf45 := hts (.fieldLink RX6 45 "BusBridge$Plan" "changes" "I") (by decide +kernel)
  have hf48 := hts (.fieldLink RX6 48 "BusBridge$Plan" "registers" "I") (by decide +kernel)
  have hnX6 : ∀ w ∈ wsX60, w ∈ wsX6_addRegister := by decide +kernel
  refine lv_aload_n hx hb dX6_addRegister_0 rfl (lv_at hl 0 rfl) ?_
  refine va_get (D := (dC, dI)) (ci := 6) (v := .int h0_registers) (C := RX6) (T := TX6) (N := 13) hx hb hts hnX6 hown hK hP 0 rfl rfl 9 (by decide) hf48 (fun _ h9 => h9) rfl dX6_addRegister_1 ?_
  refine lv_bipush (v := 48) hx hb dX6_addRegister_4 (by decide) ?_
  refine lv_icmp_lt (tgt := 10) hx hb dX6_addRegister_6 (by decide) (fun c6 => ?_) (fun c6 => ?_)
  · have hq10_1 : yr 0 47 h0_registers := yr_ltL h_h0_registers (yrc (a := 48) (b := 48) (x := 48) (by decide) (by decide)) c6 (by decide)
    refine lv_aload_n hx hb dX6_addRegister_10 rfl (lv_at hl 0 rfl) ?_
    refine va_get (D := (dC, dI)) (ci := 6) (v := .ref h0_words) (C := RX6) (T := TX6) (N := 13) hx hb hts hnX6 hown hK hP 0 rfl rfl 4 (by decide) hf25 (fun _ h9 => h9) rfl dX6_addRegister_11 ?_
    refine lv_aload_n hx hb dX6_addRegister_14 rfl (lv_at hl 0 rfl) ?_
    refine va_get (D := (dC, dI)) (ci := 6) (v := .int h0_registers) (C := RX6) (T := TX6) (N := 13) hx hb hts hnX6 hown hK hP 0 rfl rfl 9 (by decide) hf48 (fun _ h9 => h9) rfl dX6_addRegister_15 ?_
    refine lv_iload_n hx hb dX6_addRegister_18 rfl (lv_at hl 1 rfl) ?_
    refine yg_iast hx hb hK hP hD hS 1 0 rfl rfl (yr_in hq10_1 (by decide) (by decide)) dX6_addRegister_19 (fun f19 ef19 H locs hP hD hS => ?_)
    have hP : va_P (dC, dI) vwCl [(h0, .inr (6, [.ref h0_first, .ref h0_last, .ref h0_wait, .ref h0_broken, .ref h0_words, .ref h0_kinds, .ref h0_values, .ref h0_owners, .int h0_slaves, .int h0_registers, .int h0_depth, .int h0_limit, .int h0_changes])), (h0_words, .inl (cyI, 48, .inl f19)), (h0_kinds, .inl (cyI, 48, .inl gh0_kinds)), (h0_values, .inl (cyI, 48, .inl gh0_values)), (h0_owners, .inl (cyI, 48, .inl gh0_owners))] H := hP
    have hD : va_D A [(h0, .inr (6, [.ref h0_first, .ref h0_last, .ref h0_wait, .ref h0_broken, .ref h0_words, .ref h0_kinds, .ref h0_values, .ref h0_owners, .int h0_slaves, .int h0_registers, .int h0_depth, .int h0_limit, .int h0_changes])), (h0_words, .inl (cyI, 48, .inl f19)), (h0_kinds, .inl (cyI, 48, .inl gh0_kinds)), (h0_values, .inl (cyI, 48, .inl gh0_values)), (h0_owners, .inl (cyI, 48, .inl gh0_owners))] := hD
    refine lv_aload_n hx hb dX6_addRegister_20 rfl (lv_at hl 0 rfl) ?_
    refine va_get (D := (dC, dI)) (ci := 6) (v := .ref h0_kinds) (C := RX6) (T := TX6) (N := 13) hx hb hts hnX6 hown hK hP 0 rfl rfl 5 (by decide) hf28 (fun _ h9 => h9) rfl dX6_addRegister_21 ?_
    refine lv_aload_n hx hb dX6_addRegister_24 rfl (lv_at hl 0 rfl) ?_
    refine va_get (D := (dC, dI)) (ci := 6) (v := .int h0_registers) (C := RX6) (T := TX6) (N := 13) hx hb hts hnX6 hown hK hP 0 rfl rfl 9 (by decide) hf48 (fun _ h9 => h9) rfl dX6_addRegister_25 ?_
    refine lv_iload_n hx hb dX6_addRegister_28 rfl (lv_at hl 2 rfl) ?_
    refine yg_iast hx hb hK hP hD hS 2 0 rfl rfl (yr_in hq10_1 (by decide) (by decide)) dX6_addRegister_29 (fun f29 ef29 H locs hP hD hS => ?_)
    have hP : va_P (dC, dI) vwCl [(h0, .inr (6, [.ref h0_first, .ref h0_last, .ref h0_wait, .ref h0_broken, .ref h0_words, .ref h0_kinds, .ref h0_values, .ref h0_owners, .int h0_slaves, .int h0_registers, .int h0_depth, .int h0_limit, .int h0_changes])), (h0_words, .inl (cyI, 48, .inl f19)), (h0_kinds, .inl (cyI, 48, .inl f29)), (h0_values, .inl (cyI, 48, .inl gh0_values)), (h0_owners, .inl (cyI, 48, .inl gh0_owners))] H := hP
    have hD : va_D A [(h0, .inr (6, [.ref h0_first, .ref h0_last, .ref h0_wait, .ref h0_broken, .ref h0_words, .ref h0_kinds, .ref h0_values, .ref h0_owners, .int h0_slaves, .int h0_registers, .int h0_depth, .int h0_limit, .int h0_changes])), (h0_words, .inl (cyI, 48, .inl f19)), (h0_kinds, .inl (cyI, 48, .inl f29)), (h0_values, .inl (cyI, 48, .inl gh0_values)), (h0_owners, .inl (cyI, 48, .inl gh0_owners))] := hD
    refine lv_aload_n hx hb dX6_addRegister_30 rfl (lv_at hl 0 rfl) ?_
    refine va_get (D := (dC, dI)) (ci := 6) (v := .ref h0_values) (C := RX6) (T := TX6) (N := 13) hx hb hts hnX6 hown hK hP 0 rfl rfl 6 (by decide) hf31 (fun _ h9 => h9) rfl dX6_addRegister_31 ?_
    refine lv_aload_n hx hb dX6_addRegister_34 rfl (lv_at hl 0 rfl) ?_
    refine va_get (D := (dC, dI)) (ci := 6) (v := .int h0_registers) (C := RX6) (T := TX6) (N := 13) hx hb hts hnX6 hown hK hP 0 rfl rfl 9 (by decide) hf48 (fun _ h9 => h9) rfl dX6_addRegister_35 ?_
    refine lv_iload_n hx hb dX6_addRegister_38 rfl (lv_at hl 3 rfl) ?_
    refine yg_iast hx hb hK hP hD hS 3 0 rfl rfl (yr_in hq10_1 (by decide) (by decide)) dX6_addRegister_39 (fun f39 ef39 H locs hP hD hS => ?_)
    have hP : va_P (dC, dI) vwCl [(h0, .inr (6, [.ref h0_first, .ref h0_last, .ref h0_wait, .ref h0_broken, .ref h0_words, .ref h0_kinds, .ref h0_values, .ref h0_owners, .int h0_slaves, .int h0_registers, .int h0_depth, .int h0_limit, .int h0_changes])), (h0_words, .inl (cyI, 48, .inl f19)), (h0_kinds, .inl (cyI, 48, .inl f29)), (h0_values, .inl (cyI, 48, .inl f39)), (h0_owners, .inl (cyI, 48, .inl gh0_owners))] H := hP
    have hD : va_D A [(h0, .inr (6, [.ref h0_first, .ref h0_last, .ref h0_wait, .ref h0_broken, .ref h0_words, .ref h0_kinds, .ref h0_values, .ref h0_owners, .int h0_slaves, .int h0_registers, .int h0_depth, .int h0_limit, .int h0_changes])), (h0_words, .inl (cyI, 48, .inl f19)), (h0_kinds, .inl (cyI, 48, .inl f29)), (h0_values, .inl (cyI, 48, .inl f39)), (h0_owners, .inl (cyI, 48, .inl gh0_owners))] := hD
    refine lv_aload_n hx hb dX6_addRegister_40 rfl (lv_at hl 0 rfl) ?_
    refine va_get (D := (dC, dI)) (ci := 6) (v := .ref h0_owners) (C := RX6) (T := TX6) (N := 13) hx hb hts hnX6 hown hK hP 0 rfl rfl 7 (by decide) hf34 (fun _ h9 => h9) rfl dX6_addRegister_41 ?_
    refine lv_aload_n hx hb dX6_addRegister_44 rfl (lv_at hl 0 rfl) ?_
    refine va_get (D := (dC, dI)) (ci := 6) (v := .int h0_registers) (C := RX6) (T := TX6) (N := 13) hx hb hts hnX6 hown hK hP 0 rfl rfl 9 (by decide) hf48 (fun _ h9 => h9) rfl dX6_addRegister_45 ?_
    refine lv_iload hx hb dX6_addRegister_48 (lv_at hl 4 rfl) ?_
    refine yg_iast hx hb hK hP hD hS 4 0 rfl rfl (yr_in hq10_1 (by decide) (by decide)) dX6_addRegister_50 (fun f50 ef50 H locs hP hD hS => ?_)
    have hP : va_P (dC, dI) vwCl [(h0, .inr (6, [.ref h0_first, .ref h0_last, .ref h0_wait, .ref h0_broken, .ref h0_words, .ref h0_kinds, .ref h0_values, .ref h0_owners, .int h0_slaves, .int h0_registers, .int h0_depth, .int h0_limit, .int h0_changes])), (h0_words, .inl (cyI, 48, .inl f19)), (h0_kinds, .inl (cyI, 48, .inl f29)), (h0_values, .inl (cyI, 48, .inl f39)), (h0_owners, .inl (cyI, 48, .inl f50))] H := hP
    have hD : va_D A [(h0, .inr (6, [.ref h0_first, .ref h0_last, .ref h0_wait, .ref h0_broken, .ref h0_words, .ref h0_kinds, .ref h0_values, .ref h0_owners, .int h0_slaves, .int h0_registers, .int h0_depth, .int h0_limit, .int h0_changes])), (h0_words, .inl (cyI, 48, .inl f19)), (h0_kinds, .inl (cyI, 48, .inl f29)), (h0_values, .inl (cyI, 48, .inl f39)), (h0_owners, .inl (cyI, 48, .inl f50))] := hD
    refine lv_aload_n hx hb dX6_addRegister_51 rfl (lv_at hl 0 rfl) ?_
    refine lv_dup hx hb dX6_addRegister_52 rfl ?_
    refine va_get (D := (dC, dI)) (ci := 6) (v := .int h0_registers) (C := RX6) (T := TX6) (N := 13) hx hb hts hnX6 hown hK hP 0 rfl rfl 9 (by decide) hf48 (fun _ h9 => h9) rfl dX6_addRegister_53 ?_
    refine lv_iconst (v := 1) hx hb dX6_addRegister_56 (by decide) ?_
    refine lv_iadd hx hb dX6_addRegister_57 ?_
    refine lv_topi (fun v57 ev57 => ?_)
    have hq57_2 : yr 1 48 v57 := by rw [ev57]; exact yr_add hq10_1 (yrc (a := 1) (b := 1) (x := 1) (by decide) (by decide)) (by decide) (by decide) (by decide) (by decide)
    refine va_put (D := (dC, dI)) (ci := 6) (v := .int v57) (ty := .int) (C := RX6) (T := TX6) (N := 13) hx hb hts hnX6 tyX6 tyX6_ok nmX6 hown hK hP hD hS 0 rfl rfl 9 (by decide) hf48 (fun _ h9 => h9) rfl (by decide +kernel) rfl rfl (Nat.le_of_ble_eq_true rfl) dX6_addRegister_58 (fun H locs hP hD hS => ?_)
    have hP : va_P (dC, dI) vwCl [(h0, .inr (6, [.ref h0_first, .ref h0_last, .ref h0_wait, .ref h0_broken, .ref h0_words, .ref h0_kinds, .ref h0_values, .ref h0_owners, .int h0_slaves, .int v57, .int h0_depth, .int h0_limit, .int h0_changes])), (h0_words, .inl (cyI, 48, .inl f19)), (h0_kinds, .inl (cyI, 48, .inl f29)), (h0_values, .inl (cyI, 48, .inl f39)), (h0_owners, .inl (cyI, 48, .inl f50))] H := hP
    have hD : va_D A [(h0, .inr (6, [.ref h0_first, .ref h0_last, .ref h0_wait, .ref h0_broken, .ref h0_words, .ref h0_kinds, .ref h0_values, .ref h0_owners, .int h0_slaves, .int v57, .int h0_depth, .int h0_limit, .int h0_changes])), (h0_words, .inl (cyI, 48, .inl f19)), (h0_kinds, .inl (cyI, 48, .inl f29)), (h0_values, .inl (cyI, 48, .inl f39)), (h0_owners, .inl (cyI, 48, .inl f50))] := hD
    refine lv_aload_n hx hb dX6_addRegister_61 rfl (lv_at hl 0 rfl) ?_
    refine lv_dup hx hb dX6_addRegister_62 rfl ?_
    refine va_get (D := (dC, dI)) (ci := 6) (v := .int h0_changes) (C := RX6) (T := TX6) (N := 13) hx hb hts hnX6 hown hK hP 0 rfl rfl 12 (by decide) hf45 (fun _ h9 => h9) rfl dX6_addRegister_63 ?_
    refine lv_iconst (v := 1) hx hb dX6_addRegister_66 (by decide) ?_
    refine lv_iadd hx hb dX6_addRegister_67 ?_
    refine lv_topi (fun v67 ev67 => ?_)
    refine va_put (D := (dC, dI)) (ci := 6) (v := .int v67) (ty := .int) (C := RX6) (T := TX6) (N := 13) hx hb hts hnX6 tyX6 tyX6_ok nmX6 hown hK hP hD hS 0 rfl rfl 12 (by decide) hf45 (fun _ h9 => h9) rfl (by decide +kernel) rfl rfl (Nat.le_of_ble_eq_true rfl) dX6_addRegister_68 (fun H locs hP hD hS => ?_)
    have hP : va_P (dC, dI) vwCl [(h0, .inr (6, [.ref h0_first, .ref h0_last, .ref h0_wait, .ref h0_broken, .ref h0_words, .ref h0_kinds, .ref h0_values, .ref h0_owners, .int h0_slaves, .int v57, .int h0_depth, .int h0_limit, .int v67])), (h0_words, .inl (cyI, 48, .inl f19)), (h0_kinds, .inl (cyI, 48, .inl f29)), (h0_values, .inl (cyI, 48, .inl f39)), (h0_owners, .inl (cyI, 48, .inl f50))] H := hP
    have hD : va_D A [(h0, .inr (6, [.ref h0_first, .ref h0_last, .ref h0_wait, .ref h0_broken, .ref h0_words, .ref h0_kinds, .ref h0_values, .ref h0_owners, .int h0_slaves, .int v57, .int h0_depth, .int h0_limit, .int v67])), (h0_words, .inl (cyI, 48, .inl f19)), (h0_kinds, .inl (cyI, 48, .inl f29)), (h0_values, .inl (cyI, 48, .inl f39)), (h0_owners, .inl (cyI, 48, .inl f50))] := hD
    refine W.widen (k := 0) (n := 0) (Nat.le_of_ble_eq_true rfl) (Nat.le_of_ble_eq_true rfl) ?_
    exact yy_vret (((fun k0_ => match k0_ with | 0 => v57 | 1 => v67 | _ => 0), (fun k0_ => match k0_ with | 0 => f19 | 1 => f29 | 2 => f39 | 3 => f50 | _ => fun _ => 0)) : yU) hx hb hr hlk hsz hAe hK hP hD hS [0, 1, 2, 3, 4] rfl rfl (by decide) (yr_w hq57_2 (by decide) (by decide)) dX6_addRegister_71
  · have hq9_3 : yr 48 48 h0_registers := yr_leR (yrc (a := 48) (b := 48) (x := 48) (by decide) (by decide)) h_h0_registers (Int32.not_lt.mp c6) (by decide)
    refine W.widen (k := 0) (n := 0) (Nat.le_of_ble_eq_true rfl) (Nat.le_of_ble_eq_true rfl) ?_
    exact yy_vret (((fun k0_ => match k0_ with | 0 => h0_registers | 1 => h0_changes | _ => 0), (fun k0_ => match k0_ with | 0 => gh0_words | 1 => gh0_kinds | 2 => gh0_values | 3 => gh0_owners | _ => fun _ => 0)) : yU) hx hb hr hlk hsz hAe hK hP hD hS [0, 1, 2, 3, 4] rfl rfl (by decide) (yr_w hq9_3 (by decide) (by decide)) dX6_addRegister_9
set_option maxHeartbeats 4000000 in
set_option maxRecDepth 100000 in
theorem g_changeDepth (l : Launch) (dC : Nat → ClassId) (dI : Nat → Nat → Nat) (cyI cyZ cyO : ClassId) (sz : Nat) (h0 : Nat) (h0_slaves : Int32) (h0_registers : Int32) (h0_depth : Int32) (h0_limit : Int32) (h0_changes : Int32) (h0_first : Nat) (h0_last : Nat) (h0_wait : Nat) (h0_broken : Nat) (h0_words : Nat) (h0_kinds : Nat) (h0_values : Nat) (h0_owners : Nat) (n : Int32) (h_h0_slaves : yr 0 8 h0_slaves) (h_h0_registers : yr 0 48 h0_registers) (h_h0_depth : yr 0 4 h0_depth) (h_n : yr 0 4 n) : Met l yX6_changeDepth wsX6_changeDepth ({ frames := 0, cells := 0, slots := 0, locals := 0 }) (yPre [.ref h0, .int n] (dC, dI) [(h0, .inr (6, [.ref h0_first, .ref h0_last, .ref h0_wait, .ref h0_broken, .ref h0_words, .ref h0_kinds, .ref h0_values, .ref h0_owners, .int h0_slaves, .int h0_registers, .int h0_depth, .int h0_limit, .int h0_changes]))] (yT cyI cyZ cyO) sz) (yQi (fun (r : Int32) (u : yU) => yr 0 4 r ∧ yr 0 4 (u.1 0)) (dC, dI) [(h0, .inr (6, [.ref h0_first, .ref h0_last, .ref h0_wait, .ref h0_broken, .ref h0_words, .ref h0_kinds, .ref h0_values, .ref h0_owners, .int h0_slaves, .int h0_registers, .int h0_depth, .int h0_limit, .int h0_changes]))] (yT cyI cyZ cyO) sz (fun u => [(h0, .inr (6, [.ref h0_first, .ref h0_last, .ref h0_wait, .ref h0_broken, .ref h0_words, .ref h0_kinds, .ref h0_values, .ref h0_owners, .int h0_slaves, .int h0_registers, .int (u.1 0), .int h0_limit, .int (u.1 1)]))])) 0 0 (va_A [(h0, .inr (6, [.ref h0_first, .ref h0_last, .ref h0_wait, .ref h0_broken, .ref h0_words, .ref h0_kinds, .ref h0_values, .ref h0_owners, .int h0_slaves, .int h0_registers, .int h0_depth, .int h0_limit, .int h0_changes]))] sz) := by
  refine yMet (cc := cX6_changeDepth) (maxL := 3) (ret := (some .int)) (by decide) rfl (Nat.le_of_ble_eq_true rfl) ?_
  intro p e s m below meth c A hx hb hr hlk hml hts hown hnm hsz hAe hP hK hD hA hS ls hl
  have hl : lv_has ls 3 [(0, .ref h0), (1, .int n)] := hl
  have hf45 := hts (.fieldLink RX6 45 "BusBridge$Plan" "changes" "I") (by decide +kernel)
  have hf51 := hts (.fieldLink RX6 51 "BusBridge$Plan" "depth" "I") (by decide +kernel)
  have hnX6 : ∀ w ∈ wsX60, w ∈ wsX6_changeDepth := by decide +kernel
  refine lv_aload_n hx hb dX6_changeDepth_0 rfl (lv_at hl 0 rfl) ?_
  refine va_get (D := (dC, dI)) (ci := 6) (v := .int h0_depth) (C := RX6) (T := TX6) (N := 13) hx hb hts hnX6 hown hK hP 0 rfl rfl 10 (by decide) hf51 (fun _ h9 => h9) rfl dX6_changeDepth_1 ?_
  refine lv_istore_n (lv' := [(2, .int h0_depth), (0, .ref h0), (1, .int n)]) hx hb dX6_changeDepth_4 rfl hl (by decide) rfl (fun ls hl => ?_)
  refine lv_iload_n hx hb dX6_changeDepth_5 rfl (lv_at hl 2 rfl) ?_
  refine lv_iload_n hx hb dX6_changeDepth_6 rfl (lv_at hl 0 rfl) ?_
  have J25 : ∀ (j25_fh0_10 : Int32) (j25_fh0_12 : Int32) (H : Heap) (locs : List Loc) (ls : Array Slot), yr 0 4 j25_fh0_10 → va_P (dC, dI) vwCl [(h0, .inr (6, [.ref h0_first, .ref h0_last, .ref h0_wait, .ref h0_broken, .ref h0_words, .ref h0_kinds, .ref h0_values, .ref h0_owners, .int h0_slaves, .int h0_registers, .int j25_fh0_10, .int h0_limit, .int j25_fh0_12]))] H → va_D A [(h0, .inr (6, [.ref h0_first, .ref h0_last, .ref h0_wait, .ref h0_broken, .ref h0_words, .ref h0_kinds, .ref h0_values, .ref h0_owners, .int h0_slaves, .int h0_registers, .int j25_fh0_10, .int h0_limit, .int j25_fh0_12]))] → va_S A s.heap H locs → lv_has ls 3 [(0, .ref h0), (1, .int n), (2, .int h0_depth)] → W p l e ({ frames := 0, cells := 0, slots := 0, locals := 0 } : Room) s m [.ref h0, .int n].toArray below meth c H locs 0 0 (MQ below (yQi (fun (r : Int32) (u : yU) => yr 0 4 r ∧ yr 0 4 (u.1 0)) (dC, dI) [(h0, .inr (6, [.ref h0_first, .ref h0_last, .ref h0_wait, .ref h0_broken, .ref h0_words, .ref h0_kinds, .ref h0_values, .ref h0_owners, .int h0_slaves, .int h0_registers, .int h0_depth, .int h0_limit, .int h0_changes]))] (yT cyI cyZ cyO) sz (fun u => [(h0, .inr (6, [.ref h0_first, .ref h0_last, .ref h0_wait, .ref h0_broken, .ref h0_words, .ref h0_kinds, .ref h0_values, .ref h0_owners, .int h0_slaves, .int h0_registers, .int (u.1 0), .int h0_limit, .int (u.1 1)]))])) [.ref h0, .int n].toArray s 0 0 A) (F0 m 25 ls []) := by
    intro j25_fh0_10 j25_fh0_12 H locs ls hj25_fh0_10  hP hD hS hl
    refine lv_iload_n hx hb dX6_changeDepth_25 rfl (lv_at hl 2 rfl) ?_
    refine W.widen (k := 0) (n := 0) (Nat.le_of_ble_eq_true rfl) (Nat.le_of_ble_eq_true rfl) ?_
    exact yy_iret (v := h0_depth) (((fun k0_ => match k0_ with | 0 => j25_fh0_10 | 1 => j25_fh0_12 | _ => 0), (fun _ _ => 0)) : yU) hx hb hr hlk rfl hsz hAe hK hP hD hS [0] rfl rfl (by decide) ⟨h_h0_depth, hj25_fh0_10⟩ dX6_changeDepth_26
  refine lv_icmp_eq (tgt := 25) hx hb dX6_changeDepth_7 (by decide) (fun c7 => ?_) (fun c7 => ?_)
  · exact J25 h0_depth h0_changes _ _ _ h_h0_depth  (hP.sub [0] rfl) (hD.sub [0] (by decide) rfl) hS (lv_sub hl [1, 2, 0] rfl)
  · refine lv_aload_n hx hb dX6_changeDepth_10 rfl (lv_at hl 1 rfl) ?_
    refine lv_iload_n hx hb dX6_changeDepth_11 rfl (lv_at hl 2 rfl) ?_
    refine va_put (D := (dC, dI)) (ci := 6) (v := .int n) (ty := .int) (C := RX6) (T := TX6) (N := 13) hx hb hts hnX6 tyX6 tyX6_ok nmX6 hown hK hP hD hS 0 rfl rfl 10 (by decide) hf51 (fun _ h9 => h9) rfl (by decide +kernel) rfl rfl (Nat.le_of_ble_eq_true rfl) dX6_changeDepth_12 (fun H locs hP hD hS => ?_)
    have hP : va_P (dC, dI) vwCl [(h0, .inr (6, [.ref h0_first, .ref h0_last, .ref h0_wait, .ref h0_broken, .ref h0_words, .ref h0_kinds, .ref h0_values, .ref h0_owners, .int h0_slaves, .int h0_registers, .int n, .int h0_limit, .int h0_changes]))] H := hP
    have hD : va_D A [(h0, .inr (6, [.ref h0_first, .ref h0_last, .ref h0_wait, .ref h0_broken, .ref h0_words, .ref h0_kinds, .ref h0_values, .ref h0_owners, .int h0_slaves, .int h0_registers, .int n, .int h0_limit, .int h0_changes]))] := hD
    refine lv_aload_n hx hb dX6_changeDepth_15 rfl (lv_at hl 1 rfl) ?_
    refine lv_dup hx hb dX6_changeDepth_16 rfl ?_
    refine va_get (D := (dC, dI)) (ci := 6) (v := .int h0_changes) (C := RX6) (T := TX6) (N := 13) hx hb hts hnX6 hown hK hP 0 rfl rfl 12 (by decide) hf45 (fun _ h9 => h9) rfl dX6_changeDepth_17 ?_
    refine lv_iconst (v := 1) hx hb dX6_changeDepth_20 (by decide) ?_
    refine lv_iadd hx hb dX6_changeDepth_21 ?_
    refine lv_topi (fun v21 ev21 => ?_)
    refine va_put (D := (dC, dI)) (ci := 6) (v := .int v21) (ty := .int) (C := RX6) (T := TX6) (N := 13) hx hb hts hnX6 tyX6 tyX6_ok nmX6 hown hK hP hD hS 0 rfl rfl 12 (by decide) hf45 (fun _ h9 => h9) rfl (by decide +kernel) rfl rfl (Nat.le_of_ble_eq_true rfl) dX6_changeDepth_22 (fun H locs hP hD hS => ?_)
    have hP : va_P (dC, dI) vwCl [(h0, .inr (6, [.ref h0_first, .ref h0_last, .ref h0_wait, .ref h0_broken, .ref h0_words, .ref h0_kinds, .ref h0_values, .ref h0_owners, .int h0_slaves, .int h0_registers, .int n, .int h0_limit, .int v21]))] H := hP
    have hD : va_D A [(h0, .inr (6, [.ref h0_first, .ref h0_last, .ref h0_wait, .ref h0_broken, .ref h0_words, .ref h0_kinds, .ref h0_values, .ref h0_owners, .int h0_slaves, .int h0_registers, .int n, .int h0_limit, .int v21]))] := hD
    exact J25 n v21 _ _ _ h_n  (hP.sub [0] rfl) (hD.sub [0] (by decide) rfl) hS (lv_sub hl [1, 2, 0] rfl)
set_option maxHeartbeats 4000000 in
set_option maxRecDepth 100000 in
theorem g_changeLimit (l : Launch) (dC : Nat → ClassId) (dI : Nat → Nat → Nat) (cyI cyZ cyO : ClassId) (sz : Nat) (h0 : Nat) (h0_slaves : Int32) (h0_registers : Int32) (h0_depth : Int32) (h0_limit : Int32) (h0_changes : Int32) (h0_first : Nat) (h0_last : Nat) (h0_wait : Nat) (h0_broken : Nat) (h0_words : Nat) (h0_kinds : Nat) (h0_values : Nat) (h0_owners : Nat) (n : Int32) (h_h0_slaves : yr 0 8 h0_slaves) (h_h0_registers : yr 0 48 h0_registers) (h_h0_depth : yr 0 4 h0_depth) : Met l yX6_changeLimit wsX6_changeLimit ({ frames := 0, cells := 0, slots := 0, locals := 0 }) (yPre [.ref h0, .int n] (dC, dI) [(h0, .inr (6, [.ref h0_first, .ref h0_last, .ref h0_wait, .ref h0_broken, .ref h0_words, .ref h0_kinds, .ref h0_values, .ref h0_owners, .int h0_slaves, .int h0_registers, .int h0_depth, .int h0_limit, .int h0_changes]))] (yT cyI cyZ cyO) sz) (yQi (fun (r : Int32) (u : yU) => True) (dC, dI) [(h0, .inr (6, [.ref h0_first, .ref h0_last, .ref h0_wait, .ref h0_broken, .ref h0_words, .ref h0_kinds, .ref h0_values, .ref h0_owners, .int h0_slaves, .int h0_registers, .int h0_depth, .int h0_limit, .int h0_changes]))] (yT cyI cyZ cyO) sz (fun u => [(h0, .inr (6, [.ref h0_first, .ref h0_last, .ref h0_wait, .ref h0_broken, .ref h0_words, .ref h0_kinds, .ref h0_values, .ref h0_owners, .int h0_slaves, .int h0_registers, .int h0_depth, .int (u.1 0), .int (u.1 1)]))])) 0 0 (va_A [(h0, .inr (6, [.ref h0_first, .ref h0_last, .ref h0_wait, .ref h0_broken, .ref h0_words, .ref h0_kinds, .ref h0_values, .ref h0_owners, .int h0_slaves, .int h0_registers, .int h0_depth, .int h0_limit, .int h0_changes]))] sz) := by
  refine yMet (cc := cX6_changeLimit) (maxL := 3) (ret := (some .int)) (by decide) rfl (Nat.le_of_ble_eq_true rfl) ?_
  intro p e s m below meth c A hx hb hr hlk hml hts hown hnm hsz hAe hP hK hD hA hS ls hl
  have hl : lv_has ls 3 [(0, .ref h0), (1, .int n)] := hl
  have hf37 := hts (.fieldLink RX6 37 "BusBridge$Plan" "limit" "I") (by decide +kernel)
  have hf45 := hts (.fieldLink RX6 45 "BusBridge$Plan" "changes" "I") (by decide +kernel)
  have hnX6 : ∀ w ∈ wsX60, w ∈ wsX6_changeLimit := by decide +kernel
  refine lv_aload_n hx hb dX6_changeLimit_0 rfl (lv_at hl 0 rfl) ?_
  refine va_get (D := (dC, dI)) (ci := 6) (v := .int h0_limit) (C := RX6) (T := TX6) (N := 13) hx hb hts hnX6 hown hK hP 0 rfl rfl 11 (by decide) hf37 (fun _ h9 => h9) rfl dX6_changeLimit_1 ?_
  refine lv_istore_n (lv' := [(2, .int h0_limit), (0, .ref h0), (1, .int n)]) hx hb dX6_changeLimit_4 rfl hl (by decide) rfl (fun ls hl => ?_)
  refine lv_iload_n hx hb dX6_changeLimit_5 rfl (lv_at hl 2 rfl) ?_
  refine lv_iload_n hx hb dX6_changeLimit_6 rfl (lv_at hl 0 rfl) ?_
  have J25 : ∀ (j25_fh0_11 : Int32) (j25_fh0_12 : Int32) (H : Heap) (locs : List Loc) (ls : Array Slot), va_P (dC, dI) vwCl [(h0, .inr (6, [.ref h0_first, .ref h0_last, .ref h0_wait, .ref h0_broken, .ref h0_words, .ref h0_kinds, .ref h0_values, .ref h0_owners, .int h0_slaves, .int h0_registers, .int h0_depth, .int j25_fh0_11, .int j25_fh0_12]))] H → va_D A [(h0, .inr (6, [.ref h0_first, .ref h0_last, .ref h0_wait, .ref h0_broken, .ref h0_words, .ref h0_kinds, .ref h0_values, .ref h0_owners, .int h0_slaves, .int h0_registers, .int h0_depth, .int j25_fh0_11, .int j25_fh0_12]))] → va_S A s.heap H locs → lv_has ls 3 [(0, .ref h0), (1, .int n), (2, .int h0_limit)] → W p l e ({ frames := 0, cells := 0, slots := 0, locals := 0 } : Room) s m [.ref h0, .int n].toArray below meth c H locs 0 0 (MQ below (yQi (fun (r : Int32) (u : yU) => True) (dC, dI) [(h0, .inr (6, [.ref h0_first, .ref h0_last, .ref h0_wait, .ref h0_broken, .ref h0_words, .ref h0_kinds, .ref h0_values, .ref h0_owners, .int h0_slaves, .int h0_registers, .int h0_depth, .int h0_limit, .int h0_changes]))] (yT cyI cyZ cyO) sz (fun u => [(h0, .inr (6, [.ref h0_first, .ref h0_last, .ref h0_wait, .ref h0_broken, .ref h0_words, .ref h0_kinds, .ref h0_values, .ref h0_owners, .int h0_slaves, .int h0_registers, .int h0_depth, .int (u.1 0), .int (u.1 1)]))])) [.ref h0, .int n].toArray s 0 0 A) (F0 m 25 ls []) := by
    intro j25_fh0_11 j25_fh0_12 H locs ls   hP hD hS hl
    refine lv_iload_n hx hb dX6_changeLimit_25 rfl (lv_at hl 2 rfl) ?_
    refine W.widen (k := 0) (n := 0) (Nat.le_of_ble_eq_true rfl) (Nat.le_of_ble_eq_true rfl) ?_
    exact yy_iret (v := h0_limit) (((fun k0_ => match k0_ with | 0 => j25_fh0_11 | 1 => j25_fh0_12 | _ => 0), (fun _ _ => 0)) : yU) hx hb hr hlk rfl hsz hAe hK hP hD hS [0] rfl rfl (by decide) trivial dX6_changeLimit_26
  refine lv_icmp_eq (tgt := 25) hx hb dX6_changeLimit_7 (by decide) (fun c7 => ?_) (fun c7 => ?_)
  · exact J25 h0_limit h0_changes _ _ _   (hP.sub [0] rfl) (hD.sub [0] (by decide) rfl) hS (lv_sub hl [1, 2, 0] rfl)
  · refine lv_aload_n hx hb dX6_changeLimit_10 rfl (lv_at hl 1 rfl) ?_
    refine lv_iload_n hx hb dX6_changeLimit_11 rfl (lv_at hl 2 rfl) ?_
    refine va_put (D := (dC, dI)) (ci := 6) (v := .int n) (ty := .int) (C := RX6) (T := TX6) (N := 13) hx hb hts hnX6 tyX6 tyX6_ok nmX6 hown hK hP hD hS 0 rfl rfl 11 (by decide) hf37 (fun _ h9 => h9) rfl (by decide +kernel) rfl rfl (Nat.le_of_ble_eq_true rfl) dX6_changeLimit_12 (fun H locs hP hD hS => ?_)
    have hP : va_P (dC, dI) vwCl [(h0, .inr (6, [.ref h0_first, .ref h0_last, .ref h0_wait, .ref h0_broken, .ref h0_words, .ref h0_kinds, .ref h0_values, .ref h0_owners, .int h0_slaves, .int h0_registers, .int h0_depth, .int n, .int h0_changes]))] H := hP
    have hD : va_D A [(h0, .inr (6, [.ref h0_first, .ref h0_last, .ref h0_wait, .ref h0_broken, .ref h0_words, .ref h0_kinds, .ref h0_values, .ref h0_owners, .int h0_slaves, .int h0_registers, .int h0_depth, .int n, .int h0_changes]))] := hD
    refine lv_aload_n hx hb dX6_changeLimit_15 rfl (lv_at hl 1 rfl) ?_
    refine lv_dup hx hb dX6_changeLimit_16 rfl ?_
    refine va_get (D := (dC, dI)) (ci := 6) (v := .int h0_changes) (C := RX6) (T := TX6) (N := 13) hx hb hts hnX6 hown hK hP 0 rfl rfl 12 (by decide) hf45 (fun _ h9 => h9) rfl dX6_changeLimit_17 ?_
    refine lv_iconst (v := 1) hx hb dX6_changeLimit_20 (by decide) ?_
    refine lv_iadd hx hb dX6_changeLimit_21 ?_
    refine lv_topi (fun v21 ev21 => ?_)
    refine va_put (D := (dC, dI)) (ci := 6) (v := .int v21) (ty := .int) (C := RX6) (T := TX6) (N := 13) hx hb hts hnX6 tyX6 tyX6_ok nmX6 hown hK hP hD hS 0 rfl rfl 12 (by decide) hf45 (fun _ h9 => h9) rfl (by decide +kernel) rfl rfl (Nat.le_of_ble_eq_true rfl) dX6_changeLimit_22 (fun H locs hP hD hS => ?_)
    have hP : va_P (dC, dI) vwCl [(h0, .inr (6, [.ref h0_first, .ref h0_last, .ref h0_wait, .ref h0_broken, .ref h0_words, .ref h0_kinds, .ref h0_values, .ref h0_owners, .int h0_slaves, .int h0_registers, .int h0_depth, .int n, .int v21]))] H := hP
    have hD : va_D A [(h0, .inr (6, [.ref h0_first, .ref h0_last, .ref h0_wait, .ref h0_broken, .ref h0_words, .ref h0_kinds, .ref h0_values, .ref h0_owners, .int h0_slaves, .int h0_registers, .int h0_depth, .int n, .int v21]))] := hD
    exact J25 n v21 _ _ _   (hP.sub [0] rfl) (hD.sub [0] (by decide) rfl) hS (lv_sub hl [1, 2, 0] rfl)
set_option maxHeartbeats 4000000 in
set_option maxRecDepth 100000 in
theorem g_TaddA (l : Launch) (dC : Nat → ClassId) (dI : Nat → Nat → Nat) (cyI cyZ cyO : ClassId) (sz : Nat) (h0 : Nat) (h0_count : Int32) (h0_row : Nat) (gh0_row : Nat → Int32) (h_h0_count : yr 0 60 h0_count) : Met l yX8_add wsX8_add ({ frames := 1, cells := 0, slots := 0, locals := 20 }) (yPre [.ref h0] (dC, dI) [(h0, .inr (8, [.ref h0_row, .int 60, .int 9, .int h0_count])), (h0_row, .inl (cyI, 540, .inl gh0_row))] (yT cyI cyZ cyO) sz) (yQi (fun (r : Int32) (u : yU) => yr (-1) 59 r ∧ yr 0 60 (u.1 0)) (dC, dI) [(h0, .inr (8, [.ref h0_row, .int 60, .int 9, .int h0_count])), (h0_row, .inl (cyI, 540, .inl gh0_row))] (yT cyI cyZ cyO) sz (fun u => [(h0, .inr (8, [.ref h0_row, .int 60, .int 9, .int (u.1 0)])), (h0_row, .inl (cyI, 540, .inl (u.2 0)))])) 0 0 (va_A [(h0, .inr (8, [.ref h0_row, .int 60, .int 9, .int h0_count])), (h0_row, .inl (cyI, 540, .inl gh0_row))] sz) := by
  refine yMet (cc := cX8_add) (maxL := 2) (ret := (some .int)) (by decide) rfl (Nat.le_of_ble_eq_true rfl) ?_
  intro p e s m below meth c A hx hb hr hlk hml hts hown hnm hsz hAe hP hK hD hA hS ls hl
  have hl : lv_has ls 2 [(0, .ref h0)] := hl
  have hf13 := hts (.fieldLink RX8 13 "BusBridge$Table" "width" "I") (by decide +kernel)
  have hf22 := hts (.fieldLink RX8 22 "BusBridge$Table" "row" "[I") (by decide +kernel)
  have hf26 := hts (.fieldLink RX8 26 "BusBridge$Table" "count" "I") (by decide +kernel)
  have hnX8 : ∀ w ∈ wsX80, w ∈ wsX8_add := by decide +kernel
  refine lv_aload_n hx hb dX8_add_0 rfl (lv_at hl 0 rfl) ?_
  have hPc := hP.sub (ws' := [(h0, .inr (8, [.ref h0_row, .int 60, .int 9, .int h0_count]))]) [0] rfl
  have hDc := hD.sub (ws' := [(h0, .inr (8, [.ref h0_row, .int 60, .int 9, .int h0_count]))]) [0] (by decide) rfl
  refine yy_calli [0] [1] (wr := [(h0_row, .inl (cyI, 540, .inl gh0_row))]) (va_runV (As := []) (rest := []) ⟨hx, hb, hml, hown, hts⟩ (k_isFull l dC dI cyI cyZ cyO s.heap.size h0 h0_row 60 9 h0_count ) (cwV 0 hts gX8_add_X8_isFull rfl rfl rfl (by decide +kernel) ⟨Nat.le_of_ble_eq_true rfl, Nat.le_of_ble_eq_true rfl⟩) (yPreV hK hPc hDc (ci := 8) (q0 := 0) rfl rfl) rfl rfl hl.1 rfl (lv_room (Nat.le_of_ble_eq_true rfl)) dX8_add_1 ⟨Nat.le_of_ble_eq_true rfl, Nat.le_of_ble_eq_true rfl⟩) hP hD hS hA rfl rfl (by decide) (by decide) (fun r1 u1 H locs hw hP hD hS => ?_)
  have hP : va_P (dC, dI) vwCl [(h0_row, .inl (cyI, 540, .inl gh0_row)), (h0, .inr (8, [.ref h0_row, .int 60, .int 9, .int h0_count]))] H := hP
  have hD : va_D A [(h0_row, .inl (cyI, 540, .inl gh0_row)), (h0, .inr (8, [.ref h0_row, .int 60, .int 9, .int h0_count]))] := hD
  refine W.widen (k := 0) (n := 0) (Nat.le_of_ble_eq_true rfl) (Nat.le_of_ble_eq_true rfl) ?_
  have hw : r1 = (zB (60 ≤ h0_count)) := hw
  subst hw
  refine lv_if_eq (tgt := 9) hx hb dX8_add_4 (by decide) (fun c4 => ?_) (fun c4 => ?_)
  · have hp4 := zB0.mp c4
    have hq9_1 : yr 0 59 h0_count := yr_ltL h_h0_count (yrc (a := 60) (b := 60) (x := 60) (by decide) (by decide)) (Int32.not_le.mp hp4) (by decide)
    refine lv_aload_n hx hb dX8_add_9 rfl (lv_at hl 0 rfl) ?_
    refine va_get (D := (dC, dI)) (ci := 8) (v := .int h0_count) (C := RX8) (T := TX8) (N := 4) hx hb hts hnX8 hown hK hP 1 rfl rfl 3 (by decide) hf26 (fun _ h9 => h9) rfl dX8_add_10 ?_
    refine lv_aload_n hx hb dX8_add_13 rfl (lv_at hl 0 rfl) ?_
    refine va_get (D := (dC, dI)) (ci := 8) (v := .int 9) (C := RX8) (T := TX8) (N := 4) hx hb hts hnX8 hown hK hP 1 rfl rfl 2 (by decide) hf13 (fun _ h9 => h9) rfl dX8_add_14 ?_
    refine lv_imul hx hb dX8_add_17 ?_
    refine lv_topi (fun v17 ev17 => ?_)
    have hq17_2 : yr 0 531 v17 := by rw [ev17]; exact yr_mul hq9_1 (yrc (a := 9) (b := 9) (x := 9) (by decide) (by decide)) (by decide) (by decide) (by decide) (by decide) (by decide)
    refine lv_istore_n (lv' := [(1, .int v17), (0, .ref h0)]) hx hb dX8_add_18 rfl hl (by decide) rfl (fun ls hl => ?_)
    have J19 : ∀ (n19 : Nat) (j19_ch0_row : Nat → Int32) (j19_l1 : Int32) (H : Heap) (locs : List Loc) (ls : Array Slot), (540 - (j19_l1 : Int32).toInt).toNat < n19 → yr 0 1999 j19_l1 → va_P (dC, dI) vwCl [(h0_row, .inl (cyI, 540, .inl j19_ch0_row)), (h0, .inr (8, [.ref h0_row, .int 60, .int 9, .int h0_count]))] H → va_D A [(h0_row, .inl (cyI, 540, .inl j19_ch0_row)), (h0, .inr (8, [.ref h0_row, .int 60, .int 9, .int h0_count]))] → va_S A s.heap H locs → lv_has ls 2 [(0, .ref h0), (1, .int j19_l1)] → W p l e ({ frames := 1, cells := 0, slots := 0, locals := 20 } : Room) s m [.ref h0].toArray below meth c H locs 0 0 (MQ below (yQi (fun (r : Int32) (u : yU) => yr (-1) 59 r ∧ yr 0 60 (u.1 0)) (dC, dI) [(h0, .inr (8, [.ref h0_row, .int 60, .int 9, .int h0_count])), (h0_row, .inl (cyI, 540, .inl gh0_row))] (yT cyI cyZ cyO) sz (fun u => [(h0, .inr (8, [.ref h0_row, .int 60, .int 9, .int (u.1 0)])), (h0_row, .inl (cyI, 540, .inl (u.2 0)))])) [.ref h0].toArray s 0 0 A) (F0 m 19 ls []) := by
      intro n19
      induction n19 with
      | zero => intro j19_ch0_row j19_l1 H locs ls hm; exact absurd hm (Nat.not_lt_zero _)
      | succ n19 ih19 =>
        intro j19_ch0_row j19_l1 H locs ls hm19 hj19_l1  hP hD hS hl
        refine lv_iload_n hx hb dX8_add_19 rfl (lv_at hl 1 rfl) ?_
        refine lv_aload_n hx hb dX8_add_20 rfl (lv_at hl 0 rfl) ?_
        refine va_get (D := (dC, dI)) (ci := 8) (v := .int h0_count) (C := RX8) (T := TX8) (N := 4) hx hb hts hnX8 hown hK hP 1 rfl rfl 3 (by decide) hf26 (fun _ h9 => h9) rfl dX8_add_21 ?_
        refine lv_iconst (v := 1) hx hb dX8_add_24 (by decide) ?_
        refine lv_iadd hx hb dX8_add_25 ?_
        refine lv_topi (fun v25 ev25 => ?_)
        have hq25_3 : yr 1 60 v25 := by rw [ev25]; exact yr_add hq9_1 (yrc (a := 1) (b := 1) (x := 1) (by decide) (by decide)) (by decide) (by decide) (by decide) (by decide)
        refine lv_aload_n hx hb dX8_add_26 rfl (lv_at hl 0 rfl) ?_
        refine va_get (D := (dC, dI)) (ci := 8) (v := .int 9) (C := RX8) (T := TX8) (N := 4) hx hb hts hnX8 hown hK hP 1 rfl rfl 2 (by decide) hf13 (fun _ h9 => h9) rfl dX8_add_27 ?_
        refine lv_imul hx hb dX8_add_30 ?_
        refine lv_topi (fun v30 ev30 => ?_)
        have hq30_4 : yr 9 540 v30 := by rw [ev30]; exact yr_mul hq25_3 (yrc (a := 9) (b := 9) (x := 9) (by decide) (by decide)) (by decide) (by decide) (by decide) (by decide) (by decide)
        refine lv_icmp_ge (tgt := 47) hx hb dX8_add_31 (by decide) (fun c31 => ?_) (fun c31 => ?_)
        · have hq47_5 : yr 9 1999 j19_l1 := yr_leR hq30_4 hj19_l1 c31 (by decide)
          refine lv_aload_n hx hb dX8_add_47 rfl (lv_at hl 0 rfl) ?_
          refine lv_dup hx hb dX8_add_48 rfl ?_
          refine va_get (D := (dC, dI)) (ci := 8) (v := .int h0_count) (C := RX8) (T := TX8) (N := 4) hx hb hts hnX8 hown hK hP 1 rfl rfl 3 (by decide) hf26 (fun _ h9 => h9) rfl dX8_add_49 ?_
          refine lv_iconst (v := 1) hx hb dX8_add_52 (by decide) ?_
          refine lv_iadd hx hb dX8_add_53 ?_
          refine lv_topi (fun v53 ev53 => ?_)
          have hq53_6 : yr 1 60 v53 := by rw [ev53]; exact yr_add hq9_1 (yrc (a := 1) (b := 1) (x := 1) (by decide) (by decide)) (by decide) (by decide) (by decide) (by decide)
          refine va_put (D := (dC, dI)) (ci := 8) (v := .int v53) (ty := .int) (C := RX8) (T := TX8) (N := 4) hx hb hts hnX8 tyX8 tyX8_ok nmX8 hown hK hP hD hS 1 rfl rfl 3 (by decide) hf26 (fun _ h9 => h9) rfl (by decide +kernel) rfl rfl (Nat.le_of_ble_eq_true rfl) dX8_add_54 (fun H locs hP hD hS => ?_)
          have hP : va_P (dC, dI) vwCl [(h0_row, .inl (cyI, 540, .inl j19_ch0_row)), (h0, .inr (8, [.ref h0_row, .int 60, .int 9, .int v53]))] H := hP
          have hD : va_D A [(h0_row, .inl (cyI, 540, .inl j19_ch0_row)), (h0, .inr (8, [.ref h0_row, .int 60, .int 9, .int v53]))] := hD
          refine lv_aload_n hx hb dX8_add_57 rfl (lv_at hl 0 rfl) ?_
          refine va_get (D := (dC, dI)) (ci := 8) (v := .int v53) (C := RX8) (T := TX8) (N := 4) hx hb hts hnX8 hown hK hP 1 rfl rfl 3 (by decide) hf26 (fun _ h9 => h9) rfl dX8_add_58 ?_
          refine lv_iconst (v := 1) hx hb dX8_add_61 (by decide) ?_
          refine lv_isub hx hb dX8_add_62 ?_
          refine lv_topi (fun v62 ev62 => ?_)
          have hq62_7 : yr 0 59 v62 := by rw [ev62]; exact yr_sub hq53_6 (yrc (a := 1) (b := 1) (x := 1) (by decide) (by decide)) (by decide) (by decide) (by decide) (by decide)
          refine W.widen (k := 0) (n := 0) (Nat.le_of_ble_eq_true rfl) (Nat.le_of_ble_eq_true rfl) ?_
          exact yy_iret (v := v62) (((fun k0_ => match k0_ with | 0 => v53 | _ => 0), (fun k0_ => match k0_ with | 0 => j19_ch0_row | _ => fun _ => 0)) : yU) hx hb hr hlk rfl hsz hAe hK hP hD hS [1, 0] rfl rfl (by decide) ⟨(yr_w hq62_7 (by decide) (by decide)), (yr_w hq53_6 (by decide) (by decide))⟩ dX8_add_63
        · have hq34_8 : yr 0 539 j19_l1 := yr_ltL hj19_l1 hq30_4 (Int32.not_le.mp c31) (by decide)
          refine lv_aload_n hx hb dX8_add_34 rfl (lv_at hl 0 rfl) ?_
          refine va_get (D := (dC, dI)) (ci := 8) (v := .ref h0_row) (C := RX8) (T := TX8) (N := 4) hx hb hts hnX8 hown hK hP 1 rfl rfl 0 (by decide) hf22 (fun _ h9 => h9) rfl dX8_add_35 ?_
          refine lv_iload_n hx hb dX8_add_38 rfl (lv_at hl 1 rfl) ?_
          refine lv_iconst (v := 0) hx hb dX8_add_39 (by decide) ?_
          refine yg_iast hx hb hK hP hD hS 0 0 rfl rfl (yr_in hq34_8 (by decide) (by decide)) dX8_add_40 (fun f40 ef40 H locs hP hD hS => ?_)
          have hP : va_P (dC, dI) vwCl [(h0_row, .inl (cyI, 540, .inl f40)), (h0, .inr (8, [.ref h0_row, .int 60, .int 9, .int h0_count]))] H := hP
          have hD : va_D A [(h0_row, .inl (cyI, 540, .inl f40)), (h0, .inr (8, [.ref h0_row, .int 60, .int 9, .int h0_count]))] := hD
          have hq41_9 : yr 1 540 (j19_l1 + 1) := yr_add hq34_8 (yrc (a := 1) (b := 1) (by decide) (by decide)) (by decide) (by decide) (by decide) (by decide)
          refine lv_iinc (v := (j19_l1 + 1)) (lv' := [(1, .int (j19_l1 + 1)), (0, .ref h0)]) hx hb dX8_add_41 hl (k := 1) rfl rfl (by decide) rfl (fun ls hl => ?_)
          refine lv_goto (tgt := 19) hx hb dX8_add_44 (by decide) ?_
          exact ih19 f40 (j19_l1 + 1) _ _ _ (yms hm19 (yr_w hq34_8 (by decide) (by decide)) rfl) (yr_w hq41_9 (by decide) (by decide))  (hP.sub [0, 1] rfl) (hD.sub [0, 1] (by decide) rfl) hS (lv_sub hl [1, 0] rfl)
    exact J19 _ gh0_row v17 _ _ _ (Nat.lt_succ_self _) (yr_w hq17_2 (by decide) (by decide))  (hP.sub [0, 1] rfl) (hD.sub [0, 1] (by decide) rfl) hS (lv_sub hl [1, 0] rfl)
  · have hp4 := yzP c4
    refine lv_iconst (v := (-1)) hx hb dX8_add_7 (by decide) ?_
    refine W.widen (k := 0) (n := 0) (Nat.le_of_ble_eq_true rfl) (Nat.le_of_ble_eq_true rfl) ?_
    exact yy_iret (v := (-1)) (((fun k0_ => match k0_ with | 0 => h0_count | _ => 0), (fun k0_ => match k0_ with | 0 => gh0_row | _ => fun _ => 0)) : yU) hx hb hr hlk rfl hsz hAe hK hP hD hS [1, 0] rfl rfl (by decide) ⟨(yrc (a := (-1)) (b := 59) (x := (-1)) (by decide) (by decide)), h_h0_count⟩ dX8_add_8
set_option maxHeartbeats 4000000 in
set_option maxRecDepth 100000 in
theorem g_TgetA (l : Launch) (dC : Nat → ClassId) (dI : Nat → Nat → Nat) (cyI cyZ cyO : ClassId) (sz : Nat) (h0 : Nat) (h0_count : Int32) (h0_row : Nat) (gh0_row : Nat → Int32) (i : Int32) (k : Int32) (h_h0_count : yr 0 60 h0_count) : Met l yX8_get wsX8_get ({ frames := 1, cells := 0, slots := 0, locals := 21 }) (yPre [.ref h0, .int i, .int k] (dC, dI) [(h0, .inr (8, [.ref h0_row, .int 60, .int 9, .int h0_count])), (h0_row, .inl (cyI, 540, .inl gh0_row))] (yT cyI cyZ cyO) sz) (yQi (fun (r : Int32) (u : yU) => True) (dC, dI) [(h0, .inr (8, [.ref h0_row, .int 60, .int 9, .int h0_count])), (h0_row, .inl (cyI, 540, .inl gh0_row))] (yT cyI cyZ cyO) sz (fun u => [(h0, .inr (8, [.ref h0_row, .int 60, .int 9, .int h0_count])), (h0_row, .inl (cyI, 540, .inl gh0_row))])) 0 0 (va_A [(h0, .inr (8, [.ref h0_row, .int 60, .int 9, .int h0_count])), (h0_row, .inl (cyI, 540, .inl gh0_row))] sz) := by
  refine yMet (cc := cX8_get) (maxL := 3) (ret := (some .int)) (by decide) rfl (Nat.le_of_ble_eq_true rfl) ?_
  intro p e s m below meth c A hx hb hr hlk hml hts hown hnm hsz hAe hP hK hD hA hS ls hl
  have hl : lv_has ls 3 [(0, .ref h0), (1, .int i), (2, .int k)] := hl
  have hf13 := hts (.fieldLink RX8 13 "BusBridge$Table" "width" "I") (by decide +kernel)
  have hf22 := hts (.fieldLink RX8 22 "BusBridge$Table" "row" "[I") (by decide +kernel)
  have hnX8 : ∀ w ∈ wsX80, w ∈ wsX8_get := by decide +kernel
  refine lv_aload_n hx hb dX8_get_0 rfl (lv_at hl 0 rfl) ?_
  refine lv_iload_n hx hb dX8_get_1 rfl (lv_at hl 1 rfl) ?_
  have hPc := hP.sub (ws' := [(h0, .inr (8, [.ref h0_row, .int 60, .int 9, .int h0_count]))]) [0] rfl
  have hDc := hD.sub (ws' := [(h0, .inr (8, [.ref h0_row, .int 60, .int 9, .int h0_count]))]) [0] (by decide) rfl
  refine yy_calli [0] [1] (wr := [(h0_row, .inl (cyI, 540, .inl gh0_row))]) (va_runV (As := [.int i]) (rest := []) ⟨hx, hb, hml, hown, hts⟩ (k_hasRow l dC dI cyI cyZ cyO s.heap.size h0 h0_row 60 9 h0_count i ) (cwV 1 hts gX8_get_X8_hasRow rfl rfl rfl (by decide +kernel) ⟨Nat.le_of_ble_eq_true rfl, Nat.le_of_ble_eq_true rfl⟩) (yPreV hK hPc hDc (ci := 8) (q0 := 0) rfl rfl) rfl rfl hl.1 rfl (lv_room (Nat.le_of_ble_eq_true rfl)) dX8_get_2 ⟨Nat.le_of_ble_eq_true rfl, Nat.le_of_ble_eq_true rfl⟩) hP hD hS hA rfl rfl (by decide) (by decide) (fun r2 u2 H locs hw hP hD hS => ?_)
  have hP : va_P (dC, dI) vwCl [(h0_row, .inl (cyI, 540, .inl gh0_row)), (h0, .inr (8, [.ref h0_row, .int 60, .int 9, .int h0_count]))] H := hP
  have hD : va_D A [(h0_row, .inl (cyI, 540, .inl gh0_row)), (h0, .inr (8, [.ref h0_row, .int 60, .int 9, .int h0_count]))] := hD
  refine W.widen (k := 0) (n := 0) (Nat.le_of_ble_eq_true rfl) (Nat.le_of_ble_eq_true rfl) ?_
  have hw : r2 = (zB (0 ≤ i ∧ i < h0_count)) := hw
  subst hw
  have J33 : ∀ (j33_s0 : Int32) (H : Heap) (locs : List Loc) (ls : Array Slot), va_P (dC, dI) vwCl [(h0_row, .inl (cyI, 540, .inl gh0_row)), (h0, .inr (8, [.ref h0_row, .int 60, .int 9, .int h0_count]))] H → va_D A [(h0_row, .inl (cyI, 540, .inl gh0_row)), (h0, .inr (8, [.ref h0_row, .int 60, .int 9, .int h0_count]))] → va_S A s.heap H locs → lv_has ls 3 [(0, .ref h0), (1, .int i), (2, .int k)] → W p l e ({ frames := 1, cells := 0, slots := 0, locals := 21 } : Room) s m [.ref h0, .int i, .int k].toArray below meth c H locs 0 0 (MQ below (yQi (fun (r : Int32) (u : yU) => True) (dC, dI) [(h0, .inr (8, [.ref h0_row, .int 60, .int 9, .int h0_count])), (h0_row, .inl (cyI, 540, .inl gh0_row))] (yT cyI cyZ cyO) sz (fun u => [(h0, .inr (8, [.ref h0_row, .int 60, .int 9, .int h0_count])), (h0_row, .inl (cyI, 540, .inl gh0_row))])) [.ref h0, .int i, .int k].toArray s 0 0 A) (F0 m 33 ls [.int j33_s0]) := by
    intro j33_s0 H locs ls   hP hD hS hl
    refine W.widen (k := 0) (n := 0) (Nat.le_of_ble_eq_true rfl) (Nat.le_of_ble_eq_true rfl) ?_
    exact yy_iret (v := j33_s0) (((fun _ => 0), (fun _ _ => 0)) : yU) hx hb hr hlk rfl hsz hAe hK hP hD hS [1, 0] rfl rfl (by decide) trivial dX8_get_33
  have J32 : ∀  (H : Heap) (locs : List Loc) (ls : Array Slot), va_P (dC, dI) vwCl [(h0_row, .inl (cyI, 540, .inl gh0_row)), (h0, .inr (8, [.ref h0_row, .int 60, .int 9, .int h0_count]))] H → va_D A [(h0_row, .inl (cyI, 540, .inl gh0_row)), (h0, .inr (8, [.ref h0_row, .int 60, .int 9, .int h0_count]))] → va_S A s.heap H locs → lv_has ls 3 [(0, .ref h0), (1, .int i), (2, .int k)] → W p l e ({ frames := 1, cells := 0, slots := 0, locals := 21 } : Room) s m [.ref h0, .int i, .int k].toArray below meth c H locs 0 0 (MQ below (yQi (fun (r : Int32) (u : yU) => True) (dC, dI) [(h0, .inr (8, [.ref h0_row, .int 60, .int 9, .int h0_count])), (h0_row, .inl (cyI, 540, .inl gh0_row))] (yT cyI cyZ cyO) sz (fun u => [(h0, .inr (8, [.ref h0_row, .int 60, .int 9, .int h0_count])), (h0_row, .inl (cyI, 540, .inl gh0_row))])) [.ref h0, .int i, .int k].toArray s 0 0 A) (F0 m 32 ls []) := by
    intro  H locs ls   hP hD hS hl
    refine lv_iconst (v := 0) hx hb dX8_get_32 (by decide) ?_
    exact J33 0 _ _ _   (hP.sub [0, 1] rfl) (hD.sub [0, 1] (by decide) rfl) hS (lv_sub hl [0, 1, 2] rfl)
  refine lv_if_eq (tgt := 32) hx hb dX8_get_5 (by decide) (fun c5 => ?_) (fun c5 => ?_)
  · exact J32  _ _ _   (hP.sub [0, 1] rfl) (hD.sub [0, 1] (by decide) rfl) hS (lv_sub hl [0, 1, 2] rfl)
  · have hp5 := yzP c5
    have hq8_1 : yr 0 2147483647 i := yr_leR (yrc (a := 0) (b := 0) (x := 0) (by decide) (by decide)) (yr_all _) hp5.1 (by decide)
    have hq8_2 : yr 0 59 i := yr_ltL hq8_1 h_h0_count hp5.2 (by decide)
    have hq8_3 : yr 1 60 h0_count := yr_ltR hq8_1 h_h0_count hp5.2 (by decide)
    refine lv_aload_n hx hb dX8_get_8 rfl (lv_at hl 0 rfl) ?_
    refine lv_iload_n hx hb dX8_get_9 rfl (lv_at hl 2 rfl) ?_
    have hPc := hP.sub (ws' := [(h0, .inr (8, [.ref h0_row, .int 60, .int 9, .int h0_count]))]) [1] rfl
    have hDc := hD.sub (ws' := [(h0, .inr (8, [.ref h0_row, .int 60, .int 9, .int h0_count]))]) [1] (by decide) rfl
    refine yy_calli [1] [0] (wr := [(h0_row, .inl (cyI, 540, .inl gh0_row))]) (va_runV (As := [.int k]) (rest := []) ⟨hx, hb, hml, hown, hts⟩ (k_hasColumn l dC dI cyI cyZ cyO H.size h0 h0_row 60 9 h0_count k ) (cwV 1 hts gX8_get_X8_hasColumn rfl rfl rfl (by decide +kernel) ⟨Nat.le_of_ble_eq_true rfl, Nat.le_of_ble_eq_true rfl⟩) (yPreV hK hPc hDc (ci := 8) (q0 := 0) rfl rfl) rfl rfl hl.1 rfl (lv_room (Nat.le_of_ble_eq_true rfl)) dX8_get_10 ⟨Nat.le_of_ble_eq_true rfl, Nat.le_of_ble_eq_true rfl⟩) hP hD hS hA rfl rfl (by decide) (by decide) (fun r10 u10 H locs hw hP hD hS => ?_)
    have hP : va_P (dC, dI) vwCl [(h0_row, .inl (cyI, 540, .inl gh0_row)), (h0, .inr (8, [.ref h0_row, .int 60, .int 9, .int h0_count]))] H := hP
    have hD : va_D A [(h0_row, .inl (cyI, 540, .inl gh0_row)), (h0, .inr (8, [.ref h0_row, .int 60, .int 9, .int h0_count]))] := hD
    refine W.widen (k := 0) (n := 0) (Nat.le_of_ble_eq_true rfl) (Nat.le_of_ble_eq_true rfl) ?_
    have hw : r10 = (zB (0 ≤ k ∧ k < 9)) := hw
    subst hw
    refine lv_if_eq (tgt := 32) hx hb dX8_get_13 (by decide) (fun c13 => ?_) (fun c13 => ?_)
    · exact J32  _ _ _   (hP.sub [0, 1] rfl) (hD.sub [0, 1] (by decide) rfl) hS (lv_sub hl [0, 1, 2] rfl)
    · have hp13 := yzP c13
      have hq16_4 : yr 0 2147483647 k := yr_leR (yrc (a := 0) (b := 0) (x := 0) (by decide) (by decide)) (yr_all _) hp13.1 (by decide)
      have hq16_5 : yr 0 8 k := yr_ltL hq16_4 (yrc (a := 9) (b := 9) (x := 9) (by decide) (by decide)) hp13.2 (by decide)
      refine lv_aload_n hx hb dX8_get_16 rfl (lv_at hl 0 rfl) ?_
      refine va_get (D := (dC, dI)) (ci := 8) (v := .ref h0_row) (C := RX8) (T := TX8) (N := 4) hx hb hts hnX8 hown hK hP 1 rfl rfl 0 (by decide) hf22 (fun _ h9 => h9) rfl dX8_get_17 ?_
      refine lv_iload_n hx hb dX8_get_20 rfl (lv_at hl 1 rfl) ?_
      refine lv_aload_n hx hb dX8_get_21 rfl (lv_at hl 0 rfl) ?_
      refine va_get (D := (dC, dI)) (ci := 8) (v := .int 9) (C := RX8) (T := TX8) (N := 4) hx hb hts hnX8 hown hK hP 1 rfl rfl 2 (by decide) hf13 (fun _ h9 => h9) rfl dX8_get_22 ?_
      refine lv_imul hx hb dX8_get_25 ?_
      refine lv_topi (fun v25 ev25 => ?_)
      have hq25_6 : yr 0 531 v25 := by rw [ev25]; exact yr_mul hq8_2 (yrc (a := 9) (b := 9) (x := 9) (by decide) (by decide)) (by decide) (by decide) (by decide) (by decide) (by decide)
      refine lv_iload_n hx hb dX8_get_26 rfl (lv_at hl 2 rfl) ?_
      refine lv_iadd hx hb dX8_get_27 ?_
      refine lv_topi (fun v27 ev27 => ?_)
      have hq27_7 : yr 0 539 v27 := by rw [ev27]; exact yr_add hq25_6 hq16_5 (by decide) (by decide) (by decide) (by decide)
      refine va_iald hx hb hK hP 0 0 rfl rfl (yr_in hq27_7 (by decide) (by decide)) dX8_get_28 ?_
      refine lv_topi (fun v28 ev28 => ?_)
      refine lv_goto (tgt := 33) hx hb dX8_get_29 (by decide) ?_
      exact J33 v28 _ _ _   (hP.sub [0, 1] rfl) (hD.sub [0, 1] (by decide) rfl) hS (lv_sub hl [0, 1, 2] rfl)
set_option maxHeartbeats 4000000 in
set_option maxRecDepth 100000 in
theorem g_TputA (l : Launch) (dC : Nat → ClassId) (dI : Nat → Nat → Nat) (cyI cyZ cyO : ClassId) (sz : Nat) (h0 : Nat) (h0_count : Int32) (h0_row : Nat) (gh0_row : Nat → Int32) (i : Int32) (k : Int32) (v : Int32) (h_h0_count : yr 0 60 h0_count) : Met l yX8_put wsX8_put ({ frames := 1, cells := 0, slots := 0, locals := 21 }) (yPre [.ref h0, .int i, .int k, .int v] (dC, dI) [(h0, .inr (8, [.ref h0_row, .int 60, .int 9, .int h0_count])), (h0_row, .inl (cyI, 540, .inl gh0_row))] (yT cyI cyZ cyO) sz) (yQv (fun (u : yU) => True) (dC, dI) [(h0, .inr (8, [.ref h0_row, .int 60, .int 9, .int h0_count])), (h0_row, .inl (cyI, 540, .inl gh0_row))] (yT cyI cyZ cyO) sz (fun u => [(h0, .inr (8, [.ref h0_row, .int 60, .int 9, .int h0_count])), (h0_row, .inl (cyI, 540, .inl (u.2 0)))])) 0 0 (va_A [(h0, .inr (8, [.ref h0_row, .int 60, .int 9, .int h0_count])), (h0_row, .inl (cyI, 540, .inl gh0_row))] sz) := by
  refine yMet (cc := cX8_put) (maxL := 4) (ret := none) (by decide) rfl (Nat.le_of_ble_eq_true rfl) ?_
  intro p e s m below meth c A hx hb hr hlk hml hts hown hnm hsz hAe hP hK hD hA hS ls hl
  have hl : lv_has ls 4 [(0, .ref h0), (1, .int i), (2, .int k), (3, .int v)] := hl
  have hf13 := hts (.fieldLink RX8 13 "BusBridge$Table" "width" "I") (by decide +kernel)
  have hf22 := hts (.fieldLink RX8 22 "BusBridge$Table" "row" "[I") (by decide +kernel)
  have hnX8 : ∀ w ∈ wsX80, w ∈ wsX8_put := by decide +kernel
  refine lv_aload_n hx hb dX8_put_0 rfl (lv_at hl 0 rfl) ?_
  refine lv_iload_n hx hb dX8_put_1 rfl (lv_at hl 1 rfl) ?_
  have hPc := hP.sub (ws' := [(h0, .inr (8, [.ref h0_row, .int 60, .int 9, .int h0_count]))]) [0] rfl
  have hDc := hD.sub (ws' := [(h0, .inr (8, [.ref h0_row, .int 60, .int 9, .int h0_count]))]) [0] (by decide) rfl
  refine yy_calli [0] [1] (wr := [(h0_row, .inl (cyI, 540, .inl gh0_row))]) (va_runV (As := [.int i]) (rest := []) ⟨hx, hb, hml, hown, hts⟩ (k_hasRow l dC dI cyI cyZ cyO s.heap.size h0 h0_row 60 9 h0_count i ) (cwV 1 hts gX8_put_X8_hasRow rfl rfl rfl (by decide +kernel) ⟨Nat.le_of_ble_eq_true rfl, Nat.le_of_ble_eq_true rfl⟩) (yPreV hK hPc hDc (ci := 8) (q0 := 0) rfl rfl) rfl rfl hl.1 rfl (lv_room (Nat.le_of_ble_eq_true rfl)) dX8_put_2 ⟨Nat.le_of_ble_eq_true rfl, Nat.le_of_ble_eq_true rfl⟩) hP hD hS hA rfl rfl (by decide) (by decide) (fun r2 u2 H locs hw hP hD hS => ?_)
  have hP : va_P (dC, dI) vwCl [(h0_row, .inl (cyI, 540, .inl gh0_row)), (h0, .inr (8, [.ref h0_row, .int 60, .int 9, .int h0_count]))] H := hP
  have hD : va_D A [(h0_row, .inl (cyI, 540, .inl gh0_row)), (h0, .inr (8, [.ref h0_row, .int 60, .int 9, .int h0_count]))] := hD
  refine W.widen (k := 0) (n := 0) (Nat.le_of_ble_eq_true rfl) (Nat.le_of_ble_eq_true rfl) ?_
  have hw : r2 = (zB (0 ≤ i ∧ i < h0_count)) := hw
  subst hw
  have J30 : ∀ (j30_ch0_row : Nat → Int32) (H : Heap) (locs : List Loc) (ls : Array Slot), va_P (dC, dI) vwCl [(h0_row, .inl (cyI, 540, .inl j30_ch0_row)), (h0, .inr (8, [.ref h0_row, .int 60, .int 9, .int h0_count]))] H → va_D A [(h0_row, .inl (cyI, 540, .inl j30_ch0_row)), (h0, .inr (8, [.ref h0_row, .int 60, .int 9, .int h0_count]))] → va_S A s.heap H locs → lv_has ls 4 [(0, .ref h0), (1, .int i), (2, .int k), (3, .int v)] → W p l e ({ frames := 1, cells := 0, slots := 0, locals := 21 } : Room) s m [.ref h0, .int i, .int k, .int v].toArray below meth c H locs 0 0 (MQ below (yQv (fun (u : yU) => True) (dC, dI) [(h0, .inr (8, [.ref h0_row, .int 60, .int 9, .int h0_count])), (h0_row, .inl (cyI, 540, .inl gh0_row))] (yT cyI cyZ cyO) sz (fun u => [(h0, .inr (8, [.ref h0_row, .int 60, .int 9, .int h0_count])), (h0_row, .inl (cyI, 540, .inl (u.2 0)))])) [.ref h0, .int i, .int k, .int v].toArray s 0 0 A) (F0 m 30 ls []) := by
    intro j30_ch0_row H locs ls   hP hD hS hl
    refine W.widen (k := 0) (n := 0) (Nat.le_of_ble_eq_true rfl) (Nat.le_of_ble_eq_true rfl) ?_
    exact yy_vret (((fun _ => 0), (fun k0_ => match k0_ with | 0 => j30_ch0_row | _ => fun _ => 0)) : yU) hx hb hr hlk hsz hAe hK hP hD hS [1, 0] rfl rfl (by decide) trivial dX8_put_30
  refine lv_if_eq (tgt := 30) hx hb dX8_put_5 (by decide) (fun c5 => ?_) (fun c5 => ?_)
  · exact J30 gh0_row _ _ _   (hP.sub [0, 1] rfl) (hD.sub [0, 1] (by decide) rfl) hS (lv_sub hl [0, 1, 2, 3] rfl)
  · have hp5 := yzP c5
    have hq8_1 : yr 0 2147483647 i := yr_leR (yrc (a := 0) (b := 0) (x := 0) (by decide) (by decide)) (yr_all _) hp5.1 (by decide)
    have hq8_2 : yr 0 59 i := yr_ltL hq8_1 h_h0_count hp5.2 (by decide)
    have hq8_3 : yr 1 60 h0_count := yr_ltR hq8_1 h_h0_count hp5.2 (by decide)
    refine lv_aload_n hx hb dX8_put_8 rfl (lv_at hl 0 rfl) ?_
    refine lv_iload_n hx hb dX8_put_9 rfl (lv_at hl 2 rfl) ?_
    have hPc := hP.sub (ws' := [(h0, .inr (8, [.ref h0_row, .int 60, .int 9, .int h0_count]))]) [1] rfl
    have hDc := hD.sub (ws' := [(h0, .inr (8, [.ref h0_row, .int 60, .int 9, .int h0_count]))]) [1] (by decide) rfl
    refine yy_calli [1] [0] (wr := [(h0_row, .inl (cyI, 540, .inl gh0_row))]) (va_runV (As := [.int k]) (rest := []) ⟨hx, hb, hml, hown, hts⟩ (k_hasColumn l dC dI cyI cyZ cyO H.size h0 h0_row 60 9 h0_count k ) (cwV 1 hts gX8_put_X8_hasColumn rfl rfl rfl (by decide +kernel) ⟨Nat.le_of_ble_eq_true rfl, Nat.le_of_ble_eq_true rfl⟩) (yPreV hK hPc hDc (ci := 8) (q0 := 0) rfl rfl) rfl rfl hl.1 rfl (lv_room (Nat.le_of_ble_eq_true rfl)) dX8_put_10 ⟨Nat.le_of_ble_eq_true rfl, Nat.le_of_ble_eq_true rfl⟩) hP hD hS hA rfl rfl (by decide) (by decide) (fun r10 u10 H locs hw hP hD hS => ?_)
    have hP : va_P (dC, dI) vwCl [(h0_row, .inl (cyI, 540, .inl gh0_row)), (h0, .inr (8, [.ref h0_row, .int 60, .int 9, .int h0_count]))] H := hP
    have hD : va_D A [(h0_row, .inl (cyI, 540, .inl gh0_row)), (h0, .inr (8, [.ref h0_row, .int 60, .int 9, .int h0_count]))] := hD
    refine W.widen (k := 0) (n := 0) (Nat.le_of_ble_eq_true rfl) (Nat.le_of_ble_eq_true rfl) ?_
    have hw : r10 = (zB (0 ≤ k ∧ k < 9)) := hw
    subst hw
    refine lv_if_eq (tgt := 30) hx hb dX8_put_13 (by decide) (fun c13 => ?_) (fun c13 => ?_)
    · exact J30 gh0_row _ _ _   (hP.sub [0, 1] rfl) (hD.sub [0, 1] (by decide) rfl) hS (lv_sub hl [0, 1, 2, 3] rfl)
    · have hp13 := yzP c13
      have hq16_4 : yr 0 2147483647 k := yr_leR (yrc (a := 0) (b := 0) (x := 0) (by decide) (by decide)) (yr_all _) hp13.1 (by decide)
      have hq16_5 : yr 0 8 k := yr_ltL hq16_4 (yrc (a := 9) (b := 9) (x := 9) (by decide) (by decide)) hp13.2 (by decide)
      refine lv_aload_n hx hb dX8_put_16 rfl (lv_at hl 0 rfl) ?_
      refine va_get (D := (dC, dI)) (ci := 8) (v := .ref h0_row) (C := RX8) (T := TX8) (N := 4) hx hb hts hnX8 hown hK hP 1 rfl rfl 0 (by decide) hf22 (fun _ h9 => h9) rfl dX8_put_17 ?_
      refine lv_iload_n hx hb dX8_put_20 rfl (lv_at hl 1 rfl) ?_
      refine lv_aload_n hx hb dX8_put_21 rfl (lv_at hl 0 rfl) ?_
      refine va_get (D := (dC, dI)) (ci := 8) (v := .int 9) (C := RX8) (T := TX8) (N := 4) hx hb hts hnX8 hown hK hP 1 rfl rfl 2 (by decide) hf13 (fun _ h9 => h9) rfl dX8_put_22 ?_
      refine lv_imul hx hb dX8_put_25 ?_
      refine lv_topi (fun v25 ev25 => ?_)
      have hq25_6 : yr 0 531 v25 := by rw [ev25]; exact yr_mul hq8_2 (yrc (a := 9) (b := 9) (x := 9) (by decide) (by decide)) (by decide) (by decide) (by decide) (by decide) (by decide)
      refine lv_iload_n hx hb dX8_put_26 rfl (lv_at hl 2 rfl) ?_
      refine lv_iadd hx hb dX8_put_27 ?_
      refine lv_topi (fun v27 ev27 => ?_)
      have hq27_7 : yr 0 539 v27 := by rw [ev27]; exact yr_add hq25_6 hq16_5 (by decide) (by decide) (by decide) (by decide)
      refine lv_iload_n hx hb dX8_put_28 rfl (lv_at hl 3 rfl) ?_
      refine yg_iast hx hb hK hP hD hS 0 0 rfl rfl (yr_in hq27_7 (by decide) (by decide)) dX8_put_29 (fun f29 ef29 H locs hP hD hS => ?_)
      have hP : va_P (dC, dI) vwCl [(h0_row, .inl (cyI, 540, .inl f29)), (h0, .inr (8, [.ref h0_row, .int 60, .int 9, .int h0_count]))] H := hP
      have hD : va_D A [(h0_row, .inl (cyI, 540, .inl f29)), (h0, .inr (8, [.ref h0_row, .int 60, .int 9, .int h0_count]))] := hD
      exact J30 f29 _ _ _   (hP.sub [0, 1] rfl) (hD.sub [0, 1] (by decide) rfl) hS (lv_sub hl [0, 1, 2, 3] rfl)
set_option maxHeartbeats 4000000 in
set_option maxRecDepth 100000 in
theorem g_TcopyA (l : Launch) (dC : Nat → ClassId) (dI : Nat → Nat → Nat) (cyI cyZ cyO : ClassId) (sz : Nat) (h0 : Nat) (h0_count : Int32) (h0_row : Nat) (gh0_row : Nat → Int32) (ao : Nat) (ao_count : Int32) (ao_row : Nat) (gao_row : Nat → Int32) (h_h0_count : yr 0 60 h0_count) (h_ao_count : yr 0 60 ao_count) : Met l yX8_copyFrom wsX8_copyFrom ({ frames := 1, cells := 0, slots := 0, locals := 18 }) (yPre [.ref h0, .ref ao] (dC, dI) [(h0, .inr (8, [.ref h0_row, .int 60, .int 9, .int h0_count])), (h0_row, .inl (cyI, 540, .inl gh0_row)), (ao, .inr (8, [.ref ao_row, .int 60, .int 9, .int ao_count])), (ao_row, .inl (cyI, 540, .inl gao_row))] (yT cyI cyZ cyO) sz) (yQv (fun (u : yU) => yr 0 60 (u.1 0)) (dC, dI) [(h0, .inr (8, [.ref h0_row, .int 60, .int 9, .int h0_count])), (h0_row, .inl (cyI, 540, .inl gh0_row)), (ao, .inr (8, [.ref ao_row, .int 60, .int 9, .int ao_count])), (ao_row, .inl (cyI, 540, .inl gao_row))] (yT cyI cyZ cyO) sz (fun u => [(h0, .inr (8, [.ref h0_row, .int 60, .int 9, .int (u.1 0)])), (h0_row, .inl (cyI, 540, .inl (u.2 0))), (ao, .inr (8, [.ref ao_row, .int 60, .int 9, .int ao_count])), (ao_row, .inl (cyI, 540, .inl gao_row))])) 0 0 (va_A [(h0, .inr (8, [.ref h0_row, .int 60, .int 9, .int h0_count])), (h0_row, .inl (cyI, 540, .inl gh0_row)), (ao, .inr (8, [.ref ao_row, .int 60, .int 9, .int ao_count])), (ao_row, .inl (cyI, 540, .inl gao_row))] sz) := by
  refine yMet (cc := cX8_copyFrom) (maxL := 2) (ret := none) (by decide) rfl (Nat.le_of_ble_eq_true rfl) ?_
  intro p e s m below meth c A hx hb hr hlk hml hts hown hnm hsz hAe hP hK hD hA hS ls hl
  have hl : lv_has ls 2 [(0, .ref h0), (1, .ref ao)] := hl
  have hm40 := hts (.methodLink RX8 40 arraycopyName) (by decide +kernel)
  have hcn := hts (.native arraycopyName) (by decide +kernel)
  have hcs := hts (.static arraycopyName) (by decide +kernel)
  have hci := hts (.initialized "java/lang/System") (by decide +kernel)
  have hf13 := hts (.fieldLink RX8 13 "BusBridge$Table" "width" "I") (by decide +kernel)
  have hf22 := hts (.fieldLink RX8 22 "BusBridge$Table" "row" "[I") (by decide +kernel)
  have hf26 := hts (.fieldLink RX8 26 "BusBridge$Table" "count" "I") (by decide +kernel)
  have hnX8 : ∀ w ∈ wsX80, w ∈ wsX8_copyFrom := by decide +kernel
  refine lv_aload_n hx hb dX8_copyFrom_0 rfl (lv_at hl 1 rfl) ?_
  refine va_get (D := (dC, dI)) (ci := 8) (v := .ref ao_row) (C := RX8) (T := TX8) (N := 4) hx hb hts hnX8 hown hK hP 2 rfl rfl 0 (by decide) hf22 (fun _ h9 => h9) rfl dX8_copyFrom_1 ?_
  refine va_alen (v := 540) hx hb hK hP 3 0 rfl rfl rfl dX8_copyFrom_4 ?_
  refine lv_aload_n hx hb dX8_copyFrom_5 rfl (lv_at hl 0 rfl) ?_
  refine va_get (D := (dC, dI)) (ci := 8) (v := .ref h0_row) (C := RX8) (T := TX8) (N := 4) hx hb hts hnX8 hown hK hP 0 rfl rfl 0 (by decide) hf22 (fun _ h9 => h9) rfl dX8_copyFrom_6 ?_
  refine va_alen (v := 540) hx hb hK hP 1 0 rfl rfl rfl dX8_copyFrom_9 ?_
  refine lv_icmp_eq (tgt := 14) hx hb dX8_copyFrom_10 (by decide) (fun _ => ?_) (fun c => absurd (by decide) c)
  refine lv_aload_n hx hb dX8_copyFrom_14 rfl (lv_at hl 1 rfl) ?_
  refine va_get (D := (dC, dI)) (ci := 8) (v := .ref ao_row) (C := RX8) (T := TX8) (N := 4) hx hb hts hnX8 hown hK hP 2 rfl rfl 0 (by decide) hf22 (fun _ h9 => h9) rfl dX8_copyFrom_15 ?_
  refine lv_iconst (v := 0) hx hb dX8_copyFrom_18 (by decide) ?_
  refine lv_aload_n hx hb dX8_copyFrom_19 rfl (lv_at hl 0 rfl) ?_
  refine va_get (D := (dC, dI)) (ci := 8) (v := .ref h0_row) (C := RX8) (T := TX8) (N := 4) hx hb hts hnX8 hown hK hP 0 rfl rfl 0 (by decide) hf22 (fun _ h9 => h9) rfl dX8_copyFrom_20 ?_
  refine lv_iconst (v := 0) hx hb dX8_copyFrom_23 (by decide) ?_
  refine lv_aload_n hx hb dX8_copyFrom_24 rfl (lv_at hl 1 rfl) ?_
  refine va_get (D := (dC, dI)) (ci := 8) (v := .int ao_count) (C := RX8) (T := TX8) (N := 4) hx hb hts hnX8 hown hK hP 2 rfl rfl 3 (by decide) hf26 (fun _ h9 => h9) rfl dX8_copyFrom_25 ?_
  refine lv_aload_n hx hb dX8_copyFrom_28 rfl (lv_at hl 0 rfl) ?_
  refine va_get (D := (dC, dI)) (ci := 8) (v := .int 9) (C := RX8) (T := TX8) (N := 4) hx hb hts hnX8 hown hK hP 0 rfl rfl 2 (by decide) hf13 (fun _ h9 => h9) rfl dX8_copyFrom_29 ?_
  refine lv_imul hx hb dX8_copyFrom_32 ?_
  refine lv_topi (fun v32 ev32 => ?_)
  have hq32_1 : yr 0 540 v32 := by rw [ev32]; exact yr_mul h_ao_count (yrc (a := 9) (b := 9) (x := 9) (by decide) (by decide)) (by decide) (by decide) (by decide) (by decide) (by decide)
  refine yg_copy hx hb (by rw [hml]; exact hl.1.symm) hown hm40 hcn hcs hci hK hP hD hS 3 1 0 rfl rfl rfl (yr_nn hq32_1 (by decide)) (yr_cl hq32_1 (by decide)) (yr_cl hq32_1 (by decide)) (Nat.le_of_ble_eq_true rfl) (Nat.le_of_ble_eq_true rfl) dX8_copyFrom_33 (fun f33 H locs hP hD hS => ?_)
  have hP : va_P (dC, dI) vwCl [(h0, .inr (8, [.ref h0_row, .int 60, .int 9, .int h0_count])), (h0_row, .inl (cyI, 540, .inl f33)), (ao, .inr (8, [.ref ao_row, .int 60, .int 9, .int ao_count])), (ao_row, .inl (cyI, 540, .inl gao_row))] H := hP
  have hD : va_D A [(h0, .inr (8, [.ref h0_row, .int 60, .int 9, .int h0_count])), (h0_row, .inl (cyI, 540, .inl f33)), (ao, .inr (8, [.ref ao_row, .int 60, .int 9, .int ao_count])), (ao_row, .inl (cyI, 540, .inl gao_row))] := hD
  refine lv_aload_n hx hb dX8_copyFrom_36 rfl (lv_at hl 0 rfl) ?_
  refine lv_aload_n hx hb dX8_copyFrom_37 rfl (lv_at hl 1 rfl) ?_
  refine va_get (D := (dC, dI)) (ci := 8) (v := .int ao_count) (C := RX8) (T := TX8) (N := 4) hx hb hts hnX8 hown hK hP 2 rfl rfl 3 (by decide) hf26 (fun _ h9 => h9) rfl dX8_copyFrom_38 ?_
  refine va_put (D := (dC, dI)) (ci := 8) (v := .int ao_count) (ty := .int) (C := RX8) (T := TX8) (N := 4) hx hb hts hnX8 tyX8 tyX8_ok nmX8 hown hK hP hD hS 0 rfl rfl 3 (by decide) hf26 (fun _ h9 => h9) rfl (by decide +kernel) rfl rfl (Nat.le_of_ble_eq_true rfl) dX8_copyFrom_41 (fun H locs hP hD hS => ?_)
  have hP : va_P (dC, dI) vwCl [(h0, .inr (8, [.ref h0_row, .int 60, .int 9, .int ao_count])), (h0_row, .inl (cyI, 540, .inl f33)), (ao, .inr (8, [.ref ao_row, .int 60, .int 9, .int ao_count])), (ao_row, .inl (cyI, 540, .inl gao_row))] H := hP
  have hD : va_D A [(h0, .inr (8, [.ref h0_row, .int 60, .int 9, .int ao_count])), (h0_row, .inl (cyI, 540, .inl f33)), (ao, .inr (8, [.ref ao_row, .int 60, .int 9, .int ao_count])), (ao_row, .inl (cyI, 540, .inl gao_row))] := hD
  refine W.widen (k := 0) (n := 0) (Nat.le_of_ble_eq_true rfl) (Nat.le_of_ble_eq_true rfl) ?_
  exact yy_vret (((fun k0_ => match k0_ with | 0 => ao_count | _ => 0), (fun k0_ => match k0_ with | 0 => f33 | _ => fun _ => 0)) : yU) hx hb hr hlk hsz hAe hK hP hD hS [0, 1, 2, 3] rfl rfl (by decide) h_ao_count dX8_copyFrom_44
set_option maxHeartbeats 4000000 in
set_option maxRecDepth 100000 in
theorem g_TaddB (l : Launch) (dC : Nat → ClassId) (dI : Nat → Nat → Nat) (cyI cyZ cyO : ClassId) (sz : Nat) (h0 : Nat) (h0_count : Int32) (h0_row : Nat) (gh0_row : Nat → Int32) (h_h0_count : yr 0 200 h0_count) : Met l yX8_add wsX8_add ({ frames := 1, cells := 0, slots := 0, locals := 20 }) (yPre [.ref h0] (dC, dI) [(h0, .inr (8, [.ref h0_row, .int 200, .int 8, .int h0_count])), (h0_row, .inl (cyI, 1600, .inl gh0_row))] (yT cyI cyZ cyO) sz) (yQi (fun (r : Int32) (u : yU) => yr (-1) 199 r ∧ yr 0 200 (u.1 0)) (dC, dI) [(h0, .inr (8, [.ref h0_row, .int 200, .int 8, .int h0_count])), (h0_row, .inl (cyI, 1600, .inl gh0_row))] (yT cyI cyZ cyO) sz (fun u => [(h0, .inr (8, [.ref h0_row, .int 200, .int 8, .int (u.1 0)])), (h0_row, .inl (cyI, 1600, .inl (u.2 0)))])) 0 0 (va_A [(h0, .inr (8, [.ref h0_row, .int 200, .int 8, .int h0_count])), (h0_row, .inl (cyI, 1600, .inl gh0_row))] sz) := by
  refine yMet (cc := cX8_add) (maxL := 2) (ret := (some .int)) (by decide) rfl (Nat.le_of_ble_eq_true rfl) ?_
  intro p e s m below meth c A hx hb hr hlk hml hts hown hnm hsz hAe hP hK hD hA hS ls hl
  have hl : lv_has ls 2 [(0, .ref h0)] := hl
  have hf13 := hts (.fieldLink RX8 13 "BusBridge$Table" "width" "I") (by decide +kernel)
  have hf22 := hts (.fieldLink RX8 22 "BusBridge$Table" "row" "[I") (by decide +kernel)
  have hf26 := hts (.fieldLink RX8 26 "BusBridge$Table" "count" "I") (by decide +kernel)
  have hnX8 : ∀ w ∈ wsX80, w ∈ wsX8_add := by decide +kernel
  refine lv_aload_n hx hb dX8_add_0 rfl (lv_at hl 0 rfl) ?_
  have hPc := hP.sub (ws' := [(h0, .inr (8, [.ref h0_row, .int 200, .int 8, .int h0_count]))]) [0] rfl
  have hDc := hD.sub (ws' := [(h0, .inr (8, [.ref h0_row, .int 200, .int 8, .int h0_count]))]) [0] (by decide) rfl
  refine yy_calli [0] [1] (wr := [(h0_row, .inl (cyI, 1600, .inl gh0_row))]) (va_runV (As := []) (rest := []) ⟨hx, hb, hml, hown, hts⟩ (k_isFull l dC dI cyI cyZ cyO s.heap.size h0 h0_row 200 8 h0_count ) (cwV 0 hts gX8_add_X8_isFull rfl rfl rfl (by decide +kernel) ⟨Nat.le_of_ble_eq_true rfl, Nat.le_of_ble_eq_true rfl⟩) (yPreV hK hPc hDc (ci := 8) (q0 := 0) rfl rfl) rfl rfl hl.1 rfl (lv_room (Nat.le_of_ble_eq_true rfl)) dX8_add_1 ⟨Nat.le_of_ble_eq_true rfl, Nat.le_of_ble_eq_true rfl⟩) hP hD hS hA rfl rfl (by decide) (by decide) (fun r1 u1 H locs hw hP hD hS => ?_)
  have hP : va_P (dC, dI) vwCl [(h0_row, .inl (cyI, 1600, .inl gh0_row)), (h0, .inr (8, [.ref h0_row, .int 200, .int 8, .int h0_count]))] H := hP
  have hD : va_D A [(h0_row, .inl (cyI, 1600, .inl gh0_row)), (h0, .inr (8, [.ref h0_row, .int 200, .int 8, .int h0_count]))] := hD
  refine W.widen (k := 0) (n := 0) (Nat.le_of_ble_eq_true rfl) (Nat.le_of_ble_eq_true rfl) ?_
  have hw : r1 = (zB (200 ≤ h0_count)) := hw
  subst hw
  refine lv_if_eq (tgt := 9) hx hb dX8_add_4 (by decide) (fun c4 => ?_) (fun c4 => ?_)
  · have hp4 := zB0.mp c4
    have hq9_1 : yr 0 199 h0_count := yr_ltL h_h0_count (yrc (a := 200) (b := 200) (x := 200) (by decide) (by decide)) (Int32.not_le.mp hp4) (by decide)
    refine lv_aload_n hx hb dX8_add_9 rfl (lv_at hl 0 rfl) ?_
    refine va_get (D := (dC, dI)) (ci := 8) (v := .int h0_count) (C := RX8) (T := TX8) (N := 4) hx hb hts hnX8 hown hK hP 1 rfl rfl 3 (by decide) hf26 (fun _ h9 => h9) rfl dX8_add_10 ?_
    refine lv_aload_n hx hb dX8_add_13 rfl (lv_at hl 0 rfl) ?_
    refine va_get (D := (dC, dI)) (ci := 8) (v := .int 8) (C := RX8) (T := TX8) (N := 4) hx hb hts hnX8 hown hK hP 1 rfl rfl 2 (by decide) hf13 (fun _ h9 => h9) rfl dX8_add_14 ?_
    refine lv_imul hx hb dX8_add_17 ?_
    refine lv_topi (fun v17 ev17 => ?_)
    have hq17_2 : yr 0 1592 v17 := by rw [ev17]; exact yr_mul hq9_1 (yrc (a := 8) (b := 8) (x := 8) (by decide) (by decide)) (by decide) (by decide) (by decide) (by decide) (by decide)
    refine lv_istore_n (lv' := [(1, .int v17), (0, .ref h0)]) hx hb dX8_add_18 rfl hl (by decide) rfl (fun ls hl => ?_)
    have J19 : ∀ (n19 : Nat) (j19_ch0_row : Nat → Int32) (j19_l1 : Int32) (H : Heap) (locs : List Loc) (ls : Array Slot), (1600 - (j19_l1 : Int32).toInt).toNat < n19 → yr 0 1999 j19_l1 → va_P (dC, dI) vwCl [(h0_row, .inl (cyI, 1600, .inl j19_ch0_row)), (h0, .inr (8, [.ref h0_row, .int 200, .int 8, .int h0_count]))] H → va_D A [(h0_row, .inl (cyI, 1600, .inl j19_ch0_row)), (h0, .inr (8, [.ref h0_row, .int 200, .int 8, .int h0_count]))] → va_S A s.heap H locs → lv_has ls 2 [(0, .ref h0), (1, .int j19_l1)] → W p l e ({ frames := 1, cells := 0, slots := 0, locals := 20 } : Room) s m [.ref h0].toArray below meth c H locs 0 0 (MQ below (yQi (fun (r : Int32) (u : yU) => yr (-1) 199 r ∧ yr 0 200 (u.1 0)) (dC, dI) [(h0, .inr (8, [.ref h0_row, .int 200, .int 8, .int h0_count])), (h0_row, .inl (cyI, 1600, .inl gh0_row))] (yT cyI cyZ cyO) sz (fun u => [(h0, .inr (8, [.ref h0_row, .int 200, .int 8, .int (u.1 0)])), (h0_row, .inl (cyI, 1600, .inl (u.2 0)))])) [.ref h0].toArray s 0 0 A) (F0 m 19 ls []) := by
      intro n19
      induction n19 with
      | zero => intro j19_ch0_row j19_l1 H locs ls hm; exact absurd hm (Nat.not_lt_zero _)
      | succ n19 ih19 =>
        intro j19_ch0_row j19_l1 H locs ls hm19 hj19_l1  hP hD hS hl
        refine lv_iload_n hx hb dX8_add_19 rfl (lv_at hl 1 rfl) ?_
        refine lv_aload_n hx hb dX8_add_20 rfl (lv_at hl 0 rfl) ?_
        refine va_get (D := (dC, dI)) (ci := 8) (v := .int h0_count) (C := RX8) (T := TX8) (N := 4) hx hb hts hnX8 hown hK hP 1 rfl rfl 3 (by decide) hf26 (fun _ h9 => h9) rfl dX8_add_21 ?_
        refine lv_iconst (v := 1) hx hb dX8_add_24 (by decide) ?_
        refine lv_iadd hx hb dX8_add_25 ?_
        refine lv_topi (fun v25 ev25 => ?_)
        have hq25_3 : yr 1 200 v25 := by rw [ev25]; exact yr_add hq9_1 (yrc (a := 1) (b := 1) (x := 1) (by decide) (by decide)) (by decide) (by decide) (by decide) (by decide)
        refine lv_aload_n hx hb dX8_add_26 rfl (lv_at hl 0 rfl) ?_
        refine va_get (D := (dC, dI)) (ci := 8) (v := .int 8) (C := RX8) (T := TX8) (N := 4) hx hb hts hnX8 hown hK hP 1 rfl rfl 2 (by decide) hf13 (fun _ h9 => h9) rfl dX8_add_27 ?_
        refine lv_imul hx hb dX8_add_30 ?_
        refine lv_topi (fun v30 ev30 => ?_)
        have hq30_4 : yr 8 1600 v30 := by rw [ev30]; exact yr_mul hq25_3 (yrc (a := 8) (b := 8) (x := 8) (by decide) (by decide)) (by decide) (by decide) (by decide) (by decide) (by decide)
        refine lv_icmp_ge (tgt := 47) hx hb dX8_add_31 (by decide) (fun c31 => ?_) (fun c31 => ?_)
        · have hq47_5 : yr 8 1999 j19_l1 := yr_leR hq30_4 hj19_l1 c31 (by decide)
          refine lv_aload_n hx hb dX8_add_47 rfl (lv_at hl 0 rfl) ?_
          refine lv_dup hx hb dX8_add_48 rfl ?_
          refine va_get (D := (dC, dI)) (ci := 8) (v := .int h0_count) (C := RX8) (T := TX8) (N := 4) hx hb hts hnX8 hown hK hP 1 rfl rfl 3 (by decide) hf26 (fun _ h9 => h9) rfl dX8_add_49 ?_
          refine lv_iconst (v := 1) hx hb dX8_add_52 (by decide) ?_
          refine lv_iadd hx hb dX8_add_53 ?_
          refine lv_topi (fun v53 ev53 => ?_)
          have hq53_6 : yr 1 200 v53 := by rw [ev53]; exact yr_add hq9_1 (yrc (a := 1) (b := 1) (x := 1) (by decide) (by decide)) (by decide) (by decide) (by decide) (by decide)
          refine va_put (D := (dC, dI)) (ci := 8) (v := .int v53) (ty := .int) (C := RX8) (T := TX8) (N := 4) hx hb hts hnX8 tyX8 tyX8_ok nmX8 hown hK hP hD hS 1 rfl rfl 3 (by decide) hf26 (fun _ h9 => h9) rfl (by decide +kernel) rfl rfl (Nat.le_of_ble_eq_true rfl) dX8_add_54 (fun H locs hP hD hS => ?_)
          have hP : va_P (dC, dI) vwCl [(h0_row, .inl (cyI, 1600, .inl j19_ch0_row)), (h0, .inr (8, [.ref h0_row, .int 200, .int 8, .int v53]))] H := hP
          have hD : va_D A [(h0_row, .inl (cyI, 1600, .inl j19_ch0_row)), (h0, .inr (8, [.ref h0_row, .int 200, .int 8, .int v53]))] := hD
          refine lv_aload_n hx hb dX8_add_57 rfl (lv_at hl 0 rfl) ?_
          refine va_get (D := (dC, dI)) (ci := 8) (v := .int v53) (C := RX8) (T := TX8) (N := 4) hx hb hts hnX8 hown hK hP 1 rfl rfl 3 (by decide) hf26 (fun _ h9 => h9) rfl dX8_add_58 ?_
          refine lv_iconst (v := 1) hx hb dX8_add_61 (by decide) ?_
          refine lv_isub hx hb dX8_add_62 ?_
          refine lv_topi (fun v62 ev62 => ?_)
          have hq62_7 : yr 0 199 v62 := by rw [ev62]; exact yr_sub hq53_6 (yrc (a := 1) (b := 1) (x := 1) (by decide) (by decide)) (by decide) (by decide) (by decide) (by decide)
          refine W.widen (k := 0) (n := 0) (Nat.le_of_ble_eq_true rfl) (Nat.le_of_ble_eq_true rfl) ?_
          exact yy_iret (v := v62) (((fun k0_ => match k0_ with | 0 => v53 | _ => 0), (fun k0_ => match k0_ with | 0 => j19_ch0_row | _ => fun _ => 0)) : yU) hx hb hr hlk rfl hsz hAe hK hP hD hS [1, 0] rfl rfl (by decide) ⟨(yr_w hq62_7 (by decide) (by decide)), (yr_w hq53_6 (by decide) (by decide))⟩ dX8_add_63
        · have hq34_8 : yr 0 1599 j19_l1 := yr_ltL hj19_l1 hq30_4 (Int32.not_le.mp c31) (by decide)
          refine lv_aload_n hx hb dX8_add_34 rfl (lv_at hl 0 rfl) ?_
          refine va_get (D := (dC, dI)) (ci := 8) (v := .ref h0_row) (C := RX8) (T := TX8) (N := 4) hx hb hts hnX8 hown hK hP 1 rfl rfl 0 (by decide) hf22 (fun _ h9 => h9) rfl dX8_add_35 ?_
          refine lv_iload_n hx hb dX8_add_38 rfl (lv_at hl 1 rfl) ?_
          refine lv_iconst (v := 0) hx hb dX8_add_39 (by decide) ?_
          refine yg_iast hx hb hK hP hD hS 0 0 rfl rfl (yr_in hq34_8 (by decide) (by decide)) dX8_add_40 (fun f40 ef40 H locs hP hD hS => ?_)
          have hP : va_P (dC, dI) vwCl [(h0_row, .inl (cyI, 1600, .inl f40)), (h0, .inr (8, [.ref h0_row, .int 200, .int 8, .int h0_count]))] H := hP
          have hD : va_D A [(h0_row, .inl (cyI, 1600, .inl f40)), (h0, .inr (8, [.ref h0_row, .int 200, .int 8, .int h0_count]))] := hD
          have hq41_9 : yr 1 1600 (j19_l1 + 1) := yr_add hq34_8 (yrc (a := 1) (b := 1) (by decide) (by decide)) (by decide) (by decide) (by decide) (by decide)
          refine lv_iinc (v := (j19_l1 + 1)) (lv' := [(1, .int (j19_l1 + 1)), (0, .ref h0)]) hx hb dX8_add_41 hl (k := 1) rfl rfl (by decide) rfl (fun ls hl => ?_)
          refine lv_goto (tgt := 19) hx hb dX8_add_44 (by decide) ?_
          exact ih19 f40 (j19_l1 + 1) _ _ _ (yms hm19 (yr_w hq34_8 (by decide) (by decide)) rfl) (yr_w hq41_9 (by decide) (by decide))  (hP.sub [0, 1] rfl) (hD.sub [0, 1] (by decide) rfl) hS (lv_sub hl [1, 0] rfl)
    exact J19 _ gh0_row v17 _ _ _ (Nat.lt_succ_self _) (yr_w hq17_2 (by decide) (by decide))  (hP.sub [0, 1] rfl) (hD.sub [0, 1] (by decide) rfl) hS (lv_sub hl [1, 0] rfl)
  · have hp4 := yzP c4
    refine lv_iconst (v := (-1)) hx hb dX8_add_7 (by decide) ?_
    refine W.widen (k := 0) (n := 0) (Nat.le_of_ble_eq_true rfl) (Nat.le_of_ble_eq_true rfl) ?_
    exact yy_iret (v := (-1)) (((fun k0_ => match k0_ with | 0 => h0_count | _ => 0), (fun k0_ => match k0_ with | 0 => gh0_row | _ => fun _ => 0)) : yU) hx hb hr hlk rfl hsz hAe hK hP hD hS [1, 0] rfl rfl (by decide) ⟨(yrc (a := (-1)) (b := 199) (x := (-1)) (by decide) (by decide)), h_h0_count⟩ dX8_add_8
set_option maxHeartbeats 4000000 in
set_option maxRecDepth 100000 in
theorem g_TgetB (l : Launch) (dC : Nat → ClassId) (dI : Nat → Nat → Nat) (cyI cyZ cyO : ClassId) (sz : Nat) (h0 : Nat) (h0_count : Int32) (h0_row : Nat) (gh0_row : Nat → Int32) (i : Int32) (k : Int32) (h_h0_count : yr 0 200 h0_count) : Met l yX8_get wsX8_get ({ frames := 1, cells := 0, slots := 0, locals := 21 }) (yPre [.ref h0, .int i, .int k] (dC, dI) [(h0, .inr (8, [.ref h0_row, .int 200, .int 8, .int h0_count])), (h0_row, .inl (cyI, 1600, .inl gh0_row))] (yT cyI cyZ cyO) sz) (yQi (fun (r : Int32) (u : yU) => True) (dC, dI) [(h0, .inr (8, [.ref h0_row, .int 200, .int 8, .int h0_count])), (h0_row, .inl (cyI, 1600, .inl gh0_row))] (yT cyI cyZ cyO) sz (fun u => [(h0, .inr (8, [.ref h0_row, .int 200, .int 8, .int h0_count])), (h0_row, .inl (cyI, 1600, .inl gh0_row))])) 0 0 (va_A [(h0, .inr (8, [.ref h0_row, .int 200, .int 8, .int h0_count])), (h0_row, .inl (cyI, 1600, .inl gh0_row))] sz) := by
  refine yMet (cc := cX8_get) (maxL := 3) (ret := (some .int)) (by decide) rfl (Nat.le_of_ble_eq_true rfl) ?_
  intro p e s m below meth c A hx hb hr hlk hml hts hown hnm hsz hAe hP hK hD hA hS ls hl
  have hl : lv_has ls 3 [(0, .ref h0), (1, .int i), (2, .int k)] := hl
  have hf13 := hts (.fieldLink RX8 13 "BusBridge$Table" "width" "I") (by decide +kernel)
  have hf22 := hts (.fieldLink RX8 22 "BusBridge$Table" "row" "[I") (by decide +kernel)
  have hnX8 : ∀ w ∈ wsX80, w ∈ wsX8_get := by decide +kernel
  refine lv_aload_n hx hb dX8_get_0 rfl (lv_at hl 0 rfl) ?_
  refine lv_iload_n hx hb dX8_get_1 rfl (lv_at hl 1 rfl) ?_
  have hPc := hP.sub (ws' := [(h0, .inr (8, [.ref h0_row, .int 200, .int 8, .int h0_count]))]) [0] rfl
  have hDc := hD.sub (ws' := [(h0, .inr (8, [.ref h0_row, .int 200, .int 8, .int h0_count]))]) [0] (by decide) rfl
  refine yy_calli [0] [1] (wr := [(h0_row, .inl (cyI, 1600, .inl gh0_row))]) (va_runV (As := [.int i]) (rest := []) ⟨hx, hb, hml, hown, hts⟩ (k_hasRow l dC dI cyI cyZ cyO s.heap.size h0 h0_row 200 8 h0_count i ) (cwV 1 hts gX8_get_X8_hasRow rfl rfl rfl (by decide +kernel) ⟨Nat.le_of_ble_eq_true rfl, Nat.le_of_ble_eq_true rfl⟩) (yPreV hK hPc hDc (ci := 8) (q0 := 0) rfl rfl) rfl rfl hl.1 rfl (lv_room (Nat.le_of_ble_eq_true rfl)) dX8_get_2 ⟨Nat.le_of_ble_eq_true rfl, Nat.le_of_ble_eq_true rfl⟩) hP hD hS hA rfl rfl (by decide) (by decide) (fun r2 u2 H locs hw hP hD hS => ?_)
  have hP : va_P (dC, dI) vwCl [(h0_row, .inl (cyI, 1600, .inl gh0_row)), (h0, .inr (8, [.ref h0_row, .int 200, .int 8, .int h0_count]))] H := hP
  have hD : va_D A [(h0_row, .inl (cyI, 1600, .inl gh0_row)), (h0, .inr (8, [.ref h0_row, .int 200, .int 8, .int h0_count]))] := hD
  refine W.widen (k := 0) (n := 0) (Nat.le_of_ble_eq_true rfl) (Nat.le_of_ble_eq_true rfl) ?_
  have hw : r2 = (zB (0 ≤ i ∧ i < h0_count)) := hw
  subst hw
  have J33 : ∀ (j33_s0 : Int32) (H : Heap) (locs : List Loc) (ls : Array Slot), va_P (dC, dI) vwCl [(h0_row, .inl (cyI, 1600, .inl gh0_row)), (h0, .inr (8, [.ref h0_row, .int 200, .int 8, .int h0_count]))] H → va_D A [(h0_row, .inl (cyI, 1600, .inl gh0_row)), (h0, .inr (8, [.ref h0_row, .int 200, .int 8, .int h0_count]))] → va_S A s.heap H locs → lv_has ls 3 [(0, .ref h0), (1, .int i), (2, .int k)] → W p l e ({ frames := 1, cells := 0, slots := 0, locals := 21 } : Room) s m [.ref h0, .int i, .int k].toArray below meth c H locs 0 0 (MQ below (yQi (fun (r : Int32) (u : yU) => True) (dC, dI) [(h0, .inr (8, [.ref h0_row, .int 200, .int 8, .int h0_count])), (h0_row, .inl (cyI, 1600, .inl gh0_row))] (yT cyI cyZ cyO) sz (fun u => [(h0, .inr (8, [.ref h0_row, .int 200, .int 8, .int h0_count])), (h0_row, .inl (cyI, 1600, .inl gh0_row))])) [.ref h0, .int i, .int k].toArray s 0 0 A) (F0 m 33 ls [.int j33_s0]) := by
    intro j33_s0 H locs ls   hP hD hS hl
    refine W.widen (k := 0) (n := 0) (Nat.le_of_ble_eq_true rfl) (Nat.le_of_ble_eq_true rfl) ?_
    exact yy_iret (v := j33_s0) (((fun _ => 0), (fun _ _ => 0)) : yU) hx hb hr hlk rfl hsz hAe hK hP hD hS [1, 0] rfl rfl (by decide) trivial dX8_get_33
  have J32 : ∀  (H : Heap) (locs : List Loc) (ls : Array Slot), va_P (dC, dI) vwCl [(h0_row, .inl (cyI, 1600, .inl gh0_row)), (h0, .inr (8, [.ref h0_row, .int 200, .int 8, .int h0_count]))] H → va_D A [(h0_row, .inl (cyI, 1600, .inl gh0_row)), (h0, .inr (8, [.ref h0_row, .int 200, .int 8, .int h0_count]))] → va_S A s.heap H locs → lv_has ls 3 [(0, .ref h0), (1, .int i), (2, .int k)] → W p l e ({ frames := 1, cells := 0, slots := 0, locals := 21 } : Room) s m [.ref h0, .int i, .int k].toArray below meth c H locs 0 0 (MQ below (yQi (fun (r : Int32) (u : yU) => True) (dC, dI) [(h0, .inr (8, [.ref h0_row, .int 200, .int 8, .int h0_count])), (h0_row, .inl (cyI, 1600, .inl gh0_row))] (yT cyI cyZ cyO) sz (fun u => [(h0, .inr (8, [.ref h0_row, .int 200, .int 8, .int h0_count])), (h0_row, .inl (cyI, 1600, .inl gh0_row))])) [.ref h0, .int i, .int k].toArray s 0 0 A) (F0 m 32 ls []) := by
    intro  H locs ls   hP hD hS hl
    refine lv_iconst (v := 0) hx hb dX8_get_32 (by decide) ?_
    exact J33 0 _ _ _   (hP.sub [0, 1] rfl) (hD.sub [0, 1] (by decide) rfl) hS (lv_sub hl [0, 1, 2] rfl)
  refine lv_if_eq (tgt := 32) hx hb dX8_get_5 (by decide) (fun c5 => ?_) (fun c5 => ?_)
  · exact J32  _ _ _   (hP.sub [0, 1] rfl) (hD.sub [0, 1] (by decide) rfl) hS (lv_sub hl [0, 1, 2] rfl)
  · have hp5 := yzP c5
    have hq8_1 : yr 0 2147483647 i := yr_leR (yrc (a := 0) (b := 0) (x := 0) (by decide) (by decide)) (yr_all _) hp5.1 (by decide)
    have hq8_2 : yr 0 199 i := yr_ltL hq8_1 h_h0_count hp5.2 (by decide)
    have hq8_3 : yr 1 200 h0_count := yr_ltR hq8_1 h_h0_count hp5.2 (by decide)
    refine lv_aload_n hx hb dX8_get_8 rfl (lv_at hl 0 rfl) ?_
    refine lv_iload_n hx hb dX8_get_9 rfl (lv_at hl 2 rfl) ?_
    have hPc := hP.sub (ws' := [(h0, .inr (8, [.ref h0_row, .int 200, .int 8, .int h0_count]))]) [1] rfl
    have hDc := hD.sub (ws' := [(h0, .inr (8, [.ref h0_row, .int 200, .int 8, .int h0_count]))]) [1] (by decide) rfl
    refine yy_calli [1] [0] (wr := [(h0_row, .inl (cyI, 1600, .inl gh0_row))]) (va_runV (As := [.int k]) (rest := []) ⟨hx, hb, hml, hown, hts⟩ (k_hasColumn l dC dI cyI cyZ cyO H.size h0 h0_row 200 8 h0_count k ) (cwV 1 hts gX8_get_X8_hasColumn rfl rfl rfl (by decide +kernel) ⟨Nat.le_of_ble_eq_true rfl, Nat.le_of_ble_eq_true rfl⟩) (yPreV hK hPc hDc (ci := 8) (q0 := 0) rfl rfl) rfl rfl hl.1 rfl (lv_room (Nat.le_of_ble_eq_true rfl)) dX8_get_10 ⟨Nat.le_of_ble_eq_true rfl, Nat.le_of_ble_eq_true rfl⟩) hP hD hS hA rfl rfl (by decide) (by decide) (fun r10 u10 H locs hw hP hD hS => ?_)
    have hP : va_P (dC, dI) vwCl [(h0_row, .inl (cyI, 1600, .inl gh0_row)), (h0, .inr (8, [.ref h0_row, .int 200, .int 8, .int h0_count]))] H := hP
    have hD : va_D A [(h0_row, .inl (cyI, 1600, .inl gh0_row)), (h0, .inr (8, [.ref h0_row, .int 200, .int 8, .int h0_count]))] := hD
    refine W.widen (k := 0) (n := 0) (Nat.le_of_ble_eq_true rfl) (Nat.le_of_ble_eq_true rfl) ?_
    have hw : r10 = (zB (0 ≤ k ∧ k < 8)) := hw
    subst hw
    refine lv_if_eq (tgt := 32) hx hb dX8_get_13 (by decide) (fun c13 => ?_) (fun c13 => ?_)
    · exact J32  _ _ _   (hP.sub [0, 1] rfl) (hD.sub [0, 1] (by decide) rfl) hS (lv_sub hl [0, 1, 2] rfl)
    · have hp13 := yzP c13
      have hq16_4 : yr 0 2147483647 k := yr_leR (yrc (a := 0) (b := 0) (x := 0) (by decide) (by decide)) (yr_all _) hp13.1 (by decide)
      have hq16_5 : yr 0 7 k := yr_ltL hq16_4 (yrc (a := 8) (b := 8) (x := 8) (by decide) (by decide)) hp13.2 (by decide)
      refine lv_aload_n hx hb dX8_get_16 rfl (lv_at hl 0 rfl) ?_
      refine va_get (D := (dC, dI)) (ci := 8) (v := .ref h0_row) (C := RX8) (T := TX8) (N := 4) hx hb hts hnX8 hown hK hP 1 rfl rfl 0 (by decide) hf22 (fun _ h9 => h9) rfl dX8_get_17 ?_
      refine lv_iload_n hx hb dX8_get_20 rfl (lv_at hl 1 rfl) ?_
      refine lv_aload_n hx hb dX8_get_21 rfl (lv_at hl 0 rfl) ?_
      refine va_get (D := (dC, dI)) (ci := 8) (v := .int 8) (C := RX8) (T := TX8) (N := 4) hx hb hts hnX8 hown hK hP 1 rfl rfl 2 (by decide) hf13 (fun _ h9 => h9) rfl dX8_get_22 ?_
      refine lv_imul hx hb dX8_get_25 ?_
      refine lv_topi (fun v25 ev25 => ?_)
      have hq25_6 : yr 0 1592 v25 := by rw [ev25]; exact yr_mul hq8_2 (yrc (a := 8) (b := 8) (x := 8) (by decide) (by decide)) (by decide) (by decide) (by decide) (by decide) (by decide)
      refine lv_iload_n hx hb dX8_get_26 rfl (lv_at hl 2 rfl) ?_
      refine lv_iadd hx hb dX8_get_27 ?_
      refine lv_topi (fun v27 ev27 => ?_)
      have hq27_7 : yr 0 1599 v27 := by rw [ev27]; exact yr_add hq25_6 hq16_5 (by decide) (by decide) (by decide) (by decide)
      refine va_iald hx hb hK hP 0 0 rfl rfl (yr_in hq27_7 (by decide) (by decide)) dX8_get_28 ?_
      refine lv_topi (fun v28 ev28 => ?_)
      refine lv_goto (tgt := 33) hx hb dX8_get_29 (by decide) ?_
      exact J33 v28 _ _ _   (hP.sub [0, 1] rfl) (hD.sub [0, 1] (by decide) rfl) hS (lv_sub hl [0, 1, 2] rfl)
set_option maxHeartbeats 4000000 in
set_option maxRecDepth 100000 in
theorem g_TputB (l : Launch) (dC : Nat → ClassId) (dI : Nat → Nat → Nat) (cyI cyZ cyO : ClassId) (sz : Nat) (h0 : Nat) (h0_count : Int32) (h0_row : Nat) (gh0_row : Nat → Int32) (i : Int32) (k : Int32) (v : Int32) (h_h0_count : yr 0 200 h0_count) : Met l yX8_put wsX8_put ({ frames := 1, cells := 0, slots := 0, locals := 21 }) (yPre [.ref h0, .int i, .int k, .int v] (dC, dI) [(h0, .inr (8, [.ref h0_row, .int 200, .int 8, .int h0_count])), (h0_row, .inl (cyI, 1600, .inl gh0_row))] (yT cyI cyZ cyO) sz) (yQv (fun (u : yU) => True) (dC, dI) [(h0, .inr (8, [.ref h0_row, .int 200, .int 8, .int h0_count])), (h0_row, .inl (cyI, 1600, .inl gh0_row))] (yT cyI cyZ cyO) sz (fun u => [(h0, .inr (8, [.ref h0_row, .int 200, .int 8, .int h0_count])), (h0_row, .inl (cyI, 1600, .inl (u.2 0)))])) 0 0 (va_A [(h0, .inr (8, [.ref h0_row, .int 200, .int 8, .int h0_count])), (h0_row, .inl (cyI, 1600, .inl gh0_row))] sz) := by
  refine yMet (cc := cX8_put) (maxL := 4) (ret := none) (by decide) rfl (Nat.le_of_ble_eq_true rfl) ?_
  intro p e s m below meth c A hx hb hr hlk hml hts hown hnm hsz hAe hP hK hD hA hS ls hl
  have hl : lv_has ls 4 [(0, .ref h0), (1, .int i), (2, .int k), (3, .int v)] := hl
  have hf13 := hts (.fieldLink RX8 13 "BusBridge$Table" "width" "I") (by decide +kernel)
  have hf22 := hts (.fieldLink RX8 22 "BusBridge$Table" "row" "[I") (by decide +kernel)
  have hnX8 : ∀ w ∈ wsX80, w ∈ wsX8_put := by decide +kernel
  refine lv_aload_n hx hb dX8_put_0 rfl (lv_at hl 0 rfl) ?_
  refine lv_iload_n hx hb dX8_put_1 rfl (lv_at hl 1 rfl) ?_
  have hPc := hP.sub (ws' := [(h0, .inr (8, [.ref h0_row, .int 200, .int 8, .int h0_count]))]) [0] rfl
  have hDc := hD.sub (ws' := [(h0, .inr (8, [.ref h0_row, .int 200, .int 8, .int h0_count]))]) [0] (by decide) rfl
  refine yy_calli [0] [1] (wr := [(h0_row, .inl (cyI, 1600, .inl gh0_row))]) (va_runV (As := [.int i]) (rest := []) ⟨hx, hb, hml, hown, hts⟩ (k_hasRow l dC dI cyI cyZ cyO s.heap.size h0 h0_row 200 8 h0_count i ) (cwV 1 hts gX8_put_X8_hasRow rfl rfl rfl (by decide +kernel) ⟨Nat.le_of_ble_eq_true rfl, Nat.le_of_ble_eq_true rfl⟩) (yPreV hK hPc hDc (ci := 8) (q0 := 0) rfl rfl) rfl rfl hl.1 rfl (lv_room (Nat.le_of_ble_eq_true rfl)) dX8_put_2 ⟨Nat.le_of_ble_eq_true rfl, Nat.le_of_ble_eq_true rfl⟩) hP hD hS hA rfl rfl (by decide) (by decide) (fun r2 u2 H locs hw hP hD hS => ?_)
  have hP : va_P (dC, dI) vwCl [(h0_row, .inl (cyI, 1600, .inl gh0_row)), (h0, .inr (8, [.ref h0_row, .int 200, .int 8, .int h0_count]))] H := hP
  have hD : va_D A [(h0_row, .inl (cyI, 1600, .inl gh0_row)), (h0, .inr (8, [.ref h0_row, .int 200, .int 8, .int h0_count]))] := hD
  refine W.widen (k := 0) (n := 0) (Nat.le_of_ble_eq_true rfl) (Nat.le_of_ble_eq_true rfl) ?_
  have hw : r2 = (zB (0 ≤ i ∧ i < h0_count)) := hw
  subst hw
  have J30 : ∀ (j30_ch0_row : Nat → Int32) (H : Heap) (locs : List Loc) (ls : Array Slot), va_P (dC, dI) vwCl [(h0_row, .inl (cyI, 1600, .inl j30_ch0_row)), (h0, .inr (8, [.ref h0_row, .int 200, .int 8, .int h0_count]))] H → va_D A [(h0_row, .inl (cyI, 1600, .inl j30_ch0_row)), (h0, .inr (8, [.ref h0_row, .int 200, .int 8, .int h0_count]))] → va_S A s.heap H locs → lv_has ls 4 [(0, .ref h0), (1, .int i), (2, .int k), (3, .int v)] → W p l e ({ frames := 1, cells := 0, slots := 0, locals := 21 } : Room) s m [.ref h0, .int i, .int k, .int v].toArray below meth c H locs 0 0 (MQ below (yQv (fun (u : yU) => True) (dC, dI) [(h0, .inr (8, [.ref h0_row, .int 200, .int 8, .int h0_count])), (h0_row, .inl (cyI, 1600, .inl gh0_row))] (yT cyI cyZ cyO) sz (fun u => [(h0, .inr (8, [.ref h0_row, .int 200, .int 8, .int h0_count])), (h0_row, .inl (cyI, 1600, .inl (u.2 0)))])) [.ref h0, .int i, .int k, .int v].toArray s 0 0 A) (F0 m 30 ls []) := by
    intro j30_ch0_row H locs ls   hP hD hS hl
    refine W.widen (k := 0) (n := 0) (Nat.le_of_ble_eq_true rfl) (Nat.le_of_ble_eq_true rfl) ?_
    exact yy_vret (((fun _ => 0), (fun k0_ => match k0_ with | 0 => j30_ch0_row | _ => fun _ => 0)) : yU) hx hb hr hlk hsz hAe hK hP hD hS [1, 0] rfl rfl (by decide) trivial dX8_put_30
  refine lv_if_eq (tgt := 30) hx hb dX8_put_5 (by decide) (fun c5 => ?_) (fun c5 => ?_)
  · exact J30 gh0_row _ _ _   (hP.sub [0, 1] rfl) (hD.sub [0, 1] (by decide) rfl) hS (lv_sub hl [0, 1, 2, 3] rfl)
  · have hp5 := yzP c5
    have hq8_1 : yr 0 2147483647 i := yr_leR (yrc (a := 0) (b := 0) (x := 0) (by decide) (by decide)) (yr_all _) hp5.1 (by decide)
    have hq8_2 : yr 0 199 i := yr_ltL hq8_1 h_h0_count hp5.2 (by decide)
    have hq8_3 : yr 1 200 h0_count := yr_ltR hq8_1 h_h0_count hp5.2 (by decide)
    refine lv_aload_n hx hb dX8_put_8 rfl (lv_at hl 0 rfl) ?_
    refine lv_iload_n hx hb dX8_put_9 rfl (lv_at hl 2 rfl) ?_
    have hPc := hP.sub (ws' := [(h0, .inr (8, [.ref h0_row, .int 200, .int 8, .int h0_count]))]) [1] rfl
    have hDc := hD.sub (ws' := [(h0, .inr (8, [.ref h0_row, .int 200, .int 8, .int h0_count]))]) [1] (by decide) rfl
    refine yy_calli [1] [0] (wr := [(h0_row, .inl (cyI, 1600, .inl gh0_row))]) (va_runV (As := [.int k]) (rest := []) ⟨hx, hb, hml, hown, hts⟩ (k_hasColumn l dC dI cyI cyZ cyO H.size h0 h0_row 200 8 h0_count k ) (cwV 1 hts gX8_put_X8_hasColumn rfl rfl rfl (by decide +kernel) ⟨Nat.le_of_ble_eq_true rfl, Nat.le_of_ble_eq_true rfl⟩) (yPreV hK hPc hDc (ci := 8) (q0 := 0) rfl rfl) rfl rfl hl.1 rfl (lv_room (Nat.le_of_ble_eq_true rfl)) dX8_put_10 ⟨Nat.le_of_ble_eq_true rfl, Nat.le_of_ble_eq_true rfl⟩) hP hD hS hA rfl rfl (by decide) (by decide) (fun r10 u10 H locs hw hP hD hS => ?_)
    have hP : va_P (dC, dI) vwCl [(h0_row, .inl (cyI, 1600, .inl gh0_row)), (h0, .inr (8, [.ref h0_row, .int 200, .int 8, .int h0_count]))] H := hP
    have hD : va_D A [(h0_row, .inl (cyI, 1600, .inl gh0_row)), (h0, .inr (8, [.ref h0_row, .int 200, .int 8, .int h0_count]))] := hD
    refine W.widen (k := 0) (n := 0) (Nat.le_of_ble_eq_true rfl) (Nat.le_of_ble_eq_true rfl) ?_
    have hw : r10 = (zB (0 ≤ k ∧ k < 8)) := hw
    subst hw
    refine lv_if_eq (tgt := 30) hx hb dX8_put_13 (by decide) (fun c13 => ?_) (fun c13 => ?_)
    · exact J30 gh0_row _ _ _   (hP.sub [0, 1] rfl) (hD.sub [0, 1] (by decide) rfl) hS (lv_sub hl [0, 1, 2, 3] rfl)
    · have hp13 := yzP c13
      have hq16_4 : yr 0 2147483647 k := yr_leR (yrc (a := 0) (b := 0) (x := 0) (by decide) (by decide)) (yr_all _) hp13.1 (by decide)
      have hq16_5 : yr 0 7 k := yr_ltL hq16_4 (yrc (a := 8) (b := 8) (x := 8) (by decide) (by decide)) hp13.2 (by decide)
      refine lv_aload_n hx hb dX8_put_16 rfl (lv_at hl 0 rfl) ?_
      refine va_get (D := (dC, dI)) (ci := 8) (v := .ref h0_row) (C := RX8) (T := TX8) (N := 4) hx hb hts hnX8 hown hK hP 1 rfl rfl 0 (by decide) hf22 (fun _ h9 => h9) rfl dX8_put_17 ?_
      refine lv_iload_n hx hb dX8_put_20 rfl (lv_at hl 1 rfl) ?_
      refine lv_aload_n hx hb dX8_put_21 rfl (lv_at hl 0 rfl) ?_
      refine va_get (D := (dC, dI)) (ci := 8) (v := .int 8) (C := RX8) (T := TX8) (N := 4) hx hb hts hnX8 hown hK hP 1 rfl rfl 2 (by decide) hf13 (fun _ h9 => h9) rfl dX8_put_22 ?_
      refine lv_imul hx hb dX8_put_25 ?_
      refine lv_topi (fun v25 ev25 => ?_)
      have hq25_6 : yr 0 1592 v25 := by rw [ev25]; exact yr_mul hq8_2 (yrc (a := 8) (b := 8) (x := 8) (by decide) (by decide)) (by decide) (by decide) (by decide) (by decide) (by decide)
      refine lv_iload_n hx hb dX8_put_26 rfl (lv_at hl 2 rfl) ?_
      refine lv_iadd hx hb dX8_put_27 ?_
      refine lv_topi (fun v27 ev27 => ?_)
      have hq27_7 : yr 0 1599 v27 := by rw [ev27]; exact yr_add hq25_6 hq16_5 (by decide) (by decide) (by decide) (by decide)
      refine lv_iload_n hx hb dX8_put_28 rfl (lv_at hl 3 rfl) ?_
      refine yg_iast hx hb hK hP hD hS 0 0 rfl rfl (yr_in hq27_7 (by decide) (by decide)) dX8_put_29 (fun f29 ef29 H locs hP hD hS => ?_)
      have hP : va_P (dC, dI) vwCl [(h0_row, .inl (cyI, 1600, .inl f29)), (h0, .inr (8, [.ref h0_row, .int 200, .int 8, .int h0_count]))] H := hP
      have hD : va_D A [(h0_row, .inl (cyI, 1600, .inl f29)), (h0, .inr (8, [.ref h0_row, .int 200, .int 8, .int h0_count]))] := hD
      exact J30 f29 _ _ _   (hP.sub [0, 1] rfl) (hD.sub [0, 1] (by decide) rfl) hS (lv_sub hl [0, 1, 2, 3] rfl)
set_option maxHeartbeats 4000000 in
set_option maxRecDepth 100000 in
theorem g_TcopyB (l : Launch) (dC : Nat → ClassId) (dI : Nat → Nat → Nat) (cyI cyZ cyO : ClassId) (sz : Nat) (h0 : Nat) (h0_count : Int32) (h0_row : Nat) (gh0_row : Nat → Int32) (ao : Nat) (ao_count : Int32) (ao_row : Nat) (gao_row : Nat → Int32) (h_h0_count : yr 0 200 h0_count) (h_ao_count : yr 0 200 ao_count) : Met l yX8_copyFrom wsX8_copyFrom ({ frames := 1, cells := 0, slots := 0, locals := 18 }) (yPre [.ref h0, .ref ao] (dC, dI) [(h0, .inr (8, [.ref h0_row, .int 200, .int 8, .int h0_count])), (h0_row, .inl (cyI, 1600, .inl gh0_row)), (ao, .inr (8, [.ref ao_row, .int 200, .int 8, .int ao_count])), (ao_row, .inl (cyI, 1600, .inl gao_row))] (yT cyI cyZ cyO) sz) (yQv (fun (u : yU) => yr 0 200 (u.1 0)) (dC, dI) [(h0, .inr (8, [.ref h0_row, .int 200, .int 8, .int h0_count])), (h0_row, .inl (cyI, 1600, .inl gh0_row)), (ao, .inr (8, [.ref ao_row, .int 200, .int 8, .int ao_count])), (ao_row, .inl (cyI, 1600, .inl gao_row))] (yT cyI cyZ cyO) sz (fun u => [(h0, .inr (8, [.ref h0_row, .int 200, .int 8, .int (u.1 0)])), (h0_row, .inl (cyI, 1600, .inl (u.2 0))), (ao, .inr (8, [.ref ao_row, .int 200, .int 8, .int ao_count])), (ao_row, .inl (cyI, 1600, .inl gao_row))])) 0 0 (va_A [(h0, .inr (8, [.ref h0_row, .int 200, .int 8, .int h0_count])), (h0_row, .inl (cyI, 1600, .inl gh0_row)), (ao, .inr (8, [.ref ao_row, .int 200, .int 8, .int ao_count])), (ao_row, .inl (cyI, 1600, .inl gao_row))] sz) := by
  refine yMet (cc := cX8_copyFrom) (maxL := 2) (ret := none) (by decide) rfl (Nat.le_of_ble_eq_true rfl) ?_
  intro p e s m below meth c A hx hb hr hlk hml hts hown hnm hsz hAe hP hK hD hA hS ls hl
  have hl : lv_has ls 2 [(0, .ref h0), (1, .ref ao)] := hl
  have hm40 := hts (.methodLink RX8 40 arraycopyName) (by decide +kernel)
  have hcn := hts (.native arraycopyName) (by decide +kernel)
  have hcs := hts (.static arraycopyName) (by decide +kernel)
  have hci := hts (.initialized "java/lang/System") (by decide +kernel)
  have hf13 := hts (.fieldLink RX8 13 "BusBridge$Table" "width" "I") (by decide +kernel)
  have hf22 := hts (.fieldLink RX8 22 "BusBridge$Table" "row" "[I") (by decide +kernel)
  have hf26 := hts (.fieldLink RX8 26 "BusBridge$Table" "count" "I") (by decide +kernel)
  have hnX8 : ∀ w ∈ wsX80, w ∈ wsX8_copyFrom := by decide +kernel
  refine lv_aload_n hx hb dX8_copyFrom_0 rfl (lv_at hl 1 rfl) ?_
  refine va_get (D := (dC, dI)) (ci := 8) (v := .ref ao_row) (C := RX8) (T := TX8) (N := 4) hx hb hts hnX8 hown hK hP 2 rfl rfl 0 (by decide) hf22 (fun _ h9 => h9) rfl dX8_copyFrom_1 ?_
  refine va_alen (v := 1600) hx hb hK hP 3 0 rfl rfl rfl dX8_copyFrom_4 ?_
  refine lv_aload_n hx hb dX8_copyFrom_5 rfl (lv_at hl 0 rfl) ?_
  refine va_get (D := (dC, dI)) (ci := 8) (v := .ref h0_row) (C := RX8) (T := TX8) (N := 4) hx hb hts hnX8 hown hK hP 0 rfl rfl 0 (by decide) hf22 (fun _ h9 => h9) rfl dX8_copyFrom_6 ?_
  refine va_alen (v := 1600) hx hb hK hP 1 0 rfl rfl rfl dX8_copyFrom_9 ?_
  refine lv_icmp_eq (tgt := 14) hx hb dX8_copyFrom_10 (by decide) (fun _ => ?_) (fun c => absurd (by decide) c)
  refine lv_aload_n hx hb dX8_copyFrom_14 rfl (lv_at hl 1 rfl) ?_
  refine va_get (D := (dC, dI)) (ci := 8) (v := .ref ao_row) (C := RX8) (T := TX8) (N := 4) hx hb hts hnX8 hown hK hP 2 rfl rfl 0 (by decide) hf22 (fun _ h9 => h9) rfl dX8_copyFrom_15 ?_
  refine lv_iconst (v := 0) hx hb dX8_copyFrom_18 (by decide) ?_
  refine lv_aload_n hx hb dX8_copyFrom_19 rfl (lv_at hl 0 rfl) ?_
  refine va_get (D := (dC, dI)) (ci := 8) (v := .ref h0_row) (C := RX8) (T := TX8) (N := 4) hx hb hts hnX8 hown hK hP 0 rfl rfl 0 (by decide) hf22 (fun _ h9 => h9) rfl dX8_copyFrom_20 ?_
  refine lv_iconst (v := 0) hx hb dX8_copyFrom_23 (by decide) ?_
  refine lv_aload_n hx hb dX8_copyFrom_24 rfl (lv_at hl 1 rfl) ?_
  refine va_get (D := (dC, dI)) (ci := 8) (v := .int ao_count) (C := RX8) (T := TX8) (N := 4) hx hb hts hnX8 hown hK hP 2 rfl rfl 3 (by decide) hf26 (fun _ h9 => h9) rfl dX8_copyFrom_25 ?_
  refine lv_aload_n hx hb dX8_copyFrom_28 rfl (lv_at hl 0 rfl) ?_
  refine va_get (D := (dC, dI)) (ci := 8) (v := .int 8) (C := RX8) (T := TX8) (N := 4) hx hb hts hnX8 hown hK hP 0 rfl rfl 2 (by decide) hf13 (fun _ h9 => h9) rfl dX8_copyFrom_29 ?_
  refine lv_imul hx hb dX8_copyFrom_32 ?_
  refine lv_topi (fun v32 ev32 => ?_)
  have hq32_1 : yr 0 1600 v32 := by rw [ev32]; exact yr_mul h_ao_count (yrc (a := 8) (b := 8) (x := 8) (by decide) (by decide)) (by decide) (by decide) (by decide) (by decide) (by decide)
  refine yg_copy hx hb (by rw [hml]; exact hl.1.symm) hown hm40 hcn hcs hci hK hP hD hS 3 1 0 rfl rfl rfl (yr_nn hq32_1 (by decide)) (yr_cl hq32_1 (by decide)) (yr_cl hq32_1 (by decide)) (Nat.le_of_ble_eq_true rfl) (Nat.le_of_ble_eq_true rfl) dX8_copyFrom_33 (fun f33 H locs hP hD hS => ?_)
  have hP : va_P (dC, dI) vwCl [(h0, .inr (8, [.ref h0_row, .int 200, .int 8, .int h0_count])), (h0_row, .inl (cyI, 1600, .inl f33)), (ao, .inr (8, [.ref ao_row, .int 200, .int 8, .int ao_count])), (ao_row, .inl (cyI, 1600, .inl gao_row))] H := hP
  have hD : va_D A [(h0, .inr (8, [.ref h0_row, .int 200, .int 8, .int h0_count])), (h0_row, .inl (cyI, 1600, .inl f33)), (ao, .inr (8, [.ref ao_row, .int 200, .int 8, .int ao_count])), (ao_row, .inl (cyI, 1600, .inl gao_row))] := hD
  refine lv_aload_n hx hb dX8_copyFrom_36 rfl (lv_at hl 0 rfl) ?_
  refine lv_aload_n hx hb dX8_copyFrom_37 rfl (lv_at hl 1 rfl) ?_
  refine va_get (D := (dC, dI)) (ci := 8) (v := .int ao_count) (C := RX8) (T := TX8) (N := 4) hx hb hts hnX8 hown hK hP 2 rfl rfl 3 (by decide) hf26 (fun _ h9 => h9) rfl dX8_copyFrom_38 ?_
  refine va_put (D := (dC, dI)) (ci := 8) (v := .int ao_count) (ty := .int) (C := RX8) (T := TX8) (N := 4) hx hb hts hnX8 tyX8 tyX8_ok nmX8 hown hK hP hD hS 0 rfl rfl 3 (by decide) hf26 (fun _ h9 => h9) rfl (by decide +kernel) rfl rfl (Nat.le_of_ble_eq_true rfl) dX8_copyFrom_41 (fun H locs hP hD hS => ?_)
  have hP : va_P (dC, dI) vwCl [(h0, .inr (8, [.ref h0_row, .int 200, .int 8, .int ao_count])), (h0_row, .inl (cyI, 1600, .inl f33)), (ao, .inr (8, [.ref ao_row, .int 200, .int 8, .int ao_count])), (ao_row, .inl (cyI, 1600, .inl gao_row))] H := hP
  have hD : va_D A [(h0, .inr (8, [.ref h0_row, .int 200, .int 8, .int ao_count])), (h0_row, .inl (cyI, 1600, .inl f33)), (ao, .inr (8, [.ref ao_row, .int 200, .int 8, .int ao_count])), (ao_row, .inl (cyI, 1600, .inl gao_row))] := hD
  refine W.widen (k := 0) (n := 0) (Nat.le_of_ble_eq_true rfl) (Nat.le_of_ble_eq_true rfl) ?_
  exact yy_vret (((fun k0_ => match k0_ with | 0 => ao_count | _ => 0), (fun k0_ => match k0_ with | 0 => f33 | _ => fun _ => 0)) : yU) hx hb hr hlk hsz hAe hK hP hD hS [0, 1, 2, 3] rfl rfl (by decide) h_ao_count dX8_copyFrom_44
set_option maxHeartbeats 4000000 in
set_option maxRecDepth 100000 in
theorem g_TaddC (l : Launch) (dC : Nat → ClassId) (dI : Nat → Nat → Nat) (cyI cyZ cyO : ClassId) (sz : Nat) (h0 : Nat) (h0_count : Int32) (h0_row : Nat) (gh0_row : Nat → Int32) (h_h0_count : yr 0 60 h0_count) : Met l yX8_add wsX8_add ({ frames := 1, cells := 0, slots := 0, locals := 20 }) (yPre [.ref h0] (dC, dI) [(h0, .inr (8, [.ref h0_row, .int 60, .int 2, .int h0_count])), (h0_row, .inl (cyI, 120, .inl gh0_row))] (yT cyI cyZ cyO) sz) (yQi (fun (r : Int32) (u : yU) => yr (-1) 59 r ∧ yr 0 60 (u.1 0)) (dC, dI) [(h0, .inr (8, [.ref h0_row, .int 60, .int 2, .int h0_count])), (h0_row, .inl (cyI, 120, .inl gh0_row))] (yT cyI cyZ cyO) sz (fun u => [(h0, .inr (8, [.ref h0_row, .int 60, .int 2, .int (u.1 0)])), (h0_row, .inl (cyI, 120, .inl (u.2 0)))])) 0 0 (va_A [(h0, .inr (8, [.ref h0_row, .int 60, .int 2, .int h0_count])), (h0_row, .inl (cyI, 120, .inl gh0_row))] sz) := by
  refine yMet (cc := cX8_add) (maxL := 2) (ret := (some .int)) (by decide) rfl (Nat.le_of_ble_eq_true rfl) ?_
  intro p e s m below meth c A hx hb hr hlk hml hts hown hnm hsz hAe hP hK hD hA hS ls hl
  have hl : lv_has ls 2 [(0, .ref h0)] := hl
  have hf13 := hts (.fieldLink RX8 13 "BusBridge$Table" "width" "I") (by decide +kernel)
  have hf22 := hts (.fieldLink RX8 22 "BusBridge$Table" "row" "[I") (by decide +kernel)
  have hf26 := hts (.fieldLink RX8 26 "BusBridge$Table" "count" "I") (by decide +kernel)
  have hnX8 : ∀ w ∈ wsX80, w ∈ wsX8_add := by decide +kernel
  refine lv_aload_n hx hb dX8_add_0 rfl (lv_at hl 0 rfl) ?_
  have hPc := hP.sub (ws' := [(h0, .inr (8, [.ref h0_row, .int 60, .int 2, .int h0_count]))]) [0] rfl
  have hDc := hD.sub (ws' := [(h0, .inr (8, [.ref h0_row, .int 60, .int 2, .int h0_count]))]) [0] (by decide) rfl
  refine yy_calli [0] [1] (wr := [(h0_row, .inl (cyI, 120, .inl gh0_row))]) (va_runV (As := []) (rest := []) ⟨hx, hb, hml, hown, hts⟩ (k_isFull l dC dI cyI cyZ cyO s.heap.size h0 h0_row 60 2 h0_count ) (cwV 0 hts gX8_add_X8_isFull rfl rfl rfl (by decide +kernel) ⟨Nat.le_of_ble_eq_true rfl, Nat.le_of_ble_eq_true rfl⟩) (yPreV hK hPc hDc (ci := 8) (q0 := 0) rfl rfl) rfl rfl hl.1 rfl (lv_room (Nat.le_of_ble_eq_true rfl)) dX8_add_1 ⟨Nat.le_of_ble_eq_true rfl, Nat.le_of_ble_eq_true rfl⟩) hP hD hS hA rfl rfl (by decide) (by decide) (fun r1 u1 H locs hw hP hD hS => ?_)
  have hP : va_P (dC, dI) vwCl [(h0_row, .inl (cyI, 120, .inl gh0_row)), (h0, .inr (8, [.ref h0_row, .int 60, .int 2, .int h0_count]))] H := hP
  have hD : va_D A [(h0_row, .inl (cyI, 120, .inl gh0_row)), (h0, .inr (8, [.ref h0_row, .int 60, .int 2, .int h0_count]))] := hD
  refine W.widen (k := 0) (n := 0) (Nat.le_of_ble_eq_true rfl) (Nat.le_of_ble_eq_true rfl) ?_
  have hw : r1 = (zB (60 ≤ h0_count)) := hw
  subst hw
  refine lv_if_eq (tgt := 9) hx hb dX8_add_4 (by decide) (fun c4 => ?_) (fun c4 => ?_)
  · have hp4 := zB0.mp c4
    have hq9_1 : yr 0 59 h0_count := yr_ltL h_h0_count (yrc (a := 60) (b := 60) (x := 60) (by decide) (by decide)) (Int32.not_le.mp hp4) (by decide)
    refine lv_aload_n hx hb dX8_add_9 rfl (lv_at hl 0 rfl) ?_
    refine va_get (D := (dC, dI)) (ci := 8) (v := .int h0_count) (C := RX8) (T := TX8) (N := 4) hx hb hts hnX8 hown hK hP 1 rfl rfl 3 (by decide) hf26 (fun _ h9 => h9) rfl dX8_add_10 ?_
    refine lv_aload_n hx hb dX8_add_13 rfl (lv_at hl 0 rfl) ?_
    refine va_get (D := (dC, dI)) (ci := 8) (v := .int 2) (C := RX8) (T := TX8) (N := 4) hx hb hts hnX8 hown hK hP 1 rfl rfl 2 (by decide) hf13 (fun _ h9 => h9) rfl dX8_add_14 ?_
    refine lv_imul hx hb dX8_add_17 ?_
    refine lv_topi (fun v17 ev17 => ?_)
    have hq17_2 : yr 0 118 v17 := by rw [ev17]; exact yr_mul hq9_1 (yrc (a := 2) (b := 2) (x := 2) (by decide) (by decide)) (by decide) (by decide) (by decide) (by decide) (by decide)
    refine lv_istore_n (lv' := [(1, .int v17), (0, .ref h0)]) hx hb dX8_add_18 rfl hl (by decide) rfl (fun ls hl => ?_)
    have J19 : ∀ (n19 : Nat) (j19_ch0_row : Nat → Int32) (j19_l1 : Int32) (H : Heap) (locs : List Loc) (ls : Array Slot), (120 - (j19_l1 : Int32).toInt).toNat < n19 → yr 0 120 j19_l1 → va_P (dC, dI) vwCl [(h0_row, .inl (cyI, 120, .inl j19_ch0_row)), (h0, .inr (8, [.ref h0_row, .int 60, .int 2, .int h0_count]))] H → va_D A [(h0_row, .inl (cyI, 120, .inl j19_ch0_row)), (h0, .inr (8, [.ref h0_row, .int 60, .int 2, .int h0_count]))] → va_S A s.heap H locs → lv_has ls 2 [(0, .ref h0), (1, .int j19_l1)] → W p l e ({ frames := 1, cells := 0, slots := 0, locals := 20 } : Room) s m [.ref h0].toArray below meth c H locs 0 0 (MQ below (yQi (fun (r : Int32) (u : yU) => yr (-1) 59 r ∧ yr 0 60 (u.1 0)) (dC, dI) [(h0, .inr (8, [.ref h0_row, .int 60, .int 2, .int h0_count])), (h0_row, .inl (cyI, 120, .inl gh0_row))] (yT cyI cyZ cyO) sz (fun u => [(h0, .inr (8, [.ref h0_row, .int 60, .int 2, .int (u.1 0)])), (h0_row, .inl (cyI, 120, .inl (u.2 0)))])) [.ref h0].toArray s 0 0 A) (F0 m 19 ls []) := by
      intro n19
      induction n19 with
      | zero => intro j19_ch0_row j19_l1 H locs ls hm; exact absurd hm (Nat.not_lt_zero _)
      | succ n19 ih19 =>
        intro j19_ch0_row j19_l1 H locs ls hm19 hj19_l1  hP hD hS hl
        refine lv_iload_n hx hb dX8_add_19 rfl (lv_at hl 1 rfl) ?_
        refine lv_aload_n hx hb dX8_add_20 rfl (lv_at hl 0 rfl) ?_
        refine va_get (D := (dC, dI)) (ci := 8) (v := .int h0_count) (C := RX8) (T := TX8) (N := 4) hx hb hts hnX8 hown hK hP 1 rfl rfl 3 (by decide) hf26 (fun _ h9 => h9) rfl dX8_add_21 ?_
        refine lv_iconst (v := 1) hx hb dX8_add_24 (by decide) ?_
        refine lv_iadd hx hb dX8_add_25 ?_
        refine lv_topi (fun v25 ev25 => ?_)
        have hq25_3 : yr 1 60 v25 := by rw [ev25]; exact yr_add hq9_1 (yrc (a := 1) (b := 1) (x := 1) (by decide) (by decide)) (by decide) (by decide) (by decide) (by decide)
        refine lv_aload_n hx hb dX8_add_26 rfl (lv_at hl 0 rfl) ?_
        refine va_get (D := (dC, dI)) (ci := 8) (v := .int 2) (C := RX8) (T := TX8) (N := 4) hx hb hts hnX8 hown hK hP 1 rfl rfl 2 (by decide) hf13 (fun _ h9 => h9) rfl dX8_add_27 ?_
        refine lv_imul hx hb dX8_add_30 ?_
        refine lv_topi (fun v30 ev30 => ?_)
        have hq30_4 : yr 2 120 v30 := by rw [ev30]; exact yr_mul hq25_3 (yrc (a := 2) (b := 2) (x := 2) (by decide) (by decide)) (by decide) (by decide) (by decide) (by decide) (by decide)
        refine lv_icmp_ge (tgt := 47) hx hb dX8_add_31 (by decide) (fun c31 => ?_) (fun c31 => ?_)
        · have hq47_5 : yr 2 120 j19_l1 := yr_leR hq30_4 hj19_l1 c31 (by decide)
          refine lv_aload_n hx hb dX8_add_47 rfl (lv_at hl 0 rfl) ?_
          refine lv_dup hx hb dX8_add_48 rfl ?_
          refine va_get (D := (dC, dI)) (ci := 8) (v := .int h0_count) (C := RX8) (T := TX8) (N := 4) hx hb hts hnX8 hown hK hP 1 rfl rfl 3 (by decide) hf26 (fun _ h9 => h9) rfl dX8_add_49 ?_
          refine lv_iconst (v := 1) hx hb dX8_add_52 (by decide) ?_
          refine lv_iadd hx hb dX8_add_53 ?_
          refine lv_topi (fun v53 ev53 => ?_)
          have hq53_6 : yr 1 60 v53 := by rw [ev53]; exact yr_add hq9_1 (yrc (a := 1) (b := 1) (x := 1) (by decide) (by decide)) (by decide) (by decide) (by decide) (by decide)
          refine va_put (D := (dC, dI)) (ci := 8) (v := .int v53) (ty := .int) (C := RX8) (T := TX8) (N := 4) hx hb hts hnX8 tyX8 tyX8_ok nmX8 hown hK hP hD hS 1 rfl rfl 3 (by decide) hf26 (fun _ h9 => h9) rfl (by decide +kernel) rfl rfl (Nat.le_of_ble_eq_true rfl) dX8_add_54 (fun H locs hP hD hS => ?_)
          have hP : va_P (dC, dI) vwCl [(h0_row, .inl (cyI, 120, .inl j19_ch0_row)), (h0, .inr (8, [.ref h0_row, .int 60, .int 2, .int v53]))] H := hP
          have hD : va_D A [(h0_row, .inl (cyI, 120, .inl j19_ch0_row)), (h0, .inr (8, [.ref h0_row, .int 60, .int 2, .int v53]))] := hD
          refine lv_aload_n hx hb dX8_add_57 rfl (lv_at hl 0 rfl) ?_
          refine va_get (D := (dC, dI)) (ci := 8) (v := .int v53) (C := RX8) (T := TX8) (N := 4) hx hb hts hnX8 hown hK hP 1 rfl rfl 3 (by decide) hf26 (fun _ h9 => h9) rfl dX8_add_58 ?_
          refine lv_iconst (v := 1) hx hb dX8_add_61 (by decide) ?_
          refine lv_isub hx hb dX8_add_62 ?_
          refine lv_topi (fun v62 ev62 => ?_)
          have hq62_7 : yr 0 59 v62 := by rw [ev62]; exact yr_sub hq53_6 (yrc (a := 1) (b := 1) (x := 1) (by decide) (by decide)) (by decide) (by decide) (by decide) (by decide)
          refine W.widen (k := 0) (n := 0) (Nat.le_of_ble_eq_true rfl) (Nat.le_of_ble_eq_true rfl) ?_
          exact yy_iret (v := v62) (((fun k0_ => match k0_ with | 0 => v53 | _ => 0), (fun k0_ => match k0_ with | 0 => j19_ch0_row | _ => fun _ => 0)) : yU) hx hb hr hlk rfl hsz hAe hK hP hD hS [1, 0] rfl rfl (by decide) ⟨(yr_w hq62_7 (by decide) (by decide)), (yr_w hq53_6 (by decide) (by decide))⟩ dX8_add_63
        · have hq34_8 : yr 0 119 j19_l1 := yr_ltL hj19_l1 hq30_4 (Int32.not_le.mp c31) (by decide)
          refine lv_aload_n hx hb dX8_add_34 rfl (lv_at hl 0 rfl) ?_
          refine va_get (D := (dC, dI)) (ci := 8) (v := .ref h0_row) (C := RX8) (T := TX8) (N := 4) hx hb hts hnX8 hown hK hP 1 rfl rfl 0 (by decide) hf22 (fun _ h9 => h9) rfl dX8_add_35 ?_
          refine lv_iload_n hx hb dX8_add_38 rfl (lv_at hl 1 rfl) ?_
          refine lv_iconst (v := 0) hx hb dX8_add_39 (by decide) ?_
          refine yg_iast hx hb hK hP hD hS 0 0 rfl rfl (yr_in hq34_8 (by decide) (by decide)) dX8_add_40 (fun f40 ef40 H locs hP hD hS => ?_)
          have hP : va_P (dC, dI) vwCl [(h0_row, .inl (cyI, 120, .inl f40)), (h0, .inr (8, [.ref h0_row, .int 60, .int 2, .int h0_count]))] H := hP
          have hD : va_D A [(h0_row, .inl (cyI, 120, .inl f40)), (h0, .inr (8, [.ref h0_row, .int 60, .int 2, .int h0_count]))] := hD
          have hq41_9 : yr 1 120 (j19_l1 + 1) := yr_add hq34_8 (yrc (a := 1) (b := 1) (by decide) (by decide)) (by decide) (by decide) (by decide) (by decide)
          refine lv_iinc (v := (j19_l1 + 1)) (lv' := [(1, .int (j19_l1 + 1)), (0, .ref h0)]) hx hb dX8_add_41 hl (k := 1) rfl rfl (by decide) rfl (fun ls hl => ?_)
          refine lv_goto (tgt := 19) hx hb dX8_add_44 (by decide) ?_
          exact ih19 f40 (j19_l1 + 1) _ _ _ (yms hm19 (yr_w hq34_8 (by decide) (by decide)) rfl) (yr_w hq41_9 (by decide) (by decide))  (hP.sub [0, 1] rfl) (hD.sub [0, 1] (by decide) rfl) hS (lv_sub hl [1, 0] rfl)
    exact J19 _ gh0_row v17 _ _ _ (Nat.lt_succ_self _) (yr_w hq17_2 (by decide) (by decide))  (hP.sub [0, 1] rfl) (hD.sub [0, 1] (by decide) rfl) hS (lv_sub hl [1, 0] rfl)
  · have hp4 := yzP c4
    refine lv_iconst (v := (-1)) hx hb dX8_add_7 (by decide) ?_
    refine W.widen (k := 0) (n := 0) (Nat.le_of_ble_eq_true rfl) (Nat.le_of_ble_eq_true rfl) ?_
    exact yy_iret (v := (-1)) (((fun k0_ => match k0_ with | 0 => h0_count | _ => 0), (fun k0_ => match k0_ with | 0 => gh0_row | _ => fun _ => 0)) : yU) hx hb hr hlk rfl hsz hAe hK hP hD hS [1, 0] rfl rfl (by decide) ⟨(yrc (a := (-1)) (b := 59) (x := (-1)) (by decide) (by decide)), h_h0_count⟩ dX8_add_8
set_option maxHeartbeats 4000000 in
set_option maxRecDepth 100000 in
theorem g_TgetC (l : Launch) (dC : Nat → ClassId) (dI : Nat → Nat → Nat) (cyI cyZ cyO : ClassId) (sz : Nat) (h0 : Nat) (h0_count : Int32) (h0_row : Nat) (gh0_row : Nat → Int32) (i : Int32) (k : Int32) (h_h0_count : yr 0 60 h0_count) : Met l yX8_get wsX8_get ({ frames := 1, cells := 0, slots := 0, locals := 21 }) (yPre [.ref h0, .int i, .int k] (dC, dI) [(h0, .inr (8, [.ref h0_row, .int 60, .int 2, .int h0_count])), (h0_row, .inl (cyI, 120, .inl gh0_row))] (yT cyI cyZ cyO) sz) (yQi (fun (r : Int32) (u : yU) => True) (dC, dI) [(h0, .inr (8, [.ref h0_row, .int 60, .int 2, .int h0_count])), (h0_row, .inl (cyI, 120, .inl gh0_row))] (yT cyI cyZ cyO) sz (fun u => [(h0, .inr (8, [.ref h0_row, .int 60, .int 2, .int h0_count])), (h0_row, .inl (cyI, 120, .inl gh0_row))])) 0 0 (va_A [(h0, .inr (8, [.ref h0_row, .int 60, .int 2, .int h0_count])), (h0_row, .inl (cyI, 120, .inl gh0_row))] sz) := by
  refine yMet (cc := cX8_get) (maxL := 3) (ret := (some .int)) (by decide) rfl (Nat.le_of_ble_eq_true rfl) ?_
  intro p e s m below meth c A hx hb hr hlk hml hts hown hnm hsz hAe hP hK hD hA hS ls hl
  have hl : lv_has ls 3 [(0, .ref h0), (1, .int i), (2, .int k)] := hl
  have hf13 := hts (.fieldLink RX8 13 "BusBridge$Table" "width" "I") (by decide +kernel)
  have hf22 := hts (.fieldLink RX8 22 "BusBridge$Table" "row" "[I") (by decide +kernel)
  have hnX8 : ∀ w ∈ wsX80, w ∈ wsX8_get := by decide +kernel
  refine lv_aload_n hx hb dX8_get_0 rfl (lv_at hl 0 rfl) ?_
  refine lv_iload_n hx hb dX8_get_1 rfl (lv_at hl 1 rfl) ?_
  have hPc := hP.sub (ws' := [(h0, .inr (8, [.ref h0_row, .int 60, .int 2, .int h0_count]))]) [0] rfl
  have hDc := hD.sub (ws' := [(h0, .inr (8, [.ref h0_row, .int 60, .int 2, .int h0_count]))]) [0] (by decide) rfl
  refine yy_calli [0] [1] (wr := [(h0_row, .inl (cyI, 120, .inl gh0_row))]) (va_runV (As := [.int i]) (rest := []) ⟨hx, hb, hml, hown, hts⟩ (k_hasRow l dC dI cyI cyZ cyO s.heap.size h0 h0_row 60 2 h0_count i ) (cwV 1 hts gX8_get_X8_hasRow rfl rfl rfl (by decide +kernel) ⟨Nat.le_of_ble_eq_true rfl, Nat.le_of_ble_eq_true rfl⟩) (yPreV hK hPc hDc (ci := 8) (q0 := 0) rfl rfl) rfl rfl hl.1 rfl (lv_room (Nat.le_of_ble_eq_true rfl)) dX8_get_2 ⟨Nat.le_of_ble_eq_true rfl, Nat.le_of_ble_eq_true rfl⟩) hP hD hS hA rfl rfl (by decide) (by decide) (fun r2 u2 H locs hw hP hD hS => ?_)
  have hP : va_P (dC, dI) vwCl [(h0_row, .inl (cyI, 120, .inl gh0_row)), (h0, .inr (8, [.ref h0_row, .int 60, .int 2, .int h0_count]))] H := hP
  have hD : va_D A [(h0_row, .inl (cyI, 120, .inl gh0_row)), (h0, .inr (8, [.ref h0_row, .int 60, .int 2, .int h0_count]))] := hD
  refine W.widen (k := 0) (n := 0) (Nat.le_of_ble_eq_true rfl) (Nat.le_of_ble_eq_true rfl) ?_
  have hw : r2 = (zB (0 ≤ i ∧ i < h0_count)) := hw
  subst hw
  have J33 : ∀ (j33_s0 : Int32) (H : Heap) (locs : List Loc) (ls : Array Slot), va_P (dC, dI) vwCl [(h0_row, .inl (cyI, 120, .inl gh0_row)), (h0, .inr (8, [.ref h0_row, .int 60, .int 2, .int h0_count]))] H → va_D A [(h0_row, .inl (cyI, 120, .inl gh0_row)), (h0, .inr (8, [.ref h0_row, .int 60, .int 2, .int h0_count]))] → va_S A s.heap H locs → lv_has ls 3 [(0, .ref h0), (1, .int i), (2, .int k)] → W p l e ({ frames := 1, cells := 0, slots := 0, locals := 21 } : Room) s m [.ref h0, .int i, .int k].toArray below meth c H locs 0 0 (MQ below (yQi (fun (r : Int32) (u : yU) => True) (dC, dI) [(h0, .inr (8, [.ref h0_row, .int 60, .int 2, .int h0_count])), (h0_row, .inl (cyI, 120, .inl gh0_row))] (yT cyI cyZ cyO) sz (fun u => [(h0, .inr (8, [.ref h0_row, .int 60, .int 2, .int h0_count])), (h0_row, .inl (cyI, 120, .inl gh0_row))])) [.ref h0, .int i, .int k].toArray s 0 0 A) (F0 m 33 ls [.int j33_s0]) := by
    intro j33_s0 H locs ls   hP hD hS hl
    refine W.widen (k := 0) (n := 0) (Nat.le_of_ble_eq_true rfl) (Nat.le_of_ble_eq_true rfl) ?_
    exact yy_iret (v := j33_s0) (((fun _ => 0), (fun _ _ => 0)) : yU) hx hb hr hlk rfl hsz hAe hK hP hD hS [1, 0] rfl rfl (by decide) trivial dX8_get_33
  have J32 : ∀  (H : Heap) (locs : List Loc) (ls : Array Slot), va_P (dC, dI) vwCl [(h0_row, .inl (cyI, 120, .inl gh0_row)), (h0, .inr (8, [.ref h0_row, .int 60, .int 2, .int h0_count]))] H → va_D A [(h0_row, .inl (cyI, 120, .inl gh0_row)), (h0, .inr (8, [.ref h0_row, .int 60, .int 2, .int h0_count]))] → va_S A s.heap H locs → lv_has ls 3 [(0, .ref h0), (1, .int i), (2, .int k)] → W p l e ({ frames := 1, cells := 0, slots := 0, locals := 21 } : Room) s m [.ref h0, .int i, .int k].toArray below meth c H locs 0 0 (MQ below (yQi (fun (r : Int32) (u : yU) => True) (dC, dI) [(h0, .inr (8, [.ref h0_row, .int 60, .int 2, .int h0_count])), (h0_row, .inl (cyI, 120, .inl gh0_row))] (yT cyI cyZ cyO) sz (fun u => [(h0, .inr (8, [.ref h0_row, .int 60, .int 2, .int h0_count])), (h0_row, .inl (cyI, 120, .inl gh0_row))])) [.ref h0, .int i, .int k].toArray s 0 0 A) (F0 m 32 ls []) := by
    intro  H locs ls   hP hD hS hl
    refine lv_iconst (v := 0) hx hb dX8_get_32 (by decide) ?_
    exact J33 0 _ _ _   (hP.sub [0, 1] rfl) (hD.sub [0, 1] (by decide) rfl) hS (lv_sub hl [0, 1, 2] rfl)
  refine lv_if_eq (tgt := 32) hx hb dX8_get_5 (by decide) (fun c5 => ?_) (fun c5 => ?_)
  · exact J32  _ _ _   (hP.sub [0, 1] rfl) (hD.sub [0, 1] (by decide) rfl) hS (lv_sub hl [0, 1, 2] rfl)
  · have hp5 := yzP c5
    have hq8_1 : yr 0 2147483647 i := yr_leR (yrc (a := 0) (b := 0) (x := 0) (by decide) (by decide)) (yr_all _) hp5.1 (by decide)
    have hq8_2 : yr 0 59 i := yr_ltL hq8_1 h_h0_count hp5.2 (by decide)
    have hq8_3 : yr 1 60 h0_count := yr_ltR hq8_1 h_h0_count hp5.2 (by decide)
    refine lv_aload_n hx hb dX8_get_8 rfl (lv_at hl 0 rfl) ?_
    refine lv_iload_n hx hb dX8_get_9 rfl (lv_at hl 2 rfl) ?_
    have hPc := hP.sub (ws' := [(h0, .inr (8, [.ref h0_row, .int 60, .int 2, .int h0_count]))]) [1] rfl
    have hDc := hD.sub (ws' := [(h0, .inr (8, [.ref h0_row, .int 60, .int 2, .int h0_count]))]) [1] (by decide) rfl
    refine yy_calli [1] [0] (wr := [(h0_row, .inl (cyI, 120, .inl gh0_row))]) (va_runV (As := [.int k]) (rest := []) ⟨hx, hb, hml, hown, hts⟩ (k_hasColumn l dC dI cyI cyZ cyO H.size h0 h0_row 60 2 h0_count k ) (cwV 1 hts gX8_get_X8_hasColumn rfl rfl rfl (by decide +kernel) ⟨Nat.le_of_ble_eq_true rfl, Nat.le_of_ble_eq_true rfl⟩) (yPreV hK hPc hDc (ci := 8) (q0 := 0) rfl rfl) rfl rfl hl.1 rfl (lv_room (Nat.le_of_ble_eq_true rfl)) dX8_get_10 ⟨Nat.le_of_ble_eq_true rfl, Nat.le_of_ble_eq_true rfl⟩) hP hD hS hA rfl rfl (by decide) (by decide) (fun r10 u10 H locs hw hP hD hS => ?_)
    have hP : va_P (dC, dI) vwCl [(h0_row, .inl (cyI, 120, .inl gh0_row)), (h0, .inr (8, [.ref h0_row, .int 60, .int 2, .int h0_count]))] H := hP
    have hD : va_D A [(h0_row, .inl (cyI, 120, .inl gh0_row)), (h0, .inr (8, [.ref h0_row, .int 60, .int 2, .int h0_count]))] := hD
    refine W.widen (k := 0) (n := 0) (Nat.le_of_ble_eq_true rfl) (Nat.le_of_ble_eq_true rfl) ?_
    have hw : r10 = (zB (0 ≤ k ∧ k < 2)) := hw
    subst hw
    refine lv_if_eq (tgt := 32) hx hb dX8_get_13 (by decide) (fun c13 => ?_) (fun c13 => ?_)
    · exact J32  _ _ _   (hP.sub [0, 1] rfl) (hD.sub [0, 1] (by decide) rfl) hS (lv_sub hl [0, 1, 2] rfl)
    · have hp13 := yzP c13
      have hq16_4 : yr 0 2147483647 k := yr_leR (yrc (a := 0) (b := 0) (x := 0) (by decide) (by decide)) (yr_all _) hp13.1 (by decide)
      have hq16_5 : yr 0 1 k := yr_ltL hq16_4 (yrc (a := 2) (b := 2) (x := 2) (by decide) (by decide)) hp13.2 (by decide)
      refine lv_aload_n hx hb dX8_get_16 rfl (lv_at hl 0 rfl) ?_
      refine va_get (D := (dC, dI)) (ci := 8) (v := .ref h0_row) (C := RX8) (T := TX8) (N := 4) hx hb hts hnX8 hown hK hP 1 rfl rfl 0 (by decide) hf22 (fun _ h9 => h9) rfl dX8_get_17 ?_
      refine lv_iload_n hx hb dX8_get_20 rfl (lv_at hl 1 rfl) ?_
      refine lv_aload_n hx hb dX8_get_21 rfl (lv_at hl 0 rfl) ?_
      refine va_get (D := (dC, dI)) (ci := 8) (v := .int 2) (C := RX8) (T := TX8) (N := 4) hx hb hts hnX8 hown hK hP 1 rfl rfl 2 (by decide) hf13 (fun _ h9 => h9) rfl dX8_get_22 ?_
      refine lv_imul hx hb dX8_get_25 ?_
      refine lv_topi (fun v25 ev25 => ?_)
      have hq25_6 : yr 0 118 v25 := by rw [ev25]; exact yr_mul hq8_2 (yrc (a := 2) (b := 2) (x := 2) (by decide) (by decide)) (by decide) (by decide) (by decide) (by decide) (by decide)
      refine lv_iload_n hx hb dX8_get_26 rfl (lv_at hl 2 rfl) ?_
      refine lv_iadd hx hb dX8_get_27 ?_
      refine lv_topi (fun v27 ev27 => ?_)
      have hq27_7 : yr 0 119 v27 := by rw [ev27]; exact yr_add hq25_6 hq16_5 (by decide) (by decide) (by decide) (by decide)
      refine va_iald hx hb hK hP 0 0 rfl rfl (yr_in hq27_7 (by decide) (by decide)) dX8_get_28 ?_
      refine lv_topi (fun v28 ev28 => ?_)
      refine lv_goto (tgt := 33) hx hb dX8_get_29 (by decide) ?_
      exact J33 v28 _ _ _   (hP.sub [0, 1] rfl) (hD.sub [0, 1] (by decide) rfl) hS (lv_sub hl [0, 1, 2] rfl)
set_option maxHeartbeats 4000000 in
set_option maxRecDepth 100000 in
theorem g_TputC (l : Launch) (dC : Nat → ClassId) (dI : Nat → Nat → Nat) (cyI cyZ cyO : ClassId) (sz : Nat) (h0 : Nat) (h0_count : Int32) (h0_row : Nat) (gh0_row : Nat → Int32) (i : Int32) (k : Int32) (v : Int32) (h_h0_count : yr 0 60 h0_count) : Met l yX8_put wsX8_put ({ frames := 1, cells := 0, slots := 0, locals := 21 }) (yPre [.ref h0, .int i, .int k, .int v] (dC, dI) [(h0, .inr (8, [.ref h0_row, .int 60, .int 2, .int h0_count])), (h0_row, .inl (cyI, 120, .inl gh0_row))] (yT cyI cyZ cyO) sz) (yQv (fun (u : yU) => True) (dC, dI) [(h0, .inr (8, [.ref h0_row, .int 60, .int 2, .int h0_count])), (h0_row, .inl (cyI, 120, .inl gh0_row))] (yT cyI cyZ cyO) sz (fun u => [(h0, .inr (8, [.ref h0_row, .int 60, .int 2, .int h0_count])), (h0_row, .inl (cyI, 120, .inl (u.2 0)))])) 0 0 (va_A [(h0, .inr (8, [.ref h0_row, .int 60, .int 2, .int h0_count])), (h0_row, .inl (cyI, 120, .inl gh0_row))] sz) := by
  refine yMet (cc := cX8_put) (maxL := 4) (ret := none) (by decide) rfl (Nat.le_of_ble_eq_true rfl) ?_
  intro p e s m below meth c A hx hb hr hlk hml hts hown hnm hsz hAe hP hK hD hA hS ls hl
  have hl : lv_has ls 4 [(0, .ref h0), (1, .int i), (2, .int k), (3, .int v)] := hl
  have hf13 := hts (.fieldLink RX8 13 "BusBridge$Table" "width" "I") (by decide +kernel)
  have hf22 := hts (.fieldLink RX8 22 "BusBridge$Table" "row" "[I") (by decide +kernel)
  have hnX8 : ∀ w ∈ wsX80, w ∈ wsX8_put := by decide +kernel
  refine lv_aload_n hx hb dX8_put_0 rfl (lv_at hl 0 rfl) ?_
  refine lv_iload_n hx hb dX8_put_1 rfl (lv_at hl 1 rfl) ?_
  have hPc := hP.sub (ws' := [(h0, .inr (8, [.ref h0_row, .int 60, .int 2, .int h0_count]))]) [0] rfl
  have hDc := hD.sub (ws' := [(h0, .inr (8, [.ref h0_row, .int 60, .int 2, .int h0_count]))]) [0] (by decide) rfl
  refine yy_calli [0] [1] (wr := [(h0_row, .inl (cyI, 120, .inl gh0_row))]) (va_runV (As := [.int i]) (rest := []) ⟨hx, hb, hml, hown, hts⟩ (k_hasRow l dC dI cyI cyZ cyO s.heap.size h0 h0_row 60 2 h0_count i ) (cwV 1 hts gX8_put_X8_hasRow rfl rfl rfl (by decide +kernel) ⟨Nat.le_of_ble_eq_true rfl, Nat.le_of_ble_eq_true rfl⟩) (yPreV hK hPc hDc (ci := 8) (q0 := 0) rfl rfl) rfl rfl hl.1 rfl (lv_room (Nat.le_of_ble_eq_true rfl)) dX8_put_2 ⟨Nat.le_of_ble_eq_true rfl, Nat.le_of_ble_eq_true rfl⟩) hP hD hS hA rfl rfl (by decide) (by decide) (fun r2 u2 H locs hw hP hD hS => ?_)
  have hP : va_P (dC, dI) vwCl [(h0_row, .inl (cyI, 120, .inl gh0_row)), (h0, .inr (8, [.ref h0_row, .int 60, .int 2, .int h0_count]))] H := hP
  have hD : va_D A [(h0_row, .inl (cyI, 120, .inl gh0_row)), (h0, .inr (8, [.ref h0_row, .int 60, .int 2, .int h0_count]))] := hD
  refine W.widen (k := 0) (n := 0) (Nat.le_of_ble_eq_true rfl) (Nat.le_of_ble_eq_true rfl) ?_
  have hw : r2 = (zB (0 ≤ i ∧ i < h0_count)) := hw
  subst hw
  have J30 : ∀ (j30_ch0_row : Nat → Int32) (H : Heap) (locs : List Loc) (ls : Array Slot), va_P (dC, dI) vwCl [(h0_row, .inl (cyI, 120, .inl j30_ch0_row)), (h0, .inr (8, [.ref h0_row, .int 60, .int 2, .int h0_count]))] H → va_D A [(h0_row, .inl (cyI, 120, .inl j30_ch0_row)), (h0, .inr (8, [.ref h0_row, .int 60, .int 2, .int h0_count]))] → va_S A s.heap H locs → lv_has ls 4 [(0, .ref h0), (1, .int i), (2, .int k), (3, .int v)] → W p l e ({ frames := 1, cells := 0, slots := 0, locals := 21 } : Room) s m [.ref h0, .int i, .int k, .int v].toArray below meth c H locs 0 0 (MQ below (yQv (fun (u : yU) => True) (dC, dI) [(h0, .inr (8, [.ref h0_row, .int 60, .int 2, .int h0_count])), (h0_row, .inl (cyI, 120, .inl gh0_row))] (yT cyI cyZ cyO) sz (fun u => [(h0, .inr (8, [.ref h0_row, .int 60, .int 2, .int h0_count])), (h0_row, .inl (cyI, 120, .inl (u.2 0)))])) [.ref h0, .int i, .int k, .int v].toArray s 0 0 A) (F0 m 30 ls []) := by
    intro j30_ch0_row H locs ls   hP hD hS hl
    refine W.widen (k := 0) (n := 0) (Nat.le_of_ble_eq_true rfl) (Nat.le_of_ble_eq_true rfl) ?_
    exact yy_vret (((fun _ => 0), (fun k0_ => match k0_ with | 0 => j30_ch0_row | _ => fun _ => 0)) : yU) hx hb hr hlk hsz hAe hK hP hD hS [1, 0] rfl rfl (by decide) trivial dX8_put_30
  refine lv_if_eq (tgt := 30) hx hb dX8_put_5 (by decide) (fun c5 => ?_) (fun c5 => ?_)
  · exact J30 gh0_row _ _ _   (hP.sub [0, 1] rfl) (hD.sub [0, 1] (by decide) rfl) hS (lv_sub hl [0, 1, 2, 3] rfl)
  · have hp5 := yzP c5
    have hq8_1 : yr 0 2147483647 i := yr_leR (yrc (a := 0) (b := 0) (x := 0) (by decide) (by decide)) (yr_all _) hp5.1 (by decide)
    have hq8_2 : yr 0 59 i := yr_ltL hq8_1 h_h0_count hp5.2 (by decide)
    have hq8_3 : yr 1 60 h0_count := yr_ltR hq8_1 h_h0_count hp5.2 (by decide)
    refine lv_aload_n hx hb dX8_put_8 rfl (lv_at hl 0 rfl) ?_
    refine lv_iload_n hx hb dX8_put_9 rfl (lv_at hl 2 rfl) ?_
    have hPc := hP.sub (ws' := [(h0, .inr (8, [.ref h0_row, .int 60, .int 2, .int h0_count]))]) [1] rfl
    have hDc := hD.sub (ws' := [(h0, .inr (8, [.ref h0_row, .int 60, .int 2, .int h0_count]))]) [1] (by decide) rfl
    refine yy_calli [1] [0] (wr := [(h0_row, .inl (cyI, 120, .inl gh0_row))]) (va_runV (As := [.int k]) (rest := []) ⟨hx, hb, hml, hown, hts⟩ (k_hasColumn l dC dI cyI cyZ cyO H.size h0 h0_row 60 2 h0_count k ) (cwV 1 hts gX8_put_X8_hasColumn rfl rfl rfl (by decide +kernel) ⟨Nat.le_of_ble_eq_true rfl, Nat.le_of_ble_eq_true rfl⟩) (yPreV hK hPc hDc (ci := 8) (q0 := 0) rfl rfl) rfl rfl hl.1 rfl (lv_room (Nat.le_of_ble_eq_true rfl)) dX8_put_10 ⟨Nat.le_of_ble_eq_true rfl, Nat.le_of_ble_eq_true rfl⟩) hP hD hS hA rfl rfl (by decide) (by decide) (fun r10 u10 H locs hw hP hD hS => ?_)
    have hP : va_P (dC, dI) vwCl [(h0_row, .inl (cyI, 120, .inl gh0_row)), (h0, .inr (8, [.ref h0_row, .int 60, .int 2, .int h0_count]))] H := hP
    have hD : va_D A [(h0_row, .inl (cyI, 120, .inl gh0_row)), (h0, .inr (8, [.ref h0_row, .int 60, .int 2, .int h0_count]))] := hD
    refine W.widen (k := 0) (n := 0) (Nat.le_of_ble_eq_true rfl) (Nat.le_of_ble_eq_true rfl) ?_
    have hw : r10 = (zB (0 ≤ k ∧ k < 2)) := hw
    subst hw
    refine lv_if_eq (tgt := 30) hx hb dX8_put_13 (by decide) (fun c13 => ?_) (fun c13 => ?_)
    · exact J30 gh0_row _ _ _   (hP.sub [0, 1] rfl) (hD.sub [0, 1] (by decide) rfl) hS (lv_sub hl [0, 1, 2, 3] rfl)
    · have hp13 := yzP c13
      have hq16_4 : yr 0 2147483647 k := yr_leR (yrc (a := 0) (b := 0) (x := 0) (by decide) (by decide)) (yr_all _) hp13.1 (by decide)
      have hq16_5 : yr 0 1 k := yr_ltL hq16_4 (yrc (a := 2) (b := 2) (x := 2) (by decide) (by decide)) hp13.2 (by decide)
      refine lv_aload_n hx hb dX8_put_16 rfl (lv_at hl 0 rfl) ?_
      refine va_get (D := (dC, dI)) (ci := 8) (v := .ref h0_row) (C := RX8) (T := TX8) (N := 4) hx hb hts hnX8 hown hK hP 1 rfl rfl 0 (by decide) hf22 (fun _ h9 => h9) rfl dX8_put_17 ?_
      refine lv_iload_n hx hb dX8_put_20 rfl (lv_at hl 1 rfl) ?_
      refine lv_aload_n hx hb dX8_put_21 rfl (lv_at hl 0 rfl) ?_
      refine va_get (D := (dC, dI)) (ci := 8) (v := .int 2) (C := RX8) (T := TX8) (N := 4) hx hb hts hnX8 hown hK hP 1 rfl rfl 2 (by decide) hf13 (fun _ h9 => h9) rfl dX8_put_22 ?_
      refine lv_imul hx hb dX8_put_25 ?_
      refine lv_topi (fun v25 ev25 => ?_)
      have hq25_6 : yr 0 118 v25 := by rw [ev25]; exact yr_mul hq8_2 (yrc (a := 2) (b := 2) (x := 2) (by decide) (by decide)) (by decide) (by decide) (by decide) (by decide) (by decide)
      refine lv_iload_n hx hb dX8_put_26 rfl (lv_at hl 2 rfl) ?_
      refine lv_iadd hx hb dX8_put_27 ?_
      refine lv_topi (fun v27 ev27 => ?_)
      have hq27_7 : yr 0 119 v27 := by rw [ev27]; exact yr_add hq25_6 hq16_5 (by decide) (by decide) (by decide) (by decide)
      refine lv_iload_n hx hb dX8_put_28 rfl (lv_at hl 3 rfl) ?_
      refine yg_iast hx hb hK hP hD hS 0 0 rfl rfl (yr_in hq27_7 (by decide) (by decide)) dX8_put_29 (fun f29 ef29 H locs hP hD hS => ?_)
      have hP : va_P (dC, dI) vwCl [(h0_row, .inl (cyI, 120, .inl f29)), (h0, .inr (8, [.ref h0_row, .int 60, .int 2, .int h0_count]))] H := hP
      have hD : va_D A [(h0_row, .inl (cyI, 120, .inl f29)), (h0, .inr (8, [.ref h0_row, .int 60, .int 2, .int h0_count]))] := hD
      exact J30 f29 _ _ _   (hP.sub [0, 1] rfl) (hD.sub [0, 1] (by decide) rfl) hS (lv_sub hl [0, 1, 2, 3] rfl)
set_option maxHeartbeats 4000000 in
set_option maxRecDepth 100000 in
theorem g_TcopyC (l : Launch) (dC : Nat → ClassId) (dI : Nat → Nat → Nat) (cyI cyZ cyO : ClassId) (sz : Nat) (h0 : Nat) (h0_count : Int32) (h0_row : Nat) (gh0_row : Nat → Int32) (ao : Nat) (ao_count : Int32) (ao_row : Nat) (gao_row : Nat → Int32) (h_h0_count : yr 0 60 h0_count) (h_ao_count : yr 0 60 ao_count) : Met l yX8_copyFrom wsX8_copyFrom ({ frames := 1, cells := 0, slots := 0, locals := 18 }) (yPre [.ref h0, .ref ao] (dC, dI) [(h0, .inr (8, [.ref h0_row, .int 60, .int 2, .int h0_count])), (h0_row, .inl (cyI, 120, .inl gh0_row)), (ao, .inr (8, [.ref ao_row, .int 60, .int 2, .int ao_count])), (ao_row, .inl (cyI, 120, .inl gao_row))] (yT cyI cyZ cyO) sz) (yQv (fun (u : yU) => yr 0 60 (u.1 0)) (dC, dI) [(h0, .inr (8, [.ref h0_row, .int 60, .int 2, .int h0_count])), (h0_row, .inl (cyI, 120, .inl gh0_row)), (ao, .inr (8, [.ref ao_row, .int 60, .int 2, .int ao_count])), (ao_row, .inl (cyI, 120, .inl gao_row))] (yT cyI cyZ cyO) sz (fun u => [(h0, .inr (8, [.ref h0_row, .int 60, .int 2, .int (u.1 0)])), (h0_row, .inl (cyI, 120, .inl (u.2 0))), (ao, .inr (8, [.ref ao_row, .int 60, .int 2, .int ao_count])), (ao_row, .inl (cyI, 120, .inl gao_row))])) 0 0 (va_A [(h0, .inr (8, [.ref h0_row, .int 60, .int 2, .int h0_count])), (h0_row, .inl (cyI, 120, .inl gh0_row)), (ao, .inr (8, [.ref ao_row, .int 60, .int 2, .int ao_count])), (ao_row, .inl (cyI, 120, .inl gao_row))] sz) := by
  refine yMet (cc := cX8_copyFrom) (maxL := 2) (ret := none) (by decide) rfl (Nat.le_of_ble_eq_true rfl) ?_
  intro p e s m below meth c A hx hb hr hlk hml hts hown hnm hsz hAe hP hK hD hA hS ls hl
  have hl : lv_has ls 2 [(0, .ref h0), (1, .ref ao)] := hl
  have hm40 := hts (.methodLink RX8 40 arraycopyName) (by decide +kernel)
  have hcn := hts (.native arraycopyName) (by decide +kernel)
  have hcs := hts (.static arraycopyName) (by decide +kernel)
  have hci := hts (.initialized "java/lang/System") (by decide +kernel)
  have hf13 := hts (.fieldLink RX8 13 "BusBridge$Table" "width" "I") (by decide +kernel)
  have hf22 := hts (.fieldLink RX8 22 "BusBridge$Table" "row" "[I") (by decide +kernel)
  have hf26 := hts (.fieldLink RX8 26 "BusBridge$Table" "count" "I") (by decide +kernel)
  have hnX8 : ∀ w ∈ wsX80, w ∈ wsX8_copyFrom := by decide +kernel
  refine lv_aload_n hx hb dX8_copyFrom_0 rfl (lv_at hl 1 rfl) ?_
  refine va_get (D := (dC, dI)) (ci := 8) (v := .ref ao_row) (C := RX8) (T := TX8) (N := 4) hx hb hts hnX8 hown hK hP 2 rfl rfl 0 (by decide) hf22 (fun _ h9 => h9) rfl dX8_copyFrom_1 ?_
  refine va_alen (v := 120) hx hb hK hP 3 0 rfl rfl rfl dX8_copyFrom_4 ?_
  refine lv_aload_n hx hb dX8_copyFrom_5 rfl (lv_at hl 0 rfl) ?_
  refine va_get (D := (dC, dI)) (ci := 8) (v := .ref h0_row) (C := RX8) (T := TX8) (N := 4) hx hb hts hnX8 hown hK hP 0 rfl rfl 0 (by decide) hf22 (fun _ h9 => h9) rfl dX8_copyFrom_6 ?_
  refine va_alen (v := 120) hx hb hK hP 1 0 rfl rfl rfl dX8_copyFrom_9 ?_
  refine lv_icmp_eq (tgt := 14) hx hb dX8_copyFrom_10 (by decide) (fun _ => ?_) (fun c => absurd (by decide) c)
  refine lv_aload_n hx hb dX8_copyFrom_14 rfl (lv_at hl 1 rfl) ?_
  refine va_get (D := (dC, dI)) (ci := 8) (v := .ref ao_row) (C := RX8) (T := TX8) (N := 4) hx hb hts hnX8 hown hK hP 2 rfl rfl 0 (by decide) hf22 (fun _ h9 => h9) rfl dX8_copyFrom_15 ?_
  refine lv_iconst (v := 0) hx hb dX8_copyFrom_18 (by decide) ?_
  refine lv_aload_n hx hb dX8_copyFrom_19 rfl (lv_at hl 0 rfl) ?_
  refine va_get (D := (dC, dI)) (ci := 8) (v := .ref h0_row) (C := RX8) (T := TX8) (N := 4) hx hb hts hnX8 hown hK hP 0 rfl rfl 0 (by decide) hf22 (fun _ h9 => h9) rfl dX8_copyFrom_20 ?_
  refine lv_iconst (v := 0) hx hb dX8_copyFrom_23 (by decide) ?_
  refine lv_aload_n hx hb dX8_copyFrom_24 rfl (lv_at hl 1 rfl) ?_
  refine va_get (D := (dC, dI)) (ci := 8) (v := .int ao_count) (C := RX8) (T := TX8) (N := 4) hx hb hts hnX8 hown hK hP 2 rfl rfl 3 (by decide) hf26 (fun _ h9 => h9) rfl dX8_copyFrom_25 ?_
  refine lv_aload_n hx hb dX8_copyFrom_28 rfl (lv_at hl 0 rfl) ?_
  refine va_get (D := (dC, dI)) (ci := 8) (v := .int 2) (C := RX8) (T := TX8) (N := 4) hx hb hts hnX8 hown hK hP 0 rfl rfl 2 (by decide) hf13 (fun _ h9 => h9) rfl dX8_copyFrom_29 ?_
  refine lv_imul hx hb dX8_copyFrom_32 ?_
  refine lv_topi (fun v32 ev32 => ?_)
  have hq32_1 : yr 0 120 v32 := by rw [ev32]; exact yr_mul h_ao_count (yrc (a := 2) (b := 2) (x := 2) (by decide) (by decide)) (by decide) (by decide) (by decide) (by decide) (by decide)
  refine yg_copy hx hb (by rw [hml]; exact hl.1.symm) hown hm40 hcn hcs hci hK hP hD hS 3 1 0 rfl rfl rfl (yr_nn hq32_1 (by decide)) (yr_cl hq32_1 (by decide)) (yr_cl hq32_1 (by decide)) (Nat.le_of_ble_eq_true rfl) (Nat.le_of_ble_eq_true rfl) dX8_copyFrom_33 (fun f33 H locs hP hD hS => ?_)
  have hP : va_P (dC, dI) vwCl [(h0, .inr (8, [.ref h0_row, .int 60, .int 2, .int h0_count])), (h0_row, .inl (cyI, 120, .inl f33)), (ao, .inr (8, [.ref ao_row, .int 60, .int 2, .int ao_count])), (ao_row, .inl (cyI, 120, .inl gao_row))] H := hP
  have hD : va_D A [(h0, .inr (8, [.ref h0_row, .int 60, .int 2, .int h0_count])), (h0_row, .inl (cyI, 120, .inl f33)), (ao, .inr (8, [.ref ao_row, .int 60, .int 2, .int ao_count])), (ao_row, .inl (cyI, 120, .inl gao_row))] := hD
  refine lv_aload_n hx hb dX8_copyFrom_36 rfl (lv_at hl 0 rfl) ?_
  refine lv_aload_n hx hb dX8_copyFrom_37 rfl (lv_at hl 1 rfl) ?_
  refine va_get (D := (dC, dI)) (ci := 8) (v := .int ao_count) (C := RX8) (T := TX8) (N := 4) hx hb hts hnX8 hown hK hP 2 rfl rfl 3 (by decide) hf26 (fun _ h9 => h9) rfl dX8_copyFrom_38 ?_
  refine va_put (D := (dC, dI)) (ci := 8) (v := .int ao_count) (ty := .int) (C := RX8) (T := TX8) (N := 4) hx hb hts hnX8 tyX8 tyX8_ok nmX8 hown hK hP hD hS 0 rfl rfl 3 (by decide) hf26 (fun _ h9 => h9) rfl (by decide +kernel) rfl rfl (Nat.le_of_ble_eq_true rfl) dX8_copyFrom_41 (fun H locs hP hD hS => ?_)
  have hP : va_P (dC, dI) vwCl [(h0, .inr (8, [.ref h0_row, .int 60, .int 2, .int ao_count])), (h0_row, .inl (cyI, 120, .inl f33)), (ao, .inr (8, [.ref ao_row, .int 60, .int 2, .int ao_count])), (ao_row, .inl (cyI, 120, .inl gao_row))] H := hP
  have hD : va_D A [(h0, .inr (8, [.ref h0_row, .int 60, .int 2, .int ao_count])), (h0_row, .inl (cyI, 120, .inl f33)), (ao, .inr (8, [.ref ao_row, .int 60, .int 2, .int ao_count])), (ao_row, .inl (cyI, 120, .inl gao_row))] := hD
  refine W.widen (k := 0) (n := 0) (Nat.le_of_ble_eq_true rfl) (Nat.le_of_ble_eq_true rfl) ?_
  exact yy_vret (((fun k0_ => match k0_ with | 0 => ao_count | _ => 0), (fun k0_ => match k0_ with | 0 => f33 | _ => fun _ => 0)) : yU) hx hb hr hlk hsz hAe hK hP hD hS [0, 1, 2, 3] rfl rfl (by decide) h_ao_count dX8_copyFrom_44
set_option maxHeartbeats 4000000 in
set_option maxRecDepth 100000 in
theorem g_fill15 (l : Launch) (dC : Nat → ClassId) (dI : Nat → Nat → Nat) (cyI cyZ cyO : ClassId) (sz : Nat) (h0 : Nat) (gh0 : Nat → Int32) (v : Int32)  : Met l yJ7_fill_53178 wsJ7_fill_53178 ({ frames := 0, cells := 0, slots := 0, locals := 0 }) (yPre [.ref h0, .int v] (dC, dI) [(h0, .inl (cyI, 15, .inl gh0))] (yT cyI cyZ cyO) sz) (yQv (fun (u : yU) => True) (dC, dI) [(h0, .inl (cyI, 15, .inl gh0))] (yT cyI cyZ cyO) sz (fun u => [(h0, .inl (cyI, 15, .inl (u.2 0)))])) 0 0 (va_A [(h0, .inl (cyI, 15, .inl gh0))] sz) := by
  refine yMet (cc := cJ7_fill_53178) (maxL := 4) (ret := none) (by decide) rfl (Nat.le_of_ble_eq_true rfl) ?_
  intro p e s m below meth c A hx hb hr hlk hml hts hown hnm hsz hAe hP hK hD hA hS ls hl
  have hl : lv_has ls 4 [(0, .ref h0), (1, .int v)] := hl
  refine lv_iconst (v := 0) hx hb dJ7_fill_53178_0 (by decide) ?_
  refine lv_istore_n (lv' := [(2, .int 0), (0, .ref h0), (1, .int v)]) hx hb dJ7_fill_53178_1 rfl hl (by decide) rfl (fun ls hl => ?_)
  refine lv_aload_n hx hb dJ7_fill_53178_2 rfl (lv_at hl 1 rfl) ?_
  refine va_alen (v := 15) hx hb hK hP 0 0 rfl rfl rfl dJ7_fill_53178_3 ?_
  refine lv_istore_n (lv' := [(3, .int 15), (2, .int 0), (0, .ref h0), (1, .int v)]) hx hb dJ7_fill_53178_4 rfl hl (by decide) rfl (fun ls hl => ?_)
  have J5 : ∀ (n5 : Nat) (j5_ch0 : Nat → Int32) (j5_l2 : Int32) (H : Heap) (locs : List Loc) (ls : Array Slot), (15 - (j5_l2 : Int32).toInt).toNat < n5 → yr 0 15 j5_l2 → va_P (dC, dI) vwCl [(h0, .inl (cyI, 15, .inl j5_ch0))] H → va_D A [(h0, .inl (cyI, 15, .inl j5_ch0))] → va_S A s.heap H locs → lv_has ls 4 [(0, .ref h0), (1, .int v), (2, .int j5_l2), (3, .int 15)] → W p l e ({ frames := 0, cells := 0, slots := 0, locals := 0 } : Room) s m [.ref h0, .int v].toArray below meth c H locs 0 0 (MQ below (yQv (fun (u : yU) => True) (dC, dI) [(h0, .inl (cyI, 15, .inl gh0))] (yT cyI cyZ cyO) sz (fun u => [(h0, .inl (cyI, 15, .inl (u.2 0)))])) [.ref h0, .int v].toArray s 0 0 A) (F0 m 5 ls []) := by
    intro n5
    induction n5 with
    | zero => intro j5_ch0 j5_l2 H locs ls hm; exact absurd hm (Nat.not_lt_zero _)
    | succ n5 ih5 =>
      intro j5_ch0 j5_l2 H locs ls hm5 hj5_l2  hP hD hS hl
      refine lv_iload_n hx hb dJ7_fill_53178_5 rfl (lv_at hl 2 rfl) ?_
      refine lv_iload_n hx hb dJ7_fill_53178_6 rfl (lv_at hl 3 rfl) ?_
      refine lv_icmp_ge (tgt := 20) hx hb dJ7_fill_53178_7 (by decide) (fun c7 => ?_) (fun c7 => ?_)
      · have hq20_1 : yr 15 15 j5_l2 := yr_leR (yrc (a := 15) (b := 15) (x := 15) (by decide) (by decide)) hj5_l2 c7 (by decide)
        refine W.widen (k := 0) (n := 0) (Nat.le_of_ble_eq_true rfl) (Nat.le_of_ble_eq_true rfl) ?_
        exact yy_vret (((fun _ => 0), (fun k0_ => match k0_ with | 0 => j5_ch0 | _ => fun _ => 0)) : yU) hx hb hr hlk hsz hAe hK hP hD hS [0] rfl rfl (by decide) trivial dJ7_fill_53178_20
      · have hq10_2 : yr 0 14 j5_l2 := yr_ltL hj5_l2 (yrc (a := 15) (b := 15) (x := 15) (by decide) (by decide)) (Int32.not_le.mp c7) (by decide)
        refine lv_aload_n hx hb dJ7_fill_53178_10 rfl (lv_at hl 0 rfl) ?_
        refine lv_iload_n hx hb dJ7_fill_53178_11 rfl (lv_at hl 2 rfl) ?_
        refine lv_iload_n hx hb dJ7_fill_53178_12 rfl (lv_at hl 1 rfl) ?_
        refine yg_iast hx hb hK hP hD hS 0 0 rfl rfl (yr_in hq10_2 (by decide) (by decide)) dJ7_fill_53178_13 (fun f13 ef13 H locs hP hD hS => ?_)
        have hP : va_P (dC, dI) vwCl [(h0, .inl (cyI, 15, .inl f13))] H := hP
        have hD : va_D A [(h0, .inl (cyI, 15, .inl f13))] := hD
        have hq14_3 : yr 1 15 (j5_l2 + 1) := yr_add hq10_2 (yrc (a := 1) (b := 1) (by decide) (by decide)) (by decide) (by decide) (by decide) (by decide)
        refine lv_iinc (v := (j5_l2 + 1)) (lv' := [(2, .int (j5_l2 + 1)), (0, .ref h0), (1, .int v), (3, .int 15)]) hx hb dJ7_fill_53178_14 hl (k := 2) rfl rfl (by decide) rfl (fun ls hl => ?_)
        refine lv_goto (tgt := 5) hx hb dJ7_fill_53178_17 (by decide) ?_
        exact ih5 f13 (j5_l2 + 1) _ _ _ (yms hm5 (yr_w hq10_2 (by decide) (by decide)) rfl) (yr_w hq14_3 (by decide) (by decide))  (hP.sub [0] rfl) (hD.sub [0] (by decide) rfl) hS (lv_sub hl [1, 2, 0, 3] rfl)
  exact J5 _ gh0 0 _ _ _ (Nat.lt_succ_self _) (yrc (a := 0) (b := 15) (x := 0) (by decide) (by decide))  (hP.sub [0] rfl) (hD.sub [0] (by decide) rfl) hS (lv_sub hl [2, 3, 1, 0] rfl)
set_option maxHeartbeats 4000000 in
set_option maxRecDepth 100000 in
theorem g_fill48 (l : Launch) (dC : Nat → ClassId) (dI : Nat → Nat → Nat) (cyI cyZ cyO : ClassId) (sz : Nat) (h0 : Nat) (gh0 : Nat → Int32) (v : Int32)  : Met l yJ7_fill_53178 wsJ7_fill_53178 ({ frames := 0, cells := 0, slots := 0, locals := 0 }) (yPre [.ref h0, .int v] (dC, dI) [(h0, .inl (cyI, 48, .inl gh0))] (yT cyI cyZ cyO) sz) (yQv (fun (u : yU) => True) (dC, dI) [(h0, .inl (cyI, 48, .inl gh0))] (yT cyI cyZ cyO) sz (fun u => [(h0, .inl (cyI, 48, .inl (u.2 0)))])) 0 0 (va_A [(h0, .inl (cyI, 48, .inl gh0))] sz) := by
  refine yMet (cc := cJ7_fill_53178) (maxL := 4) (ret := none) (by decide) rfl (Nat.le_of_ble_eq_true rfl) ?_
  intro p e s m below meth c A hx hb hr hlk hml hts hown hnm hsz hAe hP hK hD hA hS ls hl
  have hl : lv_has ls 4 [(0, .ref h0), (1, .int v)] := hl
  refine lv_iconst (v := 0) hx hb dJ7_fill_53178_0 (by decide) ?_
  refine lv_istore_n (lv' := [(2, .int 0), (0, .ref h0), (1, .int v)]) hx hb dJ7_fill_53178_1 rfl hl (by decide) rfl (fun ls hl => ?_)
  refine lv_aload_n hx hb dJ7_fill_53178_2 rfl (lv_at hl 1 rfl) ?_
  refine va_alen (v := 48) hx hb hK hP 0 0 rfl rfl rfl dJ7_fill_53178_3 ?_
  refine lv_istore_n (lv' := [(3, .int 48), (2, .int 0), (0, .ref h0), (1, .int v)]) hx hb dJ7_fill_53178_4 rfl hl (by decide) rfl (fun ls hl => ?_)
  have J5 : ∀ (n5 : Nat) (j5_ch0 : Nat → Int32) (j5_l2 : Int32) (H : Heap) (locs : List Loc) (ls : Array Slot), (48 - (j5_l2 : Int32).toInt).toNat < n5 → yr 0 48 j5_l2 → va_P (dC, dI) vwCl [(h0, .inl (cyI, 48, .inl j5_ch0))] H → va_D A [(h0, .inl (cyI, 48, .inl j5_ch0))] → va_S A s.heap H locs → lv_has ls 4 [(0, .ref h0), (1, .int v), (2, .int j5_l2), (3, .int 48)] → W p l e ({ frames := 0, cells := 0, slots := 0, locals := 0 } : Room) s m [.ref h0, .int v].toArray below meth c H locs 0 0 (MQ below (yQv (fun (u : yU) => True) (dC, dI) [(h0, .inl (cyI, 48, .inl gh0))] (yT cyI cyZ cyO) sz (fun u => [(h0, .inl (cyI, 48, .inl (u.2 0)))])) [.ref h0, .int v].toArray s 0 0 A) (F0 m 5 ls []) := by
    intro n5
    induction n5 with
    | zero => intro j5_ch0 j5_l2 H locs ls hm; exact absurd hm (Nat.not_lt_zero _)
    | succ n5 ih5 =>
      intro j5_ch0 j5_l2 H locs ls hm5 hj5_l2  hP hD hS hl
      refine lv_iload_n hx hb dJ7_fill_53178_5 rfl (lv_at hl 2 rfl) ?_
      refine lv_iload_n hx hb dJ7_fill_53178_6 rfl (lv_at hl 3 rfl) ?_
      refine lv_icmp_ge (tgt := 20) hx hb dJ7_fill_53178_7 (by decide) (fun c7 => ?_) (fun c7 => ?_)
      · have hq20_1 : yr 48 48 j5_l2 := yr_leR (yrc (a := 48) (b := 48) (x := 48) (by decide) (by decide)) hj5_l2 c7 (by decide)
        refine W.widen (k := 0) (n := 0) (Nat.le_of_ble_eq_true rfl) (Nat.le_of_ble_eq_true rfl) ?_
        exact yy_vret (((fun _ => 0), (fun k0_ => match k0_ with | 0 => j5_ch0 | _ => fun _ => 0)) : yU) hx hb hr hlk hsz hAe hK hP hD hS [0] rfl rfl (by decide) trivial dJ7_fill_53178_20
      · have hq10_2 : yr 0 47 j5_l2 := yr_ltL hj5_l2 (yrc (a := 48) (b := 48) (x := 48) (by decide) (by decide)) (Int32.not_le.mp c7) (by decide)
        refine lv_aload_n hx hb dJ7_fill_53178_10 rfl (lv_at hl 0 rfl) ?_
        refine lv_iload_n hx hb dJ7_fill_53178_11 rfl (lv_at hl 2 rfl) ?_
        refine lv_iload_n hx hb dJ7_fill_53178_12 rfl (lv_at hl 1 rfl) ?_
        refine yg_iast hx hb hK hP hD hS 0 0 rfl rfl (yr_in hq10_2 (by decide) (by decide)) dJ7_fill_53178_13 (fun f13 ef13 H locs hP hD hS => ?_)
        have hP : va_P (dC, dI) vwCl [(h0, .inl (cyI, 48, .inl f13))] H := hP
        have hD : va_D A [(h0, .inl (cyI, 48, .inl f13))] := hD
        have hq14_3 : yr 1 48 (j5_l2 + 1) := yr_add hq10_2 (yrc (a := 1) (b := 1) (by decide) (by decide)) (by decide) (by decide) (by decide) (by decide)
        refine lv_iinc (v := (j5_l2 + 1)) (lv' := [(2, .int (j5_l2 + 1)), (0, .ref h0), (1, .int v), (3, .int 48)]) hx hb dJ7_fill_53178_14 hl (k := 2) rfl rfl (by decide) rfl (fun ls hl => ?_)
        refine lv_goto (tgt := 5) hx hb dJ7_fill_53178_17 (by decide) ?_
        exact ih5 f13 (j5_l2 + 1) _ _ _ (yms hm5 (yr_w hq10_2 (by decide) (by decide)) rfl) (yr_w hq14_3 (by decide) (by decide))  (hP.sub [0] rfl) (hD.sub [0] (by decide) rfl) hS (lv_sub hl [1, 2, 0, 3] rfl)
  exact J5 _ gh0 0 _ _ _ (Nat.lt_succ_self _) (yrc (a := 0) (b := 48) (x := 0) (by decide) (by decide))  (hP.sub [0] rfl) (hD.sub [0] (by decide) rfl) hS (lv_sub hl [2, 3, 1, 0] rfl)
set_option maxHeartbeats 4000000 in
set_option maxRecDepth 100000 in
theorem g_fill8 (l : Launch) (dC : Nat → ClassId) (dI : Nat → Nat → Nat) (cyI cyZ cyO : ClassId) (sz : Nat) (h0 : Nat) (gh0 : Nat → Int32) (v : Int32)  : Met l yJ7_fill_53178 wsJ7_fill_53178 ({ frames := 0, cells := 0, slots := 0, locals := 0 }) (yPre [.ref h0, .int v] (dC, dI) [(h0, .inl (cyI, 8, .inl gh0))] (yT cyI cyZ cyO) sz) (yQv (fun (u : yU) => True) (dC, dI) [(h0, .inl (cyI, 8, .inl gh0))] (yT cyI cyZ cyO) sz (fun u => [(h0, .inl (cyI, 8, .inl (u.2 0)))])) 0 0 (va_A [(h0, .inl (cyI, 8, .inl gh0))] sz) := by
  refine yMet (cc := cJ7_fill_53178) (maxL := 4) (ret := none) (by decide) rfl (Nat.le_of_ble_eq_true rfl) ?_
  intro p e s m below meth c A hx hb hr hlk hml hts hown hnm hsz hAe hP hK hD hA hS ls hl
  have hl : lv_has ls 4 [(0, .ref h0), (1, .int v)] := hl
  refine lv_iconst (v := 0) hx hb dJ7_fill_53178_0 (by decide) ?_
  refine lv_istore_n (lv' := [(2, .int 0), (0, .ref h0), (1, .int v)]) hx hb dJ7_fill_53178_1 rfl hl (by decide) rfl (fun ls hl => ?_)
  refine lv_aload_n hx hb dJ7_fill_53178_2 rfl (lv_at hl 1 rfl) ?_
  refine va_alen (v := 8) hx hb hK hP 0 0 rfl rfl rfl dJ7_fill_53178_3 ?_
  refine lv_istore_n (lv' := [(3, .int 8), (2, .int 0), (0, .ref h0), (1, .int v)]) hx hb dJ7_fill_53178_4 rfl hl (by decide) rfl (fun ls hl => ?_)
  have J5 : ∀ (n5 : Nat) (j5_ch0 : Nat → Int32) (j5_l2 : Int32) (H : Heap) (locs : List Loc) (ls : Array Slot), (8 - (j5_l2 : Int32).toInt).toNat < n5 → yr 0 8 j5_l2 → va_P (dC, dI) vwCl [(h0, .inl (cyI, 8, .inl j5_ch0))] H → va_D A [(h0, .inl (cyI, 8, .inl j5_ch0))] → va_S A s.heap H locs → lv_has ls 4 [(0, .ref h0), (1, .int v), (2, .int j5_l2), (3, .int 8)] → W p l e ({ frames := 0, cells := 0, slots := 0, locals := 0 } : Room) s m [.ref h0, .int v].toArray below meth c H locs 0 0 (MQ below (yQv (fun (u : yU) => True) (dC, dI) [(h0, .inl (cyI, 8, .inl gh0))] (yT cyI cyZ cyO) sz (fun u => [(h0, .inl (cyI, 8, .inl (u.2 0)))])) [.ref h0, .int v].toArray s 0 0 A) (F0 m 5 ls []) := by
    intro n5
    induction n5 with
    | zero => intro j5_ch0 j5_l2 H locs ls hm; exact absurd hm (Nat.not_lt_zero _)
    | succ n5 ih5 =>
      intro j5_ch0 j5_l2 H locs ls hm5 hj5_l2  hP hD hS hl
      refine lv_iload_n hx hb dJ7_fill_53178_5 rfl (lv_at hl 2 rfl) ?_
      refine lv_iload_n hx hb dJ7_fill_53178_6 rfl (lv_at hl 3 rfl) ?_
      refine lv_icmp_ge (tgt := 20) hx hb dJ7_fill_53178_7 (by decide) (fun c7 => ?_) (fun c7 => ?_)
      · have hq20_1 : yr 8 8 j5_l2 := yr_leR (yrc (a := 8) (b := 8) (x := 8) (by decide) (by decide)) hj5_l2 c7 (by decide)
        refine W.widen (k := 0) (n := 0) (Nat.le_of_ble_eq_true rfl) (Nat.le_of_ble_eq_true rfl) ?_
        exact yy_vret (((fun _ => 0), (fun k0_ => match k0_ with | 0 => j5_ch0 | _ => fun _ => 0)) : yU) hx hb hr hlk hsz hAe hK hP hD hS [0] rfl rfl (by decide) trivial dJ7_fill_53178_20
      · have hq10_2 : yr 0 7 j5_l2 := yr_ltL hj5_l2 (yrc (a := 8) (b := 8) (x := 8) (by decide) (by decide)) (Int32.not_le.mp c7) (by decide)
        refine lv_aload_n hx hb dJ7_fill_53178_10 rfl (lv_at hl 0 rfl) ?_
        refine lv_iload_n hx hb dJ7_fill_53178_11 rfl (lv_at hl 2 rfl) ?_
        refine lv_iload_n hx hb dJ7_fill_53178_12 rfl (lv_at hl 1 rfl) ?_
        refine yg_iast hx hb hK hP hD hS 0 0 rfl rfl (yr_in hq10_2 (by decide) (by decide)) dJ7_fill_53178_13 (fun f13 ef13 H locs hP hD hS => ?_)
        have hP : va_P (dC, dI) vwCl [(h0, .inl (cyI, 8, .inl f13))] H := hP
        have hD : va_D A [(h0, .inl (cyI, 8, .inl f13))] := hD
        have hq14_3 : yr 1 8 (j5_l2 + 1) := yr_add hq10_2 (yrc (a := 1) (b := 1) (by decide) (by decide)) (by decide) (by decide) (by decide) (by decide)
        refine lv_iinc (v := (j5_l2 + 1)) (lv' := [(2, .int (j5_l2 + 1)), (0, .ref h0), (1, .int v), (3, .int 8)]) hx hb dJ7_fill_53178_14 hl (k := 2) rfl rfl (by decide) rfl (fun ls hl => ?_)
        refine lv_goto (tgt := 5) hx hb dJ7_fill_53178_17 (by decide) ?_
        exact ih5 f13 (j5_l2 + 1) _ _ _ (yms hm5 (yr_w hq10_2 (by decide) (by decide)) rfl) (yr_w hq14_3 (by decide) (by decide))  (hP.sub [0] rfl) (hD.sub [0] (by decide) rfl) hS (lv_sub hl [1, 2, 0, 3] rfl)
  exact J5 _ gh0 0 _ _ _ (Nat.lt_succ_self _) (yrc (a := 0) (b := 8) (x := 0) (by decide) (by decide))  (hP.sub [0] rfl) (hD.sub [0] (by decide) rfl) hS (lv_sub hl [2, 3, 1, 0] rfl)
set_option maxHeartbeats 4000000 in
set_option maxRecDepth 100000 in
theorem g_fill16 (l : Launch) (dC : Nat → ClassId) (dI : Nat → Nat → Nat) (cyI cyZ cyO : ClassId) (sz : Nat) (h0 : Nat) (gh0 : Nat → Int32) (v : Int32)  : Met l yJ7_fill_53178 wsJ7_fill_53178 ({ frames := 0, cells := 0, slots := 0, locals := 0 }) (yPre [.ref h0, .int v] (dC, dI) [(h0, .inl (cyI, 16, .inl gh0))] (yT cyI cyZ cyO) sz) (yQv (fun (u : yU) => True) (dC, dI) [(h0, .inl (cyI, 16, .inl gh0))] (yT cyI cyZ cyO) sz (fun u => [(h0, .inl (cyI, 16, .inl (u.2 0)))])) 0 0 (va_A [(h0, .inl (cyI, 16, .inl gh0))] sz) := by
  refine yMet (cc := cJ7_fill_53178) (maxL := 4) (ret := none) (by decide) rfl (Nat.le_of_ble_eq_true rfl) ?_
  intro p e s m below meth c A hx hb hr hlk hml hts hown hnm hsz hAe hP hK hD hA hS ls hl
  have hl : lv_has ls 4 [(0, .ref h0), (1, .int v)] := hl
  refine lv_iconst (v := 0) hx hb dJ7_fill_53178_0 (by decide) ?_
  refine lv_istore_n (lv' := [(2, .int 0), (0, .ref h0), (1, .int v)]) hx hb dJ7_fill_53178_1 rfl hl (by decide) rfl (fun ls hl => ?_)
  refine lv_aload_n hx hb dJ7_fill_53178_2 rfl (lv_at hl 1 rfl) ?_
  refine va_alen (v := 16) hx hb hK hP 0 0 rfl rfl rfl dJ7_fill_53178_3 ?_
  refine lv_istore_n (lv' := [(3, .int 16), (2, .int 0), (0, .ref h0), (1, .int v)]) hx hb dJ7_fill_53178_4 rfl hl (by decide) rfl (fun ls hl => ?_)
  have J5 : ∀ (n5 : Nat) (j5_ch0 : Nat → Int32) (j5_l2 : Int32) (H : Heap) (locs : List Loc) (ls : Array Slot), (16 - (j5_l2 : Int32).toInt).toNat < n5 → yr 0 16 j5_l2 → va_P (dC, dI) vwCl [(h0, .inl (cyI, 16, .inl j5_ch0))] H → va_D A [(h0, .inl (cyI, 16, .inl j5_ch0))] → va_S A s.heap H locs → lv_has ls 4 [(0, .ref h0), (1, .int v), (2, .int j5_l2), (3, .int 16)] → W p l e ({ frames := 0, cells := 0, slots := 0, locals := 0 } : Room) s m [.ref h0, .int v].toArray below meth c H locs 0 0 (MQ below (yQv (fun (u : yU) => True) (dC, dI) [(h0, .inl (cyI, 16, .inl gh0))] (yT cyI cyZ cyO) sz (fun u => [(h0, .inl (cyI, 16, .inl (u.2 0)))])) [.ref h0, .int v].toArray s 0 0 A) (F0 m 5 ls []) := by
    intro n5
    induction n5 with
    | zero => intro j5_ch0 j5_l2 H locs ls hm; exact absurd hm (Nat.not_lt_zero _)
    | succ n5 ih5 =>
      intro j5_ch0 j5_l2 H locs ls hm5 hj5_l2  hP hD hS hl
      refine lv_iload_n hx hb dJ7_fill_53178_5 rfl (lv_at hl 2 rfl) ?_
      refine lv_iload_n hx hb dJ7_fill_53178_6 rfl (lv_at hl 3 rfl) ?_
      refine lv_icmp_ge (tgt := 20) hx hb dJ7_fill_53178_7 (by decide) (fun c7 => ?_) (fun c7 => ?_)
      · have hq20_1 : yr 16 16 j5_l2 := yr_leR (yrc (a := 16) (b := 16) (x := 16) (by decide) (by decide)) hj5_l2 c7 (by decide)
        refine W.widen (k := 0) (n := 0) (Nat.le_of_ble_eq_true rfl) (Nat.le_of_ble_eq_true rfl) ?_
        exact yy_vret (((fun _ => 0), (fun k0_ => match k0_ with | 0 => j5_ch0 | _ => fun _ => 0)) : yU) hx hb hr hlk hsz hAe hK hP hD hS [0] rfl rfl (by decide) trivial dJ7_fill_53178_20
      · have hq10_2 : yr 0 15 j5_l2 := yr_ltL hj5_l2 (yrc (a := 16) (b := 16) (x := 16) (by decide) (by decide)) (Int32.not_le.mp c7) (by decide)
        refine lv_aload_n hx hb dJ7_fill_53178_10 rfl (lv_at hl 0 rfl) ?_
        refine lv_iload_n hx hb dJ7_fill_53178_11 rfl (lv_at hl 2 rfl) ?_
        refine lv_iload_n hx hb dJ7_fill_53178_12 rfl (lv_at hl 1 rfl) ?_
        refine yg_iast hx hb hK hP hD hS 0 0 rfl rfl (yr_in hq10_2 (by decide) (by decide)) dJ7_fill_53178_13 (fun f13 ef13 H locs hP hD hS => ?_)
        have hP : va_P (dC, dI) vwCl [(h0, .inl (cyI, 16, .inl f13))] H := hP
        have hD : va_D A [(h0, .inl (cyI, 16, .inl f13))] := hD
        have hq14_3 : yr 1 16 (j5_l2 + 1) := yr_add hq10_2 (yrc (a := 1) (b := 1) (by decide) (by decide)) (by decide) (by decide) (by decide) (by decide)
        refine lv_iinc (v := (j5_l2 + 1)) (lv' := [(2, .int (j5_l2 + 1)), (0, .ref h0), (1, .int v), (3, .int 16)]) hx hb dJ7_fill_53178_14 hl (k := 2) rfl rfl (by decide) rfl (fun ls hl => ?_)
        refine lv_goto (tgt := 5) hx hb dJ7_fill_53178_17 (by decide) ?_
        exact ih5 f13 (j5_l2 + 1) _ _ _ (yms hm5 (yr_w hq10_2 (by decide) (by decide)) rfl) (yr_w hq14_3 (by decide) (by decide))  (hP.sub [0] rfl) (hD.sub [0] (by decide) rfl) hS (lv_sub hl [1, 2, 0, 3] rfl)
  exact J5 _ gh0 0 _ _ _ (Nat.lt_succ_self _) (yrc (a := 0) (b := 16) (x := 0) (by decide) (by decide))  (hP.sub [0] rfl) (hD.sub [0] (by decide) rfl) hS (lv_sub hl [2, 3, 1, 0] rfl)
set_option maxHeartbeats 4000000 in
set_option maxRecDepth 100000 in
theorem g_Cclear (l : Launch) (dC : Nat → ClassId) (dI : Nat → Nat → Nat) (cyI cyZ cyO : ClassId) (sz : Nat) (h0 : Nat) (h0_fresh : Int32) (h0_held : Nat) (gh0_held : Nat → Int32) (h0_spent : Nat) (gh0_spent : Nat → Int32) (ap : Nat) (ap_slaves : Int32) (ap_registers : Int32) (ap_depth : Int32) (ap_limit : Int32) (ap_changes : Int32) (ap_first : Nat) (ap_last : Nat) (ap_wait : Nat) (ap_broken : Nat) (ap_words : Nat) (ap_kinds : Nat) (ap_values : Nat) (gap_values : Nat → Int32) (ap_owners : Nat) (h_ap_slaves : yr 0 8 ap_slaves) (h_ap_registers : yr 0 48 ap_registers) (h_ap_depth : yr 0 4 ap_depth) : Met l yX1_clear wsX1_clear ({ frames := 1, cells := 0, slots := 0, locals := 23 }) (yPre [.ref h0, .ref ap] (dC, dI) [(h0, .inr (1, [.ref h0_held, .ref h0_spent, .int h0_fresh])), (h0_held, .inl (cyI, 48, .inl gh0_held)), (h0_spent, .inl (cyI, 48, .inl gh0_spent)), (ap, .inr (6, [.ref ap_first, .ref ap_last, .ref ap_wait, .ref ap_broken, .ref ap_words, .ref ap_kinds, .ref ap_values, .ref ap_owners, .int ap_slaves, .int ap_registers, .int ap_depth, .int ap_limit, .int ap_changes])), (ap_values, .inl (cyI, 48, .inl gap_values))] (yT cyI cyZ cyO) sz) (yQv (fun (u : yU) => True) (dC, dI) [(h0, .inr (1, [.ref h0_held, .ref h0_spent, .int h0_fresh])), (h0_held, .inl (cyI, 48, .inl gh0_held)), (h0_spent, .inl (cyI, 48, .inl gh0_spent)), (ap, .inr (6, [.ref ap_first, .ref ap_last, .ref ap_wait, .ref ap_broken, .ref ap_words, .ref ap_kinds, .ref ap_values, .ref ap_owners, .int ap_slaves, .int ap_registers, .int ap_depth, .int ap_limit, .int ap_changes])), (ap_values, .inl (cyI, 48, .inl gap_values))] (yT cyI cyZ cyO) sz (fun u => [(h0, .inr (1, [.ref h0_held, .ref h0_spent, .int (u.1 0)])), (h0_held, .inl (cyI, 48, .inl (u.2 0))), (h0_spent, .inl (cyI, 48, .inl (u.2 1))), (ap, .inr (6, [.ref ap_first, .ref ap_last, .ref ap_wait, .ref ap_broken, .ref ap_words, .ref ap_kinds, .ref ap_values, .ref ap_owners, .int ap_slaves, .int ap_registers, .int ap_depth, .int ap_limit, .int ap_changes])), (ap_values, .inl (cyI, 48, .inl gap_values))])) 0 0 (va_A [(h0, .inr (1, [.ref h0_held, .ref h0_spent, .int h0_fresh])), (h0_held, .inl (cyI, 48, .inl gh0_held)), (h0_spent, .inl (cyI, 48, .inl gh0_spent)), (ap, .inr (6, [.ref ap_first, .ref ap_last, .ref ap_wait, .ref ap_broken, .ref ap_words, .ref ap_kinds, .ref ap_values, .ref ap_owners, .int ap_slaves, .int ap_registers, .int ap_depth, .int ap_limit, .int ap_changes])), (ap_values, .inl (cyI, 48, .inl gap_values))] sz) := by
  refine yMet (cc := cX1_clear) (maxL := 2) (ret := none) (by decide) rfl (Nat.le_of_ble_eq_true rfl) ?_
  intro p e s m below meth c A hx hb hr hlk hml hts hown hnm hsz hAe hP hK hD hA hS ls hl
  have hl : lv_has ls 2 [(0, .ref h0), (1, .ref ap)] := hl
  have hm25 := hts (.methodLink RX1 25 arraycopyName) (by decide +kernel)
  have hcn := hts (.native arraycopyName) (by decide +kernel)
  have hcs := hts (.static arraycopyName) (by decide +kernel)
  have hci := hts (.initialized "java/lang/System") (by decide +kernel)
  have hf15 := hts (.fieldLink RX1 15 "BusBridge$Cells" "spent" "[I") (by decide +kernel)
  have hf18 := hts (.fieldLink RX1 18 "BusBridge$Cells" "fresh" "I") (by decide +kernel)
  have hf22 := hts (.fieldLink RX1 22 "BusBridge$Plan" "values" "[I") (by decide +kernel)
  have hf9 := hts (.fieldLink RX1 9 "BusBridge$Cells" "held" "[I") (by decide +kernel)
  have hnX1 : ∀ w ∈ wsX10, w ∈ wsX1_clear := by decide +kernel
  have hnX6 : ∀ w ∈ wsX60, w ∈ wsX1_clear := by decide +kernel
  refine lv_aload_n hx hb dX1_clear_0 rfl (lv_at hl 1 rfl) ?_
  refine va_get (D := (dC, dI)) (ci := 6) (v := .ref ap_values) (C := RX6) (T := TX6) (N := 13) hx hb hts hnX6 hown hK hP 3 rfl rfl 6 (by decide) hf22 (fun _ h9 => h9) rfl dX1_clear_1 ?_
  refine lv_iconst (v := 0) hx hb dX1_clear_4 (by decide) ?_
  refine lv_aload_n hx hb dX1_clear_5 rfl (lv_at hl 0 rfl) ?_
  refine va_get (D := (dC, dI)) (ci := 1) (v := .ref h0_held) (C := RX1) (T := TX1) (N := 3) hx hb hts hnX1 hown hK hP 0 rfl rfl 0 (by decide) hf9 (fun _ h9 => h9) rfl dX1_clear_6 ?_
  refine lv_iconst (v := 0) hx hb dX1_clear_9 (by decide) ?_
  refine lv_aload_n hx hb dX1_clear_10 rfl (lv_at hl 0 rfl) ?_
  refine va_get (D := (dC, dI)) (ci := 1) (v := .ref h0_held) (C := RX1) (T := TX1) (N := 3) hx hb hts hnX1 hown hK hP 0 rfl rfl 0 (by decide) hf9 (fun _ h9 => h9) rfl dX1_clear_11 ?_
  refine va_alen (v := 48) hx hb hK hP 1 0 rfl rfl rfl dX1_clear_14 ?_
  refine yg_copy hx hb (by rw [hml]; exact hl.1.symm) hown hm25 hcn hcs hci hK hP hD hS 4 1 0 rfl rfl rfl (by decide) (by decide) (by decide) (Nat.le_of_ble_eq_true rfl) (Nat.le_of_ble_eq_true rfl) dX1_clear_15 (fun f15 H locs hP hD hS => ?_)
  have hP : va_P (dC, dI) vwCl [(h0, .inr (1, [.ref h0_held, .ref h0_spent, .int h0_fresh])), (h0_held, .inl (cyI, 48, .inl f15)), (h0_spent, .inl (cyI, 48, .inl gh0_spent)), (ap, .inr (6, [.ref ap_first, .ref ap_last, .ref ap_wait, .ref ap_broken, .ref ap_words, .ref ap_kinds, .ref ap_values, .ref ap_owners, .int ap_slaves, .int ap_registers, .int ap_depth, .int ap_limit, .int ap_changes])), (ap_values, .inl (cyI, 48, .inl gap_values))] H := hP
  have hD : va_D A [(h0, .inr (1, [.ref h0_held, .ref h0_spent, .int h0_fresh])), (h0_held, .inl (cyI, 48, .inl f15)), (h0_spent, .inl (cyI, 48, .inl gh0_spent)), (ap, .inr (6, [.ref ap_first, .ref ap_last, .ref ap_wait, .ref ap_broken, .ref ap_words, .ref ap_kinds, .ref ap_values, .ref ap_owners, .int ap_slaves, .int ap_registers, .int ap_depth, .int ap_limit, .int ap_changes])), (ap_values, .inl (cyI, 48, .inl gap_values))] := hD
  refine lv_aload_n hx hb dX1_clear_18 rfl (lv_at hl 0 rfl) ?_
  refine va_get (D := (dC, dI)) (ci := 1) (v := .ref h0_spent) (C := RX1) (T := TX1) (N := 3) hx hb hts hnX1 hown hK hP 0 rfl rfl 1 (by decide) hf15 (fun _ h9 => h9) rfl dX1_clear_19 ?_
  refine lv_iconst (v := 0) hx hb dX1_clear_22 (by decide) ?_
  have hPc := hP.sub (ws' := [(h0_spent, .inl (cyI, 48, .inl gh0_spent))]) [2] rfl
  have hDc := hD.sub (ws' := [(h0_spent, .inl (cyI, 48, .inl gh0_spent))]) [2] (by decide) rfl
  refine yy_callv [2] [0, 1, 3, 4] (wr := [(h0, .inr (1, [.ref h0_held, .ref h0_spent, .int h0_fresh])), (h0_held, .inl (cyI, 48, .inl f15)), (ap, .inr (6, [.ref ap_first, .ref ap_last, .ref ap_wait, .ref ap_broken, .ref ap_words, .ref ap_kinds, .ref ap_values, .ref ap_owners, .int ap_slaves, .int ap_registers, .int ap_depth, .int ap_limit, .int ap_changes])), (ap_values, .inl (cyI, 48, .inl gap_values))]) (va_runS (As := [.ref h0_spent, .int 0]) (rest := []) ⟨hx, hb, hml, hown, hts⟩ (g_fill48 l dC dI cyI cyZ cyO H.size h0_spent gh0_spent 0 ) (va_cwS 2 hts gX1_clear_J7_fill_53178 rfl rfl rfl (by decide +kernel) ⟨Nat.le_of_ble_eq_true rfl, Nat.le_of_ble_eq_true rfl⟩) (yPreS hK hPc hDc) rfl rfl hl.1 rfl (lv_room (Nat.le_of_ble_eq_true rfl)) dX1_clear_23 ⟨Nat.le_of_ble_eq_true rfl, Nat.le_of_ble_eq_true rfl⟩) hP hD hS hA rfl rfl (by decide) (by decide) (fun u23 H locs hw hP hD hS => ?_)
  have hP : va_P (dC, dI) vwCl [(h0, .inr (1, [.ref h0_held, .ref h0_spent, .int h0_fresh])), (h0_held, .inl (cyI, 48, .inl f15)), (ap, .inr (6, [.ref ap_first, .ref ap_last, .ref ap_wait, .ref ap_broken, .ref ap_words, .ref ap_kinds, .ref ap_values, .ref ap_owners, .int ap_slaves, .int ap_registers, .int ap_depth, .int ap_limit, .int ap_changes])), (ap_values, .inl (cyI, 48, .inl gap_values)), (h0_spent, .inl (cyI, 48, .inl (u23.2 0)))] H := hP
  have hD : va_D A [(h0, .inr (1, [.ref h0_held, .ref h0_spent, .int h0_fresh])), (h0_held, .inl (cyI, 48, .inl f15)), (ap, .inr (6, [.ref ap_first, .ref ap_last, .ref ap_wait, .ref ap_broken, .ref ap_words, .ref ap_kinds, .ref ap_values, .ref ap_owners, .int ap_slaves, .int ap_registers, .int ap_depth, .int ap_limit, .int ap_changes])), (ap_values, .inl (cyI, 48, .inl gap_values)), (h0_spent, .inl (cyI, 48, .inl (u23.2 0)))] := hD
  refine W.widen (k := 0) (n := 0) (Nat.le_of_ble_eq_true rfl) (Nat.le_of_ble_eq_true rfl) ?_
  refine lv_aload_n hx hb dX1_clear_26 rfl (lv_at hl 0 rfl) ?_
  refine lv_iconst (v := (-1)) hx hb dX1_clear_27 (by decide) ?_
  refine va_put (D := (dC, dI)) (ci := 1) (v := .int (-1)) (ty := .int) (C := RX1) (T := TX1) (N := 3) hx hb hts hnX1 tyX1 tyX1_ok nmX1 hown hK hP hD hS 0 rfl rfl 2 (by decide) hf18 (fun _ h9 => h9) rfl (by decide +kernel) rfl rfl (Nat.le_of_ble_eq_true rfl) dX1_clear_28 (fun H locs hP hD hS => ?_)
  have hP : va_P (dC, dI) vwCl [(h0, .inr (1, [.ref h0_held, .ref h0_spent, .int (-1)])), (h0_held, .inl (cyI, 48, .inl f15)), (ap, .inr (6, [.ref ap_first, .ref ap_last, .ref ap_wait, .ref ap_broken, .ref ap_words, .ref ap_kinds, .ref ap_values, .ref ap_owners, .int ap_slaves, .int ap_registers, .int ap_depth, .int ap_limit, .int ap_changes])), (ap_values, .inl (cyI, 48, .inl gap_values)), (h0_spent, .inl (cyI, 48, .inl (u23.2 0)))] H := hP
  have hD : va_D A [(h0, .inr (1, [.ref h0_held, .ref h0_spent, .int (-1)])), (h0_held, .inl (cyI, 48, .inl f15)), (ap, .inr (6, [.ref ap_first, .ref ap_last, .ref ap_wait, .ref ap_broken, .ref ap_words, .ref ap_kinds, .ref ap_values, .ref ap_owners, .int ap_slaves, .int ap_registers, .int ap_depth, .int ap_limit, .int ap_changes])), (ap_values, .inl (cyI, 48, .inl gap_values)), (h0_spent, .inl (cyI, 48, .inl (u23.2 0)))] := hD
  refine W.widen (k := 0) (n := 0) (Nat.le_of_ble_eq_true rfl) (Nat.le_of_ble_eq_true rfl) ?_
  exact yy_vret (((fun k0_ => match k0_ with | 0 => (-1) | _ => 0), (fun k0_ => match k0_ with | 0 => f15 | 1 => (u23.2 0) | _ => fun _ => 0)) : yU) hx hb hr hlk hsz hAe hK hP hD hS [0, 1, 4, 2, 3] rfl rfl (by decide) trivial dX1_clear_31
set_option maxHeartbeats 4000000 in
set_option maxRecDepth 100000 in
theorem g_Ccopy (l : Launch) (dC : Nat → ClassId) (dI : Nat → Nat → Nat) (cyI cyZ cyO : ClassId) (sz : Nat) (h0 : Nat) (h0_fresh : Int32) (h0_held : Nat) (gh0_held : Nat → Int32) (h0_spent : Nat) (gh0_spent : Nat → Int32) (ao : Nat) (ao_fresh : Int32) (ao_held : Nat) (gao_held : Nat → Int32) (ao_spent : Nat) (gao_spent : Nat → Int32)  : Met l yX1_copyFrom wsX1_copyFrom ({ frames := 1, cells := 0, slots := 0, locals := 18 }) (yPre [.ref h0, .ref ao] (dC, dI) [(h0, .inr (1, [.ref h0_held, .ref h0_spent, .int h0_fresh])), (h0_held, .inl (cyI, 48, .inl gh0_held)), (h0_spent, .inl (cyI, 48, .inl gh0_spent)), (ao, .inr (1, [.ref ao_held, .ref ao_spent, .int ao_fresh])), (ao_held, .inl (cyI, 48, .inl gao_held)), (ao_spent, .inl (cyI, 48, .inl gao_spent))] (yT cyI cyZ cyO) sz) (yQv (fun (u : yU) => True) (dC, dI) [(h0, .inr (1, [.ref h0_held, .ref h0_spent, .int h0_fresh])), (h0_held, .inl (cyI, 48, .inl gh0_held)), (h0_spent, .inl (cyI, 48, .inl gh0_spent)), (ao, .inr (1, [.ref ao_held, .ref ao_spent, .int ao_fresh])), (ao_held, .inl (cyI, 48, .inl gao_held)), (ao_spent, .inl (cyI, 48, .inl gao_spent))] (yT cyI cyZ cyO) sz (fun u => [(h0, .inr (1, [.ref h0_held, .ref h0_spent, .int (u.1 0)])), (h0_held, .inl (cyI, 48, .inl (u.2 0))), (h0_spent, .inl (cyI, 48, .inl (u.2 1))), (ao, .inr (1, [.ref ao_held, .ref ao_spent, .int ao_fresh])), (ao_held, .inl (cyI, 48, .inl gao_held)), (ao_spent, .inl (cyI, 48, .inl gao_spent))])) 0 0 (va_A [(h0, .inr (1, [.ref h0_held, .ref h0_spent, .int h0_fresh])), (h0_held, .inl (cyI, 48, .inl gh0_held)), (h0_spent, .inl (cyI, 48, .inl gh0_spent)), (ao, .inr (1, [.ref ao_held, .ref ao_spent, .int ao_fresh])), (ao_held, .inl (cyI, 48, .inl gao_held)), (ao_spent, .inl (cyI, 48, .inl gao_spent))] sz) := by
  refine yMet (cc := cX1_copyFrom) (maxL := 2) (ret := none) (by decide) rfl (Nat.le_of_ble_eq_true rfl) ?_
  intro p e s m below meth c A hx hb hr hlk hml hts hown hnm hsz hAe hP hK hD hA hS ls hl
  have hl : lv_has ls 2 [(0, .ref h0), (1, .ref ao)] := hl
  have hm25 := hts (.methodLink RX1 25 arraycopyName) (by decide +kernel)
  have hcn := hts (.native arraycopyName) (by decide +kernel)
  have hcs := hts (.static arraycopyName) (by decide +kernel)
  have hci := hts (.initialized "java/lang/System") (by decide +kernel)
  have hf15 := hts (.fieldLink RX1 15 "BusBridge$Cells" "spent" "[I") (by decide +kernel)
  have hf18 := hts (.fieldLink RX1 18 "BusBridge$Cells" "fresh" "I") (by decide +kernel)
  have hf9 := hts (.fieldLink RX1 9 "BusBridge$Cells" "held" "[I") (by decide +kernel)
  have hnX1 : ∀ w ∈ wsX10, w ∈ wsX1_copyFrom := by decide +kernel
  refine lv_aload_n hx hb dX1_copyFrom_0 rfl (lv_at hl 1 rfl) ?_
  refine va_get (D := (dC, dI)) (ci := 1) (v := .ref ao_held) (C := RX1) (T := TX1) (N := 3) hx hb hts hnX1 hown hK hP 3 rfl rfl 0 (by decide) hf9 (fun _ h9 => h9) rfl dX1_copyFrom_1 ?_
  refine lv_iconst (v := 0) hx hb dX1_copyFrom_4 (by decide) ?_
  refine lv_aload_n hx hb dX1_copyFrom_5 rfl (lv_at hl 0 rfl) ?_
  refine va_get (D := (dC, dI)) (ci := 1) (v := .ref h0_held) (C := RX1) (T := TX1) (N := 3) hx hb hts hnX1 hown hK hP 0 rfl rfl 0 (by decide) hf9 (fun _ h9 => h9) rfl dX1_copyFrom_6 ?_
  refine lv_iconst (v := 0) hx hb dX1_copyFrom_9 (by decide) ?_
  refine lv_aload_n hx hb dX1_copyFrom_10 rfl (lv_at hl 0 rfl) ?_
  refine va_get (D := (dC, dI)) (ci := 1) (v := .ref h0_held) (C := RX1) (T := TX1) (N := 3) hx hb hts hnX1 hown hK hP 0 rfl rfl 0 (by decide) hf9 (fun _ h9 => h9) rfl dX1_copyFrom_11 ?_
  refine va_alen (v := 48) hx hb hK hP 1 0 rfl rfl rfl dX1_copyFrom_14 ?_
  refine yg_copy hx hb (by rw [hml]; exact hl.1.symm) hown hm25 hcn hcs hci hK hP hD hS 4 1 0 rfl rfl rfl (by decide) (by decide) (by decide) (Nat.le_of_ble_eq_true rfl) (Nat.le_of_ble_eq_true rfl) dX1_copyFrom_15 (fun f15 H locs hP hD hS => ?_)
  have hP : va_P (dC, dI) vwCl [(h0, .inr (1, [.ref h0_held, .ref h0_spent, .int h0_fresh])), (h0_held, .inl (cyI, 48, .inl f15)), (h0_spent, .inl (cyI, 48, .inl gh0_spent)), (ao, .inr (1, [.ref ao_held, .ref ao_spent, .int ao_fresh])), (ao_held, .inl (cyI, 48, .inl gao_held)), (ao_spent, .inl (cyI, 48, .inl gao_spent))] H := hP
  have hD : va_D A [(h0, .inr (1, [.ref h0_held, .ref h0_spent, .int h0_fresh])), (h0_held, .inl (cyI, 48, .inl f15)), (h0_spent, .inl (cyI, 48, .inl gh0_spent)), (ao, .inr (1, [.ref ao_held, .ref ao_spent, .int ao_fresh])), (ao_held, .inl (cyI, 48, .inl gao_held)), (ao_spent, .inl (cyI, 48, .inl gao_spent))] := hD
  refine lv_aload_n hx hb dX1_copyFrom_18 rfl (lv_at hl 1 rfl) ?_
  refine va_get (D := (dC, dI)) (ci := 1) (v := .ref ao_spent) (C := RX1) (T := TX1) (N := 3) hx hb hts hnX1 hown hK hP 3 rfl rfl 1 (by decide) hf15 (fun _ h9 => h9) rfl dX1_copyFrom_19 ?_
  refine lv_iconst (v := 0) hx hb dX1_copyFrom_22 (by decide) ?_
  refine lv_aload_n hx hb dX1_copyFrom_23 rfl (lv_at hl 0 rfl) ?_
  refine va_get (D := (dC, dI)) (ci := 1) (v := .ref h0_spent) (C := RX1) (T := TX1) (N := 3) hx hb hts hnX1 hown hK hP 0 rfl rfl 1 (by decide) hf15 (fun _ h9 => h9) rfl dX1_copyFrom_24 ?_
  refine lv_iconst (v := 0) hx hb dX1_copyFrom_27 (by decide) ?_
  refine lv_aload_n hx hb dX1_copyFrom_28 rfl (lv_at hl 0 rfl) ?_
  refine va_get (D := (dC, dI)) (ci := 1) (v := .ref h0_spent) (C := RX1) (T := TX1) (N := 3) hx hb hts hnX1 hown hK hP 0 rfl rfl 1 (by decide) hf15 (fun _ h9 => h9) rfl dX1_copyFrom_29 ?_
  refine va_alen (v := 48) hx hb hK hP 2 0 rfl rfl rfl dX1_copyFrom_32 ?_
  refine yg_copy hx hb (by rw [hml]; exact hl.1.symm) hown hm25 hcn hcs hci hK hP hD hS 5 2 0 rfl rfl rfl (by decide) (by decide) (by decide) (Nat.le_of_ble_eq_true rfl) (Nat.le_of_ble_eq_true rfl) dX1_copyFrom_33 (fun f33 H locs hP hD hS => ?_)
  have hP : va_P (dC, dI) vwCl [(h0, .inr (1, [.ref h0_held, .ref h0_spent, .int h0_fresh])), (h0_held, .inl (cyI, 48, .inl f15)), (h0_spent, .inl (cyI, 48, .inl f33)), (ao, .inr (1, [.ref ao_held, .ref ao_spent, .int ao_fresh])), (ao_held, .inl (cyI, 48, .inl gao_held)), (ao_spent, .inl (cyI, 48, .inl gao_spent))] H := hP
  have hD : va_D A [(h0, .inr (1, [.ref h0_held, .ref h0_spent, .int h0_fresh])), (h0_held, .inl (cyI, 48, .inl f15)), (h0_spent, .inl (cyI, 48, .inl f33)), (ao, .inr (1, [.ref ao_held, .ref ao_spent, .int ao_fresh])), (ao_held, .inl (cyI, 48, .inl gao_held)), (ao_spent, .inl (cyI, 48, .inl gao_spent))] := hD
  refine lv_aload_n hx hb dX1_copyFrom_36 rfl (lv_at hl 0 rfl) ?_
  refine lv_aload_n hx hb dX1_copyFrom_37 rfl (lv_at hl 1 rfl) ?_
  refine va_get (D := (dC, dI)) (ci := 1) (v := .int ao_fresh) (C := RX1) (T := TX1) (N := 3) hx hb hts hnX1 hown hK hP 3 rfl rfl 2 (by decide) hf18 (fun _ h9 => h9) rfl dX1_copyFrom_38 ?_
  refine va_put (D := (dC, dI)) (ci := 1) (v := .int ao_fresh) (ty := .int) (C := RX1) (T := TX1) (N := 3) hx hb hts hnX1 tyX1 tyX1_ok nmX1 hown hK hP hD hS 0 rfl rfl 2 (by decide) hf18 (fun _ h9 => h9) rfl (by decide +kernel) rfl rfl (Nat.le_of_ble_eq_true rfl) dX1_copyFrom_41 (fun H locs hP hD hS => ?_)
  have hP : va_P (dC, dI) vwCl [(h0, .inr (1, [.ref h0_held, .ref h0_spent, .int ao_fresh])), (h0_held, .inl (cyI, 48, .inl f15)), (h0_spent, .inl (cyI, 48, .inl f33)), (ao, .inr (1, [.ref ao_held, .ref ao_spent, .int ao_fresh])), (ao_held, .inl (cyI, 48, .inl gao_held)), (ao_spent, .inl (cyI, 48, .inl gao_spent))] H := hP
  have hD : va_D A [(h0, .inr (1, [.ref h0_held, .ref h0_spent, .int ao_fresh])), (h0_held, .inl (cyI, 48, .inl f15)), (h0_spent, .inl (cyI, 48, .inl f33)), (ao, .inr (1, [.ref ao_held, .ref ao_spent, .int ao_fresh])), (ao_held, .inl (cyI, 48, .inl gao_held)), (ao_spent, .inl (cyI, 48, .inl gao_spent))] := hD
  refine W.widen (k := 0) (n := 0) (Nat.le_of_ble_eq_true rfl) (Nat.le_of_ble_eq_true rfl) ?_
  exact yy_vret (((fun k0_ => match k0_ with | 0 => ao_fresh | _ => 0), (fun k0_ => match k0_ with | 0 => f15 | 1 => f33 | _ => fun _ => 0)) : yU) hx hb hr hlk hsz hAe hK hP hD hS [0, 1, 2, 3, 4, 5] rfl rfl (by decide) trivial dX1_copyFrom_44
set_option maxHeartbeats 4000000 in
set_option maxRecDepth 100000 in
theorem g_Cread (l : Launch) (dC : Nat → ClassId) (dI : Nat → Nat → Nat) (cyI cyZ cyO : ClassId) (sz : Nat) (h0 : Nat) (h0_fresh : Int32) (h0_held : Nat) (gh0_held : Nat → Int32) (h0_spent : Nat) (ap : Nat) (ap_slaves : Int32) (ap_registers : Int32) (ap_depth : Int32) (ap_limit : Int32) (ap_changes : Int32) (ap_first : Nat) (ap_last : Nat) (ap_wait : Nat) (ap_broken : Nat) (ap_words : Nat) (gap_words : Nat → Int32) (ap_kinds : Nat) (gap_kinds : Nat → Int32) (ap_values : Nat) (ap_owners : Nat) (gap_owners : Nat → Int32) (i : Int32) (a : Int32) (h_ap_slaves : yr 0 8 ap_slaves) (h_ap_registers : yr 0 48 ap_registers) (h_ap_depth : yr 0 4 ap_depth) : Met l yX1_read wsX1_read ({ frames := 1, cells := 0, slots := 0, locals := 23 }) (yPre [.ref h0, .ref ap, .int i, .int a] (dC, dI) [(h0, .inr (1, [.ref h0_held, .ref h0_spent, .int h0_fresh])), (h0_held, .inl (cyI, 48, .inl gh0_held)), (ap, .inr (6, [.ref ap_first, .ref ap_last, .ref ap_wait, .ref ap_broken, .ref ap_words, .ref ap_kinds, .ref ap_values, .ref ap_owners, .int ap_slaves, .int ap_registers, .int ap_depth, .int ap_limit, .int ap_changes])), (ap_words, .inl (cyI, 48, .inl gap_words)), (ap_kinds, .inl (cyI, 48, .inl gap_kinds)), (ap_owners, .inl (cyI, 48, .inl gap_owners))] (yT cyI cyZ cyO) sz) (yQi (fun (r : Int32) (u : yU) => True) (dC, dI) [(h0, .inr (1, [.ref h0_held, .ref h0_spent, .int h0_fresh])), (h0_held, .inl (cyI, 48, .inl gh0_held)), (ap, .inr (6, [.ref ap_first, .ref ap_last, .ref ap_wait, .ref ap_broken, .ref ap_words, .ref ap_kinds, .ref ap_values, .ref ap_owners, .int ap_slaves, .int ap_registers, .int ap_depth, .int ap_limit, .int ap_changes])), (ap_words, .inl (cyI, 48, .inl gap_words)), (ap_kinds, .inl (cyI, 48, .inl gap_kinds)), (ap_owners, .inl (cyI, 48, .inl gap_owners))] (yT cyI cyZ cyO) sz (fun u => [(h0, .inr (1, [.ref h0_held, .ref h0_spent, .int h0_fresh])), (h0_held, .inl (cyI, 48, .inl (u.2 0))), (ap, .inr (6, [.ref ap_first, .ref ap_last, .ref ap_wait, .ref ap_broken, .ref ap_words, .ref ap_kinds, .ref ap_values, .ref ap_owners, .int ap_slaves, .int ap_registers, .int ap_depth, .int ap_limit, .int ap_changes])), (ap_words, .inl (cyI, 48, .inl gap_words)), (ap_kinds, .inl (cyI, 48, .inl gap_kinds)), (ap_owners, .inl (cyI, 48, .inl gap_owners))])) 0 0 (va_A [(h0, .inr (1, [.ref h0_held, .ref h0_spent, .int h0_fresh])), (h0_held, .inl (cyI, 48, .inl gh0_held)), (ap, .inr (6, [.ref ap_first, .ref ap_last, .ref ap_wait, .ref ap_broken, .ref ap_words, .ref ap_kinds, .ref ap_values, .ref ap_owners, .int ap_slaves, .int ap_registers, .int ap_depth, .int ap_limit, .int ap_changes])), (ap_words, .inl (cyI, 48, .inl gap_words)), (ap_kinds, .inl (cyI, 48, .inl gap_kinds)), (ap_owners, .inl (cyI, 48, .inl gap_owners))] sz) := by
  refine yMet (cc := cX1_read) (maxL := 6) (ret := (some .int)) (by decide) rfl (Nat.le_of_ble_eq_true rfl) ?_
  intro p e s m below meth c A hx hb hr hlk hml hts hown hnm hsz hAe hP hK hD hA hS ls hl
  have hl : lv_has ls 6 [(0, .ref h0), (1, .ref ap), (2, .int i), (3, .int a)] := hl
  have hf41 := hts (.fieldLink RX1 41 "BusBridge$Plan" "kinds" "[I") (by decide +kernel)
  have hf9 := hts (.fieldLink RX1 9 "BusBridge$Cells" "held" "[I") (by decide +kernel)
  have hnX1 : ∀ w ∈ wsX10, w ∈ wsX1_read := by decide +kernel
  have hnX6 : ∀ w ∈ wsX60, w ∈ wsX1_read := by decide +kernel
  refine lv_aload_n hx hb dX1_read_0 rfl (lv_at hl 1 rfl) ?_
  refine lv_iload_n hx hb dX1_read_1 rfl (lv_at hl 2 rfl) ?_
  refine lv_iload_n hx hb dX1_read_2 rfl (lv_at hl 3 rfl) ?_
  have hPc := hP.sub (ws' := [(ap, .inr (6, [.ref ap_first, .ref ap_last, .ref ap_wait, .ref ap_broken, .ref ap_words, .ref ap_kinds, .ref ap_values, .ref ap_owners, .int ap_slaves, .int ap_registers, .int ap_depth, .int ap_limit, .int ap_changes])), (ap_words, .inl (cyI, 48, .inl gap_words)), (ap_owners, .inl (cyI, 48, .inl gap_owners))]) [2, 3, 5] rfl
  have hDc := hD.sub (ws' := [(ap, .inr (6, [.ref ap_first, .ref ap_last, .ref ap_wait, .ref ap_broken, .ref ap_words, .ref ap_kinds, .ref ap_values, .ref ap_owners, .int ap_slaves, .int ap_registers, .int ap_depth, .int ap_limit, .int ap_changes])), (ap_words, .inl (cyI, 48, .inl gap_words)), (ap_owners, .inl (cyI, 48, .inl gap_owners))]) [2, 3, 5] (by decide) rfl
  refine yy_calli [2, 3, 5] [0, 1, 4] (wr := [(h0, .inr (1, [.ref h0_held, .ref h0_spent, .int h0_fresh])), (h0_held, .inl (cyI, 48, .inl gh0_held)), (ap_kinds, .inl (cyI, 48, .inl gap_kinds))]) (va_runV (As := [.int i, .int a]) (rest := []) ⟨hx, hb, hml, hown, hts⟩ (g_registerOf l dC dI cyI cyZ cyO s.heap.size ap ap_slaves ap_registers ap_depth ap_limit ap_changes ap_first ap_last ap_wait ap_broken ap_words gap_words ap_kinds ap_values ap_owners gap_owners i a h_ap_slaves h_ap_registers h_ap_depth) (cwV 2 hts gX1_read_X6_registerOf rfl rfl rfl (by decide +kernel) ⟨Nat.le_of_ble_eq_true rfl, Nat.le_of_ble_eq_true rfl⟩) (yPreV hK hPc hDc (ci := 6) (q0 := 0) rfl rfl) rfl rfl hl.1 rfl (lv_room (Nat.le_of_ble_eq_true rfl)) dX1_read_3 ⟨Nat.le_of_ble_eq_true rfl, Nat.le_of_ble_eq_true rfl⟩) hP hD hS hA rfl rfl (by decide) (by decide) (fun r3 u3 H locs hw hP hD hS => ?_)
  have hP : va_P (dC, dI) vwCl [(h0, .inr (1, [.ref h0_held, .ref h0_spent, .int h0_fresh])), (h0_held, .inl (cyI, 48, .inl gh0_held)), (ap_kinds, .inl (cyI, 48, .inl gap_kinds)), (ap, .inr (6, [.ref ap_first, .ref ap_last, .ref ap_wait, .ref ap_broken, .ref ap_words, .ref ap_kinds, .ref ap_values, .ref ap_owners, .int ap_slaves, .int ap_registers, .int ap_depth, .int ap_limit, .int ap_changes])), (ap_words, .inl (cyI, 48, .inl gap_words)), (ap_owners, .inl (cyI, 48, .inl gap_owners))] H := hP
  have hD : va_D A [(h0, .inr (1, [.ref h0_held, .ref h0_spent, .int h0_fresh])), (h0_held, .inl (cyI, 48, .inl gh0_held)), (ap_kinds, .inl (cyI, 48, .inl gap_kinds)), (ap, .inr (6, [.ref ap_first, .ref ap_last, .ref ap_wait, .ref ap_broken, .ref ap_words, .ref ap_kinds, .ref ap_values, .ref ap_owners, .int ap_slaves, .int ap_registers, .int ap_depth, .int ap_limit, .int ap_changes])), (ap_words, .inl (cyI, 48, .inl gap_words)), (ap_owners, .inl (cyI, 48, .inl gap_owners))] := hD
  refine W.widen (k := 0) (n := 0) (Nat.le_of_ble_eq_true rfl) (Nat.le_of_ble_eq_true rfl) ?_
  have hw3_0 := hw
  refine lv_istore (lv' := [(4, .int r3), (0, .ref h0), (1, .ref ap), (2, .int i), (3, .int a)]) hx hb dX1_read_6 hl (by decide) rfl (fun ls hl => ?_)
  refine lv_iload hx hb dX1_read_8 (lv_at hl 0 rfl) ?_
  refine lv_if_ge (tgt := 15) hx hb dX1_read_10 (by decide) (fun c10 => ?_) (fun c10 => ?_)
  · have hq15_1 : yr 0 47 r3 := yr_leR (yrc (a := 0) (b := 0) (x := 0) (by decide) (by decide)) hw3_0 c10 (by decide)
    refine lv_aload_n hx hb dX1_read_15 rfl (lv_at hl 1 rfl) ?_
    refine va_get (D := (dC, dI)) (ci := 1) (v := .ref h0_held) (C := RX1) (T := TX1) (N := 3) hx hb hts hnX1 hown hK hP 0 rfl rfl 0 (by decide) hf9 (fun _ h9 => h9) rfl dX1_read_16 ?_
    refine lv_iload hx hb dX1_read_19 (lv_at hl 0 rfl) ?_
    refine va_iald hx hb hK hP 1 0 rfl rfl (yr_in hq15_1 (by decide) (by decide)) dX1_read_21 ?_
    refine lv_topi (fun v21 ev21 => ?_)
    refine lv_istore (lv' := [(5, .int v21), (4, .int r3), (0, .ref h0), (1, .ref ap), (2, .int i), (3, .int a)]) hx hb dX1_read_22 hl (by decide) rfl (fun ls hl => ?_)
    refine lv_aload_n hx hb dX1_read_24 rfl (lv_at hl 3 rfl) ?_
    refine va_get (D := (dC, dI)) (ci := 6) (v := .ref ap_kinds) (C := RX6) (T := TX6) (N := 13) hx hb hts hnX6 hown hK hP 3 rfl rfl 5 (by decide) hf41 (fun _ h9 => h9) rfl dX1_read_25 ?_
    refine lv_iload hx hb dX1_read_28 (lv_at hl 1 rfl) ?_
    refine va_iald hx hb hK hP 2 0 rfl rfl (yr_in hq15_1 (by decide) (by decide)) dX1_read_30 ?_
    refine lv_topi (fun v30 ev30 => ?_)
    refine lv_bipush (v := 6) hx hb dX1_read_31 (by decide) ?_
    have J44 : ∀ (j44_ch0_held : Nat → Int32) (H : Heap) (locs : List Loc) (ls : Array Slot), va_P (dC, dI) vwCl [(h0, .inr (1, [.ref h0_held, .ref h0_spent, .int h0_fresh])), (h0_held, .inl (cyI, 48, .inl j44_ch0_held)), (ap_kinds, .inl (cyI, 48, .inl gap_kinds)), (ap, .inr (6, [.ref ap_first, .ref ap_last, .ref ap_wait, .ref ap_broken, .ref ap_words, .ref ap_kinds, .ref ap_values, .ref ap_owners, .int ap_slaves, .int ap_registers, .int ap_depth, .int ap_limit, .int ap_changes])), (ap_words, .inl (cyI, 48, .inl gap_words)), (ap_owners, .inl (cyI, 48, .inl gap_owners))] H → va_D A [(h0, .inr (1, [.ref h0_held, .ref h0_spent, .int h0_fresh])), (h0_held, .inl (cyI, 48, .inl j44_ch0_held)), (ap_kinds, .inl (cyI, 48, .inl gap_kinds)), (ap, .inr (6, [.ref ap_first, .ref ap_last, .ref ap_wait, .ref ap_broken, .ref ap_words, .ref ap_kinds, .ref ap_values, .ref ap_owners, .int ap_slaves, .int ap_registers, .int ap_depth, .int ap_limit, .int ap_changes])), (ap_words, .inl (cyI, 48, .inl gap_words)), (ap_owners, .inl (cyI, 48, .inl gap_owners))] → va_S A s.heap H locs → lv_has ls 6 [(0, .ref h0), (1, .ref ap), (2, .int i), (3, .int a), (4, .int r3), (5, .int v21)] → W p l e ({ frames := 1, cells := 0, slots := 0, locals := 23 } : Room) s m [.ref h0, .ref ap, .int i, .int a].toArray below meth c H locs 0 0 (MQ below (yQi (fun (r : Int32) (u : yU) => True) (dC, dI) [(h0, .inr (1, [.ref h0_held, .ref h0_spent, .int h0_fresh])), (h0_held, .inl (cyI, 48, .inl gh0_held)), (ap, .inr (6, [.ref ap_first, .ref ap_last, .ref ap_wait, .ref ap_broken, .ref ap_words, .ref ap_kinds, .ref ap_values, .ref ap_owners, .int ap_slaves, .int ap_registers, .int ap_depth, .int ap_limit, .int ap_changes])), (ap_words, .inl (cyI, 48, .inl gap_words)), (ap_kinds, .inl (cyI, 48, .inl gap_kinds)), (ap_owners, .inl (cyI, 48, .inl gap_owners))] (yT cyI cyZ cyO) sz (fun u => [(h0, .inr (1, [.ref h0_held, .ref h0_spent, .int h0_fresh])), (h0_held, .inl (cyI, 48, .inl (u.2 0))), (ap, .inr (6, [.ref ap_first, .ref ap_last, .ref ap_wait, .ref ap_broken, .ref ap_words, .ref ap_kinds, .ref ap_values, .ref ap_owners, .int ap_slaves, .int ap_registers, .int ap_depth, .int ap_limit, .int ap_changes])), (ap_words, .inl (cyI, 48, .inl gap_words)), (ap_kinds, .inl (cyI, 48, .inl gap_kinds)), (ap_owners, .inl (cyI, 48, .inl gap_owners))])) [.ref h0, .ref ap, .int i, .int a].toArray s 0 0 A) (F0 m 44 ls []) := by
      intro j44_ch0_held H locs ls   hP hD hS hl
      refine lv_iload hx hb dX1_read_44 (lv_at hl 5 rfl) ?_
      refine W.widen (k := 0) (n := 0) (Nat.le_of_ble_eq_true rfl) (Nat.le_of_ble_eq_true rfl) ?_
      exact yy_iret (v := v21) (((fun _ => 0), (fun k0_ => match k0_ with | 0 => j44_ch0_held | _ => fun _ => 0)) : yU) hx hb hr hlk rfl hsz hAe hK hP hD hS [0, 1, 3, 4, 2, 5] rfl rfl (by decide) trivial dX1_read_46
    refine lv_icmp_ne (tgt := 44) hx hb dX1_read_33 (by decide) (fun c33 => ?_) (fun c33 => ?_)
    · exact J44 gh0_held _ _ _   (hP.sub [0, 1, 2, 3, 4, 5] rfl) (hD.sub [0, 1, 2, 3, 4, 5] (by decide) rfl) hS (lv_sub hl [2, 3, 4, 5, 1, 0] rfl)
    · have hq36_2 : yr 6 6 v30 := yr_eq (yr_all _) (yrc (a := 6) (b := 6) (x := 6) (by decide) (by decide)) c33 (by decide) (by decide)
      refine lv_aload_n hx hb dX1_read_36 rfl (lv_at hl 2 rfl) ?_
      refine va_get (D := (dC, dI)) (ci := 1) (v := .ref h0_held) (C := RX1) (T := TX1) (N := 3) hx hb hts hnX1 hown hK hP 0 rfl rfl 0 (by decide) hf9 (fun _ h9 => h9) rfl dX1_read_37 ?_
      refine lv_iload hx hb dX1_read_40 (lv_at hl 1 rfl) ?_
      refine lv_iconst (v := 0) hx hb dX1_read_42 (by decide) ?_
      refine yg_iast hx hb hK hP hD hS 1 0 rfl rfl (yr_in hq15_1 (by decide) (by decide)) dX1_read_43 (fun f43 ef43 H locs hP hD hS => ?_)
      have hP : va_P (dC, dI) vwCl [(h0, .inr (1, [.ref h0_held, .ref h0_spent, .int h0_fresh])), (h0_held, .inl (cyI, 48, .inl f43)), (ap_kinds, .inl (cyI, 48, .inl gap_kinds)), (ap, .inr (6, [.ref ap_first, .ref ap_last, .ref ap_wait, .ref ap_broken, .ref ap_words, .ref ap_kinds, .ref ap_values, .ref ap_owners, .int ap_slaves, .int ap_registers, .int ap_depth, .int ap_limit, .int ap_changes])), (ap_words, .inl (cyI, 48, .inl gap_words)), (ap_owners, .inl (cyI, 48, .inl gap_owners))] H := hP
      have hD : va_D A [(h0, .inr (1, [.ref h0_held, .ref h0_spent, .int h0_fresh])), (h0_held, .inl (cyI, 48, .inl f43)), (ap_kinds, .inl (cyI, 48, .inl gap_kinds)), (ap, .inr (6, [.ref ap_first, .ref ap_last, .ref ap_wait, .ref ap_broken, .ref ap_words, .ref ap_kinds, .ref ap_values, .ref ap_owners, .int ap_slaves, .int ap_registers, .int ap_depth, .int ap_limit, .int ap_changes])), (ap_words, .inl (cyI, 48, .inl gap_words)), (ap_owners, .inl (cyI, 48, .inl gap_owners))] := hD
      exact J44 f43 _ _ _   (hP.sub [0, 1, 2, 3, 4, 5] rfl) (hD.sub [0, 1, 2, 3, 4, 5] (by decide) rfl) hS (lv_sub hl [2, 3, 4, 5, 1, 0] rfl)
  · have hq13_3 : yr (-1) (-1) r3 := yr_ltL hw3_0 (yrc (a := 0) (b := 0) (x := 0) (by decide) (by decide)) (Int32.not_le.mp c10) (by decide)
    refine lv_iconst (v := 0) hx hb dX1_read_13 (by decide) ?_
    refine W.widen (k := 0) (n := 0) (Nat.le_of_ble_eq_true rfl) (Nat.le_of_ble_eq_true rfl) ?_
    exact yy_iret (v := 0) (((fun _ => 0), (fun k0_ => match k0_ with | 0 => gh0_held | _ => fun _ => 0)) : yU) hx hb hr hlk rfl hsz hAe hK hP hD hS [0, 1, 3, 4, 2, 5] rfl rfl (by decide) trivial dX1_read_14
