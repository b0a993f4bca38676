/-- the switch's value -/
theorem ylaw {j : Nat} (h : j < 32) : j = 0 ∨ j = 1 ∨ j = 2 ∨ j = 3 ∨ j = 4 ∨ j = 5 ∨ j = 6 ∨ j = 7 ∨ j = 8 ∨ j = 9 ∨ j = 10 ∨ j = 11 ∨ j = 12 ∨ j = 13 ∨ j = 14 ∨ j = 15 ∨ j = 16 ∨ j = 17 ∨ j = 18 ∨ j = 19 ∨ j = 20 ∨ j = 21 ∨ j = 22 ∨ j = 23 ∨ 24 ≤ j := by omega
theorem ylen6 {L : Nat} (hL : L ≤ 6) (h : ¬ Int32.ofNat L - 6 < 0) : L = 6 := by
  rcases (show L = 0 ∨ L = 1 ∨ L = 2 ∨ L = 3 ∨ L = 4 ∨ L = 5 ∨ L = 6 by omega) with rfl | rfl | rfl | rfl | rfl | rfl | rfl
  all_goals first | rfl | exact absurd (by decide) h
set_option maxHeartbeats 4000000 in
set_option maxRecDepth 100000 in
/-- the law's head: either the script is too short, or one call is made -/
theorem law_head {p : Program} {e : Env} {s : State} {m : MethodId} {below : List Frame} {meth : Method} {c : Code} (l : Launch) {b : Nat} {xs : Nat → Int32} {L : Nat} (hL : L ≤ 6) (C0 : lw_At p s m meth c b L xs) {dC : Nat → ClassId} {dI : Nat → Nat → Nat} {cyI cyZ cyO : ClassId} {A : Nat → Prop} (hA : ∀ q : Nat, s.heap.size ≤ q → A q) (hbA : ¬ A b) (hN : yN s) (hK : va_K (dC, dI) vwCl (yT cyI cyZ cyO) s) (q0 q1 : Nat) (ux um : Nat → Nat) {H : Heap} {locs : List Loc} (hP : va_P (dC, dI) vwCl (yWX cyI cyZ cyO q0 ux ++ yWM cyI cyZ q1 um) H) (hD : va_D A (yWX cyI cyZ cyO q0 ux ++ yWM cyI cyZ q1 um)) (hS : va_S A s.heap H locs) {ls : Array Slot} (hl : lv_has ls 4 [(3, .int 0), (2, .ref q1), (1, .ref q0), (0, .ref b)]) (hAs : ∀ q : Nat, A q → s.heap.size ≤ q) : W p l e room_1 s m #[Value.ref b] below meth c H locs 58 13281 (lw_Z below #[Value.ref b] s) (F0 m 18 ls []) := by
  obtain ⟨hx, hb, hr, hml, hown0, hts0, hX, hbl, hlk, hgv⟩ := id C0
  refine lv_iload_n hx hb dL_law_18 rfl (lv_at hl 0 rfl) ?_
  refine lv_aload_n hx hb dL_law_19 rfl (lv_at hl 3 rfl) ?_
  refine va_slen hx hb hX hbl hbA hS dL_law_20 ?_
  refine lv_bipush (v := 6) hx hb dL_law_21 (by decide) ?_
  refine lv_isub hx hb dL_law_23 ?_
  have out : ∀ (H : Heap) (locs : List Loc), va_S A s.heap H locs → ∀ ls : Array Slot, W p l e room_1 s m #[Value.ref b] below meth c H locs 600000 7302250 (lw_Z below #[Value.ref b] s) (F0 m 844 ls []) := by
    intro H locs hS ls
    refine lv_iconst (v := 1) hx hb dL_law_844 (by decide) ?_
    refine va_forget (fun q hq => hAs _ (hS.2.2 q hq)) ?_
    exact lw_ret hx hb hr hlk dL_law_845
  refine lv_icmp_gt (tgt := 844) hx hb dL_law_24 (by decide) (fun c24 => ?_) (fun c24 => ?_)
  · refine W.widen (k := 600000) (n := 7302250) (Nat.le_of_ble_eq_true rfl) (Nat.le_of_ble_eq_true rfl) ?_
    exact out _ _ hS _
  · have e6 := ylen6 hL c24
    subst e6
    have fin : ∀ (H : Heap) (locs : List Loc), va_S A s.heap H locs → ∀ ls : Array Slot, lv_has ls 4 [(3, .int 0), (2, .ref q1), (1, .ref q0), (0, .ref b)] → W p l e room_1 s m #[Value.ref b] below meth c H locs 600000 7302250 (lw_Z below #[Value.ref b] s) (F0 m 838 ls []) := by
      intro H locs hS ls hl
      refine lv_iinc (v := 6) (lv' := [(3, .int 6), (2, .ref q1), (1, .ref q0), (0, .ref b)]) hx hb dL_law_838 hl (k := 0) rfl (by decide) (by decide) rfl (fun ls hl => ?_)
      refine lv_goto (tgt := 18) hx hb dL_law_841 (by decide) ?_
      refine lv_iload_n hx hb dL_law_18 rfl (lv_at hl 0 rfl) ?_
      refine lv_aload_n hx hb dL_law_19 rfl (lv_at hl 3 rfl) ?_
      refine va_slen hx hb hX hbl hbA hS dL_law_20 ?_
      refine lv_bipush (v := 6) hx hb dL_law_21 (by decide) ?_
      refine lv_isub hx hb dL_law_23 ?_
      refine yy_int (v := 0) (by decide) ?_
      refine lv_icmp_gt (tgt := 844) hx hb dL_law_24 (by decide) (fun _ => ?_) (fun c => absurd (by decide) c)
      exact out _ _ hS _
    refine lv_aload_n hx hb dL_law_27 rfl (lv_at hl 3 rfl) ?_
    refine lv_iload_n hx hb dL_law_28 rfl (lv_at hl 0 rfl) ?_
    refine va_sld hx hb hX hbl hbA hS (yin (by decide)) dL_law_29 ?_
    refine yy_int (v := (xs 0)) rfl ?_
    refine lv_bipush (v := 31) hx hb dL_law_30 (by decide) ?_
    refine lv_iand hx hb dL_law_32 ?_
    obtain ⟨j, hj, ej⟩ := pk_andE (xs 0) (m := 31) 5 (by decide)
    refine yy_int (v := nI j) ej ?_
    rcases ylaw hj with rfl | rfl | rfl | rfl | rfl | rfl | rfl | rfl | rfl | rfl | rfl | rfl | rfl | rfl | rfl | rfl | rfl | rfl | rfl | rfl | rfl | rfl | rfl | rfl | hj2
    · refine yy_int (v := 0) (by decide) ?_
      refine lv_tableIn (off := 111) (tgt := 144) hx hb dL_law_33 (by decide) (by decide) (by decide) (by decide) ?_
      exact law_slave l C0 hA hbA hN hK q0 q1 ux um hP hD hS hl fin
    · refine yy_int (v := 1) (by decide) ?_
      refine lv_tableIn (off := 180) (tgt := 213) hx hb dL_law_33 (by decide) (by decide) (by decide) (by decide) ?_
      exact law_register l C0 hA hbA hN hK q0 q1 ux um hP hD hS hl fin
    · refine yy_int (v := 2) (by decide) ?_
      refine lv_tableIn (off := 223) (tgt := 256) hx hb dL_law_33 (by decide) (by decide) (by decide) (by decide) ?_
      exact law_depth l C0 hA hbA hN hK q0 q1 ux um hP hD hS hl fin
    · refine yy_int (v := 3) (by decide) ?_
      refine lv_tableIn (off := 246) (tgt := 279) hx hb dL_law_33 (by decide) (by decide) (by decide) (by decide) ?_
      exact law_limit l C0 hA hbA hN hK q0 q1 ux um hP hD hS hl fin
    · refine yy_int (v := 4) (by decide) ?_
      refine lv_tableIn (off := 269) (tgt := 302) hx hb dL_law_33 (by decide) (by decide) (by decide) (by decide) ?_
      exact law_reset l C0 hA hbA hN hK q0 q1 ux um hP hD hS hl fin
    · refine yy_int (v := 5) (by decide) ?_
      refine lv_tableIn (off := 282) (tgt := 315) hx hb dL_law_33 (by decide) (by decide) (by decide) (by decide) ?_
      exact law_transfer l C0 hA hbA hN hK q0 q1 ux um hP hD hS hl fin
    · refine yy_int (v := 6) (by decide) ?_
      refine lv_tableIn (off := 361) (tgt := 394) hx hb dL_law_33 (by decide) (by decide) (by decide) (by decide) ?_
      exact law_clock l C0 hA hbA hN hK q0 q1 ux um hP hD hS hl fin
    · refine yy_int (v := 7) (by decide) ?_
      refine lv_tableIn (off := 384) (tgt := 417) hx hb dL_law_33 (by decide) (by decide) (by decide) (by decide) ?_
      exact law_finish l C0 hA hbA hN hK q0 q1 ux um hP hD hS hl fin
    · refine yy_int (v := 8) (by decide) ?_
      refine lv_tableIn (off := 407) (tgt := 440) hx hb dL_law_33 (by decide) (by decide) (by decide) (by decide) ?_
      exact law_turn l C0 hA hbA hN hK q0 q1 ux um hP hD hS hl fin
    · refine yy_int (v := 9) (by decide) ?_
      refine lv_tableIn (off := 450) (tgt := 483) hx hb dL_law_33 (by decide) (by decide) (by decide) (by decide) ?_
      exact law_wire l C0 hA hbA hN hK q0 q1 ux um hP hD hS hl fin
    · refine yy_int (v := 10) (by decide) ?_
      refine lv_tableIn (off := 473) (tgt := 506) hx hb dL_law_33 (by decide) (by decide) (by decide) (by decide) ?_
      exact law_under l C0 hA hbA hN hK q0 q1 ux um hP hD hS hl fin
    · refine yy_int (v := 11) (by decide) ?_
      refine lv_tableIn (off := 496) (tgt := 529) hx hb dL_law_33 (by decide) (by decide) (by decide) (by decide) ?_
      exact law_result l C0 hA hbA hN hK q0 q1 ux um hP hD hS hl fin
    · refine yy_int (v := 12) (by decide) ?_
      refine lv_tableIn (off := 529) (tgt := 562) hx hb dL_law_33 (by decide) (by decide) (by decide) (by decide) ?_
      exact law_log l C0 hA hbA hN hK q0 q1 ux um hP hD hS hl fin
    · refine yy_int (v := 13) (by decide) ?_
      refine lv_tableIn (off := 562) (tgt := 595) hx hb dL_law_33 (by decide) (by decide) (by decide) (by decide) ?_
      exact law_findings l C0 hA hbA hN hK q0 q1 ux um hP hD hS hl fin
    · refine yy_int (v := 14) (by decide) ?_
      refine lv_tableIn (off := 585) (tgt := 618) hx hb dL_law_33 (by decide) (by decide) (by decide) (by decide) ?_
      exact law_finding l C0 hA hbA hN hK q0 q1 ux um hP hD hS hl fin
    · refine yy_int (v := 15) (by decide) ?_
      refine lv_tableIn (off := 618) (tgt := 651) hx hb dL_law_33 (by decide) (by decide) (by decide) (by decide) ?_
      exact law_value l C0 hA hbA hN hK q0 q1 ux um hP hD hS hl fin
    · refine yy_int (v := 16) (by decide) ?_
      refine lv_tableIn (off := 641) (tgt := 674) hx hb dL_law_33 (by decide) (by decide) (by decide) (by decide) ?_
      exact law_decode l C0 hA hbA hN hK q0 q1 ux um hP hD hS hl fin
    · refine yy_int (v := 17) (by decide) ?_
      refine lv_tableIn (off := 664) (tgt := 697) hx hb dL_law_33 (by decide) (by decide) (by decide) (by decide) ?_
      exact law_bridge l C0 hA hbA hN hK q0 q1 ux um hP hD hS hl fin
    · refine yy_int (v := 18) (by decide) ?_
      refine lv_tableIn (off := 687) (tgt := 720) hx hb dL_law_33 (by decide) (by decide) (by decide) (by decide) ?_
      exact law_again l C0 hA hbA hN hK q0 q1 ux um hP hD hS hl fin
    · refine yy_int (v := 19) (by decide) ?_
      refine lv_tableIn (off := 700) (tgt := 733) hx hb dL_law_33 (by decide) (by decide) (by decide) (by decide) ?_
      exact law_keep l C0 hA hbA hN hK q0 q1 ux um hP hD hS hl fin
    · refine yy_int (v := 20) (by decide) ?_
      refine lv_tableIn (off := 723) (tgt := 756) hx hb dL_law_33 (by decide) (by decide) (by decide) (by decide) ?_
      exact law_back l C0 hA hbA hN hK q0 q1 ux um hP hD hS hl fin
    · refine yy_int (v := 21) (by decide) ?_
      refine lv_tableIn (off := 746) (tgt := 779) hx hb dL_law_33 (by decide) (by decide) (by decide) (by decide) ?_
      exact law_differs l C0 hA hbA hN hK q0 q1 ux um hP hD hS hl fin
    · refine yy_int (v := 22) (by decide) ?_
      refine lv_tableIn (off := 769) (tgt := 802) hx hb dL_law_33 (by decide) (by decide) (by decide) (by decide) ?_
      exact law_told l C0 hA hbA hN hK q0 q1 ux um hP hD hS hl fin
    · refine yy_int (v := 23) (by decide) ?_
      refine lv_tableIn (off := 792) (tgt := 825) hx hb dL_law_33 (by decide) (by decide) (by decide) (by decide) ?_
      exact law_status l C0 hA hbA hN hK q0 q1 ux um hP hD hS hl fin
    · refine lv_tableOut (tgt := 838) hx hb dL_law_33 (Or.inr (by rw [nI_toInt (by omega)]; omega)) (by decide) ?_
      refine W.widen (k := 600000) (n := 7302250) (Nat.le_of_ble_eq_true rfl) (Nat.le_of_ble_eq_true rfl) ?_
      exact fin _ _ hS _ hl
set_option maxHeartbeats 4000000 in
set_option maxRecDepth 100000 in
/-- THE LAW, from its entry -/
theorem whole_start {p : Program} {e : Env} {s : State} {m : MethodId} {below : List Frame} {meth : Method} {c : Code} (l : Launch) {b L : Nat} {xs : Nat → Int32} (hL : L ≤ 6) (C0 : lw_At p s m meth c b L xs) : W p l e room_1 s m #[Value.ref b] below meth c s.heap [] 0 0 (lw_Z below #[Value.ref b] s) (entryFrame m ([Value.ref b] : List Value).toArray 4) := by
  obtain ⟨hx, hb, hr, hml, hown0, hts0, hX, hbl, hlk, hgv⟩ := id C0
  have hown : s.vm.findClass RL = some m.cls := hown0
  have hts : ∀ w ∈ wsL_law, w.before #[Value.ref b] s = true := fun w h => hts0 w (wsL_law_in w h)
  obtain ⟨A, hAe⟩ : ∃ A : Nat → Prop, A = fun q : Nat => s.heap.size ≤ q := ⟨_, rfl⟩
  have hA : ∀ q : Nat, s.heap.size ≤ q → A q := fun q h => by rw [hAe]; exact h
  have hAs : ∀ q : Nat, A q → s.heap.size ≤ q := fun q h => by rw [hAe] at h; exact h
  have hbA : ¬ A b := fun h => absurd (hAs b h) (Nat.not_le.mpr hbl)
  obtain ⟨cX0, iX0, kX0⟩ := u_known (C := RX0) (T := TX0) (N := 9) (n := 9) hts0 inX0 (hts (.instantiable RX0 9) (by decide +kernel))
  obtain ⟨cX1, iX1, kX1⟩ := u_known (C := RX1) (T := TX1) (N := 3) (n := 3) hts0 inX1 (hts (.instantiable RX1 3) (by decide +kernel))
  obtain ⟨cX2, iX2, kX2⟩ := u_known (C := RX2) (T := TX2) (N := 14) (n := 14) hts0 inX2 (hts (.instantiable RX2 14) (by decide +kernel))
  obtain ⟨cX3, iX3, kX3⟩ := u_known (C := RX3) (T := TX3) (N := 7) (n := 7) hts0 inX3 (hts (.instantiable RX3 7) (by decide +kernel))
  obtain ⟨cX4, iX4, kX4⟩ := u_known (C := RX4) (T := TX4) (N := 7) (n := 7) hts0 inX4 (hts (.instantiable RX4 7) (by decide +kernel))
  obtain ⟨cX5, iX5, kX5⟩ := u_known (C := RX5) (T := TX5) (N := 5) (n := 5) hts0 inX5 (hts (.instantiable RX5 5) (by decide +kernel))
  obtain ⟨cX6, iX6, kX6⟩ := u_known (C := RX6) (T := TX6) (N := 13) (n := 13) hts0 inX6 (hts (.instantiable RX6 13) (by decide +kernel))
  obtain ⟨cX7, iX7, kX7⟩ := u_known (C := RX7) (T := TX7) (N := 4) (n := 4) hts0 inX7 (hts (.instantiable RX7 4) (by decide +kernel))
  obtain ⟨cX8, iX8, kX8⟩ := u_known (C := RX8) (T := TX8) (N := 4) (n := 4) hts0 inX8 (hts (.instantiable RX8 4) (by decide +kernel))
  obtain ⟨cX9, iX9, kX9⟩ := u_known (C := RX9) (T := TX9) (N := 6) (n := 6) hts0 inX9 (hts (.instantiable RX9 6) (by decide +kernel))
  obtain ⟨cX10, iX10, kX10⟩ := u_known (C := RX10) (T := TX10) (N := 6) (n := 6) hts0 inX10 (hts (.instantiable RX10 6) (by decide +kernel))
  obtain ⟨cX11, iX11, kX11⟩ := u_known (C := RX11) (T := TX11) (N := 24) (n := 24) hts0 inX11 (hts (.instantiable RX11 24) (by decide +kernel))
  obtain ⟨dC, dI, hKc⟩ : ∃ (dC : Nat → ClassId) (dI : Nat → Nat → Nat), ∀ (k : Nat) (q : vw_C), vwCl[k]? = some q → u_Kn s q.1 q.2.1 q.2.2 (dC k) (dI k) := by
    refine ⟨fun k => match k with | 0 => cX0 | 1 => cX1 | 2 => cX2 | 3 => cX3 | 4 => cX4 | 5 => cX5 | 6 => cX6 | 7 => cX7 | 8 => cX8 | 9 => cX9 | 10 => cX10 | _ => cX11, fun k => match k with | 0 => iX0 | 1 => iX1 | 2 => iX2 | 3 => iX3 | 4 => iX4 | 5 => iX5 | 6 => iX6 | 7 => iX7 | 8 => iX8 | 9 => iX9 | 10 => iX10 | _ => iX11, ?_⟩
    intro k q hq
    match k, hq with
    | 0, hq => cases hq; exact kX0
    | 1, hq => cases hq; exact kX1
    | 2, hq => cases hq; exact kX2
    | 3, hq => cases hq; exact kX3
    | 4, hq => cases hq; exact kX4
    | 5, hq => cases hq; exact kX5
    | 6, hq => cases hq; exact kX6
    | 7, hq => cases hq; exact kX7
    | 8, hq => cases hq; exact kX8
    | 9, hq => cases hq; exact kX9
    | 10, hq => cases hq; exact kX10
    | 11, hq => cases hq; exact kX11
    | k + 12, hq => simp [vwCl] at hq
  obtain ⟨cyI, kI, pI, fI, gI, eI⟩ := Cond.arrayClass_spec (hts (.arrayClass .int) (by decide +kernel))
  obtain ⟨cyZ, kZ, pZ, fZ, gZ, eZ⟩ := Cond.arrayClass_spec (hts (.arrayClass .boolean) (by decide +kernel))
  have hover : (Cond.arrayOver (.object "BusBridge$Machine")).before #[Value.ref b] s = true := hts0 _ (by decide +kernel)
  obtain ⟨pO, cyO, kO, o1, o2, o3, o4, o5⟩ := Cond.arrayOver_spec hover
  have hK : va_K (dC, dI) vwCl (yT cyI cyZ cyO) s := by
    refine ⟨hKc, fun k q hk => ?_⟩
    match k, hk with
    | 0, hk => cases hk; exact ⟨fun n z => ⟨fun k h => (by cases h), kI, gI, pI, eI⟩, fI⟩
    | 1, hk => cases hk; exact ⟨fun n z => ⟨fun k h => (by cases h), kZ, gZ, pZ, eZ⟩, fZ⟩
    | 2, hk => cases hk; exact ⟨fun n z => ⟨fun k h => (by cases h), kO, o3, pO, o4⟩, kO, pO, o3, o4, o1, o5⟩
    | k + 3, hk => simp [yT] at hk
  have hN : yN s := ⟨va_Nw.of rfl (hts0 (.methodLinkNest RX10 9 yX6_init RX10) (by decide +kernel)), va_Nw.of rfl (hts0 (.methodLinkNest RX10 18 yX3_init RX10) (by decide +kernel)), va_Nw.of rfl (hts0 (.methodLinkNest RX10 33 yX1_init RX10) (by decide +kernel)), va_Nw.of rfl (hts0 (.methodLinkNest RX0 9 yX2_init RX10) (by decide +kernel)), va_Nw.of rfl (hts0 (.methodLinkNest RX3 11 yX9_init RX10) (by decide +kernel)), va_Nw.of rfl (hts0 (.methodLinkNest RX3 20 yX1_init RX10) (by decide +kernel)), va_Nw.of rfl (hts0 (.methodLinkNest RX3 27 yX4_init RX10) (by decide +kernel)), va_Nw.of rfl (hts0 (.methodLinkNest RX3 34 yX0_init RX10) (by decide +kernel)), va_Nw.of rfl (hts0 (.methodLinkNest RX3 41 yX7_init RX10) (by decide +kernel)), va_Nw.of rfl (hts0 (.methodLinkNest RX3 48 yX5_init RX10) (by decide +kernel)), va_AO.of hover⟩
  have hS : va_S A s.heap s.heap [] := va_S.rf
  have hP : va_P (dC, dI) vwCl [] s.heap := fun k q h => by simp at h
  have hD : va_D A [] := ⟨fun i j p q h => by simp at h, fun k q h => by simp at h⟩
  have hl := lv_entry ([.ref b]) (n := 4) (Nat.le_of_ble_eq_true rfl)
  rw [lg_entry_eq]
  generalize (lg_sl ([.ref b]) ++ List.replicate (4 - (lg_sl ([.ref b])).length) Slot.unset).toArray = ls at hl ⊢
  have hl : lv_has ls 4 [(0, .ref b)] := hl
  have hm9 := hts (.methodLink RL 9 yX10_init) (by decide +kernel)
  have hinX10_init := hts (.instanceMethod yX10_init) (by decide +kernel)
  have hjX10 := hts (.initialized RX10) (by decide +kernel)
  have hm12 := hts (.methodLink RL 12 yX11_init) (by decide +kernel)
  have hinX11_init := hts (.instanceMethod yX11_init) (by decide +kernel)
  have hjX11 := hts (.initialized RX11) (by decide +kernel)
  have hnX10 : ∀ w ∈ wsX100, w ∈ wsL_law := by decide +kernel
  have hnX11 : ∀ w ∈ wsX110, w ∈ wsL_law := by decide +kernel
  have hc10 := hts (.classLink RL 10 RX11) (by decide +kernel)
  have hiX11 := hts (.instantiable RX11 24) (by decide +kernel)
  have hc7 := hts (.classLink RL 7 RX10) (by decide +kernel)
  have hiX10 := hts (.instantiable RX10 6) (by decide +kernel)
  refine va_new (ci := 10) (fs := [.null, .null, .null, .null, .null, .int 0]) (C := RX10) (T := TX10) (N := 6) hx hb hts hnX10 tyX10 tyX10_ok hown hc7 hiX10 hjX10 hK hP hD hS hA rfl dfX10 (Nat.le_of_ble_eq_true rfl) (Nat.le_of_ble_eq_true rfl) dL_law_0 (fun q_1 H hP hD hS => ?_)
  have hP : va_P (dC, dI) vwCl [(q_1, .inr (10, [.null, .null, .null, .null, .null, .int 0]))] H := hP
  have hD : va_D A [(q_1, .inr (10, [.null, .null, .null, .null, .null, .int 0]))] := hD
  refine W.widen (k := 1) (n := 6) (Nat.le_of_ble_eq_true rfl) (Nat.le_of_ble_eq_true rfl) ?_
  refine lv_dup hx hb dL_law_3 rfl ?_
  have hPc := hP.sub (ws' := [(q_1, .inr (10, [.null, .null, .null, .null, .null, .int 0]))]) [0] rfl
  have hDc := hD.sub (ws' := [(q_1, .inr (10, [.null, .null, .null, .null, .null, .int 0]))]) [0] (by decide) rfl
  refine yy_callv [0] [] (wr := []) (va_runI (As := []) (rest := [.ref q_1]) ⟨hx, hb, hml, hown, hts⟩ (k_new l dC dI cyI cyZ cyO H.size q_1 ) (cwI 0 hts gL_law_X10_init rfl rfl rfl hjX10 hm9 hinX10_init rfl (by decide +kernel) ⟨Nat.le_of_ble_eq_true rfl, Nat.le_of_ble_eq_true rfl⟩) (yPreSN hK hPc hDc hN) rfl rfl hl.1 rfl (lv_room (Nat.le_of_ble_eq_true rfl)) dL_law_4 ⟨Nat.le_of_ble_eq_true rfl, Nat.le_of_ble_eq_true rfl⟩) hP hD hS hA rfl rfl (by decide) (by decide) (fun u_2 H locs hw hP hD hS => ?_)
  have hP : va_P (dC, dI) vwCl [(q_1, .inr (10, [.ref (u_2 26), .ref (u_2 0), .ref (u_2 35), .ref (u_2 36), .ref (u_2 37), .int 0])), ((u_2 0), .inr (3, [.ref (u_2 1), .ref (u_2 8), .ref (u_2 11), .ref (u_2 14), .ref (u_2 20), .ref (u_2 22), .int 0])), ((u_2 1), .inr (9, [.ref (u_2 2), .ref (u_2 3), .ref (u_2 4), .ref (u_2 5), .ref (u_2 6), .ref (u_2 7)])), ((u_2 2), .inl (cyI, 15, .inl yR)), ((u_2 3), .inl (cyI, 15, .inl (fun _ => 0))), ((u_2 4), .inl (cyI, 15, .inl (fun _ => 0))), ((u_2 5), .inl (cyI, 15, .inl (fun _ => 0))), ((u_2 6), .inl (cyI, 15, .inl (fun _ => 0))), ((u_2 7), .inl (cyI, 15, .inl (fun _ => 0))), ((u_2 8), .inr (1, [.ref (u_2 9), .ref (u_2 10), .int (-1)])), ((u_2 9), .inl (cyI, 48, .inl (fun _ => 0))), ((u_2 10), .inl (cyI, 48, .inl (fun _ => 0))), ((u_2 11), .inr (4, [.ref (u_2 12), .int (-1), .int (-1), .int 0, .int 0, .int 0, .int 0])), ((u_2 12), .inr (8, [.ref (u_2 13), .int 60, .int 9, .int 0])), ((u_2 13), .inl (cyI, 540, .inl (fun _ => 0))), ((u_2 14), .inr (0, [.ref (u_2 17), .ref (u_2 15), .ref (u_2 16), .int 0, .int 0, .int 0, .int 0, .int 0, .int 0])), ((u_2 15), .inl (cyI, 4, .inl (fun _ => 0))), ((u_2 16), .inl (cyI, 4, .inl (fun _ => 0))), ((u_2 17), .inr (2, [.ref (u_2 18), .int 0, .int 0, .int 0, .int 0, .int 0, .int 0, .int 0, .int 0, .int 0, .int 0, .int 0, .int (-1), .int 0])), ((u_2 18), .inr (8, [.ref (u_2 19), .int 200, .int 8, .int 0])), ((u_2 19), .inl (cyI, 1600, .inl (fun _ => 0))), ((u_2 20), .inr (7, [.ref (u_2 21), .int 0, .int 0, .int 0])), ((u_2 21), .inl (cyI, 8, .inl (fun _ => 0))), ((u_2 22), .inr (5, [.ref (u_2 23), .ref (u_2 24), .int 0, .int 0, .int 0])), ((u_2 23), .inl (cyI, 16, .inl (fun _ => 0))), ((u_2 24), .inr (8, [.ref (u_2 25), .int 60, .int 2, .int 0])), ((u_2 25), .inl (cyI, 120, .inl (fun _ => 0))), ((u_2 26), .inr (6, [.ref (u_2 27), .ref (u_2 28), .ref (u_2 29), .ref (u_2 30), .ref (u_2 31), .ref (u_2 32), .ref (u_2 33), .ref (u_2 34), .int 0, .int 0, .int 0, .int 32, .int 0])), ((u_2 27), .inl (cyI, 8, .inl (fun _ => 0))), ((u_2 28), .inl (cyI, 8, .inl (fun _ => 0))), ((u_2 29), .inl (cyI, 8, .inl (fun _ => 0))), ((u_2 30), .inl (cyZ, 8, .inl (fun _ => 0))), ((u_2 31), .inl (cyI, 48, .inl (fun _ => 0))), ((u_2 32), .inl (cyI, 48, .inl (fun _ => 0))), ((u_2 33), .inl (cyI, 48, .inl (fun _ => 0))), ((u_2 34), .inl (cyI, 48, .inl (fun _ => 0))), ((u_2 35), .inl (cyO, 3, .inr (.inr (.inr (.inr (fun _ => none)))))), ((u_2 36), .inl (cyI, 3, .inl (fun _ => 0))), ((u_2 37), .inr (1, [.ref (u_2 38), .ref (u_2 39), .int (-1)])), ((u_2 38), .inl (cyI, 48, .inl (fun _ => 0))), ((u_2 39), .inl (cyI, 48, .inl (fun _ => 0)))] H := hP
  have hD : va_D A [(q_1, .inr (10, [.ref (u_2 26), .ref (u_2 0), .ref (u_2 35), .ref (u_2 36), .ref (u_2 37), .int 0])), ((u_2 0), .inr (3, [.ref (u_2 1), .ref (u_2 8), .ref (u_2 11), .ref (u_2 14), .ref (u_2 20), .ref (u_2 22), .int 0])), ((u_2 1), .inr (9, [.ref (u_2 2), .ref (u_2 3), .ref (u_2 4), .ref (u_2 5), .ref (u_2 6), .ref (u_2 7)])), ((u_2 2), .inl (cyI, 15, .inl yR)), ((u_2 3), .inl (cyI, 15, .inl (fun _ => 0))), ((u_2 4), .inl (cyI, 15, .inl (fun _ => 0))), ((u_2 5), .inl (cyI, 15, .inl (fun _ => 0))), ((u_2 6), .inl (cyI, 15, .inl (fun _ => 0))), ((u_2 7), .inl (cyI, 15, .inl (fun _ => 0))), ((u_2 8), .inr (1, [.ref (u_2 9), .ref (u_2 10), .int (-1)])), ((u_2 9), .inl (cyI, 48, .inl (fun _ => 0))), ((u_2 10), .inl (cyI, 48, .inl (fun _ => 0))), ((u_2 11), .inr (4, [.ref (u_2 12), .int (-1), .int (-1), .int 0, .int 0, .int 0, .int 0])), ((u_2 12), .inr (8, [.ref (u_2 13), .int 60, .int 9, .int 0])), ((u_2 13), .inl (cyI, 540, .inl (fun _ => 0))), ((u_2 14), .inr (0, [.ref (u_2 17), .ref (u_2 15), .ref (u_2 16), .int 0, .int 0, .int 0, .int 0, .int 0, .int 0])), ((u_2 15), .inl (cyI, 4, .inl (fun _ => 0))), ((u_2 16), .inl (cyI, 4, .inl (fun _ => 0))), ((u_2 17), .inr (2, [.ref (u_2 18), .int 0, .int 0, .int 0, .int 0, .int 0, .int 0, .int 0, .int 0, .int 0, .int 0, .int 0, .int (-1), .int 0])), ((u_2 18), .inr (8, [.ref (u_2 19), .int 200, .int 8, .int 0])), ((u_2 19), .inl (cyI, 1600, .inl (fun _ => 0))), ((u_2 20), .inr (7, [.ref (u_2 21), .int 0, .int 0, .int 0])), ((u_2 21), .inl (cyI, 8, .inl (fun _ => 0))), ((u_2 22), .inr (5, [.ref (u_2 23), .ref (u_2 24), .int 0, .int 0, .int 0])), ((u_2 23), .inl (cyI, 16, .inl (fun _ => 0))), ((u_2 24), .inr (8, [.ref (u_2 25), .int 60, .int 2, .int 0])), ((u_2 25), .inl (cyI, 120, .inl (fun _ => 0))), ((u_2 26), .inr (6, [.ref (u_2 27), .ref (u_2 28), .ref (u_2 29), .ref (u_2 30), .ref (u_2 31), .ref (u_2 32), .ref (u_2 33), .ref (u_2 34), .int 0, .int 0, .int 0, .int 32, .int 0])), ((u_2 27), .inl (cyI, 8, .inl (fun _ => 0))), ((u_2 28), .inl (cyI, 8, .inl (fun _ => 0))), ((u_2 29), .inl (cyI, 8, .inl (fun _ => 0))), ((u_2 30), .inl (cyZ, 8, .inl (fun _ => 0))), ((u_2 31), .inl (cyI, 48, .inl (fun _ => 0))), ((u_2 32), .inl (cyI, 48, .inl (fun _ => 0))), ((u_2 33), .inl (cyI, 48, .inl (fun _ => 0))), ((u_2 34), .inl (cyI, 48, .inl (fun _ => 0))), ((u_2 35), .inl (cyO, 3, .inr (.inr (.inr (.inr (fun _ => none)))))), ((u_2 36), .inl (cyI, 3, .inl (fun _ => 0))), ((u_2 37), .inr (1, [.ref (u_2 38), .ref (u_2 39), .int (-1)])), ((u_2 38), .inl (cyI, 48, .inl (fun _ => 0))), ((u_2 39), .inl (cyI, 48, .inl (fun _ => 0)))] := hD
  refine W.widen (k := 41) (n := 2893) (Nat.le_of_ble_eq_true rfl) (Nat.le_of_ble_eq_true rfl) ?_
  refine lv_astore_n (lv' := [(1, .ref q_1), (0, .ref b)]) hx hb dL_law_7 rfl hl (by decide) rfl (fun ls hl => ?_)
  refine va_new (ci := 11) (fs := [.null, .int 0, .int 0, .null, .null, .null, .null, .int 0, .null, .null, .null, .int 0, .int 0, .int 0, .null, .null, .int 0, .int 0, .null, .null, .null, .null, .null, .null]) (C := RX11) (T := TX11) (N := 24) hx hb hts hnX11 tyX11 tyX11_ok hown hc10 hiX11 hjX11 hK hP hD hS hA rfl dfX11 (Nat.le_of_ble_eq_true rfl) (Nat.le_of_ble_eq_true rfl) dL_law_8 (fun q_3 H hP hD hS => ?_)
  have hP : va_P (dC, dI) vwCl [(q_1, .inr (10, [.ref (u_2 26), .ref (u_2 0), .ref (u_2 35), .ref (u_2 36), .ref (u_2 37), .int 0])), ((u_2 0), .inr (3, [.ref (u_2 1), .ref (u_2 8), .ref (u_2 11), .ref (u_2 14), .ref (u_2 20), .ref (u_2 22), .int 0])), ((u_2 1), .inr (9, [.ref (u_2 2), .ref (u_2 3), .ref (u_2 4), .ref (u_2 5), .ref (u_2 6), .ref (u_2 7)])), ((u_2 2), .inl (cyI, 15, .inl yR)), ((u_2 3), .inl (cyI, 15, .inl (fun _ => 0))), ((u_2 4), .inl (cyI, 15, .inl (fun _ => 0))), ((u_2 5), .inl (cyI, 15, .inl (fun _ => 0))), ((u_2 6), .inl (cyI, 15, .inl (fun _ => 0))), ((u_2 7), .inl (cyI, 15, .inl (fun _ => 0))), ((u_2 8), .inr (1, [.ref (u_2 9), .ref (u_2 10), .int (-1)])), ((u_2 9), .inl (cyI, 48, .inl (fun _ => 0))), ((u_2 10), .inl (cyI, 48, .inl (fun _ => 0))), ((u_2 11), .inr (4, [.ref (u_2 12), .int (-1), .int (-1), .int 0, .int 0, .int 0, .int 0])), ((u_2 12), .inr (8, [.ref (u_2 13), .int 60, .int 9, .int 0])), ((u_2 13), .inl (cyI, 540, .inl (fun _ => 0))), ((u_2 14), .inr (0, [.ref (u_2 17), .ref (u_2 15), .ref (u_2 16), .int 0, .int 0, .int 0, .int 0, .int 0, .int 0])), ((u_2 15), .inl (cyI, 4, .inl (fun _ => 0))), ((u_2 16), .inl (cyI, 4, .inl (fun _ => 0))), ((u_2 17), .inr (2, [.ref (u_2 18), .int 0, .int 0, .int 0, .int 0, .int 0, .int 0, .int 0, .int 0, .int 0, .int 0, .int 0, .int (-1), .int 0])), ((u_2 18), .inr (8, [.ref (u_2 19), .int 200, .int 8, .int 0])), ((u_2 19), .inl (cyI, 1600, .inl (fun _ => 0))), ((u_2 20), .inr (7, [.ref (u_2 21), .int 0, .int 0, .int 0])), ((u_2 21), .inl (cyI, 8, .inl (fun _ => 0))), ((u_2 22), .inr (5, [.ref (u_2 23), .ref (u_2 24), .int 0, .int 0, .int 0])), ((u_2 23), .inl (cyI, 16, .inl (fun _ => 0))), ((u_2 24), .inr (8, [.ref (u_2 25), .int 60, .int 2, .int 0])), ((u_2 25), .inl (cyI, 120, .inl (fun _ => 0))), ((u_2 26), .inr (6, [.ref (u_2 27), .ref (u_2 28), .ref (u_2 29), .ref (u_2 30), .ref (u_2 31), .ref (u_2 32), .ref (u_2 33), .ref (u_2 34), .int 0, .int 0, .int 0, .int 32, .int 0])), ((u_2 27), .inl (cyI, 8, .inl (fun _ => 0))), ((u_2 28), .inl (cyI, 8, .inl (fun _ => 0))), ((u_2 29), .inl (cyI, 8, .inl (fun _ => 0))), ((u_2 30), .inl (cyZ, 8, .inl (fun _ => 0))), ((u_2 31), .inl (cyI, 48, .inl (fun _ => 0))), ((u_2 32), .inl (cyI, 48, .inl (fun _ => 0))), ((u_2 33), .inl (cyI, 48, .inl (fun _ => 0))), ((u_2 34), .inl (cyI, 48, .inl (fun _ => 0))), ((u_2 35), .inl (cyO, 3, .inr (.inr (.inr (.inr (fun _ => none)))))), ((u_2 36), .inl (cyI, 3, .inl (fun _ => 0))), ((u_2 37), .inr (1, [.ref (u_2 38), .ref (u_2 39), .int (-1)])), ((u_2 38), .inl (cyI, 48, .inl (fun _ => 0))), ((u_2 39), .inl (cyI, 48, .inl (fun _ => 0))), (q_3, .inr (11, [.null, .int 0, .int 0, .null, .null, .null, .null, .int 0, .null, .null, .null, .int 0, .int 0, .int 0, .null, .null, .int 0, .int 0, .null, .null, .null, .null, .null, .null]))] H := hP
  have hD : va_D A [(q_1, .inr (10, [.ref (u_2 26), .ref (u_2 0), .ref (u_2 35), .ref (u_2 36), .ref (u_2 37), .int 0])), ((u_2 0), .inr (3, [.ref (u_2 1), .ref (u_2 8), .ref (u_2 11), .ref (u_2 14), .ref (u_2 20), .ref (u_2 22), .int 0])), ((u_2 1), .inr (9, [.ref (u_2 2), .ref (u_2 3), .ref (u_2 4), .ref (u_2 5), .ref (u_2 6), .ref (u_2 7)])), ((u_2 2), .inl (cyI, 15, .inl yR)), ((u_2 3), .inl (cyI, 15, .inl (fun _ => 0))), ((u_2 4), .inl (cyI, 15, .inl (fun _ => 0))), ((u_2 5), .inl (cyI, 15, .inl (fun _ => 0))), ((u_2 6), .inl (cyI, 15, .inl (fun _ => 0))), ((u_2 7), .inl (cyI, 15, .inl (fun _ => 0))), ((u_2 8), .inr (1, [.ref (u_2 9), .ref (u_2 10), .int (-1)])), ((u_2 9), .inl (cyI, 48, .inl (fun _ => 0))), ((u_2 10), .inl (cyI, 48, .inl (fun _ => 0))), ((u_2 11), .inr (4, [.ref (u_2 12), .int (-1), .int (-1), .int 0, .int 0, .int 0, .int 0])), ((u_2 12), .inr (8, [.ref (u_2 13), .int 60, .int 9, .int 0])), ((u_2 13), .inl (cyI, 540, .inl (fun _ => 0))), ((u_2 14), .inr (0, [.ref (u_2 17), .ref (u_2 15), .ref (u_2 16), .int 0, .int 0, .int 0, .int 0, .int 0, .int 0])), ((u_2 15), .inl (cyI, 4, .inl (fun _ => 0))), ((u_2 16), .inl (cyI, 4, .inl (fun _ => 0))), ((u_2 17), .inr (2, [.ref (u_2 18), .int 0, .int 0, .int 0, .int 0, .int 0, .int 0, .int 0, .int 0, .int 0, .int 0, .int 0, .int (-1), .int 0])), ((u_2 18), .inr (8, [.ref (u_2 19), .int 200, .int 8, .int 0])), ((u_2 19), .inl (cyI, 1600, .inl (fun _ => 0))), ((u_2 20), .inr (7, [.ref (u_2 21), .int 0, .int 0, .int 0])), ((u_2 21), .inl (cyI, 8, .inl (fun _ => 0))), ((u_2 22), .inr (5, [.ref (u_2 23), .ref (u_2 24), .int 0, .int 0, .int 0])), ((u_2 23), .inl (cyI, 16, .inl (fun _ => 0))), ((u_2 24), .inr (8, [.ref (u_2 25), .int 60, .int 2, .int 0])), ((u_2 25), .inl (cyI, 120, .inl (fun _ => 0))), ((u_2 26), .inr (6, [.ref (u_2 27), .ref (u_2 28), .ref (u_2 29), .ref (u_2 30), .ref (u_2 31), .ref (u_2 32), .ref (u_2 33), .ref (u_2 34), .int 0, .int 0, .int 0, .int 32, .int 0])), ((u_2 27), .inl (cyI, 8, .inl (fun _ => 0))), ((u_2 28), .inl (cyI, 8, .inl (fun _ => 0))), ((u_2 29), .inl (cyI, 8, .inl (fun _ => 0))), ((u_2 30), .inl (cyZ, 8, .inl (fun _ => 0))), ((u_2 31), .inl (cyI, 48, .inl (fun _ => 0))), ((u_2 32), .inl (cyI, 48, .inl (fun _ => 0))), ((u_2 33), .inl (cyI, 48, .inl (fun _ => 0))), ((u_2 34), .inl (cyI, 48, .inl (fun _ => 0))), ((u_2 35), .inl (cyO, 3, .inr (.inr (.inr (.inr (fun _ => none)))))), ((u_2 36), .inl (cyI, 3, .inl (fun _ => 0))), ((u_2 37), .inr (1, [.ref (u_2 38), .ref (u_2 39), .int (-1)])), ((u_2 38), .inl (cyI, 48, .inl (fun _ => 0))), ((u_2 39), .inl (cyI, 48, .inl (fun _ => 0))), (q_3, .inr (11, [.null, .int 0, .int 0, .null, .null, .null, .null, .int 0, .null, .null, .null, .int 0, .int 0, .int 0, .null, .null, .int 0, .int 0, .null, .null, .null, .null, .null, .null]))] := hD
  refine W.widen (k := 42) (n := 2917) (Nat.le_of_ble_eq_true rfl) (Nat.le_of_ble_eq_true rfl) ?_
  refine lv_dup hx hb dL_law_11 rfl ?_
  have hPc := hP.sub (ws' := [(q_3, .inr (11, [.null, .int 0, .int 0, .null, .null, .null, .null, .int 0, .null, .null, .null, .int 0, .int 0, .int 0, .null, .null, .int 0, .int 0, .null, .null, .null, .null, .null, .null]))]) [41] rfl
  have hDc := hD.sub (ws' := [(q_3, .inr (11, [.null, .int 0, .int 0, .null, .null, .null, .null, .int 0, .null, .null, .null, .int 0, .int 0, .int 0, .null, .null, .int 0, .int 0, .null, .null, .null, .null, .null, .null]))]) [41] (by decide) rfl
  refine yy_callv [41] [0, 1, 2, 3, 4, 5, 6, 7, 8, 9, 10, 11, 12, 13, 14, 15, 16, 17, 18, 19, 20, 21, 22, 23, 24, 25, 26, 27, 28, 29, 30, 31, 32, 33, 34, 35, 36, 37, 38, 39, 40] (wr := [(q_1, .inr (10, [.ref (u_2 26), .ref (u_2 0), .ref (u_2 35), .ref (u_2 36), .ref (u_2 37), .int 0])), ((u_2 0), .inr (3, [.ref (u_2 1), .ref (u_2 8), .ref (u_2 11), .ref (u_2 14), .ref (u_2 20), .ref (u_2 22), .int 0])), ((u_2 1), .inr (9, [.ref (u_2 2), .ref (u_2 3), .ref (u_2 4), .ref (u_2 5), .ref (u_2 6), .ref (u_2 7)])), ((u_2 2), .inl (cyI, 15, .inl yR)), ((u_2 3), .inl (cyI, 15, .inl (fun _ => 0))), ((u_2 4), .inl (cyI, 15, .inl (fun _ => 0))), ((u_2 5), .inl (cyI, 15, .inl (fun _ => 0))), ((u_2 6), .inl (cyI, 15, .inl (fun _ => 0))), ((u_2 7), .inl (cyI, 15, .inl (fun _ => 0))), ((u_2 8), .inr (1, [.ref (u_2 9), .ref (u_2 10), .int (-1)])), ((u_2 9), .inl (cyI, 48, .inl (fun _ => 0))), ((u_2 10), .inl (cyI, 48, .inl (fun _ => 0))), ((u_2 11), .inr (4, [.ref (u_2 12), .int (-1), .int (-1), .int 0, .int 0, .int 0, .int 0])), ((u_2 12), .inr (8, [.ref (u_2 13), .int 60, .int 9, .int 0])), ((u_2 13), .inl (cyI, 540, .inl (fun _ => 0))), ((u_2 14), .inr (0, [.ref (u_2 17), .ref (u_2 15), .ref (u_2 16), .int 0, .int 0, .int 0, .int 0, .int 0, .int 0])), ((u_2 15), .inl (cyI, 4, .inl (fun _ => 0))), ((u_2 16), .inl (cyI, 4, .inl (fun _ => 0))), ((u_2 17), .inr (2, [.ref (u_2 18), .int 0, .int 0, .int 0, .int 0, .int 0, .int 0, .int 0, .int 0, .int 0, .int 0, .int 0, .int (-1), .int 0])), ((u_2 18), .inr (8, [.ref (u_2 19), .int 200, .int 8, .int 0])), ((u_2 19), .inl (cyI, 1600, .inl (fun _ => 0))), ((u_2 20), .inr (7, [.ref (u_2 21), .int 0, .int 0, .int 0])), ((u_2 21), .inl (cyI, 8, .inl (fun _ => 0))), ((u_2 22), .inr (5, [.ref (u_2 23), .ref (u_2 24), .int 0, .int 0, .int 0])), ((u_2 23), .inl (cyI, 16, .inl (fun _ => 0))), ((u_2 24), .inr (8, [.ref (u_2 25), .int 60, .int 2, .int 0])), ((u_2 25), .inl (cyI, 120, .inl (fun _ => 0))), ((u_2 26), .inr (6, [.ref (u_2 27), .ref (u_2 28), .ref (u_2 29), .ref (u_2 30), .ref (u_2 31), .ref (u_2 32), .ref (u_2 33), .ref (u_2 34), .int 0, .int 0, .int 0, .int 32, .int 0])), ((u_2 27), .inl (cyI, 8, .inl (fun _ => 0))), ((u_2 28), .inl (cyI, 8, .inl (fun _ => 0))), ((u_2 29), .inl (cyI, 8, .inl (fun _ => 0))), ((u_2 30), .inl (cyZ, 8, .inl (fun _ => 0))), ((u_2 31), .inl (cyI, 48, .inl (fun _ => 0))), ((u_2 32), .inl (cyI, 48, .inl (fun _ => 0))), ((u_2 33), .inl (cyI, 48, .inl (fun _ => 0))), ((u_2 34), .inl (cyI, 48, .inl (fun _ => 0))), ((u_2 35), .inl (cyO, 3, .inr (.inr (.inr (.inr (fun _ => none)))))), ((u_2 36), .inl (cyI, 3, .inl (fun _ => 0))), ((u_2 37), .inr (1, [.ref (u_2 38), .ref (u_2 39), .int (-1)])), ((u_2 38), .inl (cyI, 48, .inl (fun _ => 0))), ((u_2 39), .inl (cyI, 48, .inl (fun _ => 0)))]) (va_runI (As := []) (rest := [.ref q_3]) ⟨hx, hb, hml, hown, hts⟩ (r_new l dC dI cyI cyZ cyO H.size q_3 ) (cwI 0 hts gL_law_X11_init rfl rfl rfl hjX11 hm12 hinX11_init rfl (by decide +kernel) ⟨Nat.le_of_ble_eq_true rfl, Nat.le_of_ble_eq_true rfl⟩) (yPreS hK hPc hDc) rfl rfl hl.1 rfl (lv_room (Nat.le_of_ble_eq_true rfl)) dL_law_12 ⟨Nat.le_of_ble_eq_true rfl, Nat.le_of_ble_eq_true rfl⟩) hP hD hS hA rfl rfl (by decide) (by decide) (fun u_4 H locs hw hP hD hS => ?_)
  have hP : va_P (dC, dI) vwCl [(q_1, .inr (10, [.ref (u_2 26), .ref (u_2 0), .ref (u_2 35), .ref (u_2 36), .ref (u_2 37), .int 0])), ((u_2 0), .inr (3, [.ref (u_2 1), .ref (u_2 8), .ref (u_2 11), .ref (u_2 14), .ref (u_2 20), .ref (u_2 22), .int 0])), ((u_2 1), .inr (9, [.ref (u_2 2), .ref (u_2 3), .ref (u_2 4), .ref (u_2 5), .ref (u_2 6), .ref (u_2 7)])), ((u_2 2), .inl (cyI, 15, .inl yR)), ((u_2 3), .inl (cyI, 15, .inl (fun _ => 0))), ((u_2 4), .inl (cyI, 15, .inl (fun _ => 0))), ((u_2 5), .inl (cyI, 15, .inl (fun _ => 0))), ((u_2 6), .inl (cyI, 15, .inl (fun _ => 0))), ((u_2 7), .inl (cyI, 15, .inl (fun _ => 0))), ((u_2 8), .inr (1, [.ref (u_2 9), .ref (u_2 10), .int (-1)])), ((u_2 9), .inl (cyI, 48, .inl (fun _ => 0))), ((u_2 10), .inl (cyI, 48, .inl (fun _ => 0))), ((u_2 11), .inr (4, [.ref (u_2 12), .int (-1), .int (-1), .int 0, .int 0, .int 0, .int 0])), ((u_2 12), .inr (8, [.ref (u_2 13), .int 60, .int 9, .int 0])), ((u_2 13), .inl (cyI, 540, .inl (fun _ => 0))), ((u_2 14), .inr (0, [.ref (u_2 17), .ref (u_2 15), .ref (u_2 16), .int 0, .int 0, .int 0, .int 0, .int 0, .int 0])), ((u_2 15), .inl (cyI, 4, .inl (fun _ => 0))), ((u_2 16), .inl (cyI, 4, .inl (fun _ => 0))), ((u_2 17), .inr (2, [.ref (u_2 18), .int 0, .int 0, .int 0, .int 0, .int 0, .int 0, .int 0, .int 0, .int 0, .int 0, .int 0, .int (-1), .int 0])), ((u_2 18), .inr (8, [.ref (u_2 19), .int 200, .int 8, .int 0])), ((u_2 19), .inl (cyI, 1600, .inl (fun _ => 0))), ((u_2 20), .inr (7, [.ref (u_2 21), .int 0, .int 0, .int 0])), ((u_2 21), .inl (cyI, 8, .inl (fun _ => 0))), ((u_2 22), .inr (5, [.ref (u_2 23), .ref (u_2 24), .int 0, .int 0, .int 0])), ((u_2 23), .inl (cyI, 16, .inl (fun _ => 0))), ((u_2 24), .inr (8, [.ref (u_2 25), .int 60, .int 2, .int 0])), ((u_2 25), .inl (cyI, 120, .inl (fun _ => 0))), ((u_2 26), .inr (6, [.ref (u_2 27), .ref (u_2 28), .ref (u_2 29), .ref (u_2 30), .ref (u_2 31), .ref (u_2 32), .ref (u_2 33), .ref (u_2 34), .int 0, .int 0, .int 0, .int 32, .int 0])), ((u_2 27), .inl (cyI, 8, .inl (fun _ => 0))), ((u_2 28), .inl (cyI, 8, .inl (fun _ => 0))), ((u_2 29), .inl (cyI, 8, .inl (fun _ => 0))), ((u_2 30), .inl (cyZ, 8, .inl (fun _ => 0))), ((u_2 31), .inl (cyI, 48, .inl (fun _ => 0))), ((u_2 32), .inl (cyI, 48, .inl (fun _ => 0))), ((u_2 33), .inl (cyI, 48, .inl (fun _ => 0))), ((u_2 34), .inl (cyI, 48, .inl (fun _ => 0))), ((u_2 35), .inl (cyO, 3, .inr (.inr (.inr (.inr (fun _ => none)))))), ((u_2 36), .inl (cyI, 3, .inl (fun _ => 0))), ((u_2 37), .inr (1, [.ref (u_2 38), .ref (u_2 39), .int (-1)])), ((u_2 38), .inl (cyI, 48, .inl (fun _ => 0))), ((u_2 39), .inl (cyI, 48, .inl (fun _ => 0))), (q_3, .inr (11, [.ref (u_4 0), .int 0, .int 0, .ref (u_4 1), .ref (u_4 2), .ref (u_4 3), .ref (u_4 4), .int 0, .ref (u_4 5), .ref (u_4 6), .ref (u_4 7), .int 0, .int 32, .int 0, .ref (u_4 8), .ref (u_4 9), .int 0, .int 0, .ref (u_4 10), .ref (u_4 11), .ref (u_4 12), .ref (u_4 13), .ref (u_4 14), .ref (u_4 15)])), ((u_4 0), .inl (cyI, 2490, .inl (yz 0 0))), ((u_4 1), .inl (cyI, 8, .inl (fun _ => 0))), ((u_4 2), .inl (cyI, 8, .inl (fun _ => 0))), ((u_4 3), .inl (cyI, 8, .inl (fun _ => 0))), ((u_4 4), .inl (cyZ, 8, .inl (fun _ => 0))), ((u_4 5), .inl (cyI, 48, .inl (fun _ => 0))), ((u_4 6), .inl (cyI, 48, .inl (fun _ => 0))), ((u_4 7), .inl (cyI, 48, .inl (fun _ => 0))), ((u_4 8), .inl (cyI, 15, .inl (fun _ => 0))), ((u_4 9), .inl (cyI, 15, .inl (fun _ => 0))), ((u_4 10), .inl (cyZ, 48, .inl (fun _ => 0))), ((u_4 11), .inl (cyI, 96, .inl (fun _ => 0))), ((u_4 12), .inl (cyI, 48, .inl (fun _ => 0))), ((u_4 13), .inl (cyI, 7470, .inl (fun _ => 0))), ((u_4 14), .inl (cyI, 3, .inl (fun _ => 0))), ((u_4 15), .inl (cyZ, 3, .inl (fun _ => 0)))] H := hP
  have hD : va_D A [(q_1, .inr (10, [.ref (u_2 26), .ref (u_2 0), .ref (u_2 35), .ref (u_2 36), .ref (u_2 37), .int 0])), ((u_2 0), .inr (3, [.ref (u_2 1), .ref (u_2 8), .ref (u_2 11), .ref (u_2 14), .ref (u_2 20), .ref (u_2 22), .int 0])), ((u_2 1), .inr (9, [.ref (u_2 2), .ref (u_2 3), .ref (u_2 4), .ref (u_2 5), .ref (u_2 6), .ref (u_2 7)])), ((u_2 2), .inl (cyI, 15, .inl yR)), ((u_2 3), .inl (cyI, 15, .inl (fun _ => 0))), ((u_2 4), .inl (cyI, 15, .inl (fun _ => 0))), ((u_2 5), .inl (cyI, 15, .inl (fun _ => 0))), ((u_2 6), .inl (cyI, 15, .inl (fun _ => 0))), ((u_2 7), .inl (cyI, 15, .inl (fun _ => 0))), ((u_2 8), .inr (1, [.ref (u_2 9), .ref (u_2 10), .int (-1)])), ((u_2 9), .inl (cyI, 48, .inl (fun _ => 0))), ((u_2 10), .inl (cyI, 48, .inl (fun _ => 0))), ((u_2 11), .inr (4, [.ref (u_2 12), .int (-1), .int (-1), .int 0, .int 0, .int 0, .int 0])), ((u_2 12), .inr (8, [.ref (u_2 13), .int 60, .int 9, .int 0])), ((u_2 13), .inl (cyI, 540, .inl (fun _ => 0))), ((u_2 14), .inr (0, [.ref (u_2 17), .ref (u_2 15), .ref (u_2 16), .int 0, .int 0, .int 0, .int 0, .int 0, .int 0])), ((u_2 15), .inl (cyI, 4, .inl (fun _ => 0))), ((u_2 16), .inl (cyI, 4, .inl (fun _ => 0))), ((u_2 17), .inr (2, [.ref (u_2 18), .int 0, .int 0, .int 0, .int 0, .int 0, .int 0, .int 0, .int 0, .int 0, .int 0, .int 0, .int (-1), .int 0])), ((u_2 18), .inr (8, [.ref (u_2 19), .int 200, .int 8, .int 0])), ((u_2 19), .inl (cyI, 1600, .inl (fun _ => 0))), ((u_2 20), .inr (7, [.ref (u_2 21), .int 0, .int 0, .int 0])), ((u_2 21), .inl (cyI, 8, .inl (fun _ => 0))), ((u_2 22), .inr (5, [.ref (u_2 23), .ref (u_2 24), .int 0, .int 0, .int 0])), ((u_2 23), .inl (cyI, 16, .inl (fun _ => 0))), ((u_2 24), .inr (8, [.ref (u_2 25), .int 60, .int 2, .int 0])), ((u_2 25), .inl (cyI, 120, .inl (fun _ => 0))), ((u_2 26), .inr (6, [.ref (u_2 27), .ref (u_2 28), .ref (u_2 29), .ref (u_2 30), .ref (u_2 31), .ref (u_2 32), .ref (u_2 33), .ref (u_2 34), .int 0, .int 0, .int 0, .int 32, .int 0])), ((u_2 27), .inl (cyI, 8, .inl (fun _ => 0))), ((u_2 28), .inl (cyI, 8, .inl (fun _ => 0))), ((u_2 29), .inl (cyI, 8, .inl (fun _ => 0))), ((u_2 30), .inl (cyZ, 8, .inl (fun _ => 0))), ((u_2 31), .inl (cyI, 48, .inl (fun _ => 0))), ((u_2 32), .inl (cyI, 48, .inl (fun _ => 0))), ((u_2 33), .inl (cyI, 48, .inl (fun _ => 0))), ((u_2 34), .inl (cyI, 48, .inl (fun _ => 0))), ((u_2 35), .inl (cyO, 3, .inr (.inr (.inr (.inr (fun _ => none)))))), ((u_2 36), .inl (cyI, 3, .inl (fun _ => 0))), ((u_2 37), .inr (1, [.ref (u_2 38), .ref (u_2 39), .int (-1)])), ((u_2 38), .inl (cyI, 48, .inl (fun _ => 0))), ((u_2 39), .inl (cyI, 48, .inl (fun _ => 0))), (q_3, .inr (11, [.ref (u_4 0), .int 0, .int 0, .ref (u_4 1), .ref (u_4 2), .ref (u_4 3), .ref (u_4 4), .int 0, .ref (u_4 5), .ref (u_4 6), .ref (u_4 7), .int 0, .int 32, .int 0, .ref (u_4 8), .ref (u_4 9), .int 0, .int 0, .ref (u_4 10), .ref (u_4 11), .ref (u_4 12), .ref (u_4 13), .ref (u_4 14), .ref (u_4 15)])), ((u_4 0), .inl (cyI, 2490, .inl (yz 0 0))), ((u_4 1), .inl (cyI, 8, .inl (fun _ => 0))), ((u_4 2), .inl (cyI, 8, .inl (fun _ => 0))), ((u_4 3), .inl (cyI, 8, .inl (fun _ => 0))), ((u_4 4), .inl (cyZ, 8, .inl (fun _ => 0))), ((u_4 5), .inl (cyI, 48, .inl (fun _ => 0))), ((u_4 6), .inl (cyI, 48, .inl (fun _ => 0))), ((u_4 7), .inl (cyI, 48, .inl (fun _ => 0))), ((u_4 8), .inl (cyI, 15, .inl (fun _ => 0))), ((u_4 9), .inl (cyI, 15, .inl (fun _ => 0))), ((u_4 10), .inl (cyZ, 48, .inl (fun _ => 0))), ((u_4 11), .inl (cyI, 96, .inl (fun _ => 0))), ((u_4 12), .inl (cyI, 48, .inl (fun _ => 0))), ((u_4 13), .inl (cyI, 7470, .inl (fun _ => 0))), ((u_4 14), .inl (cyI, 3, .inl (fun _ => 0))), ((u_4 15), .inl (cyZ, 3, .inl (fun _ => 0)))] := hD
  refine W.widen (k := 58) (n := 13281) (Nat.le_of_ble_eq_true rfl) (Nat.le_of_ble_eq_true rfl) ?_
  refine lv_astore_n (lv' := [(2, .ref q_3), (1, .ref q_1), (0, .ref b)]) hx hb dL_law_15 rfl hl (by decide) rfl (fun ls hl => ?_)
  refine lv_iconst (v := 0) hx hb dL_law_16 (by decide) ?_
  refine lv_istore_n (lv' := [(3, .int 0), (2, .ref q_3), (1, .ref q_1), (0, .ref b)]) hx hb dL_law_17 rfl hl (by decide) rfl (fun ls hl => ?_)
  have hP : va_P (dC, dI) vwCl (yWX cyI cyZ cyO q_1 u_2 ++ yWM cyI cyZ q_3 u_4) H := hP.sub [0, 1, 2, 3, 4, 5, 6, 7, 8, 9, 10, 11, 12, 13, 14, 15, 16, 17, 18, 19, 20, 21, 22, 23, 24, 25, 26, 27, 28, 29, 30, 31, 32, 33, 34, 35, 36, 37, 38, 39, 40, 41, 42, 43, 44, 45, 46, 47, 48, 49, 50, 51, 52, 53, 54, 55, 56, 57] rfl
  have hD : va_D A (yWX cyI cyZ cyO q_1 u_2 ++ yWM cyI cyZ q_3 u_4) := hD.sub [0, 1, 2, 3, 4, 5, 6, 7, 8, 9, 10, 11, 12, 13, 14, 15, 16, 17, 18, 19, 20, 21, 22, 23, 24, 25, 26, 27, 28, 29, 30, 31, 32, 33, 34, 35, 36, 37, 38, 39, 40, 41, 42, 43, 44, 45, 46, 47, 48, 49, 50, 51, 52, 53, 54, 55, 56, 57] (by decide) rfl
  exact law_head l hL C0 hA hbA hN hK q_1 q_3 u_2 u_4 hP hD hS (by exact hl) hAs
