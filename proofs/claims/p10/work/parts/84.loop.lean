set_option maxHeartbeats 4000000 in
set_option maxRecDepth 100000 in
/-- the law's loop: i calls are made -/
theorem law_loop {p : Program} {e : Env} {s : State} {m : MethodId} {below : List Frame} {meth : Method} {c : Code} (l : Launch) {b L : Nat} {xs : Nat → Int32} (hL : L ≤ 3072) (C0 : lw_At p s m meth c b L xs) {dC : Nat → ClassId} {dI : Nat → Nat → Nat} {cyI cyZ cyO : ClassId} {A : Nat → Prop} (hA : ∀ q : Nat, s.heap.size ≤ q → A q) (hbA : ¬ A b) (hN : yN s) (hK : va_K (dC, dI) vwCl (yT cyI cyZ cyO) s) (ax am : Nat → Nat) (hAs : ∀ q : Nat, A q → s.heap.size ≤ q) : ∀ (q i j : Nat) (n : Int) (k0 s0 : Nat), j = 6 * i → n = 32000 * (i : Int) → k0 = 58 + 26 * i → s0 = 13281 + 2545 * i → j ≤ L → L + 6 < j + 6 * q → ∀ (ux um : yU) (t : Nat → Option KS) (H : Heap) (locs : List Loc) (hXO : XOK ux) (hMO : MOK n um) (hTO : TOK t) (hP : va_P (dC, dI) vwCl (XW cyI cyZ cyO ax ux (kpf t) ++ (MW cyI cyZ am um ++ KT cyI t)) H) (hD : va_D A (XW cyI cyZ cyO ax ux (kpf t) ++ (MW cyI cyZ am um ++ KT cyI t))) (hS : va_S A s.heap H locs) (ls : Array Slot) (hl : lv_has ls 4 [(3, .int (nI j)), (2, .ref (am 0)), (1, .ref (ax 0)), (0, .ref b)]), W p l e room_1 s m #[Value.ref b] below meth c H locs k0 s0 (lw_Z below #[Value.ref b] s) (F0 m 18 ls []) := by
  obtain ⟨hx, hb, hr, hml, hown0, hts0, hX, hbl, hlk, hgv⟩ := id C0
  intro q
  induction q with
  | zero => intro i j n k0 s0 _ _ _ _ h1 h2; exact absurd h2 (by omega)
  | succ q ih =>
    intro i j n k0 s0 ej en ek es hjL hq ux um t H locs hXO hMO hTO hP hD hS ls hl
    refine lv_iload_n hx hb dL_law_18 rfl (lv_at hl 0 rfl) ?_
    refine lv_aload_n hx hb dL_law_19 rfl (lv_at hl 3 rfl) ?_
    refine va_slen hx hb hX hbl hbA hS dL_law_20 ?_
    refine lv_bipush (v := 6) hx hb dL_law_21 (by decide) ?_
    refine lv_isub hx hb dL_law_23 ?_
    refine lv_icmp_gt (tgt := 844) hx hb dL_law_24 (by decide) (fun c24 => ?_) (fun c24 => ?_)
    · refine W.widen (k := 600000) (n := 7302250) (by omega) (by omega) ?_
      refine lv_iconst (v := 1) hx hb dL_law_844 (by decide) ?_
      refine va_forget (fun q hq => hAs _ (hS.2.2 q hq)) ?_
      exact lw_ret hx hb hr hlk dL_law_845
    · have hj : j + 6 ≤ L := ylen hL (by omega) c24
      have hn0 : 0 ≤ n := by omega
      have hn : n ≤ 1400000000 := by omega
      have hk0 : k0 + 26 ≤ 600000 := by omega
      have hs0 : s0 + 2545 ≤ 7302250 := by omega
      have fin : ∀ (ux um : yU) (t : Nat → Option KS) (H : Heap) (locs : List Loc) (ls : Array Slot), XOK ux → MOK (n + 32000) um → TOK t → va_P (dC, dI) vwCl (XW cyI cyZ cyO ax ux (kpf t) ++ (MW cyI cyZ am um ++ KT cyI t)) H → va_D A (XW cyI cyZ cyO ax ux (kpf t) ++ (MW cyI cyZ am um ++ KT cyI t)) → va_S A s.heap H locs → lv_has ls 4 [(3, .int (nI j)), (2, .ref (am 0)), (1, .ref (ax 0)), (0, .ref b)] → W p l e room_1 s m #[Value.ref b] below meth c H locs (k0 + 26) (s0 + 2545) (lw_Z below #[Value.ref b] s) (F0 m 838 ls []) := by
        intro ux um t H locs ls hXO hMO hTO hP hD hS hl
        refine lv_iinc (v := nI (j + 6)) (lv' := [(3, .int (nI (j + 6))), (2, .ref (am 0)), (1, .ref (ax 0)), (0, .ref b)]) hx hb dL_law_838 hl (k := 0) rfl (ynj (by decide)) (by decide) rfl (fun ls hl => ?_)
        refine lv_goto (tgt := 18) hx hb dL_law_841 (by decide) ?_
        exact ih (i + 1) (j + 6) (n + 32000) (k0 + 26) (s0 + 2545) (by omega) (by omega) (by omega) (by omega) (by omega) (by omega) ux um t H locs hXO hMO hTO hP hD hS ls hl
      refine lv_aload_n hx hb dL_law_27 rfl (lv_at hl 3 rfl) ?_
      refine lv_iload_n hx hb dL_law_28 rfl (lv_at hl 0 rfl) ?_
      refine va_sld hx hb hX hbl hbA hS (vp_in_nI (by omega) (by omega)) dL_law_29 ?_
      refine lv_topi (fun x29 e29 => ?_)
      refine lv_bipush (v := 31) hx hb dL_law_30 (by decide) ?_
      refine lv_iand hx hb dL_law_32 ?_
      obtain ⟨w, hw, ew⟩ := pk_andE x29 (m := 31) 5 (by decide)
      refine yy_int (v := nI w) ew ?_
      rcases ylaw hw with rfl | rfl | rfl | rfl | rfl | rfl | rfl | rfl | rfl | rfl | rfl | rfl | rfl | rfl | rfl | rfl | rfl | rfl | rfl | rfl | rfl | rfl | rfl | rfl | hw2
      · refine yy_int (v := 0) (by decide) ?_
        refine lv_tableIn (off := 111) (tgt := 144) hx hb dL_law_33 (by decide) (by decide) (by decide) (by decide) ?_
        exact law_slave l hL C0 hA hbA hN hK ax am j hj n hn0 hn k0 s0 hk0 hs0 ux um t hXO hMO hTO hP hD hS hl fin
      · refine yy_int (v := 1) (by decide) ?_
        refine lv_tableIn (off := 180) (tgt := 213) hx hb dL_law_33 (by decide) (by decide) (by decide) (by decide) ?_
        exact law_register l hL C0 hA hbA hN hK ax am j hj n hn0 hn k0 s0 hk0 hs0 ux um t hXO hMO hTO hP hD hS hl fin
      · refine yy_int (v := 2) (by decide) ?_
        refine lv_tableIn (off := 223) (tgt := 256) hx hb dL_law_33 (by decide) (by decide) (by decide) (by decide) ?_
        exact law_depth l hL C0 hA hbA hN hK ax am j hj n hn0 hn k0 s0 hk0 hs0 ux um t hXO hMO hTO hP hD hS hl fin
      · refine yy_int (v := 3) (by decide) ?_
        refine lv_tableIn (off := 246) (tgt := 279) hx hb dL_law_33 (by decide) (by decide) (by decide) (by decide) ?_
        exact law_limit l hL C0 hA hbA hN hK ax am j hj n hn0 hn k0 s0 hk0 hs0 ux um t hXO hMO hTO hP hD hS hl fin
      · refine yy_int (v := 4) (by decide) ?_
        refine lv_tableIn (off := 269) (tgt := 302) hx hb dL_law_33 (by decide) (by decide) (by decide) (by decide) ?_
        exact law_reset l hL C0 hA hbA hN hK ax am j hj n hn0 hn k0 s0 hk0 hs0 ux um t hXO hMO hTO hP hD hS hl fin
      · refine yy_int (v := 5) (by decide) ?_
        refine lv_tableIn (off := 282) (tgt := 315) hx hb dL_law_33 (by decide) (by decide) (by decide) (by decide) ?_
        exact law_transfer l hL C0 hA hbA hN hK ax am j hj n hn0 hn k0 s0 hk0 hs0 ux um t hXO hMO hTO hP hD hS hl fin
      · refine yy_int (v := 6) (by decide) ?_
        refine lv_tableIn (off := 361) (tgt := 394) hx hb dL_law_33 (by decide) (by decide) (by decide) (by decide) ?_
        exact law_clock l hL C0 hA hbA hN hK ax am j hj n hn0 hn k0 s0 hk0 hs0 ux um t hXO hMO hTO hP hD hS hl fin
      · refine yy_int (v := 7) (by decide) ?_
        refine lv_tableIn (off := 384) (tgt := 417) hx hb dL_law_33 (by decide) (by decide) (by decide) (by decide) ?_
        exact law_finish l hL C0 hA hbA hN hK ax am j hj n hn0 hn k0 s0 hk0 hs0 ux um t hXO hMO hTO hP hD hS hl fin
      · refine yy_int (v := 8) (by decide) ?_
        refine lv_tableIn (off := 407) (tgt := 440) hx hb dL_law_33 (by decide) (by decide) (by decide) (by decide) ?_
        exact law_turn l hL C0 hA hbA hN hK ax am j hj n hn0 hn k0 s0 hk0 hs0 ux um t hXO hMO hTO hP hD hS hl fin
      · refine yy_int (v := 9) (by decide) ?_
        refine lv_tableIn (off := 450) (tgt := 483) hx hb dL_law_33 (by decide) (by decide) (by decide) (by decide) ?_
        exact law_wire l hL C0 hA hbA hN hK ax am j hj n hn0 hn k0 s0 hk0 hs0 ux um t hXO hMO hTO hP hD hS hl fin
      · refine yy_int (v := 10) (by decide) ?_
        refine lv_tableIn (off := 473) (tgt := 506) hx hb dL_law_33 (by decide) (by decide) (by decide) (by decide) ?_
        exact law_under l hL C0 hA hbA hN hK ax am j hj n hn0 hn k0 s0 hk0 hs0 ux um t hXO hMO hTO hP hD hS hl fin
      · refine yy_int (v := 11) (by decide) ?_
        refine lv_tableIn (off := 496) (tgt := 529) hx hb dL_law_33 (by decide) (by decide) (by decide) (by decide) ?_
        exact law_result l hL C0 hA hbA hN hK ax am j hj n hn0 hn k0 s0 hk0 hs0 ux um t hXO hMO hTO hP hD hS hl fin
      · refine yy_int (v := 12) (by decide) ?_
        refine lv_tableIn (off := 529) (tgt := 562) hx hb dL_law_33 (by decide) (by decide) (by decide) (by decide) ?_
        exact law_log l hL C0 hA hbA hN hK ax am j hj n hn0 hn k0 s0 hk0 hs0 ux um t hXO hMO hTO hP hD hS hl fin
      · refine yy_int (v := 13) (by decide) ?_
        refine lv_tableIn (off := 562) (tgt := 595) hx hb dL_law_33 (by decide) (by decide) (by decide) (by decide) ?_
        exact law_findings l hL C0 hA hbA hN hK ax am j hj n hn0 hn k0 s0 hk0 hs0 ux um t hXO hMO hTO hP hD hS hl fin
      · refine yy_int (v := 14) (by decide) ?_
        refine lv_tableIn (off := 585) (tgt := 618) hx hb dL_law_33 (by decide) (by decide) (by decide) (by decide) ?_
        exact law_finding l hL C0 hA hbA hN hK ax am j hj n hn0 hn k0 s0 hk0 hs0 ux um t hXO hMO hTO hP hD hS hl fin
      · refine yy_int (v := 15) (by decide) ?_
        refine lv_tableIn (off := 618) (tgt := 651) hx hb dL_law_33 (by decide) (by decide) (by decide) (by decide) ?_
        exact law_value l hL C0 hA hbA hN hK ax am j hj n hn0 hn k0 s0 hk0 hs0 ux um t hXO hMO hTO hP hD hS hl fin
      · refine yy_int (v := 16) (by decide) ?_
        refine lv_tableIn (off := 641) (tgt := 674) hx hb dL_law_33 (by decide) (by decide) (by decide) (by decide) ?_
        exact law_decode l hL C0 hA hbA hN hK ax am j hj n hn0 hn k0 s0 hk0 hs0 ux um t hXO hMO hTO hP hD hS hl fin
      · refine yy_int (v := 17) (by decide) ?_
        refine lv_tableIn (off := 664) (tgt := 697) hx hb dL_law_33 (by decide) (by decide) (by decide) (by decide) ?_
        exact law_bridge l hL C0 hA hbA hN hK ax am j hj n hn0 hn k0 s0 hk0 hs0 ux um t hXO hMO hTO hP hD hS hl fin
      · refine yy_int (v := 18) (by decide) ?_
        refine lv_tableIn (off := 687) (tgt := 720) hx hb dL_law_33 (by decide) (by decide) (by decide) (by decide) ?_
        exact law_again l hL C0 hA hbA hN hK ax am j hj n hn0 hn k0 s0 hk0 hs0 ux um t hXO hMO hTO hP hD hS hl fin
      · refine yy_int (v := 19) (by decide) ?_
        refine lv_tableIn (off := 700) (tgt := 733) hx hb dL_law_33 (by decide) (by decide) (by decide) (by decide) ?_
        exact law_keep l hL C0 hA hbA hN hK ax am j hj n hn0 hn k0 s0 hk0 hs0 ux um t hXO hMO hTO hP hD hS hl fin
      · refine yy_int (v := 20) (by decide) ?_
        refine lv_tableIn (off := 723) (tgt := 756) hx hb dL_law_33 (by decide) (by decide) (by decide) (by decide) ?_
        exact law_back l hL C0 hA hbA hN hK ax am j hj n hn0 hn k0 s0 hk0 hs0 ux um t hXO hMO hTO hP hD hS hl fin
      · refine yy_int (v := 21) (by decide) ?_
        refine lv_tableIn (off := 746) (tgt := 779) hx hb dL_law_33 (by decide) (by decide) (by decide) (by decide) ?_
        exact law_differs l hL C0 hA hbA hN hK ax am j hj n hn0 hn k0 s0 hk0 hs0 ux um t hXO hMO hTO hP hD hS hl fin
      · refine yy_int (v := 22) (by decide) ?_
        refine lv_tableIn (off := 769) (tgt := 802) hx hb dL_law_33 (by decide) (by decide) (by decide) (by decide) ?_
        exact law_told l hL C0 hA hbA hN hK ax am j hj n hn0 hn k0 s0 hk0 hs0 ux um t hXO hMO hTO hP hD hS hl fin
      · refine yy_int (v := 23) (by decide) ?_
        refine lv_tableIn (off := 792) (tgt := 825) hx hb dL_law_33 (by decide) (by decide) (by decide) (by decide) ?_
        exact law_status l hL C0 hA hbA hN hK ax am j hj n hn0 hn k0 s0 hk0 hs0 ux um t hXO hMO hTO hP hD hS hl fin
      · refine lv_tableOut (tgt := 838) hx hb dL_law_33 (Or.inr (by rw [nI_toInt (by omega)]; omega)) (by decide) ?_
        refine W.widen (k := k0 + 26) (n := s0 + 2545) (by omega) (by omega) ?_
        have hMO2 : MOK (n + 32000) um := ⟨hMO.1, hMO.2.1, hMO.2.2.1, hMO.2.2.2.1, ZI_mono hMO.2.2.2.2.1 (by omega), KI_mono hMO.2.2.2.2.2 (by omega)⟩
        exact fin ux um t _ _ _ hXO hMO2 hTO hP hD hS hl
