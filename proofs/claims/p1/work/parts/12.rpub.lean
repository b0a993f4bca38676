theorem yk01 {k : Int32} : (¬ k < 0 ∧ ¬ 1 < k) = (k = 0 ∨ k = 1) := by
  refine propext ⟨fun h => ?_, fun h => ?_⟩
  · have a1 := Int32.le_iff_toInt_le.mp (Int32.not_lt.mp h.1)
    have a2 := Int32.le_iff_toInt_le.mp (Int32.not_lt.mp h.2)
    have e1 : (0 : Int32).toInt = 0 := by decide
    have e2 : (1 : Int32).toInt = 1 := by decide
    rw [e1] at a1; rw [e2] at a2
    rcases (show k.toInt = 0 ∨ k.toInt = 1 by omega) with q | q
    · exact Or.inl (Int32.toInt_inj.mp (by rw [q, e1]))
    · exact Or.inr (Int32.toInt_inj.mp (by rw [q, e2]))
  · rcases h with rfl | rfl <;> decide
set_option maxHeartbeats 4000000 in
set_option maxRecDepth 100000 in
theorem r_slave (l : Launch) (dC : Nat → ClassId) (dI : Nat → Nat → Nat) (cyI cyZ cyO : ClassId) (sz : Nat) (h0 : Nat) (rz : Nat) (rf : Nat) (rl : Nat) (rwx : Nat) (rb : Nat) (rwd : Nat) (rk : Nat) (ra : Nat) (rs : Nat) (rt : Nat) (rwr : Nat) (rp : Nat) (rsi : Nat) (rke : Nat) (rkc : Nat) (rik : Nat) (a : Int32) (b : Int32) (wt : Int32) (d : Int32)  : Met l yX11_slave wsX11_slave ({ frames := 2, cells := 0, slots := 0, locals := 45 }) (yPre [.ref h0, .int a, .int b, .int wt, .int d] (dC, dI) [(h0, .inr (11, [.ref rz, .int 0, .int 0, .ref rf, .ref rl, .ref rwx, .ref rb, .int 0, .ref rwd, .ref rk, .ref ra, .int 0, .int 32, .int 0, .ref rs, .ref rt, .int 0, .int 0, .ref rwr, .ref rp, .ref rsi, .ref rke, .ref rkc, .ref rik])), (rz, .inl (cyI, 2490, .inl (yz 0 0))), (rf, .inl (cyI, 8, .inl (fun _ => 0))), (rl, .inl (cyI, 8, .inl (fun _ => 0))), (rwx, .inl (cyI, 8, .inl (fun _ => 0))), (rb, .inl (cyZ, 8, .inl (fun _ => 0)))] (yT cyI cyZ cyO) sz) (yQi (fun (r : Int32) (u : Unit) => r = (sp_slave a b wt)) (dC, dI) [(h0, .inr (11, [.ref rz, .int 0, .int 0, .ref rf, .ref rl, .ref rwx, .ref rb, .int 0, .ref rwd, .ref rk, .ref ra, .int 0, .int 32, .int 0, .ref rs, .ref rt, .int 0, .int 0, .ref rwr, .ref rp, .ref rsi, .ref rke, .ref rkc, .ref rik])), (rz, .inl (cyI, 2490, .inl (yz 0 0))), (rf, .inl (cyI, 8, .inl (fun _ => 0))), (rl, .inl (cyI, 8, .inl (fun _ => 0))), (rwx, .inl (cyI, 8, .inl (fun _ => 0))), (rb, .inl (cyZ, 8, .inl (fun _ => 0)))] (yT cyI cyZ cyO) sz (fun _ => [])) 0 0 (va_A [(h0, .inr (11, [.ref rz, .int 0, .int 0, .ref rf, .ref rl, .ref rwx, .ref rb, .int 0, .ref rwd, .ref rk, .ref ra, .int 0, .int 32, .int 0, .ref rs, .ref rt, .int 0, .int 0, .ref rwr, .ref rp, .ref rsi, .ref rke, .ref rkc, .ref rik])), (rz, .inl (cyI, 2490, .inl (yz 0 0))), (rf, .inl (cyI, 8, .inl (fun _ => 0))), (rl, .inl (cyI, 8, .inl (fun _ => 0))), (rwx, .inl (cyI, 8, .inl (fun _ => 0))), (rb, .inl (cyZ, 8, .inl (fun _ => 0)))] sz) := by
  refine yMet (cc := cX11_slave) (maxL := 6) (ret := (some .int)) (by decide) rfl (Nat.le_of_ble_eq_true rfl) ?_
  intro p e s m below meth c A hx hb hr hlk hml hts hown hnm hsz hAe hP hK hD hA hS ls hl
  have hl : lv_has ls 6 [(0, .ref h0), (1, .int a), (2, .int b), (3, .int wt), (4, .int d)] := hl
  have hf13 := hts (.fieldLink RX11 13 "BusBridgeModel" "first" "[I") (by decide +kernel)
  have hf16 := hts (.fieldLink RX11 16 "BusBridgeModel" "last" "[I") (by decide +kernel)
  have hf19 := hts (.fieldLink RX11 19 "BusBridgeModel" "wait" "[I") (by decide +kernel)
  have hf22 := hts (.fieldLink RX11 22 "BusBridgeModel" "broken" "[Z") (by decide +kernel)
  have hf7 := hts (.fieldLink RX11 7 "BusBridgeModel" "z" "[I") (by decide +kernel)
  have hf88 := hts (.fieldLink RX11 88 "BusBridgeModel" "slaves" "I") (by decide +kernel)
  have hf91 := hts (.fieldLink RX11 91 "BusBridgeModel" "changes" "I") (by decide +kernel)
  have hl82 := hts (.constantLong RX11 82 15) (by decide +kernel)
  have hnX11 : ∀ w ∈ wsX110, w ∈ wsX11_slave := by decide +kernel
  refine lv_iload_n hx hb dX11_slave_0 rfl (lv_at hl 1 rfl) ?_
  have hPc := hP.sub (ws' := []) [] rfl
  have hDc := hD.sub (ws' := []) [] (by decide) rfl
  refine yy_calli [] [0, 1, 2, 3, 4, 5] (wr := [(h0, .inr (11, [.ref rz, .int 0, .int 0, .ref rf, .ref rl, .ref rwx, .ref rb, .int 0, .ref rwd, .ref rk, .ref ra, .int 0, .int 32, .int 0, .ref rs, .ref rt, .int 0, .int 0, .ref rwr, .ref rp, .ref rsi, .ref rke, .ref rkc, .ref rik])), (rz, .inl (cyI, 2490, .inl (yz 0 0))), (rf, .inl (cyI, 8, .inl (fun _ => 0))), (rl, .inl (cyI, 8, .inl (fun _ => 0))), (rwx, .inl (cyI, 8, .inl (fun _ => 0))), (rb, .inl (cyZ, 8, .inl (fun _ => 0)))]) (va_runS (As := [.int a]) (rest := []) ⟨hx, hb, hml, hown, hts⟩ (r_isWord l dC dI cyI cyZ cyO s.heap.size a ) (va_cwS 1 hts gX11_slave_X11_isWord rfl rfl rfl (by decide +kernel) ⟨Nat.le_of_ble_eq_true rfl, Nat.le_of_ble_eq_true rfl⟩) (yPreS hK hPc hDc) rfl rfl hl.1 rfl (lv_room (Nat.le_of_ble_eq_true rfl)) dX11_slave_1 ⟨Nat.le_of_ble_eq_true rfl, Nat.le_of_ble_eq_true rfl⟩) hP hD hS hA rfl rfl (by decide) (by decide) (fun r_2 u_1 H locs hw hP hD hS => ?_)
  have hP : va_P (dC, dI) vwCl [(h0, .inr (11, [.ref rz, .int 0, .int 0, .ref rf, .ref rl, .ref rwx, .ref rb, .int 0, .ref rwd, .ref rk, .ref ra, .int 0, .int 32, .int 0, .ref rs, .ref rt, .int 0, .int 0, .ref rwr, .ref rp, .ref rsi, .ref rke, .ref rkc, .ref rik])), (rz, .inl (cyI, 2490, .inl (yz 0 0))), (rf, .inl (cyI, 8, .inl (fun _ => 0))), (rl, .inl (cyI, 8, .inl (fun _ => 0))), (rwx, .inl (cyI, 8, .inl (fun _ => 0))), (rb, .inl (cyZ, 8, .inl (fun _ => 0)))] H := hP
  have hD : va_D A [(h0, .inr (11, [.ref rz, .int 0, .int 0, .ref rf, .ref rl, .ref rwx, .ref rb, .int 0, .ref rwd, .ref rk, .ref ra, .int 0, .int 32, .int 0, .ref rs, .ref rt, .int 0, .int 0, .ref rwr, .ref rp, .ref rsi, .ref rke, .ref rkc, .ref rik])), (rz, .inl (cyI, 2490, .inl (yz 0 0))), (rf, .inl (cyI, 8, .inl (fun _ => 0))), (rl, .inl (cyI, 8, .inl (fun _ => 0))), (rwx, .inl (cyI, 8, .inl (fun _ => 0))), (rb, .inl (cyZ, 8, .inl (fun _ => 0)))] := hD
  refine W.widen (k := 0) (n := 0) (Nat.le_of_ble_eq_true rfl) (Nat.le_of_ble_eq_true rfl) ?_
  have hw : r_2 = (zB (isW a)) := hw
  subst hw
  refine lv_if_eq (tgt := 31) hx hb dX11_slave_4 (by decide) (fun c4 => ?_) (fun c4 => ?_)
  · refine lv_aload_n hx hb dX11_slave_31 rfl (lv_at hl 0 rfl) ?_
    refine lv_bipush (v := (-2)) hx hb dX11_slave_32 (by decide) ?_
    have hPc := hP.sub (ws' := [(h0, .inr (11, [.ref rz, .int 0, .int 0, .ref rf, .ref rl, .ref rwx, .ref rb, .int 0, .ref rwd, .ref rk, .ref ra, .int 0, .int 32, .int 0, .ref rs, .ref rt, .int 0, .int 0, .ref rwr, .ref rp, .ref rsi, .ref rke, .ref rkc, .ref rik]))]) [0] rfl
    have hDc := hD.sub (ws' := [(h0, .inr (11, [.ref rz, .int 0, .int 0, .ref rf, .ref rl, .ref rwx, .ref rb, .int 0, .ref rwd, .ref rk, .ref ra, .int 0, .int 32, .int 0, .ref rs, .ref rt, .int 0, .int 0, .ref rwr, .ref rp, .ref rsi, .ref rke, .ref rkc, .ref rik]))]) [0] (by decide) rfl
    refine yy_calli [0] [1, 2, 3, 4, 5] (wr := [(rz, .inl (cyI, 2490, .inl (yz 0 0))), (rf, .inl (cyI, 8, .inl (fun _ => 0))), (rl, .inl (cyI, 8, .inl (fun _ => 0))), (rwx, .inl (cyI, 8, .inl (fun _ => 0))), (rb, .inl (cyZ, 8, .inl (fun _ => 0)))]) (va_runV (As := [.int (-2)]) (rest := []) ⟨hx, hb, hml, hown, hts⟩ (r_refused l dC dI cyI cyZ cyO H.size h0 rz 0 0 rf rl rwx rb 0 rwd rk ra 0 32 0 rs rt 0 0 rwr rp rsi rke rkc rik (-2) ) (cwV 1 hts gX11_slave_X11_refused rfl rfl rfl (by decide +kernel) ⟨Nat.le_of_ble_eq_true rfl, Nat.le_of_ble_eq_true rfl⟩) (yPreV hK hPc hDc (ci := 11) (q0 := 0) rfl rfl) rfl rfl hl.1 rfl (lv_room (Nat.le_of_ble_eq_true rfl)) dX11_slave_34 ⟨Nat.le_of_ble_eq_true rfl, Nat.le_of_ble_eq_true rfl⟩) hP hD hS hA rfl rfl (by decide) (by decide) (fun r_4 u_3 H locs hw hP hD hS => ?_)
    have hP : va_P (dC, dI) vwCl [(rz, .inl (cyI, 2490, .inl (yz 0 0))), (rf, .inl (cyI, 8, .inl (fun _ => 0))), (rl, .inl (cyI, 8, .inl (fun _ => 0))), (rwx, .inl (cyI, 8, .inl (fun _ => 0))), (rb, .inl (cyZ, 8, .inl (fun _ => 0))), (h0, .inr (11, [.ref rz, .int (-2), .int 0, .ref rf, .ref rl, .ref rwx, .ref rb, .int 0, .ref rwd, .ref rk, .ref ra, .int 0, .int 32, .int 0, .ref rs, .ref rt, .int 0, .int 0, .ref rwr, .ref rp, .ref rsi, .ref rke, .ref rkc, .ref rik]))] H := hP
    have hD : va_D A [(rz, .inl (cyI, 2490, .inl (yz 0 0))), (rf, .inl (cyI, 8, .inl (fun _ => 0))), (rl, .inl (cyI, 8, .inl (fun _ => 0))), (rwx, .inl (cyI, 8, .inl (fun _ => 0))), (rb, .inl (cyZ, 8, .inl (fun _ => 0))), (h0, .inr (11, [.ref rz, .int (-2), .int 0, .ref rf, .ref rl, .ref rwx, .ref rb, .int 0, .ref rwd, .ref rk, .ref ra, .int 0, .int 32, .int 0, .ref rs, .ref rt, .int 0, .int 0, .ref rwr, .ref rp, .ref rsi, .ref rke, .ref rkc, .ref rik]))] := hD
    refine W.widen (k := 0) (n := 0) (Nat.le_of_ble_eq_true rfl) (Nat.le_of_ble_eq_true rfl) ?_
    have hw : r_4 = (-2) := hw.trans (by decide)
    subst hw
    refine W.widen (k := 0) (n := 0) (Nat.le_of_ble_eq_true rfl) (Nat.le_of_ble_eq_true rfl) ?_
    exact yy_iret (v := (-2)) () hx hb hr hlk rfl hsz hAe hK hP hD hS [] rfl rfl (by decide) (by (try simp only [zB0, Decidable.not_not] at c4); (try simp only [isW, zB, ← Int32.not_lt, sp_slave, sp_register, sp_depth, sp_limit, sp_transfer, sp_clock, sp_finish, sp_turn, sp_wire, sp_findings, sp_bridge, sp_keep, sp_told, ylc1, ylc2, y14, y2] at c4 ⊢); (try simp only [Decidable.not_not] at c4 ⊢); (try simp only [c4, not_true_eq_false, not_false_eq_true, false_and, and_false, true_and, and_true, and_self, or_true, true_or, or_false, false_or, or_self, ↓reduceIte]); (try simp only [← and_assoc]); (try simp only [c4, not_true_eq_false, not_false_eq_true, false_and, and_false, true_and, and_true, and_self, or_true, true_or, or_false, false_or, or_self, ↓reduceIte]); (try decide)) dX11_slave_37
  · refine lv_iload_n hx hb dX11_slave_7 rfl (lv_at hl 2 rfl) ?_
    have hPc := hP.sub (ws' := []) [] rfl
    have hDc := hD.sub (ws' := []) [] (by decide) rfl
    refine yy_calli [] [0, 1, 2, 3, 4, 5] (wr := [(h0, .inr (11, [.ref rz, .int 0, .int 0, .ref rf, .ref rl, .ref rwx, .ref rb, .int 0, .ref rwd, .ref rk, .ref ra, .int 0, .int 32, .int 0, .ref rs, .ref rt, .int 0, .int 0, .ref rwr, .ref rp, .ref rsi, .ref rke, .ref rkc, .ref rik])), (rz, .inl (cyI, 2490, .inl (yz 0 0))), (rf, .inl (cyI, 8, .inl (fun _ => 0))), (rl, .inl (cyI, 8, .inl (fun _ => 0))), (rwx, .inl (cyI, 8, .inl (fun _ => 0))), (rb, .inl (cyZ, 8, .inl (fun _ => 0)))]) (va_runS (As := [.int b]) (rest := []) ⟨hx, hb, hml, hown, hts⟩ (r_isWord l dC dI cyI cyZ cyO H.size b ) (va_cwS 1 hts gX11_slave_X11_isWord rfl rfl rfl (by decide +kernel) ⟨Nat.le_of_ble_eq_true rfl, Nat.le_of_ble_eq_true rfl⟩) (yPreS hK hPc hDc) rfl rfl hl.1 rfl (lv_room (Nat.le_of_ble_eq_true rfl)) dX11_slave_8 ⟨Nat.le_of_ble_eq_true rfl, Nat.le_of_ble_eq_true rfl⟩) hP hD hS hA rfl rfl (by decide) (by decide) (fun r_6 u_5 H locs hw hP hD hS => ?_)
    have hP : va_P (dC, dI) vwCl [(h0, .inr (11, [.ref rz, .int 0, .int 0, .ref rf, .ref rl, .ref rwx, .ref rb, .int 0, .ref rwd, .ref rk, .ref ra, .int 0, .int 32, .int 0, .ref rs, .ref rt, .int 0, .int 0, .ref rwr, .ref rp, .ref rsi, .ref rke, .ref rkc, .ref rik])), (rz, .inl (cyI, 2490, .inl (yz 0 0))), (rf, .inl (cyI, 8, .inl (fun _ => 0))), (rl, .inl (cyI, 8, .inl (fun _ => 0))), (rwx, .inl (cyI, 8, .inl (fun _ => 0))), (rb, .inl (cyZ, 8, .inl (fun _ => 0)))] H := hP
    have hD : va_D A [(h0, .inr (11, [.ref rz, .int 0, .int 0, .ref rf, .ref rl, .ref rwx, .ref rb, .int 0, .ref rwd, .ref rk, .ref ra, .int 0, .int 32, .int 0, .ref rs, .ref rt, .int 0, .int 0, .ref rwr, .ref rp, .ref rsi, .ref rke, .ref rkc, .ref rik])), (rz, .inl (cyI, 2490, .inl (yz 0 0))), (rf, .inl (cyI, 8, .inl (fun _ => 0))), (rl, .inl (cyI, 8, .inl (fun _ => 0))), (rwx, .inl (cyI, 8, .inl (fun _ => 0))), (rb, .inl (cyZ, 8, .inl (fun _ => 0)))] := hD
    refine W.widen (k := 0) (n := 0) (Nat.le_of_ble_eq_true rfl) (Nat.le_of_ble_eq_true rfl) ?_
    have hw : r_6 = (zB (isW b)) := hw
    subst hw
    refine lv_if_eq (tgt := 31) hx hb dX11_slave_11 (by decide) (fun c11 => ?_) (fun c11 => ?_)
    · refine lv_aload_n hx hb dX11_slave_31 rfl (lv_at hl 0 rfl) ?_
      refine lv_bipush (v := (-2)) hx hb dX11_slave_32 (by decide) ?_
      have hPc := hP.sub (ws' := [(h0, .inr (11, [.ref rz, .int 0, .int 0, .ref rf, .ref rl, .ref rwx, .ref rb, .int 0, .ref rwd, .ref rk, .ref ra, .int 0, .int 32, .int 0, .ref rs, .ref rt, .int 0, .int 0, .ref rwr, .ref rp, .ref rsi, .ref rke, .ref rkc, .ref rik]))]) [0] rfl
      have hDc := hD.sub (ws' := [(h0, .inr (11, [.ref rz, .int 0, .int 0, .ref rf, .ref rl, .ref rwx, .ref rb, .int 0, .ref rwd, .ref rk, .ref ra, .int 0, .int 32, .int 0, .ref rs, .ref rt, .int 0, .int 0, .ref rwr, .ref rp, .ref rsi, .ref rke, .ref rkc, .ref rik]))]) [0] (by decide) rfl
      refine yy_calli [0] [1, 2, 3, 4, 5] (wr := [(rz, .inl (cyI, 2490, .inl (yz 0 0))), (rf, .inl (cyI, 8, .inl (fun _ => 0))), (rl, .inl (cyI, 8, .inl (fun _ => 0))), (rwx, .inl (cyI, 8, .inl (fun _ => 0))), (rb, .inl (cyZ, 8, .inl (fun _ => 0)))]) (va_runV (As := [.int (-2)]) (rest := []) ⟨hx, hb, hml, hown, hts⟩ (r_refused l dC dI cyI cyZ cyO H.size h0 rz 0 0 rf rl rwx rb 0 rwd rk ra 0 32 0 rs rt 0 0 rwr rp rsi rke rkc rik (-2) ) (cwV 1 hts gX11_slave_X11_refused rfl rfl rfl (by decide +kernel) ⟨Nat.le_of_ble_eq_true rfl, Nat.le_of_ble_eq_true rfl⟩) (yPreV hK hPc hDc (ci := 11) (q0 := 0) rfl rfl) rfl rfl hl.1 rfl (lv_room (Nat.le_of_ble_eq_true rfl)) dX11_slave_34 ⟨Nat.le_of_ble_eq_true rfl, Nat.le_of_ble_eq_true rfl⟩) hP hD hS hA rfl rfl (by decide) (by decide) (fun r_8 u_7 H locs hw hP hD hS => ?_)
      have hP : va_P (dC, dI) vwCl [(rz, .inl (cyI, 2490, .inl (yz 0 0))), (rf, .inl (cyI, 8, .inl (fun _ => 0))), (rl, .inl (cyI, 8, .inl (fun _ => 0))), (rwx, .inl (cyI, 8, .inl (fun _ => 0))), (rb, .inl (cyZ, 8, .inl (fun _ => 0))), (h0, .inr (11, [.ref rz, .int (-2), .int 0, .ref rf, .ref rl, .ref rwx, .ref rb, .int 0, .ref rwd, .ref rk, .ref ra, .int 0, .int 32, .int 0, .ref rs, .ref rt, .int 0, .int 0, .ref rwr, .ref rp, .ref rsi, .ref rke, .ref rkc, .ref rik]))] H := hP
      have hD : va_D A [(rz, .inl (cyI, 2490, .inl (yz 0 0))), (rf, .inl (cyI, 8, .inl (fun _ => 0))), (rl, .inl (cyI, 8, .inl (fun _ => 0))), (rwx, .inl (cyI, 8, .inl (fun _ => 0))), (rb, .inl (cyZ, 8, .inl (fun _ => 0))), (h0, .inr (11, [.ref rz, .int (-2), .int 0, .ref rf, .ref rl, .ref rwx, .ref rb, .int 0, .ref rwd, .ref rk, .ref ra, .int 0, .int 32, .int 0, .ref rs, .ref rt, .int 0, .int 0, .ref rwr, .ref rp, .ref rsi, .ref rke, .ref rkc, .ref rik]))] := hD
      refine W.widen (k := 0) (n := 0) (Nat.le_of_ble_eq_true rfl) (Nat.le_of_ble_eq_true rfl) ?_
      have hw : r_8 = (-2) := hw.trans (by decide)
      subst hw
      refine W.widen (k := 0) (n := 0) (Nat.le_of_ble_eq_true rfl) (Nat.le_of_ble_eq_true rfl) ?_
      exact yy_iret (v := (-2)) () hx hb hr hlk rfl hsz hAe hK hP hD hS [] rfl rfl (by decide) (by (try simp only [zB0, Decidable.not_not] at c4 c11); (try simp only [isW, zB, ← Int32.not_lt, sp_slave, sp_register, sp_depth, sp_limit, sp_transfer, sp_clock, sp_finish, sp_turn, sp_wire, sp_findings, sp_bridge, sp_keep, sp_told, ylc1, ylc2, y14, y2] at c4 c11 ⊢); (try simp only [Decidable.not_not] at c4 c11 ⊢); (try simp only [c4, c11, not_true_eq_false, not_false_eq_true, false_and, and_false, true_and, and_true, and_self, or_true, true_or, or_false, false_or, or_self, ↓reduceIte]); (try simp only [← and_assoc]); (try simp only [c4, c11, not_true_eq_false, not_false_eq_true, false_and, and_false, true_and, and_true, and_self, or_true, true_or, or_false, false_or, or_self, ↓reduceIte]); (try decide)) dX11_slave_37
    · refine lv_iload_n hx hb dX11_slave_14 rfl (lv_at hl 2 rfl) ?_
      refine lv_iload_n hx hb dX11_slave_15 rfl (lv_at hl 1 rfl) ?_
      refine lv_icmp_lt (tgt := 31) hx hb dX11_slave_16 (by decide) (fun c16 => ?_) (fun c16 => ?_)
      · refine lv_aload_n hx hb dX11_slave_31 rfl (lv_at hl 0 rfl) ?_
        refine lv_bipush (v := (-2)) hx hb dX11_slave_32 (by decide) ?_
        have hPc := hP.sub (ws' := [(h0, .inr (11, [.ref rz, .int 0, .int 0, .ref rf, .ref rl, .ref rwx, .ref rb, .int 0, .ref rwd, .ref rk, .ref ra, .int 0, .int 32, .int 0, .ref rs, .ref rt, .int 0, .int 0, .ref rwr, .ref rp, .ref rsi, .ref rke, .ref rkc, .ref rik]))]) [0] rfl
        have hDc := hD.sub (ws' := [(h0, .inr (11, [.ref rz, .int 0, .int 0, .ref rf, .ref rl, .ref rwx, .ref rb, .int 0, .ref rwd, .ref rk, .ref ra, .int 0, .int 32, .int 0, .ref rs, .ref rt, .int 0, .int 0, .ref rwr, .ref rp, .ref rsi, .ref rke, .ref rkc, .ref rik]))]) [0] (by decide) rfl
        refine yy_calli [0] [1, 2, 3, 4, 5] (wr := [(rz, .inl (cyI, 2490, .inl (yz 0 0))), (rf, .inl (cyI, 8, .inl (fun _ => 0))), (rl, .inl (cyI, 8, .inl (fun _ => 0))), (rwx, .inl (cyI, 8, .inl (fun _ => 0))), (rb, .inl (cyZ, 8, .inl (fun _ => 0)))]) (va_runV (As := [.int (-2)]) (rest := []) ⟨hx, hb, hml, hown, hts⟩ (r_refused l dC dI cyI cyZ cyO H.size h0 rz 0 0 rf rl rwx rb 0 rwd rk ra 0 32 0 rs rt 0 0 rwr rp rsi rke rkc rik (-2) ) (cwV 1 hts gX11_slave_X11_refused rfl rfl rfl (by decide +kernel) ⟨Nat.le_of_ble_eq_true rfl, Nat.le_of_ble_eq_true rfl⟩) (yPreV hK hPc hDc (ci := 11) (q0 := 0) rfl rfl) rfl rfl hl.1 rfl (lv_room (Nat.le_of_ble_eq_true rfl)) dX11_slave_34 ⟨Nat.le_of_ble_eq_true rfl, Nat.le_of_ble_eq_true rfl⟩) hP hD hS hA rfl rfl (by decide) (by decide) (fun r_10 u_9 H locs hw hP hD hS => ?_)
        have hP : va_P (dC, dI) vwCl [(rz, .inl (cyI, 2490, .inl (yz 0 0))), (rf, .inl (cyI, 8, .inl (fun _ => 0))), (rl, .inl (cyI, 8, .inl (fun _ => 0))), (rwx, .inl (cyI, 8, .inl (fun _ => 0))), (rb, .inl (cyZ, 8, .inl (fun _ => 0))), (h0, .inr (11, [.ref rz, .int (-2), .int 0, .ref rf, .ref rl, .ref rwx, .ref rb, .int 0, .ref rwd, .ref rk, .ref ra, .int 0, .int 32, .int 0, .ref rs, .ref rt, .int 0, .int 0, .ref rwr, .ref rp, .ref rsi, .ref rke, .ref rkc, .ref rik]))] H := hP
        have hD : va_D A [(rz, .inl (cyI, 2490, .inl (yz 0 0))), (rf, .inl (cyI, 8, .inl (fun _ => 0))), (rl, .inl (cyI, 8, .inl (fun _ => 0))), (rwx, .inl (cyI, 8, .inl (fun _ => 0))), (rb, .inl (cyZ, 8, .inl (fun _ => 0))), (h0, .inr (11, [.ref rz, .int (-2), .int 0, .ref rf, .ref rl, .ref rwx, .ref rb, .int 0, .ref rwd, .ref rk, .ref ra, .int 0, .int 32, .int 0, .ref rs, .ref rt, .int 0, .int 0, .ref rwr, .ref rp, .ref rsi, .ref rke, .ref rkc, .ref rik]))] := hD
        refine W.widen (k := 0) (n := 0) (Nat.le_of_ble_eq_true rfl) (Nat.le_of_ble_eq_true rfl) ?_
        have hw : r_10 = (-2) := hw.trans (by decide)
        subst hw
        refine W.widen (k := 0) (n := 0) (Nat.le_of_ble_eq_true rfl) (Nat.le_of_ble_eq_true rfl) ?_
        exact yy_iret (v := (-2)) () hx hb hr hlk rfl hsz hAe hK hP hD hS [] rfl rfl (by decide) (by (try simp only [zB0, Decidable.not_not] at c4 c11 c16); (try simp only [isW, zB, ← Int32.not_lt, sp_slave, sp_register, sp_depth, sp_limit, sp_transfer, sp_clock, sp_finish, sp_turn, sp_wire, sp_findings, sp_bridge, sp_keep, sp_told, ylc1, ylc2, y14, y2] at c4 c11 c16 ⊢); (try simp only [Decidable.not_not] at c4 c11 c16 ⊢); (try simp only [c4, c11, c16, not_true_eq_false, not_false_eq_true, false_and, and_false, true_and, and_true, and_self, or_true, true_or, or_false, false_or, or_self, ↓reduceIte]); (try simp only [← and_assoc]); (try simp only [c4, c11, c16, not_true_eq_false, not_false_eq_true, false_and, and_false, true_and, and_true, and_self, or_true, true_or, or_false, false_or, or_self, ↓reduceIte]); (try decide)) dX11_slave_37
      · refine lv_iload_n hx hb dX11_slave_19 rfl (lv_at hl 3 rfl) ?_
        refine lv_i2l hx hb dX11_slave_20 rfl ?_
        refine lv_lconst (v := (0 : Int32).toInt64) hx hb dX11_slave_21 (by decide) ?_
        refine lv_ldc2 (v := 15) hx hb hown hl82 dX11_slave_22 ?_
        refine yy_long (v := (15 : Int32).toInt64) (by decide) ?_
        have hPc := hP.sub (ws' := []) [] rfl
        have hDc := hD.sub (ws' := []) [] (by decide) rfl
        refine yy_calli [] [0, 1, 2, 3, 4, 5] (wr := [(h0, .inr (11, [.ref rz, .int 0, .int 0, .ref rf, .ref rl, .ref rwx, .ref rb, .int 0, .ref rwd, .ref rk, .ref ra, .int 0, .int 32, .int 0, .ref rs, .ref rt, .int 0, .int 0, .ref rwr, .ref rp, .ref rsi, .ref rke, .ref rkc, .ref rik])), (rz, .inl (cyI, 2490, .inl (yz 0 0))), (rf, .inl (cyI, 8, .inl (fun _ => 0))), (rl, .inl (cyI, 8, .inl (fun _ => 0))), (rwx, .inl (cyI, 8, .inl (fun _ => 0))), (rb, .inl (cyZ, 8, .inl (fun _ => 0)))]) (va_runS (As := [.long (wt : Int32).toInt64, .long (0 : Int32).toInt64, .long (15 : Int32).toInt64]) (rest := []) ⟨hx, hb, hml, hown, hts⟩ (r_in l dC dI cyI cyZ cyO H.size wt 0 15 ) (va_cwS 3 hts gX11_slave_X11_in rfl rfl rfl (by decide +kernel) ⟨Nat.le_of_ble_eq_true rfl, Nat.le_of_ble_eq_true rfl⟩) (yPreS hK hPc hDc) rfl rfl hl.1 rfl (lv_room (Nat.le_of_ble_eq_true rfl)) dX11_slave_25 ⟨Nat.le_of_ble_eq_true rfl, Nat.le_of_ble_eq_true rfl⟩) hP hD hS hA rfl rfl (by decide) (by decide) (fun r_12 u_11 H locs hw hP hD hS => ?_)
        have hP : va_P (dC, dI) vwCl [(h0, .inr (11, [.ref rz, .int 0, .int 0, .ref rf, .ref rl, .ref rwx, .ref rb, .int 0, .ref rwd, .ref rk, .ref ra, .int 0, .int 32, .int 0, .ref rs, .ref rt, .int 0, .int 0, .ref rwr, .ref rp, .ref rsi, .ref rke, .ref rkc, .ref rik])), (rz, .inl (cyI, 2490, .inl (yz 0 0))), (rf, .inl (cyI, 8, .inl (fun _ => 0))), (rl, .inl (cyI, 8, .inl (fun _ => 0))), (rwx, .inl (cyI, 8, .inl (fun _ => 0))), (rb, .inl (cyZ, 8, .inl (fun _ => 0)))] H := hP
        have hD : va_D A [(h0, .inr (11, [.ref rz, .int 0, .int 0, .ref rf, .ref rl, .ref rwx, .ref rb, .int 0, .ref rwd, .ref rk, .ref ra, .int 0, .int 32, .int 0, .ref rs, .ref rt, .int 0, .int 0, .ref rwr, .ref rp, .ref rsi, .ref rke, .ref rkc, .ref rik])), (rz, .inl (cyI, 2490, .inl (yz 0 0))), (rf, .inl (cyI, 8, .inl (fun _ => 0))), (rl, .inl (cyI, 8, .inl (fun _ => 0))), (rwx, .inl (cyI, 8, .inl (fun _ => 0))), (rb, .inl (cyZ, 8, .inl (fun _ => 0)))] := hD
        refine W.widen (k := 0) (n := 0) (Nat.le_of_ble_eq_true rfl) (Nat.le_of_ble_eq_true rfl) ?_
        have hw : r_12 = (zB (0 ≤ wt ∧ wt ≤ 15)) := hw
        subst hw
        refine lv_if_ne (tgt := 38) hx hb dX11_slave_28 (by decide) (fun c28 => ?_) (fun c28 => ?_)
        · refine lv_aload_n hx hb dX11_slave_38 rfl (lv_at hl 0 rfl) ?_
          refine va_get (D := (dC, dI)) (ci := 11) (v := .ref rz) (C := RX11) (T := TX11) (N := 24) hx hb hts hnX11 hown hK hP 0 rfl rfl 0 (by decide) hf7 (fun _ h9 => h9) rfl dX11_slave_39 ?_
          refine lv_sipush (v := 179) hx hb dX11_slave_42 (by decide) ?_
          refine yy_iald (v := 0) hx hb hK hP 1 0 rfl rfl (yin (by decide)) dX11_slave_45 rfl ?_
          refine lv_if_eq (tgt := 56) hx hb dX11_slave_46 (by decide) (fun _ => ?_) (fun c => absurd (by decide) c)
          refine lv_aload_n hx hb dX11_slave_56 rfl (lv_at hl 0 rfl) ?_
          refine va_get (D := (dC, dI)) (ci := 11) (v := .int 0) (C := RX11) (T := TX11) (N := 24) hx hb hts hnX11 hown hK hP 0 rfl rfl 2 (by decide) hf88 (fun _ h9 => h9) rfl dX11_slave_57 ?_
          refine lv_bipush (v := 8) hx hb dX11_slave_60 (by decide) ?_
          refine lv_icmp_ne (tgt := 72) hx hb dX11_slave_62 (by decide) (fun _ => ?_) (fun c => absurd c (by decide))
          refine lv_iconst (v := 0) hx hb dX11_slave_72 (by decide) ?_
          refine lv_istore (lv' := [(5, .int 0), (0, .ref h0), (1, .int a), (2, .int b), (3, .int wt), (4, .int d)]) hx hb dX11_slave_73 hl (by decide) rfl (fun ls hl => ?_)
          refine lv_iload hx hb dX11_slave_75 (lv_at hl 0 rfl) ?_
          refine lv_aload_n hx hb dX11_slave_77 rfl (lv_at hl 1 rfl) ?_
          refine va_get (D := (dC, dI)) (ci := 11) (v := .int 0) (C := RX11) (T := TX11) (N := 24) hx hb hts hnX11 hown hK hP 0 rfl rfl 2 (by decide) hf88 (fun _ h9 => h9) rfl dX11_slave_78 ?_
          refine lv_icmp_ge (tgt := 119) hx hb dX11_slave_81 (by decide) (fun _ => ?_) (fun c => absurd (by decide) c)
          refine lv_aload_n hx hb dX11_slave_119 rfl (lv_at hl 1 rfl) ?_
          refine va_get (D := (dC, dI)) (ci := 11) (v := .ref rf) (C := RX11) (T := TX11) (N := 24) hx hb hts hnX11 hown hK hP 0 rfl rfl 3 (by decide) hf13 (fun _ h9 => h9) rfl dX11_slave_120 ?_
          refine lv_aload_n hx hb dX11_slave_123 rfl (lv_at hl 1 rfl) ?_
          refine va_get (D := (dC, dI)) (ci := 11) (v := .int 0) (C := RX11) (T := TX11) (N := 24) hx hb hts hnX11 hown hK hP 0 rfl rfl 2 (by decide) hf88 (fun _ h9 => h9) rfl dX11_slave_124 ?_
          refine lv_iload_n hx hb dX11_slave_127 rfl (lv_at hl 2 rfl) ?_
          refine yy_iast (f' := (upd (fun _ => 0) 0 a)) hx hb hK hP hD hS 2 0 rfl rfl (yin (by decide)) dX11_slave_128 rfl (fun H locs hP hD hS => ?_)
          have hP : va_P (dC, dI) vwCl [(h0, .inr (11, [.ref rz, .int 0, .int 0, .ref rf, .ref rl, .ref rwx, .ref rb, .int 0, .ref rwd, .ref rk, .ref ra, .int 0, .int 32, .int 0, .ref rs, .ref rt, .int 0, .int 0, .ref rwr, .ref rp, .ref rsi, .ref rke, .ref rkc, .ref rik])), (rz, .inl (cyI, 2490, .inl (yz 0 0))), (rf, .inl (cyI, 8, .inl (upd (fun _ => 0) 0 a))), (rl, .inl (cyI, 8, .inl (fun _ => 0))), (rwx, .inl (cyI, 8, .inl (fun _ => 0))), (rb, .inl (cyZ, 8, .inl (fun _ => 0)))] H := hP
          have hD : va_D A [(h0, .inr (11, [.ref rz, .int 0, .int 0, .ref rf, .ref rl, .ref rwx, .ref rb, .int 0, .ref rwd, .ref rk, .ref ra, .int 0, .int 32, .int 0, .ref rs, .ref rt, .int 0, .int 0, .ref rwr, .ref rp, .ref rsi, .ref rke, .ref rkc, .ref rik])), (rz, .inl (cyI, 2490, .inl (yz 0 0))), (rf, .inl (cyI, 8, .inl (upd (fun _ => 0) 0 a))), (rl, .inl (cyI, 8, .inl (fun _ => 0))), (rwx, .inl (cyI, 8, .inl (fun _ => 0))), (rb, .inl (cyZ, 8, .inl (fun _ => 0)))] := hD
          refine lv_aload_n hx hb dX11_slave_129 rfl (lv_at hl 1 rfl) ?_
          refine va_get (D := (dC, dI)) (ci := 11) (v := .ref rl) (C := RX11) (T := TX11) (N := 24) hx hb hts hnX11 hown hK hP 0 rfl rfl 4 (by decide) hf16 (fun _ h9 => h9) rfl dX11_slave_130 ?_
          refine lv_aload_n hx hb dX11_slave_133 rfl (lv_at hl 1 rfl) ?_
          refine va_get (D := (dC, dI)) (ci := 11) (v := .int 0) (C := RX11) (T := TX11) (N := 24) hx hb hts hnX11 hown hK hP 0 rfl rfl 2 (by decide) hf88 (fun _ h9 => h9) rfl dX11_slave_134 ?_
          refine lv_iload_n hx hb dX11_slave_137 rfl (lv_at hl 3 rfl) ?_
          refine yy_iast (f' := (upd (fun _ => 0) 0 b)) hx hb hK hP hD hS 3 0 rfl rfl (yin (by decide)) dX11_slave_138 rfl (fun H locs hP hD hS => ?_)
          have hP : va_P (dC, dI) vwCl [(h0, .inr (11, [.ref rz, .int 0, .int 0, .ref rf, .ref rl, .ref rwx, .ref rb, .int 0, .ref rwd, .ref rk, .ref ra, .int 0, .int 32, .int 0, .ref rs, .ref rt, .int 0, .int 0, .ref rwr, .ref rp, .ref rsi, .ref rke, .ref rkc, .ref rik])), (rz, .inl (cyI, 2490, .inl (yz 0 0))), (rf, .inl (cyI, 8, .inl (upd (fun _ => 0) 0 a))), (rl, .inl (cyI, 8, .inl (upd (fun _ => 0) 0 b))), (rwx, .inl (cyI, 8, .inl (fun _ => 0))), (rb, .inl (cyZ, 8, .inl (fun _ => 0)))] H := hP
          have hD : va_D A [(h0, .inr (11, [.ref rz, .int 0, .int 0, .ref rf, .ref rl, .ref rwx, .ref rb, .int 0, .ref rwd, .ref rk, .ref ra, .int 0, .int 32, .int 0, .ref rs, .ref rt, .int 0, .int 0, .ref rwr, .ref rp, .ref rsi, .ref rke, .ref rkc, .ref rik])), (rz, .inl (cyI, 2490, .inl (yz 0 0))), (rf, .inl (cyI, 8, .inl (upd (fun _ => 0) 0 a))), (rl, .inl (cyI, 8, .inl (upd (fun _ => 0) 0 b))), (rwx, .inl (cyI, 8, .inl (fun _ => 0))), (rb, .inl (cyZ, 8, .inl (fun _ => 0)))] := hD
          refine lv_aload_n hx hb dX11_slave_139 rfl (lv_at hl 1 rfl) ?_
          refine va_get (D := (dC, dI)) (ci := 11) (v := .ref rwx) (C := RX11) (T := TX11) (N := 24) hx hb hts hnX11 hown hK hP 0 rfl rfl 5 (by decide) hf19 (fun _ h9 => h9) rfl dX11_slave_140 ?_
          refine lv_aload_n hx hb dX11_slave_143 rfl (lv_at hl 1 rfl) ?_
          refine va_get (D := (dC, dI)) (ci := 11) (v := .int 0) (C := RX11) (T := TX11) (N := 24) hx hb hts hnX11 hown hK hP 0 rfl rfl 2 (by decide) hf88 (fun _ h9 => h9) rfl dX11_slave_144 ?_
          refine lv_iload_n hx hb dX11_slave_147 rfl (lv_at hl 4 rfl) ?_
          refine yy_iast (f' := (upd (fun _ => 0) 0 wt)) hx hb hK hP hD hS 4 0 rfl rfl (yin (by decide)) dX11_slave_148 rfl (fun H locs hP hD hS => ?_)
          have hP : va_P (dC, dI) vwCl [(h0, .inr (11, [.ref rz, .int 0, .int 0, .ref rf, .ref rl, .ref rwx, .ref rb, .int 0, .ref rwd, .ref rk, .ref ra, .int 0, .int 32, .int 0, .ref rs, .ref rt, .int 0, .int 0, .ref rwr, .ref rp, .ref rsi, .ref rke, .ref rkc, .ref rik])), (rz, .inl (cyI, 2490, .inl (yz 0 0))), (rf, .inl (cyI, 8, .inl (upd (fun _ => 0) 0 a))), (rl, .inl (cyI, 8, .inl (upd (fun _ => 0) 0 b))), (rwx, .inl (cyI, 8, .inl (upd (fun _ => 0) 0 wt))), (rb, .inl (cyZ, 8, .inl (fun _ => 0)))] H := hP
          have hD : va_D A [(h0, .inr (11, [.ref rz, .int 0, .int 0, .ref rf, .ref rl, .ref rwx, .ref rb, .int 0, .ref rwd, .ref rk, .ref ra, .int 0, .int 32, .int 0, .ref rs, .ref rt, .int 0, .int 0, .ref rwr, .ref rp, .ref rsi, .ref rke, .ref rkc, .ref rik])), (rz, .inl (cyI, 2490, .inl (yz 0 0))), (rf, .inl (cyI, 8, .inl (upd (fun _ => 0) 0 a))), (rl, .inl (cyI, 8, .inl (upd (fun _ => 0) 0 b))), (rwx, .inl (cyI, 8, .inl (upd (fun _ => 0) 0 wt))), (rb, .inl (cyZ, 8, .inl (fun _ => 0)))] := hD
          refine lv_aload_n hx hb dX11_slave_149 rfl (lv_at hl 1 rfl) ?_
          refine va_get (D := (dC, dI)) (ci := 11) (v := .ref rb) (C := RX11) (T := TX11) (N := 24) hx hb hts hnX11 hown hK hP 0 rfl rfl 6 (by decide) hf22 (fun _ h9 => h9) rfl dX11_slave_150 ?_
          refine lv_aload_n hx hb dX11_slave_153 rfl (lv_at hl 1 rfl) ?_
          refine va_get (D := (dC, dI)) (ci := 11) (v := .int 0) (C := RX11) (T := TX11) (N := 24) hx hb hts hnX11 hown hK hP 0 rfl rfl 2 (by decide) hf88 (fun _ h9 => h9) rfl dX11_slave_154 ?_
          refine lv_iload hx hb dX11_slave_157 (lv_at hl 5 rfl) ?_
          refine yy_zast (f' := (upd (fun _ => 0) 0 (vp_nar .boolean d))) hx hb hK hP hD hS 5 1 rfl rfl (yin (by decide)) dX11_slave_159 rfl (fun H locs hP hD hS => ?_)
          have hP : va_P (dC, dI) vwCl [(h0, .inr (11, [.ref rz, .int 0, .int 0, .ref rf, .ref rl, .ref rwx, .ref rb, .int 0, .ref rwd, .ref rk, .ref ra, .int 0, .int 32, .int 0, .ref rs, .ref rt, .int 0, .int 0, .ref rwr, .ref rp, .ref rsi, .ref rke, .ref rkc, .ref rik])), (rz, .inl (cyI, 2490, .inl (yz 0 0))), (rf, .inl (cyI, 8, .inl (upd (fun _ => 0) 0 a))), (rl, .inl (cyI, 8, .inl (upd (fun _ => 0) 0 b))), (rwx, .inl (cyI, 8, .inl (upd (fun _ => 0) 0 wt))), (rb, .inl (cyZ, 8, .inl (upd (fun _ => 0) 0 (vp_nar .boolean d))))] H := hP
          have hD : va_D A [(h0, .inr (11, [.ref rz, .int 0, .int 0, .ref rf, .ref rl, .ref rwx, .ref rb, .int 0, .ref rwd, .ref rk, .ref ra, .int 0, .int 32, .int 0, .ref rs, .ref rt, .int 0, .int 0, .ref rwr, .ref rp, .ref rsi, .ref rke, .ref rkc, .ref rik])), (rz, .inl (cyI, 2490, .inl (yz 0 0))), (rf, .inl (cyI, 8, .inl (upd (fun _ => 0) 0 a))), (rl, .inl (cyI, 8, .inl (upd (fun _ => 0) 0 b))), (rwx, .inl (cyI, 8, .inl (upd (fun _ => 0) 0 wt))), (rb, .inl (cyZ, 8, .inl (upd (fun _ => 0) 0 (vp_nar .boolean d))))] := hD
          refine lv_aload_n hx hb dX11_slave_160 rfl (lv_at hl 1 rfl) ?_
          refine lv_dup hx hb dX11_slave_161 rfl ?_
          refine va_get (D := (dC, dI)) (ci := 11) (v := .int 0) (C := RX11) (T := TX11) (N := 24) hx hb hts hnX11 hown hK hP 0 rfl rfl 2 (by decide) hf88 (fun _ h9 => h9) rfl dX11_slave_162 ?_
          refine lv_iconst (v := 1) hx hb dX11_slave_165 (by decide) ?_
          refine lv_iadd hx hb dX11_slave_166 ?_
          refine yy_int (v := 1) (by decide) ?_
          refine va_put (D := (dC, dI)) (ci := 11) (v := .int 1) (ty := .int) (C := RX11) (T := TX11) (N := 24) hx hb hts hnX11 tyX11 tyX11_ok nmX11 hown hK hP hD hS 0 rfl rfl 2 (by decide) hf88 (fun _ h9 => h9) rfl (by decide +kernel) rfl rfl (Nat.le_of_ble_eq_true rfl) dX11_slave_167 (fun H locs hP hD hS => ?_)
          have hP : va_P (dC, dI) vwCl [(h0, .inr (11, [.ref rz, .int 0, .int 1, .ref rf, .ref rl, .ref rwx, .ref rb, .int 0, .ref rwd, .ref rk, .ref ra, .int 0, .int 32, .int 0, .ref rs, .ref rt, .int 0, .int 0, .ref rwr, .ref rp, .ref rsi, .ref rke, .ref rkc, .ref rik])), (rz, .inl (cyI, 2490, .inl (yz 0 0))), (rf, .inl (cyI, 8, .inl (upd (fun _ => 0) 0 a))), (rl, .inl (cyI, 8, .inl (upd (fun _ => 0) 0 b))), (rwx, .inl (cyI, 8, .inl (upd (fun _ => 0) 0 wt))), (rb, .inl (cyZ, 8, .inl (upd (fun _ => 0) 0 (vp_nar .boolean d))))] H := hP
          have hD : va_D A [(h0, .inr (11, [.ref rz, .int 0, .int 1, .ref rf, .ref rl, .ref rwx, .ref rb, .int 0, .ref rwd, .ref rk, .ref ra, .int 0, .int 32, .int 0, .ref rs, .ref rt, .int 0, .int 0, .ref rwr, .ref rp, .ref rsi, .ref rke, .ref rkc, .ref rik])), (rz, .inl (cyI, 2490, .inl (yz 0 0))), (rf, .inl (cyI, 8, .inl (upd (fun _ => 0) 0 a))), (rl, .inl (cyI, 8, .inl (upd (fun _ => 0) 0 b))), (rwx, .inl (cyI, 8, .inl (upd (fun _ => 0) 0 wt))), (rb, .inl (cyZ, 8, .inl (upd (fun _ => 0) 0 (vp_nar .boolean d))))] := hD
          refine lv_aload_n hx hb dX11_slave_170 rfl (lv_at hl 1 rfl) ?_
          refine lv_dup hx hb dX11_slave_171 rfl ?_
          refine va_get (D := (dC, dI)) (ci := 11) (v := .int 0) (C := RX11) (T := TX11) (N := 24) hx hb hts hnX11 hown hK hP 0 rfl rfl 13 (by decide) hf91 (fun _ h9 => h9) rfl dX11_slave_172 ?_
          refine lv_iconst (v := 1) hx hb dX11_slave_175 (by decide) ?_
          refine lv_iadd hx hb dX11_slave_176 ?_
          refine yy_int (v := 1) (by decide) ?_
          refine va_put (D := (dC, dI)) (ci := 11) (v := .int 1) (ty := .int) (C := RX11) (T := TX11) (N := 24) hx hb hts hnX11 tyX11 tyX11_ok nmX11 hown hK hP hD hS 0 rfl rfl 13 (by decide) hf91 (fun _ h9 => h9) rfl (by decide +kernel) rfl rfl (Nat.le_of_ble_eq_true rfl) dX11_slave_177 (fun H locs hP hD hS => ?_)
          have hP : va_P (dC, dI) vwCl [(h0, .inr (11, [.ref rz, .int 0, .int 1, .ref rf, .ref rl, .ref rwx, .ref rb, .int 0, .ref rwd, .ref rk, .ref ra, .int 0, .int 32, .int 1, .ref rs, .ref rt, .int 0, .int 0, .ref rwr, .ref rp, .ref rsi, .ref rke, .ref rkc, .ref rik])), (rz, .inl (cyI, 2490, .inl (yz 0 0))), (rf, .inl (cyI, 8, .inl (upd (fun _ => 0) 0 a))), (rl, .inl (cyI, 8, .inl (upd (fun _ => 0) 0 b))), (rwx, .inl (cyI, 8, .inl (upd (fun _ => 0) 0 wt))), (rb, .inl (cyZ, 8, .inl (upd (fun _ => 0) 0 (vp_nar .boolean d))))] H := hP
          have hD : va_D A [(h0, .inr (11, [.ref rz, .int 0, .int 1, .ref rf, .ref rl, .ref rwx, .ref rb, .int 0, .ref rwd, .ref rk, .ref ra, .int 0, .int 32, .int 1, .ref rs, .ref rt, .int 0, .int 0, .ref rwr, .ref rp, .ref rsi, .ref rke, .ref rkc, .ref rik])), (rz, .inl (cyI, 2490, .inl (yz 0 0))), (rf, .inl (cyI, 8, .inl (upd (fun _ => 0) 0 a))), (rl, .inl (cyI, 8, .inl (upd (fun _ => 0) 0 b))), (rwx, .inl (cyI, 8, .inl (upd (fun _ => 0) 0 wt))), (rb, .inl (cyZ, 8, .inl (upd (fun _ => 0) 0 (vp_nar .boolean d))))] := hD
          refine lv_aload_n hx hb dX11_slave_180 rfl (lv_at hl 1 rfl) ?_
          refine lv_aload_n hx hb dX11_slave_181 rfl (lv_at hl 1 rfl) ?_
          refine va_get (D := (dC, dI)) (ci := 11) (v := .int 1) (C := RX11) (T := TX11) (N := 24) hx hb hts hnX11 hown hK hP 0 rfl rfl 2 (by decide) hf88 (fun _ h9 => h9) rfl dX11_slave_182 ?_
          refine lv_iconst (v := 1) hx hb dX11_slave_185 (by decide) ?_
          refine lv_isub hx hb dX11_slave_186 ?_
          refine yy_int (v := 0) (by decide) ?_
          have hPc := hP.sub (ws' := [(h0, .inr (11, [.ref rz, .int 0, .int 1, .ref rf, .ref rl, .ref rwx, .ref rb, .int 0, .ref rwd, .ref rk, .ref ra, .int 0, .int 32, .int 1, .ref rs, .ref rt, .int 0, .int 0, .ref rwr, .ref rp, .ref rsi, .ref rke, .ref rkc, .ref rik]))]) [0] rfl
          have hDc := hD.sub (ws' := [(h0, .inr (11, [.ref rz, .int 0, .int 1, .ref rf, .ref rl, .ref rwx, .ref rb, .int 0, .ref rwd, .ref rk, .ref ra, .int 0, .int 32, .int 1, .ref rs, .ref rt, .int 0, .int 0, .ref rwr, .ref rp, .ref rsi, .ref rke, .ref rkc, .ref rik]))]) [0] (by decide) rfl
          refine yy_calli [0] [1, 2, 3, 4, 5] (wr := [(rz, .inl (cyI, 2490, .inl (yz 0 0))), (rf, .inl (cyI, 8, .inl (upd (fun _ => 0) 0 a))), (rl, .inl (cyI, 8, .inl (upd (fun _ => 0) 0 b))), (rwx, .inl (cyI, 8, .inl (upd (fun _ => 0) 0 wt))), (rb, .inl (cyZ, 8, .inl (upd (fun _ => 0) 0 (vp_nar .boolean d))))]) (va_runV (As := [.int 0]) (rest := []) ⟨hx, hb, hml, hown, hts⟩ (r_done l dC dI cyI cyZ cyO H.size h0 rz 0 1 rf rl rwx rb 0 rwd rk ra 0 32 1 rs rt 0 0 rwr rp rsi rke rkc rik 0 ) (cwV 1 hts gX11_slave_X11_done rfl rfl rfl (by decide +kernel) ⟨Nat.le_of_ble_eq_true rfl, Nat.le_of_ble_eq_true rfl⟩) (yPreV hK hPc hDc (ci := 11) (q0 := 0) rfl rfl) rfl rfl hl.1 rfl (lv_room (Nat.le_of_ble_eq_true rfl)) dX11_slave_187 ⟨Nat.le_of_ble_eq_true rfl, Nat.le_of_ble_eq_true rfl⟩) hP hD hS hA rfl rfl (by decide) (by decide) (fun r_14 u_13 H locs hw hP hD hS => ?_)
          have hP : va_P (dC, dI) vwCl [(rz, .inl (cyI, 2490, .inl (yz 0 0))), (rf, .inl (cyI, 8, .inl (upd (fun _ => 0) 0 a))), (rl, .inl (cyI, 8, .inl (upd (fun _ => 0) 0 b))), (rwx, .inl (cyI, 8, .inl (upd (fun _ => 0) 0 wt))), (rb, .inl (cyZ, 8, .inl (upd (fun _ => 0) 0 (vp_nar .boolean d)))), (h0, .inr (11, [.ref rz, .int 0, .int 1, .ref rf, .ref rl, .ref rwx, .ref rb, .int 0, .ref rwd, .ref rk, .ref ra, .int 0, .int 32, .int 1, .ref rs, .ref rt, .int 0, .int 0, .ref rwr, .ref rp, .ref rsi, .ref rke, .ref rkc, .ref rik]))] H := hP
          have hD : va_D A [(rz, .inl (cyI, 2490, .inl (yz 0 0))), (rf, .inl (cyI, 8, .inl (upd (fun _ => 0) 0 a))), (rl, .inl (cyI, 8, .inl (upd (fun _ => 0) 0 b))), (rwx, .inl (cyI, 8, .inl (upd (fun _ => 0) 0 wt))), (rb, .inl (cyZ, 8, .inl (upd (fun _ => 0) 0 (vp_nar .boolean d)))), (h0, .inr (11, [.ref rz, .int 0, .int 1, .ref rf, .ref rl, .ref rwx, .ref rb, .int 0, .ref rwd, .ref rk, .ref ra, .int 0, .int 32, .int 1, .ref rs, .ref rt, .int 0, .int 0, .ref rwr, .ref rp, .ref rsi, .ref rke, .ref rkc, .ref rik]))] := hD
          refine W.widen (k := 0) (n := 0) (Nat.le_of_ble_eq_true rfl) (Nat.le_of_ble_eq_true rfl) ?_
          have hw : r_14 = 0 := hw.trans (by decide)
          subst hw
          refine W.widen (k := 0) (n := 0) (Nat.le_of_ble_eq_true rfl) (Nat.le_of_ble_eq_true rfl) ?_
          exact yy_iret (v := 0) () hx hb hr hlk rfl hsz hAe hK hP hD hS [] rfl rfl (by decide) (by (try simp only [zB0, Decidable.not_not] at c4 c11 c16 c28); (try simp only [isW, zB, ← Int32.not_lt, sp_slave, sp_register, sp_depth, sp_limit, sp_transfer, sp_clock, sp_finish, sp_turn, sp_wire, sp_findings, sp_bridge, sp_keep, sp_told, ylc1, ylc2, y14, y2] at c4 c11 c16 c28 ⊢); (try simp only [Decidable.not_not] at c4 c11 c16 c28 ⊢); (try simp only [c4, c11, c16, c28, not_true_eq_false, not_false_eq_true, false_and, and_false, true_and, and_true, and_self, or_true, true_or, or_false, false_or, or_self, ↓reduceIte]); (try simp only [← and_assoc]); (try simp only [c4, c11, c16, c28, not_true_eq_false, not_false_eq_true, false_and, and_false, true_and, and_true, and_self, or_true, true_or, or_false, false_or, or_self, ↓reduceIte]); (try decide)) dX11_slave_190
        · refine lv_aload_n hx hb dX11_slave_31 rfl (lv_at hl 0 rfl) ?_
          refine lv_bipush (v := (-2)) hx hb dX11_slave_32 (by decide) ?_
          have hPc := hP.sub (ws' := [(h0, .inr (11, [.ref rz, .int 0, .int 0, .ref rf, .ref rl, .ref rwx, .ref rb, .int 0, .ref rwd, .ref rk, .ref ra, .int 0, .int 32, .int 0, .ref rs, .ref rt, .int 0, .int 0, .ref rwr, .ref rp, .ref rsi, .ref rke, .ref rkc, .ref rik]))]) [0] rfl
          have hDc := hD.sub (ws' := [(h0, .inr (11, [.ref rz, .int 0, .int 0, .ref rf, .ref rl, .ref rwx, .ref rb, .int 0, .ref rwd, .ref rk, .ref ra, .int 0, .int 32, .int 0, .ref rs, .ref rt, .int 0, .int 0, .ref rwr, .ref rp, .ref rsi, .ref rke, .ref rkc, .ref rik]))]) [0] (by decide) rfl
          refine yy_calli [0] [1, 2, 3, 4, 5] (wr := [(rz, .inl (cyI, 2490, .inl (yz 0 0))), (rf, .inl (cyI, 8, .inl (fun _ => 0))), (rl, .inl (cyI, 8, .inl (fun _ => 0))), (rwx, .inl (cyI, 8, .inl (fun _ => 0))), (rb, .inl (cyZ, 8, .inl (fun _ => 0)))]) (va_runV (As := [.int (-2)]) (rest := []) ⟨hx, hb, hml, hown, hts⟩ (r_refused l dC dI cyI cyZ cyO H.size h0 rz 0 0 rf rl rwx rb 0 rwd rk ra 0 32 0 rs rt 0 0 rwr rp rsi rke rkc rik (-2) ) (cwV 1 hts gX11_slave_X11_refused rfl rfl rfl (by decide +kernel) ⟨Nat.le_of_ble_eq_true rfl, Nat.le_of_ble_eq_true rfl⟩) (yPreV hK hPc hDc (ci := 11) (q0 := 0) rfl rfl) rfl rfl hl.1 rfl (lv_room (Nat.le_of_ble_eq_true rfl)) dX11_slave_34 ⟨Nat.le_of_ble_eq_true rfl, Nat.le_of_ble_eq_true rfl⟩) hP hD hS hA rfl rfl (by decide) (by decide) (fun r_16 u_15 H locs hw hP hD hS => ?_)
          have hP : va_P (dC, dI) vwCl [(rz, .inl (cyI, 2490, .inl (yz 0 0))), (rf, .inl (cyI, 8, .inl (fun _ => 0))), (rl, .inl (cyI, 8, .inl (fun _ => 0))), (rwx, .inl (cyI, 8, .inl (fun _ => 0))), (rb, .inl (cyZ, 8, .inl (fun _ => 0))), (h0, .inr (11, [.ref rz, .int (-2), .int 0, .ref rf, .ref rl, .ref rwx, .ref rb, .int 0, .ref rwd, .ref rk, .ref ra, .int 0, .int 32, .int 0, .ref rs, .ref rt, .int 0, .int 0, .ref rwr, .ref rp, .ref rsi, .ref rke, .ref rkc, .ref rik]))] H := hP
          have hD : va_D A [(rz, .inl (cyI, 2490, .inl (yz 0 0))), (rf, .inl (cyI, 8, .inl (fun _ => 0))), (rl, .inl (cyI, 8, .inl (fun _ => 0))), (rwx, .inl (cyI, 8, .inl (fun _ => 0))), (rb, .inl (cyZ, 8, .inl (fun _ => 0))), (h0, .inr (11, [.ref rz, .int (-2), .int 0, .ref rf, .ref rl, .ref rwx, .ref rb, .int 0, .ref rwd, .ref rk, .ref ra, .int 0, .int 32, .int 0, .ref rs, .ref rt, .int 0, .int 0, .ref rwr, .ref rp, .ref rsi, .ref rke, .ref rkc, .ref rik]))] := hD
          refine W.widen (k := 0) (n := 0) (Nat.le_of_ble_eq_true rfl) (Nat.le_of_ble_eq_true rfl) ?_
          have hw : r_16 = (-2) := hw.trans (by decide)
          subst hw
          refine W.widen (k := 0) (n := 0) (Nat.le_of_ble_eq_true rfl) (Nat.le_of_ble_eq_true rfl) ?_
          exact yy_iret (v := (-2)) () hx hb hr hlk rfl hsz hAe hK hP hD hS [] rfl rfl (by decide) (by (try simp only [zB0, Decidable.not_not] at c4 c11 c16 c28); (try simp only [isW, zB, ← Int32.not_lt, sp_slave, sp_register, sp_depth, sp_limit, sp_transfer, sp_clock, sp_finish, sp_turn, sp_wire, sp_findings, sp_bridge, sp_keep, sp_told, ylc1, ylc2, y14, y2] at c4 c11 c16 c28 ⊢); (try simp only [Decidable.not_not] at c4 c11 c16 c28 ⊢); (try simp only [c4, c11, c16, c28, not_true_eq_false, not_false_eq_true, false_and, and_false, true_and, and_true, and_self, or_true, true_or, or_false, false_or, or_self, ↓reduceIte]); (try simp only [← and_assoc]); (try simp only [c4, c11, c16, c28, not_true_eq_false, not_false_eq_true, false_and, and_false, true_and, and_true, and_self, or_true, true_or, or_false, false_or, or_self, ↓reduceIte]); (try decide)) dX11_slave_37
set_option maxHeartbeats 4000000 in
set_option maxRecDepth 100000 in
theorem rp_X11_slaveOf_149 (l : Launch) (dC : Nat → ClassId) (dI : Nat → Nat → Nat) (cyI cyZ cyO : ClassId) (sz : Nat) (a0 : Nat) (v0 : Int32) (a1 : Nat) (a2 : Nat) (a3 : Nat) (a4 : Nat) (a5 : Nat) (a6 : Nat) (a7 : Nat) (a8 : Nat) (a9 : Nat) (a10 : Nat) (a11 : Nat) (a12 : Nat) (a13 : Nat) (a14 : Nat) (a15 : Nat) (a16 : Nat)  : Met l yX11_slaveOf wsX11_slaveOf ({ frames := 0, cells := 0, slots := 0, locals := 0 }) (yPre [.ref a0, .int v0] (dC, dI) [(a0, .inr (11, [.ref a1, .int 0, .int 0, .ref a2, .ref a3, .ref a4, .ref a5, .int 0, .ref a6, .ref a7, .ref a8, .int 0, .int 32, .int 0, .ref a9, .ref a10, .int 0, .int 0, .ref a11, .ref a12, .ref a13, .ref a14, .ref a15, .ref a16]))] (yT cyI cyZ cyO) sz) (yQi (fun (r : Int32) (u : Unit) => r = (-6)) (dC, dI) [(a0, .inr (11, [.ref a1, .int 0, .int 0, .ref a2, .ref a3, .ref a4, .ref a5, .int 0, .ref a6, .ref a7, .ref a8, .int 0, .int 32, .int 0, .ref a9, .ref a10, .int 0, .int 0, .ref a11, .ref a12, .ref a13, .ref a14, .ref a15, .ref a16]))] (yT cyI cyZ cyO) sz (fun _ => [(a0, .inr (11, [.ref a1, .int 0, .int 0, .ref a2, .ref a3, .ref a4, .ref a5, .int 0, .ref a6, .ref a7, .ref a8, .int 0, .int 32, .int 0, .ref a9, .ref a10, .int 0, .int 0, .ref a11, .ref a12, .ref a13, .ref a14, .ref a15, .ref a16]))])) 0 0 (va_A [(a0, .inr (11, [.ref a1, .int 0, .int 0, .ref a2, .ref a3, .ref a4, .ref a5, .int 0, .ref a6, .ref a7, .ref a8, .int 0, .int 32, .int 0, .ref a9, .ref a10, .int 0, .int 0, .ref a11, .ref a12, .ref a13, .ref a14, .ref a15, .ref a16]))] sz) := by
  refine yMet (cc := cX11_slaveOf) (maxL := 3) (ret := (some .int)) (by decide) rfl (Nat.le_of_ble_eq_true rfl) ?_
  intro p e s m below meth c A hx hb hr hlk hml hts hown hnm hsz hAe hP hK hD hA hS ls hl
  have hl : lv_has ls 3 [(0, .ref a0), (1, .int v0)] := hl
  have hf88 := hts (.fieldLink RX11 88 "BusBridgeModel" "slaves" "I") (by decide +kernel)
  have hnX11 : ∀ w ∈ wsX110, w ∈ wsX11_slaveOf := by decide +kernel
  refine lv_iconst (v := 0) hx hb dX11_slaveOf_0 (by decide) ?_
  refine lv_istore_n (lv' := [(2, .int 0), (0, .ref a0), (1, .int v0)]) hx hb dX11_slaveOf_1 rfl hl (by decide) rfl (fun ls hl => ?_)
  refine lv_iload_n hx hb dX11_slaveOf_2 rfl (lv_at hl 0 rfl) ?_
  refine lv_aload_n hx hb dX11_slaveOf_3 rfl (lv_at hl 1 rfl) ?_
  refine va_get (D := (dC, dI)) (ci := 11) (v := .int 0) (C := RX11) (T := TX11) (N := 24) hx hb hts hnX11 hown hK hP 0 rfl rfl 2 (by decide) hf88 (fun _ h9 => h9) rfl dX11_slaveOf_4 ?_
  refine lv_icmp_ge (tgt := 27) hx hb dX11_slaveOf_7 (by decide) (fun _ => ?_) (fun c => absurd (by decide) c)
  refine lv_bipush (v := (-6)) hx hb dX11_slaveOf_27 (by decide) ?_
  refine W.widen (k := 0) (n := 0) (Nat.le_of_ble_eq_true rfl) (Nat.le_of_ble_eq_true rfl) ?_
  exact yy_iret (v := (-6)) () hx hb hr hlk rfl hsz hAe hK hP hD hS [0] rfl rfl (by decide) (rfl) dX11_slaveOf_29
set_option maxHeartbeats 4000000 in
set_option maxRecDepth 100000 in
theorem r_register (l : Launch) (dC : Nat → ClassId) (dI : Nat → Nat → Nat) (cyI cyZ cyO : ClassId) (sz : Nat) (h0 : Nat) (rz : Nat) (rf : Nat) (rl : Nat) (rwx : Nat) (rb : Nat) (rwd : Nat) (rk : Nat) (ra : Nat) (rs : Nat) (rt : Nat) (rwr : Nat) (rp : Nat) (rsi : Nat) (rke : Nat) (rkc : Nat) (rik : Nat) (w : Int32) (k : Int32) (v : Int32)  : Met l yX11_register wsX11_register ({ frames := 2, cells := 0, slots := 0, locals := 45 }) (yPre [.ref h0, .int w, .int k, .int v] (dC, dI) [(h0, .inr (11, [.ref rz, .int 0, .int 0, .ref rf, .ref rl, .ref rwx, .ref rb, .int 0, .ref rwd, .ref rk, .ref ra, .int 0, .int 32, .int 0, .ref rs, .ref rt, .int 0, .int 0, .ref rwr, .ref rp, .ref rsi, .ref rke, .ref rkc, .ref rik])), (rz, .inl (cyI, 2490, .inl (yz 0 0)))] (yT cyI cyZ cyO) sz) (yQi (fun (r : Int32) (u : Unit) => r = (sp_register w k v)) (dC, dI) [(h0, .inr (11, [.ref rz, .int 0, .int 0, .ref rf, .ref rl, .ref rwx, .ref rb, .int 0, .ref rwd, .ref rk, .ref ra, .int 0, .int 32, .int 0, .ref rs, .ref rt, .int 0, .int 0, .ref rwr, .ref rp, .ref rsi, .ref rke, .ref rkc, .ref rik])), (rz, .inl (cyI, 2490, .inl (yz 0 0)))] (yT cyI cyZ cyO) sz (fun _ => [])) 0 0 (va_A [(h0, .inr (11, [.ref rz, .int 0, .int 0, .ref rf, .ref rl, .ref rwx, .ref rb, .int 0, .ref rwd, .ref rk, .ref ra, .int 0, .int 32, .int 0, .ref rs, .ref rt, .int 0, .int 0, .ref rwr, .ref rp, .ref rsi, .ref rke, .ref rkc, .ref rik])), (rz, .inl (cyI, 2490, .inl (yz 0 0)))] sz) := by
  refine yMet (cc := cX11_register) (maxL := 4) (ret := (some .int)) (by decide) rfl (Nat.le_of_ble_eq_true rfl) ?_
  intro p e s m below meth c A hx hb hr hlk hml hts hown hnm hsz hAe hP hK hD hA hS ls hl
  have hl : lv_has ls 4 [(0, .ref h0), (1, .int w), (2, .int k), (3, .int v)] := hl
  have hf69 := hts (.fieldLink RX11 69 "BusBridgeModel" "registers" "I") (by decide +kernel)
  have hf7 := hts (.fieldLink RX11 7 "BusBridgeModel" "z" "[I") (by decide +kernel)
  have hl101 := hts (.constantLong RX11 101 7) (by decide +kernel)
  have hnX11 : ∀ w ∈ wsX110, w ∈ wsX11_register := by decide +kernel
  refine lv_iload_n hx hb dX11_register_0 rfl (lv_at hl 1 rfl) ?_
  have hPc := hP.sub (ws' := []) [] rfl
  have hDc := hD.sub (ws' := []) [] (by decide) rfl
  refine yy_calli [] [0, 1] (wr := [(h0, .inr (11, [.ref rz, .int 0, .int 0, .ref rf, .ref rl, .ref rwx, .ref rb, .int 0, .ref rwd, .ref rk, .ref ra, .int 0, .int 32, .int 0, .ref rs, .ref rt, .int 0, .int 0, .ref rwr, .ref rp, .ref rsi, .ref rke, .ref rkc, .ref rik])), (rz, .inl (cyI, 2490, .inl (yz 0 0)))]) (va_runS (As := [.int w]) (rest := []) ⟨hx, hb, hml, hown, hts⟩ (r_isWord l dC dI cyI cyZ cyO s.heap.size w ) (va_cwS 1 hts gX11_register_X11_isWord rfl rfl rfl (by decide +kernel) ⟨Nat.le_of_ble_eq_true rfl, Nat.le_of_ble_eq_true rfl⟩) (yPreS hK hPc hDc) rfl rfl hl.1 rfl (lv_room (Nat.le_of_ble_eq_true rfl)) dX11_register_1 ⟨Nat.le_of_ble_eq_true rfl, Nat.le_of_ble_eq_true rfl⟩) hP hD hS hA rfl rfl (by decide) (by decide) (fun r_2 u_1 H locs hw hP hD hS => ?_)
  have hP : va_P (dC, dI) vwCl [(h0, .inr (11, [.ref rz, .int 0, .int 0, .ref rf, .ref rl, .ref rwx, .ref rb, .int 0, .ref rwd, .ref rk, .ref ra, .int 0, .int 32, .int 0, .ref rs, .ref rt, .int 0, .int 0, .ref rwr, .ref rp, .ref rsi, .ref rke, .ref rkc, .ref rik])), (rz, .inl (cyI, 2490, .inl (yz 0 0)))] H := hP
  have hD : va_D A [(h0, .inr (11, [.ref rz, .int 0, .int 0, .ref rf, .ref rl, .ref rwx, .ref rb, .int 0, .ref rwd, .ref rk, .ref ra, .int 0, .int 32, .int 0, .ref rs, .ref rt, .int 0, .int 0, .ref rwr, .ref rp, .ref rsi, .ref rke, .ref rkc, .ref rik])), (rz, .inl (cyI, 2490, .inl (yz 0 0)))] := hD
  refine W.widen (k := 0) (n := 0) (Nat.le_of_ble_eq_true rfl) (Nat.le_of_ble_eq_true rfl) ?_
  have hw : r_2 = (zB (isW w)) := hw
  subst hw
  refine lv_if_eq (tgt := 35) hx hb dX11_register_4 (by decide) (fun c4 => ?_) (fun c4 => ?_)
  · refine lv_aload_n hx hb dX11_register_35 rfl (lv_at hl 0 rfl) ?_
    refine lv_bipush (v := (-2)) hx hb dX11_register_36 (by decide) ?_
    have hPc := hP.sub (ws' := [(h0, .inr (11, [.ref rz, .int 0, .int 0, .ref rf, .ref rl, .ref rwx, .ref rb, .int 0, .ref rwd, .ref rk, .ref ra, .int 0, .int 32, .int 0, .ref rs, .ref rt, .int 0, .int 0, .ref rwr, .ref rp, .ref rsi, .ref rke, .ref rkc, .ref rik]))]) [0] rfl
    have hDc := hD.sub (ws' := [(h0, .inr (11, [.ref rz, .int 0, .int 0, .ref rf, .ref rl, .ref rwx, .ref rb, .int 0, .ref rwd, .ref rk, .ref ra, .int 0, .int 32, .int 0, .ref rs, .ref rt, .int 0, .int 0, .ref rwr, .ref rp, .ref rsi, .ref rke, .ref rkc, .ref rik]))]) [0] (by decide) rfl
    refine yy_calli [0] [1] (wr := [(rz, .inl (cyI, 2490, .inl (yz 0 0)))]) (va_runV (As := [.int (-2)]) (rest := []) ⟨hx, hb, hml, hown, hts⟩ (r_refused l dC dI cyI cyZ cyO H.size h0 rz 0 0 rf rl rwx rb 0 rwd rk ra 0 32 0 rs rt 0 0 rwr rp rsi rke rkc rik (-2) ) (cwV 1 hts gX11_register_X11_refused rfl rfl rfl (by decide +kernel) ⟨Nat.le_of_ble_eq_true rfl, Nat.le_of_ble_eq_true rfl⟩) (yPreV hK hPc hDc (ci := 11) (q0 := 0) rfl rfl) rfl rfl hl.1 rfl (lv_room (Nat.le_of_ble_eq_true rfl)) dX11_register_38 ⟨Nat.le_of_ble_eq_true rfl, Nat.le_of_ble_eq_true rfl⟩) hP hD hS hA rfl rfl (by decide) (by decide) (fun r_4 u_3 H locs hw hP hD hS => ?_)
    have hP : va_P (dC, dI) vwCl [(rz, .inl (cyI, 2490, .inl (yz 0 0))), (h0, .inr (11, [.ref rz, .int (-2), .int 0, .ref rf, .ref rl, .ref rwx, .ref rb, .int 0, .ref rwd, .ref rk, .ref ra, .int 0, .int 32, .int 0, .ref rs, .ref rt, .int 0, .int 0, .ref rwr, .ref rp, .ref rsi, .ref rke, .ref rkc, .ref rik]))] H := hP
    have hD : va_D A [(rz, .inl (cyI, 2490, .inl (yz 0 0))), (h0, .inr (11, [.ref rz, .int (-2), .int 0, .ref rf, .ref rl, .ref rwx, .ref rb, .int 0, .ref rwd, .ref rk, .ref ra, .int 0, .int 32, .int 0, .ref rs, .ref rt, .int 0, .int 0, .ref rwr, .ref rp, .ref rsi, .ref rke, .ref rkc, .ref rik]))] := hD
    refine W.widen (k := 0) (n := 0) (Nat.le_of_ble_eq_true rfl) (Nat.le_of_ble_eq_true rfl) ?_
    have hw : r_4 = (-2) := hw.trans (by decide)
    subst hw
    refine W.widen (k := 0) (n := 0) (Nat.le_of_ble_eq_true rfl) (Nat.le_of_ble_eq_true rfl) ?_
    exact yy_iret (v := (-2)) () hx hb hr hlk rfl hsz hAe hK hP hD hS [] rfl rfl (by decide) (by (try simp only [zB0, Decidable.not_not] at c4); (try simp only [isW, zB, ← Int32.not_lt, sp_slave, sp_register, sp_depth, sp_limit, sp_transfer, sp_clock, sp_finish, sp_turn, sp_wire, sp_findings, sp_bridge, sp_keep, sp_told, ylc1, ylc2, y14, y2, yk01] at c4 ⊢); (try simp only [Decidable.not_not] at c4 ⊢); (try simp only [c4, not_true_eq_false, not_false_eq_true, false_and, and_false, true_and, and_true, and_self, or_true, true_or, or_false, false_or, or_self, ↓reduceIte]); (try simp only [← and_assoc]); (try simp only [c4, not_true_eq_false, not_false_eq_true, false_and, and_false, true_and, and_true, and_self, or_true, true_or, or_false, false_or, or_self, ↓reduceIte]); (try decide)) dX11_register_41
  · refine lv_iload_n hx hb dX11_register_7 rfl (lv_at hl 2 rfl) ?_
    refine lv_i2l hx hb dX11_register_8 rfl ?_
    refine lv_lconst (v := (0 : Int32).toInt64) hx hb dX11_register_9 (by decide) ?_
    refine lv_ldc2 (v := 7) hx hb hown hl101 dX11_register_10 ?_
    refine yy_long (v := (7 : Int32).toInt64) (by decide) ?_
    have hPc := hP.sub (ws' := []) [] rfl
    have hDc := hD.sub (ws' := []) [] (by decide) rfl
    refine yy_calli [] [0, 1] (wr := [(h0, .inr (11, [.ref rz, .int 0, .int 0, .ref rf, .ref rl, .ref rwx, .ref rb, .int 0, .ref rwd, .ref rk, .ref ra, .int 0, .int 32, .int 0, .ref rs, .ref rt, .int 0, .int 0, .ref rwr, .ref rp, .ref rsi, .ref rke, .ref rkc, .ref rik])), (rz, .inl (cyI, 2490, .inl (yz 0 0)))]) (va_runS (As := [.long (k : Int32).toInt64, .long (0 : Int32).toInt64, .long (7 : Int32).toInt64]) (rest := []) ⟨hx, hb, hml, hown, hts⟩ (r_in l dC dI cyI cyZ cyO H.size k 0 7 ) (va_cwS 3 hts gX11_register_X11_in rfl rfl rfl (by decide +kernel) ⟨Nat.le_of_ble_eq_true rfl, Nat.le_of_ble_eq_true rfl⟩) (yPreS hK hPc hDc) rfl rfl hl.1 rfl (lv_room (Nat.le_of_ble_eq_true rfl)) dX11_register_13 ⟨Nat.le_of_ble_eq_true rfl, Nat.le_of_ble_eq_true rfl⟩) hP hD hS hA rfl rfl (by decide) (by decide) (fun r_6 u_5 H locs hw hP hD hS => ?_)
    have hP : va_P (dC, dI) vwCl [(h0, .inr (11, [.ref rz, .int 0, .int 0, .ref rf, .ref rl, .ref rwx, .ref rb, .int 0, .ref rwd, .ref rk, .ref ra, .int 0, .int 32, .int 0, .ref rs, .ref rt, .int 0, .int 0, .ref rwr, .ref rp, .ref rsi, .ref rke, .ref rkc, .ref rik])), (rz, .inl (cyI, 2490, .inl (yz 0 0)))] H := hP
    have hD : va_D A [(h0, .inr (11, [.ref rz, .int 0, .int 0, .ref rf, .ref rl, .ref rwx, .ref rb, .int 0, .ref rwd, .ref rk, .ref ra, .int 0, .int 32, .int 0, .ref rs, .ref rt, .int 0, .int 0, .ref rwr, .ref rp, .ref rsi, .ref rke, .ref rkc, .ref rik])), (rz, .inl (cyI, 2490, .inl (yz 0 0)))] := hD
    refine W.widen (k := 0) (n := 0) (Nat.le_of_ble_eq_true rfl) (Nat.le_of_ble_eq_true rfl) ?_
    have hw : r_6 = (zB (0 ≤ k ∧ k ≤ 7)) := hw
    subst hw
    refine lv_if_eq (tgt := 35) hx hb dX11_register_16 (by decide) (fun c16 => ?_) (fun c16 => ?_)
    · refine lv_aload_n hx hb dX11_register_35 rfl (lv_at hl 0 rfl) ?_
      refine lv_bipush (v := (-2)) hx hb dX11_register_36 (by decide) ?_
      have hPc := hP.sub (ws' := [(h0, .inr (11, [.ref rz, .int 0, .int 0, .ref rf, .ref rl, .ref rwx, .ref rb, .int 0, .ref rwd, .ref rk, .ref ra, .int 0, .int 32, .int 0, .ref rs, .ref rt, .int 0, .int 0, .ref rwr, .ref rp, .ref rsi, .ref rke, .ref rkc, .ref rik]))]) [0] rfl
      have hDc := hD.sub (ws' := [(h0, .inr (11, [.ref rz, .int 0, .int 0, .ref rf, .ref rl, .ref rwx, .ref rb, .int 0, .ref rwd, .ref rk, .ref ra, .int 0, .int 32, .int 0, .ref rs, .ref rt, .int 0, .int 0, .ref rwr, .ref rp, .ref rsi, .ref rke, .ref rkc, .ref rik]))]) [0] (by decide) rfl
      refine yy_calli [0] [1] (wr := [(rz, .inl (cyI, 2490, .inl (yz 0 0)))]) (va_runV (As := [.int (-2)]) (rest := []) ⟨hx, hb, hml, hown, hts⟩ (r_refused l dC dI cyI cyZ cyO H.size h0 rz 0 0 rf rl rwx rb 0 rwd rk ra 0 32 0 rs rt 0 0 rwr rp rsi rke rkc rik (-2) ) (cwV 1 hts gX11_register_X11_refused rfl rfl rfl (by decide +kernel) ⟨Nat.le_of_ble_eq_true rfl, Nat.le_of_ble_eq_true rfl⟩) (yPreV hK hPc hDc (ci := 11) (q0 := 0) rfl rfl) rfl rfl hl.1 rfl (lv_room (Nat.le_of_ble_eq_true rfl)) dX11_register_38 ⟨Nat.le_of_ble_eq_true rfl, Nat.le_of_ble_eq_true rfl⟩) hP hD hS hA rfl rfl (by decide) (by decide) (fun r_8 u_7 H locs hw hP hD hS => ?_)
      have hP : va_P (dC, dI) vwCl [(rz, .inl (cyI, 2490, .inl (yz 0 0))), (h0, .inr (11, [.ref rz, .int (-2), .int 0, .ref rf, .ref rl, .ref rwx, .ref rb, .int 0, .ref rwd, .ref rk, .ref ra, .int 0, .int 32, .int 0, .ref rs, .ref rt, .int 0, .int 0, .ref rwr, .ref rp, .ref rsi, .ref rke, .ref rkc, .ref rik]))] H := hP
      have hD : va_D A [(rz, .inl (cyI, 2490, .inl (yz 0 0))), (h0, .inr (11, [.ref rz, .int (-2), .int 0, .ref rf, .ref rl, .ref rwx, .ref rb, .int 0, .ref rwd, .ref rk, .ref ra, .int 0, .int 32, .int 0, .ref rs, .ref rt, .int 0, .int 0, .ref rwr, .ref rp, .ref rsi, .ref rke, .ref rkc, .ref rik]))] := hD
      refine W.widen (k := 0) (n := 0) (Nat.le_of_ble_eq_true rfl) (Nat.le_of_ble_eq_true rfl) ?_
      have hw : r_8 = (-2) := hw.trans (by decide)
      subst hw
      refine W.widen (k := 0) (n := 0) (Nat.le_of_ble_eq_true rfl) (Nat.le_of_ble_eq_true rfl) ?_
      exact yy_iret (v := (-2)) () hx hb hr hlk rfl hsz hAe hK hP hD hS [] rfl rfl (by decide) (by (try simp only [zB0, Decidable.not_not] at c4 c16); (try simp only [isW, zB, ← Int32.not_lt, sp_slave, sp_register, sp_depth, sp_limit, sp_transfer, sp_clock, sp_finish, sp_turn, sp_wire, sp_findings, sp_bridge, sp_keep, sp_told, ylc1, ylc2, y14, y2, yk01] at c4 c16 ⊢); (try simp only [Decidable.not_not] at c4 c16 ⊢); (try simp only [c4, c16, not_true_eq_false, not_false_eq_true, false_and, and_false, true_and, and_true, and_self, or_true, true_or, or_false, false_or, or_self, ↓reduceIte]); (try simp only [← and_assoc]); (try simp only [c4, c16, not_true_eq_false, not_false_eq_true, false_and, and_false, true_and, and_true, and_self, or_true, true_or, or_false, false_or, or_self, ↓reduceIte]); (try decide)) dX11_register_41
    · refine lv_iload_n hx hb dX11_register_19 rfl (lv_at hl 2 rfl) ?_
      refine lv_bipush (v := 7) hx hb dX11_register_20 (by decide) ?_
      refine lv_icmp_ne (tgt := 42) hx hb dX11_register_22 (by decide) (fun c22 => ?_) (fun c22 => ?_)
      · refine lv_aload_n hx hb dX11_register_42 rfl (lv_at hl 0 rfl) ?_
        refine va_get (D := (dC, dI)) (ci := 11) (v := .ref rz) (C := RX11) (T := TX11) (N := 24) hx hb hts hnX11 hown hK hP 0 rfl rfl 0 (by decide) hf7 (fun _ h9 => h9) rfl dX11_register_43 ?_
        refine lv_sipush (v := 179) hx hb dX11_register_46 (by decide) ?_
        refine yy_iald (v := 0) hx hb hK hP 1 0 rfl rfl (yin (by decide)) dX11_register_49 rfl ?_
        refine lv_if_eq (tgt := 60) hx hb dX11_register_50 (by decide) (fun _ => ?_) (fun c => absurd (by decide) c)
        refine lv_aload_n hx hb dX11_register_60 rfl (lv_at hl 0 rfl) ?_
        refine va_get (D := (dC, dI)) (ci := 11) (v := .int 0) (C := RX11) (T := TX11) (N := 24) hx hb hts hnX11 hown hK hP 0 rfl rfl 7 (by decide) hf69 (fun _ h9 => h9) rfl dX11_register_61 ?_
        refine lv_bipush (v := 48) hx hb dX11_register_64 (by decide) ?_
        refine lv_icmp_ne (tgt := 76) hx hb dX11_register_66 (by decide) (fun _ => ?_) (fun c => absurd c (by decide))
        refine lv_aload_n hx hb dX11_register_76 rfl (lv_at hl 0 rfl) ?_
        refine lv_iload_n hx hb dX11_register_77 rfl (lv_at hl 1 rfl) ?_
        have hPc := hP.sub (ws' := [(h0, .inr (11, [.ref rz, .int 0, .int 0, .ref rf, .ref rl, .ref rwx, .ref rb, .int 0, .ref rwd, .ref rk, .ref ra, .int 0, .int 32, .int 0, .ref rs, .ref rt, .int 0, .int 0, .ref rwr, .ref rp, .ref rsi, .ref rke, .ref rkc, .ref rik]))]) [0] rfl
        have hDc := hD.sub (ws' := [(h0, .inr (11, [.ref rz, .int 0, .int 0, .ref rf, .ref rl, .ref rwx, .ref rb, .int 0, .ref rwd, .ref rk, .ref ra, .int 0, .int 32, .int 0, .ref rs, .ref rt, .int 0, .int 0, .ref rwr, .ref rp, .ref rsi, .ref rke, .ref rkc, .ref rik]))]) [0] (by decide) rfl
        refine yy_calli [0] [1] (wr := [(rz, .inl (cyI, 2490, .inl (yz 0 0)))]) (va_runV (As := [.int w]) (rest := []) ⟨hx, hb, hml, hown, hts⟩ (rp_X11_slaveOf_149 l dC dI cyI cyZ cyO H.size h0 w rz rf rl rwx rb rwd rk ra rs rt rwr rp rsi rke rkc rik ) (cwV 1 hts gX11_register_X11_slaveOf rfl rfl rfl (by decide +kernel) ⟨Nat.le_of_ble_eq_true rfl, Nat.le_of_ble_eq_true rfl⟩) (yPreV hK hPc hDc (ci := 11) (q0 := 0) rfl rfl) rfl rfl hl.1 rfl (lv_room (Nat.le_of_ble_eq_true rfl)) dX11_register_78 ⟨Nat.le_of_ble_eq_true rfl, Nat.le_of_ble_eq_true rfl⟩) hP hD hS hA rfl rfl (by decide) (by decide) (fun r_10 u_9 H locs hw hP hD hS => ?_)
        have hP : va_P (dC, dI) vwCl [(rz, .inl (cyI, 2490, .inl (yz 0 0))), (h0, .inr (11, [.ref rz, .int 0, .int 0, .ref rf, .ref rl, .ref rwx, .ref rb, .int 0, .ref rwd, .ref rk, .ref ra, .int 0, .int 32, .int 0, .ref rs, .ref rt, .int 0, .int 0, .ref rwr, .ref rp, .ref rsi, .ref rke, .ref rkc, .ref rik]))] H := hP
        have hD : va_D A [(rz, .inl (cyI, 2490, .inl (yz 0 0))), (h0, .inr (11, [.ref rz, .int 0, .int 0, .ref rf, .ref rl, .ref rwx, .ref rb, .int 0, .ref rwd, .ref rk, .ref ra, .int 0, .int 32, .int 0, .ref rs, .ref rt, .int 0, .int 0, .ref rwr, .ref rp, .ref rsi, .ref rke, .ref rkc, .ref rik]))] := hD
        refine W.widen (k := 0) (n := 0) (Nat.le_of_ble_eq_true rfl) (Nat.le_of_ble_eq_true rfl) ?_
        have hw : r_10 = (-6) := hw
        subst hw
        refine lv_if_lt (tgt := 92) hx hb dX11_register_81 (by decide) (fun _ => ?_) (fun c => absurd (by decide) c)
        refine lv_aload_n hx hb dX11_register_92 rfl (lv_at hl 0 rfl) ?_
        refine lv_bipush (v := (-5)) hx hb dX11_register_93 (by decide) ?_
        have hPc := hP.sub (ws' := [(h0, .inr (11, [.ref rz, .int 0, .int 0, .ref rf, .ref rl, .ref rwx, .ref rb, .int 0, .ref rwd, .ref rk, .ref ra, .int 0, .int 32, .int 0, .ref rs, .ref rt, .int 0, .int 0, .ref rwr, .ref rp, .ref rsi, .ref rke, .ref rkc, .ref rik]))]) [1] rfl
        have hDc := hD.sub (ws' := [(h0, .inr (11, [.ref rz, .int 0, .int 0, .ref rf, .ref rl, .ref rwx, .ref rb, .int 0, .ref rwd, .ref rk, .ref ra, .int 0, .int 32, .int 0, .ref rs, .ref rt, .int 0, .int 0, .ref rwr, .ref rp, .ref rsi, .ref rke, .ref rkc, .ref rik]))]) [1] (by decide) rfl
        refine yy_calli [1] [0] (wr := [(rz, .inl (cyI, 2490, .inl (yz 0 0)))]) (va_runV (As := [.int (-5)]) (rest := []) ⟨hx, hb, hml, hown, hts⟩ (r_refused l dC dI cyI cyZ cyO H.size h0 rz 0 0 rf rl rwx rb 0 rwd rk ra 0 32 0 rs rt 0 0 rwr rp rsi rke rkc rik (-5) ) (cwV 1 hts gX11_register_X11_refused rfl rfl rfl (by decide +kernel) ⟨Nat.le_of_ble_eq_true rfl, Nat.le_of_ble_eq_true rfl⟩) (yPreV hK hPc hDc (ci := 11) (q0 := 0) rfl rfl) rfl rfl hl.1 rfl (lv_room (Nat.le_of_ble_eq_true rfl)) dX11_register_95 ⟨Nat.le_of_ble_eq_true rfl, Nat.le_of_ble_eq_true rfl⟩) hP hD hS hA rfl rfl (by decide) (by decide) (fun r_12 u_11 H locs hw hP hD hS => ?_)
        have hP : va_P (dC, dI) vwCl [(rz, .inl (cyI, 2490, .inl (yz 0 0))), (h0, .inr (11, [.ref rz, .int (-5), .int 0, .ref rf, .ref rl, .ref rwx, .ref rb, .int 0, .ref rwd, .ref rk, .ref ra, .int 0, .int 32, .int 0, .ref rs, .ref rt, .int 0, .int 0, .ref rwr, .ref rp, .ref rsi, .ref rke, .ref rkc, .ref rik]))] H := hP
        have hD : va_D A [(rz, .inl (cyI, 2490, .inl (yz 0 0))), (h0, .inr (11, [.ref rz, .int (-5), .int 0, .ref rf, .ref rl, .ref rwx, .ref rb, .int 0, .ref rwd, .ref rk, .ref ra, .int 0, .int 32, .int 0, .ref rs, .ref rt, .int 0, .int 0, .ref rwr, .ref rp, .ref rsi, .ref rke, .ref rkc, .ref rik]))] := hD
        refine W.widen (k := 0) (n := 0) (Nat.le_of_ble_eq_true rfl) (Nat.le_of_ble_eq_true rfl) ?_
        have hw : r_12 = (-5) := hw.trans (by decide)
        subst hw
        refine W.widen (k := 0) (n := 0) (Nat.le_of_ble_eq_true rfl) (Nat.le_of_ble_eq_true rfl) ?_
        exact yy_iret (v := (-5)) () hx hb hr hlk rfl hsz hAe hK hP hD hS [] rfl rfl (by decide) (by (try simp only [zB0, Decidable.not_not] at c4 c16 c22); (try simp only [isW, zB, ← Int32.not_lt, sp_slave, sp_register, sp_depth, sp_limit, sp_transfer, sp_clock, sp_finish, sp_turn, sp_wire, sp_findings, sp_bridge, sp_keep, sp_told, ylc1, ylc2, y14, y2, yk01] at c4 c16 c22 ⊢); (try simp only [Decidable.not_not] at c4 c16 c22 ⊢); (try simp only [c4, c16, c22, not_true_eq_false, not_false_eq_true, false_and, and_false, true_and, and_true, and_self, or_true, true_or, or_false, false_or, or_self, ↓reduceIte]); (try simp only [← and_assoc]); (try simp only [c4, c16, c22, not_true_eq_false, not_false_eq_true, false_and, and_false, true_and, and_true, and_self, or_true, true_or, or_false, false_or, or_self, ↓reduceIte]); (try decide)) dX11_register_98
      · refine lv_iload_n hx hb dX11_register_25 rfl (lv_at hl 3 rfl) ?_
        refine lv_i2l hx hb dX11_register_26 rfl ?_
        refine lv_lconst (v := (0 : Int32).toInt64) hx hb dX11_register_27 (by decide) ?_
        refine lv_lconst (v := (1 : Int32).toInt64) hx hb dX11_register_28 (by decide) ?_
        have hPc := hP.sub (ws' := []) [] rfl
        have hDc := hD.sub (ws' := []) [] (by decide) rfl
        refine yy_calli [] [0, 1] (wr := [(h0, .inr (11, [.ref rz, .int 0, .int 0, .ref rf, .ref rl, .ref rwx, .ref rb, .int 0, .ref rwd, .ref rk, .ref ra, .int 0, .int 32, .int 0, .ref rs, .ref rt, .int 0, .int 0, .ref rwr, .ref rp, .ref rsi, .ref rke, .ref rkc, .ref rik])), (rz, .inl (cyI, 2490, .inl (yz 0 0)))]) (va_runS (As := [.long (v : Int32).toInt64, .long (0 : Int32).toInt64, .long (1 : Int32).toInt64]) (rest := []) ⟨hx, hb, hml, hown, hts⟩ (r_in l dC dI cyI cyZ cyO H.size v 0 1 ) (va_cwS 3 hts gX11_register_X11_in rfl rfl rfl (by decide +kernel) ⟨Nat.le_of_ble_eq_true rfl, Nat.le_of_ble_eq_true rfl⟩) (yPreS hK hPc hDc) rfl rfl hl.1 rfl (lv_room (Nat.le_of_ble_eq_true rfl)) dX11_register_29 ⟨Nat.le_of_ble_eq_true rfl, Nat.le_of_ble_eq_true rfl⟩) hP hD hS hA rfl rfl (by decide) (by decide) (fun r_14 u_13 H locs hw hP hD hS => ?_)
        have hP : va_P (dC, dI) vwCl [(h0, .inr (11, [.ref rz, .int 0, .int 0, .ref rf, .ref rl, .ref rwx, .ref rb, .int 0, .ref rwd, .ref rk, .ref ra, .int 0, .int 32, .int 0, .ref rs, .ref rt, .int 0, .int 0, .ref rwr, .ref rp, .ref rsi, .ref rke, .ref rkc, .ref rik])), (rz, .inl (cyI, 2490, .inl (yz 0 0)))] H := hP
        have hD : va_D A [(h0, .inr (11, [.ref rz, .int 0, .int 0, .ref rf, .ref rl, .ref rwx, .ref rb, .int 0, .ref rwd, .ref rk, .ref ra, .int 0, .int 32, .int 0, .ref rs, .ref rt, .int 0, .int 0, .ref rwr, .ref rp, .ref rsi, .ref rke, .ref rkc, .ref rik])), (rz, .inl (cyI, 2490, .inl (yz 0 0)))] := hD
        refine W.widen (k := 0) (n := 0) (Nat.le_of_ble_eq_true rfl) (Nat.le_of_ble_eq_true rfl) ?_
        have hw : r_14 = (zB (0 ≤ v ∧ v ≤ 1)) := hw
        subst hw
        refine lv_if_ne (tgt := 42) hx hb dX11_register_32 (by decide) (fun c32 => ?_) (fun c32 => ?_)
        · refine lv_aload_n hx hb dX11_register_42 rfl (lv_at hl 0 rfl) ?_
          refine va_get (D := (dC, dI)) (ci := 11) (v := .ref rz) (C := RX11) (T := TX11) (N := 24) hx hb hts hnX11 hown hK hP 0 rfl rfl 0 (by decide) hf7 (fun _ h9 => h9) rfl dX11_register_43 ?_
          refine lv_sipush (v := 179) hx hb dX11_register_46 (by decide) ?_
          refine yy_iald (v := 0) hx hb hK hP 1 0 rfl rfl (yin (by decide)) dX11_register_49 rfl ?_
          refine lv_if_eq (tgt := 60) hx hb dX11_register_50 (by decide) (fun _ => ?_) (fun c => absurd (by decide) c)
          refine lv_aload_n hx hb dX11_register_60 rfl (lv_at hl 0 rfl) ?_
          refine va_get (D := (dC, dI)) (ci := 11) (v := .int 0) (C := RX11) (T := TX11) (N := 24) hx hb hts hnX11 hown hK hP 0 rfl rfl 7 (by decide) hf69 (fun _ h9 => h9) rfl dX11_register_61 ?_
          refine lv_bipush (v := 48) hx hb dX11_register_64 (by decide) ?_
          refine lv_icmp_ne (tgt := 76) hx hb dX11_register_66 (by decide) (fun _ => ?_) (fun c => absurd c (by decide))
          refine lv_aload_n hx hb dX11_register_76 rfl (lv_at hl 0 rfl) ?_
          refine lv_iload_n hx hb dX11_register_77 rfl (lv_at hl 1 rfl) ?_
          have hPc := hP.sub (ws' := [(h0, .inr (11, [.ref rz, .int 0, .int 0, .ref rf, .ref rl, .ref rwx, .ref rb, .int 0, .ref rwd, .ref rk, .ref ra, .int 0, .int 32, .int 0, .ref rs, .ref rt, .int 0, .int 0, .ref rwr, .ref rp, .ref rsi, .ref rke, .ref rkc, .ref rik]))]) [0] rfl
          have hDc := hD.sub (ws' := [(h0, .inr (11, [.ref rz, .int 0, .int 0, .ref rf, .ref rl, .ref rwx, .ref rb, .int 0, .ref rwd, .ref rk, .ref ra, .int 0, .int 32, .int 0, .ref rs, .ref rt, .int 0, .int 0, .ref rwr, .ref rp, .ref rsi, .ref rke, .ref rkc, .ref rik]))]) [0] (by decide) rfl
          refine yy_calli [0] [1] (wr := [(rz, .inl (cyI, 2490, .inl (yz 0 0)))]) (va_runV (As := [.int w]) (rest := []) ⟨hx, hb, hml, hown, hts⟩ (rp_X11_slaveOf_149 l dC dI cyI cyZ cyO H.size h0 w rz rf rl rwx rb rwd rk ra rs rt rwr rp rsi rke rkc rik ) (cwV 1 hts gX11_register_X11_slaveOf rfl rfl rfl (by decide +kernel) ⟨Nat.le_of_ble_eq_true rfl, Nat.le_of_ble_eq_true rfl⟩) (yPreV hK hPc hDc (ci := 11) (q0 := 0) rfl rfl) rfl rfl hl.1 rfl (lv_room (Nat.le_of_ble_eq_true rfl)) dX11_register_78 ⟨Nat.le_of_ble_eq_true rfl, Nat.le_of_ble_eq_true rfl⟩) hP hD hS hA rfl rfl (by decide) (by decide) (fun r_16 u_15 H locs hw hP hD hS => ?_)
          have hP : va_P (dC, dI) vwCl [(rz, .inl (cyI, 2490, .inl (yz 0 0))), (h0, .inr (11, [.ref rz, .int 0, .int 0, .ref rf, .ref rl, .ref rwx, .ref rb, .int 0, .ref rwd, .ref rk, .ref ra, .int 0, .int 32, .int 0, .ref rs, .ref rt, .int 0, .int 0, .ref rwr, .ref rp, .ref rsi, .ref rke, .ref rkc, .ref rik]))] H := hP
          have hD : va_D A [(rz, .inl (cyI, 2490, .inl (yz 0 0))), (h0, .inr (11, [.ref rz, .int 0, .int 0, .ref rf, .ref rl, .ref rwx, .ref rb, .int 0, .ref rwd, .ref rk, .ref ra, .int 0, .int 32, .int 0, .ref rs, .ref rt, .int 0, .int 0, .ref rwr, .ref rp, .ref rsi, .ref rke, .ref rkc, .ref rik]))] := hD
          refine W.widen (k := 0) (n := 0) (Nat.le_of_ble_eq_true rfl) (Nat.le_of_ble_eq_true rfl) ?_
          have hw : r_16 = (-6) := hw
          subst hw
          refine lv_if_lt (tgt := 92) hx hb dX11_register_81 (by decide) (fun _ => ?_) (fun c => absurd (by decide) c)
          refine lv_aload_n hx hb dX11_register_92 rfl (lv_at hl 0 rfl) ?_
          refine lv_bipush (v := (-5)) hx hb dX11_register_93 (by decide) ?_
          have hPc := hP.sub (ws' := [(h0, .inr (11, [.ref rz, .int 0, .int 0, .ref rf, .ref rl, .ref rwx, .ref rb, .int 0, .ref rwd, .ref rk, .ref ra, .int 0, .int 32, .int 0, .ref rs, .ref rt, .int 0, .int 0, .ref rwr, .ref rp, .ref rsi, .ref rke, .ref rkc, .ref rik]))]) [1] rfl
          have hDc := hD.sub (ws' := [(h0, .inr (11, [.ref rz, .int 0, .int 0, .ref rf, .ref rl, .ref rwx, .ref rb, .int 0, .ref rwd, .ref rk, .ref ra, .int 0, .int 32, .int 0, .ref rs, .ref rt, .int 0, .int 0, .ref rwr, .ref rp, .ref rsi, .ref rke, .ref rkc, .ref rik]))]) [1] (by decide) rfl
          refine yy_calli [1] [0] (wr := [(rz, .inl (cyI, 2490, .inl (yz 0 0)))]) (va_runV (As := [.int (-5)]) (rest := []) ⟨hx, hb, hml, hown, hts⟩ (r_refused l dC dI cyI cyZ cyO H.size h0 rz 0 0 rf rl rwx rb 0 rwd rk ra 0 32 0 rs rt 0 0 rwr rp rsi rke rkc rik (-5) ) (cwV 1 hts gX11_register_X11_refused rfl rfl rfl (by decide +kernel) ⟨Nat.le_of_ble_eq_true rfl, Nat.le_of_ble_eq_true rfl⟩) (yPreV hK hPc hDc (ci := 11) (q0 := 0) rfl rfl) rfl rfl hl.1 rfl (lv_room (Nat.le_of_ble_eq_true rfl)) dX11_register_95 ⟨Nat.le_of_ble_eq_true rfl, Nat.le_of_ble_eq_true rfl⟩) hP hD hS hA rfl rfl (by decide) (by decide) (fun r_18 u_17 H locs hw hP hD hS => ?_)
          have hP : va_P (dC, dI) vwCl [(rz, .inl (cyI, 2490, .inl (yz 0 0))), (h0, .inr (11, [.ref rz, .int (-5), .int 0, .ref rf, .ref rl, .ref rwx, .ref rb, .int 0, .ref rwd, .ref rk, .ref ra, .int 0, .int 32, .int 0, .ref rs, .ref rt, .int 0, .int 0, .ref rwr, .ref rp, .ref rsi, .ref rke, .ref rkc, .ref rik]))] H := hP
          have hD : va_D A [(rz, .inl (cyI, 2490, .inl (yz 0 0))), (h0, .inr (11, [.ref rz, .int (-5), .int 0, .ref rf, .ref rl, .ref rwx, .ref rb, .int 0, .ref rwd, .ref rk, .ref ra, .int 0, .int 32, .int 0, .ref rs, .ref rt, .int 0, .int 0, .ref rwr, .ref rp, .ref rsi, .ref rke, .ref rkc, .ref rik]))] := hD
          refine W.widen (k := 0) (n := 0) (Nat.le_of_ble_eq_true rfl) (Nat.le_of_ble_eq_true rfl) ?_
          have hw : r_18 = (-5) := hw.trans (by decide)
          subst hw
          refine W.widen (k := 0) (n := 0) (Nat.le_of_ble_eq_true rfl) (Nat.le_of_ble_eq_true rfl) ?_
          exact yy_iret (v := (-5)) () hx hb hr hlk rfl hsz hAe hK hP hD hS [] rfl rfl (by decide) (by (try simp only [zB0, Decidable.not_not] at c4 c16 c22 c32); (try simp only [isW, zB, ← Int32.not_lt, sp_slave, sp_register, sp_depth, sp_limit, sp_transfer, sp_clock, sp_finish, sp_turn, sp_wire, sp_findings, sp_bridge, sp_keep, sp_told, ylc1, ylc2, y14, y2, yk01] at c4 c16 c22 c32 ⊢); (try simp only [Decidable.not_not] at c4 c16 c22 c32 ⊢); (try simp only [c4, c16, c22, c32, not_true_eq_false, not_false_eq_true, false_and, and_false, true_and, and_true, and_self, or_true, true_or, or_false, false_or, or_self, ↓reduceIte]); (try simp only [← and_assoc]); (try simp only [c4, c16, c22, c32, not_true_eq_false, not_false_eq_true, false_and, and_false, true_and, and_true, and_self, or_true, true_or, or_false, false_or, or_self, ↓reduceIte]); (try decide)) dX11_register_98
        · refine lv_aload_n hx hb dX11_register_35 rfl (lv_at hl 0 rfl) ?_
          refine lv_bipush (v := (-2)) hx hb dX11_register_36 (by decide) ?_
          have hPc := hP.sub (ws' := [(h0, .inr (11, [.ref rz, .int 0, .int 0, .ref rf, .ref rl, .ref rwx, .ref rb, .int 0, .ref rwd, .ref rk, .ref ra, .int 0, .int 32, .int 0, .ref rs, .ref rt, .int 0, .int 0, .ref rwr, .ref rp, .ref rsi, .ref rke, .ref rkc, .ref rik]))]) [0] rfl
          have hDc := hD.sub (ws' := [(h0, .inr (11, [.ref rz, .int 0, .int 0, .ref rf, .ref rl, .ref rwx, .ref rb, .int 0, .ref rwd, .ref rk, .ref ra, .int 0, .int 32, .int 0, .ref rs, .ref rt, .int 0, .int 0, .ref rwr, .ref rp, .ref rsi, .ref rke, .ref rkc, .ref rik]))]) [0] (by decide) rfl
          refine yy_calli [0] [1] (wr := [(rz, .inl (cyI, 2490, .inl (yz 0 0)))]) (va_runV (As := [.int (-2)]) (rest := []) ⟨hx, hb, hml, hown, hts⟩ (r_refused l dC dI cyI cyZ cyO H.size h0 rz 0 0 rf rl rwx rb 0 rwd rk ra 0 32 0 rs rt 0 0 rwr rp rsi rke rkc rik (-2) ) (cwV 1 hts gX11_register_X11_refused rfl rfl rfl (by decide +kernel) ⟨Nat.le_of_ble_eq_true rfl, Nat.le_of_ble_eq_true rfl⟩) (yPreV hK hPc hDc (ci := 11) (q0 := 0) rfl rfl) rfl rfl hl.1 rfl (lv_room (Nat.le_of_ble_eq_true rfl)) dX11_register_38 ⟨Nat.le_of_ble_eq_true rfl, Nat.le_of_ble_eq_true rfl⟩) hP hD hS hA rfl rfl (by decide) (by decide) (fun r_20 u_19 H locs hw hP hD hS => ?_)
          have hP : va_P (dC, dI) vwCl [(rz, .inl (cyI, 2490, .inl (yz 0 0))), (h0, .inr (11, [.ref rz, .int (-2), .int 0, .ref rf, .ref rl, .ref rwx, .ref rb, .int 0, .ref rwd, .ref rk, .ref ra, .int 0, .int 32, .int 0, .ref rs, .ref rt, .int 0, .int 0, .ref rwr, .ref rp, .ref rsi, .ref rke, .ref rkc, .ref rik]))] H := hP
          have hD : va_D A [(rz, .inl (cyI, 2490, .inl (yz 0 0))), (h0, .inr (11, [.ref rz, .int (-2), .int 0, .ref rf, .ref rl, .ref rwx, .ref rb, .int 0, .ref rwd, .ref rk, .ref ra, .int 0, .int 32, .int 0, .ref rs, .ref rt, .int 0, .int 0, .ref rwr, .ref rp, .ref rsi, .ref rke, .ref rkc, .ref rik]))] := hD
          refine W.widen (k := 0) (n := 0) (Nat.le_of_ble_eq_true rfl) (Nat.le_of_ble_eq_true rfl) ?_
          have hw : r_20 = (-2) := hw.trans (by decide)
          subst hw
          refine W.widen (k := 0) (n := 0) (Nat.le_of_ble_eq_true rfl) (Nat.le_of_ble_eq_true rfl) ?_
          exact yy_iret (v := (-2)) () hx hb hr hlk rfl hsz hAe hK hP hD hS [] rfl rfl (by decide) (by (try simp only [zB0, Decidable.not_not] at c4 c16 c22 c32); (try simp only [isW, zB, ← Int32.not_lt, sp_slave, sp_register, sp_depth, sp_limit, sp_transfer, sp_clock, sp_finish, sp_turn, sp_wire, sp_findings, sp_bridge, sp_keep, sp_told, ylc1, ylc2, y14, y2, yk01] at c4 c16 c22 c32 ⊢); (try simp only [Decidable.not_not] at c4 c16 c22 c32 ⊢); (try simp only [c4, c16, c22, c32, not_true_eq_false, not_false_eq_true, false_and, and_false, true_and, and_true, and_self, or_true, true_or, or_false, false_or, or_self, ↓reduceIte]); (try simp only [← and_assoc]); (try simp only [c4, c16, c22, c32, not_true_eq_false, not_false_eq_true, false_and, and_false, true_and, and_true, and_self, or_true, true_or, or_false, false_or, or_self, ↓reduceIte]); (try decide)) dX11_register_41
set_option maxHeartbeats 4000000 in
set_option maxRecDepth 100000 in
theorem r_depth (l : Launch) (dC : Nat → ClassId) (dI : Nat → Nat → Nat) (cyI cyZ cyO : ClassId) (sz : Nat) (h0 : Nat) (rz : Nat) (rf : Nat) (rl : Nat) (rwx : Nat) (rb : Nat) (rwd : Nat) (rk : Nat) (ra : Nat) (rs : Nat) (rt : Nat) (rwr : Nat) (rp : Nat) (rsi : Nat) (rke : Nat) (rkc : Nat) (rik : Nat) (n : Int32)  : Met l yX11_depth wsX11_depth ({ frames := 1, cells := 0, slots := 0, locals := 25 }) (yPre [.ref h0, .int n] (dC, dI) [(h0, .inr (11, [.ref rz, .int 0, .int 0, .ref rf, .ref rl, .ref rwx, .ref rb, .int 0, .ref rwd, .ref rk, .ref ra, .int 0, .int 32, .int 0, .ref rs, .ref rt, .int 0, .int 0, .ref rwr, .ref rp, .ref rsi, .ref rke, .ref rkc, .ref rik])), (rz, .inl (cyI, 2490, .inl (yz 0 0)))] (yT cyI cyZ cyO) sz) (yQi (fun (r : Int32) (u : Unit) => r = (sp_depth n)) (dC, dI) [(h0, .inr (11, [.ref rz, .int 0, .int 0, .ref rf, .ref rl, .ref rwx, .ref rb, .int 0, .ref rwd, .ref rk, .ref ra, .int 0, .int 32, .int 0, .ref rs, .ref rt, .int 0, .int 0, .ref rwr, .ref rp, .ref rsi, .ref rke, .ref rkc, .ref rik])), (rz, .inl (cyI, 2490, .inl (yz 0 0)))] (yT cyI cyZ cyO) sz (fun _ => [])) 0 0 (va_A [(h0, .inr (11, [.ref rz, .int 0, .int 0, .ref rf, .ref rl, .ref rwx, .ref rb, .int 0, .ref rwd, .ref rk, .ref ra, .int 0, .int 32, .int 0, .ref rs, .ref rt, .int 0, .int 0, .ref rwr, .ref rp, .ref rsi, .ref rke, .ref rkc, .ref rik])), (rz, .inl (cyI, 2490, .inl (yz 0 0)))] sz) := by
  refine yMet (cc := cX11_depth) (maxL := 3) (ret := (some .int)) (by decide) rfl (Nat.le_of_ble_eq_true rfl) ?_
  intro p e s m below meth c A hx hb hr hlk hml hts hown hnm hsz hAe hP hK hD hA hS ls hl
  have hl : lv_has ls 3 [(0, .ref h0), (1, .int n)] := hl
  have hf111 := hts (.fieldLink RX11 111 "BusBridgeModel" "deep" "I") (by decide +kernel)
  have hf7 := hts (.fieldLink RX11 7 "BusBridgeModel" "z" "[I") (by decide +kernel)
  have hf91 := hts (.fieldLink RX11 91 "BusBridgeModel" "changes" "I") (by decide +kernel)
  have hl109 := hts (.constantLong RX11 109 4) (by decide +kernel)
  have hnX11 : ∀ w ∈ wsX110, w ∈ wsX11_depth := by decide +kernel
  refine lv_iload_n hx hb dX11_depth_0 rfl (lv_at hl 1 rfl) ?_
  refine lv_i2l hx hb dX11_depth_1 rfl ?_
  refine lv_lconst (v := (0 : Int32).toInt64) hx hb dX11_depth_2 (by decide) ?_
  refine lv_ldc2 (v := 4) hx hb hown hl109 dX11_depth_3 ?_
  refine yy_long (v := (4 : Int32).toInt64) (by decide) ?_
  have hPc := hP.sub (ws' := []) [] rfl
  have hDc := hD.sub (ws' := []) [] (by decide) rfl
  refine yy_calli [] [0, 1] (wr := [(h0, .inr (11, [.ref rz, .int 0, .int 0, .ref rf, .ref rl, .ref rwx, .ref rb, .int 0, .ref rwd, .ref rk, .ref ra, .int 0, .int 32, .int 0, .ref rs, .ref rt, .int 0, .int 0, .ref rwr, .ref rp, .ref rsi, .ref rke, .ref rkc, .ref rik])), (rz, .inl (cyI, 2490, .inl (yz 0 0)))]) (va_runS (As := [.long (n : Int32).toInt64, .long (0 : Int32).toInt64, .long (4 : Int32).toInt64]) (rest := []) ⟨hx, hb, hml, hown, hts⟩ (r_in l dC dI cyI cyZ cyO s.heap.size n 0 4 ) (va_cwS 3 hts gX11_depth_X11_in rfl rfl rfl (by decide +kernel) ⟨Nat.le_of_ble_eq_true rfl, Nat.le_of_ble_eq_true rfl⟩) (yPreS hK hPc hDc) rfl rfl hl.1 rfl (lv_room (Nat.le_of_ble_eq_true rfl)) dX11_depth_6 ⟨Nat.le_of_ble_eq_true rfl, Nat.le_of_ble_eq_true rfl⟩) hP hD hS hA rfl rfl (by decide) (by decide) (fun r_2 u_1 H locs hw hP hD hS => ?_)
  have hP : va_P (dC, dI) vwCl [(h0, .inr (11, [.ref rz, .int 0, .int 0, .ref rf, .ref rl, .ref rwx, .ref rb, .int 0, .ref rwd, .ref rk, .ref ra, .int 0, .int 32, .int 0, .ref rs, .ref rt, .int 0, .int 0, .ref rwr, .ref rp, .ref rsi, .ref rke, .ref rkc, .ref rik])), (rz, .inl (cyI, 2490, .inl (yz 0 0)))] H := hP
  have hD : va_D A [(h0, .inr (11, [.ref rz, .int 0, .int 0, .ref rf, .ref rl, .ref rwx, .ref rb, .int 0, .ref rwd, .ref rk, .ref ra, .int 0, .int 32, .int 0, .ref rs, .ref rt, .int 0, .int 0, .ref rwr, .ref rp, .ref rsi, .ref rke, .ref rkc, .ref rik])), (rz, .inl (cyI, 2490, .inl (yz 0 0)))] := hD
  refine W.widen (k := 0) (n := 0) (Nat.le_of_ble_eq_true rfl) (Nat.le_of_ble_eq_true rfl) ?_
  have hw : r_2 = (zB (0 ≤ n ∧ n ≤ 4)) := hw
  subst hw
  refine lv_if_ne (tgt := 19) hx hb dX11_depth_9 (by decide) (fun c9 => ?_) (fun c9 => ?_)
  · refine lv_aload_n hx hb dX11_depth_19 rfl (lv_at hl 0 rfl) ?_
    refine va_get (D := (dC, dI)) (ci := 11) (v := .ref rz) (C := RX11) (T := TX11) (N := 24) hx hb hts hnX11 hown hK hP 0 rfl rfl 0 (by decide) hf7 (fun _ h9 => h9) rfl dX11_depth_20 ?_
    refine lv_sipush (v := 179) hx hb dX11_depth_23 (by decide) ?_
    refine yy_iald (v := 0) hx hb hK hP 1 0 rfl rfl (yin (by decide)) dX11_depth_26 rfl ?_
    refine lv_if_eq (tgt := 37) hx hb dX11_depth_27 (by decide) (fun _ => ?_) (fun c => absurd (by decide) c)
    refine lv_aload_n hx hb dX11_depth_37 rfl (lv_at hl 0 rfl) ?_
    refine va_get (D := (dC, dI)) (ci := 11) (v := .int 0) (C := RX11) (T := TX11) (N := 24) hx hb hts hnX11 hown hK hP 0 rfl rfl 11 (by decide) hf111 (fun _ h9 => h9) rfl dX11_depth_38 ?_
    refine lv_istore_n (lv' := [(2, .int 0), (0, .ref h0), (1, .int n)]) hx hb dX11_depth_41 rfl hl (by decide) rfl (fun ls hl => ?_)
    refine lv_aload_n hx hb dX11_depth_42 rfl (lv_at hl 1 rfl) ?_
    refine lv_iload_n hx hb dX11_depth_43 rfl (lv_at hl 2 rfl) ?_
    refine va_put (D := (dC, dI)) (ci := 11) (v := .int n) (ty := .int) (C := RX11) (T := TX11) (N := 24) hx hb hts hnX11 tyX11 tyX11_ok nmX11 hown hK hP hD hS 0 rfl rfl 11 (by decide) hf111 (fun _ h9 => h9) rfl (by decide +kernel) rfl rfl (Nat.le_of_ble_eq_true rfl) dX11_depth_44 (fun H locs hP hD hS => ?_)
    have hP : va_P (dC, dI) vwCl [(h0, .inr (11, [.ref rz, .int 0, .int 0, .ref rf, .ref rl, .ref rwx, .ref rb, .int 0, .ref rwd, .ref rk, .ref ra, .int n, .int 32, .int 0, .ref rs, .ref rt, .int 0, .int 0, .ref rwr, .ref rp, .ref rsi, .ref rke, .ref rkc, .ref rik])), (rz, .inl (cyI, 2490, .inl (yz 0 0)))] H := hP
    have hD : va_D A [(h0, .inr (11, [.ref rz, .int 0, .int 0, .ref rf, .ref rl, .ref rwx, .ref rb, .int 0, .ref rwd, .ref rk, .ref ra, .int n, .int 32, .int 0, .ref rs, .ref rt, .int 0, .int 0, .ref rwr, .ref rp, .ref rsi, .ref rke, .ref rkc, .ref rik])), (rz, .inl (cyI, 2490, .inl (yz 0 0)))] := hD
    refine lv_aload_n hx hb dX11_depth_47 rfl (lv_at hl 1 rfl) ?_
    refine lv_dup hx hb dX11_depth_48 rfl ?_
    refine va_get (D := (dC, dI)) (ci := 11) (v := .int 0) (C := RX11) (T := TX11) (N := 24) hx hb hts hnX11 hown hK hP 0 rfl rfl 13 (by decide) hf91 (fun _ h9 => h9) rfl dX11_depth_49 ?_
    refine lv_iconst (v := 1) hx hb dX11_depth_52 (by decide) ?_
    refine lv_iadd hx hb dX11_depth_53 ?_
    refine yy_int (v := 1) (by decide) ?_
    refine va_put (D := (dC, dI)) (ci := 11) (v := .int 1) (ty := .int) (C := RX11) (T := TX11) (N := 24) hx hb hts hnX11 tyX11 tyX11_ok nmX11 hown hK hP hD hS 0 rfl rfl 13 (by decide) hf91 (fun _ h9 => h9) rfl (by decide +kernel) rfl rfl (Nat.le_of_ble_eq_true rfl) dX11_depth_54 (fun H locs hP hD hS => ?_)
    have hP : va_P (dC, dI) vwCl [(h0, .inr (11, [.ref rz, .int 0, .int 0, .ref rf, .ref rl, .ref rwx, .ref rb, .int 0, .ref rwd, .ref rk, .ref ra, .int n, .int 32, .int 1, .ref rs, .ref rt, .int 0, .int 0, .ref rwr, .ref rp, .ref rsi, .ref rke, .ref rkc, .ref rik])), (rz, .inl (cyI, 2490, .inl (yz 0 0)))] H := hP
    have hD : va_D A [(h0, .inr (11, [.ref rz, .int 0, .int 0, .ref rf, .ref rl, .ref rwx, .ref rb, .int 0, .ref rwd, .ref rk, .ref ra, .int n, .int 32, .int 1, .ref rs, .ref rt, .int 0, .int 0, .ref rwr, .ref rp, .ref rsi, .ref rke, .ref rkc, .ref rik])), (rz, .inl (cyI, 2490, .inl (yz 0 0)))] := hD
    refine lv_aload_n hx hb dX11_depth_57 rfl (lv_at hl 1 rfl) ?_
    refine lv_iload_n hx hb dX11_depth_58 rfl (lv_at hl 0 rfl) ?_
    have hPc := hP.sub (ws' := [(h0, .inr (11, [.ref rz, .int 0, .int 0, .ref rf, .ref rl, .ref rwx, .ref rb, .int 0, .ref rwd, .ref rk, .ref ra, .int n, .int 32, .int 1, .ref rs, .ref rt, .int 0, .int 0, .ref rwr, .ref rp, .ref rsi, .ref rke, .ref rkc, .ref rik]))]) [0] rfl
    have hDc := hD.sub (ws' := [(h0, .inr (11, [.ref rz, .int 0, .int 0, .ref rf, .ref rl, .ref rwx, .ref rb, .int 0, .ref rwd, .ref rk, .ref ra, .int n, .int 32, .int 1, .ref rs, .ref rt, .int 0, .int 0, .ref rwr, .ref rp, .ref rsi, .ref rke, .ref rkc, .ref rik]))]) [0] (by decide) rfl
    refine yy_calli [0] [1] (wr := [(rz, .inl (cyI, 2490, .inl (yz 0 0)))]) (va_runV (As := [.int 0]) (rest := []) ⟨hx, hb, hml, hown, hts⟩ (r_done l dC dI cyI cyZ cyO H.size h0 rz 0 0 rf rl rwx rb 0 rwd rk ra n 32 1 rs rt 0 0 rwr rp rsi rke rkc rik 0 ) (cwV 1 hts gX11_depth_X11_done rfl rfl rfl (by decide +kernel) ⟨Nat.le_of_ble_eq_true rfl, Nat.le_of_ble_eq_true rfl⟩) (yPreV hK hPc hDc (ci := 11) (q0 := 0) rfl rfl) rfl rfl hl.1 rfl (lv_room (Nat.le_of_ble_eq_true rfl)) dX11_depth_59 ⟨Nat.le_of_ble_eq_true rfl, Nat.le_of_ble_eq_true rfl⟩) hP hD hS hA rfl rfl (by decide) (by decide) (fun r_4 u_3 H locs hw hP hD hS => ?_)
    have hP : va_P (dC, dI) vwCl [(rz, .inl (cyI, 2490, .inl (yz 0 0))), (h0, .inr (11, [.ref rz, .int 0, .int 0, .ref rf, .ref rl, .ref rwx, .ref rb, .int 0, .ref rwd, .ref rk, .ref ra, .int n, .int 32, .int 1, .ref rs, .ref rt, .int 0, .int 0, .ref rwr, .ref rp, .ref rsi, .ref rke, .ref rkc, .ref rik]))] H := hP
    have hD : va_D A [(rz, .inl (cyI, 2490, .inl (yz 0 0))), (h0, .inr (11, [.ref rz, .int 0, .int 0, .ref rf, .ref rl, .ref rwx, .ref rb, .int 0, .ref rwd, .ref rk, .ref ra, .int n, .int 32, .int 1, .ref rs, .ref rt, .int 0, .int 0, .ref rwr, .ref rp, .ref rsi, .ref rke, .ref rkc, .ref rik]))] := hD
    refine W.widen (k := 0) (n := 0) (Nat.le_of_ble_eq_true rfl) (Nat.le_of_ble_eq_true rfl) ?_
    have hw : r_4 = 0 := hw.trans (by decide)
    subst hw
    refine W.widen (k := 0) (n := 0) (Nat.le_of_ble_eq_true rfl) (Nat.le_of_ble_eq_true rfl) ?_
    exact yy_iret (v := 0) () hx hb hr hlk rfl hsz hAe hK hP hD hS [] rfl rfl (by decide) (by (try simp only [zB0, Decidable.not_not] at c9); (try simp only [isW, zB, ← Int32.not_lt, sp_slave, sp_register, sp_depth, sp_limit, sp_transfer, sp_clock, sp_finish, sp_turn, sp_wire, sp_findings, sp_bridge, sp_keep, sp_told, ylc1, ylc2, y14, y2] at c9 ⊢); (try simp only [Decidable.not_not] at c9 ⊢); (try simp only [c9, not_true_eq_false, not_false_eq_true, false_and, and_false, true_and, and_true, and_self, or_true, true_or, or_false, false_or, or_self, ↓reduceIte]); (try simp only [← and_assoc]); (try simp only [c9, not_true_eq_false, not_false_eq_true, false_and, and_false, true_and, and_true, and_self, or_true, true_or, or_false, false_or, or_self, ↓reduceIte]); (try decide)) dX11_depth_62
  · refine lv_aload_n hx hb dX11_depth_12 rfl (lv_at hl 0 rfl) ?_
    refine lv_bipush (v := (-2)) hx hb dX11_depth_13 (by decide) ?_
    have hPc := hP.sub (ws' := [(h0, .inr (11, [.ref rz, .int 0, .int 0, .ref rf, .ref rl, .ref rwx, .ref rb, .int 0, .ref rwd, .ref rk, .ref ra, .int 0, .int 32, .int 0, .ref rs, .ref rt, .int 0, .int 0, .ref rwr, .ref rp, .ref rsi, .ref rke, .ref rkc, .ref rik]))]) [0] rfl
    have hDc := hD.sub (ws' := [(h0, .inr (11, [.ref rz, .int 0, .int 0, .ref rf, .ref rl, .ref rwx, .ref rb, .int 0, .ref rwd, .ref rk, .ref ra, .int 0, .int 32, .int 0, .ref rs, .ref rt, .int 0, .int 0, .ref rwr, .ref rp, .ref rsi, .ref rke, .ref rkc, .ref rik]))]) [0] (by decide) rfl
    refine yy_calli [0] [1] (wr := [(rz, .inl (cyI, 2490, .inl (yz 0 0)))]) (va_runV (As := [.int (-2)]) (rest := []) ⟨hx, hb, hml, hown, hts⟩ (r_refused l dC dI cyI cyZ cyO H.size h0 rz 0 0 rf rl rwx rb 0 rwd rk ra 0 32 0 rs rt 0 0 rwr rp rsi rke rkc rik (-2) ) (cwV 1 hts gX11_depth_X11_refused rfl rfl rfl (by decide +kernel) ⟨Nat.le_of_ble_eq_true rfl, Nat.le_of_ble_eq_true rfl⟩) (yPreV hK hPc hDc (ci := 11) (q0 := 0) rfl rfl) rfl rfl hl.1 rfl (lv_room (Nat.le_of_ble_eq_true rfl)) dX11_depth_15 ⟨Nat.le_of_ble_eq_true rfl, Nat.le_of_ble_eq_true rfl⟩) hP hD hS hA rfl rfl (by decide) (by decide) (fun r_6 u_5 H locs hw hP hD hS => ?_)
    have hP : va_P (dC, dI) vwCl [(rz, .inl (cyI, 2490, .inl (yz 0 0))), (h0, .inr (11, [.ref rz, .int (-2), .int 0, .ref rf, .ref rl, .ref rwx, .ref rb, .int 0, .ref rwd, .ref rk, .ref ra, .int 0, .int 32, .int 0, .ref rs, .ref rt, .int 0, .int 0, .ref rwr, .ref rp, .ref rsi, .ref rke, .ref rkc, .ref rik]))] H := hP
    have hD : va_D A [(rz, .inl (cyI, 2490, .inl (yz 0 0))), (h0, .inr (11, [.ref rz, .int (-2), .int 0, .ref rf, .ref rl, .ref rwx, .ref rb, .int 0, .ref rwd, .ref rk, .ref ra, .int 0, .int 32, .int 0, .ref rs, .ref rt, .int 0, .int 0, .ref rwr, .ref rp, .ref rsi, .ref rke, .ref rkc, .ref rik]))] := hD
    refine W.widen (k := 0) (n := 0) (Nat.le_of_ble_eq_true rfl) (Nat.le_of_ble_eq_true rfl) ?_
    have hw : r_6 = (-2) := hw.trans (by decide)
    subst hw
    refine W.widen (k := 0) (n := 0) (Nat.le_of_ble_eq_true rfl) (Nat.le_of_ble_eq_true rfl) ?_
    exact yy_iret (v := (-2)) () hx hb hr hlk rfl hsz hAe hK hP hD hS [] rfl rfl (by decide) (by (try simp only [zB0, Decidable.not_not] at c9); (try simp only [isW, zB, ← Int32.not_lt, sp_slave, sp_register, sp_depth, sp_limit, sp_transfer, sp_clock, sp_finish, sp_turn, sp_wire, sp_findings, sp_bridge, sp_keep, sp_told, ylc1, ylc2, y14, y2] at c9 ⊢); (try simp only [Decidable.not_not] at c9 ⊢); (try simp only [c9, not_true_eq_false, not_false_eq_true, false_and, and_false, true_and, and_true, and_self, or_true, true_or, or_false, false_or, or_self, ↓reduceIte]); (try simp only [← and_assoc]); (try simp only [c9, not_true_eq_false, not_false_eq_true, false_and, and_false, true_and, and_true, and_self, or_true, true_or, or_false, false_or, or_self, ↓reduceIte]); (try decide)) dX11_depth_18
set_option maxHeartbeats 4000000 in
set_option maxRecDepth 100000 in
theorem r_limit (l : Launch) (dC : Nat → ClassId) (dI : Nat → Nat → Nat) (cyI cyZ cyO : ClassId) (sz : Nat) (h0 : Nat) (rz : Nat) (rf : Nat) (rl : Nat) (rwx : Nat) (rb : Nat) (rwd : Nat) (rk : Nat) (ra : Nat) (rs : Nat) (rt : Nat) (rwr : Nat) (rp : Nat) (rsi : Nat) (rke : Nat) (rkc : Nat) (rik : Nat) (n : Int32)  : Met l yX11_limit wsX11_limit ({ frames := 1, cells := 0, slots := 0, locals := 25 }) (yPre [.ref h0, .int n] (dC, dI) [(h0, .inr (11, [.ref rz, .int 0, .int 0, .ref rf, .ref rl, .ref rwx, .ref rb, .int 0, .ref rwd, .ref rk, .ref ra, .int 0, .int 32, .int 0, .ref rs, .ref rt, .int 0, .int 0, .ref rwr, .ref rp, .ref rsi, .ref rke, .ref rkc, .ref rik])), (rz, .inl (cyI, 2490, .inl (yz 0 0)))] (yT cyI cyZ cyO) sz) (yQi (fun (r : Int32) (u : Unit) => r = (sp_limit n)) (dC, dI) [(h0, .inr (11, [.ref rz, .int 0, .int 0, .ref rf, .ref rl, .ref rwx, .ref rb, .int 0, .ref rwd, .ref rk, .ref ra, .int 0, .int 32, .int 0, .ref rs, .ref rt, .int 0, .int 0, .ref rwr, .ref rp, .ref rsi, .ref rke, .ref rkc, .ref rik])), (rz, .inl (cyI, 2490, .inl (yz 0 0)))] (yT cyI cyZ cyO) sz (fun _ => [])) 0 0 (va_A [(h0, .inr (11, [.ref rz, .int 0, .int 0, .ref rf, .ref rl, .ref rwx, .ref rb, .int 0, .ref rwd, .ref rk, .ref ra, .int 0, .int 32, .int 0, .ref rs, .ref rt, .int 0, .int 0, .ref rwr, .ref rp, .ref rsi, .ref rke, .ref rkc, .ref rik])), (rz, .inl (cyI, 2490, .inl (yz 0 0)))] sz) := by
  refine yMet (cc := cX11_limit) (maxL := 3) (ret := (some .int)) (by decide) rfl (Nat.le_of_ble_eq_true rfl) ?_
  intro p e s m below meth c A hx hb hr hlk hml hts hown hnm hsz hAe hP hK hD hA hS ls hl
  have hl : lv_has ls 3 [(0, .ref h0), (1, .int n)] := hl
  have hf35 := hts (.fieldLink RX11 35 "BusBridgeModel" "most" "I") (by decide +kernel)
  have hf7 := hts (.fieldLink RX11 7 "BusBridgeModel" "z" "[I") (by decide +kernel)
  have hf91 := hts (.fieldLink RX11 91 "BusBridgeModel" "changes" "I") (by decide +kernel)
  have hl109 := hts (.constantLong RX11 109 4) (by decide +kernel)
  have hl114 := hts (.constantLong RX11 114 60) (by decide +kernel)
  have hnX11 : ∀ w ∈ wsX110, w ∈ wsX11_limit := by decide +kernel
  refine lv_iload_n hx hb dX11_limit_0 rfl (lv_at hl 1 rfl) ?_
  refine lv_i2l hx hb dX11_limit_1 rfl ?_
  refine lv_ldc2 (v := 4) hx hb hown hl109 dX11_limit_2 ?_
  refine yy_long (v := (4 : Int32).toInt64) (by decide) ?_
  refine lv_ldc2 (v := 60) hx hb hown hl114 dX11_limit_5 ?_
  refine yy_long (v := (60 : Int32).toInt64) (by decide) ?_
  have hPc := hP.sub (ws' := []) [] rfl
  have hDc := hD.sub (ws' := []) [] (by decide) rfl
  refine yy_calli [] [0, 1] (wr := [(h0, .inr (11, [.ref rz, .int 0, .int 0, .ref rf, .ref rl, .ref rwx, .ref rb, .int 0, .ref rwd, .ref rk, .ref ra, .int 0, .int 32, .int 0, .ref rs, .ref rt, .int 0, .int 0, .ref rwr, .ref rp, .ref rsi, .ref rke, .ref rkc, .ref rik])), (rz, .inl (cyI, 2490, .inl (yz 0 0)))]) (va_runS (As := [.long (n : Int32).toInt64, .long (4 : Int32).toInt64, .long (60 : Int32).toInt64]) (rest := []) ⟨hx, hb, hml, hown, hts⟩ (r_in l dC dI cyI cyZ cyO s.heap.size n 4 60 ) (va_cwS 3 hts gX11_limit_X11_in rfl rfl rfl (by decide +kernel) ⟨Nat.le_of_ble_eq_true rfl, Nat.le_of_ble_eq_true rfl⟩) (yPreS hK hPc hDc) rfl rfl hl.1 rfl (lv_room (Nat.le_of_ble_eq_true rfl)) dX11_limit_8 ⟨Nat.le_of_ble_eq_true rfl, Nat.le_of_ble_eq_true rfl⟩) hP hD hS hA rfl rfl (by decide) (by decide) (fun r_2 u_1 H locs hw hP hD hS => ?_)
  have hP : va_P (dC, dI) vwCl [(h0, .inr (11, [.ref rz, .int 0, .int 0, .ref rf, .ref rl, .ref rwx, .ref rb, .int 0, .ref rwd, .ref rk, .ref ra, .int 0, .int 32, .int 0, .ref rs, .ref rt, .int 0, .int 0, .ref rwr, .ref rp, .ref rsi, .ref rke, .ref rkc, .ref rik])), (rz, .inl (cyI, 2490, .inl (yz 0 0)))] H := hP
  have hD : va_D A [(h0, .inr (11, [.ref rz, .int 0, .int 0, .ref rf, .ref rl, .ref rwx, .ref rb, .int 0, .ref rwd, .ref rk, .ref ra, .int 0, .int 32, .int 0, .ref rs, .ref rt, .int 0, .int 0, .ref rwr, .ref rp, .ref rsi, .ref rke, .ref rkc, .ref rik])), (rz, .inl (cyI, 2490, .inl (yz 0 0)))] := hD
  refine W.widen (k := 0) (n := 0) (Nat.le_of_ble_eq_true rfl) (Nat.le_of_ble_eq_true rfl) ?_
  have hw : r_2 = (zB (4 ≤ n ∧ n ≤ 60)) := hw
  subst hw
  refine lv_if_ne (tgt := 21) hx hb dX11_limit_11 (by decide) (fun c11 => ?_) (fun c11 => ?_)
  · refine lv_aload_n hx hb dX11_limit_21 rfl (lv_at hl 0 rfl) ?_
    refine va_get (D := (dC, dI)) (ci := 11) (v := .ref rz) (C := RX11) (T := TX11) (N := 24) hx hb hts hnX11 hown hK hP 0 rfl rfl 0 (by decide) hf7 (fun _ h9 => h9) rfl dX11_limit_22 ?_
    refine lv_sipush (v := 179) hx hb dX11_limit_25 (by decide) ?_
    refine yy_iald (v := 0) hx hb hK hP 1 0 rfl rfl (yin (by decide)) dX11_limit_28 rfl ?_
    refine lv_if_eq (tgt := 39) hx hb dX11_limit_29 (by decide) (fun _ => ?_) (fun c => absurd (by decide) c)
    refine lv_aload_n hx hb dX11_limit_39 rfl (lv_at hl 0 rfl) ?_
    refine va_get (D := (dC, dI)) (ci := 11) (v := .int 32) (C := RX11) (T := TX11) (N := 24) hx hb hts hnX11 hown hK hP 0 rfl rfl 12 (by decide) hf35 (fun _ h9 => h9) rfl dX11_limit_40 ?_
    refine lv_istore_n (lv' := [(2, .int 32), (0, .ref h0), (1, .int n)]) hx hb dX11_limit_43 rfl hl (by decide) rfl (fun ls hl => ?_)
    refine lv_aload_n hx hb dX11_limit_44 rfl (lv_at hl 1 rfl) ?_
    refine lv_iload_n hx hb dX11_limit_45 rfl (lv_at hl 2 rfl) ?_
    refine va_put (D := (dC, dI)) (ci := 11) (v := .int n) (ty := .int) (C := RX11) (T := TX11) (N := 24) hx hb hts hnX11 tyX11 tyX11_ok nmX11 hown hK hP hD hS 0 rfl rfl 12 (by decide) hf35 (fun _ h9 => h9) rfl (by decide +kernel) rfl rfl (Nat.le_of_ble_eq_true rfl) dX11_limit_46 (fun H locs hP hD hS => ?_)
    have hP : va_P (dC, dI) vwCl [(h0, .inr (11, [.ref rz, .int 0, .int 0, .ref rf, .ref rl, .ref rwx, .ref rb, .int 0, .ref rwd, .ref rk, .ref ra, .int 0, .int n, .int 0, .ref rs, .ref rt, .int 0, .int 0, .ref rwr, .ref rp, .ref rsi, .ref rke, .ref rkc, .ref rik])), (rz, .inl (cyI, 2490, .inl (yz 0 0)))] H := hP
    have hD : va_D A [(h0, .inr (11, [.ref rz, .int 0, .int 0, .ref rf, .ref rl, .ref rwx, .ref rb, .int 0, .ref rwd, .ref rk, .ref ra, .int 0, .int n, .int 0, .ref rs, .ref rt, .int 0, .int 0, .ref rwr, .ref rp, .ref rsi, .ref rke, .ref rkc, .ref rik])), (rz, .inl (cyI, 2490, .inl (yz 0 0)))] := hD
    refine lv_aload_n hx hb dX11_limit_49 rfl (lv_at hl 1 rfl) ?_
    refine lv_dup hx hb dX11_limit_50 rfl ?_
    refine va_get (D := (dC, dI)) (ci := 11) (v := .int 0) (C := RX11) (T := TX11) (N := 24) hx hb hts hnX11 hown hK hP 0 rfl rfl 13 (by decide) hf91 (fun _ h9 => h9) rfl dX11_limit_51 ?_
    refine lv_iconst (v := 1) hx hb dX11_limit_54 (by decide) ?_
    refine lv_iadd hx hb dX11_limit_55 ?_
    refine yy_int (v := 1) (by decide) ?_
    refine va_put (D := (dC, dI)) (ci := 11) (v := .int 1) (ty := .int) (C := RX11) (T := TX11) (N := 24) hx hb hts hnX11 tyX11 tyX11_ok nmX11 hown hK hP hD hS 0 rfl rfl 13 (by decide) hf91 (fun _ h9 => h9) rfl (by decide +kernel) rfl rfl (Nat.le_of_ble_eq_true rfl) dX11_limit_56 (fun H locs hP hD hS => ?_)
    have hP : va_P (dC, dI) vwCl [(h0, .inr (11, [.ref rz, .int 0, .int 0, .ref rf, .ref rl, .ref rwx, .ref rb, .int 0, .ref rwd, .ref rk, .ref ra, .int 0, .int n, .int 1, .ref rs, .ref rt, .int 0, .int 0, .ref rwr, .ref rp, .ref rsi, .ref rke, .ref rkc, .ref rik])), (rz, .inl (cyI, 2490, .inl (yz 0 0)))] H := hP
    have hD : va_D A [(h0, .inr (11, [.ref rz, .int 0, .int 0, .ref rf, .ref rl, .ref rwx, .ref rb, .int 0, .ref rwd, .ref rk, .ref ra, .int 0, .int n, .int 1, .ref rs, .ref rt, .int 0, .int 0, .ref rwr, .ref rp, .ref rsi, .ref rke, .ref rkc, .ref rik])), (rz, .inl (cyI, 2490, .inl (yz 0 0)))] := hD
    refine lv_aload_n hx hb dX11_limit_59 rfl (lv_at hl 1 rfl) ?_
    refine lv_iload_n hx hb dX11_limit_60 rfl (lv_at hl 0 rfl) ?_
    have hPc := hP.sub (ws' := [(h0, .inr (11, [.ref rz, .int 0, .int 0, .ref rf, .ref rl, .ref rwx, .ref rb, .int 0, .ref rwd, .ref rk, .ref ra, .int 0, .int n, .int 1, .ref rs, .ref rt, .int 0, .int 0, .ref rwr, .ref rp, .ref rsi, .ref rke, .ref rkc, .ref rik]))]) [0] rfl
    have hDc := hD.sub (ws' := [(h0, .inr (11, [.ref rz, .int 0, .int 0, .ref rf, .ref rl, .ref rwx, .ref rb, .int 0, .ref rwd, .ref rk, .ref ra, .int 0, .int n, .int 1, .ref rs, .ref rt, .int 0, .int 0, .ref rwr, .ref rp, .ref rsi, .ref rke, .ref rkc, .ref rik]))]) [0] (by decide) rfl
    refine yy_calli [0] [1] (wr := [(rz, .inl (cyI, 2490, .inl (yz 0 0)))]) (va_runV (As := [.int 32]) (rest := []) ⟨hx, hb, hml, hown, hts⟩ (r_done l dC dI cyI cyZ cyO H.size h0 rz 0 0 rf rl rwx rb 0 rwd rk ra 0 n 1 rs rt 0 0 rwr rp rsi rke rkc rik 32 ) (cwV 1 hts gX11_limit_X11_done rfl rfl rfl (by decide +kernel) ⟨Nat.le_of_ble_eq_true rfl, Nat.le_of_ble_eq_true rfl⟩) (yPreV hK hPc hDc (ci := 11) (q0 := 0) rfl rfl) rfl rfl hl.1 rfl (lv_room (Nat.le_of_ble_eq_true rfl)) dX11_limit_61 ⟨Nat.le_of_ble_eq_true rfl, Nat.le_of_ble_eq_true rfl⟩) hP hD hS hA rfl rfl (by decide) (by decide) (fun r_4 u_3 H locs hw hP hD hS => ?_)
    have hP : va_P (dC, dI) vwCl [(rz, .inl (cyI, 2490, .inl (yz 0 0))), (h0, .inr (11, [.ref rz, .int 0, .int 0, .ref rf, .ref rl, .ref rwx, .ref rb, .int 0, .ref rwd, .ref rk, .ref ra, .int 0, .int n, .int 1, .ref rs, .ref rt, .int 0, .int 0, .ref rwr, .ref rp, .ref rsi, .ref rke, .ref rkc, .ref rik]))] H := hP
    have hD : va_D A [(rz, .inl (cyI, 2490, .inl (yz 0 0))), (h0, .inr (11, [.ref rz, .int 0, .int 0, .ref rf, .ref rl, .ref rwx, .ref rb, .int 0, .ref rwd, .ref rk, .ref ra, .int 0, .int n, .int 1, .ref rs, .ref rt, .int 0, .int 0, .ref rwr, .ref rp, .ref rsi, .ref rke, .ref rkc, .ref rik]))] := hD
    refine W.widen (k := 0) (n := 0) (Nat.le_of_ble_eq_true rfl) (Nat.le_of_ble_eq_true rfl) ?_
    have hw : r_4 = 32 := hw.trans (by decide)
    subst hw
    refine W.widen (k := 0) (n := 0) (Nat.le_of_ble_eq_true rfl) (Nat.le_of_ble_eq_true rfl) ?_
    exact yy_iret (v := 32) () hx hb hr hlk rfl hsz hAe hK hP hD hS [] rfl rfl (by decide) (by (try simp only [zB0, Decidable.not_not] at c11); (try simp only [isW, zB, ← Int32.not_lt, sp_slave, sp_register, sp_depth, sp_limit, sp_transfer, sp_clock, sp_finish, sp_turn, sp_wire, sp_findings, sp_bridge, sp_keep, sp_told, ylc1, ylc2, y14, y2] at c11 ⊢); (try simp only [Decidable.not_not] at c11 ⊢); (try simp only [c11, not_true_eq_false, not_false_eq_true, false_and, and_false, true_and, and_true, and_self, or_true, true_or, or_false, false_or, or_self, ↓reduceIte]); (try simp only [← and_assoc]); (try simp only [c11, not_true_eq_false, not_false_eq_true, false_and, and_false, true_and, and_true, and_self, or_true, true_or, or_false, false_or, or_self, ↓reduceIte]); (try decide)) dX11_limit_64
  · refine lv_aload_n hx hb dX11_limit_14 rfl (lv_at hl 0 rfl) ?_
    refine lv_bipush (v := (-2)) hx hb dX11_limit_15 (by decide) ?_
    have hPc := hP.sub (ws' := [(h0, .inr (11, [.ref rz, .int 0, .int 0, .ref rf, .ref rl, .ref rwx, .ref rb, .int 0, .ref rwd, .ref rk, .ref ra, .int 0, .int 32, .int 0, .ref rs, .ref rt, .int 0, .int 0, .ref rwr, .ref rp, .ref rsi, .ref rke, .ref rkc, .ref rik]))]) [0] rfl
    have hDc := hD.sub (ws' := [(h0, .inr (11, [.ref rz, .int 0, .int 0, .ref rf, .ref rl, .ref rwx, .ref rb, .int 0, .ref rwd, .ref rk, .ref ra, .int 0, .int 32, .int 0, .ref rs, .ref rt, .int 0, .int 0, .ref rwr, .ref rp, .ref rsi, .ref rke, .ref rkc, .ref rik]))]) [0] (by decide) rfl
    refine yy_calli [0] [1] (wr := [(rz, .inl (cyI, 2490, .inl (yz 0 0)))]) (va_runV (As := [.int (-2)]) (rest := []) ⟨hx, hb, hml, hown, hts⟩ (r_refused l dC dI cyI cyZ cyO H.size h0 rz 0 0 rf rl rwx rb 0 rwd rk ra 0 32 0 rs rt 0 0 rwr rp rsi rke rkc rik (-2) ) (cwV 1 hts gX11_limit_X11_refused rfl rfl rfl (by decide +kernel) ⟨Nat.le_of_ble_eq_true rfl, Nat.le_of_ble_eq_true rfl⟩) (yPreV hK hPc hDc (ci := 11) (q0 := 0) rfl rfl) rfl rfl hl.1 rfl (lv_room (Nat.le_of_ble_eq_true rfl)) dX11_limit_17 ⟨Nat.le_of_ble_eq_true rfl, Nat.le_of_ble_eq_true rfl⟩) hP hD hS hA rfl rfl (by decide) (by decide) (fun r_6 u_5 H locs hw hP hD hS => ?_)
    have hP : va_P (dC, dI) vwCl [(rz, .inl (cyI, 2490, .inl (yz 0 0))), (h0, .inr (11, [.ref rz, .int (-2), .int 0, .ref rf, .ref rl, .ref rwx, .ref rb, .int 0, .ref rwd, .ref rk, .ref ra, .int 0, .int 32, .int 0, .ref rs, .ref rt, .int 0, .int 0, .ref rwr, .ref rp, .ref rsi, .ref rke, .ref rkc, .ref rik]))] H := hP
    have hD : va_D A [(rz, .inl (cyI, 2490, .inl (yz 0 0))), (h0, .inr (11, [.ref rz, .int (-2), .int 0, .ref rf, .ref rl, .ref rwx, .ref rb, .int 0, .ref rwd, .ref rk, .ref ra, .int 0, .int 32, .int 0, .ref rs, .ref rt, .int 0, .int 0, .ref rwr, .ref rp, .ref rsi, .ref rke, .ref rkc, .ref rik]))] := hD
    refine W.widen (k := 0) (n := 0) (Nat.le_of_ble_eq_true rfl) (Nat.le_of_ble_eq_true rfl) ?_
    have hw : r_6 = (-2) := hw.trans (by decide)
    subst hw
    refine W.widen (k := 0) (n := 0) (Nat.le_of_ble_eq_true rfl) (Nat.le_of_ble_eq_true rfl) ?_
    exact yy_iret (v := (-2)) () hx hb hr hlk rfl hsz hAe hK hP hD hS [] rfl rfl (by decide) (by (try simp only [zB0, Decidable.not_not] at c11); (try simp only [isW, zB, ← Int32.not_lt, sp_slave, sp_register, sp_depth, sp_limit, sp_transfer, sp_clock, sp_finish, sp_turn, sp_wire, sp_findings, sp_bridge, sp_keep, sp_told, ylc1, ylc2, y14, y2] at c11 ⊢); (try simp only [Decidable.not_not] at c11 ⊢); (try simp only [c11, not_true_eq_false, not_false_eq_true, false_and, and_false, true_and, and_true, and_self, or_true, true_or, or_false, false_or, or_self, ↓reduceIte]); (try simp only [← and_assoc]); (try simp only [c11, not_true_eq_false, not_false_eq_true, false_and, and_false, true_and, and_true, and_self, or_true, true_or, or_false, false_or, or_self, ↓reduceIte]); (try decide)) dX11_limit_20
set_option maxHeartbeats 4000000 in
set_option maxRecDepth 100000 in
theorem r_reset (l : Launch) (dC : Nat → ClassId) (dI : Nat → Nat → Nat) (cyI cyZ cyO : ClassId) (sz : Nat) (h0 : Nat) (rz : Nat) (rf : Nat) (rl : Nat) (rwx : Nat) (rb : Nat) (rwd : Nat) (rk : Nat) (ra : Nat) (rs : Nat) (rt : Nat) (rwr : Nat) (rp : Nat) (rsi : Nat) (rke : Nat) (rkc : Nat) (rik : Nat)  : Met l yX11_reset wsX11_reset ({ frames := 1, cells := 0, slots := 0, locals := 21 }) (yPre [.ref h0] (dC, dI) [(h0, .inr (11, [.ref rz, .int 0, .int 0, .ref rf, .ref rl, .ref rwx, .ref rb, .int 0, .ref rwd, .ref rk, .ref ra, .int 0, .int 32, .int 0, .ref rs, .ref rt, .int 0, .int 0, .ref rwr, .ref rp, .ref rsi, .ref rke, .ref rkc, .ref rik])), (rz, .inl (cyI, 2490, .inl (yz 0 0)))] (yT cyI cyZ cyO) sz) (yQi (fun (r : Int32) (u : Unit) => r = 0) (dC, dI) [(h0, .inr (11, [.ref rz, .int 0, .int 0, .ref rf, .ref rl, .ref rwx, .ref rb, .int 0, .ref rwd, .ref rk, .ref ra, .int 0, .int 32, .int 0, .ref rs, .ref rt, .int 0, .int 0, .ref rwr, .ref rp, .ref rsi, .ref rke, .ref rkc, .ref rik])), (rz, .inl (cyI, 2490, .inl (yz 0 0)))] (yT cyI cyZ cyO) sz (fun _ => [])) 0 0 (va_A [(h0, .inr (11, [.ref rz, .int 0, .int 0, .ref rf, .ref rl, .ref rwx, .ref rb, .int 0, .ref rwd, .ref rk, .ref ra, .int 0, .int 32, .int 0, .ref rs, .ref rt, .int 0, .int 0, .ref rwr, .ref rp, .ref rsi, .ref rke, .ref rkc, .ref rik])), (rz, .inl (cyI, 2490, .inl (yz 0 0)))] sz) := by
  refine yMet (cc := cX11_reset) (maxL := 2) (ret := (some .int)) (by decide) rfl (Nat.le_of_ble_eq_true rfl) ?_
  intro p e s m below meth c A hx hb hr hlk hml hts hown hnm hsz hAe hP hK hD hA hS ls hl
  have hl : lv_has ls 2 [(0, .ref h0)] := hl
  have hf7 := hts (.fieldLink RX11 7 "BusBridgeModel" "z" "[I") (by decide +kernel)
  have hnX11 : ∀ w ∈ wsX110, w ∈ wsX11_reset := by decide +kernel
  refine lv_aload_n hx hb dX11_reset_0 rfl (lv_at hl 0 rfl) ?_
  refine va_get (D := (dC, dI)) (ci := 11) (v := .ref rz) (C := RX11) (T := TX11) (N := 24) hx hb hts hnX11 hown hK hP 0 rfl rfl 0 (by decide) hf7 (fun _ h9 => h9) rfl dX11_reset_1 ?_
  refine lv_sipush (v := 179) hx hb dX11_reset_4 (by decide) ?_
  refine yy_iald (v := 0) hx hb hK hP 1 0 rfl rfl (yin (by decide)) dX11_reset_7 rfl ?_
  refine lv_istore_n (lv' := [(1, .int 0), (0, .ref h0)]) hx hb dX11_reset_8 rfl hl (by decide) rfl (fun ls hl => ?_)
  refine lv_aload_n hx hb dX11_reset_9 rfl (lv_at hl 1 rfl) ?_
  have hPc := hP.sub (ws' := [(h0, .inr (11, [.ref rz, .int 0, .int 0, .ref rf, .ref rl, .ref rwx, .ref rb, .int 0, .ref rwd, .ref rk, .ref ra, .int 0, .int 32, .int 0, .ref rs, .ref rt, .int 0, .int 0, .ref rwr, .ref rp, .ref rsi, .ref rke, .ref rkc, .ref rik])), (rz, .inl (cyI, 2490, .inl (yz 0 0)))]) [0, 1] rfl
  have hDc := hD.sub (ws' := [(h0, .inr (11, [.ref rz, .int 0, .int 0, .ref rf, .ref rl, .ref rwx, .ref rb, .int 0, .ref rwd, .ref rk, .ref ra, .int 0, .int 32, .int 0, .ref rs, .ref rt, .int 0, .int 0, .ref rwr, .ref rp, .ref rsi, .ref rke, .ref rkc, .ref rik])), (rz, .inl (cyI, 2490, .inl (yz 0 0)))]) [0, 1] (by decide) rfl
  refine yy_callv [0, 1] [] (wr := []) (va_runV (As := []) (rest := []) ⟨hx, hb, hml, hown, hts⟩ (r_begin1 l dC dI cyI cyZ cyO s.heap.size h0 rz rf rl rwx rb rwd rk ra rs rt rwr rp rsi rke rkc rik ) (cwV 0 hts gX11_reset_X11_begin rfl rfl rfl (by decide +kernel) ⟨Nat.le_of_ble_eq_true rfl, Nat.le_of_ble_eq_true rfl⟩) (yPreV hK hPc hDc (ci := 11) (q0 := 0) rfl rfl) rfl rfl hl.1 rfl (lv_room (Nat.le_of_ble_eq_true rfl)) dX11_reset_10 ⟨Nat.le_of_ble_eq_true rfl, Nat.le_of_ble_eq_true rfl⟩) hP hD hS hA rfl rfl (by decide) (by decide) (fun u_1 H locs hw hP hD hS => ?_)
  have hP : va_P (dC, dI) vwCl [(h0, .inr (11, [.ref rz, .int 0, .int 0, .ref rf, .ref rl, .ref rwx, .ref rb, .int 0, .ref rwd, .ref rk, .ref ra, .int 0, .int 32, .int 0, .ref rs, .ref rt, .int 0, .int 0, .ref rwr, .ref rp, .ref rsi, .ref rke, .ref rkc, .ref rik])), (rz, .inl (cyI, 2490, .inl (yz 0 0)))] H := hP
  have hD : va_D A [(h0, .inr (11, [.ref rz, .int 0, .int 0, .ref rf, .ref rl, .ref rwx, .ref rb, .int 0, .ref rwd, .ref rk, .ref ra, .int 0, .int 32, .int 0, .ref rs, .ref rt, .int 0, .int 0, .ref rwr, .ref rp, .ref rsi, .ref rke, .ref rkc, .ref rik])), (rz, .inl (cyI, 2490, .inl (yz 0 0)))] := hD
  refine W.widen (k := 0) (n := 0) (Nat.le_of_ble_eq_true rfl) (Nat.le_of_ble_eq_true rfl) ?_
  refine lv_aload_n hx hb dX11_reset_13 rfl (lv_at hl 1 rfl) ?_
  refine lv_iload_n hx hb dX11_reset_14 rfl (lv_at hl 0 rfl) ?_
  have hPc := hP.sub (ws' := [(h0, .inr (11, [.ref rz, .int 0, .int 0, .ref rf, .ref rl, .ref rwx, .ref rb, .int 0, .ref rwd, .ref rk, .ref ra, .int 0, .int 32, .int 0, .ref rs, .ref rt, .int 0, .int 0, .ref rwr, .ref rp, .ref rsi, .ref rke, .ref rkc, .ref rik]))]) [0] rfl
  have hDc := hD.sub (ws' := [(h0, .inr (11, [.ref rz, .int 0, .int 0, .ref rf, .ref rl, .ref rwx, .ref rb, .int 0, .ref rwd, .ref rk, .ref ra, .int 0, .int 32, .int 0, .ref rs, .ref rt, .int 0, .int 0, .ref rwr, .ref rp, .ref rsi, .ref rke, .ref rkc, .ref rik]))]) [0] (by decide) rfl
  refine yy_calli [0] [1] (wr := [(rz, .inl (cyI, 2490, .inl (yz 0 0)))]) (va_runV (As := [.int 0]) (rest := []) ⟨hx, hb, hml, hown, hts⟩ (r_done l dC dI cyI cyZ cyO H.size h0 rz 0 0 rf rl rwx rb 0 rwd rk ra 0 32 0 rs rt 0 0 rwr rp rsi rke rkc rik 0 ) (cwV 1 hts gX11_reset_X11_done rfl rfl rfl (by decide +kernel) ⟨Nat.le_of_ble_eq_true rfl, Nat.le_of_ble_eq_true rfl⟩) (yPreV hK hPc hDc (ci := 11) (q0 := 0) rfl rfl) rfl rfl hl.1 rfl (lv_room (Nat.le_of_ble_eq_true rfl)) dX11_reset_15 ⟨Nat.le_of_ble_eq_true rfl, Nat.le_of_ble_eq_true rfl⟩) hP hD hS hA rfl rfl (by decide) (by decide) (fun r_3 u_2 H locs hw hP hD hS => ?_)
  have hP : va_P (dC, dI) vwCl [(rz, .inl (cyI, 2490, .inl (yz 0 0))), (h0, .inr (11, [.ref rz, .int 0, .int 0, .ref rf, .ref rl, .ref rwx, .ref rb, .int 0, .ref rwd, .ref rk, .ref ra, .int 0, .int 32, .int 0, .ref rs, .ref rt, .int 0, .int 0, .ref rwr, .ref rp, .ref rsi, .ref rke, .ref rkc, .ref rik]))] H := hP
  have hD : va_D A [(rz, .inl (cyI, 2490, .inl (yz 0 0))), (h0, .inr (11, [.ref rz, .int 0, .int 0, .ref rf, .ref rl, .ref rwx, .ref rb, .int 0, .ref rwd, .ref rk, .ref ra, .int 0, .int 32, .int 0, .ref rs, .ref rt, .int 0, .int 0, .ref rwr, .ref rp, .ref rsi, .ref rke, .ref rkc, .ref rik]))] := hD
  refine W.widen (k := 0) (n := 0) (Nat.le_of_ble_eq_true rfl) (Nat.le_of_ble_eq_true rfl) ?_
  have hw : r_3 = 0 := hw.trans (by decide)
  subst hw
  refine W.widen (k := 0) (n := 0) (Nat.le_of_ble_eq_true rfl) (Nat.le_of_ble_eq_true rfl) ?_
  exact yy_iret (v := 0) () hx hb hr hlk rfl hsz hAe hK hP hD hS [] rfl rfl (by decide) (rfl) dX11_reset_18
set_option maxHeartbeats 4000000 in
set_option maxRecDepth 100000 in
theorem r_transfer (l : Launch) (dC : Nat → ClassId) (dI : Nat → Nat → Nat) (cyI cyZ cyO : ClassId) (sz : Nat) (h0 : Nat) (rz : Nat) (rf : Nat) (rl : Nat) (rwx : Nat) (rb : Nat) (rwd : Nat) (rk : Nat) (ra : Nat) (rs : Nat) (rt : Nat) (rwr : Nat) (rp : Nat) (rsi : Nat) (rke : Nat) (rkc : Nat) (rik : Nat) (a : Int32) (w : Int32) (d : Int32) (k : Int32) (g : Int32)  : Met l yX11_transfer wsX11_transfer ({ frames := 1, cells := 0, slots := 0, locals := 25 }) (yPre [.ref h0, .int a, .int w, .int d, .int k, .int g] (dC, dI) [(h0, .inr (11, [.ref rz, .int 0, .int 0, .ref rf, .ref rl, .ref rwx, .ref rb, .int 0, .ref rwd, .ref rk, .ref ra, .int 0, .int 32, .int 0, .ref rs, .ref rt, .int 0, .int 0, .ref rwr, .ref rp, .ref rsi, .ref rke, .ref rkc, .ref rik])), (rz, .inl (cyI, 2490, .inl (yz 0 0)))] (yT cyI cyZ cyO) sz) (yQi (fun (r : Int32) (u : Unit) => r = (sp_transfer a k g)) (dC, dI) [(h0, .inr (11, [.ref rz, .int 0, .int 0, .ref rf, .ref rl, .ref rwx, .ref rb, .int 0, .ref rwd, .ref rk, .ref ra, .int 0, .int 32, .int 0, .ref rs, .ref rt, .int 0, .int 0, .ref rwr, .ref rp, .ref rsi, .ref rke, .ref rkc, .ref rik])), (rz, .inl (cyI, 2490, .inl (yz 0 0)))] (yT cyI cyZ cyO) sz (fun _ => [])) 0 0 (va_A [(h0, .inr (11, [.ref rz, .int 0, .int 0, .ref rf, .ref rl, .ref rwx, .ref rb, .int 0, .ref rwd, .ref rk, .ref ra, .int 0, .int 32, .int 0, .ref rs, .ref rt, .int 0, .int 0, .ref rwr, .ref rp, .ref rsi, .ref rke, .ref rkc, .ref rik])), (rz, .inl (cyI, 2490, .inl (yz 0 0)))] sz) := by
  refine yMet (cc := cX11_transfer) (maxL := 7) (ret := (some .int)) (by decide) rfl (Nat.le_of_ble_eq_true rfl) ?_
  intro p e s m below meth c A hx hb hr hlk hml hts hown hnm hsz hAe hP hK hD hA hS ls hl
  have hl : lv_has ls 7 [(0, .ref h0), (1, .int a), (2, .int w), (3, .int d), (4, .int k), (5, .int g)] := hl
  have hf7 := hts (.fieldLink RX11 7 "BusBridgeModel" "z" "[I") (by decide +kernel)
  have hl101 := hts (.constantLong RX11 101 7) (by decide +kernel)
  have hl116 := hts (.constantLong RX11 116 65535) (by decide +kernel)
  have hl118 := hts (.constantLong RX11 118 2) (by decide +kernel)
  have hl120 := hts (.constantLong RX11 120 3) (by decide +kernel)
  have hnX11 : ∀ w ∈ wsX110, w ∈ wsX11_transfer := by decide +kernel
  refine lv_iload_n hx hb dX11_transfer_0 rfl (lv_at hl 1 rfl) ?_
  refine lv_i2l hx hb dX11_transfer_1 rfl ?_
  refine lv_lconst (v := (0 : Int32).toInt64) hx hb dX11_transfer_2 (by decide) ?_
  refine lv_ldc2 (v := 65535) hx hb hown hl116 dX11_transfer_3 ?_
  refine yy_long (v := (65535 : Int32).toInt64) (by decide) ?_
  have hPc := hP.sub (ws' := []) [] rfl
  have hDc := hD.sub (ws' := []) [] (by decide) rfl
  refine yy_calli [] [0, 1] (wr := [(h0, .inr (11, [.ref rz, .int 0, .int 0, .ref rf, .ref rl, .ref rwx, .ref rb, .int 0, .ref rwd, .ref rk, .ref ra, .int 0, .int 32, .int 0, .ref rs, .ref rt, .int 0, .int 0, .ref rwr, .ref rp, .ref rsi, .ref rke, .ref rkc, .ref rik])), (rz, .inl (cyI, 2490, .inl (yz 0 0)))]) (va_runS (As := [.long (a : Int32).toInt64, .long (0 : Int32).toInt64, .long (65535 : Int32).toInt64]) (rest := []) ⟨hx, hb, hml, hown, hts⟩ (r_in l dC dI cyI cyZ cyO s.heap.size a 0 65535 ) (va_cwS 3 hts gX11_transfer_X11_in rfl rfl rfl (by decide +kernel) ⟨Nat.le_of_ble_eq_true rfl, Nat.le_of_ble_eq_true rfl⟩) (yPreS hK hPc hDc) rfl rfl hl.1 rfl (lv_room (Nat.le_of_ble_eq_true rfl)) dX11_transfer_6 ⟨Nat.le_of_ble_eq_true rfl, Nat.le_of_ble_eq_true rfl⟩) hP hD hS hA rfl rfl (by decide) (by decide) (fun r_2 u_1 H locs hw hP hD hS => ?_)
  have hP : va_P (dC, dI) vwCl [(h0, .inr (11, [.ref rz, .int 0, .int 0, .ref rf, .ref rl, .ref rwx, .ref rb, .int 0, .ref rwd, .ref rk, .ref ra, .int 0, .int 32, .int 0, .ref rs, .ref rt, .int 0, .int 0, .ref rwr, .ref rp, .ref rsi, .ref rke, .ref rkc, .ref rik])), (rz, .inl (cyI, 2490, .inl (yz 0 0)))] H := hP
  have hD : va_D A [(h0, .inr (11, [.ref rz, .int 0, .int 0, .ref rf, .ref rl, .ref rwx, .ref rb, .int 0, .ref rwd, .ref rk, .ref ra, .int 0, .int 32, .int 0, .ref rs, .ref rt, .int 0, .int 0, .ref rwr, .ref rp, .ref rsi, .ref rke, .ref rkc, .ref rik])), (rz, .inl (cyI, 2490, .inl (yz 0 0)))] := hD
  refine W.widen (k := 0) (n := 0) (Nat.le_of_ble_eq_true rfl) (Nat.le_of_ble_eq_true rfl) ?_
  have hw : r_2 = (zB (0 ≤ a ∧ a ≤ 65535)) := hw
  subst hw
  refine lv_if_eq (tgt := 40) hx hb dX11_transfer_9 (by decide) (fun c9 => ?_) (fun c9 => ?_)
  · refine lv_aload_n hx hb dX11_transfer_40 rfl (lv_at hl 0 rfl) ?_
    refine lv_bipush (v := (-2)) hx hb dX11_transfer_41 (by decide) ?_
    have hPc := hP.sub (ws' := [(h0, .inr (11, [.ref rz, .int 0, .int 0, .ref rf, .ref rl, .ref rwx, .ref rb, .int 0, .ref rwd, .ref rk, .ref ra, .int 0, .int 32, .int 0, .ref rs, .ref rt, .int 0, .int 0, .ref rwr, .ref rp, .ref rsi, .ref rke, .ref rkc, .ref rik]))]) [0] rfl
    have hDc := hD.sub (ws' := [(h0, .inr (11, [.ref rz, .int 0, .int 0, .ref rf, .ref rl, .ref rwx, .ref rb, .int 0, .ref rwd, .ref rk, .ref ra, .int 0, .int 32, .int 0, .ref rs, .ref rt, .int 0, .int 0, .ref rwr, .ref rp, .ref rsi, .ref rke, .ref rkc, .ref rik]))]) [0] (by decide) rfl
    refine yy_calli [0] [1] (wr := [(rz, .inl (cyI, 2490, .inl (yz 0 0)))]) (va_runV (As := [.int (-2)]) (rest := []) ⟨hx, hb, hml, hown, hts⟩ (r_refused l dC dI cyI cyZ cyO H.size h0 rz 0 0 rf rl rwx rb 0 rwd rk ra 0 32 0 rs rt 0 0 rwr rp rsi rke rkc rik (-2) ) (cwV 1 hts gX11_transfer_X11_refused rfl rfl rfl (by decide +kernel) ⟨Nat.le_of_ble_eq_true rfl, Nat.le_of_ble_eq_true rfl⟩) (yPreV hK hPc hDc (ci := 11) (q0 := 0) rfl rfl) rfl rfl hl.1 rfl (lv_room (Nat.le_of_ble_eq_true rfl)) dX11_transfer_43 ⟨Nat.le_of_ble_eq_true rfl, Nat.le_of_ble_eq_true rfl⟩) hP hD hS hA rfl rfl (by decide) (by decide) (fun r_4 u_3 H locs hw hP hD hS => ?_)
    have hP : va_P (dC, dI) vwCl [(rz, .inl (cyI, 2490, .inl (yz 0 0))), (h0, .inr (11, [.ref rz, .int (-2), .int 0, .ref rf, .ref rl, .ref rwx, .ref rb, .int 0, .ref rwd, .ref rk, .ref ra, .int 0, .int 32, .int 0, .ref rs, .ref rt, .int 0, .int 0, .ref rwr, .ref rp, .ref rsi, .ref rke, .ref rkc, .ref rik]))] H := hP
    have hD : va_D A [(rz, .inl (cyI, 2490, .inl (yz 0 0))), (h0, .inr (11, [.ref rz, .int (-2), .int 0, .ref rf, .ref rl, .ref rwx, .ref rb, .int 0, .ref rwd, .ref rk, .ref ra, .int 0, .int 32, .int 0, .ref rs, .ref rt, .int 0, .int 0, .ref rwr, .ref rp, .ref rsi, .ref rke, .ref rkc, .ref rik]))] := hD
    refine W.widen (k := 0) (n := 0) (Nat.le_of_ble_eq_true rfl) (Nat.le_of_ble_eq_true rfl) ?_
    have hw : r_4 = (-2) := hw.trans (by decide)
    subst hw
    refine W.widen (k := 0) (n := 0) (Nat.le_of_ble_eq_true rfl) (Nat.le_of_ble_eq_true rfl) ?_
    exact yy_iret (v := (-2)) () hx hb hr hlk rfl hsz hAe hK hP hD hS [] rfl rfl (by decide) (by (try simp only [zB0, Decidable.not_not] at c9); (try simp only [isW, zB, ← Int32.not_lt, sp_slave, sp_register, sp_depth, sp_limit, sp_transfer, sp_clock, sp_finish, sp_turn, sp_wire, sp_findings, sp_bridge, sp_keep, sp_told, ylc1, ylc2, y14, y2, ykind] at c9 ⊢); (try simp only [Decidable.not_not] at c9 ⊢); (try simp only [c9, not_true_eq_false, not_false_eq_true, false_and, and_false, true_and, and_true, and_self, or_true, true_or, or_false, false_or, or_self, ↓reduceIte]); (try simp only [← and_assoc]); (try simp only [c9, not_true_eq_false, not_false_eq_true, false_and, and_false, true_and, and_true, and_self, or_true, true_or, or_false, false_or, or_self, ↓reduceIte]); (try decide)) dX11_transfer_46
  · refine lv_iload hx hb dX11_transfer_12 (lv_at hl 4 rfl) ?_
    refine lv_i2l hx hb dX11_transfer_14 rfl ?_
    refine lv_ldc2 (v := 2) hx hb hown hl118 dX11_transfer_15 ?_
    refine yy_long (v := (2 : Int32).toInt64) (by decide) ?_
    refine lv_ldc2 (v := 3) hx hb hown hl120 dX11_transfer_18 ?_
    refine yy_long (v := (3 : Int32).toInt64) (by decide) ?_
    have hPc := hP.sub (ws' := []) [] rfl
    have hDc := hD.sub (ws' := []) [] (by decide) rfl
    refine yy_calli [] [0, 1] (wr := [(h0, .inr (11, [.ref rz, .int 0, .int 0, .ref rf, .ref rl, .ref rwx, .ref rb, .int 0, .ref rwd, .ref rk, .ref ra, .int 0, .int 32, .int 0, .ref rs, .ref rt, .int 0, .int 0, .ref rwr, .ref rp, .ref rsi, .ref rke, .ref rkc, .ref rik])), (rz, .inl (cyI, 2490, .inl (yz 0 0)))]) (va_runS (As := [.long (k : Int32).toInt64, .long (2 : Int32).toInt64, .long (3 : Int32).toInt64]) (rest := []) ⟨hx, hb, hml, hown, hts⟩ (r_in l dC dI cyI cyZ cyO H.size k 2 3 ) (va_cwS 3 hts gX11_transfer_X11_in rfl rfl rfl (by decide +kernel) ⟨Nat.le_of_ble_eq_true rfl, Nat.le_of_ble_eq_true rfl⟩) (yPreS hK hPc hDc) rfl rfl hl.1 rfl (lv_room (Nat.le_of_ble_eq_true rfl)) dX11_transfer_21 ⟨Nat.le_of_ble_eq_true rfl, Nat.le_of_ble_eq_true rfl⟩) hP hD hS hA rfl rfl (by decide) (by decide) (fun r_6 u_5 H locs hw hP hD hS => ?_)
    have hP : va_P (dC, dI) vwCl [(h0, .inr (11, [.ref rz, .int 0, .int 0, .ref rf, .ref rl, .ref rwx, .ref rb, .int 0, .ref rwd, .ref rk, .ref ra, .int 0, .int 32, .int 0, .ref rs, .ref rt, .int 0, .int 0, .ref rwr, .ref rp, .ref rsi, .ref rke, .ref rkc, .ref rik])), (rz, .inl (cyI, 2490, .inl (yz 0 0)))] H := hP
    have hD : va_D A [(h0, .inr (11, [.ref rz, .int 0, .int 0, .ref rf, .ref rl, .ref rwx, .ref rb, .int 0, .ref rwd, .ref rk, .ref ra, .int 0, .int 32, .int 0, .ref rs, .ref rt, .int 0, .int 0, .ref rwr, .ref rp, .ref rsi, .ref rke, .ref rkc, .ref rik])), (rz, .inl (cyI, 2490, .inl (yz 0 0)))] := hD
    refine W.widen (k := 0) (n := 0) (Nat.le_of_ble_eq_true rfl) (Nat.le_of_ble_eq_true rfl) ?_
    have hw : r_6 = (zB (2 ≤ k ∧ k ≤ 3)) := hw
    subst hw
    refine lv_if_eq (tgt := 40) hx hb dX11_transfer_24 (by decide) (fun c24 => ?_) (fun c24 => ?_)
    · refine lv_aload_n hx hb dX11_transfer_40 rfl (lv_at hl 0 rfl) ?_
      refine lv_bipush (v := (-2)) hx hb dX11_transfer_41 (by decide) ?_
      have hPc := hP.sub (ws' := [(h0, .inr (11, [.ref rz, .int 0, .int 0, .ref rf, .ref rl, .ref rwx, .ref rb, .int 0, .ref rwd, .ref rk, .ref ra, .int 0, .int 32, .int 0, .ref rs, .ref rt, .int 0, .int 0, .ref rwr, .ref rp, .ref rsi, .ref rke, .ref rkc, .ref rik]))]) [0] rfl
      have hDc := hD.sub (ws' := [(h0, .inr (11, [.ref rz, .int 0, .int 0, .ref rf, .ref rl, .ref rwx, .ref rb, .int 0, .ref rwd, .ref rk, .ref ra, .int 0, .int 32, .int 0, .ref rs, .ref rt, .int 0, .int 0, .ref rwr, .ref rp, .ref rsi, .ref rke, .ref rkc, .ref rik]))]) [0] (by decide) rfl
      refine yy_calli [0] [1] (wr := [(rz, .inl (cyI, 2490, .inl (yz 0 0)))]) (va_runV (As := [.int (-2)]) (rest := []) ⟨hx, hb, hml, hown, hts⟩ (r_refused l dC dI cyI cyZ cyO H.size h0 rz 0 0 rf rl rwx rb 0 rwd rk ra 0 32 0 rs rt 0 0 rwr rp rsi rke rkc rik (-2) ) (cwV 1 hts gX11_transfer_X11_refused rfl rfl rfl (by decide +kernel) ⟨Nat.le_of_ble_eq_true rfl, Nat.le_of_ble_eq_true rfl⟩) (yPreV hK hPc hDc (ci := 11) (q0 := 0) rfl rfl) rfl rfl hl.1 rfl (lv_room (Nat.le_of_ble_eq_true rfl)) dX11_transfer_43 ⟨Nat.le_of_ble_eq_true rfl, Nat.le_of_ble_eq_true rfl⟩) hP hD hS hA rfl rfl (by decide) (by decide) (fun r_8 u_7 H locs hw hP hD hS => ?_)
      have hP : va_P (dC, dI) vwCl [(rz, .inl (cyI, 2490, .inl (yz 0 0))), (h0, .inr (11, [.ref rz, .int (-2), .int 0, .ref rf, .ref rl, .ref rwx, .ref rb, .int 0, .ref rwd, .ref rk, .ref ra, .int 0, .int 32, .int 0, .ref rs, .ref rt, .int 0, .int 0, .ref rwr, .ref rp, .ref rsi, .ref rke, .ref rkc, .ref rik]))] H := hP
      have hD : va_D A [(rz, .inl (cyI, 2490, .inl (yz 0 0))), (h0, .inr (11, [.ref rz, .int (-2), .int 0, .ref rf, .ref rl, .ref rwx, .ref rb, .int 0, .ref rwd, .ref rk, .ref ra, .int 0, .int 32, .int 0, .ref rs, .ref rt, .int 0, .int 0, .ref rwr, .ref rp, .ref rsi, .ref rke, .ref rkc, .ref rik]))] := hD
      refine W.widen (k := 0) (n := 0) (Nat.le_of_ble_eq_true rfl) (Nat.le_of_ble_eq_true rfl) ?_
      have hw : r_8 = (-2) := hw.trans (by decide)
      subst hw
      refine W.widen (k := 0) (n := 0) (Nat.le_of_ble_eq_true rfl) (Nat.le_of_ble_eq_true rfl) ?_
      exact yy_iret (v := (-2)) () hx hb hr hlk rfl hsz hAe hK hP hD hS [] rfl rfl (by decide) (by (try simp only [zB0, Decidable.not_not] at c9 c24); (try simp only [isW, zB, ← Int32.not_lt, sp_slave, sp_register, sp_depth, sp_limit, sp_transfer, sp_clock, sp_finish, sp_turn, sp_wire, sp_findings, sp_bridge, sp_keep, sp_told, ylc1, ylc2, y14, y2, ykind] at c9 c24 ⊢); (try simp only [Decidable.not_not] at c9 c24 ⊢); (try simp only [c9, c24, not_true_eq_false, not_false_eq_true, false_and, and_false, true_and, and_true, and_self, or_true, true_or, or_false, false_or, or_self, ↓reduceIte]); (try simp only [← and_assoc]); (try simp only [c9, c24, not_true_eq_false, not_false_eq_true, false_and, and_false, true_and, and_true, and_self, or_true, true_or, or_false, false_or, or_self, ↓reduceIte]); (try decide)) dX11_transfer_46
    · refine lv_iload hx hb dX11_transfer_27 (lv_at hl 5 rfl) ?_
      refine lv_i2l hx hb dX11_transfer_29 rfl ?_
      refine lv_lconst (v := (0 : Int32).toInt64) hx hb dX11_transfer_30 (by decide) ?_
      refine lv_ldc2 (v := 7) hx hb hown hl101 dX11_transfer_31 ?_
      refine yy_long (v := (7 : Int32).toInt64) (by decide) ?_
      have hPc := hP.sub (ws' := []) [] rfl
      have hDc := hD.sub (ws' := []) [] (by decide) rfl
      refine yy_calli [] [0, 1] (wr := [(h0, .inr (11, [.ref rz, .int 0, .int 0, .ref rf, .ref rl, .ref rwx, .ref rb, .int 0, .ref rwd, .ref rk, .ref ra, .int 0, .int 32, .int 0, .ref rs, .ref rt, .int 0, .int 0, .ref rwr, .ref rp, .ref rsi, .ref rke, .ref rkc, .ref rik])), (rz, .inl (cyI, 2490, .inl (yz 0 0)))]) (va_runS (As := [.long (g : Int32).toInt64, .long (0 : Int32).toInt64, .long (7 : Int32).toInt64]) (rest := []) ⟨hx, hb, hml, hown, hts⟩ (r_in l dC dI cyI cyZ cyO H.size g 0 7 ) (va_cwS 3 hts gX11_transfer_X11_in rfl rfl rfl (by decide +kernel) ⟨Nat.le_of_ble_eq_true rfl, Nat.le_of_ble_eq_true rfl⟩) (yPreS hK hPc hDc) rfl rfl hl.1 rfl (lv_room (Nat.le_of_ble_eq_true rfl)) dX11_transfer_34 ⟨Nat.le_of_ble_eq_true rfl, Nat.le_of_ble_eq_true rfl⟩) hP hD hS hA rfl rfl (by decide) (by decide) (fun r_10 u_9 H locs hw hP hD hS => ?_)
      have hP : va_P (dC, dI) vwCl [(h0, .inr (11, [.ref rz, .int 0, .int 0, .ref rf, .ref rl, .ref rwx, .ref rb, .int 0, .ref rwd, .ref rk, .ref ra, .int 0, .int 32, .int 0, .ref rs, .ref rt, .int 0, .int 0, .ref rwr, .ref rp, .ref rsi, .ref rke, .ref rkc, .ref rik])), (rz, .inl (cyI, 2490, .inl (yz 0 0)))] H := hP
      have hD : va_D A [(h0, .inr (11, [.ref rz, .int 0, .int 0, .ref rf, .ref rl, .ref rwx, .ref rb, .int 0, .ref rwd, .ref rk, .ref ra, .int 0, .int 32, .int 0, .ref rs, .ref rt, .int 0, .int 0, .ref rwr, .ref rp, .ref rsi, .ref rke, .ref rkc, .ref rik])), (rz, .inl (cyI, 2490, .inl (yz 0 0)))] := hD
      refine W.widen (k := 0) (n := 0) (Nat.le_of_ble_eq_true rfl) (Nat.le_of_ble_eq_true rfl) ?_
      have hw : r_10 = (zB (0 ≤ g ∧ g ≤ 7)) := hw
      subst hw
      refine lv_if_ne (tgt := 47) hx hb dX11_transfer_37 (by decide) (fun c37 => ?_) (fun c37 => ?_)
      · refine lv_aload_n hx hb dX11_transfer_47 rfl (lv_at hl 0 rfl) ?_
        refine va_get (D := (dC, dI)) (ci := 11) (v := .ref rz) (C := RX11) (T := TX11) (N := 24) hx hb hts hnX11 hown hK hP 0 rfl rfl 0 (by decide) hf7 (fun _ h9 => h9) rfl dX11_transfer_48 ?_
        refine lv_sipush (v := 212) hx hb dX11_transfer_51 (by decide) ?_
        refine yy_iald (v := 0) hx hb hK hP 1 0 rfl rfl (yin (by decide)) dX11_transfer_54 rfl ?_
        refine lv_bipush (v := 60) hx hb dX11_transfer_55 (by decide) ?_
        refine lv_icmp_ne (tgt := 67) hx hb dX11_transfer_57 (by decide) (fun _ => ?_) (fun c => absurd c (by decide))
        refine lv_sipush (v := 350) hx hb dX11_transfer_67 (by decide) ?_
        refine lv_bipush (v := 9) hx hb dX11_transfer_70 (by decide) ?_
        refine lv_aload_n hx hb dX11_transfer_72 rfl (lv_at hl 0 rfl) ?_
        refine va_get (D := (dC, dI)) (ci := 11) (v := .ref rz) (C := RX11) (T := TX11) (N := 24) hx hb hts hnX11 hown hK hP 0 rfl rfl 0 (by decide) hf7 (fun _ h9 => h9) rfl dX11_transfer_73 ?_
        refine lv_sipush (v := 212) hx hb dX11_transfer_76 (by decide) ?_
        refine yy_iald (v := 0) hx hb hK hP 1 0 rfl rfl (yin (by decide)) dX11_transfer_79 rfl ?_
        refine lv_imul hx hb dX11_transfer_80 ?_
        refine yy_int (v := 0) (by decide) ?_
        refine lv_iadd hx hb dX11_transfer_81 ?_
        refine yy_int (v := 350) (by decide) ?_
        refine lv_istore (lv' := [(6, .int 350), (0, .ref h0), (1, .int a), (2, .int w), (3, .int d), (4, .int k), (5, .int g)]) hx hb dX11_transfer_82 hl (by decide) rfl (fun ls hl => ?_)
        refine lv_aload_n hx hb dX11_transfer_84 rfl (lv_at hl 1 rfl) ?_
        refine va_get (D := (dC, dI)) (ci := 11) (v := .ref rz) (C := RX11) (T := TX11) (N := 24) hx hb hts hnX11 hown hK hP 0 rfl rfl 0 (by decide) hf7 (fun _ h9 => h9) rfl dX11_transfer_85 ?_
        refine lv_iload hx hb dX11_transfer_88 (lv_at hl 0 rfl) ?_
        refine lv_iconst (v := 0) hx hb dX11_transfer_90 (by decide) ?_
        refine lv_iadd hx hb dX11_transfer_91 ?_
        refine yy_int (v := 350) (by decide) ?_
        refine lv_iload_n hx hb dX11_transfer_92 rfl (lv_at hl 2 rfl) ?_
        refine yy_iast (f' := (upd (yz 0 0) 350 a)) hx hb hK hP hD hS 1 0 rfl rfl (yin (by decide)) dX11_transfer_93 rfl (fun H locs hP hD hS => ?_)
        have hP : va_P (dC, dI) vwCl [(h0, .inr (11, [.ref rz, .int 0, .int 0, .ref rf, .ref rl, .ref rwx, .ref rb, .int 0, .ref rwd, .ref rk, .ref ra, .int 0, .int 32, .int 0, .ref rs, .ref rt, .int 0, .int 0, .ref rwr, .ref rp, .ref rsi, .ref rke, .ref rkc, .ref rik])), (rz, .inl (cyI, 2490, .inl (upd (yz 0 0) 350 a)))] H := hP
        have hD : va_D A [(h0, .inr (11, [.ref rz, .int 0, .int 0, .ref rf, .ref rl, .ref rwx, .ref rb, .int 0, .ref rwd, .ref rk, .ref ra, .int 0, .int 32, .int 0, .ref rs, .ref rt, .int 0, .int 0, .ref rwr, .ref rp, .ref rsi, .ref rke, .ref rkc, .ref rik])), (rz, .inl (cyI, 2490, .inl (upd (yz 0 0) 350 a)))] := hD
        refine lv_aload_n hx hb dX11_transfer_94 rfl (lv_at hl 1 rfl) ?_
        refine va_get (D := (dC, dI)) (ci := 11) (v := .ref rz) (C := RX11) (T := TX11) (N := 24) hx hb hts hnX11 hown hK hP 0 rfl rfl 0 (by decide) hf7 (fun _ h9 => h9) rfl dX11_transfer_95 ?_
        refine lv_iload hx hb dX11_transfer_98 (lv_at hl 0 rfl) ?_
        refine lv_iconst (v := 1) hx hb dX11_transfer_100 (by decide) ?_
        refine lv_iadd hx hb dX11_transfer_101 ?_
        refine yy_int (v := 351) (by decide) ?_
        refine lv_iload_n hx hb dX11_transfer_102 rfl (lv_at hl 3 rfl) ?_
        refine lv_if_eq (tgt := 110) hx hb dX11_transfer_103 (by decide) (fun c103 => ?_) (fun c103 => ?_)
        · refine lv_iconst (v := 0) hx hb dX11_transfer_110 (by decide) ?_
          refine yy_iast (f' := (upd (yz 0 0) 350 a)) hx hb hK hP hD hS 1 0 rfl rfl (yin (by decide)) dX11_transfer_111 (yid rfl) (fun H locs hP hD hS => ?_)
          have hP : va_P (dC, dI) vwCl [(h0, .inr (11, [.ref rz, .int 0, .int 0, .ref rf, .ref rl, .ref rwx, .ref rb, .int 0, .ref rwd, .ref rk, .ref ra, .int 0, .int 32, .int 0, .ref rs, .ref rt, .int 0, .int 0, .ref rwr, .ref rp, .ref rsi, .ref rke, .ref rkc, .ref rik])), (rz, .inl (cyI, 2490, .inl (upd (yz 0 0) 350 a)))] H := hP
          have hD : va_D A [(h0, .inr (11, [.ref rz, .int 0, .int 0, .ref rf, .ref rl, .ref rwx, .ref rb, .int 0, .ref rwd, .ref rk, .ref ra, .int 0, .int 32, .int 0, .ref rs, .ref rt, .int 0, .int 0, .ref rwr, .ref rp, .ref rsi, .ref rke, .ref rkc, .ref rik])), (rz, .inl (cyI, 2490, .inl (upd (yz 0 0) 350 a)))] := hD
          refine lv_aload_n hx hb dX11_transfer_112 rfl (lv_at hl 1 rfl) ?_
          refine va_get (D := (dC, dI)) (ci := 11) (v := .ref rz) (C := RX11) (T := TX11) (N := 24) hx hb hts hnX11 hown hK hP 0 rfl rfl 0 (by decide) hf7 (fun _ h9 => h9) rfl dX11_transfer_113 ?_
          refine lv_iload hx hb dX11_transfer_116 (lv_at hl 0 rfl) ?_
          refine lv_iconst (v := 2) hx hb dX11_transfer_118 (by decide) ?_
          refine lv_iadd hx hb dX11_transfer_119 ?_
          refine yy_int (v := 352) (by decide) ?_
          refine lv_iload_n hx hb dX11_transfer_120 rfl (lv_at hl 4 rfl) ?_
          refine yy_iast (f' := (upd (upd (yz 0 0) 350 a) 352 d)) hx hb hK hP hD hS 1 0 rfl rfl (yin (by decide)) dX11_transfer_121 rfl (fun H locs hP hD hS => ?_)
          have hP : va_P (dC, dI) vwCl [(h0, .inr (11, [.ref rz, .int 0, .int 0, .ref rf, .ref rl, .ref rwx, .ref rb, .int 0, .ref rwd, .ref rk, .ref ra, .int 0, .int 32, .int 0, .ref rs, .ref rt, .int 0, .int 0, .ref rwr, .ref rp, .ref rsi, .ref rke, .ref rkc, .ref rik])), (rz, .inl (cyI, 2490, .inl (upd (upd (yz 0 0) 350 a) 352 d)))] H := hP
          have hD : va_D A [(h0, .inr (11, [.ref rz, .int 0, .int 0, .ref rf, .ref rl, .ref rwx, .ref rb, .int 0, .ref rwd, .ref rk, .ref ra, .int 0, .int 32, .int 0, .ref rs, .ref rt, .int 0, .int 0, .ref rwr, .ref rp, .ref rsi, .ref rke, .ref rkc, .ref rik])), (rz, .inl (cyI, 2490, .inl (upd (upd (yz 0 0) 350 a) 352 d)))] := hD
          refine lv_aload_n hx hb dX11_transfer_122 rfl (lv_at hl 1 rfl) ?_
          refine va_get (D := (dC, dI)) (ci := 11) (v := .ref rz) (C := RX11) (T := TX11) (N := 24) hx hb hts hnX11 hown hK hP 0 rfl rfl 0 (by decide) hf7 (fun _ h9 => h9) rfl dX11_transfer_123 ?_
          refine lv_iload hx hb dX11_transfer_126 (lv_at hl 0 rfl) ?_
          refine lv_iconst (v := 3) hx hb dX11_transfer_128 (by decide) ?_
          refine lv_iadd hx hb dX11_transfer_129 ?_
          refine yy_int (v := 353) (by decide) ?_
          refine lv_iload hx hb dX11_transfer_130 (lv_at hl 5 rfl) ?_
          refine yy_iast (f' := (upd (upd (upd (yz 0 0) 350 a) 352 d) 353 k)) hx hb hK hP hD hS 1 0 rfl rfl (yin (by decide)) dX11_transfer_132 rfl (fun H locs hP hD hS => ?_)
          have hP : va_P (dC, dI) vwCl [(h0, .inr (11, [.ref rz, .int 0, .int 0, .ref rf, .ref rl, .ref rwx, .ref rb, .int 0, .ref rwd, .ref rk, .ref ra, .int 0, .int 32, .int 0, .ref rs, .ref rt, .int 0, .int 0, .ref rwr, .ref rp, .ref rsi, .ref rke, .ref rkc, .ref rik])), (rz, .inl (cyI, 2490, .inl (upd (upd (upd (yz 0 0) 350 a) 352 d) 353 k)))] H := hP
          have hD : va_D A [(h0, .inr (11, [.ref rz, .int 0, .int 0, .ref rf, .ref rl, .ref rwx, .ref rb, .int 0, .ref rwd, .ref rk, .ref ra, .int 0, .int 32, .int 0, .ref rs, .ref rt, .int 0, .int 0, .ref rwr, .ref rp, .ref rsi, .ref rke, .ref rkc, .ref rik])), (rz, .inl (cyI, 2490, .inl (upd (upd (upd (yz 0 0) 350 a) 352 d) 353 k)))] := hD
          refine lv_aload_n hx hb dX11_transfer_133 rfl (lv_at hl 1 rfl) ?_
          refine va_get (D := (dC, dI)) (ci := 11) (v := .ref rz) (C := RX11) (T := TX11) (N := 24) hx hb hts hnX11 hown hK hP 0 rfl rfl 0 (by decide) hf7 (fun _ h9 => h9) rfl dX11_transfer_134 ?_
          refine lv_iload hx hb dX11_transfer_137 (lv_at hl 0 rfl) ?_
          refine lv_iconst (v := 4) hx hb dX11_transfer_139 (by decide) ?_
          refine lv_iadd hx hb dX11_transfer_140 ?_
          refine yy_int (v := 354) (by decide) ?_
          refine lv_iload hx hb dX11_transfer_141 (lv_at hl 6 rfl) ?_
          refine yy_iast (f' := (upd (upd (upd (upd (yz 0 0) 350 a) 352 d) 353 k) 354 g)) hx hb hK hP hD hS 1 0 rfl rfl (yin (by decide)) dX11_transfer_143 rfl (fun H locs hP hD hS => ?_)
          have hP : va_P (dC, dI) vwCl [(h0, .inr (11, [.ref rz, .int 0, .int 0, .ref rf, .ref rl, .ref rwx, .ref rb, .int 0, .ref rwd, .ref rk, .ref ra, .int 0, .int 32, .int 0, .ref rs, .ref rt, .int 0, .int 0, .ref rwr, .ref rp, .ref rsi, .ref rke, .ref rkc, .ref rik])), (rz, .inl (cyI, 2490, .inl (upd (upd (upd (upd (yz 0 0) 350 a) 352 d) 353 k) 354 g)))] H := hP
          have hD : va_D A [(h0, .inr (11, [.ref rz, .int 0, .int 0, .ref rf, .ref rl, .ref rwx, .ref rb, .int 0, .ref rwd, .ref rk, .ref ra, .int 0, .int 32, .int 0, .ref rs, .ref rt, .int 0, .int 0, .ref rwr, .ref rp, .ref rsi, .ref rke, .ref rkc, .ref rik])), (rz, .inl (cyI, 2490, .inl (upd (upd (upd (upd (yz 0 0) 350 a) 352 d) 353 k) 354 g)))] := hD
          refine lv_aload_n hx hb dX11_transfer_144 rfl (lv_at hl 1 rfl) ?_
          refine va_get (D := (dC, dI)) (ci := 11) (v := .ref rz) (C := RX11) (T := TX11) (N := 24) hx hb hts hnX11 hown hK hP 0 rfl rfl 0 (by decide) hf7 (fun _ h9 => h9) rfl dX11_transfer_145 ?_
          refine lv_iload hx hb dX11_transfer_148 (lv_at hl 0 rfl) ?_
          refine lv_iconst (v := 5) hx hb dX11_transfer_150 (by decide) ?_
          refine lv_iadd hx hb dX11_transfer_151 ?_
          refine yy_int (v := 355) (by decide) ?_
          refine lv_iconst (v := 0) hx hb dX11_transfer_152 (by decide) ?_
          refine yy_iast (f' := (upd (upd (upd (upd (yz 0 0) 350 a) 352 d) 353 k) 354 g)) hx hb hK hP hD hS 1 0 rfl rfl (yin (by decide)) dX11_transfer_153 (yid rfl) (fun H locs hP hD hS => ?_)
          have hP : va_P (dC, dI) vwCl [(h0, .inr (11, [.ref rz, .int 0, .int 0, .ref rf, .ref rl, .ref rwx, .ref rb, .int 0, .ref rwd, .ref rk, .ref ra, .int 0, .int 32, .int 0, .ref rs, .ref rt, .int 0, .int 0, .ref rwr, .ref rp, .ref rsi, .ref rke, .ref rkc, .ref rik])), (rz, .inl (cyI, 2490, .inl (upd (upd (upd (upd (yz 0 0) 350 a) 352 d) 353 k) 354 g)))] H := hP
          have hD : va_D A [(h0, .inr (11, [.ref rz, .int 0, .int 0, .ref rf, .ref rl, .ref rwx, .ref rb, .int 0, .ref rwd, .ref rk, .ref ra, .int 0, .int 32, .int 0, .ref rs, .ref rt, .int 0, .int 0, .ref rwr, .ref rp, .ref rsi, .ref rke, .ref rkc, .ref rik])), (rz, .inl (cyI, 2490, .inl (upd (upd (upd (upd (yz 0 0) 350 a) 352 d) 353 k) 354 g)))] := hD
          refine lv_aload_n hx hb dX11_transfer_154 rfl (lv_at hl 1 rfl) ?_
          refine va_get (D := (dC, dI)) (ci := 11) (v := .ref rz) (C := RX11) (T := TX11) (N := 24) hx hb hts hnX11 hown hK hP 0 rfl rfl 0 (by decide) hf7 (fun _ h9 => h9) rfl dX11_transfer_155 ?_
          refine lv_iload hx hb dX11_transfer_158 (lv_at hl 0 rfl) ?_
          refine lv_bipush (v := 6) hx hb dX11_transfer_160 (by decide) ?_
          refine lv_iadd hx hb dX11_transfer_162 ?_
          refine yy_int (v := 356) (by decide) ?_
          refine lv_iconst (v := 0) hx hb dX11_transfer_163 (by decide) ?_
          refine yy_iast (f' := (upd (upd (upd (upd (yz 0 0) 350 a) 352 d) 353 k) 354 g)) hx hb hK hP hD hS 1 0 rfl rfl (yin (by decide)) dX11_transfer_164 (yid rfl) (fun H locs hP hD hS => ?_)
          have hP : va_P (dC, dI) vwCl [(h0, .inr (11, [.ref rz, .int 0, .int 0, .ref rf, .ref rl, .ref rwx, .ref rb, .int 0, .ref rwd, .ref rk, .ref ra, .int 0, .int 32, .int 0, .ref rs, .ref rt, .int 0, .int 0, .ref rwr, .ref rp, .ref rsi, .ref rke, .ref rkc, .ref rik])), (rz, .inl (cyI, 2490, .inl (upd (upd (upd (upd (yz 0 0) 350 a) 352 d) 353 k) 354 g)))] H := hP
          have hD : va_D A [(h0, .inr (11, [.ref rz, .int 0, .int 0, .ref rf, .ref rl, .ref rwx, .ref rb, .int 0, .ref rwd, .ref rk, .ref ra, .int 0, .int 32, .int 0, .ref rs, .ref rt, .int 0, .int 0, .ref rwr, .ref rp, .ref rsi, .ref rke, .ref rkc, .ref rik])), (rz, .inl (cyI, 2490, .inl (upd (upd (upd (upd (yz 0 0) 350 a) 352 d) 353 k) 354 g)))] := hD
          refine lv_aload_n hx hb dX11_transfer_165 rfl (lv_at hl 1 rfl) ?_
          refine va_get (D := (dC, dI)) (ci := 11) (v := .ref rz) (C := RX11) (T := TX11) (N := 24) hx hb hts hnX11 hown hK hP 0 rfl rfl 0 (by decide) hf7 (fun _ h9 => h9) rfl dX11_transfer_166 ?_
          refine lv_iload hx hb dX11_transfer_169 (lv_at hl 0 rfl) ?_
          refine lv_bipush (v := 7) hx hb dX11_transfer_171 (by decide) ?_
          refine lv_iadd hx hb dX11_transfer_173 ?_
          refine yy_int (v := 357) (by decide) ?_
          refine lv_bipush (v := (-6)) hx hb dX11_transfer_174 (by decide) ?_
          refine yy_iast (f' := (upd (upd (upd (upd (upd (yz 0 0) 350 a) 352 d) 353 k) 354 g) 357 (-6))) hx hb hK hP hD hS 1 0 rfl rfl (yin (by decide)) dX11_transfer_176 rfl (fun H locs hP hD hS => ?_)
          have hP : va_P (dC, dI) vwCl [(h0, .inr (11, [.ref rz, .int 0, .int 0, .ref rf, .ref rl, .ref rwx, .ref rb, .int 0, .ref rwd, .ref rk, .ref ra, .int 0, .int 32, .int 0, .ref rs, .ref rt, .int 0, .int 0, .ref rwr, .ref rp, .ref rsi, .ref rke, .ref rkc, .ref rik])), (rz, .inl (cyI, 2490, .inl (upd (upd (upd (upd (upd (yz 0 0) 350 a) 352 d) 353 k) 354 g) 357 (-6))))] H := hP
          have hD : va_D A [(h0, .inr (11, [.ref rz, .int 0, .int 0, .ref rf, .ref rl, .ref rwx, .ref rb, .int 0, .ref rwd, .ref rk, .ref ra, .int 0, .int 32, .int 0, .ref rs, .ref rt, .int 0, .int 0, .ref rwr, .ref rp, .ref rsi, .ref rke, .ref rkc, .ref rik])), (rz, .inl (cyI, 2490, .inl (upd (upd (upd (upd (upd (yz 0 0) 350 a) 352 d) 353 k) 354 g) 357 (-6))))] := hD
          refine lv_aload_n hx hb dX11_transfer_177 rfl (lv_at hl 1 rfl) ?_
          refine va_get (D := (dC, dI)) (ci := 11) (v := .ref rz) (C := RX11) (T := TX11) (N := 24) hx hb hts hnX11 hown hK hP 0 rfl rfl 0 (by decide) hf7 (fun _ h9 => h9) rfl dX11_transfer_178 ?_
          refine lv_iload hx hb dX11_transfer_181 (lv_at hl 0 rfl) ?_
          refine lv_bipush (v := 8) hx hb dX11_transfer_183 (by decide) ?_
          refine lv_iadd hx hb dX11_transfer_185 ?_
          refine yy_int (v := 358) (by decide) ?_
          refine lv_bipush (v := (-6)) hx hb dX11_transfer_186 (by decide) ?_
          refine yy_iast (f' := (upd (upd (upd (upd (upd (upd (yz 0 0) 350 a) 352 d) 353 k) 354 g) 357 (-6)) 358 (-6))) hx hb hK hP hD hS 1 0 rfl rfl (yin (by decide)) dX11_transfer_188 rfl (fun H locs hP hD hS => ?_)
          have hP : va_P (dC, dI) vwCl [(h0, .inr (11, [.ref rz, .int 0, .int 0, .ref rf, .ref rl, .ref rwx, .ref rb, .int 0, .ref rwd, .ref rk, .ref ra, .int 0, .int 32, .int 0, .ref rs, .ref rt, .int 0, .int 0, .ref rwr, .ref rp, .ref rsi, .ref rke, .ref rkc, .ref rik])), (rz, .inl (cyI, 2490, .inl (upd (upd (upd (upd (upd (upd (yz 0 0) 350 a) 352 d) 353 k) 354 g) 357 (-6)) 358 (-6))))] H := hP
          have hD : va_D A [(h0, .inr (11, [.ref rz, .int 0, .int 0, .ref rf, .ref rl, .ref rwx, .ref rb, .int 0, .ref rwd, .ref rk, .ref ra, .int 0, .int 32, .int 0, .ref rs, .ref rt, .int 0, .int 0, .ref rwr, .ref rp, .ref rsi, .ref rke, .ref rkc, .ref rik])), (rz, .inl (cyI, 2490, .inl (upd (upd (upd (upd (upd (upd (yz 0 0) 350 a) 352 d) 353 k) 354 g) 357 (-6)) 358 (-6))))] := hD
          refine lv_aload_n hx hb dX11_transfer_189 rfl (lv_at hl 1 rfl) ?_
          refine va_get (D := (dC, dI)) (ci := 11) (v := .ref rz) (C := RX11) (T := TX11) (N := 24) hx hb hts hnX11 hown hK hP 0 rfl rfl 0 (by decide) hf7 (fun _ h9 => h9) rfl dX11_transfer_190 ?_
          refine lv_sipush (v := 212) hx hb dX11_transfer_193 (by decide) ?_
          refine lv_dup2_11 hx hb dX11_transfer_196 rfl rfl ?_
          refine yy_iald (v := 0) hx hb hK hP 1 0 rfl rfl (yin (by decide)) dX11_transfer_197 rfl ?_
          refine lv_iconst (v := 1) hx hb dX11_transfer_198 (by decide) ?_
          refine lv_iadd hx hb dX11_transfer_199 ?_
          refine yy_int (v := 1) (by decide) ?_
          refine yy_iast (f' := (upd (upd (upd (upd (upd (upd (upd (yz 0 0) 350 a) 352 d) 353 k) 354 g) 357 (-6)) 358 (-6)) 212 1)) hx hb hK hP hD hS 1 0 rfl rfl (yin (by decide)) dX11_transfer_200 rfl (fun H locs hP hD hS => ?_)
          have hP : va_P (dC, dI) vwCl [(h0, .inr (11, [.ref rz, .int 0, .int 0, .ref rf, .ref rl, .ref rwx, .ref rb, .int 0, .ref rwd, .ref rk, .ref ra, .int 0, .int 32, .int 0, .ref rs, .ref rt, .int 0, .int 0, .ref rwr, .ref rp, .ref rsi, .ref rke, .ref rkc, .ref rik])), (rz, .inl (cyI, 2490, .inl (upd (upd (upd (upd (upd (upd (upd (yz 0 0) 350 a) 352 d) 353 k) 354 g) 357 (-6)) 358 (-6)) 212 1)))] H := hP
          have hD : va_D A [(h0, .inr (11, [.ref rz, .int 0, .int 0, .ref rf, .ref rl, .ref rwx, .ref rb, .int 0, .ref rwd, .ref rk, .ref ra, .int 0, .int 32, .int 0, .ref rs, .ref rt, .int 0, .int 0, .ref rwr, .ref rp, .ref rsi, .ref rke, .ref rkc, .ref rik])), (rz, .inl (cyI, 2490, .inl (upd (upd (upd (upd (upd (upd (upd (yz 0 0) 350 a) 352 d) 353 k) 354 g) 357 (-6)) 358 (-6)) 212 1)))] := hD
          refine lv_aload_n hx hb dX11_transfer_201 rfl (lv_at hl 1 rfl) ?_
          refine lv_aload_n hx hb dX11_transfer_202 rfl (lv_at hl 1 rfl) ?_
          refine va_get (D := (dC, dI)) (ci := 11) (v := .ref rz) (C := RX11) (T := TX11) (N := 24) hx hb hts hnX11 hown hK hP 0 rfl rfl 0 (by decide) hf7 (fun _ h9 => h9) rfl dX11_transfer_203 ?_
          refine lv_sipush (v := 212) hx hb dX11_transfer_206 (by decide) ?_
          refine yy_iald (v := 1) hx hb hK hP 1 0 rfl rfl (yin (by decide)) dX11_transfer_209 rfl ?_
          refine lv_iconst (v := 1) hx hb dX11_transfer_210 (by decide) ?_
          refine lv_isub hx hb dX11_transfer_211 ?_
          refine yy_int (v := 0) (by decide) ?_
          have hPc := hP.sub (ws' := [(h0, .inr (11, [.ref rz, .int 0, .int 0, .ref rf, .ref rl, .ref rwx, .ref rb, .int 0, .ref rwd, .ref rk, .ref ra, .int 0, .int 32, .int 0, .ref rs, .ref rt, .int 0, .int 0, .ref rwr, .ref rp, .ref rsi, .ref rke, .ref rkc, .ref rik]))]) [0] rfl
          have hDc := hD.sub (ws' := [(h0, .inr (11, [.ref rz, .int 0, .int 0, .ref rf, .ref rl, .ref rwx, .ref rb, .int 0, .ref rwd, .ref rk, .ref ra, .int 0, .int 32, .int 0, .ref rs, .ref rt, .int 0, .int 0, .ref rwr, .ref rp, .ref rsi, .ref rke, .ref rkc, .ref rik]))]) [0] (by decide) rfl
          refine yy_calli [0] [1] (wr := [(rz, .inl (cyI, 2490, .inl (upd (upd (upd (upd (upd (upd (upd (yz 0 0) 350 a) 352 d) 353 k) 354 g) 357 (-6)) 358 (-6)) 212 1)))]) (va_runV (As := [.int 0]) (rest := []) ⟨hx, hb, hml, hown, hts⟩ (r_done l dC dI cyI cyZ cyO H.size h0 rz 0 0 rf rl rwx rb 0 rwd rk ra 0 32 0 rs rt 0 0 rwr rp rsi rke rkc rik 0 ) (cwV 1 hts gX11_transfer_X11_done rfl rfl rfl (by decide +kernel) ⟨Nat.le_of_ble_eq_true rfl, Nat.le_of_ble_eq_true rfl⟩) (yPreV hK hPc hDc (ci := 11) (q0 := 0) rfl rfl) rfl rfl hl.1 rfl (lv_room (Nat.le_of_ble_eq_true rfl)) dX11_transfer_212 ⟨Nat.le_of_ble_eq_true rfl, Nat.le_of_ble_eq_true rfl⟩) hP hD hS hA rfl rfl (by decide) (by decide) (fun r_12 u_11 H locs hw hP hD hS => ?_)
          have hP : va_P (dC, dI) vwCl [(rz, .inl (cyI, 2490, .inl (upd (upd (upd (upd (upd (upd (upd (yz 0 0) 350 a) 352 d) 353 k) 354 g) 357 (-6)) 358 (-6)) 212 1))), (h0, .inr (11, [.ref rz, .int 0, .int 0, .ref rf, .ref rl, .ref rwx, .ref rb, .int 0, .ref rwd, .ref rk, .ref ra, .int 0, .int 32, .int 0, .ref rs, .ref rt, .int 0, .int 0, .ref rwr, .ref rp, .ref rsi, .ref rke, .ref rkc, .ref rik]))] H := hP
          have hD : va_D A [(rz, .inl (cyI, 2490, .inl (upd (upd (upd (upd (upd (upd (upd (yz 0 0) 350 a) 352 d) 353 k) 354 g) 357 (-6)) 358 (-6)) 212 1))), (h0, .inr (11, [.ref rz, .int 0, .int 0, .ref rf, .ref rl, .ref rwx, .ref rb, .int 0, .ref rwd, .ref rk, .ref ra, .int 0, .int 32, .int 0, .ref rs, .ref rt, .int 0, .int 0, .ref rwr, .ref rp, .ref rsi, .ref rke, .ref rkc, .ref rik]))] := hD
          refine W.widen (k := 0) (n := 0) (Nat.le_of_ble_eq_true rfl) (Nat.le_of_ble_eq_true rfl) ?_
          have hw : r_12 = 0 := hw.trans (by decide)
          subst hw
          refine W.widen (k := 0) (n := 0) (Nat.le_of_ble_eq_true rfl) (Nat.le_of_ble_eq_true rfl) ?_
          exact yy_iret (v := 0) () hx hb hr hlk rfl hsz hAe hK hP hD hS [] rfl rfl (by decide) (by (try simp only [zB0, Decidable.not_not] at c9 c24 c37 c103); (try simp only [isW, zB, ← Int32.not_lt, sp_slave, sp_register, sp_depth, sp_limit, sp_transfer, sp_clock, sp_finish, sp_turn, sp_wire, sp_findings, sp_bridge, sp_keep, sp_told, ylc1, ylc2, y14, y2, ykind] at c9 c24 c37 c103 ⊢); (try simp only [Decidable.not_not] at c9 c24 c37 c103 ⊢); (try simp only [c9, c24, c37, c103, not_true_eq_false, not_false_eq_true, false_and, and_false, true_and, and_true, and_self, or_true, true_or, or_false, false_or, or_self, ↓reduceIte]); (try simp only [← and_assoc]); (try simp only [c9, c24, c37, c103, not_true_eq_false, not_false_eq_true, false_and, and_false, true_and, and_true, and_self, or_true, true_or, or_false, false_or, or_self, ↓reduceIte]); (try decide)) dX11_transfer_215
        · refine lv_iconst (v := 1) hx hb dX11_transfer_106 (by decide) ?_
          refine lv_goto (tgt := 111) hx hb dX11_transfer_107 (by decide) ?_
          refine yy_iast (f' := (upd (upd (yz 0 0) 350 a) 351 1)) hx hb hK hP hD hS 1 0 rfl rfl (yin (by decide)) dX11_transfer_111 rfl (fun H locs hP hD hS => ?_)
          have hP : va_P (dC, dI) vwCl [(h0, .inr (11, [.ref rz, .int 0, .int 0, .ref rf, .ref rl, .ref rwx, .ref rb, .int 0, .ref rwd, .ref rk, .ref ra, .int 0, .int 32, .int 0, .ref rs, .ref rt, .int 0, .int 0, .ref rwr, .ref rp, .ref rsi, .ref rke, .ref rkc, .ref rik])), (rz, .inl (cyI, 2490, .inl (upd (upd (yz 0 0) 350 a) 351 1)))] H := hP
          have hD : va_D A [(h0, .inr (11, [.ref rz, .int 0, .int 0, .ref rf, .ref rl, .ref rwx, .ref rb, .int 0, .ref rwd, .ref rk, .ref ra, .int 0, .int 32, .int 0, .ref rs, .ref rt, .int 0, .int 0, .ref rwr, .ref rp, .ref rsi, .ref rke, .ref rkc, .ref rik])), (rz, .inl (cyI, 2490, .inl (upd (upd (yz 0 0) 350 a) 351 1)))] := hD
          refine lv_aload_n hx hb dX11_transfer_112 rfl (lv_at hl 1 rfl) ?_
          refine va_get (D := (dC, dI)) (ci := 11) (v := .ref rz) (C := RX11) (T := TX11) (N := 24) hx hb hts hnX11 hown hK hP 0 rfl rfl 0 (by decide) hf7 (fun _ h9 => h9) rfl dX11_transfer_113 ?_
          refine lv_iload hx hb dX11_transfer_116 (lv_at hl 0 rfl) ?_
          refine lv_iconst (v := 2) hx hb dX11_transfer_118 (by decide) ?_
          refine lv_iadd hx hb dX11_transfer_119 ?_
          refine yy_int (v := 352) (by decide) ?_
          refine lv_iload_n hx hb dX11_transfer_120 rfl (lv_at hl 4 rfl) ?_
          refine yy_iast (f' := (upd (upd (upd (yz 0 0) 350 a) 351 1) 352 d)) hx hb hK hP hD hS 1 0 rfl rfl (yin (by decide)) dX11_transfer_121 rfl (fun H locs hP hD hS => ?_)
          have hP : va_P (dC, dI) vwCl [(h0, .inr (11, [.ref rz, .int 0, .int 0, .ref rf, .ref rl, .ref rwx, .ref rb, .int 0, .ref rwd, .ref rk, .ref ra, .int 0, .int 32, .int 0, .ref rs, .ref rt, .int 0, .int 0, .ref rwr, .ref rp, .ref rsi, .ref rke, .ref rkc, .ref rik])), (rz, .inl (cyI, 2490, .inl (upd (upd (upd (yz 0 0) 350 a) 351 1) 352 d)))] H := hP
          have hD : va_D A [(h0, .inr (11, [.ref rz, .int 0, .int 0, .ref rf, .ref rl, .ref rwx, .ref rb, .int 0, .ref rwd, .ref rk, .ref ra, .int 0, .int 32, .int 0, .ref rs, .ref rt, .int 0, .int 0, .ref rwr, .ref rp, .ref rsi, .ref rke, .ref rkc, .ref rik])), (rz, .inl (cyI, 2490, .inl (upd (upd (upd (yz 0 0) 350 a) 351 1) 352 d)))] := hD
          refine lv_aload_n hx hb dX11_transfer_122 rfl (lv_at hl 1 rfl) ?_
          refine va_get (D := (dC, dI)) (ci := 11) (v := .ref rz) (C := RX11) (T := TX11) (N := 24) hx hb hts hnX11 hown hK hP 0 rfl rfl 0 (by decide) hf7 (fun _ h9 => h9) rfl dX11_transfer_123 ?_
          refine lv_iload hx hb dX11_transfer_126 (lv_at hl 0 rfl) ?_
          refine lv_iconst (v := 3) hx hb dX11_transfer_128 (by decide) ?_
          refine lv_iadd hx hb dX11_transfer_129 ?_
          refine yy_int (v := 353) (by decide) ?_
          refine lv_iload hx hb dX11_transfer_130 (lv_at hl 5 rfl) ?_
          refine yy_iast (f' := (upd (upd (upd (upd (yz 0 0) 350 a) 351 1) 352 d) 353 k)) hx hb hK hP hD hS 1 0 rfl rfl (yin (by decide)) dX11_transfer_132 rfl (fun H locs hP hD hS => ?_)
          have hP : va_P (dC, dI) vwCl [(h0, .inr (11, [.ref rz, .int 0, .int 0, .ref rf, .ref rl, .ref rwx, .ref rb, .int 0, .ref rwd, .ref rk, .ref ra, .int 0, .int 32, .int 0, .ref rs, .ref rt, .int 0, .int 0, .ref rwr, .ref rp, .ref rsi, .ref rke, .ref rkc, .ref rik])), (rz, .inl (cyI, 2490, .inl (upd (upd (upd (upd (yz 0 0) 350 a) 351 1) 352 d) 353 k)))] H := hP
          have hD : va_D A [(h0, .inr (11, [.ref rz, .int 0, .int 0, .ref rf, .ref rl, .ref rwx, .ref rb, .int 0, .ref rwd, .ref rk, .ref ra, .int 0, .int 32, .int 0, .ref rs, .ref rt, .int 0, .int 0, .ref rwr, .ref rp, .ref rsi, .ref rke, .ref rkc, .ref rik])), (rz, .inl (cyI, 2490, .inl (upd (upd (upd (upd (yz 0 0) 350 a) 351 1) 352 d) 353 k)))] := hD
          refine lv_aload_n hx hb dX11_transfer_133 rfl (lv_at hl 1 rfl) ?_
          refine va_get (D := (dC, dI)) (ci := 11) (v := .ref rz) (C := RX11) (T := TX11) (N := 24) hx hb hts hnX11 hown hK hP 0 rfl rfl 0 (by decide) hf7 (fun _ h9 => h9) rfl dX11_transfer_134 ?_
          refine lv_iload hx hb dX11_transfer_137 (lv_at hl 0 rfl) ?_
          refine lv_iconst (v := 4) hx hb dX11_transfer_139 (by decide) ?_
          refine lv_iadd hx hb dX11_transfer_140 ?_
          refine yy_int (v := 354) (by decide) ?_
          refine lv_iload hx hb dX11_transfer_141 (lv_at hl 6 rfl) ?_
          refine yy_iast (f' := (upd (upd (upd (upd (upd (yz 0 0) 350 a) 351 1) 352 d) 353 k) 354 g)) hx hb hK hP hD hS 1 0 rfl rfl (yin (by decide)) dX11_transfer_143 rfl (fun H locs hP hD hS => ?_)
          have hP : va_P (dC, dI) vwCl [(h0, .inr (11, [.ref rz, .int 0, .int 0, .ref rf, .ref rl, .ref rwx, .ref rb, .int 0, .ref rwd, .ref rk, .ref ra, .int 0, .int 32, .int 0, .ref rs, .ref rt, .int 0, .int 0, .ref rwr, .ref rp, .ref rsi, .ref rke, .ref rkc, .ref rik])), (rz, .inl (cyI, 2490, .inl (upd (upd (upd (upd (upd (yz 0 0) 350 a) 351 1) 352 d) 353 k) 354 g)))] H := hP
          have hD : va_D A [(h0, .inr (11, [.ref rz, .int 0, .int 0, .ref rf, .ref rl, .ref rwx, .ref rb, .int 0, .ref rwd, .ref rk, .ref ra, .int 0, .int 32, .int 0, .ref rs, .ref rt, .int 0, .int 0, .ref rwr, .ref rp, .ref rsi, .ref rke, .ref rkc, .ref rik])), (rz, .inl (cyI, 2490, .inl (upd (upd (upd (upd (upd (yz 0 0) 350 a) 351 1) 352 d) 353 k) 354 g)))] := hD
          refine lv_aload_n hx hb dX11_transfer_144 rfl (lv_at hl 1 rfl) ?_
          refine va_get (D := (dC, dI)) (ci := 11) (v := .ref rz) (C := RX11) (T := TX11) (N := 24) hx hb hts hnX11 hown hK hP 0 rfl rfl 0 (by decide) hf7 (fun _ h9 => h9) rfl dX11_transfer_145 ?_
          refine lv_iload hx hb dX11_transfer_148 (lv_at hl 0 rfl) ?_
          refine lv_iconst (v := 5) hx hb dX11_transfer_150 (by decide) ?_
          refine lv_iadd hx hb dX11_transfer_151 ?_
          refine yy_int (v := 355) (by decide) ?_
          refine lv_iconst (v := 0) hx hb dX11_transfer_152 (by decide) ?_
          refine yy_iast (f' := (upd (upd (upd (upd (upd (yz 0 0) 350 a) 351 1) 352 d) 353 k) 354 g)) hx hb hK hP hD hS 1 0 rfl rfl (yin (by decide)) dX11_transfer_153 (yid rfl) (fun H locs hP hD hS => ?_)
          have hP : va_P (dC, dI) vwCl [(h0, .inr (11, [.ref rz, .int 0, .int 0, .ref rf, .ref rl, .ref rwx, .ref rb, .int 0, .ref rwd, .ref rk, .ref ra, .int 0, .int 32, .int 0, .ref rs, .ref rt, .int 0, .int 0, .ref rwr, .ref rp, .ref rsi, .ref rke, .ref rkc, .ref rik])), (rz, .inl (cyI, 2490, .inl (upd (upd (upd (upd (upd (yz 0 0) 350 a) 351 1) 352 d) 353 k) 354 g)))] H := hP
          have hD : va_D A [(h0, .inr (11, [.ref rz, .int 0, .int 0, .ref rf, .ref rl, .ref rwx, .ref rb, .int 0, .ref rwd, .ref rk, .ref ra, .int 0, .int 32, .int 0, .ref rs, .ref rt, .int 0, .int 0, .ref rwr, .ref rp, .ref rsi, .ref rke, .ref rkc, .ref rik])), (rz, .inl (cyI, 2490, .inl (upd (upd (upd (upd (upd (yz 0 0) 350 a) 351 1) 352 d) 353 k) 354 g)))] := hD
          refine lv_aload_n hx hb dX11_transfer_154 rfl (lv_at hl 1 rfl) ?_
          refine va_get (D := (dC, dI)) (ci := 11) (v := .ref rz) (C := RX11) (T := TX11) (N := 24) hx hb hts hnX11 hown hK hP 0 rfl rfl 0 (by decide) hf7 (fun _ h9 => h9) rfl dX11_transfer_155 ?_
          refine lv_iload hx hb dX11_transfer_158 (lv_at hl 0 rfl) ?_
          refine lv_bipush (v := 6) hx hb dX11_transfer_160 (by decide) ?_
          refine lv_iadd hx hb dX11_transfer_162 ?_
          refine yy_int (v := 356) (by decide) ?_
          refine lv_iconst (v := 0) hx hb dX11_transfer_163 (by decide) ?_
          refine yy_iast (f' := (upd (upd (upd (upd (upd (yz 0 0) 350 a) 351 1) 352 d) 353 k) 354 g)) hx hb hK hP hD hS 1 0 rfl rfl (yin (by decide)) dX11_transfer_164 (yid rfl) (fun H locs hP hD hS => ?_)
          have hP : va_P (dC, dI) vwCl [(h0, .inr (11, [.ref rz, .int 0, .int 0, .ref rf, .ref rl, .ref rwx, .ref rb, .int 0, .ref rwd, .ref rk, .ref ra, .int 0, .int 32, .int 0, .ref rs, .ref rt, .int 0, .int 0, .ref rwr, .ref rp, .ref rsi, .ref rke, .ref rkc, .ref rik])), (rz, .inl (cyI, 2490, .inl (upd (upd (upd (upd (upd (yz 0 0) 350 a) 351 1) 352 d) 353 k) 354 g)))] H := hP
          have hD : va_D A [(h0, .inr (11, [.ref rz, .int 0, .int 0, .ref rf, .ref rl, .ref rwx, .ref rb, .int 0, .ref rwd, .ref rk, .ref ra, .int 0, .int 32, .int 0, .ref rs, .ref rt, .int 0, .int 0, .ref rwr, .ref rp, .ref rsi, .ref rke, .ref rkc, .ref rik])), (rz, .inl (cyI, 2490, .inl (upd (upd (upd (upd (upd (yz 0 0) 350 a) 351 1) 352 d) 353 k) 354 g)))] := hD
          refine lv_aload_n hx hb dX11_transfer_165 rfl (lv_at hl 1 rfl) ?_
          refine va_get (D := (dC, dI)) (ci := 11) (v := .ref rz) (C := RX11) (T := TX11) (N := 24) hx hb hts hnX11 hown hK hP 0 rfl rfl 0 (by decide) hf7 (fun _ h9 => h9) rfl dX11_transfer_166 ?_
          refine lv_iload hx hb dX11_transfer_169 (lv_at hl 0 rfl) ?_
          refine lv_bipush (v := 7) hx hb dX11_transfer_171 (by decide) ?_
          refine lv_iadd hx hb dX11_transfer_173 ?_
          refine yy_int (v := 357) (by decide) ?_
          refine lv_bipush (v := (-6)) hx hb dX11_transfer_174 (by decide) ?_
          refine yy_iast (f' := (upd (upd (upd (upd (upd (upd (yz 0 0) 350 a) 351 1) 352 d) 353 k) 354 g) 357 (-6))) hx hb hK hP hD hS 1 0 rfl rfl (yin (by decide)) dX11_transfer_176 rfl (fun H locs hP hD hS => ?_)
          have hP : va_P (dC, dI) vwCl [(h0, .inr (11, [.ref rz, .int 0, .int 0, .ref rf, .ref rl, .ref rwx, .ref rb, .int 0, .ref rwd, .ref rk, .ref ra, .int 0, .int 32, .int 0, .ref rs, .ref rt, .int 0, .int 0, .ref rwr, .ref rp, .ref rsi, .ref rke, .ref rkc, .ref rik])), (rz, .inl (cyI, 2490, .inl (upd (upd (upd (upd (upd (upd (yz 0 0) 350 a) 351 1) 352 d) 353 k) 354 g) 357 (-6))))] H := hP
          have hD : va_D A [(h0, .inr (11, [.ref rz, .int 0, .int 0, .ref rf, .ref rl, .ref rwx, .ref rb, .int 0, .ref rwd, .ref rk, .ref ra, .int 0, .int 32, .int 0, .ref rs, .ref rt, .int 0, .int 0, .ref rwr, .ref rp, .ref rsi, .ref rke, .ref rkc, .ref rik])), (rz, .inl (cyI, 2490, .inl (upd (upd (upd (upd (upd (upd (yz 0 0) 350 a) 351 1) 352 d) 353 k) 354 g) 357 (-6))))] := hD
          refine lv_aload_n hx hb dX11_transfer_177 rfl (lv_at hl 1 rfl) ?_
          refine va_get (D := (dC, dI)) (ci := 11) (v := .ref rz) (C := RX11) (T := TX11) (N := 24) hx hb hts hnX11 hown hK hP 0 rfl rfl 0 (by decide) hf7 (fun _ h9 => h9) rfl dX11_transfer_178 ?_
          refine lv_iload hx hb dX11_transfer_181 (lv_at hl 0 rfl) ?_
          refine lv_bipush (v := 8) hx hb dX11_transfer_183 (by decide) ?_
          refine lv_iadd hx hb dX11_transfer_185 ?_
          refine yy_int (v := 358) (by decide) ?_
          refine lv_bipush (v := (-6)) hx hb dX11_transfer_186 (by decide) ?_
          refine yy_iast (f' := (upd (upd (upd (upd (upd (upd (upd (yz 0 0) 350 a) 351 1) 352 d) 353 k) 354 g) 357 (-6)) 358 (-6))) hx hb hK hP hD hS 1 0 rfl rfl (yin (by decide)) dX11_transfer_188 rfl (fun H locs hP hD hS => ?_)
          have hP : va_P (dC, dI) vwCl [(h0, .inr (11, [.ref rz, .int 0, .int 0, .ref rf, .ref rl, .ref rwx, .ref rb, .int 0, .ref rwd, .ref rk, .ref ra, .int 0, .int 32, .int 0, .ref rs, .ref rt, .int 0, .int 0, .ref rwr, .ref rp, .ref rsi, .ref rke, .ref rkc, .ref rik])), (rz, .inl (cyI, 2490, .inl (upd (upd (upd (upd (upd (upd (upd (yz 0 0) 350 a) 351 1) 352 d) 353 k) 354 g) 357 (-6)) 358 (-6))))] H := hP
          have hD : va_D A [(h0, .inr (11, [.ref rz, .int 0, .int 0, .ref rf, .ref rl, .ref rwx, .ref rb, .int 0, .ref rwd, .ref rk, .ref ra, .int 0, .int 32, .int 0, .ref rs, .ref rt, .int 0, .int 0, .ref rwr, .ref rp, .ref rsi, .ref rke, .ref rkc, .ref rik])), (rz, .inl (cyI, 2490, .inl (upd (upd (upd (upd (upd (upd (upd (yz 0 0) 350 a) 351 1) 352 d) 353 k) 354 g) 357 (-6)) 358 (-6))))] := hD
          refine lv_aload_n hx hb dX11_transfer_189 rfl (lv_at hl 1 rfl) ?_
          refine va_get (D := (dC, dI)) (ci := 11) (v := .ref rz) (C := RX11) (T := TX11) (N := 24) hx hb hts hnX11 hown hK hP 0 rfl rfl 0 (by decide) hf7 (fun _ h9 => h9) rfl dX11_transfer_190 ?_
          refine lv_sipush (v := 212) hx hb dX11_transfer_193 (by decide) ?_
          refine lv_dup2_11 hx hb dX11_transfer_196 rfl rfl ?_
          refine yy_iald (v := 0) hx hb hK hP 1 0 rfl rfl (yin (by decide)) dX11_transfer_197 rfl ?_
          refine lv_iconst (v := 1) hx hb dX11_transfer_198 (by decide) ?_
          refine lv_iadd hx hb dX11_transfer_199 ?_
          refine yy_int (v := 1) (by decide) ?_
          refine yy_iast (f' := (upd (upd (upd (upd (upd (upd (upd (upd (yz 0 0) 350 a) 351 1) 352 d) 353 k) 354 g) 357 (-6)) 358 (-6)) 212 1)) hx hb hK hP hD hS 1 0 rfl rfl (yin (by decide)) dX11_transfer_200 rfl (fun H locs hP hD hS => ?_)
          have hP : va_P (dC, dI) vwCl [(h0, .inr (11, [.ref rz, .int 0, .int 0, .ref rf, .ref rl, .ref rwx, .ref rb, .int 0, .ref rwd, .ref rk, .ref ra, .int 0, .int 32, .int 0, .ref rs, .ref rt, .int 0, .int 0, .ref rwr, .ref rp, .ref rsi, .ref rke, .ref rkc, .ref rik])), (rz, .inl (cyI, 2490, .inl (upd (upd (upd (upd (upd (upd (upd (upd (yz 0 0) 350 a) 351 1) 352 d) 353 k) 354 g) 357 (-6)) 358 (-6)) 212 1)))] H := hP
          have hD : va_D A [(h0, .inr (11, [.ref rz, .int 0, .int 0, .ref rf, .ref rl, .ref rwx, .ref rb, .int 0, .ref rwd, .ref rk, .ref ra, .int 0, .int 32, .int 0, .ref rs, .ref rt, .int 0, .int 0, .ref rwr, .ref rp, .ref rsi, .ref rke, .ref rkc, .ref rik])), (rz, .inl (cyI, 2490, .inl (upd (upd (upd (upd (upd (upd (upd (upd (yz 0 0) 350 a) 351 1) 352 d) 353 k) 354 g) 357 (-6)) 358 (-6)) 212 1)))] := hD
          refine lv_aload_n hx hb dX11_transfer_201 rfl (lv_at hl 1 rfl) ?_
          refine lv_aload_n hx hb dX11_transfer_202 rfl (lv_at hl 1 rfl) ?_
          refine va_get (D := (dC, dI)) (ci := 11) (v := .ref rz) (C := RX11) (T := TX11) (N := 24) hx hb hts hnX11 hown hK hP 0 rfl rfl 0 (by decide) hf7 (fun _ h9 => h9) rfl dX11_transfer_203 ?_
          refine lv_sipush (v := 212) hx hb dX11_transfer_206 (by decide) ?_
          refine yy_iald (v := 1) hx hb hK hP 1 0 rfl rfl (yin (by decide)) dX11_transfer_209 rfl ?_
          refine lv_iconst (v := 1) hx hb dX11_transfer_210 (by decide) ?_
          refine lv_isub hx hb dX11_transfer_211 ?_
          refine yy_int (v := 0) (by decide) ?_
          have hPc := hP.sub (ws' := [(h0, .inr (11, [.ref rz, .int 0, .int 0, .ref rf, .ref rl, .ref rwx, .ref rb, .int 0, .ref rwd, .ref rk, .ref ra, .int 0, .int 32, .int 0, .ref rs, .ref rt, .int 0, .int 0, .ref rwr, .ref rp, .ref rsi, .ref rke, .ref rkc, .ref rik]))]) [0] rfl
          have hDc := hD.sub (ws' := [(h0, .inr (11, [.ref rz, .int 0, .int 0, .ref rf, .ref rl, .ref rwx, .ref rb, .int 0, .ref rwd, .ref rk, .ref ra, .int 0, .int 32, .int 0, .ref rs, .ref rt, .int 0, .int 0, .ref rwr, .ref rp, .ref rsi, .ref rke, .ref rkc, .ref rik]))]) [0] (by decide) rfl
          refine yy_calli [0] [1] (wr := [(rz, .inl (cyI, 2490, .inl (upd (upd (upd (upd (upd (upd (upd (upd (yz 0 0) 350 a) 351 1) 352 d) 353 k) 354 g) 357 (-6)) 358 (-6)) 212 1)))]) (va_runV (As := [.int 0]) (rest := []) ⟨hx, hb, hml, hown, hts⟩ (r_done l dC dI cyI cyZ cyO H.size h0 rz 0 0 rf rl rwx rb 0 rwd rk ra 0 32 0 rs rt 0 0 rwr rp rsi rke rkc rik 0 ) (cwV 1 hts gX11_transfer_X11_done rfl rfl rfl (by decide +kernel) ⟨Nat.le_of_ble_eq_true rfl, Nat.le_of_ble_eq_true rfl⟩) (yPreV hK hPc hDc (ci := 11) (q0 := 0) rfl rfl) rfl rfl hl.1 rfl (lv_room (Nat.le_of_ble_eq_true rfl)) dX11_transfer_212 ⟨Nat.le_of_ble_eq_true rfl, Nat.le_of_ble_eq_true rfl⟩) hP hD hS hA rfl rfl (by decide) (by decide) (fun r_14 u_13 H locs hw hP hD hS => ?_)
          have hP : va_P (dC, dI) vwCl [(rz, .inl (cyI, 2490, .inl (upd (upd (upd (upd (upd (upd (upd (upd (yz 0 0) 350 a) 351 1) 352 d) 353 k) 354 g) 357 (-6)) 358 (-6)) 212 1))), (h0, .inr (11, [.ref rz, .int 0, .int 0, .ref rf, .ref rl, .ref rwx, .ref rb, .int 0, .ref rwd, .ref rk, .ref ra, .int 0, .int 32, .int 0, .ref rs, .ref rt, .int 0, .int 0, .ref rwr, .ref rp, .ref rsi, .ref rke, .ref rkc, .ref rik]))] H := hP
          have hD : va_D A [(rz, .inl (cyI, 2490, .inl (upd (upd (upd (upd (upd (upd (upd (upd (yz 0 0) 350 a) 351 1) 352 d) 353 k) 354 g) 357 (-6)) 358 (-6)) 212 1))), (h0, .inr (11, [.ref rz, .int 0, .int 0, .ref rf, .ref rl, .ref rwx, .ref rb, .int 0, .ref rwd, .ref rk, .ref ra, .int 0, .int 32, .int 0, .ref rs, .ref rt, .int 0, .int 0, .ref rwr, .ref rp, .ref rsi, .ref rke, .ref rkc, .ref rik]))] := hD
          refine W.widen (k := 0) (n := 0) (Nat.le_of_ble_eq_true rfl) (Nat.le_of_ble_eq_true rfl) ?_
          have hw : r_14 = 0 := hw.trans (by decide)
          subst hw
          refine W.widen (k := 0) (n := 0) (Nat.le_of_ble_eq_true rfl) (Nat.le_of_ble_eq_true rfl) ?_
          exact yy_iret (v := 0) () hx hb hr hlk rfl hsz hAe hK hP hD hS [] rfl rfl (by decide) (by (try simp only [zB0, Decidable.not_not] at c9 c24 c37 c103); (try simp only [isW, zB, ← Int32.not_lt, sp_slave, sp_register, sp_depth, sp_limit, sp_transfer, sp_clock, sp_finish, sp_turn, sp_wire, sp_findings, sp_bridge, sp_keep, sp_told, ylc1, ylc2, y14, y2, ykind] at c9 c24 c37 c103 ⊢); (try simp only [Decidable.not_not] at c9 c24 c37 c103 ⊢); (try simp only [c9, c24, c37, c103, not_true_eq_false, not_false_eq_true, false_and, and_false, true_and, and_true, and_self, or_true, true_or, or_false, false_or, or_self, ↓reduceIte]); (try simp only [← and_assoc]); (try simp only [c9, c24, c37, c103, not_true_eq_false, not_false_eq_true, false_and, and_false, true_and, and_true, and_self, or_true, true_or, or_false, false_or, or_self, ↓reduceIte]); (try decide)) dX11_transfer_215
      · refine lv_aload_n hx hb dX11_transfer_40 rfl (lv_at hl 0 rfl) ?_
        refine lv_bipush (v := (-2)) hx hb dX11_transfer_41 (by decide) ?_
        have hPc := hP.sub (ws' := [(h0, .inr (11, [.ref rz, .int 0, .int 0, .ref rf, .ref rl, .ref rwx, .ref rb, .int 0, .ref rwd, .ref rk, .ref ra, .int 0, .int 32, .int 0, .ref rs, .ref rt, .int 0, .int 0, .ref rwr, .ref rp, .ref rsi, .ref rke, .ref rkc, .ref rik]))]) [0] rfl
        have hDc := hD.sub (ws' := [(h0, .inr (11, [.ref rz, .int 0, .int 0, .ref rf, .ref rl, .ref rwx, .ref rb, .int 0, .ref rwd, .ref rk, .ref ra, .int 0, .int 32, .int 0, .ref rs, .ref rt, .int 0, .int 0, .ref rwr, .ref rp, .ref rsi, .ref rke, .ref rkc, .ref rik]))]) [0] (by decide) rfl
        refine yy_calli [0] [1] (wr := [(rz, .inl (cyI, 2490, .inl (yz 0 0)))]) (va_runV (As := [.int (-2)]) (rest := []) ⟨hx, hb, hml, hown, hts⟩ (r_refused l dC dI cyI cyZ cyO H.size h0 rz 0 0 rf rl rwx rb 0 rwd rk ra 0 32 0 rs rt 0 0 rwr rp rsi rke rkc rik (-2) ) (cwV 1 hts gX11_transfer_X11_refused rfl rfl rfl (by decide +kernel) ⟨Nat.le_of_ble_eq_true rfl, Nat.le_of_ble_eq_true rfl⟩) (yPreV hK hPc hDc (ci := 11) (q0 := 0) rfl rfl) rfl rfl hl.1 rfl (lv_room (Nat.le_of_ble_eq_true rfl)) dX11_transfer_43 ⟨Nat.le_of_ble_eq_true rfl, Nat.le_of_ble_eq_true rfl⟩) hP hD hS hA rfl rfl (by decide) (by decide) (fun r_16 u_15 H locs hw hP hD hS => ?_)
        have hP : va_P (dC, dI) vwCl [(rz, .inl (cyI, 2490, .inl (yz 0 0))), (h0, .inr (11, [.ref rz, .int (-2), .int 0, .ref rf, .ref rl, .ref rwx, .ref rb, .int 0, .ref rwd, .ref rk, .ref ra, .int 0, .int 32, .int 0, .ref rs, .ref rt, .int 0, .int 0, .ref rwr, .ref rp, .ref rsi, .ref rke, .ref rkc, .ref rik]))] H := hP
        have hD : va_D A [(rz, .inl (cyI, 2490, .inl (yz 0 0))), (h0, .inr (11, [.ref rz, .int (-2), .int 0, .ref rf, .ref rl, .ref rwx, .ref rb, .int 0, .ref rwd, .ref rk, .ref ra, .int 0, .int 32, .int 0, .ref rs, .ref rt, .int 0, .int 0, .ref rwr, .ref rp, .ref rsi, .ref rke, .ref rkc, .ref rik]))] := hD
        refine W.widen (k := 0) (n := 0) (Nat.le_of_ble_eq_true rfl) (Nat.le_of_ble_eq_true rfl) ?_
        have hw : r_16 = (-2) := hw.trans (by decide)
        subst hw
        refine W.widen (k := 0) (n := 0) (Nat.le_of_ble_eq_true rfl) (Nat.le_of_ble_eq_true rfl) ?_
        exact yy_iret (v := (-2)) () hx hb hr hlk rfl hsz hAe hK hP hD hS [] rfl rfl (by decide) (by (try simp only [zB0, Decidable.not_not] at c9 c24 c37); (try simp only [isW, zB, ← Int32.not_lt, sp_slave, sp_register, sp_depth, sp_limit, sp_transfer, sp_clock, sp_finish, sp_turn, sp_wire, sp_findings, sp_bridge, sp_keep, sp_told, ylc1, ylc2, y14, y2, ykind] at c9 c24 c37 ⊢); (try simp only [Decidable.not_not] at c9 c24 c37 ⊢); (try simp only [c9, c24, c37, not_true_eq_false, not_false_eq_true, false_and, and_false, true_and, and_true, and_self, or_true, true_or, or_false, false_or, or_self, ↓reduceIte]); (try simp only [← and_assoc]); (try simp only [c9, c24, c37, not_true_eq_false, not_false_eq_true, false_and, and_false, true_and, and_true, and_self, or_true, true_or, or_false, false_or, or_self, ↓reduceIte]); (try decide)) dX11_transfer_46
set_option maxHeartbeats 4000000 in
set_option maxRecDepth 100000 in
theorem rp_X11_isFinished_150 (l : Launch) (dC : Nat → ClassId) (dI : Nat → Nat → Nat) (cyI cyZ cyO : ClassId) (sz : Nat) (a0 : Nat) (a1 : Nat) (a2 : Nat) (a3 : Nat) (a4 : Nat) (a5 : Nat) (a6 : Nat) (a7 : Nat) (a8 : Nat) (a9 : Nat) (a10 : Nat) (a11 : Nat) (a12 : Nat) (a13 : Nat) (a14 : Nat) (a15 : Nat) (a16 : Nat)  : Met l yX11_isFinished wsX11_isFinished ({ frames := 0, cells := 0, slots := 0, locals := 0 }) (yPre [.ref a0] (dC, dI) [(a0, .inr (11, [.ref a1, .int 0, .int 0, .ref a2, .ref a3, .ref a4, .ref a5, .int 0, .ref a6, .ref a7, .ref a8, .int 0, .int 32, .int 0, .ref a9, .ref a10, .int 0, .int 0, .ref a11, .ref a12, .ref a13, .ref a14, .ref a15, .ref a16])), (a1, .inl (cyI, 2490, .inl (yz 0 0)))] (yT cyI cyZ cyO) sz) (yQi (fun (r : Int32) (u : Unit) => r = 1) (dC, dI) [(a0, .inr (11, [.ref a1, .int 0, .int 0, .ref a2, .ref a3, .ref a4, .ref a5, .int 0, .ref a6, .ref a7, .ref a8, .int 0, .int 32, .int 0, .ref a9, .ref a10, .int 0, .int 0, .ref a11, .ref a12, .ref a13, .ref a14, .ref a15, .ref a16])), (a1, .inl (cyI, 2490, .inl (yz 0 0)))] (yT cyI cyZ cyO) sz (fun _ => [(a0, .inr (11, [.ref a1, .int 0, .int 0, .ref a2, .ref a3, .ref a4, .ref a5, .int 0, .ref a6, .ref a7, .ref a8, .int 0, .int 32, .int 0, .ref a9, .ref a10, .int 0, .int 0, .ref a11, .ref a12, .ref a13, .ref a14, .ref a15, .ref a16])), (a1, .inl (cyI, 2490, .inl (yz 0 0)))])) 0 0 (va_A [(a0, .inr (11, [.ref a1, .int 0, .int 0, .ref a2, .ref a3, .ref a4, .ref a5, .int 0, .ref a6, .ref a7, .ref a8, .int 0, .int 32, .int 0, .ref a9, .ref a10, .int 0, .int 0, .ref a11, .ref a12, .ref a13, .ref a14, .ref a15, .ref a16])), (a1, .inl (cyI, 2490, .inl (yz 0 0)))] sz) := by
  refine yMet (cc := cX11_isFinished) (maxL := 3) (ret := (some .boolean)) (by decide) rfl (Nat.le_of_ble_eq_true rfl) ?_
  intro p e s m below meth c A hx hb hr hlk hml hts hown hnm hsz hAe hP hK hD hA hS ls hl
  have hl : lv_has ls 3 [(0, .ref a0)] := hl
  have hf7 := hts (.fieldLink RX11 7 "BusBridgeModel" "z" "[I") (by decide +kernel)
  have hnX11 : ∀ w ∈ wsX110, w ∈ wsX11_isFinished := by decide +kernel
  refine lv_aload_n hx hb dX11_isFinished_0 rfl (lv_at hl 0 rfl) ?_
  refine va_get (D := (dC, dI)) (ci := 11) (v := .ref a1) (C := RX11) (T := TX11) (N := 24) hx hb hts hnX11 hown hK hP 0 rfl rfl 0 (by decide) hf7 (fun _ h9 => h9) rfl dX11_isFinished_1 ?_
  refine lv_sipush (v := 192) hx hb dX11_isFinished_4 (by decide) ?_
  refine yy_iald (v := 0) hx hb hK hP 1 0 rfl rfl (yin (by decide)) dX11_isFinished_7 rfl ?_
  refine lv_if_ne (tgt := 37) hx hb dX11_isFinished_8 (by decide) (fun c => absurd (by decide) c) (fun _ => ?_)
  refine lv_aload_n hx hb dX11_isFinished_11 rfl (lv_at hl 0 rfl) ?_
  refine va_get (D := (dC, dI)) (ci := 11) (v := .ref a1) (C := RX11) (T := TX11) (N := 24) hx hb hts hnX11 hown hK hP 0 rfl rfl 0 (by decide) hf7 (fun _ h9 => h9) rfl dX11_isFinished_12 ?_
  refine lv_sipush (v := 201) hx hb dX11_isFinished_15 (by decide) ?_
  refine yy_iald (v := 0) hx hb hK hP 1 0 rfl rfl (yin (by decide)) dX11_isFinished_18 rfl ?_
  refine lv_if_ne (tgt := 37) hx hb dX11_isFinished_19 (by decide) (fun c => absurd (by decide) c) (fun _ => ?_)
  refine lv_aload_n hx hb dX11_isFinished_22 rfl (lv_at hl 0 rfl) ?_
  refine va_get (D := (dC, dI)) (ci := 11) (v := .ref a1) (C := RX11) (T := TX11) (N := 24) hx hb hts hnX11 hown hK hP 0 rfl rfl 0 (by decide) hf7 (fun _ h9 => h9) rfl dX11_isFinished_23 ?_
  refine lv_sipush (v := 184) hx hb dX11_isFinished_26 (by decide) ?_
  refine yy_iald (v := 0) hx hb hK hP 1 0 rfl rfl (yin (by decide)) dX11_isFinished_29 rfl ?_
  refine lv_if_ne (tgt := 37) hx hb dX11_isFinished_30 (by decide) (fun c => absurd (by decide) c) (fun _ => ?_)
  refine lv_iconst (v := 1) hx hb dX11_isFinished_33 (by decide) ?_
  refine lv_goto (tgt := 38) hx hb dX11_isFinished_34 (by decide) ?_
  refine lv_istore_n (lv' := [(1, .int 1), (0, .ref a0)]) hx hb dX11_isFinished_38 rfl hl (by decide) rfl (fun ls hl => ?_)
  refine lv_iconst (v := 0) hx hb dX11_isFinished_39 (by decide) ?_
  refine lv_istore_n (lv' := [(2, .int 0), (1, .int 1), (0, .ref a0)]) hx hb dX11_isFinished_40 rfl hl (by decide) rfl (fun ls hl => ?_)
  refine lv_iload_n hx hb dX11_isFinished_41 rfl (lv_at hl 0 rfl) ?_
  refine lv_aload_n hx hb dX11_isFinished_42 rfl (lv_at hl 2 rfl) ?_
  refine va_get (D := (dC, dI)) (ci := 11) (v := .ref a1) (C := RX11) (T := TX11) (N := 24) hx hb hts hnX11 hown hK hP 0 rfl rfl 0 (by decide) hf7 (fun _ h9 => h9) rfl dX11_isFinished_43 ?_
  refine lv_sipush (v := 212) hx hb dX11_isFinished_46 (by decide) ?_
  refine yy_iald (v := 0) hx hb hK hP 1 0 rfl rfl (yin (by decide)) dX11_isFinished_49 rfl ?_
  refine lv_icmp_ge (tgt := 84) hx hb dX11_isFinished_50 (by decide) (fun _ => ?_) (fun c => absurd (by decide) c)
  refine lv_iload_n hx hb dX11_isFinished_84 rfl (lv_at hl 1 rfl) ?_
  refine W.widen (k := 0) (n := 0) (Nat.le_of_ble_eq_true rfl) (Nat.le_of_ble_eq_true rfl) ?_
  exact yy_iret (v := 1) () hx hb hr hlk rfl hsz hAe hK hP hD hS [0, 1] rfl rfl (by decide) (rfl) dX11_isFinished_85
set_option maxHeartbeats 4000000 in
set_option maxRecDepth 100000 in
theorem r_finish (l : Launch) (dC : Nat → ClassId) (dI : Nat → Nat → Nat) (cyI cyZ cyO : ClassId) (sz : Nat) (h0 : Nat) (rz : Nat) (rf : Nat) (rl : Nat) (rwx : Nat) (rb : Nat) (rwd : Nat) (rk : Nat) (ra : Nat) (rs : Nat) (rt : Nat) (rwr : Nat) (rp : Nat) (rsi : Nat) (rke : Nat) (rkc : Nat) (rik : Nat) (n : Int32)  : Met l yX11_finish wsX11_finish ({ frames := 1, cells := 0, slots := 0, locals := 25 }) (yPre [.ref h0, .int n] (dC, dI) [(h0, .inr (11, [.ref rz, .int 0, .int 0, .ref rf, .ref rl, .ref rwx, .ref rb, .int 0, .ref rwd, .ref rk, .ref ra, .int 0, .int 32, .int 0, .ref rs, .ref rt, .int 0, .int 0, .ref rwr, .ref rp, .ref rsi, .ref rke, .ref rkc, .ref rik])), (rz, .inl (cyI, 2490, .inl (yz 0 0)))] (yT cyI cyZ cyO) sz) (yQi (fun (r : Int32) (u : Unit) => r = (sp_finish n)) (dC, dI) [(h0, .inr (11, [.ref rz, .int 0, .int 0, .ref rf, .ref rl, .ref rwx, .ref rb, .int 0, .ref rwd, .ref rk, .ref ra, .int 0, .int 32, .int 0, .ref rs, .ref rt, .int 0, .int 0, .ref rwr, .ref rp, .ref rsi, .ref rke, .ref rkc, .ref rik])), (rz, .inl (cyI, 2490, .inl (yz 0 0)))] (yT cyI cyZ cyO) sz (fun _ => [])) 0 0 (va_A [(h0, .inr (11, [.ref rz, .int 0, .int 0, .ref rf, .ref rl, .ref rwx, .ref rb, .int 0, .ref rwd, .ref rk, .ref ra, .int 0, .int 32, .int 0, .ref rs, .ref rt, .int 0, .int 0, .ref rwr, .ref rp, .ref rsi, .ref rke, .ref rkc, .ref rik])), (rz, .inl (cyI, 2490, .inl (yz 0 0)))] sz) := by
  refine yMet (cc := cX11_finish) (maxL := 3) (ret := (some .int)) (by decide) rfl (Nat.le_of_ble_eq_true rfl) ?_
  intro p e s m below meth c A hx hb hr hlk hml hts hown hnm hsz hAe hP hK hD hA hS ls hl
  have hl : lv_has ls 3 [(0, .ref h0), (1, .int n)] := hl
  have hl199 := hts (.constantLong RX11 199 2000) (by decide +kernel)
  refine lv_iload_n hx hb dX11_finish_0 rfl (lv_at hl 1 rfl) ?_
  refine lv_i2l hx hb dX11_finish_1 rfl ?_
  refine lv_lconst (v := (0 : Int32).toInt64) hx hb dX11_finish_2 (by decide) ?_
  refine lv_ldc2 (v := 2000) hx hb hown hl199 dX11_finish_3 ?_
  refine yy_long (v := (2000 : Int32).toInt64) (by decide) ?_
  have hPc := hP.sub (ws' := []) [] rfl
  have hDc := hD.sub (ws' := []) [] (by decide) rfl
  refine yy_calli [] [0, 1] (wr := [(h0, .inr (11, [.ref rz, .int 0, .int 0, .ref rf, .ref rl, .ref rwx, .ref rb, .int 0, .ref rwd, .ref rk, .ref ra, .int 0, .int 32, .int 0, .ref rs, .ref rt, .int 0, .int 0, .ref rwr, .ref rp, .ref rsi, .ref rke, .ref rkc, .ref rik])), (rz, .inl (cyI, 2490, .inl (yz 0 0)))]) (va_runS (As := [.long (n : Int32).toInt64, .long (0 : Int32).toInt64, .long (2000 : Int32).toInt64]) (rest := []) ⟨hx, hb, hml, hown, hts⟩ (r_in l dC dI cyI cyZ cyO s.heap.size n 0 2000 ) (va_cwS 3 hts gX11_finish_X11_in rfl rfl rfl (by decide +kernel) ⟨Nat.le_of_ble_eq_true rfl, Nat.le_of_ble_eq_true rfl⟩) (yPreS hK hPc hDc) rfl rfl hl.1 rfl (lv_room (Nat.le_of_ble_eq_true rfl)) dX11_finish_6 ⟨Nat.le_of_ble_eq_true rfl, Nat.le_of_ble_eq_true rfl⟩) hP hD hS hA rfl rfl (by decide) (by decide) (fun r_2 u_1 H locs hw hP hD hS => ?_)
  have hP : va_P (dC, dI) vwCl [(h0, .inr (11, [.ref rz, .int 0, .int 0, .ref rf, .ref rl, .ref rwx, .ref rb, .int 0, .ref rwd, .ref rk, .ref ra, .int 0, .int 32, .int 0, .ref rs, .ref rt, .int 0, .int 0, .ref rwr, .ref rp, .ref rsi, .ref rke, .ref rkc, .ref rik])), (rz, .inl (cyI, 2490, .inl (yz 0 0)))] H := hP
  have hD : va_D A [(h0, .inr (11, [.ref rz, .int 0, .int 0, .ref rf, .ref rl, .ref rwx, .ref rb, .int 0, .ref rwd, .ref rk, .ref ra, .int 0, .int 32, .int 0, .ref rs, .ref rt, .int 0, .int 0, .ref rwr, .ref rp, .ref rsi, .ref rke, .ref rkc, .ref rik])), (rz, .inl (cyI, 2490, .inl (yz 0 0)))] := hD
  refine W.widen (k := 0) (n := 0) (Nat.le_of_ble_eq_true rfl) (Nat.le_of_ble_eq_true rfl) ?_
  have hw : r_2 = (zB (0 ≤ n ∧ n ≤ 2000)) := hw
  subst hw
  refine lv_if_ne (tgt := 19) hx hb dX11_finish_9 (by decide) (fun c9 => ?_) (fun c9 => ?_)
  · refine lv_iconst (v := 0) hx hb dX11_finish_19 (by decide) ?_
    refine lv_istore_n (lv' := [(2, .int 0), (0, .ref h0), (1, .int n)]) hx hb dX11_finish_20 rfl hl (by decide) rfl (fun ls hl => ?_)
    refine lv_iload_n hx hb dX11_finish_21 rfl (lv_at hl 0 rfl) ?_
    refine lv_iload_n hx hb dX11_finish_22 rfl (lv_at hl 2 rfl) ?_
    refine lv_icmp_ge (tgt := 43) hx hb dX11_finish_23 (by decide) (fun c23 => ?_) (fun c23 => ?_)
    · refine lv_aload_n hx hb dX11_finish_43 rfl (lv_at hl 1 rfl) ?_
      refine lv_iload_n hx hb dX11_finish_44 rfl (lv_at hl 0 rfl) ?_
      have hPc := hP.sub (ws' := [(h0, .inr (11, [.ref rz, .int 0, .int 0, .ref rf, .ref rl, .ref rwx, .ref rb, .int 0, .ref rwd, .ref rk, .ref ra, .int 0, .int 32, .int 0, .ref rs, .ref rt, .int 0, .int 0, .ref rwr, .ref rp, .ref rsi, .ref rke, .ref rkc, .ref rik]))]) [0] rfl
      have hDc := hD.sub (ws' := [(h0, .inr (11, [.ref rz, .int 0, .int 0, .ref rf, .ref rl, .ref rwx, .ref rb, .int 0, .ref rwd, .ref rk, .ref ra, .int 0, .int 32, .int 0, .ref rs, .ref rt, .int 0, .int 0, .ref rwr, .ref rp, .ref rsi, .ref rke, .ref rkc, .ref rik]))]) [0] (by decide) rfl
      refine yy_calli [0] [1] (wr := [(rz, .inl (cyI, 2490, .inl (yz 0 0)))]) (va_runV (As := [.int 0]) (rest := []) ⟨hx, hb, hml, hown, hts⟩ (r_done l dC dI cyI cyZ cyO H.size h0 rz 0 0 rf rl rwx rb 0 rwd rk ra 0 32 0 rs rt 0 0 rwr rp rsi rke rkc rik 0 ) (cwV 1 hts gX11_finish_X11_done rfl rfl rfl (by decide +kernel) ⟨Nat.le_of_ble_eq_true rfl, Nat.le_of_ble_eq_true rfl⟩) (yPreV hK hPc hDc (ci := 11) (q0 := 0) rfl rfl) rfl rfl hl.1 rfl (lv_room (Nat.le_of_ble_eq_true rfl)) dX11_finish_45 ⟨Nat.le_of_ble_eq_true rfl, Nat.le_of_ble_eq_true rfl⟩) hP hD hS hA rfl rfl (by decide) (by decide) (fun r_4 u_3 H locs hw hP hD hS => ?_)
      have hP : va_P (dC, dI) vwCl [(rz, .inl (cyI, 2490, .inl (yz 0 0))), (h0, .inr (11, [.ref rz, .int 0, .int 0, .ref rf, .ref rl, .ref rwx, .ref rb, .int 0, .ref rwd, .ref rk, .ref ra, .int 0, .int 32, .int 0, .ref rs, .ref rt, .int 0, .int 0, .ref rwr, .ref rp, .ref rsi, .ref rke, .ref rkc, .ref rik]))] H := hP
      have hD : va_D A [(rz, .inl (cyI, 2490, .inl (yz 0 0))), (h0, .inr (11, [.ref rz, .int 0, .int 0, .ref rf, .ref rl, .ref rwx, .ref rb, .int 0, .ref rwd, .ref rk, .ref ra, .int 0, .int 32, .int 0, .ref rs, .ref rt, .int 0, .int 0, .ref rwr, .ref rp, .ref rsi, .ref rke, .ref rkc, .ref rik]))] := hD
      refine W.widen (k := 0) (n := 0) (Nat.le_of_ble_eq_true rfl) (Nat.le_of_ble_eq_true rfl) ?_
      have hw : r_4 = 0 := hw.trans (by decide)
      subst hw
      refine W.widen (k := 0) (n := 0) (Nat.le_of_ble_eq_true rfl) (Nat.le_of_ble_eq_true rfl) ?_
      exact yy_iret (v := 0) () hx hb hr hlk rfl hsz hAe hK hP hD hS [] rfl rfl (by decide) (by (try simp only [zB0, Decidable.not_not] at c9 c23); (try simp only [isW, zB, ← Int32.not_lt, sp_slave, sp_register, sp_depth, sp_limit, sp_transfer, sp_clock, sp_finish, sp_turn, sp_wire, sp_findings, sp_bridge, sp_keep, sp_told, ylc1, ylc2, y14, y2] at c9 c23 ⊢); (try simp only [Decidable.not_not] at c9 c23 ⊢); (try simp only [c9, c23, not_true_eq_false, not_false_eq_true, false_and, and_false, true_and, and_true, and_self, or_true, true_or, or_false, false_or, or_self, ↓reduceIte]); (try simp only [← and_assoc]); (try simp only [c9, c23, not_true_eq_false, not_false_eq_true, false_and, and_false, true_and, and_true, and_self, or_true, true_or, or_false, false_or, or_self, ↓reduceIte]); (try decide)) dX11_finish_48
    · refine lv_aload_n hx hb dX11_finish_26 rfl (lv_at hl 1 rfl) ?_
      have hPc := hP.sub (ws' := [(h0, .inr (11, [.ref rz, .int 0, .int 0, .ref rf, .ref rl, .ref rwx, .ref rb, .int 0, .ref rwd, .ref rk, .ref ra, .int 0, .int 32, .int 0, .ref rs, .ref rt, .int 0, .int 0, .ref rwr, .ref rp, .ref rsi, .ref rke, .ref rkc, .ref rik])), (rz, .inl (cyI, 2490, .inl (yz 0 0)))]) [0, 1] rfl
      have hDc := hD.sub (ws' := [(h0, .inr (11, [.ref rz, .int 0, .int 0, .ref rf, .ref rl, .ref rwx, .ref rb, .int 0, .ref rwd, .ref rk, .ref ra, .int 0, .int 32, .int 0, .ref rs, .ref rt, .int 0, .int 0, .ref rwr, .ref rp, .ref rsi, .ref rke, .ref rkc, .ref rik])), (rz, .inl (cyI, 2490, .inl (yz 0 0)))]) [0, 1] (by decide) rfl
      refine yy_calli [0, 1] [] (wr := []) (va_runV (As := []) (rest := []) ⟨hx, hb, hml, hown, hts⟩ (rp_X11_isFinished_150 l dC dI cyI cyZ cyO H.size h0 rz rf rl rwx rb rwd rk ra rs rt rwr rp rsi rke rkc rik ) (cwV 0 hts gX11_finish_X11_isFinished rfl rfl rfl (by decide +kernel) ⟨Nat.le_of_ble_eq_true rfl, Nat.le_of_ble_eq_true rfl⟩) (yPreV hK hPc hDc (ci := 11) (q0 := 0) rfl rfl) rfl rfl hl.1 rfl (lv_room (Nat.le_of_ble_eq_true rfl)) dX11_finish_27 ⟨Nat.le_of_ble_eq_true rfl, Nat.le_of_ble_eq_true rfl⟩) hP hD hS hA rfl rfl (by decide) (by decide) (fun r_6 u_5 H locs hw hP hD hS => ?_)
      have hP : va_P (dC, dI) vwCl [(h0, .inr (11, [.ref rz, .int 0, .int 0, .ref rf, .ref rl, .ref rwx, .ref rb, .int 0, .ref rwd, .ref rk, .ref ra, .int 0, .int 32, .int 0, .ref rs, .ref rt, .int 0, .int 0, .ref rwr, .ref rp, .ref rsi, .ref rke, .ref rkc, .ref rik])), (rz, .inl (cyI, 2490, .inl (yz 0 0)))] H := hP
      have hD : va_D A [(h0, .inr (11, [.ref rz, .int 0, .int 0, .ref rf, .ref rl, .ref rwx, .ref rb, .int 0, .ref rwd, .ref rk, .ref ra, .int 0, .int 32, .int 0, .ref rs, .ref rt, .int 0, .int 0, .ref rwr, .ref rp, .ref rsi, .ref rke, .ref rkc, .ref rik])), (rz, .inl (cyI, 2490, .inl (yz 0 0)))] := hD
      refine W.widen (k := 0) (n := 0) (Nat.le_of_ble_eq_true rfl) (Nat.le_of_ble_eq_true rfl) ?_
      have hw : r_6 = 1 := hw
      subst hw
      refine lv_if_ne (tgt := 43) hx hb dX11_finish_30 (by decide) (fun _ => ?_) (fun c => absurd c (by decide))
      refine lv_aload_n hx hb dX11_finish_43 rfl (lv_at hl 1 rfl) ?_
      refine lv_iload_n hx hb dX11_finish_44 rfl (lv_at hl 0 rfl) ?_
      have hPc := hP.sub (ws' := [(h0, .inr (11, [.ref rz, .int 0, .int 0, .ref rf, .ref rl, .ref rwx, .ref rb, .int 0, .ref rwd, .ref rk, .ref ra, .int 0, .int 32, .int 0, .ref rs, .ref rt, .int 0, .int 0, .ref rwr, .ref rp, .ref rsi, .ref rke, .ref rkc, .ref rik]))]) [0] rfl
      have hDc := hD.sub (ws' := [(h0, .inr (11, [.ref rz, .int 0, .int 0, .ref rf, .ref rl, .ref rwx, .ref rb, .int 0, .ref rwd, .ref rk, .ref ra, .int 0, .int 32, .int 0, .ref rs, .ref rt, .int 0, .int 0, .ref rwr, .ref rp, .ref rsi, .ref rke, .ref rkc, .ref rik]))]) [0] (by decide) rfl
      refine yy_calli [0] [1] (wr := [(rz, .inl (cyI, 2490, .inl (yz 0 0)))]) (va_runV (As := [.int 0]) (rest := []) ⟨hx, hb, hml, hown, hts⟩ (r_done l dC dI cyI cyZ cyO H.size h0 rz 0 0 rf rl rwx rb 0 rwd rk ra 0 32 0 rs rt 0 0 rwr rp rsi rke rkc rik 0 ) (cwV 1 hts gX11_finish_X11_done rfl rfl rfl (by decide +kernel) ⟨Nat.le_of_ble_eq_true rfl, Nat.le_of_ble_eq_true rfl⟩) (yPreV hK hPc hDc (ci := 11) (q0 := 0) rfl rfl) rfl rfl hl.1 rfl (lv_room (Nat.le_of_ble_eq_true rfl)) dX11_finish_45 ⟨Nat.le_of_ble_eq_true rfl, Nat.le_of_ble_eq_true rfl⟩) hP hD hS hA rfl rfl (by decide) (by decide) (fun r_8 u_7 H locs hw hP hD hS => ?_)
      have hP : va_P (dC, dI) vwCl [(rz, .inl (cyI, 2490, .inl (yz 0 0))), (h0, .inr (11, [.ref rz, .int 0, .int 0, .ref rf, .ref rl, .ref rwx, .ref rb, .int 0, .ref rwd, .ref rk, .ref ra, .int 0, .int 32, .int 0, .ref rs, .ref rt, .int 0, .int 0, .ref rwr, .ref rp, .ref rsi, .ref rke, .ref rkc, .ref rik]))] H := hP
      have hD : va_D A [(rz, .inl (cyI, 2490, .inl (yz 0 0))), (h0, .inr (11, [.ref rz, .int 0, .int 0, .ref rf, .ref rl, .ref rwx, .ref rb, .int 0, .ref rwd, .ref rk, .ref ra, .int 0, .int 32, .int 0, .ref rs, .ref rt, .int 0, .int 0, .ref rwr, .ref rp, .ref rsi, .ref rke, .ref rkc, .ref rik]))] := hD
      refine W.widen (k := 0) (n := 0) (Nat.le_of_ble_eq_true rfl) (Nat.le_of_ble_eq_true rfl) ?_
      have hw : r_8 = 0 := hw.trans (by decide)
      subst hw
      refine W.widen (k := 0) (n := 0) (Nat.le_of_ble_eq_true rfl) (Nat.le_of_ble_eq_true rfl) ?_
      exact yy_iret (v := 0) () hx hb hr hlk rfl hsz hAe hK hP hD hS [] rfl rfl (by decide) (by (try simp only [zB0, Decidable.not_not] at c9 c23); (try simp only [isW, zB, ← Int32.not_lt, sp_slave, sp_register, sp_depth, sp_limit, sp_transfer, sp_clock, sp_finish, sp_turn, sp_wire, sp_findings, sp_bridge, sp_keep, sp_told, ylc1, ylc2, y14, y2] at c9 c23 ⊢); (try simp only [Decidable.not_not] at c9 c23 ⊢); (try simp only [c9, c23, not_true_eq_false, not_false_eq_true, false_and, and_false, true_and, and_true, and_self, or_true, true_or, or_false, false_or, or_self, ↓reduceIte]); (try simp only [← and_assoc]); (try simp only [c9, c23, not_true_eq_false, not_false_eq_true, false_and, and_false, true_and, and_true, and_self, or_true, true_or, or_false, false_or, or_self, ↓reduceIte]); (try decide)) dX11_finish_48
  · refine lv_aload_n hx hb dX11_finish_12 rfl (lv_at hl 0 rfl) ?_
    refine lv_bipush (v := (-2)) hx hb dX11_finish_13 (by decide) ?_
    have hPc := hP.sub (ws' := [(h0, .inr (11, [.ref rz, .int 0, .int 0, .ref rf, .ref rl, .ref rwx, .ref rb, .int 0, .ref rwd, .ref rk, .ref ra, .int 0, .int 32, .int 0, .ref rs, .ref rt, .int 0, .int 0, .ref rwr, .ref rp, .ref rsi, .ref rke, .ref rkc, .ref rik]))]) [0] rfl
    have hDc := hD.sub (ws' := [(h0, .inr (11, [.ref rz, .int 0, .int 0, .ref rf, .ref rl, .ref rwx, .ref rb, .int 0, .ref rwd, .ref rk, .ref ra, .int 0, .int 32, .int 0, .ref rs, .ref rt, .int 0, .int 0, .ref rwr, .ref rp, .ref rsi, .ref rke, .ref rkc, .ref rik]))]) [0] (by decide) rfl
    refine yy_calli [0] [1] (wr := [(rz, .inl (cyI, 2490, .inl (yz 0 0)))]) (va_runV (As := [.int (-2)]) (rest := []) ⟨hx, hb, hml, hown, hts⟩ (r_refused l dC dI cyI cyZ cyO H.size h0 rz 0 0 rf rl rwx rb 0 rwd rk ra 0 32 0 rs rt 0 0 rwr rp rsi rke rkc rik (-2) ) (cwV 1 hts gX11_finish_X11_refused rfl rfl rfl (by decide +kernel) ⟨Nat.le_of_ble_eq_true rfl, Nat.le_of_ble_eq_true rfl⟩) (yPreV hK hPc hDc (ci := 11) (q0 := 0) rfl rfl) rfl rfl hl.1 rfl (lv_room (Nat.le_of_ble_eq_true rfl)) dX11_finish_15 ⟨Nat.le_of_ble_eq_true rfl, Nat.le_of_ble_eq_true rfl⟩) hP hD hS hA rfl rfl (by decide) (by decide) (fun r_10 u_9 H locs hw hP hD hS => ?_)
    have hP : va_P (dC, dI) vwCl [(rz, .inl (cyI, 2490, .inl (yz 0 0))), (h0, .inr (11, [.ref rz, .int (-2), .int 0, .ref rf, .ref rl, .ref rwx, .ref rb, .int 0, .ref rwd, .ref rk, .ref ra, .int 0, .int 32, .int 0, .ref rs, .ref rt, .int 0, .int 0, .ref rwr, .ref rp, .ref rsi, .ref rke, .ref rkc, .ref rik]))] H := hP
    have hD : va_D A [(rz, .inl (cyI, 2490, .inl (yz 0 0))), (h0, .inr (11, [.ref rz, .int (-2), .int 0, .ref rf, .ref rl, .ref rwx, .ref rb, .int 0, .ref rwd, .ref rk, .ref ra, .int 0, .int 32, .int 0, .ref rs, .ref rt, .int 0, .int 0, .ref rwr, .ref rp, .ref rsi, .ref rke, .ref rkc, .ref rik]))] := hD
    refine W.widen (k := 0) (n := 0) (Nat.le_of_ble_eq_true rfl) (Nat.le_of_ble_eq_true rfl) ?_
    have hw : r_10 = (-2) := hw.trans (by decide)
    subst hw
    refine W.widen (k := 0) (n := 0) (Nat.le_of_ble_eq_true rfl) (Nat.le_of_ble_eq_true rfl) ?_
    exact yy_iret (v := (-2)) () hx hb hr hlk rfl hsz hAe hK hP hD hS [] rfl rfl (by decide) (by (try simp only [zB0, Decidable.not_not] at c9); (try simp only [isW, zB, ← Int32.not_lt, sp_slave, sp_register, sp_depth, sp_limit, sp_transfer, sp_clock, sp_finish, sp_turn, sp_wire, sp_findings, sp_bridge, sp_keep, sp_told, ylc1, ylc2, y14, y2] at c9 ⊢); (try simp only [Decidable.not_not] at c9 ⊢); (try simp only [c9, not_true_eq_false, not_false_eq_true, false_and, and_false, true_and, and_true, and_self, or_true, true_or, or_false, false_or, or_self, ↓reduceIte]); (try simp only [← and_assoc]); (try simp only [c9, not_true_eq_false, not_false_eq_true, false_and, and_false, true_and, and_true, and_self, or_true, true_or, or_false, false_or, or_self, ↓reduceIte]); (try decide)) dX11_finish_18
set_option maxHeartbeats 4000000 in
set_option maxRecDepth 100000 in
theorem r_seenS (l : Launch) (dC : Nat → ClassId) (dI : Nat → Nat → Nat) (cyI cyZ cyO : ClassId) (sz : Nat) (h0 : Nat) (rz : Nat) (rf : Nat) (rl : Nat) (rwx : Nat) (rb : Nat) (rwd : Nat) (rk : Nat) (ra : Nat) (rs : Nat) (rt : Nat) (rwr : Nat) (rp : Nat) (rsi : Nat) (rke : Nat) (rkc : Nat) (rik : Nat) (i : Int32) (hin : vp_in i 15) : Met l yX11_seen wsX11_seen ({ frames := 1, cells := 0, slots := 0, locals := 25 }) (yPre [.ref h0, .int i] (dC, dI) [(h0, .inr (11, [.ref rz, .int 0, .int 0, .ref rf, .ref rl, .ref rwx, .ref rb, .int 0, .ref rwd, .ref rk, .ref ra, .int 0, .int 32, .int 0, .ref rs, .ref rt, .int 0, .int 0, .ref rwr, .ref rp, .ref rsi, .ref rke, .ref rkc, .ref rik])), (rz, .inl (cyI, 2490, .inl (yz 0 0)))] (yT cyI cyZ cyO) sz) (yQi (fun (r : Int32) (u : Unit) => r = (yR i.toNatClampNeg)) (dC, dI) [(h0, .inr (11, [.ref rz, .int 0, .int 0, .ref rf, .ref rl, .ref rwx, .ref rb, .int 0, .ref rwd, .ref rk, .ref ra, .int 0, .int 32, .int 0, .ref rs, .ref rt, .int 0, .int 0, .ref rwr, .ref rp, .ref rsi, .ref rke, .ref rkc, .ref rik])), (rz, .inl (cyI, 2490, .inl (yz 0 0)))] (yT cyI cyZ cyO) sz (fun _ => [(h0, .inr (11, [.ref rz, .int 0, .int 0, .ref rf, .ref rl, .ref rwx, .ref rb, .int 0, .ref rwd, .ref rk, .ref ra, .int 0, .int 32, .int 0, .ref rs, .ref rt, .int 0, .int 0, .ref rwr, .ref rp, .ref rsi, .ref rke, .ref rkc, .ref rik])), (rz, .inl (cyI, 2490, .inl (yz 0 0)))])) 0 0 (va_A [(h0, .inr (11, [.ref rz, .int 0, .int 0, .ref rf, .ref rl, .ref rwx, .ref rb, .int 0, .ref rwd, .ref rk, .ref ra, .int 0, .int 32, .int 0, .ref rs, .ref rt, .int 0, .int 0, .ref rwr, .ref rp, .ref rsi, .ref rke, .ref rkc, .ref rik])), (rz, .inl (cyI, 2490, .inl (yz 0 0)))] sz) := by
  refine yMet (cc := cX11_seen) (maxL := 3) (ret := (some .int)) (by decide) rfl (Nat.le_of_ble_eq_true rfl) ?_
  intro p e s m below meth c A hx hb hr hlk hml hts hown hnm hsz hAe hP hK hD hA hS ls hl
  have hl : lv_has ls 3 [(0, .ref h0), (1, .int i)] := hl
  have hf7 := hts (.fieldLink RX11 7 "BusBridgeModel" "z" "[I") (by decide +kernel)
  have hnX11 : ∀ w ∈ wsX110, w ∈ wsX11_seen := by decide +kernel
  refine lv_aload_n hx hb dX11_seen_0 rfl (lv_at hl 0 rfl) ?_
  refine va_get (D := (dC, dI)) (ci := 11) (v := .ref rz) (C := RX11) (T := TX11) (N := 24) hx hb hts hnX11 hown hK hP 0 rfl rfl 0 (by decide) hf7 (fun _ h9 => h9) rfl dX11_seen_1 ?_
  refine lv_sipush (v := 179) hx hb dX11_seen_4 (by decide) ?_
  refine yy_iald (v := 0) hx hb hK hP 1 0 rfl rfl (yin (by decide)) dX11_seen_7 rfl ?_
  refine lv_i2l hx hb dX11_seen_8 rfl ?_
  refine lv_aload_n hx hb dX11_seen_9 rfl (lv_at hl 0 rfl) ?_
  refine va_get (D := (dC, dI)) (ci := 11) (v := .ref rz) (C := RX11) (T := TX11) (N := 24) hx hb hts hnX11 hown hK hP 0 rfl rfl 0 (by decide) hf7 (fun _ h9 => h9) rfl dX11_seen_10 ?_
  refine lv_bipush (v := 45) hx hb dX11_seen_13 (by decide) ?_
  refine lv_iload_n hx hb dX11_seen_15 rfl (lv_at hl 1 rfl) ?_
  refine lv_iadd hx hb dX11_seen_16 ?_
  refine yy_iald (v := 1) hx hb hK hP 1 0 rfl rfl (yplus_in (c := 45) (k := 45) (by decide) hin (by decide) (by decide) (by decide)) dX11_seen_17 (yzF hin) ?_
  refine lv_i2l hx hb dX11_seen_18 rfl ?_
  refine lv_aload_n hx hb dX11_seen_19 rfl (lv_at hl 0 rfl) ?_
  refine va_get (D := (dC, dI)) (ci := 11) (v := .ref rz) (C := RX11) (T := TX11) (N := 24) hx hb hts hnX11 hown hK hP 0 rfl rfl 0 (by decide) hf7 (fun _ h9 => h9) rfl dX11_seen_20 ?_
  refine lv_bipush (v := 60) hx hb dX11_seen_23 (by decide) ?_
  refine lv_iload_n hx hb dX11_seen_25 rfl (lv_at hl 1 rfl) ?_
  refine lv_iadd hx hb dX11_seen_26 ?_
  refine yy_iald (v := 0) hx hb hK hP 1 0 rfl rfl (yplus_in (c := 60) (k := 60) (by decide) hin (by decide) (by decide) (by decide)) dX11_seen_27 (yzT hin) ?_
  refine lv_i2l hx hb dX11_seen_28 rfl ?_
  have hPc := hP.sub (ws' := []) [] rfl
  have hDc := hD.sub (ws' := []) [] (by decide) rfl
  refine yy_calli [] [0, 1] (wr := [(h0, .inr (11, [.ref rz, .int 0, .int 0, .ref rf, .ref rl, .ref rwx, .ref rb, .int 0, .ref rwd, .ref rk, .ref ra, .int 0, .int 32, .int 0, .ref rs, .ref rt, .int 0, .int 0, .ref rwr, .ref rp, .ref rsi, .ref rke, .ref rkc, .ref rik])), (rz, .inl (cyI, 2490, .inl (yz 0 0)))]) (va_runS (As := [.long (0 : Int32).toInt64, .long (1 : Int32).toInt64, .long (0 : Int32).toInt64]) (rest := []) ⟨hx, hb, hml, hown, hts⟩ (r_inE l dC dI cyI cyZ cyO s.heap.size 0 1 0 (by decide)) (va_cwS 3 hts gX11_seen_X11_in rfl rfl rfl (by decide +kernel) ⟨Nat.le_of_ble_eq_true rfl, Nat.le_of_ble_eq_true rfl⟩) (yPreS hK hPc hDc) rfl rfl hl.1 rfl (lv_room (Nat.le_of_ble_eq_true rfl)) dX11_seen_29 ⟨Nat.le_of_ble_eq_true rfl, Nat.le_of_ble_eq_true rfl⟩) hP hD hS hA rfl rfl (by decide) (by decide) (fun r_2 u_1 H locs hw hP hD hS => ?_)
  have hP : va_P (dC, dI) vwCl [(h0, .inr (11, [.ref rz, .int 0, .int 0, .ref rf, .ref rl, .ref rwx, .ref rb, .int 0, .ref rwd, .ref rk, .ref ra, .int 0, .int 32, .int 0, .ref rs, .ref rt, .int 0, .int 0, .ref rwr, .ref rp, .ref rsi, .ref rke, .ref rkc, .ref rik])), (rz, .inl (cyI, 2490, .inl (yz 0 0)))] H := hP
  have hD : va_D A [(h0, .inr (11, [.ref rz, .int 0, .int 0, .ref rf, .ref rl, .ref rwx, .ref rb, .int 0, .ref rwd, .ref rk, .ref ra, .int 0, .int 32, .int 0, .ref rs, .ref rt, .int 0, .int 0, .ref rwr, .ref rp, .ref rsi, .ref rke, .ref rkc, .ref rik])), (rz, .inl (cyI, 2490, .inl (yz 0 0)))] := hD
  refine W.widen (k := 0) (n := 0) (Nat.le_of_ble_eq_true rfl) (Nat.le_of_ble_eq_true rfl) ?_
  have hw : r_2 = 0 := hw
  subst hw
  refine lv_istore_n (lv' := [(2, .int 0), (0, .ref h0), (1, .int i)]) hx hb dX11_seen_32 rfl hl (by decide) rfl (fun ls hl => ?_)
  refine lv_iload_n hx hb dX11_seen_33 rfl (lv_at hl 0 rfl) ?_
  refine lv_if_eq (tgt := 56) hx hb dX11_seen_34 (by decide) (fun _ => ?_) (fun c => absurd (by decide) c)
  refine lv_aload_n hx hb dX11_seen_56 rfl (lv_at hl 1 rfl) ?_
  refine va_get (D := (dC, dI)) (ci := 11) (v := .ref rz) (C := RX11) (T := TX11) (N := 24) hx hb hts hnX11 hown hK hP 0 rfl rfl 0 (by decide) hf7 (fun _ h9 => h9) rfl dX11_seen_57 ?_
  refine lv_iload_n hx hb dX11_seen_60 rfl (lv_at hl 2 rfl) ?_
  refine yy_iald (v := (yR i.toNatClampNeg)) hx hb hK hP 1 0 rfl rfl (yin_mono hin (by decide)) dX11_seen_61 (yzW hin) ?_
  refine W.widen (k := 0) (n := 0) (Nat.le_of_ble_eq_true rfl) (Nat.le_of_ble_eq_true rfl) ?_
  exact yy_iret (v := (yR i.toNatClampNeg)) () hx hb hr hlk rfl hsz hAe hK hP hD hS [0, 1] rfl rfl (by decide) (rfl) dX11_seen_62
set_option maxHeartbeats 4000000 in
set_option maxRecDepth 100000 in
theorem r_turn (l : Launch) (dC : Nat → ClassId) (dI : Nat → Nat → Nat) (cyI cyZ cyO : ClassId) (sz : Nat) (h0 : Nat) (rz : Nat) (rf : Nat) (rl : Nat) (rwx : Nat) (rb : Nat) (rwd : Nat) (rk : Nat) (ra : Nat) (rs : Nat) (rt : Nat) (rwr : Nat) (rp : Nat) (rsi : Nat) (rke : Nat) (rkc : Nat) (rik : Nat) (w : Int32) (mk : Int32) (cl : Int32)  : Met l yX11_turn wsX11_turn ({ frames := 1, cells := 0, slots := 0, locals := 25 }) (yPre [.ref h0, .int w, .int mk, .int cl] (dC, dI) [(h0, .inr (11, [.ref rz, .int 0, .int 0, .ref rf, .ref rl, .ref rwx, .ref rb, .int 0, .ref rwd, .ref rk, .ref ra, .int 0, .int 32, .int 0, .ref rs, .ref rt, .int 0, .int 0, .ref rwr, .ref rp, .ref rsi, .ref rke, .ref rkc, .ref rik])), (rz, .inl (cyI, 2490, .inl (yz 0 0)))] (yT cyI cyZ cyO) sz) (yQi (fun (r : Int32) (u : Unit) => r = (sp_turn w cl)) (dC, dI) [(h0, .inr (11, [.ref rz, .int 0, .int 0, .ref rf, .ref rl, .ref rwx, .ref rb, .int 0, .ref rwd, .ref rk, .ref ra, .int 0, .int 32, .int 0, .ref rs, .ref rt, .int 0, .int 0, .ref rwr, .ref rp, .ref rsi, .ref rke, .ref rkc, .ref rik])), (rz, .inl (cyI, 2490, .inl (yz 0 0)))] (yT cyI cyZ cyO) sz (fun _ => [])) 0 0 (va_A [(h0, .inr (11, [.ref rz, .int 0, .int 0, .ref rf, .ref rl, .ref rwx, .ref rb, .int 0, .ref rwd, .ref rk, .ref ra, .int 0, .int 32, .int 0, .ref rs, .ref rt, .int 0, .int 0, .ref rwr, .ref rp, .ref rsi, .ref rke, .ref rkc, .ref rik])), (rz, .inl (cyI, 2490, .inl (yz 0 0)))] sz) := by
  refine yMet (cc := cX11_turn) (maxL := 4) (ret := (some .int)) (by decide) rfl (Nat.le_of_ble_eq_true rfl) ?_
  intro p e s m below meth c A hx hb hr hlk hml hts hown hnm hsz hAe hP hK hD hA hS ls hl
  have hl : lv_has ls 4 [(0, .ref h0), (1, .int w), (2, .int mk), (3, .int cl)] := hl
  have hf7 := hts (.fieldLink RX11 7 "BusBridgeModel" "z" "[I") (by decide +kernel)
  have hl205 := hts (.constantLong RX11 205 14) (by decide +kernel)
  have hl207 := hts (.constantLong RX11 207 100) (by decide +kernel)
  have hnX11 : ∀ w ∈ wsX110, w ∈ wsX11_turn := by decide +kernel
  refine lv_iload_n hx hb dX11_turn_0 rfl (lv_at hl 1 rfl) ?_
  refine lv_i2l hx hb dX11_turn_1 rfl ?_
  refine lv_lconst (v := (0 : Int32).toInt64) hx hb dX11_turn_2 (by decide) ?_
  refine lv_ldc2 (v := 14) hx hb hown hl205 dX11_turn_3 ?_
  refine yy_long (v := (14 : Int32).toInt64) (by decide) ?_
  have hPc := hP.sub (ws' := []) [] rfl
  have hDc := hD.sub (ws' := []) [] (by decide) rfl
  refine yy_calli [] [0, 1] (wr := [(h0, .inr (11, [.ref rz, .int 0, .int 0, .ref rf, .ref rl, .ref rwx, .ref rb, .int 0, .ref rwd, .ref rk, .ref ra, .int 0, .int 32, .int 0, .ref rs, .ref rt, .int 0, .int 0, .ref rwr, .ref rp, .ref rsi, .ref rke, .ref rkc, .ref rik])), (rz, .inl (cyI, 2490, .inl (yz 0 0)))]) (va_runS (As := [.long (w : Int32).toInt64, .long (0 : Int32).toInt64, .long (14 : Int32).toInt64]) (rest := []) ⟨hx, hb, hml, hown, hts⟩ (r_in l dC dI cyI cyZ cyO s.heap.size w 0 14 ) (va_cwS 3 hts gX11_turn_X11_in rfl rfl rfl (by decide +kernel) ⟨Nat.le_of_ble_eq_true rfl, Nat.le_of_ble_eq_true rfl⟩) (yPreS hK hPc hDc) rfl rfl hl.1 rfl (lv_room (Nat.le_of_ble_eq_true rfl)) dX11_turn_6 ⟨Nat.le_of_ble_eq_true rfl, Nat.le_of_ble_eq_true rfl⟩) hP hD hS hA rfl rfl (by decide) (by decide) (fun r_2 u_1 H locs hw hP hD hS => ?_)
  have hP : va_P (dC, dI) vwCl [(h0, .inr (11, [.ref rz, .int 0, .int 0, .ref rf, .ref rl, .ref rwx, .ref rb, .int 0, .ref rwd, .ref rk, .ref ra, .int 0, .int 32, .int 0, .ref rs, .ref rt, .int 0, .int 0, .ref rwr, .ref rp, .ref rsi, .ref rke, .ref rkc, .ref rik])), (rz, .inl (cyI, 2490, .inl (yz 0 0)))] H := hP
  have hD : va_D A [(h0, .inr (11, [.ref rz, .int 0, .int 0, .ref rf, .ref rl, .ref rwx, .ref rb, .int 0, .ref rwd, .ref rk, .ref ra, .int 0, .int 32, .int 0, .ref rs, .ref rt, .int 0, .int 0, .ref rwr, .ref rp, .ref rsi, .ref rke, .ref rkc, .ref rik])), (rz, .inl (cyI, 2490, .inl (yz 0 0)))] := hD
  refine W.widen (k := 0) (n := 0) (Nat.le_of_ble_eq_true rfl) (Nat.le_of_ble_eq_true rfl) ?_
  have hw : r_2 = (zB (0 ≤ w ∧ w ≤ 14)) := hw
  subst hw
  refine lv_if_ne (tgt := 18) hx hb dX11_turn_9 (by decide) (fun c9 => ?_) (fun c9 => ?_)
  · have hin := yinr (n := 15) rfl (by decide) c9
    refine lv_iload_n hx hb dX11_turn_18 rfl (lv_at hl 3 rfl) ?_
    refine lv_i2l hx hb dX11_turn_19 rfl ?_
    refine lv_lconst (v := (1 : Int32).toInt64) hx hb dX11_turn_20 (by decide) ?_
    refine lv_ldc2 (v := 100) hx hb hown hl207 dX11_turn_21 ?_
    refine yy_long (v := (100 : Int32).toInt64) (by decide) ?_
    have hPc := hP.sub (ws' := []) [] rfl
    have hDc := hD.sub (ws' := []) [] (by decide) rfl
    refine yy_calli [] [0, 1] (wr := [(h0, .inr (11, [.ref rz, .int 0, .int 0, .ref rf, .ref rl, .ref rwx, .ref rb, .int 0, .ref rwd, .ref rk, .ref ra, .int 0, .int 32, .int 0, .ref rs, .ref rt, .int 0, .int 0, .ref rwr, .ref rp, .ref rsi, .ref rke, .ref rkc, .ref rik])), (rz, .inl (cyI, 2490, .inl (yz 0 0)))]) (va_runS (As := [.long (cl : Int32).toInt64, .long (1 : Int32).toInt64, .long (100 : Int32).toInt64]) (rest := []) ⟨hx, hb, hml, hown, hts⟩ (r_in l dC dI cyI cyZ cyO H.size cl 1 100 ) (va_cwS 3 hts gX11_turn_X11_in rfl rfl rfl (by decide +kernel) ⟨Nat.le_of_ble_eq_true rfl, Nat.le_of_ble_eq_true rfl⟩) (yPreS hK hPc hDc) rfl rfl hl.1 rfl (lv_room (Nat.le_of_ble_eq_true rfl)) dX11_turn_24 ⟨Nat.le_of_ble_eq_true rfl, Nat.le_of_ble_eq_true rfl⟩) hP hD hS hA rfl rfl (by decide) (by decide) (fun r_4 u_3 H locs hw hP hD hS => ?_)
    have hP : va_P (dC, dI) vwCl [(h0, .inr (11, [.ref rz, .int 0, .int 0, .ref rf, .ref rl, .ref rwx, .ref rb, .int 0, .ref rwd, .ref rk, .ref ra, .int 0, .int 32, .int 0, .ref rs, .ref rt, .int 0, .int 0, .ref rwr, .ref rp, .ref rsi, .ref rke, .ref rkc, .ref rik])), (rz, .inl (cyI, 2490, .inl (yz 0 0)))] H := hP
    have hD : va_D A [(h0, .inr (11, [.ref rz, .int 0, .int 0, .ref rf, .ref rl, .ref rwx, .ref rb, .int 0, .ref rwd, .ref rk, .ref ra, .int 0, .int 32, .int 0, .ref rs, .ref rt, .int 0, .int 0, .ref rwr, .ref rp, .ref rsi, .ref rke, .ref rkc, .ref rik])), (rz, .inl (cyI, 2490, .inl (yz 0 0)))] := hD
    refine W.widen (k := 0) (n := 0) (Nat.le_of_ble_eq_true rfl) (Nat.le_of_ble_eq_true rfl) ?_
    have hw : r_4 = (zB (1 ≤ cl ∧ cl ≤ 100)) := hw
    subst hw
    refine lv_if_ne (tgt := 37) hx hb dX11_turn_27 (by decide) (fun c27 => ?_) (fun c27 => ?_)
    · refine lv_aload_n hx hb dX11_turn_37 rfl (lv_at hl 0 rfl) ?_
      refine va_get (D := (dC, dI)) (ci := 11) (v := .ref rz) (C := RX11) (T := TX11) (N := 24) hx hb hts hnX11 hown hK hP 0 rfl rfl 0 (by decide) hf7 (fun _ h9 => h9) rfl dX11_turn_38 ?_
      refine lv_bipush (v := 30) hx hb dX11_turn_41 (by decide) ?_
      refine lv_iload_n hx hb dX11_turn_43 rfl (lv_at hl 1 rfl) ?_
      refine lv_iadd hx hb dX11_turn_44 ?_
      refine lv_iload_n hx hb dX11_turn_45 rfl (lv_at hl 2 rfl) ?_
      refine yy_iast (f' := (upd (yz 0 0) (30 + w).toNatClampNeg mk)) hx hb hK hP hD hS 1 0 rfl rfl (yplus_in (c := 30) (k := 30) (by decide) hin (by decide) (by decide) (by decide)) dX11_turn_46 rfl (fun H locs hP hD hS => ?_)
      have hP : va_P (dC, dI) vwCl [(h0, .inr (11, [.ref rz, .int 0, .int 0, .ref rf, .ref rl, .ref rwx, .ref rb, .int 0, .ref rwd, .ref rk, .ref ra, .int 0, .int 32, .int 0, .ref rs, .ref rt, .int 0, .int 0, .ref rwr, .ref rp, .ref rsi, .ref rke, .ref rkc, .ref rik])), (rz, .inl (cyI, 2490, .inl (upd (yz 0 0) (30 + w).toNatClampNeg mk)))] H := hP
      have hD : va_D A [(h0, .inr (11, [.ref rz, .int 0, .int 0, .ref rf, .ref rl, .ref rwx, .ref rb, .int 0, .ref rwd, .ref rk, .ref ra, .int 0, .int 32, .int 0, .ref rs, .ref rt, .int 0, .int 0, .ref rwr, .ref rp, .ref rsi, .ref rke, .ref rkc, .ref rik])), (rz, .inl (cyI, 2490, .inl (upd (yz 0 0) (30 + w).toNatClampNeg mk)))] := hD
      refine lv_aload_n hx hb dX11_turn_47 rfl (lv_at hl 0 rfl) ?_
      refine va_get (D := (dC, dI)) (ci := 11) (v := .ref rz) (C := RX11) (T := TX11) (N := 24) hx hb hts hnX11 hown hK hP 0 rfl rfl 0 (by decide) hf7 (fun _ h9 => h9) rfl dX11_turn_48 ?_
      refine lv_bipush (v := 45) hx hb dX11_turn_51 (by decide) ?_
      refine lv_iload_n hx hb dX11_turn_53 rfl (lv_at hl 1 rfl) ?_
      refine lv_iadd hx hb dX11_turn_54 ?_
      refine lv_aload_n hx hb dX11_turn_55 rfl (lv_at hl 0 rfl) ?_
      refine va_get (D := (dC, dI)) (ci := 11) (v := .ref rz) (C := RX11) (T := TX11) (N := 24) hx hb hts hnX11 hown hK hP 0 rfl rfl 0 (by decide) hf7 (fun _ h9 => h9) rfl dX11_turn_56 ?_
      refine lv_sipush (v := 179) hx hb dX11_turn_59 (by decide) ?_
      refine yy_iald (v := 0) hx hb hK hP 1 0 rfl rfl (yin (by decide)) dX11_turn_62 (yuz30 hin) ?_
      refine lv_iconst (v := 1) hx hb dX11_turn_63 (by decide) ?_
      refine lv_iadd hx hb dX11_turn_64 ?_
      refine yy_int (v := 1) (by decide) ?_
      refine yy_iast (f' := (upd (upd (yz 0 0) (30 + w).toNatClampNeg mk) (45 + w).toNatClampNeg 1)) hx hb hK hP hD hS 1 0 rfl rfl (yplus_in (c := 45) (k := 45) (by decide) hin (by decide) (by decide) (by decide)) dX11_turn_65 rfl (fun H locs hP hD hS => ?_)
      have hP : va_P (dC, dI) vwCl [(h0, .inr (11, [.ref rz, .int 0, .int 0, .ref rf, .ref rl, .ref rwx, .ref rb, .int 0, .ref rwd, .ref rk, .ref ra, .int 0, .int 32, .int 0, .ref rs, .ref rt, .int 0, .int 0, .ref rwr, .ref rp, .ref rsi, .ref rke, .ref rkc, .ref rik])), (rz, .inl (cyI, 2490, .inl (upd (upd (yz 0 0) (30 + w).toNatClampNeg mk) (45 + w).toNatClampNeg 1)))] H := hP
      have hD : va_D A [(h0, .inr (11, [.ref rz, .int 0, .int 0, .ref rf, .ref rl, .ref rwx, .ref rb, .int 0, .ref rwd, .ref rk, .ref ra, .int 0, .int 32, .int 0, .ref rs, .ref rt, .int 0, .int 0, .ref rwr, .ref rp, .ref rsi, .ref rke, .ref rkc, .ref rik])), (rz, .inl (cyI, 2490, .inl (upd (upd (yz 0 0) (30 + w).toNatClampNeg mk) (45 + w).toNatClampNeg 1)))] := hD
      refine lv_aload_n hx hb dX11_turn_66 rfl (lv_at hl 0 rfl) ?_
      refine va_get (D := (dC, dI)) (ci := 11) (v := .ref rz) (C := RX11) (T := TX11) (N := 24) hx hb hts hnX11 hown hK hP 0 rfl rfl 0 (by decide) hf7 (fun _ h9 => h9) rfl dX11_turn_67 ?_
      refine lv_bipush (v := 60) hx hb dX11_turn_70 (by decide) ?_
      refine lv_iload_n hx hb dX11_turn_72 rfl (lv_at hl 1 rfl) ?_
      refine lv_iadd hx hb dX11_turn_73 ?_
      refine lv_aload_n hx hb dX11_turn_74 rfl (lv_at hl 0 rfl) ?_
      refine va_get (D := (dC, dI)) (ci := 11) (v := .ref rz) (C := RX11) (T := TX11) (N := 24) hx hb hts hnX11 hown hK hP 0 rfl rfl 0 (by decide) hf7 (fun _ h9 => h9) rfl dX11_turn_75 ?_
      refine lv_sipush (v := 179) hx hb dX11_turn_78 (by decide) ?_
      refine yy_iald (v := 0) hx hb hK hP 1 0 rfl rfl (yin (by decide)) dX11_turn_81 (yuz45 hin) ?_
      refine lv_iload_n hx hb dX11_turn_82 rfl (lv_at hl 3 rfl) ?_
      refine lv_iadd hx hb dX11_turn_83 ?_
      refine yy_iast (f' := (upd (upd (upd (yz 0 0) (30 + w).toNatClampNeg mk) (45 + w).toNatClampNeg 1) (60 + w).toNatClampNeg (0 + cl))) hx hb hK hP hD hS 1 0 rfl rfl (yplus_in (c := 60) (k := 60) (by decide) hin (by decide) (by decide) (by decide)) dX11_turn_84 rfl (fun H locs hP hD hS => ?_)
      have hP : va_P (dC, dI) vwCl [(h0, .inr (11, [.ref rz, .int 0, .int 0, .ref rf, .ref rl, .ref rwx, .ref rb, .int 0, .ref rwd, .ref rk, .ref ra, .int 0, .int 32, .int 0, .ref rs, .ref rt, .int 0, .int 0, .ref rwr, .ref rp, .ref rsi, .ref rke, .ref rkc, .ref rik])), (rz, .inl (cyI, 2490, .inl (upd (upd (upd (yz 0 0) (30 + w).toNatClampNeg mk) (45 + w).toNatClampNeg 1) (60 + w).toNatClampNeg (0 + cl))))] H := hP
      have hD : va_D A [(h0, .inr (11, [.ref rz, .int 0, .int 0, .ref rf, .ref rl, .ref rwx, .ref rb, .int 0, .ref rwd, .ref rk, .ref ra, .int 0, .int 32, .int 0, .ref rs, .ref rt, .int 0, .int 0, .ref rwr, .ref rp, .ref rsi, .ref rke, .ref rkc, .ref rik])), (rz, .inl (cyI, 2490, .inl (upd (upd (upd (yz 0 0) (30 + w).toNatClampNeg mk) (45 + w).toNatClampNeg 1) (60 + w).toNatClampNeg (0 + cl))))] := hD
      refine lv_aload_n hx hb dX11_turn_85 rfl (lv_at hl 0 rfl) ?_
      refine lv_iconst (v := 1) hx hb dX11_turn_86 (by decide) ?_
      have hPc := hP.sub (ws' := [(h0, .inr (11, [.ref rz, .int 0, .int 0, .ref rf, .ref rl, .ref rwx, .ref rb, .int 0, .ref rwd, .ref rk, .ref ra, .int 0, .int 32, .int 0, .ref rs, .ref rt, .int 0, .int 0, .ref rwr, .ref rp, .ref rsi, .ref rke, .ref rkc, .ref rik]))]) [0] rfl
      have hDc := hD.sub (ws' := [(h0, .inr (11, [.ref rz, .int 0, .int 0, .ref rf, .ref rl, .ref rwx, .ref rb, .int 0, .ref rwd, .ref rk, .ref ra, .int 0, .int 32, .int 0, .ref rs, .ref rt, .int 0, .int 0, .ref rwr, .ref rp, .ref rsi, .ref rke, .ref rkc, .ref rik]))]) [0] (by decide) rfl
      refine yy_calli [0] [1] (wr := [(rz, .inl (cyI, 2490, .inl (upd (upd (upd (yz 0 0) (30 + w).toNatClampNeg mk) (45 + w).toNatClampNeg 1) (60 + w).toNatClampNeg (0 + cl))))]) (va_runV (As := [.int 1]) (rest := []) ⟨hx, hb, hml, hown, hts⟩ (r_done l dC dI cyI cyZ cyO H.size h0 rz 0 0 rf rl rwx rb 0 rwd rk ra 0 32 0 rs rt 0 0 rwr rp rsi rke rkc rik 1 ) (cwV 1 hts gX11_turn_X11_done rfl rfl rfl (by decide +kernel) ⟨Nat.le_of_ble_eq_true rfl, Nat.le_of_ble_eq_true rfl⟩) (yPreV hK hPc hDc (ci := 11) (q0 := 0) rfl rfl) rfl rfl hl.1 rfl (lv_room (Nat.le_of_ble_eq_true rfl)) dX11_turn_87 ⟨Nat.le_of_ble_eq_true rfl, Nat.le_of_ble_eq_true rfl⟩) hP hD hS hA rfl rfl (by decide) (by decide) (fun r_6 u_5 H locs hw hP hD hS => ?_)
      have hP : va_P (dC, dI) vwCl [(rz, .inl (cyI, 2490, .inl (upd (upd (upd (yz 0 0) (30 + w).toNatClampNeg mk) (45 + w).toNatClampNeg 1) (60 + w).toNatClampNeg (0 + cl)))), (h0, .inr (11, [.ref rz, .int 0, .int 0, .ref rf, .ref rl, .ref rwx, .ref rb, .int 0, .ref rwd, .ref rk, .ref ra, .int 0, .int 32, .int 0, .ref rs, .ref rt, .int 0, .int 0, .ref rwr, .ref rp, .ref rsi, .ref rke, .ref rkc, .ref rik]))] H := hP
      have hD : va_D A [(rz, .inl (cyI, 2490, .inl (upd (upd (upd (yz 0 0) (30 + w).toNatClampNeg mk) (45 + w).toNatClampNeg 1) (60 + w).toNatClampNeg (0 + cl)))), (h0, .inr (11, [.ref rz, .int 0, .int 0, .ref rf, .ref rl, .ref rwx, .ref rb, .int 0, .ref rwd, .ref rk, .ref ra, .int 0, .int 32, .int 0, .ref rs, .ref rt, .int 0, .int 0, .ref rwr, .ref rp, .ref rsi, .ref rke, .ref rkc, .ref rik]))] := hD
      refine W.widen (k := 0) (n := 0) (Nat.le_of_ble_eq_true rfl) (Nat.le_of_ble_eq_true rfl) ?_
      have hw : r_6 = 1 := hw.trans (by decide)
      subst hw
      refine W.widen (k := 0) (n := 0) (Nat.le_of_ble_eq_true rfl) (Nat.le_of_ble_eq_true rfl) ?_
      exact yy_iret (v := 1) () hx hb hr hlk rfl hsz hAe hK hP hD hS [] rfl rfl (by decide) (by (try simp only [zB0, Decidable.not_not] at c9 c27); (try simp only [isW, zB, ← Int32.not_lt, sp_slave, sp_register, sp_depth, sp_limit, sp_transfer, sp_clock, sp_finish, sp_turn, sp_wire, sp_findings, sp_bridge, sp_keep, sp_told, ylc1, ylc2, y14, y2] at c9 c27 ⊢); (try simp only [Decidable.not_not] at c9 c27 ⊢); (try simp only [c9, c27, not_true_eq_false, not_false_eq_true, false_and, and_false, true_and, and_true, and_self, or_true, true_or, or_false, false_or, or_self, ↓reduceIte]); (try simp only [← and_assoc]); (try simp only [c9, c27, not_true_eq_false, not_false_eq_true, false_and, and_false, true_and, and_true, and_self, or_true, true_or, or_false, false_or, or_self, ↓reduceIte]); (try decide)) dX11_turn_90
    · refine lv_aload_n hx hb dX11_turn_30 rfl (lv_at hl 0 rfl) ?_
      refine lv_bipush (v := (-2)) hx hb dX11_turn_31 (by decide) ?_
      have hPc := hP.sub (ws' := [(h0, .inr (11, [.ref rz, .int 0, .int 0, .ref rf, .ref rl, .ref rwx, .ref rb, .int 0, .ref rwd, .ref rk, .ref ra, .int 0, .int 32, .int 0, .ref rs, .ref rt, .int 0, .int 0, .ref rwr, .ref rp, .ref rsi, .ref rke, .ref rkc, .ref rik]))]) [0] rfl
      have hDc := hD.sub (ws' := [(h0, .inr (11, [.ref rz, .int 0, .int 0, .ref rf, .ref rl, .ref rwx, .ref rb, .int 0, .ref rwd, .ref rk, .ref ra, .int 0, .int 32, .int 0, .ref rs, .ref rt, .int 0, .int 0, .ref rwr, .ref rp, .ref rsi, .ref rke, .ref rkc, .ref rik]))]) [0] (by decide) rfl
      refine yy_calli [0] [1] (wr := [(rz, .inl (cyI, 2490, .inl (yz 0 0)))]) (va_runV (As := [.int (-2)]) (rest := []) ⟨hx, hb, hml, hown, hts⟩ (r_refused l dC dI cyI cyZ cyO H.size h0 rz 0 0 rf rl rwx rb 0 rwd rk ra 0 32 0 rs rt 0 0 rwr rp rsi rke rkc rik (-2) ) (cwV 1 hts gX11_turn_X11_refused rfl rfl rfl (by decide +kernel) ⟨Nat.le_of_ble_eq_true rfl, Nat.le_of_ble_eq_true rfl⟩) (yPreV hK hPc hDc (ci := 11) (q0 := 0) rfl rfl) rfl rfl hl.1 rfl (lv_room (Nat.le_of_ble_eq_true rfl)) dX11_turn_33 ⟨Nat.le_of_ble_eq_true rfl, Nat.le_of_ble_eq_true rfl⟩) hP hD hS hA rfl rfl (by decide) (by decide) (fun r_8 u_7 H locs hw hP hD hS => ?_)
      have hP : va_P (dC, dI) vwCl [(rz, .inl (cyI, 2490, .inl (yz 0 0))), (h0, .inr (11, [.ref rz, .int (-2), .int 0, .ref rf, .ref rl, .ref rwx, .ref rb, .int 0, .ref rwd, .ref rk, .ref ra, .int 0, .int 32, .int 0, .ref rs, .ref rt, .int 0, .int 0, .ref rwr, .ref rp, .ref rsi, .ref rke, .ref rkc, .ref rik]))] H := hP
      have hD : va_D A [(rz, .inl (cyI, 2490, .inl (yz 0 0))), (h0, .inr (11, [.ref rz, .int (-2), .int 0, .ref rf, .ref rl, .ref rwx, .ref rb, .int 0, .ref rwd, .ref rk, .ref ra, .int 0, .int 32, .int 0, .ref rs, .ref rt, .int 0, .int 0, .ref rwr, .ref rp, .ref rsi, .ref rke, .ref rkc, .ref rik]))] := hD
      refine W.widen (k := 0) (n := 0) (Nat.le_of_ble_eq_true rfl) (Nat.le_of_ble_eq_true rfl) ?_
      have hw : r_8 = (-2) := hw.trans (by decide)
      subst hw
      refine W.widen (k := 0) (n := 0) (Nat.le_of_ble_eq_true rfl) (Nat.le_of_ble_eq_true rfl) ?_
      exact yy_iret (v := (-2)) () hx hb hr hlk rfl hsz hAe hK hP hD hS [] rfl rfl (by decide) (by (try simp only [zB0, Decidable.not_not] at c9 c27); (try simp only [isW, zB, ← Int32.not_lt, sp_slave, sp_register, sp_depth, sp_limit, sp_transfer, sp_clock, sp_finish, sp_turn, sp_wire, sp_findings, sp_bridge, sp_keep, sp_told, ylc1, ylc2, y14, y2] at c9 c27 ⊢); (try simp only [Decidable.not_not] at c9 c27 ⊢); (try simp only [c9, c27, not_true_eq_false, not_false_eq_true, false_and, and_false, true_and, and_true, and_self, or_true, true_or, or_false, false_or, or_self, ↓reduceIte]); (try simp only [← and_assoc]); (try simp only [c9, c27, not_true_eq_false, not_false_eq_true, false_and, and_false, true_and, and_true, and_self, or_true, true_or, or_false, false_or, or_self, ↓reduceIte]); (try decide)) dX11_turn_36
  · refine lv_aload_n hx hb dX11_turn_12 rfl (lv_at hl 0 rfl) ?_
    refine lv_iconst (v := (-1)) hx hb dX11_turn_13 (by decide) ?_
    have hPc := hP.sub (ws' := [(h0, .inr (11, [.ref rz, .int 0, .int 0, .ref rf, .ref rl, .ref rwx, .ref rb, .int 0, .ref rwd, .ref rk, .ref ra, .int 0, .int 32, .int 0, .ref rs, .ref rt, .int 0, .int 0, .ref rwr, .ref rp, .ref rsi, .ref rke, .ref rkc, .ref rik]))]) [0] rfl
    have hDc := hD.sub (ws' := [(h0, .inr (11, [.ref rz, .int 0, .int 0, .ref rf, .ref rl, .ref rwx, .ref rb, .int 0, .ref rwd, .ref rk, .ref ra, .int 0, .int 32, .int 0, .ref rs, .ref rt, .int 0, .int 0, .ref rwr, .ref rp, .ref rsi, .ref rke, .ref rkc, .ref rik]))]) [0] (by decide) rfl
    refine yy_calli [0] [1] (wr := [(rz, .inl (cyI, 2490, .inl (yz 0 0)))]) (va_runV (As := [.int (-1)]) (rest := []) ⟨hx, hb, hml, hown, hts⟩ (r_refused l dC dI cyI cyZ cyO H.size h0 rz 0 0 rf rl rwx rb 0 rwd rk ra 0 32 0 rs rt 0 0 rwr rp rsi rke rkc rik (-1) ) (cwV 1 hts gX11_turn_X11_refused rfl rfl rfl (by decide +kernel) ⟨Nat.le_of_ble_eq_true rfl, Nat.le_of_ble_eq_true rfl⟩) (yPreV hK hPc hDc (ci := 11) (q0 := 0) rfl rfl) rfl rfl hl.1 rfl (lv_room (Nat.le_of_ble_eq_true rfl)) dX11_turn_14 ⟨Nat.le_of_ble_eq_true rfl, Nat.le_of_ble_eq_true rfl⟩) hP hD hS hA rfl rfl (by decide) (by decide) (fun r_10 u_9 H locs hw hP hD hS => ?_)
    have hP : va_P (dC, dI) vwCl [(rz, .inl (cyI, 2490, .inl (yz 0 0))), (h0, .inr (11, [.ref rz, .int (-1), .int 0, .ref rf, .ref rl, .ref rwx, .ref rb, .int 0, .ref rwd, .ref rk, .ref ra, .int 0, .int 32, .int 0, .ref rs, .ref rt, .int 0, .int 0, .ref rwr, .ref rp, .ref rsi, .ref rke, .ref rkc, .ref rik]))] H := hP
    have hD : va_D A [(rz, .inl (cyI, 2490, .inl (yz 0 0))), (h0, .inr (11, [.ref rz, .int (-1), .int 0, .ref rf, .ref rl, .ref rwx, .ref rb, .int 0, .ref rwd, .ref rk, .ref ra, .int 0, .int 32, .int 0, .ref rs, .ref rt, .int 0, .int 0, .ref rwr, .ref rp, .ref rsi, .ref rke, .ref rkc, .ref rik]))] := hD
    refine W.widen (k := 0) (n := 0) (Nat.le_of_ble_eq_true rfl) (Nat.le_of_ble_eq_true rfl) ?_
    have hw : r_10 = (-1) := hw.trans (by decide)
    subst hw
    refine W.widen (k := 0) (n := 0) (Nat.le_of_ble_eq_true rfl) (Nat.le_of_ble_eq_true rfl) ?_
    exact yy_iret (v := (-1)) () hx hb hr hlk rfl hsz hAe hK hP hD hS [] rfl rfl (by decide) (by (try simp only [zB0, Decidable.not_not] at c9); (try simp only [isW, zB, ← Int32.not_lt, sp_slave, sp_register, sp_depth, sp_limit, sp_transfer, sp_clock, sp_finish, sp_turn, sp_wire, sp_findings, sp_bridge, sp_keep, sp_told, ylc1, ylc2, y14, y2] at c9 ⊢); (try simp only [Decidable.not_not] at c9 ⊢); (try simp only [c9, not_true_eq_false, not_false_eq_true, false_and, and_false, true_and, and_true, and_self, or_true, true_or, or_false, false_or, or_self, ↓reduceIte]); (try simp only [← and_assoc]); (try simp only [c9, not_true_eq_false, not_false_eq_true, false_and, and_false, true_and, and_true, and_self, or_true, true_or, or_false, false_or, or_self, ↓reduceIte]); (try decide)) dX11_turn_17
set_option maxHeartbeats 4000000 in
set_option maxRecDepth 100000 in
theorem r_wire (l : Launch) (dC : Nat → ClassId) (dI : Nat → Nat → Nat) (cyI cyZ cyO : ClassId) (sz : Nat) (h0 : Nat) (rz : Nat) (rf : Nat) (rl : Nat) (rwx : Nat) (rb : Nat) (rwd : Nat) (rk : Nat) (ra : Nat) (rs : Nat) (rt : Nat) (rwr : Nat) (rp : Nat) (rsi : Nat) (rke : Nat) (rkc : Nat) (rik : Nat) (i : Int32)  : Met l yX11_wire wsX11_wire ({ frames := 2, cells := 0, slots := 0, locals := 47 }) (yPre [.ref h0, .int i] (dC, dI) [(h0, .inr (11, [.ref rz, .int 0, .int 0, .ref rf, .ref rl, .ref rwx, .ref rb, .int 0, .ref rwd, .ref rk, .ref ra, .int 0, .int 32, .int 0, .ref rs, .ref rt, .int 0, .int 0, .ref rwr, .ref rp, .ref rsi, .ref rke, .ref rkc, .ref rik])), (rz, .inl (cyI, 2490, .inl (yz 0 0)))] (yT cyI cyZ cyO) sz) (yQi (fun (r : Int32) (u : Unit) => r = (sp_wire i)) (dC, dI) [(h0, .inr (11, [.ref rz, .int 0, .int 0, .ref rf, .ref rl, .ref rwx, .ref rb, .int 0, .ref rwd, .ref rk, .ref ra, .int 0, .int 32, .int 0, .ref rs, .ref rt, .int 0, .int 0, .ref rwr, .ref rp, .ref rsi, .ref rke, .ref rkc, .ref rik])), (rz, .inl (cyI, 2490, .inl (yz 0 0)))] (yT cyI cyZ cyO) sz (fun _ => [])) 0 0 (va_A [(h0, .inr (11, [.ref rz, .int 0, .int 0, .ref rf, .ref rl, .ref rwx, .ref rb, .int 0, .ref rwd, .ref rk, .ref ra, .int 0, .int 32, .int 0, .ref rs, .ref rt, .int 0, .int 0, .ref rwr, .ref rp, .ref rsi, .ref rke, .ref rkc, .ref rik])), (rz, .inl (cyI, 2490, .inl (yz 0 0)))] sz) := by
  refine yMet (cc := cX11_wire) (maxL := 2) (ret := (some .int)) (by decide) rfl (Nat.le_of_ble_eq_true rfl) ?_
  intro p e s m below meth c A hx hb hr hlk hml hts hown hnm hsz hAe hP hK hD hA hS ls hl
  have hl : lv_has ls 2 [(0, .ref h0), (1, .int i)] := hl
  have hl205 := hts (.constantLong RX11 205 14) (by decide +kernel)
  refine lv_iload_n hx hb dX11_wire_0 rfl (lv_at hl 1 rfl) ?_
  refine lv_i2l hx hb dX11_wire_1 rfl ?_
  refine lv_lconst (v := (0 : Int32).toInt64) hx hb dX11_wire_2 (by decide) ?_
  refine lv_ldc2 (v := 14) hx hb hown hl205 dX11_wire_3 ?_
  refine yy_long (v := (14 : Int32).toInt64) (by decide) ?_
  have hPc := hP.sub (ws' := []) [] rfl
  have hDc := hD.sub (ws' := []) [] (by decide) rfl
  refine yy_calli [] [0, 1] (wr := [(h0, .inr (11, [.ref rz, .int 0, .int 0, .ref rf, .ref rl, .ref rwx, .ref rb, .int 0, .ref rwd, .ref rk, .ref ra, .int 0, .int 32, .int 0, .ref rs, .ref rt, .int 0, .int 0, .ref rwr, .ref rp, .ref rsi, .ref rke, .ref rkc, .ref rik])), (rz, .inl (cyI, 2490, .inl (yz 0 0)))]) (va_runS (As := [.long (i : Int32).toInt64, .long (0 : Int32).toInt64, .long (14 : Int32).toInt64]) (rest := []) ⟨hx, hb, hml, hown, hts⟩ (r_in l dC dI cyI cyZ cyO s.heap.size i 0 14 ) (va_cwS 3 hts gX11_wire_X11_in rfl rfl rfl (by decide +kernel) ⟨Nat.le_of_ble_eq_true rfl, Nat.le_of_ble_eq_true rfl⟩) (yPreS hK hPc hDc) rfl rfl hl.1 rfl (lv_room (Nat.le_of_ble_eq_true rfl)) dX11_wire_6 ⟨Nat.le_of_ble_eq_true rfl, Nat.le_of_ble_eq_true rfl⟩) hP hD hS hA rfl rfl (by decide) (by decide) (fun r_2 u_1 H locs hw hP hD hS => ?_)
  have hP : va_P (dC, dI) vwCl [(h0, .inr (11, [.ref rz, .int 0, .int 0, .ref rf, .ref rl, .ref rwx, .ref rb, .int 0, .ref rwd, .ref rk, .ref ra, .int 0, .int 32, .int 0, .ref rs, .ref rt, .int 0, .int 0, .ref rwr, .ref rp, .ref rsi, .ref rke, .ref rkc, .ref rik])), (rz, .inl (cyI, 2490, .inl (yz 0 0)))] H := hP
  have hD : va_D A [(h0, .inr (11, [.ref rz, .int 0, .int 0, .ref rf, .ref rl, .ref rwx, .ref rb, .int 0, .ref rwd, .ref rk, .ref ra, .int 0, .int 32, .int 0, .ref rs, .ref rt, .int 0, .int 0, .ref rwr, .ref rp, .ref rsi, .ref rke, .ref rkc, .ref rik])), (rz, .inl (cyI, 2490, .inl (yz 0 0)))] := hD
  refine W.widen (k := 0) (n := 0) (Nat.le_of_ble_eq_true rfl) (Nat.le_of_ble_eq_true rfl) ?_
  have hw : r_2 = (zB (0 ≤ i ∧ i ≤ 14)) := hw
  subst hw
  refine lv_if_eq (tgt := 24) hx hb dX11_wire_9 (by decide) (fun c9 => ?_) (fun c9 => ?_)
  · refine lv_aload_n hx hb dX11_wire_24 rfl (lv_at hl 0 rfl) ?_
    refine lv_iconst (v := (-1)) hx hb dX11_wire_25 (by decide) ?_
    have hPc := hP.sub (ws' := [(h0, .inr (11, [.ref rz, .int 0, .int 0, .ref rf, .ref rl, .ref rwx, .ref rb, .int 0, .ref rwd, .ref rk, .ref ra, .int 0, .int 32, .int 0, .ref rs, .ref rt, .int 0, .int 0, .ref rwr, .ref rp, .ref rsi, .ref rke, .ref rkc, .ref rik]))]) [0] rfl
    have hDc := hD.sub (ws' := [(h0, .inr (11, [.ref rz, .int 0, .int 0, .ref rf, .ref rl, .ref rwx, .ref rb, .int 0, .ref rwd, .ref rk, .ref ra, .int 0, .int 32, .int 0, .ref rs, .ref rt, .int 0, .int 0, .ref rwr, .ref rp, .ref rsi, .ref rke, .ref rkc, .ref rik]))]) [0] (by decide) rfl
    refine yy_calli [0] [1] (wr := [(rz, .inl (cyI, 2490, .inl (yz 0 0)))]) (va_runV (As := [.int (-1)]) (rest := []) ⟨hx, hb, hml, hown, hts⟩ (r_none l dC dI cyI cyZ cyO H.size h0 rz 0 0 rf rl rwx rb 0 rwd rk ra 0 32 0 rs rt 0 0 rwr rp rsi rke rkc rik (-1) ) (cwV 1 hts gX11_wire_X11_none rfl rfl rfl (by decide +kernel) ⟨Nat.le_of_ble_eq_true rfl, Nat.le_of_ble_eq_true rfl⟩) (yPreV hK hPc hDc (ci := 11) (q0 := 0) rfl rfl) rfl rfl hl.1 rfl (lv_room (Nat.le_of_ble_eq_true rfl)) dX11_wire_26 ⟨Nat.le_of_ble_eq_true rfl, Nat.le_of_ble_eq_true rfl⟩) hP hD hS hA rfl rfl (by decide) (by decide) (fun r_4 u_3 H locs hw hP hD hS => ?_)
    have hP : va_P (dC, dI) vwCl [(rz, .inl (cyI, 2490, .inl (yz 0 0))), (h0, .inr (11, [.ref rz, .int (-1), .int 0, .ref rf, .ref rl, .ref rwx, .ref rb, .int 0, .ref rwd, .ref rk, .ref ra, .int 0, .int 32, .int 0, .ref rs, .ref rt, .int 0, .int 0, .ref rwr, .ref rp, .ref rsi, .ref rke, .ref rkc, .ref rik]))] H := hP
    have hD : va_D A [(rz, .inl (cyI, 2490, .inl (yz 0 0))), (h0, .inr (11, [.ref rz, .int (-1), .int 0, .ref rf, .ref rl, .ref rwx, .ref rb, .int 0, .ref rwd, .ref rk, .ref ra, .int 0, .int 32, .int 0, .ref rs, .ref rt, .int 0, .int 0, .ref rwr, .ref rp, .ref rsi, .ref rke, .ref rkc, .ref rik]))] := hD
    refine W.widen (k := 0) (n := 0) (Nat.le_of_ble_eq_true rfl) (Nat.le_of_ble_eq_true rfl) ?_
    have hw : r_4 = 0 := hw
    subst hw
    refine W.widen (k := 0) (n := 0) (Nat.le_of_ble_eq_true rfl) (Nat.le_of_ble_eq_true rfl) ?_
    exact yy_iret (v := 0) () hx hb hr hlk rfl hsz hAe hK hP hD hS [] rfl rfl (by decide) (by (try simp only [zB0, Decidable.not_not] at c9); (try simp only [isW, zB, ← Int32.not_lt, sp_slave, sp_register, sp_depth, sp_limit, sp_transfer, sp_clock, sp_finish, sp_turn, sp_wire, sp_findings, sp_bridge, sp_keep, sp_told, ylc1, ylc2, y14, y2] at c9 ⊢); (try simp only [Decidable.not_not] at c9 ⊢); (try simp only [c9, not_true_eq_false, not_false_eq_true, false_and, and_false, true_and, and_true, and_self, or_true, true_or, or_false, false_or, or_self, ↓reduceIte]); (try simp only [← and_assoc]); (try simp only [c9, not_true_eq_false, not_false_eq_true, false_and, and_false, true_and, and_true, and_self, or_true, true_or, or_false, false_or, or_self, ↓reduceIte]); (try decide)) dX11_wire_29
  · have hin := yinr (n := 15) rfl (by decide) c9
    refine lv_aload_n hx hb dX11_wire_12 rfl (lv_at hl 0 rfl) ?_
    refine lv_aload_n hx hb dX11_wire_13 rfl (lv_at hl 0 rfl) ?_
    refine lv_iload_n hx hb dX11_wire_14 rfl (lv_at hl 1 rfl) ?_
    have hPc := hP.sub (ws' := [(h0, .inr (11, [.ref rz, .int 0, .int 0, .ref rf, .ref rl, .ref rwx, .ref rb, .int 0, .ref rwd, .ref rk, .ref ra, .int 0, .int 32, .int 0, .ref rs, .ref rt, .int 0, .int 0, .ref rwr, .ref rp, .ref rsi, .ref rke, .ref rkc, .ref rik])), (rz, .inl (cyI, 2490, .inl (yz 0 0)))]) [0, 1] rfl
    have hDc := hD.sub (ws' := [(h0, .inr (11, [.ref rz, .int 0, .int 0, .ref rf, .ref rl, .ref rwx, .ref rb, .int 0, .ref rwd, .ref rk, .ref ra, .int 0, .int 32, .int 0, .ref rs, .ref rt, .int 0, .int 0, .ref rwr, .ref rp, .ref rsi, .ref rke, .ref rkc, .ref rik])), (rz, .inl (cyI, 2490, .inl (yz 0 0)))]) [0, 1] (by decide) rfl
    refine yy_calli [0, 1] [] (wr := []) (va_runV (As := [.int i]) (rest := [.ref h0]) ⟨hx, hb, hml, hown, hts⟩ (r_seenS l dC dI cyI cyZ cyO H.size h0 rz rf rl rwx rb rwd rk ra rs rt rwr rp rsi rke rkc rik i (by first | exact yin (by decide) | assumption)) (cwV 1 hts gX11_wire_X11_seen rfl rfl rfl (by decide +kernel) ⟨Nat.le_of_ble_eq_true rfl, Nat.le_of_ble_eq_true rfl⟩) (yPreV hK hPc hDc (ci := 11) (q0 := 0) rfl rfl) rfl rfl hl.1 rfl (lv_room (Nat.le_of_ble_eq_true rfl)) dX11_wire_15 ⟨Nat.le_of_ble_eq_true rfl, Nat.le_of_ble_eq_true rfl⟩) hP hD hS hA rfl rfl (by decide) (by decide) (fun r_6 u_5 H locs hw hP hD hS => ?_)
    have hP : va_P (dC, dI) vwCl [(h0, .inr (11, [.ref rz, .int 0, .int 0, .ref rf, .ref rl, .ref rwx, .ref rb, .int 0, .ref rwd, .ref rk, .ref ra, .int 0, .int 32, .int 0, .ref rs, .ref rt, .int 0, .int 0, .ref rwr, .ref rp, .ref rsi, .ref rke, .ref rkc, .ref rik])), (rz, .inl (cyI, 2490, .inl (yz 0 0)))] H := hP
    have hD : va_D A [(h0, .inr (11, [.ref rz, .int 0, .int 0, .ref rf, .ref rl, .ref rwx, .ref rb, .int 0, .ref rwd, .ref rk, .ref ra, .int 0, .int 32, .int 0, .ref rs, .ref rt, .int 0, .int 0, .ref rwr, .ref rp, .ref rsi, .ref rke, .ref rkc, .ref rik])), (rz, .inl (cyI, 2490, .inl (yz 0 0)))] := hD
    refine W.widen (k := 0) (n := 0) (Nat.le_of_ble_eq_true rfl) (Nat.le_of_ble_eq_true rfl) ?_
    have hw : r_6 = (yR i.toNatClampNeg) := hw
    subst hw
    have hPc := hP.sub (ws' := [(h0, .inr (11, [.ref rz, .int 0, .int 0, .ref rf, .ref rl, .ref rwx, .ref rb, .int 0, .ref rwd, .ref rk, .ref ra, .int 0, .int 32, .int 0, .ref rs, .ref rt, .int 0, .int 0, .ref rwr, .ref rp, .ref rsi, .ref rke, .ref rkc, .ref rik]))]) [0] rfl
    have hDc := hD.sub (ws' := [(h0, .inr (11, [.ref rz, .int 0, .int 0, .ref rf, .ref rl, .ref rwx, .ref rb, .int 0, .ref rwd, .ref rk, .ref ra, .int 0, .int 32, .int 0, .ref rs, .ref rt, .int 0, .int 0, .ref rwr, .ref rp, .ref rsi, .ref rke, .ref rkc, .ref rik]))]) [0] (by decide) rfl
    refine yy_calli [0] [1] (wr := [(rz, .inl (cyI, 2490, .inl (yz 0 0)))]) (va_runV (As := [.int (yR i.toNatClampNeg)]) (rest := []) ⟨hx, hb, hml, hown, hts⟩ (r_done l dC dI cyI cyZ cyO H.size h0 rz 0 0 rf rl rwx rb 0 rwd rk ra 0 32 0 rs rt 0 0 rwr rp rsi rke rkc rik (yR i.toNatClampNeg) ) (cwV 1 hts gX11_wire_X11_done rfl rfl rfl (by decide +kernel) ⟨Nat.le_of_ble_eq_true rfl, Nat.le_of_ble_eq_true rfl⟩) (yPreV hK hPc hDc (ci := 11) (q0 := 0) rfl rfl) rfl rfl hl.1 rfl (lv_room (Nat.le_of_ble_eq_true rfl)) dX11_wire_18 ⟨Nat.le_of_ble_eq_true rfl, Nat.le_of_ble_eq_true rfl⟩) hP hD hS hA rfl rfl (by decide) (by decide) (fun r_8 u_7 H locs hw hP hD hS => ?_)
    have hP : va_P (dC, dI) vwCl [(rz, .inl (cyI, 2490, .inl (yz 0 0))), (h0, .inr (11, [.ref rz, .int 0, .int 0, .ref rf, .ref rl, .ref rwx, .ref rb, .int 0, .ref rwd, .ref rk, .ref ra, .int 0, .int 32, .int 0, .ref rs, .ref rt, .int 0, .int 0, .ref rwr, .ref rp, .ref rsi, .ref rke, .ref rkc, .ref rik]))] H := hP
    have hD : va_D A [(rz, .inl (cyI, 2490, .inl (yz 0 0))), (h0, .inr (11, [.ref rz, .int 0, .int 0, .ref rf, .ref rl, .ref rwx, .ref rb, .int 0, .ref rwd, .ref rk, .ref ra, .int 0, .int 32, .int 0, .ref rs, .ref rt, .int 0, .int 0, .ref rwr, .ref rp, .ref rsi, .ref rke, .ref rkc, .ref rik]))] := hD
    refine W.widen (k := 0) (n := 0) (Nat.le_of_ble_eq_true rfl) (Nat.le_of_ble_eq_true rfl) ?_
    have hw : r_8 = (yR i.toNatClampNeg) := hw
    subst hw
    refine lv_goto (tgt := 29) hx hb dX11_wire_21 (by decide) ?_
    refine W.widen (k := 0) (n := 0) (Nat.le_of_ble_eq_true rfl) (Nat.le_of_ble_eq_true rfl) ?_
    exact yy_iret (v := (yR i.toNatClampNeg)) () hx hb hr hlk rfl hsz hAe hK hP hD hS [] rfl rfl (by decide) (by (try simp only [zB0, Decidable.not_not] at c9); (try simp only [isW, zB, ← Int32.not_lt, sp_slave, sp_register, sp_depth, sp_limit, sp_transfer, sp_clock, sp_finish, sp_turn, sp_wire, sp_findings, sp_bridge, sp_keep, sp_told, ylc1, ylc2, y14, y2] at c9 ⊢); (try simp only [Decidable.not_not] at c9 ⊢); (try simp only [c9, not_true_eq_false, not_false_eq_true, false_and, and_false, true_and, and_true, and_self, or_true, true_or, or_false, false_or, or_self, ↓reduceIte]); (try simp only [← and_assoc]); (try simp only [c9, not_true_eq_false, not_false_eq_true, false_and, and_false, true_and, and_true, and_self, or_true, true_or, or_false, false_or, or_self, ↓reduceIte]); (try decide)) dX11_wire_29
set_option maxHeartbeats 4000000 in
set_option maxRecDepth 100000 in
theorem r_under (l : Launch) (dC : Nat → ClassId) (dI : Nat → Nat → Nat) (cyI cyZ cyO : ClassId) (sz : Nat) (h0 : Nat) (rz : Nat) (rf : Nat) (rl : Nat) (rwx : Nat) (rb : Nat) (rwd : Nat) (rk : Nat) (ra : Nat) (rs : Nat) (rt : Nat) (rwr : Nat) (rp : Nat) (rsi : Nat) (rke : Nat) (rkc : Nat) (rik : Nat) (i : Int32)  : Met l yX11_under wsX11_under ({ frames := 1, cells := 0, slots := 0, locals := 25 }) (yPre [.ref h0, .int i] (dC, dI) [(h0, .inr (11, [.ref rz, .int 0, .int 0, .ref rf, .ref rl, .ref rwx, .ref rb, .int 0, .ref rwd, .ref rk, .ref ra, .int 0, .int 32, .int 0, .ref rs, .ref rt, .int 0, .int 0, .ref rwr, .ref rp, .ref rsi, .ref rke, .ref rkc, .ref rik])), (rz, .inl (cyI, 2490, .inl (yz 0 0)))] (yT cyI cyZ cyO) sz) (yQi (fun (r : Int32) (u : Unit) => r = (sp_wire i)) (dC, dI) [(h0, .inr (11, [.ref rz, .int 0, .int 0, .ref rf, .ref rl, .ref rwx, .ref rb, .int 0, .ref rwd, .ref rk, .ref ra, .int 0, .int 32, .int 0, .ref rs, .ref rt, .int 0, .int 0, .ref rwr, .ref rp, .ref rsi, .ref rke, .ref rkc, .ref rik])), (rz, .inl (cyI, 2490, .inl (yz 0 0)))] (yT cyI cyZ cyO) sz (fun _ => [])) 0 0 (va_A [(h0, .inr (11, [.ref rz, .int 0, .int 0, .ref rf, .ref rl, .ref rwx, .ref rb, .int 0, .ref rwd, .ref rk, .ref ra, .int 0, .int 32, .int 0, .ref rs, .ref rt, .int 0, .int 0, .ref rwr, .ref rp, .ref rsi, .ref rke, .ref rkc, .ref rik])), (rz, .inl (cyI, 2490, .inl (yz 0 0)))] sz) := by
  refine yMet (cc := cX11_under) (maxL := 2) (ret := (some .int)) (by decide) rfl (Nat.le_of_ble_eq_true rfl) ?_
  intro p e s m below meth c A hx hb hr hlk hml hts hown hnm hsz hAe hP hK hD hA hS ls hl
  have hl : lv_has ls 2 [(0, .ref h0), (1, .int i)] := hl
  have hf7 := hts (.fieldLink RX11 7 "BusBridgeModel" "z" "[I") (by decide +kernel)
  have hl205 := hts (.constantLong RX11 205 14) (by decide +kernel)
  have hnX11 : ∀ w ∈ wsX110, w ∈ wsX11_under := by decide +kernel
  refine lv_iload_n hx hb dX11_under_0 rfl (lv_at hl 1 rfl) ?_
  refine lv_i2l hx hb dX11_under_1 rfl ?_
  refine lv_lconst (v := (0 : Int32).toInt64) hx hb dX11_under_2 (by decide) ?_
  refine lv_ldc2 (v := 14) hx hb hown hl205 dX11_under_3 ?_
  refine yy_long (v := (14 : Int32).toInt64) (by decide) ?_
  have hPc := hP.sub (ws' := []) [] rfl
  have hDc := hD.sub (ws' := []) [] (by decide) rfl
  refine yy_calli [] [0, 1] (wr := [(h0, .inr (11, [.ref rz, .int 0, .int 0, .ref rf, .ref rl, .ref rwx, .ref rb, .int 0, .ref rwd, .ref rk, .ref ra, .int 0, .int 32, .int 0, .ref rs, .ref rt, .int 0, .int 0, .ref rwr, .ref rp, .ref rsi, .ref rke, .ref rkc, .ref rik])), (rz, .inl (cyI, 2490, .inl (yz 0 0)))]) (va_runS (As := [.long (i : Int32).toInt64, .long (0 : Int32).toInt64, .long (14 : Int32).toInt64]) (rest := []) ⟨hx, hb, hml, hown, hts⟩ (r_in l dC dI cyI cyZ cyO s.heap.size i 0 14 ) (va_cwS 3 hts gX11_under_X11_in rfl rfl rfl (by decide +kernel) ⟨Nat.le_of_ble_eq_true rfl, Nat.le_of_ble_eq_true rfl⟩) (yPreS hK hPc hDc) rfl rfl hl.1 rfl (lv_room (Nat.le_of_ble_eq_true rfl)) dX11_under_6 ⟨Nat.le_of_ble_eq_true rfl, Nat.le_of_ble_eq_true rfl⟩) hP hD hS hA rfl rfl (by decide) (by decide) (fun r_2 u_1 H locs hw hP hD hS => ?_)
  have hP : va_P (dC, dI) vwCl [(h0, .inr (11, [.ref rz, .int 0, .int 0, .ref rf, .ref rl, .ref rwx, .ref rb, .int 0, .ref rwd, .ref rk, .ref ra, .int 0, .int 32, .int 0, .ref rs, .ref rt, .int 0, .int 0, .ref rwr, .ref rp, .ref rsi, .ref rke, .ref rkc, .ref rik])), (rz, .inl (cyI, 2490, .inl (yz 0 0)))] H := hP
  have hD : va_D A [(h0, .inr (11, [.ref rz, .int 0, .int 0, .ref rf, .ref rl, .ref rwx, .ref rb, .int 0, .ref rwd, .ref rk, .ref ra, .int 0, .int 32, .int 0, .ref rs, .ref rt, .int 0, .int 0, .ref rwr, .ref rp, .ref rsi, .ref rke, .ref rkc, .ref rik])), (rz, .inl (cyI, 2490, .inl (yz 0 0)))] := hD
  refine W.widen (k := 0) (n := 0) (Nat.le_of_ble_eq_true rfl) (Nat.le_of_ble_eq_true rfl) ?_
  have hw : r_2 = (zB (0 ≤ i ∧ i ≤ 14)) := hw
  subst hw
  refine lv_if_eq (tgt := 25) hx hb dX11_under_9 (by decide) (fun c9 => ?_) (fun c9 => ?_)
  · refine lv_aload_n hx hb dX11_under_25 rfl (lv_at hl 0 rfl) ?_
    refine lv_iconst (v := (-1)) hx hb dX11_under_26 (by decide) ?_
    have hPc := hP.sub (ws' := [(h0, .inr (11, [.ref rz, .int 0, .int 0, .ref rf, .ref rl, .ref rwx, .ref rb, .int 0, .ref rwd, .ref rk, .ref ra, .int 0, .int 32, .int 0, .ref rs, .ref rt, .int 0, .int 0, .ref rwr, .ref rp, .ref rsi, .ref rke, .ref rkc, .ref rik]))]) [0] rfl
    have hDc := hD.sub (ws' := [(h0, .inr (11, [.ref rz, .int 0, .int 0, .ref rf, .ref rl, .ref rwx, .ref rb, .int 0, .ref rwd, .ref rk, .ref ra, .int 0, .int 32, .int 0, .ref rs, .ref rt, .int 0, .int 0, .ref rwr, .ref rp, .ref rsi, .ref rke, .ref rkc, .ref rik]))]) [0] (by decide) rfl
    refine yy_calli [0] [1] (wr := [(rz, .inl (cyI, 2490, .inl (yz 0 0)))]) (va_runV (As := [.int (-1)]) (rest := []) ⟨hx, hb, hml, hown, hts⟩ (r_none l dC dI cyI cyZ cyO H.size h0 rz 0 0 rf rl rwx rb 0 rwd rk ra 0 32 0 rs rt 0 0 rwr rp rsi rke rkc rik (-1) ) (cwV 1 hts gX11_under_X11_none rfl rfl rfl (by decide +kernel) ⟨Nat.le_of_ble_eq_true rfl, Nat.le_of_ble_eq_true rfl⟩) (yPreV hK hPc hDc (ci := 11) (q0 := 0) rfl rfl) rfl rfl hl.1 rfl (lv_room (Nat.le_of_ble_eq_true rfl)) dX11_under_27 ⟨Nat.le_of_ble_eq_true rfl, Nat.le_of_ble_eq_true rfl⟩) hP hD hS hA rfl rfl (by decide) (by decide) (fun r_4 u_3 H locs hw hP hD hS => ?_)
    have hP : va_P (dC, dI) vwCl [(rz, .inl (cyI, 2490, .inl (yz 0 0))), (h0, .inr (11, [.ref rz, .int (-1), .int 0, .ref rf, .ref rl, .ref rwx, .ref rb, .int 0, .ref rwd, .ref rk, .ref ra, .int 0, .int 32, .int 0, .ref rs, .ref rt, .int 0, .int 0, .ref rwr, .ref rp, .ref rsi, .ref rke, .ref rkc, .ref rik]))] H := hP
    have hD : va_D A [(rz, .inl (cyI, 2490, .inl (yz 0 0))), (h0, .inr (11, [.ref rz, .int (-1), .int 0, .ref rf, .ref rl, .ref rwx, .ref rb, .int 0, .ref rwd, .ref rk, .ref ra, .int 0, .int 32, .int 0, .ref rs, .ref rt, .int 0, .int 0, .ref rwr, .ref rp, .ref rsi, .ref rke, .ref rkc, .ref rik]))] := hD
    refine W.widen (k := 0) (n := 0) (Nat.le_of_ble_eq_true rfl) (Nat.le_of_ble_eq_true rfl) ?_
    have hw : r_4 = 0 := hw
    subst hw
    refine W.widen (k := 0) (n := 0) (Nat.le_of_ble_eq_true rfl) (Nat.le_of_ble_eq_true rfl) ?_
    exact yy_iret (v := 0) () hx hb hr hlk rfl hsz hAe hK hP hD hS [] rfl rfl (by decide) (by (try simp only [zB0, Decidable.not_not] at c9); (try simp only [isW, zB, ← Int32.not_lt, sp_slave, sp_register, sp_depth, sp_limit, sp_transfer, sp_clock, sp_finish, sp_turn, sp_wire, sp_findings, sp_bridge, sp_keep, sp_told, ylc1, ylc2, y14, y2] at c9 ⊢); (try simp only [Decidable.not_not] at c9 ⊢); (try simp only [c9, not_true_eq_false, not_false_eq_true, false_and, and_false, true_and, and_true, and_self, or_true, true_or, or_false, false_or, or_self, ↓reduceIte]); (try simp only [← and_assoc]); (try simp only [c9, not_true_eq_false, not_false_eq_true, false_and, and_false, true_and, and_true, and_self, or_true, true_or, or_false, false_or, or_self, ↓reduceIte]); (try decide)) dX11_under_30
  · have hin := yinr (n := 15) rfl (by decide) c9
    refine lv_aload_n hx hb dX11_under_12 rfl (lv_at hl 0 rfl) ?_
    refine lv_aload_n hx hb dX11_under_13 rfl (lv_at hl 0 rfl) ?_
    refine va_get (D := (dC, dI)) (ci := 11) (v := .ref rz) (C := RX11) (T := TX11) (N := 24) hx hb hts hnX11 hown hK hP 0 rfl rfl 0 (by decide) hf7 (fun _ h9 => h9) rfl dX11_under_14 ?_
    refine lv_iload_n hx hb dX11_under_17 rfl (lv_at hl 1 rfl) ?_
    refine yy_iald (v := (yR i.toNatClampNeg)) hx hb hK hP 1 0 rfl rfl (yin_mono hin (by decide)) dX11_under_18 (yzW hin) ?_
    have hPc := hP.sub (ws' := [(h0, .inr (11, [.ref rz, .int 0, .int 0, .ref rf, .ref rl, .ref rwx, .ref rb, .int 0, .ref rwd, .ref rk, .ref ra, .int 0, .int 32, .int 0, .ref rs, .ref rt, .int 0, .int 0, .ref rwr, .ref rp, .ref rsi, .ref rke, .ref rkc, .ref rik]))]) [0] rfl
    have hDc := hD.sub (ws' := [(h0, .inr (11, [.ref rz, .int 0, .int 0, .ref rf, .ref rl, .ref rwx, .ref rb, .int 0, .ref rwd, .ref rk, .ref ra, .int 0, .int 32, .int 0, .ref rs, .ref rt, .int 0, .int 0, .ref rwr, .ref rp, .ref rsi, .ref rke, .ref rkc, .ref rik]))]) [0] (by decide) rfl
    refine yy_calli [0] [1] (wr := [(rz, .inl (cyI, 2490, .inl (yz 0 0)))]) (va_runV (As := [.int (yR i.toNatClampNeg)]) (rest := []) ⟨hx, hb, hml, hown, hts⟩ (r_done l dC dI cyI cyZ cyO H.size h0 rz 0 0 rf rl rwx rb 0 rwd rk ra 0 32 0 rs rt 0 0 rwr rp rsi rke rkc rik (yR i.toNatClampNeg) ) (cwV 1 hts gX11_under_X11_done rfl rfl rfl (by decide +kernel) ⟨Nat.le_of_ble_eq_true rfl, Nat.le_of_ble_eq_true rfl⟩) (yPreV hK hPc hDc (ci := 11) (q0 := 0) rfl rfl) rfl rfl hl.1 rfl (lv_room (Nat.le_of_ble_eq_true rfl)) dX11_under_19 ⟨Nat.le_of_ble_eq_true rfl, Nat.le_of_ble_eq_true rfl⟩) hP hD hS hA rfl rfl (by decide) (by decide) (fun r_6 u_5 H locs hw hP hD hS => ?_)
    have hP : va_P (dC, dI) vwCl [(rz, .inl (cyI, 2490, .inl (yz 0 0))), (h0, .inr (11, [.ref rz, .int 0, .int 0, .ref rf, .ref rl, .ref rwx, .ref rb, .int 0, .ref rwd, .ref rk, .ref ra, .int 0, .int 32, .int 0, .ref rs, .ref rt, .int 0, .int 0, .ref rwr, .ref rp, .ref rsi, .ref rke, .ref rkc, .ref rik]))] H := hP
    have hD : va_D A [(rz, .inl (cyI, 2490, .inl (yz 0 0))), (h0, .inr (11, [.ref rz, .int 0, .int 0, .ref rf, .ref rl, .ref rwx, .ref rb, .int 0, .ref rwd, .ref rk, .ref ra, .int 0, .int 32, .int 0, .ref rs, .ref rt, .int 0, .int 0, .ref rwr, .ref rp, .ref rsi, .ref rke, .ref rkc, .ref rik]))] := hD
    refine W.widen (k := 0) (n := 0) (Nat.le_of_ble_eq_true rfl) (Nat.le_of_ble_eq_true rfl) ?_
    have hw : r_6 = (yR i.toNatClampNeg) := hw
    subst hw
    refine lv_goto (tgt := 30) hx hb dX11_under_22 (by decide) ?_
    refine W.widen (k := 0) (n := 0) (Nat.le_of_ble_eq_true rfl) (Nat.le_of_ble_eq_true rfl) ?_
    exact yy_iret (v := (yR i.toNatClampNeg)) () hx hb hr hlk rfl hsz hAe hK hP hD hS [] rfl rfl (by decide) (by (try simp only [zB0, Decidable.not_not] at c9); (try simp only [isW, zB, ← Int32.not_lt, sp_slave, sp_register, sp_depth, sp_limit, sp_transfer, sp_clock, sp_finish, sp_turn, sp_wire, sp_findings, sp_bridge, sp_keep, sp_told, ylc1, ylc2, y14, y2] at c9 ⊢); (try simp only [Decidable.not_not] at c9 ⊢); (try simp only [c9, not_true_eq_false, not_false_eq_true, false_and, and_false, true_and, and_true, and_self, or_true, true_or, or_false, false_or, or_self, ↓reduceIte]); (try simp only [← and_assoc]); (try simp only [c9, not_true_eq_false, not_false_eq_true, false_and, and_false, true_and, and_true, and_self, or_true, true_or, or_false, false_or, or_self, ↓reduceIte]); (try decide)) dX11_under_30
set_option maxHeartbeats 4000000 in
set_option maxRecDepth 100000 in
theorem r_result (l : Launch) (dC : Nat → ClassId) (dI : Nat → Nat → Nat) (cyI cyZ cyO : ClassId) (sz : Nat) (h0 : Nat) (rz : Nat) (rf : Nat) (rl : Nat) (rwx : Nat) (rb : Nat) (rwd : Nat) (rk : Nat) (ra : Nat) (rs : Nat) (rt : Nat) (rwr : Nat) (rp : Nat) (rsi : Nat) (rke : Nat) (rkc : Nat) (rik : Nat) (t : Int32) (w : Int32)  : Met l yX11_result wsX11_result ({ frames := 1, cells := 0, slots := 0, locals := 25 }) (yPre [.ref h0, .int t, .int w] (dC, dI) [(h0, .inr (11, [.ref rz, .int 0, .int 0, .ref rf, .ref rl, .ref rwx, .ref rb, .int 0, .ref rwd, .ref rk, .ref ra, .int 0, .int 32, .int 0, .ref rs, .ref rt, .int 0, .int 0, .ref rwr, .ref rp, .ref rsi, .ref rke, .ref rkc, .ref rik])), (rz, .inl (cyI, 2490, .inl (yz 0 0)))] (yT cyI cyZ cyO) sz) (yQi (fun (r : Int32) (u : Unit) => r = 0) (dC, dI) [(h0, .inr (11, [.ref rz, .int 0, .int 0, .ref rf, .ref rl, .ref rwx, .ref rb, .int 0, .ref rwd, .ref rk, .ref ra, .int 0, .int 32, .int 0, .ref rs, .ref rt, .int 0, .int 0, .ref rwr, .ref rp, .ref rsi, .ref rke, .ref rkc, .ref rik])), (rz, .inl (cyI, 2490, .inl (yz 0 0)))] (yT cyI cyZ cyO) sz (fun _ => [])) 0 0 (va_A [(h0, .inr (11, [.ref rz, .int 0, .int 0, .ref rf, .ref rl, .ref rwx, .ref rb, .int 0, .ref rwd, .ref rk, .ref ra, .int 0, .int 32, .int 0, .ref rs, .ref rt, .int 0, .int 0, .ref rwr, .ref rp, .ref rsi, .ref rke, .ref rkc, .ref rik])), (rz, .inl (cyI, 2490, .inl (yz 0 0)))] sz) := by
  refine yMet (cc := cX11_result) (maxL := 3) (ret := (some .int)) (by decide) rfl (Nat.le_of_ble_eq_true rfl) ?_
  intro p e s m below meth c A hx hb hr hlk hml hts hown hnm hsz hAe hP hK hD hA hS ls hl
  have hl : lv_has ls 3 [(0, .ref h0), (1, .int t), (2, .int w)] := hl
  have hf7 := hts (.fieldLink RX11 7 "BusBridgeModel" "z" "[I") (by decide +kernel)
  have hnX11 : ∀ w ∈ wsX110, w ∈ wsX11_result := by decide +kernel
  refine lv_iload_n hx hb dX11_result_0 rfl (lv_at hl 1 rfl) ?_
  refine lv_i2l hx hb dX11_result_1 rfl ?_
  refine lv_lconst (v := (0 : Int32).toInt64) hx hb dX11_result_2 (by decide) ?_
  refine lv_aload_n hx hb dX11_result_3 rfl (lv_at hl 0 rfl) ?_
  refine va_get (D := (dC, dI)) (ci := 11) (v := .ref rz) (C := RX11) (T := TX11) (N := 24) hx hb hts hnX11 hown hK hP 0 rfl rfl 0 (by decide) hf7 (fun _ h9 => h9) rfl dX11_result_4 ?_
  refine lv_sipush (v := 212) hx hb dX11_result_7 (by decide) ?_
  refine yy_iald (v := 0) hx hb hK hP 1 0 rfl rfl (yin (by decide)) dX11_result_10 rfl ?_
  refine lv_iconst (v := 1) hx hb dX11_result_11 (by decide) ?_
  refine lv_isub hx hb dX11_result_12 ?_
  refine yy_int (v := (-1)) (by decide) ?_
  refine lv_i2l hx hb dX11_result_13 rfl ?_
  have hPc := hP.sub (ws' := []) [] rfl
  have hDc := hD.sub (ws' := []) [] (by decide) rfl
  refine yy_calli [] [0, 1] (wr := [(h0, .inr (11, [.ref rz, .int 0, .int 0, .ref rf, .ref rl, .ref rwx, .ref rb, .int 0, .ref rwd, .ref rk, .ref ra, .int 0, .int 32, .int 0, .ref rs, .ref rt, .int 0, .int 0, .ref rwr, .ref rp, .ref rsi, .ref rke, .ref rkc, .ref rik])), (rz, .inl (cyI, 2490, .inl (yz 0 0)))]) (va_runS (As := [.long (t : Int32).toInt64, .long (0 : Int32).toInt64, .long ((-1) : Int32).toInt64]) (rest := []) ⟨hx, hb, hml, hown, hts⟩ (r_inE l dC dI cyI cyZ cyO s.heap.size t 0 (-1) (by decide)) (va_cwS 3 hts gX11_result_X11_in rfl rfl rfl (by decide +kernel) ⟨Nat.le_of_ble_eq_true rfl, Nat.le_of_ble_eq_true rfl⟩) (yPreS hK hPc hDc) rfl rfl hl.1 rfl (lv_room (Nat.le_of_ble_eq_true rfl)) dX11_result_14 ⟨Nat.le_of_ble_eq_true rfl, Nat.le_of_ble_eq_true rfl⟩) hP hD hS hA rfl rfl (by decide) (by decide) (fun r_2 u_1 H locs hw hP hD hS => ?_)
  have hP : va_P (dC, dI) vwCl [(h0, .inr (11, [.ref rz, .int 0, .int 0, .ref rf, .ref rl, .ref rwx, .ref rb, .int 0, .ref rwd, .ref rk, .ref ra, .int 0, .int 32, .int 0, .ref rs, .ref rt, .int 0, .int 0, .ref rwr, .ref rp, .ref rsi, .ref rke, .ref rkc, .ref rik])), (rz, .inl (cyI, 2490, .inl (yz 0 0)))] H := hP
  have hD : va_D A [(h0, .inr (11, [.ref rz, .int 0, .int 0, .ref rf, .ref rl, .ref rwx, .ref rb, .int 0, .ref rwd, .ref rk, .ref ra, .int 0, .int 32, .int 0, .ref rs, .ref rt, .int 0, .int 0, .ref rwr, .ref rp, .ref rsi, .ref rke, .ref rkc, .ref rik])), (rz, .inl (cyI, 2490, .inl (yz 0 0)))] := hD
  refine W.widen (k := 0) (n := 0) (Nat.le_of_ble_eq_true rfl) (Nat.le_of_ble_eq_true rfl) ?_
  have hw : r_2 = 0 := hw
  subst hw
  refine lv_if_ne (tgt := 26) hx hb dX11_result_17 (by decide) (fun c => absurd (by decide) c) (fun _ => ?_)
  refine lv_aload_n hx hb dX11_result_20 rfl (lv_at hl 0 rfl) ?_
  refine lv_iconst (v := (-1)) hx hb dX11_result_21 (by decide) ?_
  have hPc := hP.sub (ws' := [(h0, .inr (11, [.ref rz, .int 0, .int 0, .ref rf, .ref rl, .ref rwx, .ref rb, .int 0, .ref rwd, .ref rk, .ref ra, .int 0, .int 32, .int 0, .ref rs, .ref rt, .int 0, .int 0, .ref rwr, .ref rp, .ref rsi, .ref rke, .ref rkc, .ref rik]))]) [0] rfl
  have hDc := hD.sub (ws' := [(h0, .inr (11, [.ref rz, .int 0, .int 0, .ref rf, .ref rl, .ref rwx, .ref rb, .int 0, .ref rwd, .ref rk, .ref ra, .int 0, .int 32, .int 0, .ref rs, .ref rt, .int 0, .int 0, .ref rwr, .ref rp, .ref rsi, .ref rke, .ref rkc, .ref rik]))]) [0] (by decide) rfl
  refine yy_calli [0] [1] (wr := [(rz, .inl (cyI, 2490, .inl (yz 0 0)))]) (va_runV (As := [.int (-1)]) (rest := []) ⟨hx, hb, hml, hown, hts⟩ (r_none l dC dI cyI cyZ cyO H.size h0 rz 0 0 rf rl rwx rb 0 rwd rk ra 0 32 0 rs rt 0 0 rwr rp rsi rke rkc rik (-1) ) (cwV 1 hts gX11_result_X11_none rfl rfl rfl (by decide +kernel) ⟨Nat.le_of_ble_eq_true rfl, Nat.le_of_ble_eq_true rfl⟩) (yPreV hK hPc hDc (ci := 11) (q0 := 0) rfl rfl) rfl rfl hl.1 rfl (lv_room (Nat.le_of_ble_eq_true rfl)) dX11_result_22 ⟨Nat.le_of_ble_eq_true rfl, Nat.le_of_ble_eq_true rfl⟩) hP hD hS hA rfl rfl (by decide) (by decide) (fun r_4 u_3 H locs hw hP hD hS => ?_)
  have hP : va_P (dC, dI) vwCl [(rz, .inl (cyI, 2490, .inl (yz 0 0))), (h0, .inr (11, [.ref rz, .int (-1), .int 0, .ref rf, .ref rl, .ref rwx, .ref rb, .int 0, .ref rwd, .ref rk, .ref ra, .int 0, .int 32, .int 0, .ref rs, .ref rt, .int 0, .int 0, .ref rwr, .ref rp, .ref rsi, .ref rke, .ref rkc, .ref rik]))] H := hP
  have hD : va_D A [(rz, .inl (cyI, 2490, .inl (yz 0 0))), (h0, .inr (11, [.ref rz, .int (-1), .int 0, .ref rf, .ref rl, .ref rwx, .ref rb, .int 0, .ref rwd, .ref rk, .ref ra, .int 0, .int 32, .int 0, .ref rs, .ref rt, .int 0, .int 0, .ref rwr, .ref rp, .ref rsi, .ref rke, .ref rkc, .ref rik]))] := hD
  refine W.widen (k := 0) (n := 0) (Nat.le_of_ble_eq_true rfl) (Nat.le_of_ble_eq_true rfl) ?_
  have hw : r_4 = 0 := hw
  subst hw
  refine W.widen (k := 0) (n := 0) (Nat.le_of_ble_eq_true rfl) (Nat.le_of_ble_eq_true rfl) ?_
  exact yy_iret (v := 0) () hx hb hr hlk rfl hsz hAe hK hP hD hS [] rfl rfl (by decide) (rfl) dX11_result_25
set_option maxHeartbeats 4000000 in
set_option maxRecDepth 100000 in
theorem rp_X11_logged_151 (l : Launch) (dC : Nat → ClassId) (dI : Nat → Nat → Nat) (cyI cyZ cyO : ClassId) (sz : Nat) (a0 : Nat) (a1 : Nat) (a2 : Nat) (a3 : Nat) (a4 : Nat) (a5 : Nat) (a6 : Nat) (a7 : Nat) (a8 : Nat) (a9 : Nat) (a10 : Nat) (a11 : Nat) (a12 : Nat) (a13 : Nat) (a14 : Nat) (a15 : Nat) (a16 : Nat)  : Met l yX11_logged wsX11_logged ({ frames := 0, cells := 0, slots := 0, locals := 0 }) (yPre [.ref a0] (dC, dI) [(a0, .inr (11, [.ref a1, .int 0, .int 0, .ref a2, .ref a3, .ref a4, .ref a5, .int 0, .ref a6, .ref a7, .ref a8, .int 0, .int 32, .int 0, .ref a9, .ref a10, .int 0, .int 0, .ref a11, .ref a12, .ref a13, .ref a14, .ref a15, .ref a16])), (a1, .inl (cyI, 2490, .inl (yz 0 0)))] (yT cyI cyZ cyO) sz) (yQi (fun (r : Int32) (u : Unit) => r = 0) (dC, dI) [(a0, .inr (11, [.ref a1, .int 0, .int 0, .ref a2, .ref a3, .ref a4, .ref a5, .int 0, .ref a6, .ref a7, .ref a8, .int 0, .int 32, .int 0, .ref a9, .ref a10, .int 0, .int 0, .ref a11, .ref a12, .ref a13, .ref a14, .ref a15, .ref a16])), (a1, .inl (cyI, 2490, .inl (yz 0 0)))] (yT cyI cyZ cyO) sz (fun _ => [(a0, .inr (11, [.ref a1, .int 0, .int 0, .ref a2, .ref a3, .ref a4, .ref a5, .int 0, .ref a6, .ref a7, .ref a8, .int 0, .int 32, .int 0, .ref a9, .ref a10, .int 0, .int 0, .ref a11, .ref a12, .ref a13, .ref a14, .ref a15, .ref a16])), (a1, .inl (cyI, 2490, .inl (yz 0 0)))])) 0 0 (va_A [(a0, .inr (11, [.ref a1, .int 0, .int 0, .ref a2, .ref a3, .ref a4, .ref a5, .int 0, .ref a6, .ref a7, .ref a8, .int 0, .int 32, .int 0, .ref a9, .ref a10, .int 0, .int 0, .ref a11, .ref a12, .ref a13, .ref a14, .ref a15, .ref a16])), (a1, .inl (cyI, 2490, .inl (yz 0 0)))] sz) := by
  refine yMet (cc := cX11_logged) (maxL := 1) (ret := (some .int)) (by decide) rfl (Nat.le_of_ble_eq_true rfl) ?_
  intro p e s m below meth c A hx hb hr hlk hml hts hown hnm hsz hAe hP hK hD hA hS ls hl
  have hl : lv_has ls 1 [(0, .ref a0)] := hl
  have hf7 := hts (.fieldLink RX11 7 "BusBridgeModel" "z" "[I") (by decide +kernel)
  have hnX11 : ∀ w ∈ wsX110, w ∈ wsX11_logged := by decide +kernel
  refine lv_aload_n hx hb dX11_logged_0 rfl (lv_at hl 0 rfl) ?_
  refine va_get (D := (dC, dI)) (ci := 11) (v := .ref a1) (C := RX11) (T := TX11) (N := 24) hx hb hts hnX11 hown hK hP 0 rfl rfl 0 (by decide) hf7 (fun _ h9 => h9) rfl dX11_logged_1 ?_
  refine lv_sipush (v := 208) hx hb dX11_logged_4 (by decide) ?_
  refine yy_iald (v := 0) hx hb hK hP 1 0 rfl rfl (yin (by decide)) dX11_logged_7 rfl ?_
  refine lv_sipush (v := 200) hx hb dX11_logged_8 (by decide) ?_
  refine lv_icmp_le (tgt := 20) hx hb dX11_logged_11 (by decide) (fun _ => ?_) (fun c => absurd (by decide) c)
  refine lv_aload_n hx hb dX11_logged_20 rfl (lv_at hl 0 rfl) ?_
  refine va_get (D := (dC, dI)) (ci := 11) (v := .ref a1) (C := RX11) (T := TX11) (N := 24) hx hb hts hnX11 hown hK hP 0 rfl rfl 0 (by decide) hf7 (fun _ h9 => h9) rfl dX11_logged_21 ?_
  refine lv_sipush (v := 208) hx hb dX11_logged_24 (by decide) ?_
  refine yy_iald (v := 0) hx hb hK hP 1 0 rfl rfl (yin (by decide)) dX11_logged_27 rfl ?_
  refine W.widen (k := 0) (n := 0) (Nat.le_of_ble_eq_true rfl) (Nat.le_of_ble_eq_true rfl) ?_
  exact yy_iret (v := 0) () hx hb hr hlk rfl hsz hAe hK hP hD hS [0, 1] rfl rfl (by decide) (rfl) dX11_logged_28
set_option maxHeartbeats 4000000 in
set_option maxRecDepth 100000 in
theorem r_log (l : Launch) (dC : Nat → ClassId) (dI : Nat → Nat → Nat) (cyI cyZ cyO : ClassId) (sz : Nat) (h0 : Nat) (rz : Nat) (rf : Nat) (rl : Nat) (rwx : Nat) (rb : Nat) (rwd : Nat) (rk : Nat) (ra : Nat) (rs : Nat) (rt : Nat) (rwr : Nat) (rp : Nat) (rsi : Nat) (rke : Nat) (rkc : Nat) (rik : Nat) (t : Int32) (w : Int32)  : Met l yX11_log wsX11_log ({ frames := 1, cells := 0, slots := 0, locals := 25 }) (yPre [.ref h0, .int t, .int w] (dC, dI) [(h0, .inr (11, [.ref rz, .int 0, .int 0, .ref rf, .ref rl, .ref rwx, .ref rb, .int 0, .ref rwd, .ref rk, .ref ra, .int 0, .int 32, .int 0, .ref rs, .ref rt, .int 0, .int 0, .ref rwr, .ref rp, .ref rsi, .ref rke, .ref rkc, .ref rik])), (rz, .inl (cyI, 2490, .inl (yz 0 0)))] (yT cyI cyZ cyO) sz) (yQi (fun (r : Int32) (u : Unit) => r = 0) (dC, dI) [(h0, .inr (11, [.ref rz, .int 0, .int 0, .ref rf, .ref rl, .ref rwx, .ref rb, .int 0, .ref rwd, .ref rk, .ref ra, .int 0, .int 32, .int 0, .ref rs, .ref rt, .int 0, .int 0, .ref rwr, .ref rp, .ref rsi, .ref rke, .ref rkc, .ref rik])), (rz, .inl (cyI, 2490, .inl (yz 0 0)))] (yT cyI cyZ cyO) sz (fun _ => [])) 0 0 (va_A [(h0, .inr (11, [.ref rz, .int 0, .int 0, .ref rf, .ref rl, .ref rwx, .ref rb, .int 0, .ref rwd, .ref rk, .ref ra, .int 0, .int 32, .int 0, .ref rs, .ref rt, .int 0, .int 0, .ref rwr, .ref rp, .ref rsi, .ref rke, .ref rkc, .ref rik])), (rz, .inl (cyI, 2490, .inl (yz 0 0)))] sz) := by
  refine yMet (cc := cX11_log) (maxL := 3) (ret := (some .int)) (by decide) rfl (Nat.le_of_ble_eq_true rfl) ?_
  intro p e s m below meth c A hx hb hr hlk hml hts hown hnm hsz hAe hP hK hD hA hS ls hl
  have hl : lv_has ls 3 [(0, .ref h0), (1, .int t), (2, .int w)] := hl
  refine lv_iload_n hx hb dX11_log_0 rfl (lv_at hl 1 rfl) ?_
  refine lv_i2l hx hb dX11_log_1 rfl ?_
  refine lv_lconst (v := (0 : Int32).toInt64) hx hb dX11_log_2 (by decide) ?_
  refine lv_aload_n hx hb dX11_log_3 rfl (lv_at hl 0 rfl) ?_
  have hPc := hP.sub (ws' := [(h0, .inr (11, [.ref rz, .int 0, .int 0, .ref rf, .ref rl, .ref rwx, .ref rb, .int 0, .ref rwd, .ref rk, .ref ra, .int 0, .int 32, .int 0, .ref rs, .ref rt, .int 0, .int 0, .ref rwr, .ref rp, .ref rsi, .ref rke, .ref rkc, .ref rik])), (rz, .inl (cyI, 2490, .inl (yz 0 0)))]) [0, 1] rfl
  have hDc := hD.sub (ws' := [(h0, .inr (11, [.ref rz, .int 0, .int 0, .ref rf, .ref rl, .ref rwx, .ref rb, .int 0, .ref rwd, .ref rk, .ref ra, .int 0, .int 32, .int 0, .ref rs, .ref rt, .int 0, .int 0, .ref rwr, .ref rp, .ref rsi, .ref rke, .ref rkc, .ref rik])), (rz, .inl (cyI, 2490, .inl (yz 0 0)))]) [0, 1] (by decide) rfl
  refine yy_calli [0, 1] [] (wr := []) (va_runV (As := []) (rest := [.long (0 : Int32).toInt64, .long (t : Int32).toInt64]) ⟨hx, hb, hml, hown, hts⟩ (rp_X11_logged_151 l dC dI cyI cyZ cyO s.heap.size h0 rz rf rl rwx rb rwd rk ra rs rt rwr rp rsi rke rkc rik ) (cwV 0 hts gX11_log_X11_logged rfl rfl rfl (by decide +kernel) ⟨Nat.le_of_ble_eq_true rfl, Nat.le_of_ble_eq_true rfl⟩) (yPreV hK hPc hDc (ci := 11) (q0 := 0) rfl rfl) rfl rfl hl.1 rfl (lv_room (Nat.le_of_ble_eq_true rfl)) dX11_log_4 ⟨Nat.le_of_ble_eq_true rfl, Nat.le_of_ble_eq_true rfl⟩) hP hD hS hA rfl rfl (by decide) (by decide) (fun r_2 u_1 H locs hw hP hD hS => ?_)
  have hP : va_P (dC, dI) vwCl [(h0, .inr (11, [.ref rz, .int 0, .int 0, .ref rf, .ref rl, .ref rwx, .ref rb, .int 0, .ref rwd, .ref rk, .ref ra, .int 0, .int 32, .int 0, .ref rs, .ref rt, .int 0, .int 0, .ref rwr, .ref rp, .ref rsi, .ref rke, .ref rkc, .ref rik])), (rz, .inl (cyI, 2490, .inl (yz 0 0)))] H := hP
  have hD : va_D A [(h0, .inr (11, [.ref rz, .int 0, .int 0, .ref rf, .ref rl, .ref rwx, .ref rb, .int 0, .ref rwd, .ref rk, .ref ra, .int 0, .int 32, .int 0, .ref rs, .ref rt, .int 0, .int 0, .ref rwr, .ref rp, .ref rsi, .ref rke, .ref rkc, .ref rik])), (rz, .inl (cyI, 2490, .inl (yz 0 0)))] := hD
  refine W.widen (k := 0) (n := 0) (Nat.le_of_ble_eq_true rfl) (Nat.le_of_ble_eq_true rfl) ?_
  have hw : r_2 = 0 := hw
  subst hw
  refine lv_iconst (v := 1) hx hb dX11_log_7 (by decide) ?_
  refine lv_isub hx hb dX11_log_8 ?_
  refine yy_int (v := (-1)) (by decide) ?_
  refine lv_i2l hx hb dX11_log_9 rfl ?_
  have hPc := hP.sub (ws' := []) [] rfl
  have hDc := hD.sub (ws' := []) [] (by decide) rfl
  refine yy_calli [] [0, 1] (wr := [(h0, .inr (11, [.ref rz, .int 0, .int 0, .ref rf, .ref rl, .ref rwx, .ref rb, .int 0, .ref rwd, .ref rk, .ref ra, .int 0, .int 32, .int 0, .ref rs, .ref rt, .int 0, .int 0, .ref rwr, .ref rp, .ref rsi, .ref rke, .ref rkc, .ref rik])), (rz, .inl (cyI, 2490, .inl (yz 0 0)))]) (va_runS (As := [.long (t : Int32).toInt64, .long (0 : Int32).toInt64, .long ((-1) : Int32).toInt64]) (rest := []) ⟨hx, hb, hml, hown, hts⟩ (r_inE l dC dI cyI cyZ cyO H.size t 0 (-1) (by decide)) (va_cwS 3 hts gX11_log_X11_in rfl rfl rfl (by decide +kernel) ⟨Nat.le_of_ble_eq_true rfl, Nat.le_of_ble_eq_true rfl⟩) (yPreS hK hPc hDc) rfl rfl hl.1 rfl (lv_room (Nat.le_of_ble_eq_true rfl)) dX11_log_10 ⟨Nat.le_of_ble_eq_true rfl, Nat.le_of_ble_eq_true rfl⟩) hP hD hS hA rfl rfl (by decide) (by decide) (fun r_4 u_3 H locs hw hP hD hS => ?_)
  have hP : va_P (dC, dI) vwCl [(h0, .inr (11, [.ref rz, .int 0, .int 0, .ref rf, .ref rl, .ref rwx, .ref rb, .int 0, .ref rwd, .ref rk, .ref ra, .int 0, .int 32, .int 0, .ref rs, .ref rt, .int 0, .int 0, .ref rwr, .ref rp, .ref rsi, .ref rke, .ref rkc, .ref rik])), (rz, .inl (cyI, 2490, .inl (yz 0 0)))] H := hP
  have hD : va_D A [(h0, .inr (11, [.ref rz, .int 0, .int 0, .ref rf, .ref rl, .ref rwx, .ref rb, .int 0, .ref rwd, .ref rk, .ref ra, .int 0, .int 32, .int 0, .ref rs, .ref rt, .int 0, .int 0, .ref rwr, .ref rp, .ref rsi, .ref rke, .ref rkc, .ref rik])), (rz, .inl (cyI, 2490, .inl (yz 0 0)))] := hD
  refine W.widen (k := 0) (n := 0) (Nat.le_of_ble_eq_true rfl) (Nat.le_of_ble_eq_true rfl) ?_
  have hw : r_4 = 0 := hw
  subst hw
  refine lv_if_ne (tgt := 22) hx hb dX11_log_13 (by decide) (fun c => absurd (by decide) c) (fun _ => ?_)
  refine lv_aload_n hx hb dX11_log_16 rfl (lv_at hl 0 rfl) ?_
  refine lv_iconst (v := (-1)) hx hb dX11_log_17 (by decide) ?_
  have hPc := hP.sub (ws' := [(h0, .inr (11, [.ref rz, .int 0, .int 0, .ref rf, .ref rl, .ref rwx, .ref rb, .int 0, .ref rwd, .ref rk, .ref ra, .int 0, .int 32, .int 0, .ref rs, .ref rt, .int 0, .int 0, .ref rwr, .ref rp, .ref rsi, .ref rke, .ref rkc, .ref rik]))]) [0] rfl
  have hDc := hD.sub (ws' := [(h0, .inr (11, [.ref rz, .int 0, .int 0, .ref rf, .ref rl, .ref rwx, .ref rb, .int 0, .ref rwd, .ref rk, .ref ra, .int 0, .int 32, .int 0, .ref rs, .ref rt, .int 0, .int 0, .ref rwr, .ref rp, .ref rsi, .ref rke, .ref rkc, .ref rik]))]) [0] (by decide) rfl
  refine yy_calli [0] [1] (wr := [(rz, .inl (cyI, 2490, .inl (yz 0 0)))]) (va_runV (As := [.int (-1)]) (rest := []) ⟨hx, hb, hml, hown, hts⟩ (r_none l dC dI cyI cyZ cyO H.size h0 rz 0 0 rf rl rwx rb 0 rwd rk ra 0 32 0 rs rt 0 0 rwr rp rsi rke rkc rik (-1) ) (cwV 1 hts gX11_log_X11_none rfl rfl rfl (by decide +kernel) ⟨Nat.le_of_ble_eq_true rfl, Nat.le_of_ble_eq_true rfl⟩) (yPreV hK hPc hDc (ci := 11) (q0 := 0) rfl rfl) rfl rfl hl.1 rfl (lv_room (Nat.le_of_ble_eq_true rfl)) dX11_log_18 ⟨Nat.le_of_ble_eq_true rfl, Nat.le_of_ble_eq_true rfl⟩) hP hD hS hA rfl rfl (by decide) (by decide) (fun r_6 u_5 H locs hw hP hD hS => ?_)
  have hP : va_P (dC, dI) vwCl [(rz, .inl (cyI, 2490, .inl (yz 0 0))), (h0, .inr (11, [.ref rz, .int (-1), .int 0, .ref rf, .ref rl, .ref rwx, .ref rb, .int 0, .ref rwd, .ref rk, .ref ra, .int 0, .int 32, .int 0, .ref rs, .ref rt, .int 0, .int 0, .ref rwr, .ref rp, .ref rsi, .ref rke, .ref rkc, .ref rik]))] H := hP
  have hD : va_D A [(rz, .inl (cyI, 2490, .inl (yz 0 0))), (h0, .inr (11, [.ref rz, .int (-1), .int 0, .ref rf, .ref rl, .ref rwx, .ref rb, .int 0, .ref rwd, .ref rk, .ref ra, .int 0, .int 32, .int 0, .ref rs, .ref rt, .int 0, .int 0, .ref rwr, .ref rp, .ref rsi, .ref rke, .ref rkc, .ref rik]))] := hD
  refine W.widen (k := 0) (n := 0) (Nat.le_of_ble_eq_true rfl) (Nat.le_of_ble_eq_true rfl) ?_
  have hw : r_6 = 0 := hw
  subst hw
  refine W.widen (k := 0) (n := 0) (Nat.le_of_ble_eq_true rfl) (Nat.le_of_ble_eq_true rfl) ?_
  exact yy_iret (v := 0) () hx hb hr hlk rfl hsz hAe hK hP hD hS [] rfl rfl (by decide) (rfl) dX11_log_21
set_option maxHeartbeats 4000000 in
set_option maxRecDepth 100000 in
theorem r_findings (l : Launch) (dC : Nat → ClassId) (dI : Nat → Nat → Nat) (cyI cyZ cyO : ClassId) (sz : Nat) (h0 : Nat) (rz : Nat) (rf : Nat) (rl : Nat) (rwx : Nat) (rb : Nat) (rwd : Nat) (rk : Nat) (ra : Nat) (rs : Nat) (rt : Nat) (rwr : Nat) (rp : Nat) (rsi : Nat) (rke : Nat) (rkc : Nat) (rik : Nat) (ru : Int32)  : Met l yX11_findings wsX11_findings ({ frames := 1, cells := 0, slots := 0, locals := 25 }) (yPre [.ref h0, .int ru] (dC, dI) [(h0, .inr (11, [.ref rz, .int 0, .int 0, .ref rf, .ref rl, .ref rwx, .ref rb, .int 0, .ref rwd, .ref rk, .ref ra, .int 0, .int 32, .int 0, .ref rs, .ref rt, .int 0, .int 0, .ref rwr, .ref rp, .ref rsi, .ref rke, .ref rkc, .ref rik])), (rz, .inl (cyI, 2490, .inl (yz 0 0)))] (yT cyI cyZ cyO) sz) (yQi (fun (r : Int32) (u : Unit) => r = (sp_findings ru)) (dC, dI) [(h0, .inr (11, [.ref rz, .int 0, .int 0, .ref rf, .ref rl, .ref rwx, .ref rb, .int 0, .ref rwd, .ref rk, .ref ra, .int 0, .int 32, .int 0, .ref rs, .ref rt, .int 0, .int 0, .ref rwr, .ref rp, .ref rsi, .ref rke, .ref rkc, .ref rik])), (rz, .inl (cyI, 2490, .inl (yz 0 0)))] (yT cyI cyZ cyO) sz (fun _ => [])) 0 0 (va_A [(h0, .inr (11, [.ref rz, .int 0, .int 0, .ref rf, .ref rl, .ref rwx, .ref rb, .int 0, .ref rwd, .ref rk, .ref ra, .int 0, .int 32, .int 0, .ref rs, .ref rt, .int 0, .int 0, .ref rwr, .ref rp, .ref rsi, .ref rke, .ref rkc, .ref rik])), (rz, .inl (cyI, 2490, .inl (yz 0 0)))] sz) := by
  refine yMet (cc := cX11_findings) (maxL := 2) (ret := (some .int)) (by decide) rfl (Nat.le_of_ble_eq_true rfl) ?_
  intro p e s m below meth c A hx hb hr hlk hml hts hown hnm hsz hAe hP hK hD hA hS ls hl
  have hl : lv_has ls 2 [(0, .ref h0), (1, .int ru)] := hl
  have hf7 := hts (.fieldLink RX11 7 "BusBridgeModel" "z" "[I") (by decide +kernel)
  have hl82 := hts (.constantLong RX11 82 15) (by decide +kernel)
  have hnX11 : ∀ w ∈ wsX110, w ∈ wsX11_findings := by decide +kernel
  refine lv_iload_n hx hb dX11_findings_0 rfl (lv_at hl 1 rfl) ?_
  refine lv_i2l hx hb dX11_findings_1 rfl ?_
  refine lv_lconst (v := (0 : Int32).toInt64) hx hb dX11_findings_2 (by decide) ?_
  refine lv_ldc2 (v := 15) hx hb hown hl82 dX11_findings_3 ?_
  refine yy_long (v := (15 : Int32).toInt64) (by decide) ?_
  have hPc := hP.sub (ws' := []) [] rfl
  have hDc := hD.sub (ws' := []) [] (by decide) rfl
  refine yy_calli [] [0, 1] (wr := [(h0, .inr (11, [.ref rz, .int 0, .int 0, .ref rf, .ref rl, .ref rwx, .ref rb, .int 0, .ref rwd, .ref rk, .ref ra, .int 0, .int 32, .int 0, .ref rs, .ref rt, .int 0, .int 0, .ref rwr, .ref rp, .ref rsi, .ref rke, .ref rkc, .ref rik])), (rz, .inl (cyI, 2490, .inl (yz 0 0)))]) (va_runS (As := [.long (ru : Int32).toInt64, .long (0 : Int32).toInt64, .long (15 : Int32).toInt64]) (rest := []) ⟨hx, hb, hml, hown, hts⟩ (r_in l dC dI cyI cyZ cyO s.heap.size ru 0 15 ) (va_cwS 3 hts gX11_findings_X11_in rfl rfl rfl (by decide +kernel) ⟨Nat.le_of_ble_eq_true rfl, Nat.le_of_ble_eq_true rfl⟩) (yPreS hK hPc hDc) rfl rfl hl.1 rfl (lv_room (Nat.le_of_ble_eq_true rfl)) dX11_findings_6 ⟨Nat.le_of_ble_eq_true rfl, Nat.le_of_ble_eq_true rfl⟩) hP hD hS hA rfl rfl (by decide) (by decide) (fun r_2 u_1 H locs hw hP hD hS => ?_)
  have hP : va_P (dC, dI) vwCl [(h0, .inr (11, [.ref rz, .int 0, .int 0, .ref rf, .ref rl, .ref rwx, .ref rb, .int 0, .ref rwd, .ref rk, .ref ra, .int 0, .int 32, .int 0, .ref rs, .ref rt, .int 0, .int 0, .ref rwr, .ref rp, .ref rsi, .ref rke, .ref rkc, .ref rik])), (rz, .inl (cyI, 2490, .inl (yz 0 0)))] H := hP
  have hD : va_D A [(h0, .inr (11, [.ref rz, .int 0, .int 0, .ref rf, .ref rl, .ref rwx, .ref rb, .int 0, .ref rwd, .ref rk, .ref ra, .int 0, .int 32, .int 0, .ref rs, .ref rt, .int 0, .int 0, .ref rwr, .ref rp, .ref rsi, .ref rke, .ref rkc, .ref rik])), (rz, .inl (cyI, 2490, .inl (yz 0 0)))] := hD
  refine W.widen (k := 0) (n := 0) (Nat.le_of_ble_eq_true rfl) (Nat.le_of_ble_eq_true rfl) ?_
  have hw : r_2 = (zB (0 ≤ ru ∧ ru ≤ 15)) := hw
  subst hw
  refine lv_if_ne (tgt := 19) hx hb dX11_findings_9 (by decide) (fun c9 => ?_) (fun c9 => ?_)
  · have hin := yinr (n := 16) rfl (by decide) c9
    refine lv_aload_n hx hb dX11_findings_19 rfl (lv_at hl 0 rfl) ?_
    refine lv_iload_n hx hb dX11_findings_20 rfl (lv_at hl 1 rfl) ?_
    refine lv_if_ne (tgt := 35) hx hb dX11_findings_21 (by decide) (fun c21 => ?_) (fun c21 => ?_)
    · refine lv_aload_n hx hb dX11_findings_35 rfl (lv_at hl 0 rfl) ?_
      refine va_get (D := (dC, dI)) (ci := 11) (v := .ref rz) (C := RX11) (T := TX11) (N := 24) hx hb hts hnX11 hown hK hP 0 rfl rfl 0 (by decide) hf7 (fun _ h9 => h9) rfl dX11_findings_36 ?_
      refine lv_sipush (v := 214) hx hb dX11_findings_39 (by decide) ?_
      refine lv_iload_n hx hb dX11_findings_42 rfl (lv_at hl 1 rfl) ?_
      refine lv_iadd hx hb dX11_findings_43 ?_
      refine yy_iald (v := 0) hx hb hK hP 1 0 rfl rfl (yplus_in (c := 214) (k := 214) (by decide) hin (by decide) (by decide) (by decide)) dX11_findings_44 (yzG hin) ?_
      have hPc := hP.sub (ws' := [(h0, .inr (11, [.ref rz, .int 0, .int 0, .ref rf, .ref rl, .ref rwx, .ref rb, .int 0, .ref rwd, .ref rk, .ref ra, .int 0, .int 32, .int 0, .ref rs, .ref rt, .int 0, .int 0, .ref rwr, .ref rp, .ref rsi, .ref rke, .ref rkc, .ref rik]))]) [0] rfl
      have hDc := hD.sub (ws' := [(h0, .inr (11, [.ref rz, .int 0, .int 0, .ref rf, .ref rl, .ref rwx, .ref rb, .int 0, .ref rwd, .ref rk, .ref ra, .int 0, .int 32, .int 0, .ref rs, .ref rt, .int 0, .int 0, .ref rwr, .ref rp, .ref rsi, .ref rke, .ref rkc, .ref rik]))]) [0] (by decide) rfl
      refine yy_calli [0] [1] (wr := [(rz, .inl (cyI, 2490, .inl (yz 0 0)))]) (va_runV (As := [.int 0]) (rest := []) ⟨hx, hb, hml, hown, hts⟩ (r_done l dC dI cyI cyZ cyO H.size h0 rz 0 0 rf rl rwx rb 0 rwd rk ra 0 32 0 rs rt 0 0 rwr rp rsi rke rkc rik 0 ) (cwV 1 hts gX11_findings_X11_done rfl rfl rfl (by decide +kernel) ⟨Nat.le_of_ble_eq_true rfl, Nat.le_of_ble_eq_true rfl⟩) (yPreV hK hPc hDc (ci := 11) (q0 := 0) rfl rfl) rfl rfl hl.1 rfl (lv_room (Nat.le_of_ble_eq_true rfl)) dX11_findings_45 ⟨Nat.le_of_ble_eq_true rfl, Nat.le_of_ble_eq_true rfl⟩) hP hD hS hA rfl rfl (by decide) (by decide) (fun r_4 u_3 H locs hw hP hD hS => ?_)
      have hP : va_P (dC, dI) vwCl [(rz, .inl (cyI, 2490, .inl (yz 0 0))), (h0, .inr (11, [.ref rz, .int 0, .int 0, .ref rf, .ref rl, .ref rwx, .ref rb, .int 0, .ref rwd, .ref rk, .ref ra, .int 0, .int 32, .int 0, .ref rs, .ref rt, .int 0, .int 0, .ref rwr, .ref rp, .ref rsi, .ref rke, .ref rkc, .ref rik]))] H := hP
      have hD : va_D A [(rz, .inl (cyI, 2490, .inl (yz 0 0))), (h0, .inr (11, [.ref rz, .int 0, .int 0, .ref rf, .ref rl, .ref rwx, .ref rb, .int 0, .ref rwd, .ref rk, .ref ra, .int 0, .int 32, .int 0, .ref rs, .ref rt, .int 0, .int 0, .ref rwr, .ref rp, .ref rsi, .ref rke, .ref rkc, .ref rik]))] := hD
      refine W.widen (k := 0) (n := 0) (Nat.le_of_ble_eq_true rfl) (Nat.le_of_ble_eq_true rfl) ?_
      have hw : r_4 = 0 := hw.trans (by decide)
      subst hw
      refine W.widen (k := 0) (n := 0) (Nat.le_of_ble_eq_true rfl) (Nat.le_of_ble_eq_true rfl) ?_
      exact yy_iret (v := 0) () hx hb hr hlk rfl hsz hAe hK hP hD hS [] rfl rfl (by decide) (by (try simp only [zB0, Decidable.not_not] at c9 c21); (try simp only [isW, zB, ← Int32.not_lt, sp_slave, sp_register, sp_depth, sp_limit, sp_transfer, sp_clock, sp_finish, sp_turn, sp_wire, sp_findings, sp_bridge, sp_keep, sp_told, ylc1, ylc2, y14, y2] at c9 c21 ⊢); (try simp only [Decidable.not_not] at c9 c21 ⊢); (try simp only [c9, c21, not_true_eq_false, not_false_eq_true, false_and, and_false, true_and, and_true, and_self, or_true, true_or, or_false, false_or, or_self, ↓reduceIte]); (try simp only [← and_assoc]); (try simp only [c9, c21, not_true_eq_false, not_false_eq_true, false_and, and_false, true_and, and_true, and_self, or_true, true_or, or_false, false_or, or_self, ↓reduceIte]); (try decide)) dX11_findings_48
    · refine lv_aload_n hx hb dX11_findings_24 rfl (lv_at hl 0 rfl) ?_
      refine va_get (D := (dC, dI)) (ci := 11) (v := .ref rz) (C := RX11) (T := TX11) (N := 24) hx hb hts hnX11 hown hK hP 0 rfl rfl 0 (by decide) hf7 (fun _ h9 => h9) rfl dX11_findings_25 ?_
      refine lv_sipush (v := 213) hx hb dX11_findings_28 (by decide) ?_
      refine yy_iald (v := 0) hx hb hK hP 1 0 rfl rfl (yin (by decide)) dX11_findings_31 rfl ?_
      refine lv_goto (tgt := 45) hx hb dX11_findings_32 (by decide) ?_
      have hPc := hP.sub (ws' := [(h0, .inr (11, [.ref rz, .int 0, .int 0, .ref rf, .ref rl, .ref rwx, .ref rb, .int 0, .ref rwd, .ref rk, .ref ra, .int 0, .int 32, .int 0, .ref rs, .ref rt, .int 0, .int 0, .ref rwr, .ref rp, .ref rsi, .ref rke, .ref rkc, .ref rik]))]) [0] rfl
      have hDc := hD.sub (ws' := [(h0, .inr (11, [.ref rz, .int 0, .int 0, .ref rf, .ref rl, .ref rwx, .ref rb, .int 0, .ref rwd, .ref rk, .ref ra, .int 0, .int 32, .int 0, .ref rs, .ref rt, .int 0, .int 0, .ref rwr, .ref rp, .ref rsi, .ref rke, .ref rkc, .ref rik]))]) [0] (by decide) rfl
      refine yy_calli [0] [1] (wr := [(rz, .inl (cyI, 2490, .inl (yz 0 0)))]) (va_runV (As := [.int 0]) (rest := []) ⟨hx, hb, hml, hown, hts⟩ (r_done l dC dI cyI cyZ cyO H.size h0 rz 0 0 rf rl rwx rb 0 rwd rk ra 0 32 0 rs rt 0 0 rwr rp rsi rke rkc rik 0 ) (cwV 1 hts gX11_findings_X11_done rfl rfl rfl (by decide +kernel) ⟨Nat.le_of_ble_eq_true rfl, Nat.le_of_ble_eq_true rfl⟩) (yPreV hK hPc hDc (ci := 11) (q0 := 0) rfl rfl) rfl rfl hl.1 rfl (lv_room (Nat.le_of_ble_eq_true rfl)) dX11_findings_45 ⟨Nat.le_of_ble_eq_true rfl, Nat.le_of_ble_eq_true rfl⟩) hP hD hS hA rfl rfl (by decide) (by decide) (fun r_6 u_5 H locs hw hP hD hS => ?_)
      have hP : va_P (dC, dI) vwCl [(rz, .inl (cyI, 2490, .inl (yz 0 0))), (h0, .inr (11, [.ref rz, .int 0, .int 0, .ref rf, .ref rl, .ref rwx, .ref rb, .int 0, .ref rwd, .ref rk, .ref ra, .int 0, .int 32, .int 0, .ref rs, .ref rt, .int 0, .int 0, .ref rwr, .ref rp, .ref rsi, .ref rke, .ref rkc, .ref rik]))] H := hP
      have hD : va_D A [(rz, .inl (cyI, 2490, .inl (yz 0 0))), (h0, .inr (11, [.ref rz, .int 0, .int 0, .ref rf, .ref rl, .ref rwx, .ref rb, .int 0, .ref rwd, .ref rk, .ref ra, .int 0, .int 32, .int 0, .ref rs, .ref rt, .int 0, .int 0, .ref rwr, .ref rp, .ref rsi, .ref rke, .ref rkc, .ref rik]))] := hD
      refine W.widen (k := 0) (n := 0) (Nat.le_of_ble_eq_true rfl) (Nat.le_of_ble_eq_true rfl) ?_
      have hw : r_6 = 0 := hw.trans (by decide)
      subst hw
      refine W.widen (k := 0) (n := 0) (Nat.le_of_ble_eq_true rfl) (Nat.le_of_ble_eq_true rfl) ?_
      exact yy_iret (v := 0) () hx hb hr hlk rfl hsz hAe hK hP hD hS [] rfl rfl (by decide) (by (try simp only [zB0, Decidable.not_not] at c9 c21); (try simp only [isW, zB, ← Int32.not_lt, sp_slave, sp_register, sp_depth, sp_limit, sp_transfer, sp_clock, sp_finish, sp_turn, sp_wire, sp_findings, sp_bridge, sp_keep, sp_told, ylc1, ylc2, y14, y2] at c9 c21 ⊢); (try simp only [Decidable.not_not] at c9 c21 ⊢); (try simp only [c9, c21, not_true_eq_false, not_false_eq_true, false_and, and_false, true_and, and_true, and_self, or_true, true_or, or_false, false_or, or_self, ↓reduceIte]); (try simp only [← and_assoc]); (try simp only [c9, c21, not_true_eq_false, not_false_eq_true, false_and, and_false, true_and, and_true, and_self, or_true, true_or, or_false, false_or, or_self, ↓reduceIte]); (try decide)) dX11_findings_48
  · refine lv_aload_n hx hb dX11_findings_12 rfl (lv_at hl 0 rfl) ?_
    refine lv_bipush (v := (-2)) hx hb dX11_findings_13 (by decide) ?_
    have hPc := hP.sub (ws' := [(h0, .inr (11, [.ref rz, .int 0, .int 0, .ref rf, .ref rl, .ref rwx, .ref rb, .int 0, .ref rwd, .ref rk, .ref ra, .int 0, .int 32, .int 0, .ref rs, .ref rt, .int 0, .int 0, .ref rwr, .ref rp, .ref rsi, .ref rke, .ref rkc, .ref rik]))]) [0] rfl
    have hDc := hD.sub (ws' := [(h0, .inr (11, [.ref rz, .int 0, .int 0, .ref rf, .ref rl, .ref rwx, .ref rb, .int 0, .ref rwd, .ref rk, .ref ra, .int 0, .int 32, .int 0, .ref rs, .ref rt, .int 0, .int 0, .ref rwr, .ref rp, .ref rsi, .ref rke, .ref rkc, .ref rik]))]) [0] (by decide) rfl
    refine yy_calli [0] [1] (wr := [(rz, .inl (cyI, 2490, .inl (yz 0 0)))]) (va_runV (As := [.int (-2)]) (rest := []) ⟨hx, hb, hml, hown, hts⟩ (r_refused l dC dI cyI cyZ cyO H.size h0 rz 0 0 rf rl rwx rb 0 rwd rk ra 0 32 0 rs rt 0 0 rwr rp rsi rke rkc rik (-2) ) (cwV 1 hts gX11_findings_X11_refused rfl rfl rfl (by decide +kernel) ⟨Nat.le_of_ble_eq_true rfl, Nat.le_of_ble_eq_true rfl⟩) (yPreV hK hPc hDc (ci := 11) (q0 := 0) rfl rfl) rfl rfl hl.1 rfl (lv_room (Nat.le_of_ble_eq_true rfl)) dX11_findings_15 ⟨Nat.le_of_ble_eq_true rfl, Nat.le_of_ble_eq_true rfl⟩) hP hD hS hA rfl rfl (by decide) (by decide) (fun r_8 u_7 H locs hw hP hD hS => ?_)
    have hP : va_P (dC, dI) vwCl [(rz, .inl (cyI, 2490, .inl (yz 0 0))), (h0, .inr (11, [.ref rz, .int (-2), .int 0, .ref rf, .ref rl, .ref rwx, .ref rb, .int 0, .ref rwd, .ref rk, .ref ra, .int 0, .int 32, .int 0, .ref rs, .ref rt, .int 0, .int 0, .ref rwr, .ref rp, .ref rsi, .ref rke, .ref rkc, .ref rik]))] H := hP
    have hD : va_D A [(rz, .inl (cyI, 2490, .inl (yz 0 0))), (h0, .inr (11, [.ref rz, .int (-2), .int 0, .ref rf, .ref rl, .ref rwx, .ref rb, .int 0, .ref rwd, .ref rk, .ref ra, .int 0, .int 32, .int 0, .ref rs, .ref rt, .int 0, .int 0, .ref rwr, .ref rp, .ref rsi, .ref rke, .ref rkc, .ref rik]))] := hD
    refine W.widen (k := 0) (n := 0) (Nat.le_of_ble_eq_true rfl) (Nat.le_of_ble_eq_true rfl) ?_
    have hw : r_8 = (-2) := hw.trans (by decide)
    subst hw
    refine W.widen (k := 0) (n := 0) (Nat.le_of_ble_eq_true rfl) (Nat.le_of_ble_eq_true rfl) ?_
    exact yy_iret (v := (-2)) () hx hb hr hlk rfl hsz hAe hK hP hD hS [] rfl rfl (by decide) (by (try simp only [zB0, Decidable.not_not] at c9); (try simp only [isW, zB, ← Int32.not_lt, sp_slave, sp_register, sp_depth, sp_limit, sp_transfer, sp_clock, sp_finish, sp_turn, sp_wire, sp_findings, sp_bridge, sp_keep, sp_told, ylc1, ylc2, y14, y2] at c9 ⊢); (try simp only [Decidable.not_not] at c9 ⊢); (try simp only [c9, not_true_eq_false, not_false_eq_true, false_and, and_false, true_and, and_true, and_self, or_true, true_or, or_false, false_or, or_self, ↓reduceIte]); (try simp only [← and_assoc]); (try simp only [c9, not_true_eq_false, not_false_eq_true, false_and, and_false, true_and, and_true, and_self, or_true, true_or, or_false, false_or, or_self, ↓reduceIte]); (try decide)) dX11_findings_18
set_option maxHeartbeats 4000000 in
set_option maxRecDepth 100000 in
theorem rp_X11_found_152 (l : Launch) (dC : Nat → ClassId) (dI : Nat → Nat → Nat) (cyI cyZ cyO : ClassId) (sz : Nat) (a0 : Nat) (a1 : Nat) (a2 : Nat) (a3 : Nat) (a4 : Nat) (a5 : Nat) (a6 : Nat) (a7 : Nat) (a8 : Nat) (a9 : Nat) (a10 : Nat) (a11 : Nat) (a12 : Nat) (a13 : Nat) (a14 : Nat) (a15 : Nat) (a16 : Nat)  : Met l yX11_found wsX11_found ({ frames := 0, cells := 0, slots := 0, locals := 0 }) (yPre [.ref a0] (dC, dI) [(a0, .inr (11, [.ref a1, .int 0, .int 0, .ref a2, .ref a3, .ref a4, .ref a5, .int 0, .ref a6, .ref a7, .ref a8, .int 0, .int 32, .int 0, .ref a9, .ref a10, .int 0, .int 0, .ref a11, .ref a12, .ref a13, .ref a14, .ref a15, .ref a16])), (a1, .inl (cyI, 2490, .inl (yz 0 0)))] (yT cyI cyZ cyO) sz) (yQi (fun (r : Int32) (u : Unit) => r = 0) (dC, dI) [(a0, .inr (11, [.ref a1, .int 0, .int 0, .ref a2, .ref a3, .ref a4, .ref a5, .int 0, .ref a6, .ref a7, .ref a8, .int 0, .int 32, .int 0, .ref a9, .ref a10, .int 0, .int 0, .ref a11, .ref a12, .ref a13, .ref a14, .ref a15, .ref a16])), (a1, .inl (cyI, 2490, .inl (yz 0 0)))] (yT cyI cyZ cyO) sz (fun _ => [(a0, .inr (11, [.ref a1, .int 0, .int 0, .ref a2, .ref a3, .ref a4, .ref a5, .int 0, .ref a6, .ref a7, .ref a8, .int 0, .int 32, .int 0, .ref a9, .ref a10, .int 0, .int 0, .ref a11, .ref a12, .ref a13, .ref a14, .ref a15, .ref a16])), (a1, .inl (cyI, 2490, .inl (yz 0 0)))])) 0 0 (va_A [(a0, .inr (11, [.ref a1, .int 0, .int 0, .ref a2, .ref a3, .ref a4, .ref a5, .int 0, .ref a6, .ref a7, .ref a8, .int 0, .int 32, .int 0, .ref a9, .ref a10, .int 0, .int 0, .ref a11, .ref a12, .ref a13, .ref a14, .ref a15, .ref a16])), (a1, .inl (cyI, 2490, .inl (yz 0 0)))] sz) := by
  refine yMet (cc := cX11_found) (maxL := 1) (ret := (some .int)) (by decide) rfl (Nat.le_of_ble_eq_true rfl) ?_
  intro p e s m below meth c A hx hb hr hlk hml hts hown hnm hsz hAe hP hK hD hA hS ls hl
  have hl : lv_has ls 1 [(0, .ref a0)] := hl
  have hf7 := hts (.fieldLink RX11 7 "BusBridgeModel" "z" "[I") (by decide +kernel)
  have hnX11 : ∀ w ∈ wsX110, w ∈ wsX11_found := by decide +kernel
  refine lv_aload_n hx hb dX11_found_0 rfl (lv_at hl 0 rfl) ?_
  refine va_get (D := (dC, dI)) (ci := 11) (v := .ref a1) (C := RX11) (T := TX11) (N := 24) hx hb hts hnX11 hown hK hP 0 rfl rfl 0 (by decide) hf7 (fun _ h9 => h9) rfl dX11_found_1 ?_
  refine lv_sipush (v := 213) hx hb dX11_found_4 (by decide) ?_
  refine yy_iald (v := 0) hx hb hK hP 1 0 rfl rfl (yin (by decide)) dX11_found_7 rfl ?_
  refine lv_bipush (v := 60) hx hb dX11_found_8 (by decide) ?_
  refine lv_icmp_le (tgt := 18) hx hb dX11_found_10 (by decide) (fun _ => ?_) (fun c => absurd (by decide) c)
  refine lv_aload_n hx hb dX11_found_18 rfl (lv_at hl 0 rfl) ?_
  refine va_get (D := (dC, dI)) (ci := 11) (v := .ref a1) (C := RX11) (T := TX11) (N := 24) hx hb hts hnX11 hown hK hP 0 rfl rfl 0 (by decide) hf7 (fun _ h9 => h9) rfl dX11_found_19 ?_
  refine lv_sipush (v := 213) hx hb dX11_found_22 (by decide) ?_
  refine yy_iald (v := 0) hx hb hK hP 1 0 rfl rfl (yin (by decide)) dX11_found_25 rfl ?_
  refine W.widen (k := 0) (n := 0) (Nat.le_of_ble_eq_true rfl) (Nat.le_of_ble_eq_true rfl) ?_
  exact yy_iret (v := 0) () hx hb hr hlk rfl hsz hAe hK hP hD hS [0, 1] rfl rfl (by decide) (rfl) dX11_found_26
set_option maxHeartbeats 4000000 in
set_option maxRecDepth 100000 in
theorem r_finding (l : Launch) (dC : Nat → ClassId) (dI : Nat → Nat → Nat) (cyI cyZ cyO : ClassId) (sz : Nat) (h0 : Nat) (rz : Nat) (rf : Nat) (rl : Nat) (rwx : Nat) (rb : Nat) (rwd : Nat) (rk : Nat) (ra : Nat) (rs : Nat) (rt : Nat) (rwr : Nat) (rp : Nat) (rsi : Nat) (rke : Nat) (rkc : Nat) (rik : Nat) (t : Int32) (w : Int32)  : Met l yX11_finding wsX11_finding ({ frames := 1, cells := 0, slots := 0, locals := 25 }) (yPre [.ref h0, .int t, .int w] (dC, dI) [(h0, .inr (11, [.ref rz, .int 0, .int 0, .ref rf, .ref rl, .ref rwx, .ref rb, .int 0, .ref rwd, .ref rk, .ref ra, .int 0, .int 32, .int 0, .ref rs, .ref rt, .int 0, .int 0, .ref rwr, .ref rp, .ref rsi, .ref rke, .ref rkc, .ref rik])), (rz, .inl (cyI, 2490, .inl (yz 0 0)))] (yT cyI cyZ cyO) sz) (yQi (fun (r : Int32) (u : Unit) => r = (-1)) (dC, dI) [(h0, .inr (11, [.ref rz, .int 0, .int 0, .ref rf, .ref rl, .ref rwx, .ref rb, .int 0, .ref rwd, .ref rk, .ref ra, .int 0, .int 32, .int 0, .ref rs, .ref rt, .int 0, .int 0, .ref rwr, .ref rp, .ref rsi, .ref rke, .ref rkc, .ref rik])), (rz, .inl (cyI, 2490, .inl (yz 0 0)))] (yT cyI cyZ cyO) sz (fun _ => [])) 0 0 (va_A [(h0, .inr (11, [.ref rz, .int 0, .int 0, .ref rf, .ref rl, .ref rwx, .ref rb, .int 0, .ref rwd, .ref rk, .ref ra, .int 0, .int 32, .int 0, .ref rs, .ref rt, .int 0, .int 0, .ref rwr, .ref rp, .ref rsi, .ref rke, .ref rkc, .ref rik])), (rz, .inl (cyI, 2490, .inl (yz 0 0)))] sz) := by
  refine yMet (cc := cX11_finding) (maxL := 3) (ret := (some .int)) (by decide) rfl (Nat.le_of_ble_eq_true rfl) ?_
  intro p e s m below meth c A hx hb hr hlk hml hts hown hnm hsz hAe hP hK hD hA hS ls hl
  have hl : lv_has ls 3 [(0, .ref h0), (1, .int t), (2, .int w)] := hl
  refine lv_iload_n hx hb dX11_finding_0 rfl (lv_at hl 1 rfl) ?_
  refine lv_i2l hx hb dX11_finding_1 rfl ?_
  refine lv_lconst (v := (0 : Int32).toInt64) hx hb dX11_finding_2 (by decide) ?_
  refine lv_aload_n hx hb dX11_finding_3 rfl (lv_at hl 0 rfl) ?_
  have hPc := hP.sub (ws' := [(h0, .inr (11, [.ref rz, .int 0, .int 0, .ref rf, .ref rl, .ref rwx, .ref rb, .int 0, .ref rwd, .ref rk, .ref ra, .int 0, .int 32, .int 0, .ref rs, .ref rt, .int 0, .int 0, .ref rwr, .ref rp, .ref rsi, .ref rke, .ref rkc, .ref rik])), (rz, .inl (cyI, 2490, .inl (yz 0 0)))]) [0, 1] rfl
  have hDc := hD.sub (ws' := [(h0, .inr (11, [.ref rz, .int 0, .int 0, .ref rf, .ref rl, .ref rwx, .ref rb, .int 0, .ref rwd, .ref rk, .ref ra, .int 0, .int 32, .int 0, .ref rs, .ref rt, .int 0, .int 0, .ref rwr, .ref rp, .ref rsi, .ref rke, .ref rkc, .ref rik])), (rz, .inl (cyI, 2490, .inl (yz 0 0)))]) [0, 1] (by decide) rfl
  refine yy_calli [0, 1] [] (wr := []) (va_runV (As := []) (rest := [.long (0 : Int32).toInt64, .long (t : Int32).toInt64]) ⟨hx, hb, hml, hown, hts⟩ (rp_X11_found_152 l dC dI cyI cyZ cyO s.heap.size h0 rz rf rl rwx rb rwd rk ra rs rt rwr rp rsi rke rkc rik ) (cwV 0 hts gX11_finding_X11_found rfl rfl rfl (by decide +kernel) ⟨Nat.le_of_ble_eq_true rfl, Nat.le_of_ble_eq_true rfl⟩) (yPreV hK hPc hDc (ci := 11) (q0 := 0) rfl rfl) rfl rfl hl.1 rfl (lv_room (Nat.le_of_ble_eq_true rfl)) dX11_finding_4 ⟨Nat.le_of_ble_eq_true rfl, Nat.le_of_ble_eq_true rfl⟩) hP hD hS hA rfl rfl (by decide) (by decide) (fun r_2 u_1 H locs hw hP hD hS => ?_)
  have hP : va_P (dC, dI) vwCl [(h0, .inr (11, [.ref rz, .int 0, .int 0, .ref rf, .ref rl, .ref rwx, .ref rb, .int 0, .ref rwd, .ref rk, .ref ra, .int 0, .int 32, .int 0, .ref rs, .ref rt, .int 0, .int 0, .ref rwr, .ref rp, .ref rsi, .ref rke, .ref rkc, .ref rik])), (rz, .inl (cyI, 2490, .inl (yz 0 0)))] H := hP
  have hD : va_D A [(h0, .inr (11, [.ref rz, .int 0, .int 0, .ref rf, .ref rl, .ref rwx, .ref rb, .int 0, .ref rwd, .ref rk, .ref ra, .int 0, .int 32, .int 0, .ref rs, .ref rt, .int 0, .int 0, .ref rwr, .ref rp, .ref rsi, .ref rke, .ref rkc, .ref rik])), (rz, .inl (cyI, 2490, .inl (yz 0 0)))] := hD
  refine W.widen (k := 0) (n := 0) (Nat.le_of_ble_eq_true rfl) (Nat.le_of_ble_eq_true rfl) ?_
  have hw : r_2 = 0 := hw
  subst hw
  refine lv_iconst (v := 1) hx hb dX11_finding_7 (by decide) ?_
  refine lv_isub hx hb dX11_finding_8 ?_
  refine yy_int (v := (-1)) (by decide) ?_
  refine lv_i2l hx hb dX11_finding_9 rfl ?_
  have hPc := hP.sub (ws' := []) [] rfl
  have hDc := hD.sub (ws' := []) [] (by decide) rfl
  refine yy_calli [] [0, 1] (wr := [(h0, .inr (11, [.ref rz, .int 0, .int 0, .ref rf, .ref rl, .ref rwx, .ref rb, .int 0, .ref rwd, .ref rk, .ref ra, .int 0, .int 32, .int 0, .ref rs, .ref rt, .int 0, .int 0, .ref rwr, .ref rp, .ref rsi, .ref rke, .ref rkc, .ref rik])), (rz, .inl (cyI, 2490, .inl (yz 0 0)))]) (va_runS (As := [.long (t : Int32).toInt64, .long (0 : Int32).toInt64, .long ((-1) : Int32).toInt64]) (rest := []) ⟨hx, hb, hml, hown, hts⟩ (r_inE l dC dI cyI cyZ cyO H.size t 0 (-1) (by decide)) (va_cwS 3 hts gX11_finding_X11_in rfl rfl rfl (by decide +kernel) ⟨Nat.le_of_ble_eq_true rfl, Nat.le_of_ble_eq_true rfl⟩) (yPreS hK hPc hDc) rfl rfl hl.1 rfl (lv_room (Nat.le_of_ble_eq_true rfl)) dX11_finding_10 ⟨Nat.le_of_ble_eq_true rfl, Nat.le_of_ble_eq_true rfl⟩) hP hD hS hA rfl rfl (by decide) (by decide) (fun r_4 u_3 H locs hw hP hD hS => ?_)
  have hP : va_P (dC, dI) vwCl [(h0, .inr (11, [.ref rz, .int 0, .int 0, .ref rf, .ref rl, .ref rwx, .ref rb, .int 0, .ref rwd, .ref rk, .ref ra, .int 0, .int 32, .int 0, .ref rs, .ref rt, .int 0, .int 0, .ref rwr, .ref rp, .ref rsi, .ref rke, .ref rkc, .ref rik])), (rz, .inl (cyI, 2490, .inl (yz 0 0)))] H := hP
  have hD : va_D A [(h0, .inr (11, [.ref rz, .int 0, .int 0, .ref rf, .ref rl, .ref rwx, .ref rb, .int 0, .ref rwd, .ref rk, .ref ra, .int 0, .int 32, .int 0, .ref rs, .ref rt, .int 0, .int 0, .ref rwr, .ref rp, .ref rsi, .ref rke, .ref rkc, .ref rik])), (rz, .inl (cyI, 2490, .inl (yz 0 0)))] := hD
  refine W.widen (k := 0) (n := 0) (Nat.le_of_ble_eq_true rfl) (Nat.le_of_ble_eq_true rfl) ?_
  have hw : r_4 = 0 := hw
  subst hw
  refine lv_if_ne (tgt := 22) hx hb dX11_finding_13 (by decide) (fun c => absurd (by decide) c) (fun _ => ?_)
  refine lv_aload_n hx hb dX11_finding_16 rfl (lv_at hl 0 rfl) ?_
  refine lv_iconst (v := (-1)) hx hb dX11_finding_17 (by decide) ?_
  have hPc := hP.sub (ws' := [(h0, .inr (11, [.ref rz, .int 0, .int 0, .ref rf, .ref rl, .ref rwx, .ref rb, .int 0, .ref rwd, .ref rk, .ref ra, .int 0, .int 32, .int 0, .ref rs, .ref rt, .int 0, .int 0, .ref rwr, .ref rp, .ref rsi, .ref rke, .ref rkc, .ref rik]))]) [0] rfl
  have hDc := hD.sub (ws' := [(h0, .inr (11, [.ref rz, .int 0, .int 0, .ref rf, .ref rl, .ref rwx, .ref rb, .int 0, .ref rwd, .ref rk, .ref ra, .int 0, .int 32, .int 0, .ref rs, .ref rt, .int 0, .int 0, .ref rwr, .ref rp, .ref rsi, .ref rke, .ref rkc, .ref rik]))]) [0] (by decide) rfl
  refine yy_calli [0] [1] (wr := [(rz, .inl (cyI, 2490, .inl (yz 0 0)))]) (va_runV (As := [.int (-1)]) (rest := []) ⟨hx, hb, hml, hown, hts⟩ (r_refused l dC dI cyI cyZ cyO H.size h0 rz 0 0 rf rl rwx rb 0 rwd rk ra 0 32 0 rs rt 0 0 rwr rp rsi rke rkc rik (-1) ) (cwV 1 hts gX11_finding_X11_refused rfl rfl rfl (by decide +kernel) ⟨Nat.le_of_ble_eq_true rfl, Nat.le_of_ble_eq_true rfl⟩) (yPreV hK hPc hDc (ci := 11) (q0 := 0) rfl rfl) rfl rfl hl.1 rfl (lv_room (Nat.le_of_ble_eq_true rfl)) dX11_finding_18 ⟨Nat.le_of_ble_eq_true rfl, Nat.le_of_ble_eq_true rfl⟩) hP hD hS hA rfl rfl (by decide) (by decide) (fun r_6 u_5 H locs hw hP hD hS => ?_)
  have hP : va_P (dC, dI) vwCl [(rz, .inl (cyI, 2490, .inl (yz 0 0))), (h0, .inr (11, [.ref rz, .int (-1), .int 0, .ref rf, .ref rl, .ref rwx, .ref rb, .int 0, .ref rwd, .ref rk, .ref ra, .int 0, .int 32, .int 0, .ref rs, .ref rt, .int 0, .int 0, .ref rwr, .ref rp, .ref rsi, .ref rke, .ref rkc, .ref rik]))] H := hP
  have hD : va_D A [(rz, .inl (cyI, 2490, .inl (yz 0 0))), (h0, .inr (11, [.ref rz, .int (-1), .int 0, .ref rf, .ref rl, .ref rwx, .ref rb, .int 0, .ref rwd, .ref rk, .ref ra, .int 0, .int 32, .int 0, .ref rs, .ref rt, .int 0, .int 0, .ref rwr, .ref rp, .ref rsi, .ref rke, .ref rkc, .ref rik]))] := hD
  refine W.widen (k := 0) (n := 0) (Nat.le_of_ble_eq_true rfl) (Nat.le_of_ble_eq_true rfl) ?_
  have hw : r_6 = (-1) := hw.trans (by decide)
  subst hw
  refine W.widen (k := 0) (n := 0) (Nat.le_of_ble_eq_true rfl) (Nat.le_of_ble_eq_true rfl) ?_
  exact yy_iret (v := (-1)) () hx hb hr hlk rfl hsz hAe hK hP hD hS [] rfl rfl (by decide) (rfl) dX11_finding_21
set_option maxHeartbeats 4000000 in
set_option maxRecDepth 100000 in
theorem rp_X11_registerAt_153 (l : Launch) (dC : Nat → ClassId) (dI : Nat → Nat → Nat) (cyI cyZ cyO : ClassId) (sz : Nat) (a0 : Nat) (v0 : Int32) (a1 : Nat) (a2 : Nat) (a3 : Nat) (a4 : Nat) (a5 : Nat) (a6 : Nat) (a7 : Nat) (a8 : Nat) (a9 : Nat) (a10 : Nat) (a11 : Nat) (a12 : Nat) (a13 : Nat) (a14 : Nat) (a15 : Nat) (a16 : Nat)  : Met l yX11_registerAt wsX11_registerAt ({ frames := 0, cells := 0, slots := 0, locals := 0 }) (yPre [.ref a0, .int v0] (dC, dI) [(a0, .inr (11, [.ref a1, .int 0, .int 0, .ref a2, .ref a3, .ref a4, .ref a5, .int 0, .ref a6, .ref a7, .ref a8, .int 0, .int 32, .int 0, .ref a9, .ref a10, .int 0, .int 0, .ref a11, .ref a12, .ref a13, .ref a14, .ref a15, .ref a16]))] (yT cyI cyZ cyO) sz) (yQi (fun (r : Int32) (u : Unit) => r = (-1)) (dC, dI) [(a0, .inr (11, [.ref a1, .int 0, .int 0, .ref a2, .ref a3, .ref a4, .ref a5, .int 0, .ref a6, .ref a7, .ref a8, .int 0, .int 32, .int 0, .ref a9, .ref a10, .int 0, .int 0, .ref a11, .ref a12, .ref a13, .ref a14, .ref a15, .ref a16]))] (yT cyI cyZ cyO) sz (fun _ => [(a0, .inr (11, [.ref a1, .int 0, .int 0, .ref a2, .ref a3, .ref a4, .ref a5, .int 0, .ref a6, .ref a7, .ref a8, .int 0, .int 32, .int 0, .ref a9, .ref a10, .int 0, .int 0, .ref a11, .ref a12, .ref a13, .ref a14, .ref a15, .ref a16]))])) 0 0 (va_A [(a0, .inr (11, [.ref a1, .int 0, .int 0, .ref a2, .ref a3, .ref a4, .ref a5, .int 0, .ref a6, .ref a7, .ref a8, .int 0, .int 32, .int 0, .ref a9, .ref a10, .int 0, .int 0, .ref a11, .ref a12, .ref a13, .ref a14, .ref a15, .ref a16]))] sz) := by
  refine yMet (cc := cX11_registerAt) (maxL := 3) (ret := (some .int)) (by decide) rfl (Nat.le_of_ble_eq_true rfl) ?_
  intro p e s m below meth c A hx hb hr hlk hml hts hown hnm hsz hAe hP hK hD hA hS ls hl
  have hl : lv_has ls 3 [(0, .ref a0), (1, .int v0)] := hl
  have hf69 := hts (.fieldLink RX11 69 "BusBridgeModel" "registers" "I") (by decide +kernel)
  have hnX11 : ∀ w ∈ wsX110, w ∈ wsX11_registerAt := by decide +kernel
  refine lv_iconst (v := 0) hx hb dX11_registerAt_0 (by decide) ?_
  refine lv_istore_n (lv' := [(2, .int 0), (0, .ref a0), (1, .int v0)]) hx hb dX11_registerAt_1 rfl hl (by decide) rfl (fun ls hl => ?_)
  refine lv_iload_n hx hb dX11_registerAt_2 rfl (lv_at hl 0 rfl) ?_
  refine lv_aload_n hx hb dX11_registerAt_3 rfl (lv_at hl 1 rfl) ?_
  refine va_get (D := (dC, dI)) (ci := 11) (v := .int 0) (C := RX11) (T := TX11) (N := 24) hx hb hts hnX11 hown hK hP 0 rfl rfl 7 (by decide) hf69 (fun _ h9 => h9) rfl dX11_registerAt_4 ?_
  refine lv_icmp_ge (tgt := 28) hx hb dX11_registerAt_7 (by decide) (fun _ => ?_) (fun c => absurd (by decide) c)
  refine lv_iconst (v := (-1)) hx hb dX11_registerAt_28 (by decide) ?_
  refine W.widen (k := 0) (n := 0) (Nat.le_of_ble_eq_true rfl) (Nat.le_of_ble_eq_true rfl) ?_
  exact yy_iret (v := (-1)) () hx hb hr hlk rfl hsz hAe hK hP hD hS [0] rfl rfl (by decide) (rfl) dX11_registerAt_29
set_option maxHeartbeats 4000000 in
set_option maxRecDepth 100000 in
theorem r_value (l : Launch) (dC : Nat → ClassId) (dI : Nat → Nat → Nat) (cyI cyZ cyO : ClassId) (sz : Nat) (h0 : Nat) (rz : Nat) (rf : Nat) (rl : Nat) (rwx : Nat) (rb : Nat) (rwd : Nat) (rk : Nat) (ra : Nat) (rs : Nat) (rt : Nat) (rwr : Nat) (rp : Nat) (rsi : Nat) (rke : Nat) (rkc : Nat) (rik : Nat) (w : Int32)  : Met l yX11_value wsX11_value ({ frames := 1, cells := 0, slots := 0, locals := 22 }) (yPre [.ref h0, .int w] (dC, dI) [(h0, .inr (11, [.ref rz, .int 0, .int 0, .ref rf, .ref rl, .ref rwx, .ref rb, .int 0, .ref rwd, .ref rk, .ref ra, .int 0, .int 32, .int 0, .ref rs, .ref rt, .int 0, .int 0, .ref rwr, .ref rp, .ref rsi, .ref rke, .ref rkc, .ref rik]))] (yT cyI cyZ cyO) sz) (yQi (fun (r : Int32) (u : Unit) => r = 0) (dC, dI) [(h0, .inr (11, [.ref rz, .int 0, .int 0, .ref rf, .ref rl, .ref rwx, .ref rb, .int 0, .ref rwd, .ref rk, .ref ra, .int 0, .int 32, .int 0, .ref rs, .ref rt, .int 0, .int 0, .ref rwr, .ref rp, .ref rsi, .ref rke, .ref rkc, .ref rik]))] (yT cyI cyZ cyO) sz (fun _ => [])) 0 0 (va_A [(h0, .inr (11, [.ref rz, .int 0, .int 0, .ref rf, .ref rl, .ref rwx, .ref rb, .int 0, .ref rwd, .ref rk, .ref ra, .int 0, .int 32, .int 0, .ref rs, .ref rt, .int 0, .int 0, .ref rwr, .ref rp, .ref rsi, .ref rke, .ref rkc, .ref rik]))] sz) := by
  refine yMet (cc := cX11_value) (maxL := 3) (ret := (some .int)) (by decide) rfl (Nat.le_of_ble_eq_true rfl) ?_
  intro p e s m below meth c A hx hb hr hlk hml hts hown hnm hsz hAe hP hK hD hA hS ls hl
  have hl : lv_has ls 3 [(0, .ref h0), (1, .int w)] := hl
  refine lv_aload_n hx hb dX11_value_0 rfl (lv_at hl 0 rfl) ?_
  refine lv_iload_n hx hb dX11_value_1 rfl (lv_at hl 1 rfl) ?_
  have hPc := hP.sub (ws' := [(h0, .inr (11, [.ref rz, .int 0, .int 0, .ref rf, .ref rl, .ref rwx, .ref rb, .int 0, .ref rwd, .ref rk, .ref ra, .int 0, .int 32, .int 0, .ref rs, .ref rt, .int 0, .int 0, .ref rwr, .ref rp, .ref rsi, .ref rke, .ref rkc, .ref rik]))]) [0] rfl
  have hDc := hD.sub (ws' := [(h0, .inr (11, [.ref rz, .int 0, .int 0, .ref rf, .ref rl, .ref rwx, .ref rb, .int 0, .ref rwd, .ref rk, .ref ra, .int 0, .int 32, .int 0, .ref rs, .ref rt, .int 0, .int 0, .ref rwr, .ref rp, .ref rsi, .ref rke, .ref rkc, .ref rik]))]) [0] (by decide) rfl
  refine yy_calli [0] [] (wr := []) (va_runV (As := [.int w]) (rest := []) ⟨hx, hb, hml, hown, hts⟩ (rp_X11_registerAt_153 l dC dI cyI cyZ cyO s.heap.size h0 w rz rf rl rwx rb rwd rk ra rs rt rwr rp rsi rke rkc rik ) (cwV 1 hts gX11_value_X11_registerAt rfl rfl rfl (by decide +kernel) ⟨Nat.le_of_ble_eq_true rfl, Nat.le_of_ble_eq_true rfl⟩) (yPreV hK hPc hDc (ci := 11) (q0 := 0) rfl rfl) rfl rfl hl.1 rfl (lv_room (Nat.le_of_ble_eq_true rfl)) dX11_value_2 ⟨Nat.le_of_ble_eq_true rfl, Nat.le_of_ble_eq_true rfl⟩) hP hD hS hA rfl rfl (by decide) (by decide) (fun r_2 u_1 H locs hw hP hD hS => ?_)
  have hP : va_P (dC, dI) vwCl [(h0, .inr (11, [.ref rz, .int 0, .int 0, .ref rf, .ref rl, .ref rwx, .ref rb, .int 0, .ref rwd, .ref rk, .ref ra, .int 0, .int 32, .int 0, .ref rs, .ref rt, .int 0, .int 0, .ref rwr, .ref rp, .ref rsi, .ref rke, .ref rkc, .ref rik]))] H := hP
  have hD : va_D A [(h0, .inr (11, [.ref rz, .int 0, .int 0, .ref rf, .ref rl, .ref rwx, .ref rb, .int 0, .ref rwd, .ref rk, .ref ra, .int 0, .int 32, .int 0, .ref rs, .ref rt, .int 0, .int 0, .ref rwr, .ref rp, .ref rsi, .ref rke, .ref rkc, .ref rik]))] := hD
  refine W.widen (k := 0) (n := 0) (Nat.le_of_ble_eq_true rfl) (Nat.le_of_ble_eq_true rfl) ?_
  have hw : r_2 = (-1) := hw
  subst hw
  refine lv_istore_n (lv' := [(2, .int (-1)), (0, .ref h0), (1, .int w)]) hx hb dX11_value_5 rfl hl (by decide) rfl (fun ls hl => ?_)
  refine lv_iload_n hx hb dX11_value_6 rfl (lv_at hl 0 rfl) ?_
  refine lv_if_ge (tgt := 18) hx hb dX11_value_7 (by decide) (fun c => absurd c (by decide)) (fun _ => ?_)
  refine lv_aload_n hx hb dX11_value_10 rfl (lv_at hl 1 rfl) ?_
  refine lv_iconst (v := (-1)) hx hb dX11_value_11 (by decide) ?_
  have hPc := hP.sub (ws' := [(h0, .inr (11, [.ref rz, .int 0, .int 0, .ref rf, .ref rl, .ref rwx, .ref rb, .int 0, .ref rwd, .ref rk, .ref ra, .int 0, .int 32, .int 0, .ref rs, .ref rt, .int 0, .int 0, .ref rwr, .ref rp, .ref rsi, .ref rke, .ref rkc, .ref rik]))]) [0] rfl
  have hDc := hD.sub (ws' := [(h0, .inr (11, [.ref rz, .int 0, .int 0, .ref rf, .ref rl, .ref rwx, .ref rb, .int 0, .ref rwd, .ref rk, .ref ra, .int 0, .int 32, .int 0, .ref rs, .ref rt, .int 0, .int 0, .ref rwr, .ref rp, .ref rsi, .ref rke, .ref rkc, .ref rik]))]) [0] (by decide) rfl
  refine yy_calli [0] [] (wr := []) (va_runV (As := [.int (-1)]) (rest := []) ⟨hx, hb, hml, hown, hts⟩ (r_none l dC dI cyI cyZ cyO H.size h0 rz 0 0 rf rl rwx rb 0 rwd rk ra 0 32 0 rs rt 0 0 rwr rp rsi rke rkc rik (-1) ) (cwV 1 hts gX11_value_X11_none rfl rfl rfl (by decide +kernel) ⟨Nat.le_of_ble_eq_true rfl, Nat.le_of_ble_eq_true rfl⟩) (yPreV hK hPc hDc (ci := 11) (q0 := 0) rfl rfl) rfl rfl hl.1 rfl (lv_room (Nat.le_of_ble_eq_true rfl)) dX11_value_12 ⟨Nat.le_of_ble_eq_true rfl, Nat.le_of_ble_eq_true rfl⟩) hP hD hS hA rfl rfl (by decide) (by decide) (fun r_4 u_3 H locs hw hP hD hS => ?_)
  have hP : va_P (dC, dI) vwCl [(h0, .inr (11, [.ref rz, .int (-1), .int 0, .ref rf, .ref rl, .ref rwx, .ref rb, .int 0, .ref rwd, .ref rk, .ref ra, .int 0, .int 32, .int 0, .ref rs, .ref rt, .int 0, .int 0, .ref rwr, .ref rp, .ref rsi, .ref rke, .ref rkc, .ref rik]))] H := hP
  have hD : va_D A [(h0, .inr (11, [.ref rz, .int (-1), .int 0, .ref rf, .ref rl, .ref rwx, .ref rb, .int 0, .ref rwd, .ref rk, .ref ra, .int 0, .int 32, .int 0, .ref rs, .ref rt, .int 0, .int 0, .ref rwr, .ref rp, .ref rsi, .ref rke, .ref rkc, .ref rik]))] := hD
  refine W.widen (k := 0) (n := 0) (Nat.le_of_ble_eq_true rfl) (Nat.le_of_ble_eq_true rfl) ?_
  have hw : r_4 = 0 := hw
  subst hw
  refine lv_goto (tgt := 31) hx hb dX11_value_15 (by decide) ?_
  refine W.widen (k := 0) (n := 0) (Nat.le_of_ble_eq_true rfl) (Nat.le_of_ble_eq_true rfl) ?_
  exact yy_iret (v := 0) () hx hb hr hlk rfl hsz hAe hK hP hD hS [] rfl rfl (by decide) (rfl) dX11_value_31
set_option maxHeartbeats 4000000 in
set_option maxRecDepth 100000 in
theorem r_decode (l : Launch) (dC : Nat → ClassId) (dI : Nat → Nat → Nat) (cyI cyZ cyO : ClassId) (sz : Nat) (h0 : Nat) (rz : Nat) (rf : Nat) (rl : Nat) (rwx : Nat) (rb : Nat) (rwd : Nat) (rk : Nat) (ra : Nat) (rs : Nat) (rt : Nat) (rwr : Nat) (rp : Nat) (rsi : Nat) (rke : Nat) (rkc : Nat) (rik : Nat) (a : Int32)  : Met l yX11_decode wsX11_decode ({ frames := 1, cells := 0, slots := 0, locals := 22 }) (yPre [.ref h0, .int a] (dC, dI) [(h0, .inr (11, [.ref rz, .int 0, .int 0, .ref rf, .ref rl, .ref rwx, .ref rb, .int 0, .ref rwd, .ref rk, .ref ra, .int 0, .int 32, .int 0, .ref rs, .ref rt, .int 0, .int 0, .ref rwr, .ref rp, .ref rsi, .ref rke, .ref rkc, .ref rik]))] (yT cyI cyZ cyO) sz) (yQi (fun (r : Int32) (u : Unit) => r = (-6)) (dC, dI) [(h0, .inr (11, [.ref rz, .int 0, .int 0, .ref rf, .ref rl, .ref rwx, .ref rb, .int 0, .ref rwd, .ref rk, .ref ra, .int 0, .int 32, .int 0, .ref rs, .ref rt, .int 0, .int 0, .ref rwr, .ref rp, .ref rsi, .ref rke, .ref rkc, .ref rik]))] (yT cyI cyZ cyO) sz (fun _ => [])) 0 0 (va_A [(h0, .inr (11, [.ref rz, .int 0, .int 0, .ref rf, .ref rl, .ref rwx, .ref rb, .int 0, .ref rwd, .ref rk, .ref ra, .int 0, .int 32, .int 0, .ref rs, .ref rt, .int 0, .int 0, .ref rwr, .ref rp, .ref rsi, .ref rke, .ref rkc, .ref rik]))] sz) := by
  refine yMet (cc := cX11_decode) (maxL := 2) (ret := (some .int)) (by decide) rfl (Nat.le_of_ble_eq_true rfl) ?_
  intro p e s m below meth c A hx hb hr hlk hml hts hown hnm hsz hAe hP hK hD hA hS ls hl
  have hl : lv_has ls 2 [(0, .ref h0), (1, .int a)] := hl
  refine lv_aload_n hx hb dX11_decode_0 rfl (lv_at hl 0 rfl) ?_
  refine lv_aload_n hx hb dX11_decode_1 rfl (lv_at hl 0 rfl) ?_
  refine lv_iload_n hx hb dX11_decode_2 rfl (lv_at hl 1 rfl) ?_
  have hPc := hP.sub (ws' := [(h0, .inr (11, [.ref rz, .int 0, .int 0, .ref rf, .ref rl, .ref rwx, .ref rb, .int 0, .ref rwd, .ref rk, .ref ra, .int 0, .int 32, .int 0, .ref rs, .ref rt, .int 0, .int 0, .ref rwr, .ref rp, .ref rsi, .ref rke, .ref rkc, .ref rik]))]) [0] rfl
  have hDc := hD.sub (ws' := [(h0, .inr (11, [.ref rz, .int 0, .int 0, .ref rf, .ref rl, .ref rwx, .ref rb, .int 0, .ref rwd, .ref rk, .ref ra, .int 0, .int 32, .int 0, .ref rs, .ref rt, .int 0, .int 0, .ref rwr, .ref rp, .ref rsi, .ref rke, .ref rkc, .ref rik]))]) [0] (by decide) rfl
  refine yy_calli [0] [] (wr := []) (va_runV (As := [.int a]) (rest := [.ref h0]) ⟨hx, hb, hml, hown, hts⟩ (rp_X11_slaveOf_149 l dC dI cyI cyZ cyO s.heap.size h0 a rz rf rl rwx rb rwd rk ra rs rt rwr rp rsi rke rkc rik ) (cwV 1 hts gX11_decode_X11_slaveOf rfl rfl rfl (by decide +kernel) ⟨Nat.le_of_ble_eq_true rfl, Nat.le_of_ble_eq_true rfl⟩) (yPreV hK hPc hDc (ci := 11) (q0 := 0) rfl rfl) rfl rfl hl.1 rfl (lv_room (Nat.le_of_ble_eq_true rfl)) dX11_decode_3 ⟨Nat.le_of_ble_eq_true rfl, Nat.le_of_ble_eq_true rfl⟩) hP hD hS hA rfl rfl (by decide) (by decide) (fun r_2 u_1 H locs hw hP hD hS => ?_)
  have hP : va_P (dC, dI) vwCl [(h0, .inr (11, [.ref rz, .int 0, .int 0, .ref rf, .ref rl, .ref rwx, .ref rb, .int 0, .ref rwd, .ref rk, .ref ra, .int 0, .int 32, .int 0, .ref rs, .ref rt, .int 0, .int 0, .ref rwr, .ref rp, .ref rsi, .ref rke, .ref rkc, .ref rik]))] H := hP
  have hD : va_D A [(h0, .inr (11, [.ref rz, .int 0, .int 0, .ref rf, .ref rl, .ref rwx, .ref rb, .int 0, .ref rwd, .ref rk, .ref ra, .int 0, .int 32, .int 0, .ref rs, .ref rt, .int 0, .int 0, .ref rwr, .ref rp, .ref rsi, .ref rke, .ref rkc, .ref rik]))] := hD
  refine W.widen (k := 0) (n := 0) (Nat.le_of_ble_eq_true rfl) (Nat.le_of_ble_eq_true rfl) ?_
  have hw : r_2 = (-6) := hw
  subst hw
  have hPc := hP.sub (ws' := [(h0, .inr (11, [.ref rz, .int 0, .int 0, .ref rf, .ref rl, .ref rwx, .ref rb, .int 0, .ref rwd, .ref rk, .ref ra, .int 0, .int 32, .int 0, .ref rs, .ref rt, .int 0, .int 0, .ref rwr, .ref rp, .ref rsi, .ref rke, .ref rkc, .ref rik]))]) [0] rfl
  have hDc := hD.sub (ws' := [(h0, .inr (11, [.ref rz, .int 0, .int 0, .ref rf, .ref rl, .ref rwx, .ref rb, .int 0, .ref rwd, .ref rk, .ref ra, .int 0, .int 32, .int 0, .ref rs, .ref rt, .int 0, .int 0, .ref rwr, .ref rp, .ref rsi, .ref rke, .ref rkc, .ref rik]))]) [0] (by decide) rfl
  refine yy_calli [0] [] (wr := []) (va_runV (As := [.int (-6)]) (rest := []) ⟨hx, hb, hml, hown, hts⟩ (r_done l dC dI cyI cyZ cyO H.size h0 rz 0 0 rf rl rwx rb 0 rwd rk ra 0 32 0 rs rt 0 0 rwr rp rsi rke rkc rik (-6) ) (cwV 1 hts gX11_decode_X11_done rfl rfl rfl (by decide +kernel) ⟨Nat.le_of_ble_eq_true rfl, Nat.le_of_ble_eq_true rfl⟩) (yPreV hK hPc hDc (ci := 11) (q0 := 0) rfl rfl) rfl rfl hl.1 rfl (lv_room (Nat.le_of_ble_eq_true rfl)) dX11_decode_6 ⟨Nat.le_of_ble_eq_true rfl, Nat.le_of_ble_eq_true rfl⟩) hP hD hS hA rfl rfl (by decide) (by decide) (fun r_4 u_3 H locs hw hP hD hS => ?_)
  have hP : va_P (dC, dI) vwCl [(h0, .inr (11, [.ref rz, .int 0, .int 0, .ref rf, .ref rl, .ref rwx, .ref rb, .int 0, .ref rwd, .ref rk, .ref ra, .int 0, .int 32, .int 0, .ref rs, .ref rt, .int 0, .int 0, .ref rwr, .ref rp, .ref rsi, .ref rke, .ref rkc, .ref rik]))] H := hP
  have hD : va_D A [(h0, .inr (11, [.ref rz, .int 0, .int 0, .ref rf, .ref rl, .ref rwx, .ref rb, .int 0, .ref rwd, .ref rk, .ref ra, .int 0, .int 32, .int 0, .ref rs, .ref rt, .int 0, .int 0, .ref rwr, .ref rp, .ref rsi, .ref rke, .ref rkc, .ref rik]))] := hD
  refine W.widen (k := 0) (n := 0) (Nat.le_of_ble_eq_true rfl) (Nat.le_of_ble_eq_true rfl) ?_
  have hw : r_4 = (-6) := hw.trans (by decide)
  subst hw
  refine W.widen (k := 0) (n := 0) (Nat.le_of_ble_eq_true rfl) (Nat.le_of_ble_eq_true rfl) ?_
  exact yy_iret (v := (-6)) () hx hb hr hlk rfl hsz hAe hK hP hD hS [] rfl rfl (by decide) (rfl) dX11_decode_9
set_option maxHeartbeats 4000000 in
set_option maxRecDepth 100000 in
theorem r_bridge (l : Launch) (dC : Nat → ClassId) (dI : Nat → Nat → Nat) (cyI cyZ cyO : ClassId) (sz : Nat) (h0 : Nat) (rz : Nat) (rf : Nat) (rl : Nat) (rwx : Nat) (rb : Nat) (rwd : Nat) (rk : Nat) (ra : Nat) (rs : Nat) (rt : Nat) (rwr : Nat) (rp : Nat) (rsi : Nat) (rke : Nat) (rkc : Nat) (rik : Nat) (w : Int32)  : Met l yX11_bridge_ wsX11_bridge_ ({ frames := 1, cells := 0, slots := 0, locals := 21 }) (yPre [.ref h0, .int w] (dC, dI) [(h0, .inr (11, [.ref rz, .int 0, .int 0, .ref rf, .ref rl, .ref rwx, .ref rb, .int 0, .ref rwd, .ref rk, .ref ra, .int 0, .int 32, .int 0, .ref rs, .ref rt, .int 0, .int 0, .ref rwr, .ref rp, .ref rsi, .ref rke, .ref rkc, .ref rik])), (rz, .inl (cyI, 2490, .inl (yz 0 0)))] (yT cyI cyZ cyO) sz) (yQi (fun (r : Int32) (u : Unit) => r = (sp_bridge w)) (dC, dI) [(h0, .inr (11, [.ref rz, .int 0, .int 0, .ref rf, .ref rl, .ref rwx, .ref rb, .int 0, .ref rwd, .ref rk, .ref ra, .int 0, .int 32, .int 0, .ref rs, .ref rt, .int 0, .int 0, .ref rwr, .ref rp, .ref rsi, .ref rke, .ref rkc, .ref rik])), (rz, .inl (cyI, 2490, .inl (yz 0 0)))] (yT cyI cyZ cyO) sz (fun _ => [])) 0 0 (va_A [(h0, .inr (11, [.ref rz, .int 0, .int 0, .ref rf, .ref rl, .ref rwx, .ref rb, .int 0, .ref rwd, .ref rk, .ref ra, .int 0, .int 32, .int 0, .ref rs, .ref rt, .int 0, .int 0, .ref rwr, .ref rp, .ref rsi, .ref rke, .ref rkc, .ref rik])), (rz, .inl (cyI, 2490, .inl (yz 0 0)))] sz) := by
  refine yMet (cc := cX11_bridge_) (maxL := 2) (ret := (some .int)) (by decide) rfl (Nat.le_of_ble_eq_true rfl) ?_
  intro p e s m below meth c A hx hb hr hlk hml hts hown hnm hsz hAe hP hK hD hA hS ls hl
  have hl : lv_has ls 2 [(0, .ref h0), (1, .int w)] := hl
  have hf7 := hts (.fieldLink RX11 7 "BusBridgeModel" "z" "[I") (by decide +kernel)
  have hnX11 : ∀ w ∈ wsX110, w ∈ wsX11_bridge_ := by decide +kernel
  refine lv_iload_n hx hb dX11_bridge__0 rfl (lv_at hl 1 rfl) ?_
  rcases ysw5 w with rfl | rfl | rfl | rfl | rfl | rfl | c1
  · refine lv_tableIn (off := 39) (tgt := 40) hx hb dX11_bridge__1 (by decide) (by decide) (by decide) (by decide) ?_
    refine lv_aload_n hx hb dX11_bridge__40 rfl (lv_at hl 0 rfl) ?_
    refine lv_aload_n hx hb dX11_bridge__41 rfl (lv_at hl 0 rfl) ?_
    refine va_get (D := (dC, dI)) (ci := 11) (v := .ref rz) (C := RX11) (T := TX11) (N := 24) hx hb hts hnX11 hown hK hP 0 rfl rfl 0 (by decide) hf7 (fun _ h9 => h9) rfl dX11_bridge__42 ?_
    refine lv_sipush (v := 184) hx hb dX11_bridge__45 (by decide) ?_
    refine yy_iald (v := 0) hx hb hK hP 1 0 rfl rfl (yin (by decide)) dX11_bridge__48 rfl ?_
    have hPc := hP.sub (ws' := [(h0, .inr (11, [.ref rz, .int 0, .int 0, .ref rf, .ref rl, .ref rwx, .ref rb, .int 0, .ref rwd, .ref rk, .ref ra, .int 0, .int 32, .int 0, .ref rs, .ref rt, .int 0, .int 0, .ref rwr, .ref rp, .ref rsi, .ref rke, .ref rkc, .ref rik]))]) [0] rfl
    have hDc := hD.sub (ws' := [(h0, .inr (11, [.ref rz, .int 0, .int 0, .ref rf, .ref rl, .ref rwx, .ref rb, .int 0, .ref rwd, .ref rk, .ref ra, .int 0, .int 32, .int 0, .ref rs, .ref rt, .int 0, .int 0, .ref rwr, .ref rp, .ref rsi, .ref rke, .ref rkc, .ref rik]))]) [0] (by decide) rfl
    refine yy_calli [0] [1] (wr := [(rz, .inl (cyI, 2490, .inl (yz 0 0)))]) (va_runV (As := [.int 0]) (rest := []) ⟨hx, hb, hml, hown, hts⟩ (r_done l dC dI cyI cyZ cyO s.heap.size h0 rz 0 0 rf rl rwx rb 0 rwd rk ra 0 32 0 rs rt 0 0 rwr rp rsi rke rkc rik 0 ) (cwV 1 hts gX11_bridge__X11_done rfl rfl rfl (by decide +kernel) ⟨Nat.le_of_ble_eq_true rfl, Nat.le_of_ble_eq_true rfl⟩) (yPreV hK hPc hDc (ci := 11) (q0 := 0) rfl rfl) rfl rfl hl.1 rfl (lv_room (Nat.le_of_ble_eq_true rfl)) dX11_bridge__49 ⟨Nat.le_of_ble_eq_true rfl, Nat.le_of_ble_eq_true rfl⟩) hP hD hS hA rfl rfl (by decide) (by decide) (fun r_2 u_1 H locs hw hP hD hS => ?_)
    have hP : va_P (dC, dI) vwCl [(rz, .inl (cyI, 2490, .inl (yz 0 0))), (h0, .inr (11, [.ref rz, .int 0, .int 0, .ref rf, .ref rl, .ref rwx, .ref rb, .int 0, .ref rwd, .ref rk, .ref ra, .int 0, .int 32, .int 0, .ref rs, .ref rt, .int 0, .int 0, .ref rwr, .ref rp, .ref rsi, .ref rke, .ref rkc, .ref rik]))] H := hP
    have hD : va_D A [(rz, .inl (cyI, 2490, .inl (yz 0 0))), (h0, .inr (11, [.ref rz, .int 0, .int 0, .ref rf, .ref rl, .ref rwx, .ref rb, .int 0, .ref rwd, .ref rk, .ref ra, .int 0, .int 32, .int 0, .ref rs, .ref rt, .int 0, .int 0, .ref rwr, .ref rp, .ref rsi, .ref rke, .ref rkc, .ref rik]))] := hD
    refine W.widen (k := 0) (n := 0) (Nat.le_of_ble_eq_true rfl) (Nat.le_of_ble_eq_true rfl) ?_
    have hw : r_2 = 0 := hw.trans (by decide)
    subst hw
    refine W.widen (k := 0) (n := 0) (Nat.le_of_ble_eq_true rfl) (Nat.le_of_ble_eq_true rfl) ?_
    exact yy_iret (v := 0) () hx hb hr hlk rfl hsz hAe hK hP hD hS [] rfl rfl (by decide) (by decide) dX11_bridge__52
  · refine lv_tableIn (off := 52) (tgt := 53) hx hb dX11_bridge__1 (by decide) (by decide) (by decide) (by decide) ?_
    refine lv_aload_n hx hb dX11_bridge__53 rfl (lv_at hl 0 rfl) ?_
    refine lv_aload_n hx hb dX11_bridge__54 rfl (lv_at hl 0 rfl) ?_
    refine va_get (D := (dC, dI)) (ci := 11) (v := .ref rz) (C := RX11) (T := TX11) (N := 24) hx hb hts hnX11 hown hK hP 0 rfl rfl 0 (by decide) hf7 (fun _ h9 => h9) rfl dX11_bridge__55 ?_
    refine lv_sipush (v := 201) hx hb dX11_bridge__58 (by decide) ?_
    refine yy_iald (v := 0) hx hb hK hP 1 0 rfl rfl (yin (by decide)) dX11_bridge__61 rfl ?_
    have hPc := hP.sub (ws' := [(h0, .inr (11, [.ref rz, .int 0, .int 0, .ref rf, .ref rl, .ref rwx, .ref rb, .int 0, .ref rwd, .ref rk, .ref ra, .int 0, .int 32, .int 0, .ref rs, .ref rt, .int 0, .int 0, .ref rwr, .ref rp, .ref rsi, .ref rke, .ref rkc, .ref rik]))]) [0] rfl
    have hDc := hD.sub (ws' := [(h0, .inr (11, [.ref rz, .int 0, .int 0, .ref rf, .ref rl, .ref rwx, .ref rb, .int 0, .ref rwd, .ref rk, .ref ra, .int 0, .int 32, .int 0, .ref rs, .ref rt, .int 0, .int 0, .ref rwr, .ref rp, .ref rsi, .ref rke, .ref rkc, .ref rik]))]) [0] (by decide) rfl
    refine yy_calli [0] [1] (wr := [(rz, .inl (cyI, 2490, .inl (yz 0 0)))]) (va_runV (As := [.int 0]) (rest := []) ⟨hx, hb, hml, hown, hts⟩ (r_done l dC dI cyI cyZ cyO s.heap.size h0 rz 0 0 rf rl rwx rb 0 rwd rk ra 0 32 0 rs rt 0 0 rwr rp rsi rke rkc rik 0 ) (cwV 1 hts gX11_bridge__X11_done rfl rfl rfl (by decide +kernel) ⟨Nat.le_of_ble_eq_true rfl, Nat.le_of_ble_eq_true rfl⟩) (yPreV hK hPc hDc (ci := 11) (q0 := 0) rfl rfl) rfl rfl hl.1 rfl (lv_room (Nat.le_of_ble_eq_true rfl)) dX11_bridge__62 ⟨Nat.le_of_ble_eq_true rfl, Nat.le_of_ble_eq_true rfl⟩) hP hD hS hA rfl rfl (by decide) (by decide) (fun r_4 u_3 H locs hw hP hD hS => ?_)
    have hP : va_P (dC, dI) vwCl [(rz, .inl (cyI, 2490, .inl (yz 0 0))), (h0, .inr (11, [.ref rz, .int 0, .int 0, .ref rf, .ref rl, .ref rwx, .ref rb, .int 0, .ref rwd, .ref rk, .ref ra, .int 0, .int 32, .int 0, .ref rs, .ref rt, .int 0, .int 0, .ref rwr, .ref rp, .ref rsi, .ref rke, .ref rkc, .ref rik]))] H := hP
    have hD : va_D A [(rz, .inl (cyI, 2490, .inl (yz 0 0))), (h0, .inr (11, [.ref rz, .int 0, .int 0, .ref rf, .ref rl, .ref rwx, .ref rb, .int 0, .ref rwd, .ref rk, .ref ra, .int 0, .int 32, .int 0, .ref rs, .ref rt, .int 0, .int 0, .ref rwr, .ref rp, .ref rsi, .ref rke, .ref rkc, .ref rik]))] := hD
    refine W.widen (k := 0) (n := 0) (Nat.le_of_ble_eq_true rfl) (Nat.le_of_ble_eq_true rfl) ?_
    have hw : r_4 = 0 := hw.trans (by decide)
    subst hw
    refine W.widen (k := 0) (n := 0) (Nat.le_of_ble_eq_true rfl) (Nat.le_of_ble_eq_true rfl) ?_
    exact yy_iret (v := 0) () hx hb hr hlk rfl hsz hAe hK hP hD hS [] rfl rfl (by decide) (by decide) dX11_bridge__65
  · refine lv_tableIn (off := 65) (tgt := 66) hx hb dX11_bridge__1 (by decide) (by decide) (by decide) (by decide) ?_
    refine lv_aload_n hx hb dX11_bridge__66 rfl (lv_at hl 0 rfl) ?_
    refine lv_aload_n hx hb dX11_bridge__67 rfl (lv_at hl 0 rfl) ?_
    refine va_get (D := (dC, dI)) (ci := 11) (v := .ref rz) (C := RX11) (T := TX11) (N := 24) hx hb hts hnX11 hown hK hP 0 rfl rfl 0 (by decide) hf7 (fun _ h9 => h9) rfl dX11_bridge__68 ?_
    refine lv_sipush (v := 192) hx hb dX11_bridge__71 (by decide) ?_
    refine yy_iald (v := 0) hx hb hK hP 1 0 rfl rfl (yin (by decide)) dX11_bridge__74 rfl ?_
    have hPc := hP.sub (ws' := [(h0, .inr (11, [.ref rz, .int 0, .int 0, .ref rf, .ref rl, .ref rwx, .ref rb, .int 0, .ref rwd, .ref rk, .ref ra, .int 0, .int 32, .int 0, .ref rs, .ref rt, .int 0, .int 0, .ref rwr, .ref rp, .ref rsi, .ref rke, .ref rkc, .ref rik]))]) [0] rfl
    have hDc := hD.sub (ws' := [(h0, .inr (11, [.ref rz, .int 0, .int 0, .ref rf, .ref rl, .ref rwx, .ref rb, .int 0, .ref rwd, .ref rk, .ref ra, .int 0, .int 32, .int 0, .ref rs, .ref rt, .int 0, .int 0, .ref rwr, .ref rp, .ref rsi, .ref rke, .ref rkc, .ref rik]))]) [0] (by decide) rfl
    refine yy_calli [0] [1] (wr := [(rz, .inl (cyI, 2490, .inl (yz 0 0)))]) (va_runV (As := [.int 0]) (rest := []) ⟨hx, hb, hml, hown, hts⟩ (r_done l dC dI cyI cyZ cyO s.heap.size h0 rz 0 0 rf rl rwx rb 0 rwd rk ra 0 32 0 rs rt 0 0 rwr rp rsi rke rkc rik 0 ) (cwV 1 hts gX11_bridge__X11_done rfl rfl rfl (by decide +kernel) ⟨Nat.le_of_ble_eq_true rfl, Nat.le_of_ble_eq_true rfl⟩) (yPreV hK hPc hDc (ci := 11) (q0 := 0) rfl rfl) rfl rfl hl.1 rfl (lv_room (Nat.le_of_ble_eq_true rfl)) dX11_bridge__75 ⟨Nat.le_of_ble_eq_true rfl, Nat.le_of_ble_eq_true rfl⟩) hP hD hS hA rfl rfl (by decide) (by decide) (fun r_6 u_5 H locs hw hP hD hS => ?_)
    have hP : va_P (dC, dI) vwCl [(rz, .inl (cyI, 2490, .inl (yz 0 0))), (h0, .inr (11, [.ref rz, .int 0, .int 0, .ref rf, .ref rl, .ref rwx, .ref rb, .int 0, .ref rwd, .ref rk, .ref ra, .int 0, .int 32, .int 0, .ref rs, .ref rt, .int 0, .int 0, .ref rwr, .ref rp, .ref rsi, .ref rke, .ref rkc, .ref rik]))] H := hP
    have hD : va_D A [(rz, .inl (cyI, 2490, .inl (yz 0 0))), (h0, .inr (11, [.ref rz, .int 0, .int 0, .ref rf, .ref rl, .ref rwx, .ref rb, .int 0, .ref rwd, .ref rk, .ref ra, .int 0, .int 32, .int 0, .ref rs, .ref rt, .int 0, .int 0, .ref rwr, .ref rp, .ref rsi, .ref rke, .ref rkc, .ref rik]))] := hD
    refine W.widen (k := 0) (n := 0) (Nat.le_of_ble_eq_true rfl) (Nat.le_of_ble_eq_true rfl) ?_
    have hw : r_6 = 0 := hw.trans (by decide)
    subst hw
    refine W.widen (k := 0) (n := 0) (Nat.le_of_ble_eq_true rfl) (Nat.le_of_ble_eq_true rfl) ?_
    exact yy_iret (v := 0) () hx hb hr hlk rfl hsz hAe hK hP hD hS [] rfl rfl (by decide) (by decide) dX11_bridge__78
  · refine lv_tableIn (off := 78) (tgt := 79) hx hb dX11_bridge__1 (by decide) (by decide) (by decide) (by decide) ?_
    refine lv_aload_n hx hb dX11_bridge__79 rfl (lv_at hl 0 rfl) ?_
    refine lv_aload_n hx hb dX11_bridge__80 rfl (lv_at hl 0 rfl) ?_
    refine va_get (D := (dC, dI)) (ci := 11) (v := .ref rz) (C := RX11) (T := TX11) (N := 24) hx hb hts hnX11 hown hK hP 0 rfl rfl 0 (by decide) hf7 (fun _ h9 => h9) rfl dX11_bridge__81 ?_
    refine lv_sipush (v := 206) hx hb dX11_bridge__84 (by decide) ?_
    refine yy_iald (v := 0) hx hb hK hP 1 0 rfl rfl (yin (by decide)) dX11_bridge__87 rfl ?_
    have hPc := hP.sub (ws' := [(h0, .inr (11, [.ref rz, .int 0, .int 0, .ref rf, .ref rl, .ref rwx, .ref rb, .int 0, .ref rwd, .ref rk, .ref ra, .int 0, .int 32, .int 0, .ref rs, .ref rt, .int 0, .int 0, .ref rwr, .ref rp, .ref rsi, .ref rke, .ref rkc, .ref rik]))]) [0] rfl
    have hDc := hD.sub (ws' := [(h0, .inr (11, [.ref rz, .int 0, .int 0, .ref rf, .ref rl, .ref rwx, .ref rb, .int 0, .ref rwd, .ref rk, .ref ra, .int 0, .int 32, .int 0, .ref rs, .ref rt, .int 0, .int 0, .ref rwr, .ref rp, .ref rsi, .ref rke, .ref rkc, .ref rik]))]) [0] (by decide) rfl
    refine yy_calli [0] [1] (wr := [(rz, .inl (cyI, 2490, .inl (yz 0 0)))]) (va_runV (As := [.int 0]) (rest := []) ⟨hx, hb, hml, hown, hts⟩ (r_done l dC dI cyI cyZ cyO s.heap.size h0 rz 0 0 rf rl rwx rb 0 rwd rk ra 0 32 0 rs rt 0 0 rwr rp rsi rke rkc rik 0 ) (cwV 1 hts gX11_bridge__X11_done rfl rfl rfl (by decide +kernel) ⟨Nat.le_of_ble_eq_true rfl, Nat.le_of_ble_eq_true rfl⟩) (yPreV hK hPc hDc (ci := 11) (q0 := 0) rfl rfl) rfl rfl hl.1 rfl (lv_room (Nat.le_of_ble_eq_true rfl)) dX11_bridge__88 ⟨Nat.le_of_ble_eq_true rfl, Nat.le_of_ble_eq_true rfl⟩) hP hD hS hA rfl rfl (by decide) (by decide) (fun r_8 u_7 H locs hw hP hD hS => ?_)
    have hP : va_P (dC, dI) vwCl [(rz, .inl (cyI, 2490, .inl (yz 0 0))), (h0, .inr (11, [.ref rz, .int 0, .int 0, .ref rf, .ref rl, .ref rwx, .ref rb, .int 0, .ref rwd, .ref rk, .ref ra, .int 0, .int 32, .int 0, .ref rs, .ref rt, .int 0, .int 0, .ref rwr, .ref rp, .ref rsi, .ref rke, .ref rkc, .ref rik]))] H := hP
    have hD : va_D A [(rz, .inl (cyI, 2490, .inl (yz 0 0))), (h0, .inr (11, [.ref rz, .int 0, .int 0, .ref rf, .ref rl, .ref rwx, .ref rb, .int 0, .ref rwd, .ref rk, .ref ra, .int 0, .int 32, .int 0, .ref rs, .ref rt, .int 0, .int 0, .ref rwr, .ref rp, .ref rsi, .ref rke, .ref rkc, .ref rik]))] := hD
    refine W.widen (k := 0) (n := 0) (Nat.le_of_ble_eq_true rfl) (Nat.le_of_ble_eq_true rfl) ?_
    have hw : r_8 = 0 := hw.trans (by decide)
    subst hw
    refine W.widen (k := 0) (n := 0) (Nat.le_of_ble_eq_true rfl) (Nat.le_of_ble_eq_true rfl) ?_
    exact yy_iret (v := 0) () hx hb hr hlk rfl hsz hAe hK hP hD hS [] rfl rfl (by decide) (by decide) dX11_bridge__91
  · refine lv_tableIn (off := 91) (tgt := 92) hx hb dX11_bridge__1 (by decide) (by decide) (by decide) (by decide) ?_
    refine lv_aload_n hx hb dX11_bridge__92 rfl (lv_at hl 0 rfl) ?_
    refine lv_aload_n hx hb dX11_bridge__93 rfl (lv_at hl 0 rfl) ?_
    refine va_get (D := (dC, dI)) (ci := 11) (v := .ref rz) (C := RX11) (T := TX11) (N := 24) hx hb hts hnX11 hown hK hP 0 rfl rfl 0 (by decide) hf7 (fun _ h9 => h9) rfl dX11_bridge__94 ?_
    refine lv_sipush (v := 207) hx hb dX11_bridge__97 (by decide) ?_
    refine yy_iald (v := 0) hx hb hK hP 1 0 rfl rfl (yin (by decide)) dX11_bridge__100 rfl ?_
    have hPc := hP.sub (ws' := [(h0, .inr (11, [.ref rz, .int 0, .int 0, .ref rf, .ref rl, .ref rwx, .ref rb, .int 0, .ref rwd, .ref rk, .ref ra, .int 0, .int 32, .int 0, .ref rs, .ref rt, .int 0, .int 0, .ref rwr, .ref rp, .ref rsi, .ref rke, .ref rkc, .ref rik]))]) [0] rfl
    have hDc := hD.sub (ws' := [(h0, .inr (11, [.ref rz, .int 0, .int 0, .ref rf, .ref rl, .ref rwx, .ref rb, .int 0, .ref rwd, .ref rk, .ref ra, .int 0, .int 32, .int 0, .ref rs, .ref rt, .int 0, .int 0, .ref rwr, .ref rp, .ref rsi, .ref rke, .ref rkc, .ref rik]))]) [0] (by decide) rfl
    refine yy_calli [0] [1] (wr := [(rz, .inl (cyI, 2490, .inl (yz 0 0)))]) (va_runV (As := [.int 0]) (rest := []) ⟨hx, hb, hml, hown, hts⟩ (r_done l dC dI cyI cyZ cyO s.heap.size h0 rz 0 0 rf rl rwx rb 0 rwd rk ra 0 32 0 rs rt 0 0 rwr rp rsi rke rkc rik 0 ) (cwV 1 hts gX11_bridge__X11_done rfl rfl rfl (by decide +kernel) ⟨Nat.le_of_ble_eq_true rfl, Nat.le_of_ble_eq_true rfl⟩) (yPreV hK hPc hDc (ci := 11) (q0 := 0) rfl rfl) rfl rfl hl.1 rfl (lv_room (Nat.le_of_ble_eq_true rfl)) dX11_bridge__101 ⟨Nat.le_of_ble_eq_true rfl, Nat.le_of_ble_eq_true rfl⟩) hP hD hS hA rfl rfl (by decide) (by decide) (fun r_10 u_9 H locs hw hP hD hS => ?_)
    have hP : va_P (dC, dI) vwCl [(rz, .inl (cyI, 2490, .inl (yz 0 0))), (h0, .inr (11, [.ref rz, .int 0, .int 0, .ref rf, .ref rl, .ref rwx, .ref rb, .int 0, .ref rwd, .ref rk, .ref ra, .int 0, .int 32, .int 0, .ref rs, .ref rt, .int 0, .int 0, .ref rwr, .ref rp, .ref rsi, .ref rke, .ref rkc, .ref rik]))] H := hP
    have hD : va_D A [(rz, .inl (cyI, 2490, .inl (yz 0 0))), (h0, .inr (11, [.ref rz, .int 0, .int 0, .ref rf, .ref rl, .ref rwx, .ref rb, .int 0, .ref rwd, .ref rk, .ref ra, .int 0, .int 32, .int 0, .ref rs, .ref rt, .int 0, .int 0, .ref rwr, .ref rp, .ref rsi, .ref rke, .ref rkc, .ref rik]))] := hD
    refine W.widen (k := 0) (n := 0) (Nat.le_of_ble_eq_true rfl) (Nat.le_of_ble_eq_true rfl) ?_
    have hw : r_10 = 0 := hw.trans (by decide)
    subst hw
    refine W.widen (k := 0) (n := 0) (Nat.le_of_ble_eq_true rfl) (Nat.le_of_ble_eq_true rfl) ?_
    exact yy_iret (v := 0) () hx hb hr hlk rfl hsz hAe hK hP hD hS [] rfl rfl (by decide) (by decide) dX11_bridge__104
  · refine lv_tableIn (off := 104) (tgt := 105) hx hb dX11_bridge__1 (by decide) (by decide) (by decide) (by decide) ?_
    refine lv_aload_n hx hb dX11_bridge__105 rfl (lv_at hl 0 rfl) ?_
    refine lv_aload_n hx hb dX11_bridge__106 rfl (lv_at hl 0 rfl) ?_
    refine va_get (D := (dC, dI)) (ci := 11) (v := .ref rz) (C := RX11) (T := TX11) (N := 24) hx hb hts hnX11 hown hK hP 0 rfl rfl 0 (by decide) hf7 (fun _ h9 => h9) rfl dX11_bridge__107 ?_
    refine lv_sipush (v := 208) hx hb dX11_bridge__110 (by decide) ?_
    refine yy_iald (v := 0) hx hb hK hP 1 0 rfl rfl (yin (by decide)) dX11_bridge__113 rfl ?_
    have hPc := hP.sub (ws' := [(h0, .inr (11, [.ref rz, .int 0, .int 0, .ref rf, .ref rl, .ref rwx, .ref rb, .int 0, .ref rwd, .ref rk, .ref ra, .int 0, .int 32, .int 0, .ref rs, .ref rt, .int 0, .int 0, .ref rwr, .ref rp, .ref rsi, .ref rke, .ref rkc, .ref rik]))]) [0] rfl
    have hDc := hD.sub (ws' := [(h0, .inr (11, [.ref rz, .int 0, .int 0, .ref rf, .ref rl, .ref rwx, .ref rb, .int 0, .ref rwd, .ref rk, .ref ra, .int 0, .int 32, .int 0, .ref rs, .ref rt, .int 0, .int 0, .ref rwr, .ref rp, .ref rsi, .ref rke, .ref rkc, .ref rik]))]) [0] (by decide) rfl
    refine yy_calli [0] [1] (wr := [(rz, .inl (cyI, 2490, .inl (yz 0 0)))]) (va_runV (As := [.int 0]) (rest := []) ⟨hx, hb, hml, hown, hts⟩ (r_done l dC dI cyI cyZ cyO s.heap.size h0 rz 0 0 rf rl rwx rb 0 rwd rk ra 0 32 0 rs rt 0 0 rwr rp rsi rke rkc rik 0 ) (cwV 1 hts gX11_bridge__X11_done rfl rfl rfl (by decide +kernel) ⟨Nat.le_of_ble_eq_true rfl, Nat.le_of_ble_eq_true rfl⟩) (yPreV hK hPc hDc (ci := 11) (q0 := 0) rfl rfl) rfl rfl hl.1 rfl (lv_room (Nat.le_of_ble_eq_true rfl)) dX11_bridge__114 ⟨Nat.le_of_ble_eq_true rfl, Nat.le_of_ble_eq_true rfl⟩) hP hD hS hA rfl rfl (by decide) (by decide) (fun r_12 u_11 H locs hw hP hD hS => ?_)
    have hP : va_P (dC, dI) vwCl [(rz, .inl (cyI, 2490, .inl (yz 0 0))), (h0, .inr (11, [.ref rz, .int 0, .int 0, .ref rf, .ref rl, .ref rwx, .ref rb, .int 0, .ref rwd, .ref rk, .ref ra, .int 0, .int 32, .int 0, .ref rs, .ref rt, .int 0, .int 0, .ref rwr, .ref rp, .ref rsi, .ref rke, .ref rkc, .ref rik]))] H := hP
    have hD : va_D A [(rz, .inl (cyI, 2490, .inl (yz 0 0))), (h0, .inr (11, [.ref rz, .int 0, .int 0, .ref rf, .ref rl, .ref rwx, .ref rb, .int 0, .ref rwd, .ref rk, .ref ra, .int 0, .int 32, .int 0, .ref rs, .ref rt, .int 0, .int 0, .ref rwr, .ref rp, .ref rsi, .ref rke, .ref rkc, .ref rik]))] := hD
    refine W.widen (k := 0) (n := 0) (Nat.le_of_ble_eq_true rfl) (Nat.le_of_ble_eq_true rfl) ?_
    have hw : r_12 = 0 := hw.trans (by decide)
    subst hw
    refine W.widen (k := 0) (n := 0) (Nat.le_of_ble_eq_true rfl) (Nat.le_of_ble_eq_true rfl) ?_
    exact yy_iret (v := 0) () hx hb hr hlk rfl hsz hAe hK hP hD hS [] rfl rfl (by decide) (by decide) dX11_bridge__117
  · refine lv_tableOut (tgt := 118) hx hb dX11_bridge__1 c1.1 (by decide) ?_
    refine lv_aload_n hx hb dX11_bridge__118 rfl (lv_at hl 0 rfl) ?_
    refine lv_bipush (v := (-2)) hx hb dX11_bridge__119 (by decide) ?_
    have hPc := hP.sub (ws' := [(h0, .inr (11, [.ref rz, .int 0, .int 0, .ref rf, .ref rl, .ref rwx, .ref rb, .int 0, .ref rwd, .ref rk, .ref ra, .int 0, .int 32, .int 0, .ref rs, .ref rt, .int 0, .int 0, .ref rwr, .ref rp, .ref rsi, .ref rke, .ref rkc, .ref rik]))]) [0] rfl
    have hDc := hD.sub (ws' := [(h0, .inr (11, [.ref rz, .int 0, .int 0, .ref rf, .ref rl, .ref rwx, .ref rb, .int 0, .ref rwd, .ref rk, .ref ra, .int 0, .int 32, .int 0, .ref rs, .ref rt, .int 0, .int 0, .ref rwr, .ref rp, .ref rsi, .ref rke, .ref rkc, .ref rik]))]) [0] (by decide) rfl
    refine yy_calli [0] [1] (wr := [(rz, .inl (cyI, 2490, .inl (yz 0 0)))]) (va_runV (As := [.int (-2)]) (rest := []) ⟨hx, hb, hml, hown, hts⟩ (r_refused l dC dI cyI cyZ cyO s.heap.size h0 rz 0 0 rf rl rwx rb 0 rwd rk ra 0 32 0 rs rt 0 0 rwr rp rsi rke rkc rik (-2) ) (cwV 1 hts gX11_bridge__X11_refused rfl rfl rfl (by decide +kernel) ⟨Nat.le_of_ble_eq_true rfl, Nat.le_of_ble_eq_true rfl⟩) (yPreV hK hPc hDc (ci := 11) (q0 := 0) rfl rfl) rfl rfl hl.1 rfl (lv_room (Nat.le_of_ble_eq_true rfl)) dX11_bridge__121 ⟨Nat.le_of_ble_eq_true rfl, Nat.le_of_ble_eq_true rfl⟩) hP hD hS hA rfl rfl (by decide) (by decide) (fun r_14 u_13 H locs hw hP hD hS => ?_)
    have hP : va_P (dC, dI) vwCl [(rz, .inl (cyI, 2490, .inl (yz 0 0))), (h0, .inr (11, [.ref rz, .int (-2), .int 0, .ref rf, .ref rl, .ref rwx, .ref rb, .int 0, .ref rwd, .ref rk, .ref ra, .int 0, .int 32, .int 0, .ref rs, .ref rt, .int 0, .int 0, .ref rwr, .ref rp, .ref rsi, .ref rke, .ref rkc, .ref rik]))] H := hP
    have hD : va_D A [(rz, .inl (cyI, 2490, .inl (yz 0 0))), (h0, .inr (11, [.ref rz, .int (-2), .int 0, .ref rf, .ref rl, .ref rwx, .ref rb, .int 0, .ref rwd, .ref rk, .ref ra, .int 0, .int 32, .int 0, .ref rs, .ref rt, .int 0, .int 0, .ref rwr, .ref rp, .ref rsi, .ref rke, .ref rkc, .ref rik]))] := hD
    refine W.widen (k := 0) (n := 0) (Nat.le_of_ble_eq_true rfl) (Nat.le_of_ble_eq_true rfl) ?_
    have hw : r_14 = (-2) := hw.trans (by decide)
    subst hw
    refine W.widen (k := 0) (n := 0) (Nat.le_of_ble_eq_true rfl) (Nat.le_of_ble_eq_true rfl) ?_
    exact yy_iret (v := (-2)) () hx hb hr hlk rfl hsz hAe hK hP hD hS [] rfl rfl (by decide) ((if_neg c1.2).symm) dX11_bridge__124
set_option maxHeartbeats 4000000 in
set_option maxRecDepth 100000 in
theorem rp_X11_howMany_154 (l : Launch) (dC : Nat → ClassId) (dI : Nat → Nat → Nat) (cyI cyZ cyO : ClassId) (sz : Nat) (a0 : Nat) (a1 : Nat) (a2 : Nat) (a3 : Nat) (a4 : Nat) (a5 : Nat) (a6 : Nat) (a7 : Nat) (a8 : Nat) (a9 : Nat) (a10 : Nat) (a11 : Nat) (a12 : Nat) (a13 : Nat) (a14 : Nat) (a15 : Nat) (a16 : Nat)  : Met l yX11_howMany wsX11_howMany ({ frames := 0, cells := 0, slots := 0, locals := 0 }) (yPre [.ref a0, .int 3, .int 4] (dC, dI) [(a0, .inr (11, [.ref a1, .int 0, .int 0, .ref a2, .ref a3, .ref a4, .ref a5, .int 0, .ref a6, .ref a7, .ref a8, .int 0, .int 32, .int 0, .ref a9, .ref a10, .int 0, .int 0, .ref a11, .ref a12, .ref a13, .ref a14, .ref a15, .ref a16])), (a1, .inl (cyI, 2490, .inl (yz 0 0)))] (yT cyI cyZ cyO) sz) (yQi (fun (r : Int32) (u : Unit) => r = 0) (dC, dI) [(a0, .inr (11, [.ref a1, .int 0, .int 0, .ref a2, .ref a3, .ref a4, .ref a5, .int 0, .ref a6, .ref a7, .ref a8, .int 0, .int 32, .int 0, .ref a9, .ref a10, .int 0, .int 0, .ref a11, .ref a12, .ref a13, .ref a14, .ref a15, .ref a16])), (a1, .inl (cyI, 2490, .inl (yz 0 0)))] (yT cyI cyZ cyO) sz (fun _ => [(a0, .inr (11, [.ref a1, .int 0, .int 0, .ref a2, .ref a3, .ref a4, .ref a5, .int 0, .ref a6, .ref a7, .ref a8, .int 0, .int 32, .int 0, .ref a9, .ref a10, .int 0, .int 0, .ref a11, .ref a12, .ref a13, .ref a14, .ref a15, .ref a16])), (a1, .inl (cyI, 2490, .inl (yz 0 0)))])) 0 0 (va_A [(a0, .inr (11, [.ref a1, .int 0, .int 0, .ref a2, .ref a3, .ref a4, .ref a5, .int 0, .ref a6, .ref a7, .ref a8, .int 0, .int 32, .int 0, .ref a9, .ref a10, .int 0, .int 0, .ref a11, .ref a12, .ref a13, .ref a14, .ref a15, .ref a16])), (a1, .inl (cyI, 2490, .inl (yz 0 0)))] sz) := by
  refine yMet (cc := cX11_howMany) (maxL := 5) (ret := (some .int)) (by decide) rfl (Nat.le_of_ble_eq_true rfl) ?_
  intro p e s m below meth c A hx hb hr hlk hml hts hown hnm hsz hAe hP hK hD hA hS ls hl
  have hl : lv_has ls 5 [(0, .ref a0), (1, .int 3), (2, .int 4)] := hl
  have hf7 := hts (.fieldLink RX11 7 "BusBridgeModel" "z" "[I") (by decide +kernel)
  have hnX11 : ∀ w ∈ wsX110, w ∈ wsX11_howMany := by decide +kernel
  refine lv_iconst (v := 0) hx hb dX11_howMany_0 (by decide) ?_
  refine lv_istore_n (lv' := [(3, .int 0), (0, .ref a0), (1, .int 3), (2, .int 4)]) hx hb dX11_howMany_1 rfl hl (by decide) rfl (fun ls hl => ?_)
  refine lv_iconst (v := 0) hx hb dX11_howMany_2 (by decide) ?_
  refine lv_istore (lv' := [(4, .int 0), (3, .int 0), (0, .ref a0), (1, .int 3), (2, .int 4)]) hx hb dX11_howMany_3 hl (by decide) rfl (fun ls hl => ?_)
  refine lv_iload hx hb dX11_howMany_5 (lv_at hl 0 rfl) ?_
  refine lv_aload_n hx hb dX11_howMany_7 rfl (lv_at hl 2 rfl) ?_
  refine va_get (D := (dC, dI)) (ci := 11) (v := .ref a1) (C := RX11) (T := TX11) (N := 24) hx hb hts hnX11 hown hK hP 0 rfl rfl 0 (by decide) hf7 (fun _ h9 => h9) rfl dX11_howMany_8 ?_
  refine lv_sipush (v := 212) hx hb dX11_howMany_11 (by decide) ?_
  refine yy_iald (v := 0) hx hb hK hP 1 0 rfl rfl (yin (by decide)) dX11_howMany_14 rfl ?_
  refine lv_icmp_ge (tgt := 55) hx hb dX11_howMany_15 (by decide) (fun _ => ?_) (fun c => absurd (by decide) c)
  refine lv_iload_n hx hb dX11_howMany_55 rfl (lv_at hl 1 rfl) ?_
  refine W.widen (k := 0) (n := 0) (Nat.le_of_ble_eq_true rfl) (Nat.le_of_ble_eq_true rfl) ?_
  exact yy_iret (v := 0) () hx hb hr hlk rfl hsz hAe hK hP hD hS [0, 1] rfl rfl (by decide) (rfl) dX11_howMany_56
set_option maxHeartbeats 4000000 in
set_option maxRecDepth 100000 in
theorem rp_X11_howMany_155 (l : Launch) (dC : Nat → ClassId) (dI : Nat → Nat → Nat) (cyI cyZ cyO : ClassId) (sz : Nat) (a0 : Nat) (a1 : Nat) (a2 : Nat) (a3 : Nat) (a4 : Nat) (a5 : Nat) (a6 : Nat) (a7 : Nat) (a8 : Nat) (a9 : Nat) (a10 : Nat) (a11 : Nat) (a12 : Nat) (a13 : Nat) (a14 : Nat) (a15 : Nat) (a16 : Nat)  : Met l yX11_howMany wsX11_howMany ({ frames := 0, cells := 0, slots := 0, locals := 0 }) (yPre [.ref a0, .int 5, .int 5] (dC, dI) [(a0, .inr (11, [.ref a1, .int 0, .int 0, .ref a2, .ref a3, .ref a4, .ref a5, .int 0, .ref a6, .ref a7, .ref a8, .int 0, .int 32, .int 0, .ref a9, .ref a10, .int 0, .int 0, .ref a11, .ref a12, .ref a13, .ref a14, .ref a15, .ref a16])), (a1, .inl (cyI, 2490, .inl (yz 0 0)))] (yT cyI cyZ cyO) sz) (yQi (fun (r : Int32) (u : Unit) => r = 0) (dC, dI) [(a0, .inr (11, [.ref a1, .int 0, .int 0, .ref a2, .ref a3, .ref a4, .ref a5, .int 0, .ref a6, .ref a7, .ref a8, .int 0, .int 32, .int 0, .ref a9, .ref a10, .int 0, .int 0, .ref a11, .ref a12, .ref a13, .ref a14, .ref a15, .ref a16])), (a1, .inl (cyI, 2490, .inl (yz 0 0)))] (yT cyI cyZ cyO) sz (fun _ => [(a0, .inr (11, [.ref a1, .int 0, .int 0, .ref a2, .ref a3, .ref a4, .ref a5, .int 0, .ref a6, .ref a7, .ref a8, .int 0, .int 32, .int 0, .ref a9, .ref a10, .int 0, .int 0, .ref a11, .ref a12, .ref a13, .ref a14, .ref a15, .ref a16])), (a1, .inl (cyI, 2490, .inl (yz 0 0)))])) 0 0 (va_A [(a0, .inr (11, [.ref a1, .int 0, .int 0, .ref a2, .ref a3, .ref a4, .ref a5, .int 0, .ref a6, .ref a7, .ref a8, .int 0, .int 32, .int 0, .ref a9, .ref a10, .int 0, .int 0, .ref a11, .ref a12, .ref a13, .ref a14, .ref a15, .ref a16])), (a1, .inl (cyI, 2490, .inl (yz 0 0)))] sz) := by
  refine yMet (cc := cX11_howMany) (maxL := 5) (ret := (some .int)) (by decide) rfl (Nat.le_of_ble_eq_true rfl) ?_
  intro p e s m below meth c A hx hb hr hlk hml hts hown hnm hsz hAe hP hK hD hA hS ls hl
  have hl : lv_has ls 5 [(0, .ref a0), (1, .int 5), (2, .int 5)] := hl
  have hf7 := hts (.fieldLink RX11 7 "BusBridgeModel" "z" "[I") (by decide +kernel)
  have hnX11 : ∀ w ∈ wsX110, w ∈ wsX11_howMany := by decide +kernel
  refine lv_iconst (v := 0) hx hb dX11_howMany_0 (by decide) ?_
  refine lv_istore_n (lv' := [(3, .int 0), (0, .ref a0), (1, .int 5), (2, .int 5)]) hx hb dX11_howMany_1 rfl hl (by decide) rfl (fun ls hl => ?_)
  refine lv_iconst (v := 0) hx hb dX11_howMany_2 (by decide) ?_
  refine lv_istore (lv' := [(4, .int 0), (3, .int 0), (0, .ref a0), (1, .int 5), (2, .int 5)]) hx hb dX11_howMany_3 hl (by decide) rfl (fun ls hl => ?_)
  refine lv_iload hx hb dX11_howMany_5 (lv_at hl 0 rfl) ?_
  refine lv_aload_n hx hb dX11_howMany_7 rfl (lv_at hl 2 rfl) ?_
  refine va_get (D := (dC, dI)) (ci := 11) (v := .ref a1) (C := RX11) (T := TX11) (N := 24) hx hb hts hnX11 hown hK hP 0 rfl rfl 0 (by decide) hf7 (fun _ h9 => h9) rfl dX11_howMany_8 ?_
  refine lv_sipush (v := 212) hx hb dX11_howMany_11 (by decide) ?_
  refine yy_iald (v := 0) hx hb hK hP 1 0 rfl rfl (yin (by decide)) dX11_howMany_14 rfl ?_
  refine lv_icmp_ge (tgt := 55) hx hb dX11_howMany_15 (by decide) (fun _ => ?_) (fun c => absurd (by decide) c)
  refine lv_iload_n hx hb dX11_howMany_55 rfl (lv_at hl 1 rfl) ?_
  refine W.widen (k := 0) (n := 0) (Nat.le_of_ble_eq_true rfl) (Nat.le_of_ble_eq_true rfl) ?_
  exact yy_iret (v := 0) () hx hb hr hlk rfl hsz hAe hK hP hD hS [0, 1] rfl rfl (by decide) (rfl) dX11_howMany_56
set_option maxHeartbeats 4000000 in
set_option maxRecDepth 100000 in
theorem r_told (l : Launch) (dC : Nat → ClassId) (dI : Nat → Nat → Nat) (cyI cyZ cyO : ClassId) (sz : Nat) (h0 : Nat) (rz : Nat) (rf : Nat) (rl : Nat) (rwx : Nat) (rb : Nat) (rwd : Nat) (rk : Nat) (ra : Nat) (rs : Nat) (rt : Nat) (rwr : Nat) (rp : Nat) (rsi : Nat) (rke : Nat) (rkc : Nat) (rik : Nat) (w : Int32)  : Met l yX11_told wsX11_told ({ frames := 1, cells := 0, slots := 0, locals := 24 }) (yPre [.ref h0, .int w] (dC, dI) [(h0, .inr (11, [.ref rz, .int 0, .int 0, .ref rf, .ref rl, .ref rwx, .ref rb, .int 0, .ref rwd, .ref rk, .ref ra, .int 0, .int 32, .int 0, .ref rs, .ref rt, .int 0, .int 0, .ref rwr, .ref rp, .ref rsi, .ref rke, .ref rkc, .ref rik])), (rz, .inl (cyI, 2490, .inl (yz 0 0)))] (yT cyI cyZ cyO) sz) (yQi (fun (r : Int32) (u : Unit) => r = (sp_told w)) (dC, dI) [(h0, .inr (11, [.ref rz, .int 0, .int 0, .ref rf, .ref rl, .ref rwx, .ref rb, .int 0, .ref rwd, .ref rk, .ref ra, .int 0, .int 32, .int 0, .ref rs, .ref rt, .int 0, .int 0, .ref rwr, .ref rp, .ref rsi, .ref rke, .ref rkc, .ref rik])), (rz, .inl (cyI, 2490, .inl (yz 0 0)))] (yT cyI cyZ cyO) sz (fun _ => [])) 0 0 (va_A [(h0, .inr (11, [.ref rz, .int 0, .int 0, .ref rf, .ref rl, .ref rwx, .ref rb, .int 0, .ref rwd, .ref rk, .ref ra, .int 0, .int 32, .int 0, .ref rs, .ref rt, .int 0, .int 0, .ref rwr, .ref rp, .ref rsi, .ref rke, .ref rkc, .ref rik])), (rz, .inl (cyI, 2490, .inl (yz 0 0)))] sz) := by
  refine yMet (cc := cX11_told) (maxL := 2) (ret := (some .int)) (by decide) rfl (Nat.le_of_ble_eq_true rfl) ?_
  intro p e s m below meth c A hx hb hr hlk hml hts hown hnm hsz hAe hP hK hD hA hS ls hl
  have hl : lv_has ls 2 [(0, .ref h0), (1, .int w)] := hl
  have hf69 := hts (.fieldLink RX11 69 "BusBridgeModel" "registers" "I") (by decide +kernel)
  have hf7 := hts (.fieldLink RX11 7 "BusBridgeModel" "z" "[I") (by decide +kernel)
  have hf88 := hts (.fieldLink RX11 88 "BusBridgeModel" "slaves" "I") (by decide +kernel)
  have hnX11 : ∀ w ∈ wsX110, w ∈ wsX11_told := by decide +kernel
  refine lv_iload_n hx hb dX11_told_0 rfl (lv_at hl 1 rfl) ?_
  rcases ysw7 w with rfl | rfl | rfl | rfl | rfl | rfl | rfl | rfl | c1
  · refine lv_tableIn (off := 47) (tgt := 48) hx hb dX11_told_1 (by decide) (by decide) (by decide) (by decide) ?_
    refine lv_aload_n hx hb dX11_told_48 rfl (lv_at hl 0 rfl) ?_
    refine lv_aload_n hx hb dX11_told_49 rfl (lv_at hl 0 rfl) ?_
    refine va_get (D := (dC, dI)) (ci := 11) (v := .int 0) (C := RX11) (T := TX11) (N := 24) hx hb hts hnX11 hown hK hP 0 rfl rfl 2 (by decide) hf88 (fun _ h9 => h9) rfl dX11_told_50 ?_
    have hPc := hP.sub (ws' := [(h0, .inr (11, [.ref rz, .int 0, .int 0, .ref rf, .ref rl, .ref rwx, .ref rb, .int 0, .ref rwd, .ref rk, .ref ra, .int 0, .int 32, .int 0, .ref rs, .ref rt, .int 0, .int 0, .ref rwr, .ref rp, .ref rsi, .ref rke, .ref rkc, .ref rik]))]) [0] rfl
    have hDc := hD.sub (ws' := [(h0, .inr (11, [.ref rz, .int 0, .int 0, .ref rf, .ref rl, .ref rwx, .ref rb, .int 0, .ref rwd, .ref rk, .ref ra, .int 0, .int 32, .int 0, .ref rs, .ref rt, .int 0, .int 0, .ref rwr, .ref rp, .ref rsi, .ref rke, .ref rkc, .ref rik]))]) [0] (by decide) rfl
    refine yy_calli [0] [1] (wr := [(rz, .inl (cyI, 2490, .inl (yz 0 0)))]) (va_runV (As := [.int 0]) (rest := []) ⟨hx, hb, hml, hown, hts⟩ (r_done l dC dI cyI cyZ cyO s.heap.size h0 rz 0 0 rf rl rwx rb 0 rwd rk ra 0 32 0 rs rt 0 0 rwr rp rsi rke rkc rik 0 ) (cwV 1 hts gX11_told_X11_done rfl rfl rfl (by decide +kernel) ⟨Nat.le_of_ble_eq_true rfl, Nat.le_of_ble_eq_true rfl⟩) (yPreV hK hPc hDc (ci := 11) (q0 := 0) rfl rfl) rfl rfl hl.1 rfl (lv_room (Nat.le_of_ble_eq_true rfl)) dX11_told_53 ⟨Nat.le_of_ble_eq_true rfl, Nat.le_of_ble_eq_true rfl⟩) hP hD hS hA rfl rfl (by decide) (by decide) (fun r_2 u_1 H locs hw hP hD hS => ?_)
    have hP : va_P (dC, dI) vwCl [(rz, .inl (cyI, 2490, .inl (yz 0 0))), (h0, .inr (11, [.ref rz, .int 0, .int 0, .ref rf, .ref rl, .ref rwx, .ref rb, .int 0, .ref rwd, .ref rk, .ref ra, .int 0, .int 32, .int 0, .ref rs, .ref rt, .int 0, .int 0, .ref rwr, .ref rp, .ref rsi, .ref rke, .ref rkc, .ref rik]))] H := hP
    have hD : va_D A [(rz, .inl (cyI, 2490, .inl (yz 0 0))), (h0, .inr (11, [.ref rz, .int 0, .int 0, .ref rf, .ref rl, .ref rwx, .ref rb, .int 0, .ref rwd, .ref rk, .ref ra, .int 0, .int 32, .int 0, .ref rs, .ref rt, .int 0, .int 0, .ref rwr, .ref rp, .ref rsi, .ref rke, .ref rkc, .ref rik]))] := hD
    refine W.widen (k := 0) (n := 0) (Nat.le_of_ble_eq_true rfl) (Nat.le_of_ble_eq_true rfl) ?_
    have hw : r_2 = 0 := hw.trans (by decide)
    subst hw
    refine W.widen (k := 0) (n := 0) (Nat.le_of_ble_eq_true rfl) (Nat.le_of_ble_eq_true rfl) ?_
    exact yy_iret (v := 0) () hx hb hr hlk rfl hsz hAe hK hP hD hS [] rfl rfl (by decide) (by decide) dX11_told_56
  · refine lv_tableIn (off := 56) (tgt := 57) hx hb dX11_told_1 (by decide) (by decide) (by decide) (by decide) ?_
    refine lv_aload_n hx hb dX11_told_57 rfl (lv_at hl 0 rfl) ?_
    refine lv_aload_n hx hb dX11_told_58 rfl (lv_at hl 0 rfl) ?_
    refine va_get (D := (dC, dI)) (ci := 11) (v := .int 0) (C := RX11) (T := TX11) (N := 24) hx hb hts hnX11 hown hK hP 0 rfl rfl 7 (by decide) hf69 (fun _ h9 => h9) rfl dX11_told_59 ?_
    have hPc := hP.sub (ws' := [(h0, .inr (11, [.ref rz, .int 0, .int 0, .ref rf, .ref rl, .ref rwx, .ref rb, .int 0, .ref rwd, .ref rk, .ref ra, .int 0, .int 32, .int 0, .ref rs, .ref rt, .int 0, .int 0, .ref rwr, .ref rp, .ref rsi, .ref rke, .ref rkc, .ref rik]))]) [0] rfl
    have hDc := hD.sub (ws' := [(h0, .inr (11, [.ref rz, .int 0, .int 0, .ref rf, .ref rl, .ref rwx, .ref rb, .int 0, .ref rwd, .ref rk, .ref ra, .int 0, .int 32, .int 0, .ref rs, .ref rt, .int 0, .int 0, .ref rwr, .ref rp, .ref rsi, .ref rke, .ref rkc, .ref rik]))]) [0] (by decide) rfl
    refine yy_calli [0] [1] (wr := [(rz, .inl (cyI, 2490, .inl (yz 0 0)))]) (va_runV (As := [.int 0]) (rest := []) ⟨hx, hb, hml, hown, hts⟩ (r_done l dC dI cyI cyZ cyO s.heap.size h0 rz 0 0 rf rl rwx rb 0 rwd rk ra 0 32 0 rs rt 0 0 rwr rp rsi rke rkc rik 0 ) (cwV 1 hts gX11_told_X11_done rfl rfl rfl (by decide +kernel) ⟨Nat.le_of_ble_eq_true rfl, Nat.le_of_ble_eq_true rfl⟩) (yPreV hK hPc hDc (ci := 11) (q0 := 0) rfl rfl) rfl rfl hl.1 rfl (lv_room (Nat.le_of_ble_eq_true rfl)) dX11_told_62 ⟨Nat.le_of_ble_eq_true rfl, Nat.le_of_ble_eq_true rfl⟩) hP hD hS hA rfl rfl (by decide) (by decide) (fun r_4 u_3 H locs hw hP hD hS => ?_)
    have hP : va_P (dC, dI) vwCl [(rz, .inl (cyI, 2490, .inl (yz 0 0))), (h0, .inr (11, [.ref rz, .int 0, .int 0, .ref rf, .ref rl, .ref rwx, .ref rb, .int 0, .ref rwd, .ref rk, .ref ra, .int 0, .int 32, .int 0, .ref rs, .ref rt, .int 0, .int 0, .ref rwr, .ref rp, .ref rsi, .ref rke, .ref rkc, .ref rik]))] H := hP
    have hD : va_D A [(rz, .inl (cyI, 2490, .inl (yz 0 0))), (h0, .inr (11, [.ref rz, .int 0, .int 0, .ref rf, .ref rl, .ref rwx, .ref rb, .int 0, .ref rwd, .ref rk, .ref ra, .int 0, .int 32, .int 0, .ref rs, .ref rt, .int 0, .int 0, .ref rwr, .ref rp, .ref rsi, .ref rke, .ref rkc, .ref rik]))] := hD
    refine W.widen (k := 0) (n := 0) (Nat.le_of_ble_eq_true rfl) (Nat.le_of_ble_eq_true rfl) ?_
    have hw : r_4 = 0 := hw.trans (by decide)
    subst hw
    refine W.widen (k := 0) (n := 0) (Nat.le_of_ble_eq_true rfl) (Nat.le_of_ble_eq_true rfl) ?_
    exact yy_iret (v := 0) () hx hb hr hlk rfl hsz hAe hK hP hD hS [] rfl rfl (by decide) (by decide) dX11_told_65
  · refine lv_tableIn (off := 65) (tgt := 66) hx hb dX11_told_1 (by decide) (by decide) (by decide) (by decide) ?_
    refine lv_aload_n hx hb dX11_told_66 rfl (lv_at hl 0 rfl) ?_
    refine lv_aload_n hx hb dX11_told_67 rfl (lv_at hl 0 rfl) ?_
    refine va_get (D := (dC, dI)) (ci := 11) (v := .ref rz) (C := RX11) (T := TX11) (N := 24) hx hb hts hnX11 hown hK hP 0 rfl rfl 0 (by decide) hf7 (fun _ h9 => h9) rfl dX11_told_68 ?_
    refine lv_sipush (v := 212) hx hb dX11_told_71 (by decide) ?_
    refine yy_iald (v := 0) hx hb hK hP 1 0 rfl rfl (yin (by decide)) dX11_told_74 rfl ?_
    have hPc := hP.sub (ws' := [(h0, .inr (11, [.ref rz, .int 0, .int 0, .ref rf, .ref rl, .ref rwx, .ref rb, .int 0, .ref rwd, .ref rk, .ref ra, .int 0, .int 32, .int 0, .ref rs, .ref rt, .int 0, .int 0, .ref rwr, .ref rp, .ref rsi, .ref rke, .ref rkc, .ref rik]))]) [0] rfl
    have hDc := hD.sub (ws' := [(h0, .inr (11, [.ref rz, .int 0, .int 0, .ref rf, .ref rl, .ref rwx, .ref rb, .int 0, .ref rwd, .ref rk, .ref ra, .int 0, .int 32, .int 0, .ref rs, .ref rt, .int 0, .int 0, .ref rwr, .ref rp, .ref rsi, .ref rke, .ref rkc, .ref rik]))]) [0] (by decide) rfl
    refine yy_calli [0] [1] (wr := [(rz, .inl (cyI, 2490, .inl (yz 0 0)))]) (va_runV (As := [.int 0]) (rest := []) ⟨hx, hb, hml, hown, hts⟩ (r_done l dC dI cyI cyZ cyO s.heap.size h0 rz 0 0 rf rl rwx rb 0 rwd rk ra 0 32 0 rs rt 0 0 rwr rp rsi rke rkc rik 0 ) (cwV 1 hts gX11_told_X11_done rfl rfl rfl (by decide +kernel) ⟨Nat.le_of_ble_eq_true rfl, Nat.le_of_ble_eq_true rfl⟩) (yPreV hK hPc hDc (ci := 11) (q0 := 0) rfl rfl) rfl rfl hl.1 rfl (lv_room (Nat.le_of_ble_eq_true rfl)) dX11_told_75 ⟨Nat.le_of_ble_eq_true rfl, Nat.le_of_ble_eq_true rfl⟩) hP hD hS hA rfl rfl (by decide) (by decide) (fun r_6 u_5 H locs hw hP hD hS => ?_)
    have hP : va_P (dC, dI) vwCl [(rz, .inl (cyI, 2490, .inl (yz 0 0))), (h0, .inr (11, [.ref rz, .int 0, .int 0, .ref rf, .ref rl, .ref rwx, .ref rb, .int 0, .ref rwd, .ref rk, .ref ra, .int 0, .int 32, .int 0, .ref rs, .ref rt, .int 0, .int 0, .ref rwr, .ref rp, .ref rsi, .ref rke, .ref rkc, .ref rik]))] H := hP
    have hD : va_D A [(rz, .inl (cyI, 2490, .inl (yz 0 0))), (h0, .inr (11, [.ref rz, .int 0, .int 0, .ref rf, .ref rl, .ref rwx, .ref rb, .int 0, .ref rwd, .ref rk, .ref ra, .int 0, .int 32, .int 0, .ref rs, .ref rt, .int 0, .int 0, .ref rwr, .ref rp, .ref rsi, .ref rke, .ref rkc, .ref rik]))] := hD
    refine W.widen (k := 0) (n := 0) (Nat.le_of_ble_eq_true rfl) (Nat.le_of_ble_eq_true rfl) ?_
    have hw : r_6 = 0 := hw.trans (by decide)
    subst hw
    refine W.widen (k := 0) (n := 0) (Nat.le_of_ble_eq_true rfl) (Nat.le_of_ble_eq_true rfl) ?_
    exact yy_iret (v := 0) () hx hb hr hlk rfl hsz hAe hK hP hD hS [] rfl rfl (by decide) (by decide) dX11_told_78
  · refine lv_tableIn (off := 78) (tgt := 79) hx hb dX11_told_1 (by decide) (by decide) (by decide) (by decide) ?_
    refine lv_aload_n hx hb dX11_told_79 rfl (lv_at hl 0 rfl) ?_
    refine lv_aload_n hx hb dX11_told_80 rfl (lv_at hl 0 rfl) ?_
    refine lv_iconst (v := 3) hx hb dX11_told_81 (by decide) ?_
    refine lv_iconst (v := 4) hx hb dX11_told_82 (by decide) ?_
    have hPc := hP.sub (ws' := [(h0, .inr (11, [.ref rz, .int 0, .int 0, .ref rf, .ref rl, .ref rwx, .ref rb, .int 0, .ref rwd, .ref rk, .ref ra, .int 0, .int 32, .int 0, .ref rs, .ref rt, .int 0, .int 0, .ref rwr, .ref rp, .ref rsi, .ref rke, .ref rkc, .ref rik])), (rz, .inl (cyI, 2490, .inl (yz 0 0)))]) [0, 1] rfl
    have hDc := hD.sub (ws' := [(h0, .inr (11, [.ref rz, .int 0, .int 0, .ref rf, .ref rl, .ref rwx, .ref rb, .int 0, .ref rwd, .ref rk, .ref ra, .int 0, .int 32, .int 0, .ref rs, .ref rt, .int 0, .int 0, .ref rwr, .ref rp, .ref rsi, .ref rke, .ref rkc, .ref rik])), (rz, .inl (cyI, 2490, .inl (yz 0 0)))]) [0, 1] (by decide) rfl
    refine yy_calli [0, 1] [] (wr := []) (va_runV (As := [.int 3, .int 4]) (rest := [.ref h0]) ⟨hx, hb, hml, hown, hts⟩ (rp_X11_howMany_154 l dC dI cyI cyZ cyO s.heap.size h0 rz rf rl rwx rb rwd rk ra rs rt rwr rp rsi rke rkc rik ) (cwV 2 hts gX11_told_X11_howMany rfl rfl rfl (by decide +kernel) ⟨Nat.le_of_ble_eq_true rfl, Nat.le_of_ble_eq_true rfl⟩) (yPreV hK hPc hDc (ci := 11) (q0 := 0) rfl rfl) rfl rfl hl.1 rfl (lv_room (Nat.le_of_ble_eq_true rfl)) dX11_told_83 ⟨Nat.le_of_ble_eq_true rfl, Nat.le_of_ble_eq_true rfl⟩) hP hD hS hA rfl rfl (by decide) (by decide) (fun r_8 u_7 H locs hw hP hD hS => ?_)
    have hP : va_P (dC, dI) vwCl [(h0, .inr (11, [.ref rz, .int 0, .int 0, .ref rf, .ref rl, .ref rwx, .ref rb, .int 0, .ref rwd, .ref rk, .ref ra, .int 0, .int 32, .int 0, .ref rs, .ref rt, .int 0, .int 0, .ref rwr, .ref rp, .ref rsi, .ref rke, .ref rkc, .ref rik])), (rz, .inl (cyI, 2490, .inl (yz 0 0)))] H := hP
    have hD : va_D A [(h0, .inr (11, [.ref rz, .int 0, .int 0, .ref rf, .ref rl, .ref rwx, .ref rb, .int 0, .ref rwd, .ref rk, .ref ra, .int 0, .int 32, .int 0, .ref rs, .ref rt, .int 0, .int 0, .ref rwr, .ref rp, .ref rsi, .ref rke, .ref rkc, .ref rik])), (rz, .inl (cyI, 2490, .inl (yz 0 0)))] := hD
    refine W.widen (k := 0) (n := 0) (Nat.le_of_ble_eq_true rfl) (Nat.le_of_ble_eq_true rfl) ?_
    have hw : r_8 = 0 := hw
    subst hw
    have hPc := hP.sub (ws' := [(h0, .inr (11, [.ref rz, .int 0, .int 0, .ref rf, .ref rl, .ref rwx, .ref rb, .int 0, .ref rwd, .ref rk, .ref ra, .int 0, .int 32, .int 0, .ref rs, .ref rt, .int 0, .int 0, .ref rwr, .ref rp, .ref rsi, .ref rke, .ref rkc, .ref rik]))]) [0] rfl
    have hDc := hD.sub (ws' := [(h0, .inr (11, [.ref rz, .int 0, .int 0, .ref rf, .ref rl, .ref rwx, .ref rb, .int 0, .ref rwd, .ref rk, .ref ra, .int 0, .int 32, .int 0, .ref rs, .ref rt, .int 0, .int 0, .ref rwr, .ref rp, .ref rsi, .ref rke, .ref rkc, .ref rik]))]) [0] (by decide) rfl
    refine yy_calli [0] [1] (wr := [(rz, .inl (cyI, 2490, .inl (yz 0 0)))]) (va_runV (As := [.int 0]) (rest := []) ⟨hx, hb, hml, hown, hts⟩ (r_done l dC dI cyI cyZ cyO H.size h0 rz 0 0 rf rl rwx rb 0 rwd rk ra 0 32 0 rs rt 0 0 rwr rp rsi rke rkc rik 0 ) (cwV 1 hts gX11_told_X11_done rfl rfl rfl (by decide +kernel) ⟨Nat.le_of_ble_eq_true rfl, Nat.le_of_ble_eq_true rfl⟩) (yPreV hK hPc hDc (ci := 11) (q0 := 0) rfl rfl) rfl rfl hl.1 rfl (lv_room (Nat.le_of_ble_eq_true rfl)) dX11_told_86 ⟨Nat.le_of_ble_eq_true rfl, Nat.le_of_ble_eq_true rfl⟩) hP hD hS hA rfl rfl (by decide) (by decide) (fun r_10 u_9 H locs hw hP hD hS => ?_)
    have hP : va_P (dC, dI) vwCl [(rz, .inl (cyI, 2490, .inl (yz 0 0))), (h0, .inr (11, [.ref rz, .int 0, .int 0, .ref rf, .ref rl, .ref rwx, .ref rb, .int 0, .ref rwd, .ref rk, .ref ra, .int 0, .int 32, .int 0, .ref rs, .ref rt, .int 0, .int 0, .ref rwr, .ref rp, .ref rsi, .ref rke, .ref rkc, .ref rik]))] H := hP
    have hD : va_D A [(rz, .inl (cyI, 2490, .inl (yz 0 0))), (h0, .inr (11, [.ref rz, .int 0, .int 0, .ref rf, .ref rl, .ref rwx, .ref rb, .int 0, .ref rwd, .ref rk, .ref ra, .int 0, .int 32, .int 0, .ref rs, .ref rt, .int 0, .int 0, .ref rwr, .ref rp, .ref rsi, .ref rke, .ref rkc, .ref rik]))] := hD
    refine W.widen (k := 0) (n := 0) (Nat.le_of_ble_eq_true rfl) (Nat.le_of_ble_eq_true rfl) ?_
    have hw : r_10 = 0 := hw.trans (by decide)
    subst hw
    refine W.widen (k := 0) (n := 0) (Nat.le_of_ble_eq_true rfl) (Nat.le_of_ble_eq_true rfl) ?_
    exact yy_iret (v := 0) () hx hb hr hlk rfl hsz hAe hK hP hD hS [] rfl rfl (by decide) (by decide) dX11_told_89
  · refine lv_tableIn (off := 89) (tgt := 90) hx hb dX11_told_1 (by decide) (by decide) (by decide) (by decide) ?_
    refine lv_aload_n hx hb dX11_told_90 rfl (lv_at hl 0 rfl) ?_
    refine lv_aload_n hx hb dX11_told_91 rfl (lv_at hl 0 rfl) ?_
    refine lv_iconst (v := 5) hx hb dX11_told_92 (by decide) ?_
    refine lv_iconst (v := 5) hx hb dX11_told_93 (by decide) ?_
    have hPc := hP.sub (ws' := [(h0, .inr (11, [.ref rz, .int 0, .int 0, .ref rf, .ref rl, .ref rwx, .ref rb, .int 0, .ref rwd, .ref rk, .ref ra, .int 0, .int 32, .int 0, .ref rs, .ref rt, .int 0, .int 0, .ref rwr, .ref rp, .ref rsi, .ref rke, .ref rkc, .ref rik])), (rz, .inl (cyI, 2490, .inl (yz 0 0)))]) [0, 1] rfl
    have hDc := hD.sub (ws' := [(h0, .inr (11, [.ref rz, .int 0, .int 0, .ref rf, .ref rl, .ref rwx, .ref rb, .int 0, .ref rwd, .ref rk, .ref ra, .int 0, .int 32, .int 0, .ref rs, .ref rt, .int 0, .int 0, .ref rwr, .ref rp, .ref rsi, .ref rke, .ref rkc, .ref rik])), (rz, .inl (cyI, 2490, .inl (yz 0 0)))]) [0, 1] (by decide) rfl
    refine yy_calli [0, 1] [] (wr := []) (va_runV (As := [.int 5, .int 5]) (rest := [.ref h0]) ⟨hx, hb, hml, hown, hts⟩ (rp_X11_howMany_155 l dC dI cyI cyZ cyO s.heap.size h0 rz rf rl rwx rb rwd rk ra rs rt rwr rp rsi rke rkc rik ) (cwV 2 hts gX11_told_X11_howMany rfl rfl rfl (by decide +kernel) ⟨Nat.le_of_ble_eq_true rfl, Nat.le_of_ble_eq_true rfl⟩) (yPreV hK hPc hDc (ci := 11) (q0 := 0) rfl rfl) rfl rfl hl.1 rfl (lv_room (Nat.le_of_ble_eq_true rfl)) dX11_told_94 ⟨Nat.le_of_ble_eq_true rfl, Nat.le_of_ble_eq_true rfl⟩) hP hD hS hA rfl rfl (by decide) (by decide) (fun r_12 u_11 H locs hw hP hD hS => ?_)
    have hP : va_P (dC, dI) vwCl [(h0, .inr (11, [.ref rz, .int 0, .int 0, .ref rf, .ref rl, .ref rwx, .ref rb, .int 0, .ref rwd, .ref rk, .ref ra, .int 0, .int 32, .int 0, .ref rs, .ref rt, .int 0, .int 0, .ref rwr, .ref rp, .ref rsi, .ref rke, .ref rkc, .ref rik])), (rz, .inl (cyI, 2490, .inl (yz 0 0)))] H := hP
    have hD : va_D A [(h0, .inr (11, [.ref rz, .int 0, .int 0, .ref rf, .ref rl, .ref rwx, .ref rb, .int 0, .ref rwd, .ref rk, .ref ra, .int 0, .int 32, .int 0, .ref rs, .ref rt, .int 0, .int 0, .ref rwr, .ref rp, .ref rsi, .ref rke, .ref rkc, .ref rik])), (rz, .inl (cyI, 2490, .inl (yz 0 0)))] := hD
    refine W.widen (k := 0) (n := 0) (Nat.le_of_ble_eq_true rfl) (Nat.le_of_ble_eq_true rfl) ?_
    have hw : r_12 = 0 := hw
    subst hw
    have hPc := hP.sub (ws' := [(h0, .inr (11, [.ref rz, .int 0, .int 0, .ref rf, .ref rl, .ref rwx, .ref rb, .int 0, .ref rwd, .ref rk, .ref ra, .int 0, .int 32, .int 0, .ref rs, .ref rt, .int 0, .int 0, .ref rwr, .ref rp, .ref rsi, .ref rke, .ref rkc, .ref rik]))]) [0] rfl
    have hDc := hD.sub (ws' := [(h0, .inr (11, [.ref rz, .int 0, .int 0, .ref rf, .ref rl, .ref rwx, .ref rb, .int 0, .ref rwd, .ref rk, .ref ra, .int 0, .int 32, .int 0, .ref rs, .ref rt, .int 0, .int 0, .ref rwr, .ref rp, .ref rsi, .ref rke, .ref rkc, .ref rik]))]) [0] (by decide) rfl
    refine yy_calli [0] [1] (wr := [(rz, .inl (cyI, 2490, .inl (yz 0 0)))]) (va_runV (As := [.int 0]) (rest := []) ⟨hx, hb, hml, hown, hts⟩ (r_done l dC dI cyI cyZ cyO H.size h0 rz 0 0 rf rl rwx rb 0 rwd rk ra 0 32 0 rs rt 0 0 rwr rp rsi rke rkc rik 0 ) (cwV 1 hts gX11_told_X11_done rfl rfl rfl (by decide +kernel) ⟨Nat.le_of_ble_eq_true rfl, Nat.le_of_ble_eq_true rfl⟩) (yPreV hK hPc hDc (ci := 11) (q0 := 0) rfl rfl) rfl rfl hl.1 rfl (lv_room (Nat.le_of_ble_eq_true rfl)) dX11_told_97 ⟨Nat.le_of_ble_eq_true rfl, Nat.le_of_ble_eq_true rfl⟩) hP hD hS hA rfl rfl (by decide) (by decide) (fun r_14 u_13 H locs hw hP hD hS => ?_)
    have hP : va_P (dC, dI) vwCl [(rz, .inl (cyI, 2490, .inl (yz 0 0))), (h0, .inr (11, [.ref rz, .int 0, .int 0, .ref rf, .ref rl, .ref rwx, .ref rb, .int 0, .ref rwd, .ref rk, .ref ra, .int 0, .int 32, .int 0, .ref rs, .ref rt, .int 0, .int 0, .ref rwr, .ref rp, .ref rsi, .ref rke, .ref rkc, .ref rik]))] H := hP
    have hD : va_D A [(rz, .inl (cyI, 2490, .inl (yz 0 0))), (h0, .inr (11, [.ref rz, .int 0, .int 0, .ref rf, .ref rl, .ref rwx, .ref rb, .int 0, .ref rwd, .ref rk, .ref ra, .int 0, .int 32, .int 0, .ref rs, .ref rt, .int 0, .int 0, .ref rwr, .ref rp, .ref rsi, .ref rke, .ref rkc, .ref rik]))] := hD
    refine W.widen (k := 0) (n := 0) (Nat.le_of_ble_eq_true rfl) (Nat.le_of_ble_eq_true rfl) ?_
    have hw : r_14 = 0 := hw.trans (by decide)
    subst hw
    refine W.widen (k := 0) (n := 0) (Nat.le_of_ble_eq_true rfl) (Nat.le_of_ble_eq_true rfl) ?_
    exact yy_iret (v := 0) () hx hb hr hlk rfl hsz hAe hK hP hD hS [] rfl rfl (by decide) (by decide) dX11_told_100
  · refine lv_tableIn (off := 100) (tgt := 101) hx hb dX11_told_1 (by decide) (by decide) (by decide) (by decide) ?_
    refine lv_aload_n hx hb dX11_told_101 rfl (lv_at hl 0 rfl) ?_
    refine lv_aload_n hx hb dX11_told_102 rfl (lv_at hl 0 rfl) ?_
    have hPc := hP.sub (ws' := [(h0, .inr (11, [.ref rz, .int 0, .int 0, .ref rf, .ref rl, .ref rwx, .ref rb, .int 0, .ref rwd, .ref rk, .ref ra, .int 0, .int 32, .int 0, .ref rs, .ref rt, .int 0, .int 0, .ref rwr, .ref rp, .ref rsi, .ref rke, .ref rkc, .ref rik])), (rz, .inl (cyI, 2490, .inl (yz 0 0)))]) [0, 1] rfl
    have hDc := hD.sub (ws' := [(h0, .inr (11, [.ref rz, .int 0, .int 0, .ref rf, .ref rl, .ref rwx, .ref rb, .int 0, .ref rwd, .ref rk, .ref ra, .int 0, .int 32, .int 0, .ref rs, .ref rt, .int 0, .int 0, .ref rwr, .ref rp, .ref rsi, .ref rke, .ref rkc, .ref rik])), (rz, .inl (cyI, 2490, .inl (yz 0 0)))]) [0, 1] (by decide) rfl
    refine yy_calli [0, 1] [] (wr := []) (va_runV (As := []) (rest := [.ref h0]) ⟨hx, hb, hml, hown, hts⟩ (rp_X11_logged_151 l dC dI cyI cyZ cyO s.heap.size h0 rz rf rl rwx rb rwd rk ra rs rt rwr rp rsi rke rkc rik ) (cwV 0 hts gX11_told_X11_logged rfl rfl rfl (by decide +kernel) ⟨Nat.le_of_ble_eq_true rfl, Nat.le_of_ble_eq_true rfl⟩) (yPreV hK hPc hDc (ci := 11) (q0 := 0) rfl rfl) rfl rfl hl.1 rfl (lv_room (Nat.le_of_ble_eq_true rfl)) dX11_told_103 ⟨Nat.le_of_ble_eq_true rfl, Nat.le_of_ble_eq_true rfl⟩) hP hD hS hA rfl rfl (by decide) (by decide) (fun r_16 u_15 H locs hw hP hD hS => ?_)
    have hP : va_P (dC, dI) vwCl [(h0, .inr (11, [.ref rz, .int 0, .int 0, .ref rf, .ref rl, .ref rwx, .ref rb, .int 0, .ref rwd, .ref rk, .ref ra, .int 0, .int 32, .int 0, .ref rs, .ref rt, .int 0, .int 0, .ref rwr, .ref rp, .ref rsi, .ref rke, .ref rkc, .ref rik])), (rz, .inl (cyI, 2490, .inl (yz 0 0)))] H := hP
    have hD : va_D A [(h0, .inr (11, [.ref rz, .int 0, .int 0, .ref rf, .ref rl, .ref rwx, .ref rb, .int 0, .ref rwd, .ref rk, .ref ra, .int 0, .int 32, .int 0, .ref rs, .ref rt, .int 0, .int 0, .ref rwr, .ref rp, .ref rsi, .ref rke, .ref rkc, .ref rik])), (rz, .inl (cyI, 2490, .inl (yz 0 0)))] := hD
    refine W.widen (k := 0) (n := 0) (Nat.le_of_ble_eq_true rfl) (Nat.le_of_ble_eq_true rfl) ?_
    have hw : r_16 = 0 := hw
    subst hw
    have hPc := hP.sub (ws' := [(h0, .inr (11, [.ref rz, .int 0, .int 0, .ref rf, .ref rl, .ref rwx, .ref rb, .int 0, .ref rwd, .ref rk, .ref ra, .int 0, .int 32, .int 0, .ref rs, .ref rt, .int 0, .int 0, .ref rwr, .ref rp, .ref rsi, .ref rke, .ref rkc, .ref rik]))]) [0] rfl
    have hDc := hD.sub (ws' := [(h0, .inr (11, [.ref rz, .int 0, .int 0, .ref rf, .ref rl, .ref rwx, .ref rb, .int 0, .ref rwd, .ref rk, .ref ra, .int 0, .int 32, .int 0, .ref rs, .ref rt, .int 0, .int 0, .ref rwr, .ref rp, .ref rsi, .ref rke, .ref rkc, .ref rik]))]) [0] (by decide) rfl
    refine yy_calli [0] [1] (wr := [(rz, .inl (cyI, 2490, .inl (yz 0 0)))]) (va_runV (As := [.int 0]) (rest := []) ⟨hx, hb, hml, hown, hts⟩ (r_done l dC dI cyI cyZ cyO H.size h0 rz 0 0 rf rl rwx rb 0 rwd rk ra 0 32 0 rs rt 0 0 rwr rp rsi rke rkc rik 0 ) (cwV 1 hts gX11_told_X11_done rfl rfl rfl (by decide +kernel) ⟨Nat.le_of_ble_eq_true rfl, Nat.le_of_ble_eq_true rfl⟩) (yPreV hK hPc hDc (ci := 11) (q0 := 0) rfl rfl) rfl rfl hl.1 rfl (lv_room (Nat.le_of_ble_eq_true rfl)) dX11_told_106 ⟨Nat.le_of_ble_eq_true rfl, Nat.le_of_ble_eq_true rfl⟩) hP hD hS hA rfl rfl (by decide) (by decide) (fun r_18 u_17 H locs hw hP hD hS => ?_)
    have hP : va_P (dC, dI) vwCl [(rz, .inl (cyI, 2490, .inl (yz 0 0))), (h0, .inr (11, [.ref rz, .int 0, .int 0, .ref rf, .ref rl, .ref rwx, .ref rb, .int 0, .ref rwd, .ref rk, .ref ra, .int 0, .int 32, .int 0, .ref rs, .ref rt, .int 0, .int 0, .ref rwr, .ref rp, .ref rsi, .ref rke, .ref rkc, .ref rik]))] H := hP
    have hD : va_D A [(rz, .inl (cyI, 2490, .inl (yz 0 0))), (h0, .inr (11, [.ref rz, .int 0, .int 0, .ref rf, .ref rl, .ref rwx, .ref rb, .int 0, .ref rwd, .ref rk, .ref ra, .int 0, .int 32, .int 0, .ref rs, .ref rt, .int 0, .int 0, .ref rwr, .ref rp, .ref rsi, .ref rke, .ref rkc, .ref rik]))] := hD
    refine W.widen (k := 0) (n := 0) (Nat.le_of_ble_eq_true rfl) (Nat.le_of_ble_eq_true rfl) ?_
    have hw : r_18 = 0 := hw.trans (by decide)
    subst hw
    refine W.widen (k := 0) (n := 0) (Nat.le_of_ble_eq_true rfl) (Nat.le_of_ble_eq_true rfl) ?_
    exact yy_iret (v := 0) () hx hb hr hlk rfl hsz hAe hK hP hD hS [] rfl rfl (by decide) (by decide) dX11_told_109
  · refine lv_tableIn (off := 109) (tgt := 110) hx hb dX11_told_1 (by decide) (by decide) (by decide) (by decide) ?_
    refine lv_aload_n hx hb dX11_told_110 rfl (lv_at hl 0 rfl) ?_
    refine lv_aload_n hx hb dX11_told_111 rfl (lv_at hl 0 rfl) ?_
    have hPc := hP.sub (ws' := [(h0, .inr (11, [.ref rz, .int 0, .int 0, .ref rf, .ref rl, .ref rwx, .ref rb, .int 0, .ref rwd, .ref rk, .ref ra, .int 0, .int 32, .int 0, .ref rs, .ref rt, .int 0, .int 0, .ref rwr, .ref rp, .ref rsi, .ref rke, .ref rkc, .ref rik])), (rz, .inl (cyI, 2490, .inl (yz 0 0)))]) [0, 1] rfl
    have hDc := hD.sub (ws' := [(h0, .inr (11, [.ref rz, .int 0, .int 0, .ref rf, .ref rl, .ref rwx, .ref rb, .int 0, .ref rwd, .ref rk, .ref ra, .int 0, .int 32, .int 0, .ref rs, .ref rt, .int 0, .int 0, .ref rwr, .ref rp, .ref rsi, .ref rke, .ref rkc, .ref rik])), (rz, .inl (cyI, 2490, .inl (yz 0 0)))]) [0, 1] (by decide) rfl
    refine yy_calli [0, 1] [] (wr := []) (va_runV (As := []) (rest := [.ref h0]) ⟨hx, hb, hml, hown, hts⟩ (rp_X11_found_152 l dC dI cyI cyZ cyO s.heap.size h0 rz rf rl rwx rb rwd rk ra rs rt rwr rp rsi rke rkc rik ) (cwV 0 hts gX11_told_X11_found rfl rfl rfl (by decide +kernel) ⟨Nat.le_of_ble_eq_true rfl, Nat.le_of_ble_eq_true rfl⟩) (yPreV hK hPc hDc (ci := 11) (q0 := 0) rfl rfl) rfl rfl hl.1 rfl (lv_room (Nat.le_of_ble_eq_true rfl)) dX11_told_112 ⟨Nat.le_of_ble_eq_true rfl, Nat.le_of_ble_eq_true rfl⟩) hP hD hS hA rfl rfl (by decide) (by decide) (fun r_20 u_19 H locs hw hP hD hS => ?_)
    have hP : va_P (dC, dI) vwCl [(h0, .inr (11, [.ref rz, .int 0, .int 0, .ref rf, .ref rl, .ref rwx, .ref rb, .int 0, .ref rwd, .ref rk, .ref ra, .int 0, .int 32, .int 0, .ref rs, .ref rt, .int 0, .int 0, .ref rwr, .ref rp, .ref rsi, .ref rke, .ref rkc, .ref rik])), (rz, .inl (cyI, 2490, .inl (yz 0 0)))] H := hP
    have hD : va_D A [(h0, .inr (11, [.ref rz, .int 0, .int 0, .ref rf, .ref rl, .ref rwx, .ref rb, .int 0, .ref rwd, .ref rk, .ref ra, .int 0, .int 32, .int 0, .ref rs, .ref rt, .int 0, .int 0, .ref rwr, .ref rp, .ref rsi, .ref rke, .ref rkc, .ref rik])), (rz, .inl (cyI, 2490, .inl (yz 0 0)))] := hD
    refine W.widen (k := 0) (n := 0) (Nat.le_of_ble_eq_true rfl) (Nat.le_of_ble_eq_true rfl) ?_
    have hw : r_20 = 0 := hw
    subst hw
    have hPc := hP.sub (ws' := [(h0, .inr (11, [.ref rz, .int 0, .int 0, .ref rf, .ref rl, .ref rwx, .ref rb, .int 0, .ref rwd, .ref rk, .ref ra, .int 0, .int 32, .int 0, .ref rs, .ref rt, .int 0, .int 0, .ref rwr, .ref rp, .ref rsi, .ref rke, .ref rkc, .ref rik]))]) [0] rfl
    have hDc := hD.sub (ws' := [(h0, .inr (11, [.ref rz, .int 0, .int 0, .ref rf, .ref rl, .ref rwx, .ref rb, .int 0, .ref rwd, .ref rk, .ref ra, .int 0, .int 32, .int 0, .ref rs, .ref rt, .int 0, .int 0, .ref rwr, .ref rp, .ref rsi, .ref rke, .ref rkc, .ref rik]))]) [0] (by decide) rfl
    refine yy_calli [0] [1] (wr := [(rz, .inl (cyI, 2490, .inl (yz 0 0)))]) (va_runV (As := [.int 0]) (rest := []) ⟨hx, hb, hml, hown, hts⟩ (r_done l dC dI cyI cyZ cyO H.size h0 rz 0 0 rf rl rwx rb 0 rwd rk ra 0 32 0 rs rt 0 0 rwr rp rsi rke rkc rik 0 ) (cwV 1 hts gX11_told_X11_done rfl rfl rfl (by decide +kernel) ⟨Nat.le_of_ble_eq_true rfl, Nat.le_of_ble_eq_true rfl⟩) (yPreV hK hPc hDc (ci := 11) (q0 := 0) rfl rfl) rfl rfl hl.1 rfl (lv_room (Nat.le_of_ble_eq_true rfl)) dX11_told_115 ⟨Nat.le_of_ble_eq_true rfl, Nat.le_of_ble_eq_true rfl⟩) hP hD hS hA rfl rfl (by decide) (by decide) (fun r_22 u_21 H locs hw hP hD hS => ?_)
    have hP : va_P (dC, dI) vwCl [(rz, .inl (cyI, 2490, .inl (yz 0 0))), (h0, .inr (11, [.ref rz, .int 0, .int 0, .ref rf, .ref rl, .ref rwx, .ref rb, .int 0, .ref rwd, .ref rk, .ref ra, .int 0, .int 32, .int 0, .ref rs, .ref rt, .int 0, .int 0, .ref rwr, .ref rp, .ref rsi, .ref rke, .ref rkc, .ref rik]))] H := hP
    have hD : va_D A [(rz, .inl (cyI, 2490, .inl (yz 0 0))), (h0, .inr (11, [.ref rz, .int 0, .int 0, .ref rf, .ref rl, .ref rwx, .ref rb, .int 0, .ref rwd, .ref rk, .ref ra, .int 0, .int 32, .int 0, .ref rs, .ref rt, .int 0, .int 0, .ref rwr, .ref rp, .ref rsi, .ref rke, .ref rkc, .ref rik]))] := hD
    refine W.widen (k := 0) (n := 0) (Nat.le_of_ble_eq_true rfl) (Nat.le_of_ble_eq_true rfl) ?_
    have hw : r_22 = 0 := hw.trans (by decide)
    subst hw
    refine W.widen (k := 0) (n := 0) (Nat.le_of_ble_eq_true rfl) (Nat.le_of_ble_eq_true rfl) ?_
    exact yy_iret (v := 0) () hx hb hr hlk rfl hsz hAe hK hP hD hS [] rfl rfl (by decide) (by decide) dX11_told_118
  · refine lv_tableIn (off := 118) (tgt := 119) hx hb dX11_told_1 (by decide) (by decide) (by decide) (by decide) ?_
    refine lv_aload_n hx hb dX11_told_119 rfl (lv_at hl 0 rfl) ?_
    refine lv_aload_n hx hb dX11_told_120 rfl (lv_at hl 0 rfl) ?_
    refine va_get (D := (dC, dI)) (ci := 11) (v := .ref rz) (C := RX11) (T := TX11) (N := 24) hx hb hts hnX11 hown hK hP 0 rfl rfl 0 (by decide) hf7 (fun _ h9 => h9) rfl dX11_told_121 ?_
    refine lv_sipush (v := 179) hx hb dX11_told_124 (by decide) ?_
    refine yy_iald (v := 0) hx hb hK hP 1 0 rfl rfl (yin (by decide)) dX11_told_127 rfl ?_
    have hPc := hP.sub (ws' := [(h0, .inr (11, [.ref rz, .int 0, .int 0, .ref rf, .ref rl, .ref rwx, .ref rb, .int 0, .ref rwd, .ref rk, .ref ra, .int 0, .int 32, .int 0, .ref rs, .ref rt, .int 0, .int 0, .ref rwr, .ref rp, .ref rsi, .ref rke, .ref rkc, .ref rik]))]) [0] rfl
    have hDc := hD.sub (ws' := [(h0, .inr (11, [.ref rz, .int 0, .int 0, .ref rf, .ref rl, .ref rwx, .ref rb, .int 0, .ref rwd, .ref rk, .ref ra, .int 0, .int 32, .int 0, .ref rs, .ref rt, .int 0, .int 0, .ref rwr, .ref rp, .ref rsi, .ref rke, .ref rkc, .ref rik]))]) [0] (by decide) rfl
    refine yy_calli [0] [1] (wr := [(rz, .inl (cyI, 2490, .inl (yz 0 0)))]) (va_runV (As := [.int 0]) (rest := []) ⟨hx, hb, hml, hown, hts⟩ (r_done l dC dI cyI cyZ cyO s.heap.size h0 rz 0 0 rf rl rwx rb 0 rwd rk ra 0 32 0 rs rt 0 0 rwr rp rsi rke rkc rik 0 ) (cwV 1 hts gX11_told_X11_done rfl rfl rfl (by decide +kernel) ⟨Nat.le_of_ble_eq_true rfl, Nat.le_of_ble_eq_true rfl⟩) (yPreV hK hPc hDc (ci := 11) (q0 := 0) rfl rfl) rfl rfl hl.1 rfl (lv_room (Nat.le_of_ble_eq_true rfl)) dX11_told_128 ⟨Nat.le_of_ble_eq_true rfl, Nat.le_of_ble_eq_true rfl⟩) hP hD hS hA rfl rfl (by decide) (by decide) (fun r_24 u_23 H locs hw hP hD hS => ?_)
    have hP : va_P (dC, dI) vwCl [(rz, .inl (cyI, 2490, .inl (yz 0 0))), (h0, .inr (11, [.ref rz, .int 0, .int 0, .ref rf, .ref rl, .ref rwx, .ref rb, .int 0, .ref rwd, .ref rk, .ref ra, .int 0, .int 32, .int 0, .ref rs, .ref rt, .int 0, .int 0, .ref rwr, .ref rp, .ref rsi, .ref rke, .ref rkc, .ref rik]))] H := hP
    have hD : va_D A [(rz, .inl (cyI, 2490, .inl (yz 0 0))), (h0, .inr (11, [.ref rz, .int 0, .int 0, .ref rf, .ref rl, .ref rwx, .ref rb, .int 0, .ref rwd, .ref rk, .ref ra, .int 0, .int 32, .int 0, .ref rs, .ref rt, .int 0, .int 0, .ref rwr, .ref rp, .ref rsi, .ref rke, .ref rkc, .ref rik]))] := hD
    refine W.widen (k := 0) (n := 0) (Nat.le_of_ble_eq_true rfl) (Nat.le_of_ble_eq_true rfl) ?_
    have hw : r_24 = 0 := hw.trans (by decide)
    subst hw
    refine W.widen (k := 0) (n := 0) (Nat.le_of_ble_eq_true rfl) (Nat.le_of_ble_eq_true rfl) ?_
    exact yy_iret (v := 0) () hx hb hr hlk rfl hsz hAe hK hP hD hS [] rfl rfl (by decide) (by decide) dX11_told_131
  · refine lv_tableOut (tgt := 132) hx hb dX11_told_1 c1.1 (by decide) ?_
    refine lv_aload_n hx hb dX11_told_132 rfl (lv_at hl 0 rfl) ?_
    refine lv_bipush (v := (-2)) hx hb dX11_told_133 (by decide) ?_
    have hPc := hP.sub (ws' := [(h0, .inr (11, [.ref rz, .int 0, .int 0, .ref rf, .ref rl, .ref rwx, .ref rb, .int 0, .ref rwd, .ref rk, .ref ra, .int 0, .int 32, .int 0, .ref rs, .ref rt, .int 0, .int 0, .ref rwr, .ref rp, .ref rsi, .ref rke, .ref rkc, .ref rik]))]) [0] rfl
    have hDc := hD.sub (ws' := [(h0, .inr (11, [.ref rz, .int 0, .int 0, .ref rf, .ref rl, .ref rwx, .ref rb, .int 0, .ref rwd, .ref rk, .ref ra, .int 0, .int 32, .int 0, .ref rs, .ref rt, .int 0, .int 0, .ref rwr, .ref rp, .ref rsi, .ref rke, .ref rkc, .ref rik]))]) [0] (by decide) rfl
    refine yy_calli [0] [1] (wr := [(rz, .inl (cyI, 2490, .inl (yz 0 0)))]) (va_runV (As := [.int (-2)]) (rest := []) ⟨hx, hb, hml, hown, hts⟩ (r_refused l dC dI cyI cyZ cyO s.heap.size h0 rz 0 0 rf rl rwx rb 0 rwd rk ra 0 32 0 rs rt 0 0 rwr rp rsi rke rkc rik (-2) ) (cwV 1 hts gX11_told_X11_refused rfl rfl rfl (by decide +kernel) ⟨Nat.le_of_ble_eq_true rfl, Nat.le_of_ble_eq_true rfl⟩) (yPreV hK hPc hDc (ci := 11) (q0 := 0) rfl rfl) rfl rfl hl.1 rfl (lv_room (Nat.le_of_ble_eq_true rfl)) dX11_told_135 ⟨Nat.le_of_ble_eq_true rfl, Nat.le_of_ble_eq_true rfl⟩) hP hD hS hA rfl rfl (by decide) (by decide) (fun r_26 u_25 H locs hw hP hD hS => ?_)
    have hP : va_P (dC, dI) vwCl [(rz, .inl (cyI, 2490, .inl (yz 0 0))), (h0, .inr (11, [.ref rz, .int (-2), .int 0, .ref rf, .ref rl, .ref rwx, .ref rb, .int 0, .ref rwd, .ref rk, .ref ra, .int 0, .int 32, .int 0, .ref rs, .ref rt, .int 0, .int 0, .ref rwr, .ref rp, .ref rsi, .ref rke, .ref rkc, .ref rik]))] H := hP
    have hD : va_D A [(rz, .inl (cyI, 2490, .inl (yz 0 0))), (h0, .inr (11, [.ref rz, .int (-2), .int 0, .ref rf, .ref rl, .ref rwx, .ref rb, .int 0, .ref rwd, .ref rk, .ref ra, .int 0, .int 32, .int 0, .ref rs, .ref rt, .int 0, .int 0, .ref rwr, .ref rp, .ref rsi, .ref rke, .ref rkc, .ref rik]))] := hD
    refine W.widen (k := 0) (n := 0) (Nat.le_of_ble_eq_true rfl) (Nat.le_of_ble_eq_true rfl) ?_
    have hw : r_26 = (-2) := hw.trans (by decide)
    subst hw
    refine W.widen (k := 0) (n := 0) (Nat.le_of_ble_eq_true rfl) (Nat.le_of_ble_eq_true rfl) ?_
    exact yy_iret (v := (-2)) () hx hb hr hlk rfl hsz hAe hK hP hD hS [] rfl rfl (by decide) ((if_neg c1.2).symm) dX11_told_138
set_option maxHeartbeats 4000000 in
set_option maxRecDepth 100000 in
theorem r_again (l : Launch) (dC : Nat → ClassId) (dI : Nat → Nat → Nat) (cyI cyZ cyO : ClassId) (sz : Nat) (h0 : Nat) (rz : Nat) (rf : Nat) (rl : Nat) (rwx : Nat) (rb : Nat) (rwd : Nat) (rk : Nat) (ra : Nat) (rs : Nat) (rt : Nat) (rwr : Nat) (rp : Nat) (rsi : Nat) (rke : Nat) (rkc : Nat) (rik : Nat)  : Met l yX11_again wsX11_again ({ frames := 1, cells := 0, slots := 0, locals := 21 }) (yPre [.ref h0] (dC, dI) [(h0, .inr (11, [.ref rz, .int 0, .int 0, .ref rf, .ref rl, .ref rwx, .ref rb, .int 0, .ref rwd, .ref rk, .ref ra, .int 0, .int 32, .int 0, .ref rs, .ref rt, .int 0, .int 0, .ref rwr, .ref rp, .ref rsi, .ref rke, .ref rkc, .ref rik])), (rz, .inl (cyI, 2490, .inl (yz 0 0)))] (yT cyI cyZ cyO) sz) (yQi (fun (r : Int32) (u : Unit) => r = (-6)) (dC, dI) [(h0, .inr (11, [.ref rz, .int 0, .int 0, .ref rf, .ref rl, .ref rwx, .ref rb, .int 0, .ref rwd, .ref rk, .ref ra, .int 0, .int 32, .int 0, .ref rs, .ref rt, .int 0, .int 0, .ref rwr, .ref rp, .ref rsi, .ref rke, .ref rkc, .ref rik])), (rz, .inl (cyI, 2490, .inl (yz 0 0)))] (yT cyI cyZ cyO) sz (fun _ => [])) 0 0 (va_A [(h0, .inr (11, [.ref rz, .int 0, .int 0, .ref rf, .ref rl, .ref rwx, .ref rb, .int 0, .ref rwd, .ref rk, .ref ra, .int 0, .int 32, .int 0, .ref rs, .ref rt, .int 0, .int 0, .ref rwr, .ref rp, .ref rsi, .ref rke, .ref rkc, .ref rik])), (rz, .inl (cyI, 2490, .inl (yz 0 0)))] sz) := by
  refine yMet (cc := cX11_again) (maxL := 3) (ret := (some .int)) (by decide) rfl (Nat.le_of_ble_eq_true rfl) ?_
  intro p e s m below meth c A hx hb hr hlk hml hts hown hnm hsz hAe hP hK hD hA hS ls hl
  have hl : lv_has ls 3 [(0, .ref h0)] := hl
  have hf69 := hts (.fieldLink RX11 69 "BusBridgeModel" "registers" "I") (by decide +kernel)
  have hf7 := hts (.fieldLink RX11 7 "BusBridgeModel" "z" "[I") (by decide +kernel)
  have hnX11 : ∀ w ∈ wsX110, w ∈ wsX11_again := by decide +kernel
  refine lv_aload_n hx hb dX11_again_0 rfl (lv_at hl 0 rfl) ?_
  refine va_get (D := (dC, dI)) (ci := 11) (v := .ref rz) (C := RX11) (T := TX11) (N := 24) hx hb hts hnX11 hown hK hP 0 rfl rfl 0 (by decide) hf7 (fun _ h9 => h9) rfl dX11_again_1 ?_
  refine lv_sipush (v := 208) hx hb dX11_again_4 (by decide) ?_
  refine yy_iald (v := 0) hx hb hK hP 1 0 rfl rfl (yin (by decide)) dX11_again_7 rfl ?_
  refine lv_sipush (v := 200) hx hb dX11_again_8 (by decide) ?_
  refine lv_icmp_le (tgt := 21) hx hb dX11_again_11 (by decide) (fun _ => ?_) (fun c => absurd (by decide) c)
  refine lv_iconst (v := 0) hx hb dX11_again_21 (by decide) ?_
  refine lv_istore_n (lv' := [(1, .int 0), (0, .ref h0)]) hx hb dX11_again_22 rfl hl (by decide) rfl (fun ls hl => ?_)
  refine lv_iload_n hx hb dX11_again_23 rfl (lv_at hl 0 rfl) ?_
  refine lv_aload_n hx hb dX11_again_24 rfl (lv_at hl 1 rfl) ?_
  refine va_get (D := (dC, dI)) (ci := 11) (v := .int 0) (C := RX11) (T := TX11) (N := 24) hx hb hts hnX11 hown hK hP 0 rfl rfl 7 (by decide) hf69 (fun _ h9 => h9) rfl dX11_again_25 ?_
  refine lv_icmp_ge (tgt := 66) hx hb dX11_again_28 (by decide) (fun _ => ?_) (fun c => absurd (by decide) c)
  refine lv_iconst (v := 0) hx hb dX11_again_66 (by decide) ?_
  refine lv_istore_n (lv' := [(1, .int 0), (0, .ref h0)]) hx hb dX11_again_67 rfl hl (by decide) rfl (fun ls hl => ?_)
  refine lv_iload_n hx hb dX11_again_68 rfl (lv_at hl 0 rfl) ?_
  refine lv_aload_n hx hb dX11_again_69 rfl (lv_at hl 1 rfl) ?_
  refine va_get (D := (dC, dI)) (ci := 11) (v := .ref rz) (C := RX11) (T := TX11) (N := 24) hx hb hts hnX11 hown hK hP 0 rfl rfl 0 (by decide) hf7 (fun _ h9 => h9) rfl dX11_again_70 ?_
  refine lv_sipush (v := 208) hx hb dX11_again_73 (by decide) ?_
  refine yy_iald (v := 0) hx hb hK hP 1 0 rfl rfl (yin (by decide)) dX11_again_76 rfl ?_
  refine lv_icmp_ge (tgt := 129) hx hb dX11_again_77 (by decide) (fun _ => ?_) (fun c => absurd (by decide) c)
  refine lv_aload_n hx hb dX11_again_129 rfl (lv_at hl 1 rfl) ?_
  refine lv_bipush (v := (-6)) hx hb dX11_again_130 (by decide) ?_
  have hPc := hP.sub (ws' := [(h0, .inr (11, [.ref rz, .int 0, .int 0, .ref rf, .ref rl, .ref rwx, .ref rb, .int 0, .ref rwd, .ref rk, .ref ra, .int 0, .int 32, .int 0, .ref rs, .ref rt, .int 0, .int 0, .ref rwr, .ref rp, .ref rsi, .ref rke, .ref rkc, .ref rik]))]) [0] rfl
  have hDc := hD.sub (ws' := [(h0, .inr (11, [.ref rz, .int 0, .int 0, .ref rf, .ref rl, .ref rwx, .ref rb, .int 0, .ref rwd, .ref rk, .ref ra, .int 0, .int 32, .int 0, .ref rs, .ref rt, .int 0, .int 0, .ref rwr, .ref rp, .ref rsi, .ref rke, .ref rkc, .ref rik]))]) [0] (by decide) rfl
  refine yy_calli [0] [1] (wr := [(rz, .inl (cyI, 2490, .inl (yz 0 0)))]) (va_runV (As := [.int (-6)]) (rest := []) ⟨hx, hb, hml, hown, hts⟩ (r_done l dC dI cyI cyZ cyO s.heap.size h0 rz 0 0 rf rl rwx rb 0 rwd rk ra 0 32 0 rs rt 0 0 rwr rp rsi rke rkc rik (-6) ) (cwV 1 hts gX11_again_X11_done rfl rfl rfl (by decide +kernel) ⟨Nat.le_of_ble_eq_true rfl, Nat.le_of_ble_eq_true rfl⟩) (yPreV hK hPc hDc (ci := 11) (q0 := 0) rfl rfl) rfl rfl hl.1 rfl (lv_room (Nat.le_of_ble_eq_true rfl)) dX11_again_132 ⟨Nat.le_of_ble_eq_true rfl, Nat.le_of_ble_eq_true rfl⟩) hP hD hS hA rfl rfl (by decide) (by decide) (fun r_2 u_1 H locs hw hP hD hS => ?_)
  have hP : va_P (dC, dI) vwCl [(rz, .inl (cyI, 2490, .inl (yz 0 0))), (h0, .inr (11, [.ref rz, .int 0, .int 0, .ref rf, .ref rl, .ref rwx, .ref rb, .int 0, .ref rwd, .ref rk, .ref ra, .int 0, .int 32, .int 0, .ref rs, .ref rt, .int 0, .int 0, .ref rwr, .ref rp, .ref rsi, .ref rke, .ref rkc, .ref rik]))] H := hP
  have hD : va_D A [(rz, .inl (cyI, 2490, .inl (yz 0 0))), (h0, .inr (11, [.ref rz, .int 0, .int 0, .ref rf, .ref rl, .ref rwx, .ref rb, .int 0, .ref rwd, .ref rk, .ref ra, .int 0, .int 32, .int 0, .ref rs, .ref rt, .int 0, .int 0, .ref rwr, .ref rp, .ref rsi, .ref rke, .ref rkc, .ref rik]))] := hD
  refine W.widen (k := 0) (n := 0) (Nat.le_of_ble_eq_true rfl) (Nat.le_of_ble_eq_true rfl) ?_
  have hw : r_2 = (-6) := hw.trans (by decide)
  subst hw
  refine W.widen (k := 0) (n := 0) (Nat.le_of_ble_eq_true rfl) (Nat.le_of_ble_eq_true rfl) ?_
  exact yy_iret (v := (-6)) () hx hb hr hlk rfl hsz hAe hK hP hD hS [] rfl rfl (by decide) (rfl) dX11_again_135
set_option maxHeartbeats 4000000 in
set_option maxRecDepth 100000 in
theorem r_status (l : Launch) (dC : Nat → ClassId) (dI : Nat → Nat → Nat) (cyI cyZ cyO : ClassId) (sz : Nat) (h0 : Nat) (rz : Nat) (rf : Nat) (rl : Nat) (rwx : Nat) (rb : Nat) (rwd : Nat) (rk : Nat) (ra : Nat) (rs : Nat) (rt : Nat) (rwr : Nat) (rp : Nat) (rsi : Nat) (rke : Nat) (rkc : Nat) (rik : Nat)  : Met l yX11_status wsX11_status ({ frames := 0, cells := 0, slots := 0, locals := 0 }) (yPre [.ref h0] (dC, dI) [(h0, .inr (11, [.ref rz, .int 0, .int 0, .ref rf, .ref rl, .ref rwx, .ref rb, .int 0, .ref rwd, .ref rk, .ref ra, .int 0, .int 32, .int 0, .ref rs, .ref rt, .int 0, .int 0, .ref rwr, .ref rp, .ref rsi, .ref rke, .ref rkc, .ref rik]))] (yT cyI cyZ cyO) sz) (yQi (fun (r : Int32) (u : Unit) => r = 0) (dC, dI) [(h0, .inr (11, [.ref rz, .int 0, .int 0, .ref rf, .ref rl, .ref rwx, .ref rb, .int 0, .ref rwd, .ref rk, .ref ra, .int 0, .int 32, .int 0, .ref rs, .ref rt, .int 0, .int 0, .ref rwr, .ref rp, .ref rsi, .ref rke, .ref rkc, .ref rik]))] (yT cyI cyZ cyO) sz (fun _ => [])) 0 0 (va_A [(h0, .inr (11, [.ref rz, .int 0, .int 0, .ref rf, .ref rl, .ref rwx, .ref rb, .int 0, .ref rwd, .ref rk, .ref ra, .int 0, .int 32, .int 0, .ref rs, .ref rt, .int 0, .int 0, .ref rwr, .ref rp, .ref rsi, .ref rke, .ref rkc, .ref rik]))] sz) := by
  refine yMet (cc := cX11_status) (maxL := 1) (ret := (some .int)) (by decide) rfl (Nat.le_of_ble_eq_true rfl) ?_
  intro p e s m below meth c A hx hb hr hlk hml hts hown hnm hsz hAe hP hK hD hA hS ls hl
  have hl : lv_has ls 1 [(0, .ref h0)] := hl
  have hf66 := hts (.fieldLink RX11 66 "BusBridgeModel" "status" "I") (by decide +kernel)
  have hnX11 : ∀ w ∈ wsX110, w ∈ wsX11_status := by decide +kernel
  refine lv_aload_n hx hb dX11_status_0 rfl (lv_at hl 0 rfl) ?_
  refine va_get (D := (dC, dI)) (ci := 11) (v := .int 0) (C := RX11) (T := TX11) (N := 24) hx hb hts hnX11 hown hK hP 0 rfl rfl 1 (by decide) hf66 (fun _ h9 => h9) rfl dX11_status_1 ?_
  refine W.widen (k := 0) (n := 0) (Nat.le_of_ble_eq_true rfl) (Nat.le_of_ble_eq_true rfl) ?_
  exact yy_iret (v := 0) () hx hb hr hlk rfl hsz hAe hK hP hD hS [] rfl rfl (by decide) (rfl) dX11_status_4
set_option maxHeartbeats 4000000 in
set_option maxRecDepth 100000 in
theorem rp_X11_whyNot_156 (l : Launch) (dC : Nat → ClassId) (dI : Nat → Nat → Nat) (cyI cyZ cyO : ClassId) (sz : Nat) (a0 : Nat) (v0 : Int32) (a1 : Nat) (a2 : Nat) (a3 : Nat) (a4 : Nat) (a5 : Nat) (a6 : Nat) (a7 : Nat) (a8 : Nat) (a9 : Nat) (a10 : Nat) (a11 : Nat) (a12 : Nat) (a13 : Nat) (a14 : Nat) (a15 : Nat) (a16 : Nat)  : Met l yX11_whyNot wsX11_whyNot ({ frames := 1, cells := 0, slots := 0, locals := 25 }) (yPre [.ref a0, .int v0] (dC, dI) [(a0, .inr (11, [.ref a1, .int 0, .int 0, .ref a2, .ref a3, .ref a4, .ref a5, .int 0, .ref a6, .ref a7, .ref a8, .int 0, .int 32, .int 0, .ref a9, .ref a10, .int 0, .int 0, .ref a11, .ref a12, .ref a13, .ref a14, .ref a15, .ref a16])), (a16, .inl (cyZ, 3, .inl (fun _ => 0)))] (yT cyI cyZ cyO) sz) (yQi (fun (r : Int32) (u : Unit) => r = (-1)) (dC, dI) [(a0, .inr (11, [.ref a1, .int 0, .int 0, .ref a2, .ref a3, .ref a4, .ref a5, .int 0, .ref a6, .ref a7, .ref a8, .int 0, .int 32, .int 0, .ref a9, .ref a10, .int 0, .int 0, .ref a11, .ref a12, .ref a13, .ref a14, .ref a15, .ref a16])), (a16, .inl (cyZ, 3, .inl (fun _ => 0)))] (yT cyI cyZ cyO) sz (fun _ => [(a0, .inr (11, [.ref a1, .int 0, .int 0, .ref a2, .ref a3, .ref a4, .ref a5, .int 0, .ref a6, .ref a7, .ref a8, .int 0, .int 32, .int 0, .ref a9, .ref a10, .int 0, .int 0, .ref a11, .ref a12, .ref a13, .ref a14, .ref a15, .ref a16])), (a16, .inl (cyZ, 3, .inl (fun _ => 0)))])) 0 0 (va_A [(a0, .inr (11, [.ref a1, .int 0, .int 0, .ref a2, .ref a3, .ref a4, .ref a5, .int 0, .ref a6, .ref a7, .ref a8, .int 0, .int 32, .int 0, .ref a9, .ref a10, .int 0, .int 0, .ref a11, .ref a12, .ref a13, .ref a14, .ref a15, .ref a16])), (a16, .inl (cyZ, 3, .inl (fun _ => 0)))] sz) := by
  refine yMet (cc := cX11_whyNot) (maxL := 2) (ret := (some .int)) (by decide) rfl (Nat.le_of_ble_eq_true rfl) ?_
  intro p e s m below meth c A hx hb hr hlk hml hts hown hnm hsz hAe hP hK hD hA hS ls hl
  have hl : lv_has ls 2 [(0, .ref a0), (1, .int v0)] := hl
  have hf60 := hts (.fieldLink RX11 60 "BusBridgeModel" "isKept" "[Z") (by decide +kernel)
  have hl118 := hts (.constantLong RX11 118 2) (by decide +kernel)
  have hnX11 : ∀ w ∈ wsX110, w ∈ wsX11_whyNot := by decide +kernel
  refine lv_iload_n hx hb dX11_whyNot_0 rfl (lv_at hl 1 rfl) ?_
  refine lv_i2l hx hb dX11_whyNot_1 rfl ?_
  refine lv_lconst (v := (0 : Int32).toInt64) hx hb dX11_whyNot_2 (by decide) ?_
  refine lv_ldc2 (v := 2) hx hb hown hl118 dX11_whyNot_3 ?_
  refine yy_long (v := (2 : Int32).toInt64) (by decide) ?_
  have hPc := hP.sub (ws' := []) [] rfl
  have hDc := hD.sub (ws' := []) [] (by decide) rfl
  refine yy_calli [] [0, 1] (wr := [(a0, .inr (11, [.ref a1, .int 0, .int 0, .ref a2, .ref a3, .ref a4, .ref a5, .int 0, .ref a6, .ref a7, .ref a8, .int 0, .int 32, .int 0, .ref a9, .ref a10, .int 0, .int 0, .ref a11, .ref a12, .ref a13, .ref a14, .ref a15, .ref a16])), (a16, .inl (cyZ, 3, .inl (fun _ => 0)))]) (va_runS (As := [.long (v0 : Int32).toInt64, .long (0 : Int32).toInt64, .long (2 : Int32).toInt64]) (rest := []) ⟨hx, hb, hml, hown, hts⟩ (r_in l dC dI cyI cyZ cyO s.heap.size v0 0 2 ) (va_cwS 3 hts gX11_whyNot_X11_in rfl rfl rfl (by decide +kernel) ⟨Nat.le_of_ble_eq_true rfl, Nat.le_of_ble_eq_true rfl⟩) (yPreS hK hPc hDc) rfl rfl hl.1 rfl (lv_room (Nat.le_of_ble_eq_true rfl)) dX11_whyNot_6 ⟨Nat.le_of_ble_eq_true rfl, Nat.le_of_ble_eq_true rfl⟩) hP hD hS hA rfl rfl (by decide) (by decide) (fun r_2 u_1 H locs hw hP hD hS => ?_)
  have hP : va_P (dC, dI) vwCl [(a0, .inr (11, [.ref a1, .int 0, .int 0, .ref a2, .ref a3, .ref a4, .ref a5, .int 0, .ref a6, .ref a7, .ref a8, .int 0, .int 32, .int 0, .ref a9, .ref a10, .int 0, .int 0, .ref a11, .ref a12, .ref a13, .ref a14, .ref a15, .ref a16])), (a16, .inl (cyZ, 3, .inl (fun _ => 0)))] H := hP
  have hD : va_D A [(a0, .inr (11, [.ref a1, .int 0, .int 0, .ref a2, .ref a3, .ref a4, .ref a5, .int 0, .ref a6, .ref a7, .ref a8, .int 0, .int 32, .int 0, .ref a9, .ref a10, .int 0, .int 0, .ref a11, .ref a12, .ref a13, .ref a14, .ref a15, .ref a16])), (a16, .inl (cyZ, 3, .inl (fun _ => 0)))] := hD
  refine W.widen (k := 0) (n := 0) (Nat.le_of_ble_eq_true rfl) (Nat.le_of_ble_eq_true rfl) ?_
  have hw : r_2 = (zB (0 ≤ v0 ∧ v0 ≤ 2)) := hw
  subst hw
  refine lv_if_eq (tgt := 21) hx hb dX11_whyNot_9 (by decide) (fun c9 => ?_) (fun c9 => ?_)
  · refine lv_iconst (v := (-1)) hx hb dX11_whyNot_21 (by decide) ?_
    refine lv_goto (tgt := 44) hx hb dX11_whyNot_22 (by decide) ?_
    refine W.widen (k := 0) (n := 0) (Nat.le_of_ble_eq_true rfl) (Nat.le_of_ble_eq_true rfl) ?_
    exact yy_iret (v := (-1)) () hx hb hr hlk rfl hsz hAe hK hP hD hS [0, 1] rfl rfl (by decide) (rfl) dX11_whyNot_44
  · have hin := yinr (n := 3) rfl (by decide) c9
    refine lv_aload_n hx hb dX11_whyNot_12 rfl (lv_at hl 0 rfl) ?_
    refine va_get (D := (dC, dI)) (ci := 11) (v := .ref a16) (C := RX11) (T := TX11) (N := 24) hx hb hts hnX11 hown hK hP 0 rfl rfl 23 (by decide) hf60 (fun _ h9 => h9) rfl dX11_whyNot_13 ?_
    refine lv_iload_n hx hb dX11_whyNot_16 rfl (lv_at hl 1 rfl) ?_
    refine yy_zald (v := 0) hx hb hK hP 1 1 rfl rfl hin dX11_whyNot_17 rfl ?_
    refine lv_if_ne (tgt := 25) hx hb dX11_whyNot_18 (by decide) (fun c => absurd (by decide) c) (fun _ => ?_)
    refine lv_iconst (v := (-1)) hx hb dX11_whyNot_21 (by decide) ?_
    refine lv_goto (tgt := 44) hx hb dX11_whyNot_22 (by decide) ?_
    refine W.widen (k := 0) (n := 0) (Nat.le_of_ble_eq_true rfl) (Nat.le_of_ble_eq_true rfl) ?_
    exact yy_iret (v := (-1)) () hx hb hr hlk rfl hsz hAe hK hP hD hS [0, 1] rfl rfl (by decide) (rfl) dX11_whyNot_44
set_option maxHeartbeats 4000000 in
set_option maxRecDepth 100000 in
theorem r_back (l : Launch) (dC : Nat → ClassId) (dI : Nat → Nat → Nat) (cyI cyZ cyO : ClassId) (sz : Nat) (h0 : Nat) (rz : Nat) (rf : Nat) (rl : Nat) (rwx : Nat) (rb : Nat) (rwd : Nat) (rk : Nat) (ra : Nat) (rs : Nat) (rt : Nat) (rwr : Nat) (rp : Nat) (rsi : Nat) (rke : Nat) (rkc : Nat) (rik : Nat) (k : Int32)  : Met l yX11_back wsX11_back ({ frames := 2, cells := 0, slots := 0, locals := 46 }) (yPre [.ref h0, .int k] (dC, dI) [(h0, .inr (11, [.ref rz, .int 0, .int 0, .ref rf, .ref rl, .ref rwx, .ref rb, .int 0, .ref rwd, .ref rk, .ref ra, .int 0, .int 32, .int 0, .ref rs, .ref rt, .int 0, .int 0, .ref rwr, .ref rp, .ref rsi, .ref rke, .ref rkc, .ref rik])), (rik, .inl (cyZ, 3, .inl (fun _ => 0)))] (yT cyI cyZ cyO) sz) (yQi (fun (r : Int32) (u : Unit) => r = (-1)) (dC, dI) [(h0, .inr (11, [.ref rz, .int 0, .int 0, .ref rf, .ref rl, .ref rwx, .ref rb, .int 0, .ref rwd, .ref rk, .ref ra, .int 0, .int 32, .int 0, .ref rs, .ref rt, .int 0, .int 0, .ref rwr, .ref rp, .ref rsi, .ref rke, .ref rkc, .ref rik])), (rik, .inl (cyZ, 3, .inl (fun _ => 0)))] (yT cyI cyZ cyO) sz (fun _ => [])) 0 0 (va_A [(h0, .inr (11, [.ref rz, .int 0, .int 0, .ref rf, .ref rl, .ref rwx, .ref rb, .int 0, .ref rwd, .ref rk, .ref ra, .int 0, .int 32, .int 0, .ref rs, .ref rt, .int 0, .int 0, .ref rwr, .ref rp, .ref rsi, .ref rke, .ref rkc, .ref rik])), (rik, .inl (cyZ, 3, .inl (fun _ => 0)))] sz) := by
  refine yMet (cc := cX11_back) (maxL := 4) (ret := (some .int)) (by decide) rfl (Nat.le_of_ble_eq_true rfl) ?_
  intro p e s m below meth c A hx hb hr hlk hml hts hown hnm hsz hAe hP hK hD hA hS ls hl
  have hl : lv_has ls 4 [(0, .ref h0), (1, .int k)] := hl
  refine lv_aload_n hx hb dX11_back_0 rfl (lv_at hl 0 rfl) ?_
  refine lv_iload_n hx hb dX11_back_1 rfl (lv_at hl 1 rfl) ?_
  have hPc := hP.sub (ws' := [(h0, .inr (11, [.ref rz, .int 0, .int 0, .ref rf, .ref rl, .ref rwx, .ref rb, .int 0, .ref rwd, .ref rk, .ref ra, .int 0, .int 32, .int 0, .ref rs, .ref rt, .int 0, .int 0, .ref rwr, .ref rp, .ref rsi, .ref rke, .ref rkc, .ref rik])), (rik, .inl (cyZ, 3, .inl (fun _ => 0)))]) [0, 1] rfl
  have hDc := hD.sub (ws' := [(h0, .inr (11, [.ref rz, .int 0, .int 0, .ref rf, .ref rl, .ref rwx, .ref rb, .int 0, .ref rwd, .ref rk, .ref ra, .int 0, .int 32, .int 0, .ref rs, .ref rt, .int 0, .int 0, .ref rwr, .ref rp, .ref rsi, .ref rke, .ref rkc, .ref rik])), (rik, .inl (cyZ, 3, .inl (fun _ => 0)))]) [0, 1] (by decide) rfl
  refine yy_calli [0, 1] [] (wr := []) (va_runV (As := [.int k]) (rest := []) ⟨hx, hb, hml, hown, hts⟩ (rp_X11_whyNot_156 l dC dI cyI cyZ cyO s.heap.size h0 k rz rf rl rwx rb rwd rk ra rs rt rwr rp rsi rke rkc rik ) (cwV 1 hts gX11_back_X11_whyNot rfl rfl rfl (by decide +kernel) ⟨Nat.le_of_ble_eq_true rfl, Nat.le_of_ble_eq_true rfl⟩) (yPreV hK hPc hDc (ci := 11) (q0 := 0) rfl rfl) rfl rfl hl.1 rfl (lv_room (Nat.le_of_ble_eq_true rfl)) dX11_back_2 ⟨Nat.le_of_ble_eq_true rfl, Nat.le_of_ble_eq_true rfl⟩) hP hD hS hA rfl rfl (by decide) (by decide) (fun r_2 u_1 H locs hw hP hD hS => ?_)
  have hP : va_P (dC, dI) vwCl [(h0, .inr (11, [.ref rz, .int 0, .int 0, .ref rf, .ref rl, .ref rwx, .ref rb, .int 0, .ref rwd, .ref rk, .ref ra, .int 0, .int 32, .int 0, .ref rs, .ref rt, .int 0, .int 0, .ref rwr, .ref rp, .ref rsi, .ref rke, .ref rkc, .ref rik])), (rik, .inl (cyZ, 3, .inl (fun _ => 0)))] H := hP
  have hD : va_D A [(h0, .inr (11, [.ref rz, .int 0, .int 0, .ref rf, .ref rl, .ref rwx, .ref rb, .int 0, .ref rwd, .ref rk, .ref ra, .int 0, .int 32, .int 0, .ref rs, .ref rt, .int 0, .int 0, .ref rwr, .ref rp, .ref rsi, .ref rke, .ref rkc, .ref rik])), (rik, .inl (cyZ, 3, .inl (fun _ => 0)))] := hD
  refine W.widen (k := 0) (n := 0) (Nat.le_of_ble_eq_true rfl) (Nat.le_of_ble_eq_true rfl) ?_
  have hw : r_2 = (-1) := hw
  subst hw
  refine lv_istore_n (lv' := [(2, .int (-1)), (0, .ref h0), (1, .int k)]) hx hb dX11_back_5 rfl hl (by decide) rfl (fun ls hl => ?_)
  refine lv_iload_n hx hb dX11_back_6 rfl (lv_at hl 0 rfl) ?_
  refine lv_if_ge (tgt := 16) hx hb dX11_back_7 (by decide) (fun c => absurd c (by decide)) (fun _ => ?_)
  refine lv_aload_n hx hb dX11_back_10 rfl (lv_at hl 1 rfl) ?_
  refine lv_iload_n hx hb dX11_back_11 rfl (lv_at hl 0 rfl) ?_
  have hPc := hP.sub (ws' := [(h0, .inr (11, [.ref rz, .int 0, .int 0, .ref rf, .ref rl, .ref rwx, .ref rb, .int 0, .ref rwd, .ref rk, .ref ra, .int 0, .int 32, .int 0, .ref rs, .ref rt, .int 0, .int 0, .ref rwr, .ref rp, .ref rsi, .ref rke, .ref rkc, .ref rik]))]) [0] rfl
  have hDc := hD.sub (ws' := [(h0, .inr (11, [.ref rz, .int 0, .int 0, .ref rf, .ref rl, .ref rwx, .ref rb, .int 0, .ref rwd, .ref rk, .ref ra, .int 0, .int 32, .int 0, .ref rs, .ref rt, .int 0, .int 0, .ref rwr, .ref rp, .ref rsi, .ref rke, .ref rkc, .ref rik]))]) [0] (by decide) rfl
  refine yy_calli [0] [1] (wr := [(rik, .inl (cyZ, 3, .inl (fun _ => 0)))]) (va_runV (As := [.int (-1)]) (rest := []) ⟨hx, hb, hml, hown, hts⟩ (r_refused l dC dI cyI cyZ cyO H.size h0 rz 0 0 rf rl rwx rb 0 rwd rk ra 0 32 0 rs rt 0 0 rwr rp rsi rke rkc rik (-1) ) (cwV 1 hts gX11_back_X11_refused rfl rfl rfl (by decide +kernel) ⟨Nat.le_of_ble_eq_true rfl, Nat.le_of_ble_eq_true rfl⟩) (yPreV hK hPc hDc (ci := 11) (q0 := 0) rfl rfl) rfl rfl hl.1 rfl (lv_room (Nat.le_of_ble_eq_true rfl)) dX11_back_12 ⟨Nat.le_of_ble_eq_true rfl, Nat.le_of_ble_eq_true rfl⟩) hP hD hS hA rfl rfl (by decide) (by decide) (fun r_4 u_3 H locs hw hP hD hS => ?_)
  have hP : va_P (dC, dI) vwCl [(rik, .inl (cyZ, 3, .inl (fun _ => 0))), (h0, .inr (11, [.ref rz, .int (-1), .int 0, .ref rf, .ref rl, .ref rwx, .ref rb, .int 0, .ref rwd, .ref rk, .ref ra, .int 0, .int 32, .int 0, .ref rs, .ref rt, .int 0, .int 0, .ref rwr, .ref rp, .ref rsi, .ref rke, .ref rkc, .ref rik]))] H := hP
  have hD : va_D A [(rik, .inl (cyZ, 3, .inl (fun _ => 0))), (h0, .inr (11, [.ref rz, .int (-1), .int 0, .ref rf, .ref rl, .ref rwx, .ref rb, .int 0, .ref rwd, .ref rk, .ref ra, .int 0, .int 32, .int 0, .ref rs, .ref rt, .int 0, .int 0, .ref rwr, .ref rp, .ref rsi, .ref rke, .ref rkc, .ref rik]))] := hD
  refine W.widen (k := 0) (n := 0) (Nat.le_of_ble_eq_true rfl) (Nat.le_of_ble_eq_true rfl) ?_
  have hw : r_4 = (-1) := hw.trans (by decide)
  subst hw
  refine W.widen (k := 0) (n := 0) (Nat.le_of_ble_eq_true rfl) (Nat.le_of_ble_eq_true rfl) ?_
  exact yy_iret (v := (-1)) () hx hb hr hlk rfl hsz hAe hK hP hD hS [] rfl rfl (by decide) (rfl) dX11_back_15
set_option maxHeartbeats 4000000 in
set_option maxRecDepth 100000 in
theorem r_differs (l : Launch) (dC : Nat → ClassId) (dI : Nat → Nat → Nat) (cyI cyZ cyO : ClassId) (sz : Nat) (h0 : Nat) (rz : Nat) (rf : Nat) (rl : Nat) (rwx : Nat) (rb : Nat) (rwd : Nat) (rk : Nat) (ra : Nat) (rs : Nat) (rt : Nat) (rwr : Nat) (rp : Nat) (rsi : Nat) (rke : Nat) (rkc : Nat) (rik : Nat) (k : Int32)  : Met l yX11_differs wsX11_differs ({ frames := 2, cells := 0, slots := 0, locals := 46 }) (yPre [.ref h0, .int k] (dC, dI) [(h0, .inr (11, [.ref rz, .int 0, .int 0, .ref rf, .ref rl, .ref rwx, .ref rb, .int 0, .ref rwd, .ref rk, .ref ra, .int 0, .int 32, .int 0, .ref rs, .ref rt, .int 0, .int 0, .ref rwr, .ref rp, .ref rsi, .ref rke, .ref rkc, .ref rik])), (rik, .inl (cyZ, 3, .inl (fun _ => 0)))] (yT cyI cyZ cyO) sz) (yQi (fun (r : Int32) (u : Unit) => r = (-1)) (dC, dI) [(h0, .inr (11, [.ref rz, .int 0, .int 0, .ref rf, .ref rl, .ref rwx, .ref rb, .int 0, .ref rwd, .ref rk, .ref ra, .int 0, .int 32, .int 0, .ref rs, .ref rt, .int 0, .int 0, .ref rwr, .ref rp, .ref rsi, .ref rke, .ref rkc, .ref rik])), (rik, .inl (cyZ, 3, .inl (fun _ => 0)))] (yT cyI cyZ cyO) sz (fun _ => [])) 0 0 (va_A [(h0, .inr (11, [.ref rz, .int 0, .int 0, .ref rf, .ref rl, .ref rwx, .ref rb, .int 0, .ref rwd, .ref rk, .ref ra, .int 0, .int 32, .int 0, .ref rs, .ref rt, .int 0, .int 0, .ref rwr, .ref rp, .ref rsi, .ref rke, .ref rkc, .ref rik])), (rik, .inl (cyZ, 3, .inl (fun _ => 0)))] sz) := by
  refine yMet (cc := cX11_differs) (maxL := 4) (ret := (some .int)) (by decide) rfl (Nat.le_of_ble_eq_true rfl) ?_
  intro p e s m below meth c A hx hb hr hlk hml hts hown hnm hsz hAe hP hK hD hA hS ls hl
  have hl : lv_has ls 4 [(0, .ref h0), (1, .int k)] := hl
  refine lv_aload_n hx hb dX11_differs_0 rfl (lv_at hl 0 rfl) ?_
  refine lv_iload_n hx hb dX11_differs_1 rfl (lv_at hl 1 rfl) ?_
  have hPc := hP.sub (ws' := [(h0, .inr (11, [.ref rz, .int 0, .int 0, .ref rf, .ref rl, .ref rwx, .ref rb, .int 0, .ref rwd, .ref rk, .ref ra, .int 0, .int 32, .int 0, .ref rs, .ref rt, .int 0, .int 0, .ref rwr, .ref rp, .ref rsi, .ref rke, .ref rkc, .ref rik])), (rik, .inl (cyZ, 3, .inl (fun _ => 0)))]) [0, 1] rfl
  have hDc := hD.sub (ws' := [(h0, .inr (11, [.ref rz, .int 0, .int 0, .ref rf, .ref rl, .ref rwx, .ref rb, .int 0, .ref rwd, .ref rk, .ref ra, .int 0, .int 32, .int 0, .ref rs, .ref rt, .int 0, .int 0, .ref rwr, .ref rp, .ref rsi, .ref rke, .ref rkc, .ref rik])), (rik, .inl (cyZ, 3, .inl (fun _ => 0)))]) [0, 1] (by decide) rfl
  refine yy_calli [0, 1] [] (wr := []) (va_runV (As := [.int k]) (rest := []) ⟨hx, hb, hml, hown, hts⟩ (rp_X11_whyNot_156 l dC dI cyI cyZ cyO s.heap.size h0 k rz rf rl rwx rb rwd rk ra rs rt rwr rp rsi rke rkc rik ) (cwV 1 hts gX11_differs_X11_whyNot rfl rfl rfl (by decide +kernel) ⟨Nat.le_of_ble_eq_true rfl, Nat.le_of_ble_eq_true rfl⟩) (yPreV hK hPc hDc (ci := 11) (q0 := 0) rfl rfl) rfl rfl hl.1 rfl (lv_room (Nat.le_of_ble_eq_true rfl)) dX11_differs_2 ⟨Nat.le_of_ble_eq_true rfl, Nat.le_of_ble_eq_true rfl⟩) hP hD hS hA rfl rfl (by decide) (by decide) (fun r_2 u_1 H locs hw hP hD hS => ?_)
  have hP : va_P (dC, dI) vwCl [(h0, .inr (11, [.ref rz, .int 0, .int 0, .ref rf, .ref rl, .ref rwx, .ref rb, .int 0, .ref rwd, .ref rk, .ref ra, .int 0, .int 32, .int 0, .ref rs, .ref rt, .int 0, .int 0, .ref rwr, .ref rp, .ref rsi, .ref rke, .ref rkc, .ref rik])), (rik, .inl (cyZ, 3, .inl (fun _ => 0)))] H := hP
  have hD : va_D A [(h0, .inr (11, [.ref rz, .int 0, .int 0, .ref rf, .ref rl, .ref rwx, .ref rb, .int 0, .ref rwd, .ref rk, .ref ra, .int 0, .int 32, .int 0, .ref rs, .ref rt, .int 0, .int 0, .ref rwr, .ref rp, .ref rsi, .ref rke, .ref rkc, .ref rik])), (rik, .inl (cyZ, 3, .inl (fun _ => 0)))] := hD
  refine W.widen (k := 0) (n := 0) (Nat.le_of_ble_eq_true rfl) (Nat.le_of_ble_eq_true rfl) ?_
  have hw : r_2 = (-1) := hw
  subst hw
  refine lv_istore_n (lv' := [(2, .int (-1)), (0, .ref h0), (1, .int k)]) hx hb dX11_differs_5 rfl hl (by decide) rfl (fun ls hl => ?_)
  refine lv_iload_n hx hb dX11_differs_6 rfl (lv_at hl 0 rfl) ?_
  refine lv_if_ge (tgt := 16) hx hb dX11_differs_7 (by decide) (fun c => absurd c (by decide)) (fun _ => ?_)
  refine lv_aload_n hx hb dX11_differs_10 rfl (lv_at hl 1 rfl) ?_
  refine lv_iload_n hx hb dX11_differs_11 rfl (lv_at hl 0 rfl) ?_
  have hPc := hP.sub (ws' := [(h0, .inr (11, [.ref rz, .int 0, .int 0, .ref rf, .ref rl, .ref rwx, .ref rb, .int 0, .ref rwd, .ref rk, .ref ra, .int 0, .int 32, .int 0, .ref rs, .ref rt, .int 0, .int 0, .ref rwr, .ref rp, .ref rsi, .ref rke, .ref rkc, .ref rik]))]) [0] rfl
  have hDc := hD.sub (ws' := [(h0, .inr (11, [.ref rz, .int 0, .int 0, .ref rf, .ref rl, .ref rwx, .ref rb, .int 0, .ref rwd, .ref rk, .ref ra, .int 0, .int 32, .int 0, .ref rs, .ref rt, .int 0, .int 0, .ref rwr, .ref rp, .ref rsi, .ref rke, .ref rkc, .ref rik]))]) [0] (by decide) rfl
  refine yy_calli [0] [1] (wr := [(rik, .inl (cyZ, 3, .inl (fun _ => 0)))]) (va_runV (As := [.int (-1)]) (rest := []) ⟨hx, hb, hml, hown, hts⟩ (r_refused l dC dI cyI cyZ cyO H.size h0 rz 0 0 rf rl rwx rb 0 rwd rk ra 0 32 0 rs rt 0 0 rwr rp rsi rke rkc rik (-1) ) (cwV 1 hts gX11_differs_X11_refused rfl rfl rfl (by decide +kernel) ⟨Nat.le_of_ble_eq_true rfl, Nat.le_of_ble_eq_true rfl⟩) (yPreV hK hPc hDc (ci := 11) (q0 := 0) rfl rfl) rfl rfl hl.1 rfl (lv_room (Nat.le_of_ble_eq_true rfl)) dX11_differs_12 ⟨Nat.le_of_ble_eq_true rfl, Nat.le_of_ble_eq_true rfl⟩) hP hD hS hA rfl rfl (by decide) (by decide) (fun r_4 u_3 H locs hw hP hD hS => ?_)
  have hP : va_P (dC, dI) vwCl [(rik, .inl (cyZ, 3, .inl (fun _ => 0))), (h0, .inr (11, [.ref rz, .int (-1), .int 0, .ref rf, .ref rl, .ref rwx, .ref rb, .int 0, .ref rwd, .ref rk, .ref ra, .int 0, .int 32, .int 0, .ref rs, .ref rt, .int 0, .int 0, .ref rwr, .ref rp, .ref rsi, .ref rke, .ref rkc, .ref rik]))] H := hP
  have hD : va_D A [(rik, .inl (cyZ, 3, .inl (fun _ => 0))), (h0, .inr (11, [.ref rz, .int (-1), .int 0, .ref rf, .ref rl, .ref rwx, .ref rb, .int 0, .ref rwd, .ref rk, .ref ra, .int 0, .int 32, .int 0, .ref rs, .ref rt, .int 0, .int 0, .ref rwr, .ref rp, .ref rsi, .ref rke, .ref rkc, .ref rik]))] := hD
  refine W.widen (k := 0) (n := 0) (Nat.le_of_ble_eq_true rfl) (Nat.le_of_ble_eq_true rfl) ?_
  have hw : r_4 = (-1) := hw.trans (by decide)
  subst hw
  refine W.widen (k := 0) (n := 0) (Nat.le_of_ble_eq_true rfl) (Nat.le_of_ble_eq_true rfl) ?_
  exact yy_iret (v := (-1)) () hx hb hr hlk rfl hsz hAe hK hP hD hS [] rfl rfl (by decide) (rfl) dX11_differs_15
theorem yn500r {n : Int32} (h : ¬ zB (0 ≤ n ∧ n ≤ 500) = 0) : ∃ N : Nat, N ≤ 500 ∧ n = nI N := by
  have h2 : 0 ≤ n ∧ n ≤ 500 := Decidable.not_not.mp (fun q => h (zB0.mpr q))
  exact yn500 (Int32.not_lt.mpr h2.1) h2.2
theorem ykeep {k : Int32} {i : Nat} (h : vp_in k 3) (hi : i < 2490) : vp_in (2490 * k + nI i) 7470 := by
  obtain ⟨j, hj, rfl⟩ := vp_in_of h (by decide)
  rw [show (2490 : Int32) = nI 2490 from by decide, pk_mul, nI_add]
  exact vp_in_nI (by omega) (by decide)
set_option maxHeartbeats 4000000 in
set_option maxRecDepth 100000 in
theorem r_clock (l : Launch) (dC : Nat → ClassId) (dI : Nat → Nat → Nat) (cyI cyZ cyO : ClassId) (sz : Nat) (h0 : Nat) (rz : Nat) (rf : Nat) (rl : Nat) (rwx : Nat) (rb : Nat) (rwd : Nat) (rk : Nat) (ra : Nat) (rs : Nat) (rt : Nat) (rwr : Nat) (rp : Nat) (rsi : Nat) (rke : Nat) (rkc : Nat) (rik : Nat) (n : Int32)  : Met l yX11_clock wsX11_clock ({ frames := 4, cells := 0, slots := 0, locals := 92 }) (yPre [.ref h0, .int n] (dC, dI) [(h0, .inr (11, [.ref rz, .int 0, .int 0, .ref rf, .ref rl, .ref rwx, .ref rb, .int 0, .ref rwd, .ref rk, .ref ra, .int 0, .int 32, .int 0, .ref rs, .ref rt, .int 0, .int 0, .ref rwr, .ref rp, .ref rsi, .ref rke, .ref rkc, .ref rik])), (rz, .inl (cyI, 2490, .inl (yz 0 0))), (rs, .inl (cyI, 15, .inl (fun _ => 0))), (rt, .inl (cyI, 15, .inl (fun _ => 0)))] (yT cyI cyZ cyO) sz) (yQi (fun (r : Int32) (u : Unit) => r = (sp_clock n)) (dC, dI) [(h0, .inr (11, [.ref rz, .int 0, .int 0, .ref rf, .ref rl, .ref rwx, .ref rb, .int 0, .ref rwd, .ref rk, .ref ra, .int 0, .int 32, .int 0, .ref rs, .ref rt, .int 0, .int 0, .ref rwr, .ref rp, .ref rsi, .ref rke, .ref rkc, .ref rik])), (rz, .inl (cyI, 2490, .inl (yz 0 0))), (rs, .inl (cyI, 15, .inl (fun _ => 0))), (rt, .inl (cyI, 15, .inl (fun _ => 0)))] (yT cyI cyZ cyO) sz (fun _ => [])) 0 0 (va_A [(h0, .inr (11, [.ref rz, .int 0, .int 0, .ref rf, .ref rl, .ref rwx, .ref rb, .int 0, .ref rwd, .ref rk, .ref ra, .int 0, .int 32, .int 0, .ref rs, .ref rt, .int 0, .int 0, .ref rwr, .ref rp, .ref rsi, .ref rke, .ref rkc, .ref rik])), (rz, .inl (cyI, 2490, .inl (yz 0 0))), (rs, .inl (cyI, 15, .inl (fun _ => 0))), (rt, .inl (cyI, 15, .inl (fun _ => 0)))] sz) := by
  refine yMet (cc := cX11_clock) (maxL := 3) (ret := (some .int)) (by decide) rfl (Nat.le_of_ble_eq_true rfl) ?_
  intro p e s m below meth c A hx hb hr hlk hml hts hown hnm hsz hAe hP hK hD hA hS ls hl
  have hl : lv_has ls 3 [(0, .ref h0), (1, .int n)] := hl
  have hf7 := hts (.fieldLink RX11 7 "BusBridgeModel" "z" "[I") (by decide +kernel)
  have hl194 := hts (.constantLong RX11 194 500) (by decide +kernel)
  have hnX11 : ∀ w ∈ wsX110, w ∈ wsX11_clock := by decide +kernel
  refine lv_iload_n hx hb dX11_clock_0 rfl (lv_at hl 1 rfl) ?_
  refine lv_i2l hx hb dX11_clock_1 rfl ?_
  refine lv_lconst (v := (0 : Int32).toInt64) hx hb dX11_clock_2 (by decide) ?_
  refine lv_ldc2 (v := 500) hx hb hown hl194 dX11_clock_3 ?_
  refine yy_long (v := (500 : Int32).toInt64) (by decide) ?_
  have hPc := hP.sub (ws' := []) [] rfl
  have hDc := hD.sub (ws' := []) [] (by decide) rfl
  refine yy_calli [] [0, 1, 2, 3] (wr := [(h0, .inr (11, [.ref rz, .int 0, .int 0, .ref rf, .ref rl, .ref rwx, .ref rb, .int 0, .ref rwd, .ref rk, .ref ra, .int 0, .int 32, .int 0, .ref rs, .ref rt, .int 0, .int 0, .ref rwr, .ref rp, .ref rsi, .ref rke, .ref rkc, .ref rik])), (rz, .inl (cyI, 2490, .inl (yz 0 0))), (rs, .inl (cyI, 15, .inl (fun _ => 0))), (rt, .inl (cyI, 15, .inl (fun _ => 0)))]) (va_runS (As := [.long (n : Int32).toInt64, .long (0 : Int32).toInt64, .long (500 : Int32).toInt64]) (rest := []) ⟨hx, hb, hml, hown, hts⟩ (r_in l dC dI cyI cyZ cyO s.heap.size n 0 500 ) (va_cwS 3 hts gX11_clock_X11_in rfl rfl rfl (by decide +kernel) ⟨Nat.le_of_ble_eq_true rfl, Nat.le_of_ble_eq_true rfl⟩) (yPreS hK hPc hDc) rfl rfl hl.1 rfl (lv_room (Nat.le_of_ble_eq_true rfl)) dX11_clock_6 ⟨Nat.le_of_ble_eq_true rfl, Nat.le_of_ble_eq_true rfl⟩) hP hD hS hA rfl rfl (by decide) (by decide) (fun r_2 u_1 H locs hw hP hD hS => ?_)
  have hP : va_P (dC, dI) vwCl [(h0, .inr (11, [.ref rz, .int 0, .int 0, .ref rf, .ref rl, .ref rwx, .ref rb, .int 0, .ref rwd, .ref rk, .ref ra, .int 0, .int 32, .int 0, .ref rs, .ref rt, .int 0, .int 0, .ref rwr, .ref rp, .ref rsi, .ref rke, .ref rkc, .ref rik])), (rz, .inl (cyI, 2490, .inl (yz 0 0))), (rs, .inl (cyI, 15, .inl (fun _ => 0))), (rt, .inl (cyI, 15, .inl (fun _ => 0)))] H := hP
  have hD : va_D A [(h0, .inr (11, [.ref rz, .int 0, .int 0, .ref rf, .ref rl, .ref rwx, .ref rb, .int 0, .ref rwd, .ref rk, .ref ra, .int 0, .int 32, .int 0, .ref rs, .ref rt, .int 0, .int 0, .ref rwr, .ref rp, .ref rsi, .ref rke, .ref rkc, .ref rik])), (rz, .inl (cyI, 2490, .inl (yz 0 0))), (rs, .inl (cyI, 15, .inl (fun _ => 0))), (rt, .inl (cyI, 15, .inl (fun _ => 0)))] := hD
  refine W.widen (k := 0) (n := 0) (Nat.le_of_ble_eq_true rfl) (Nat.le_of_ble_eq_true rfl) ?_
  have hw : r_2 = (zB (0 ≤ n ∧ n ≤ 500)) := hw
  subst hw
  refine lv_if_ne (tgt := 19) hx hb dX11_clock_9 (by decide) (fun c9 => ?_) (fun c9 => ?_)
  · refine lv_iconst (v := 0) hx hb dX11_clock_19 (by decide) ?_
    refine lv_istore_n (lv' := [(2, .int 0), (0, .ref h0), (1, .int n)]) hx hb dX11_clock_20 rfl hl (by decide) rfl (fun ls hl => ?_)
    obtain ⟨N, hN, rfl⟩ := yn500r c9
    refine lv_iload_n hx hb dX11_clock_21 rfl (lv_at hl 0 rfl) ?_
    refine lv_iload_n hx hb dX11_clock_22 rfl (lv_at hl 2 rfl) ?_
    refine lv_icmp_ge (tgt := 36) hx hb dX11_clock_23 (by decide) (fun c23 => ?_) (fun c23 => ?_)
    · refine lv_aload_n hx hb dX11_clock_36 rfl (lv_at hl 1 rfl) ?_
      refine lv_aload_n hx hb dX11_clock_37 rfl (lv_at hl 1 rfl) ?_
      refine va_get (D := (dC, dI)) (ci := 11) (v := .ref rz) (C := RX11) (T := TX11) (N := 24) hx hb hts hnX11 hown hK hP 0 rfl rfl 0 (by decide) hf7 (fun _ h9 => h9) rfl dX11_clock_38 ?_
      refine lv_sipush (v := 179) hx hb dX11_clock_41 (by decide) ?_
      refine yy_iald (v := 0) hx hb hK hP 1 0 rfl rfl (yin (by decide)) dX11_clock_44 rfl ?_
      have hPc := hP.sub (ws' := [(h0, .inr (11, [.ref rz, .int 0, .int 0, .ref rf, .ref rl, .ref rwx, .ref rb, .int 0, .ref rwd, .ref rk, .ref ra, .int 0, .int 32, .int 0, .ref rs, .ref rt, .int 0, .int 0, .ref rwr, .ref rp, .ref rsi, .ref rke, .ref rkc, .ref rik]))]) [0] rfl
      have hDc := hD.sub (ws' := [(h0, .inr (11, [.ref rz, .int 0, .int 0, .ref rf, .ref rl, .ref rwx, .ref rb, .int 0, .ref rwd, .ref rk, .ref ra, .int 0, .int 32, .int 0, .ref rs, .ref rt, .int 0, .int 0, .ref rwr, .ref rp, .ref rsi, .ref rke, .ref rkc, .ref rik]))]) [0] (by decide) rfl
      refine yy_calli [0] [1, 2, 3] (wr := [(rz, .inl (cyI, 2490, .inl (yz 0 0))), (rs, .inl (cyI, 15, .inl (fun _ => 0))), (rt, .inl (cyI, 15, .inl (fun _ => 0)))]) (va_runV (As := [.int 0]) (rest := []) ⟨hx, hb, hml, hown, hts⟩ (r_done l dC dI cyI cyZ cyO H.size h0 rz 0 0 rf rl rwx rb 0 rwd rk ra 0 32 0 rs rt 0 0 rwr rp rsi rke rkc rik 0 ) (cwV 1 hts gX11_clock_X11_done rfl rfl rfl (by decide +kernel) ⟨Nat.le_of_ble_eq_true rfl, Nat.le_of_ble_eq_true rfl⟩) (yPreV hK hPc hDc (ci := 11) (q0 := 0) rfl rfl) rfl rfl hl.1 rfl (lv_room (Nat.le_of_ble_eq_true rfl)) dX11_clock_45 ⟨Nat.le_of_ble_eq_true rfl, Nat.le_of_ble_eq_true rfl⟩) hP hD hS hA rfl rfl (by decide) (by decide) (fun r_4 u_3 H locs hw hP hD hS => ?_)
      have hP : va_P (dC, dI) vwCl [(rz, .inl (cyI, 2490, .inl (yz 0 0))), (rs, .inl (cyI, 15, .inl (fun _ => 0))), (rt, .inl (cyI, 15, .inl (fun _ => 0))), (h0, .inr (11, [.ref rz, .int 0, .int 0, .ref rf, .ref rl, .ref rwx, .ref rb, .int 0, .ref rwd, .ref rk, .ref ra, .int 0, .int 32, .int 0, .ref rs, .ref rt, .int 0, .int 0, .ref rwr, .ref rp, .ref rsi, .ref rke, .ref rkc, .ref rik]))] H := hP
      have hD : va_D A [(rz, .inl (cyI, 2490, .inl (yz 0 0))), (rs, .inl (cyI, 15, .inl (fun _ => 0))), (rt, .inl (cyI, 15, .inl (fun _ => 0))), (h0, .inr (11, [.ref rz, .int 0, .int 0, .ref rf, .ref rl, .ref rwx, .ref rb, .int 0, .ref rwd, .ref rk, .ref ra, .int 0, .int 32, .int 0, .ref rs, .ref rt, .int 0, .int 0, .ref rwr, .ref rp, .ref rsi, .ref rke, .ref rkc, .ref rik]))] := hD
      refine W.widen (k := 0) (n := 0) (Nat.le_of_ble_eq_true rfl) (Nat.le_of_ble_eq_true rfl) ?_
      have hw : r_4 = 0 := hw.trans (by decide)
      subst hw
      refine W.widen (k := 0) (n := 0) (Nat.le_of_ble_eq_true rfl) (Nat.le_of_ble_eq_true rfl) ?_
      exact yy_iret (v := 0) () hx hb hr hlk rfl hsz hAe hK hP hD hS [] rfl rfl (by decide) (by have e0 : N = 0 := (by rcases Nat.eq_zero_or_pos N with q | q; exact q; exact absurd c23 (nI_nle q (by omega))); rw [e0]; decide) dX11_clock_48
    · refine lv_aload_n hx hb dX11_clock_26 rfl (lv_at hl 1 rfl) ?_
      have hPc := hP.sub (ws' := [(h0, .inr (11, [.ref rz, .int 0, .int 0, .ref rf, .ref rl, .ref rwx, .ref rb, .int 0, .ref rwd, .ref rk, .ref ra, .int 0, .int 32, .int 0, .ref rs, .ref rt, .int 0, .int 0, .ref rwr, .ref rp, .ref rsi, .ref rke, .ref rkc, .ref rik])), (rz, .inl (cyI, 2490, .inl (yz 0 0))), (rs, .inl (cyI, 15, .inl (fun _ => 0))), (rt, .inl (cyI, 15, .inl (fun _ => 0)))]) [0, 1, 2, 3] rfl
      have hDc := hD.sub (ws' := [(h0, .inr (11, [.ref rz, .int 0, .int 0, .ref rf, .ref rl, .ref rwx, .ref rb, .int 0, .ref rwd, .ref rk, .ref ra, .int 0, .int 32, .int 0, .ref rs, .ref rt, .int 0, .int 0, .ref rwr, .ref rp, .ref rsi, .ref rke, .ref rkc, .ref rik])), (rz, .inl (cyI, 2490, .inl (yz 0 0))), (rs, .inl (cyI, 15, .inl (fun _ => 0))), (rt, .inl (cyI, 15, .inl (fun _ => 0)))]) [0, 1, 2, 3] (by decide) rfl
      refine yy_callv [0, 1, 2, 3] [] (wr := []) (va_runV (As := []) (rest := []) ⟨hx, hb, hml, hown, hts⟩ (r_goOn_0 l dC dI cyI cyZ cyO H.size h0 rz rf rl rwx rb rwd rk ra rs rt rwr rp rsi rke rkc rik ) (cwV 0 hts gX11_clock_X11_goOn rfl rfl rfl (by decide +kernel) ⟨Nat.le_of_ble_eq_true rfl, Nat.le_of_ble_eq_true rfl⟩) (yPreV hK hPc hDc (ci := 11) (q0 := 0) rfl rfl) rfl rfl hl.1 rfl (lv_room (Nat.le_of_ble_eq_true rfl)) dX11_clock_27 ⟨Nat.le_of_ble_eq_true rfl, Nat.le_of_ble_eq_true rfl⟩) hP hD hS hA rfl rfl (by decide) (by decide) (fun u_5 H locs hw hP hD hS => ?_)
      have hP : va_P (dC, dI) vwCl [(h0, .inr (11, [.ref rz, .int 0, .int 0, .ref rf, .ref rl, .ref rwx, .ref rb, .int 0, .ref rwd, .ref rk, .ref ra, .int 0, .int 32, .int 0, .ref rs, .ref rt, .int 0, .int 0, .ref rwr, .ref rp, .ref rsi, .ref rke, .ref rkc, .ref rik])), (rz, .inl (cyI, 2490, .inl (yz 1 1))), (rs, .inl (cyI, 15, .inl yR)), (rt, .inl (cyI, 15, .inl yR))] H := hP
      have hD : va_D A [(h0, .inr (11, [.ref rz, .int 0, .int 0, .ref rf, .ref rl, .ref rwx, .ref rb, .int 0, .ref rwd, .ref rk, .ref ra, .int 0, .int 32, .int 0, .ref rs, .ref rt, .int 0, .int 0, .ref rwr, .ref rp, .ref rsi, .ref rke, .ref rkc, .ref rik])), (rz, .inl (cyI, 2490, .inl (yz 1 1))), (rs, .inl (cyI, 15, .inl yR)), (rt, .inl (cyI, 15, .inl yR))] := hD
      refine W.widen (k := 0) (n := 0) (Nat.le_of_ble_eq_true rfl) (Nat.le_of_ble_eq_true rfl) ?_
      refine lv_iinc (v := 1) (lv' := [(2, .int 1), (0, .ref h0), (1, .int (nI N))]) hx hb dX11_clock_30 hl (k := 0) rfl (by decide) (by decide) rfl (fun ls hl => ?_)
      refine lv_goto (tgt := 21) hx hb dX11_clock_33 (by decide) ?_
      have key : ∀ (k j : Nat) (H : Heap) (locs : List Loc) (ls : Array Slot), 1 ≤ j → j ≤ N → N + 1 ≤ j + k → va_P (dC, dI) vwCl [(h0, .inr (11, [.ref rz, .int 0, .int 0, .ref rf, .ref rl, .ref rwx, .ref rb, .int 0, .ref rwd, .ref rk, .ref ra, .int 0, .int 32, .int 0, .ref rs, .ref rt, .int 0, .int 0, .ref rwr, .ref rp, .ref rsi, .ref rke, .ref rkc, .ref rik])), (rz, .inl (cyI, 2490, .inl (yz (nI j) 1))), (rs, .inl (cyI, 15, .inl yR)), (rt, .inl (cyI, 15, .inl yR))] H → va_D A [(h0, .inr (11, [.ref rz, .int 0, .int 0, .ref rf, .ref rl, .ref rwx, .ref rb, .int 0, .ref rwd, .ref rk, .ref ra, .int 0, .int 32, .int 0, .ref rs, .ref rt, .int 0, .int 0, .ref rwr, .ref rp, .ref rsi, .ref rke, .ref rkc, .ref rik])), (rz, .inl (cyI, 2490, .inl (yz (nI j) 1))), (rs, .inl (cyI, 15, .inl yR)), (rt, .inl (cyI, 15, .inl yR))] → va_S A s.heap H locs → lv_has ls 3 [(2, .int (nI j)), (0, .ref h0), (1, .int (nI N))] → W p l e ({ frames := 4, cells := 0, slots := 0, locals := 92 } : Room) s m [.ref h0, .int (nI N)].toArray below meth c H locs 0 0 (MQ below (yQi (fun (r : Int32) (u : Unit) => r = (sp_clock (nI N))) (dC, dI) [(h0, .inr (11, [.ref rz, .int 0, .int 0, .ref rf, .ref rl, .ref rwx, .ref rb, .int 0, .ref rwd, .ref rk, .ref ra, .int 0, .int 32, .int 0, .ref rs, .ref rt, .int 0, .int 0, .ref rwr, .ref rp, .ref rsi, .ref rke, .ref rkc, .ref rik])), (rz, .inl (cyI, 2490, .inl (yz 0 0))), (rs, .inl (cyI, 15, .inl (fun _ => 0))), (rt, .inl (cyI, 15, .inl (fun _ => 0)))] (yT cyI cyZ cyO) sz (fun _ => [])) [.ref h0, .int (nI N)].toArray s 0 0 A) (F0 m 21 ls []) := by
        intro k
        induction k with
        | zero => intro j H locs ls h1 h2 h3; exact absurd h3 (by omega)
        | succ k ih =>
          intro j H locs ls h1 h2 h3 hP hD hS hl
          have hj0 : ¬ nI j = 0 := nI_ne0 (by omega) (by omega)
          have hj1 : ¬ nI j ≤ 0 := nI_nle (by omega) (by omega)
          refine lv_iload_n hx hb dX11_clock_21 rfl (lv_at hl 0 rfl) ?_
          refine lv_iload_n hx hb dX11_clock_22 rfl (lv_at hl 2 rfl) ?_
          refine lv_icmp_ge (tgt := 36) hx hb dX11_clock_23 (by decide) (fun c9 => ?_) (fun c9 => ?_)
          · have ej : j = N := by rcases Nat.lt_or_ge j N with q | q; exact absurd c9 (nI_ge q (by omega)); omega
            refine lv_aload_n hx hb dX11_clock_36 rfl (lv_at hl 1 rfl) ?_
            refine lv_aload_n hx hb dX11_clock_37 rfl (lv_at hl 1 rfl) ?_
            refine va_get (D := (dC, dI)) (ci := 11) (v := .ref rz) (C := RX11) (T := TX11) (N := 24) hx hb hts hnX11 hown hK hP 0 rfl rfl 0 (by decide) hf7 (fun _ h9 => h9) rfl dX11_clock_38 ?_
            refine lv_sipush (v := 179) hx hb dX11_clock_41 (by decide) ?_
            refine yy_iald (v := (nI j)) hx hb hK hP 1 0 rfl rfl (yin (by decide)) dX11_clock_44 rfl ?_
            have hPc := hP.sub (ws' := [(h0, .inr (11, [.ref rz, .int 0, .int 0, .ref rf, .ref rl, .ref rwx, .ref rb, .int 0, .ref rwd, .ref rk, .ref ra, .int 0, .int 32, .int 0, .ref rs, .ref rt, .int 0, .int 0, .ref rwr, .ref rp, .ref rsi, .ref rke, .ref rkc, .ref rik]))]) [0] rfl
            have hDc := hD.sub (ws' := [(h0, .inr (11, [.ref rz, .int 0, .int 0, .ref rf, .ref rl, .ref rwx, .ref rb, .int 0, .ref rwd, .ref rk, .ref ra, .int 0, .int 32, .int 0, .ref rs, .ref rt, .int 0, .int 0, .ref rwr, .ref rp, .ref rsi, .ref rke, .ref rkc, .ref rik]))]) [0] (by decide) rfl
            refine yy_calli [0] [1, 2, 3] (wr := [(rz, .inl (cyI, 2490, .inl (yz (nI j) 1))), (rs, .inl (cyI, 15, .inl yR)), (rt, .inl (cyI, 15, .inl yR))]) (va_runV (As := [.int (nI j)]) (rest := []) ⟨hx, hb, hml, hown, hts⟩ (r_done l dC dI cyI cyZ cyO H.size h0 rz 0 0 rf rl rwx rb 0 rwd rk ra 0 32 0 rs rt 0 0 rwr rp rsi rke rkc rik (nI j) ) (cwV 1 hts gX11_clock_X11_done rfl rfl rfl (by decide +kernel) ⟨Nat.le_of_ble_eq_true rfl, Nat.le_of_ble_eq_true rfl⟩) (yPreV hK hPc hDc (ci := 11) (q0 := 0) rfl rfl) rfl rfl hl.1 rfl (lv_room (Nat.le_of_ble_eq_true rfl)) dX11_clock_45 ⟨Nat.le_of_ble_eq_true rfl, Nat.le_of_ble_eq_true rfl⟩) hP hD hS hA rfl rfl (by decide) (by decide) (fun r_7 u_6 H locs hw hP hD hS => ?_)
            have hP : va_P (dC, dI) vwCl [(rz, .inl (cyI, 2490, .inl (yz (nI j) 1))), (rs, .inl (cyI, 15, .inl yR)), (rt, .inl (cyI, 15, .inl yR)), (h0, .inr (11, [.ref rz, .int 0, .int 0, .ref rf, .ref rl, .ref rwx, .ref rb, .int 0, .ref rwd, .ref rk, .ref ra, .int 0, .int 32, .int 0, .ref rs, .ref rt, .int 0, .int 0, .ref rwr, .ref rp, .ref rsi, .ref rke, .ref rkc, .ref rik]))] H := hP
            have hD : va_D A [(rz, .inl (cyI, 2490, .inl (yz (nI j) 1))), (rs, .inl (cyI, 15, .inl yR)), (rt, .inl (cyI, 15, .inl yR)), (h0, .inr (11, [.ref rz, .int 0, .int 0, .ref rf, .ref rl, .ref rwx, .ref rb, .int 0, .ref rwd, .ref rk, .ref ra, .int 0, .int 32, .int 0, .ref rs, .ref rt, .int 0, .int 0, .ref rwr, .ref rp, .ref rsi, .ref rke, .ref rkc, .ref rik]))] := hD
            refine W.widen (k := 0) (n := 0) (Nat.le_of_ble_eq_true rfl) (Nat.le_of_ble_eq_true rfl) ?_
            have hw : r_7 = (nI j) := hw
            subst hw
            refine W.widen (k := 0) (n := 0) (Nat.le_of_ble_eq_true rfl) (Nat.le_of_ble_eq_true rfl) ?_
            exact yy_iret (v := (nI j)) () hx hb hr hlk rfl hsz hAe hK hP hD hS [] rfl rfl (by decide) (by rw [ej]; exact yclk hN) dX11_clock_48
          · have hlt : j < N := by rcases Nat.lt_or_ge j N with q | q; exact q; exact absurd (nI_le q (by omega)) c9
            refine lv_aload_n hx hb dX11_clock_26 rfl (lv_at hl 1 rfl) ?_
            have hPc := hP.sub (ws' := [(h0, .inr (11, [.ref rz, .int 0, .int 0, .ref rf, .ref rl, .ref rwx, .ref rb, .int 0, .ref rwd, .ref rk, .ref ra, .int 0, .int 32, .int 0, .ref rs, .ref rt, .int 0, .int 0, .ref rwr, .ref rp, .ref rsi, .ref rke, .ref rkc, .ref rik])), (rz, .inl (cyI, 2490, .inl (yz (nI j) 1))), (rs, .inl (cyI, 15, .inl yR)), (rt, .inl (cyI, 15, .inl yR))]) [0, 1, 2, 3] rfl
            have hDc := hD.sub (ws' := [(h0, .inr (11, [.ref rz, .int 0, .int 0, .ref rf, .ref rl, .ref rwx, .ref rb, .int 0, .ref rwd, .ref rk, .ref ra, .int 0, .int 32, .int 0, .ref rs, .ref rt, .int 0, .int 0, .ref rwr, .ref rp, .ref rsi, .ref rke, .ref rkc, .ref rik])), (rz, .inl (cyI, 2490, .inl (yz (nI j) 1))), (rs, .inl (cyI, 15, .inl yR)), (rt, .inl (cyI, 15, .inl yR))]) [0, 1, 2, 3] (by decide) rfl
            refine yy_callv [0, 1, 2, 3] [] (wr := []) (va_runV (As := []) (rest := []) ⟨hx, hb, hml, hown, hts⟩ (r_goOn_S l dC dI cyI cyZ cyO H.size h0 rz rf rl rwx rb rwd rk ra rs rt rwr rp rsi rke rkc rik (nI j) (by first | assumption | decide)) (cwV 0 hts gX11_clock_X11_goOn rfl rfl rfl (by decide +kernel) ⟨Nat.le_of_ble_eq_true rfl, Nat.le_of_ble_eq_true rfl⟩) (yPreV hK hPc hDc (ci := 11) (q0 := 0) rfl rfl) rfl rfl hl.1 rfl (lv_room (Nat.le_of_ble_eq_true rfl)) dX11_clock_27 ⟨Nat.le_of_ble_eq_true rfl, Nat.le_of_ble_eq_true rfl⟩) hP hD hS hA rfl rfl (by decide) (by decide) (fun u_8 H locs hw hP hD hS => ?_)
            have hP : va_P (dC, dI) vwCl [(h0, .inr (11, [.ref rz, .int 0, .int 0, .ref rf, .ref rl, .ref rwx, .ref rb, .int 0, .ref rwd, .ref rk, .ref ra, .int 0, .int 32, .int 0, .ref rs, .ref rt, .int 0, .int 0, .ref rwr, .ref rp, .ref rsi, .ref rke, .ref rkc, .ref rik])), (rz, .inl (cyI, 2490, .inl (yz ((nI j) + 1) 1))), (rs, .inl (cyI, 15, .inl yR)), (rt, .inl (cyI, 15, .inl yR))] H := hP
            have hD : va_D A [(h0, .inr (11, [.ref rz, .int 0, .int 0, .ref rf, .ref rl, .ref rwx, .ref rb, .int 0, .ref rwd, .ref rk, .ref ra, .int 0, .int 32, .int 0, .ref rs, .ref rt, .int 0, .int 0, .ref rwr, .ref rp, .ref rsi, .ref rke, .ref rkc, .ref rik])), (rz, .inl (cyI, 2490, .inl (yz ((nI j) + 1) 1))), (rs, .inl (cyI, 15, .inl yR)), (rt, .inl (cyI, 15, .inl yR))] := hD
            refine W.widen (k := 0) (n := 0) (Nat.le_of_ble_eq_true rfl) (Nat.le_of_ble_eq_true rfl) ?_
            have hP : va_P (dC, dI) vwCl [(h0, .inr (11, [.ref rz, .int 0, .int 0, .ref rf, .ref rl, .ref rwx, .ref rb, .int 0, .ref rwd, .ref rk, .ref ra, .int 0, .int 32, .int 0, .ref rs, .ref rt, .int 0, .int 0, .ref rwr, .ref rp, .ref rsi, .ref rke, .ref rkc, .ref rik])), (rz, .inl (cyI, 2490, .inl (yz (nI (j + 1)) 1))), (rs, .inl (cyI, 15, .inl yR)), (rt, .inl (cyI, 15, .inl yR))] H := by rw [← nI_1]; exact hP
            have hD : va_D A [(h0, .inr (11, [.ref rz, .int 0, .int 0, .ref rf, .ref rl, .ref rwx, .ref rb, .int 0, .ref rwd, .ref rk, .ref ra, .int 0, .int 32, .int 0, .ref rs, .ref rt, .int 0, .int 0, .ref rwr, .ref rp, .ref rsi, .ref rke, .ref rkc, .ref rik])), (rz, .inl (cyI, 2490, .inl (yz (nI (j + 1)) 1))), (rs, .inl (cyI, 15, .inl yR)), (rt, .inl (cyI, 15, .inl yR))] := by rw [← nI_1]; exact hD
            refine lv_iinc (v := (nI (j + 1))) (lv' := [(2, .int (nI (j + 1))), (0, .ref h0), (1, .int (nI N))]) hx hb dX11_clock_30 hl (k := 0) rfl (nI_1 j) (by decide) rfl (fun ls hl => ?_)
            refine lv_goto (tgt := 21) hx hb dX11_clock_33 (by decide) ?_
            exact ih (j + 1) _ _ _ (by omega) (by omega) (by omega) hP hD hS (lv_sub hl [0, 1, 2] rfl)
      exact key N 1 _ _ _ (Nat.le_refl 1) (by rcases Nat.eq_zero_or_pos N with q | q; exact absurd (by rw [q]; decide) c23; exact q) (by omega) hP hD hS hl
  · refine lv_aload_n hx hb dX11_clock_12 rfl (lv_at hl 0 rfl) ?_
    refine lv_bipush (v := (-2)) hx hb dX11_clock_13 (by decide) ?_
    have hPc := hP.sub (ws' := [(h0, .inr (11, [.ref rz, .int 0, .int 0, .ref rf, .ref rl, .ref rwx, .ref rb, .int 0, .ref rwd, .ref rk, .ref ra, .int 0, .int 32, .int 0, .ref rs, .ref rt, .int 0, .int 0, .ref rwr, .ref rp, .ref rsi, .ref rke, .ref rkc, .ref rik]))]) [0] rfl
    have hDc := hD.sub (ws' := [(h0, .inr (11, [.ref rz, .int 0, .int 0, .ref rf, .ref rl, .ref rwx, .ref rb, .int 0, .ref rwd, .ref rk, .ref ra, .int 0, .int 32, .int 0, .ref rs, .ref rt, .int 0, .int 0, .ref rwr, .ref rp, .ref rsi, .ref rke, .ref rkc, .ref rik]))]) [0] (by decide) rfl
    refine yy_calli [0] [1, 2, 3] (wr := [(rz, .inl (cyI, 2490, .inl (yz 0 0))), (rs, .inl (cyI, 15, .inl (fun _ => 0))), (rt, .inl (cyI, 15, .inl (fun _ => 0)))]) (va_runV (As := [.int (-2)]) (rest := []) ⟨hx, hb, hml, hown, hts⟩ (r_refused l dC dI cyI cyZ cyO H.size h0 rz 0 0 rf rl rwx rb 0 rwd rk ra 0 32 0 rs rt 0 0 rwr rp rsi rke rkc rik (-2) ) (cwV 1 hts gX11_clock_X11_refused rfl rfl rfl (by decide +kernel) ⟨Nat.le_of_ble_eq_true rfl, Nat.le_of_ble_eq_true rfl⟩) (yPreV hK hPc hDc (ci := 11) (q0 := 0) rfl rfl) rfl rfl hl.1 rfl (lv_room (Nat.le_of_ble_eq_true rfl)) dX11_clock_15 ⟨Nat.le_of_ble_eq_true rfl, Nat.le_of_ble_eq_true rfl⟩) hP hD hS hA rfl rfl (by decide) (by decide) (fun r_10 u_9 H locs hw hP hD hS => ?_)
    have hP : va_P (dC, dI) vwCl [(rz, .inl (cyI, 2490, .inl (yz 0 0))), (rs, .inl (cyI, 15, .inl (fun _ => 0))), (rt, .inl (cyI, 15, .inl (fun _ => 0))), (h0, .inr (11, [.ref rz, .int (-2), .int 0, .ref rf, .ref rl, .ref rwx, .ref rb, .int 0, .ref rwd, .ref rk, .ref ra, .int 0, .int 32, .int 0, .ref rs, .ref rt, .int 0, .int 0, .ref rwr, .ref rp, .ref rsi, .ref rke, .ref rkc, .ref rik]))] H := hP
    have hD : va_D A [(rz, .inl (cyI, 2490, .inl (yz 0 0))), (rs, .inl (cyI, 15, .inl (fun _ => 0))), (rt, .inl (cyI, 15, .inl (fun _ => 0))), (h0, .inr (11, [.ref rz, .int (-2), .int 0, .ref rf, .ref rl, .ref rwx, .ref rb, .int 0, .ref rwd, .ref rk, .ref ra, .int 0, .int 32, .int 0, .ref rs, .ref rt, .int 0, .int 0, .ref rwr, .ref rp, .ref rsi, .ref rke, .ref rkc, .ref rik]))] := hD
    refine W.widen (k := 0) (n := 0) (Nat.le_of_ble_eq_true rfl) (Nat.le_of_ble_eq_true rfl) ?_
    have hw : r_10 = (-2) := hw.trans (by decide)
    subst hw
    refine W.widen (k := 0) (n := 0) (Nat.le_of_ble_eq_true rfl) (Nat.le_of_ble_eq_true rfl) ?_
    exact yy_iret (v := (-2)) () hx hb hr hlk rfl hsz hAe hK hP hD hS [] rfl rfl (by decide) (by (try simp only [zB0, Decidable.not_not] at c9); (try simp only [isW, zB, ← Int32.not_lt, sp_slave, sp_register, sp_depth, sp_limit, sp_transfer, sp_clock, sp_finish, sp_turn, sp_wire, sp_findings, sp_bridge, sp_keep, sp_told, ylc1, ylc2, y14, y2] at c9 ⊢); (try simp only [Decidable.not_not] at c9 ⊢); (try simp only [c9, not_true_eq_false, not_false_eq_true, false_and, and_false, true_and, and_true, and_self, or_true, true_or, or_false, false_or, or_self, ↓reduceIte]); (try simp only [← and_assoc]); (try simp only [c9, not_true_eq_false, not_false_eq_true, false_and, and_false, true_and, and_true, and_self, or_true, true_or, or_false, false_or, or_self, ↓reduceIte]); (try decide)) dX11_clock_18
set_option maxHeartbeats 4000000 in
set_option maxRecDepth 100000 in
theorem r_keep (l : Launch) (dC : Nat → ClassId) (dI : Nat → Nat → Nat) (cyI cyZ cyO : ClassId) (sz : Nat) (h0 : Nat) (rz : Nat) (rf : Nat) (rl : Nat) (rwx : Nat) (rb : Nat) (rwd : Nat) (rk : Nat) (ra : Nat) (rs : Nat) (rt : Nat) (rwr : Nat) (rp : Nat) (rsi : Nat) (rke : Nat) (rkc : Nat) (rik : Nat) (k : Int32)  : Met l yX11_keep wsX11_keep ({ frames := 1, cells := 0, slots := 0, locals := 25 }) (yPre [.ref h0, .int k] (dC, dI) [(h0, .inr (11, [.ref rz, .int 0, .int 0, .ref rf, .ref rl, .ref rwx, .ref rb, .int 0, .ref rwd, .ref rk, .ref ra, .int 0, .int 32, .int 0, .ref rs, .ref rt, .int 0, .int 0, .ref rwr, .ref rp, .ref rsi, .ref rke, .ref rkc, .ref rik])), (rz, .inl (cyI, 2490, .inl (yz 0 0))), (rke, .inl (cyI, 7470, .inl (fun _ => 0))), (rkc, .inl (cyI, 3, .inl (fun _ => 0))), (rik, .inl (cyZ, 3, .inl (fun _ => 0)))] (yT cyI cyZ cyO) sz) (yQi (fun (r : Int32) (u : Unit) => r = (sp_keep k)) (dC, dI) [(h0, .inr (11, [.ref rz, .int 0, .int 0, .ref rf, .ref rl, .ref rwx, .ref rb, .int 0, .ref rwd, .ref rk, .ref ra, .int 0, .int 32, .int 0, .ref rs, .ref rt, .int 0, .int 0, .ref rwr, .ref rp, .ref rsi, .ref rke, .ref rkc, .ref rik])), (rz, .inl (cyI, 2490, .inl (yz 0 0))), (rke, .inl (cyI, 7470, .inl (fun _ => 0))), (rkc, .inl (cyI, 3, .inl (fun _ => 0))), (rik, .inl (cyZ, 3, .inl (fun _ => 0)))] (yT cyI cyZ cyO) sz (fun _ => [])) 0 0 (va_A [(h0, .inr (11, [.ref rz, .int 0, .int 0, .ref rf, .ref rl, .ref rwx, .ref rb, .int 0, .ref rwd, .ref rk, .ref ra, .int 0, .int 32, .int 0, .ref rs, .ref rt, .int 0, .int 0, .ref rwr, .ref rp, .ref rsi, .ref rke, .ref rkc, .ref rik])), (rz, .inl (cyI, 2490, .inl (yz 0 0))), (rke, .inl (cyI, 7470, .inl (fun _ => 0))), (rkc, .inl (cyI, 3, .inl (fun _ => 0))), (rik, .inl (cyZ, 3, .inl (fun _ => 0)))] sz) := by
  refine yMet (cc := cX11_keep) (maxL := 3) (ret := (some .int)) (by decide) rfl (Nat.le_of_ble_eq_true rfl) ?_
  intro p e s m below meth c A hx hb hr hlk hml hts hown hnm hsz hAe hP hK hD hA hS ls hl
  have hl : lv_has ls 3 [(0, .ref h0), (1, .int k)] := hl
  have hf54 := hts (.fieldLink RX11 54 "BusBridgeModel" "kept" "[I") (by decide +kernel)
  have hf57 := hts (.fieldLink RX11 57 "BusBridgeModel" "keptChanges" "[I") (by decide +kernel)
  have hf60 := hts (.fieldLink RX11 60 "BusBridgeModel" "isKept" "[Z") (by decide +kernel)
  have hf7 := hts (.fieldLink RX11 7 "BusBridgeModel" "z" "[I") (by decide +kernel)
  have hf91 := hts (.fieldLink RX11 91 "BusBridgeModel" "changes" "I") (by decide +kernel)
  have hl118 := hts (.constantLong RX11 118 2) (by decide +kernel)
  have hnX11 : ∀ w ∈ wsX110, w ∈ wsX11_keep := by decide +kernel
  refine lv_iload_n hx hb dX11_keep_0 rfl (lv_at hl 1 rfl) ?_
  refine lv_i2l hx hb dX11_keep_1 rfl ?_
  refine lv_lconst (v := (0 : Int32).toInt64) hx hb dX11_keep_2 (by decide) ?_
  refine lv_ldc2 (v := 2) hx hb hown hl118 dX11_keep_3 ?_
  refine yy_long (v := (2 : Int32).toInt64) (by decide) ?_
  have hPc := hP.sub (ws' := []) [] rfl
  have hDc := hD.sub (ws' := []) [] (by decide) rfl
  refine yy_calli [] [0, 1, 2, 3, 4] (wr := [(h0, .inr (11, [.ref rz, .int 0, .int 0, .ref rf, .ref rl, .ref rwx, .ref rb, .int 0, .ref rwd, .ref rk, .ref ra, .int 0, .int 32, .int 0, .ref rs, .ref rt, .int 0, .int 0, .ref rwr, .ref rp, .ref rsi, .ref rke, .ref rkc, .ref rik])), (rz, .inl (cyI, 2490, .inl (yz 0 0))), (rke, .inl (cyI, 7470, .inl (fun _ => 0))), (rkc, .inl (cyI, 3, .inl (fun _ => 0))), (rik, .inl (cyZ, 3, .inl (fun _ => 0)))]) (va_runS (As := [.long (k : Int32).toInt64, .long (0 : Int32).toInt64, .long (2 : Int32).toInt64]) (rest := []) ⟨hx, hb, hml, hown, hts⟩ (r_in l dC dI cyI cyZ cyO s.heap.size k 0 2 ) (va_cwS 3 hts gX11_keep_X11_in rfl rfl rfl (by decide +kernel) ⟨Nat.le_of_ble_eq_true rfl, Nat.le_of_ble_eq_true rfl⟩) (yPreS hK hPc hDc) rfl rfl hl.1 rfl (lv_room (Nat.le_of_ble_eq_true rfl)) dX11_keep_6 ⟨Nat.le_of_ble_eq_true rfl, Nat.le_of_ble_eq_true rfl⟩) hP hD hS hA rfl rfl (by decide) (by decide) (fun r_2 u_1 H locs hw hP hD hS => ?_)
  have hP : va_P (dC, dI) vwCl [(h0, .inr (11, [.ref rz, .int 0, .int 0, .ref rf, .ref rl, .ref rwx, .ref rb, .int 0, .ref rwd, .ref rk, .ref ra, .int 0, .int 32, .int 0, .ref rs, .ref rt, .int 0, .int 0, .ref rwr, .ref rp, .ref rsi, .ref rke, .ref rkc, .ref rik])), (rz, .inl (cyI, 2490, .inl (yz 0 0))), (rke, .inl (cyI, 7470, .inl (fun _ => 0))), (rkc, .inl (cyI, 3, .inl (fun _ => 0))), (rik, .inl (cyZ, 3, .inl (fun _ => 0)))] H := hP
  have hD : va_D A [(h0, .inr (11, [.ref rz, .int 0, .int 0, .ref rf, .ref rl, .ref rwx, .ref rb, .int 0, .ref rwd, .ref rk, .ref ra, .int 0, .int 32, .int 0, .ref rs, .ref rt, .int 0, .int 0, .ref rwr, .ref rp, .ref rsi, .ref rke, .ref rkc, .ref rik])), (rz, .inl (cyI, 2490, .inl (yz 0 0))), (rke, .inl (cyI, 7470, .inl (fun _ => 0))), (rkc, .inl (cyI, 3, .inl (fun _ => 0))), (rik, .inl (cyZ, 3, .inl (fun _ => 0)))] := hD
  refine W.widen (k := 0) (n := 0) (Nat.le_of_ble_eq_true rfl) (Nat.le_of_ble_eq_true rfl) ?_
  have hw : r_2 = (zB (0 ≤ k ∧ k ≤ 2)) := hw
  subst hw
  refine lv_if_ne (tgt := 18) hx hb dX11_keep_9 (by decide) (fun c9 => ?_) (fun c9 => ?_)
  · have hin := yinr (n := 3) rfl (by decide) c9
    refine lv_iconst (v := 0) hx hb dX11_keep_18 (by decide) ?_
    refine lv_istore_n (lv' := [(2, .int 0), (0, .ref h0), (1, .int k)]) hx hb dX11_keep_19 rfl hl (by decide) rfl (fun ls hl => ?_)
    have key : ∀ (q i : Nat) (x : Int32) (g : Nat → Int32) (H : Heap) (locs : List Loc) (ls : Array Slot), i ≤ 2490 → 2491 ≤ i + q → x = nI i → va_P (dC, dI) vwCl [(h0, .inr (11, [.ref rz, .int 0, .int 0, .ref rf, .ref rl, .ref rwx, .ref rb, .int 0, .ref rwd, .ref rk, .ref ra, .int 0, .int 32, .int 0, .ref rs, .ref rt, .int 0, .int 0, .ref rwr, .ref rp, .ref rsi, .ref rke, .ref rkc, .ref rik])), (rz, .inl (cyI, 2490, .inl (yz 0 0))), (rke, .inl (cyI, 7470, .inl g)), (rkc, .inl (cyI, 3, .inl (fun _ => 0))), (rik, .inl (cyZ, 3, .inl (fun _ => 0)))] H → va_D A [(h0, .inr (11, [.ref rz, .int 0, .int 0, .ref rf, .ref rl, .ref rwx, .ref rb, .int 0, .ref rwd, .ref rk, .ref ra, .int 0, .int 32, .int 0, .ref rs, .ref rt, .int 0, .int 0, .ref rwr, .ref rp, .ref rsi, .ref rke, .ref rkc, .ref rik])), (rz, .inl (cyI, 2490, .inl (yz 0 0))), (rke, .inl (cyI, 7470, .inl g)), (rkc, .inl (cyI, 3, .inl (fun _ => 0))), (rik, .inl (cyZ, 3, .inl (fun _ => 0)))] → va_S A s.heap H locs → lv_has ls 3 [(2, .int x), (0, .ref h0), (1, .int k)] → W p l e ({ frames := 1, cells := 0, slots := 0, locals := 25 } : Room) s m [.ref h0, .int k].toArray below meth c H locs 0 0 (MQ below (yQi (fun (r : Int32) (u : Unit) => r = (sp_keep k)) (dC, dI) [(h0, .inr (11, [.ref rz, .int 0, .int 0, .ref rf, .ref rl, .ref rwx, .ref rb, .int 0, .ref rwd, .ref rk, .ref ra, .int 0, .int 32, .int 0, .ref rs, .ref rt, .int 0, .int 0, .ref rwr, .ref rp, .ref rsi, .ref rke, .ref rkc, .ref rik])), (rz, .inl (cyI, 2490, .inl (yz 0 0))), (rke, .inl (cyI, 7470, .inl (fun _ => 0))), (rkc, .inl (cyI, 3, .inl (fun _ => 0))), (rik, .inl (cyZ, 3, .inl (fun _ => 0)))] (yT cyI cyZ cyO) sz (fun _ => [])) [.ref h0, .int k].toArray s 0 0 A) (F0 m 20 ls []) := by
      intro q
      induction q with
      | zero => intro i x g H locs ls h1 h2; exact absurd h2 (by omega)
      | succ q ih =>
        intro i x g H locs ls h1 h2 ex hP hD hS hl
        refine lv_iload_n hx hb dX11_keep_20 rfl (lv_at hl 0 rfl) ?_
        refine lv_sipush (v := 2490) hx hb dX11_keep_21 (by decide) ?_
        refine lv_icmp_ge (tgt := 51) hx hb dX11_keep_24 (by decide) (fun c24 => ?_) (fun c24 => ?_)
        · refine lv_aload_n hx hb dX11_keep_51 rfl (lv_at hl 1 rfl) ?_
          refine va_get (D := (dC, dI)) (ci := 11) (v := .ref rkc) (C := RX11) (T := TX11) (N := 24) hx hb hts hnX11 hown hK hP 0 rfl rfl 22 (by decide) hf57 (fun _ h9 => h9) rfl dX11_keep_52 ?_
          refine lv_iload_n hx hb dX11_keep_55 rfl (lv_at hl 2 rfl) ?_
          refine lv_aload_n hx hb dX11_keep_56 rfl (lv_at hl 1 rfl) ?_
          refine va_get (D := (dC, dI)) (ci := 11) (v := .int 0) (C := RX11) (T := TX11) (N := 24) hx hb hts hnX11 hown hK hP 0 rfl rfl 13 (by decide) hf91 (fun _ h9 => h9) rfl dX11_keep_57 ?_
          refine yy_iast (f' := (upd (fun _ => 0) k.toNatClampNeg 0)) hx hb hK hP hD hS 3 0 rfl rfl hin dX11_keep_60 rfl (fun H locs hP hD hS => ?_)
          have hP : va_P (dC, dI) vwCl [(h0, .inr (11, [.ref rz, .int 0, .int 0, .ref rf, .ref rl, .ref rwx, .ref rb, .int 0, .ref rwd, .ref rk, .ref ra, .int 0, .int 32, .int 0, .ref rs, .ref rt, .int 0, .int 0, .ref rwr, .ref rp, .ref rsi, .ref rke, .ref rkc, .ref rik])), (rz, .inl (cyI, 2490, .inl (yz 0 0))), (rke, .inl (cyI, 7470, .inl g)), (rkc, .inl (cyI, 3, .inl (upd (fun _ => 0) k.toNatClampNeg 0))), (rik, .inl (cyZ, 3, .inl (fun _ => 0)))] H := hP
          have hD : va_D A [(h0, .inr (11, [.ref rz, .int 0, .int 0, .ref rf, .ref rl, .ref rwx, .ref rb, .int 0, .ref rwd, .ref rk, .ref ra, .int 0, .int 32, .int 0, .ref rs, .ref rt, .int 0, .int 0, .ref rwr, .ref rp, .ref rsi, .ref rke, .ref rkc, .ref rik])), (rz, .inl (cyI, 2490, .inl (yz 0 0))), (rke, .inl (cyI, 7470, .inl g)), (rkc, .inl (cyI, 3, .inl (upd (fun _ => 0) k.toNatClampNeg 0))), (rik, .inl (cyZ, 3, .inl (fun _ => 0)))] := hD
          refine lv_aload_n hx hb dX11_keep_61 rfl (lv_at hl 1 rfl) ?_
          refine va_get (D := (dC, dI)) (ci := 11) (v := .ref rik) (C := RX11) (T := TX11) (N := 24) hx hb hts hnX11 hown hK hP 0 rfl rfl 23 (by decide) hf60 (fun _ h9 => h9) rfl dX11_keep_62 ?_
          refine lv_iload_n hx hb dX11_keep_65 rfl (lv_at hl 2 rfl) ?_
          refine lv_iconst (v := 1) hx hb dX11_keep_66 (by decide) ?_
          refine yy_zast (f' := (upd (fun _ => 0) k.toNatClampNeg 1)) hx hb hK hP hD hS 4 1 rfl rfl hin dX11_keep_67 rfl (fun H locs hP hD hS => ?_)
          have hP : va_P (dC, dI) vwCl [(h0, .inr (11, [.ref rz, .int 0, .int 0, .ref rf, .ref rl, .ref rwx, .ref rb, .int 0, .ref rwd, .ref rk, .ref ra, .int 0, .int 32, .int 0, .ref rs, .ref rt, .int 0, .int 0, .ref rwr, .ref rp, .ref rsi, .ref rke, .ref rkc, .ref rik])), (rz, .inl (cyI, 2490, .inl (yz 0 0))), (rke, .inl (cyI, 7470, .inl g)), (rkc, .inl (cyI, 3, .inl (upd (fun _ => 0) k.toNatClampNeg 0))), (rik, .inl (cyZ, 3, .inl (upd (fun _ => 0) k.toNatClampNeg 1)))] H := hP
          have hD : va_D A [(h0, .inr (11, [.ref rz, .int 0, .int 0, .ref rf, .ref rl, .ref rwx, .ref rb, .int 0, .ref rwd, .ref rk, .ref ra, .int 0, .int 32, .int 0, .ref rs, .ref rt, .int 0, .int 0, .ref rwr, .ref rp, .ref rsi, .ref rke, .ref rkc, .ref rik])), (rz, .inl (cyI, 2490, .inl (yz 0 0))), (rke, .inl (cyI, 7470, .inl g)), (rkc, .inl (cyI, 3, .inl (upd (fun _ => 0) k.toNatClampNeg 0))), (rik, .inl (cyZ, 3, .inl (upd (fun _ => 0) k.toNatClampNeg 1)))] := hD
          refine lv_aload_n hx hb dX11_keep_68 rfl (lv_at hl 1 rfl) ?_
          refine lv_iconst (v := 1) hx hb dX11_keep_69 (by decide) ?_
          have hPc := hP.sub (ws' := [(h0, .inr (11, [.ref rz, .int 0, .int 0, .ref rf, .ref rl, .ref rwx, .ref rb, .int 0, .ref rwd, .ref rk, .ref ra, .int 0, .int 32, .int 0, .ref rs, .ref rt, .int 0, .int 0, .ref rwr, .ref rp, .ref rsi, .ref rke, .ref rkc, .ref rik]))]) [0] rfl
          have hDc := hD.sub (ws' := [(h0, .inr (11, [.ref rz, .int 0, .int 0, .ref rf, .ref rl, .ref rwx, .ref rb, .int 0, .ref rwd, .ref rk, .ref ra, .int 0, .int 32, .int 0, .ref rs, .ref rt, .int 0, .int 0, .ref rwr, .ref rp, .ref rsi, .ref rke, .ref rkc, .ref rik]))]) [0] (by decide) rfl
          refine yy_calli [0] [1, 2, 3, 4] (wr := [(rz, .inl (cyI, 2490, .inl (yz 0 0))), (rke, .inl (cyI, 7470, .inl g)), (rkc, .inl (cyI, 3, .inl (upd (fun _ => 0) k.toNatClampNeg 0))), (rik, .inl (cyZ, 3, .inl (upd (fun _ => 0) k.toNatClampNeg 1)))]) (va_runV (As := [.int 1]) (rest := []) ⟨hx, hb, hml, hown, hts⟩ (r_done l dC dI cyI cyZ cyO H.size h0 rz 0 0 rf rl rwx rb 0 rwd rk ra 0 32 0 rs rt 0 0 rwr rp rsi rke rkc rik 1 ) (cwV 1 hts gX11_keep_X11_done rfl rfl rfl (by decide +kernel) ⟨Nat.le_of_ble_eq_true rfl, Nat.le_of_ble_eq_true rfl⟩) (yPreV hK hPc hDc (ci := 11) (q0 := 0) rfl rfl) rfl rfl hl.1 rfl (lv_room (Nat.le_of_ble_eq_true rfl)) dX11_keep_70 ⟨Nat.le_of_ble_eq_true rfl, Nat.le_of_ble_eq_true rfl⟩) hP hD hS hA rfl rfl (by decide) (by decide) (fun r_4 u_3 H locs hw hP hD hS => ?_)
          have hP : va_P (dC, dI) vwCl [(rz, .inl (cyI, 2490, .inl (yz 0 0))), (rke, .inl (cyI, 7470, .inl g)), (rkc, .inl (cyI, 3, .inl (upd (fun _ => 0) k.toNatClampNeg 0))), (rik, .inl (cyZ, 3, .inl (upd (fun _ => 0) k.toNatClampNeg 1))), (h0, .inr (11, [.ref rz, .int 0, .int 0, .ref rf, .ref rl, .ref rwx, .ref rb, .int 0, .ref rwd, .ref rk, .ref ra, .int 0, .int 32, .int 0, .ref rs, .ref rt, .int 0, .int 0, .ref rwr, .ref rp, .ref rsi, .ref rke, .ref rkc, .ref rik]))] H := hP
          have hD : va_D A [(rz, .inl (cyI, 2490, .inl (yz 0 0))), (rke, .inl (cyI, 7470, .inl g)), (rkc, .inl (cyI, 3, .inl (upd (fun _ => 0) k.toNatClampNeg 0))), (rik, .inl (cyZ, 3, .inl (upd (fun _ => 0) k.toNatClampNeg 1))), (h0, .inr (11, [.ref rz, .int 0, .int 0, .ref rf, .ref rl, .ref rwx, .ref rb, .int 0, .ref rwd, .ref rk, .ref ra, .int 0, .int 32, .int 0, .ref rs, .ref rt, .int 0, .int 0, .ref rwr, .ref rp, .ref rsi, .ref rke, .ref rkc, .ref rik]))] := hD
          refine W.widen (k := 0) (n := 0) (Nat.le_of_ble_eq_true rfl) (Nat.le_of_ble_eq_true rfl) ?_
          have hw : r_4 = 1 := hw.trans (by decide)
          subst hw
          refine W.widen (k := 0) (n := 0) (Nat.le_of_ble_eq_true rfl) (Nat.le_of_ble_eq_true rfl) ?_
          exact yy_iret (v := 1) () hx hb hr hlk rfl hsz hAe hK hP hD hS [] rfl rfl (by decide) (by (try simp only [zB0, Decidable.not_not] at c9); (try simp only [isW, zB, ← Int32.not_lt, sp_slave, sp_register, sp_depth, sp_limit, sp_transfer, sp_clock, sp_finish, sp_turn, sp_wire, sp_findings, sp_bridge, sp_keep, sp_told, ylc1, ylc2, y14, y2] at c9 ⊢); (try simp only [Decidable.not_not] at c9 ⊢); (try simp only [c9, not_true_eq_false, not_false_eq_true, false_and, and_false, true_and, and_true, and_self, or_true, true_or, or_false, false_or, or_self, ↓reduceIte]); (try simp only [← and_assoc]); (try simp only [c9, not_true_eq_false, not_false_eq_true, false_and, and_false, true_and, and_true, and_self, or_true, true_or, or_false, false_or, or_self, ↓reduceIte]); (try decide)) dX11_keep_73
        · have hlt : i < 2490 := by rcases Nat.lt_or_ge i 2490 with q | q; exact q; exact absurd (by rw [ex]; exact nI_le q (by omega)) c24
          refine lv_aload_n hx hb dX11_keep_27 rfl (lv_at hl 1 rfl) ?_
          refine va_get (D := (dC, dI)) (ci := 11) (v := .ref rke) (C := RX11) (T := TX11) (N := 24) hx hb hts hnX11 hown hK hP 0 rfl rfl 21 (by decide) hf54 (fun _ h9 => h9) rfl dX11_keep_28 ?_
          refine lv_sipush (v := 2490) hx hb dX11_keep_31 (by decide) ?_
          refine lv_iload_n hx hb dX11_keep_34 rfl (lv_at hl 2 rfl) ?_
          refine lv_imul hx hb dX11_keep_35 ?_
          refine lv_iload_n hx hb dX11_keep_36 rfl (lv_at hl 0 rfl) ?_
          refine lv_iadd hx hb dX11_keep_37 ?_
          refine lv_aload_n hx hb dX11_keep_38 rfl (lv_at hl 1 rfl) ?_
          refine va_get (D := (dC, dI)) (ci := 11) (v := .ref rz) (C := RX11) (T := TX11) (N := 24) hx hb hts hnX11 hown hK hP 0 rfl rfl 0 (by decide) hf7 (fun _ h9 => h9) rfl dX11_keep_39 ?_
          refine lv_iload_n hx hb dX11_keep_42 rfl (lv_at hl 0 rfl) ?_
          refine yy_iald (v := ((yz 0 0) x.toNatClampNeg)) hx hb hK hP 1 0 rfl rfl (by rw [ex]; exact vp_in_nI hlt (by decide)) dX11_keep_43 rfl ?_
          refine yy_iast (f' := (upd g ((2490 * k) + x).toNatClampNeg ((yz 0 0) x.toNatClampNeg))) hx hb hK hP hD hS 2 0 rfl rfl (by rw [ex]; exact ykeep hin hlt) dX11_keep_44 rfl (fun H locs hP hD hS => ?_)
          have hP : va_P (dC, dI) vwCl [(h0, .inr (11, [.ref rz, .int 0, .int 0, .ref rf, .ref rl, .ref rwx, .ref rb, .int 0, .ref rwd, .ref rk, .ref ra, .int 0, .int 32, .int 0, .ref rs, .ref rt, .int 0, .int 0, .ref rwr, .ref rp, .ref rsi, .ref rke, .ref rkc, .ref rik])), (rz, .inl (cyI, 2490, .inl (yz 0 0))), (rke, .inl (cyI, 7470, .inl (upd g ((2490 * k) + x).toNatClampNeg ((yz 0 0) x.toNatClampNeg)))), (rkc, .inl (cyI, 3, .inl (fun _ => 0))), (rik, .inl (cyZ, 3, .inl (fun _ => 0)))] H := hP
          have hD : va_D A [(h0, .inr (11, [.ref rz, .int 0, .int 0, .ref rf, .ref rl, .ref rwx, .ref rb, .int 0, .ref rwd, .ref rk, .ref ra, .int 0, .int 32, .int 0, .ref rs, .ref rt, .int 0, .int 0, .ref rwr, .ref rp, .ref rsi, .ref rke, .ref rkc, .ref rik])), (rz, .inl (cyI, 2490, .inl (yz 0 0))), (rke, .inl (cyI, 7470, .inl (upd g ((2490 * k) + x).toNatClampNeg ((yz 0 0) x.toNatClampNeg)))), (rkc, .inl (cyI, 3, .inl (fun _ => 0))), (rik, .inl (cyZ, 3, .inl (fun _ => 0)))] := hD
          refine lv_iinc (v := (nI (i + 1))) (lv' := [(2, .int (nI (i + 1))), (0, .ref h0), (1, .int k)]) hx hb dX11_keep_45 hl (k := 0) rfl (by rw [ex]; exact nI_1 i) (by decide) rfl (fun ls hl => ?_)
          refine lv_goto (tgt := 20) hx hb dX11_keep_48 (by decide) ?_
          exact ih (i + 1) _ _ _ _ _ (by omega) (by omega) rfl hP hD hS hl
    exact key 2491 0 0 _ _ _ _ (Nat.zero_le _) (by omega) nI_0.symm hP hD hS hl
  · refine lv_aload_n hx hb dX11_keep_12 rfl (lv_at hl 0 rfl) ?_
    refine lv_iconst (v := (-1)) hx hb dX11_keep_13 (by decide) ?_
    have hPc := hP.sub (ws' := [(h0, .inr (11, [.ref rz, .int 0, .int 0, .ref rf, .ref rl, .ref rwx, .ref rb, .int 0, .ref rwd, .ref rk, .ref ra, .int 0, .int 32, .int 0, .ref rs, .ref rt, .int 0, .int 0, .ref rwr, .ref rp, .ref rsi, .ref rke, .ref rkc, .ref rik]))]) [0] rfl
    have hDc := hD.sub (ws' := [(h0, .inr (11, [.ref rz, .int 0, .int 0, .ref rf, .ref rl, .ref rwx, .ref rb, .int 0, .ref rwd, .ref rk, .ref ra, .int 0, .int 32, .int 0, .ref rs, .ref rt, .int 0, .int 0, .ref rwr, .ref rp, .ref rsi, .ref rke, .ref rkc, .ref rik]))]) [0] (by decide) rfl
    refine yy_calli [0] [1, 2, 3, 4] (wr := [(rz, .inl (cyI, 2490, .inl (yz 0 0))), (rke, .inl (cyI, 7470, .inl (fun _ => 0))), (rkc, .inl (cyI, 3, .inl (fun _ => 0))), (rik, .inl (cyZ, 3, .inl (fun _ => 0)))]) (va_runV (As := [.int (-1)]) (rest := []) ⟨hx, hb, hml, hown, hts⟩ (r_refused l dC dI cyI cyZ cyO H.size h0 rz 0 0 rf rl rwx rb 0 rwd rk ra 0 32 0 rs rt 0 0 rwr rp rsi rke rkc rik (-1) ) (cwV 1 hts gX11_keep_X11_refused rfl rfl rfl (by decide +kernel) ⟨Nat.le_of_ble_eq_true rfl, Nat.le_of_ble_eq_true rfl⟩) (yPreV hK hPc hDc (ci := 11) (q0 := 0) rfl rfl) rfl rfl hl.1 rfl (lv_room (Nat.le_of_ble_eq_true rfl)) dX11_keep_14 ⟨Nat.le_of_ble_eq_true rfl, Nat.le_of_ble_eq_true rfl⟩) hP hD hS hA rfl rfl (by decide) (by decide) (fun r_6 u_5 H locs hw hP hD hS => ?_)
    have hP : va_P (dC, dI) vwCl [(rz, .inl (cyI, 2490, .inl (yz 0 0))), (rke, .inl (cyI, 7470, .inl (fun _ => 0))), (rkc, .inl (cyI, 3, .inl (fun _ => 0))), (rik, .inl (cyZ, 3, .inl (fun _ => 0))), (h0, .inr (11, [.ref rz, .int (-1), .int 0, .ref rf, .ref rl, .ref rwx, .ref rb, .int 0, .ref rwd, .ref rk, .ref ra, .int 0, .int 32, .int 0, .ref rs, .ref rt, .int 0, .int 0, .ref rwr, .ref rp, .ref rsi, .ref rke, .ref rkc, .ref rik]))] H := hP
    have hD : va_D A [(rz, .inl (cyI, 2490, .inl (yz 0 0))), (rke, .inl (cyI, 7470, .inl (fun _ => 0))), (rkc, .inl (cyI, 3, .inl (fun _ => 0))), (rik, .inl (cyZ, 3, .inl (fun _ => 0))), (h0, .inr (11, [.ref rz, .int (-1), .int 0, .ref rf, .ref rl, .ref rwx, .ref rb, .int 0, .ref rwd, .ref rk, .ref ra, .int 0, .int 32, .int 0, .ref rs, .ref rt, .int 0, .int 0, .ref rwr, .ref rp, .ref rsi, .ref rke, .ref rkc, .ref rik]))] := hD
    refine W.widen (k := 0) (n := 0) (Nat.le_of_ble_eq_true rfl) (Nat.le_of_ble_eq_true rfl) ?_
    have hw : r_6 = (-1) := hw.trans (by decide)
    subst hw
    refine W.widen (k := 0) (n := 0) (Nat.le_of_ble_eq_true rfl) (Nat.le_of_ble_eq_true rfl) ?_
    exact yy_iret (v := (-1)) () hx hb hr hlk rfl hsz hAe hK hP hD hS [] rfl rfl (by decide) (by (try simp only [zB0, Decidable.not_not] at c9); (try simp only [isW, zB, ← Int32.not_lt, sp_slave, sp_register, sp_depth, sp_limit, sp_transfer, sp_clock, sp_finish, sp_turn, sp_wire, sp_findings, sp_bridge, sp_keep, sp_told, ylc1, ylc2, y14, y2] at c9 ⊢); (try simp only [Decidable.not_not] at c9 ⊢); (try simp only [c9, not_true_eq_false, not_false_eq_true, false_and, and_false, true_and, and_true, and_self, or_true, true_or, or_false, false_or, or_self, ↓reduceIte]); (try simp only [← and_assoc]); (try simp only [c9, not_true_eq_false, not_false_eq_true, false_and, and_false, true_and, and_true, and_self, or_true, true_or, or_false, false_or, or_self, ↓reduceIte]); (try decide)) dX11_keep_17
