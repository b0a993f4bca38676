set_option maxHeartbeats 4000000 in
set_option maxRecDepth 100000 in
/-- the law: a call of slave on two fresh objects -/
theorem law_slave {p : Program} {e : Env} {s : State} {m : MethodId} {below : List Frame} {meth : Method} {c : Code} (l : Launch) {b : Nat} {xs : Nat → Int32} (C0 : lw_At p s m meth c b 6 xs) {dC : Nat → ClassId} {dI : Nat → Nat → Nat} {cyI cyZ cyO : ClassId} {A : Nat → Prop} (hA : ∀ q : Nat, s.heap.size ≤ q → A q) (hbA : ¬ A b) (hN : yN s) (hK : va_K (dC, dI) vwCl (yT cyI cyZ cyO) s) (q0 q1 : Nat) (ux um : Nat → Nat) {H : Heap} {locs : List Loc} (hP : va_P (dC, dI) vwCl (yWX cyI cyZ cyO q0 ux ++ yWM cyI cyZ q1 um) H) (hD : va_D A (yWX cyI cyZ cyO q0 ux ++ yWM cyI cyZ q1 um)) (hS : va_S A s.heap H locs) {ls : Array Slot} (hl : lv_has ls 4 [(3, .int 0), (2, .ref q1), (1, .ref q0), (0, .ref b)]) (fin : ∀ (H : Heap) (locs : List Loc), va_S A s.heap H locs → ∀ ls : Array Slot, lv_has ls 4 [(3, .int 0), (2, .ref q1), (1, .ref q0), (0, .ref b)] → W p l e room_1 s m #[Value.ref b] below meth c H locs 600000 7302250 (lw_Z below #[Value.ref b] s) (F0 m 838 ls [])) : W p l e room_1 s m #[Value.ref b] below meth c H locs 58 13281 (lw_Z below #[Value.ref b] s) (F0 m 144 ls []) := by
  obtain ⟨hx, hb, hr, hml, hown0, hts0, hX, hbl, hlk, hgv⟩ := C0
  have hown : s.vm.findClass RL = some m.cls := hown0
  have hts : ∀ w ∈ wsL_law, w.before #[Value.ref b] s = true := fun w h => hts0 w (wsL_law_in w h)
  refine lv_aload_n hx hb dL_law_144 rfl (lv_at hl 2 rfl) ?_
  refine lv_aload_n hx hb dL_law_145 rfl (lv_at hl 3 rfl) ?_
  refine lv_iload_n hx hb dL_law_146 rfl (lv_at hl 0 rfl) ?_
  refine lv_iconst (v := 1) hx hb dL_law_147 (by decide) ?_
  refine lv_iadd hx hb dL_law_148 ?_
  refine yy_int (v := 1) (by decide) ?_
  refine va_sld hx hb hX hbl hbA hS (yin (by decide)) dL_law_149 ?_
  refine yy_int (v := (xs 1)) rfl ?_
  refine lv_aload_n hx hb dL_law_150 rfl (lv_at hl 3 rfl) ?_
  refine lv_iload_n hx hb dL_law_151 rfl (lv_at hl 0 rfl) ?_
  refine lv_iconst (v := 2) hx hb dL_law_152 (by decide) ?_
  refine lv_iadd hx hb dL_law_153 ?_
  refine yy_int (v := 2) (by decide) ?_
  refine va_sld hx hb hX hbl hbA hS (yin (by decide)) dL_law_154 ?_
  refine yy_int (v := (xs 2)) rfl ?_
  refine lv_aload_n hx hb dL_law_155 rfl (lv_at hl 3 rfl) ?_
  refine lv_iload_n hx hb dL_law_156 rfl (lv_at hl 0 rfl) ?_
  refine lv_iconst (v := 3) hx hb dL_law_157 (by decide) ?_
  refine lv_iadd hx hb dL_law_158 ?_
  refine yy_int (v := 3) (by decide) ?_
  refine va_sld hx hb hX hbl hbA hS (yin (by decide)) dL_law_159 ?_
  refine yy_int (v := (xs 3)) rfl ?_
  refine lv_aload_n hx hb dL_law_160 rfl (lv_at hl 3 rfl) ?_
  refine lv_iload_n hx hb dL_law_161 rfl (lv_at hl 0 rfl) ?_
  refine lv_iconst (v := 4) hx hb dL_law_162 (by decide) ?_
  refine lv_iadd hx hb dL_law_163 ?_
  refine yy_int (v := 4) (by decide) ?_
  refine va_sld hx hb hX hbl hbA hS (yin (by decide)) dL_law_164 ?_
  refine yy_int (v := (xs 4)) rfl ?_
  refine lv_if_eq (tgt := 172) hx hb dL_law_165 (by decide) (fun c165 => ?_) (fun c165 => ?_)
  · refine lv_iconst (v := 0) hx hb dL_law_172 (by decide) ?_
    have hPc := hP.sub (ws' := [(q0, .inr (10, [.ref (ux 26), .ref (ux 0), .ref (ux 35), .ref (ux 36), .ref (ux 37), .int 0])), ((ux 0), .inr (3, [.ref (ux 1), .ref (ux 8), .ref (ux 11), .ref (ux 14), .ref (ux 20), .ref (ux 22), .int 0])), ((ux 26), .inr (6, [.ref (ux 27), .ref (ux 28), .ref (ux 29), .ref (ux 30), .ref (ux 31), .ref (ux 32), .ref (ux 33), .ref (ux 34), .int 0, .int 0, .int 0, .int 32, .int 0])), ((ux 27), .inl (cyI, 8, .inl (fun _ => 0))), ((ux 28), .inl (cyI, 8, .inl (fun _ => 0))), ((ux 29), .inl (cyI, 8, .inl (fun _ => 0))), ((ux 30), .inl (cyZ, 8, .inl (fun _ => 0)))]) [0, 1, 27, 28, 29, 30, 31] rfl
    have hDc := hD.sub (ws' := [(q0, .inr (10, [.ref (ux 26), .ref (ux 0), .ref (ux 35), .ref (ux 36), .ref (ux 37), .int 0])), ((ux 0), .inr (3, [.ref (ux 1), .ref (ux 8), .ref (ux 11), .ref (ux 14), .ref (ux 20), .ref (ux 22), .int 0])), ((ux 26), .inr (6, [.ref (ux 27), .ref (ux 28), .ref (ux 29), .ref (ux 30), .ref (ux 31), .ref (ux 32), .ref (ux 33), .ref (ux 34), .int 0, .int 0, .int 0, .int 32, .int 0])), ((ux 27), .inl (cyI, 8, .inl (fun _ => 0))), ((ux 28), .inl (cyI, 8, .inl (fun _ => 0))), ((ux 29), .inl (cyI, 8, .inl (fun _ => 0))), ((ux 30), .inl (cyZ, 8, .inl (fun _ => 0)))]) [0, 1, 27, 28, 29, 30, 31] (by decide) rfl
    refine yy_calli [0, 1, 27, 28, 29, 30, 31] [41, 42, 43, 44, 45, 46] (wr := [(q1, .inr (11, [.ref (um 0), .int 0, .int 0, .ref (um 1), .ref (um 2), .ref (um 3), .ref (um 4), .int 0, .ref (um 5), .ref (um 6), .ref (um 7), .int 0, .int 32, .int 0, .ref (um 8), .ref (um 9), .int 0, .int 0, .ref (um 10), .ref (um 11), .ref (um 12), .ref (um 13), .ref (um 14), .ref (um 15)])), ((um 0), .inl (cyI, 2490, .inl (yz 0 0))), ((um 1), .inl (cyI, 8, .inl (fun _ => 0))), ((um 2), .inl (cyI, 8, .inl (fun _ => 0))), ((um 3), .inl (cyI, 8, .inl (fun _ => 0))), ((um 4), .inl (cyZ, 8, .inl (fun _ => 0)))]) (va_runV (As := [.int (xs 1), .int (xs 2), .int (xs 3), .int 0]) (rest := []) ⟨hx, hb, hml, hown, hts⟩ (x_slave l dC dI cyI cyZ cyO H.size q0 (ux 0) (ux 1) (ux 8) (ux 11) (ux 14) (ux 20) (ux 22) (ux 26) (ux 27) (ux 28) (ux 29) (ux 30) (ux 31) (ux 32) (ux 33) (ux 34) (ux 35) (ux 36) (ux 37) (xs 1) (xs 2) (xs 3) 0 ) (cwV 4 hts gL_law_X10_slave rfl rfl rfl (by decide +kernel) ⟨Nat.le_of_ble_eq_true rfl, Nat.le_of_ble_eq_true rfl⟩) (yPreV hK hPc hDc (ci := 10) (q0 := 0) rfl rfl) rfl rfl hl.1 rfl (lv_room (Nat.le_of_ble_eq_true rfl)) dL_law_173 ⟨Nat.le_of_ble_eq_true rfl, Nat.le_of_ble_eq_true rfl⟩) hP hD hS hA rfl rfl (by decide) (by decide) (fun r_2 u_1 H locs hw hP hD hS => ?_)
    have hP : va_P (dC, dI) vwCl [(q1, .inr (11, [.ref (um 0), .int 0, .int 0, .ref (um 1), .ref (um 2), .ref (um 3), .ref (um 4), .int 0, .ref (um 5), .ref (um 6), .ref (um 7), .int 0, .int 32, .int 0, .ref (um 8), .ref (um 9), .int 0, .int 0, .ref (um 10), .ref (um 11), .ref (um 12), .ref (um 13), .ref (um 14), .ref (um 15)])), ((um 0), .inl (cyI, 2490, .inl (yz 0 0))), ((um 1), .inl (cyI, 8, .inl (fun _ => 0))), ((um 2), .inl (cyI, 8, .inl (fun _ => 0))), ((um 3), .inl (cyI, 8, .inl (fun _ => 0))), ((um 4), .inl (cyZ, 8, .inl (fun _ => 0)))] H := hP
    have hD : va_D A [(q1, .inr (11, [.ref (um 0), .int 0, .int 0, .ref (um 1), .ref (um 2), .ref (um 3), .ref (um 4), .int 0, .ref (um 5), .ref (um 6), .ref (um 7), .int 0, .int 32, .int 0, .ref (um 8), .ref (um 9), .int 0, .int 0, .ref (um 10), .ref (um 11), .ref (um 12), .ref (um 13), .ref (um 14), .ref (um 15)])), ((um 0), .inl (cyI, 2490, .inl (yz 0 0))), ((um 1), .inl (cyI, 8, .inl (fun _ => 0))), ((um 2), .inl (cyI, 8, .inl (fun _ => 0))), ((um 3), .inl (cyI, 8, .inl (fun _ => 0))), ((um 4), .inl (cyZ, 8, .inl (fun _ => 0)))] := hD
    refine W.widen (k := 58) (n := 13281) (Nat.le_of_ble_eq_true rfl) (Nat.le_of_ble_eq_true rfl) ?_
    have hw : r_2 = (sp_slave (xs 1) (xs 2) (xs 3)) := hw
    subst hw
    refine lv_aload_n hx hb dL_law_176 rfl (lv_at hl 1 rfl) ?_
    refine lv_aload_n hx hb dL_law_177 rfl (lv_at hl 3 rfl) ?_
    refine lv_iload_n hx hb dL_law_178 rfl (lv_at hl 0 rfl) ?_
    refine lv_iconst (v := 1) hx hb dL_law_179 (by decide) ?_
    refine lv_iadd hx hb dL_law_180 ?_
    refine yy_int (v := 1) (by decide) ?_
    refine va_sld hx hb hX hbl hbA hS (yin (by decide)) dL_law_181 ?_
    refine yy_int (v := (xs 1)) rfl ?_
    refine lv_aload_n hx hb dL_law_182 rfl (lv_at hl 3 rfl) ?_
    refine lv_iload_n hx hb dL_law_183 rfl (lv_at hl 0 rfl) ?_
    refine lv_iconst (v := 2) hx hb dL_law_184 (by decide) ?_
    refine lv_iadd hx hb dL_law_185 ?_
    refine yy_int (v := 2) (by decide) ?_
    refine va_sld hx hb hX hbl hbA hS (yin (by decide)) dL_law_186 ?_
    refine yy_int (v := (xs 2)) rfl ?_
    refine lv_aload_n hx hb dL_law_187 rfl (lv_at hl 3 rfl) ?_
    refine lv_iload_n hx hb dL_law_188 rfl (lv_at hl 0 rfl) ?_
    refine lv_iconst (v := 3) hx hb dL_law_189 (by decide) ?_
    refine lv_iadd hx hb dL_law_190 ?_
    refine yy_int (v := 3) (by decide) ?_
    refine va_sld hx hb hX hbl hbA hS (yin (by decide)) dL_law_191 ?_
    refine yy_int (v := (xs 3)) rfl ?_
    refine lv_aload_n hx hb dL_law_192 rfl (lv_at hl 3 rfl) ?_
    refine lv_iload_n hx hb dL_law_193 rfl (lv_at hl 0 rfl) ?_
    refine lv_iconst (v := 4) hx hb dL_law_194 (by decide) ?_
    refine lv_iadd hx hb dL_law_195 ?_
    refine yy_int (v := 4) (by decide) ?_
    refine va_sld hx hb hX hbl hbA hS (yin (by decide)) dL_law_196 ?_
    refine yy_int (v := (xs 4)) rfl ?_
    refine lv_if_eq (tgt := 204) hx hb dL_law_197 (by decide) (fun _ => ?_) (fun c => absurd c165 c)
    refine lv_iconst (v := 0) hx hb dL_law_204 (by decide) ?_
    have hPc := hP.sub (ws' := [(q1, .inr (11, [.ref (um 0), .int 0, .int 0, .ref (um 1), .ref (um 2), .ref (um 3), .ref (um 4), .int 0, .ref (um 5), .ref (um 6), .ref (um 7), .int 0, .int 32, .int 0, .ref (um 8), .ref (um 9), .int 0, .int 0, .ref (um 10), .ref (um 11), .ref (um 12), .ref (um 13), .ref (um 14), .ref (um 15)])), ((um 0), .inl (cyI, 2490, .inl (yz 0 0))), ((um 1), .inl (cyI, 8, .inl (fun _ => 0))), ((um 2), .inl (cyI, 8, .inl (fun _ => 0))), ((um 3), .inl (cyI, 8, .inl (fun _ => 0))), ((um 4), .inl (cyZ, 8, .inl (fun _ => 0)))]) [0, 1, 2, 3, 4, 5] rfl
    have hDc := hD.sub (ws' := [(q1, .inr (11, [.ref (um 0), .int 0, .int 0, .ref (um 1), .ref (um 2), .ref (um 3), .ref (um 4), .int 0, .ref (um 5), .ref (um 6), .ref (um 7), .int 0, .int 32, .int 0, .ref (um 8), .ref (um 9), .int 0, .int 0, .ref (um 10), .ref (um 11), .ref (um 12), .ref (um 13), .ref (um 14), .ref (um 15)])), ((um 0), .inl (cyI, 2490, .inl (yz 0 0))), ((um 1), .inl (cyI, 8, .inl (fun _ => 0))), ((um 2), .inl (cyI, 8, .inl (fun _ => 0))), ((um 3), .inl (cyI, 8, .inl (fun _ => 0))), ((um 4), .inl (cyZ, 8, .inl (fun _ => 0)))]) [0, 1, 2, 3, 4, 5] (by decide) rfl
    refine yy_calli [0, 1, 2, 3, 4, 5] [] (wr := []) (va_runV (As := [.int (xs 1), .int (xs 2), .int (xs 3), .int 0]) (rest := [.int (sp_slave (xs 1) (xs 2) (xs 3))]) ⟨hx, hb, hml, hown, hts⟩ (r_slave l dC dI cyI cyZ cyO H.size q1 (um 0) (um 1) (um 2) (um 3) (um 4) (um 5) (um 6) (um 7) (um 8) (um 9) (um 10) (um 11) (um 12) (um 13) (um 14) (um 15) (xs 1) (xs 2) (xs 3) 0 ) (cwV 4 hts gL_law_X11_slave rfl rfl rfl (by decide +kernel) ⟨Nat.le_of_ble_eq_true rfl, Nat.le_of_ble_eq_true rfl⟩) (yPreV hK hPc hDc (ci := 11) (q0 := 0) rfl rfl) rfl rfl hl.1 rfl (lv_room (Nat.le_of_ble_eq_true rfl)) dL_law_205 ⟨Nat.le_of_ble_eq_true rfl, Nat.le_of_ble_eq_true rfl⟩) hP hD hS hA rfl rfl (by decide) (by decide) (fun r_4 u_3 H locs hw hP hD hS => ?_)
    have hP : va_P (dC, dI) vwCl [] H := hP
    have hD : va_D A [] := hD
    refine W.widen (k := 58) (n := 13281) (Nat.le_of_ble_eq_true rfl) (Nat.le_of_ble_eq_true rfl) ?_
    have hw : r_4 = (sp_slave (xs 1) (xs 2) (xs 3)) := hw
    subst hw
    refine lv_icmp_eq (tgt := 838) hx hb dL_law_208 (by decide) (fun _ => ?_) (fun c => absurd (rfl) c)
    refine W.widen (k := 600000) (n := 7302250) (Nat.le_of_ble_eq_true rfl) (Nat.le_of_ble_eq_true rfl) ?_
    exact fin _ _ hS _ hl
  · refine lv_iconst (v := 1) hx hb dL_law_168 (by decide) ?_
    refine lv_goto (tgt := 173) hx hb dL_law_169 (by decide) ?_
    have hPc := hP.sub (ws' := [(q0, .inr (10, [.ref (ux 26), .ref (ux 0), .ref (ux 35), .ref (ux 36), .ref (ux 37), .int 0])), ((ux 0), .inr (3, [.ref (ux 1), .ref (ux 8), .ref (ux 11), .ref (ux 14), .ref (ux 20), .ref (ux 22), .int 0])), ((ux 26), .inr (6, [.ref (ux 27), .ref (ux 28), .ref (ux 29), .ref (ux 30), .ref (ux 31), .ref (ux 32), .ref (ux 33), .ref (ux 34), .int 0, .int 0, .int 0, .int 32, .int 0])), ((ux 27), .inl (cyI, 8, .inl (fun _ => 0))), ((ux 28), .inl (cyI, 8, .inl (fun _ => 0))), ((ux 29), .inl (cyI, 8, .inl (fun _ => 0))), ((ux 30), .inl (cyZ, 8, .inl (fun _ => 0)))]) [0, 1, 27, 28, 29, 30, 31] rfl
    have hDc := hD.sub (ws' := [(q0, .inr (10, [.ref (ux 26), .ref (ux 0), .ref (ux 35), .ref (ux 36), .ref (ux 37), .int 0])), ((ux 0), .inr (3, [.ref (ux 1), .ref (ux 8), .ref (ux 11), .ref (ux 14), .ref (ux 20), .ref (ux 22), .int 0])), ((ux 26), .inr (6, [.ref (ux 27), .ref (ux 28), .ref (ux 29), .ref (ux 30), .ref (ux 31), .ref (ux 32), .ref (ux 33), .ref (ux 34), .int 0, .int 0, .int 0, .int 32, .int 0])), ((ux 27), .inl (cyI, 8, .inl (fun _ => 0))), ((ux 28), .inl (cyI, 8, .inl (fun _ => 0))), ((ux 29), .inl (cyI, 8, .inl (fun _ => 0))), ((ux 30), .inl (cyZ, 8, .inl (fun _ => 0)))]) [0, 1, 27, 28, 29, 30, 31] (by decide) rfl
    refine yy_calli [0, 1, 27, 28, 29, 30, 31] [41, 42, 43, 44, 45, 46] (wr := [(q1, .inr (11, [.ref (um 0), .int 0, .int 0, .ref (um 1), .ref (um 2), .ref (um 3), .ref (um 4), .int 0, .ref (um 5), .ref (um 6), .ref (um 7), .int 0, .int 32, .int 0, .ref (um 8), .ref (um 9), .int 0, .int 0, .ref (um 10), .ref (um 11), .ref (um 12), .ref (um 13), .ref (um 14), .ref (um 15)])), ((um 0), .inl (cyI, 2490, .inl (yz 0 0))), ((um 1), .inl (cyI, 8, .inl (fun _ => 0))), ((um 2), .inl (cyI, 8, .inl (fun _ => 0))), ((um 3), .inl (cyI, 8, .inl (fun _ => 0))), ((um 4), .inl (cyZ, 8, .inl (fun _ => 0)))]) (va_runV (As := [.int (xs 1), .int (xs 2), .int (xs 3), .int 1]) (rest := []) ⟨hx, hb, hml, hown, hts⟩ (x_slave l dC dI cyI cyZ cyO H.size q0 (ux 0) (ux 1) (ux 8) (ux 11) (ux 14) (ux 20) (ux 22) (ux 26) (ux 27) (ux 28) (ux 29) (ux 30) (ux 31) (ux 32) (ux 33) (ux 34) (ux 35) (ux 36) (ux 37) (xs 1) (xs 2) (xs 3) 1 ) (cwV 4 hts gL_law_X10_slave rfl rfl rfl (by decide +kernel) ⟨Nat.le_of_ble_eq_true rfl, Nat.le_of_ble_eq_true rfl⟩) (yPreV hK hPc hDc (ci := 10) (q0 := 0) rfl rfl) rfl rfl hl.1 rfl (lv_room (Nat.le_of_ble_eq_true rfl)) dL_law_173 ⟨Nat.le_of_ble_eq_true rfl, Nat.le_of_ble_eq_true rfl⟩) hP hD hS hA rfl rfl (by decide) (by decide) (fun r_6 u_5 H locs hw hP hD hS => ?_)
    have hP : va_P (dC, dI) vwCl [(q1, .inr (11, [.ref (um 0), .int 0, .int 0, .ref (um 1), .ref (um 2), .ref (um 3), .ref (um 4), .int 0, .ref (um 5), .ref (um 6), .ref (um 7), .int 0, .int 32, .int 0, .ref (um 8), .ref (um 9), .int 0, .int 0, .ref (um 10), .ref (um 11), .ref (um 12), .ref (um 13), .ref (um 14), .ref (um 15)])), ((um 0), .inl (cyI, 2490, .inl (yz 0 0))), ((um 1), .inl (cyI, 8, .inl (fun _ => 0))), ((um 2), .inl (cyI, 8, .inl (fun _ => 0))), ((um 3), .inl (cyI, 8, .inl (fun _ => 0))), ((um 4), .inl (cyZ, 8, .inl (fun _ => 0)))] H := hP
    have hD : va_D A [(q1, .inr (11, [.ref (um 0), .int 0, .int 0, .ref (um 1), .ref (um 2), .ref (um 3), .ref (um 4), .int 0, .ref (um 5), .ref (um 6), .ref (um 7), .int 0, .int 32, .int 0, .ref (um 8), .ref (um 9), .int 0, .int 0, .ref (um 10), .ref (um 11), .ref (um 12), .ref (um 13), .ref (um 14), .ref (um 15)])), ((um 0), .inl (cyI, 2490, .inl (yz 0 0))), ((um 1), .inl (cyI, 8, .inl (fun _ => 0))), ((um 2), .inl (cyI, 8, .inl (fun _ => 0))), ((um 3), .inl (cyI, 8, .inl (fun _ => 0))), ((um 4), .inl (cyZ, 8, .inl (fun _ => 0)))] := hD
    refine W.widen (k := 58) (n := 13281) (Nat.le_of_ble_eq_true rfl) (Nat.le_of_ble_eq_true rfl) ?_
    have hw : r_6 = (sp_slave (xs 1) (xs 2) (xs 3)) := hw
    subst hw
    refine lv_aload_n hx hb dL_law_176 rfl (lv_at hl 1 rfl) ?_
    refine lv_aload_n hx hb dL_law_177 rfl (lv_at hl 3 rfl) ?_
    refine lv_iload_n hx hb dL_law_178 rfl (lv_at hl 0 rfl) ?_
    refine lv_iconst (v := 1) hx hb dL_law_179 (by decide) ?_
    refine lv_iadd hx hb dL_law_180 ?_
    refine yy_int (v := 1) (by decide) ?_
    refine va_sld hx hb hX hbl hbA hS (yin (by decide)) dL_law_181 ?_
    refine yy_int (v := (xs 1)) rfl ?_
    refine lv_aload_n hx hb dL_law_182 rfl (lv_at hl 3 rfl) ?_
    refine lv_iload_n hx hb dL_law_183 rfl (lv_at hl 0 rfl) ?_
    refine lv_iconst (v := 2) hx hb dL_law_184 (by decide) ?_
    refine lv_iadd hx hb dL_law_185 ?_
    refine yy_int (v := 2) (by decide) ?_
    refine va_sld hx hb hX hbl hbA hS (yin (by decide)) dL_law_186 ?_
    refine yy_int (v := (xs 2)) rfl ?_
    refine lv_aload_n hx hb dL_law_187 rfl (lv_at hl 3 rfl) ?_
    refine lv_iload_n hx hb dL_law_188 rfl (lv_at hl 0 rfl) ?_
    refine lv_iconst (v := 3) hx hb dL_law_189 (by decide) ?_
    refine lv_iadd hx hb dL_law_190 ?_
    refine yy_int (v := 3) (by decide) ?_
    refine va_sld hx hb hX hbl hbA hS (yin (by decide)) dL_law_191 ?_
    refine yy_int (v := (xs 3)) rfl ?_
    refine lv_aload_n hx hb dL_law_192 rfl (lv_at hl 3 rfl) ?_
    refine lv_iload_n hx hb dL_law_193 rfl (lv_at hl 0 rfl) ?_
    refine lv_iconst (v := 4) hx hb dL_law_194 (by decide) ?_
    refine lv_iadd hx hb dL_law_195 ?_
    refine yy_int (v := 4) (by decide) ?_
    refine va_sld hx hb hX hbl hbA hS (yin (by decide)) dL_law_196 ?_
    refine yy_int (v := (xs 4)) rfl ?_
    refine lv_if_eq (tgt := 204) hx hb dL_law_197 (by decide) (fun c => absurd c c165) (fun _ => ?_)
    refine lv_iconst (v := 1) hx hb dL_law_200 (by decide) ?_
    refine lv_goto (tgt := 205) hx hb dL_law_201 (by decide) ?_
    have hPc := hP.sub (ws' := [(q1, .inr (11, [.ref (um 0), .int 0, .int 0, .ref (um 1), .ref (um 2), .ref (um 3), .ref (um 4), .int 0, .ref (um 5), .ref (um 6), .ref (um 7), .int 0, .int 32, .int 0, .ref (um 8), .ref (um 9), .int 0, .int 0, .ref (um 10), .ref (um 11), .ref (um 12), .ref (um 13), .ref (um 14), .ref (um 15)])), ((um 0), .inl (cyI, 2490, .inl (yz 0 0))), ((um 1), .inl (cyI, 8, .inl (fun _ => 0))), ((um 2), .inl (cyI, 8, .inl (fun _ => 0))), ((um 3), .inl (cyI, 8, .inl (fun _ => 0))), ((um 4), .inl (cyZ, 8, .inl (fun _ => 0)))]) [0, 1, 2, 3, 4, 5] rfl
    have hDc := hD.sub (ws' := [(q1, .inr (11, [.ref (um 0), .int 0, .int 0, .ref (um 1), .ref (um 2), .ref (um 3), .ref (um 4), .int 0, .ref (um 5), .ref (um 6), .ref (um 7), .int 0, .int 32, .int 0, .ref (um 8), .ref (um 9), .int 0, .int 0, .ref (um 10), .ref (um 11), .ref (um 12), .ref (um 13), .ref (um 14), .ref (um 15)])), ((um 0), .inl (cyI, 2490, .inl (yz 0 0))), ((um 1), .inl (cyI, 8, .inl (fun _ => 0))), ((um 2), .inl (cyI, 8, .inl (fun _ => 0))), ((um 3), .inl (cyI, 8, .inl (fun _ => 0))), ((um 4), .inl (cyZ, 8, .inl (fun _ => 0)))]) [0, 1, 2, 3, 4, 5] (by decide) rfl
    refine yy_calli [0, 1, 2, 3, 4, 5] [] (wr := []) (va_runV (As := [.int (xs 1), .int (xs 2), .int (xs 3), .int 1]) (rest := [.int (sp_slave (xs 1) (xs 2) (xs 3))]) ⟨hx, hb, hml, hown, hts⟩ (r_slave l dC dI cyI cyZ cyO H.size q1 (um 0) (um 1) (um 2) (um 3) (um 4) (um 5) (um 6) (um 7) (um 8) (um 9) (um 10) (um 11) (um 12) (um 13) (um 14) (um 15) (xs 1) (xs 2) (xs 3) 1 ) (cwV 4 hts gL_law_X11_slave rfl rfl rfl (by decide +kernel) ⟨Nat.le_of_ble_eq_true rfl, Nat.le_of_ble_eq_true rfl⟩) (yPreV hK hPc hDc (ci := 11) (q0 := 0) rfl rfl) rfl rfl hl.1 rfl (lv_room (Nat.le_of_ble_eq_true rfl)) dL_law_205 ⟨Nat.le_of_ble_eq_true rfl, Nat.le_of_ble_eq_true rfl⟩) hP hD hS hA rfl rfl (by decide) (by decide) (fun r_8 u_7 H locs hw hP hD hS => ?_)
    have hP : va_P (dC, dI) vwCl [] H := hP
    have hD : va_D A [] := hD
    refine W.widen (k := 58) (n := 13281) (Nat.le_of_ble_eq_true rfl) (Nat.le_of_ble_eq_true rfl) ?_
    have hw : r_8 = (sp_slave (xs 1) (xs 2) (xs 3)) := hw
    subst hw
    refine lv_icmp_eq (tgt := 838) hx hb dL_law_208 (by decide) (fun _ => ?_) (fun c => absurd (rfl) c)
    refine W.widen (k := 600000) (n := 7302250) (Nat.le_of_ble_eq_true rfl) (Nat.le_of_ble_eq_true rfl) ?_
    exact fin _ _ hS _ hl
set_option maxHeartbeats 4000000 in
set_option maxRecDepth 100000 in
/-- the law: a call of register on two fresh objects -/
theorem law_register {p : Program} {e : Env} {s : State} {m : MethodId} {below : List Frame} {meth : Method} {c : Code} (l : Launch) {b : Nat} {xs : Nat → Int32} (C0 : lw_At p s m meth c b 6 xs) {dC : Nat → ClassId} {dI : Nat → Nat → Nat} {cyI cyZ cyO : ClassId} {A : Nat → Prop} (hA : ∀ q : Nat, s.heap.size ≤ q → A q) (hbA : ¬ A b) (hN : yN s) (hK : va_K (dC, dI) vwCl (yT cyI cyZ cyO) s) (q0 q1 : Nat) (ux um : Nat → Nat) {H : Heap} {locs : List Loc} (hP : va_P (dC, dI) vwCl (yWX cyI cyZ cyO q0 ux ++ yWM cyI cyZ q1 um) H) (hD : va_D A (yWX cyI cyZ cyO q0 ux ++ yWM cyI cyZ q1 um)) (hS : va_S A s.heap H locs) {ls : Array Slot} (hl : lv_has ls 4 [(3, .int 0), (2, .ref q1), (1, .ref q0), (0, .ref b)]) (fin : ∀ (H : Heap) (locs : List Loc), va_S A s.heap H locs → ∀ ls : Array Slot, lv_has ls 4 [(3, .int 0), (2, .ref q1), (1, .ref q0), (0, .ref b)] → W p l e room_1 s m #[Value.ref b] below meth c H locs 600000 7302250 (lw_Z below #[Value.ref b] s) (F0 m 838 ls [])) : W p l e room_1 s m #[Value.ref b] below meth c H locs 58 13281 (lw_Z below #[Value.ref b] s) (F0 m 213 ls []) := by
  obtain ⟨hx, hb, hr, hml, hown0, hts0, hX, hbl, hlk, hgv⟩ := C0
  have hown : s.vm.findClass RL = some m.cls := hown0
  have hts : ∀ w ∈ wsL_law, w.before #[Value.ref b] s = true := fun w h => hts0 w (wsL_law_in w h)
  refine lv_aload_n hx hb dL_law_213 rfl (lv_at hl 2 rfl) ?_
  refine lv_aload_n hx hb dL_law_214 rfl (lv_at hl 3 rfl) ?_
  refine lv_iload_n hx hb dL_law_215 rfl (lv_at hl 0 rfl) ?_
  refine lv_iconst (v := 1) hx hb dL_law_216 (by decide) ?_
  refine lv_iadd hx hb dL_law_217 ?_
  refine yy_int (v := 1) (by decide) ?_
  refine va_sld hx hb hX hbl hbA hS (yin (by decide)) dL_law_218 ?_
  refine yy_int (v := (xs 1)) rfl ?_
  refine lv_aload_n hx hb dL_law_219 rfl (lv_at hl 3 rfl) ?_
  refine lv_iload_n hx hb dL_law_220 rfl (lv_at hl 0 rfl) ?_
  refine lv_iconst (v := 2) hx hb dL_law_221 (by decide) ?_
  refine lv_iadd hx hb dL_law_222 ?_
  refine yy_int (v := 2) (by decide) ?_
  refine va_sld hx hb hX hbl hbA hS (yin (by decide)) dL_law_223 ?_
  refine yy_int (v := (xs 2)) rfl ?_
  refine lv_aload_n hx hb dL_law_224 rfl (lv_at hl 3 rfl) ?_
  refine lv_iload_n hx hb dL_law_225 rfl (lv_at hl 0 rfl) ?_
  refine lv_iconst (v := 3) hx hb dL_law_226 (by decide) ?_
  refine lv_iadd hx hb dL_law_227 ?_
  refine yy_int (v := 3) (by decide) ?_
  refine va_sld hx hb hX hbl hbA hS (yin (by decide)) dL_law_228 ?_
  refine yy_int (v := (xs 3)) rfl ?_
  have hPc := hP.sub (ws' := [(q0, .inr (10, [.ref (ux 26), .ref (ux 0), .ref (ux 35), .ref (ux 36), .ref (ux 37), .int 0])), ((ux 0), .inr (3, [.ref (ux 1), .ref (ux 8), .ref (ux 11), .ref (ux 14), .ref (ux 20), .ref (ux 22), .int 0])), ((ux 26), .inr (6, [.ref (ux 27), .ref (ux 28), .ref (ux 29), .ref (ux 30), .ref (ux 31), .ref (ux 32), .ref (ux 33), .ref (ux 34), .int 0, .int 0, .int 0, .int 32, .int 0]))]) [0, 1, 27] rfl
  have hDc := hD.sub (ws' := [(q0, .inr (10, [.ref (ux 26), .ref (ux 0), .ref (ux 35), .ref (ux 36), .ref (ux 37), .int 0])), ((ux 0), .inr (3, [.ref (ux 1), .ref (ux 8), .ref (ux 11), .ref (ux 14), .ref (ux 20), .ref (ux 22), .int 0])), ((ux 26), .inr (6, [.ref (ux 27), .ref (ux 28), .ref (ux 29), .ref (ux 30), .ref (ux 31), .ref (ux 32), .ref (ux 33), .ref (ux 34), .int 0, .int 0, .int 0, .int 32, .int 0]))]) [0, 1, 27] (by decide) rfl
  refine yy_calli [0, 1, 27] [41, 42] (wr := [(q1, .inr (11, [.ref (um 0), .int 0, .int 0, .ref (um 1), .ref (um 2), .ref (um 3), .ref (um 4), .int 0, .ref (um 5), .ref (um 6), .ref (um 7), .int 0, .int 32, .int 0, .ref (um 8), .ref (um 9), .int 0, .int 0, .ref (um 10), .ref (um 11), .ref (um 12), .ref (um 13), .ref (um 14), .ref (um 15)])), ((um 0), .inl (cyI, 2490, .inl (yz 0 0)))]) (va_runV (As := [.int (xs 1), .int (xs 2), .int (xs 3)]) (rest := []) ⟨hx, hb, hml, hown, hts⟩ (x_register l dC dI cyI cyZ cyO H.size q0 (ux 0) (ux 1) (ux 8) (ux 11) (ux 14) (ux 20) (ux 22) (ux 26) (ux 27) (ux 28) (ux 29) (ux 30) (ux 31) (ux 32) (ux 33) (ux 34) (ux 35) (ux 36) (ux 37) (xs 1) (xs 2) (xs 3) ) (cwV 3 hts gL_law_X10_register rfl rfl rfl (by decide +kernel) ⟨Nat.le_of_ble_eq_true rfl, Nat.le_of_ble_eq_true rfl⟩) (yPreV hK hPc hDc (ci := 10) (q0 := 0) rfl rfl) rfl rfl hl.1 rfl (lv_room (Nat.le_of_ble_eq_true rfl)) dL_law_229 ⟨Nat.le_of_ble_eq_true rfl, Nat.le_of_ble_eq_true rfl⟩) hP hD hS hA rfl rfl (by decide) (by decide) (fun r_2 u_1 H locs hw hP hD hS => ?_)
  have hP : va_P (dC, dI) vwCl [(q1, .inr (11, [.ref (um 0), .int 0, .int 0, .ref (um 1), .ref (um 2), .ref (um 3), .ref (um 4), .int 0, .ref (um 5), .ref (um 6), .ref (um 7), .int 0, .int 32, .int 0, .ref (um 8), .ref (um 9), .int 0, .int 0, .ref (um 10), .ref (um 11), .ref (um 12), .ref (um 13), .ref (um 14), .ref (um 15)])), ((um 0), .inl (cyI, 2490, .inl (yz 0 0)))] H := hP
  have hD : va_D A [(q1, .inr (11, [.ref (um 0), .int 0, .int 0, .ref (um 1), .ref (um 2), .ref (um 3), .ref (um 4), .int 0, .ref (um 5), .ref (um 6), .ref (um 7), .int 0, .int 32, .int 0, .ref (um 8), .ref (um 9), .int 0, .int 0, .ref (um 10), .ref (um 11), .ref (um 12), .ref (um 13), .ref (um 14), .ref (um 15)])), ((um 0), .inl (cyI, 2490, .inl (yz 0 0)))] := hD
  refine W.widen (k := 58) (n := 13281) (Nat.le_of_ble_eq_true rfl) (Nat.le_of_ble_eq_true rfl) ?_
  have hw : r_2 = (sp_register (xs 1) (xs 2) (xs 3)) := hw
  subst hw
  refine lv_aload_n hx hb dL_law_232 rfl (lv_at hl 1 rfl) ?_
  refine lv_aload_n hx hb dL_law_233 rfl (lv_at hl 3 rfl) ?_
  refine lv_iload_n hx hb dL_law_234 rfl (lv_at hl 0 rfl) ?_
  refine lv_iconst (v := 1) hx hb dL_law_235 (by decide) ?_
  refine lv_iadd hx hb dL_law_236 ?_
  refine yy_int (v := 1) (by decide) ?_
  refine va_sld hx hb hX hbl hbA hS (yin (by decide)) dL_law_237 ?_
  refine yy_int (v := (xs 1)) rfl ?_
  refine lv_aload_n hx hb dL_law_238 rfl (lv_at hl 3 rfl) ?_
  refine lv_iload_n hx hb dL_law_239 rfl (lv_at hl 0 rfl) ?_
  refine lv_iconst (v := 2) hx hb dL_law_240 (by decide) ?_
  refine lv_iadd hx hb dL_law_241 ?_
  refine yy_int (v := 2) (by decide) ?_
  refine va_sld hx hb hX hbl hbA hS (yin (by decide)) dL_law_242 ?_
  refine yy_int (v := (xs 2)) rfl ?_
  refine lv_aload_n hx hb dL_law_243 rfl (lv_at hl 3 rfl) ?_
  refine lv_iload_n hx hb dL_law_244 rfl (lv_at hl 0 rfl) ?_
  refine lv_iconst (v := 3) hx hb dL_law_245 (by decide) ?_
  refine lv_iadd hx hb dL_law_246 ?_
  refine yy_int (v := 3) (by decide) ?_
  refine va_sld hx hb hX hbl hbA hS (yin (by decide)) dL_law_247 ?_
  refine yy_int (v := (xs 3)) rfl ?_
  have hPc := hP.sub (ws' := [(q1, .inr (11, [.ref (um 0), .int 0, .int 0, .ref (um 1), .ref (um 2), .ref (um 3), .ref (um 4), .int 0, .ref (um 5), .ref (um 6), .ref (um 7), .int 0, .int 32, .int 0, .ref (um 8), .ref (um 9), .int 0, .int 0, .ref (um 10), .ref (um 11), .ref (um 12), .ref (um 13), .ref (um 14), .ref (um 15)])), ((um 0), .inl (cyI, 2490, .inl (yz 0 0)))]) [0, 1] rfl
  have hDc := hD.sub (ws' := [(q1, .inr (11, [.ref (um 0), .int 0, .int 0, .ref (um 1), .ref (um 2), .ref (um 3), .ref (um 4), .int 0, .ref (um 5), .ref (um 6), .ref (um 7), .int 0, .int 32, .int 0, .ref (um 8), .ref (um 9), .int 0, .int 0, .ref (um 10), .ref (um 11), .ref (um 12), .ref (um 13), .ref (um 14), .ref (um 15)])), ((um 0), .inl (cyI, 2490, .inl (yz 0 0)))]) [0, 1] (by decide) rfl
  refine yy_calli [0, 1] [] (wr := []) (va_runV (As := [.int (xs 1), .int (xs 2), .int (xs 3)]) (rest := [.int (sp_register (xs 1) (xs 2) (xs 3))]) ⟨hx, hb, hml, hown, hts⟩ (r_register l dC dI cyI cyZ cyO H.size q1 (um 0) (um 1) (um 2) (um 3) (um 4) (um 5) (um 6) (um 7) (um 8) (um 9) (um 10) (um 11) (um 12) (um 13) (um 14) (um 15) (xs 1) (xs 2) (xs 3) ) (cwV 3 hts gL_law_X11_register rfl rfl rfl (by decide +kernel) ⟨Nat.le_of_ble_eq_true rfl, Nat.le_of_ble_eq_true rfl⟩) (yPreV hK hPc hDc (ci := 11) (q0 := 0) rfl rfl) rfl rfl hl.1 rfl (lv_room (Nat.le_of_ble_eq_true rfl)) dL_law_248 ⟨Nat.le_of_ble_eq_true rfl, Nat.le_of_ble_eq_true rfl⟩) hP hD hS hA rfl rfl (by decide) (by decide) (fun r_4 u_3 H locs hw hP hD hS => ?_)
  have hP : va_P (dC, dI) vwCl [] H := hP
  have hD : va_D A [] := hD
  refine W.widen (k := 58) (n := 13281) (Nat.le_of_ble_eq_true rfl) (Nat.le_of_ble_eq_true rfl) ?_
  have hw : r_4 = (sp_register (xs 1) (xs 2) (xs 3)) := hw
  subst hw
  refine lv_icmp_eq (tgt := 838) hx hb dL_law_251 (by decide) (fun _ => ?_) (fun c => absurd (rfl) c)
  refine W.widen (k := 600000) (n := 7302250) (Nat.le_of_ble_eq_true rfl) (Nat.le_of_ble_eq_true rfl) ?_
  exact fin _ _ hS _ hl
set_option maxHeartbeats 4000000 in
set_option maxRecDepth 100000 in
/-- the law: a call of depth on two fresh objects -/
theorem law_depth {p : Program} {e : Env} {s : State} {m : MethodId} {below : List Frame} {meth : Method} {c : Code} (l : Launch) {b : Nat} {xs : Nat → Int32} (C0 : lw_At p s m meth c b 6 xs) {dC : Nat → ClassId} {dI : Nat → Nat → Nat} {cyI cyZ cyO : ClassId} {A : Nat → Prop} (hA : ∀ q : Nat, s.heap.size ≤ q → A q) (hbA : ¬ A b) (hN : yN s) (hK : va_K (dC, dI) vwCl (yT cyI cyZ cyO) s) (q0 q1 : Nat) (ux um : Nat → Nat) {H : Heap} {locs : List Loc} (hP : va_P (dC, dI) vwCl (yWX cyI cyZ cyO q0 ux ++ yWM cyI cyZ q1 um) H) (hD : va_D A (yWX cyI cyZ cyO q0 ux ++ yWM cyI cyZ q1 um)) (hS : va_S A s.heap H locs) {ls : Array Slot} (hl : lv_has ls 4 [(3, .int 0), (2, .ref q1), (1, .ref q0), (0, .ref b)]) (fin : ∀ (H : Heap) (locs : List Loc), va_S A s.heap H locs → ∀ ls : Array Slot, lv_has ls 4 [(3, .int 0), (2, .ref q1), (1, .ref q0), (0, .ref b)] → W p l e room_1 s m #[Value.ref b] below meth c H locs 600000 7302250 (lw_Z below #[Value.ref b] s) (F0 m 838 ls [])) : W p l e room_1 s m #[Value.ref b] below meth c H locs 58 13281 (lw_Z below #[Value.ref b] s) (F0 m 256 ls []) := by
  obtain ⟨hx, hb, hr, hml, hown0, hts0, hX, hbl, hlk, hgv⟩ := C0
  have hown : s.vm.findClass RL = some m.cls := hown0
  have hts : ∀ w ∈ wsL_law, w.before #[Value.ref b] s = true := fun w h => hts0 w (wsL_law_in w h)
  refine lv_aload_n hx hb dL_law_256 rfl (lv_at hl 2 rfl) ?_
  refine lv_aload_n hx hb dL_law_257 rfl (lv_at hl 3 rfl) ?_
  refine lv_iload_n hx hb dL_law_258 rfl (lv_at hl 0 rfl) ?_
  refine lv_iconst (v := 1) hx hb dL_law_259 (by decide) ?_
  refine lv_iadd hx hb dL_law_260 ?_
  refine yy_int (v := 1) (by decide) ?_
  refine va_sld hx hb hX hbl hbA hS (yin (by decide)) dL_law_261 ?_
  refine yy_int (v := (xs 1)) rfl ?_
  have hPc := hP.sub (ws' := [(q0, .inr (10, [.ref (ux 26), .ref (ux 0), .ref (ux 35), .ref (ux 36), .ref (ux 37), .int 0])), ((ux 0), .inr (3, [.ref (ux 1), .ref (ux 8), .ref (ux 11), .ref (ux 14), .ref (ux 20), .ref (ux 22), .int 0])), ((ux 26), .inr (6, [.ref (ux 27), .ref (ux 28), .ref (ux 29), .ref (ux 30), .ref (ux 31), .ref (ux 32), .ref (ux 33), .ref (ux 34), .int 0, .int 0, .int 0, .int 32, .int 0]))]) [0, 1, 27] rfl
  have hDc := hD.sub (ws' := [(q0, .inr (10, [.ref (ux 26), .ref (ux 0), .ref (ux 35), .ref (ux 36), .ref (ux 37), .int 0])), ((ux 0), .inr (3, [.ref (ux 1), .ref (ux 8), .ref (ux 11), .ref (ux 14), .ref (ux 20), .ref (ux 22), .int 0])), ((ux 26), .inr (6, [.ref (ux 27), .ref (ux 28), .ref (ux 29), .ref (ux 30), .ref (ux 31), .ref (ux 32), .ref (ux 33), .ref (ux 34), .int 0, .int 0, .int 0, .int 32, .int 0]))]) [0, 1, 27] (by decide) rfl
  refine yy_calli [0, 1, 27] [41, 42] (wr := [(q1, .inr (11, [.ref (um 0), .int 0, .int 0, .ref (um 1), .ref (um 2), .ref (um 3), .ref (um 4), .int 0, .ref (um 5), .ref (um 6), .ref (um 7), .int 0, .int 32, .int 0, .ref (um 8), .ref (um 9), .int 0, .int 0, .ref (um 10), .ref (um 11), .ref (um 12), .ref (um 13), .ref (um 14), .ref (um 15)])), ((um 0), .inl (cyI, 2490, .inl (yz 0 0)))]) (va_runV (As := [.int (xs 1)]) (rest := []) ⟨hx, hb, hml, hown, hts⟩ (x_depth l dC dI cyI cyZ cyO H.size q0 (ux 0) (ux 1) (ux 8) (ux 11) (ux 14) (ux 20) (ux 22) (ux 26) (ux 27) (ux 28) (ux 29) (ux 30) (ux 31) (ux 32) (ux 33) (ux 34) (ux 35) (ux 36) (ux 37) (xs 1) ) (cwV 1 hts gL_law_X10_depth rfl rfl rfl (by decide +kernel) ⟨Nat.le_of_ble_eq_true rfl, Nat.le_of_ble_eq_true rfl⟩) (yPreV hK hPc hDc (ci := 10) (q0 := 0) rfl rfl) rfl rfl hl.1 rfl (lv_room (Nat.le_of_ble_eq_true rfl)) dL_law_262 ⟨Nat.le_of_ble_eq_true rfl, Nat.le_of_ble_eq_true rfl⟩) hP hD hS hA rfl rfl (by decide) (by decide) (fun r_2 u_1 H locs hw hP hD hS => ?_)
  have hP : va_P (dC, dI) vwCl [(q1, .inr (11, [.ref (um 0), .int 0, .int 0, .ref (um 1), .ref (um 2), .ref (um 3), .ref (um 4), .int 0, .ref (um 5), .ref (um 6), .ref (um 7), .int 0, .int 32, .int 0, .ref (um 8), .ref (um 9), .int 0, .int 0, .ref (um 10), .ref (um 11), .ref (um 12), .ref (um 13), .ref (um 14), .ref (um 15)])), ((um 0), .inl (cyI, 2490, .inl (yz 0 0)))] H := hP
  have hD : va_D A [(q1, .inr (11, [.ref (um 0), .int 0, .int 0, .ref (um 1), .ref (um 2), .ref (um 3), .ref (um 4), .int 0, .ref (um 5), .ref (um 6), .ref (um 7), .int 0, .int 32, .int 0, .ref (um 8), .ref (um 9), .int 0, .int 0, .ref (um 10), .ref (um 11), .ref (um 12), .ref (um 13), .ref (um 14), .ref (um 15)])), ((um 0), .inl (cyI, 2490, .inl (yz 0 0)))] := hD
  refine W.widen (k := 58) (n := 13281) (Nat.le_of_ble_eq_true rfl) (Nat.le_of_ble_eq_true rfl) ?_
  have hw : r_2 = (sp_depth (xs 1)) := hw
  subst hw
  refine lv_aload_n hx hb dL_law_265 rfl (lv_at hl 1 rfl) ?_
  refine lv_aload_n hx hb dL_law_266 rfl (lv_at hl 3 rfl) ?_
  refine lv_iload_n hx hb dL_law_267 rfl (lv_at hl 0 rfl) ?_
  refine lv_iconst (v := 1) hx hb dL_law_268 (by decide) ?_
  refine lv_iadd hx hb dL_law_269 ?_
  refine yy_int (v := 1) (by decide) ?_
  refine va_sld hx hb hX hbl hbA hS (yin (by decide)) dL_law_270 ?_
  refine yy_int (v := (xs 1)) rfl ?_
  have hPc := hP.sub (ws' := [(q1, .inr (11, [.ref (um 0), .int 0, .int 0, .ref (um 1), .ref (um 2), .ref (um 3), .ref (um 4), .int 0, .ref (um 5), .ref (um 6), .ref (um 7), .int 0, .int 32, .int 0, .ref (um 8), .ref (um 9), .int 0, .int 0, .ref (um 10), .ref (um 11), .ref (um 12), .ref (um 13), .ref (um 14), .ref (um 15)])), ((um 0), .inl (cyI, 2490, .inl (yz 0 0)))]) [0, 1] rfl
  have hDc := hD.sub (ws' := [(q1, .inr (11, [.ref (um 0), .int 0, .int 0, .ref (um 1), .ref (um 2), .ref (um 3), .ref (um 4), .int 0, .ref (um 5), .ref (um 6), .ref (um 7), .int 0, .int 32, .int 0, .ref (um 8), .ref (um 9), .int 0, .int 0, .ref (um 10), .ref (um 11), .ref (um 12), .ref (um 13), .ref (um 14), .ref (um 15)])), ((um 0), .inl (cyI, 2490, .inl (yz 0 0)))]) [0, 1] (by decide) rfl
  refine yy_calli [0, 1] [] (wr := []) (va_runV (As := [.int (xs 1)]) (rest := [.int (sp_depth (xs 1))]) ⟨hx, hb, hml, hown, hts⟩ (r_depth l dC dI cyI cyZ cyO H.size q1 (um 0) (um 1) (um 2) (um 3) (um 4) (um 5) (um 6) (um 7) (um 8) (um 9) (um 10) (um 11) (um 12) (um 13) (um 14) (um 15) (xs 1) ) (cwV 1 hts gL_law_X11_depth rfl rfl rfl (by decide +kernel) ⟨Nat.le_of_ble_eq_true rfl, Nat.le_of_ble_eq_true rfl⟩) (yPreV hK hPc hDc (ci := 11) (q0 := 0) rfl rfl) rfl rfl hl.1 rfl (lv_room (Nat.le_of_ble_eq_true rfl)) dL_law_271 ⟨Nat.le_of_ble_eq_true rfl, Nat.le_of_ble_eq_true rfl⟩) hP hD hS hA rfl rfl (by decide) (by decide) (fun r_4 u_3 H locs hw hP hD hS => ?_)
  have hP : va_P (dC, dI) vwCl [] H := hP
  have hD : va_D A [] := hD
  refine W.widen (k := 58) (n := 13281) (Nat.le_of_ble_eq_true rfl) (Nat.le_of_ble_eq_true rfl) ?_
  have hw : r_4 = (sp_depth (xs 1)) := hw
  subst hw
  refine lv_icmp_eq (tgt := 838) hx hb dL_law_274 (by decide) (fun _ => ?_) (fun c => absurd (rfl) c)
  refine W.widen (k := 600000) (n := 7302250) (Nat.le_of_ble_eq_true rfl) (Nat.le_of_ble_eq_true rfl) ?_
  exact fin _ _ hS _ hl
set_option maxHeartbeats 4000000 in
set_option maxRecDepth 100000 in
/-- the law: a call of limit on two fresh objects -/
theorem law_limit {p : Program} {e : Env} {s : State} {m : MethodId} {below : List Frame} {meth : Method} {c : Code} (l : Launch) {b : Nat} {xs : Nat → Int32} (C0 : lw_At p s m meth c b 6 xs) {dC : Nat → ClassId} {dI : Nat → Nat → Nat} {cyI cyZ cyO : ClassId} {A : Nat → Prop} (hA : ∀ q : Nat, s.heap.size ≤ q → A q) (hbA : ¬ A b) (hN : yN s) (hK : va_K (dC, dI) vwCl (yT cyI cyZ cyO) s) (q0 q1 : Nat) (ux um : Nat → Nat) {H : Heap} {locs : List Loc} (hP : va_P (dC, dI) vwCl (yWX cyI cyZ cyO q0 ux ++ yWM cyI cyZ q1 um) H) (hD : va_D A (yWX cyI cyZ cyO q0 ux ++ yWM cyI cyZ q1 um)) (hS : va_S A s.heap H locs) {ls : Array Slot} (hl : lv_has ls 4 [(3, .int 0), (2, .ref q1), (1, .ref q0), (0, .ref b)]) (fin : ∀ (H : Heap) (locs : List Loc), va_S A s.heap H locs → ∀ ls : Array Slot, lv_has ls 4 [(3, .int 0), (2, .ref q1), (1, .ref q0), (0, .ref b)] → W p l e room_1 s m #[Value.ref b] below meth c H locs 600000 7302250 (lw_Z below #[Value.ref b] s) (F0 m 838 ls [])) : W p l e room_1 s m #[Value.ref b] below meth c H locs 58 13281 (lw_Z below #[Value.ref b] s) (F0 m 279 ls []) := by
  obtain ⟨hx, hb, hr, hml, hown0, hts0, hX, hbl, hlk, hgv⟩ := C0
  have hown : s.vm.findClass RL = some m.cls := hown0
  have hts : ∀ w ∈ wsL_law, w.before #[Value.ref b] s = true := fun w h => hts0 w (wsL_law_in w h)
  refine lv_aload_n hx hb dL_law_279 rfl (lv_at hl 2 rfl) ?_
  refine lv_aload_n hx hb dL_law_280 rfl (lv_at hl 3 rfl) ?_
  refine lv_iload_n hx hb dL_law_281 rfl (lv_at hl 0 rfl) ?_
  refine lv_iconst (v := 1) hx hb dL_law_282 (by decide) ?_
  refine lv_iadd hx hb dL_law_283 ?_
  refine yy_int (v := 1) (by decide) ?_
  refine va_sld hx hb hX hbl hbA hS (yin (by decide)) dL_law_284 ?_
  refine yy_int (v := (xs 1)) rfl ?_
  have hPc := hP.sub (ws' := [(q0, .inr (10, [.ref (ux 26), .ref (ux 0), .ref (ux 35), .ref (ux 36), .ref (ux 37), .int 0])), ((ux 0), .inr (3, [.ref (ux 1), .ref (ux 8), .ref (ux 11), .ref (ux 14), .ref (ux 20), .ref (ux 22), .int 0])), ((ux 26), .inr (6, [.ref (ux 27), .ref (ux 28), .ref (ux 29), .ref (ux 30), .ref (ux 31), .ref (ux 32), .ref (ux 33), .ref (ux 34), .int 0, .int 0, .int 0, .int 32, .int 0]))]) [0, 1, 27] rfl
  have hDc := hD.sub (ws' := [(q0, .inr (10, [.ref (ux 26), .ref (ux 0), .ref (ux 35), .ref (ux 36), .ref (ux 37), .int 0])), ((ux 0), .inr (3, [.ref (ux 1), .ref (ux 8), .ref (ux 11), .ref (ux 14), .ref (ux 20), .ref (ux 22), .int 0])), ((ux 26), .inr (6, [.ref (ux 27), .ref (ux 28), .ref (ux 29), .ref (ux 30), .ref (ux 31), .ref (ux 32), .ref (ux 33), .ref (ux 34), .int 0, .int 0, .int 0, .int 32, .int 0]))]) [0, 1, 27] (by decide) rfl
  refine yy_calli [0, 1, 27] [41, 42] (wr := [(q1, .inr (11, [.ref (um 0), .int 0, .int 0, .ref (um 1), .ref (um 2), .ref (um 3), .ref (um 4), .int 0, .ref (um 5), .ref (um 6), .ref (um 7), .int 0, .int 32, .int 0, .ref (um 8), .ref (um 9), .int 0, .int 0, .ref (um 10), .ref (um 11), .ref (um 12), .ref (um 13), .ref (um 14), .ref (um 15)])), ((um 0), .inl (cyI, 2490, .inl (yz 0 0)))]) (va_runV (As := [.int (xs 1)]) (rest := []) ⟨hx, hb, hml, hown, hts⟩ (x_limit l dC dI cyI cyZ cyO H.size q0 (ux 0) (ux 1) (ux 8) (ux 11) (ux 14) (ux 20) (ux 22) (ux 26) (ux 27) (ux 28) (ux 29) (ux 30) (ux 31) (ux 32) (ux 33) (ux 34) (ux 35) (ux 36) (ux 37) (xs 1) ) (cwV 1 hts gL_law_X10_limit rfl rfl rfl (by decide +kernel) ⟨Nat.le_of_ble_eq_true rfl, Nat.le_of_ble_eq_true rfl⟩) (yPreV hK hPc hDc (ci := 10) (q0 := 0) rfl rfl) rfl rfl hl.1 rfl (lv_room (Nat.le_of_ble_eq_true rfl)) dL_law_285 ⟨Nat.le_of_ble_eq_true rfl, Nat.le_of_ble_eq_true rfl⟩) hP hD hS hA rfl rfl (by decide) (by decide) (fun r_2 u_1 H locs hw hP hD hS => ?_)
  have hP : va_P (dC, dI) vwCl [(q1, .inr (11, [.ref (um 0), .int 0, .int 0, .ref (um 1), .ref (um 2), .ref (um 3), .ref (um 4), .int 0, .ref (um 5), .ref (um 6), .ref (um 7), .int 0, .int 32, .int 0, .ref (um 8), .ref (um 9), .int 0, .int 0, .ref (um 10), .ref (um 11), .ref (um 12), .ref (um 13), .ref (um 14), .ref (um 15)])), ((um 0), .inl (cyI, 2490, .inl (yz 0 0)))] H := hP
  have hD : va_D A [(q1, .inr (11, [.ref (um 0), .int 0, .int 0, .ref (um 1), .ref (um 2), .ref (um 3), .ref (um 4), .int 0, .ref (um 5), .ref (um 6), .ref (um 7), .int 0, .int 32, .int 0, .ref (um 8), .ref (um 9), .int 0, .int 0, .ref (um 10), .ref (um 11), .ref (um 12), .ref (um 13), .ref (um 14), .ref (um 15)])), ((um 0), .inl (cyI, 2490, .inl (yz 0 0)))] := hD
  refine W.widen (k := 58) (n := 13281) (Nat.le_of_ble_eq_true rfl) (Nat.le_of_ble_eq_true rfl) ?_
  have hw : r_2 = (sp_limit (xs 1)) := hw
  subst hw
  refine lv_aload_n hx hb dL_law_288 rfl (lv_at hl 1 rfl) ?_
  refine lv_aload_n hx hb dL_law_289 rfl (lv_at hl 3 rfl) ?_
  refine lv_iload_n hx hb dL_law_290 rfl (lv_at hl 0 rfl) ?_
  refine lv_iconst (v := 1) hx hb dL_law_291 (by decide) ?_
  refine lv_iadd hx hb dL_law_292 ?_
  refine yy_int (v := 1) (by decide) ?_
  refine va_sld hx hb hX hbl hbA hS (yin (by decide)) dL_law_293 ?_
  refine yy_int (v := (xs 1)) rfl ?_
  have hPc := hP.sub (ws' := [(q1, .inr (11, [.ref (um 0), .int 0, .int 0, .ref (um 1), .ref (um 2), .ref (um 3), .ref (um 4), .int 0, .ref (um 5), .ref (um 6), .ref (um 7), .int 0, .int 32, .int 0, .ref (um 8), .ref (um 9), .int 0, .int 0, .ref (um 10), .ref (um 11), .ref (um 12), .ref (um 13), .ref (um 14), .ref (um 15)])), ((um 0), .inl (cyI, 2490, .inl (yz 0 0)))]) [0, 1] rfl
  have hDc := hD.sub (ws' := [(q1, .inr (11, [.ref (um 0), .int 0, .int 0, .ref (um 1), .ref (um 2), .ref (um 3), .ref (um 4), .int 0, .ref (um 5), .ref (um 6), .ref (um 7), .int 0, .int 32, .int 0, .ref (um 8), .ref (um 9), .int 0, .int 0, .ref (um 10), .ref (um 11), .ref (um 12), .ref (um 13), .ref (um 14), .ref (um 15)])), ((um 0), .inl (cyI, 2490, .inl (yz 0 0)))]) [0, 1] (by decide) rfl
  refine yy_calli [0, 1] [] (wr := []) (va_runV (As := [.int (xs 1)]) (rest := [.int (sp_limit (xs 1))]) ⟨hx, hb, hml, hown, hts⟩ (r_limit l dC dI cyI cyZ cyO H.size q1 (um 0) (um 1) (um 2) (um 3) (um 4) (um 5) (um 6) (um 7) (um 8) (um 9) (um 10) (um 11) (um 12) (um 13) (um 14) (um 15) (xs 1) ) (cwV 1 hts gL_law_X11_limit rfl rfl rfl (by decide +kernel) ⟨Nat.le_of_ble_eq_true rfl, Nat.le_of_ble_eq_true rfl⟩) (yPreV hK hPc hDc (ci := 11) (q0 := 0) rfl rfl) rfl rfl hl.1 rfl (lv_room (Nat.le_of_ble_eq_true rfl)) dL_law_294 ⟨Nat.le_of_ble_eq_true rfl, Nat.le_of_ble_eq_true rfl⟩) hP hD hS hA rfl rfl (by decide) (by decide) (fun r_4 u_3 H locs hw hP hD hS => ?_)
  have hP : va_P (dC, dI) vwCl [] H := hP
  have hD : va_D A [] := hD
  refine W.widen (k := 58) (n := 13281) (Nat.le_of_ble_eq_true rfl) (Nat.le_of_ble_eq_true rfl) ?_
  have hw : r_4 = (sp_limit (xs 1)) := hw
  subst hw
  refine lv_icmp_eq (tgt := 838) hx hb dL_law_297 (by decide) (fun _ => ?_) (fun c => absurd (rfl) c)
  refine W.widen (k := 600000) (n := 7302250) (Nat.le_of_ble_eq_true rfl) (Nat.le_of_ble_eq_true rfl) ?_
  exact fin _ _ hS _ hl
set_option maxHeartbeats 4000000 in
set_option maxRecDepth 100000 in
/-- the law: a call of reset on two fresh objects -/
theorem law_reset {p : Program} {e : Env} {s : State} {m : MethodId} {below : List Frame} {meth : Method} {c : Code} (l : Launch) {b : Nat} {xs : Nat → Int32} (C0 : lw_At p s m meth c b 6 xs) {dC : Nat → ClassId} {dI : Nat → Nat → Nat} {cyI cyZ cyO : ClassId} {A : Nat → Prop} (hA : ∀ q : Nat, s.heap.size ≤ q → A q) (hbA : ¬ A b) (hN : yN s) (hK : va_K (dC, dI) vwCl (yT cyI cyZ cyO) s) (q0 q1 : Nat) (ux um : Nat → Nat) {H : Heap} {locs : List Loc} (hP : va_P (dC, dI) vwCl (yWX cyI cyZ cyO q0 ux ++ yWM cyI cyZ q1 um) H) (hD : va_D A (yWX cyI cyZ cyO q0 ux ++ yWM cyI cyZ q1 um)) (hS : va_S A s.heap H locs) {ls : Array Slot} (hl : lv_has ls 4 [(3, .int 0), (2, .ref q1), (1, .ref q0), (0, .ref b)]) (fin : ∀ (H : Heap) (locs : List Loc), va_S A s.heap H locs → ∀ ls : Array Slot, lv_has ls 4 [(3, .int 0), (2, .ref q1), (1, .ref q0), (0, .ref b)] → W p l e room_1 s m #[Value.ref b] below meth c H locs 600000 7302250 (lw_Z below #[Value.ref b] s) (F0 m 838 ls [])) : W p l e room_1 s m #[Value.ref b] below meth c H locs 58 13281 (lw_Z below #[Value.ref b] s) (F0 m 302 ls []) := by
  obtain ⟨hx, hb, hr, hml, hown0, hts0, hX, hbl, hlk, hgv⟩ := C0
  have hown : s.vm.findClass RL = some m.cls := hown0
  have hts : ∀ w ∈ wsL_law, w.before #[Value.ref b] s = true := fun w h => hts0 w (wsL_law_in w h)
  refine lv_aload_n hx hb dL_law_302 rfl (lv_at hl 2 rfl) ?_
  have hPc := hP.sub (ws' := [(q0, .inr (10, [.ref (ux 26), .ref (ux 0), .ref (ux 35), .ref (ux 36), .ref (ux 37), .int 0])), ((ux 0), .inr (3, [.ref (ux 1), .ref (ux 8), .ref (ux 11), .ref (ux 14), .ref (ux 20), .ref (ux 22), .int 0])), ((ux 1), .inr (9, [.ref (ux 2), .ref (ux 3), .ref (ux 4), .ref (ux 5), .ref (ux 6), .ref (ux 7)])), ((ux 2), .inl (cyI, 15, .inl yR)), ((ux 3), .inl (cyI, 15, .inl (fun _ => 0))), ((ux 4), .inl (cyI, 15, .inl (fun _ => 0))), ((ux 5), .inl (cyI, 15, .inl (fun _ => 0))), ((ux 8), .inr (1, [.ref (ux 9), .ref (ux 10), .int (-1)])), ((ux 9), .inl (cyI, 48, .inl (fun _ => 0))), ((ux 10), .inl (cyI, 48, .inl (fun _ => 0))), ((ux 11), .inr (4, [.ref (ux 12), .int (-1), .int (-1), .int 0, .int 0, .int 0, .int 0])), ((ux 12), .inr (8, [.ref (ux 13), .int 60, .int 9, .int 0])), ((ux 14), .inr (0, [.ref (ux 17), .ref (ux 15), .ref (ux 16), .int 0, .int 0, .int 0, .int 0, .int 0, .int 0])), ((ux 17), .inr (2, [.ref (ux 18), .int 0, .int 0, .int 0, .int 0, .int 0, .int 0, .int 0, .int 0, .int 0, .int 0, .int 0, .int (-1), .int 0])), ((ux 18), .inr (8, [.ref (ux 19), .int 200, .int 8, .int 0])), ((ux 20), .inr (7, [.ref (ux 21), .int 0, .int 0, .int 0])), ((ux 21), .inl (cyI, 8, .inl (fun _ => 0))), ((ux 22), .inr (5, [.ref (ux 23), .ref (ux 24), .int 0, .int 0, .int 0])), ((ux 23), .inl (cyI, 16, .inl (fun _ => 0))), ((ux 24), .inr (8, [.ref (ux 25), .int 60, .int 2, .int 0])), ((ux 26), .inr (6, [.ref (ux 27), .ref (ux 28), .ref (ux 29), .ref (ux 30), .ref (ux 31), .ref (ux 32), .ref (ux 33), .ref (ux 34), .int 0, .int 0, .int 0, .int 32, .int 0])), ((ux 33), .inl (cyI, 48, .inl (fun _ => 0)))]) [0, 1, 2, 3, 4, 5, 6, 9, 10, 11, 12, 13, 15, 18, 19, 21, 22, 23, 24, 25, 27, 34] rfl
  have hDc := hD.sub (ws' := [(q0, .inr (10, [.ref (ux 26), .ref (ux 0), .ref (ux 35), .ref (ux 36), .ref (ux 37), .int 0])), ((ux 0), .inr (3, [.ref (ux 1), .ref (ux 8), .ref (ux 11), .ref (ux 14), .ref (ux 20), .ref (ux 22), .int 0])), ((ux 1), .inr (9, [.ref (ux 2), .ref (ux 3), .ref (ux 4), .ref (ux 5), .ref (ux 6), .ref (ux 7)])), ((ux 2), .inl (cyI, 15, .inl yR)), ((ux 3), .inl (cyI, 15, .inl (fun _ => 0))), ((ux 4), .inl (cyI, 15, .inl (fun _ => 0))), ((ux 5), .inl (cyI, 15, .inl (fun _ => 0))), ((ux 8), .inr (1, [.ref (ux 9), .ref (ux 10), .int (-1)])), ((ux 9), .inl (cyI, 48, .inl (fun _ => 0))), ((ux 10), .inl (cyI, 48, .inl (fun _ => 0))), ((ux 11), .inr (4, [.ref (ux 12), .int (-1), .int (-1), .int 0, .int 0, .int 0, .int 0])), ((ux 12), .inr (8, [.ref (ux 13), .int 60, .int 9, .int 0])), ((ux 14), .inr (0, [.ref (ux 17), .ref (ux 15), .ref (ux 16), .int 0, .int 0, .int 0, .int 0, .int 0, .int 0])), ((ux 17), .inr (2, [.ref (ux 18), .int 0, .int 0, .int 0, .int 0, .int 0, .int 0, .int 0, .int 0, .int 0, .int 0, .int 0, .int (-1), .int 0])), ((ux 18), .inr (8, [.ref (ux 19), .int 200, .int 8, .int 0])), ((ux 20), .inr (7, [.ref (ux 21), .int 0, .int 0, .int 0])), ((ux 21), .inl (cyI, 8, .inl (fun _ => 0))), ((ux 22), .inr (5, [.ref (ux 23), .ref (ux 24), .int 0, .int 0, .int 0])), ((ux 23), .inl (cyI, 16, .inl (fun _ => 0))), ((ux 24), .inr (8, [.ref (ux 25), .int 60, .int 2, .int 0])), ((ux 26), .inr (6, [.ref (ux 27), .ref (ux 28), .ref (ux 29), .ref (ux 30), .ref (ux 31), .ref (ux 32), .ref (ux 33), .ref (ux 34), .int 0, .int 0, .int 0, .int 32, .int 0])), ((ux 33), .inl (cyI, 48, .inl (fun _ => 0)))]) [0, 1, 2, 3, 4, 5, 6, 9, 10, 11, 12, 13, 15, 18, 19, 21, 22, 23, 24, 25, 27, 34] (by decide) rfl
  refine yy_calli [0, 1, 2, 3, 4, 5, 6, 9, 10, 11, 12, 13, 15, 18, 19, 21, 22, 23, 24, 25, 27, 34] [41, 42] (wr := [(q1, .inr (11, [.ref (um 0), .int 0, .int 0, .ref (um 1), .ref (um 2), .ref (um 3), .ref (um 4), .int 0, .ref (um 5), .ref (um 6), .ref (um 7), .int 0, .int 32, .int 0, .ref (um 8), .ref (um 9), .int 0, .int 0, .ref (um 10), .ref (um 11), .ref (um 12), .ref (um 13), .ref (um 14), .ref (um 15)])), ((um 0), .inl (cyI, 2490, .inl (yz 0 0)))]) (va_runV (As := []) (rest := []) ⟨hx, hb, hml, hown, hts⟩ (x_reset l dC dI cyI cyZ cyO H.size q0 (ux 0) (ux 1) (ux 2) (ux 3) (ux 4) (ux 5) (ux 6) (ux 7) (ux 8) (ux 9) (ux 10) (ux 11) (ux 12) (ux 13) (ux 14) (ux 15) (ux 16) (ux 17) (ux 18) (ux 19) (ux 20) (ux 21) (ux 22) (ux 23) (ux 24) (ux 25) (ux 26) (ux 27) (ux 28) (ux 29) (ux 30) (ux 31) (ux 32) (ux 33) (ux 34) (ux 35) (ux 36) (ux 37) ) (cwV 0 hts gL_law_X10_reset rfl rfl rfl (by decide +kernel) ⟨Nat.le_of_ble_eq_true rfl, Nat.le_of_ble_eq_true rfl⟩) (yPreV hK hPc hDc (ci := 10) (q0 := 0) rfl rfl) rfl rfl hl.1 rfl (lv_room (Nat.le_of_ble_eq_true rfl)) dL_law_303 ⟨Nat.le_of_ble_eq_true rfl, Nat.le_of_ble_eq_true rfl⟩) hP hD hS hA rfl rfl (by decide) (by decide) (fun r_2 u_1 H locs hw hP hD hS => ?_)
  have hP : va_P (dC, dI) vwCl [(q1, .inr (11, [.ref (um 0), .int 0, .int 0, .ref (um 1), .ref (um 2), .ref (um 3), .ref (um 4), .int 0, .ref (um 5), .ref (um 6), .ref (um 7), .int 0, .int 32, .int 0, .ref (um 8), .ref (um 9), .int 0, .int 0, .ref (um 10), .ref (um 11), .ref (um 12), .ref (um 13), .ref (um 14), .ref (um 15)])), ((um 0), .inl (cyI, 2490, .inl (yz 0 0)))] H := hP
  have hD : va_D A [(q1, .inr (11, [.ref (um 0), .int 0, .int 0, .ref (um 1), .ref (um 2), .ref (um 3), .ref (um 4), .int 0, .ref (um 5), .ref (um 6), .ref (um 7), .int 0, .int 32, .int 0, .ref (um 8), .ref (um 9), .int 0, .int 0, .ref (um 10), .ref (um 11), .ref (um 12), .ref (um 13), .ref (um 14), .ref (um 15)])), ((um 0), .inl (cyI, 2490, .inl (yz 0 0)))] := hD
  refine W.widen (k := 58) (n := 13281) (Nat.le_of_ble_eq_true rfl) (Nat.le_of_ble_eq_true rfl) ?_
  have hw : r_2 = 0 := hw
  subst hw
  refine lv_aload_n hx hb dL_law_306 rfl (lv_at hl 1 rfl) ?_
  have hPc := hP.sub (ws' := [(q1, .inr (11, [.ref (um 0), .int 0, .int 0, .ref (um 1), .ref (um 2), .ref (um 3), .ref (um 4), .int 0, .ref (um 5), .ref (um 6), .ref (um 7), .int 0, .int 32, .int 0, .ref (um 8), .ref (um 9), .int 0, .int 0, .ref (um 10), .ref (um 11), .ref (um 12), .ref (um 13), .ref (um 14), .ref (um 15)])), ((um 0), .inl (cyI, 2490, .inl (yz 0 0)))]) [0, 1] rfl
  have hDc := hD.sub (ws' := [(q1, .inr (11, [.ref (um 0), .int 0, .int 0, .ref (um 1), .ref (um 2), .ref (um 3), .ref (um 4), .int 0, .ref (um 5), .ref (um 6), .ref (um 7), .int 0, .int 32, .int 0, .ref (um 8), .ref (um 9), .int 0, .int 0, .ref (um 10), .ref (um 11), .ref (um 12), .ref (um 13), .ref (um 14), .ref (um 15)])), ((um 0), .inl (cyI, 2490, .inl (yz 0 0)))]) [0, 1] (by decide) rfl
  refine yy_calli [0, 1] [] (wr := []) (va_runV (As := []) (rest := [.int 0]) ⟨hx, hb, hml, hown, hts⟩ (r_reset l dC dI cyI cyZ cyO H.size q1 (um 0) (um 1) (um 2) (um 3) (um 4) (um 5) (um 6) (um 7) (um 8) (um 9) (um 10) (um 11) (um 12) (um 13) (um 14) (um 15) ) (cwV 0 hts gL_law_X11_reset rfl rfl rfl (by decide +kernel) ⟨Nat.le_of_ble_eq_true rfl, Nat.le_of_ble_eq_true rfl⟩) (yPreV hK hPc hDc (ci := 11) (q0 := 0) rfl rfl) rfl rfl hl.1 rfl (lv_room (Nat.le_of_ble_eq_true rfl)) dL_law_307 ⟨Nat.le_of_ble_eq_true rfl, Nat.le_of_ble_eq_true rfl⟩) hP hD hS hA rfl rfl (by decide) (by decide) (fun r_4 u_3 H locs hw hP hD hS => ?_)
  have hP : va_P (dC, dI) vwCl [] H := hP
  have hD : va_D A [] := hD
  refine W.widen (k := 58) (n := 13281) (Nat.le_of_ble_eq_true rfl) (Nat.le_of_ble_eq_true rfl) ?_
  have hw : r_4 = 0 := hw
  subst hw
  refine lv_icmp_eq (tgt := 838) hx hb dL_law_310 (by decide) (fun _ => ?_) (fun c => absurd (by decide) c)
  refine W.widen (k := 600000) (n := 7302250) (Nat.le_of_ble_eq_true rfl) (Nat.le_of_ble_eq_true rfl) ?_
  exact fin _ _ hS _ hl
set_option maxHeartbeats 4000000 in
set_option maxRecDepth 100000 in
/-- the law: a call of transfer on two fresh objects -/
theorem law_transfer {p : Program} {e : Env} {s : State} {m : MethodId} {below : List Frame} {meth : Method} {c : Code} (l : Launch) {b : Nat} {xs : Nat → Int32} (C0 : lw_At p s m meth c b 6 xs) {dC : Nat → ClassId} {dI : Nat → Nat → Nat} {cyI cyZ cyO : ClassId} {A : Nat → Prop} (hA : ∀ q : Nat, s.heap.size ≤ q → A q) (hbA : ¬ A b) (hN : yN s) (hK : va_K (dC, dI) vwCl (yT cyI cyZ cyO) s) (q0 q1 : Nat) (ux um : Nat → Nat) {H : Heap} {locs : List Loc} (hP : va_P (dC, dI) vwCl (yWX cyI cyZ cyO q0 ux ++ yWM cyI cyZ q1 um) H) (hD : va_D A (yWX cyI cyZ cyO q0 ux ++ yWM cyI cyZ q1 um)) (hS : va_S A s.heap H locs) {ls : Array Slot} (hl : lv_has ls 4 [(3, .int 0), (2, .ref q1), (1, .ref q0), (0, .ref b)]) (fin : ∀ (H : Heap) (locs : List Loc), va_S A s.heap H locs → ∀ ls : Array Slot, lv_has ls 4 [(3, .int 0), (2, .ref q1), (1, .ref q0), (0, .ref b)] → W p l e room_1 s m #[Value.ref b] below meth c H locs 600000 7302250 (lw_Z below #[Value.ref b] s) (F0 m 838 ls [])) : W p l e room_1 s m #[Value.ref b] below meth c H locs 58 13281 (lw_Z below #[Value.ref b] s) (F0 m 315 ls []) := by
  obtain ⟨hx, hb, hr, hml, hown0, hts0, hX, hbl, hlk, hgv⟩ := C0
  have hown : s.vm.findClass RL = some m.cls := hown0
  have hts : ∀ w ∈ wsL_law, w.before #[Value.ref b] s = true := fun w h => hts0 w (wsL_law_in w h)
  refine lv_aload_n hx hb dL_law_315 rfl (lv_at hl 2 rfl) ?_
  refine lv_aload_n hx hb dL_law_316 rfl (lv_at hl 3 rfl) ?_
  refine lv_iload_n hx hb dL_law_317 rfl (lv_at hl 0 rfl) ?_
  refine lv_iconst (v := 1) hx hb dL_law_318 (by decide) ?_
  refine lv_iadd hx hb dL_law_319 ?_
  refine yy_int (v := 1) (by decide) ?_
  refine va_sld hx hb hX hbl hbA hS (yin (by decide)) dL_law_320 ?_
  refine yy_int (v := (xs 1)) rfl ?_
  refine lv_aload_n hx hb dL_law_321 rfl (lv_at hl 3 rfl) ?_
  refine lv_iload_n hx hb dL_law_322 rfl (lv_at hl 0 rfl) ?_
  refine lv_iconst (v := 2) hx hb dL_law_323 (by decide) ?_
  refine lv_iadd hx hb dL_law_324 ?_
  refine yy_int (v := 2) (by decide) ?_
  refine va_sld hx hb hX hbl hbA hS (yin (by decide)) dL_law_325 ?_
  refine yy_int (v := (xs 2)) rfl ?_
  refine lv_if_eq (tgt := 333) hx hb dL_law_326 (by decide) (fun c326 => ?_) (fun c326 => ?_)
  · refine lv_iconst (v := 0) hx hb dL_law_333 (by decide) ?_
    refine lv_aload_n hx hb dL_law_334 rfl (lv_at hl 3 rfl) ?_
    refine lv_iload_n hx hb dL_law_335 rfl (lv_at hl 0 rfl) ?_
    refine lv_iconst (v := 3) hx hb dL_law_336 (by decide) ?_
    refine lv_iadd hx hb dL_law_337 ?_
    refine yy_int (v := 3) (by decide) ?_
    refine va_sld hx hb hX hbl hbA hS (yin (by decide)) dL_law_338 ?_
    refine yy_int (v := (xs 3)) rfl ?_
    refine lv_aload_n hx hb dL_law_339 rfl (lv_at hl 3 rfl) ?_
    refine lv_iload_n hx hb dL_law_340 rfl (lv_at hl 0 rfl) ?_
    refine lv_iconst (v := 4) hx hb dL_law_341 (by decide) ?_
    refine lv_iadd hx hb dL_law_342 ?_
    refine yy_int (v := 4) (by decide) ?_
    refine va_sld hx hb hX hbl hbA hS (yin (by decide)) dL_law_343 ?_
    refine yy_int (v := (xs 4)) rfl ?_
    refine lv_aload_n hx hb dL_law_344 rfl (lv_at hl 3 rfl) ?_
    refine lv_iload_n hx hb dL_law_345 rfl (lv_at hl 0 rfl) ?_
    refine lv_iconst (v := 5) hx hb dL_law_346 (by decide) ?_
    refine lv_iadd hx hb dL_law_347 ?_
    refine yy_int (v := 5) (by decide) ?_
    refine va_sld hx hb hX hbl hbA hS (yin (by decide)) dL_law_348 ?_
    refine yy_int (v := (xs 5)) rfl ?_
    have hPc := hP.sub (ws' := [(q0, .inr (10, [.ref (ux 26), .ref (ux 0), .ref (ux 35), .ref (ux 36), .ref (ux 37), .int 0])), ((ux 0), .inr (3, [.ref (ux 1), .ref (ux 8), .ref (ux 11), .ref (ux 14), .ref (ux 20), .ref (ux 22), .int 0])), ((ux 11), .inr (4, [.ref (ux 12), .int (-1), .int (-1), .int 0, .int 0, .int 0, .int 0])), ((ux 12), .inr (8, [.ref (ux 13), .int 60, .int 9, .int 0])), ((ux 13), .inl (cyI, 540, .inl (fun _ => 0)))]) [0, 1, 12, 13, 14] rfl
    have hDc := hD.sub (ws' := [(q0, .inr (10, [.ref (ux 26), .ref (ux 0), .ref (ux 35), .ref (ux 36), .ref (ux 37), .int 0])), ((ux 0), .inr (3, [.ref (ux 1), .ref (ux 8), .ref (ux 11), .ref (ux 14), .ref (ux 20), .ref (ux 22), .int 0])), ((ux 11), .inr (4, [.ref (ux 12), .int (-1), .int (-1), .int 0, .int 0, .int 0, .int 0])), ((ux 12), .inr (8, [.ref (ux 13), .int 60, .int 9, .int 0])), ((ux 13), .inl (cyI, 540, .inl (fun _ => 0)))]) [0, 1, 12, 13, 14] (by decide) rfl
    refine yy_calli [0, 1, 12, 13, 14] [41, 42] (wr := [(q1, .inr (11, [.ref (um 0), .int 0, .int 0, .ref (um 1), .ref (um 2), .ref (um 3), .ref (um 4), .int 0, .ref (um 5), .ref (um 6), .ref (um 7), .int 0, .int 32, .int 0, .ref (um 8), .ref (um 9), .int 0, .int 0, .ref (um 10), .ref (um 11), .ref (um 12), .ref (um 13), .ref (um 14), .ref (um 15)])), ((um 0), .inl (cyI, 2490, .inl (yz 0 0)))]) (va_runV (As := [.int (xs 1), .int 0, .int (xs 3), .int (xs 4), .int (xs 5)]) (rest := []) ⟨hx, hb, hml, hown, hts⟩ (x_transfer l dC dI cyI cyZ cyO H.size q0 (ux 0) (ux 1) (ux 8) (ux 11) (ux 12) (ux 13) (ux 14) (ux 20) (ux 22) (ux 26) (ux 35) (ux 36) (ux 37) (xs 1) 0 (xs 3) (xs 4) (xs 5) ) (cwV 5 hts gL_law_X10_transfer rfl rfl rfl (by decide +kernel) ⟨Nat.le_of_ble_eq_true rfl, Nat.le_of_ble_eq_true rfl⟩) (yPreV hK hPc hDc (ci := 10) (q0 := 0) rfl rfl) rfl rfl hl.1 rfl (lv_room (Nat.le_of_ble_eq_true rfl)) dL_law_349 ⟨Nat.le_of_ble_eq_true rfl, Nat.le_of_ble_eq_true rfl⟩) hP hD hS hA rfl rfl (by decide) (by decide) (fun r_2 u_1 H locs hw hP hD hS => ?_)
    have hP : va_P (dC, dI) vwCl [(q1, .inr (11, [.ref (um 0), .int 0, .int 0, .ref (um 1), .ref (um 2), .ref (um 3), .ref (um 4), .int 0, .ref (um 5), .ref (um 6), .ref (um 7), .int 0, .int 32, .int 0, .ref (um 8), .ref (um 9), .int 0, .int 0, .ref (um 10), .ref (um 11), .ref (um 12), .ref (um 13), .ref (um 14), .ref (um 15)])), ((um 0), .inl (cyI, 2490, .inl (yz 0 0)))] H := hP
    have hD : va_D A [(q1, .inr (11, [.ref (um 0), .int 0, .int 0, .ref (um 1), .ref (um 2), .ref (um 3), .ref (um 4), .int 0, .ref (um 5), .ref (um 6), .ref (um 7), .int 0, .int 32, .int 0, .ref (um 8), .ref (um 9), .int 0, .int 0, .ref (um 10), .ref (um 11), .ref (um 12), .ref (um 13), .ref (um 14), .ref (um 15)])), ((um 0), .inl (cyI, 2490, .inl (yz 0 0)))] := hD
    refine W.widen (k := 58) (n := 13281) (Nat.le_of_ble_eq_true rfl) (Nat.le_of_ble_eq_true rfl) ?_
    have hw : r_2 = (sp_transfer (xs 1) (xs 4) (xs 5)) := hw
    subst hw
    refine lv_aload_n hx hb dL_law_352 rfl (lv_at hl 1 rfl) ?_
    refine lv_aload_n hx hb dL_law_353 rfl (lv_at hl 3 rfl) ?_
    refine lv_iload_n hx hb dL_law_354 rfl (lv_at hl 0 rfl) ?_
    refine lv_iconst (v := 1) hx hb dL_law_355 (by decide) ?_
    refine lv_iadd hx hb dL_law_356 ?_
    refine yy_int (v := 1) (by decide) ?_
    refine va_sld hx hb hX hbl hbA hS (yin (by decide)) dL_law_357 ?_
    refine yy_int (v := (xs 1)) rfl ?_
    refine lv_aload_n hx hb dL_law_358 rfl (lv_at hl 3 rfl) ?_
    refine lv_iload_n hx hb dL_law_359 rfl (lv_at hl 0 rfl) ?_
    refine lv_iconst (v := 2) hx hb dL_law_360 (by decide) ?_
    refine lv_iadd hx hb dL_law_361 ?_
    refine yy_int (v := 2) (by decide) ?_
    refine va_sld hx hb hX hbl hbA hS (yin (by decide)) dL_law_362 ?_
    refine yy_int (v := (xs 2)) rfl ?_
    refine lv_if_eq (tgt := 370) hx hb dL_law_363 (by decide) (fun _ => ?_) (fun c => absurd c326 c)
    refine lv_iconst (v := 0) hx hb dL_law_370 (by decide) ?_
    refine lv_aload_n hx hb dL_law_371 rfl (lv_at hl 3 rfl) ?_
    refine lv_iload_n hx hb dL_law_372 rfl (lv_at hl 0 rfl) ?_
    refine lv_iconst (v := 3) hx hb dL_law_373 (by decide) ?_
    refine lv_iadd hx hb dL_law_374 ?_
    refine yy_int (v := 3) (by decide) ?_
    refine va_sld hx hb hX hbl hbA hS (yin (by decide)) dL_law_375 ?_
    refine yy_int (v := (xs 3)) rfl ?_
    refine lv_aload_n hx hb dL_law_376 rfl (lv_at hl 3 rfl) ?_
    refine lv_iload_n hx hb dL_law_377 rfl (lv_at hl 0 rfl) ?_
    refine lv_iconst (v := 4) hx hb dL_law_378 (by decide) ?_
    refine lv_iadd hx hb dL_law_379 ?_
    refine yy_int (v := 4) (by decide) ?_
    refine va_sld hx hb hX hbl hbA hS (yin (by decide)) dL_law_380 ?_
    refine yy_int (v := (xs 4)) rfl ?_
    refine lv_aload_n hx hb dL_law_381 rfl (lv_at hl 3 rfl) ?_
    refine lv_iload_n hx hb dL_law_382 rfl (lv_at hl 0 rfl) ?_
    refine lv_iconst (v := 5) hx hb dL_law_383 (by decide) ?_
    refine lv_iadd hx hb dL_law_384 ?_
    refine yy_int (v := 5) (by decide) ?_
    refine va_sld hx hb hX hbl hbA hS (yin (by decide)) dL_law_385 ?_
    refine yy_int (v := (xs 5)) rfl ?_
    have hPc := hP.sub (ws' := [(q1, .inr (11, [.ref (um 0), .int 0, .int 0, .ref (um 1), .ref (um 2), .ref (um 3), .ref (um 4), .int 0, .ref (um 5), .ref (um 6), .ref (um 7), .int 0, .int 32, .int 0, .ref (um 8), .ref (um 9), .int 0, .int 0, .ref (um 10), .ref (um 11), .ref (um 12), .ref (um 13), .ref (um 14), .ref (um 15)])), ((um 0), .inl (cyI, 2490, .inl (yz 0 0)))]) [0, 1] rfl
    have hDc := hD.sub (ws' := [(q1, .inr (11, [.ref (um 0), .int 0, .int 0, .ref (um 1), .ref (um 2), .ref (um 3), .ref (um 4), .int 0, .ref (um 5), .ref (um 6), .ref (um 7), .int 0, .int 32, .int 0, .ref (um 8), .ref (um 9), .int 0, .int 0, .ref (um 10), .ref (um 11), .ref (um 12), .ref (um 13), .ref (um 14), .ref (um 15)])), ((um 0), .inl (cyI, 2490, .inl (yz 0 0)))]) [0, 1] (by decide) rfl
    refine yy_calli [0, 1] [] (wr := []) (va_runV (As := [.int (xs 1), .int 0, .int (xs 3), .int (xs 4), .int (xs 5)]) (rest := [.int (sp_transfer (xs 1) (xs 4) (xs 5))]) ⟨hx, hb, hml, hown, hts⟩ (r_transfer l dC dI cyI cyZ cyO H.size q1 (um 0) (um 1) (um 2) (um 3) (um 4) (um 5) (um 6) (um 7) (um 8) (um 9) (um 10) (um 11) (um 12) (um 13) (um 14) (um 15) (xs 1) 0 (xs 3) (xs 4) (xs 5) ) (cwV 5 hts gL_law_X11_transfer rfl rfl rfl (by decide +kernel) ⟨Nat.le_of_ble_eq_true rfl, Nat.le_of_ble_eq_true rfl⟩) (yPreV hK hPc hDc (ci := 11) (q0 := 0) rfl rfl) rfl rfl hl.1 rfl (lv_room (Nat.le_of_ble_eq_true rfl)) dL_law_386 ⟨Nat.le_of_ble_eq_true rfl, Nat.le_of_ble_eq_true rfl⟩) hP hD hS hA rfl rfl (by decide) (by decide) (fun r_4 u_3 H locs hw hP hD hS => ?_)
    have hP : va_P (dC, dI) vwCl [] H := hP
    have hD : va_D A [] := hD
    refine W.widen (k := 58) (n := 13281) (Nat.le_of_ble_eq_true rfl) (Nat.le_of_ble_eq_true rfl) ?_
    have hw : r_4 = (sp_transfer (xs 1) (xs 4) (xs 5)) := hw
    subst hw
    refine lv_icmp_eq (tgt := 838) hx hb dL_law_389 (by decide) (fun _ => ?_) (fun c => absurd (rfl) c)
    refine W.widen (k := 600000) (n := 7302250) (Nat.le_of_ble_eq_true rfl) (Nat.le_of_ble_eq_true rfl) ?_
    exact fin _ _ hS _ hl
  · refine lv_iconst (v := 1) hx hb dL_law_329 (by decide) ?_
    refine lv_goto (tgt := 334) hx hb dL_law_330 (by decide) ?_
    refine lv_aload_n hx hb dL_law_334 rfl (lv_at hl 3 rfl) ?_
    refine lv_iload_n hx hb dL_law_335 rfl (lv_at hl 0 rfl) ?_
    refine lv_iconst (v := 3) hx hb dL_law_336 (by decide) ?_
    refine lv_iadd hx hb dL_law_337 ?_
    refine yy_int (v := 3) (by decide) ?_
    refine va_sld hx hb hX hbl hbA hS (yin (by decide)) dL_law_338 ?_
    refine yy_int (v := (xs 3)) rfl ?_
    refine lv_aload_n hx hb dL_law_339 rfl (lv_at hl 3 rfl) ?_
    refine lv_iload_n hx hb dL_law_340 rfl (lv_at hl 0 rfl) ?_
    refine lv_iconst (v := 4) hx hb dL_law_341 (by decide) ?_
    refine lv_iadd hx hb dL_law_342 ?_
    refine yy_int (v := 4) (by decide) ?_
    refine va_sld hx hb hX hbl hbA hS (yin (by decide)) dL_law_343 ?_
    refine yy_int (v := (xs 4)) rfl ?_
    refine lv_aload_n hx hb dL_law_344 rfl (lv_at hl 3 rfl) ?_
    refine lv_iload_n hx hb dL_law_345 rfl (lv_at hl 0 rfl) ?_
    refine lv_iconst (v := 5) hx hb dL_law_346 (by decide) ?_
    refine lv_iadd hx hb dL_law_347 ?_
    refine yy_int (v := 5) (by decide) ?_
    refine va_sld hx hb hX hbl hbA hS (yin (by decide)) dL_law_348 ?_
    refine yy_int (v := (xs 5)) rfl ?_
    have hPc := hP.sub (ws' := [(q0, .inr (10, [.ref (ux 26), .ref (ux 0), .ref (ux 35), .ref (ux 36), .ref (ux 37), .int 0])), ((ux 0), .inr (3, [.ref (ux 1), .ref (ux 8), .ref (ux 11), .ref (ux 14), .ref (ux 20), .ref (ux 22), .int 0])), ((ux 11), .inr (4, [.ref (ux 12), .int (-1), .int (-1), .int 0, .int 0, .int 0, .int 0])), ((ux 12), .inr (8, [.ref (ux 13), .int 60, .int 9, .int 0])), ((ux 13), .inl (cyI, 540, .inl (fun _ => 0)))]) [0, 1, 12, 13, 14] rfl
    have hDc := hD.sub (ws' := [(q0, .inr (10, [.ref (ux 26), .ref (ux 0), .ref (ux 35), .ref (ux 36), .ref (ux 37), .int 0])), ((ux 0), .inr (3, [.ref (ux 1), .ref (ux 8), .ref (ux 11), .ref (ux 14), .ref (ux 20), .ref (ux 22), .int 0])), ((ux 11), .inr (4, [.ref (ux 12), .int (-1), .int (-1), .int 0, .int 0, .int 0, .int 0])), ((ux 12), .inr (8, [.ref (ux 13), .int 60, .int 9, .int 0])), ((ux 13), .inl (cyI, 540, .inl (fun _ => 0)))]) [0, 1, 12, 13, 14] (by decide) rfl
    refine yy_calli [0, 1, 12, 13, 14] [41, 42] (wr := [(q1, .inr (11, [.ref (um 0), .int 0, .int 0, .ref (um 1), .ref (um 2), .ref (um 3), .ref (um 4), .int 0, .ref (um 5), .ref (um 6), .ref (um 7), .int 0, .int 32, .int 0, .ref (um 8), .ref (um 9), .int 0, .int 0, .ref (um 10), .ref (um 11), .ref (um 12), .ref (um 13), .ref (um 14), .ref (um 15)])), ((um 0), .inl (cyI, 2490, .inl (yz 0 0)))]) (va_runV (As := [.int (xs 1), .int 1, .int (xs 3), .int (xs 4), .int (xs 5)]) (rest := []) ⟨hx, hb, hml, hown, hts⟩ (x_transfer l dC dI cyI cyZ cyO H.size q0 (ux 0) (ux 1) (ux 8) (ux 11) (ux 12) (ux 13) (ux 14) (ux 20) (ux 22) (ux 26) (ux 35) (ux 36) (ux 37) (xs 1) 1 (xs 3) (xs 4) (xs 5) ) (cwV 5 hts gL_law_X10_transfer rfl rfl rfl (by decide +kernel) ⟨Nat.le_of_ble_eq_true rfl, Nat.le_of_ble_eq_true rfl⟩) (yPreV hK hPc hDc (ci := 10) (q0 := 0) rfl rfl) rfl rfl hl.1 rfl (lv_room (Nat.le_of_ble_eq_true rfl)) dL_law_349 ⟨Nat.le_of_ble_eq_true rfl, Nat.le_of_ble_eq_true rfl⟩) hP hD hS hA rfl rfl (by decide) (by decide) (fun r_6 u_5 H locs hw hP hD hS => ?_)
    have hP : va_P (dC, dI) vwCl [(q1, .inr (11, [.ref (um 0), .int 0, .int 0, .ref (um 1), .ref (um 2), .ref (um 3), .ref (um 4), .int 0, .ref (um 5), .ref (um 6), .ref (um 7), .int 0, .int 32, .int 0, .ref (um 8), .ref (um 9), .int 0, .int 0, .ref (um 10), .ref (um 11), .ref (um 12), .ref (um 13), .ref (um 14), .ref (um 15)])), ((um 0), .inl (cyI, 2490, .inl (yz 0 0)))] H := hP
    have hD : va_D A [(q1, .inr (11, [.ref (um 0), .int 0, .int 0, .ref (um 1), .ref (um 2), .ref (um 3), .ref (um 4), .int 0, .ref (um 5), .ref (um 6), .ref (um 7), .int 0, .int 32, .int 0, .ref (um 8), .ref (um 9), .int 0, .int 0, .ref (um 10), .ref (um 11), .ref (um 12), .ref (um 13), .ref (um 14), .ref (um 15)])), ((um 0), .inl (cyI, 2490, .inl (yz 0 0)))] := hD
    refine W.widen (k := 58) (n := 13281) (Nat.le_of_ble_eq_true rfl) (Nat.le_of_ble_eq_true rfl) ?_
    have hw : r_6 = (sp_transfer (xs 1) (xs 4) (xs 5)) := hw
    subst hw
    refine lv_aload_n hx hb dL_law_352 rfl (lv_at hl 1 rfl) ?_
    refine lv_aload_n hx hb dL_law_353 rfl (lv_at hl 3 rfl) ?_
    refine lv_iload_n hx hb dL_law_354 rfl (lv_at hl 0 rfl) ?_
    refine lv_iconst (v := 1) hx hb dL_law_355 (by decide) ?_
    refine lv_iadd hx hb dL_law_356 ?_
    refine yy_int (v := 1) (by decide) ?_
    refine va_sld hx hb hX hbl hbA hS (yin (by decide)) dL_law_357 ?_
    refine yy_int (v := (xs 1)) rfl ?_
    refine lv_aload_n hx hb dL_law_358 rfl (lv_at hl 3 rfl) ?_
    refine lv_iload_n hx hb dL_law_359 rfl (lv_at hl 0 rfl) ?_
    refine lv_iconst (v := 2) hx hb dL_law_360 (by decide) ?_
    refine lv_iadd hx hb dL_law_361 ?_
    refine yy_int (v := 2) (by decide) ?_
    refine va_sld hx hb hX hbl hbA hS (yin (by decide)) dL_law_362 ?_
    refine yy_int (v := (xs 2)) rfl ?_
    refine lv_if_eq (tgt := 370) hx hb dL_law_363 (by decide) (fun c => absurd c c326) (fun _ => ?_)
    refine lv_iconst (v := 1) hx hb dL_law_366 (by decide) ?_
    refine lv_goto (tgt := 371) hx hb dL_law_367 (by decide) ?_
    refine lv_aload_n hx hb dL_law_371 rfl (lv_at hl 3 rfl) ?_
    refine lv_iload_n hx hb dL_law_372 rfl (lv_at hl 0 rfl) ?_
    refine lv_iconst (v := 3) hx hb dL_law_373 (by decide) ?_
    refine lv_iadd hx hb dL_law_374 ?_
    refine yy_int (v := 3) (by decide) ?_
    refine va_sld hx hb hX hbl hbA hS (yin (by decide)) dL_law_375 ?_
    refine yy_int (v := (xs 3)) rfl ?_
    refine lv_aload_n hx hb dL_law_376 rfl (lv_at hl 3 rfl) ?_
    refine lv_iload_n hx hb dL_law_377 rfl (lv_at hl 0 rfl) ?_
    refine lv_iconst (v := 4) hx hb dL_law_378 (by decide) ?_
    refine lv_iadd hx hb dL_law_379 ?_
    refine yy_int (v := 4) (by decide) ?_
    refine va_sld hx hb hX hbl hbA hS (yin (by decide)) dL_law_380 ?_
    refine yy_int (v := (xs 4)) rfl ?_
    refine lv_aload_n hx hb dL_law_381 rfl (lv_at hl 3 rfl) ?_
    refine lv_iload_n hx hb dL_law_382 rfl (lv_at hl 0 rfl) ?_
    refine lv_iconst (v := 5) hx hb dL_law_383 (by decide) ?_
    refine lv_iadd hx hb dL_law_384 ?_
    refine yy_int (v := 5) (by decide) ?_
    refine va_sld hx hb hX hbl hbA hS (yin (by decide)) dL_law_385 ?_
    refine yy_int (v := (xs 5)) rfl ?_
    have hPc := hP.sub (ws' := [(q1, .inr (11, [.ref (um 0), .int 0, .int 0, .ref (um 1), .ref (um 2), .ref (um 3), .ref (um 4), .int 0, .ref (um 5), .ref (um 6), .ref (um 7), .int 0, .int 32, .int 0, .ref (um 8), .ref (um 9), .int 0, .int 0, .ref (um 10), .ref (um 11), .ref (um 12), .ref (um 13), .ref (um 14), .ref (um 15)])), ((um 0), .inl (cyI, 2490, .inl (yz 0 0)))]) [0, 1] rfl
    have hDc := hD.sub (ws' := [(q1, .inr (11, [.ref (um 0), .int 0, .int 0, .ref (um 1), .ref (um 2), .ref (um 3), .ref (um 4), .int 0, .ref (um 5), .ref (um 6), .ref (um 7), .int 0, .int 32, .int 0, .ref (um 8), .ref (um 9), .int 0, .int 0, .ref (um 10), .ref (um 11), .ref (um 12), .ref (um 13), .ref (um 14), .ref (um 15)])), ((um 0), .inl (cyI, 2490, .inl (yz 0 0)))]) [0, 1] (by decide) rfl
    refine yy_calli [0, 1] [] (wr := []) (va_runV (As := [.int (xs 1), .int 1, .int (xs 3), .int (xs 4), .int (xs 5)]) (rest := [.int (sp_transfer (xs 1) (xs 4) (xs 5))]) ⟨hx, hb, hml, hown, hts⟩ (r_transfer l dC dI cyI cyZ cyO H.size q1 (um 0) (um 1) (um 2) (um 3) (um 4) (um 5) (um 6) (um 7) (um 8) (um 9) (um 10) (um 11) (um 12) (um 13) (um 14) (um 15) (xs 1) 1 (xs 3) (xs 4) (xs 5) ) (cwV 5 hts gL_law_X11_transfer rfl rfl rfl (by decide +kernel) ⟨Nat.le_of_ble_eq_true rfl, Nat.le_of_ble_eq_true rfl⟩) (yPreV hK hPc hDc (ci := 11) (q0 := 0) rfl rfl) rfl rfl hl.1 rfl (lv_room (Nat.le_of_ble_eq_true rfl)) dL_law_386 ⟨Nat.le_of_ble_eq_true rfl, Nat.le_of_ble_eq_true rfl⟩) hP hD hS hA rfl rfl (by decide) (by decide) (fun r_8 u_7 H locs hw hP hD hS => ?_)
    have hP : va_P (dC, dI) vwCl [] H := hP
    have hD : va_D A [] := hD
    refine W.widen (k := 58) (n := 13281) (Nat.le_of_ble_eq_true rfl) (Nat.le_of_ble_eq_true rfl) ?_
    have hw : r_8 = (sp_transfer (xs 1) (xs 4) (xs 5)) := hw
    subst hw
    refine lv_icmp_eq (tgt := 838) hx hb dL_law_389 (by decide) (fun _ => ?_) (fun c => absurd (rfl) c)
    refine W.widen (k := 600000) (n := 7302250) (Nat.le_of_ble_eq_true rfl) (Nat.le_of_ble_eq_true rfl) ?_
    exact fin _ _ hS _ hl
set_option maxHeartbeats 4000000 in
set_option maxRecDepth 100000 in
/-- the law: a call of clock on two fresh objects -/
theorem law_clock {p : Program} {e : Env} {s : State} {m : MethodId} {below : List Frame} {meth : Method} {c : Code} (l : Launch) {b : Nat} {xs : Nat → Int32} (C0 : lw_At p s m meth c b 6 xs) {dC : Nat → ClassId} {dI : Nat → Nat → Nat} {cyI cyZ cyO : ClassId} {A : Nat → Prop} (hA : ∀ q : Nat, s.heap.size ≤ q → A q) (hbA : ¬ A b) (hN : yN s) (hK : va_K (dC, dI) vwCl (yT cyI cyZ cyO) s) (q0 q1 : Nat) (ux um : Nat → Nat) {H : Heap} {locs : List Loc} (hP : va_P (dC, dI) vwCl (yWX cyI cyZ cyO q0 ux ++ yWM cyI cyZ q1 um) H) (hD : va_D A (yWX cyI cyZ cyO q0 ux ++ yWM cyI cyZ q1 um)) (hS : va_S A s.heap H locs) {ls : Array Slot} (hl : lv_has ls 4 [(3, .int 0), (2, .ref q1), (1, .ref q0), (0, .ref b)]) (fin : ∀ (H : Heap) (locs : List Loc), va_S A s.heap H locs → ∀ ls : Array Slot, lv_has ls 4 [(3, .int 0), (2, .ref q1), (1, .ref q0), (0, .ref b)] → W p l e room_1 s m #[Value.ref b] below meth c H locs 600000 7302250 (lw_Z below #[Value.ref b] s) (F0 m 838 ls [])) : W p l e room_1 s m #[Value.ref b] below meth c H locs 58 13281 (lw_Z below #[Value.ref b] s) (F0 m 394 ls []) := by
  obtain ⟨hx, hb, hr, hml, hown0, hts0, hX, hbl, hlk, hgv⟩ := C0
  have hown : s.vm.findClass RL = some m.cls := hown0
  have hts : ∀ w ∈ wsL_law, w.before #[Value.ref b] s = true := fun w h => hts0 w (wsL_law_in w h)
  refine lv_aload_n hx hb dL_law_394 rfl (lv_at hl 2 rfl) ?_
  refine lv_aload_n hx hb dL_law_395 rfl (lv_at hl 3 rfl) ?_
  refine lv_iload_n hx hb dL_law_396 rfl (lv_at hl 0 rfl) ?_
  refine lv_iconst (v := 1) hx hb dL_law_397 (by decide) ?_
  refine lv_iadd hx hb dL_law_398 ?_
  refine yy_int (v := 1) (by decide) ?_
  refine va_sld hx hb hX hbl hbA hS (yin (by decide)) dL_law_399 ?_
  refine yy_int (v := (xs 1)) rfl ?_
  have hPc := hP.sub (ws' := [(q0, .inr (10, [.ref (ux 26), .ref (ux 0), .ref (ux 35), .ref (ux 36), .ref (ux 37), .int 0])), ((ux 0), .inr (3, [.ref (ux 1), .ref (ux 8), .ref (ux 11), .ref (ux 14), .ref (ux 20), .ref (ux 22), .int 0])), ((ux 1), .inr (9, [.ref (ux 2), .ref (ux 3), .ref (ux 4), .ref (ux 5), .ref (ux 6), .ref (ux 7)])), ((ux 2), .inl (cyI, 15, .inl yR)), ((ux 3), .inl (cyI, 15, .inl (fun _ => 0))), ((ux 4), .inl (cyI, 15, .inl (fun _ => 0))), ((ux 5), .inl (cyI, 15, .inl (fun _ => 0))), ((ux 6), .inl (cyI, 15, .inl (fun _ => 0))), ((ux 7), .inl (cyI, 15, .inl (fun _ => 0))), ((ux 8), .inr (1, [.ref (ux 9), .ref (ux 10), .int (-1)])), ((ux 11), .inr (4, [.ref (ux 12), .int (-1), .int (-1), .int 0, .int 0, .int 0, .int 0])), ((ux 12), .inr (8, [.ref (ux 13), .int 60, .int 9, .int 0])), ((ux 14), .inr (0, [.ref (ux 17), .ref (ux 15), .ref (ux 16), .int 0, .int 0, .int 0, .int 0, .int 0, .int 0])), ((ux 17), .inr (2, [.ref (ux 18), .int 0, .int 0, .int 0, .int 0, .int 0, .int 0, .int 0, .int 0, .int 0, .int 0, .int 0, .int (-1), .int 0])), ((ux 20), .inr (7, [.ref (ux 21), .int 0, .int 0, .int 0])), ((ux 22), .inr (5, [.ref (ux 23), .ref (ux 24), .int 0, .int 0, .int 0])), ((ux 26), .inr (6, [.ref (ux 27), .ref (ux 28), .ref (ux 29), .ref (ux 30), .ref (ux 31), .ref (ux 32), .ref (ux 33), .ref (ux 34), .int 0, .int 0, .int 0, .int 32, .int 0]))]) [0, 1, 2, 3, 4, 5, 6, 7, 8, 9, 12, 13, 15, 18, 21, 23, 27] rfl
  have hDc := hD.sub (ws' := [(q0, .inr (10, [.ref (ux 26), .ref (ux 0), .ref (ux 35), .ref (ux 36), .ref (ux 37), .int 0])), ((ux 0), .inr (3, [.ref (ux 1), .ref (ux 8), .ref (ux 11), .ref (ux 14), .ref (ux 20), .ref (ux 22), .int 0])), ((ux 1), .inr (9, [.ref (ux 2), .ref (ux 3), .ref (ux 4), .ref (ux 5), .ref (ux 6), .ref (ux 7)])), ((ux 2), .inl (cyI, 15, .inl yR)), ((ux 3), .inl (cyI, 15, .inl (fun _ => 0))), ((ux 4), .inl (cyI, 15, .inl (fun _ => 0))), ((ux 5), .inl (cyI, 15, .inl (fun _ => 0))), ((ux 6), .inl (cyI, 15, .inl (fun _ => 0))), ((ux 7), .inl (cyI, 15, .inl (fun _ => 0))), ((ux 8), .inr (1, [.ref (ux 9), .ref (ux 10), .int (-1)])), ((ux 11), .inr (4, [.ref (ux 12), .int (-1), .int (-1), .int 0, .int 0, .int 0, .int 0])), ((ux 12), .inr (8, [.ref (ux 13), .int 60, .int 9, .int 0])), ((ux 14), .inr (0, [.ref (ux 17), .ref (ux 15), .ref (ux 16), .int 0, .int 0, .int 0, .int 0, .int 0, .int 0])), ((ux 17), .inr (2, [.ref (ux 18), .int 0, .int 0, .int 0, .int 0, .int 0, .int 0, .int 0, .int 0, .int 0, .int 0, .int 0, .int (-1), .int 0])), ((ux 20), .inr (7, [.ref (ux 21), .int 0, .int 0, .int 0])), ((ux 22), .inr (5, [.ref (ux 23), .ref (ux 24), .int 0, .int 0, .int 0])), ((ux 26), .inr (6, [.ref (ux 27), .ref (ux 28), .ref (ux 29), .ref (ux 30), .ref (ux 31), .ref (ux 32), .ref (ux 33), .ref (ux 34), .int 0, .int 0, .int 0, .int 32, .int 0]))]) [0, 1, 2, 3, 4, 5, 6, 7, 8, 9, 12, 13, 15, 18, 21, 23, 27] (by decide) rfl
  refine yy_calli [0, 1, 2, 3, 4, 5, 6, 7, 8, 9, 12, 13, 15, 18, 21, 23, 27] [41, 42, 50, 51] (wr := [(q1, .inr (11, [.ref (um 0), .int 0, .int 0, .ref (um 1), .ref (um 2), .ref (um 3), .ref (um 4), .int 0, .ref (um 5), .ref (um 6), .ref (um 7), .int 0, .int 32, .int 0, .ref (um 8), .ref (um 9), .int 0, .int 0, .ref (um 10), .ref (um 11), .ref (um 12), .ref (um 13), .ref (um 14), .ref (um 15)])), ((um 0), .inl (cyI, 2490, .inl (yz 0 0))), ((um 8), .inl (cyI, 15, .inl (fun _ => 0))), ((um 9), .inl (cyI, 15, .inl (fun _ => 0)))]) (va_runV (As := [.int (xs 1)]) (rest := []) ⟨hx, hb, hml, hown, hts⟩ (x_clock l dC dI cyI cyZ cyO H.size q0 (ux 0) (ux 1) (ux 2) (ux 3) (ux 4) (ux 5) (ux 6) (ux 7) (ux 8) (ux 9) (ux 10) (ux 11) (ux 12) (ux 13) (ux 14) (ux 15) (ux 16) (ux 17) (ux 18) (ux 20) (ux 21) (ux 22) (ux 23) (ux 24) (ux 26) (ux 27) (ux 28) (ux 29) (ux 30) (ux 31) (ux 32) (ux 33) (ux 34) (ux 35) (ux 36) (ux 37) (xs 1) ) (cwV 1 hts gL_law_X10_clock rfl rfl rfl (by decide +kernel) ⟨Nat.le_of_ble_eq_true rfl, Nat.le_of_ble_eq_true rfl⟩) (yPreV hK hPc hDc (ci := 10) (q0 := 0) rfl rfl) rfl rfl hl.1 rfl (lv_room (Nat.le_of_ble_eq_true rfl)) dL_law_400 ⟨Nat.le_of_ble_eq_true rfl, Nat.le_of_ble_eq_true rfl⟩) hP hD hS hA rfl rfl (by decide) (by decide) (fun r_2 u_1 H locs hw hP hD hS => ?_)
  have hP : va_P (dC, dI) vwCl [(q1, .inr (11, [.ref (um 0), .int 0, .int 0, .ref (um 1), .ref (um 2), .ref (um 3), .ref (um 4), .int 0, .ref (um 5), .ref (um 6), .ref (um 7), .int 0, .int 32, .int 0, .ref (um 8), .ref (um 9), .int 0, .int 0, .ref (um 10), .ref (um 11), .ref (um 12), .ref (um 13), .ref (um 14), .ref (um 15)])), ((um 0), .inl (cyI, 2490, .inl (yz 0 0))), ((um 8), .inl (cyI, 15, .inl (fun _ => 0))), ((um 9), .inl (cyI, 15, .inl (fun _ => 0)))] H := hP
  have hD : va_D A [(q1, .inr (11, [.ref (um 0), .int 0, .int 0, .ref (um 1), .ref (um 2), .ref (um 3), .ref (um 4), .int 0, .ref (um 5), .ref (um 6), .ref (um 7), .int 0, .int 32, .int 0, .ref (um 8), .ref (um 9), .int 0, .int 0, .ref (um 10), .ref (um 11), .ref (um 12), .ref (um 13), .ref (um 14), .ref (um 15)])), ((um 0), .inl (cyI, 2490, .inl (yz 0 0))), ((um 8), .inl (cyI, 15, .inl (fun _ => 0))), ((um 9), .inl (cyI, 15, .inl (fun _ => 0)))] := hD
  refine W.widen (k := 58) (n := 13281) (Nat.le_of_ble_eq_true rfl) (Nat.le_of_ble_eq_true rfl) ?_
  have hw : r_2 = (sp_clock (xs 1)) := hw
  subst hw
  refine lv_aload_n hx hb dL_law_403 rfl (lv_at hl 1 rfl) ?_
  refine lv_aload_n hx hb dL_law_404 rfl (lv_at hl 3 rfl) ?_
  refine lv_iload_n hx hb dL_law_405 rfl (lv_at hl 0 rfl) ?_
  refine lv_iconst (v := 1) hx hb dL_law_406 (by decide) ?_
  refine lv_iadd hx hb dL_law_407 ?_
  refine yy_int (v := 1) (by decide) ?_
  refine va_sld hx hb hX hbl hbA hS (yin (by decide)) dL_law_408 ?_
  refine yy_int (v := (xs 1)) rfl ?_
  have hPc := hP.sub (ws' := [(q1, .inr (11, [.ref (um 0), .int 0, .int 0, .ref (um 1), .ref (um 2), .ref (um 3), .ref (um 4), .int 0, .ref (um 5), .ref (um 6), .ref (um 7), .int 0, .int 32, .int 0, .ref (um 8), .ref (um 9), .int 0, .int 0, .ref (um 10), .ref (um 11), .ref (um 12), .ref (um 13), .ref (um 14), .ref (um 15)])), ((um 0), .inl (cyI, 2490, .inl (yz 0 0))), ((um 8), .inl (cyI, 15, .inl (fun _ => 0))), ((um 9), .inl (cyI, 15, .inl (fun _ => 0)))]) [0, 1, 2, 3] rfl
  have hDc := hD.sub (ws' := [(q1, .inr (11, [.ref (um 0), .int 0, .int 0, .ref (um 1), .ref (um 2), .ref (um 3), .ref (um 4), .int 0, .ref (um 5), .ref (um 6), .ref (um 7), .int 0, .int 32, .int 0, .ref (um 8), .ref (um 9), .int 0, .int 0, .ref (um 10), .ref (um 11), .ref (um 12), .ref (um 13), .ref (um 14), .ref (um 15)])), ((um 0), .inl (cyI, 2490, .inl (yz 0 0))), ((um 8), .inl (cyI, 15, .inl (fun _ => 0))), ((um 9), .inl (cyI, 15, .inl (fun _ => 0)))]) [0, 1, 2, 3] (by decide) rfl
  refine yy_calli [0, 1, 2, 3] [] (wr := []) (va_runV (As := [.int (xs 1)]) (rest := [.int (sp_clock (xs 1))]) ⟨hx, hb, hml, hown, hts⟩ (r_clock l dC dI cyI cyZ cyO H.size q1 (um 0) (um 1) (um 2) (um 3) (um 4) (um 5) (um 6) (um 7) (um 8) (um 9) (um 10) (um 11) (um 12) (um 13) (um 14) (um 15) (xs 1) ) (cwV 1 hts gL_law_X11_clock rfl rfl rfl (by decide +kernel) ⟨Nat.le_of_ble_eq_true rfl, Nat.le_of_ble_eq_true rfl⟩) (yPreV hK hPc hDc (ci := 11) (q0 := 0) rfl rfl) rfl rfl hl.1 rfl (lv_room (Nat.le_of_ble_eq_true rfl)) dL_law_409 ⟨Nat.le_of_ble_eq_true rfl, Nat.le_of_ble_eq_true rfl⟩) hP hD hS hA rfl rfl (by decide) (by decide) (fun r_4 u_3 H locs hw hP hD hS => ?_)
  have hP : va_P (dC, dI) vwCl [] H := hP
  have hD : va_D A [] := hD
  refine W.widen (k := 58) (n := 13281) (Nat.le_of_ble_eq_true rfl) (Nat.le_of_ble_eq_true rfl) ?_
  have hw : r_4 = (sp_clock (xs 1)) := hw
  subst hw
  refine lv_icmp_eq (tgt := 838) hx hb dL_law_412 (by decide) (fun _ => ?_) (fun c => absurd (rfl) c)
  refine W.widen (k := 600000) (n := 7302250) (Nat.le_of_ble_eq_true rfl) (Nat.le_of_ble_eq_true rfl) ?_
  exact fin _ _ hS _ hl
set_option maxHeartbeats 4000000 in
set_option maxRecDepth 100000 in
/-- the law: a call of finish on two fresh objects -/
theorem law_finish {p : Program} {e : Env} {s : State} {m : MethodId} {below : List Frame} {meth : Method} {c : Code} (l : Launch) {b : Nat} {xs : Nat → Int32} (C0 : lw_At p s m meth c b 6 xs) {dC : Nat → ClassId} {dI : Nat → Nat → Nat} {cyI cyZ cyO : ClassId} {A : Nat → Prop} (hA : ∀ q : Nat, s.heap.size ≤ q → A q) (hbA : ¬ A b) (hN : yN s) (hK : va_K (dC, dI) vwCl (yT cyI cyZ cyO) s) (q0 q1 : Nat) (ux um : Nat → Nat) {H : Heap} {locs : List Loc} (hP : va_P (dC, dI) vwCl (yWX cyI cyZ cyO q0 ux ++ yWM cyI cyZ q1 um) H) (hD : va_D A (yWX cyI cyZ cyO q0 ux ++ yWM cyI cyZ q1 um)) (hS : va_S A s.heap H locs) {ls : Array Slot} (hl : lv_has ls 4 [(3, .int 0), (2, .ref q1), (1, .ref q0), (0, .ref b)]) (fin : ∀ (H : Heap) (locs : List Loc), va_S A s.heap H locs → ∀ ls : Array Slot, lv_has ls 4 [(3, .int 0), (2, .ref q1), (1, .ref q0), (0, .ref b)] → W p l e room_1 s m #[Value.ref b] below meth c H locs 600000 7302250 (lw_Z below #[Value.ref b] s) (F0 m 838 ls [])) : W p l e room_1 s m #[Value.ref b] below meth c H locs 58 13281 (lw_Z below #[Value.ref b] s) (F0 m 417 ls []) := by
  obtain ⟨hx, hb, hr, hml, hown0, hts0, hX, hbl, hlk, hgv⟩ := C0
  have hown : s.vm.findClass RL = some m.cls := hown0
  have hts : ∀ w ∈ wsL_law, w.before #[Value.ref b] s = true := fun w h => hts0 w (wsL_law_in w h)
  refine lv_aload_n hx hb dL_law_417 rfl (lv_at hl 2 rfl) ?_
  refine lv_aload_n hx hb dL_law_418 rfl (lv_at hl 3 rfl) ?_
  refine lv_iload_n hx hb dL_law_419 rfl (lv_at hl 0 rfl) ?_
  refine lv_iconst (v := 1) hx hb dL_law_420 (by decide) ?_
  refine lv_iadd hx hb dL_law_421 ?_
  refine yy_int (v := 1) (by decide) ?_
  refine va_sld hx hb hX hbl hbA hS (yin (by decide)) dL_law_422 ?_
  refine yy_int (v := (xs 1)) rfl ?_
  have hPc := hP.sub (ws' := [(q0, .inr (10, [.ref (ux 26), .ref (ux 0), .ref (ux 35), .ref (ux 36), .ref (ux 37), .int 0])), ((ux 0), .inr (3, [.ref (ux 1), .ref (ux 8), .ref (ux 11), .ref (ux 14), .ref (ux 20), .ref (ux 22), .int 0])), ((ux 11), .inr (4, [.ref (ux 12), .int (-1), .int (-1), .int 0, .int 0, .int 0, .int 0])), ((ux 12), .inr (8, [.ref (ux 13), .int 60, .int 9, .int 0])), ((ux 14), .inr (0, [.ref (ux 17), .ref (ux 15), .ref (ux 16), .int 0, .int 0, .int 0, .int 0, .int 0, .int 0])), ((ux 17), .inr (2, [.ref (ux 18), .int 0, .int 0, .int 0, .int 0, .int 0, .int 0, .int 0, .int 0, .int 0, .int 0, .int 0, .int (-1), .int 0]))]) [0, 1, 12, 13, 15, 18] rfl
  have hDc := hD.sub (ws' := [(q0, .inr (10, [.ref (ux 26), .ref (ux 0), .ref (ux 35), .ref (ux 36), .ref (ux 37), .int 0])), ((ux 0), .inr (3, [.ref (ux 1), .ref (ux 8), .ref (ux 11), .ref (ux 14), .ref (ux 20), .ref (ux 22), .int 0])), ((ux 11), .inr (4, [.ref (ux 12), .int (-1), .int (-1), .int 0, .int 0, .int 0, .int 0])), ((ux 12), .inr (8, [.ref (ux 13), .int 60, .int 9, .int 0])), ((ux 14), .inr (0, [.ref (ux 17), .ref (ux 15), .ref (ux 16), .int 0, .int 0, .int 0, .int 0, .int 0, .int 0])), ((ux 17), .inr (2, [.ref (ux 18), .int 0, .int 0, .int 0, .int 0, .int 0, .int 0, .int 0, .int 0, .int 0, .int 0, .int 0, .int (-1), .int 0]))]) [0, 1, 12, 13, 15, 18] (by decide) rfl
  refine yy_calli [0, 1, 12, 13, 15, 18] [41, 42] (wr := [(q1, .inr (11, [.ref (um 0), .int 0, .int 0, .ref (um 1), .ref (um 2), .ref (um 3), .ref (um 4), .int 0, .ref (um 5), .ref (um 6), .ref (um 7), .int 0, .int 32, .int 0, .ref (um 8), .ref (um 9), .int 0, .int 0, .ref (um 10), .ref (um 11), .ref (um 12), .ref (um 13), .ref (um 14), .ref (um 15)])), ((um 0), .inl (cyI, 2490, .inl (yz 0 0)))]) (va_runV (As := [.int (xs 1)]) (rest := []) ⟨hx, hb, hml, hown, hts⟩ (x_finish l dC dI cyI cyZ cyO H.size q0 (ux 0) (ux 1) (ux 8) (ux 11) (ux 12) (ux 13) (ux 14) (ux 15) (ux 16) (ux 17) (ux 18) (ux 20) (ux 22) (ux 26) (ux 35) (ux 36) (ux 37) (xs 1) ) (cwV 1 hts gL_law_X10_finish rfl rfl rfl (by decide +kernel) ⟨Nat.le_of_ble_eq_true rfl, Nat.le_of_ble_eq_true rfl⟩) (yPreV hK hPc hDc (ci := 10) (q0 := 0) rfl rfl) rfl rfl hl.1 rfl (lv_room (Nat.le_of_ble_eq_true rfl)) dL_law_423 ⟨Nat.le_of_ble_eq_true rfl, Nat.le_of_ble_eq_true rfl⟩) hP hD hS hA rfl rfl (by decide) (by decide) (fun r_2 u_1 H locs hw hP hD hS => ?_)
  have hP : va_P (dC, dI) vwCl [(q1, .inr (11, [.ref (um 0), .int 0, .int 0, .ref (um 1), .ref (um 2), .ref (um 3), .ref (um 4), .int 0, .ref (um 5), .ref (um 6), .ref (um 7), .int 0, .int 32, .int 0, .ref (um 8), .ref (um 9), .int 0, .int 0, .ref (um 10), .ref (um 11), .ref (um 12), .ref (um 13), .ref (um 14), .ref (um 15)])), ((um 0), .inl (cyI, 2490, .inl (yz 0 0)))] H := hP
  have hD : va_D A [(q1, .inr (11, [.ref (um 0), .int 0, .int 0, .ref (um 1), .ref (um 2), .ref (um 3), .ref (um 4), .int 0, .ref (um 5), .ref (um 6), .ref (um 7), .int 0, .int 32, .int 0, .ref (um 8), .ref (um 9), .int 0, .int 0, .ref (um 10), .ref (um 11), .ref (um 12), .ref (um 13), .ref (um 14), .ref (um 15)])), ((um 0), .inl (cyI, 2490, .inl (yz 0 0)))] := hD
  refine W.widen (k := 58) (n := 13281) (Nat.le_of_ble_eq_true rfl) (Nat.le_of_ble_eq_true rfl) ?_
  have hw : r_2 = (sp_finish (xs 1)) := hw
  subst hw
  refine lv_aload_n hx hb dL_law_426 rfl (lv_at hl 1 rfl) ?_
  refine lv_aload_n hx hb dL_law_427 rfl (lv_at hl 3 rfl) ?_
  refine lv_iload_n hx hb dL_law_428 rfl (lv_at hl 0 rfl) ?_
  refine lv_iconst (v := 1) hx hb dL_law_429 (by decide) ?_
  refine lv_iadd hx hb dL_law_430 ?_
  refine yy_int (v := 1) (by decide) ?_
  refine va_sld hx hb hX hbl hbA hS (yin (by decide)) dL_law_431 ?_
  refine yy_int (v := (xs 1)) rfl ?_
  have hPc := hP.sub (ws' := [(q1, .inr (11, [.ref (um 0), .int 0, .int 0, .ref (um 1), .ref (um 2), .ref (um 3), .ref (um 4), .int 0, .ref (um 5), .ref (um 6), .ref (um 7), .int 0, .int 32, .int 0, .ref (um 8), .ref (um 9), .int 0, .int 0, .ref (um 10), .ref (um 11), .ref (um 12), .ref (um 13), .ref (um 14), .ref (um 15)])), ((um 0), .inl (cyI, 2490, .inl (yz 0 0)))]) [0, 1] rfl
  have hDc := hD.sub (ws' := [(q1, .inr (11, [.ref (um 0), .int 0, .int 0, .ref (um 1), .ref (um 2), .ref (um 3), .ref (um 4), .int 0, .ref (um 5), .ref (um 6), .ref (um 7), .int 0, .int 32, .int 0, .ref (um 8), .ref (um 9), .int 0, .int 0, .ref (um 10), .ref (um 11), .ref (um 12), .ref (um 13), .ref (um 14), .ref (um 15)])), ((um 0), .inl (cyI, 2490, .inl (yz 0 0)))]) [0, 1] (by decide) rfl
  refine yy_calli [0, 1] [] (wr := []) (va_runV (As := [.int (xs 1)]) (rest := [.int (sp_finish (xs 1))]) ⟨hx, hb, hml, hown, hts⟩ (r_finish l dC dI cyI cyZ cyO H.size q1 (um 0) (um 1) (um 2) (um 3) (um 4) (um 5) (um 6) (um 7) (um 8) (um 9) (um 10) (um 11) (um 12) (um 13) (um 14) (um 15) (xs 1) ) (cwV 1 hts gL_law_X11_finish rfl rfl rfl (by decide +kernel) ⟨Nat.le_of_ble_eq_true rfl, Nat.le_of_ble_eq_true rfl⟩) (yPreV hK hPc hDc (ci := 11) (q0 := 0) rfl rfl) rfl rfl hl.1 rfl (lv_room (Nat.le_of_ble_eq_true rfl)) dL_law_432 ⟨Nat.le_of_ble_eq_true rfl, Nat.le_of_ble_eq_true rfl⟩) hP hD hS hA rfl rfl (by decide) (by decide) (fun r_4 u_3 H locs hw hP hD hS => ?_)
  have hP : va_P (dC, dI) vwCl [] H := hP
  have hD : va_D A [] := hD
  refine W.widen (k := 58) (n := 13281) (Nat.le_of_ble_eq_true rfl) (Nat.le_of_ble_eq_true rfl) ?_
  have hw : r_4 = (sp_finish (xs 1)) := hw
  subst hw
  refine lv_icmp_eq (tgt := 838) hx hb dL_law_435 (by decide) (fun _ => ?_) (fun c => absurd (rfl) c)
  refine W.widen (k := 600000) (n := 7302250) (Nat.le_of_ble_eq_true rfl) (Nat.le_of_ble_eq_true rfl) ?_
  exact fin _ _ hS _ hl
set_option maxHeartbeats 4000000 in
set_option maxRecDepth 100000 in
/-- the law: a call of turn on two fresh objects -/
theorem law_turn {p : Program} {e : Env} {s : State} {m : MethodId} {below : List Frame} {meth : Method} {c : Code} (l : Launch) {b : Nat} {xs : Nat → Int32} (C0 : lw_At p s m meth c b 6 xs) {dC : Nat → ClassId} {dI : Nat → Nat → Nat} {cyI cyZ cyO : ClassId} {A : Nat → Prop} (hA : ∀ q : Nat, s.heap.size ≤ q → A q) (hbA : ¬ A b) (hN : yN s) (hK : va_K (dC, dI) vwCl (yT cyI cyZ cyO) s) (q0 q1 : Nat) (ux um : Nat → Nat) {H : Heap} {locs : List Loc} (hP : va_P (dC, dI) vwCl (yWX cyI cyZ cyO q0 ux ++ yWM cyI cyZ q1 um) H) (hD : va_D A (yWX cyI cyZ cyO q0 ux ++ yWM cyI cyZ q1 um)) (hS : va_S A s.heap H locs) {ls : Array Slot} (hl : lv_has ls 4 [(3, .int 0), (2, .ref q1), (1, .ref q0), (0, .ref b)]) (fin : ∀ (H : Heap) (locs : List Loc), va_S A s.heap H locs → ∀ ls : Array Slot, lv_has ls 4 [(3, .int 0), (2, .ref q1), (1, .ref q0), (0, .ref b)] → W p l e room_1 s m #[Value.ref b] below meth c H locs 600000 7302250 (lw_Z below #[Value.ref b] s) (F0 m 838 ls [])) : W p l e room_1 s m #[Value.ref b] below meth c H locs 58 13281 (lw_Z below #[Value.ref b] s) (F0 m 440 ls []) := by
  obtain ⟨hx, hb, hr, hml, hown0, hts0, hX, hbl, hlk, hgv⟩ := C0
  have hown : s.vm.findClass RL = some m.cls := hown0
  have hts : ∀ w ∈ wsL_law, w.before #[Value.ref b] s = true := fun w h => hts0 w (wsL_law_in w h)
  refine lv_aload_n hx hb dL_law_440 rfl (lv_at hl 2 rfl) ?_
  refine lv_aload_n hx hb dL_law_441 rfl (lv_at hl 3 rfl) ?_
  refine lv_iload_n hx hb dL_law_442 rfl (lv_at hl 0 rfl) ?_
  refine lv_iconst (v := 1) hx hb dL_law_443 (by decide) ?_
  refine lv_iadd hx hb dL_law_444 ?_
  refine yy_int (v := 1) (by decide) ?_
  refine va_sld hx hb hX hbl hbA hS (yin (by decide)) dL_law_445 ?_
  refine yy_int (v := (xs 1)) rfl ?_
  refine lv_aload_n hx hb dL_law_446 rfl (lv_at hl 3 rfl) ?_
  refine lv_iload_n hx hb dL_law_447 rfl (lv_at hl 0 rfl) ?_
  refine lv_iconst (v := 2) hx hb dL_law_448 (by decide) ?_
  refine lv_iadd hx hb dL_law_449 ?_
  refine yy_int (v := 2) (by decide) ?_
  refine va_sld hx hb hX hbl hbA hS (yin (by decide)) dL_law_450 ?_
  refine yy_int (v := (xs 2)) rfl ?_
  refine lv_aload_n hx hb dL_law_451 rfl (lv_at hl 3 rfl) ?_
  refine lv_iload_n hx hb dL_law_452 rfl (lv_at hl 0 rfl) ?_
  refine lv_iconst (v := 3) hx hb dL_law_453 (by decide) ?_
  refine lv_iadd hx hb dL_law_454 ?_
  refine yy_int (v := 3) (by decide) ?_
  refine va_sld hx hb hX hbl hbA hS (yin (by decide)) dL_law_455 ?_
  refine yy_int (v := (xs 3)) rfl ?_
  have hPc := hP.sub (ws' := [(q0, .inr (10, [.ref (ux 26), .ref (ux 0), .ref (ux 35), .ref (ux 36), .ref (ux 37), .int 0])), ((ux 0), .inr (3, [.ref (ux 1), .ref (ux 8), .ref (ux 11), .ref (ux 14), .ref (ux 20), .ref (ux 22), .int 0])), ((ux 1), .inr (9, [.ref (ux 2), .ref (ux 3), .ref (ux 4), .ref (ux 5), .ref (ux 6), .ref (ux 7)])), ((ux 5), .inl (cyI, 15, .inl (fun _ => 0))), ((ux 6), .inl (cyI, 15, .inl (fun _ => 0))), ((ux 7), .inl (cyI, 15, .inl (fun _ => 0)))]) [0, 1, 2, 6, 7, 8] rfl
  have hDc := hD.sub (ws' := [(q0, .inr (10, [.ref (ux 26), .ref (ux 0), .ref (ux 35), .ref (ux 36), .ref (ux 37), .int 0])), ((ux 0), .inr (3, [.ref (ux 1), .ref (ux 8), .ref (ux 11), .ref (ux 14), .ref (ux 20), .ref (ux 22), .int 0])), ((ux 1), .inr (9, [.ref (ux 2), .ref (ux 3), .ref (ux 4), .ref (ux 5), .ref (ux 6), .ref (ux 7)])), ((ux 5), .inl (cyI, 15, .inl (fun _ => 0))), ((ux 6), .inl (cyI, 15, .inl (fun _ => 0))), ((ux 7), .inl (cyI, 15, .inl (fun _ => 0)))]) [0, 1, 2, 6, 7, 8] (by decide) rfl
  refine yy_calli [0, 1, 2, 6, 7, 8] [41, 42] (wr := [(q1, .inr (11, [.ref (um 0), .int 0, .int 0, .ref (um 1), .ref (um 2), .ref (um 3), .ref (um 4), .int 0, .ref (um 5), .ref (um 6), .ref (um 7), .int 0, .int 32, .int 0, .ref (um 8), .ref (um 9), .int 0, .int 0, .ref (um 10), .ref (um 11), .ref (um 12), .ref (um 13), .ref (um 14), .ref (um 15)])), ((um 0), .inl (cyI, 2490, .inl (yz 0 0)))]) (va_runV (As := [.int (xs 1), .int (xs 2), .int (xs 3)]) (rest := []) ⟨hx, hb, hml, hown, hts⟩ (x_turn l dC dI cyI cyZ cyO H.size q0 (ux 0) (ux 1) (ux 2) (ux 3) (ux 4) (ux 5) (ux 6) (ux 7) (ux 8) (ux 11) (ux 14) (ux 20) (ux 22) (ux 26) (ux 35) (ux 36) (ux 37) (xs 1) (xs 2) (xs 3) ) (cwV 3 hts gL_law_X10_turn rfl rfl rfl (by decide +kernel) ⟨Nat.le_of_ble_eq_true rfl, Nat.le_of_ble_eq_true rfl⟩) (yPreV hK hPc hDc (ci := 10) (q0 := 0) rfl rfl) rfl rfl hl.1 rfl (lv_room (Nat.le_of_ble_eq_true rfl)) dL_law_456 ⟨Nat.le_of_ble_eq_true rfl, Nat.le_of_ble_eq_true rfl⟩) hP hD hS hA rfl rfl (by decide) (by decide) (fun r_2 u_1 H locs hw hP hD hS => ?_)
  have hP : va_P (dC, dI) vwCl [(q1, .inr (11, [.ref (um 0), .int 0, .int 0, .ref (um 1), .ref (um 2), .ref (um 3), .ref (um 4), .int 0, .ref (um 5), .ref (um 6), .ref (um 7), .int 0, .int 32, .int 0, .ref (um 8), .ref (um 9), .int 0, .int 0, .ref (um 10), .ref (um 11), .ref (um 12), .ref (um 13), .ref (um 14), .ref (um 15)])), ((um 0), .inl (cyI, 2490, .inl (yz 0 0)))] H := hP
  have hD : va_D A [(q1, .inr (11, [.ref (um 0), .int 0, .int 0, .ref (um 1), .ref (um 2), .ref (um 3), .ref (um 4), .int 0, .ref (um 5), .ref (um 6), .ref (um 7), .int 0, .int 32, .int 0, .ref (um 8), .ref (um 9), .int 0, .int 0, .ref (um 10), .ref (um 11), .ref (um 12), .ref (um 13), .ref (um 14), .ref (um 15)])), ((um 0), .inl (cyI, 2490, .inl (yz 0 0)))] := hD
  refine W.widen (k := 58) (n := 13281) (Nat.le_of_ble_eq_true rfl) (Nat.le_of_ble_eq_true rfl) ?_
  have hw : r_2 = (sp_turn (xs 1) (xs 3)) := hw
  subst hw
  refine lv_aload_n hx hb dL_law_459 rfl (lv_at hl 1 rfl) ?_
  refine lv_aload_n hx hb dL_law_460 rfl (lv_at hl 3 rfl) ?_
  refine lv_iload_n hx hb dL_law_461 rfl (lv_at hl 0 rfl) ?_
  refine lv_iconst (v := 1) hx hb dL_law_462 (by decide) ?_
  refine lv_iadd hx hb dL_law_463 ?_
  refine yy_int (v := 1) (by decide) ?_
  refine va_sld hx hb hX hbl hbA hS (yin (by decide)) dL_law_464 ?_
  refine yy_int (v := (xs 1)) rfl ?_
  refine lv_aload_n hx hb dL_law_465 rfl (lv_at hl 3 rfl) ?_
  refine lv_iload_n hx hb dL_law_466 rfl (lv_at hl 0 rfl) ?_
  refine lv_iconst (v := 2) hx hb dL_law_467 (by decide) ?_
  refine lv_iadd hx hb dL_law_468 ?_
  refine yy_int (v := 2) (by decide) ?_
  refine va_sld hx hb hX hbl hbA hS (yin (by decide)) dL_law_469 ?_
  refine yy_int (v := (xs 2)) rfl ?_
  refine lv_aload_n hx hb dL_law_470 rfl (lv_at hl 3 rfl) ?_
  refine lv_iload_n hx hb dL_law_471 rfl (lv_at hl 0 rfl) ?_
  refine lv_iconst (v := 3) hx hb dL_law_472 (by decide) ?_
  refine lv_iadd hx hb dL_law_473 ?_
  refine yy_int (v := 3) (by decide) ?_
  refine va_sld hx hb hX hbl hbA hS (yin (by decide)) dL_law_474 ?_
  refine yy_int (v := (xs 3)) rfl ?_
  have hPc := hP.sub (ws' := [(q1, .inr (11, [.ref (um 0), .int 0, .int 0, .ref (um 1), .ref (um 2), .ref (um 3), .ref (um 4), .int 0, .ref (um 5), .ref (um 6), .ref (um 7), .int 0, .int 32, .int 0, .ref (um 8), .ref (um 9), .int 0, .int 0, .ref (um 10), .ref (um 11), .ref (um 12), .ref (um 13), .ref (um 14), .ref (um 15)])), ((um 0), .inl (cyI, 2490, .inl (yz 0 0)))]) [0, 1] rfl
  have hDc := hD.sub (ws' := [(q1, .inr (11, [.ref (um 0), .int 0, .int 0, .ref (um 1), .ref (um 2), .ref (um 3), .ref (um 4), .int 0, .ref (um 5), .ref (um 6), .ref (um 7), .int 0, .int 32, .int 0, .ref (um 8), .ref (um 9), .int 0, .int 0, .ref (um 10), .ref (um 11), .ref (um 12), .ref (um 13), .ref (um 14), .ref (um 15)])), ((um 0), .inl (cyI, 2490, .inl (yz 0 0)))]) [0, 1] (by decide) rfl
  refine yy_calli [0, 1] [] (wr := []) (va_runV (As := [.int (xs 1), .int (xs 2), .int (xs 3)]) (rest := [.int (sp_turn (xs 1) (xs 3))]) ⟨hx, hb, hml, hown, hts⟩ (r_turn l dC dI cyI cyZ cyO H.size q1 (um 0) (um 1) (um 2) (um 3) (um 4) (um 5) (um 6) (um 7) (um 8) (um 9) (um 10) (um 11) (um 12) (um 13) (um 14) (um 15) (xs 1) (xs 2) (xs 3) ) (cwV 3 hts gL_law_X11_turn rfl rfl rfl (by decide +kernel) ⟨Nat.le_of_ble_eq_true rfl, Nat.le_of_ble_eq_true rfl⟩) (yPreV hK hPc hDc (ci := 11) (q0 := 0) rfl rfl) rfl rfl hl.1 rfl (lv_room (Nat.le_of_ble_eq_true rfl)) dL_law_475 ⟨Nat.le_of_ble_eq_true rfl, Nat.le_of_ble_eq_true rfl⟩) hP hD hS hA rfl rfl (by decide) (by decide) (fun r_4 u_3 H locs hw hP hD hS => ?_)
  have hP : va_P (dC, dI) vwCl [] H := hP
  have hD : va_D A [] := hD
  refine W.widen (k := 58) (n := 13281) (Nat.le_of_ble_eq_true rfl) (Nat.le_of_ble_eq_true rfl) ?_
  have hw : r_4 = (sp_turn (xs 1) (xs 3)) := hw
  subst hw
  refine lv_icmp_eq (tgt := 838) hx hb dL_law_478 (by decide) (fun _ => ?_) (fun c => absurd (rfl) c)
  refine W.widen (k := 600000) (n := 7302250) (Nat.le_of_ble_eq_true rfl) (Nat.le_of_ble_eq_true rfl) ?_
  exact fin _ _ hS _ hl
set_option maxHeartbeats 4000000 in
set_option maxRecDepth 100000 in
/-- the law: a call of wire on two fresh objects -/
theorem law_wire {p : Program} {e : Env} {s : State} {m : MethodId} {below : List Frame} {meth : Method} {c : Code} (l : Launch) {b : Nat} {xs : Nat → Int32} (C0 : lw_At p s m meth c b 6 xs) {dC : Nat → ClassId} {dI : Nat → Nat → Nat} {cyI cyZ cyO : ClassId} {A : Nat → Prop} (hA : ∀ q : Nat, s.heap.size ≤ q → A q) (hbA : ¬ A b) (hN : yN s) (hK : va_K (dC, dI) vwCl (yT cyI cyZ cyO) s) (q0 q1 : Nat) (ux um : Nat → Nat) {H : Heap} {locs : List Loc} (hP : va_P (dC, dI) vwCl (yWX cyI cyZ cyO q0 ux ++ yWM cyI cyZ q1 um) H) (hD : va_D A (yWX cyI cyZ cyO q0 ux ++ yWM cyI cyZ q1 um)) (hS : va_S A s.heap H locs) {ls : Array Slot} (hl : lv_has ls 4 [(3, .int 0), (2, .ref q1), (1, .ref q0), (0, .ref b)]) (fin : ∀ (H : Heap) (locs : List Loc), va_S A s.heap H locs → ∀ ls : Array Slot, lv_has ls 4 [(3, .int 0), (2, .ref q1), (1, .ref q0), (0, .ref b)] → W p l e room_1 s m #[Value.ref b] below meth c H locs 600000 7302250 (lw_Z below #[Value.ref b] s) (F0 m 838 ls [])) : W p l e room_1 s m #[Value.ref b] below meth c H locs 58 13281 (lw_Z below #[Value.ref b] s) (F0 m 483 ls []) := by
  obtain ⟨hx, hb, hr, hml, hown0, hts0, hX, hbl, hlk, hgv⟩ := C0
  have hown : s.vm.findClass RL = some m.cls := hown0
  have hts : ∀ w ∈ wsL_law, w.before #[Value.ref b] s = true := fun w h => hts0 w (wsL_law_in w h)
  refine lv_aload_n hx hb dL_law_483 rfl (lv_at hl 2 rfl) ?_
  refine lv_aload_n hx hb dL_law_484 rfl (lv_at hl 3 rfl) ?_
  refine lv_iload_n hx hb dL_law_485 rfl (lv_at hl 0 rfl) ?_
  refine lv_iconst (v := 1) hx hb dL_law_486 (by decide) ?_
  refine lv_iadd hx hb dL_law_487 ?_
  refine yy_int (v := 1) (by decide) ?_
  refine va_sld hx hb hX hbl hbA hS (yin (by decide)) dL_law_488 ?_
  refine yy_int (v := (xs 1)) rfl ?_
  have hPc := hP.sub (ws' := [(q0, .inr (10, [.ref (ux 26), .ref (ux 0), .ref (ux 35), .ref (ux 36), .ref (ux 37), .int 0])), ((ux 0), .inr (3, [.ref (ux 1), .ref (ux 8), .ref (ux 11), .ref (ux 14), .ref (ux 20), .ref (ux 22), .int 0])), ((ux 1), .inr (9, [.ref (ux 2), .ref (ux 3), .ref (ux 4), .ref (ux 5), .ref (ux 6), .ref (ux 7)])), ((ux 2), .inl (cyI, 15, .inl yR)), ((ux 5), .inl (cyI, 15, .inl (fun _ => 0))), ((ux 6), .inl (cyI, 15, .inl (fun _ => 0))), ((ux 7), .inl (cyI, 15, .inl (fun _ => 0)))]) [0, 1, 2, 3, 6, 7, 8] rfl
  have hDc := hD.sub (ws' := [(q0, .inr (10, [.ref (ux 26), .ref (ux 0), .ref (ux 35), .ref (ux 36), .ref (ux 37), .int 0])), ((ux 0), .inr (3, [.ref (ux 1), .ref (ux 8), .ref (ux 11), .ref (ux 14), .ref (ux 20), .ref (ux 22), .int 0])), ((ux 1), .inr (9, [.ref (ux 2), .ref (ux 3), .ref (ux 4), .ref (ux 5), .ref (ux 6), .ref (ux 7)])), ((ux 2), .inl (cyI, 15, .inl yR)), ((ux 5), .inl (cyI, 15, .inl (fun _ => 0))), ((ux 6), .inl (cyI, 15, .inl (fun _ => 0))), ((ux 7), .inl (cyI, 15, .inl (fun _ => 0)))]) [0, 1, 2, 3, 6, 7, 8] (by decide) rfl
  refine yy_calli [0, 1, 2, 3, 6, 7, 8] [41, 42] (wr := [(q1, .inr (11, [.ref (um 0), .int 0, .int 0, .ref (um 1), .ref (um 2), .ref (um 3), .ref (um 4), .int 0, .ref (um 5), .ref (um 6), .ref (um 7), .int 0, .int 32, .int 0, .ref (um 8), .ref (um 9), .int 0, .int 0, .ref (um 10), .ref (um 11), .ref (um 12), .ref (um 13), .ref (um 14), .ref (um 15)])), ((um 0), .inl (cyI, 2490, .inl (yz 0 0)))]) (va_runV (As := [.int (xs 1)]) (rest := []) ⟨hx, hb, hml, hown, hts⟩ (x_wire l dC dI cyI cyZ cyO H.size q0 (ux 0) (ux 1) (ux 2) (ux 3) (ux 4) (ux 5) (ux 6) (ux 7) (ux 8) (ux 11) (ux 14) (ux 20) (ux 22) (ux 26) (ux 35) (ux 36) (ux 37) (xs 1) ) (cwV 1 hts gL_law_X10_wire rfl rfl rfl (by decide +kernel) ⟨Nat.le_of_ble_eq_true rfl, Nat.le_of_ble_eq_true rfl⟩) (yPreV hK hPc hDc (ci := 10) (q0 := 0) rfl rfl) rfl rfl hl.1 rfl (lv_room (Nat.le_of_ble_eq_true rfl)) dL_law_489 ⟨Nat.le_of_ble_eq_true rfl, Nat.le_of_ble_eq_true rfl⟩) hP hD hS hA rfl rfl (by decide) (by decide) (fun r_2 u_1 H locs hw hP hD hS => ?_)
  have hP : va_P (dC, dI) vwCl [(q1, .inr (11, [.ref (um 0), .int 0, .int 0, .ref (um 1), .ref (um 2), .ref (um 3), .ref (um 4), .int 0, .ref (um 5), .ref (um 6), .ref (um 7), .int 0, .int 32, .int 0, .ref (um 8), .ref (um 9), .int 0, .int 0, .ref (um 10), .ref (um 11), .ref (um 12), .ref (um 13), .ref (um 14), .ref (um 15)])), ((um 0), .inl (cyI, 2490, .inl (yz 0 0)))] H := hP
  have hD : va_D A [(q1, .inr (11, [.ref (um 0), .int 0, .int 0, .ref (um 1), .ref (um 2), .ref (um 3), .ref (um 4), .int 0, .ref (um 5), .ref (um 6), .ref (um 7), .int 0, .int 32, .int 0, .ref (um 8), .ref (um 9), .int 0, .int 0, .ref (um 10), .ref (um 11), .ref (um 12), .ref (um 13), .ref (um 14), .ref (um 15)])), ((um 0), .inl (cyI, 2490, .inl (yz 0 0)))] := hD
  refine W.widen (k := 58) (n := 13281) (Nat.le_of_ble_eq_true rfl) (Nat.le_of_ble_eq_true rfl) ?_
  have hw : r_2 = (sp_wire (xs 1)) := hw
  subst hw
  refine lv_aload_n hx hb dL_law_492 rfl (lv_at hl 1 rfl) ?_
  refine lv_aload_n hx hb dL_law_493 rfl (lv_at hl 3 rfl) ?_
  refine lv_iload_n hx hb dL_law_494 rfl (lv_at hl 0 rfl) ?_
  refine lv_iconst (v := 1) hx hb dL_law_495 (by decide) ?_
  refine lv_iadd hx hb dL_law_496 ?_
  refine yy_int (v := 1) (by decide) ?_
  refine va_sld hx hb hX hbl hbA hS (yin (by decide)) dL_law_497 ?_
  refine yy_int (v := (xs 1)) rfl ?_
  have hPc := hP.sub (ws' := [(q1, .inr (11, [.ref (um 0), .int 0, .int 0, .ref (um 1), .ref (um 2), .ref (um 3), .ref (um 4), .int 0, .ref (um 5), .ref (um 6), .ref (um 7), .int 0, .int 32, .int 0, .ref (um 8), .ref (um 9), .int 0, .int 0, .ref (um 10), .ref (um 11), .ref (um 12), .ref (um 13), .ref (um 14), .ref (um 15)])), ((um 0), .inl (cyI, 2490, .inl (yz 0 0)))]) [0, 1] rfl
  have hDc := hD.sub (ws' := [(q1, .inr (11, [.ref (um 0), .int 0, .int 0, .ref (um 1), .ref (um 2), .ref (um 3), .ref (um 4), .int 0, .ref (um 5), .ref (um 6), .ref (um 7), .int 0, .int 32, .int 0, .ref (um 8), .ref (um 9), .int 0, .int 0, .ref (um 10), .ref (um 11), .ref (um 12), .ref (um 13), .ref (um 14), .ref (um 15)])), ((um 0), .inl (cyI, 2490, .inl (yz 0 0)))]) [0, 1] (by decide) rfl
  refine yy_calli [0, 1] [] (wr := []) (va_runV (As := [.int (xs 1)]) (rest := [.int (sp_wire (xs 1))]) ⟨hx, hb, hml, hown, hts⟩ (r_wire l dC dI cyI cyZ cyO H.size q1 (um 0) (um 1) (um 2) (um 3) (um 4) (um 5) (um 6) (um 7) (um 8) (um 9) (um 10) (um 11) (um 12) (um 13) (um 14) (um 15) (xs 1) ) (cwV 1 hts gL_law_X11_wire rfl rfl rfl (by decide +kernel) ⟨Nat.le_of_ble_eq_true rfl, Nat.le_of_ble_eq_true rfl⟩) (yPreV hK hPc hDc (ci := 11) (q0 := 0) rfl rfl) rfl rfl hl.1 rfl (lv_room (Nat.le_of_ble_eq_true rfl)) dL_law_498 ⟨Nat.le_of_ble_eq_true rfl, Nat.le_of_ble_eq_true rfl⟩) hP hD hS hA rfl rfl (by decide) (by decide) (fun r_4 u_3 H locs hw hP hD hS => ?_)
  have hP : va_P (dC, dI) vwCl [] H := hP
  have hD : va_D A [] := hD
  refine W.widen (k := 58) (n := 13281) (Nat.le_of_ble_eq_true rfl) (Nat.le_of_ble_eq_true rfl) ?_
  have hw : r_4 = (sp_wire (xs 1)) := hw
  subst hw
  refine lv_icmp_eq (tgt := 838) hx hb dL_law_501 (by decide) (fun _ => ?_) (fun c => absurd (rfl) c)
  refine W.widen (k := 600000) (n := 7302250) (Nat.le_of_ble_eq_true rfl) (Nat.le_of_ble_eq_true rfl) ?_
  exact fin _ _ hS _ hl
set_option maxHeartbeats 4000000 in
set_option maxRecDepth 100000 in
/-- the law: a call of under on two fresh objects -/
theorem law_under {p : Program} {e : Env} {s : State} {m : MethodId} {below : List Frame} {meth : Method} {c : Code} (l : Launch) {b : Nat} {xs : Nat → Int32} (C0 : lw_At p s m meth c b 6 xs) {dC : Nat → ClassId} {dI : Nat → Nat → Nat} {cyI cyZ cyO : ClassId} {A : Nat → Prop} (hA : ∀ q : Nat, s.heap.size ≤ q → A q) (hbA : ¬ A b) (hN : yN s) (hK : va_K (dC, dI) vwCl (yT cyI cyZ cyO) s) (q0 q1 : Nat) (ux um : Nat → Nat) {H : Heap} {locs : List Loc} (hP : va_P (dC, dI) vwCl (yWX cyI cyZ cyO q0 ux ++ yWM cyI cyZ q1 um) H) (hD : va_D A (yWX cyI cyZ cyO q0 ux ++ yWM cyI cyZ q1 um)) (hS : va_S A s.heap H locs) {ls : Array Slot} (hl : lv_has ls 4 [(3, .int 0), (2, .ref q1), (1, .ref q0), (0, .ref b)]) (fin : ∀ (H : Heap) (locs : List Loc), va_S A s.heap H locs → ∀ ls : Array Slot, lv_has ls 4 [(3, .int 0), (2, .ref q1), (1, .ref q0), (0, .ref b)] → W p l e room_1 s m #[Value.ref b] below meth c H locs 600000 7302250 (lw_Z below #[Value.ref b] s) (F0 m 838 ls [])) : W p l e room_1 s m #[Value.ref b] below meth c H locs 58 13281 (lw_Z below #[Value.ref b] s) (F0 m 506 ls []) := by
  obtain ⟨hx, hb, hr, hml, hown0, hts0, hX, hbl, hlk, hgv⟩ := C0
  have hown : s.vm.findClass RL = some m.cls := hown0
  have hts : ∀ w ∈ wsL_law, w.before #[Value.ref b] s = true := fun w h => hts0 w (wsL_law_in w h)
  refine lv_aload_n hx hb dL_law_506 rfl (lv_at hl 2 rfl) ?_
  refine lv_aload_n hx hb dL_law_507 rfl (lv_at hl 3 rfl) ?_
  refine lv_iload_n hx hb dL_law_508 rfl (lv_at hl 0 rfl) ?_
  refine lv_iconst (v := 1) hx hb dL_law_509 (by decide) ?_
  refine lv_iadd hx hb dL_law_510 ?_
  refine yy_int (v := 1) (by decide) ?_
  refine va_sld hx hb hX hbl hbA hS (yin (by decide)) dL_law_511 ?_
  refine yy_int (v := (xs 1)) rfl ?_
  have hPc := hP.sub (ws' := [(q0, .inr (10, [.ref (ux 26), .ref (ux 0), .ref (ux 35), .ref (ux 36), .ref (ux 37), .int 0])), ((ux 0), .inr (3, [.ref (ux 1), .ref (ux 8), .ref (ux 11), .ref (ux 14), .ref (ux 20), .ref (ux 22), .int 0])), ((ux 1), .inr (9, [.ref (ux 2), .ref (ux 3), .ref (ux 4), .ref (ux 5), .ref (ux 6), .ref (ux 7)])), ((ux 2), .inl (cyI, 15, .inl yR))]) [0, 1, 2, 3] rfl
  have hDc := hD.sub (ws' := [(q0, .inr (10, [.ref (ux 26), .ref (ux 0), .ref (ux 35), .ref (ux 36), .ref (ux 37), .int 0])), ((ux 0), .inr (3, [.ref (ux 1), .ref (ux 8), .ref (ux 11), .ref (ux 14), .ref (ux 20), .ref (ux 22), .int 0])), ((ux 1), .inr (9, [.ref (ux 2), .ref (ux 3), .ref (ux 4), .ref (ux 5), .ref (ux 6), .ref (ux 7)])), ((ux 2), .inl (cyI, 15, .inl yR))]) [0, 1, 2, 3] (by decide) rfl
  refine yy_calli [0, 1, 2, 3] [41, 42] (wr := [(q1, .inr (11, [.ref (um 0), .int 0, .int 0, .ref (um 1), .ref (um 2), .ref (um 3), .ref (um 4), .int 0, .ref (um 5), .ref (um 6), .ref (um 7), .int 0, .int 32, .int 0, .ref (um 8), .ref (um 9), .int 0, .int 0, .ref (um 10), .ref (um 11), .ref (um 12), .ref (um 13), .ref (um 14), .ref (um 15)])), ((um 0), .inl (cyI, 2490, .inl (yz 0 0)))]) (va_runV (As := [.int (xs 1)]) (rest := []) ⟨hx, hb, hml, hown, hts⟩ (x_under l dC dI cyI cyZ cyO H.size q0 (ux 0) (ux 1) (ux 2) (ux 3) (ux 4) (ux 5) (ux 6) (ux 7) (ux 8) (ux 11) (ux 14) (ux 20) (ux 22) (ux 26) (ux 35) (ux 36) (ux 37) (xs 1) ) (cwV 1 hts gL_law_X10_under rfl rfl rfl (by decide +kernel) ⟨Nat.le_of_ble_eq_true rfl, Nat.le_of_ble_eq_true rfl⟩) (yPreV hK hPc hDc (ci := 10) (q0 := 0) rfl rfl) rfl rfl hl.1 rfl (lv_room (Nat.le_of_ble_eq_true rfl)) dL_law_512 ⟨Nat.le_of_ble_eq_true rfl, Nat.le_of_ble_eq_true rfl⟩) hP hD hS hA rfl rfl (by decide) (by decide) (fun r_2 u_1 H locs hw hP hD hS => ?_)
  have hP : va_P (dC, dI) vwCl [(q1, .inr (11, [.ref (um 0), .int 0, .int 0, .ref (um 1), .ref (um 2), .ref (um 3), .ref (um 4), .int 0, .ref (um 5), .ref (um 6), .ref (um 7), .int 0, .int 32, .int 0, .ref (um 8), .ref (um 9), .int 0, .int 0, .ref (um 10), .ref (um 11), .ref (um 12), .ref (um 13), .ref (um 14), .ref (um 15)])), ((um 0), .inl (cyI, 2490, .inl (yz 0 0)))] H := hP
  have hD : va_D A [(q1, .inr (11, [.ref (um 0), .int 0, .int 0, .ref (um 1), .ref (um 2), .ref (um 3), .ref (um 4), .int 0, .ref (um 5), .ref (um 6), .ref (um 7), .int 0, .int 32, .int 0, .ref (um 8), .ref (um 9), .int 0, .int 0, .ref (um 10), .ref (um 11), .ref (um 12), .ref (um 13), .ref (um 14), .ref (um 15)])), ((um 0), .inl (cyI, 2490, .inl (yz 0 0)))] := hD
  refine W.widen (k := 58) (n := 13281) (Nat.le_of_ble_eq_true rfl) (Nat.le_of_ble_eq_true rfl) ?_
  have hw : r_2 = (sp_wire (xs 1)) := hw
  subst hw
  refine lv_aload_n hx hb dL_law_515 rfl (lv_at hl 1 rfl) ?_
  refine lv_aload_n hx hb dL_law_516 rfl (lv_at hl 3 rfl) ?_
  refine lv_iload_n hx hb dL_law_517 rfl (lv_at hl 0 rfl) ?_
  refine lv_iconst (v := 1) hx hb dL_law_518 (by decide) ?_
  refine lv_iadd hx hb dL_law_519 ?_
  refine yy_int (v := 1) (by decide) ?_
  refine va_sld hx hb hX hbl hbA hS (yin (by decide)) dL_law_520 ?_
  refine yy_int (v := (xs 1)) rfl ?_
  have hPc := hP.sub (ws' := [(q1, .inr (11, [.ref (um 0), .int 0, .int 0, .ref (um 1), .ref (um 2), .ref (um 3), .ref (um 4), .int 0, .ref (um 5), .ref (um 6), .ref (um 7), .int 0, .int 32, .int 0, .ref (um 8), .ref (um 9), .int 0, .int 0, .ref (um 10), .ref (um 11), .ref (um 12), .ref (um 13), .ref (um 14), .ref (um 15)])), ((um 0), .inl (cyI, 2490, .inl (yz 0 0)))]) [0, 1] rfl
  have hDc := hD.sub (ws' := [(q1, .inr (11, [.ref (um 0), .int 0, .int 0, .ref (um 1), .ref (um 2), .ref (um 3), .ref (um 4), .int 0, .ref (um 5), .ref (um 6), .ref (um 7), .int 0, .int 32, .int 0, .ref (um 8), .ref (um 9), .int 0, .int 0, .ref (um 10), .ref (um 11), .ref (um 12), .ref (um 13), .ref (um 14), .ref (um 15)])), ((um 0), .inl (cyI, 2490, .inl (yz 0 0)))]) [0, 1] (by decide) rfl
  refine yy_calli [0, 1] [] (wr := []) (va_runV (As := [.int (xs 1)]) (rest := [.int (sp_wire (xs 1))]) ⟨hx, hb, hml, hown, hts⟩ (r_under l dC dI cyI cyZ cyO H.size q1 (um 0) (um 1) (um 2) (um 3) (um 4) (um 5) (um 6) (um 7) (um 8) (um 9) (um 10) (um 11) (um 12) (um 13) (um 14) (um 15) (xs 1) ) (cwV 1 hts gL_law_X11_under rfl rfl rfl (by decide +kernel) ⟨Nat.le_of_ble_eq_true rfl, Nat.le_of_ble_eq_true rfl⟩) (yPreV hK hPc hDc (ci := 11) (q0 := 0) rfl rfl) rfl rfl hl.1 rfl (lv_room (Nat.le_of_ble_eq_true rfl)) dL_law_521 ⟨Nat.le_of_ble_eq_true rfl, Nat.le_of_ble_eq_true rfl⟩) hP hD hS hA rfl rfl (by decide) (by decide) (fun r_4 u_3 H locs hw hP hD hS => ?_)
  have hP : va_P (dC, dI) vwCl [] H := hP
  have hD : va_D A [] := hD
  refine W.widen (k := 58) (n := 13281) (Nat.le_of_ble_eq_true rfl) (Nat.le_of_ble_eq_true rfl) ?_
  have hw : r_4 = (sp_wire (xs 1)) := hw
  subst hw
  refine lv_icmp_eq (tgt := 838) hx hb dL_law_524 (by decide) (fun _ => ?_) (fun c => absurd (rfl) c)
  refine W.widen (k := 600000) (n := 7302250) (Nat.le_of_ble_eq_true rfl) (Nat.le_of_ble_eq_true rfl) ?_
  exact fin _ _ hS _ hl
set_option maxHeartbeats 4000000 in
set_option maxRecDepth 100000 in
/-- the law: a call of result on two fresh objects -/
theorem law_result {p : Program} {e : Env} {s : State} {m : MethodId} {below : List Frame} {meth : Method} {c : Code} (l : Launch) {b : Nat} {xs : Nat → Int32} (C0 : lw_At p s m meth c b 6 xs) {dC : Nat → ClassId} {dI : Nat → Nat → Nat} {cyI cyZ cyO : ClassId} {A : Nat → Prop} (hA : ∀ q : Nat, s.heap.size ≤ q → A q) (hbA : ¬ A b) (hN : yN s) (hK : va_K (dC, dI) vwCl (yT cyI cyZ cyO) s) (q0 q1 : Nat) (ux um : Nat → Nat) {H : Heap} {locs : List Loc} (hP : va_P (dC, dI) vwCl (yWX cyI cyZ cyO q0 ux ++ yWM cyI cyZ q1 um) H) (hD : va_D A (yWX cyI cyZ cyO q0 ux ++ yWM cyI cyZ q1 um)) (hS : va_S A s.heap H locs) {ls : Array Slot} (hl : lv_has ls 4 [(3, .int 0), (2, .ref q1), (1, .ref q0), (0, .ref b)]) (fin : ∀ (H : Heap) (locs : List Loc), va_S A s.heap H locs → ∀ ls : Array Slot, lv_has ls 4 [(3, .int 0), (2, .ref q1), (1, .ref q0), (0, .ref b)] → W p l e room_1 s m #[Value.ref b] below meth c H locs 600000 7302250 (lw_Z below #[Value.ref b] s) (F0 m 838 ls [])) : W p l e room_1 s m #[Value.ref b] below meth c H locs 58 13281 (lw_Z below #[Value.ref b] s) (F0 m 529 ls []) := by
  obtain ⟨hx, hb, hr, hml, hown0, hts0, hX, hbl, hlk, hgv⟩ := C0
  have hown : s.vm.findClass RL = some m.cls := hown0
  have hts : ∀ w ∈ wsL_law, w.before #[Value.ref b] s = true := fun w h => hts0 w (wsL_law_in w h)
  refine lv_aload_n hx hb dL_law_529 rfl (lv_at hl 2 rfl) ?_
  refine lv_aload_n hx hb dL_law_530 rfl (lv_at hl 3 rfl) ?_
  refine lv_iload_n hx hb dL_law_531 rfl (lv_at hl 0 rfl) ?_
  refine lv_iconst (v := 1) hx hb dL_law_532 (by decide) ?_
  refine lv_iadd hx hb dL_law_533 ?_
  refine yy_int (v := 1) (by decide) ?_
  refine va_sld hx hb hX hbl hbA hS (yin (by decide)) dL_law_534 ?_
  refine yy_int (v := (xs 1)) rfl ?_
  refine lv_aload_n hx hb dL_law_535 rfl (lv_at hl 3 rfl) ?_
  refine lv_iload_n hx hb dL_law_536 rfl (lv_at hl 0 rfl) ?_
  refine lv_iconst (v := 2) hx hb dL_law_537 (by decide) ?_
  refine lv_iadd hx hb dL_law_538 ?_
  refine yy_int (v := 2) (by decide) ?_
  refine va_sld hx hb hX hbl hbA hS (yin (by decide)) dL_law_539 ?_
  refine yy_int (v := (xs 2)) rfl ?_
  have hPc := hP.sub (ws' := [(q0, .inr (10, [.ref (ux 26), .ref (ux 0), .ref (ux 35), .ref (ux 36), .ref (ux 37), .int 0])), ((ux 0), .inr (3, [.ref (ux 1), .ref (ux 8), .ref (ux 11), .ref (ux 14), .ref (ux 20), .ref (ux 22), .int 0])), ((ux 11), .inr (4, [.ref (ux 12), .int (-1), .int (-1), .int 0, .int 0, .int 0, .int 0])), ((ux 12), .inr (8, [.ref (ux 13), .int 60, .int 9, .int 0]))]) [0, 1, 12, 13] rfl
  have hDc := hD.sub (ws' := [(q0, .inr (10, [.ref (ux 26), .ref (ux 0), .ref (ux 35), .ref (ux 36), .ref (ux 37), .int 0])), ((ux 0), .inr (3, [.ref (ux 1), .ref (ux 8), .ref (ux 11), .ref (ux 14), .ref (ux 20), .ref (ux 22), .int 0])), ((ux 11), .inr (4, [.ref (ux 12), .int (-1), .int (-1), .int 0, .int 0, .int 0, .int 0])), ((ux 12), .inr (8, [.ref (ux 13), .int 60, .int 9, .int 0]))]) [0, 1, 12, 13] (by decide) rfl
  refine yy_calli [0, 1, 12, 13] [41, 42] (wr := [(q1, .inr (11, [.ref (um 0), .int 0, .int 0, .ref (um 1), .ref (um 2), .ref (um 3), .ref (um 4), .int 0, .ref (um 5), .ref (um 6), .ref (um 7), .int 0, .int 32, .int 0, .ref (um 8), .ref (um 9), .int 0, .int 0, .ref (um 10), .ref (um 11), .ref (um 12), .ref (um 13), .ref (um 14), .ref (um 15)])), ((um 0), .inl (cyI, 2490, .inl (yz 0 0)))]) (va_runV (As := [.int (xs 1), .int (xs 2)]) (rest := []) ⟨hx, hb, hml, hown, hts⟩ (x_result l dC dI cyI cyZ cyO H.size q0 (ux 0) (ux 1) (ux 8) (ux 11) (ux 12) (ux 13) (ux 14) (ux 20) (ux 22) (ux 26) (ux 35) (ux 36) (ux 37) (xs 1) (xs 2) ) (cwV 2 hts gL_law_X10_result rfl rfl rfl (by decide +kernel) ⟨Nat.le_of_ble_eq_true rfl, Nat.le_of_ble_eq_true rfl⟩) (yPreV hK hPc hDc (ci := 10) (q0 := 0) rfl rfl) rfl rfl hl.1 rfl (lv_room (Nat.le_of_ble_eq_true rfl)) dL_law_540 ⟨Nat.le_of_ble_eq_true rfl, Nat.le_of_ble_eq_true rfl⟩) hP hD hS hA rfl rfl (by decide) (by decide) (fun r_2 u_1 H locs hw hP hD hS => ?_)
  have hP : va_P (dC, dI) vwCl [(q1, .inr (11, [.ref (um 0), .int 0, .int 0, .ref (um 1), .ref (um 2), .ref (um 3), .ref (um 4), .int 0, .ref (um 5), .ref (um 6), .ref (um 7), .int 0, .int 32, .int 0, .ref (um 8), .ref (um 9), .int 0, .int 0, .ref (um 10), .ref (um 11), .ref (um 12), .ref (um 13), .ref (um 14), .ref (um 15)])), ((um 0), .inl (cyI, 2490, .inl (yz 0 0)))] H := hP
  have hD : va_D A [(q1, .inr (11, [.ref (um 0), .int 0, .int 0, .ref (um 1), .ref (um 2), .ref (um 3), .ref (um 4), .int 0, .ref (um 5), .ref (um 6), .ref (um 7), .int 0, .int 32, .int 0, .ref (um 8), .ref (um 9), .int 0, .int 0, .ref (um 10), .ref (um 11), .ref (um 12), .ref (um 13), .ref (um 14), .ref (um 15)])), ((um 0), .inl (cyI, 2490, .inl (yz 0 0)))] := hD
  refine W.widen (k := 58) (n := 13281) (Nat.le_of_ble_eq_true rfl) (Nat.le_of_ble_eq_true rfl) ?_
  have hw : r_2 = 0 := hw
  subst hw
  refine lv_aload_n hx hb dL_law_543 rfl (lv_at hl 1 rfl) ?_
  refine lv_aload_n hx hb dL_law_544 rfl (lv_at hl 3 rfl) ?_
  refine lv_iload_n hx hb dL_law_545 rfl (lv_at hl 0 rfl) ?_
  refine lv_iconst (v := 1) hx hb dL_law_546 (by decide) ?_
  refine lv_iadd hx hb dL_law_547 ?_
  refine yy_int (v := 1) (by decide) ?_
  refine va_sld hx hb hX hbl hbA hS (yin (by decide)) dL_law_548 ?_
  refine yy_int (v := (xs 1)) rfl ?_
  refine lv_aload_n hx hb dL_law_549 rfl (lv_at hl 3 rfl) ?_
  refine lv_iload_n hx hb dL_law_550 rfl (lv_at hl 0 rfl) ?_
  refine lv_iconst (v := 2) hx hb dL_law_551 (by decide) ?_
  refine lv_iadd hx hb dL_law_552 ?_
  refine yy_int (v := 2) (by decide) ?_
  refine va_sld hx hb hX hbl hbA hS (yin (by decide)) dL_law_553 ?_
  refine yy_int (v := (xs 2)) rfl ?_
  have hPc := hP.sub (ws' := [(q1, .inr (11, [.ref (um 0), .int 0, .int 0, .ref (um 1), .ref (um 2), .ref (um 3), .ref (um 4), .int 0, .ref (um 5), .ref (um 6), .ref (um 7), .int 0, .int 32, .int 0, .ref (um 8), .ref (um 9), .int 0, .int 0, .ref (um 10), .ref (um 11), .ref (um 12), .ref (um 13), .ref (um 14), .ref (um 15)])), ((um 0), .inl (cyI, 2490, .inl (yz 0 0)))]) [0, 1] rfl
  have hDc := hD.sub (ws' := [(q1, .inr (11, [.ref (um 0), .int 0, .int 0, .ref (um 1), .ref (um 2), .ref (um 3), .ref (um 4), .int 0, .ref (um 5), .ref (um 6), .ref (um 7), .int 0, .int 32, .int 0, .ref (um 8), .ref (um 9), .int 0, .int 0, .ref (um 10), .ref (um 11), .ref (um 12), .ref (um 13), .ref (um 14), .ref (um 15)])), ((um 0), .inl (cyI, 2490, .inl (yz 0 0)))]) [0, 1] (by decide) rfl
  refine yy_calli [0, 1] [] (wr := []) (va_runV (As := [.int (xs 1), .int (xs 2)]) (rest := [.int 0]) ⟨hx, hb, hml, hown, hts⟩ (r_result l dC dI cyI cyZ cyO H.size q1 (um 0) (um 1) (um 2) (um 3) (um 4) (um 5) (um 6) (um 7) (um 8) (um 9) (um 10) (um 11) (um 12) (um 13) (um 14) (um 15) (xs 1) (xs 2) ) (cwV 2 hts gL_law_X11_result rfl rfl rfl (by decide +kernel) ⟨Nat.le_of_ble_eq_true rfl, Nat.le_of_ble_eq_true rfl⟩) (yPreV hK hPc hDc (ci := 11) (q0 := 0) rfl rfl) rfl rfl hl.1 rfl (lv_room (Nat.le_of_ble_eq_true rfl)) dL_law_554 ⟨Nat.le_of_ble_eq_true rfl, Nat.le_of_ble_eq_true rfl⟩) hP hD hS hA rfl rfl (by decide) (by decide) (fun r_4 u_3 H locs hw hP hD hS => ?_)
  have hP : va_P (dC, dI) vwCl [] H := hP
  have hD : va_D A [] := hD
  refine W.widen (k := 58) (n := 13281) (Nat.le_of_ble_eq_true rfl) (Nat.le_of_ble_eq_true rfl) ?_
  have hw : r_4 = 0 := hw
  subst hw
  refine lv_icmp_eq (tgt := 838) hx hb dL_law_557 (by decide) (fun _ => ?_) (fun c => absurd (by decide) c)
  refine W.widen (k := 600000) (n := 7302250) (Nat.le_of_ble_eq_true rfl) (Nat.le_of_ble_eq_true rfl) ?_
  exact fin _ _ hS _ hl
set_option maxHeartbeats 4000000 in
set_option maxRecDepth 100000 in
/-- the law: a call of log on two fresh objects -/
theorem law_log {p : Program} {e : Env} {s : State} {m : MethodId} {below : List Frame} {meth : Method} {c : Code} (l : Launch) {b : Nat} {xs : Nat → Int32} (C0 : lw_At p s m meth c b 6 xs) {dC : Nat → ClassId} {dI : Nat → Nat → Nat} {cyI cyZ cyO : ClassId} {A : Nat → Prop} (hA : ∀ q : Nat, s.heap.size ≤ q → A q) (hbA : ¬ A b) (hN : yN s) (hK : va_K (dC, dI) vwCl (yT cyI cyZ cyO) s) (q0 q1 : Nat) (ux um : Nat → Nat) {H : Heap} {locs : List Loc} (hP : va_P (dC, dI) vwCl (yWX cyI cyZ cyO q0 ux ++ yWM cyI cyZ q1 um) H) (hD : va_D A (yWX cyI cyZ cyO q0 ux ++ yWM cyI cyZ q1 um)) (hS : va_S A s.heap H locs) {ls : Array Slot} (hl : lv_has ls 4 [(3, .int 0), (2, .ref q1), (1, .ref q0), (0, .ref b)]) (fin : ∀ (H : Heap) (locs : List Loc), va_S A s.heap H locs → ∀ ls : Array Slot, lv_has ls 4 [(3, .int 0), (2, .ref q1), (1, .ref q0), (0, .ref b)] → W p l e room_1 s m #[Value.ref b] below meth c H locs 600000 7302250 (lw_Z below #[Value.ref b] s) (F0 m 838 ls [])) : W p l e room_1 s m #[Value.ref b] below meth c H locs 58 13281 (lw_Z below #[Value.ref b] s) (F0 m 562 ls []) := by
  obtain ⟨hx, hb, hr, hml, hown0, hts0, hX, hbl, hlk, hgv⟩ := C0
  have hown : s.vm.findClass RL = some m.cls := hown0
  have hts : ∀ w ∈ wsL_law, w.before #[Value.ref b] s = true := fun w h => hts0 w (wsL_law_in w h)
  refine lv_aload_n hx hb dL_law_562 rfl (lv_at hl 2 rfl) ?_
  refine lv_aload_n hx hb dL_law_563 rfl (lv_at hl 3 rfl) ?_
  refine lv_iload_n hx hb dL_law_564 rfl (lv_at hl 0 rfl) ?_
  refine lv_iconst (v := 1) hx hb dL_law_565 (by decide) ?_
  refine lv_iadd hx hb dL_law_566 ?_
  refine yy_int (v := 1) (by decide) ?_
  refine va_sld hx hb hX hbl hbA hS (yin (by decide)) dL_law_567 ?_
  refine yy_int (v := (xs 1)) rfl ?_
  refine lv_aload_n hx hb dL_law_568 rfl (lv_at hl 3 rfl) ?_
  refine lv_iload_n hx hb dL_law_569 rfl (lv_at hl 0 rfl) ?_
  refine lv_iconst (v := 2) hx hb dL_law_570 (by decide) ?_
  refine lv_iadd hx hb dL_law_571 ?_
  refine yy_int (v := 2) (by decide) ?_
  refine va_sld hx hb hX hbl hbA hS (yin (by decide)) dL_law_572 ?_
  refine yy_int (v := (xs 2)) rfl ?_
  have hPc := hP.sub (ws' := [(q0, .inr (10, [.ref (ux 26), .ref (ux 0), .ref (ux 35), .ref (ux 36), .ref (ux 37), .int 0])), ((ux 0), .inr (3, [.ref (ux 1), .ref (ux 8), .ref (ux 11), .ref (ux 14), .ref (ux 20), .ref (ux 22), .int 0])), ((ux 14), .inr (0, [.ref (ux 17), .ref (ux 15), .ref (ux 16), .int 0, .int 0, .int 0, .int 0, .int 0, .int 0])), ((ux 17), .inr (2, [.ref (ux 18), .int 0, .int 0, .int 0, .int 0, .int 0, .int 0, .int 0, .int 0, .int 0, .int 0, .int 0, .int (-1), .int 0])), ((ux 18), .inr (8, [.ref (ux 19), .int 200, .int 8, .int 0]))]) [0, 1, 15, 18, 19] rfl
  have hDc := hD.sub (ws' := [(q0, .inr (10, [.ref (ux 26), .ref (ux 0), .ref (ux 35), .ref (ux 36), .ref (ux 37), .int 0])), ((ux 0), .inr (3, [.ref (ux 1), .ref (ux 8), .ref (ux 11), .ref (ux 14), .ref (ux 20), .ref (ux 22), .int 0])), ((ux 14), .inr (0, [.ref (ux 17), .ref (ux 15), .ref (ux 16), .int 0, .int 0, .int 0, .int 0, .int 0, .int 0])), ((ux 17), .inr (2, [.ref (ux 18), .int 0, .int 0, .int 0, .int 0, .int 0, .int 0, .int 0, .int 0, .int 0, .int 0, .int 0, .int (-1), .int 0])), ((ux 18), .inr (8, [.ref (ux 19), .int 200, .int 8, .int 0]))]) [0, 1, 15, 18, 19] (by decide) rfl
  refine yy_calli [0, 1, 15, 18, 19] [41, 42] (wr := [(q1, .inr (11, [.ref (um 0), .int 0, .int 0, .ref (um 1), .ref (um 2), .ref (um 3), .ref (um 4), .int 0, .ref (um 5), .ref (um 6), .ref (um 7), .int 0, .int 32, .int 0, .ref (um 8), .ref (um 9), .int 0, .int 0, .ref (um 10), .ref (um 11), .ref (um 12), .ref (um 13), .ref (um 14), .ref (um 15)])), ((um 0), .inl (cyI, 2490, .inl (yz 0 0)))]) (va_runV (As := [.int (xs 1), .int (xs 2)]) (rest := []) ⟨hx, hb, hml, hown, hts⟩ (x_log l dC dI cyI cyZ cyO H.size q0 (ux 0) (ux 1) (ux 8) (ux 11) (ux 14) (ux 15) (ux 16) (ux 17) (ux 18) (ux 19) (ux 20) (ux 22) (ux 26) (ux 35) (ux 36) (ux 37) (xs 1) (xs 2) ) (cwV 2 hts gL_law_X10_log rfl rfl rfl (by decide +kernel) ⟨Nat.le_of_ble_eq_true rfl, Nat.le_of_ble_eq_true rfl⟩) (yPreV hK hPc hDc (ci := 10) (q0 := 0) rfl rfl) rfl rfl hl.1 rfl (lv_room (Nat.le_of_ble_eq_true rfl)) dL_law_573 ⟨Nat.le_of_ble_eq_true rfl, Nat.le_of_ble_eq_true rfl⟩) hP hD hS hA rfl rfl (by decide) (by decide) (fun r_2 u_1 H locs hw hP hD hS => ?_)
  have hP : va_P (dC, dI) vwCl [(q1, .inr (11, [.ref (um 0), .int 0, .int 0, .ref (um 1), .ref (um 2), .ref (um 3), .ref (um 4), .int 0, .ref (um 5), .ref (um 6), .ref (um 7), .int 0, .int 32, .int 0, .ref (um 8), .ref (um 9), .int 0, .int 0, .ref (um 10), .ref (um 11), .ref (um 12), .ref (um 13), .ref (um 14), .ref (um 15)])), ((um 0), .inl (cyI, 2490, .inl (yz 0 0)))] H := hP
  have hD : va_D A [(q1, .inr (11, [.ref (um 0), .int 0, .int 0, .ref (um 1), .ref (um 2), .ref (um 3), .ref (um 4), .int 0, .ref (um 5), .ref (um 6), .ref (um 7), .int 0, .int 32, .int 0, .ref (um 8), .ref (um 9), .int 0, .int 0, .ref (um 10), .ref (um 11), .ref (um 12), .ref (um 13), .ref (um 14), .ref (um 15)])), ((um 0), .inl (cyI, 2490, .inl (yz 0 0)))] := hD
  refine W.widen (k := 58) (n := 13281) (Nat.le_of_ble_eq_true rfl) (Nat.le_of_ble_eq_true rfl) ?_
  have hw : r_2 = 0 := hw
  subst hw
  refine lv_aload_n hx hb dL_law_576 rfl (lv_at hl 1 rfl) ?_
  refine lv_aload_n hx hb dL_law_577 rfl (lv_at hl 3 rfl) ?_
  refine lv_iload_n hx hb dL_law_578 rfl (lv_at hl 0 rfl) ?_
  refine lv_iconst (v := 1) hx hb dL_law_579 (by decide) ?_
  refine lv_iadd hx hb dL_law_580 ?_
  refine yy_int (v := 1) (by decide) ?_
  refine va_sld hx hb hX hbl hbA hS (yin (by decide)) dL_law_581 ?_
  refine yy_int (v := (xs 1)) rfl ?_
  refine lv_aload_n hx hb dL_law_582 rfl (lv_at hl 3 rfl) ?_
  refine lv_iload_n hx hb dL_law_583 rfl (lv_at hl 0 rfl) ?_
  refine lv_iconst (v := 2) hx hb dL_law_584 (by decide) ?_
  refine lv_iadd hx hb dL_law_585 ?_
  refine yy_int (v := 2) (by decide) ?_
  refine va_sld hx hb hX hbl hbA hS (yin (by decide)) dL_law_586 ?_
  refine yy_int (v := (xs 2)) rfl ?_
  have hPc := hP.sub (ws' := [(q1, .inr (11, [.ref (um 0), .int 0, .int 0, .ref (um 1), .ref (um 2), .ref (um 3), .ref (um 4), .int 0, .ref (um 5), .ref (um 6), .ref (um 7), .int 0, .int 32, .int 0, .ref (um 8), .ref (um 9), .int 0, .int 0, .ref (um 10), .ref (um 11), .ref (um 12), .ref (um 13), .ref (um 14), .ref (um 15)])), ((um 0), .inl (cyI, 2490, .inl (yz 0 0)))]) [0, 1] rfl
  have hDc := hD.sub (ws' := [(q1, .inr (11, [.ref (um 0), .int 0, .int 0, .ref (um 1), .ref (um 2), .ref (um 3), .ref (um 4), .int 0, .ref (um 5), .ref (um 6), .ref (um 7), .int 0, .int 32, .int 0, .ref (um 8), .ref (um 9), .int 0, .int 0, .ref (um 10), .ref (um 11), .ref (um 12), .ref (um 13), .ref (um 14), .ref (um 15)])), ((um 0), .inl (cyI, 2490, .inl (yz 0 0)))]) [0, 1] (by decide) rfl
  refine yy_calli [0, 1] [] (wr := []) (va_runV (As := [.int (xs 1), .int (xs 2)]) (rest := [.int 0]) ⟨hx, hb, hml, hown, hts⟩ (r_log l dC dI cyI cyZ cyO H.size q1 (um 0) (um 1) (um 2) (um 3) (um 4) (um 5) (um 6) (um 7) (um 8) (um 9) (um 10) (um 11) (um 12) (um 13) (um 14) (um 15) (xs 1) (xs 2) ) (cwV 2 hts gL_law_X11_log rfl rfl rfl (by decide +kernel) ⟨Nat.le_of_ble_eq_true rfl, Nat.le_of_ble_eq_true rfl⟩) (yPreV hK hPc hDc (ci := 11) (q0 := 0) rfl rfl) rfl rfl hl.1 rfl (lv_room (Nat.le_of_ble_eq_true rfl)) dL_law_587 ⟨Nat.le_of_ble_eq_true rfl, Nat.le_of_ble_eq_true rfl⟩) hP hD hS hA rfl rfl (by decide) (by decide) (fun r_4 u_3 H locs hw hP hD hS => ?_)
  have hP : va_P (dC, dI) vwCl [] H := hP
  have hD : va_D A [] := hD
  refine W.widen (k := 58) (n := 13281) (Nat.le_of_ble_eq_true rfl) (Nat.le_of_ble_eq_true rfl) ?_
  have hw : r_4 = 0 := hw
  subst hw
  refine lv_icmp_eq (tgt := 838) hx hb dL_law_590 (by decide) (fun _ => ?_) (fun c => absurd (by decide) c)
  refine W.widen (k := 600000) (n := 7302250) (Nat.le_of_ble_eq_true rfl) (Nat.le_of_ble_eq_true rfl) ?_
  exact fin _ _ hS _ hl
set_option maxHeartbeats 4000000 in
set_option maxRecDepth 100000 in
/-- the law: a call of findings on two fresh objects -/
theorem law_findings {p : Program} {e : Env} {s : State} {m : MethodId} {below : List Frame} {meth : Method} {c : Code} (l : Launch) {b : Nat} {xs : Nat → Int32} (C0 : lw_At p s m meth c b 6 xs) {dC : Nat → ClassId} {dI : Nat → Nat → Nat} {cyI cyZ cyO : ClassId} {A : Nat → Prop} (hA : ∀ q : Nat, s.heap.size ≤ q → A q) (hbA : ¬ A b) (hN : yN s) (hK : va_K (dC, dI) vwCl (yT cyI cyZ cyO) s) (q0 q1 : Nat) (ux um : Nat → Nat) {H : Heap} {locs : List Loc} (hP : va_P (dC, dI) vwCl (yWX cyI cyZ cyO q0 ux ++ yWM cyI cyZ q1 um) H) (hD : va_D A (yWX cyI cyZ cyO q0 ux ++ yWM cyI cyZ q1 um)) (hS : va_S A s.heap H locs) {ls : Array Slot} (hl : lv_has ls 4 [(3, .int 0), (2, .ref q1), (1, .ref q0), (0, .ref b)]) (fin : ∀ (H : Heap) (locs : List Loc), va_S A s.heap H locs → ∀ ls : Array Slot, lv_has ls 4 [(3, .int 0), (2, .ref q1), (1, .ref q0), (0, .ref b)] → W p l e room_1 s m #[Value.ref b] below meth c H locs 600000 7302250 (lw_Z below #[Value.ref b] s) (F0 m 838 ls [])) : W p l e room_1 s m #[Value.ref b] below meth c H locs 58 13281 (lw_Z below #[Value.ref b] s) (F0 m 595 ls []) := by
  obtain ⟨hx, hb, hr, hml, hown0, hts0, hX, hbl, hlk, hgv⟩ := C0
  have hown : s.vm.findClass RL = some m.cls := hown0
  have hts : ∀ w ∈ wsL_law, w.before #[Value.ref b] s = true := fun w h => hts0 w (wsL_law_in w h)
  refine lv_aload_n hx hb dL_law_595 rfl (lv_at hl 2 rfl) ?_
  refine lv_aload_n hx hb dL_law_596 rfl (lv_at hl 3 rfl) ?_
  refine lv_iload_n hx hb dL_law_597 rfl (lv_at hl 0 rfl) ?_
  refine lv_iconst (v := 1) hx hb dL_law_598 (by decide) ?_
  refine lv_iadd hx hb dL_law_599 ?_
  refine yy_int (v := 1) (by decide) ?_
  refine va_sld hx hb hX hbl hbA hS (yin (by decide)) dL_law_600 ?_
  refine yy_int (v := (xs 1)) rfl ?_
  have hPc := hP.sub (ws' := [(q0, .inr (10, [.ref (ux 26), .ref (ux 0), .ref (ux 35), .ref (ux 36), .ref (ux 37), .int 0])), ((ux 0), .inr (3, [.ref (ux 1), .ref (ux 8), .ref (ux 11), .ref (ux 14), .ref (ux 20), .ref (ux 22), .int 0])), ((ux 22), .inr (5, [.ref (ux 23), .ref (ux 24), .int 0, .int 0, .int 0])), ((ux 23), .inl (cyI, 16, .inl (fun _ => 0)))]) [0, 1, 23, 24] rfl
  have hDc := hD.sub (ws' := [(q0, .inr (10, [.ref (ux 26), .ref (ux 0), .ref (ux 35), .ref (ux 36), .ref (ux 37), .int 0])), ((ux 0), .inr (3, [.ref (ux 1), .ref (ux 8), .ref (ux 11), .ref (ux 14), .ref (ux 20), .ref (ux 22), .int 0])), ((ux 22), .inr (5, [.ref (ux 23), .ref (ux 24), .int 0, .int 0, .int 0])), ((ux 23), .inl (cyI, 16, .inl (fun _ => 0)))]) [0, 1, 23, 24] (by decide) rfl
  refine yy_calli [0, 1, 23, 24] [41, 42] (wr := [(q1, .inr (11, [.ref (um 0), .int 0, .int 0, .ref (um 1), .ref (um 2), .ref (um 3), .ref (um 4), .int 0, .ref (um 5), .ref (um 6), .ref (um 7), .int 0, .int 32, .int 0, .ref (um 8), .ref (um 9), .int 0, .int 0, .ref (um 10), .ref (um 11), .ref (um 12), .ref (um 13), .ref (um 14), .ref (um 15)])), ((um 0), .inl (cyI, 2490, .inl (yz 0 0)))]) (va_runV (As := [.int (xs 1)]) (rest := []) ⟨hx, hb, hml, hown, hts⟩ (x_findings l dC dI cyI cyZ cyO H.size q0 (ux 0) (ux 1) (ux 8) (ux 11) (ux 14) (ux 20) (ux 22) (ux 23) (ux 24) (ux 26) (ux 35) (ux 36) (ux 37) (xs 1) ) (cwV 1 hts gL_law_X10_findings rfl rfl rfl (by decide +kernel) ⟨Nat.le_of_ble_eq_true rfl, Nat.le_of_ble_eq_true rfl⟩) (yPreV hK hPc hDc (ci := 10) (q0 := 0) rfl rfl) rfl rfl hl.1 rfl (lv_room (Nat.le_of_ble_eq_true rfl)) dL_law_601 ⟨Nat.le_of_ble_eq_true rfl, Nat.le_of_ble_eq_true rfl⟩) hP hD hS hA rfl rfl (by decide) (by decide) (fun r_2 u_1 H locs hw hP hD hS => ?_)
  have hP : va_P (dC, dI) vwCl [(q1, .inr (11, [.ref (um 0), .int 0, .int 0, .ref (um 1), .ref (um 2), .ref (um 3), .ref (um 4), .int 0, .ref (um 5), .ref (um 6), .ref (um 7), .int 0, .int 32, .int 0, .ref (um 8), .ref (um 9), .int 0, .int 0, .ref (um 10), .ref (um 11), .ref (um 12), .ref (um 13), .ref (um 14), .ref (um 15)])), ((um 0), .inl (cyI, 2490, .inl (yz 0 0)))] H := hP
  have hD : va_D A [(q1, .inr (11, [.ref (um 0), .int 0, .int 0, .ref (um 1), .ref (um 2), .ref (um 3), .ref (um 4), .int 0, .ref (um 5), .ref (um 6), .ref (um 7), .int 0, .int 32, .int 0, .ref (um 8), .ref (um 9), .int 0, .int 0, .ref (um 10), .ref (um 11), .ref (um 12), .ref (um 13), .ref (um 14), .ref (um 15)])), ((um 0), .inl (cyI, 2490, .inl (yz 0 0)))] := hD
  refine W.widen (k := 58) (n := 13281) (Nat.le_of_ble_eq_true rfl) (Nat.le_of_ble_eq_true rfl) ?_
  have hw : r_2 = (sp_findings (xs 1)) := hw
  subst hw
  refine lv_aload_n hx hb dL_law_604 rfl (lv_at hl 1 rfl) ?_
  refine lv_aload_n hx hb dL_law_605 rfl (lv_at hl 3 rfl) ?_
  refine lv_iload_n hx hb dL_law_606 rfl (lv_at hl 0 rfl) ?_
  refine lv_iconst (v := 1) hx hb dL_law_607 (by decide) ?_
  refine lv_iadd hx hb dL_law_608 ?_
  refine yy_int (v := 1) (by decide) ?_
  refine va_sld hx hb hX hbl hbA hS (yin (by decide)) dL_law_609 ?_
  refine yy_int (v := (xs 1)) rfl ?_
  have hPc := hP.sub (ws' := [(q1, .inr (11, [.ref (um 0), .int 0, .int 0, .ref (um 1), .ref (um 2), .ref (um 3), .ref (um 4), .int 0, .ref (um 5), .ref (um 6), .ref (um 7), .int 0, .int 32, .int 0, .ref (um 8), .ref (um 9), .int 0, .int 0, .ref (um 10), .ref (um 11), .ref (um 12), .ref (um 13), .ref (um 14), .ref (um 15)])), ((um 0), .inl (cyI, 2490, .inl (yz 0 0)))]) [0, 1] rfl
  have hDc := hD.sub (ws' := [(q1, .inr (11, [.ref (um 0), .int 0, .int 0, .ref (um 1), .ref (um 2), .ref (um 3), .ref (um 4), .int 0, .ref (um 5), .ref (um 6), .ref (um 7), .int 0, .int 32, .int 0, .ref (um 8), .ref (um 9), .int 0, .int 0, .ref (um 10), .ref (um 11), .ref (um 12), .ref (um 13), .ref (um 14), .ref (um 15)])), ((um 0), .inl (cyI, 2490, .inl (yz 0 0)))]) [0, 1] (by decide) rfl
  refine yy_calli [0, 1] [] (wr := []) (va_runV (As := [.int (xs 1)]) (rest := [.int (sp_findings (xs 1))]) ⟨hx, hb, hml, hown, hts⟩ (r_findings l dC dI cyI cyZ cyO H.size q1 (um 0) (um 1) (um 2) (um 3) (um 4) (um 5) (um 6) (um 7) (um 8) (um 9) (um 10) (um 11) (um 12) (um 13) (um 14) (um 15) (xs 1) ) (cwV 1 hts gL_law_X11_findings rfl rfl rfl (by decide +kernel) ⟨Nat.le_of_ble_eq_true rfl, Nat.le_of_ble_eq_true rfl⟩) (yPreV hK hPc hDc (ci := 11) (q0 := 0) rfl rfl) rfl rfl hl.1 rfl (lv_room (Nat.le_of_ble_eq_true rfl)) dL_law_610 ⟨Nat.le_of_ble_eq_true rfl, Nat.le_of_ble_eq_true rfl⟩) hP hD hS hA rfl rfl (by decide) (by decide) (fun r_4 u_3 H locs hw hP hD hS => ?_)
  have hP : va_P (dC, dI) vwCl [] H := hP
  have hD : va_D A [] := hD
  refine W.widen (k := 58) (n := 13281) (Nat.le_of_ble_eq_true rfl) (Nat.le_of_ble_eq_true rfl) ?_
  have hw : r_4 = (sp_findings (xs 1)) := hw
  subst hw
  refine lv_icmp_eq (tgt := 838) hx hb dL_law_613 (by decide) (fun _ => ?_) (fun c => absurd (rfl) c)
  refine W.widen (k := 600000) (n := 7302250) (Nat.le_of_ble_eq_true rfl) (Nat.le_of_ble_eq_true rfl) ?_
  exact fin _ _ hS _ hl
set_option maxHeartbeats 4000000 in
set_option maxRecDepth 100000 in
/-- the law: a call of finding on two fresh objects -/
theorem law_finding {p : Program} {e : Env} {s : State} {m : MethodId} {below : List Frame} {meth : Method} {c : Code} (l : Launch) {b : Nat} {xs : Nat → Int32} (C0 : lw_At p s m meth c b 6 xs) {dC : Nat → ClassId} {dI : Nat → Nat → Nat} {cyI cyZ cyO : ClassId} {A : Nat → Prop} (hA : ∀ q : Nat, s.heap.size ≤ q → A q) (hbA : ¬ A b) (hN : yN s) (hK : va_K (dC, dI) vwCl (yT cyI cyZ cyO) s) (q0 q1 : Nat) (ux um : Nat → Nat) {H : Heap} {locs : List Loc} (hP : va_P (dC, dI) vwCl (yWX cyI cyZ cyO q0 ux ++ yWM cyI cyZ q1 um) H) (hD : va_D A (yWX cyI cyZ cyO q0 ux ++ yWM cyI cyZ q1 um)) (hS : va_S A s.heap H locs) {ls : Array Slot} (hl : lv_has ls 4 [(3, .int 0), (2, .ref q1), (1, .ref q0), (0, .ref b)]) (fin : ∀ (H : Heap) (locs : List Loc), va_S A s.heap H locs → ∀ ls : Array Slot, lv_has ls 4 [(3, .int 0), (2, .ref q1), (1, .ref q0), (0, .ref b)] → W p l e room_1 s m #[Value.ref b] below meth c H locs 600000 7302250 (lw_Z below #[Value.ref b] s) (F0 m 838 ls [])) : W p l e room_1 s m #[Value.ref b] below meth c H locs 58 13281 (lw_Z below #[Value.ref b] s) (F0 m 618 ls []) := by
  obtain ⟨hx, hb, hr, hml, hown0, hts0, hX, hbl, hlk, hgv⟩ := C0
  have hown : s.vm.findClass RL = some m.cls := hown0
  have hts : ∀ w ∈ wsL_law, w.before #[Value.ref b] s = true := fun w h => hts0 w (wsL_law_in w h)
  refine lv_aload_n hx hb dL_law_618 rfl (lv_at hl 2 rfl) ?_
  refine lv_aload_n hx hb dL_law_619 rfl (lv_at hl 3 rfl) ?_
  refine lv_iload_n hx hb dL_law_620 rfl (lv_at hl 0 rfl) ?_
  refine lv_iconst (v := 1) hx hb dL_law_621 (by decide) ?_
  refine lv_iadd hx hb dL_law_622 ?_
  refine yy_int (v := 1) (by decide) ?_
  refine va_sld hx hb hX hbl hbA hS (yin (by decide)) dL_law_623 ?_
  refine yy_int (v := (xs 1)) rfl ?_
  refine lv_aload_n hx hb dL_law_624 rfl (lv_at hl 3 rfl) ?_
  refine lv_iload_n hx hb dL_law_625 rfl (lv_at hl 0 rfl) ?_
  refine lv_iconst (v := 2) hx hb dL_law_626 (by decide) ?_
  refine lv_iadd hx hb dL_law_627 ?_
  refine yy_int (v := 2) (by decide) ?_
  refine va_sld hx hb hX hbl hbA hS (yin (by decide)) dL_law_628 ?_
  refine yy_int (v := (xs 2)) rfl ?_
  have hPc := hP.sub (ws' := [(q0, .inr (10, [.ref (ux 26), .ref (ux 0), .ref (ux 35), .ref (ux 36), .ref (ux 37), .int 0])), ((ux 0), .inr (3, [.ref (ux 1), .ref (ux 8), .ref (ux 11), .ref (ux 14), .ref (ux 20), .ref (ux 22), .int 0])), ((ux 22), .inr (5, [.ref (ux 23), .ref (ux 24), .int 0, .int 0, .int 0])), ((ux 24), .inr (8, [.ref (ux 25), .int 60, .int 2, .int 0]))]) [0, 1, 23, 25] rfl
  have hDc := hD.sub (ws' := [(q0, .inr (10, [.ref (ux 26), .ref (ux 0), .ref (ux 35), .ref (ux 36), .ref (ux 37), .int 0])), ((ux 0), .inr (3, [.ref (ux 1), .ref (ux 8), .ref (ux 11), .ref (ux 14), .ref (ux 20), .ref (ux 22), .int 0])), ((ux 22), .inr (5, [.ref (ux 23), .ref (ux 24), .int 0, .int 0, .int 0])), ((ux 24), .inr (8, [.ref (ux 25), .int 60, .int 2, .int 0]))]) [0, 1, 23, 25] (by decide) rfl
  refine yy_calli [0, 1, 23, 25] [41, 42] (wr := [(q1, .inr (11, [.ref (um 0), .int 0, .int 0, .ref (um 1), .ref (um 2), .ref (um 3), .ref (um 4), .int 0, .ref (um 5), .ref (um 6), .ref (um 7), .int 0, .int 32, .int 0, .ref (um 8), .ref (um 9), .int 0, .int 0, .ref (um 10), .ref (um 11), .ref (um 12), .ref (um 13), .ref (um 14), .ref (um 15)])), ((um 0), .inl (cyI, 2490, .inl (yz 0 0)))]) (va_runV (As := [.int (xs 1), .int (xs 2)]) (rest := []) ⟨hx, hb, hml, hown, hts⟩ (x_finding l dC dI cyI cyZ cyO H.size q0 (ux 0) (ux 1) (ux 8) (ux 11) (ux 14) (ux 20) (ux 22) (ux 23) (ux 24) (ux 25) (ux 26) (ux 35) (ux 36) (ux 37) (xs 1) (xs 2) ) (cwV 2 hts gL_law_X10_finding rfl rfl rfl (by decide +kernel) ⟨Nat.le_of_ble_eq_true rfl, Nat.le_of_ble_eq_true rfl⟩) (yPreV hK hPc hDc (ci := 10) (q0 := 0) rfl rfl) rfl rfl hl.1 rfl (lv_room (Nat.le_of_ble_eq_true rfl)) dL_law_629 ⟨Nat.le_of_ble_eq_true rfl, Nat.le_of_ble_eq_true rfl⟩) hP hD hS hA rfl rfl (by decide) (by decide) (fun r_2 u_1 H locs hw hP hD hS => ?_)
  have hP : va_P (dC, dI) vwCl [(q1, .inr (11, [.ref (um 0), .int 0, .int 0, .ref (um 1), .ref (um 2), .ref (um 3), .ref (um 4), .int 0, .ref (um 5), .ref (um 6), .ref (um 7), .int 0, .int 32, .int 0, .ref (um 8), .ref (um 9), .int 0, .int 0, .ref (um 10), .ref (um 11), .ref (um 12), .ref (um 13), .ref (um 14), .ref (um 15)])), ((um 0), .inl (cyI, 2490, .inl (yz 0 0)))] H := hP
  have hD : va_D A [(q1, .inr (11, [.ref (um 0), .int 0, .int 0, .ref (um 1), .ref (um 2), .ref (um 3), .ref (um 4), .int 0, .ref (um 5), .ref (um 6), .ref (um 7), .int 0, .int 32, .int 0, .ref (um 8), .ref (um 9), .int 0, .int 0, .ref (um 10), .ref (um 11), .ref (um 12), .ref (um 13), .ref (um 14), .ref (um 15)])), ((um 0), .inl (cyI, 2490, .inl (yz 0 0)))] := hD
  refine W.widen (k := 58) (n := 13281) (Nat.le_of_ble_eq_true rfl) (Nat.le_of_ble_eq_true rfl) ?_
  have hw : r_2 = (-1) := hw
  subst hw
  refine lv_aload_n hx hb dL_law_632 rfl (lv_at hl 1 rfl) ?_
  refine lv_aload_n hx hb dL_law_633 rfl (lv_at hl 3 rfl) ?_
  refine lv_iload_n hx hb dL_law_634 rfl (lv_at hl 0 rfl) ?_
  refine lv_iconst (v := 1) hx hb dL_law_635 (by decide) ?_
  refine lv_iadd hx hb dL_law_636 ?_
  refine yy_int (v := 1) (by decide) ?_
  refine va_sld hx hb hX hbl hbA hS (yin (by decide)) dL_law_637 ?_
  refine yy_int (v := (xs 1)) rfl ?_
  refine lv_aload_n hx hb dL_law_638 rfl (lv_at hl 3 rfl) ?_
  refine lv_iload_n hx hb dL_law_639 rfl (lv_at hl 0 rfl) ?_
  refine lv_iconst (v := 2) hx hb dL_law_640 (by decide) ?_
  refine lv_iadd hx hb dL_law_641 ?_
  refine yy_int (v := 2) (by decide) ?_
  refine va_sld hx hb hX hbl hbA hS (yin (by decide)) dL_law_642 ?_
  refine yy_int (v := (xs 2)) rfl ?_
  have hPc := hP.sub (ws' := [(q1, .inr (11, [.ref (um 0), .int 0, .int 0, .ref (um 1), .ref (um 2), .ref (um 3), .ref (um 4), .int 0, .ref (um 5), .ref (um 6), .ref (um 7), .int 0, .int 32, .int 0, .ref (um 8), .ref (um 9), .int 0, .int 0, .ref (um 10), .ref (um 11), .ref (um 12), .ref (um 13), .ref (um 14), .ref (um 15)])), ((um 0), .inl (cyI, 2490, .inl (yz 0 0)))]) [0, 1] rfl
  have hDc := hD.sub (ws' := [(q1, .inr (11, [.ref (um 0), .int 0, .int 0, .ref (um 1), .ref (um 2), .ref (um 3), .ref (um 4), .int 0, .ref (um 5), .ref (um 6), .ref (um 7), .int 0, .int 32, .int 0, .ref (um 8), .ref (um 9), .int 0, .int 0, .ref (um 10), .ref (um 11), .ref (um 12), .ref (um 13), .ref (um 14), .ref (um 15)])), ((um 0), .inl (cyI, 2490, .inl (yz 0 0)))]) [0, 1] (by decide) rfl
  refine yy_calli [0, 1] [] (wr := []) (va_runV (As := [.int (xs 1), .int (xs 2)]) (rest := [.int (-1)]) ⟨hx, hb, hml, hown, hts⟩ (r_finding l dC dI cyI cyZ cyO H.size q1 (um 0) (um 1) (um 2) (um 3) (um 4) (um 5) (um 6) (um 7) (um 8) (um 9) (um 10) (um 11) (um 12) (um 13) (um 14) (um 15) (xs 1) (xs 2) ) (cwV 2 hts gL_law_X11_finding rfl rfl rfl (by decide +kernel) ⟨Nat.le_of_ble_eq_true rfl, Nat.le_of_ble_eq_true rfl⟩) (yPreV hK hPc hDc (ci := 11) (q0 := 0) rfl rfl) rfl rfl hl.1 rfl (lv_room (Nat.le_of_ble_eq_true rfl)) dL_law_643 ⟨Nat.le_of_ble_eq_true rfl, Nat.le_of_ble_eq_true rfl⟩) hP hD hS hA rfl rfl (by decide) (by decide) (fun r_4 u_3 H locs hw hP hD hS => ?_)
  have hP : va_P (dC, dI) vwCl [] H := hP
  have hD : va_D A [] := hD
  refine W.widen (k := 58) (n := 13281) (Nat.le_of_ble_eq_true rfl) (Nat.le_of_ble_eq_true rfl) ?_
  have hw : r_4 = (-1) := hw
  subst hw
  refine lv_icmp_eq (tgt := 838) hx hb dL_law_646 (by decide) (fun _ => ?_) (fun c => absurd (by decide) c)
  refine W.widen (k := 600000) (n := 7302250) (Nat.le_of_ble_eq_true rfl) (Nat.le_of_ble_eq_true rfl) ?_
  exact fin _ _ hS _ hl
set_option maxHeartbeats 4000000 in
set_option maxRecDepth 100000 in
/-- the law: a call of value on two fresh objects -/
theorem law_value {p : Program} {e : Env} {s : State} {m : MethodId} {below : List Frame} {meth : Method} {c : Code} (l : Launch) {b : Nat} {xs : Nat → Int32} (C0 : lw_At p s m meth c b 6 xs) {dC : Nat → ClassId} {dI : Nat → Nat → Nat} {cyI cyZ cyO : ClassId} {A : Nat → Prop} (hA : ∀ q : Nat, s.heap.size ≤ q → A q) (hbA : ¬ A b) (hN : yN s) (hK : va_K (dC, dI) vwCl (yT cyI cyZ cyO) s) (q0 q1 : Nat) (ux um : Nat → Nat) {H : Heap} {locs : List Loc} (hP : va_P (dC, dI) vwCl (yWX cyI cyZ cyO q0 ux ++ yWM cyI cyZ q1 um) H) (hD : va_D A (yWX cyI cyZ cyO q0 ux ++ yWM cyI cyZ q1 um)) (hS : va_S A s.heap H locs) {ls : Array Slot} (hl : lv_has ls 4 [(3, .int 0), (2, .ref q1), (1, .ref q0), (0, .ref b)]) (fin : ∀ (H : Heap) (locs : List Loc), va_S A s.heap H locs → ∀ ls : Array Slot, lv_has ls 4 [(3, .int 0), (2, .ref q1), (1, .ref q0), (0, .ref b)] → W p l e room_1 s m #[Value.ref b] below meth c H locs 600000 7302250 (lw_Z below #[Value.ref b] s) (F0 m 838 ls [])) : W p l e room_1 s m #[Value.ref b] below meth c H locs 58 13281 (lw_Z below #[Value.ref b] s) (F0 m 651 ls []) := by
  obtain ⟨hx, hb, hr, hml, hown0, hts0, hX, hbl, hlk, hgv⟩ := C0
  have hown : s.vm.findClass RL = some m.cls := hown0
  have hts : ∀ w ∈ wsL_law, w.before #[Value.ref b] s = true := fun w h => hts0 w (wsL_law_in w h)
  refine lv_aload_n hx hb dL_law_651 rfl (lv_at hl 2 rfl) ?_
  refine lv_aload_n hx hb dL_law_652 rfl (lv_at hl 3 rfl) ?_
  refine lv_iload_n hx hb dL_law_653 rfl (lv_at hl 0 rfl) ?_
  refine lv_iconst (v := 1) hx hb dL_law_654 (by decide) ?_
  refine lv_iadd hx hb dL_law_655 ?_
  refine yy_int (v := 1) (by decide) ?_
  refine va_sld hx hb hX hbl hbA hS (yin (by decide)) dL_law_656 ?_
  refine yy_int (v := (xs 1)) rfl ?_
  have hPc := hP.sub (ws' := [(q0, .inr (10, [.ref (ux 26), .ref (ux 0), .ref (ux 35), .ref (ux 36), .ref (ux 37), .int 0])), ((ux 26), .inr (6, [.ref (ux 27), .ref (ux 28), .ref (ux 29), .ref (ux 30), .ref (ux 31), .ref (ux 32), .ref (ux 33), .ref (ux 34), .int 0, .int 0, .int 0, .int 32, .int 0]))]) [0, 27] rfl
  have hDc := hD.sub (ws' := [(q0, .inr (10, [.ref (ux 26), .ref (ux 0), .ref (ux 35), .ref (ux 36), .ref (ux 37), .int 0])), ((ux 26), .inr (6, [.ref (ux 27), .ref (ux 28), .ref (ux 29), .ref (ux 30), .ref (ux 31), .ref (ux 32), .ref (ux 33), .ref (ux 34), .int 0, .int 0, .int 0, .int 32, .int 0]))]) [0, 27] (by decide) rfl
  refine yy_calli [0, 27] [41] (wr := [(q1, .inr (11, [.ref (um 0), .int 0, .int 0, .ref (um 1), .ref (um 2), .ref (um 3), .ref (um 4), .int 0, .ref (um 5), .ref (um 6), .ref (um 7), .int 0, .int 32, .int 0, .ref (um 8), .ref (um 9), .int 0, .int 0, .ref (um 10), .ref (um 11), .ref (um 12), .ref (um 13), .ref (um 14), .ref (um 15)]))]) (va_runV (As := [.int (xs 1)]) (rest := []) ⟨hx, hb, hml, hown, hts⟩ (x_value l dC dI cyI cyZ cyO H.size q0 (ux 0) (ux 26) (ux 27) (ux 28) (ux 29) (ux 30) (ux 31) (ux 32) (ux 33) (ux 34) (ux 35) (ux 36) (ux 37) (xs 1) ) (cwV 1 hts gL_law_X10_value rfl rfl rfl (by decide +kernel) ⟨Nat.le_of_ble_eq_true rfl, Nat.le_of_ble_eq_true rfl⟩) (yPreV hK hPc hDc (ci := 10) (q0 := 0) rfl rfl) rfl rfl hl.1 rfl (lv_room (Nat.le_of_ble_eq_true rfl)) dL_law_657 ⟨Nat.le_of_ble_eq_true rfl, Nat.le_of_ble_eq_true rfl⟩) hP hD hS hA rfl rfl (by decide) (by decide) (fun r_2 u_1 H locs hw hP hD hS => ?_)
  have hP : va_P (dC, dI) vwCl [(q1, .inr (11, [.ref (um 0), .int 0, .int 0, .ref (um 1), .ref (um 2), .ref (um 3), .ref (um 4), .int 0, .ref (um 5), .ref (um 6), .ref (um 7), .int 0, .int 32, .int 0, .ref (um 8), .ref (um 9), .int 0, .int 0, .ref (um 10), .ref (um 11), .ref (um 12), .ref (um 13), .ref (um 14), .ref (um 15)]))] H := hP
  have hD : va_D A [(q1, .inr (11, [.ref (um 0), .int 0, .int 0, .ref (um 1), .ref (um 2), .ref (um 3), .ref (um 4), .int 0, .ref (um 5), .ref (um 6), .ref (um 7), .int 0, .int 32, .int 0, .ref (um 8), .ref (um 9), .int 0, .int 0, .ref (um 10), .ref (um 11), .ref (um 12), .ref (um 13), .ref (um 14), .ref (um 15)]))] := hD
  refine W.widen (k := 58) (n := 13281) (Nat.le_of_ble_eq_true rfl) (Nat.le_of_ble_eq_true rfl) ?_
  have hw : r_2 = 0 := hw
  subst hw
  refine lv_aload_n hx hb dL_law_660 rfl (lv_at hl 1 rfl) ?_
  refine lv_aload_n hx hb dL_law_661 rfl (lv_at hl 3 rfl) ?_
  refine lv_iload_n hx hb dL_law_662 rfl (lv_at hl 0 rfl) ?_
  refine lv_iconst (v := 1) hx hb dL_law_663 (by decide) ?_
  refine lv_iadd hx hb dL_law_664 ?_
  refine yy_int (v := 1) (by decide) ?_
  refine va_sld hx hb hX hbl hbA hS (yin (by decide)) dL_law_665 ?_
  refine yy_int (v := (xs 1)) rfl ?_
  have hPc := hP.sub (ws' := [(q1, .inr (11, [.ref (um 0), .int 0, .int 0, .ref (um 1), .ref (um 2), .ref (um 3), .ref (um 4), .int 0, .ref (um 5), .ref (um 6), .ref (um 7), .int 0, .int 32, .int 0, .ref (um 8), .ref (um 9), .int 0, .int 0, .ref (um 10), .ref (um 11), .ref (um 12), .ref (um 13), .ref (um 14), .ref (um 15)]))]) [0] rfl
  have hDc := hD.sub (ws' := [(q1, .inr (11, [.ref (um 0), .int 0, .int 0, .ref (um 1), .ref (um 2), .ref (um 3), .ref (um 4), .int 0, .ref (um 5), .ref (um 6), .ref (um 7), .int 0, .int 32, .int 0, .ref (um 8), .ref (um 9), .int 0, .int 0, .ref (um 10), .ref (um 11), .ref (um 12), .ref (um 13), .ref (um 14), .ref (um 15)]))]) [0] (by decide) rfl
  refine yy_calli [0] [] (wr := []) (va_runV (As := [.int (xs 1)]) (rest := [.int 0]) ⟨hx, hb, hml, hown, hts⟩ (r_value l dC dI cyI cyZ cyO H.size q1 (um 0) (um 1) (um 2) (um 3) (um 4) (um 5) (um 6) (um 7) (um 8) (um 9) (um 10) (um 11) (um 12) (um 13) (um 14) (um 15) (xs 1) ) (cwV 1 hts gL_law_X11_value rfl rfl rfl (by decide +kernel) ⟨Nat.le_of_ble_eq_true rfl, Nat.le_of_ble_eq_true rfl⟩) (yPreV hK hPc hDc (ci := 11) (q0 := 0) rfl rfl) rfl rfl hl.1 rfl (lv_room (Nat.le_of_ble_eq_true rfl)) dL_law_666 ⟨Nat.le_of_ble_eq_true rfl, Nat.le_of_ble_eq_true rfl⟩) hP hD hS hA rfl rfl (by decide) (by decide) (fun r_4 u_3 H locs hw hP hD hS => ?_)
  have hP : va_P (dC, dI) vwCl [] H := hP
  have hD : va_D A [] := hD
  refine W.widen (k := 58) (n := 13281) (Nat.le_of_ble_eq_true rfl) (Nat.le_of_ble_eq_true rfl) ?_
  have hw : r_4 = 0 := hw
  subst hw
  refine lv_icmp_eq (tgt := 838) hx hb dL_law_669 (by decide) (fun _ => ?_) (fun c => absurd (by decide) c)
  refine W.widen (k := 600000) (n := 7302250) (Nat.le_of_ble_eq_true rfl) (Nat.le_of_ble_eq_true rfl) ?_
  exact fin _ _ hS _ hl
set_option maxHeartbeats 4000000 in
set_option maxRecDepth 100000 in
/-- the law: a call of decode on two fresh objects -/
theorem law_decode {p : Program} {e : Env} {s : State} {m : MethodId} {below : List Frame} {meth : Method} {c : Code} (l : Launch) {b : Nat} {xs : Nat → Int32} (C0 : lw_At p s m meth c b 6 xs) {dC : Nat → ClassId} {dI : Nat → Nat → Nat} {cyI cyZ cyO : ClassId} {A : Nat → Prop} (hA : ∀ q : Nat, s.heap.size ≤ q → A q) (hbA : ¬ A b) (hN : yN s) (hK : va_K (dC, dI) vwCl (yT cyI cyZ cyO) s) (q0 q1 : Nat) (ux um : Nat → Nat) {H : Heap} {locs : List Loc} (hP : va_P (dC, dI) vwCl (yWX cyI cyZ cyO q0 ux ++ yWM cyI cyZ q1 um) H) (hD : va_D A (yWX cyI cyZ cyO q0 ux ++ yWM cyI cyZ q1 um)) (hS : va_S A s.heap H locs) {ls : Array Slot} (hl : lv_has ls 4 [(3, .int 0), (2, .ref q1), (1, .ref q0), (0, .ref b)]) (fin : ∀ (H : Heap) (locs : List Loc), va_S A s.heap H locs → ∀ ls : Array Slot, lv_has ls 4 [(3, .int 0), (2, .ref q1), (1, .ref q0), (0, .ref b)] → W p l e room_1 s m #[Value.ref b] below meth c H locs 600000 7302250 (lw_Z below #[Value.ref b] s) (F0 m 838 ls [])) : W p l e room_1 s m #[Value.ref b] below meth c H locs 58 13281 (lw_Z below #[Value.ref b] s) (F0 m 674 ls []) := by
  obtain ⟨hx, hb, hr, hml, hown0, hts0, hX, hbl, hlk, hgv⟩ := C0
  have hown : s.vm.findClass RL = some m.cls := hown0
  have hts : ∀ w ∈ wsL_law, w.before #[Value.ref b] s = true := fun w h => hts0 w (wsL_law_in w h)
  refine lv_aload_n hx hb dL_law_674 rfl (lv_at hl 2 rfl) ?_
  refine lv_aload_n hx hb dL_law_675 rfl (lv_at hl 3 rfl) ?_
  refine lv_iload_n hx hb dL_law_676 rfl (lv_at hl 0 rfl) ?_
  refine lv_iconst (v := 1) hx hb dL_law_677 (by decide) ?_
  refine lv_iadd hx hb dL_law_678 ?_
  refine yy_int (v := 1) (by decide) ?_
  refine va_sld hx hb hX hbl hbA hS (yin (by decide)) dL_law_679 ?_
  refine yy_int (v := (xs 1)) rfl ?_
  have hPc := hP.sub (ws' := [(q0, .inr (10, [.ref (ux 26), .ref (ux 0), .ref (ux 35), .ref (ux 36), .ref (ux 37), .int 0])), ((ux 26), .inr (6, [.ref (ux 27), .ref (ux 28), .ref (ux 29), .ref (ux 30), .ref (ux 31), .ref (ux 32), .ref (ux 33), .ref (ux 34), .int 0, .int 0, .int 0, .int 32, .int 0]))]) [0, 27] rfl
  have hDc := hD.sub (ws' := [(q0, .inr (10, [.ref (ux 26), .ref (ux 0), .ref (ux 35), .ref (ux 36), .ref (ux 37), .int 0])), ((ux 26), .inr (6, [.ref (ux 27), .ref (ux 28), .ref (ux 29), .ref (ux 30), .ref (ux 31), .ref (ux 32), .ref (ux 33), .ref (ux 34), .int 0, .int 0, .int 0, .int 32, .int 0]))]) [0, 27] (by decide) rfl
  refine yy_calli [0, 27] [41] (wr := [(q1, .inr (11, [.ref (um 0), .int 0, .int 0, .ref (um 1), .ref (um 2), .ref (um 3), .ref (um 4), .int 0, .ref (um 5), .ref (um 6), .ref (um 7), .int 0, .int 32, .int 0, .ref (um 8), .ref (um 9), .int 0, .int 0, .ref (um 10), .ref (um 11), .ref (um 12), .ref (um 13), .ref (um 14), .ref (um 15)]))]) (va_runV (As := [.int (xs 1)]) (rest := []) ⟨hx, hb, hml, hown, hts⟩ (x_decode l dC dI cyI cyZ cyO H.size q0 (ux 0) (ux 26) (ux 27) (ux 28) (ux 29) (ux 30) (ux 31) (ux 32) (ux 33) (ux 34) (ux 35) (ux 36) (ux 37) (xs 1) ) (cwV 1 hts gL_law_X10_decode rfl rfl rfl (by decide +kernel) ⟨Nat.le_of_ble_eq_true rfl, Nat.le_of_ble_eq_true rfl⟩) (yPreV hK hPc hDc (ci := 10) (q0 := 0) rfl rfl) rfl rfl hl.1 rfl (lv_room (Nat.le_of_ble_eq_true rfl)) dL_law_680 ⟨Nat.le_of_ble_eq_true rfl, Nat.le_of_ble_eq_true rfl⟩) hP hD hS hA rfl rfl (by decide) (by decide) (fun r_2 u_1 H locs hw hP hD hS => ?_)
  have hP : va_P (dC, dI) vwCl [(q1, .inr (11, [.ref (um 0), .int 0, .int 0, .ref (um 1), .ref (um 2), .ref (um 3), .ref (um 4), .int 0, .ref (um 5), .ref (um 6), .ref (um 7), .int 0, .int 32, .int 0, .ref (um 8), .ref (um 9), .int 0, .int 0, .ref (um 10), .ref (um 11), .ref (um 12), .ref (um 13), .ref (um 14), .ref (um 15)]))] H := hP
  have hD : va_D A [(q1, .inr (11, [.ref (um 0), .int 0, .int 0, .ref (um 1), .ref (um 2), .ref (um 3), .ref (um 4), .int 0, .ref (um 5), .ref (um 6), .ref (um 7), .int 0, .int 32, .int 0, .ref (um 8), .ref (um 9), .int 0, .int 0, .ref (um 10), .ref (um 11), .ref (um 12), .ref (um 13), .ref (um 14), .ref (um 15)]))] := hD
  refine W.widen (k := 58) (n := 13281) (Nat.le_of_ble_eq_true rfl) (Nat.le_of_ble_eq_true rfl) ?_
  have hw : r_2 = (-6) := hw
  subst hw
  refine lv_aload_n hx hb dL_law_683 rfl (lv_at hl 1 rfl) ?_
  refine lv_aload_n hx hb dL_law_684 rfl (lv_at hl 3 rfl) ?_
  refine lv_iload_n hx hb dL_law_685 rfl (lv_at hl 0 rfl) ?_
  refine lv_iconst (v := 1) hx hb dL_law_686 (by decide) ?_
  refine lv_iadd hx hb dL_law_687 ?_
  refine yy_int (v := 1) (by decide) ?_
  refine va_sld hx hb hX hbl hbA hS (yin (by decide)) dL_law_688 ?_
  refine yy_int (v := (xs 1)) rfl ?_
  have hPc := hP.sub (ws' := [(q1, .inr (11, [.ref (um 0), .int 0, .int 0, .ref (um 1), .ref (um 2), .ref (um 3), .ref (um 4), .int 0, .ref (um 5), .ref (um 6), .ref (um 7), .int 0, .int 32, .int 0, .ref (um 8), .ref (um 9), .int 0, .int 0, .ref (um 10), .ref (um 11), .ref (um 12), .ref (um 13), .ref (um 14), .ref (um 15)]))]) [0] rfl
  have hDc := hD.sub (ws' := [(q1, .inr (11, [.ref (um 0), .int 0, .int 0, .ref (um 1), .ref (um 2), .ref (um 3), .ref (um 4), .int 0, .ref (um 5), .ref (um 6), .ref (um 7), .int 0, .int 32, .int 0, .ref (um 8), .ref (um 9), .int 0, .int 0, .ref (um 10), .ref (um 11), .ref (um 12), .ref (um 13), .ref (um 14), .ref (um 15)]))]) [0] (by decide) rfl
  refine yy_calli [0] [] (wr := []) (va_runV (As := [.int (xs 1)]) (rest := [.int (-6)]) ⟨hx, hb, hml, hown, hts⟩ (r_decode l dC dI cyI cyZ cyO H.size q1 (um 0) (um 1) (um 2) (um 3) (um 4) (um 5) (um 6) (um 7) (um 8) (um 9) (um 10) (um 11) (um 12) (um 13) (um 14) (um 15) (xs 1) ) (cwV 1 hts gL_law_X11_decode rfl rfl rfl (by decide +kernel) ⟨Nat.le_of_ble_eq_true rfl, Nat.le_of_ble_eq_true rfl⟩) (yPreV hK hPc hDc (ci := 11) (q0 := 0) rfl rfl) rfl rfl hl.1 rfl (lv_room (Nat.le_of_ble_eq_true rfl)) dL_law_689 ⟨Nat.le_of_ble_eq_true rfl, Nat.le_of_ble_eq_true rfl⟩) hP hD hS hA rfl rfl (by decide) (by decide) (fun r_4 u_3 H locs hw hP hD hS => ?_)
  have hP : va_P (dC, dI) vwCl [] H := hP
  have hD : va_D A [] := hD
  refine W.widen (k := 58) (n := 13281) (Nat.le_of_ble_eq_true rfl) (Nat.le_of_ble_eq_true rfl) ?_
  have hw : r_4 = (-6) := hw
  subst hw
  refine lv_icmp_eq (tgt := 838) hx hb dL_law_692 (by decide) (fun _ => ?_) (fun c => absurd (by decide) c)
  refine W.widen (k := 600000) (n := 7302250) (Nat.le_of_ble_eq_true rfl) (Nat.le_of_ble_eq_true rfl) ?_
  exact fin _ _ hS _ hl
set_option maxHeartbeats 4000000 in
set_option maxRecDepth 100000 in
/-- the law: a call of bridge on two fresh objects -/
theorem law_bridge {p : Program} {e : Env} {s : State} {m : MethodId} {below : List Frame} {meth : Method} {c : Code} (l : Launch) {b : Nat} {xs : Nat → Int32} (C0 : lw_At p s m meth c b 6 xs) {dC : Nat → ClassId} {dI : Nat → Nat → Nat} {cyI cyZ cyO : ClassId} {A : Nat → Prop} (hA : ∀ q : Nat, s.heap.size ≤ q → A q) (hbA : ¬ A b) (hN : yN s) (hK : va_K (dC, dI) vwCl (yT cyI cyZ cyO) s) (q0 q1 : Nat) (ux um : Nat → Nat) {H : Heap} {locs : List Loc} (hP : va_P (dC, dI) vwCl (yWX cyI cyZ cyO q0 ux ++ yWM cyI cyZ q1 um) H) (hD : va_D A (yWX cyI cyZ cyO q0 ux ++ yWM cyI cyZ q1 um)) (hS : va_S A s.heap H locs) {ls : Array Slot} (hl : lv_has ls 4 [(3, .int 0), (2, .ref q1), (1, .ref q0), (0, .ref b)]) (fin : ∀ (H : Heap) (locs : List Loc), va_S A s.heap H locs → ∀ ls : Array Slot, lv_has ls 4 [(3, .int 0), (2, .ref q1), (1, .ref q0), (0, .ref b)] → W p l e room_1 s m #[Value.ref b] below meth c H locs 600000 7302250 (lw_Z below #[Value.ref b] s) (F0 m 838 ls [])) : W p l e room_1 s m #[Value.ref b] below meth c H locs 58 13281 (lw_Z below #[Value.ref b] s) (F0 m 697 ls []) := by
  obtain ⟨hx, hb, hr, hml, hown0, hts0, hX, hbl, hlk, hgv⟩ := C0
  have hown : s.vm.findClass RL = some m.cls := hown0
  have hts : ∀ w ∈ wsL_law, w.before #[Value.ref b] s = true := fun w h => hts0 w (wsL_law_in w h)
  refine lv_aload_n hx hb dL_law_697 rfl (lv_at hl 2 rfl) ?_
  refine lv_aload_n hx hb dL_law_698 rfl (lv_at hl 3 rfl) ?_
  refine lv_iload_n hx hb dL_law_699 rfl (lv_at hl 0 rfl) ?_
  refine lv_iconst (v := 1) hx hb dL_law_700 (by decide) ?_
  refine lv_iadd hx hb dL_law_701 ?_
  refine yy_int (v := 1) (by decide) ?_
  refine va_sld hx hb hX hbl hbA hS (yin (by decide)) dL_law_702 ?_
  refine yy_int (v := (xs 1)) rfl ?_
  have hPc := hP.sub (ws' := [(q0, .inr (10, [.ref (ux 26), .ref (ux 0), .ref (ux 35), .ref (ux 36), .ref (ux 37), .int 0])), ((ux 0), .inr (3, [.ref (ux 1), .ref (ux 8), .ref (ux 11), .ref (ux 14), .ref (ux 20), .ref (ux 22), .int 0])), ((ux 14), .inr (0, [.ref (ux 17), .ref (ux 15), .ref (ux 16), .int 0, .int 0, .int 0, .int 0, .int 0, .int 0])), ((ux 17), .inr (2, [.ref (ux 18), .int 0, .int 0, .int 0, .int 0, .int 0, .int 0, .int 0, .int 0, .int 0, .int 0, .int 0, .int (-1), .int 0]))]) [0, 1, 15, 18] rfl
  have hDc := hD.sub (ws' := [(q0, .inr (10, [.ref (ux 26), .ref (ux 0), .ref (ux 35), .ref (ux 36), .ref (ux 37), .int 0])), ((ux 0), .inr (3, [.ref (ux 1), .ref (ux 8), .ref (ux 11), .ref (ux 14), .ref (ux 20), .ref (ux 22), .int 0])), ((ux 14), .inr (0, [.ref (ux 17), .ref (ux 15), .ref (ux 16), .int 0, .int 0, .int 0, .int 0, .int 0, .int 0])), ((ux 17), .inr (2, [.ref (ux 18), .int 0, .int 0, .int 0, .int 0, .int 0, .int 0, .int 0, .int 0, .int 0, .int 0, .int 0, .int (-1), .int 0]))]) [0, 1, 15, 18] (by decide) rfl
  refine yy_calli [0, 1, 15, 18] [41, 42] (wr := [(q1, .inr (11, [.ref (um 0), .int 0, .int 0, .ref (um 1), .ref (um 2), .ref (um 3), .ref (um 4), .int 0, .ref (um 5), .ref (um 6), .ref (um 7), .int 0, .int 32, .int 0, .ref (um 8), .ref (um 9), .int 0, .int 0, .ref (um 10), .ref (um 11), .ref (um 12), .ref (um 13), .ref (um 14), .ref (um 15)])), ((um 0), .inl (cyI, 2490, .inl (yz 0 0)))]) (va_runV (As := [.int (xs 1)]) (rest := []) ⟨hx, hb, hml, hown, hts⟩ (x_bridge l dC dI cyI cyZ cyO H.size q0 (ux 0) (ux 1) (ux 8) (ux 11) (ux 14) (ux 15) (ux 16) (ux 17) (ux 18) (ux 20) (ux 22) (ux 26) (ux 35) (ux 36) (ux 37) (xs 1) ) (cwV 1 hts gL_law_X10_bridge rfl rfl rfl (by decide +kernel) ⟨Nat.le_of_ble_eq_true rfl, Nat.le_of_ble_eq_true rfl⟩) (yPreV hK hPc hDc (ci := 10) (q0 := 0) rfl rfl) rfl rfl hl.1 rfl (lv_room (Nat.le_of_ble_eq_true rfl)) dL_law_703 ⟨Nat.le_of_ble_eq_true rfl, Nat.le_of_ble_eq_true rfl⟩) hP hD hS hA rfl rfl (by decide) (by decide) (fun r_2 u_1 H locs hw hP hD hS => ?_)
  have hP : va_P (dC, dI) vwCl [(q1, .inr (11, [.ref (um 0), .int 0, .int 0, .ref (um 1), .ref (um 2), .ref (um 3), .ref (um 4), .int 0, .ref (um 5), .ref (um 6), .ref (um 7), .int 0, .int 32, .int 0, .ref (um 8), .ref (um 9), .int 0, .int 0, .ref (um 10), .ref (um 11), .ref (um 12), .ref (um 13), .ref (um 14), .ref (um 15)])), ((um 0), .inl (cyI, 2490, .inl (yz 0 0)))] H := hP
  have hD : va_D A [(q1, .inr (11, [.ref (um 0), .int 0, .int 0, .ref (um 1), .ref (um 2), .ref (um 3), .ref (um 4), .int 0, .ref (um 5), .ref (um 6), .ref (um 7), .int 0, .int 32, .int 0, .ref (um 8), .ref (um 9), .int 0, .int 0, .ref (um 10), .ref (um 11), .ref (um 12), .ref (um 13), .ref (um 14), .ref (um 15)])), ((um 0), .inl (cyI, 2490, .inl (yz 0 0)))] := hD
  refine W.widen (k := 58) (n := 13281) (Nat.le_of_ble_eq_true rfl) (Nat.le_of_ble_eq_true rfl) ?_
  have hw : r_2 = (sp_bridge (xs 1)) := hw
  subst hw
  refine lv_aload_n hx hb dL_law_706 rfl (lv_at hl 1 rfl) ?_
  refine lv_aload_n hx hb dL_law_707 rfl (lv_at hl 3 rfl) ?_
  refine lv_iload_n hx hb dL_law_708 rfl (lv_at hl 0 rfl) ?_
  refine lv_iconst (v := 1) hx hb dL_law_709 (by decide) ?_
  refine lv_iadd hx hb dL_law_710 ?_
  refine yy_int (v := 1) (by decide) ?_
  refine va_sld hx hb hX hbl hbA hS (yin (by decide)) dL_law_711 ?_
  refine yy_int (v := (xs 1)) rfl ?_
  have hPc := hP.sub (ws' := [(q1, .inr (11, [.ref (um 0), .int 0, .int 0, .ref (um 1), .ref (um 2), .ref (um 3), .ref (um 4), .int 0, .ref (um 5), .ref (um 6), .ref (um 7), .int 0, .int 32, .int 0, .ref (um 8), .ref (um 9), .int 0, .int 0, .ref (um 10), .ref (um 11), .ref (um 12), .ref (um 13), .ref (um 14), .ref (um 15)])), ((um 0), .inl (cyI, 2490, .inl (yz 0 0)))]) [0, 1] rfl
  have hDc := hD.sub (ws' := [(q1, .inr (11, [.ref (um 0), .int 0, .int 0, .ref (um 1), .ref (um 2), .ref (um 3), .ref (um 4), .int 0, .ref (um 5), .ref (um 6), .ref (um 7), .int 0, .int 32, .int 0, .ref (um 8), .ref (um 9), .int 0, .int 0, .ref (um 10), .ref (um 11), .ref (um 12), .ref (um 13), .ref (um 14), .ref (um 15)])), ((um 0), .inl (cyI, 2490, .inl (yz 0 0)))]) [0, 1] (by decide) rfl
  refine yy_calli [0, 1] [] (wr := []) (va_runV (As := [.int (xs 1)]) (rest := [.int (sp_bridge (xs 1))]) ⟨hx, hb, hml, hown, hts⟩ (r_bridge l dC dI cyI cyZ cyO H.size q1 (um 0) (um 1) (um 2) (um 3) (um 4) (um 5) (um 6) (um 7) (um 8) (um 9) (um 10) (um 11) (um 12) (um 13) (um 14) (um 15) (xs 1) ) (cwV 1 hts gL_law_X11_bridge_ rfl rfl rfl (by decide +kernel) ⟨Nat.le_of_ble_eq_true rfl, Nat.le_of_ble_eq_true rfl⟩) (yPreV hK hPc hDc (ci := 11) (q0 := 0) rfl rfl) rfl rfl hl.1 rfl (lv_room (Nat.le_of_ble_eq_true rfl)) dL_law_712 ⟨Nat.le_of_ble_eq_true rfl, Nat.le_of_ble_eq_true rfl⟩) hP hD hS hA rfl rfl (by decide) (by decide) (fun r_4 u_3 H locs hw hP hD hS => ?_)
  have hP : va_P (dC, dI) vwCl [] H := hP
  have hD : va_D A [] := hD
  refine W.widen (k := 58) (n := 13281) (Nat.le_of_ble_eq_true rfl) (Nat.le_of_ble_eq_true rfl) ?_
  have hw : r_4 = (sp_bridge (xs 1)) := hw
  subst hw
  refine lv_icmp_eq (tgt := 838) hx hb dL_law_715 (by decide) (fun _ => ?_) (fun c => absurd (rfl) c)
  refine W.widen (k := 600000) (n := 7302250) (Nat.le_of_ble_eq_true rfl) (Nat.le_of_ble_eq_true rfl) ?_
  exact fin _ _ hS _ hl
set_option maxHeartbeats 4000000 in
set_option maxRecDepth 100000 in
/-- the law: a call of again on two fresh objects -/
theorem law_again {p : Program} {e : Env} {s : State} {m : MethodId} {below : List Frame} {meth : Method} {c : Code} (l : Launch) {b : Nat} {xs : Nat → Int32} (C0 : lw_At p s m meth c b 6 xs) {dC : Nat → ClassId} {dI : Nat → Nat → Nat} {cyI cyZ cyO : ClassId} {A : Nat → Prop} (hA : ∀ q : Nat, s.heap.size ≤ q → A q) (hbA : ¬ A b) (hN : yN s) (hK : va_K (dC, dI) vwCl (yT cyI cyZ cyO) s) (q0 q1 : Nat) (ux um : Nat → Nat) {H : Heap} {locs : List Loc} (hP : va_P (dC, dI) vwCl (yWX cyI cyZ cyO q0 ux ++ yWM cyI cyZ q1 um) H) (hD : va_D A (yWX cyI cyZ cyO q0 ux ++ yWM cyI cyZ q1 um)) (hS : va_S A s.heap H locs) {ls : Array Slot} (hl : lv_has ls 4 [(3, .int 0), (2, .ref q1), (1, .ref q0), (0, .ref b)]) (fin : ∀ (H : Heap) (locs : List Loc), va_S A s.heap H locs → ∀ ls : Array Slot, lv_has ls 4 [(3, .int 0), (2, .ref q1), (1, .ref q0), (0, .ref b)] → W p l e room_1 s m #[Value.ref b] below meth c H locs 600000 7302250 (lw_Z below #[Value.ref b] s) (F0 m 838 ls [])) : W p l e room_1 s m #[Value.ref b] below meth c H locs 58 13281 (lw_Z below #[Value.ref b] s) (F0 m 720 ls []) := by
  obtain ⟨hx, hb, hr, hml, hown0, hts0, hX, hbl, hlk, hgv⟩ := C0
  have hown : s.vm.findClass RL = some m.cls := hown0
  have hts : ∀ w ∈ wsL_law, w.before #[Value.ref b] s = true := fun w h => hts0 w (wsL_law_in w h)
  refine lv_aload_n hx hb dL_law_720 rfl (lv_at hl 2 rfl) ?_
  have hPc := hP.sub (ws' := [(q0, .inr (10, [.ref (ux 26), .ref (ux 0), .ref (ux 35), .ref (ux 36), .ref (ux 37), .int 0])), ((ux 0), .inr (3, [.ref (ux 1), .ref (ux 8), .ref (ux 11), .ref (ux 14), .ref (ux 20), .ref (ux 22), .int 0])), ((ux 14), .inr (0, [.ref (ux 17), .ref (ux 15), .ref (ux 16), .int 0, .int 0, .int 0, .int 0, .int 0, .int 0])), ((ux 17), .inr (2, [.ref (ux 18), .int 0, .int 0, .int 0, .int 0, .int 0, .int 0, .int 0, .int 0, .int 0, .int 0, .int 0, .int (-1), .int 0])), ((ux 18), .inr (8, [.ref (ux 19), .int 200, .int 8, .int 0])), ((ux 26), .inr (6, [.ref (ux 27), .ref (ux 28), .ref (ux 29), .ref (ux 30), .ref (ux 31), .ref (ux 32), .ref (ux 33), .ref (ux 34), .int 0, .int 0, .int 0, .int 32, .int 0])), ((ux 33), .inl (cyI, 48, .inl (fun _ => 0))), ((ux 37), .inr (1, [.ref (ux 38), .ref (ux 39), .int (-1)])), ((ux 38), .inl (cyI, 48, .inl (fun _ => 0))), ((ux 39), .inl (cyI, 48, .inl (fun _ => 0)))]) [0, 1, 15, 18, 19, 27, 34, 38, 39, 40] rfl
  have hDc := hD.sub (ws' := [(q0, .inr (10, [.ref (ux 26), .ref (ux 0), .ref (ux 35), .ref (ux 36), .ref (ux 37), .int 0])), ((ux 0), .inr (3, [.ref (ux 1), .ref (ux 8), .ref (ux 11), .ref (ux 14), .ref (ux 20), .ref (ux 22), .int 0])), ((ux 14), .inr (0, [.ref (ux 17), .ref (ux 15), .ref (ux 16), .int 0, .int 0, .int 0, .int 0, .int 0, .int 0])), ((ux 17), .inr (2, [.ref (ux 18), .int 0, .int 0, .int 0, .int 0, .int 0, .int 0, .int 0, .int 0, .int 0, .int 0, .int 0, .int (-1), .int 0])), ((ux 18), .inr (8, [.ref (ux 19), .int 200, .int 8, .int 0])), ((ux 26), .inr (6, [.ref (ux 27), .ref (ux 28), .ref (ux 29), .ref (ux 30), .ref (ux 31), .ref (ux 32), .ref (ux 33), .ref (ux 34), .int 0, .int 0, .int 0, .int 32, .int 0])), ((ux 33), .inl (cyI, 48, .inl (fun _ => 0))), ((ux 37), .inr (1, [.ref (ux 38), .ref (ux 39), .int (-1)])), ((ux 38), .inl (cyI, 48, .inl (fun _ => 0))), ((ux 39), .inl (cyI, 48, .inl (fun _ => 0)))]) [0, 1, 15, 18, 19, 27, 34, 38, 39, 40] (by decide) rfl
  refine yy_calli [0, 1, 15, 18, 19, 27, 34, 38, 39, 40] [41, 42] (wr := [(q1, .inr (11, [.ref (um 0), .int 0, .int 0, .ref (um 1), .ref (um 2), .ref (um 3), .ref (um 4), .int 0, .ref (um 5), .ref (um 6), .ref (um 7), .int 0, .int 32, .int 0, .ref (um 8), .ref (um 9), .int 0, .int 0, .ref (um 10), .ref (um 11), .ref (um 12), .ref (um 13), .ref (um 14), .ref (um 15)])), ((um 0), .inl (cyI, 2490, .inl (yz 0 0)))]) (va_runV (As := []) (rest := []) ⟨hx, hb, hml, hown, hts⟩ (x_again l dC dI cyI cyZ cyO H.size q0 (ux 0) (ux 1) (ux 8) (ux 11) (ux 14) (ux 15) (ux 16) (ux 17) (ux 18) (ux 19) (ux 20) (ux 22) (ux 26) (ux 27) (ux 28) (ux 29) (ux 30) (ux 31) (ux 32) (ux 33) (ux 34) (ux 35) (ux 36) (ux 37) (ux 38) (ux 39) ) (cwV 0 hts gL_law_X10_again rfl rfl rfl (by decide +kernel) ⟨Nat.le_of_ble_eq_true rfl, Nat.le_of_ble_eq_true rfl⟩) (yPreV hK hPc hDc (ci := 10) (q0 := 0) rfl rfl) rfl rfl hl.1 rfl (lv_room (Nat.le_of_ble_eq_true rfl)) dL_law_721 ⟨Nat.le_of_ble_eq_true rfl, Nat.le_of_ble_eq_true rfl⟩) hP hD hS hA rfl rfl (by decide) (by decide) (fun r_2 u_1 H locs hw hP hD hS => ?_)
  have hP : va_P (dC, dI) vwCl [(q1, .inr (11, [.ref (um 0), .int 0, .int 0, .ref (um 1), .ref (um 2), .ref (um 3), .ref (um 4), .int 0, .ref (um 5), .ref (um 6), .ref (um 7), .int 0, .int 32, .int 0, .ref (um 8), .ref (um 9), .int 0, .int 0, .ref (um 10), .ref (um 11), .ref (um 12), .ref (um 13), .ref (um 14), .ref (um 15)])), ((um 0), .inl (cyI, 2490, .inl (yz 0 0)))] H := hP
  have hD : va_D A [(q1, .inr (11, [.ref (um 0), .int 0, .int 0, .ref (um 1), .ref (um 2), .ref (um 3), .ref (um 4), .int 0, .ref (um 5), .ref (um 6), .ref (um 7), .int 0, .int 32, .int 0, .ref (um 8), .ref (um 9), .int 0, .int 0, .ref (um 10), .ref (um 11), .ref (um 12), .ref (um 13), .ref (um 14), .ref (um 15)])), ((um 0), .inl (cyI, 2490, .inl (yz 0 0)))] := hD
  refine W.widen (k := 58) (n := 13281) (Nat.le_of_ble_eq_true rfl) (Nat.le_of_ble_eq_true rfl) ?_
  have hw : r_2 = (-6) := hw
  subst hw
  refine lv_aload_n hx hb dL_law_724 rfl (lv_at hl 1 rfl) ?_
  have hPc := hP.sub (ws' := [(q1, .inr (11, [.ref (um 0), .int 0, .int 0, .ref (um 1), .ref (um 2), .ref (um 3), .ref (um 4), .int 0, .ref (um 5), .ref (um 6), .ref (um 7), .int 0, .int 32, .int 0, .ref (um 8), .ref (um 9), .int 0, .int 0, .ref (um 10), .ref (um 11), .ref (um 12), .ref (um 13), .ref (um 14), .ref (um 15)])), ((um 0), .inl (cyI, 2490, .inl (yz 0 0)))]) [0, 1] rfl
  have hDc := hD.sub (ws' := [(q1, .inr (11, [.ref (um 0), .int 0, .int 0, .ref (um 1), .ref (um 2), .ref (um 3), .ref (um 4), .int 0, .ref (um 5), .ref (um 6), .ref (um 7), .int 0, .int 32, .int 0, .ref (um 8), .ref (um 9), .int 0, .int 0, .ref (um 10), .ref (um 11), .ref (um 12), .ref (um 13), .ref (um 14), .ref (um 15)])), ((um 0), .inl (cyI, 2490, .inl (yz 0 0)))]) [0, 1] (by decide) rfl
  refine yy_calli [0, 1] [] (wr := []) (va_runV (As := []) (rest := [.int (-6)]) ⟨hx, hb, hml, hown, hts⟩ (r_again l dC dI cyI cyZ cyO H.size q1 (um 0) (um 1) (um 2) (um 3) (um 4) (um 5) (um 6) (um 7) (um 8) (um 9) (um 10) (um 11) (um 12) (um 13) (um 14) (um 15) ) (cwV 0 hts gL_law_X11_again rfl rfl rfl (by decide +kernel) ⟨Nat.le_of_ble_eq_true rfl, Nat.le_of_ble_eq_true rfl⟩) (yPreV hK hPc hDc (ci := 11) (q0 := 0) rfl rfl) rfl rfl hl.1 rfl (lv_room (Nat.le_of_ble_eq_true rfl)) dL_law_725 ⟨Nat.le_of_ble_eq_true rfl, Nat.le_of_ble_eq_true rfl⟩) hP hD hS hA rfl rfl (by decide) (by decide) (fun r_4 u_3 H locs hw hP hD hS => ?_)
  have hP : va_P (dC, dI) vwCl [] H := hP
  have hD : va_D A [] := hD
  refine W.widen (k := 58) (n := 13281) (Nat.le_of_ble_eq_true rfl) (Nat.le_of_ble_eq_true rfl) ?_
  have hw : r_4 = (-6) := hw
  subst hw
  refine lv_icmp_eq (tgt := 838) hx hb dL_law_728 (by decide) (fun _ => ?_) (fun c => absurd (by decide) c)
  refine W.widen (k := 600000) (n := 7302250) (Nat.le_of_ble_eq_true rfl) (Nat.le_of_ble_eq_true rfl) ?_
  exact fin _ _ hS _ hl
set_option maxHeartbeats 4000000 in
set_option maxRecDepth 100000 in
/-- the law: a call of keep on two fresh objects -/
theorem law_keep {p : Program} {e : Env} {s : State} {m : MethodId} {below : List Frame} {meth : Method} {c : Code} (l : Launch) {b : Nat} {xs : Nat → Int32} (C0 : lw_At p s m meth c b 6 xs) {dC : Nat → ClassId} {dI : Nat → Nat → Nat} {cyI cyZ cyO : ClassId} {A : Nat → Prop} (hA : ∀ q : Nat, s.heap.size ≤ q → A q) (hbA : ¬ A b) (hN : yN s) (hK : va_K (dC, dI) vwCl (yT cyI cyZ cyO) s) (q0 q1 : Nat) (ux um : Nat → Nat) {H : Heap} {locs : List Loc} (hP : va_P (dC, dI) vwCl (yWX cyI cyZ cyO q0 ux ++ yWM cyI cyZ q1 um) H) (hD : va_D A (yWX cyI cyZ cyO q0 ux ++ yWM cyI cyZ q1 um)) (hS : va_S A s.heap H locs) {ls : Array Slot} (hl : lv_has ls 4 [(3, .int 0), (2, .ref q1), (1, .ref q0), (0, .ref b)]) (fin : ∀ (H : Heap) (locs : List Loc), va_S A s.heap H locs → ∀ ls : Array Slot, lv_has ls 4 [(3, .int 0), (2, .ref q1), (1, .ref q0), (0, .ref b)] → W p l e room_1 s m #[Value.ref b] below meth c H locs 600000 7302250 (lw_Z below #[Value.ref b] s) (F0 m 838 ls [])) : W p l e room_1 s m #[Value.ref b] below meth c H locs 58 13281 (lw_Z below #[Value.ref b] s) (F0 m 733 ls []) := by
  obtain ⟨hx, hb, hr, hml, hown0, hts0, hX, hbl, hlk, hgv⟩ := C0
  have hown : s.vm.findClass RL = some m.cls := hown0
  have hts : ∀ w ∈ wsL_law, w.before #[Value.ref b] s = true := fun w h => hts0 w (wsL_law_in w h)
  refine lv_aload_n hx hb dL_law_733 rfl (lv_at hl 2 rfl) ?_
  refine lv_aload_n hx hb dL_law_734 rfl (lv_at hl 3 rfl) ?_
  refine lv_iload_n hx hb dL_law_735 rfl (lv_at hl 0 rfl) ?_
  refine lv_iconst (v := 1) hx hb dL_law_736 (by decide) ?_
  refine lv_iadd hx hb dL_law_737 ?_
  refine yy_int (v := 1) (by decide) ?_
  refine va_sld hx hb hX hbl hbA hS (yin (by decide)) dL_law_738 ?_
  refine yy_int (v := (xs 1)) rfl ?_
  have hPc := hP.sub (ws' := [(q0, .inr (10, [.ref (ux 26), .ref (ux 0), .ref (ux 35), .ref (ux 36), .ref (ux 37), .int 0])), ((ux 0), .inr (3, [.ref (ux 1), .ref (ux 8), .ref (ux 11), .ref (ux 14), .ref (ux 20), .ref (ux 22), .int 0])), ((ux 1), .inr (9, [.ref (ux 2), .ref (ux 3), .ref (ux 4), .ref (ux 5), .ref (ux 6), .ref (ux 7)])), ((ux 2), .inl (cyI, 15, .inl yR)), ((ux 4), .inl (cyI, 15, .inl (fun _ => 0))), ((ux 5), .inl (cyI, 15, .inl (fun _ => 0))), ((ux 6), .inl (cyI, 15, .inl (fun _ => 0))), ((ux 7), .inl (cyI, 15, .inl (fun _ => 0))), ((ux 8), .inr (1, [.ref (ux 9), .ref (ux 10), .int (-1)])), ((ux 9), .inl (cyI, 48, .inl (fun _ => 0))), ((ux 10), .inl (cyI, 48, .inl (fun _ => 0))), ((ux 11), .inr (4, [.ref (ux 12), .int (-1), .int (-1), .int 0, .int 0, .int 0, .int 0])), ((ux 12), .inr (8, [.ref (ux 13), .int 60, .int 9, .int 0])), ((ux 13), .inl (cyI, 540, .inl (fun _ => 0))), ((ux 14), .inr (0, [.ref (ux 17), .ref (ux 15), .ref (ux 16), .int 0, .int 0, .int 0, .int 0, .int 0, .int 0])), ((ux 15), .inl (cyI, 4, .inl (fun _ => 0))), ((ux 16), .inl (cyI, 4, .inl (fun _ => 0))), ((ux 17), .inr (2, [.ref (ux 18), .int 0, .int 0, .int 0, .int 0, .int 0, .int 0, .int 0, .int 0, .int 0, .int 0, .int 0, .int (-1), .int 0])), ((ux 18), .inr (8, [.ref (ux 19), .int 200, .int 8, .int 0])), ((ux 19), .inl (cyI, 1600, .inl (fun _ => 0))), ((ux 20), .inr (7, [.ref (ux 21), .int 0, .int 0, .int 0])), ((ux 21), .inl (cyI, 8, .inl (fun _ => 0))), ((ux 22), .inr (5, [.ref (ux 23), .ref (ux 24), .int 0, .int 0, .int 0])), ((ux 23), .inl (cyI, 16, .inl (fun _ => 0))), ((ux 24), .inr (8, [.ref (ux 25), .int 60, .int 2, .int 0])), ((ux 25), .inl (cyI, 120, .inl (fun _ => 0))), ((ux 26), .inr (6, [.ref (ux 27), .ref (ux 28), .ref (ux 29), .ref (ux 30), .ref (ux 31), .ref (ux 32), .ref (ux 33), .ref (ux 34), .int 0, .int 0, .int 0, .int 32, .int 0])), ((ux 35), .inl (cyO, 3, .inr (.inr (.inr (.inr (fun _ => none)))))), ((ux 36), .inl (cyI, 3, .inl (fun _ => 0)))]) [0, 1, 2, 3, 5, 6, 7, 8, 9, 10, 11, 12, 13, 14, 15, 16, 17, 18, 19, 20, 21, 22, 23, 24, 25, 26, 27, 36, 37] rfl
  have hDc := hD.sub (ws' := [(q0, .inr (10, [.ref (ux 26), .ref (ux 0), .ref (ux 35), .ref (ux 36), .ref (ux 37), .int 0])), ((ux 0), .inr (3, [.ref (ux 1), .ref (ux 8), .ref (ux 11), .ref (ux 14), .ref (ux 20), .ref (ux 22), .int 0])), ((ux 1), .inr (9, [.ref (ux 2), .ref (ux 3), .ref (ux 4), .ref (ux 5), .ref (ux 6), .ref (ux 7)])), ((ux 2), .inl (cyI, 15, .inl yR)), ((ux 4), .inl (cyI, 15, .inl (fun _ => 0))), ((ux 5), .inl (cyI, 15, .inl (fun _ => 0))), ((ux 6), .inl (cyI, 15, .inl (fun _ => 0))), ((ux 7), .inl (cyI, 15, .inl (fun _ => 0))), ((ux 8), .inr (1, [.ref (ux 9), .ref (ux 10), .int (-1)])), ((ux 9), .inl (cyI, 48, .inl (fun _ => 0))), ((ux 10), .inl (cyI, 48, .inl (fun _ => 0))), ((ux 11), .inr (4, [.ref (ux 12), .int (-1), .int (-1), .int 0, .int 0, .int 0, .int 0])), ((ux 12), .inr (8, [.ref (ux 13), .int 60, .int 9, .int 0])), ((ux 13), .inl (cyI, 540, .inl (fun _ => 0))), ((ux 14), .inr (0, [.ref (ux 17), .ref (ux 15), .ref (ux 16), .int 0, .int 0, .int 0, .int 0, .int 0, .int 0])), ((ux 15), .inl (cyI, 4, .inl (fun _ => 0))), ((ux 16), .inl (cyI, 4, .inl (fun _ => 0))), ((ux 17), .inr (2, [.ref (ux 18), .int 0, .int 0, .int 0, .int 0, .int 0, .int 0, .int 0, .int 0, .int 0, .int 0, .int 0, .int (-1), .int 0])), ((ux 18), .inr (8, [.ref (ux 19), .int 200, .int 8, .int 0])), ((ux 19), .inl (cyI, 1600, .inl (fun _ => 0))), ((ux 20), .inr (7, [.ref (ux 21), .int 0, .int 0, .int 0])), ((ux 21), .inl (cyI, 8, .inl (fun _ => 0))), ((ux 22), .inr (5, [.ref (ux 23), .ref (ux 24), .int 0, .int 0, .int 0])), ((ux 23), .inl (cyI, 16, .inl (fun _ => 0))), ((ux 24), .inr (8, [.ref (ux 25), .int 60, .int 2, .int 0])), ((ux 25), .inl (cyI, 120, .inl (fun _ => 0))), ((ux 26), .inr (6, [.ref (ux 27), .ref (ux 28), .ref (ux 29), .ref (ux 30), .ref (ux 31), .ref (ux 32), .ref (ux 33), .ref (ux 34), .int 0, .int 0, .int 0, .int 32, .int 0])), ((ux 35), .inl (cyO, 3, .inr (.inr (.inr (.inr (fun _ => none)))))), ((ux 36), .inl (cyI, 3, .inl (fun _ => 0)))]) [0, 1, 2, 3, 5, 6, 7, 8, 9, 10, 11, 12, 13, 14, 15, 16, 17, 18, 19, 20, 21, 22, 23, 24, 25, 26, 27, 36, 37] (by decide) rfl
  refine yy_calli [0, 1, 2, 3, 5, 6, 7, 8, 9, 10, 11, 12, 13, 14, 15, 16, 17, 18, 19, 20, 21, 22, 23, 24, 25, 26, 27, 36, 37] [41, 42, 55, 56, 57] (wr := [(q1, .inr (11, [.ref (um 0), .int 0, .int 0, .ref (um 1), .ref (um 2), .ref (um 3), .ref (um 4), .int 0, .ref (um 5), .ref (um 6), .ref (um 7), .int 0, .int 32, .int 0, .ref (um 8), .ref (um 9), .int 0, .int 0, .ref (um 10), .ref (um 11), .ref (um 12), .ref (um 13), .ref (um 14), .ref (um 15)])), ((um 0), .inl (cyI, 2490, .inl (yz 0 0))), ((um 13), .inl (cyI, 7470, .inl (fun _ => 0))), ((um 14), .inl (cyI, 3, .inl (fun _ => 0))), ((um 15), .inl (cyZ, 3, .inl (fun _ => 0)))]) (va_runV (As := [.int (xs 1)]) (rest := []) ⟨hx, hb, hml, hown, hts⟩ (x_keep l dC dI cyI cyZ cyO H.size q0 (ux 0) (ux 1) (ux 2) (ux 3) (ux 4) (ux 5) (ux 6) (ux 7) (ux 8) (ux 9) (ux 10) (ux 11) (ux 12) (ux 13) (ux 14) (ux 15) (ux 16) (ux 17) (ux 18) (ux 19) (ux 20) (ux 21) (ux 22) (ux 23) (ux 24) (ux 25) (ux 26) (ux 27) (ux 28) (ux 29) (ux 30) (ux 31) (ux 32) (ux 33) (ux 34) (ux 35) (ux 36) (ux 37) (xs 1) ) (cwV 1 hts gL_law_X10_keep rfl rfl rfl (by decide +kernel) ⟨Nat.le_of_ble_eq_true rfl, Nat.le_of_ble_eq_true rfl⟩) (yPreVN hK hPc hDc hN (ci := 10) (q0 := 0) rfl rfl) rfl rfl hl.1 rfl (lv_room (Nat.le_of_ble_eq_true rfl)) dL_law_739 ⟨Nat.le_of_ble_eq_true rfl, Nat.le_of_ble_eq_true rfl⟩) hP hD hS hA rfl rfl (by decide) (by decide) (fun r_2 u_1 H locs hw hP hD hS => ?_)
  have hP : va_P (dC, dI) vwCl [(q1, .inr (11, [.ref (um 0), .int 0, .int 0, .ref (um 1), .ref (um 2), .ref (um 3), .ref (um 4), .int 0, .ref (um 5), .ref (um 6), .ref (um 7), .int 0, .int 32, .int 0, .ref (um 8), .ref (um 9), .int 0, .int 0, .ref (um 10), .ref (um 11), .ref (um 12), .ref (um 13), .ref (um 14), .ref (um 15)])), ((um 0), .inl (cyI, 2490, .inl (yz 0 0))), ((um 13), .inl (cyI, 7470, .inl (fun _ => 0))), ((um 14), .inl (cyI, 3, .inl (fun _ => 0))), ((um 15), .inl (cyZ, 3, .inl (fun _ => 0)))] H := hP
  have hD : va_D A [(q1, .inr (11, [.ref (um 0), .int 0, .int 0, .ref (um 1), .ref (um 2), .ref (um 3), .ref (um 4), .int 0, .ref (um 5), .ref (um 6), .ref (um 7), .int 0, .int 32, .int 0, .ref (um 8), .ref (um 9), .int 0, .int 0, .ref (um 10), .ref (um 11), .ref (um 12), .ref (um 13), .ref (um 14), .ref (um 15)])), ((um 0), .inl (cyI, 2490, .inl (yz 0 0))), ((um 13), .inl (cyI, 7470, .inl (fun _ => 0))), ((um 14), .inl (cyI, 3, .inl (fun _ => 0))), ((um 15), .inl (cyZ, 3, .inl (fun _ => 0)))] := hD
  refine W.widen (k := 84) (n := 15826) (Nat.le_of_ble_eq_true rfl) (Nat.le_of_ble_eq_true rfl) ?_
  have hw : r_2 = (sp_keep (xs 1)) := hw
  subst hw
  refine lv_aload_n hx hb dL_law_742 rfl (lv_at hl 1 rfl) ?_
  refine lv_aload_n hx hb dL_law_743 rfl (lv_at hl 3 rfl) ?_
  refine lv_iload_n hx hb dL_law_744 rfl (lv_at hl 0 rfl) ?_
  refine lv_iconst (v := 1) hx hb dL_law_745 (by decide) ?_
  refine lv_iadd hx hb dL_law_746 ?_
  refine yy_int (v := 1) (by decide) ?_
  refine va_sld hx hb hX hbl hbA hS (yin (by decide)) dL_law_747 ?_
  refine yy_int (v := (xs 1)) rfl ?_
  have hPc := hP.sub (ws' := [(q1, .inr (11, [.ref (um 0), .int 0, .int 0, .ref (um 1), .ref (um 2), .ref (um 3), .ref (um 4), .int 0, .ref (um 5), .ref (um 6), .ref (um 7), .int 0, .int 32, .int 0, .ref (um 8), .ref (um 9), .int 0, .int 0, .ref (um 10), .ref (um 11), .ref (um 12), .ref (um 13), .ref (um 14), .ref (um 15)])), ((um 0), .inl (cyI, 2490, .inl (yz 0 0))), ((um 13), .inl (cyI, 7470, .inl (fun _ => 0))), ((um 14), .inl (cyI, 3, .inl (fun _ => 0))), ((um 15), .inl (cyZ, 3, .inl (fun _ => 0)))]) [0, 1, 2, 3, 4] rfl
  have hDc := hD.sub (ws' := [(q1, .inr (11, [.ref (um 0), .int 0, .int 0, .ref (um 1), .ref (um 2), .ref (um 3), .ref (um 4), .int 0, .ref (um 5), .ref (um 6), .ref (um 7), .int 0, .int 32, .int 0, .ref (um 8), .ref (um 9), .int 0, .int 0, .ref (um 10), .ref (um 11), .ref (um 12), .ref (um 13), .ref (um 14), .ref (um 15)])), ((um 0), .inl (cyI, 2490, .inl (yz 0 0))), ((um 13), .inl (cyI, 7470, .inl (fun _ => 0))), ((um 14), .inl (cyI, 3, .inl (fun _ => 0))), ((um 15), .inl (cyZ, 3, .inl (fun _ => 0)))]) [0, 1, 2, 3, 4] (by decide) rfl
  refine yy_calli [0, 1, 2, 3, 4] [] (wr := []) (va_runV (As := [.int (xs 1)]) (rest := [.int (sp_keep (xs 1))]) ⟨hx, hb, hml, hown, hts⟩ (r_keep l dC dI cyI cyZ cyO H.size q1 (um 0) (um 1) (um 2) (um 3) (um 4) (um 5) (um 6) (um 7) (um 8) (um 9) (um 10) (um 11) (um 12) (um 13) (um 14) (um 15) (xs 1) ) (cwV 1 hts gL_law_X11_keep rfl rfl rfl (by decide +kernel) ⟨Nat.le_of_ble_eq_true rfl, Nat.le_of_ble_eq_true rfl⟩) (yPreV hK hPc hDc (ci := 11) (q0 := 0) rfl rfl) rfl rfl hl.1 rfl (lv_room (Nat.le_of_ble_eq_true rfl)) dL_law_748 ⟨Nat.le_of_ble_eq_true rfl, Nat.le_of_ble_eq_true rfl⟩) hP hD hS hA rfl rfl (by decide) (by decide) (fun r_4 u_3 H locs hw hP hD hS => ?_)
  have hP : va_P (dC, dI) vwCl [] H := hP
  have hD : va_D A [] := hD
  refine W.widen (k := 84) (n := 15826) (Nat.le_of_ble_eq_true rfl) (Nat.le_of_ble_eq_true rfl) ?_
  have hw : r_4 = (sp_keep (xs 1)) := hw
  subst hw
  refine lv_icmp_eq (tgt := 838) hx hb dL_law_751 (by decide) (fun _ => ?_) (fun c => absurd (rfl) c)
  refine W.widen (k := 600000) (n := 7302250) (Nat.le_of_ble_eq_true rfl) (Nat.le_of_ble_eq_true rfl) ?_
  exact fin _ _ hS _ hl
set_option maxHeartbeats 4000000 in
set_option maxRecDepth 100000 in
/-- the law: a call of back on two fresh objects -/
theorem law_back {p : Program} {e : Env} {s : State} {m : MethodId} {below : List Frame} {meth : Method} {c : Code} (l : Launch) {b : Nat} {xs : Nat → Int32} (C0 : lw_At p s m meth c b 6 xs) {dC : Nat → ClassId} {dI : Nat → Nat → Nat} {cyI cyZ cyO : ClassId} {A : Nat → Prop} (hA : ∀ q : Nat, s.heap.size ≤ q → A q) (hbA : ¬ A b) (hN : yN s) (hK : va_K (dC, dI) vwCl (yT cyI cyZ cyO) s) (q0 q1 : Nat) (ux um : Nat → Nat) {H : Heap} {locs : List Loc} (hP : va_P (dC, dI) vwCl (yWX cyI cyZ cyO q0 ux ++ yWM cyI cyZ q1 um) H) (hD : va_D A (yWX cyI cyZ cyO q0 ux ++ yWM cyI cyZ q1 um)) (hS : va_S A s.heap H locs) {ls : Array Slot} (hl : lv_has ls 4 [(3, .int 0), (2, .ref q1), (1, .ref q0), (0, .ref b)]) (fin : ∀ (H : Heap) (locs : List Loc), va_S A s.heap H locs → ∀ ls : Array Slot, lv_has ls 4 [(3, .int 0), (2, .ref q1), (1, .ref q0), (0, .ref b)] → W p l e room_1 s m #[Value.ref b] below meth c H locs 600000 7302250 (lw_Z below #[Value.ref b] s) (F0 m 838 ls [])) : W p l e room_1 s m #[Value.ref b] below meth c H locs 58 13281 (lw_Z below #[Value.ref b] s) (F0 m 756 ls []) := by
  obtain ⟨hx, hb, hr, hml, hown0, hts0, hX, hbl, hlk, hgv⟩ := C0
  have hown : s.vm.findClass RL = some m.cls := hown0
  have hts : ∀ w ∈ wsL_law, w.before #[Value.ref b] s = true := fun w h => hts0 w (wsL_law_in w h)
  refine lv_aload_n hx hb dL_law_756 rfl (lv_at hl 2 rfl) ?_
  refine lv_aload_n hx hb dL_law_757 rfl (lv_at hl 3 rfl) ?_
  refine lv_iload_n hx hb dL_law_758 rfl (lv_at hl 0 rfl) ?_
  refine lv_iconst (v := 1) hx hb dL_law_759 (by decide) ?_
  refine lv_iadd hx hb dL_law_760 ?_
  refine yy_int (v := 1) (by decide) ?_
  refine va_sld hx hb hX hbl hbA hS (yin (by decide)) dL_law_761 ?_
  refine yy_int (v := (xs 1)) rfl ?_
  have hPc := hP.sub (ws' := [(q0, .inr (10, [.ref (ux 26), .ref (ux 0), .ref (ux 35), .ref (ux 36), .ref (ux 37), .int 0])), ((ux 35), .inl (cyO, 3, .inr (.inr (.inr (.inr (fun _ => none))))))]) [0, 36] rfl
  have hDc := hD.sub (ws' := [(q0, .inr (10, [.ref (ux 26), .ref (ux 0), .ref (ux 35), .ref (ux 36), .ref (ux 37), .int 0])), ((ux 35), .inl (cyO, 3, .inr (.inr (.inr (.inr (fun _ => none))))))]) [0, 36] (by decide) rfl
  refine yy_calli [0, 36] [41, 57] (wr := [(q1, .inr (11, [.ref (um 0), .int 0, .int 0, .ref (um 1), .ref (um 2), .ref (um 3), .ref (um 4), .int 0, .ref (um 5), .ref (um 6), .ref (um 7), .int 0, .int 32, .int 0, .ref (um 8), .ref (um 9), .int 0, .int 0, .ref (um 10), .ref (um 11), .ref (um 12), .ref (um 13), .ref (um 14), .ref (um 15)])), ((um 15), .inl (cyZ, 3, .inl (fun _ => 0)))]) (va_runV (As := [.int (xs 1)]) (rest := []) ⟨hx, hb, hml, hown, hts⟩ (x_back l dC dI cyI cyZ cyO H.size q0 (ux 0) (ux 26) (ux 35) (ux 36) (ux 37) (xs 1) ) (cwV 1 hts gL_law_X10_back rfl rfl rfl (by decide +kernel) ⟨Nat.le_of_ble_eq_true rfl, Nat.le_of_ble_eq_true rfl⟩) (yPreV hK hPc hDc (ci := 10) (q0 := 0) rfl rfl) rfl rfl hl.1 rfl (lv_room (Nat.le_of_ble_eq_true rfl)) dL_law_762 ⟨Nat.le_of_ble_eq_true rfl, Nat.le_of_ble_eq_true rfl⟩) hP hD hS hA rfl rfl (by decide) (by decide) (fun r_2 u_1 H locs hw hP hD hS => ?_)
  have hP : va_P (dC, dI) vwCl [(q1, .inr (11, [.ref (um 0), .int 0, .int 0, .ref (um 1), .ref (um 2), .ref (um 3), .ref (um 4), .int 0, .ref (um 5), .ref (um 6), .ref (um 7), .int 0, .int 32, .int 0, .ref (um 8), .ref (um 9), .int 0, .int 0, .ref (um 10), .ref (um 11), .ref (um 12), .ref (um 13), .ref (um 14), .ref (um 15)])), ((um 15), .inl (cyZ, 3, .inl (fun _ => 0)))] H := hP
  have hD : va_D A [(q1, .inr (11, [.ref (um 0), .int 0, .int 0, .ref (um 1), .ref (um 2), .ref (um 3), .ref (um 4), .int 0, .ref (um 5), .ref (um 6), .ref (um 7), .int 0, .int 32, .int 0, .ref (um 8), .ref (um 9), .int 0, .int 0, .ref (um 10), .ref (um 11), .ref (um 12), .ref (um 13), .ref (um 14), .ref (um 15)])), ((um 15), .inl (cyZ, 3, .inl (fun _ => 0)))] := hD
  refine W.widen (k := 58) (n := 13281) (Nat.le_of_ble_eq_true rfl) (Nat.le_of_ble_eq_true rfl) ?_
  have hw : r_2 = (-1) := hw
  subst hw
  refine lv_aload_n hx hb dL_law_765 rfl (lv_at hl 1 rfl) ?_
  refine lv_aload_n hx hb dL_law_766 rfl (lv_at hl 3 rfl) ?_
  refine lv_iload_n hx hb dL_law_767 rfl (lv_at hl 0 rfl) ?_
  refine lv_iconst (v := 1) hx hb dL_law_768 (by decide) ?_
  refine lv_iadd hx hb dL_law_769 ?_
  refine yy_int (v := 1) (by decide) ?_
  refine va_sld hx hb hX hbl hbA hS (yin (by decide)) dL_law_770 ?_
  refine yy_int (v := (xs 1)) rfl ?_
  have hPc := hP.sub (ws' := [(q1, .inr (11, [.ref (um 0), .int 0, .int 0, .ref (um 1), .ref (um 2), .ref (um 3), .ref (um 4), .int 0, .ref (um 5), .ref (um 6), .ref (um 7), .int 0, .int 32, .int 0, .ref (um 8), .ref (um 9), .int 0, .int 0, .ref (um 10), .ref (um 11), .ref (um 12), .ref (um 13), .ref (um 14), .ref (um 15)])), ((um 15), .inl (cyZ, 3, .inl (fun _ => 0)))]) [0, 1] rfl
  have hDc := hD.sub (ws' := [(q1, .inr (11, [.ref (um 0), .int 0, .int 0, .ref (um 1), .ref (um 2), .ref (um 3), .ref (um 4), .int 0, .ref (um 5), .ref (um 6), .ref (um 7), .int 0, .int 32, .int 0, .ref (um 8), .ref (um 9), .int 0, .int 0, .ref (um 10), .ref (um 11), .ref (um 12), .ref (um 13), .ref (um 14), .ref (um 15)])), ((um 15), .inl (cyZ, 3, .inl (fun _ => 0)))]) [0, 1] (by decide) rfl
  refine yy_calli [0, 1] [] (wr := []) (va_runV (As := [.int (xs 1)]) (rest := [.int (-1)]) ⟨hx, hb, hml, hown, hts⟩ (r_back l dC dI cyI cyZ cyO H.size q1 (um 0) (um 1) (um 2) (um 3) (um 4) (um 5) (um 6) (um 7) (um 8) (um 9) (um 10) (um 11) (um 12) (um 13) (um 14) (um 15) (xs 1) ) (cwV 1 hts gL_law_X11_back rfl rfl rfl (by decide +kernel) ⟨Nat.le_of_ble_eq_true rfl, Nat.le_of_ble_eq_true rfl⟩) (yPreV hK hPc hDc (ci := 11) (q0 := 0) rfl rfl) rfl rfl hl.1 rfl (lv_room (Nat.le_of_ble_eq_true rfl)) dL_law_771 ⟨Nat.le_of_ble_eq_true rfl, Nat.le_of_ble_eq_true rfl⟩) hP hD hS hA rfl rfl (by decide) (by decide) (fun r_4 u_3 H locs hw hP hD hS => ?_)
  have hP : va_P (dC, dI) vwCl [] H := hP
  have hD : va_D A [] := hD
  refine W.widen (k := 58) (n := 13281) (Nat.le_of_ble_eq_true rfl) (Nat.le_of_ble_eq_true rfl) ?_
  have hw : r_4 = (-1) := hw
  subst hw
  refine lv_icmp_eq (tgt := 838) hx hb dL_law_774 (by decide) (fun _ => ?_) (fun c => absurd (by decide) c)
  refine W.widen (k := 600000) (n := 7302250) (Nat.le_of_ble_eq_true rfl) (Nat.le_of_ble_eq_true rfl) ?_
  exact fin _ _ hS _ hl
set_option maxHeartbeats 4000000 in
set_option maxRecDepth 100000 in
/-- the law: a call of differs on two fresh objects -/
theorem law_differs {p : Program} {e : Env} {s : State} {m : MethodId} {below : List Frame} {meth : Method} {c : Code} (l : Launch) {b : Nat} {xs : Nat → Int32} (C0 : lw_At p s m meth c b 6 xs) {dC : Nat → ClassId} {dI : Nat → Nat → Nat} {cyI cyZ cyO : ClassId} {A : Nat → Prop} (hA : ∀ q : Nat, s.heap.size ≤ q → A q) (hbA : ¬ A b) (hN : yN s) (hK : va_K (dC, dI) vwCl (yT cyI cyZ cyO) s) (q0 q1 : Nat) (ux um : Nat → Nat) {H : Heap} {locs : List Loc} (hP : va_P (dC, dI) vwCl (yWX cyI cyZ cyO q0 ux ++ yWM cyI cyZ q1 um) H) (hD : va_D A (yWX cyI cyZ cyO q0 ux ++ yWM cyI cyZ q1 um)) (hS : va_S A s.heap H locs) {ls : Array Slot} (hl : lv_has ls 4 [(3, .int 0), (2, .ref q1), (1, .ref q0), (0, .ref b)]) (fin : ∀ (H : Heap) (locs : List Loc), va_S A s.heap H locs → ∀ ls : Array Slot, lv_has ls 4 [(3, .int 0), (2, .ref q1), (1, .ref q0), (0, .ref b)] → W p l e room_1 s m #[Value.ref b] below meth c H locs 600000 7302250 (lw_Z below #[Value.ref b] s) (F0 m 838 ls [])) : W p l e room_1 s m #[Value.ref b] below meth c H locs 58 13281 (lw_Z below #[Value.ref b] s) (F0 m 779 ls []) := by
  obtain ⟨hx, hb, hr, hml, hown0, hts0, hX, hbl, hlk, hgv⟩ := C0
  have hown : s.vm.findClass RL = some m.cls := hown0
  have hts : ∀ w ∈ wsL_law, w.before #[Value.ref b] s = true := fun w h => hts0 w (wsL_law_in w h)
  refine lv_aload_n hx hb dL_law_779 rfl (lv_at hl 2 rfl) ?_
  refine lv_aload_n hx hb dL_law_780 rfl (lv_at hl 3 rfl) ?_
  refine lv_iload_n hx hb dL_law_781 rfl (lv_at hl 0 rfl) ?_
  refine lv_iconst (v := 1) hx hb dL_law_782 (by decide) ?_
  refine lv_iadd hx hb dL_law_783 ?_
  refine yy_int (v := 1) (by decide) ?_
  refine va_sld hx hb hX hbl hbA hS (yin (by decide)) dL_law_784 ?_
  refine yy_int (v := (xs 1)) rfl ?_
  have hPc := hP.sub (ws' := [(q0, .inr (10, [.ref (ux 26), .ref (ux 0), .ref (ux 35), .ref (ux 36), .ref (ux 37), .int 0])), ((ux 35), .inl (cyO, 3, .inr (.inr (.inr (.inr (fun _ => none))))))]) [0, 36] rfl
  have hDc := hD.sub (ws' := [(q0, .inr (10, [.ref (ux 26), .ref (ux 0), .ref (ux 35), .ref (ux 36), .ref (ux 37), .int 0])), ((ux 35), .inl (cyO, 3, .inr (.inr (.inr (.inr (fun _ => none))))))]) [0, 36] (by decide) rfl
  refine yy_calli [0, 36] [41, 57] (wr := [(q1, .inr (11, [.ref (um 0), .int 0, .int 0, .ref (um 1), .ref (um 2), .ref (um 3), .ref (um 4), .int 0, .ref (um 5), .ref (um 6), .ref (um 7), .int 0, .int 32, .int 0, .ref (um 8), .ref (um 9), .int 0, .int 0, .ref (um 10), .ref (um 11), .ref (um 12), .ref (um 13), .ref (um 14), .ref (um 15)])), ((um 15), .inl (cyZ, 3, .inl (fun _ => 0)))]) (va_runV (As := [.int (xs 1)]) (rest := []) ⟨hx, hb, hml, hown, hts⟩ (x_differs l dC dI cyI cyZ cyO H.size q0 (ux 0) (ux 26) (ux 35) (ux 36) (ux 37) (xs 1) ) (cwV 1 hts gL_law_X10_differs rfl rfl rfl (by decide +kernel) ⟨Nat.le_of_ble_eq_true rfl, Nat.le_of_ble_eq_true rfl⟩) (yPreV hK hPc hDc (ci := 10) (q0 := 0) rfl rfl) rfl rfl hl.1 rfl (lv_room (Nat.le_of_ble_eq_true rfl)) dL_law_785 ⟨Nat.le_of_ble_eq_true rfl, Nat.le_of_ble_eq_true rfl⟩) hP hD hS hA rfl rfl (by decide) (by decide) (fun r_2 u_1 H locs hw hP hD hS => ?_)
  have hP : va_P (dC, dI) vwCl [(q1, .inr (11, [.ref (um 0), .int 0, .int 0, .ref (um 1), .ref (um 2), .ref (um 3), .ref (um 4), .int 0, .ref (um 5), .ref (um 6), .ref (um 7), .int 0, .int 32, .int 0, .ref (um 8), .ref (um 9), .int 0, .int 0, .ref (um 10), .ref (um 11), .ref (um 12), .ref (um 13), .ref (um 14), .ref (um 15)])), ((um 15), .inl (cyZ, 3, .inl (fun _ => 0)))] H := hP
  have hD : va_D A [(q1, .inr (11, [.ref (um 0), .int 0, .int 0, .ref (um 1), .ref (um 2), .ref (um 3), .ref (um 4), .int 0, .ref (um 5), .ref (um 6), .ref (um 7), .int 0, .int 32, .int 0, .ref (um 8), .ref (um 9), .int 0, .int 0, .ref (um 10), .ref (um 11), .ref (um 12), .ref (um 13), .ref (um 14), .ref (um 15)])), ((um 15), .inl (cyZ, 3, .inl (fun _ => 0)))] := hD
  refine W.widen (k := 58) (n := 13281) (Nat.le_of_ble_eq_true rfl) (Nat.le_of_ble_eq_true rfl) ?_
  have hw : r_2 = (-1) := hw
  subst hw
  refine lv_aload_n hx hb dL_law_788 rfl (lv_at hl 1 rfl) ?_
  refine lv_aload_n hx hb dL_law_789 rfl (lv_at hl 3 rfl) ?_
  refine lv_iload_n hx hb dL_law_790 rfl (lv_at hl 0 rfl) ?_
  refine lv_iconst (v := 1) hx hb dL_law_791 (by decide) ?_
  refine lv_iadd hx hb dL_law_792 ?_
  refine yy_int (v := 1) (by decide) ?_
  refine va_sld hx hb hX hbl hbA hS (yin (by decide)) dL_law_793 ?_
  refine yy_int (v := (xs 1)) rfl ?_
  have hPc := hP.sub (ws' := [(q1, .inr (11, [.ref (um 0), .int 0, .int 0, .ref (um 1), .ref (um 2), .ref (um 3), .ref (um 4), .int 0, .ref (um 5), .ref (um 6), .ref (um 7), .int 0, .int 32, .int 0, .ref (um 8), .ref (um 9), .int 0, .int 0, .ref (um 10), .ref (um 11), .ref (um 12), .ref (um 13), .ref (um 14), .ref (um 15)])), ((um 15), .inl (cyZ, 3, .inl (fun _ => 0)))]) [0, 1] rfl
  have hDc := hD.sub (ws' := [(q1, .inr (11, [.ref (um 0), .int 0, .int 0, .ref (um 1), .ref (um 2), .ref (um 3), .ref (um 4), .int 0, .ref (um 5), .ref (um 6), .ref (um 7), .int 0, .int 32, .int 0, .ref (um 8), .ref (um 9), .int 0, .int 0, .ref (um 10), .ref (um 11), .ref (um 12), .ref (um 13), .ref (um 14), .ref (um 15)])), ((um 15), .inl (cyZ, 3, .inl (fun _ => 0)))]) [0, 1] (by decide) rfl
  refine yy_calli [0, 1] [] (wr := []) (va_runV (As := [.int (xs 1)]) (rest := [.int (-1)]) ⟨hx, hb, hml, hown, hts⟩ (r_differs l dC dI cyI cyZ cyO H.size q1 (um 0) (um 1) (um 2) (um 3) (um 4) (um 5) (um 6) (um 7) (um 8) (um 9) (um 10) (um 11) (um 12) (um 13) (um 14) (um 15) (xs 1) ) (cwV 1 hts gL_law_X11_differs rfl rfl rfl (by decide +kernel) ⟨Nat.le_of_ble_eq_true rfl, Nat.le_of_ble_eq_true rfl⟩) (yPreV hK hPc hDc (ci := 11) (q0 := 0) rfl rfl) rfl rfl hl.1 rfl (lv_room (Nat.le_of_ble_eq_true rfl)) dL_law_794 ⟨Nat.le_of_ble_eq_true rfl, Nat.le_of_ble_eq_true rfl⟩) hP hD hS hA rfl rfl (by decide) (by decide) (fun r_4 u_3 H locs hw hP hD hS => ?_)
  have hP : va_P (dC, dI) vwCl [] H := hP
  have hD : va_D A [] := hD
  refine W.widen (k := 58) (n := 13281) (Nat.le_of_ble_eq_true rfl) (Nat.le_of_ble_eq_true rfl) ?_
  have hw : r_4 = (-1) := hw
  subst hw
  refine lv_icmp_eq (tgt := 838) hx hb dL_law_797 (by decide) (fun _ => ?_) (fun c => absurd (by decide) c)
  refine W.widen (k := 600000) (n := 7302250) (Nat.le_of_ble_eq_true rfl) (Nat.le_of_ble_eq_true rfl) ?_
  exact fin _ _ hS _ hl
set_option maxHeartbeats 4000000 in
set_option maxRecDepth 100000 in
/-- the law: a call of told on two fresh objects -/
theorem law_told {p : Program} {e : Env} {s : State} {m : MethodId} {below : List Frame} {meth : Method} {c : Code} (l : Launch) {b : Nat} {xs : Nat → Int32} (C0 : lw_At p s m meth c b 6 xs) {dC : Nat → ClassId} {dI : Nat → Nat → Nat} {cyI cyZ cyO : ClassId} {A : Nat → Prop} (hA : ∀ q : Nat, s.heap.size ≤ q → A q) (hbA : ¬ A b) (hN : yN s) (hK : va_K (dC, dI) vwCl (yT cyI cyZ cyO) s) (q0 q1 : Nat) (ux um : Nat → Nat) {H : Heap} {locs : List Loc} (hP : va_P (dC, dI) vwCl (yWX cyI cyZ cyO q0 ux ++ yWM cyI cyZ q1 um) H) (hD : va_D A (yWX cyI cyZ cyO q0 ux ++ yWM cyI cyZ q1 um)) (hS : va_S A s.heap H locs) {ls : Array Slot} (hl : lv_has ls 4 [(3, .int 0), (2, .ref q1), (1, .ref q0), (0, .ref b)]) (fin : ∀ (H : Heap) (locs : List Loc), va_S A s.heap H locs → ∀ ls : Array Slot, lv_has ls 4 [(3, .int 0), (2, .ref q1), (1, .ref q0), (0, .ref b)] → W p l e room_1 s m #[Value.ref b] below meth c H locs 600000 7302250 (lw_Z below #[Value.ref b] s) (F0 m 838 ls [])) : W p l e room_1 s m #[Value.ref b] below meth c H locs 58 13281 (lw_Z below #[Value.ref b] s) (F0 m 802 ls []) := by
  obtain ⟨hx, hb, hr, hml, hown0, hts0, hX, hbl, hlk, hgv⟩ := C0
  have hown : s.vm.findClass RL = some m.cls := hown0
  have hts : ∀ w ∈ wsL_law, w.before #[Value.ref b] s = true := fun w h => hts0 w (wsL_law_in w h)
  refine lv_aload_n hx hb dL_law_802 rfl (lv_at hl 2 rfl) ?_
  refine lv_aload_n hx hb dL_law_803 rfl (lv_at hl 3 rfl) ?_
  refine lv_iload_n hx hb dL_law_804 rfl (lv_at hl 0 rfl) ?_
  refine lv_iconst (v := 1) hx hb dL_law_805 (by decide) ?_
  refine lv_iadd hx hb dL_law_806 ?_
  refine yy_int (v := 1) (by decide) ?_
  refine va_sld hx hb hX hbl hbA hS (yin (by decide)) dL_law_807 ?_
  refine yy_int (v := (xs 1)) rfl ?_
  have hPc := hP.sub (ws' := [(q0, .inr (10, [.ref (ux 26), .ref (ux 0), .ref (ux 35), .ref (ux 36), .ref (ux 37), .int 0])), ((ux 0), .inr (3, [.ref (ux 1), .ref (ux 8), .ref (ux 11), .ref (ux 14), .ref (ux 20), .ref (ux 22), .int 0])), ((ux 11), .inr (4, [.ref (ux 12), .int (-1), .int (-1), .int 0, .int 0, .int 0, .int 0])), ((ux 12), .inr (8, [.ref (ux 13), .int 60, .int 9, .int 0])), ((ux 14), .inr (0, [.ref (ux 17), .ref (ux 15), .ref (ux 16), .int 0, .int 0, .int 0, .int 0, .int 0, .int 0])), ((ux 17), .inr (2, [.ref (ux 18), .int 0, .int 0, .int 0, .int 0, .int 0, .int 0, .int 0, .int 0, .int 0, .int 0, .int 0, .int (-1), .int 0])), ((ux 18), .inr (8, [.ref (ux 19), .int 200, .int 8, .int 0])), ((ux 22), .inr (5, [.ref (ux 23), .ref (ux 24), .int 0, .int 0, .int 0])), ((ux 24), .inr (8, [.ref (ux 25), .int 60, .int 2, .int 0])), ((ux 26), .inr (6, [.ref (ux 27), .ref (ux 28), .ref (ux 29), .ref (ux 30), .ref (ux 31), .ref (ux 32), .ref (ux 33), .ref (ux 34), .int 0, .int 0, .int 0, .int 32, .int 0]))]) [0, 1, 12, 13, 15, 18, 19, 23, 25, 27] rfl
  have hDc := hD.sub (ws' := [(q0, .inr (10, [.ref (ux 26), .ref (ux 0), .ref (ux 35), .ref (ux 36), .ref (ux 37), .int 0])), ((ux 0), .inr (3, [.ref (ux 1), .ref (ux 8), .ref (ux 11), .ref (ux 14), .ref (ux 20), .ref (ux 22), .int 0])), ((ux 11), .inr (4, [.ref (ux 12), .int (-1), .int (-1), .int 0, .int 0, .int 0, .int 0])), ((ux 12), .inr (8, [.ref (ux 13), .int 60, .int 9, .int 0])), ((ux 14), .inr (0, [.ref (ux 17), .ref (ux 15), .ref (ux 16), .int 0, .int 0, .int 0, .int 0, .int 0, .int 0])), ((ux 17), .inr (2, [.ref (ux 18), .int 0, .int 0, .int 0, .int 0, .int 0, .int 0, .int 0, .int 0, .int 0, .int 0, .int 0, .int (-1), .int 0])), ((ux 18), .inr (8, [.ref (ux 19), .int 200, .int 8, .int 0])), ((ux 22), .inr (5, [.ref (ux 23), .ref (ux 24), .int 0, .int 0, .int 0])), ((ux 24), .inr (8, [.ref (ux 25), .int 60, .int 2, .int 0])), ((ux 26), .inr (6, [.ref (ux 27), .ref (ux 28), .ref (ux 29), .ref (ux 30), .ref (ux 31), .ref (ux 32), .ref (ux 33), .ref (ux 34), .int 0, .int 0, .int 0, .int 32, .int 0]))]) [0, 1, 12, 13, 15, 18, 19, 23, 25, 27] (by decide) rfl
  refine yy_calli [0, 1, 12, 13, 15, 18, 19, 23, 25, 27] [41, 42] (wr := [(q1, .inr (11, [.ref (um 0), .int 0, .int 0, .ref (um 1), .ref (um 2), .ref (um 3), .ref (um 4), .int 0, .ref (um 5), .ref (um 6), .ref (um 7), .int 0, .int 32, .int 0, .ref (um 8), .ref (um 9), .int 0, .int 0, .ref (um 10), .ref (um 11), .ref (um 12), .ref (um 13), .ref (um 14), .ref (um 15)])), ((um 0), .inl (cyI, 2490, .inl (yz 0 0)))]) (va_runV (As := [.int (xs 1)]) (rest := []) ⟨hx, hb, hml, hown, hts⟩ (x_told l dC dI cyI cyZ cyO H.size q0 (ux 0) (ux 1) (ux 8) (ux 11) (ux 12) (ux 13) (ux 14) (ux 15) (ux 16) (ux 17) (ux 18) (ux 19) (ux 20) (ux 22) (ux 23) (ux 24) (ux 25) (ux 26) (ux 27) (ux 28) (ux 29) (ux 30) (ux 31) (ux 32) (ux 33) (ux 34) (ux 35) (ux 36) (ux 37) (xs 1) ) (cwV 1 hts gL_law_X10_told rfl rfl rfl (by decide +kernel) ⟨Nat.le_of_ble_eq_true rfl, Nat.le_of_ble_eq_true rfl⟩) (yPreV hK hPc hDc (ci := 10) (q0 := 0) rfl rfl) rfl rfl hl.1 rfl (lv_room (Nat.le_of_ble_eq_true rfl)) dL_law_808 ⟨Nat.le_of_ble_eq_true rfl, Nat.le_of_ble_eq_true rfl⟩) hP hD hS hA rfl rfl (by decide) (by decide) (fun r_2 u_1 H locs hw hP hD hS => ?_)
  have hP : va_P (dC, dI) vwCl [(q1, .inr (11, [.ref (um 0), .int 0, .int 0, .ref (um 1), .ref (um 2), .ref (um 3), .ref (um 4), .int 0, .ref (um 5), .ref (um 6), .ref (um 7), .int 0, .int 32, .int 0, .ref (um 8), .ref (um 9), .int 0, .int 0, .ref (um 10), .ref (um 11), .ref (um 12), .ref (um 13), .ref (um 14), .ref (um 15)])), ((um 0), .inl (cyI, 2490, .inl (yz 0 0)))] H := hP
  have hD : va_D A [(q1, .inr (11, [.ref (um 0), .int 0, .int 0, .ref (um 1), .ref (um 2), .ref (um 3), .ref (um 4), .int 0, .ref (um 5), .ref (um 6), .ref (um 7), .int 0, .int 32, .int 0, .ref (um 8), .ref (um 9), .int 0, .int 0, .ref (um 10), .ref (um 11), .ref (um 12), .ref (um 13), .ref (um 14), .ref (um 15)])), ((um 0), .inl (cyI, 2490, .inl (yz 0 0)))] := hD
  refine W.widen (k := 58) (n := 13281) (Nat.le_of_ble_eq_true rfl) (Nat.le_of_ble_eq_true rfl) ?_
  have hw : r_2 = (sp_told (xs 1)) := hw
  subst hw
  refine lv_aload_n hx hb dL_law_811 rfl (lv_at hl 1 rfl) ?_
  refine lv_aload_n hx hb dL_law_812 rfl (lv_at hl 3 rfl) ?_
  refine lv_iload_n hx hb dL_law_813 rfl (lv_at hl 0 rfl) ?_
  refine lv_iconst (v := 1) hx hb dL_law_814 (by decide) ?_
  refine lv_iadd hx hb dL_law_815 ?_
  refine yy_int (v := 1) (by decide) ?_
  refine va_sld hx hb hX hbl hbA hS (yin (by decide)) dL_law_816 ?_
  refine yy_int (v := (xs 1)) rfl ?_
  have hPc := hP.sub (ws' := [(q1, .inr (11, [.ref (um 0), .int 0, .int 0, .ref (um 1), .ref (um 2), .ref (um 3), .ref (um 4), .int 0, .ref (um 5), .ref (um 6), .ref (um 7), .int 0, .int 32, .int 0, .ref (um 8), .ref (um 9), .int 0, .int 0, .ref (um 10), .ref (um 11), .ref (um 12), .ref (um 13), .ref (um 14), .ref (um 15)])), ((um 0), .inl (cyI, 2490, .inl (yz 0 0)))]) [0, 1] rfl
  have hDc := hD.sub (ws' := [(q1, .inr (11, [.ref (um 0), .int 0, .int 0, .ref (um 1), .ref (um 2), .ref (um 3), .ref (um 4), .int 0, .ref (um 5), .ref (um 6), .ref (um 7), .int 0, .int 32, .int 0, .ref (um 8), .ref (um 9), .int 0, .int 0, .ref (um 10), .ref (um 11), .ref (um 12), .ref (um 13), .ref (um 14), .ref (um 15)])), ((um 0), .inl (cyI, 2490, .inl (yz 0 0)))]) [0, 1] (by decide) rfl
  refine yy_calli [0, 1] [] (wr := []) (va_runV (As := [.int (xs 1)]) (rest := [.int (sp_told (xs 1))]) ⟨hx, hb, hml, hown, hts⟩ (r_told l dC dI cyI cyZ cyO H.size q1 (um 0) (um 1) (um 2) (um 3) (um 4) (um 5) (um 6) (um 7) (um 8) (um 9) (um 10) (um 11) (um 12) (um 13) (um 14) (um 15) (xs 1) ) (cwV 1 hts gL_law_X11_told rfl rfl rfl (by decide +kernel) ⟨Nat.le_of_ble_eq_true rfl, Nat.le_of_ble_eq_true rfl⟩) (yPreV hK hPc hDc (ci := 11) (q0 := 0) rfl rfl) rfl rfl hl.1 rfl (lv_room (Nat.le_of_ble_eq_true rfl)) dL_law_817 ⟨Nat.le_of_ble_eq_true rfl, Nat.le_of_ble_eq_true rfl⟩) hP hD hS hA rfl rfl (by decide) (by decide) (fun r_4 u_3 H locs hw hP hD hS => ?_)
  have hP : va_P (dC, dI) vwCl [] H := hP
  have hD : va_D A [] := hD
  refine W.widen (k := 58) (n := 13281) (Nat.le_of_ble_eq_true rfl) (Nat.le_of_ble_eq_true rfl) ?_
  have hw : r_4 = (sp_told (xs 1)) := hw
  subst hw
  refine lv_icmp_eq (tgt := 838) hx hb dL_law_820 (by decide) (fun _ => ?_) (fun c => absurd (rfl) c)
  refine W.widen (k := 600000) (n := 7302250) (Nat.le_of_ble_eq_true rfl) (Nat.le_of_ble_eq_true rfl) ?_
  exact fin _ _ hS _ hl
set_option maxHeartbeats 4000000 in
set_option maxRecDepth 100000 in
/-- the law: a call of status on two fresh objects -/
theorem law_status {p : Program} {e : Env} {s : State} {m : MethodId} {below : List Frame} {meth : Method} {c : Code} (l : Launch) {b : Nat} {xs : Nat → Int32} (C0 : lw_At p s m meth c b 6 xs) {dC : Nat → ClassId} {dI : Nat → Nat → Nat} {cyI cyZ cyO : ClassId} {A : Nat → Prop} (hA : ∀ q : Nat, s.heap.size ≤ q → A q) (hbA : ¬ A b) (hN : yN s) (hK : va_K (dC, dI) vwCl (yT cyI cyZ cyO) s) (q0 q1 : Nat) (ux um : Nat → Nat) {H : Heap} {locs : List Loc} (hP : va_P (dC, dI) vwCl (yWX cyI cyZ cyO q0 ux ++ yWM cyI cyZ q1 um) H) (hD : va_D A (yWX cyI cyZ cyO q0 ux ++ yWM cyI cyZ q1 um)) (hS : va_S A s.heap H locs) {ls : Array Slot} (hl : lv_has ls 4 [(3, .int 0), (2, .ref q1), (1, .ref q0), (0, .ref b)]) (fin : ∀ (H : Heap) (locs : List Loc), va_S A s.heap H locs → ∀ ls : Array Slot, lv_has ls 4 [(3, .int 0), (2, .ref q1), (1, .ref q0), (0, .ref b)] → W p l e room_1 s m #[Value.ref b] below meth c H locs 600000 7302250 (lw_Z below #[Value.ref b] s) (F0 m 838 ls [])) : W p l e room_1 s m #[Value.ref b] below meth c H locs 58 13281 (lw_Z below #[Value.ref b] s) (F0 m 825 ls []) := by
  obtain ⟨hx, hb, hr, hml, hown0, hts0, hX, hbl, hlk, hgv⟩ := C0
  have hown : s.vm.findClass RL = some m.cls := hown0
  have hts : ∀ w ∈ wsL_law, w.before #[Value.ref b] s = true := fun w h => hts0 w (wsL_law_in w h)
  refine lv_aload_n hx hb dL_law_825 rfl (lv_at hl 2 rfl) ?_
  have hPc := hP.sub (ws' := [(q0, .inr (10, [.ref (ux 26), .ref (ux 0), .ref (ux 35), .ref (ux 36), .ref (ux 37), .int 0]))]) [0] rfl
  have hDc := hD.sub (ws' := [(q0, .inr (10, [.ref (ux 26), .ref (ux 0), .ref (ux 35), .ref (ux 36), .ref (ux 37), .int 0]))]) [0] (by decide) rfl
  refine yy_calli [0] [41] (wr := [(q1, .inr (11, [.ref (um 0), .int 0, .int 0, .ref (um 1), .ref (um 2), .ref (um 3), .ref (um 4), .int 0, .ref (um 5), .ref (um 6), .ref (um 7), .int 0, .int 32, .int 0, .ref (um 8), .ref (um 9), .int 0, .int 0, .ref (um 10), .ref (um 11), .ref (um 12), .ref (um 13), .ref (um 14), .ref (um 15)]))]) (va_runV (As := []) (rest := []) ⟨hx, hb, hml, hown, hts⟩ (x_status l dC dI cyI cyZ cyO H.size q0 (ux 0) (ux 26) (ux 35) (ux 36) (ux 37) ) (cwV 0 hts gL_law_X10_status rfl rfl rfl (by decide +kernel) ⟨Nat.le_of_ble_eq_true rfl, Nat.le_of_ble_eq_true rfl⟩) (yPreV hK hPc hDc (ci := 10) (q0 := 0) rfl rfl) rfl rfl hl.1 rfl (lv_room (Nat.le_of_ble_eq_true rfl)) dL_law_826 ⟨Nat.le_of_ble_eq_true rfl, Nat.le_of_ble_eq_true rfl⟩) hP hD hS hA rfl rfl (by decide) (by decide) (fun r_2 u_1 H locs hw hP hD hS => ?_)
  have hP : va_P (dC, dI) vwCl [(q1, .inr (11, [.ref (um 0), .int 0, .int 0, .ref (um 1), .ref (um 2), .ref (um 3), .ref (um 4), .int 0, .ref (um 5), .ref (um 6), .ref (um 7), .int 0, .int 32, .int 0, .ref (um 8), .ref (um 9), .int 0, .int 0, .ref (um 10), .ref (um 11), .ref (um 12), .ref (um 13), .ref (um 14), .ref (um 15)]))] H := hP
  have hD : va_D A [(q1, .inr (11, [.ref (um 0), .int 0, .int 0, .ref (um 1), .ref (um 2), .ref (um 3), .ref (um 4), .int 0, .ref (um 5), .ref (um 6), .ref (um 7), .int 0, .int 32, .int 0, .ref (um 8), .ref (um 9), .int 0, .int 0, .ref (um 10), .ref (um 11), .ref (um 12), .ref (um 13), .ref (um 14), .ref (um 15)]))] := hD
  refine W.widen (k := 58) (n := 13281) (Nat.le_of_ble_eq_true rfl) (Nat.le_of_ble_eq_true rfl) ?_
  have hw : r_2 = 0 := hw
  subst hw
  refine lv_aload_n hx hb dL_law_829 rfl (lv_at hl 1 rfl) ?_
  have hPc := hP.sub (ws' := [(q1, .inr (11, [.ref (um 0), .int 0, .int 0, .ref (um 1), .ref (um 2), .ref (um 3), .ref (um 4), .int 0, .ref (um 5), .ref (um 6), .ref (um 7), .int 0, .int 32, .int 0, .ref (um 8), .ref (um 9), .int 0, .int 0, .ref (um 10), .ref (um 11), .ref (um 12), .ref (um 13), .ref (um 14), .ref (um 15)]))]) [0] rfl
  have hDc := hD.sub (ws' := [(q1, .inr (11, [.ref (um 0), .int 0, .int 0, .ref (um 1), .ref (um 2), .ref (um 3), .ref (um 4), .int 0, .ref (um 5), .ref (um 6), .ref (um 7), .int 0, .int 32, .int 0, .ref (um 8), .ref (um 9), .int 0, .int 0, .ref (um 10), .ref (um 11), .ref (um 12), .ref (um 13), .ref (um 14), .ref (um 15)]))]) [0] (by decide) rfl
  refine yy_calli [0] [] (wr := []) (va_runV (As := []) (rest := [.int 0]) ⟨hx, hb, hml, hown, hts⟩ (r_status l dC dI cyI cyZ cyO H.size q1 (um 0) (um 1) (um 2) (um 3) (um 4) (um 5) (um 6) (um 7) (um 8) (um 9) (um 10) (um 11) (um 12) (um 13) (um 14) (um 15) ) (cwV 0 hts gL_law_X11_status rfl rfl rfl (by decide +kernel) ⟨Nat.le_of_ble_eq_true rfl, Nat.le_of_ble_eq_true rfl⟩) (yPreV hK hPc hDc (ci := 11) (q0 := 0) rfl rfl) rfl rfl hl.1 rfl (lv_room (Nat.le_of_ble_eq_true rfl)) dL_law_830 ⟨Nat.le_of_ble_eq_true rfl, Nat.le_of_ble_eq_true rfl⟩) hP hD hS hA rfl rfl (by decide) (by decide) (fun r_4 u_3 H locs hw hP hD hS => ?_)
  have hP : va_P (dC, dI) vwCl [] H := hP
  have hD : va_D A [] := hD
  refine W.widen (k := 58) (n := 13281) (Nat.le_of_ble_eq_true rfl) (Nat.le_of_ble_eq_true rfl) ?_
  have hw : r_4 = 0 := hw
  subst hw
  refine lv_icmp_eq (tgt := 838) hx hb dL_law_833 (by decide) (fun _ => ?_) (fun c => absurd (by decide) c)
  refine W.widen (k := 600000) (n := 7302250) (Nat.le_of_ble_eq_true rfl) (Nat.le_of_ble_eq_true rfl) ?_
  exact fin _ _ hS _ hl
