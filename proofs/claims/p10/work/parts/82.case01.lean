set_option maxHeartbeats 4000000 in
set_option maxRecDepth 100000 in
/-- the law: slave -/
theorem law_slave {p : Program} {e : Env} {s : State} {m : MethodId} {below : List Frame} {meth : Method} {c : Code} (l : Launch) {b L : Nat} {xs : Nat → Int32} (hL : L ≤ 3072) (C0 : lw_At p s m meth c b L xs) {dC : Nat → ClassId} {dI : Nat → Nat → Nat} {cyI cyZ cyO : ClassId} {A : Nat → Prop} (hA : ∀ q : Nat, s.heap.size ≤ q → A q) (hbA : ¬ A b) (hN : yN s) (hK : va_K (dC, dI) vwCl (yT cyI cyZ cyO) s) (ax am : Nat → Nat) (j : Nat) (hj : j + 6 ≤ L) (n : Int) (hn0 : 0 ≤ n) (hn : n ≤ 1400000000) (k0 s0 : Nat) (hk0 : k0 + 26 ≤ 600000) (hs0 : s0 + 2545 ≤ 7302250) (ux um : yU) (t : Nat → Option KS) {H : Heap} {locs : List Loc} (hXO : XOK ux) (hMO : MOK n um) (hTO : TOK t) (hP : va_P (dC, dI) vwCl (XW cyI cyZ cyO ax ux (kpf t) ++ (MW cyI cyZ am um ++ KT cyI t)) H) (hD : va_D A (XW cyI cyZ cyO ax ux (kpf t) ++ (MW cyI cyZ am um ++ KT cyI t))) (hS : va_S A s.heap H locs) {ls : Array Slot} (hl : lv_has ls 4 [(3, .int (nI j)), (2, .ref (am 0)), (1, .ref (ax 0)), (0, .ref b)]) (fin : ∀ (ux um : yU) (t : Nat → Option KS) (H : Heap) (locs : List Loc) (ls : Array Slot), XOK ux → MOK (n + 32000) um → TOK t → va_P (dC, dI) vwCl (XW cyI cyZ cyO ax ux (kpf t) ++ (MW cyI cyZ am um ++ KT cyI t)) H → va_D A (XW cyI cyZ cyO ax ux (kpf t) ++ (MW cyI cyZ am um ++ KT cyI t)) → va_S A s.heap H locs → lv_has ls 4 [(3, .int (nI j)), (2, .ref (am 0)), (1, .ref (ax 0)), (0, .ref b)] → W p l e room_1 s m #[Value.ref b] below meth c H locs (k0 + 26) (s0 + 2545) (lw_Z below #[Value.ref b] s) (F0 m 838 ls [])) : W p l e room_1 s m #[Value.ref b] below meth c H locs k0 s0 (lw_Z below #[Value.ref b] s) (F0 m 144 ls []) := by
  obtain ⟨hx, hb, hr, hml, hown0, hts0, hX, hbl, hlk, hgv⟩ := C0
  have hown : s.vm.findClass RL = some m.cls := hown0
  have hts : ∀ w ∈ wsL_law, w.before #[Value.ref b] s = true := fun w h => hts0 w (wsL_law_in w h)
  refine lv_aload_n hx hb dL_law_144 rfl (lv_at hl 2 rfl) ?_
  refine lv_aload_n hx hb dL_law_145 rfl (lv_at hl 3 rfl) ?_
  refine lv_iload_n hx hb dL_law_146 rfl (lv_at hl 0 rfl) ?_
  refine lv_iconst (v := 1) hx hb dL_law_147 (by decide) ?_
  refine lv_iadd hx hb dL_law_148 ?_
  refine yy_int (v := nI (j + 1)) (ynj (by decide)) ?_
  refine va_sld hx hb hX hbl hbA hS (vp_in_nI (by omega) (by omega)) dL_law_149 ?_
  refine lv_topi (fun v149 ev149 => ?_)
  refine lv_aload_n hx hb dL_law_150 rfl (lv_at hl 3 rfl) ?_
  refine lv_iload_n hx hb dL_law_151 rfl (lv_at hl 0 rfl) ?_
  refine lv_iconst (v := 2) hx hb dL_law_152 (by decide) ?_
  refine lv_iadd hx hb dL_law_153 ?_
  refine yy_int (v := nI (j + 2)) (ynj (by decide)) ?_
  refine va_sld hx hb hX hbl hbA hS (vp_in_nI (by omega) (by omega)) dL_law_154 ?_
  refine lv_topi (fun v154 ev154 => ?_)
  refine lv_aload_n hx hb dL_law_155 rfl (lv_at hl 3 rfl) ?_
  refine lv_iload_n hx hb dL_law_156 rfl (lv_at hl 0 rfl) ?_
  refine lv_iconst (v := 3) hx hb dL_law_157 (by decide) ?_
  refine lv_iadd hx hb dL_law_158 ?_
  refine yy_int (v := nI (j + 3)) (ynj (by decide)) ?_
  refine va_sld hx hb hX hbl hbA hS (vp_in_nI (by omega) (by omega)) dL_law_159 ?_
  refine lv_topi (fun v159 ev159 => ?_)
  refine lv_aload_n hx hb dL_law_160 rfl (lv_at hl 3 rfl) ?_
  refine lv_iload_n hx hb dL_law_161 rfl (lv_at hl 0 rfl) ?_
  refine lv_iconst (v := 4) hx hb dL_law_162 (by decide) ?_
  refine lv_iadd hx hb dL_law_163 ?_
  refine yy_int (v := nI (j + 4)) (ynj (by decide)) ?_
  refine va_sld hx hb hX hbl hbA hS (vp_in_nI (by omega) (by omega)) dL_law_164 ?_
  refine lv_topi (fun v164 ev164 => ?_)
  refine lv_if_eq (tgt := 172) hx hb dL_law_165 (by decide) (fun c165 => ?_) (fun c165 => ?_)
  · refine lv_iconst (v := 0) hx hb dL_law_172 (by decide) ?_
    refine yy_calliL (va_runV (As := [.int v149, .int v154, .int v159, .int 0]) (rest := []) ⟨hx, hb, hml, hown, hts⟩ (g_slave l dC dI cyI cyZ cyO H.size (ax 0) (ux.1 0) (ax 1) (ux.1 1) (ux.1 2) (ux.1 3) (ux.1 4) (ux.1 5) (ax 2) (ux.2 0) (ax 3) (ux.2 1) (ax 4) (ux.2 2) (ax 5) (ux.2 3) (ax 6) (ux.2 4) (ax 7) (ux.2 5) (ax 8) (ux.2 6) (ax 9) (ux.2 7) (ax 10) (ux.1 6) (ax 11) (ax 12) (ux.2 8) (ax 13) (ux.2 9) (ax 14) (ux.2 10) (ax 15) (ux.2 11) (ax 16) (ux.2 12) (ax 17) (ux.2 13) (ax 18) (ux.1 7) (ax 19) (ux.2 14) (ax 20) (ux.2 15) (ax 21) (ux.1 8) (ux.1 9) (ux.1 10) (ux.1 11) (ux.1 12) (ux.1 13) (ax 22) (ux.1 14) (ax 23) (ux.2 16) (ax 24) (ux.1 15) (ux.1 16) (ux.1 17) (ux.1 18) (ux.1 19) (ux.1 20) (ax 25) (ux.1 21) (ux.1 22) (ux.1 23) (ux.1 24) (ux.1 25) (ux.1 26) (ux.1 27) (ux.1 28) (ux.1 29) (ux.1 30) (ux.1 31) (ux.1 32) (ux.1 33) (ax 26) (ux.1 34) (ax 27) (ux.2 17) (ax 28) (ux.2 18) (ax 29) (ux.2 19) (ax 30) (ux.1 35) (ux.1 36) (ux.1 37) (ax 31) (ux.2 20) (ax 32) (ux.1 38) (ux.1 39) (ux.1 40) (ax 33) (ux.2 21) (ax 34) (ux.1 41) (ax 35) (ux.2 22) (ax 36) (ux.2 23) (ax 37) (ux.1 42) (ax 38) (ux.2 24) (ax 39) (ux.2 25) (ax 40) (kpf t) v149 v154 v159 0 hXO.1 hXO.2.1 hXO.2.2.1 hXO.2.2.2.1 hXO.2.2.2.2.1 hXO.2.2.2.2.2.1 hXO.2.2.2.2.2.2.1 hXO.2.2.2.2.2.2.2.1 hXO.2.2.2.2.2.2.2.2.1 hXO.2.2.2.2.2.2.2.2.2) (cwV 4 hts gL_law_X10_slave rfl rfl rfl (by decide +kernel) ⟨Nat.le_of_ble_eq_true rfl, Nat.le_of_ble_eq_true rfl⟩) (yPreV hK (va_P_left hP) (va_D_left hD) (ci := 10) (q0 := 0) rfl rfl) rfl rfl hl.1 rfl (lv_room (Nat.le_of_ble_eq_true rfl)) dL_law_173 ⟨by show _ ≤ 600000; omega, by show _ ≤ 7302250; omega⟩) hP hD hS hA (fun r173 ux H locs hw hP hD hS => ?_)
    have hXO : XOK ux := hw
    have hP : va_P (dC, dI) vwCl (XW cyI cyZ cyO ax ux (kpf t) ++ (MW cyI cyZ am um ++ KT cyI t)) H := hP
    have hD : va_D A (XW cyI cyZ cyO ax ux (kpf t) ++ (MW cyI cyZ am um ++ KT cyI t)) := hD
    refine lv_pop hx hb dL_law_176 rfl ?_
    refine lv_aload_n hx hb dL_law_177 rfl (lv_at hl 1 rfl) ?_
    refine lv_aload_n hx hb dL_law_178 rfl (lv_at hl 3 rfl) ?_
    refine lv_iload_n hx hb dL_law_179 rfl (lv_at hl 0 rfl) ?_
    refine lv_iconst (v := 1) hx hb dL_law_180 (by decide) ?_
    refine lv_iadd hx hb dL_law_181 ?_
    refine yy_int (v := nI (j + 1)) (ynj (by decide)) ?_
    refine va_sld hx hb hX hbl hbA hS (vp_in_nI (by omega) (by omega)) dL_law_182 ?_
    refine lv_topi (fun v182 ev182 => ?_)
    refine lv_aload_n hx hb dL_law_183 rfl (lv_at hl 3 rfl) ?_
    refine lv_iload_n hx hb dL_law_184 rfl (lv_at hl 0 rfl) ?_
    refine lv_iconst (v := 2) hx hb dL_law_185 (by decide) ?_
    refine lv_iadd hx hb dL_law_186 ?_
    refine yy_int (v := nI (j + 2)) (ynj (by decide)) ?_
    refine va_sld hx hb hX hbl hbA hS (vp_in_nI (by omega) (by omega)) dL_law_187 ?_
    refine lv_topi (fun v187 ev187 => ?_)
    refine lv_aload_n hx hb dL_law_188 rfl (lv_at hl 3 rfl) ?_
    refine lv_iload_n hx hb dL_law_189 rfl (lv_at hl 0 rfl) ?_
    refine lv_iconst (v := 3) hx hb dL_law_190 (by decide) ?_
    refine lv_iadd hx hb dL_law_191 ?_
    refine yy_int (v := nI (j + 3)) (ynj (by decide)) ?_
    refine va_sld hx hb hX hbl hbA hS (vp_in_nI (by omega) (by omega)) dL_law_192 ?_
    refine lv_topi (fun v192 ev192 => ?_)
    refine lv_aload_n hx hb dL_law_193 rfl (lv_at hl 3 rfl) ?_
    refine lv_iload_n hx hb dL_law_194 rfl (lv_at hl 0 rfl) ?_
    refine lv_iconst (v := 4) hx hb dL_law_195 (by decide) ?_
    refine lv_iadd hx hb dL_law_196 ?_
    refine yy_int (v := nI (j + 4)) (ynj (by decide)) ?_
    refine va_sld hx hb hX hbl hbA hS (vp_in_nI (by omega) (by omega)) dL_law_197 ?_
    refine lv_topi (fun v197 ev197 => ?_)
    refine lv_if_eq (tgt := 205) hx hb dL_law_198 (by decide) (fun c198 => ?_) (fun c198 => ?_)
    · refine lv_iconst (v := 0) hx hb dL_law_205 (by decide) ?_
      have hP := yrotP hP
      have hD := yrotD hD
      refine yy_calliL (va_runV (As := [.int v182, .int v187, .int v192, .int 0]) (rest := []) ⟨hx, hb, hml, hown, hts⟩ (p_slave l dC dI cyI cyZ cyO H.size (am 0) (um.1 0) (um.1 1) (um.1 2) (um.1 3) (um.1 4) (um.1 5) (um.1 6) (um.1 7) (am 1) (um.2 0) (am 2) (um.2 1) (am 3) (um.2 2) (am 4) (um.2 3) (am 5) (um.2 4) (am 6) (um.2 5) (am 7) (um.2 6) (am 8) (um.2 7) (am 9) (um.2 8) (am 10) (um.2 9) (am 11) (um.2 10) (am 12) (um.2 11) (am 13) (um.2 12) (am 14) (um.2 13) (am 15) (um.2 14) (am 16) (um.2 15) v182 v187 v192 0 n hMO.1 hMO.2.1 hMO.2.2.1 hMO.2.2.2.1 hMO.2.2.2.2.1 hn hn0 hMO.2.2.2.2.2) (cwV 4 hts gL_law_X11_slave rfl rfl rfl (by decide +kernel) ⟨Nat.le_of_ble_eq_true rfl, Nat.le_of_ble_eq_true rfl⟩) (yPreV hK (va_P_left hP) (va_D_left hD) (ci := 11) (q0 := 0) rfl rfl) rfl rfl hl.1 rfl (lv_room (Nat.le_of_ble_eq_true rfl)) dL_law_206 ⟨by show _ ≤ 600000; omega, by show _ ≤ 7302250; omega⟩) hP hD hS hA (fun r206 um H locs hw hP hD hS => ?_)
      have hMO : MOK (n + 32000) um := hw
      have hP : va_P (dC, dI) vwCl (MW cyI cyZ am um ++ (XW cyI cyZ cyO ax ux (kpf t) ++ KT cyI t)) H := hP
      have hD : va_D A (MW cyI cyZ am um ++ (XW cyI cyZ cyO ax ux (kpf t) ++ KT cyI t)) := hD
      have hP := yrotP hP
      have hD := yrotD hD
      refine lv_pop hx hb dL_law_209 rfl ?_
      refine lv_goto (tgt := 838) hx hb dL_law_210 (by decide) ?_
      refine W.widen (k := k0 + 26) (n := s0 + 2545) (by omega) (by omega) ?_
      exact fin _ _ _ _ _ _ hXO hMO hTO hP hD hS hl
    · refine lv_iconst (v := 1) hx hb dL_law_201 (by decide) ?_
      refine lv_goto (tgt := 206) hx hb dL_law_202 (by decide) ?_
      have hP := yrotP hP
      have hD := yrotD hD
      refine yy_calliL (va_runV (As := [.int v182, .int v187, .int v192, .int 1]) (rest := []) ⟨hx, hb, hml, hown, hts⟩ (p_slave l dC dI cyI cyZ cyO H.size (am 0) (um.1 0) (um.1 1) (um.1 2) (um.1 3) (um.1 4) (um.1 5) (um.1 6) (um.1 7) (am 1) (um.2 0) (am 2) (um.2 1) (am 3) (um.2 2) (am 4) (um.2 3) (am 5) (um.2 4) (am 6) (um.2 5) (am 7) (um.2 6) (am 8) (um.2 7) (am 9) (um.2 8) (am 10) (um.2 9) (am 11) (um.2 10) (am 12) (um.2 11) (am 13) (um.2 12) (am 14) (um.2 13) (am 15) (um.2 14) (am 16) (um.2 15) v182 v187 v192 1 n hMO.1 hMO.2.1 hMO.2.2.1 hMO.2.2.2.1 hMO.2.2.2.2.1 hn hn0 hMO.2.2.2.2.2) (cwV 4 hts gL_law_X11_slave rfl rfl rfl (by decide +kernel) ⟨Nat.le_of_ble_eq_true rfl, Nat.le_of_ble_eq_true rfl⟩) (yPreV hK (va_P_left hP) (va_D_left hD) (ci := 11) (q0 := 0) rfl rfl) rfl rfl hl.1 rfl (lv_room (Nat.le_of_ble_eq_true rfl)) dL_law_206 ⟨by show _ ≤ 600000; omega, by show _ ≤ 7302250; omega⟩) hP hD hS hA (fun r206 um H locs hw hP hD hS => ?_)
      have hMO : MOK (n + 32000) um := hw
      have hP : va_P (dC, dI) vwCl (MW cyI cyZ am um ++ (XW cyI cyZ cyO ax ux (kpf t) ++ KT cyI t)) H := hP
      have hD : va_D A (MW cyI cyZ am um ++ (XW cyI cyZ cyO ax ux (kpf t) ++ KT cyI t)) := hD
      have hP := yrotP hP
      have hD := yrotD hD
      refine lv_pop hx hb dL_law_209 rfl ?_
      refine lv_goto (tgt := 838) hx hb dL_law_210 (by decide) ?_
      refine W.widen (k := k0 + 26) (n := s0 + 2545) (by omega) (by omega) ?_
      exact fin _ _ _ _ _ _ hXO hMO hTO hP hD hS hl
  · refine lv_iconst (v := 1) hx hb dL_law_168 (by decide) ?_
    refine lv_goto (tgt := 173) hx hb dL_law_169 (by decide) ?_
    refine yy_calliL (va_runV (As := [.int v149, .int v154, .int v159, .int 1]) (rest := []) ⟨hx, hb, hml, hown, hts⟩ (g_slave l dC dI cyI cyZ cyO H.size (ax 0) (ux.1 0) (ax 1) (ux.1 1) (ux.1 2) (ux.1 3) (ux.1 4) (ux.1 5) (ax 2) (ux.2 0) (ax 3) (ux.2 1) (ax 4) (ux.2 2) (ax 5) (ux.2 3) (ax 6) (ux.2 4) (ax 7) (ux.2 5) (ax 8) (ux.2 6) (ax 9) (ux.2 7) (ax 10) (ux.1 6) (ax 11) (ax 12) (ux.2 8) (ax 13) (ux.2 9) (ax 14) (ux.2 10) (ax 15) (ux.2 11) (ax 16) (ux.2 12) (ax 17) (ux.2 13) (ax 18) (ux.1 7) (ax 19) (ux.2 14) (ax 20) (ux.2 15) (ax 21) (ux.1 8) (ux.1 9) (ux.1 10) (ux.1 11) (ux.1 12) (ux.1 13) (ax 22) (ux.1 14) (ax 23) (ux.2 16) (ax 24) (ux.1 15) (ux.1 16) (ux.1 17) (ux.1 18) (ux.1 19) (ux.1 20) (ax 25) (ux.1 21) (ux.1 22) (ux.1 23) (ux.1 24) (ux.1 25) (ux.1 26) (ux.1 27) (ux.1 28) (ux.1 29) (ux.1 30) (ux.1 31) (ux.1 32) (ux.1 33) (ax 26) (ux.1 34) (ax 27) (ux.2 17) (ax 28) (ux.2 18) (ax 29) (ux.2 19) (ax 30) (ux.1 35) (ux.1 36) (ux.1 37) (ax 31) (ux.2 20) (ax 32) (ux.1 38) (ux.1 39) (ux.1 40) (ax 33) (ux.2 21) (ax 34) (ux.1 41) (ax 35) (ux.2 22) (ax 36) (ux.2 23) (ax 37) (ux.1 42) (ax 38) (ux.2 24) (ax 39) (ux.2 25) (ax 40) (kpf t) v149 v154 v159 1 hXO.1 hXO.2.1 hXO.2.2.1 hXO.2.2.2.1 hXO.2.2.2.2.1 hXO.2.2.2.2.2.1 hXO.2.2.2.2.2.2.1 hXO.2.2.2.2.2.2.2.1 hXO.2.2.2.2.2.2.2.2.1 hXO.2.2.2.2.2.2.2.2.2) (cwV 4 hts gL_law_X10_slave rfl rfl rfl (by decide +kernel) ⟨Nat.le_of_ble_eq_true rfl, Nat.le_of_ble_eq_true rfl⟩) (yPreV hK (va_P_left hP) (va_D_left hD) (ci := 10) (q0 := 0) rfl rfl) rfl rfl hl.1 rfl (lv_room (Nat.le_of_ble_eq_true rfl)) dL_law_173 ⟨by show _ ≤ 600000; omega, by show _ ≤ 7302250; omega⟩) hP hD hS hA (fun r173 ux H locs hw hP hD hS => ?_)
    have hXO : XOK ux := hw
    have hP : va_P (dC, dI) vwCl (XW cyI cyZ cyO ax ux (kpf t) ++ (MW cyI cyZ am um ++ KT cyI t)) H := hP
    have hD : va_D A (XW cyI cyZ cyO ax ux (kpf t) ++ (MW cyI cyZ am um ++ KT cyI t)) := hD
    refine lv_pop hx hb dL_law_176 rfl ?_
    refine lv_aload_n hx hb dL_law_177 rfl (lv_at hl 1 rfl) ?_
    refine lv_aload_n hx hb dL_law_178 rfl (lv_at hl 3 rfl) ?_
    refine lv_iload_n hx hb dL_law_179 rfl (lv_at hl 0 rfl) ?_
    refine lv_iconst (v := 1) hx hb dL_law_180 (by decide) ?_
    refine lv_iadd hx hb dL_law_181 ?_
    refine yy_int (v := nI (j + 1)) (ynj (by decide)) ?_
    refine va_sld hx hb hX hbl hbA hS (vp_in_nI (by omega) (by omega)) dL_law_182 ?_
    refine lv_topi (fun v182 ev182 => ?_)
    refine lv_aload_n hx hb dL_law_183 rfl (lv_at hl 3 rfl) ?_
    refine lv_iload_n hx hb dL_law_184 rfl (lv_at hl 0 rfl) ?_
    refine lv_iconst (v := 2) hx hb dL_law_185 (by decide) ?_
    refine lv_iadd hx hb dL_law_186 ?_
    refine yy_int (v := nI (j + 2)) (ynj (by decide)) ?_
    refine va_sld hx hb hX hbl hbA hS (vp_in_nI (by omega) (by omega)) dL_law_187 ?_
    refine lv_topi (fun v187 ev187 => ?_)
    refine lv_aload_n hx hb dL_law_188 rfl (lv_at hl 3 rfl) ?_
    refine lv_iload_n hx hb dL_law_189 rfl (lv_at hl 0 rfl) ?_
    refine lv_iconst (v := 3) hx hb dL_law_190 (by decide) ?_
    refine lv_iadd hx hb dL_law_191 ?_
    refine yy_int (v := nI (j + 3)) (ynj (by decide)) ?_
    refine va_sld hx hb hX hbl hbA hS (vp_in_nI (by omega) (by omega)) dL_law_192 ?_
    refine lv_topi (fun v192 ev192 => ?_)
    refine lv_aload_n hx hb dL_law_193 rfl (lv_at hl 3 rfl) ?_
    refine lv_iload_n hx hb dL_law_194 rfl (lv_at hl 0 rfl) ?_
    refine lv_iconst (v := 4) hx hb dL_law_195 (by decide) ?_
    refine lv_iadd hx hb dL_law_196 ?_
    refine yy_int (v := nI (j + 4)) (ynj (by decide)) ?_
    refine va_sld hx hb hX hbl hbA hS (vp_in_nI (by omega) (by omega)) dL_law_197 ?_
    refine lv_topi (fun v197 ev197 => ?_)
    refine lv_if_eq (tgt := 205) hx hb dL_law_198 (by decide) (fun c198 => ?_) (fun c198 => ?_)
    · refine lv_iconst (v := 0) hx hb dL_law_205 (by decide) ?_
      have hP := yrotP hP
      have hD := yrotD hD
      refine yy_calliL (va_runV (As := [.int v182, .int v187, .int v192, .int 0]) (rest := []) ⟨hx, hb, hml, hown, hts⟩ (p_slave l dC dI cyI cyZ cyO H.size (am 0) (um.1 0) (um.1 1) (um.1 2) (um.1 3) (um.1 4) (um.1 5) (um.1 6) (um.1 7) (am 1) (um.2 0) (am 2) (um.2 1) (am 3) (um.2 2) (am 4) (um.2 3) (am 5) (um.2 4) (am 6) (um.2 5) (am 7) (um.2 6) (am 8) (um.2 7) (am 9) (um.2 8) (am 10) (um.2 9) (am 11) (um.2 10) (am 12) (um.2 11) (am 13) (um.2 12) (am 14) (um.2 13) (am 15) (um.2 14) (am 16) (um.2 15) v182 v187 v192 0 n hMO.1 hMO.2.1 hMO.2.2.1 hMO.2.2.2.1 hMO.2.2.2.2.1 hn hn0 hMO.2.2.2.2.2) (cwV 4 hts gL_law_X11_slave rfl rfl rfl (by decide +kernel) ⟨Nat.le_of_ble_eq_true rfl, Nat.le_of_ble_eq_true rfl⟩) (yPreV hK (va_P_left hP) (va_D_left hD) (ci := 11) (q0 := 0) rfl rfl) rfl rfl hl.1 rfl (lv_room (Nat.le_of_ble_eq_true rfl)) dL_law_206 ⟨by show _ ≤ 600000; omega, by show _ ≤ 7302250; omega⟩) hP hD hS hA (fun r206 um H locs hw hP hD hS => ?_)
      have hMO : MOK (n + 32000) um := hw
      have hP : va_P (dC, dI) vwCl (MW cyI cyZ am um ++ (XW cyI cyZ cyO ax ux (kpf t) ++ KT cyI t)) H := hP
      have hD : va_D A (MW cyI cyZ am um ++ (XW cyI cyZ cyO ax ux (kpf t) ++ KT cyI t)) := hD
      have hP := yrotP hP
      have hD := yrotD hD
      refine lv_pop hx hb dL_law_209 rfl ?_
      refine lv_goto (tgt := 838) hx hb dL_law_210 (by decide) ?_
      refine W.widen (k := k0 + 26) (n := s0 + 2545) (by omega) (by omega) ?_
      exact fin _ _ _ _ _ _ hXO hMO hTO hP hD hS hl
    · refine lv_iconst (v := 1) hx hb dL_law_201 (by decide) ?_
      refine lv_goto (tgt := 206) hx hb dL_law_202 (by decide) ?_
      have hP := yrotP hP
      have hD := yrotD hD
      refine yy_calliL (va_runV (As := [.int v182, .int v187, .int v192, .int 1]) (rest := []) ⟨hx, hb, hml, hown, hts⟩ (p_slave l dC dI cyI cyZ cyO H.size (am 0) (um.1 0) (um.1 1) (um.1 2) (um.1 3) (um.1 4) (um.1 5) (um.1 6) (um.1 7) (am 1) (um.2 0) (am 2) (um.2 1) (am 3) (um.2 2) (am 4) (um.2 3) (am 5) (um.2 4) (am 6) (um.2 5) (am 7) (um.2 6) (am 8) (um.2 7) (am 9) (um.2 8) (am 10) (um.2 9) (am 11) (um.2 10) (am 12) (um.2 11) (am 13) (um.2 12) (am 14) (um.2 13) (am 15) (um.2 14) (am 16) (um.2 15) v182 v187 v192 1 n hMO.1 hMO.2.1 hMO.2.2.1 hMO.2.2.2.1 hMO.2.2.2.2.1 hn hn0 hMO.2.2.2.2.2) (cwV 4 hts gL_law_X11_slave rfl rfl rfl (by decide +kernel) ⟨Nat.le_of_ble_eq_true rfl, Nat.le_of_ble_eq_true rfl⟩) (yPreV hK (va_P_left hP) (va_D_left hD) (ci := 11) (q0 := 0) rfl rfl) rfl rfl hl.1 rfl (lv_room (Nat.le_of_ble_eq_true rfl)) dL_law_206 ⟨by show _ ≤ 600000; omega, by show _ ≤ 7302250; omega⟩) hP hD hS hA (fun r206 um H locs hw hP hD hS => ?_)
      have hMO : MOK (n + 32000) um := hw
      have hP : va_P (dC, dI) vwCl (MW cyI cyZ am um ++ (XW cyI cyZ cyO ax ux (kpf t) ++ KT cyI t)) H := hP
      have hD : va_D A (MW cyI cyZ am um ++ (XW cyI cyZ cyO ax ux (kpf t) ++ KT cyI t)) := hD
      have hP := yrotP hP
      have hD := yrotD hD
      refine lv_pop hx hb dL_law_209 rfl ?_
      refine lv_goto (tgt := 838) hx hb dL_law_210 (by decide) ?_
      refine W.widen (k := k0 + 26) (n := s0 + 2545) (by omega) (by omega) ?_
      exact fin _ _ _ _ _ _ hXO hMO hTO hP hD hS hl
set_option maxHeartbeats 4000000 in
set_option maxRecDepth 100000 in
/-- the law: register -/
theorem law_register {p : Program} {e : Env} {s : State} {m : MethodId} {below : List Frame} {meth : Method} {c : Code} (l : Launch) {b L : Nat} {xs : Nat → Int32} (hL : L ≤ 3072) (C0 : lw_At p s m meth c b L xs) {dC : Nat → ClassId} {dI : Nat → Nat → Nat} {cyI cyZ cyO : ClassId} {A : Nat → Prop} (hA : ∀ q : Nat, s.heap.size ≤ q → A q) (hbA : ¬ A b) (hN : yN s) (hK : va_K (dC, dI) vwCl (yT cyI cyZ cyO) s) (ax am : Nat → Nat) (j : Nat) (hj : j + 6 ≤ L) (n : Int) (hn0 : 0 ≤ n) (hn : n ≤ 1400000000) (k0 s0 : Nat) (hk0 : k0 + 26 ≤ 600000) (hs0 : s0 + 2545 ≤ 7302250) (ux um : yU) (t : Nat → Option KS) {H : Heap} {locs : List Loc} (hXO : XOK ux) (hMO : MOK n um) (hTO : TOK t) (hP : va_P (dC, dI) vwCl (XW cyI cyZ cyO ax ux (kpf t) ++ (MW cyI cyZ am um ++ KT cyI t)) H) (hD : va_D A (XW cyI cyZ cyO ax ux (kpf t) ++ (MW cyI cyZ am um ++ KT cyI t))) (hS : va_S A s.heap H locs) {ls : Array Slot} (hl : lv_has ls 4 [(3, .int (nI j)), (2, .ref (am 0)), (1, .ref (ax 0)), (0, .ref b)]) (fin : ∀ (ux um : yU) (t : Nat → Option KS) (H : Heap) (locs : List Loc) (ls : Array Slot), XOK ux → MOK (n + 32000) um → TOK t → va_P (dC, dI) vwCl (XW cyI cyZ cyO ax ux (kpf t) ++ (MW cyI cyZ am um ++ KT cyI t)) H → va_D A (XW cyI cyZ cyO ax ux (kpf t) ++ (MW cyI cyZ am um ++ KT cyI t)) → va_S A s.heap H locs → lv_has ls 4 [(3, .int (nI j)), (2, .ref (am 0)), (1, .ref (ax 0)), (0, .ref b)] → W p l e room_1 s m #[Value.ref b] below meth c H locs (k0 + 26) (s0 + 2545) (lw_Z below #[Value.ref b] s) (F0 m 838 ls [])) : W p l e room_1 s m #[Value.ref b] below meth c H locs k0 s0 (lw_Z below #[Value.ref b] s) (F0 m 213 ls []) := by
  obtain ⟨hx, hb, hr, hml, hown0, hts0, hX, hbl, hlk, hgv⟩ := C0
  have hown : s.vm.findClass RL = some m.cls := hown0
  have hts : ∀ w ∈ wsL_law, w.before #[Value.ref b] s = true := fun w h => hts0 w (wsL_law_in w h)
  refine lv_aload_n hx hb dL_law_213 rfl (lv_at hl 2 rfl) ?_
  refine lv_aload_n hx hb dL_law_214 rfl (lv_at hl 3 rfl) ?_
  refine lv_iload_n hx hb dL_law_215 rfl (lv_at hl 0 rfl) ?_
  refine lv_iconst (v := 1) hx hb dL_law_216 (by decide) ?_
  refine lv_iadd hx hb dL_law_217 ?_
  refine yy_int (v := nI (j + 1)) (ynj (by decide)) ?_
  refine va_sld hx hb hX hbl hbA hS (vp_in_nI (by omega) (by omega)) dL_law_218 ?_
  refine lv_topi (fun v218 ev218 => ?_)
  refine lv_aload_n hx hb dL_law_219 rfl (lv_at hl 3 rfl) ?_
  refine lv_iload_n hx hb dL_law_220 rfl (lv_at hl 0 rfl) ?_
  refine lv_iconst (v := 2) hx hb dL_law_221 (by decide) ?_
  refine lv_iadd hx hb dL_law_222 ?_
  refine yy_int (v := nI (j + 2)) (ynj (by decide)) ?_
  refine va_sld hx hb hX hbl hbA hS (vp_in_nI (by omega) (by omega)) dL_law_223 ?_
  refine lv_topi (fun v223 ev223 => ?_)
  refine lv_aload_n hx hb dL_law_224 rfl (lv_at hl 3 rfl) ?_
  refine lv_iload_n hx hb dL_law_225 rfl (lv_at hl 0 rfl) ?_
  refine lv_iconst (v := 3) hx hb dL_law_226 (by decide) ?_
  refine lv_iadd hx hb dL_law_227 ?_
  refine yy_int (v := nI (j + 3)) (ynj (by decide)) ?_
  refine va_sld hx hb hX hbl hbA hS (vp_in_nI (by omega) (by omega)) dL_law_228 ?_
  refine lv_topi (fun v228 ev228 => ?_)
  refine yy_calliL (va_runV (As := [.int v218, .int v223, .int v228]) (rest := []) ⟨hx, hb, hml, hown, hts⟩ (g_register l dC dI cyI cyZ cyO H.size (ax 0) (ux.1 0) (ax 1) (ux.1 1) (ux.1 2) (ux.1 3) (ux.1 4) (ux.1 5) (ax 2) (ux.2 0) (ax 3) (ux.2 1) (ax 4) (ux.2 2) (ax 5) (ux.2 3) (ax 6) (ux.2 4) (ax 7) (ux.2 5) (ax 8) (ux.2 6) (ax 9) (ux.2 7) (ax 10) (ux.1 6) (ax 11) (ax 12) (ux.2 8) (ax 13) (ux.2 9) (ax 14) (ux.2 10) (ax 15) (ux.2 11) (ax 16) (ux.2 12) (ax 17) (ux.2 13) (ax 18) (ux.1 7) (ax 19) (ux.2 14) (ax 20) (ux.2 15) (ax 21) (ux.1 8) (ux.1 9) (ux.1 10) (ux.1 11) (ux.1 12) (ux.1 13) (ax 22) (ux.1 14) (ax 23) (ux.2 16) (ax 24) (ux.1 15) (ux.1 16) (ux.1 17) (ux.1 18) (ux.1 19) (ux.1 20) (ax 25) (ux.1 21) (ux.1 22) (ux.1 23) (ux.1 24) (ux.1 25) (ux.1 26) (ux.1 27) (ux.1 28) (ux.1 29) (ux.1 30) (ux.1 31) (ux.1 32) (ux.1 33) (ax 26) (ux.1 34) (ax 27) (ux.2 17) (ax 28) (ux.2 18) (ax 29) (ux.2 19) (ax 30) (ux.1 35) (ux.1 36) (ux.1 37) (ax 31) (ux.2 20) (ax 32) (ux.1 38) (ux.1 39) (ux.1 40) (ax 33) (ux.2 21) (ax 34) (ux.1 41) (ax 35) (ux.2 22) (ax 36) (ux.2 23) (ax 37) (ux.1 42) (ax 38) (ux.2 24) (ax 39) (ux.2 25) (ax 40) (kpf t) v218 v223 v228 hXO.1 hXO.2.1 hXO.2.2.1 hXO.2.2.2.1 hXO.2.2.2.2.1 hXO.2.2.2.2.2.1 hXO.2.2.2.2.2.2.1 hXO.2.2.2.2.2.2.2.1 hXO.2.2.2.2.2.2.2.2.1 hXO.2.2.2.2.2.2.2.2.2) (cwV 3 hts gL_law_X10_register rfl rfl rfl (by decide +kernel) ⟨Nat.le_of_ble_eq_true rfl, Nat.le_of_ble_eq_true rfl⟩) (yPreV hK (va_P_left hP) (va_D_left hD) (ci := 10) (q0 := 0) rfl rfl) rfl rfl hl.1 rfl (lv_room (Nat.le_of_ble_eq_true rfl)) dL_law_229 ⟨by show _ ≤ 600000; omega, by show _ ≤ 7302250; omega⟩) hP hD hS hA (fun r229 ux H locs hw hP hD hS => ?_)
  have hXO : XOK ux := hw
  have hP : va_P (dC, dI) vwCl (XW cyI cyZ cyO ax ux (kpf t) ++ (MW cyI cyZ am um ++ KT cyI t)) H := hP
  have hD : va_D A (XW cyI cyZ cyO ax ux (kpf t) ++ (MW cyI cyZ am um ++ KT cyI t)) := hD
  refine lv_pop hx hb dL_law_232 rfl ?_
  refine lv_aload_n hx hb dL_law_233 rfl (lv_at hl 1 rfl) ?_
  refine lv_aload_n hx hb dL_law_234 rfl (lv_at hl 3 rfl) ?_
  refine lv_iload_n hx hb dL_law_235 rfl (lv_at hl 0 rfl) ?_
  refine lv_iconst (v := 1) hx hb dL_law_236 (by decide) ?_
  refine lv_iadd hx hb dL_law_237 ?_
  refine yy_int (v := nI (j + 1)) (ynj (by decide)) ?_
  refine va_sld hx hb hX hbl hbA hS (vp_in_nI (by omega) (by omega)) dL_law_238 ?_
  refine lv_topi (fun v238 ev238 => ?_)
  refine lv_aload_n hx hb dL_law_239 rfl (lv_at hl 3 rfl) ?_
  refine lv_iload_n hx hb dL_law_240 rfl (lv_at hl 0 rfl) ?_
  refine lv_iconst (v := 2) hx hb dL_law_241 (by decide) ?_
  refine lv_iadd hx hb dL_law_242 ?_
  refine yy_int (v := nI (j + 2)) (ynj (by decide)) ?_
  refine va_sld hx hb hX hbl hbA hS (vp_in_nI (by omega) (by omega)) dL_law_243 ?_
  refine lv_topi (fun v243 ev243 => ?_)
  refine lv_aload_n hx hb dL_law_244 rfl (lv_at hl 3 rfl) ?_
  refine lv_iload_n hx hb dL_law_245 rfl (lv_at hl 0 rfl) ?_
  refine lv_iconst (v := 3) hx hb dL_law_246 (by decide) ?_
  refine lv_iadd hx hb dL_law_247 ?_
  refine yy_int (v := nI (j + 3)) (ynj (by decide)) ?_
  refine va_sld hx hb hX hbl hbA hS (vp_in_nI (by omega) (by omega)) dL_law_248 ?_
  refine lv_topi (fun v248 ev248 => ?_)
  have hP := yrotP hP
  have hD := yrotD hD
  refine yy_calliL (va_runV (As := [.int v238, .int v243, .int v248]) (rest := []) ⟨hx, hb, hml, hown, hts⟩ (p_register l dC dI cyI cyZ cyO H.size (am 0) (um.1 0) (um.1 1) (um.1 2) (um.1 3) (um.1 4) (um.1 5) (um.1 6) (um.1 7) (am 1) (um.2 0) (am 2) (um.2 1) (am 3) (um.2 2) (am 4) (um.2 3) (am 5) (um.2 4) (am 6) (um.2 5) (am 7) (um.2 6) (am 8) (um.2 7) (am 9) (um.2 8) (am 10) (um.2 9) (am 11) (um.2 10) (am 12) (um.2 11) (am 13) (um.2 12) (am 14) (um.2 13) (am 15) (um.2 14) (am 16) (um.2 15) v238 v243 v248 n hMO.1 hMO.2.1 hMO.2.2.1 hMO.2.2.2.1 hMO.2.2.2.2.1 hn hn0 hMO.2.2.2.2.2) (cwV 3 hts gL_law_X11_register rfl rfl rfl (by decide +kernel) ⟨Nat.le_of_ble_eq_true rfl, Nat.le_of_ble_eq_true rfl⟩) (yPreV hK (va_P_left hP) (va_D_left hD) (ci := 11) (q0 := 0) rfl rfl) rfl rfl hl.1 rfl (lv_room (Nat.le_of_ble_eq_true rfl)) dL_law_249 ⟨by show _ ≤ 600000; omega, by show _ ≤ 7302250; omega⟩) hP hD hS hA (fun r249 um H locs hw hP hD hS => ?_)
  have hMO : MOK (n + 32000) um := hw
  have hP : va_P (dC, dI) vwCl (MW cyI cyZ am um ++ (XW cyI cyZ cyO ax ux (kpf t) ++ KT cyI t)) H := hP
  have hD : va_D A (MW cyI cyZ am um ++ (XW cyI cyZ cyO ax ux (kpf t) ++ KT cyI t)) := hD
  have hP := yrotP hP
  have hD := yrotD hD
  refine lv_pop hx hb dL_law_252 rfl ?_
  refine lv_goto (tgt := 838) hx hb dL_law_253 (by decide) ?_
  refine W.widen (k := k0 + 26) (n := s0 + 2545) (by omega) (by omega) ?_
  exact fin _ _ _ _ _ _ hXO hMO hTO hP hD hS hl
set_option maxHeartbeats 4000000 in
set_option maxRecDepth 100000 in
/-- the law: depth -/
theorem law_depth {p : Program} {e : Env} {s : State} {m : MethodId} {below : List Frame} {meth : Method} {c : Code} (l : Launch) {b L : Nat} {xs : Nat → Int32} (hL : L ≤ 3072) (C0 : lw_At p s m meth c b L xs) {dC : Nat → ClassId} {dI : Nat → Nat → Nat} {cyI cyZ cyO : ClassId} {A : Nat → Prop} (hA : ∀ q : Nat, s.heap.size ≤ q → A q) (hbA : ¬ A b) (hN : yN s) (hK : va_K (dC, dI) vwCl (yT cyI cyZ cyO) s) (ax am : Nat → Nat) (j : Nat) (hj : j + 6 ≤ L) (n : Int) (hn0 : 0 ≤ n) (hn : n ≤ 1400000000) (k0 s0 : Nat) (hk0 : k0 + 26 ≤ 600000) (hs0 : s0 + 2545 ≤ 7302250) (ux um : yU) (t : Nat → Option KS) {H : Heap} {locs : List Loc} (hXO : XOK ux) (hMO : MOK n um) (hTO : TOK t) (hP : va_P (dC, dI) vwCl (XW cyI cyZ cyO ax ux (kpf t) ++ (MW cyI cyZ am um ++ KT cyI t)) H) (hD : va_D A (XW cyI cyZ cyO ax ux (kpf t) ++ (MW cyI cyZ am um ++ KT cyI t))) (hS : va_S A s.heap H locs) {ls : Array Slot} (hl : lv_has ls 4 [(3, .int (nI j)), (2, .ref (am 0)), (1, .ref (ax 0)), (0, .ref b)]) (fin : ∀ (ux um : yU) (t : Nat → Option KS) (H : Heap) (locs : List Loc) (ls : Array Slot), XOK ux → MOK (n + 32000) um → TOK t → va_P (dC, dI) vwCl (XW cyI cyZ cyO ax ux (kpf t) ++ (MW cyI cyZ am um ++ KT cyI t)) H → va_D A (XW cyI cyZ cyO ax ux (kpf t) ++ (MW cyI cyZ am um ++ KT cyI t)) → va_S A s.heap H locs → lv_has ls 4 [(3, .int (nI j)), (2, .ref (am 0)), (1, .ref (ax 0)), (0, .ref b)] → W p l e room_1 s m #[Value.ref b] below meth c H locs (k0 + 26) (s0 + 2545) (lw_Z below #[Value.ref b] s) (F0 m 838 ls [])) : W p l e room_1 s m #[Value.ref b] below meth c H locs k0 s0 (lw_Z below #[Value.ref b] s) (F0 m 256 ls []) := by
  obtain ⟨hx, hb, hr, hml, hown0, hts0, hX, hbl, hlk, hgv⟩ := C0
  have hown : s.vm.findClass RL = some m.cls := hown0
  have hts : ∀ w ∈ wsL_law, w.before #[Value.ref b] s = true := fun w h => hts0 w (wsL_law_in w h)
  refine lv_aload_n hx hb dL_law_256 rfl (lv_at hl 2 rfl) ?_
  refine lv_aload_n hx hb dL_law_257 rfl (lv_at hl 3 rfl) ?_
  refine lv_iload_n hx hb dL_law_258 rfl (lv_at hl 0 rfl) ?_
  refine lv_iconst (v := 1) hx hb dL_law_259 (by decide) ?_
  refine lv_iadd hx hb dL_law_260 ?_
  refine yy_int (v := nI (j + 1)) (ynj (by decide)) ?_
  refine va_sld hx hb hX hbl hbA hS (vp_in_nI (by omega) (by omega)) dL_law_261 ?_
  refine lv_topi (fun v261 ev261 => ?_)
  refine yy_calliL (va_runV (As := [.int v261]) (rest := []) ⟨hx, hb, hml, hown, hts⟩ (g_depth l dC dI cyI cyZ cyO H.size (ax 0) (ux.1 0) (ax 1) (ux.1 1) (ux.1 2) (ux.1 3) (ux.1 4) (ux.1 5) (ax 2) (ux.2 0) (ax 3) (ux.2 1) (ax 4) (ux.2 2) (ax 5) (ux.2 3) (ax 6) (ux.2 4) (ax 7) (ux.2 5) (ax 8) (ux.2 6) (ax 9) (ux.2 7) (ax 10) (ux.1 6) (ax 11) (ax 12) (ux.2 8) (ax 13) (ux.2 9) (ax 14) (ux.2 10) (ax 15) (ux.2 11) (ax 16) (ux.2 12) (ax 17) (ux.2 13) (ax 18) (ux.1 7) (ax 19) (ux.2 14) (ax 20) (ux.2 15) (ax 21) (ux.1 8) (ux.1 9) (ux.1 10) (ux.1 11) (ux.1 12) (ux.1 13) (ax 22) (ux.1 14) (ax 23) (ux.2 16) (ax 24) (ux.1 15) (ux.1 16) (ux.1 17) (ux.1 18) (ux.1 19) (ux.1 20) (ax 25) (ux.1 21) (ux.1 22) (ux.1 23) (ux.1 24) (ux.1 25) (ux.1 26) (ux.1 27) (ux.1 28) (ux.1 29) (ux.1 30) (ux.1 31) (ux.1 32) (ux.1 33) (ax 26) (ux.1 34) (ax 27) (ux.2 17) (ax 28) (ux.2 18) (ax 29) (ux.2 19) (ax 30) (ux.1 35) (ux.1 36) (ux.1 37) (ax 31) (ux.2 20) (ax 32) (ux.1 38) (ux.1 39) (ux.1 40) (ax 33) (ux.2 21) (ax 34) (ux.1 41) (ax 35) (ux.2 22) (ax 36) (ux.2 23) (ax 37) (ux.1 42) (ax 38) (ux.2 24) (ax 39) (ux.2 25) (ax 40) (kpf t) v261 hXO.1 hXO.2.1 hXO.2.2.1 hXO.2.2.2.1 hXO.2.2.2.2.1 hXO.2.2.2.2.2.1 hXO.2.2.2.2.2.2.1 hXO.2.2.2.2.2.2.2.1 hXO.2.2.2.2.2.2.2.2.1 hXO.2.2.2.2.2.2.2.2.2) (cwV 1 hts gL_law_X10_depth rfl rfl rfl (by decide +kernel) ⟨Nat.le_of_ble_eq_true rfl, Nat.le_of_ble_eq_true rfl⟩) (yPreV hK (va_P_left hP) (va_D_left hD) (ci := 10) (q0 := 0) rfl rfl) rfl rfl hl.1 rfl (lv_room (Nat.le_of_ble_eq_true rfl)) dL_law_262 ⟨by show _ ≤ 600000; omega, by show _ ≤ 7302250; omega⟩) hP hD hS hA (fun r262 ux H locs hw hP hD hS => ?_)
  have hXO : XOK ux := hw
  have hP : va_P (dC, dI) vwCl (XW cyI cyZ cyO ax ux (kpf t) ++ (MW cyI cyZ am um ++ KT cyI t)) H := hP
  have hD : va_D A (XW cyI cyZ cyO ax ux (kpf t) ++ (MW cyI cyZ am um ++ KT cyI t)) := hD
  refine lv_pop hx hb dL_law_265 rfl ?_
  refine lv_aload_n hx hb dL_law_266 rfl (lv_at hl 1 rfl) ?_
  refine lv_aload_n hx hb dL_law_267 rfl (lv_at hl 3 rfl) ?_
  refine lv_iload_n hx hb dL_law_268 rfl (lv_at hl 0 rfl) ?_
  refine lv_iconst (v := 1) hx hb dL_law_269 (by decide) ?_
  refine lv_iadd hx hb dL_law_270 ?_
  refine yy_int (v := nI (j + 1)) (ynj (by decide)) ?_
  refine va_sld hx hb hX hbl hbA hS (vp_in_nI (by omega) (by omega)) dL_law_271 ?_
  refine lv_topi (fun v271 ev271 => ?_)
  have hP := yrotP hP
  have hD := yrotD hD
  refine yy_calliL (va_runV (As := [.int v271]) (rest := []) ⟨hx, hb, hml, hown, hts⟩ (p_depth l dC dI cyI cyZ cyO H.size (am 0) (um.1 0) (um.1 1) (um.1 2) (um.1 3) (um.1 4) (um.1 5) (um.1 6) (um.1 7) (am 1) (um.2 0) (am 2) (um.2 1) (am 3) (um.2 2) (am 4) (um.2 3) (am 5) (um.2 4) (am 6) (um.2 5) (am 7) (um.2 6) (am 8) (um.2 7) (am 9) (um.2 8) (am 10) (um.2 9) (am 11) (um.2 10) (am 12) (um.2 11) (am 13) (um.2 12) (am 14) (um.2 13) (am 15) (um.2 14) (am 16) (um.2 15) v271 n hMO.1 hMO.2.1 hMO.2.2.1 hMO.2.2.2.1 hMO.2.2.2.2.1 hn hn0 hMO.2.2.2.2.2) (cwV 1 hts gL_law_X11_depth rfl rfl rfl (by decide +kernel) ⟨Nat.le_of_ble_eq_true rfl, Nat.le_of_ble_eq_true rfl⟩) (yPreV hK (va_P_left hP) (va_D_left hD) (ci := 11) (q0 := 0) rfl rfl) rfl rfl hl.1 rfl (lv_room (Nat.le_of_ble_eq_true rfl)) dL_law_272 ⟨by show _ ≤ 600000; omega, by show _ ≤ 7302250; omega⟩) hP hD hS hA (fun r272 um H locs hw hP hD hS => ?_)
  have hMO : MOK (n + 32000) um := hw
  have hP : va_P (dC, dI) vwCl (MW cyI cyZ am um ++ (XW cyI cyZ cyO ax ux (kpf t) ++ KT cyI t)) H := hP
  have hD : va_D A (MW cyI cyZ am um ++ (XW cyI cyZ cyO ax ux (kpf t) ++ KT cyI t)) := hD
  have hP := yrotP hP
  have hD := yrotD hD
  refine lv_pop hx hb dL_law_275 rfl ?_
  refine lv_goto (tgt := 838) hx hb dL_law_276 (by decide) ?_
  refine W.widen (k := k0 + 26) (n := s0 + 2545) (by omega) (by omega) ?_
  exact fin _ _ _ _ _ _ hXO hMO hTO hP hD hS hl
set_option maxHeartbeats 4000000 in
set_option maxRecDepth 100000 in
/-- the law: limit -/
theorem law_limit {p : Program} {e : Env} {s : State} {m : MethodId} {below : List Frame} {meth : Method} {c : Code} (l : Launch) {b L : Nat} {xs : Nat → Int32} (hL : L ≤ 3072) (C0 : lw_At p s m meth c b L xs) {dC : Nat → ClassId} {dI : Nat → Nat → Nat} {cyI cyZ cyO : ClassId} {A : Nat → Prop} (hA : ∀ q : Nat, s.heap.size ≤ q → A q) (hbA : ¬ A b) (hN : yN s) (hK : va_K (dC, dI) vwCl (yT cyI cyZ cyO) s) (ax am : Nat → Nat) (j : Nat) (hj : j + 6 ≤ L) (n : Int) (hn0 : 0 ≤ n) (hn : n ≤ 1400000000) (k0 s0 : Nat) (hk0 : k0 + 26 ≤ 600000) (hs0 : s0 + 2545 ≤ 7302250) (ux um : yU) (t : Nat → Option KS) {H : Heap} {locs : List Loc} (hXO : XOK ux) (hMO : MOK n um) (hTO : TOK t) (hP : va_P (dC, dI) vwCl (XW cyI cyZ cyO ax ux (kpf t) ++ (MW cyI cyZ am um ++ KT cyI t)) H) (hD : va_D A (XW cyI cyZ cyO ax ux (kpf t) ++ (MW cyI cyZ am um ++ KT cyI t))) (hS : va_S A s.heap H locs) {ls : Array Slot} (hl : lv_has ls 4 [(3, .int (nI j)), (2, .ref (am 0)), (1, .ref (ax 0)), (0, .ref b)]) (fin : ∀ (ux um : yU) (t : Nat → Option KS) (H : Heap) (locs : List Loc) (ls : Array Slot), XOK ux → MOK (n + 32000) um → TOK t → va_P (dC, dI) vwCl (XW cyI cyZ cyO ax ux (kpf t) ++ (MW cyI cyZ am um ++ KT cyI t)) H → va_D A (XW cyI cyZ cyO ax ux (kpf t) ++ (MW cyI cyZ am um ++ KT cyI t)) → va_S A s.heap H locs → lv_has ls 4 [(3, .int (nI j)), (2, .ref (am 0)), (1, .ref (ax 0)), (0, .ref b)] → W p l e room_1 s m #[Value.ref b] below meth c H locs (k0 + 26) (s0 + 2545) (lw_Z below #[Value.ref b] s) (F0 m 838 ls [])) : W p l e room_1 s m #[Value.ref b] below meth c H locs k0 s0 (lw_Z below #[Value.ref b] s) (F0 m 279 ls []) := by
  obtain ⟨hx, hb, hr, hml, hown0, hts0, hX, hbl, hlk, hgv⟩ := C0
  have hown : s.vm.findClass RL = some m.cls := hown0
  have hts : ∀ w ∈ wsL_law, w.before #[Value.ref b] s = true := fun w h => hts0 w (wsL_law_in w h)
  refine lv_aload_n hx hb dL_law_279 rfl (lv_at hl 2 rfl) ?_
  refine lv_aload_n hx hb dL_law_280 rfl (lv_at hl 3 rfl) ?_
  refine lv_iload_n hx hb dL_law_281 rfl (lv_at hl 0 rfl) ?_
  refine lv_iconst (v := 1) hx hb dL_law_282 (by decide) ?_
  refine lv_iadd hx hb dL_law_283 ?_
  refine yy_int (v := nI (j + 1)) (ynj (by decide)) ?_
  refine va_sld hx hb hX hbl hbA hS (vp_in_nI (by omega) (by omega)) dL_law_284 ?_
  refine lv_topi (fun v284 ev284 => ?_)
  refine yy_calliL (va_runV (As := [.int v284]) (rest := []) ⟨hx, hb, hml, hown, hts⟩ (g_limit l dC dI cyI cyZ cyO H.size (ax 0) (ux.1 0) (ax 1) (ux.1 1) (ux.1 2) (ux.1 3) (ux.1 4) (ux.1 5) (ax 2) (ux.2 0) (ax 3) (ux.2 1) (ax 4) (ux.2 2) (ax 5) (ux.2 3) (ax 6) (ux.2 4) (ax 7) (ux.2 5) (ax 8) (ux.2 6) (ax 9) (ux.2 7) (ax 10) (ux.1 6) (ax 11) (ax 12) (ux.2 8) (ax 13) (ux.2 9) (ax 14) (ux.2 10) (ax 15) (ux.2 11) (ax 16) (ux.2 12) (ax 17) (ux.2 13) (ax 18) (ux.1 7) (ax 19) (ux.2 14) (ax 20) (ux.2 15) (ax 21) (ux.1 8) (ux.1 9) (ux.1 10) (ux.1 11) (ux.1 12) (ux.1 13) (ax 22) (ux.1 14) (ax 23) (ux.2 16) (ax 24) (ux.1 15) (ux.1 16) (ux.1 17) (ux.1 18) (ux.1 19) (ux.1 20) (ax 25) (ux.1 21) (ux.1 22) (ux.1 23) (ux.1 24) (ux.1 25) (ux.1 26) (ux.1 27) (ux.1 28) (ux.1 29) (ux.1 30) (ux.1 31) (ux.1 32) (ux.1 33) (ax 26) (ux.1 34) (ax 27) (ux.2 17) (ax 28) (ux.2 18) (ax 29) (ux.2 19) (ax 30) (ux.1 35) (ux.1 36) (ux.1 37) (ax 31) (ux.2 20) (ax 32) (ux.1 38) (ux.1 39) (ux.1 40) (ax 33) (ux.2 21) (ax 34) (ux.1 41) (ax 35) (ux.2 22) (ax 36) (ux.2 23) (ax 37) (ux.1 42) (ax 38) (ux.2 24) (ax 39) (ux.2 25) (ax 40) (kpf t) v284 hXO.1 hXO.2.1 hXO.2.2.1 hXO.2.2.2.1 hXO.2.2.2.2.1 hXO.2.2.2.2.2.1 hXO.2.2.2.2.2.2.1 hXO.2.2.2.2.2.2.2.1 hXO.2.2.2.2.2.2.2.2.1 hXO.2.2.2.2.2.2.2.2.2) (cwV 1 hts gL_law_X10_limit rfl rfl rfl (by decide +kernel) ⟨Nat.le_of_ble_eq_true rfl, Nat.le_of_ble_eq_true rfl⟩) (yPreV hK (va_P_left hP) (va_D_left hD) (ci := 10) (q0 := 0) rfl rfl) rfl rfl hl.1 rfl (lv_room (Nat.le_of_ble_eq_true rfl)) dL_law_285 ⟨by show _ ≤ 600000; omega, by show _ ≤ 7302250; omega⟩) hP hD hS hA (fun r285 ux H locs hw hP hD hS => ?_)
  have hXO : XOK ux := hw
  have hP : va_P (dC, dI) vwCl (XW cyI cyZ cyO ax ux (kpf t) ++ (MW cyI cyZ am um ++ KT cyI t)) H := hP
  have hD : va_D A (XW cyI cyZ cyO ax ux (kpf t) ++ (MW cyI cyZ am um ++ KT cyI t)) := hD
  refine lv_pop hx hb dL_law_288 rfl ?_
  refine lv_aload_n hx hb dL_law_289 rfl (lv_at hl 1 rfl) ?_
  refine lv_aload_n hx hb dL_law_290 rfl (lv_at hl 3 rfl) ?_
  refine lv_iload_n hx hb dL_law_291 rfl (lv_at hl 0 rfl) ?_
  refine lv_iconst (v := 1) hx hb dL_law_292 (by decide) ?_
  refine lv_iadd hx hb dL_law_293 ?_
  refine yy_int (v := nI (j + 1)) (ynj (by decide)) ?_
  refine va_sld hx hb hX hbl hbA hS (vp_in_nI (by omega) (by omega)) dL_law_294 ?_
  refine lv_topi (fun v294 ev294 => ?_)
  have hP := yrotP hP
  have hD := yrotD hD
  refine yy_calliL (va_runV (As := [.int v294]) (rest := []) ⟨hx, hb, hml, hown, hts⟩ (p_limit l dC dI cyI cyZ cyO H.size (am 0) (um.1 0) (um.1 1) (um.1 2) (um.1 3) (um.1 4) (um.1 5) (um.1 6) (um.1 7) (am 1) (um.2 0) (am 2) (um.2 1) (am 3) (um.2 2) (am 4) (um.2 3) (am 5) (um.2 4) (am 6) (um.2 5) (am 7) (um.2 6) (am 8) (um.2 7) (am 9) (um.2 8) (am 10) (um.2 9) (am 11) (um.2 10) (am 12) (um.2 11) (am 13) (um.2 12) (am 14) (um.2 13) (am 15) (um.2 14) (am 16) (um.2 15) v294 n hMO.1 hMO.2.1 hMO.2.2.1 hMO.2.2.2.1 hMO.2.2.2.2.1 hn hn0 hMO.2.2.2.2.2) (cwV 1 hts gL_law_X11_limit rfl rfl rfl (by decide +kernel) ⟨Nat.le_of_ble_eq_true rfl, Nat.le_of_ble_eq_true rfl⟩) (yPreV hK (va_P_left hP) (va_D_left hD) (ci := 11) (q0 := 0) rfl rfl) rfl rfl hl.1 rfl (lv_room (Nat.le_of_ble_eq_true rfl)) dL_law_295 ⟨by show _ ≤ 600000; omega, by show _ ≤ 7302250; omega⟩) hP hD hS hA (fun r295 um H locs hw hP hD hS => ?_)
  have hMO : MOK (n + 32000) um := hw
  have hP : va_P (dC, dI) vwCl (MW cyI cyZ am um ++ (XW cyI cyZ cyO ax ux (kpf t) ++ KT cyI t)) H := hP
  have hD : va_D A (MW cyI cyZ am um ++ (XW cyI cyZ cyO ax ux (kpf t) ++ KT cyI t)) := hD
  have hP := yrotP hP
  have hD := yrotD hD
  refine lv_pop hx hb dL_law_298 rfl ?_
  refine lv_goto (tgt := 838) hx hb dL_law_299 (by decide) ?_
  refine W.widen (k := k0 + 26) (n := s0 + 2545) (by omega) (by omega) ?_
  exact fin _ _ _ _ _ _ hXO hMO hTO hP hD hS hl
set_option maxHeartbeats 4000000 in
set_option maxRecDepth 100000 in
/-- the law: reset -/
theorem law_reset {p : Program} {e : Env} {s : State} {m : MethodId} {below : List Frame} {meth : Method} {c : Code} (l : Launch) {b L : Nat} {xs : Nat → Int32} (hL : L ≤ 3072) (C0 : lw_At p s m meth c b L xs) {dC : Nat → ClassId} {dI : Nat → Nat → Nat} {cyI cyZ cyO : ClassId} {A : Nat → Prop} (hA : ∀ q : Nat, s.heap.size ≤ q → A q) (hbA : ¬ A b) (hN : yN s) (hK : va_K (dC, dI) vwCl (yT cyI cyZ cyO) s) (ax am : Nat → Nat) (j : Nat) (hj : j + 6 ≤ L) (n : Int) (hn0 : 0 ≤ n) (hn : n ≤ 1400000000) (k0 s0 : Nat) (hk0 : k0 + 26 ≤ 600000) (hs0 : s0 + 2545 ≤ 7302250) (ux um : yU) (t : Nat → Option KS) {H : Heap} {locs : List Loc} (hXO : XOK ux) (hMO : MOK n um) (hTO : TOK t) (hP : va_P (dC, dI) vwCl (XW cyI cyZ cyO ax ux (kpf t) ++ (MW cyI cyZ am um ++ KT cyI t)) H) (hD : va_D A (XW cyI cyZ cyO ax ux (kpf t) ++ (MW cyI cyZ am um ++ KT cyI t))) (hS : va_S A s.heap H locs) {ls : Array Slot} (hl : lv_has ls 4 [(3, .int (nI j)), (2, .ref (am 0)), (1, .ref (ax 0)), (0, .ref b)]) (fin : ∀ (ux um : yU) (t : Nat → Option KS) (H : Heap) (locs : List Loc) (ls : Array Slot), XOK ux → MOK (n + 32000) um → TOK t → va_P (dC, dI) vwCl (XW cyI cyZ cyO ax ux (kpf t) ++ (MW cyI cyZ am um ++ KT cyI t)) H → va_D A (XW cyI cyZ cyO ax ux (kpf t) ++ (MW cyI cyZ am um ++ KT cyI t)) → va_S A s.heap H locs → lv_has ls 4 [(3, .int (nI j)), (2, .ref (am 0)), (1, .ref (ax 0)), (0, .ref b)] → W p l e room_1 s m #[Value.ref b] below meth c H locs (k0 + 26) (s0 + 2545) (lw_Z below #[Value.ref b] s) (F0 m 838 ls [])) : W p l e room_1 s m #[Value.ref b] below meth c H locs k0 s0 (lw_Z below #[Value.ref b] s) (F0 m 302 ls []) := by
  obtain ⟨hx, hb, hr, hml, hown0, hts0, hX, hbl, hlk, hgv⟩ := C0
  have hown : s.vm.findClass RL = some m.cls := hown0
  have hts : ∀ w ∈ wsL_law, w.before #[Value.ref b] s = true := fun w h => hts0 w (wsL_law_in w h)
  refine lv_aload_n hx hb dL_law_302 rfl (lv_at hl 2 rfl) ?_
  refine yy_calliL (va_runV (As := []) (rest := []) ⟨hx, hb, hml, hown, hts⟩ (g_reset l dC dI cyI cyZ cyO H.size (ax 0) (ux.1 0) (ax 1) (ux.1 1) (ux.1 2) (ux.1 3) (ux.1 4) (ux.1 5) (ax 2) (ux.2 0) (ax 3) (ux.2 1) (ax 4) (ux.2 2) (ax 5) (ux.2 3) (ax 6) (ux.2 4) (ax 7) (ux.2 5) (ax 8) (ux.2 6) (ax 9) (ux.2 7) (ax 10) (ux.1 6) (ax 11) (ax 12) (ux.2 8) (ax 13) (ux.2 9) (ax 14) (ux.2 10) (ax 15) (ux.2 11) (ax 16) (ux.2 12) (ax 17) (ux.2 13) (ax 18) (ux.1 7) (ax 19) (ux.2 14) (ax 20) (ux.2 15) (ax 21) (ux.1 8) (ux.1 9) (ux.1 10) (ux.1 11) (ux.1 12) (ux.1 13) (ax 22) (ux.1 14) (ax 23) (ux.2 16) (ax 24) (ux.1 15) (ux.1 16) (ux.1 17) (ux.1 18) (ux.1 19) (ux.1 20) (ax 25) (ux.1 21) (ux.1 22) (ux.1 23) (ux.1 24) (ux.1 25) (ux.1 26) (ux.1 27) (ux.1 28) (ux.1 29) (ux.1 30) (ux.1 31) (ux.1 32) (ux.1 33) (ax 26) (ux.1 34) (ax 27) (ux.2 17) (ax 28) (ux.2 18) (ax 29) (ux.2 19) (ax 30) (ux.1 35) (ux.1 36) (ux.1 37) (ax 31) (ux.2 20) (ax 32) (ux.1 38) (ux.1 39) (ux.1 40) (ax 33) (ux.2 21) (ax 34) (ux.1 41) (ax 35) (ux.2 22) (ax 36) (ux.2 23) (ax 37) (ux.1 42) (ax 38) (ux.2 24) (ax 39) (ux.2 25) (ax 40) (kpf t) hXO.1 hXO.2.1 hXO.2.2.1 hXO.2.2.2.1 hXO.2.2.2.2.1 hXO.2.2.2.2.2.1 hXO.2.2.2.2.2.2.1 hXO.2.2.2.2.2.2.2.1 hXO.2.2.2.2.2.2.2.2.1 hXO.2.2.2.2.2.2.2.2.2) (cwV 0 hts gL_law_X10_reset rfl rfl rfl (by decide +kernel) ⟨Nat.le_of_ble_eq_true rfl, Nat.le_of_ble_eq_true rfl⟩) (yPreV hK (va_P_left hP) (va_D_left hD) (ci := 10) (q0 := 0) rfl rfl) rfl rfl hl.1 rfl (lv_room (Nat.le_of_ble_eq_true rfl)) dL_law_303 ⟨by show _ ≤ 600000; omega, by show _ ≤ 7302250; omega⟩) hP hD hS hA (fun r303 ux H locs hw hP hD hS => ?_)
  have hXO : XOK ux := hw
  have hP : va_P (dC, dI) vwCl (XW cyI cyZ cyO ax ux (kpf t) ++ (MW cyI cyZ am um ++ KT cyI t)) H := hP
  have hD : va_D A (XW cyI cyZ cyO ax ux (kpf t) ++ (MW cyI cyZ am um ++ KT cyI t)) := hD
  refine lv_pop hx hb dL_law_306 rfl ?_
  refine lv_aload_n hx hb dL_law_307 rfl (lv_at hl 1 rfl) ?_
  have hP := yrotP hP
  have hD := yrotD hD
  refine yy_calliL (va_runV (As := []) (rest := []) ⟨hx, hb, hml, hown, hts⟩ (p_reset l dC dI cyI cyZ cyO H.size (am 0) (um.1 0) (um.1 1) (um.1 2) (um.1 3) (um.1 4) (um.1 5) (um.1 6) (um.1 7) (am 1) (um.2 0) (am 2) (um.2 1) (am 3) (um.2 2) (am 4) (um.2 3) (am 5) (um.2 4) (am 6) (um.2 5) (am 7) (um.2 6) (am 8) (um.2 7) (am 9) (um.2 8) (am 10) (um.2 9) (am 11) (um.2 10) (am 12) (um.2 11) (am 13) (um.2 12) (am 14) (um.2 13) (am 15) (um.2 14) (am 16) (um.2 15) n hMO.1 hMO.2.1 hMO.2.2.1 hMO.2.2.2.1 hMO.2.2.2.2.1 hn hn0 hMO.2.2.2.2.2) (cwV 0 hts gL_law_X11_reset rfl rfl rfl (by decide +kernel) ⟨Nat.le_of_ble_eq_true rfl, Nat.le_of_ble_eq_true rfl⟩) (yPreV hK (va_P_left hP) (va_D_left hD) (ci := 11) (q0 := 0) rfl rfl) rfl rfl hl.1 rfl (lv_room (Nat.le_of_ble_eq_true rfl)) dL_law_308 ⟨by show _ ≤ 600000; omega, by show _ ≤ 7302250; omega⟩) hP hD hS hA (fun r308 um H locs hw hP hD hS => ?_)
  have hMO : MOK (n + 32000) um := hw
  have hP : va_P (dC, dI) vwCl (MW cyI cyZ am um ++ (XW cyI cyZ cyO ax ux (kpf t) ++ KT cyI t)) H := hP
  have hD : va_D A (MW cyI cyZ am um ++ (XW cyI cyZ cyO ax ux (kpf t) ++ KT cyI t)) := hD
  have hP := yrotP hP
  have hD := yrotD hD
  refine lv_pop hx hb dL_law_311 rfl ?_
  refine lv_goto (tgt := 838) hx hb dL_law_312 (by decide) ?_
  refine W.widen (k := k0 + 26) (n := s0 + 2545) (by omega) (by omega) ?_
  exact fin _ _ _ _ _ _ hXO hMO hTO hP hD hS hl
set_option maxHeartbeats 4000000 in
set_option maxRecDepth 100000 in
/-- the law: transfer -/
theorem law_transfer {p : Program} {e : Env} {s : State} {m : MethodId} {below : List Frame} {meth : Method} {c : Code} (l : Launch) {b L : Nat} {xs : Nat → Int32} (hL : L ≤ 3072) (C0 : lw_At p s m meth c b L xs) {dC : Nat → ClassId} {dI : Nat → Nat → Nat} {cyI cyZ cyO : ClassId} {A : Nat → Prop} (hA : ∀ q : Nat, s.heap.size ≤ q → A q) (hbA : ¬ A b) (hN : yN s) (hK : va_K (dC, dI) vwCl (yT cyI cyZ cyO) s) (ax am : Nat → Nat) (j : Nat) (hj : j + 6 ≤ L) (n : Int) (hn0 : 0 ≤ n) (hn : n ≤ 1400000000) (k0 s0 : Nat) (hk0 : k0 + 26 ≤ 600000) (hs0 : s0 + 2545 ≤ 7302250) (ux um : yU) (t : Nat → Option KS) {H : Heap} {locs : List Loc} (hXO : XOK ux) (hMO : MOK n um) (hTO : TOK t) (hP : va_P (dC, dI) vwCl (XW cyI cyZ cyO ax ux (kpf t) ++ (MW cyI cyZ am um ++ KT cyI t)) H) (hD : va_D A (XW cyI cyZ cyO ax ux (kpf t) ++ (MW cyI cyZ am um ++ KT cyI t))) (hS : va_S A s.heap H locs) {ls : Array Slot} (hl : lv_has ls 4 [(3, .int (nI j)), (2, .ref (am 0)), (1, .ref (ax 0)), (0, .ref b)]) (fin : ∀ (ux um : yU) (t : Nat → Option KS) (H : Heap) (locs : List Loc) (ls : Array Slot), XOK ux → MOK (n + 32000) um → TOK t → va_P (dC, dI) vwCl (XW cyI cyZ cyO ax ux (kpf t) ++ (MW cyI cyZ am um ++ KT cyI t)) H → va_D A (XW cyI cyZ cyO ax ux (kpf t) ++ (MW cyI cyZ am um ++ KT cyI t)) → va_S A s.heap H locs → lv_has ls 4 [(3, .int (nI j)), (2, .ref (am 0)), (1, .ref (ax 0)), (0, .ref b)] → W p l e room_1 s m #[Value.ref b] below meth c H locs (k0 + 26) (s0 + 2545) (lw_Z below #[Value.ref b] s) (F0 m 838 ls [])) : W p l e room_1 s m #[Value.ref b] below meth c H locs k0 s0 (lw_Z below #[Value.ref b] s) (F0 m 315 ls []) := by
  obtain ⟨hx, hb, hr, hml, hown0, hts0, hX, hbl, hlk, hgv⟩ := C0
  have hown : s.vm.findClass RL = some m.cls := hown0
  have hts : ∀ w ∈ wsL_law, w.before #[Value.ref b] s = true := fun w h => hts0 w (wsL_law_in w h)
  refine lv_aload_n hx hb dL_law_315 rfl (lv_at hl 2 rfl) ?_
  refine lv_aload_n hx hb dL_law_316 rfl (lv_at hl 3 rfl) ?_
  refine lv_iload_n hx hb dL_law_317 rfl (lv_at hl 0 rfl) ?_
  refine lv_iconst (v := 1) hx hb dL_law_318 (by decide) ?_
  refine lv_iadd hx hb dL_law_319 ?_
  refine yy_int (v := nI (j + 1)) (ynj (by decide)) ?_
  refine va_sld hx hb hX hbl hbA hS (vp_in_nI (by omega) (by omega)) dL_law_320 ?_
  refine lv_topi (fun v320 ev320 => ?_)
  refine lv_aload_n hx hb dL_law_321 rfl (lv_at hl 3 rfl) ?_
  refine lv_iload_n hx hb dL_law_322 rfl (lv_at hl 0 rfl) ?_
  refine lv_iconst (v := 2) hx hb dL_law_323 (by decide) ?_
  refine lv_iadd hx hb dL_law_324 ?_
  refine yy_int (v := nI (j + 2)) (ynj (by decide)) ?_
  refine va_sld hx hb hX hbl hbA hS (vp_in_nI (by omega) (by omega)) dL_law_325 ?_
  refine lv_topi (fun v325 ev325 => ?_)
  refine lv_if_eq (tgt := 333) hx hb dL_law_326 (by decide) (fun c326 => ?_) (fun c326 => ?_)
  · refine lv_iconst (v := 0) hx hb dL_law_333 (by decide) ?_
    refine lv_aload_n hx hb dL_law_334 rfl (lv_at hl 3 rfl) ?_
    refine lv_iload_n hx hb dL_law_335 rfl (lv_at hl 0 rfl) ?_
    refine lv_iconst (v := 3) hx hb dL_law_336 (by decide) ?_
    refine lv_iadd hx hb dL_law_337 ?_
    refine yy_int (v := nI (j + 3)) (ynj (by decide)) ?_
    refine va_sld hx hb hX hbl hbA hS (vp_in_nI (by omega) (by omega)) dL_law_338 ?_
    refine lv_topi (fun v338 ev338 => ?_)
    refine lv_aload_n hx hb dL_law_339 rfl (lv_at hl 3 rfl) ?_
    refine lv_iload_n hx hb dL_law_340 rfl (lv_at hl 0 rfl) ?_
    refine lv_iconst (v := 4) hx hb dL_law_341 (by decide) ?_
    refine lv_iadd hx hb dL_law_342 ?_
    refine yy_int (v := nI (j + 4)) (ynj (by decide)) ?_
    refine va_sld hx hb hX hbl hbA hS (vp_in_nI (by omega) (by omega)) dL_law_343 ?_
    refine lv_topi (fun v343 ev343 => ?_)
    refine lv_aload_n hx hb dL_law_344 rfl (lv_at hl 3 rfl) ?_
    refine lv_iload_n hx hb dL_law_345 rfl (lv_at hl 0 rfl) ?_
    refine lv_iconst (v := 5) hx hb dL_law_346 (by decide) ?_
    refine lv_iadd hx hb dL_law_347 ?_
    refine yy_int (v := nI (j + 5)) (ynj (by decide)) ?_
    refine va_sld hx hb hX hbl hbA hS (vp_in_nI (by omega) (by omega)) dL_law_348 ?_
    refine lv_topi (fun v348 ev348 => ?_)
    refine yy_calliL (va_runV (As := [.int v320, .int 0, .int v338, .int v343, .int v348]) (rest := []) ⟨hx, hb, hml, hown, hts⟩ (g_transfer l dC dI cyI cyZ cyO H.size (ax 0) (ux.1 0) (ax 1) (ux.1 1) (ux.1 2) (ux.1 3) (ux.1 4) (ux.1 5) (ax 2) (ux.2 0) (ax 3) (ux.2 1) (ax 4) (ux.2 2) (ax 5) (ux.2 3) (ax 6) (ux.2 4) (ax 7) (ux.2 5) (ax 8) (ux.2 6) (ax 9) (ux.2 7) (ax 10) (ux.1 6) (ax 11) (ax 12) (ux.2 8) (ax 13) (ux.2 9) (ax 14) (ux.2 10) (ax 15) (ux.2 11) (ax 16) (ux.2 12) (ax 17) (ux.2 13) (ax 18) (ux.1 7) (ax 19) (ux.2 14) (ax 20) (ux.2 15) (ax 21) (ux.1 8) (ux.1 9) (ux.1 10) (ux.1 11) (ux.1 12) (ux.1 13) (ax 22) (ux.1 14) (ax 23) (ux.2 16) (ax 24) (ux.1 15) (ux.1 16) (ux.1 17) (ux.1 18) (ux.1 19) (ux.1 20) (ax 25) (ux.1 21) (ux.1 22) (ux.1 23) (ux.1 24) (ux.1 25) (ux.1 26) (ux.1 27) (ux.1 28) (ux.1 29) (ux.1 30) (ux.1 31) (ux.1 32) (ux.1 33) (ax 26) (ux.1 34) (ax 27) (ux.2 17) (ax 28) (ux.2 18) (ax 29) (ux.2 19) (ax 30) (ux.1 35) (ux.1 36) (ux.1 37) (ax 31) (ux.2 20) (ax 32) (ux.1 38) (ux.1 39) (ux.1 40) (ax 33) (ux.2 21) (ax 34) (ux.1 41) (ax 35) (ux.2 22) (ax 36) (ux.2 23) (ax 37) (ux.1 42) (ax 38) (ux.2 24) (ax 39) (ux.2 25) (ax 40) (kpf t) v320 0 v338 v343 v348 hXO.1 hXO.2.1 hXO.2.2.1 hXO.2.2.2.1 hXO.2.2.2.2.1 hXO.2.2.2.2.2.1 hXO.2.2.2.2.2.2.1 hXO.2.2.2.2.2.2.2.1 hXO.2.2.2.2.2.2.2.2.1 hXO.2.2.2.2.2.2.2.2.2) (cwV 5 hts gL_law_X10_transfer rfl rfl rfl (by decide +kernel) ⟨Nat.le_of_ble_eq_true rfl, Nat.le_of_ble_eq_true rfl⟩) (yPreV hK (va_P_left hP) (va_D_left hD) (ci := 10) (q0 := 0) rfl rfl) rfl rfl hl.1 rfl (lv_room (Nat.le_of_ble_eq_true rfl)) dL_law_349 ⟨by show _ ≤ 600000; omega, by show _ ≤ 7302250; omega⟩) hP hD hS hA (fun r349 ux H locs hw hP hD hS => ?_)
    have hXO : XOK ux := hw
    have hP : va_P (dC, dI) vwCl (XW cyI cyZ cyO ax ux (kpf t) ++ (MW cyI cyZ am um ++ KT cyI t)) H := hP
    have hD : va_D A (XW cyI cyZ cyO ax ux (kpf t) ++ (MW cyI cyZ am um ++ KT cyI t)) := hD
    refine lv_pop hx hb dL_law_352 rfl ?_
    refine lv_aload_n hx hb dL_law_353 rfl (lv_at hl 1 rfl) ?_
    refine lv_aload_n hx hb dL_law_354 rfl (lv_at hl 3 rfl) ?_
    refine lv_iload_n hx hb dL_law_355 rfl (lv_at hl 0 rfl) ?_
    refine lv_iconst (v := 1) hx hb dL_law_356 (by decide) ?_
    refine lv_iadd hx hb dL_law_357 ?_
    refine yy_int (v := nI (j + 1)) (ynj (by decide)) ?_
    refine va_sld hx hb hX hbl hbA hS (vp_in_nI (by omega) (by omega)) dL_law_358 ?_
    refine lv_topi (fun v358 ev358 => ?_)
    refine lv_aload_n hx hb dL_law_359 rfl (lv_at hl 3 rfl) ?_
    refine lv_iload_n hx hb dL_law_360 rfl (lv_at hl 0 rfl) ?_
    refine lv_iconst (v := 2) hx hb dL_law_361 (by decide) ?_
    refine lv_iadd hx hb dL_law_362 ?_
    refine yy_int (v := nI (j + 2)) (ynj (by decide)) ?_
    refine va_sld hx hb hX hbl hbA hS (vp_in_nI (by omega) (by omega)) dL_law_363 ?_
    refine lv_topi (fun v363 ev363 => ?_)
    refine lv_if_eq (tgt := 371) hx hb dL_law_364 (by decide) (fun c364 => ?_) (fun c364 => ?_)
    · refine lv_iconst (v := 0) hx hb dL_law_371 (by decide) ?_
      refine lv_aload_n hx hb dL_law_372 rfl (lv_at hl 3 rfl) ?_
      refine lv_iload_n hx hb dL_law_373 rfl (lv_at hl 0 rfl) ?_
      refine lv_iconst (v := 3) hx hb dL_law_374 (by decide) ?_
      refine lv_iadd hx hb dL_law_375 ?_
      refine yy_int (v := nI (j + 3)) (ynj (by decide)) ?_
      refine va_sld hx hb hX hbl hbA hS (vp_in_nI (by omega) (by omega)) dL_law_376 ?_
      refine lv_topi (fun v376 ev376 => ?_)
      refine lv_aload_n hx hb dL_law_377 rfl (lv_at hl 3 rfl) ?_
      refine lv_iload_n hx hb dL_law_378 rfl (lv_at hl 0 rfl) ?_
      refine lv_iconst (v := 4) hx hb dL_law_379 (by decide) ?_
      refine lv_iadd hx hb dL_law_380 ?_
      refine yy_int (v := nI (j + 4)) (ynj (by decide)) ?_
      refine va_sld hx hb hX hbl hbA hS (vp_in_nI (by omega) (by omega)) dL_law_381 ?_
      refine lv_topi (fun v381 ev381 => ?_)
      refine lv_aload_n hx hb dL_law_382 rfl (lv_at hl 3 rfl) ?_
      refine lv_iload_n hx hb dL_law_383 rfl (lv_at hl 0 rfl) ?_
      refine lv_iconst (v := 5) hx hb dL_law_384 (by decide) ?_
      refine lv_iadd hx hb dL_law_385 ?_
      refine yy_int (v := nI (j + 5)) (ynj (by decide)) ?_
      refine va_sld hx hb hX hbl hbA hS (vp_in_nI (by omega) (by omega)) dL_law_386 ?_
      refine lv_topi (fun v386 ev386 => ?_)
      have hP := yrotP hP
      have hD := yrotD hD
      refine yy_calliL (va_runV (As := [.int v358, .int 0, .int v376, .int v381, .int v386]) (rest := []) ⟨hx, hb, hml, hown, hts⟩ (p_transfer l dC dI cyI cyZ cyO H.size (am 0) (um.1 0) (um.1 1) (um.1 2) (um.1 3) (um.1 4) (um.1 5) (um.1 6) (um.1 7) (am 1) (um.2 0) (am 2) (um.2 1) (am 3) (um.2 2) (am 4) (um.2 3) (am 5) (um.2 4) (am 6) (um.2 5) (am 7) (um.2 6) (am 8) (um.2 7) (am 9) (um.2 8) (am 10) (um.2 9) (am 11) (um.2 10) (am 12) (um.2 11) (am 13) (um.2 12) (am 14) (um.2 13) (am 15) (um.2 14) (am 16) (um.2 15) v358 0 v376 v381 v386 n hMO.1 hMO.2.1 hMO.2.2.1 hMO.2.2.2.1 hMO.2.2.2.2.1 hn hn0 hMO.2.2.2.2.2) (cwV 5 hts gL_law_X11_transfer rfl rfl rfl (by decide +kernel) ⟨Nat.le_of_ble_eq_true rfl, Nat.le_of_ble_eq_true rfl⟩) (yPreV hK (va_P_left hP) (va_D_left hD) (ci := 11) (q0 := 0) rfl rfl) rfl rfl hl.1 rfl (lv_room (Nat.le_of_ble_eq_true rfl)) dL_law_387 ⟨by show _ ≤ 600000; omega, by show _ ≤ 7302250; omega⟩) hP hD hS hA (fun r387 um H locs hw hP hD hS => ?_)
      have hMO : MOK (n + 32000) um := hw
      have hP : va_P (dC, dI) vwCl (MW cyI cyZ am um ++ (XW cyI cyZ cyO ax ux (kpf t) ++ KT cyI t)) H := hP
      have hD : va_D A (MW cyI cyZ am um ++ (XW cyI cyZ cyO ax ux (kpf t) ++ KT cyI t)) := hD
      have hP := yrotP hP
      have hD := yrotD hD
      refine lv_pop hx hb dL_law_390 rfl ?_
      refine lv_goto (tgt := 838) hx hb dL_law_391 (by decide) ?_
      refine W.widen (k := k0 + 26) (n := s0 + 2545) (by omega) (by omega) ?_
      exact fin _ _ _ _ _ _ hXO hMO hTO hP hD hS hl
    · refine lv_iconst (v := 1) hx hb dL_law_367 (by decide) ?_
      refine lv_goto (tgt := 372) hx hb dL_law_368 (by decide) ?_
      refine lv_aload_n hx hb dL_law_372 rfl (lv_at hl 3 rfl) ?_
      refine lv_iload_n hx hb dL_law_373 rfl (lv_at hl 0 rfl) ?_
      refine lv_iconst (v := 3) hx hb dL_law_374 (by decide) ?_
      refine lv_iadd hx hb dL_law_375 ?_
      refine yy_int (v := nI (j + 3)) (ynj (by decide)) ?_
      refine va_sld hx hb hX hbl hbA hS (vp_in_nI (by omega) (by omega)) dL_law_376 ?_
      refine lv_topi (fun v376 ev376 => ?_)
      refine lv_aload_n hx hb dL_law_377 rfl (lv_at hl 3 rfl) ?_
      refine lv_iload_n hx hb dL_law_378 rfl (lv_at hl 0 rfl) ?_
      refine lv_iconst (v := 4) hx hb dL_law_379 (by decide) ?_
      refine lv_iadd hx hb dL_law_380 ?_
      refine yy_int (v := nI (j + 4)) (ynj (by decide)) ?_
      refine va_sld hx hb hX hbl hbA hS (vp_in_nI (by omega) (by omega)) dL_law_381 ?_
      refine lv_topi (fun v381 ev381 => ?_)
      refine lv_aload_n hx hb dL_law_382 rfl (lv_at hl 3 rfl) ?_
      refine lv_iload_n hx hb dL_law_383 rfl (lv_at hl 0 rfl) ?_
      refine lv_iconst (v := 5) hx hb dL_law_384 (by decide) ?_
      refine lv_iadd hx hb dL_law_385 ?_
      refine yy_int (v := nI (j + 5)) (ynj (by decide)) ?_
      refine va_sld hx hb hX hbl hbA hS (vp_in_nI (by omega) (by omega)) dL_law_386 ?_
      refine lv_topi (fun v386 ev386 => ?_)
      have hP := yrotP hP
      have hD := yrotD hD
      refine yy_calliL (va_runV (As := [.int v358, .int 1, .int v376, .int v381, .int v386]) (rest := []) ⟨hx, hb, hml, hown, hts⟩ (p_transfer l dC dI cyI cyZ cyO H.size (am 0) (um.1 0) (um.1 1) (um.1 2) (um.1 3) (um.1 4) (um.1 5) (um.1 6) (um.1 7) (am 1) (um.2 0) (am 2) (um.2 1) (am 3) (um.2 2) (am 4) (um.2 3) (am 5) (um.2 4) (am 6) (um.2 5) (am 7) (um.2 6) (am 8) (um.2 7) (am 9) (um.2 8) (am 10) (um.2 9) (am 11) (um.2 10) (am 12) (um.2 11) (am 13) (um.2 12) (am 14) (um.2 13) (am 15) (um.2 14) (am 16) (um.2 15) v358 1 v376 v381 v386 n hMO.1 hMO.2.1 hMO.2.2.1 hMO.2.2.2.1 hMO.2.2.2.2.1 hn hn0 hMO.2.2.2.2.2) (cwV 5 hts gL_law_X11_transfer rfl rfl rfl (by decide +kernel) ⟨Nat.le_of_ble_eq_true rfl, Nat.le_of_ble_eq_true rfl⟩) (yPreV hK (va_P_left hP) (va_D_left hD) (ci := 11) (q0 := 0) rfl rfl) rfl rfl hl.1 rfl (lv_room (Nat.le_of_ble_eq_true rfl)) dL_law_387 ⟨by show _ ≤ 600000; omega, by show _ ≤ 7302250; omega⟩) hP hD hS hA (fun r387 um H locs hw hP hD hS => ?_)
      have hMO : MOK (n + 32000) um := hw
      have hP : va_P (dC, dI) vwCl (MW cyI cyZ am um ++ (XW cyI cyZ cyO ax ux (kpf t) ++ KT cyI t)) H := hP
      have hD : va_D A (MW cyI cyZ am um ++ (XW cyI cyZ cyO ax ux (kpf t) ++ KT cyI t)) := hD
      have hP := yrotP hP
      have hD := yrotD hD
      refine lv_pop hx hb dL_law_390 rfl ?_
      refine lv_goto (tgt := 838) hx hb dL_law_391 (by decide) ?_
      refine W.widen (k := k0 + 26) (n := s0 + 2545) (by omega) (by omega) ?_
      exact fin _ _ _ _ _ _ hXO hMO hTO hP hD hS hl
  · refine lv_iconst (v := 1) hx hb dL_law_329 (by decide) ?_
    refine lv_goto (tgt := 334) hx hb dL_law_330 (by decide) ?_
    refine lv_aload_n hx hb dL_law_334 rfl (lv_at hl 3 rfl) ?_
    refine lv_iload_n hx hb dL_law_335 rfl (lv_at hl 0 rfl) ?_
    refine lv_iconst (v := 3) hx hb dL_law_336 (by decide) ?_
    refine lv_iadd hx hb dL_law_337 ?_
    refine yy_int (v := nI (j + 3)) (ynj (by decide)) ?_
    refine va_sld hx hb hX hbl hbA hS (vp_in_nI (by omega) (by omega)) dL_law_338 ?_
    refine lv_topi (fun v338 ev338 => ?_)
    refine lv_aload_n hx hb dL_law_339 rfl (lv_at hl 3 rfl) ?_
    refine lv_iload_n hx hb dL_law_340 rfl (lv_at hl 0 rfl) ?_
    refine lv_iconst (v := 4) hx hb dL_law_341 (by decide) ?_
    refine lv_iadd hx hb dL_law_342 ?_
    refine yy_int (v := nI (j + 4)) (ynj (by decide)) ?_
    refine va_sld hx hb hX hbl hbA hS (vp_in_nI (by omega) (by omega)) dL_law_343 ?_
    refine lv_topi (fun v343 ev343 => ?_)
    refine lv_aload_n hx hb dL_law_344 rfl (lv_at hl 3 rfl) ?_
    refine lv_iload_n hx hb dL_law_345 rfl (lv_at hl 0 rfl) ?_
    refine lv_iconst (v := 5) hx hb dL_law_346 (by decide) ?_
    refine lv_iadd hx hb dL_law_347 ?_
    refine yy_int (v := nI (j + 5)) (ynj (by decide)) ?_
    refine va_sld hx hb hX hbl hbA hS (vp_in_nI (by omega) (by omega)) dL_law_348 ?_
    refine lv_topi (fun v348 ev348 => ?_)
    refine yy_calliL (va_runV (As := [.int v320, .int 1, .int v338, .int v343, .int v348]) (rest := []) ⟨hx, hb, hml, hown, hts⟩ (g_transfer l dC dI cyI cyZ cyO H.size (ax 0) (ux.1 0) (ax 1) (ux.1 1) (ux.1 2) (ux.1 3) (ux.1 4) (ux.1 5) (ax 2) (ux.2 0) (ax 3) (ux.2 1) (ax 4) (ux.2 2) (ax 5) (ux.2 3) (ax 6) (ux.2 4) (ax 7) (ux.2 5) (ax 8) (ux.2 6) (ax 9) (ux.2 7) (ax 10) (ux.1 6) (ax 11) (ax 12) (ux.2 8) (ax 13) (ux.2 9) (ax 14) (ux.2 10) (ax 15) (ux.2 11) (ax 16) (ux.2 12) (ax 17) (ux.2 13) (ax 18) (ux.1 7) (ax 19) (ux.2 14) (ax 20) (ux.2 15) (ax 21) (ux.1 8) (ux.1 9) (ux.1 10) (ux.1 11) (ux.1 12) (ux.1 13) (ax 22) (ux.1 14) (ax 23) (ux.2 16) (ax 24) (ux.1 15) (ux.1 16) (ux.1 17) (ux.1 18) (ux.1 19) (ux.1 20) (ax 25) (ux.1 21) (ux.1 22) (ux.1 23) (ux.1 24) (ux.1 25) (ux.1 26) (ux.1 27) (ux.1 28) (ux.1 29) (ux.1 30) (ux.1 31) (ux.1 32) (ux.1 33) (ax 26) (ux.1 34) (ax 27) (ux.2 17) (ax 28) (ux.2 18) (ax 29) (ux.2 19) (ax 30) (ux.1 35) (ux.1 36) (ux.1 37) (ax 31) (ux.2 20) (ax 32) (ux.1 38) (ux.1 39) (ux.1 40) (ax 33) (ux.2 21) (ax 34) (ux.1 41) (ax 35) (ux.2 22) (ax 36) (ux.2 23) (ax 37) (ux.1 42) (ax 38) (ux.2 24) (ax 39) (ux.2 25) (ax 40) (kpf t) v320 1 v338 v343 v348 hXO.1 hXO.2.1 hXO.2.2.1 hXO.2.2.2.1 hXO.2.2.2.2.1 hXO.2.2.2.2.2.1 hXO.2.2.2.2.2.2.1 hXO.2.2.2.2.2.2.2.1 hXO.2.2.2.2.2.2.2.2.1 hXO.2.2.2.2.2.2.2.2.2) (cwV 5 hts gL_law_X10_transfer rfl rfl rfl (by decide +kernel) ⟨Nat.le_of_ble_eq_true rfl, Nat.le_of_ble_eq_true rfl⟩) (yPreV hK (va_P_left hP) (va_D_left hD) (ci := 10) (q0 := 0) rfl rfl) rfl rfl hl.1 rfl (lv_room (Nat.le_of_ble_eq_true rfl)) dL_law_349 ⟨by show _ ≤ 600000; omega, by show _ ≤ 7302250; omega⟩) hP hD hS hA (fun r349 ux H locs hw hP hD hS => ?_)
    have hXO : XOK ux := hw
    have hP : va_P (dC, dI) vwCl (XW cyI cyZ cyO ax ux (kpf t) ++ (MW cyI cyZ am um ++ KT cyI t)) H := hP
    have hD : va_D A (XW cyI cyZ cyO ax ux (kpf t) ++ (MW cyI cyZ am um ++ KT cyI t)) := hD
    refine lv_pop hx hb dL_law_352 rfl ?_
    refine lv_aload_n hx hb dL_law_353 rfl (lv_at hl 1 rfl) ?_
    refine lv_aload_n hx hb dL_law_354 rfl (lv_at hl 3 rfl) ?_
    refine lv_iload_n hx hb dL_law_355 rfl (lv_at hl 0 rfl) ?_
    refine lv_iconst (v := 1) hx hb dL_law_356 (by decide) ?_
    refine lv_iadd hx hb dL_law_357 ?_
    refine yy_int (v := nI (j + 1)) (ynj (by decide)) ?_
    refine va_sld hx hb hX hbl hbA hS (vp_in_nI (by omega) (by omega)) dL_law_358 ?_
    refine lv_topi (fun v358 ev358 => ?_)
    refine lv_aload_n hx hb dL_law_359 rfl (lv_at hl 3 rfl) ?_
    refine lv_iload_n hx hb dL_law_360 rfl (lv_at hl 0 rfl) ?_
    refine lv_iconst (v := 2) hx hb dL_law_361 (by decide) ?_
    refine lv_iadd hx hb dL_law_362 ?_
    refine yy_int (v := nI (j + 2)) (ynj (by decide)) ?_
    refine va_sld hx hb hX hbl hbA hS (vp_in_nI (by omega) (by omega)) dL_law_363 ?_
    refine lv_topi (fun v363 ev363 => ?_)
    refine lv_if_eq (tgt := 371) hx hb dL_law_364 (by decide) (fun c364 => ?_) (fun c364 => ?_)
    · refine lv_iconst (v := 0) hx hb dL_law_371 (by decide) ?_
      refine lv_aload_n hx hb dL_law_372 rfl (lv_at hl 3 rfl) ?_
      refine lv_iload_n hx hb dL_law_373 rfl (lv_at hl 0 rfl) ?_
      refine lv_iconst (v := 3) hx hb dL_law_374 (by decide) ?_
      refine lv_iadd hx hb dL_law_375 ?_
      refine yy_int (v := nI (j + 3)) (ynj (by decide)) ?_
      refine va_sld hx hb hX hbl hbA hS (vp_in_nI (by omega) (by omega)) dL_law_376 ?_
      refine lv_topi (fun v376 ev376 => ?_)
      refine lv_aload_n hx hb dL_law_377 rfl (lv_at hl 3 rfl) ?_
      refine lv_iload_n hx hb dL_law_378 rfl (lv_at hl 0 rfl) ?_
      refine lv_iconst (v := 4) hx hb dL_law_379 (by decide) ?_
      refine lv_iadd hx hb dL_law_380 ?_
      refine yy_int (v := nI (j + 4)) (ynj (by decide)) ?_
      refine va_sld hx hb hX hbl hbA hS (vp_in_nI (by omega) (by omega)) dL_law_381 ?_
      refine lv_topi (fun v381 ev381 => ?_)
      refine lv_aload_n hx hb dL_law_382 rfl (lv_at hl 3 rfl) ?_
      refine lv_iload_n hx hb dL_law_383 rfl (lv_at hl 0 rfl) ?_
      refine lv_iconst (v := 5) hx hb dL_law_384 (by decide) ?_
      refine lv_iadd hx hb dL_law_385 ?_
      refine yy_int (v := nI (j + 5)) (ynj (by decide)) ?_
      refine va_sld hx hb hX hbl hbA hS (vp_in_nI (by omega) (by omega)) dL_law_386 ?_
      refine lv_topi (fun v386 ev386 => ?_)
      have hP := yrotP hP
      have hD := yrotD hD
      refine yy_calliL (va_runV (As := [.int v358, .int 0, .int v376, .int v381, .int v386]) (rest := []) ⟨hx, hb, hml, hown, hts⟩ (p_transfer l dC dI cyI cyZ cyO H.size (am 0) (um.1 0) (um.1 1) (um.1 2) (um.1 3) (um.1 4) (um.1 5) (um.1 6) (um.1 7) (am 1) (um.2 0) (am 2) (um.2 1) (am 3) (um.2 2) (am 4) (um.2 3) (am 5) (um.2 4) (am 6) (um.2 5) (am 7) (um.2 6) (am 8) (um.2 7) (am 9) (um.2 8) (am 10) (um.2 9) (am 11) (um.2 10) (am 12) (um.2 11) (am 13) (um.2 12) (am 14) (um.2 13) (am 15) (um.2 14) (am 16) (um.2 15) v358 0 v376 v381 v386 n hMO.1 hMO.2.1 hMO.2.2.1 hMO.2.2.2.1 hMO.2.2.2.2.1 hn hn0 hMO.2.2.2.2.2) (cwV 5 hts gL_law_X11_transfer rfl rfl rfl (by decide +kernel) ⟨Nat.le_of_ble_eq_true rfl, Nat.le_of_ble_eq_true rfl⟩) (yPreV hK (va_P_left hP) (va_D_left hD) (ci := 11) (q0 := 0) rfl rfl) rfl rfl hl.1 rfl (lv_room (Nat.le_of_ble_eq_true rfl)) dL_law_387 ⟨by show _ ≤ 600000; omega, by show _ ≤ 7302250; omega⟩) hP hD hS hA (fun r387 um H locs hw hP hD hS => ?_)
      have hMO : MOK (n + 32000) um := hw
      have hP : va_P (dC, dI) vwCl (MW cyI cyZ am um ++ (XW cyI cyZ cyO ax ux (kpf t) ++ KT cyI t)) H := hP
      have hD : va_D A (MW cyI cyZ am um ++ (XW cyI cyZ cyO ax ux (kpf t) ++ KT cyI t)) := hD
      have hP := yrotP hP
      have hD := yrotD hD
      refine lv_pop hx hb dL_law_390 rfl ?_
      refine lv_goto (tgt := 838) hx hb dL_law_391 (by decide) ?_
      refine W.widen (k := k0 + 26) (n := s0 + 2545) (by omega) (by omega) ?_
      exact fin _ _ _ _ _ _ hXO hMO hTO hP hD hS hl
    · refine lv_iconst (v := 1) hx hb dL_law_367 (by decide) ?_
      refine lv_goto (tgt := 372) hx hb dL_law_368 (by decide) ?_
      refine lv_aload_n hx hb dL_law_372 rfl (lv_at hl 3 rfl) ?_
      refine lv_iload_n hx hb dL_law_373 rfl (lv_at hl 0 rfl) ?_
      refine lv_iconst (v := 3) hx hb dL_law_374 (by decide) ?_
      refine lv_iadd hx hb dL_law_375 ?_
      refine yy_int (v := nI (j + 3)) (ynj (by decide)) ?_
      refine va_sld hx hb hX hbl hbA hS (vp_in_nI (by omega) (by omega)) dL_law_376 ?_
      refine lv_topi (fun v376 ev376 => ?_)
      refine lv_aload_n hx hb dL_law_377 rfl (lv_at hl 3 rfl) ?_
      refine lv_iload_n hx hb dL_law_378 rfl (lv_at hl 0 rfl) ?_
      refine lv_iconst (v := 4) hx hb dL_law_379 (by decide) ?_
      refine lv_iadd hx hb dL_law_380 ?_
      refine yy_int (v := nI (j + 4)) (ynj (by decide)) ?_
      refine va_sld hx hb hX hbl hbA hS (vp_in_nI (by omega) (by omega)) dL_law_381 ?_
      refine lv_topi (fun v381 ev381 => ?_)
      refine lv_aload_n hx hb dL_law_382 rfl (lv_at hl 3 rfl) ?_
      refine lv_iload_n hx hb dL_law_383 rfl (lv_at hl 0 rfl) ?_
      refine lv_iconst (v := 5) hx hb dL_law_384 (by decide) ?_
      refine lv_iadd hx hb dL_law_385 ?_
      refine yy_int (v := nI (j + 5)) (ynj (by decide)) ?_
      refine va_sld hx hb hX hbl hbA hS (vp_in_nI (by omega) (by omega)) dL_law_386 ?_
      refine lv_topi (fun v386 ev386 => ?_)
      have hP := yrotP hP
      have hD := yrotD hD
      refine yy_calliL (va_runV (As := [.int v358, .int 1, .int v376, .int v381, .int v386]) (rest := []) ⟨hx, hb, hml, hown, hts⟩ (p_transfer l dC dI cyI cyZ cyO H.size (am 0) (um.1 0) (um.1 1) (um.1 2) (um.1 3) (um.1 4) (um.1 5) (um.1 6) (um.1 7) (am 1) (um.2 0) (am 2) (um.2 1) (am 3) (um.2 2) (am 4) (um.2 3) (am 5) (um.2 4) (am 6) (um.2 5) (am 7) (um.2 6) (am 8) (um.2 7) (am 9) (um.2 8) (am 10) (um.2 9) (am 11) (um.2 10) (am 12) (um.2 11) (am 13) (um.2 12) (am 14) (um.2 13) (am 15) (um.2 14) (am 16) (um.2 15) v358 1 v376 v381 v386 n hMO.1 hMO.2.1 hMO.2.2.1 hMO.2.2.2.1 hMO.2.2.2.2.1 hn hn0 hMO.2.2.2.2.2) (cwV 5 hts gL_law_X11_transfer rfl rfl rfl (by decide +kernel) ⟨Nat.le_of_ble_eq_true rfl, Nat.le_of_ble_eq_true rfl⟩) (yPreV hK (va_P_left hP) (va_D_left hD) (ci := 11) (q0 := 0) rfl rfl) rfl rfl hl.1 rfl (lv_room (Nat.le_of_ble_eq_true rfl)) dL_law_387 ⟨by show _ ≤ 600000; omega, by show _ ≤ 7302250; omega⟩) hP hD hS hA (fun r387 um H locs hw hP hD hS => ?_)
      have hMO : MOK (n + 32000) um := hw
      have hP : va_P (dC, dI) vwCl (MW cyI cyZ am um ++ (XW cyI cyZ cyO ax ux (kpf t) ++ KT cyI t)) H := hP
      have hD : va_D A (MW cyI cyZ am um ++ (XW cyI cyZ cyO ax ux (kpf t) ++ KT cyI t)) := hD
      have hP := yrotP hP
      have hD := yrotD hD
      refine lv_pop hx hb dL_law_390 rfl ?_
      refine lv_goto (tgt := 838) hx hb dL_law_391 (by decide) ?_
      refine W.widen (k := k0 + 26) (n := s0 + 2545) (by omega) (by omega) ?_
      exact fin _ _ _ _ _ _ hXO hMO hTO hP hD hS hl
set_option maxHeartbeats 4000000 in
set_option maxRecDepth 100000 in
/-- the law: clock -/
theorem law_clock {p : Program} {e : Env} {s : State} {m : MethodId} {below : List Frame} {meth : Method} {c : Code} (l : Launch) {b L : Nat} {xs : Nat → Int32} (hL : L ≤ 3072) (C0 : lw_At p s m meth c b L xs) {dC : Nat → ClassId} {dI : Nat → Nat → Nat} {cyI cyZ cyO : ClassId} {A : Nat → Prop} (hA : ∀ q : Nat, s.heap.size ≤ q → A q) (hbA : ¬ A b) (hN : yN s) (hK : va_K (dC, dI) vwCl (yT cyI cyZ cyO) s) (ax am : Nat → Nat) (j : Nat) (hj : j + 6 ≤ L) (n : Int) (hn0 : 0 ≤ n) (hn : n ≤ 1400000000) (k0 s0 : Nat) (hk0 : k0 + 26 ≤ 600000) (hs0 : s0 + 2545 ≤ 7302250) (ux um : yU) (t : Nat → Option KS) {H : Heap} {locs : List Loc} (hXO : XOK ux) (hMO : MOK n um) (hTO : TOK t) (hP : va_P (dC, dI) vwCl (XW cyI cyZ cyO ax ux (kpf t) ++ (MW cyI cyZ am um ++ KT cyI t)) H) (hD : va_D A (XW cyI cyZ cyO ax ux (kpf t) ++ (MW cyI cyZ am um ++ KT cyI t))) (hS : va_S A s.heap H locs) {ls : Array Slot} (hl : lv_has ls 4 [(3, .int (nI j)), (2, .ref (am 0)), (1, .ref (ax 0)), (0, .ref b)]) (fin : ∀ (ux um : yU) (t : Nat → Option KS) (H : Heap) (locs : List Loc) (ls : Array Slot), XOK ux → MOK (n + 32000) um → TOK t → va_P (dC, dI) vwCl (XW cyI cyZ cyO ax ux (kpf t) ++ (MW cyI cyZ am um ++ KT cyI t)) H → va_D A (XW cyI cyZ cyO ax ux (kpf t) ++ (MW cyI cyZ am um ++ KT cyI t)) → va_S A s.heap H locs → lv_has ls 4 [(3, .int (nI j)), (2, .ref (am 0)), (1, .ref (ax 0)), (0, .ref b)] → W p l e room_1 s m #[Value.ref b] below meth c H locs (k0 + 26) (s0 + 2545) (lw_Z below #[Value.ref b] s) (F0 m 838 ls [])) : W p l e room_1 s m #[Value.ref b] below meth c H locs k0 s0 (lw_Z below #[Value.ref b] s) (F0 m 394 ls []) := by
  obtain ⟨hx, hb, hr, hml, hown0, hts0, hX, hbl, hlk, hgv⟩ := C0
  have hown : s.vm.findClass RL = some m.cls := hown0
  have hts : ∀ w ∈ wsL_law, w.before #[Value.ref b] s = true := fun w h => hts0 w (wsL_law_in w h)
  refine lv_aload_n hx hb dL_law_394 rfl (lv_at hl 2 rfl) ?_
  refine lv_aload_n hx hb dL_law_395 rfl (lv_at hl 3 rfl) ?_
  refine lv_iload_n hx hb dL_law_396 rfl (lv_at hl 0 rfl) ?_
  refine lv_iconst (v := 1) hx hb dL_law_397 (by decide) ?_
  refine lv_iadd hx hb dL_law_398 ?_
  refine yy_int (v := nI (j + 1)) (ynj (by decide)) ?_
  refine va_sld hx hb hX hbl hbA hS (vp_in_nI (by omega) (by omega)) dL_law_399 ?_
  refine lv_topi (fun v399 ev399 => ?_)
  refine yy_calliL (va_runV (As := [.int v399]) (rest := []) ⟨hx, hb, hml, hown, hts⟩ (g_clock l dC dI cyI cyZ cyO H.size (ax 0) (ux.1 0) (ax 1) (ux.1 1) (ux.1 2) (ux.1 3) (ux.1 4) (ux.1 5) (ax 2) (ux.2 0) (ax 3) (ux.2 1) (ax 4) (ux.2 2) (ax 5) (ux.2 3) (ax 6) (ux.2 4) (ax 7) (ux.2 5) (ax 8) (ux.2 6) (ax 9) (ux.2 7) (ax 10) (ux.1 6) (ax 11) (ax 12) (ux.2 8) (ax 13) (ux.2 9) (ax 14) (ux.2 10) (ax 15) (ux.2 11) (ax 16) (ux.2 12) (ax 17) (ux.2 13) (ax 18) (ux.1 7) (ax 19) (ux.2 14) (ax 20) (ux.2 15) (ax 21) (ux.1 8) (ux.1 9) (ux.1 10) (ux.1 11) (ux.1 12) (ux.1 13) (ax 22) (ux.1 14) (ax 23) (ux.2 16) (ax 24) (ux.1 15) (ux.1 16) (ux.1 17) (ux.1 18) (ux.1 19) (ux.1 20) (ax 25) (ux.1 21) (ux.1 22) (ux.1 23) (ux.1 24) (ux.1 25) (ux.1 26) (ux.1 27) (ux.1 28) (ux.1 29) (ux.1 30) (ux.1 31) (ux.1 32) (ux.1 33) (ax 26) (ux.1 34) (ax 27) (ux.2 17) (ax 28) (ux.2 18) (ax 29) (ux.2 19) (ax 30) (ux.1 35) (ux.1 36) (ux.1 37) (ax 31) (ux.2 20) (ax 32) (ux.1 38) (ux.1 39) (ux.1 40) (ax 33) (ux.2 21) (ax 34) (ux.1 41) (ax 35) (ux.2 22) (ax 36) (ux.2 23) (ax 37) (ux.1 42) (ax 38) (ux.2 24) (ax 39) (ux.2 25) (ax 40) (kpf t) v399 hXO.1 hXO.2.1 hXO.2.2.1 hXO.2.2.2.1 hXO.2.2.2.2.1 hXO.2.2.2.2.2.1 hXO.2.2.2.2.2.2.1 hXO.2.2.2.2.2.2.2.1 hXO.2.2.2.2.2.2.2.2.1 hXO.2.2.2.2.2.2.2.2.2) (cwV 1 hts gL_law_X10_clock rfl rfl rfl (by decide +kernel) ⟨Nat.le_of_ble_eq_true rfl, Nat.le_of_ble_eq_true rfl⟩) (yPreV hK (va_P_left hP) (va_D_left hD) (ci := 10) (q0 := 0) rfl rfl) rfl rfl hl.1 rfl (lv_room (Nat.le_of_ble_eq_true rfl)) dL_law_400 ⟨by show _ ≤ 600000; omega, by show _ ≤ 7302250; omega⟩) hP hD hS hA (fun r400 ux H locs hw hP hD hS => ?_)
  have hXO : XOK ux := hw
  have hP : va_P (dC, dI) vwCl (XW cyI cyZ cyO ax ux (kpf t) ++ (MW cyI cyZ am um ++ KT cyI t)) H := hP
  have hD : va_D A (XW cyI cyZ cyO ax ux (kpf t) ++ (MW cyI cyZ am um ++ KT cyI t)) := hD
  refine lv_pop hx hb dL_law_403 rfl ?_
  refine lv_aload_n hx hb dL_law_404 rfl (lv_at hl 1 rfl) ?_
  refine lv_aload_n hx hb dL_law_405 rfl (lv_at hl 3 rfl) ?_
  refine lv_iload_n hx hb dL_law_406 rfl (lv_at hl 0 rfl) ?_
  refine lv_iconst (v := 1) hx hb dL_law_407 (by decide) ?_
  refine lv_iadd hx hb dL_law_408 ?_
  refine yy_int (v := nI (j + 1)) (ynj (by decide)) ?_
  refine va_sld hx hb hX hbl hbA hS (vp_in_nI (by omega) (by omega)) dL_law_409 ?_
  refine lv_topi (fun v409 ev409 => ?_)
  have hP := yrotP hP
  have hD := yrotD hD
  refine yy_calliL (va_runV (As := [.int v409]) (rest := []) ⟨hx, hb, hml, hown, hts⟩ (p_clock l dC dI cyI cyZ cyO H.size (am 0) (um.1 0) (um.1 1) (um.1 2) (um.1 3) (um.1 4) (um.1 5) (um.1 6) (um.1 7) (am 1) (um.2 0) (am 2) (um.2 1) (am 3) (um.2 2) (am 4) (um.2 3) (am 5) (um.2 4) (am 6) (um.2 5) (am 7) (um.2 6) (am 8) (um.2 7) (am 9) (um.2 8) (am 10) (um.2 9) (am 11) (um.2 10) (am 12) (um.2 11) (am 13) (um.2 12) (am 14) (um.2 13) (am 15) (um.2 14) (am 16) (um.2 15) v409 n hMO.1 hMO.2.1 hMO.2.2.1 hMO.2.2.2.1 hMO.2.2.2.2.1 hn hn0 hMO.2.2.2.2.2) (cwV 1 hts gL_law_X11_clock rfl rfl rfl (by decide +kernel) ⟨Nat.le_of_ble_eq_true rfl, Nat.le_of_ble_eq_true rfl⟩) (yPreV hK (va_P_left hP) (va_D_left hD) (ci := 11) (q0 := 0) rfl rfl) rfl rfl hl.1 rfl (lv_room (Nat.le_of_ble_eq_true rfl)) dL_law_410 ⟨by show _ ≤ 600000; omega, by show _ ≤ 7302250; omega⟩) hP hD hS hA (fun r410 um H locs hw hP hD hS => ?_)
  have hMO : MOK (n + 32000) um := hw
  have hP : va_P (dC, dI) vwCl (MW cyI cyZ am um ++ (XW cyI cyZ cyO ax ux (kpf t) ++ KT cyI t)) H := hP
  have hD : va_D A (MW cyI cyZ am um ++ (XW cyI cyZ cyO ax ux (kpf t) ++ KT cyI t)) := hD
  have hP := yrotP hP
  have hD := yrotD hD
  refine lv_pop hx hb dL_law_413 rfl ?_
  refine lv_goto (tgt := 838) hx hb dL_law_414 (by decide) ?_
  refine W.widen (k := k0 + 26) (n := s0 + 2545) (by omega) (by omega) ?_
  exact fin _ _ _ _ _ _ hXO hMO hTO hP hD hS hl
set_option maxHeartbeats 4000000 in
set_option maxRecDepth 100000 in
/-- the law: finish -/
theorem law_finish {p : Program} {e : Env} {s : State} {m : MethodId} {below : List Frame} {meth : Method} {c : Code} (l : Launch) {b L : Nat} {xs : Nat → Int32} (hL : L ≤ 3072) (C0 : lw_At p s m meth c b L xs) {dC : Nat → ClassId} {dI : Nat → Nat → Nat} {cyI cyZ cyO : ClassId} {A : Nat → Prop} (hA : ∀ q : Nat, s.heap.size ≤ q → A q) (hbA : ¬ A b) (hN : yN s) (hK : va_K (dC, dI) vwCl (yT cyI cyZ cyO) s) (ax am : Nat → Nat) (j : Nat) (hj : j + 6 ≤ L) (n : Int) (hn0 : 0 ≤ n) (hn : n ≤ 1400000000) (k0 s0 : Nat) (hk0 : k0 + 26 ≤ 600000) (hs0 : s0 + 2545 ≤ 7302250) (ux um : yU) (t : Nat → Option KS) {H : Heap} {locs : List Loc} (hXO : XOK ux) (hMO : MOK n um) (hTO : TOK t) (hP : va_P (dC, dI) vwCl (XW cyI cyZ cyO ax ux (kpf t) ++ (MW cyI cyZ am um ++ KT cyI t)) H) (hD : va_D A (XW cyI cyZ cyO ax ux (kpf t) ++ (MW cyI cyZ am um ++ KT cyI t))) (hS : va_S A s.heap H locs) {ls : Array Slot} (hl : lv_has ls 4 [(3, .int (nI j)), (2, .ref (am 0)), (1, .ref (ax 0)), (0, .ref b)]) (fin : ∀ (ux um : yU) (t : Nat → Option KS) (H : Heap) (locs : List Loc) (ls : Array Slot), XOK ux → MOK (n + 32000) um → TOK t → va_P (dC, dI) vwCl (XW cyI cyZ cyO ax ux (kpf t) ++ (MW cyI cyZ am um ++ KT cyI t)) H → va_D A (XW cyI cyZ cyO ax ux (kpf t) ++ (MW cyI cyZ am um ++ KT cyI t)) → va_S A s.heap H locs → lv_has ls 4 [(3, .int (nI j)), (2, .ref (am 0)), (1, .ref (ax 0)), (0, .ref b)] → W p l e room_1 s m #[Value.ref b] below meth c H locs (k0 + 26) (s0 + 2545) (lw_Z below #[Value.ref b] s) (F0 m 838 ls [])) : W p l e room_1 s m #[Value.ref b] below meth c H locs k0 s0 (lw_Z below #[Value.ref b] s) (F0 m 417 ls []) := by
  obtain ⟨hx, hb, hr, hml, hown0, hts0, hX, hbl, hlk, hgv⟩ := C0
  have hown : s.vm.findClass RL = some m.cls := hown0
  have hts : ∀ w ∈ wsL_law, w.before #[Value.ref b] s = true := fun w h => hts0 w (wsL_law_in w h)
  refine lv_aload_n hx hb dL_law_417 rfl (lv_at hl 2 rfl) ?_
  refine lv_aload_n hx hb dL_law_418 rfl (lv_at hl 3 rfl) ?_
  refine lv_iload_n hx hb dL_law_419 rfl (lv_at hl 0 rfl) ?_
  refine lv_iconst (v := 1) hx hb dL_law_420 (by decide) ?_
  refine lv_iadd hx hb dL_law_421 ?_
  refine yy_int (v := nI (j + 1)) (ynj (by decide)) ?_
  refine va_sld hx hb hX hbl hbA hS (vp_in_nI (by omega) (by omega)) dL_law_422 ?_
  refine lv_topi (fun v422 ev422 => ?_)
  refine yy_calliL (va_runV (As := [.int v422]) (rest := []) ⟨hx, hb, hml, hown, hts⟩ (g_finish l dC dI cyI cyZ cyO H.size (ax 0) (ux.1 0) (ax 1) (ux.1 1) (ux.1 2) (ux.1 3) (ux.1 4) (ux.1 5) (ax 2) (ux.2 0) (ax 3) (ux.2 1) (ax 4) (ux.2 2) (ax 5) (ux.2 3) (ax 6) (ux.2 4) (ax 7) (ux.2 5) (ax 8) (ux.2 6) (ax 9) (ux.2 7) (ax 10) (ux.1 6) (ax 11) (ax 12) (ux.2 8) (ax 13) (ux.2 9) (ax 14) (ux.2 10) (ax 15) (ux.2 11) (ax 16) (ux.2 12) (ax 17) (ux.2 13) (ax 18) (ux.1 7) (ax 19) (ux.2 14) (ax 20) (ux.2 15) (ax 21) (ux.1 8) (ux.1 9) (ux.1 10) (ux.1 11) (ux.1 12) (ux.1 13) (ax 22) (ux.1 14) (ax 23) (ux.2 16) (ax 24) (ux.1 15) (ux.1 16) (ux.1 17) (ux.1 18) (ux.1 19) (ux.1 20) (ax 25) (ux.1 21) (ux.1 22) (ux.1 23) (ux.1 24) (ux.1 25) (ux.1 26) (ux.1 27) (ux.1 28) (ux.1 29) (ux.1 30) (ux.1 31) (ux.1 32) (ux.1 33) (ax 26) (ux.1 34) (ax 27) (ux.2 17) (ax 28) (ux.2 18) (ax 29) (ux.2 19) (ax 30) (ux.1 35) (ux.1 36) (ux.1 37) (ax 31) (ux.2 20) (ax 32) (ux.1 38) (ux.1 39) (ux.1 40) (ax 33) (ux.2 21) (ax 34) (ux.1 41) (ax 35) (ux.2 22) (ax 36) (ux.2 23) (ax 37) (ux.1 42) (ax 38) (ux.2 24) (ax 39) (ux.2 25) (ax 40) (kpf t) v422 hXO.1 hXO.2.1 hXO.2.2.1 hXO.2.2.2.1 hXO.2.2.2.2.1 hXO.2.2.2.2.2.1 hXO.2.2.2.2.2.2.1 hXO.2.2.2.2.2.2.2.1 hXO.2.2.2.2.2.2.2.2.1 hXO.2.2.2.2.2.2.2.2.2) (cwV 1 hts gL_law_X10_finish rfl rfl rfl (by decide +kernel) ⟨Nat.le_of_ble_eq_true rfl, Nat.le_of_ble_eq_true rfl⟩) (yPreV hK (va_P_left hP) (va_D_left hD) (ci := 10) (q0 := 0) rfl rfl) rfl rfl hl.1 rfl (lv_room (Nat.le_of_ble_eq_true rfl)) dL_law_423 ⟨by show _ ≤ 600000; omega, by show _ ≤ 7302250; omega⟩) hP hD hS hA (fun r423 ux H locs hw hP hD hS => ?_)
  have hXO : XOK ux := hw
  have hP : va_P (dC, dI) vwCl (XW cyI cyZ cyO ax ux (kpf t) ++ (MW cyI cyZ am um ++ KT cyI t)) H := hP
  have hD : va_D A (XW cyI cyZ cyO ax ux (kpf t) ++ (MW cyI cyZ am um ++ KT cyI t)) := hD
  refine lv_pop hx hb dL_law_426 rfl ?_
  refine lv_aload_n hx hb dL_law_427 rfl (lv_at hl 1 rfl) ?_
  refine lv_aload_n hx hb dL_law_428 rfl (lv_at hl 3 rfl) ?_
  refine lv_iload_n hx hb dL_law_429 rfl (lv_at hl 0 rfl) ?_
  refine lv_iconst (v := 1) hx hb dL_law_430 (by decide) ?_
  refine lv_iadd hx hb dL_law_431 ?_
  refine yy_int (v := nI (j + 1)) (ynj (by decide)) ?_
  refine va_sld hx hb hX hbl hbA hS (vp_in_nI (by omega) (by omega)) dL_law_432 ?_
  refine lv_topi (fun v432 ev432 => ?_)
  have hP := yrotP hP
  have hD := yrotD hD
  refine yy_calliL (va_runV (As := [.int v432]) (rest := []) ⟨hx, hb, hml, hown, hts⟩ (p_finish l dC dI cyI cyZ cyO H.size (am 0) (um.1 0) (um.1 1) (um.1 2) (um.1 3) (um.1 4) (um.1 5) (um.1 6) (um.1 7) (am 1) (um.2 0) (am 2) (um.2 1) (am 3) (um.2 2) (am 4) (um.2 3) (am 5) (um.2 4) (am 6) (um.2 5) (am 7) (um.2 6) (am 8) (um.2 7) (am 9) (um.2 8) (am 10) (um.2 9) (am 11) (um.2 10) (am 12) (um.2 11) (am 13) (um.2 12) (am 14) (um.2 13) (am 15) (um.2 14) (am 16) (um.2 15) v432 n hMO.1 hMO.2.1 hMO.2.2.1 hMO.2.2.2.1 hMO.2.2.2.2.1 hn hn0 hMO.2.2.2.2.2) (cwV 1 hts gL_law_X11_finish rfl rfl rfl (by decide +kernel) ⟨Nat.le_of_ble_eq_true rfl, Nat.le_of_ble_eq_true rfl⟩) (yPreV hK (va_P_left hP) (va_D_left hD) (ci := 11) (q0 := 0) rfl rfl) rfl rfl hl.1 rfl (lv_room (Nat.le_of_ble_eq_true rfl)) dL_law_433 ⟨by show _ ≤ 600000; omega, by show _ ≤ 7302250; omega⟩) hP hD hS hA (fun r433 um H locs hw hP hD hS => ?_)
  have hMO : MOK (n + 32000) um := hw
  have hP : va_P (dC, dI) vwCl (MW cyI cyZ am um ++ (XW cyI cyZ cyO ax ux (kpf t) ++ KT cyI t)) H := hP
  have hD : va_D A (MW cyI cyZ am um ++ (XW cyI cyZ cyO ax ux (kpf t) ++ KT cyI t)) := hD
  have hP := yrotP hP
  have hD := yrotD hD
  refine lv_pop hx hb dL_law_436 rfl ?_
  refine lv_goto (tgt := 838) hx hb dL_law_437 (by decide) ?_
  refine W.widen (k := k0 + 26) (n := s0 + 2545) (by omega) (by omega) ?_
  exact fin _ _ _ _ _ _ hXO hMO hTO hP hD hS hl
set_option maxHeartbeats 4000000 in
set_option maxRecDepth 100000 in
/-- the law: turn -/
theorem law_turn {p : Program} {e : Env} {s : State} {m : MethodId} {below : List Frame} {meth : Method} {c : Code} (l : Launch) {b L : Nat} {xs : Nat → Int32} (hL : L ≤ 3072) (C0 : lw_At p s m meth c b L xs) {dC : Nat → ClassId} {dI : Nat → Nat → Nat} {cyI cyZ cyO : ClassId} {A : Nat → Prop} (hA : ∀ q : Nat, s.heap.size ≤ q → A q) (hbA : ¬ A b) (hN : yN s) (hK : va_K (dC, dI) vwCl (yT cyI cyZ cyO) s) (ax am : Nat → Nat) (j : Nat) (hj : j + 6 ≤ L) (n : Int) (hn0 : 0 ≤ n) (hn : n ≤ 1400000000) (k0 s0 : Nat) (hk0 : k0 + 26 ≤ 600000) (hs0 : s0 + 2545 ≤ 7302250) (ux um : yU) (t : Nat → Option KS) {H : Heap} {locs : List Loc} (hXO : XOK ux) (hMO : MOK n um) (hTO : TOK t) (hP : va_P (dC, dI) vwCl (XW cyI cyZ cyO ax ux (kpf t) ++ (MW cyI cyZ am um ++ KT cyI t)) H) (hD : va_D A (XW cyI cyZ cyO ax ux (kpf t) ++ (MW cyI cyZ am um ++ KT cyI t))) (hS : va_S A s.heap H locs) {ls : Array Slot} (hl : lv_has ls 4 [(3, .int (nI j)), (2, .ref (am 0)), (1, .ref (ax 0)), (0, .ref b)]) (fin : ∀ (ux um : yU) (t : Nat → Option KS) (H : Heap) (locs : List Loc) (ls : Array Slot), XOK ux → MOK (n + 32000) um → TOK t → va_P (dC, dI) vwCl (XW cyI cyZ cyO ax ux (kpf t) ++ (MW cyI cyZ am um ++ KT cyI t)) H → va_D A (XW cyI cyZ cyO ax ux (kpf t) ++ (MW cyI cyZ am um ++ KT cyI t)) → va_S A s.heap H locs → lv_has ls 4 [(3, .int (nI j)), (2, .ref (am 0)), (1, .ref (ax 0)), (0, .ref b)] → W p l e room_1 s m #[Value.ref b] below meth c H locs (k0 + 26) (s0 + 2545) (lw_Z below #[Value.ref b] s) (F0 m 838 ls [])) : W p l e room_1 s m #[Value.ref b] below meth c H locs k0 s0 (lw_Z below #[Value.ref b] s) (F0 m 440 ls []) := by
  obtain ⟨hx, hb, hr, hml, hown0, hts0, hX, hbl, hlk, hgv⟩ := C0
  have hown : s.vm.findClass RL = some m.cls := hown0
  have hts : ∀ w ∈ wsL_law, w.before #[Value.ref b] s = true := fun w h => hts0 w (wsL_law_in w h)
  refine lv_aload_n hx hb dL_law_440 rfl (lv_at hl 2 rfl) ?_
  refine lv_aload_n hx hb dL_law_441 rfl (lv_at hl 3 rfl) ?_
  refine lv_iload_n hx hb dL_law_442 rfl (lv_at hl 0 rfl) ?_
  refine lv_iconst (v := 1) hx hb dL_law_443 (by decide) ?_
  refine lv_iadd hx hb dL_law_444 ?_
  refine yy_int (v := nI (j + 1)) (ynj (by decide)) ?_
  refine va_sld hx hb hX hbl hbA hS (vp_in_nI (by omega) (by omega)) dL_law_445 ?_
  refine lv_topi (fun v445 ev445 => ?_)
  refine lv_aload_n hx hb dL_law_446 rfl (lv_at hl 3 rfl) ?_
  refine lv_iload_n hx hb dL_law_447 rfl (lv_at hl 0 rfl) ?_
  refine lv_iconst (v := 2) hx hb dL_law_448 (by decide) ?_
  refine lv_iadd hx hb dL_law_449 ?_
  refine yy_int (v := nI (j + 2)) (ynj (by decide)) ?_
  refine va_sld hx hb hX hbl hbA hS (vp_in_nI (by omega) (by omega)) dL_law_450 ?_
  refine lv_topi (fun v450 ev450 => ?_)
  refine lv_aload_n hx hb dL_law_451 rfl (lv_at hl 3 rfl) ?_
  refine lv_iload_n hx hb dL_law_452 rfl (lv_at hl 0 rfl) ?_
  refine lv_iconst (v := 3) hx hb dL_law_453 (by decide) ?_
  refine lv_iadd hx hb dL_law_454 ?_
  refine yy_int (v := nI (j + 3)) (ynj (by decide)) ?_
  refine va_sld hx hb hX hbl hbA hS (vp_in_nI (by omega) (by omega)) dL_law_455 ?_
  refine lv_topi (fun v455 ev455 => ?_)
  refine yy_calliL (va_runV (As := [.int v445, .int v450, .int v455]) (rest := []) ⟨hx, hb, hml, hown, hts⟩ (g_turn l dC dI cyI cyZ cyO H.size (ax 0) (ux.1 0) (ax 1) (ux.1 1) (ux.1 2) (ux.1 3) (ux.1 4) (ux.1 5) (ax 2) (ux.2 0) (ax 3) (ux.2 1) (ax 4) (ux.2 2) (ax 5) (ux.2 3) (ax 6) (ux.2 4) (ax 7) (ux.2 5) (ax 8) (ux.2 6) (ax 9) (ux.2 7) (ax 10) (ux.1 6) (ax 11) (ax 12) (ux.2 8) (ax 13) (ux.2 9) (ax 14) (ux.2 10) (ax 15) (ux.2 11) (ax 16) (ux.2 12) (ax 17) (ux.2 13) (ax 18) (ux.1 7) (ax 19) (ux.2 14) (ax 20) (ux.2 15) (ax 21) (ux.1 8) (ux.1 9) (ux.1 10) (ux.1 11) (ux.1 12) (ux.1 13) (ax 22) (ux.1 14) (ax 23) (ux.2 16) (ax 24) (ux.1 15) (ux.1 16) (ux.1 17) (ux.1 18) (ux.1 19) (ux.1 20) (ax 25) (ux.1 21) (ux.1 22) (ux.1 23) (ux.1 24) (ux.1 25) (ux.1 26) (ux.1 27) (ux.1 28) (ux.1 29) (ux.1 30) (ux.1 31) (ux.1 32) (ux.1 33) (ax 26) (ux.1 34) (ax 27) (ux.2 17) (ax 28) (ux.2 18) (ax 29) (ux.2 19) (ax 30) (ux.1 35) (ux.1 36) (ux.1 37) (ax 31) (ux.2 20) (ax 32) (ux.1 38) (ux.1 39) (ux.1 40) (ax 33) (ux.2 21) (ax 34) (ux.1 41) (ax 35) (ux.2 22) (ax 36) (ux.2 23) (ax 37) (ux.1 42) (ax 38) (ux.2 24) (ax 39) (ux.2 25) (ax 40) (kpf t) v445 v450 v455 hXO.1 hXO.2.1 hXO.2.2.1 hXO.2.2.2.1 hXO.2.2.2.2.1 hXO.2.2.2.2.2.1 hXO.2.2.2.2.2.2.1 hXO.2.2.2.2.2.2.2.1 hXO.2.2.2.2.2.2.2.2.1 hXO.2.2.2.2.2.2.2.2.2) (cwV 3 hts gL_law_X10_turn rfl rfl rfl (by decide +kernel) ⟨Nat.le_of_ble_eq_true rfl, Nat.le_of_ble_eq_true rfl⟩) (yPreV hK (va_P_left hP) (va_D_left hD) (ci := 10) (q0 := 0) rfl rfl) rfl rfl hl.1 rfl (lv_room (Nat.le_of_ble_eq_true rfl)) dL_law_456 ⟨by show _ ≤ 600000; omega, by show _ ≤ 7302250; omega⟩) hP hD hS hA (fun r456 ux H locs hw hP hD hS => ?_)
  obtain ⟨hrx, hXO⟩ := hw
  have hP : va_P (dC, dI) vwCl (XW cyI cyZ cyO ax ux (kpf t) ++ (MW cyI cyZ am um ++ KT cyI t)) H := hP
  have hD : va_D A (XW cyI cyZ cyO ax ux (kpf t) ++ (MW cyI cyZ am um ++ KT cyI t)) := hD
  refine lv_aload_n hx hb dL_law_459 rfl (lv_at hl 1 rfl) ?_
  refine lv_aload_n hx hb dL_law_460 rfl (lv_at hl 3 rfl) ?_
  refine lv_iload_n hx hb dL_law_461 rfl (lv_at hl 0 rfl) ?_
  refine lv_iconst (v := 1) hx hb dL_law_462 (by decide) ?_
  refine lv_iadd hx hb dL_law_463 ?_
  refine yy_int (v := nI (j + 1)) (ynj (by decide)) ?_
  refine va_sld hx hb hX hbl hbA hS (vp_in_nI (by omega) (by omega)) dL_law_464 ?_
  refine lv_topi (fun v464 ev464 => ?_)
  refine lv_aload_n hx hb dL_law_465 rfl (lv_at hl 3 rfl) ?_
  refine lv_iload_n hx hb dL_law_466 rfl (lv_at hl 0 rfl) ?_
  refine lv_iconst (v := 2) hx hb dL_law_467 (by decide) ?_
  refine lv_iadd hx hb dL_law_468 ?_
  refine yy_int (v := nI (j + 2)) (ynj (by decide)) ?_
  refine va_sld hx hb hX hbl hbA hS (vp_in_nI (by omega) (by omega)) dL_law_469 ?_
  refine lv_topi (fun v469 ev469 => ?_)
  refine lv_aload_n hx hb dL_law_470 rfl (lv_at hl 3 rfl) ?_
  refine lv_iload_n hx hb dL_law_471 rfl (lv_at hl 0 rfl) ?_
  refine lv_iconst (v := 3) hx hb dL_law_472 (by decide) ?_
  refine lv_iadd hx hb dL_law_473 ?_
  refine yy_int (v := nI (j + 3)) (ynj (by decide)) ?_
  refine va_sld hx hb hX hbl hbA hS (vp_in_nI (by omega) (by omega)) dL_law_474 ?_
  refine lv_topi (fun v474 ev474 => ?_)
  have hP := yrotP hP
  have hD := yrotD hD
  refine yy_calliL (va_runV (As := [.int v464, .int v469, .int v474]) (rest := [.int r456]) ⟨hx, hb, hml, hown, hts⟩ (p_turn l dC dI cyI cyZ cyO H.size (am 0) (um.1 0) (um.1 1) (um.1 2) (um.1 3) (um.1 4) (um.1 5) (um.1 6) (um.1 7) (am 1) (um.2 0) (am 2) (um.2 1) (am 3) (um.2 2) (am 4) (um.2 3) (am 5) (um.2 4) (am 6) (um.2 5) (am 7) (um.2 6) (am 8) (um.2 7) (am 9) (um.2 8) (am 10) (um.2 9) (am 11) (um.2 10) (am 12) (um.2 11) (am 13) (um.2 12) (am 14) (um.2 13) (am 15) (um.2 14) (am 16) (um.2 15) v464 v469 v474 n hMO.1 hMO.2.1 hMO.2.2.1 hMO.2.2.2.1 hMO.2.2.2.2.1 hn hn0 hMO.2.2.2.2.2) (cwV 3 hts gL_law_X11_turn rfl rfl rfl (by decide +kernel) ⟨Nat.le_of_ble_eq_true rfl, Nat.le_of_ble_eq_true rfl⟩) (yPreV hK (va_P_left hP) (va_D_left hD) (ci := 11) (q0 := 0) rfl rfl) rfl rfl hl.1 rfl (lv_room (Nat.le_of_ble_eq_true rfl)) dL_law_475 ⟨by show _ ≤ 600000; omega, by show _ ≤ 7302250; omega⟩) hP hD hS hA (fun r475 um H locs hw hP hD hS => ?_)
  obtain ⟨hrm, hMO⟩ := hw
  have hMO : MOK (n + 32000) um := hMO
  have hP : va_P (dC, dI) vwCl (MW cyI cyZ am um ++ (XW cyI cyZ cyO ax ux (kpf t) ++ KT cyI t)) H := hP
  have hD : va_D A (MW cyI cyZ am um ++ (XW cyI cyZ cyO ax ux (kpf t) ++ KT cyI t)) := hD
  have hP := yrotP hP
  have hD := yrotD hD
  refine lv_icmp_eq (tgt := 838) hx hb dL_law_478 (by decide) (fun _ => ?_) (fun cc => absurd (by rw [hrx, hrm, ev445, ev455, ev464, ev474]) cc)
  refine W.widen (k := k0 + 26) (n := s0 + 2545) (by omega) (by omega) ?_
  exact fin _ _ _ _ _ _ hXO hMO hTO hP hD hS hl
set_option maxHeartbeats 4000000 in
set_option maxRecDepth 100000 in
/-- the law: wire -/
theorem law_wire {p : Program} {e : Env} {s : State} {m : MethodId} {below : List Frame} {meth : Method} {c : Code} (l : Launch) {b L : Nat} {xs : Nat → Int32} (hL : L ≤ 3072) (C0 : lw_At p s m meth c b L xs) {dC : Nat → ClassId} {dI : Nat → Nat → Nat} {cyI cyZ cyO : ClassId} {A : Nat → Prop} (hA : ∀ q : Nat, s.heap.size ≤ q → A q) (hbA : ¬ A b) (hN : yN s) (hK : va_K (dC, dI) vwCl (yT cyI cyZ cyO) s) (ax am : Nat → Nat) (j : Nat) (hj : j + 6 ≤ L) (n : Int) (hn0 : 0 ≤ n) (hn : n ≤ 1400000000) (k0 s0 : Nat) (hk0 : k0 + 26 ≤ 600000) (hs0 : s0 + 2545 ≤ 7302250) (ux um : yU) (t : Nat → Option KS) {H : Heap} {locs : List Loc} (hXO : XOK ux) (hMO : MOK n um) (hTO : TOK t) (hP : va_P (dC, dI) vwCl (XW cyI cyZ cyO ax ux (kpf t) ++ (MW cyI cyZ am um ++ KT cyI t)) H) (hD : va_D A (XW cyI cyZ cyO ax ux (kpf t) ++ (MW cyI cyZ am um ++ KT cyI t))) (hS : va_S A s.heap H locs) {ls : Array Slot} (hl : lv_has ls 4 [(3, .int (nI j)), (2, .ref (am 0)), (1, .ref (ax 0)), (0, .ref b)]) (fin : ∀ (ux um : yU) (t : Nat → Option KS) (H : Heap) (locs : List Loc) (ls : Array Slot), XOK ux → MOK (n + 32000) um → TOK t → va_P (dC, dI) vwCl (XW cyI cyZ cyO ax ux (kpf t) ++ (MW cyI cyZ am um ++ KT cyI t)) H → va_D A (XW cyI cyZ cyO ax ux (kpf t) ++ (MW cyI cyZ am um ++ KT cyI t)) → va_S A s.heap H locs → lv_has ls 4 [(3, .int (nI j)), (2, .ref (am 0)), (1, .ref (ax 0)), (0, .ref b)] → W p l e room_1 s m #[Value.ref b] below meth c H locs (k0 + 26) (s0 + 2545) (lw_Z below #[Value.ref b] s) (F0 m 838 ls [])) : W p l e room_1 s m #[Value.ref b] below meth c H locs k0 s0 (lw_Z below #[Value.ref b] s) (F0 m 483 ls []) := by
  obtain ⟨hx, hb, hr, hml, hown0, hts0, hX, hbl, hlk, hgv⟩ := C0
  have hown : s.vm.findClass RL = some m.cls := hown0
  have hts : ∀ w ∈ wsL_law, w.before #[Value.ref b] s = true := fun w h => hts0 w (wsL_law_in w h)
  refine lv_aload_n hx hb dL_law_483 rfl (lv_at hl 2 rfl) ?_
  refine lv_aload_n hx hb dL_law_484 rfl (lv_at hl 3 rfl) ?_
  refine lv_iload_n hx hb dL_law_485 rfl (lv_at hl 0 rfl) ?_
  refine lv_iconst (v := 1) hx hb dL_law_486 (by decide) ?_
  refine lv_iadd hx hb dL_law_487 ?_
  refine yy_int (v := nI (j + 1)) (ynj (by decide)) ?_
  refine va_sld hx hb hX hbl hbA hS (vp_in_nI (by omega) (by omega)) dL_law_488 ?_
  refine lv_topi (fun v488 ev488 => ?_)
  refine yy_calliL (va_runV (As := [.int v488]) (rest := []) ⟨hx, hb, hml, hown, hts⟩ (g_wire l dC dI cyI cyZ cyO H.size (ax 0) (ux.1 0) (ax 1) (ux.1 1) (ux.1 2) (ux.1 3) (ux.1 4) (ux.1 5) (ax 2) (ux.2 0) (ax 3) (ux.2 1) (ax 4) (ux.2 2) (ax 5) (ux.2 3) (ax 6) (ux.2 4) (ax 7) (ux.2 5) (ax 8) (ux.2 6) (ax 9) (ux.2 7) (ax 10) (ux.1 6) (ax 11) (ax 12) (ux.2 8) (ax 13) (ux.2 9) (ax 14) (ux.2 10) (ax 15) (ux.2 11) (ax 16) (ux.2 12) (ax 17) (ux.2 13) (ax 18) (ux.1 7) (ax 19) (ux.2 14) (ax 20) (ux.2 15) (ax 21) (ux.1 8) (ux.1 9) (ux.1 10) (ux.1 11) (ux.1 12) (ux.1 13) (ax 22) (ux.1 14) (ax 23) (ux.2 16) (ax 24) (ux.1 15) (ux.1 16) (ux.1 17) (ux.1 18) (ux.1 19) (ux.1 20) (ax 25) (ux.1 21) (ux.1 22) (ux.1 23) (ux.1 24) (ux.1 25) (ux.1 26) (ux.1 27) (ux.1 28) (ux.1 29) (ux.1 30) (ux.1 31) (ux.1 32) (ux.1 33) (ax 26) (ux.1 34) (ax 27) (ux.2 17) (ax 28) (ux.2 18) (ax 29) (ux.2 19) (ax 30) (ux.1 35) (ux.1 36) (ux.1 37) (ax 31) (ux.2 20) (ax 32) (ux.1 38) (ux.1 39) (ux.1 40) (ax 33) (ux.2 21) (ax 34) (ux.1 41) (ax 35) (ux.2 22) (ax 36) (ux.2 23) (ax 37) (ux.1 42) (ax 38) (ux.2 24) (ax 39) (ux.2 25) (ax 40) (kpf t) v488 hXO.1 hXO.2.1 hXO.2.2.1 hXO.2.2.2.1 hXO.2.2.2.2.1 hXO.2.2.2.2.2.1 hXO.2.2.2.2.2.2.1 hXO.2.2.2.2.2.2.2.1 hXO.2.2.2.2.2.2.2.2.1 hXO.2.2.2.2.2.2.2.2.2) (cwV 1 hts gL_law_X10_wire rfl rfl rfl (by decide +kernel) ⟨Nat.le_of_ble_eq_true rfl, Nat.le_of_ble_eq_true rfl⟩) (yPreV hK (va_P_left hP) (va_D_left hD) (ci := 10) (q0 := 0) rfl rfl) rfl rfl hl.1 rfl (lv_room (Nat.le_of_ble_eq_true rfl)) dL_law_489 ⟨by show _ ≤ 600000; omega, by show _ ≤ 7302250; omega⟩) hP hD hS hA (fun r489 ux H locs hw hP hD hS => ?_)
  have hXO : XOK ux := hw
  have hP : va_P (dC, dI) vwCl (XW cyI cyZ cyO ax ux (kpf t) ++ (MW cyI cyZ am um ++ KT cyI t)) H := hP
  have hD : va_D A (XW cyI cyZ cyO ax ux (kpf t) ++ (MW cyI cyZ am um ++ KT cyI t)) := hD
  refine lv_pop hx hb dL_law_492 rfl ?_
  refine lv_aload_n hx hb dL_law_493 rfl (lv_at hl 1 rfl) ?_
  refine lv_aload_n hx hb dL_law_494 rfl (lv_at hl 3 rfl) ?_
  refine lv_iload_n hx hb dL_law_495 rfl (lv_at hl 0 rfl) ?_
  refine lv_iconst (v := 1) hx hb dL_law_496 (by decide) ?_
  refine lv_iadd hx hb dL_law_497 ?_
  refine yy_int (v := nI (j + 1)) (ynj (by decide)) ?_
  refine va_sld hx hb hX hbl hbA hS (vp_in_nI (by omega) (by omega)) dL_law_498 ?_
  refine lv_topi (fun v498 ev498 => ?_)
  have hP := yrotP hP
  have hD := yrotD hD
  refine yy_calliL (va_runV (As := [.int v498]) (rest := []) ⟨hx, hb, hml, hown, hts⟩ (p_wire l dC dI cyI cyZ cyO H.size (am 0) (um.1 0) (um.1 1) (um.1 2) (um.1 3) (um.1 4) (um.1 5) (um.1 6) (um.1 7) (am 1) (um.2 0) (am 2) (um.2 1) (am 3) (um.2 2) (am 4) (um.2 3) (am 5) (um.2 4) (am 6) (um.2 5) (am 7) (um.2 6) (am 8) (um.2 7) (am 9) (um.2 8) (am 10) (um.2 9) (am 11) (um.2 10) (am 12) (um.2 11) (am 13) (um.2 12) (am 14) (um.2 13) (am 15) (um.2 14) (am 16) (um.2 15) v498 n hMO.1 hMO.2.1 hMO.2.2.1 hMO.2.2.2.1 hMO.2.2.2.2.1 hn hn0 hMO.2.2.2.2.2) (cwV 1 hts gL_law_X11_wire rfl rfl rfl (by decide +kernel) ⟨Nat.le_of_ble_eq_true rfl, Nat.le_of_ble_eq_true rfl⟩) (yPreV hK (va_P_left hP) (va_D_left hD) (ci := 11) (q0 := 0) rfl rfl) rfl rfl hl.1 rfl (lv_room (Nat.le_of_ble_eq_true rfl)) dL_law_499 ⟨by show _ ≤ 600000; omega, by show _ ≤ 7302250; omega⟩) hP hD hS hA (fun r499 um H locs hw hP hD hS => ?_)
  have hMO : MOK (n + 32000) um := hw
  have hP : va_P (dC, dI) vwCl (MW cyI cyZ am um ++ (XW cyI cyZ cyO ax ux (kpf t) ++ KT cyI t)) H := hP
  have hD : va_D A (MW cyI cyZ am um ++ (XW cyI cyZ cyO ax ux (kpf t) ++ KT cyI t)) := hD
  have hP := yrotP hP
  have hD := yrotD hD
  refine lv_pop hx hb dL_law_502 rfl ?_
  refine lv_goto (tgt := 838) hx hb dL_law_503 (by decide) ?_
  refine W.widen (k := k0 + 26) (n := s0 + 2545) (by omega) (by omega) ?_
  exact fin _ _ _ _ _ _ hXO hMO hTO hP hD hS hl
set_option maxHeartbeats 4000000 in
set_option maxRecDepth 100000 in
/-- the law: under -/
theorem law_under {p : Program} {e : Env} {s : State} {m : MethodId} {below : List Frame} {meth : Method} {c : Code} (l : Launch) {b L : Nat} {xs : Nat → Int32} (hL : L ≤ 3072) (C0 : lw_At p s m meth c b L xs) {dC : Nat → ClassId} {dI : Nat → Nat → Nat} {cyI cyZ cyO : ClassId} {A : Nat → Prop} (hA : ∀ q : Nat, s.heap.size ≤ q → A q) (hbA : ¬ A b) (hN : yN s) (hK : va_K (dC, dI) vwCl (yT cyI cyZ cyO) s) (ax am : Nat → Nat) (j : Nat) (hj : j + 6 ≤ L) (n : Int) (hn0 : 0 ≤ n) (hn : n ≤ 1400000000) (k0 s0 : Nat) (hk0 : k0 + 26 ≤ 600000) (hs0 : s0 + 2545 ≤ 7302250) (ux um : yU) (t : Nat → Option KS) {H : Heap} {locs : List Loc} (hXO : XOK ux) (hMO : MOK n um) (hTO : TOK t) (hP : va_P (dC, dI) vwCl (XW cyI cyZ cyO ax ux (kpf t) ++ (MW cyI cyZ am um ++ KT cyI t)) H) (hD : va_D A (XW cyI cyZ cyO ax ux (kpf t) ++ (MW cyI cyZ am um ++ KT cyI t))) (hS : va_S A s.heap H locs) {ls : Array Slot} (hl : lv_has ls 4 [(3, .int (nI j)), (2, .ref (am 0)), (1, .ref (ax 0)), (0, .ref b)]) (fin : ∀ (ux um : yU) (t : Nat → Option KS) (H : Heap) (locs : List Loc) (ls : Array Slot), XOK ux → MOK (n + 32000) um → TOK t → va_P (dC, dI) vwCl (XW cyI cyZ cyO ax ux (kpf t) ++ (MW cyI cyZ am um ++ KT cyI t)) H → va_D A (XW cyI cyZ cyO ax ux (kpf t) ++ (MW cyI cyZ am um ++ KT cyI t)) → va_S A s.heap H locs → lv_has ls 4 [(3, .int (nI j)), (2, .ref (am 0)), (1, .ref (ax 0)), (0, .ref b)] → W p l e room_1 s m #[Value.ref b] below meth c H locs (k0 + 26) (s0 + 2545) (lw_Z below #[Value.ref b] s) (F0 m 838 ls [])) : W p l e room_1 s m #[Value.ref b] below meth c H locs k0 s0 (lw_Z below #[Value.ref b] s) (F0 m 506 ls []) := by
  obtain ⟨hx, hb, hr, hml, hown0, hts0, hX, hbl, hlk, hgv⟩ := C0
  have hown : s.vm.findClass RL = some m.cls := hown0
  have hts : ∀ w ∈ wsL_law, w.before #[Value.ref b] s = true := fun w h => hts0 w (wsL_law_in w h)
  refine lv_aload_n hx hb dL_law_506 rfl (lv_at hl 2 rfl) ?_
  refine lv_aload_n hx hb dL_law_507 rfl (lv_at hl 3 rfl) ?_
  refine lv_iload_n hx hb dL_law_508 rfl (lv_at hl 0 rfl) ?_
  refine lv_iconst (v := 1) hx hb dL_law_509 (by decide) ?_
  refine lv_iadd hx hb dL_law_510 ?_
  refine yy_int (v := nI (j + 1)) (ynj (by decide)) ?_
  refine va_sld hx hb hX hbl hbA hS (vp_in_nI (by omega) (by omega)) dL_law_511 ?_
  refine lv_topi (fun v511 ev511 => ?_)
  refine yy_calliL (va_runV (As := [.int v511]) (rest := []) ⟨hx, hb, hml, hown, hts⟩ (g_under l dC dI cyI cyZ cyO H.size (ax 0) (ux.1 0) (ax 1) (ux.1 1) (ux.1 2) (ux.1 3) (ux.1 4) (ux.1 5) (ax 2) (ux.2 0) (ax 3) (ux.2 1) (ax 4) (ux.2 2) (ax 5) (ux.2 3) (ax 6) (ux.2 4) (ax 7) (ux.2 5) (ax 8) (ux.2 6) (ax 9) (ux.2 7) (ax 10) (ux.1 6) (ax 11) (ax 12) (ux.2 8) (ax 13) (ux.2 9) (ax 14) (ux.2 10) (ax 15) (ux.2 11) (ax 16) (ux.2 12) (ax 17) (ux.2 13) (ax 18) (ux.1 7) (ax 19) (ux.2 14) (ax 20) (ux.2 15) (ax 21) (ux.1 8) (ux.1 9) (ux.1 10) (ux.1 11) (ux.1 12) (ux.1 13) (ax 22) (ux.1 14) (ax 23) (ux.2 16) (ax 24) (ux.1 15) (ux.1 16) (ux.1 17) (ux.1 18) (ux.1 19) (ux.1 20) (ax 25) (ux.1 21) (ux.1 22) (ux.1 23) (ux.1 24) (ux.1 25) (ux.1 26) (ux.1 27) (ux.1 28) (ux.1 29) (ux.1 30) (ux.1 31) (ux.1 32) (ux.1 33) (ax 26) (ux.1 34) (ax 27) (ux.2 17) (ax 28) (ux.2 18) (ax 29) (ux.2 19) (ax 30) (ux.1 35) (ux.1 36) (ux.1 37) (ax 31) (ux.2 20) (ax 32) (ux.1 38) (ux.1 39) (ux.1 40) (ax 33) (ux.2 21) (ax 34) (ux.1 41) (ax 35) (ux.2 22) (ax 36) (ux.2 23) (ax 37) (ux.1 42) (ax 38) (ux.2 24) (ax 39) (ux.2 25) (ax 40) (kpf t) v511 hXO.1 hXO.2.1 hXO.2.2.1 hXO.2.2.2.1 hXO.2.2.2.2.1 hXO.2.2.2.2.2.1 hXO.2.2.2.2.2.2.1 hXO.2.2.2.2.2.2.2.1 hXO.2.2.2.2.2.2.2.2.1 hXO.2.2.2.2.2.2.2.2.2) (cwV 1 hts gL_law_X10_under rfl rfl rfl (by decide +kernel) ⟨Nat.le_of_ble_eq_true rfl, Nat.le_of_ble_eq_true rfl⟩) (yPreV hK (va_P_left hP) (va_D_left hD) (ci := 10) (q0 := 0) rfl rfl) rfl rfl hl.1 rfl (lv_room (Nat.le_of_ble_eq_true rfl)) dL_law_512 ⟨by show _ ≤ 600000; omega, by show _ ≤ 7302250; omega⟩) hP hD hS hA (fun r512 ux H locs hw hP hD hS => ?_)
  have hXO : XOK ux := hw
  have hP : va_P (dC, dI) vwCl (XW cyI cyZ cyO ax ux (kpf t) ++ (MW cyI cyZ am um ++ KT cyI t)) H := hP
  have hD : va_D A (XW cyI cyZ cyO ax ux (kpf t) ++ (MW cyI cyZ am um ++ KT cyI t)) := hD
  refine lv_pop hx hb dL_law_515 rfl ?_
  refine lv_aload_n hx hb dL_law_516 rfl (lv_at hl 1 rfl) ?_
  refine lv_aload_n hx hb dL_law_517 rfl (lv_at hl 3 rfl) ?_
  refine lv_iload_n hx hb dL_law_518 rfl (lv_at hl 0 rfl) ?_
  refine lv_iconst (v := 1) hx hb dL_law_519 (by decide) ?_
  refine lv_iadd hx hb dL_law_520 ?_
  refine yy_int (v := nI (j + 1)) (ynj (by decide)) ?_
  refine va_sld hx hb hX hbl hbA hS (vp_in_nI (by omega) (by omega)) dL_law_521 ?_
  refine lv_topi (fun v521 ev521 => ?_)
  have hP := yrotP hP
  have hD := yrotD hD
  refine yy_calliL (va_runV (As := [.int v521]) (rest := []) ⟨hx, hb, hml, hown, hts⟩ (p_under l dC dI cyI cyZ cyO H.size (am 0) (um.1 0) (um.1 1) (um.1 2) (um.1 3) (um.1 4) (um.1 5) (um.1 6) (um.1 7) (am 1) (um.2 0) (am 2) (um.2 1) (am 3) (um.2 2) (am 4) (um.2 3) (am 5) (um.2 4) (am 6) (um.2 5) (am 7) (um.2 6) (am 8) (um.2 7) (am 9) (um.2 8) (am 10) (um.2 9) (am 11) (um.2 10) (am 12) (um.2 11) (am 13) (um.2 12) (am 14) (um.2 13) (am 15) (um.2 14) (am 16) (um.2 15) v521 n hMO.1 hMO.2.1 hMO.2.2.1 hMO.2.2.2.1 hMO.2.2.2.2.1 hn hn0 hMO.2.2.2.2.2) (cwV 1 hts gL_law_X11_under rfl rfl rfl (by decide +kernel) ⟨Nat.le_of_ble_eq_true rfl, Nat.le_of_ble_eq_true rfl⟩) (yPreV hK (va_P_left hP) (va_D_left hD) (ci := 11) (q0 := 0) rfl rfl) rfl rfl hl.1 rfl (lv_room (Nat.le_of_ble_eq_true rfl)) dL_law_522 ⟨by show _ ≤ 600000; omega, by show _ ≤ 7302250; omega⟩) hP hD hS hA (fun r522 um H locs hw hP hD hS => ?_)
  have hMO : MOK (n + 32000) um := hw
  have hP : va_P (dC, dI) vwCl (MW cyI cyZ am um ++ (XW cyI cyZ cyO ax ux (kpf t) ++ KT cyI t)) H := hP
  have hD : va_D A (MW cyI cyZ am um ++ (XW cyI cyZ cyO ax ux (kpf t) ++ KT cyI t)) := hD
  have hP := yrotP hP
  have hD := yrotD hD
  refine lv_pop hx hb dL_law_525 rfl ?_
  refine lv_goto (tgt := 838) hx hb dL_law_526 (by decide) ?_
  refine W.widen (k := k0 + 26) (n := s0 + 2545) (by omega) (by omega) ?_
  exact fin _ _ _ _ _ _ hXO hMO hTO hP hD hS hl
set_option maxHeartbeats 4000000 in
set_option maxRecDepth 100000 in
/-- the law: result -/
theorem law_result {p : Program} {e : Env} {s : State} {m : MethodId} {below : List Frame} {meth : Method} {c : Code} (l : Launch) {b L : Nat} {xs : Nat → Int32} (hL : L ≤ 3072) (C0 : lw_At p s m meth c b L xs) {dC : Nat → ClassId} {dI : Nat → Nat → Nat} {cyI cyZ cyO : ClassId} {A : Nat → Prop} (hA : ∀ q : Nat, s.heap.size ≤ q → A q) (hbA : ¬ A b) (hN : yN s) (hK : va_K (dC, dI) vwCl (yT cyI cyZ cyO) s) (ax am : Nat → Nat) (j : Nat) (hj : j + 6 ≤ L) (n : Int) (hn0 : 0 ≤ n) (hn : n ≤ 1400000000) (k0 s0 : Nat) (hk0 : k0 + 26 ≤ 600000) (hs0 : s0 + 2545 ≤ 7302250) (ux um : yU) (t : Nat → Option KS) {H : Heap} {locs : List Loc} (hXO : XOK ux) (hMO : MOK n um) (hTO : TOK t) (hP : va_P (dC, dI) vwCl (XW cyI cyZ cyO ax ux (kpf t) ++ (MW cyI cyZ am um ++ KT cyI t)) H) (hD : va_D A (XW cyI cyZ cyO ax ux (kpf t) ++ (MW cyI cyZ am um ++ KT cyI t))) (hS : va_S A s.heap H locs) {ls : Array Slot} (hl : lv_has ls 4 [(3, .int (nI j)), (2, .ref (am 0)), (1, .ref (ax 0)), (0, .ref b)]) (fin : ∀ (ux um : yU) (t : Nat → Option KS) (H : Heap) (locs : List Loc) (ls : Array Slot), XOK ux → MOK (n + 32000) um → TOK t → va_P (dC, dI) vwCl (XW cyI cyZ cyO ax ux (kpf t) ++ (MW cyI cyZ am um ++ KT cyI t)) H → va_D A (XW cyI cyZ cyO ax ux (kpf t) ++ (MW cyI cyZ am um ++ KT cyI t)) → va_S A s.heap H locs → lv_has ls 4 [(3, .int (nI j)), (2, .ref (am 0)), (1, .ref (ax 0)), (0, .ref b)] → W p l e room_1 s m #[Value.ref b] below meth c H locs (k0 + 26) (s0 + 2545) (lw_Z below #[Value.ref b] s) (F0 m 838 ls [])) : W p l e room_1 s m #[Value.ref b] below meth c H locs k0 s0 (lw_Z below #[Value.ref b] s) (F0 m 529 ls []) := by
  obtain ⟨hx, hb, hr, hml, hown0, hts0, hX, hbl, hlk, hgv⟩ := C0
  have hown : s.vm.findClass RL = some m.cls := hown0
  have hts : ∀ w ∈ wsL_law, w.before #[Value.ref b] s = true := fun w h => hts0 w (wsL_law_in w h)
  refine lv_aload_n hx hb dL_law_529 rfl (lv_at hl 2 rfl) ?_
  refine lv_aload_n hx hb dL_law_530 rfl (lv_at hl 3 rfl) ?_
  refine lv_iload_n hx hb dL_law_531 rfl (lv_at hl 0 rfl) ?_
  refine lv_iconst (v := 1) hx hb dL_law_532 (by decide) ?_
  refine lv_iadd hx hb dL_law_533 ?_
  refine yy_int (v := nI (j + 1)) (ynj (by decide)) ?_
  refine va_sld hx hb hX hbl hbA hS (vp_in_nI (by omega) (by omega)) dL_law_534 ?_
  refine lv_topi (fun v534 ev534 => ?_)
  refine lv_aload_n hx hb dL_law_535 rfl (lv_at hl 3 rfl) ?_
  refine lv_iload_n hx hb dL_law_536 rfl (lv_at hl 0 rfl) ?_
  refine lv_iconst (v := 2) hx hb dL_law_537 (by decide) ?_
  refine lv_iadd hx hb dL_law_538 ?_
  refine yy_int (v := nI (j + 2)) (ynj (by decide)) ?_
  refine va_sld hx hb hX hbl hbA hS (vp_in_nI (by omega) (by omega)) dL_law_539 ?_
  refine lv_topi (fun v539 ev539 => ?_)
  refine yy_calliL (va_runV (As := [.int v534, .int v539]) (rest := []) ⟨hx, hb, hml, hown, hts⟩ (g_result l dC dI cyI cyZ cyO H.size (ax 0) (ux.1 0) (ax 1) (ux.1 1) (ux.1 2) (ux.1 3) (ux.1 4) (ux.1 5) (ax 2) (ux.2 0) (ax 3) (ux.2 1) (ax 4) (ux.2 2) (ax 5) (ux.2 3) (ax 6) (ux.2 4) (ax 7) (ux.2 5) (ax 8) (ux.2 6) (ax 9) (ux.2 7) (ax 10) (ux.1 6) (ax 11) (ax 12) (ux.2 8) (ax 13) (ux.2 9) (ax 14) (ux.2 10) (ax 15) (ux.2 11) (ax 16) (ux.2 12) (ax 17) (ux.2 13) (ax 18) (ux.1 7) (ax 19) (ux.2 14) (ax 20) (ux.2 15) (ax 21) (ux.1 8) (ux.1 9) (ux.1 10) (ux.1 11) (ux.1 12) (ux.1 13) (ax 22) (ux.1 14) (ax 23) (ux.2 16) (ax 24) (ux.1 15) (ux.1 16) (ux.1 17) (ux.1 18) (ux.1 19) (ux.1 20) (ax 25) (ux.1 21) (ux.1 22) (ux.1 23) (ux.1 24) (ux.1 25) (ux.1 26) (ux.1 27) (ux.1 28) (ux.1 29) (ux.1 30) (ux.1 31) (ux.1 32) (ux.1 33) (ax 26) (ux.1 34) (ax 27) (ux.2 17) (ax 28) (ux.2 18) (ax 29) (ux.2 19) (ax 30) (ux.1 35) (ux.1 36) (ux.1 37) (ax 31) (ux.2 20) (ax 32) (ux.1 38) (ux.1 39) (ux.1 40) (ax 33) (ux.2 21) (ax 34) (ux.1 41) (ax 35) (ux.2 22) (ax 36) (ux.2 23) (ax 37) (ux.1 42) (ax 38) (ux.2 24) (ax 39) (ux.2 25) (ax 40) (kpf t) v534 v539 hXO.1 hXO.2.1 hXO.2.2.1 hXO.2.2.2.1 hXO.2.2.2.2.1 hXO.2.2.2.2.2.1 hXO.2.2.2.2.2.2.1 hXO.2.2.2.2.2.2.2.1 hXO.2.2.2.2.2.2.2.2.1 hXO.2.2.2.2.2.2.2.2.2) (cwV 2 hts gL_law_X10_result rfl rfl rfl (by decide +kernel) ⟨Nat.le_of_ble_eq_true rfl, Nat.le_of_ble_eq_true rfl⟩) (yPreV hK (va_P_left hP) (va_D_left hD) (ci := 10) (q0 := 0) rfl rfl) rfl rfl hl.1 rfl (lv_room (Nat.le_of_ble_eq_true rfl)) dL_law_540 ⟨by show _ ≤ 600000; omega, by show _ ≤ 7302250; omega⟩) hP hD hS hA (fun r540 ux H locs hw hP hD hS => ?_)
  have hXO : XOK ux := hw
  have hP : va_P (dC, dI) vwCl (XW cyI cyZ cyO ax ux (kpf t) ++ (MW cyI cyZ am um ++ KT cyI t)) H := hP
  have hD : va_D A (XW cyI cyZ cyO ax ux (kpf t) ++ (MW cyI cyZ am um ++ KT cyI t)) := hD
  refine lv_pop hx hb dL_law_543 rfl ?_
  refine lv_aload_n hx hb dL_law_544 rfl (lv_at hl 1 rfl) ?_
  refine lv_aload_n hx hb dL_law_545 rfl (lv_at hl 3 rfl) ?_
  refine lv_iload_n hx hb dL_law_546 rfl (lv_at hl 0 rfl) ?_
  refine lv_iconst (v := 1) hx hb dL_law_547 (by decide) ?_
  refine lv_iadd hx hb dL_law_548 ?_
  refine yy_int (v := nI (j + 1)) (ynj (by decide)) ?_
  refine va_sld hx hb hX hbl hbA hS (vp_in_nI (by omega) (by omega)) dL_law_549 ?_
  refine lv_topi (fun v549 ev549 => ?_)
  refine lv_aload_n hx hb dL_law_550 rfl (lv_at hl 3 rfl) ?_
  refine lv_iload_n hx hb dL_law_551 rfl (lv_at hl 0 rfl) ?_
  refine lv_iconst (v := 2) hx hb dL_law_552 (by decide) ?_
  refine lv_iadd hx hb dL_law_553 ?_
  refine yy_int (v := nI (j + 2)) (ynj (by decide)) ?_
  refine va_sld hx hb hX hbl hbA hS (vp_in_nI (by omega) (by omega)) dL_law_554 ?_
  refine lv_topi (fun v554 ev554 => ?_)
  have hP := yrotP hP
  have hD := yrotD hD
  refine yy_calliL (va_runV (As := [.int v549, .int v554]) (rest := []) ⟨hx, hb, hml, hown, hts⟩ (p_result l dC dI cyI cyZ cyO H.size (am 0) (um.1 0) (um.1 1) (um.1 2) (um.1 3) (um.1 4) (um.1 5) (um.1 6) (um.1 7) (am 1) (um.2 0) (am 2) (um.2 1) (am 3) (um.2 2) (am 4) (um.2 3) (am 5) (um.2 4) (am 6) (um.2 5) (am 7) (um.2 6) (am 8) (um.2 7) (am 9) (um.2 8) (am 10) (um.2 9) (am 11) (um.2 10) (am 12) (um.2 11) (am 13) (um.2 12) (am 14) (um.2 13) (am 15) (um.2 14) (am 16) (um.2 15) v549 v554 n hMO.1 hMO.2.1 hMO.2.2.1 hMO.2.2.2.1 hMO.2.2.2.2.1 hn hn0 hMO.2.2.2.2.2) (cwV 2 hts gL_law_X11_result rfl rfl rfl (by decide +kernel) ⟨Nat.le_of_ble_eq_true rfl, Nat.le_of_ble_eq_true rfl⟩) (yPreV hK (va_P_left hP) (va_D_left hD) (ci := 11) (q0 := 0) rfl rfl) rfl rfl hl.1 rfl (lv_room (Nat.le_of_ble_eq_true rfl)) dL_law_555 ⟨by show _ ≤ 600000; omega, by show _ ≤ 7302250; omega⟩) hP hD hS hA (fun r555 um H locs hw hP hD hS => ?_)
  have hMO : MOK (n + 32000) um := hw
  have hP : va_P (dC, dI) vwCl (MW cyI cyZ am um ++ (XW cyI cyZ cyO ax ux (kpf t) ++ KT cyI t)) H := hP
  have hD : va_D A (MW cyI cyZ am um ++ (XW cyI cyZ cyO ax ux (kpf t) ++ KT cyI t)) := hD
  have hP := yrotP hP
  have hD := yrotD hD
  refine lv_pop hx hb dL_law_558 rfl ?_
  refine lv_goto (tgt := 838) hx hb dL_law_559 (by decide) ?_
  refine W.widen (k := k0 + 26) (n := s0 + 2545) (by omega) (by omega) ?_
  exact fin _ _ _ _ _ _ hXO hMO hTO hP hD hS hl
set_option maxHeartbeats 4000000 in
set_option maxRecDepth 100000 in
/-- the law: log -/
theorem law_log {p : Program} {e : Env} {s : State} {m : MethodId} {below : List Frame} {meth : Method} {c : Code} (l : Launch) {b L : Nat} {xs : Nat → Int32} (hL : L ≤ 3072) (C0 : lw_At p s m meth c b L xs) {dC : Nat → ClassId} {dI : Nat → Nat → Nat} {cyI cyZ cyO : ClassId} {A : Nat → Prop} (hA : ∀ q : Nat, s.heap.size ≤ q → A q) (hbA : ¬ A b) (hN : yN s) (hK : va_K (dC, dI) vwCl (yT cyI cyZ cyO) s) (ax am : Nat → Nat) (j : Nat) (hj : j + 6 ≤ L) (n : Int) (hn0 : 0 ≤ n) (hn : n ≤ 1400000000) (k0 s0 : Nat) (hk0 : k0 + 26 ≤ 600000) (hs0 : s0 + 2545 ≤ 7302250) (ux um : yU) (t : Nat → Option KS) {H : Heap} {locs : List Loc} (hXO : XOK ux) (hMO : MOK n um) (hTO : TOK t) (hP : va_P (dC, dI) vwCl (XW cyI cyZ cyO ax ux (kpf t) ++ (MW cyI cyZ am um ++ KT cyI t)) H) (hD : va_D A (XW cyI cyZ cyO ax ux (kpf t) ++ (MW cyI cyZ am um ++ KT cyI t))) (hS : va_S A s.heap H locs) {ls : Array Slot} (hl : lv_has ls 4 [(3, .int (nI j)), (2, .ref (am 0)), (1, .ref (ax 0)), (0, .ref b)]) (fin : ∀ (ux um : yU) (t : Nat → Option KS) (H : Heap) (locs : List Loc) (ls : Array Slot), XOK ux → MOK (n + 32000) um → TOK t → va_P (dC, dI) vwCl (XW cyI cyZ cyO ax ux (kpf t) ++ (MW cyI cyZ am um ++ KT cyI t)) H → va_D A (XW cyI cyZ cyO ax ux (kpf t) ++ (MW cyI cyZ am um ++ KT cyI t)) → va_S A s.heap H locs → lv_has ls 4 [(3, .int (nI j)), (2, .ref (am 0)), (1, .ref (ax 0)), (0, .ref b)] → W p l e room_1 s m #[Value.ref b] below meth c H locs (k0 + 26) (s0 + 2545) (lw_Z below #[Value.ref b] s) (F0 m 838 ls [])) : W p l e room_1 s m #[Value.ref b] below meth c H locs k0 s0 (lw_Z below #[Value.ref b] s) (F0 m 562 ls []) := by
  obtain ⟨hx, hb, hr, hml, hown0, hts0, hX, hbl, hlk, hgv⟩ := C0
  have hown : s.vm.findClass RL = some m.cls := hown0
  have hts : ∀ w ∈ wsL_law, w.before #[Value.ref b] s = true := fun w h => hts0 w (wsL_law_in w h)
  refine lv_aload_n hx hb dL_law_562 rfl (lv_at hl 2 rfl) ?_
  refine lv_aload_n hx hb dL_law_563 rfl (lv_at hl 3 rfl) ?_
  refine lv_iload_n hx hb dL_law_564 rfl (lv_at hl 0 rfl) ?_
  refine lv_iconst (v := 1) hx hb dL_law_565 (by decide) ?_
  refine lv_iadd hx hb dL_law_566 ?_
  refine yy_int (v := nI (j + 1)) (ynj (by decide)) ?_
  refine va_sld hx hb hX hbl hbA hS (vp_in_nI (by omega) (by omega)) dL_law_567 ?_
  refine lv_topi (fun v567 ev567 => ?_)
  refine lv_aload_n hx hb dL_law_568 rfl (lv_at hl 3 rfl) ?_
  refine lv_iload_n hx hb dL_law_569 rfl (lv_at hl 0 rfl) ?_
  refine lv_iconst (v := 2) hx hb dL_law_570 (by decide) ?_
  refine lv_iadd hx hb dL_law_571 ?_
  refine yy_int (v := nI (j + 2)) (ynj (by decide)) ?_
  refine va_sld hx hb hX hbl hbA hS (vp_in_nI (by omega) (by omega)) dL_law_572 ?_
  refine lv_topi (fun v572 ev572 => ?_)
  refine yy_calliL (va_runV (As := [.int v567, .int v572]) (rest := []) ⟨hx, hb, hml, hown, hts⟩ (g_log l dC dI cyI cyZ cyO H.size (ax 0) (ux.1 0) (ax 1) (ux.1 1) (ux.1 2) (ux.1 3) (ux.1 4) (ux.1 5) (ax 2) (ux.2 0) (ax 3) (ux.2 1) (ax 4) (ux.2 2) (ax 5) (ux.2 3) (ax 6) (ux.2 4) (ax 7) (ux.2 5) (ax 8) (ux.2 6) (ax 9) (ux.2 7) (ax 10) (ux.1 6) (ax 11) (ax 12) (ux.2 8) (ax 13) (ux.2 9) (ax 14) (ux.2 10) (ax 15) (ux.2 11) (ax 16) (ux.2 12) (ax 17) (ux.2 13) (ax 18) (ux.1 7) (ax 19) (ux.2 14) (ax 20) (ux.2 15) (ax 21) (ux.1 8) (ux.1 9) (ux.1 10) (ux.1 11) (ux.1 12) (ux.1 13) (ax 22) (ux.1 14) (ax 23) (ux.2 16) (ax 24) (ux.1 15) (ux.1 16) (ux.1 17) (ux.1 18) (ux.1 19) (ux.1 20) (ax 25) (ux.1 21) (ux.1 22) (ux.1 23) (ux.1 24) (ux.1 25) (ux.1 26) (ux.1 27) (ux.1 28) (ux.1 29) (ux.1 30) (ux.1 31) (ux.1 32) (ux.1 33) (ax 26) (ux.1 34) (ax 27) (ux.2 17) (ax 28) (ux.2 18) (ax 29) (ux.2 19) (ax 30) (ux.1 35) (ux.1 36) (ux.1 37) (ax 31) (ux.2 20) (ax 32) (ux.1 38) (ux.1 39) (ux.1 40) (ax 33) (ux.2 21) (ax 34) (ux.1 41) (ax 35) (ux.2 22) (ax 36) (ux.2 23) (ax 37) (ux.1 42) (ax 38) (ux.2 24) (ax 39) (ux.2 25) (ax 40) (kpf t) v567 v572 hXO.1 hXO.2.1 hXO.2.2.1 hXO.2.2.2.1 hXO.2.2.2.2.1 hXO.2.2.2.2.2.1 hXO.2.2.2.2.2.2.1 hXO.2.2.2.2.2.2.2.1 hXO.2.2.2.2.2.2.2.2.1 hXO.2.2.2.2.2.2.2.2.2) (cwV 2 hts gL_law_X10_log rfl rfl rfl (by decide +kernel) ⟨Nat.le_of_ble_eq_true rfl, Nat.le_of_ble_eq_true rfl⟩) (yPreV hK (va_P_left hP) (va_D_left hD) (ci := 10) (q0 := 0) rfl rfl) rfl rfl hl.1 rfl (lv_room (Nat.le_of_ble_eq_true rfl)) dL_law_573 ⟨by show _ ≤ 600000; omega, by show _ ≤ 7302250; omega⟩) hP hD hS hA (fun r573 ux H locs hw hP hD hS => ?_)
  have hXO : XOK ux := hw
  have hP : va_P (dC, dI) vwCl (XW cyI cyZ cyO ax ux (kpf t) ++ (MW cyI cyZ am um ++ KT cyI t)) H := hP
  have hD : va_D A (XW cyI cyZ cyO ax ux (kpf t) ++ (MW cyI cyZ am um ++ KT cyI t)) := hD
  refine lv_pop hx hb dL_law_576 rfl ?_
  refine lv_aload_n hx hb dL_law_577 rfl (lv_at hl 1 rfl) ?_
  refine lv_aload_n hx hb dL_law_578 rfl (lv_at hl 3 rfl) ?_
  refine lv_iload_n hx hb dL_law_579 rfl (lv_at hl 0 rfl) ?_
  refine lv_iconst (v := 1) hx hb dL_law_580 (by decide) ?_
  refine lv_iadd hx hb dL_law_581 ?_
  refine yy_int (v := nI (j + 1)) (ynj (by decide)) ?_
  refine va_sld hx hb hX hbl hbA hS (vp_in_nI (by omega) (by omega)) dL_law_582 ?_
  refine lv_topi (fun v582 ev582 => ?_)
  refine lv_aload_n hx hb dL_law_583 rfl (lv_at hl 3 rfl) ?_
  refine lv_iload_n hx hb dL_law_584 rfl (lv_at hl 0 rfl) ?_
  refine lv_iconst (v := 2) hx hb dL_law_585 (by decide) ?_
  refine lv_iadd hx hb dL_law_586 ?_
  refine yy_int (v := nI (j + 2)) (ynj (by decide)) ?_
  refine va_sld hx hb hX hbl hbA hS (vp_in_nI (by omega) (by omega)) dL_law_587 ?_
  refine lv_topi (fun v587 ev587 => ?_)
  have hP := yrotP hP
  have hD := yrotD hD
  refine yy_calliL (va_runV (As := [.int v582, .int v587]) (rest := []) ⟨hx, hb, hml, hown, hts⟩ (p_log l dC dI cyI cyZ cyO H.size (am 0) (um.1 0) (um.1 1) (um.1 2) (um.1 3) (um.1 4) (um.1 5) (um.1 6) (um.1 7) (am 1) (um.2 0) (am 2) (um.2 1) (am 3) (um.2 2) (am 4) (um.2 3) (am 5) (um.2 4) (am 6) (um.2 5) (am 7) (um.2 6) (am 8) (um.2 7) (am 9) (um.2 8) (am 10) (um.2 9) (am 11) (um.2 10) (am 12) (um.2 11) (am 13) (um.2 12) (am 14) (um.2 13) (am 15) (um.2 14) (am 16) (um.2 15) v582 v587 n hMO.1 hMO.2.1 hMO.2.2.1 hMO.2.2.2.1 hMO.2.2.2.2.1 hn hn0 hMO.2.2.2.2.2) (cwV 2 hts gL_law_X11_log rfl rfl rfl (by decide +kernel) ⟨Nat.le_of_ble_eq_true rfl, Nat.le_of_ble_eq_true rfl⟩) (yPreV hK (va_P_left hP) (va_D_left hD) (ci := 11) (q0 := 0) rfl rfl) rfl rfl hl.1 rfl (lv_room (Nat.le_of_ble_eq_true rfl)) dL_law_588 ⟨by show _ ≤ 600000; omega, by show _ ≤ 7302250; omega⟩) hP hD hS hA (fun r588 um H locs hw hP hD hS => ?_)
  have hMO : MOK (n + 32000) um := hw
  have hP : va_P (dC, dI) vwCl (MW cyI cyZ am um ++ (XW cyI cyZ cyO ax ux (kpf t) ++ KT cyI t)) H := hP
  have hD : va_D A (MW cyI cyZ am um ++ (XW cyI cyZ cyO ax ux (kpf t) ++ KT cyI t)) := hD
  have hP := yrotP hP
  have hD := yrotD hD
  refine lv_pop hx hb dL_law_591 rfl ?_
  refine lv_goto (tgt := 838) hx hb dL_law_592 (by decide) ?_
  refine W.widen (k := k0 + 26) (n := s0 + 2545) (by omega) (by omega) ?_
  exact fin _ _ _ _ _ _ hXO hMO hTO hP hD hS hl
set_option maxHeartbeats 4000000 in
set_option maxRecDepth 100000 in
/-- the law: findings -/
theorem law_findings {p : Program} {e : Env} {s : State} {m : MethodId} {below : List Frame} {meth : Method} {c : Code} (l : Launch) {b L : Nat} {xs : Nat → Int32} (hL : L ≤ 3072) (C0 : lw_At p s m meth c b L xs) {dC : Nat → ClassId} {dI : Nat → Nat → Nat} {cyI cyZ cyO : ClassId} {A : Nat → Prop} (hA : ∀ q : Nat, s.heap.size ≤ q → A q) (hbA : ¬ A b) (hN : yN s) (hK : va_K (dC, dI) vwCl (yT cyI cyZ cyO) s) (ax am : Nat → Nat) (j : Nat) (hj : j + 6 ≤ L) (n : Int) (hn0 : 0 ≤ n) (hn : n ≤ 1400000000) (k0 s0 : Nat) (hk0 : k0 + 26 ≤ 600000) (hs0 : s0 + 2545 ≤ 7302250) (ux um : yU) (t : Nat → Option KS) {H : Heap} {locs : List Loc} (hXO : XOK ux) (hMO : MOK n um) (hTO : TOK t) (hP : va_P (dC, dI) vwCl (XW cyI cyZ cyO ax ux (kpf t) ++ (MW cyI cyZ am um ++ KT cyI t)) H) (hD : va_D A (XW cyI cyZ cyO ax ux (kpf t) ++ (MW cyI cyZ am um ++ KT cyI t))) (hS : va_S A s.heap H locs) {ls : Array Slot} (hl : lv_has ls 4 [(3, .int (nI j)), (2, .ref (am 0)), (1, .ref (ax 0)), (0, .ref b)]) (fin : ∀ (ux um : yU) (t : Nat → Option KS) (H : Heap) (locs : List Loc) (ls : Array Slot), XOK ux → MOK (n + 32000) um → TOK t → va_P (dC, dI) vwCl (XW cyI cyZ cyO ax ux (kpf t) ++ (MW cyI cyZ am um ++ KT cyI t)) H → va_D A (XW cyI cyZ cyO ax ux (kpf t) ++ (MW cyI cyZ am um ++ KT cyI t)) → va_S A s.heap H locs → lv_has ls 4 [(3, .int (nI j)), (2, .ref (am 0)), (1, .ref (ax 0)), (0, .ref b)] → W p l e room_1 s m #[Value.ref b] below meth c H locs (k0 + 26) (s0 + 2545) (lw_Z below #[Value.ref b] s) (F0 m 838 ls [])) : W p l e room_1 s m #[Value.ref b] below meth c H locs k0 s0 (lw_Z below #[Value.ref b] s) (F0 m 595 ls []) := by
  obtain ⟨hx, hb, hr, hml, hown0, hts0, hX, hbl, hlk, hgv⟩ := C0
  have hown : s.vm.findClass RL = some m.cls := hown0
  have hts : ∀ w ∈ wsL_law, w.before #[Value.ref b] s = true := fun w h => hts0 w (wsL_law_in w h)
  refine lv_aload_n hx hb dL_law_595 rfl (lv_at hl 2 rfl) ?_
  refine lv_aload_n hx hb dL_law_596 rfl (lv_at hl 3 rfl) ?_
  refine lv_iload_n hx hb dL_law_597 rfl (lv_at hl 0 rfl) ?_
  refine lv_iconst (v := 1) hx hb dL_law_598 (by decide) ?_
  refine lv_iadd hx hb dL_law_599 ?_
  refine yy_int (v := nI (j + 1)) (ynj (by decide)) ?_
  refine va_sld hx hb hX hbl hbA hS (vp_in_nI (by omega) (by omega)) dL_law_600 ?_
  refine lv_topi (fun v600 ev600 => ?_)
  refine yy_calliL (va_runV (As := [.int v600]) (rest := []) ⟨hx, hb, hml, hown, hts⟩ (g_findings l dC dI cyI cyZ cyO H.size (ax 0) (ux.1 0) (ax 1) (ux.1 1) (ux.1 2) (ux.1 3) (ux.1 4) (ux.1 5) (ax 2) (ux.2 0) (ax 3) (ux.2 1) (ax 4) (ux.2 2) (ax 5) (ux.2 3) (ax 6) (ux.2 4) (ax 7) (ux.2 5) (ax 8) (ux.2 6) (ax 9) (ux.2 7) (ax 10) (ux.1 6) (ax 11) (ax 12) (ux.2 8) (ax 13) (ux.2 9) (ax 14) (ux.2 10) (ax 15) (ux.2 11) (ax 16) (ux.2 12) (ax 17) (ux.2 13) (ax 18) (ux.1 7) (ax 19) (ux.2 14) (ax 20) (ux.2 15) (ax 21) (ux.1 8) (ux.1 9) (ux.1 10) (ux.1 11) (ux.1 12) (ux.1 13) (ax 22) (ux.1 14) (ax 23) (ux.2 16) (ax 24) (ux.1 15) (ux.1 16) (ux.1 17) (ux.1 18) (ux.1 19) (ux.1 20) (ax 25) (ux.1 21) (ux.1 22) (ux.1 23) (ux.1 24) (ux.1 25) (ux.1 26) (ux.1 27) (ux.1 28) (ux.1 29) (ux.1 30) (ux.1 31) (ux.1 32) (ux.1 33) (ax 26) (ux.1 34) (ax 27) (ux.2 17) (ax 28) (ux.2 18) (ax 29) (ux.2 19) (ax 30) (ux.1 35) (ux.1 36) (ux.1 37) (ax 31) (ux.2 20) (ax 32) (ux.1 38) (ux.1 39) (ux.1 40) (ax 33) (ux.2 21) (ax 34) (ux.1 41) (ax 35) (ux.2 22) (ax 36) (ux.2 23) (ax 37) (ux.1 42) (ax 38) (ux.2 24) (ax 39) (ux.2 25) (ax 40) (kpf t) v600 hXO.1 hXO.2.1 hXO.2.2.1 hXO.2.2.2.1 hXO.2.2.2.2.1 hXO.2.2.2.2.2.1 hXO.2.2.2.2.2.2.1 hXO.2.2.2.2.2.2.2.1 hXO.2.2.2.2.2.2.2.2.1 hXO.2.2.2.2.2.2.2.2.2) (cwV 1 hts gL_law_X10_findings rfl rfl rfl (by decide +kernel) ⟨Nat.le_of_ble_eq_true rfl, Nat.le_of_ble_eq_true rfl⟩) (yPreV hK (va_P_left hP) (va_D_left hD) (ci := 10) (q0 := 0) rfl rfl) rfl rfl hl.1 rfl (lv_room (Nat.le_of_ble_eq_true rfl)) dL_law_601 ⟨by show _ ≤ 600000; omega, by show _ ≤ 7302250; omega⟩) hP hD hS hA (fun r601 ux H locs hw hP hD hS => ?_)
  have hXO : XOK ux := hw
  have hP : va_P (dC, dI) vwCl (XW cyI cyZ cyO ax ux (kpf t) ++ (MW cyI cyZ am um ++ KT cyI t)) H := hP
  have hD : va_D A (XW cyI cyZ cyO ax ux (kpf t) ++ (MW cyI cyZ am um ++ KT cyI t)) := hD
  refine lv_pop hx hb dL_law_604 rfl ?_
  refine lv_aload_n hx hb dL_law_605 rfl (lv_at hl 1 rfl) ?_
  refine lv_aload_n hx hb dL_law_606 rfl (lv_at hl 3 rfl) ?_
  refine lv_iload_n hx hb dL_law_607 rfl (lv_at hl 0 rfl) ?_
  refine lv_iconst (v := 1) hx hb dL_law_608 (by decide) ?_
  refine lv_iadd hx hb dL_law_609 ?_
  refine yy_int (v := nI (j + 1)) (ynj (by decide)) ?_
  refine va_sld hx hb hX hbl hbA hS (vp_in_nI (by omega) (by omega)) dL_law_610 ?_
  refine lv_topi (fun v610 ev610 => ?_)
  have hP := yrotP hP
  have hD := yrotD hD
  refine yy_calliL (va_runV (As := [.int v610]) (rest := []) ⟨hx, hb, hml, hown, hts⟩ (p_findings l dC dI cyI cyZ cyO H.size (am 0) (um.1 0) (um.1 1) (um.1 2) (um.1 3) (um.1 4) (um.1 5) (um.1 6) (um.1 7) (am 1) (um.2 0) (am 2) (um.2 1) (am 3) (um.2 2) (am 4) (um.2 3) (am 5) (um.2 4) (am 6) (um.2 5) (am 7) (um.2 6) (am 8) (um.2 7) (am 9) (um.2 8) (am 10) (um.2 9) (am 11) (um.2 10) (am 12) (um.2 11) (am 13) (um.2 12) (am 14) (um.2 13) (am 15) (um.2 14) (am 16) (um.2 15) v610 n hMO.1 hMO.2.1 hMO.2.2.1 hMO.2.2.2.1 hMO.2.2.2.2.1 hn hn0 hMO.2.2.2.2.2) (cwV 1 hts gL_law_X11_findings rfl rfl rfl (by decide +kernel) ⟨Nat.le_of_ble_eq_true rfl, Nat.le_of_ble_eq_true rfl⟩) (yPreV hK (va_P_left hP) (va_D_left hD) (ci := 11) (q0 := 0) rfl rfl) rfl rfl hl.1 rfl (lv_room (Nat.le_of_ble_eq_true rfl)) dL_law_611 ⟨by show _ ≤ 600000; omega, by show _ ≤ 7302250; omega⟩) hP hD hS hA (fun r611 um H locs hw hP hD hS => ?_)
  have hMO : MOK (n + 32000) um := hw
  have hP : va_P (dC, dI) vwCl (MW cyI cyZ am um ++ (XW cyI cyZ cyO ax ux (kpf t) ++ KT cyI t)) H := hP
  have hD : va_D A (MW cyI cyZ am um ++ (XW cyI cyZ cyO ax ux (kpf t) ++ KT cyI t)) := hD
  have hP := yrotP hP
  have hD := yrotD hD
  refine lv_pop hx hb dL_law_614 rfl ?_
  refine lv_goto (tgt := 838) hx hb dL_law_615 (by decide) ?_
  refine W.widen (k := k0 + 26) (n := s0 + 2545) (by omega) (by omega) ?_
  exact fin _ _ _ _ _ _ hXO hMO hTO hP hD hS hl
set_option maxHeartbeats 4000000 in
set_option maxRecDepth 100000 in
/-- the law: finding -/
theorem law_finding {p : Program} {e : Env} {s : State} {m : MethodId} {below : List Frame} {meth : Method} {c : Code} (l : Launch) {b L : Nat} {xs : Nat → Int32} (hL : L ≤ 3072) (C0 : lw_At p s m meth c b L xs) {dC : Nat → ClassId} {dI : Nat → Nat → Nat} {cyI cyZ cyO : ClassId} {A : Nat → Prop} (hA : ∀ q : Nat, s.heap.size ≤ q → A q) (hbA : ¬ A b) (hN : yN s) (hK : va_K (dC, dI) vwCl (yT cyI cyZ cyO) s) (ax am : Nat → Nat) (j : Nat) (hj : j + 6 ≤ L) (n : Int) (hn0 : 0 ≤ n) (hn : n ≤ 1400000000) (k0 s0 : Nat) (hk0 : k0 + 26 ≤ 600000) (hs0 : s0 + 2545 ≤ 7302250) (ux um : yU) (t : Nat → Option KS) {H : Heap} {locs : List Loc} (hXO : XOK ux) (hMO : MOK n um) (hTO : TOK t) (hP : va_P (dC, dI) vwCl (XW cyI cyZ cyO ax ux (kpf t) ++ (MW cyI cyZ am um ++ KT cyI t)) H) (hD : va_D A (XW cyI cyZ cyO ax ux (kpf t) ++ (MW cyI cyZ am um ++ KT cyI t))) (hS : va_S A s.heap H locs) {ls : Array Slot} (hl : lv_has ls 4 [(3, .int (nI j)), (2, .ref (am 0)), (1, .ref (ax 0)), (0, .ref b)]) (fin : ∀ (ux um : yU) (t : Nat → Option KS) (H : Heap) (locs : List Loc) (ls : Array Slot), XOK ux → MOK (n + 32000) um → TOK t → va_P (dC, dI) vwCl (XW cyI cyZ cyO ax ux (kpf t) ++ (MW cyI cyZ am um ++ KT cyI t)) H → va_D A (XW cyI cyZ cyO ax ux (kpf t) ++ (MW cyI cyZ am um ++ KT cyI t)) → va_S A s.heap H locs → lv_has ls 4 [(3, .int (nI j)), (2, .ref (am 0)), (1, .ref (ax 0)), (0, .ref b)] → W p l e room_1 s m #[Value.ref b] below meth c H locs (k0 + 26) (s0 + 2545) (lw_Z below #[Value.ref b] s) (F0 m 838 ls [])) : W p l e room_1 s m #[Value.ref b] below meth c H locs k0 s0 (lw_Z below #[Value.ref b] s) (F0 m 618 ls []) := by
  obtain ⟨hx, hb, hr, hml, hown0, hts0, hX, hbl, hlk, hgv⟩ := C0
  have hown : s.vm.findClass RL = some m.cls := hown0
  have hts : ∀ w ∈ wsL_law, w.before #[Value.ref b] s = true := fun w h => hts0 w (wsL_law_in w h)
  refine lv_aload_n hx hb dL_law_618 rfl (lv_at hl 2 rfl) ?_
  refine lv_aload_n hx hb dL_law_619 rfl (lv_at hl 3 rfl) ?_
  refine lv_iload_n hx hb dL_law_620 rfl (lv_at hl 0 rfl) ?_
  refine lv_iconst (v := 1) hx hb dL_law_621 (by decide) ?_
  refine lv_iadd hx hb dL_law_622 ?_
  refine yy_int (v := nI (j + 1)) (ynj (by decide)) ?_
  refine va_sld hx hb hX hbl hbA hS (vp_in_nI (by omega) (by omega)) dL_law_623 ?_
  refine lv_topi (fun v623 ev623 => ?_)
  refine lv_aload_n hx hb dL_law_624 rfl (lv_at hl 3 rfl) ?_
  refine lv_iload_n hx hb dL_law_625 rfl (lv_at hl 0 rfl) ?_
  refine lv_iconst (v := 2) hx hb dL_law_626 (by decide) ?_
  refine lv_iadd hx hb dL_law_627 ?_
  refine yy_int (v := nI (j + 2)) (ynj (by decide)) ?_
  refine va_sld hx hb hX hbl hbA hS (vp_in_nI (by omega) (by omega)) dL_law_628 ?_
  refine lv_topi (fun v628 ev628 => ?_)
  refine yy_calliL (va_runV (As := [.int v623, .int v628]) (rest := []) ⟨hx, hb, hml, hown, hts⟩ (g_finding l dC dI cyI cyZ cyO H.size (ax 0) (ux.1 0) (ax 1) (ux.1 1) (ux.1 2) (ux.1 3) (ux.1 4) (ux.1 5) (ax 2) (ux.2 0) (ax 3) (ux.2 1) (ax 4) (ux.2 2) (ax 5) (ux.2 3) (ax 6) (ux.2 4) (ax 7) (ux.2 5) (ax 8) (ux.2 6) (ax 9) (ux.2 7) (ax 10) (ux.1 6) (ax 11) (ax 12) (ux.2 8) (ax 13) (ux.2 9) (ax 14) (ux.2 10) (ax 15) (ux.2 11) (ax 16) (ux.2 12) (ax 17) (ux.2 13) (ax 18) (ux.1 7) (ax 19) (ux.2 14) (ax 20) (ux.2 15) (ax 21) (ux.1 8) (ux.1 9) (ux.1 10) (ux.1 11) (ux.1 12) (ux.1 13) (ax 22) (ux.1 14) (ax 23) (ux.2 16) (ax 24) (ux.1 15) (ux.1 16) (ux.1 17) (ux.1 18) (ux.1 19) (ux.1 20) (ax 25) (ux.1 21) (ux.1 22) (ux.1 23) (ux.1 24) (ux.1 25) (ux.1 26) (ux.1 27) (ux.1 28) (ux.1 29) (ux.1 30) (ux.1 31) (ux.1 32) (ux.1 33) (ax 26) (ux.1 34) (ax 27) (ux.2 17) (ax 28) (ux.2 18) (ax 29) (ux.2 19) (ax 30) (ux.1 35) (ux.1 36) (ux.1 37) (ax 31) (ux.2 20) (ax 32) (ux.1 38) (ux.1 39) (ux.1 40) (ax 33) (ux.2 21) (ax 34) (ux.1 41) (ax 35) (ux.2 22) (ax 36) (ux.2 23) (ax 37) (ux.1 42) (ax 38) (ux.2 24) (ax 39) (ux.2 25) (ax 40) (kpf t) v623 v628 hXO.1 hXO.2.1 hXO.2.2.1 hXO.2.2.2.1 hXO.2.2.2.2.1 hXO.2.2.2.2.2.1 hXO.2.2.2.2.2.2.1 hXO.2.2.2.2.2.2.2.1 hXO.2.2.2.2.2.2.2.2.1 hXO.2.2.2.2.2.2.2.2.2) (cwV 2 hts gL_law_X10_finding rfl rfl rfl (by decide +kernel) ⟨Nat.le_of_ble_eq_true rfl, Nat.le_of_ble_eq_true rfl⟩) (yPreV hK (va_P_left hP) (va_D_left hD) (ci := 10) (q0 := 0) rfl rfl) rfl rfl hl.1 rfl (lv_room (Nat.le_of_ble_eq_true rfl)) dL_law_629 ⟨by show _ ≤ 600000; omega, by show _ ≤ 7302250; omega⟩) hP hD hS hA (fun r629 ux H locs hw hP hD hS => ?_)
  have hXO : XOK ux := hw
  have hP : va_P (dC, dI) vwCl (XW cyI cyZ cyO ax ux (kpf t) ++ (MW cyI cyZ am um ++ KT cyI t)) H := hP
  have hD : va_D A (XW cyI cyZ cyO ax ux (kpf t) ++ (MW cyI cyZ am um ++ KT cyI t)) := hD
  refine lv_pop hx hb dL_law_632 rfl ?_
  refine lv_aload_n hx hb dL_law_633 rfl (lv_at hl 1 rfl) ?_
  refine lv_aload_n hx hb dL_law_634 rfl (lv_at hl 3 rfl) ?_
  refine lv_iload_n hx hb dL_law_635 rfl (lv_at hl 0 rfl) ?_
  refine lv_iconst (v := 1) hx hb dL_law_636 (by decide) ?_
  refine lv_iadd hx hb dL_law_637 ?_
  refine yy_int (v := nI (j + 1)) (ynj (by decide)) ?_
  refine va_sld hx hb hX hbl hbA hS (vp_in_nI (by omega) (by omega)) dL_law_638 ?_
  refine lv_topi (fun v638 ev638 => ?_)
  refine lv_aload_n hx hb dL_law_639 rfl (lv_at hl 3 rfl) ?_
  refine lv_iload_n hx hb dL_law_640 rfl (lv_at hl 0 rfl) ?_
  refine lv_iconst (v := 2) hx hb dL_law_641 (by decide) ?_
  refine lv_iadd hx hb dL_law_642 ?_
  refine yy_int (v := nI (j + 2)) (ynj (by decide)) ?_
  refine va_sld hx hb hX hbl hbA hS (vp_in_nI (by omega) (by omega)) dL_law_643 ?_
  refine lv_topi (fun v643 ev643 => ?_)
  have hP := yrotP hP
  have hD := yrotD hD
  refine yy_calliL (va_runV (As := [.int v638, .int v643]) (rest := []) ⟨hx, hb, hml, hown, hts⟩ (p_finding l dC dI cyI cyZ cyO H.size (am 0) (um.1 0) (um.1 1) (um.1 2) (um.1 3) (um.1 4) (um.1 5) (um.1 6) (um.1 7) (am 1) (um.2 0) (am 2) (um.2 1) (am 3) (um.2 2) (am 4) (um.2 3) (am 5) (um.2 4) (am 6) (um.2 5) (am 7) (um.2 6) (am 8) (um.2 7) (am 9) (um.2 8) (am 10) (um.2 9) (am 11) (um.2 10) (am 12) (um.2 11) (am 13) (um.2 12) (am 14) (um.2 13) (am 15) (um.2 14) (am 16) (um.2 15) v638 v643 n hMO.1 hMO.2.1 hMO.2.2.1 hMO.2.2.2.1 hMO.2.2.2.2.1 hn hn0 hMO.2.2.2.2.2) (cwV 2 hts gL_law_X11_finding rfl rfl rfl (by decide +kernel) ⟨Nat.le_of_ble_eq_true rfl, Nat.le_of_ble_eq_true rfl⟩) (yPreV hK (va_P_left hP) (va_D_left hD) (ci := 11) (q0 := 0) rfl rfl) rfl rfl hl.1 rfl (lv_room (Nat.le_of_ble_eq_true rfl)) dL_law_644 ⟨by show _ ≤ 600000; omega, by show _ ≤ 7302250; omega⟩) hP hD hS hA (fun r644 um H locs hw hP hD hS => ?_)
  have hMO : MOK (n + 32000) um := hw
  have hP : va_P (dC, dI) vwCl (MW cyI cyZ am um ++ (XW cyI cyZ cyO ax ux (kpf t) ++ KT cyI t)) H := hP
  have hD : va_D A (MW cyI cyZ am um ++ (XW cyI cyZ cyO ax ux (kpf t) ++ KT cyI t)) := hD
  have hP := yrotP hP
  have hD := yrotD hD
  refine lv_pop hx hb dL_law_647 rfl ?_
  refine lv_goto (tgt := 838) hx hb dL_law_648 (by decide) ?_
  refine W.widen (k := k0 + 26) (n := s0 + 2545) (by omega) (by omega) ?_
  exact fin _ _ _ _ _ _ hXO hMO hTO hP hD hS hl
set_option maxHeartbeats 4000000 in
set_option maxRecDepth 100000 in
/-- the law: value -/
theorem law_value {p : Program} {e : Env} {s : State} {m : MethodId} {below : List Frame} {meth : Method} {c : Code} (l : Launch) {b L : Nat} {xs : Nat → Int32} (hL : L ≤ 3072) (C0 : lw_At p s m meth c b L xs) {dC : Nat → ClassId} {dI : Nat → Nat → Nat} {cyI cyZ cyO : ClassId} {A : Nat → Prop} (hA : ∀ q : Nat, s.heap.size ≤ q → A q) (hbA : ¬ A b) (hN : yN s) (hK : va_K (dC, dI) vwCl (yT cyI cyZ cyO) s) (ax am : Nat → Nat) (j : Nat) (hj : j + 6 ≤ L) (n : Int) (hn0 : 0 ≤ n) (hn : n ≤ 1400000000) (k0 s0 : Nat) (hk0 : k0 + 26 ≤ 600000) (hs0 : s0 + 2545 ≤ 7302250) (ux um : yU) (t : Nat → Option KS) {H : Heap} {locs : List Loc} (hXO : XOK ux) (hMO : MOK n um) (hTO : TOK t) (hP : va_P (dC, dI) vwCl (XW cyI cyZ cyO ax ux (kpf t) ++ (MW cyI cyZ am um ++ KT cyI t)) H) (hD : va_D A (XW cyI cyZ cyO ax ux (kpf t) ++ (MW cyI cyZ am um ++ KT cyI t))) (hS : va_S A s.heap H locs) {ls : Array Slot} (hl : lv_has ls 4 [(3, .int (nI j)), (2, .ref (am 0)), (1, .ref (ax 0)), (0, .ref b)]) (fin : ∀ (ux um : yU) (t : Nat → Option KS) (H : Heap) (locs : List Loc) (ls : Array Slot), XOK ux → MOK (n + 32000) um → TOK t → va_P (dC, dI) vwCl (XW cyI cyZ cyO ax ux (kpf t) ++ (MW cyI cyZ am um ++ KT cyI t)) H → va_D A (XW cyI cyZ cyO ax ux (kpf t) ++ (MW cyI cyZ am um ++ KT cyI t)) → va_S A s.heap H locs → lv_has ls 4 [(3, .int (nI j)), (2, .ref (am 0)), (1, .ref (ax 0)), (0, .ref b)] → W p l e room_1 s m #[Value.ref b] below meth c H locs (k0 + 26) (s0 + 2545) (lw_Z below #[Value.ref b] s) (F0 m 838 ls [])) : W p l e room_1 s m #[Value.ref b] below meth c H locs k0 s0 (lw_Z below #[Value.ref b] s) (F0 m 651 ls []) := by
  obtain ⟨hx, hb, hr, hml, hown0, hts0, hX, hbl, hlk, hgv⟩ := C0
  have hown : s.vm.findClass RL = some m.cls := hown0
  have hts : ∀ w ∈ wsL_law, w.before #[Value.ref b] s = true := fun w h => hts0 w (wsL_law_in w h)
  refine lv_aload_n hx hb dL_law_651 rfl (lv_at hl 2 rfl) ?_
  refine lv_aload_n hx hb dL_law_652 rfl (lv_at hl 3 rfl) ?_
  refine lv_iload_n hx hb dL_law_653 rfl (lv_at hl 0 rfl) ?_
  refine lv_iconst (v := 1) hx hb dL_law_654 (by decide) ?_
  refine lv_iadd hx hb dL_law_655 ?_
  refine yy_int (v := nI (j + 1)) (ynj (by decide)) ?_
  refine va_sld hx hb hX hbl hbA hS (vp_in_nI (by omega) (by omega)) dL_law_656 ?_
  refine lv_topi (fun v656 ev656 => ?_)
  refine yy_calliL (va_runV (As := [.int v656]) (rest := []) ⟨hx, hb, hml, hown, hts⟩ (g_value l dC dI cyI cyZ cyO H.size (ax 0) (ux.1 0) (ax 1) (ux.1 1) (ux.1 2) (ux.1 3) (ux.1 4) (ux.1 5) (ax 2) (ux.2 0) (ax 3) (ux.2 1) (ax 4) (ux.2 2) (ax 5) (ux.2 3) (ax 6) (ux.2 4) (ax 7) (ux.2 5) (ax 8) (ux.2 6) (ax 9) (ux.2 7) (ax 10) (ux.1 6) (ax 11) (ax 12) (ux.2 8) (ax 13) (ux.2 9) (ax 14) (ux.2 10) (ax 15) (ux.2 11) (ax 16) (ux.2 12) (ax 17) (ux.2 13) (ax 18) (ux.1 7) (ax 19) (ux.2 14) (ax 20) (ux.2 15) (ax 21) (ux.1 8) (ux.1 9) (ux.1 10) (ux.1 11) (ux.1 12) (ux.1 13) (ax 22) (ux.1 14) (ax 23) (ux.2 16) (ax 24) (ux.1 15) (ux.1 16) (ux.1 17) (ux.1 18) (ux.1 19) (ux.1 20) (ax 25) (ux.1 21) (ux.1 22) (ux.1 23) (ux.1 24) (ux.1 25) (ux.1 26) (ux.1 27) (ux.1 28) (ux.1 29) (ux.1 30) (ux.1 31) (ux.1 32) (ux.1 33) (ax 26) (ux.1 34) (ax 27) (ux.2 17) (ax 28) (ux.2 18) (ax 29) (ux.2 19) (ax 30) (ux.1 35) (ux.1 36) (ux.1 37) (ax 31) (ux.2 20) (ax 32) (ux.1 38) (ux.1 39) (ux.1 40) (ax 33) (ux.2 21) (ax 34) (ux.1 41) (ax 35) (ux.2 22) (ax 36) (ux.2 23) (ax 37) (ux.1 42) (ax 38) (ux.2 24) (ax 39) (ux.2 25) (ax 40) (kpf t) v656 hXO.1 hXO.2.1 hXO.2.2.1 hXO.2.2.2.1 hXO.2.2.2.2.1 hXO.2.2.2.2.2.1 hXO.2.2.2.2.2.2.1 hXO.2.2.2.2.2.2.2.1 hXO.2.2.2.2.2.2.2.2.1 hXO.2.2.2.2.2.2.2.2.2) (cwV 1 hts gL_law_X10_value rfl rfl rfl (by decide +kernel) ⟨Nat.le_of_ble_eq_true rfl, Nat.le_of_ble_eq_true rfl⟩) (yPreV hK (va_P_left hP) (va_D_left hD) (ci := 10) (q0 := 0) rfl rfl) rfl rfl hl.1 rfl (lv_room (Nat.le_of_ble_eq_true rfl)) dL_law_657 ⟨by show _ ≤ 600000; omega, by show _ ≤ 7302250; omega⟩) hP hD hS hA (fun r657 ux H locs hw hP hD hS => ?_)
  have hXO : XOK ux := hw
  have hP : va_P (dC, dI) vwCl (XW cyI cyZ cyO ax ux (kpf t) ++ (MW cyI cyZ am um ++ KT cyI t)) H := hP
  have hD : va_D A (XW cyI cyZ cyO ax ux (kpf t) ++ (MW cyI cyZ am um ++ KT cyI t)) := hD
  refine lv_pop hx hb dL_law_660 rfl ?_
  refine lv_aload_n hx hb dL_law_661 rfl (lv_at hl 1 rfl) ?_
  refine lv_aload_n hx hb dL_law_662 rfl (lv_at hl 3 rfl) ?_
  refine lv_iload_n hx hb dL_law_663 rfl (lv_at hl 0 rfl) ?_
  refine lv_iconst (v := 1) hx hb dL_law_664 (by decide) ?_
  refine lv_iadd hx hb dL_law_665 ?_
  refine yy_int (v := nI (j + 1)) (ynj (by decide)) ?_
  refine va_sld hx hb hX hbl hbA hS (vp_in_nI (by omega) (by omega)) dL_law_666 ?_
  refine lv_topi (fun v666 ev666 => ?_)
  have hP := yrotP hP
  have hD := yrotD hD
  refine yy_calliL (va_runV (As := [.int v666]) (rest := []) ⟨hx, hb, hml, hown, hts⟩ (p_value l dC dI cyI cyZ cyO H.size (am 0) (um.1 0) (um.1 1) (um.1 2) (um.1 3) (um.1 4) (um.1 5) (um.1 6) (um.1 7) (am 1) (um.2 0) (am 2) (um.2 1) (am 3) (um.2 2) (am 4) (um.2 3) (am 5) (um.2 4) (am 6) (um.2 5) (am 7) (um.2 6) (am 8) (um.2 7) (am 9) (um.2 8) (am 10) (um.2 9) (am 11) (um.2 10) (am 12) (um.2 11) (am 13) (um.2 12) (am 14) (um.2 13) (am 15) (um.2 14) (am 16) (um.2 15) v666 n hMO.1 hMO.2.1 hMO.2.2.1 hMO.2.2.2.1 hMO.2.2.2.2.1 hn hn0 hMO.2.2.2.2.2) (cwV 1 hts gL_law_X11_value rfl rfl rfl (by decide +kernel) ⟨Nat.le_of_ble_eq_true rfl, Nat.le_of_ble_eq_true rfl⟩) (yPreV hK (va_P_left hP) (va_D_left hD) (ci := 11) (q0 := 0) rfl rfl) rfl rfl hl.1 rfl (lv_room (Nat.le_of_ble_eq_true rfl)) dL_law_667 ⟨by show _ ≤ 600000; omega, by show _ ≤ 7302250; omega⟩) hP hD hS hA (fun r667 um H locs hw hP hD hS => ?_)
  have hMO : MOK (n + 32000) um := hw
  have hP : va_P (dC, dI) vwCl (MW cyI cyZ am um ++ (XW cyI cyZ cyO ax ux (kpf t) ++ KT cyI t)) H := hP
  have hD : va_D A (MW cyI cyZ am um ++ (XW cyI cyZ cyO ax ux (kpf t) ++ KT cyI t)) := hD
  have hP := yrotP hP
  have hD := yrotD hD
  refine lv_pop hx hb dL_law_670 rfl ?_
  refine lv_goto (tgt := 838) hx hb dL_law_671 (by decide) ?_
  refine W.widen (k := k0 + 26) (n := s0 + 2545) (by omega) (by omega) ?_
  exact fin _ _ _ _ _ _ hXO hMO hTO hP hD hS hl
set_option maxHeartbeats 4000000 in
set_option maxRecDepth 100000 in
/-- the law: decode -/
theorem law_decode {p : Program} {e : Env} {s : State} {m : MethodId} {below : List Frame} {meth : Method} {c : Code} (l : Launch) {b L : Nat} {xs : Nat → Int32} (hL : L ≤ 3072) (C0 : lw_At p s m meth c b L xs) {dC : Nat → ClassId} {dI : Nat → Nat → Nat} {cyI cyZ cyO : ClassId} {A : Nat → Prop} (hA : ∀ q : Nat, s.heap.size ≤ q → A q) (hbA : ¬ A b) (hN : yN s) (hK : va_K (dC, dI) vwCl (yT cyI cyZ cyO) s) (ax am : Nat → Nat) (j : Nat) (hj : j + 6 ≤ L) (n : Int) (hn0 : 0 ≤ n) (hn : n ≤ 1400000000) (k0 s0 : Nat) (hk0 : k0 + 26 ≤ 600000) (hs0 : s0 + 2545 ≤ 7302250) (ux um : yU) (t : Nat → Option KS) {H : Heap} {locs : List Loc} (hXO : XOK ux) (hMO : MOK n um) (hTO : TOK t) (hP : va_P (dC, dI) vwCl (XW cyI cyZ cyO ax ux (kpf t) ++ (MW cyI cyZ am um ++ KT cyI t)) H) (hD : va_D A (XW cyI cyZ cyO ax ux (kpf t) ++ (MW cyI cyZ am um ++ KT cyI t))) (hS : va_S A s.heap H locs) {ls : Array Slot} (hl : lv_has ls 4 [(3, .int (nI j)), (2, .ref (am 0)), (1, .ref (ax 0)), (0, .ref b)]) (fin : ∀ (ux um : yU) (t : Nat → Option KS) (H : Heap) (locs : List Loc) (ls : Array Slot), XOK ux → MOK (n + 32000) um → TOK t → va_P (dC, dI) vwCl (XW cyI cyZ cyO ax ux (kpf t) ++ (MW cyI cyZ am um ++ KT cyI t)) H → va_D A (XW cyI cyZ cyO ax ux (kpf t) ++ (MW cyI cyZ am um ++ KT cyI t)) → va_S A s.heap H locs → lv_has ls 4 [(3, .int (nI j)), (2, .ref (am 0)), (1, .ref (ax 0)), (0, .ref b)] → W p l e room_1 s m #[Value.ref b] below meth c H locs (k0 + 26) (s0 + 2545) (lw_Z below #[Value.ref b] s) (F0 m 838 ls [])) : W p l e room_1 s m #[Value.ref b] below meth c H locs k0 s0 (lw_Z below #[Value.ref b] s) (F0 m 674 ls []) := by
  obtain ⟨hx, hb, hr, hml, hown0, hts0, hX, hbl, hlk, hgv⟩ := C0
  have hown : s.vm.findClass RL = some m.cls := hown0
  have hts : ∀ w ∈ wsL_law, w.before #[Value.ref b] s = true := fun w h => hts0 w (wsL_law_in w h)
  refine lv_aload_n hx hb dL_law_674 rfl (lv_at hl 2 rfl) ?_
  refine lv_aload_n hx hb dL_law_675 rfl (lv_at hl 3 rfl) ?_
  refine lv_iload_n hx hb dL_law_676 rfl (lv_at hl 0 rfl) ?_
  refine lv_iconst (v := 1) hx hb dL_law_677 (by decide) ?_
  refine lv_iadd hx hb dL_law_678 ?_
  refine yy_int (v := nI (j + 1)) (ynj (by decide)) ?_
  refine va_sld hx hb hX hbl hbA hS (vp_in_nI (by omega) (by omega)) dL_law_679 ?_
  refine lv_topi (fun v679 ev679 => ?_)
  refine yy_calliL (va_runV (As := [.int v679]) (rest := []) ⟨hx, hb, hml, hown, hts⟩ (g_decode l dC dI cyI cyZ cyO H.size (ax 0) (ux.1 0) (ax 1) (ux.1 1) (ux.1 2) (ux.1 3) (ux.1 4) (ux.1 5) (ax 2) (ux.2 0) (ax 3) (ux.2 1) (ax 4) (ux.2 2) (ax 5) (ux.2 3) (ax 6) (ux.2 4) (ax 7) (ux.2 5) (ax 8) (ux.2 6) (ax 9) (ux.2 7) (ax 10) (ux.1 6) (ax 11) (ax 12) (ux.2 8) (ax 13) (ux.2 9) (ax 14) (ux.2 10) (ax 15) (ux.2 11) (ax 16) (ux.2 12) (ax 17) (ux.2 13) (ax 18) (ux.1 7) (ax 19) (ux.2 14) (ax 20) (ux.2 15) (ax 21) (ux.1 8) (ux.1 9) (ux.1 10) (ux.1 11) (ux.1 12) (ux.1 13) (ax 22) (ux.1 14) (ax 23) (ux.2 16) (ax 24) (ux.1 15) (ux.1 16) (ux.1 17) (ux.1 18) (ux.1 19) (ux.1 20) (ax 25) (ux.1 21) (ux.1 22) (ux.1 23) (ux.1 24) (ux.1 25) (ux.1 26) (ux.1 27) (ux.1 28) (ux.1 29) (ux.1 30) (ux.1 31) (ux.1 32) (ux.1 33) (ax 26) (ux.1 34) (ax 27) (ux.2 17) (ax 28) (ux.2 18) (ax 29) (ux.2 19) (ax 30) (ux.1 35) (ux.1 36) (ux.1 37) (ax 31) (ux.2 20) (ax 32) (ux.1 38) (ux.1 39) (ux.1 40) (ax 33) (ux.2 21) (ax 34) (ux.1 41) (ax 35) (ux.2 22) (ax 36) (ux.2 23) (ax 37) (ux.1 42) (ax 38) (ux.2 24) (ax 39) (ux.2 25) (ax 40) (kpf t) v679 hXO.1 hXO.2.1 hXO.2.2.1 hXO.2.2.2.1 hXO.2.2.2.2.1 hXO.2.2.2.2.2.1 hXO.2.2.2.2.2.2.1 hXO.2.2.2.2.2.2.2.1 hXO.2.2.2.2.2.2.2.2.1 hXO.2.2.2.2.2.2.2.2.2) (cwV 1 hts gL_law_X10_decode rfl rfl rfl (by decide +kernel) ⟨Nat.le_of_ble_eq_true rfl, Nat.le_of_ble_eq_true rfl⟩) (yPreV hK (va_P_left hP) (va_D_left hD) (ci := 10) (q0 := 0) rfl rfl) rfl rfl hl.1 rfl (lv_room (Nat.le_of_ble_eq_true rfl)) dL_law_680 ⟨by show _ ≤ 600000; omega, by show _ ≤ 7302250; omega⟩) hP hD hS hA (fun r680 ux H locs hw hP hD hS => ?_)
  have hXO : XOK ux := hw
  have hP : va_P (dC, dI) vwCl (XW cyI cyZ cyO ax ux (kpf t) ++ (MW cyI cyZ am um ++ KT cyI t)) H := hP
  have hD : va_D A (XW cyI cyZ cyO ax ux (kpf t) ++ (MW cyI cyZ am um ++ KT cyI t)) := hD
  refine lv_pop hx hb dL_law_683 rfl ?_
  refine lv_aload_n hx hb dL_law_684 rfl (lv_at hl 1 rfl) ?_
  refine lv_aload_n hx hb dL_law_685 rfl (lv_at hl 3 rfl) ?_
  refine lv_iload_n hx hb dL_law_686 rfl (lv_at hl 0 rfl) ?_
  refine lv_iconst (v := 1) hx hb dL_law_687 (by decide) ?_
  refine lv_iadd hx hb dL_law_688 ?_
  refine yy_int (v := nI (j + 1)) (ynj (by decide)) ?_
  refine va_sld hx hb hX hbl hbA hS (vp_in_nI (by omega) (by omega)) dL_law_689 ?_
  refine lv_topi (fun v689 ev689 => ?_)
  have hP := yrotP hP
  have hD := yrotD hD
  refine yy_calliL (va_runV (As := [.int v689]) (rest := []) ⟨hx, hb, hml, hown, hts⟩ (p_decode l dC dI cyI cyZ cyO H.size (am 0) (um.1 0) (um.1 1) (um.1 2) (um.1 3) (um.1 4) (um.1 5) (um.1 6) (um.1 7) (am 1) (um.2 0) (am 2) (um.2 1) (am 3) (um.2 2) (am 4) (um.2 3) (am 5) (um.2 4) (am 6) (um.2 5) (am 7) (um.2 6) (am 8) (um.2 7) (am 9) (um.2 8) (am 10) (um.2 9) (am 11) (um.2 10) (am 12) (um.2 11) (am 13) (um.2 12) (am 14) (um.2 13) (am 15) (um.2 14) (am 16) (um.2 15) v689 n hMO.1 hMO.2.1 hMO.2.2.1 hMO.2.2.2.1 hMO.2.2.2.2.1 hn hn0 hMO.2.2.2.2.2) (cwV 1 hts gL_law_X11_decode rfl rfl rfl (by decide +kernel) ⟨Nat.le_of_ble_eq_true rfl, Nat.le_of_ble_eq_true rfl⟩) (yPreV hK (va_P_left hP) (va_D_left hD) (ci := 11) (q0 := 0) rfl rfl) rfl rfl hl.1 rfl (lv_room (Nat.le_of_ble_eq_true rfl)) dL_law_690 ⟨by show _ ≤ 600000; omega, by show _ ≤ 7302250; omega⟩) hP hD hS hA (fun r690 um H locs hw hP hD hS => ?_)
  have hMO : MOK (n + 32000) um := hw
  have hP : va_P (dC, dI) vwCl (MW cyI cyZ am um ++ (XW cyI cyZ cyO ax ux (kpf t) ++ KT cyI t)) H := hP
  have hD : va_D A (MW cyI cyZ am um ++ (XW cyI cyZ cyO ax ux (kpf t) ++ KT cyI t)) := hD
  have hP := yrotP hP
  have hD := yrotD hD
  refine lv_pop hx hb dL_law_693 rfl ?_
  refine lv_goto (tgt := 838) hx hb dL_law_694 (by decide) ?_
  refine W.widen (k := k0 + 26) (n := s0 + 2545) (by omega) (by omega) ?_
  exact fin _ _ _ _ _ _ hXO hMO hTO hP hD hS hl
set_option maxHeartbeats 4000000 in
set_option maxRecDepth 100000 in
/-- the law: bridge -/
theorem law_bridge {p : Program} {e : Env} {s : State} {m : MethodId} {below : List Frame} {meth : Method} {c : Code} (l : Launch) {b L : Nat} {xs : Nat → Int32} (hL : L ≤ 3072) (C0 : lw_At p s m meth c b L xs) {dC : Nat → ClassId} {dI : Nat → Nat → Nat} {cyI cyZ cyO : ClassId} {A : Nat → Prop} (hA : ∀ q : Nat, s.heap.size ≤ q → A q) (hbA : ¬ A b) (hN : yN s) (hK : va_K (dC, dI) vwCl (yT cyI cyZ cyO) s) (ax am : Nat → Nat) (j : Nat) (hj : j + 6 ≤ L) (n : Int) (hn0 : 0 ≤ n) (hn : n ≤ 1400000000) (k0 s0 : Nat) (hk0 : k0 + 26 ≤ 600000) (hs0 : s0 + 2545 ≤ 7302250) (ux um : yU) (t : Nat → Option KS) {H : Heap} {locs : List Loc} (hXO : XOK ux) (hMO : MOK n um) (hTO : TOK t) (hP : va_P (dC, dI) vwCl (XW cyI cyZ cyO ax ux (kpf t) ++ (MW cyI cyZ am um ++ KT cyI t)) H) (hD : va_D A (XW cyI cyZ cyO ax ux (kpf t) ++ (MW cyI cyZ am um ++ KT cyI t))) (hS : va_S A s.heap H locs) {ls : Array Slot} (hl : lv_has ls 4 [(3, .int (nI j)), (2, .ref (am 0)), (1, .ref (ax 0)), (0, .ref b)]) (fin : ∀ (ux um : yU) (t : Nat → Option KS) (H : Heap) (locs : List Loc) (ls : Array Slot), XOK ux → MOK (n + 32000) um → TOK t → va_P (dC, dI) vwCl (XW cyI cyZ cyO ax ux (kpf t) ++ (MW cyI cyZ am um ++ KT cyI t)) H → va_D A (XW cyI cyZ cyO ax ux (kpf t) ++ (MW cyI cyZ am um ++ KT cyI t)) → va_S A s.heap H locs → lv_has ls 4 [(3, .int (nI j)), (2, .ref (am 0)), (1, .ref (ax 0)), (0, .ref b)] → W p l e room_1 s m #[Value.ref b] below meth c H locs (k0 + 26) (s0 + 2545) (lw_Z below #[Value.ref b] s) (F0 m 838 ls [])) : W p l e room_1 s m #[Value.ref b] below meth c H locs k0 s0 (lw_Z below #[Value.ref b] s) (F0 m 697 ls []) := by
  obtain ⟨hx, hb, hr, hml, hown0, hts0, hX, hbl, hlk, hgv⟩ := C0
  have hown : s.vm.findClass RL = some m.cls := hown0
  have hts : ∀ w ∈ wsL_law, w.before #[Value.ref b] s = true := fun w h => hts0 w (wsL_law_in w h)
  refine lv_aload_n hx hb dL_law_697 rfl (lv_at hl 2 rfl) ?_
  refine lv_aload_n hx hb dL_law_698 rfl (lv_at hl 3 rfl) ?_
  refine lv_iload_n hx hb dL_law_699 rfl (lv_at hl 0 rfl) ?_
  refine lv_iconst (v := 1) hx hb dL_law_700 (by decide) ?_
  refine lv_iadd hx hb dL_law_701 ?_
  refine yy_int (v := nI (j + 1)) (ynj (by decide)) ?_
  refine va_sld hx hb hX hbl hbA hS (vp_in_nI (by omega) (by omega)) dL_law_702 ?_
  refine lv_topi (fun v702 ev702 => ?_)
  refine yy_calliL (va_runV (As := [.int v702]) (rest := []) ⟨hx, hb, hml, hown, hts⟩ (g_bridge l dC dI cyI cyZ cyO H.size (ax 0) (ux.1 0) (ax 1) (ux.1 1) (ux.1 2) (ux.1 3) (ux.1 4) (ux.1 5) (ax 2) (ux.2 0) (ax 3) (ux.2 1) (ax 4) (ux.2 2) (ax 5) (ux.2 3) (ax 6) (ux.2 4) (ax 7) (ux.2 5) (ax 8) (ux.2 6) (ax 9) (ux.2 7) (ax 10) (ux.1 6) (ax 11) (ax 12) (ux.2 8) (ax 13) (ux.2 9) (ax 14) (ux.2 10) (ax 15) (ux.2 11) (ax 16) (ux.2 12) (ax 17) (ux.2 13) (ax 18) (ux.1 7) (ax 19) (ux.2 14) (ax 20) (ux.2 15) (ax 21) (ux.1 8) (ux.1 9) (ux.1 10) (ux.1 11) (ux.1 12) (ux.1 13) (ax 22) (ux.1 14) (ax 23) (ux.2 16) (ax 24) (ux.1 15) (ux.1 16) (ux.1 17) (ux.1 18) (ux.1 19) (ux.1 20) (ax 25) (ux.1 21) (ux.1 22) (ux.1 23) (ux.1 24) (ux.1 25) (ux.1 26) (ux.1 27) (ux.1 28) (ux.1 29) (ux.1 30) (ux.1 31) (ux.1 32) (ux.1 33) (ax 26) (ux.1 34) (ax 27) (ux.2 17) (ax 28) (ux.2 18) (ax 29) (ux.2 19) (ax 30) (ux.1 35) (ux.1 36) (ux.1 37) (ax 31) (ux.2 20) (ax 32) (ux.1 38) (ux.1 39) (ux.1 40) (ax 33) (ux.2 21) (ax 34) (ux.1 41) (ax 35) (ux.2 22) (ax 36) (ux.2 23) (ax 37) (ux.1 42) (ax 38) (ux.2 24) (ax 39) (ux.2 25) (ax 40) (kpf t) v702 hXO.1 hXO.2.1 hXO.2.2.1 hXO.2.2.2.1 hXO.2.2.2.2.1 hXO.2.2.2.2.2.1 hXO.2.2.2.2.2.2.1 hXO.2.2.2.2.2.2.2.1 hXO.2.2.2.2.2.2.2.2.1 hXO.2.2.2.2.2.2.2.2.2) (cwV 1 hts gL_law_X10_bridge rfl rfl rfl (by decide +kernel) ⟨Nat.le_of_ble_eq_true rfl, Nat.le_of_ble_eq_true rfl⟩) (yPreV hK (va_P_left hP) (va_D_left hD) (ci := 10) (q0 := 0) rfl rfl) rfl rfl hl.1 rfl (lv_room (Nat.le_of_ble_eq_true rfl)) dL_law_703 ⟨by show _ ≤ 600000; omega, by show _ ≤ 7302250; omega⟩) hP hD hS hA (fun r703 ux H locs hw hP hD hS => ?_)
  have hXO : XOK ux := hw
  have hP : va_P (dC, dI) vwCl (XW cyI cyZ cyO ax ux (kpf t) ++ (MW cyI cyZ am um ++ KT cyI t)) H := hP
  have hD : va_D A (XW cyI cyZ cyO ax ux (kpf t) ++ (MW cyI cyZ am um ++ KT cyI t)) := hD
  refine lv_pop hx hb dL_law_706 rfl ?_
  refine lv_aload_n hx hb dL_law_707 rfl (lv_at hl 1 rfl) ?_
  refine lv_aload_n hx hb dL_law_708 rfl (lv_at hl 3 rfl) ?_
  refine lv_iload_n hx hb dL_law_709 rfl (lv_at hl 0 rfl) ?_
  refine lv_iconst (v := 1) hx hb dL_law_710 (by decide) ?_
  refine lv_iadd hx hb dL_law_711 ?_
  refine yy_int (v := nI (j + 1)) (ynj (by decide)) ?_
  refine va_sld hx hb hX hbl hbA hS (vp_in_nI (by omega) (by omega)) dL_law_712 ?_
  refine lv_topi (fun v712 ev712 => ?_)
  have hP := yrotP hP
  have hD := yrotD hD
  refine yy_calliL (va_runV (As := [.int v712]) (rest := []) ⟨hx, hb, hml, hown, hts⟩ (p_bridge l dC dI cyI cyZ cyO H.size (am 0) (um.1 0) (um.1 1) (um.1 2) (um.1 3) (um.1 4) (um.1 5) (um.1 6) (um.1 7) (am 1) (um.2 0) (am 2) (um.2 1) (am 3) (um.2 2) (am 4) (um.2 3) (am 5) (um.2 4) (am 6) (um.2 5) (am 7) (um.2 6) (am 8) (um.2 7) (am 9) (um.2 8) (am 10) (um.2 9) (am 11) (um.2 10) (am 12) (um.2 11) (am 13) (um.2 12) (am 14) (um.2 13) (am 15) (um.2 14) (am 16) (um.2 15) v712 n hMO.1 hMO.2.1 hMO.2.2.1 hMO.2.2.2.1 hMO.2.2.2.2.1 hn hn0 hMO.2.2.2.2.2) (cwV 1 hts gL_law_X11_bridge_ rfl rfl rfl (by decide +kernel) ⟨Nat.le_of_ble_eq_true rfl, Nat.le_of_ble_eq_true rfl⟩) (yPreV hK (va_P_left hP) (va_D_left hD) (ci := 11) (q0 := 0) rfl rfl) rfl rfl hl.1 rfl (lv_room (Nat.le_of_ble_eq_true rfl)) dL_law_713 ⟨by show _ ≤ 600000; omega, by show _ ≤ 7302250; omega⟩) hP hD hS hA (fun r713 um H locs hw hP hD hS => ?_)
  have hMO : MOK (n + 32000) um := hw
  have hP : va_P (dC, dI) vwCl (MW cyI cyZ am um ++ (XW cyI cyZ cyO ax ux (kpf t) ++ KT cyI t)) H := hP
  have hD : va_D A (MW cyI cyZ am um ++ (XW cyI cyZ cyO ax ux (kpf t) ++ KT cyI t)) := hD
  have hP := yrotP hP
  have hD := yrotD hD
  refine lv_pop hx hb dL_law_716 rfl ?_
  refine lv_goto (tgt := 838) hx hb dL_law_717 (by decide) ?_
  refine W.widen (k := k0 + 26) (n := s0 + 2545) (by omega) (by omega) ?_
  exact fin _ _ _ _ _ _ hXO hMO hTO hP hD hS hl
set_option maxHeartbeats 4000000 in
set_option maxRecDepth 100000 in
/-- the law: again -/
theorem law_again {p : Program} {e : Env} {s : State} {m : MethodId} {below : List Frame} {meth : Method} {c : Code} (l : Launch) {b L : Nat} {xs : Nat → Int32} (hL : L ≤ 3072) (C0 : lw_At p s m meth c b L xs) {dC : Nat → ClassId} {dI : Nat → Nat → Nat} {cyI cyZ cyO : ClassId} {A : Nat → Prop} (hA : ∀ q : Nat, s.heap.size ≤ q → A q) (hbA : ¬ A b) (hN : yN s) (hK : va_K (dC, dI) vwCl (yT cyI cyZ cyO) s) (ax am : Nat → Nat) (j : Nat) (hj : j + 6 ≤ L) (n : Int) (hn0 : 0 ≤ n) (hn : n ≤ 1400000000) (k0 s0 : Nat) (hk0 : k0 + 26 ≤ 600000) (hs0 : s0 + 2545 ≤ 7302250) (ux um : yU) (t : Nat → Option KS) {H : Heap} {locs : List Loc} (hXO : XOK ux) (hMO : MOK n um) (hTO : TOK t) (hP : va_P (dC, dI) vwCl (XW cyI cyZ cyO ax ux (kpf t) ++ (MW cyI cyZ am um ++ KT cyI t)) H) (hD : va_D A (XW cyI cyZ cyO ax ux (kpf t) ++ (MW cyI cyZ am um ++ KT cyI t))) (hS : va_S A s.heap H locs) {ls : Array Slot} (hl : lv_has ls 4 [(3, .int (nI j)), (2, .ref (am 0)), (1, .ref (ax 0)), (0, .ref b)]) (fin : ∀ (ux um : yU) (t : Nat → Option KS) (H : Heap) (locs : List Loc) (ls : Array Slot), XOK ux → MOK (n + 32000) um → TOK t → va_P (dC, dI) vwCl (XW cyI cyZ cyO ax ux (kpf t) ++ (MW cyI cyZ am um ++ KT cyI t)) H → va_D A (XW cyI cyZ cyO ax ux (kpf t) ++ (MW cyI cyZ am um ++ KT cyI t)) → va_S A s.heap H locs → lv_has ls 4 [(3, .int (nI j)), (2, .ref (am 0)), (1, .ref (ax 0)), (0, .ref b)] → W p l e room_1 s m #[Value.ref b] below meth c H locs (k0 + 26) (s0 + 2545) (lw_Z below #[Value.ref b] s) (F0 m 838 ls [])) : W p l e room_1 s m #[Value.ref b] below meth c H locs k0 s0 (lw_Z below #[Value.ref b] s) (F0 m 720 ls []) := by
  obtain ⟨hx, hb, hr, hml, hown0, hts0, hX, hbl, hlk, hgv⟩ := C0
  have hown : s.vm.findClass RL = some m.cls := hown0
  have hts : ∀ w ∈ wsL_law, w.before #[Value.ref b] s = true := fun w h => hts0 w (wsL_law_in w h)
  refine lv_aload_n hx hb dL_law_720 rfl (lv_at hl 2 rfl) ?_
  refine yy_calliL (va_runV (As := []) (rest := []) ⟨hx, hb, hml, hown, hts⟩ (g_again l dC dI cyI cyZ cyO H.size (ax 0) (ux.1 0) (ax 1) (ux.1 1) (ux.1 2) (ux.1 3) (ux.1 4) (ux.1 5) (ax 2) (ux.2 0) (ax 3) (ux.2 1) (ax 4) (ux.2 2) (ax 5) (ux.2 3) (ax 6) (ux.2 4) (ax 7) (ux.2 5) (ax 8) (ux.2 6) (ax 9) (ux.2 7) (ax 10) (ux.1 6) (ax 11) (ax 12) (ux.2 8) (ax 13) (ux.2 9) (ax 14) (ux.2 10) (ax 15) (ux.2 11) (ax 16) (ux.2 12) (ax 17) (ux.2 13) (ax 18) (ux.1 7) (ax 19) (ux.2 14) (ax 20) (ux.2 15) (ax 21) (ux.1 8) (ux.1 9) (ux.1 10) (ux.1 11) (ux.1 12) (ux.1 13) (ax 22) (ux.1 14) (ax 23) (ux.2 16) (ax 24) (ux.1 15) (ux.1 16) (ux.1 17) (ux.1 18) (ux.1 19) (ux.1 20) (ax 25) (ux.1 21) (ux.1 22) (ux.1 23) (ux.1 24) (ux.1 25) (ux.1 26) (ux.1 27) (ux.1 28) (ux.1 29) (ux.1 30) (ux.1 31) (ux.1 32) (ux.1 33) (ax 26) (ux.1 34) (ax 27) (ux.2 17) (ax 28) (ux.2 18) (ax 29) (ux.2 19) (ax 30) (ux.1 35) (ux.1 36) (ux.1 37) (ax 31) (ux.2 20) (ax 32) (ux.1 38) (ux.1 39) (ux.1 40) (ax 33) (ux.2 21) (ax 34) (ux.1 41) (ax 35) (ux.2 22) (ax 36) (ux.2 23) (ax 37) (ux.1 42) (ax 38) (ux.2 24) (ax 39) (ux.2 25) (ax 40) (kpf t) hXO.1 hXO.2.1 hXO.2.2.1 hXO.2.2.2.1 hXO.2.2.2.2.1 hXO.2.2.2.2.2.1 hXO.2.2.2.2.2.2.1 hXO.2.2.2.2.2.2.2.1 hXO.2.2.2.2.2.2.2.2.1 hXO.2.2.2.2.2.2.2.2.2) (cwV 0 hts gL_law_X10_again rfl rfl rfl (by decide +kernel) ⟨Nat.le_of_ble_eq_true rfl, Nat.le_of_ble_eq_true rfl⟩) (yPreV hK (va_P_left hP) (va_D_left hD) (ci := 10) (q0 := 0) rfl rfl) rfl rfl hl.1 rfl (lv_room (Nat.le_of_ble_eq_true rfl)) dL_law_721 ⟨by show _ ≤ 600000; omega, by show _ ≤ 7302250; omega⟩) hP hD hS hA (fun r721 ux H locs hw hP hD hS => ?_)
  have hXO : XOK ux := hw
  have hP : va_P (dC, dI) vwCl (XW cyI cyZ cyO ax ux (kpf t) ++ (MW cyI cyZ am um ++ KT cyI t)) H := hP
  have hD : va_D A (XW cyI cyZ cyO ax ux (kpf t) ++ (MW cyI cyZ am um ++ KT cyI t)) := hD
  refine lv_pop hx hb dL_law_724 rfl ?_
  refine lv_aload_n hx hb dL_law_725 rfl (lv_at hl 1 rfl) ?_
  have hP := yrotP hP
  have hD := yrotD hD
  refine yy_calliL (va_runV (As := []) (rest := []) ⟨hx, hb, hml, hown, hts⟩ (p_again l dC dI cyI cyZ cyO H.size (am 0) (um.1 0) (um.1 1) (um.1 2) (um.1 3) (um.1 4) (um.1 5) (um.1 6) (um.1 7) (am 1) (um.2 0) (am 2) (um.2 1) (am 3) (um.2 2) (am 4) (um.2 3) (am 5) (um.2 4) (am 6) (um.2 5) (am 7) (um.2 6) (am 8) (um.2 7) (am 9) (um.2 8) (am 10) (um.2 9) (am 11) (um.2 10) (am 12) (um.2 11) (am 13) (um.2 12) (am 14) (um.2 13) (am 15) (um.2 14) (am 16) (um.2 15) n hMO.1 hMO.2.1 hMO.2.2.1 hMO.2.2.2.1 hMO.2.2.2.2.1 hn hn0 hMO.2.2.2.2.2) (cwV 0 hts gL_law_X11_again rfl rfl rfl (by decide +kernel) ⟨Nat.le_of_ble_eq_true rfl, Nat.le_of_ble_eq_true rfl⟩) (yPreV hK (va_P_left hP) (va_D_left hD) (ci := 11) (q0 := 0) rfl rfl) rfl rfl hl.1 rfl (lv_room (Nat.le_of_ble_eq_true rfl)) dL_law_726 ⟨by show _ ≤ 600000; omega, by show _ ≤ 7302250; omega⟩) hP hD hS hA (fun r726 um H locs hw hP hD hS => ?_)
  have hMO : MOK (n + 32000) um := hw
  have hP : va_P (dC, dI) vwCl (MW cyI cyZ am um ++ (XW cyI cyZ cyO ax ux (kpf t) ++ KT cyI t)) H := hP
  have hD : va_D A (MW cyI cyZ am um ++ (XW cyI cyZ cyO ax ux (kpf t) ++ KT cyI t)) := hD
  have hP := yrotP hP
  have hD := yrotD hD
  refine lv_pop hx hb dL_law_729 rfl ?_
  refine lv_goto (tgt := 838) hx hb dL_law_730 (by decide) ?_
  refine W.widen (k := k0 + 26) (n := s0 + 2545) (by omega) (by omega) ?_
  exact fin _ _ _ _ _ _ hXO hMO hTO hP hD hS hl
set_option maxHeartbeats 4000000 in
set_option maxRecDepth 100000 in
/-- the law: keep -/
theorem law_keep {p : Program} {e : Env} {s : State} {m : MethodId} {below : List Frame} {meth : Method} {c : Code} (l : Launch) {b L : Nat} {xs : Nat → Int32} (hL : L ≤ 3072) (C0 : lw_At p s m meth c b L xs) {dC : Nat → ClassId} {dI : Nat → Nat → Nat} {cyI cyZ cyO : ClassId} {A : Nat → Prop} (hA : ∀ q : Nat, s.heap.size ≤ q → A q) (hbA : ¬ A b) (hN : yN s) (hK : va_K (dC, dI) vwCl (yT cyI cyZ cyO) s) (ax am : Nat → Nat) (j : Nat) (hj : j + 6 ≤ L) (n : Int) (hn0 : 0 ≤ n) (hn : n ≤ 1400000000) (k0 s0 : Nat) (hk0 : k0 + 26 ≤ 600000) (hs0 : s0 + 2545 ≤ 7302250) (ux um : yU) (t : Nat → Option KS) {H : Heap} {locs : List Loc} (hXO : XOK ux) (hMO : MOK n um) (hTO : TOK t) (hP : va_P (dC, dI) vwCl (XW cyI cyZ cyO ax ux (kpf t) ++ (MW cyI cyZ am um ++ KT cyI t)) H) (hD : va_D A (XW cyI cyZ cyO ax ux (kpf t) ++ (MW cyI cyZ am um ++ KT cyI t))) (hS : va_S A s.heap H locs) {ls : Array Slot} (hl : lv_has ls 4 [(3, .int (nI j)), (2, .ref (am 0)), (1, .ref (ax 0)), (0, .ref b)]) (fin : ∀ (ux um : yU) (t : Nat → Option KS) (H : Heap) (locs : List Loc) (ls : Array Slot), XOK ux → MOK (n + 32000) um → TOK t → va_P (dC, dI) vwCl (XW cyI cyZ cyO ax ux (kpf t) ++ (MW cyI cyZ am um ++ KT cyI t)) H → va_D A (XW cyI cyZ cyO ax ux (kpf t) ++ (MW cyI cyZ am um ++ KT cyI t)) → va_S A s.heap H locs → lv_has ls 4 [(3, .int (nI j)), (2, .ref (am 0)), (1, .ref (ax 0)), (0, .ref b)] → W p l e room_1 s m #[Value.ref b] below meth c H locs (k0 + 26) (s0 + 2545) (lw_Z below #[Value.ref b] s) (F0 m 838 ls [])) : W p l e room_1 s m #[Value.ref b] below meth c H locs k0 s0 (lw_Z below #[Value.ref b] s) (F0 m 733 ls []) := by
  obtain ⟨hx, hb, hr, hml, hown0, hts0, hX, hbl, hlk, hgv⟩ := C0
  have hown : s.vm.findClass RL = some m.cls := hown0
  have hts : ∀ w ∈ wsL_law, w.before #[Value.ref b] s = true := fun w h => hts0 w (wsL_law_in w h)
  refine lv_aload_n hx hb dL_law_733 rfl (lv_at hl 2 rfl) ?_
  refine lv_aload_n hx hb dL_law_734 rfl (lv_at hl 3 rfl) ?_
  refine lv_iload_n hx hb dL_law_735 rfl (lv_at hl 0 rfl) ?_
  refine lv_iconst (v := 1) hx hb dL_law_736 (by decide) ?_
  refine lv_iadd hx hb dL_law_737 ?_
  refine yy_int (v := nI (j + 1)) (ynj (by decide)) ?_
  refine va_sld hx hb hX hbl hbA hS (vp_in_nI (by omega) (by omega)) dL_law_738 ?_
  refine lv_topi (fun v738 ev738 => ?_)
  by_cases hk : 0 ≤ v738 ∧ v738 < 3
  · have hk3 := y012 hk
    have hkn := y012n hk3
    cases ht : t v738.toNatClampNeg with
    | none =>
      refine yy_calliL (va_runV (As := [.int v738]) (rest := []) ⟨hx, hb, hml, hown, hts⟩ (g_keepN l dC dI cyI cyZ cyO H.size (ax 0) (ux.1 0) (ax 1) (ux.1 1) (ux.1 2) (ux.1 3) (ux.1 4) (ux.1 5) (ax 2) (ux.2 0) (ax 3) (ux.2 1) (ax 4) (ux.2 2) (ax 5) (ux.2 3) (ax 6) (ux.2 4) (ax 7) (ux.2 5) (ax 8) (ux.2 6) (ax 9) (ux.2 7) (ax 10) (ux.1 6) (ax 11) (ax 12) (ux.2 8) (ax 13) (ux.2 9) (ax 14) (ux.2 10) (ax 15) (ux.2 11) (ax 16) (ux.2 12) (ax 17) (ux.2 13) (ax 18) (ux.1 7) (ax 19) (ux.2 14) (ax 20) (ux.2 15) (ax 21) (ux.1 8) (ux.1 9) (ux.1 10) (ux.1 11) (ux.1 12) (ux.1 13) (ax 22) (ux.1 14) (ax 23) (ux.2 16) (ax 24) (ux.1 15) (ux.1 16) (ux.1 17) (ux.1 18) (ux.1 19) (ux.1 20) (ax 25) (ux.1 21) (ux.1 22) (ux.1 23) (ux.1 24) (ux.1 25) (ux.1 26) (ux.1 27) (ux.1 28) (ux.1 29) (ux.1 30) (ux.1 31) (ux.1 32) (ux.1 33) (ax 26) (ux.1 34) (ax 27) (ux.2 17) (ax 28) (ux.2 18) (ax 29) (ux.2 19) (ax 30) (ux.1 35) (ux.1 36) (ux.1 37) (ax 31) (ux.2 20) (ax 32) (ux.1 38) (ux.1 39) (ux.1 40) (ax 33) (ux.2 21) (ax 34) (ux.1 41) (ax 35) (ux.2 22) (ax 36) (ux.2 23) (ax 37) (ux.1 42) (ax 38) (ux.2 24) (ax 39) (ux.2 25) (ax 40) (kpf t) v738 hXO.1 hXO.2.1 hXO.2.2.1 hXO.2.2.2.1 hXO.2.2.2.2.1 hXO.2.2.2.2.2.1 hXO.2.2.2.2.2.2.1 hXO.2.2.2.2.2.2.2.1 hXO.2.2.2.2.2.2.2.2.1 hXO.2.2.2.2.2.2.2.2.2 hk3 (kpf_none ht)) (cwV 1 hts gL_law_X10_keep rfl rfl rfl (by decide +kernel) ⟨Nat.le_of_ble_eq_true rfl, Nat.le_of_ble_eq_true rfl⟩) (yPreVN hK (va_P_left hP) (va_D_left hD) hN (ci := 10) (q0 := 0) rfl rfl) rfl rfl hl.1 rfl (lv_room (Nat.le_of_ble_eq_true rfl)) dL_law_739 ⟨by show _ ≤ 600000; omega, by show _ ≤ 7302250; omega⟩) hP hD hS hA (fun r739 uu H locs hw hP hD hS => ?_)
      obtain ⟨hrx, x0, x1, x2, x3, x4, x5, x6, x7, x8, x9, y0, y1, y2, y3, y4, y5, y6⟩ := hw
      obtain ⟨ux, ex⟩ : ∃ ux : yU, ux = uu.1 := ⟨_, rfl⟩
      obtain ⟨q, eq⟩ : ∃ q : KS, q = ((uu.2, ((fun j => uu.1.1 (43 + j)), (fun j => uu.1.2 (26 + j)))) : KS) := ⟨_, rfl⟩
      have hXO : XOK ux := by rw [ex]; exact ⟨x0, x1, x2, x3, x4, x5, x6, x7, x8, x9⟩
      have hKO : KOK q.2 := by rw [eq]; exact ⟨y0, y1, y2, y3, y4, y5, y6⟩
      have hP : va_P (dC, dI) vwCl ((XW cyI cyZ cyO ax ux (va_up (kpf t) v738.toNatClampNeg (some (q.1 0))) ++ KW cyI q.1 q.2) ++ (MW cyI cyZ am um ++ KT cyI t)) H := by rw [ex, eq]; exact hP
      have hD : va_D A ((XW cyI cyZ cyO ax ux (va_up (kpf t) v738.toNatClampNeg (some (q.1 0))) ++ KW cyI q.1 q.2) ++ (MW cyI cyZ am um ++ KT cyI t)) := by rw [ex, eq]; exact hD
      have eT : ((XW cyI cyZ cyO ax ux (va_up (kpf t) v738.toNatClampNeg (some (q.1 0))) ++ KW cyI q.1 q.2) ++ (MW cyI cyZ am um ++ KT cyI t)).Perm ((XW cyI cyZ cyO ax ux (kpf (tup t v738.toNatClampNeg q)) ++ KB cyI (tup t v738.toNatClampNeg q v738.toNatClampNeg)) ++ (MW cyI cyZ am um ++ KTr cyI v738.toNatClampNeg (tup t v738.toNatClampNeg q))) := by
        rw [tup_k, KTr_tup hkn, kpf_N]
        refine List.Perm.append_left _ (List.Perm.append_left _ ?_)
        have h0 := kperm (cyI := cyI) hkn [] [] t
        rw [ht] at h0
        exact h0
      have hP := va_P_perm (va_P_perm hP eT) (kperm hkn _ _ _).symm
      have hD := va_D_perm (va_D_perm hD eT) (kperm hkn _ _ _).symm
      have hTO := TOK_tup (k := v738.toNatClampNeg) hTO hKO
      generalize tup t v738.toNatClampNeg q = t at hP hD hTO
      refine lv_pop hx hb dL_law_742 rfl ?_
      refine lv_aload_n hx hb dL_law_743 rfl (lv_at hl 1 rfl) ?_
      refine lv_aload_n hx hb dL_law_744 rfl (lv_at hl 3 rfl) ?_
      refine lv_iload_n hx hb dL_law_745 rfl (lv_at hl 0 rfl) ?_
      refine lv_iconst (v := 1) hx hb dL_law_746 (by decide) ?_
      refine lv_iadd hx hb dL_law_747 ?_
      refine yy_int (v := nI (j + 1)) (ynj (by decide)) ?_
      refine va_sld hx hb hX hbl hbA hS (vp_in_nI (by omega) (by omega)) dL_law_748 ?_
      refine lv_topi (fun v748 ev748 => ?_)
      have hP := yrotP hP
      have hD := yrotD hD
      refine yy_calliL (va_runV (As := [.int v748]) (rest := []) ⟨hx, hb, hml, hown, hts⟩ (p_keep l dC dI cyI cyZ cyO H.size (am 0) (um.1 0) (um.1 1) (um.1 2) (um.1 3) (um.1 4) (um.1 5) (um.1 6) (um.1 7) (am 1) (um.2 0) (am 2) (um.2 1) (am 3) (um.2 2) (am 4) (um.2 3) (am 5) (um.2 4) (am 6) (um.2 5) (am 7) (um.2 6) (am 8) (um.2 7) (am 9) (um.2 8) (am 10) (um.2 9) (am 11) (um.2 10) (am 12) (um.2 11) (am 13) (um.2 12) (am 14) (um.2 13) (am 15) (um.2 14) (am 16) (um.2 15) v748 n hMO.1 hMO.2.1 hMO.2.2.1 hMO.2.2.2.1 hMO.2.2.2.2.1 hn hn0 hMO.2.2.2.2.2) (cwV 1 hts gL_law_X11_keep rfl rfl rfl (by decide +kernel) ⟨Nat.le_of_ble_eq_true rfl, Nat.le_of_ble_eq_true rfl⟩) (yPreV hK (va_P_left hP) (va_D_left hD) (ci := 11) (q0 := 0) rfl rfl) rfl rfl hl.1 rfl (lv_room (Nat.le_of_ble_eq_true rfl)) dL_law_749 ⟨by show _ ≤ 600000; omega, by show _ ≤ 7302250; omega⟩) hP hD hS hA (fun r749 um H locs hw hP hD hS => ?_)
      obtain ⟨hrm, hMO⟩ := hw
      have hMO : MOK (n + 32000) um := hMO
      have hP : va_P (dC, dI) vwCl (MW cyI cyZ am um ++ (XW cyI cyZ cyO ax ux (kpf t) ++ KT cyI t)) H := hP
      have hD : va_D A (MW cyI cyZ am um ++ (XW cyI cyZ cyO ax ux (kpf t) ++ KT cyI t)) := hD
      have hP := yrotP hP
      have hD := yrotD hD
      refine lv_pop hx hb dL_law_752 rfl ?_
      refine lv_goto (tgt := 838) hx hb dL_law_753 (by decide) ?_
      refine W.widen (k := k0 + 26) (n := s0 + 2545) (by omega) (by omega) ?_
      exact fin _ _ _ _ _ _ hXO hMO hTO hP hD hS hl
    | some q =>
      have hKO := hTO _ _ ht
      have hp0 := kperm (cyI := cyI) hkn (XW cyI cyZ cyO ax ux (kpf t)) (MW cyI cyZ am um) t
      rw [ht] at hp0
      have hP : va_P (dC, dI) vwCl ((XW cyI cyZ cyO ax ux (kpf t) ++ KW cyI q.1 q.2) ++ (MW cyI cyZ am um ++ KTr cyI v738.toNatClampNeg t)) H := va_P_perm hP hp0
      have hD : va_D A ((XW cyI cyZ cyO ax ux (kpf t) ++ KW cyI q.1 q.2) ++ (MW cyI cyZ am um ++ KTr cyI v738.toNatClampNeg t)) := va_D_perm hD hp0
      refine yy_calliL (va_runV (As := [.int v738]) (rest := []) ⟨hx, hb, hml, hown, hts⟩ (g_keepS l dC dI cyI cyZ cyO H.size (ax 0) (ux.1 0) (ax 1) (ux.1 1) (ux.1 2) (ux.1 3) (ux.1 4) (ux.1 5) (ax 2) (ux.2 0) (ax 3) (ux.2 1) (ax 4) (ux.2 2) (ax 5) (ux.2 3) (ax 6) (ux.2 4) (ax 7) (ux.2 5) (ax 8) (ux.2 6) (ax 9) (ux.2 7) (ax 10) (ux.1 6) (ax 11) (ax 12) (ux.2 8) (ax 13) (ux.2 9) (ax 14) (ux.2 10) (ax 15) (ux.2 11) (ax 16) (ux.2 12) (ax 17) (ux.2 13) (ax 18) (ux.1 7) (ax 19) (ux.2 14) (ax 20) (ux.2 15) (ax 21) (ux.1 8) (ux.1 9) (ux.1 10) (ux.1 11) (ux.1 12) (ux.1 13) (ax 22) (ux.1 14) (ax 23) (ux.2 16) (ax 24) (ux.1 15) (ux.1 16) (ux.1 17) (ux.1 18) (ux.1 19) (ux.1 20) (ax 25) (ux.1 21) (ux.1 22) (ux.1 23) (ux.1 24) (ux.1 25) (ux.1 26) (ux.1 27) (ux.1 28) (ux.1 29) (ux.1 30) (ux.1 31) (ux.1 32) (ux.1 33) (ax 26) (ux.1 34) (ax 27) (ux.2 17) (ax 28) (ux.2 18) (ax 29) (ux.2 19) (ax 30) (ux.1 35) (ux.1 36) (ux.1 37) (ax 31) (ux.2 20) (ax 32) (ux.1 38) (ux.1 39) (ux.1 40) (ax 33) (ux.2 21) (ax 34) (ux.1 41) (ax 35) (ux.2 22) (ax 36) (ux.2 23) (ax 37) (ux.1 42) (ax 38) (ux.2 24) (ax 39) (ux.2 25) (ax 40) (kpf t) v738 (q.1 0) (q.2.1 0) (q.1 1) (q.1 2) (q.2.2 0) (q.1 3) (q.2.2 1) (q.1 4) (q.2.2 2) (q.1 5) (q.2.2 3) (q.1 6) (q.2.2 4) (q.1 7) (q.2.2 5) (q.1 8) (q.2.1 1) (q.1 9) (q.2.2 6) (q.1 10) (q.2.2 7) (q.1 11) (q.2.1 2) (q.2.1 3) (q.2.1 4) (q.2.1 5) (q.2.1 6) (q.2.1 7) (q.1 12) (q.2.1 8) (q.1 13) (q.2.2 8) (q.1 14) (q.2.1 9) (q.2.1 10) (q.2.1 11) (q.2.1 12) (q.2.1 13) (q.2.1 14) (q.1 15) (q.2.1 15) (q.2.1 16) (q.2.1 17) (q.2.1 18) (q.2.1 19) (q.2.1 20) (q.2.1 21) (q.2.1 22) (q.2.1 23) (q.2.1 24) (q.2.1 25) (q.2.1 26) (q.2.1 27) (q.1 16) (q.2.1 28) (q.1 17) (q.2.2 9) (q.1 18) (q.2.2 10) (q.1 19) (q.2.2 11) (q.1 20) (q.2.1 29) (q.2.1 30) (q.2.1 31) (q.1 21) (q.2.2 12) (q.1 22) (q.2.1 32) (q.2.1 33) (q.2.1 34) (q.1 23) (q.2.2 13) (q.1 24) (q.2.1 35) (q.1 25) (q.2.2 14) hXO.1 hXO.2.1 hXO.2.2.1 hXO.2.2.2.1 hXO.2.2.2.2.1 hXO.2.2.2.2.2.1 hXO.2.2.2.2.2.2.1 hXO.2.2.2.2.2.2.2.1 hXO.2.2.2.2.2.2.2.2.1 hXO.2.2.2.2.2.2.2.2.2 hk3 hKO.1 hKO.2.1 hKO.2.2.1 hKO.2.2.2.1 hKO.2.2.2.2.1 hKO.2.2.2.2.2.1 hKO.2.2.2.2.2.2 (kpf_some ht)) (cwV 1 hts gL_law_X10_keep rfl rfl rfl (by decide +kernel) ⟨Nat.le_of_ble_eq_true rfl, Nat.le_of_ble_eq_true rfl⟩) (yPreV hK (va_P_left hP) (va_D_left hD) (ci := 10) (q0 := 0) rfl rfl) rfl rfl hl.1 rfl (lv_room (Nat.le_of_ble_eq_true rfl)) dL_law_739 ⟨by show _ ≤ 600000; omega, by show _ ≤ 7302250; omega⟩) hP hD hS hA (fun r739 uu H locs hw hP hD hS => ?_)
      obtain ⟨hrx, x0, x1, x2, x3, x4, x5, x6, x7, x8, x9, y0, y1, y2, y3, y4, y5, y6⟩ := hw
      obtain ⟨ux, ex⟩ : ∃ ux : yU, ux = uu := ⟨_, rfl⟩
      obtain ⟨w, ew⟩ : ∃ w : KS, w = ((q.1, ((fun j => uu.1 (43 + j)), (fun j => uu.2 (26 + j)))) : KS) := ⟨_, rfl⟩
      have hXO : XOK ux := by rw [ex]; exact ⟨x0, x1, x2, x3, x4, x5, x6, x7, x8, x9⟩
      have hKO2 : KOK w.2 := by rw [ew]; exact ⟨y0, y1, y2, y3, y4, y5, y6⟩
      have hP : va_P (dC, dI) vwCl ((XW cyI cyZ cyO ax ux (kpf t) ++ KW cyI w.1 w.2) ++ (MW cyI cyZ am um ++ KTr cyI v738.toNatClampNeg t)) H := by rw [ex, ew]; exact hP
      have hD : va_D A ((XW cyI cyZ cyO ax ux (kpf t) ++ KW cyI w.1 w.2) ++ (MW cyI cyZ am um ++ KTr cyI v738.toNatClampNeg t)) := by rw [ex, ew]; exact hD
      have eT : ((XW cyI cyZ cyO ax ux (kpf t) ++ KW cyI w.1 w.2) ++ (MW cyI cyZ am um ++ KTr cyI v738.toNatClampNeg t)) = ((XW cyI cyZ cyO ax ux (kpf (tup t v738.toNatClampNeg w)) ++ KB cyI (tup t v738.toNatClampNeg w v738.toNatClampNeg)) ++ (MW cyI cyZ am um ++ KTr cyI v738.toNatClampNeg (tup t v738.toNatClampNeg w))) := by rw [tup_k, KTr_tup hkn, kpf_S ht (by rw [ew])]; rfl
      rw [eT] at hP hD
      have hP := va_P_perm hP (kperm hkn _ _ _).symm
      have hD := va_D_perm hD (kperm hkn _ _ _).symm
      have hTO := TOK_tup (k := v738.toNatClampNeg) hTO hKO2
      generalize tup t v738.toNatClampNeg w = t at hP hD hTO
      refine lv_pop hx hb dL_law_742 rfl ?_
      refine lv_aload_n hx hb dL_law_743 rfl (lv_at hl 1 rfl) ?_
      refine lv_aload_n hx hb dL_law_744 rfl (lv_at hl 3 rfl) ?_
      refine lv_iload_n hx hb dL_law_745 rfl (lv_at hl 0 rfl) ?_
      refine lv_iconst (v := 1) hx hb dL_law_746 (by decide) ?_
      refine lv_iadd hx hb dL_law_747 ?_
      refine yy_int (v := nI (j + 1)) (ynj (by decide)) ?_
      refine va_sld hx hb hX hbl hbA hS (vp_in_nI (by omega) (by omega)) dL_law_748 ?_
      refine lv_topi (fun v748 ev748 => ?_)
      have hP := yrotP hP
      have hD := yrotD hD
      refine yy_calliL (va_runV (As := [.int v748]) (rest := []) ⟨hx, hb, hml, hown, hts⟩ (p_keep l dC dI cyI cyZ cyO H.size (am 0) (um.1 0) (um.1 1) (um.1 2) (um.1 3) (um.1 4) (um.1 5) (um.1 6) (um.1 7) (am 1) (um.2 0) (am 2) (um.2 1) (am 3) (um.2 2) (am 4) (um.2 3) (am 5) (um.2 4) (am 6) (um.2 5) (am 7) (um.2 6) (am 8) (um.2 7) (am 9) (um.2 8) (am 10) (um.2 9) (am 11) (um.2 10) (am 12) (um.2 11) (am 13) (um.2 12) (am 14) (um.2 13) (am 15) (um.2 14) (am 16) (um.2 15) v748 n hMO.1 hMO.2.1 hMO.2.2.1 hMO.2.2.2.1 hMO.2.2.2.2.1 hn hn0 hMO.2.2.2.2.2) (cwV 1 hts gL_law_X11_keep rfl rfl rfl (by decide +kernel) ⟨Nat.le_of_ble_eq_true rfl, Nat.le_of_ble_eq_true rfl⟩) (yPreV hK (va_P_left hP) (va_D_left hD) (ci := 11) (q0 := 0) rfl rfl) rfl rfl hl.1 rfl (lv_room (Nat.le_of_ble_eq_true rfl)) dL_law_749 ⟨by show _ ≤ 600000; omega, by show _ ≤ 7302250; omega⟩) hP hD hS hA (fun r749 um H locs hw hP hD hS => ?_)
      obtain ⟨hrm, hMO⟩ := hw
      have hMO : MOK (n + 32000) um := hMO
      have hP : va_P (dC, dI) vwCl (MW cyI cyZ am um ++ (XW cyI cyZ cyO ax ux (kpf t) ++ KT cyI t)) H := hP
      have hD : va_D A (MW cyI cyZ am um ++ (XW cyI cyZ cyO ax ux (kpf t) ++ KT cyI t)) := hD
      have hP := yrotP hP
      have hD := yrotD hD
      refine lv_pop hx hb dL_law_752 rfl ?_
      refine lv_goto (tgt := 838) hx hb dL_law_753 (by decide) ?_
      refine W.widen (k := k0 + 26) (n := s0 + 2545) (by omega) (by omega) ?_
      exact fin _ _ _ _ _ _ hXO hMO hTO hP hD hS hl
  · refine yy_calliL (va_runV (As := [.int v738]) (rest := []) ⟨hx, hb, hml, hown, hts⟩ (g_keepR l dC dI cyI cyZ cyO H.size (ax 0) (ux.1 0) (ax 1) (ux.1 1) (ux.1 2) (ux.1 3) (ux.1 4) (ux.1 5) (ax 2) (ux.2 0) (ax 3) (ux.2 1) (ax 4) (ux.2 2) (ax 5) (ux.2 3) (ax 6) (ux.2 4) (ax 7) (ux.2 5) (ax 8) (ux.2 6) (ax 9) (ux.2 7) (ax 10) (ux.1 6) (ax 11) (ax 12) (ux.2 8) (ax 13) (ux.2 9) (ax 14) (ux.2 10) (ax 15) (ux.2 11) (ax 16) (ux.2 12) (ax 17) (ux.2 13) (ax 18) (ux.1 7) (ax 19) (ux.2 14) (ax 20) (ux.2 15) (ax 21) (ux.1 8) (ux.1 9) (ux.1 10) (ux.1 11) (ux.1 12) (ux.1 13) (ax 22) (ux.1 14) (ax 23) (ux.2 16) (ax 24) (ux.1 15) (ux.1 16) (ux.1 17) (ux.1 18) (ux.1 19) (ux.1 20) (ax 25) (ux.1 21) (ux.1 22) (ux.1 23) (ux.1 24) (ux.1 25) (ux.1 26) (ux.1 27) (ux.1 28) (ux.1 29) (ux.1 30) (ux.1 31) (ux.1 32) (ux.1 33) (ax 26) (ux.1 34) (ax 27) (ux.2 17) (ax 28) (ux.2 18) (ax 29) (ux.2 19) (ax 30) (ux.1 35) (ux.1 36) (ux.1 37) (ax 31) (ux.2 20) (ax 32) (ux.1 38) (ux.1 39) (ux.1 40) (ax 33) (ux.2 21) (ax 34) (ux.1 41) (ax 35) (ux.2 22) (ax 36) (ux.2 23) (ax 37) (ux.1 42) (ax 38) (ux.2 24) (ax 39) (ux.2 25) (ax 40) (kpf t) v738 hXO.1 hXO.2.1 hXO.2.2.1 hXO.2.2.2.1 hXO.2.2.2.2.1 hXO.2.2.2.2.2.1 hXO.2.2.2.2.2.2.1 hXO.2.2.2.2.2.2.2.1 hXO.2.2.2.2.2.2.2.2.1 hXO.2.2.2.2.2.2.2.2.2 hk) (cwV 1 hts gL_law_X10_keep rfl rfl rfl (by decide +kernel) ⟨Nat.le_of_ble_eq_true rfl, Nat.le_of_ble_eq_true rfl⟩) (yPreV hK (va_P_left hP) (va_D_left hD) (ci := 10) (q0 := 0) rfl rfl) rfl rfl hl.1 rfl (lv_room (Nat.le_of_ble_eq_true rfl)) dL_law_739 ⟨by show _ ≤ 600000; omega, by show _ ≤ 7302250; omega⟩) hP hD hS hA (fun r739 ux H locs hw hP hD hS => ?_)
    obtain ⟨hrx, hXO⟩ := hw
    have hP : va_P (dC, dI) vwCl (XW cyI cyZ cyO ax ux (kpf t) ++ (MW cyI cyZ am um ++ KT cyI t)) H := hP
    have hD : va_D A (XW cyI cyZ cyO ax ux (kpf t) ++ (MW cyI cyZ am um ++ KT cyI t)) := hD
    refine lv_pop hx hb dL_law_742 rfl ?_
    refine lv_aload_n hx hb dL_law_743 rfl (lv_at hl 1 rfl) ?_
    refine lv_aload_n hx hb dL_law_744 rfl (lv_at hl 3 rfl) ?_
    refine lv_iload_n hx hb dL_law_745 rfl (lv_at hl 0 rfl) ?_
    refine lv_iconst (v := 1) hx hb dL_law_746 (by decide) ?_
    refine lv_iadd hx hb dL_law_747 ?_
    refine yy_int (v := nI (j + 1)) (ynj (by decide)) ?_
    refine va_sld hx hb hX hbl hbA hS (vp_in_nI (by omega) (by omega)) dL_law_748 ?_
    refine lv_topi (fun v748 ev748 => ?_)
    have hP := yrotP hP
    have hD := yrotD hD
    refine yy_calliL (va_runV (As := [.int v748]) (rest := []) ⟨hx, hb, hml, hown, hts⟩ (p_keep l dC dI cyI cyZ cyO H.size (am 0) (um.1 0) (um.1 1) (um.1 2) (um.1 3) (um.1 4) (um.1 5) (um.1 6) (um.1 7) (am 1) (um.2 0) (am 2) (um.2 1) (am 3) (um.2 2) (am 4) (um.2 3) (am 5) (um.2 4) (am 6) (um.2 5) (am 7) (um.2 6) (am 8) (um.2 7) (am 9) (um.2 8) (am 10) (um.2 9) (am 11) (um.2 10) (am 12) (um.2 11) (am 13) (um.2 12) (am 14) (um.2 13) (am 15) (um.2 14) (am 16) (um.2 15) v748 n hMO.1 hMO.2.1 hMO.2.2.1 hMO.2.2.2.1 hMO.2.2.2.2.1 hn hn0 hMO.2.2.2.2.2) (cwV 1 hts gL_law_X11_keep rfl rfl rfl (by decide +kernel) ⟨Nat.le_of_ble_eq_true rfl, Nat.le_of_ble_eq_true rfl⟩) (yPreV hK (va_P_left hP) (va_D_left hD) (ci := 11) (q0 := 0) rfl rfl) rfl rfl hl.1 rfl (lv_room (Nat.le_of_ble_eq_true rfl)) dL_law_749 ⟨by show _ ≤ 600000; omega, by show _ ≤ 7302250; omega⟩) hP hD hS hA (fun r749 um H locs hw hP hD hS => ?_)
    obtain ⟨hrm, hMO⟩ := hw
    have hMO : MOK (n + 32000) um := hMO
    have hP : va_P (dC, dI) vwCl (MW cyI cyZ am um ++ (XW cyI cyZ cyO ax ux (kpf t) ++ KT cyI t)) H := hP
    have hD : va_D A (MW cyI cyZ am um ++ (XW cyI cyZ cyO ax ux (kpf t) ++ KT cyI t)) := hD
    have hP := yrotP hP
    have hD := yrotD hD
    refine lv_pop hx hb dL_law_752 rfl ?_
    refine lv_goto (tgt := 838) hx hb dL_law_753 (by decide) ?_
    refine W.widen (k := k0 + 26) (n := s0 + 2545) (by omega) (by omega) ?_
    exact fin _ _ _ _ _ _ hXO hMO hTO hP hD hS hl
set_option maxHeartbeats 4000000 in
set_option maxRecDepth 100000 in
/-- the law: back -/
theorem law_back {p : Program} {e : Env} {s : State} {m : MethodId} {below : List Frame} {meth : Method} {c : Code} (l : Launch) {b L : Nat} {xs : Nat → Int32} (hL : L ≤ 3072) (C0 : lw_At p s m meth c b L xs) {dC : Nat → ClassId} {dI : Nat → Nat → Nat} {cyI cyZ cyO : ClassId} {A : Nat → Prop} (hA : ∀ q : Nat, s.heap.size ≤ q → A q) (hbA : ¬ A b) (hN : yN s) (hK : va_K (dC, dI) vwCl (yT cyI cyZ cyO) s) (ax am : Nat → Nat) (j : Nat) (hj : j + 6 ≤ L) (n : Int) (hn0 : 0 ≤ n) (hn : n ≤ 1400000000) (k0 s0 : Nat) (hk0 : k0 + 26 ≤ 600000) (hs0 : s0 + 2545 ≤ 7302250) (ux um : yU) (t : Nat → Option KS) {H : Heap} {locs : List Loc} (hXO : XOK ux) (hMO : MOK n um) (hTO : TOK t) (hP : va_P (dC, dI) vwCl (XW cyI cyZ cyO ax ux (kpf t) ++ (MW cyI cyZ am um ++ KT cyI t)) H) (hD : va_D A (XW cyI cyZ cyO ax ux (kpf t) ++ (MW cyI cyZ am um ++ KT cyI t))) (hS : va_S A s.heap H locs) {ls : Array Slot} (hl : lv_has ls 4 [(3, .int (nI j)), (2, .ref (am 0)), (1, .ref (ax 0)), (0, .ref b)]) (fin : ∀ (ux um : yU) (t : Nat → Option KS) (H : Heap) (locs : List Loc) (ls : Array Slot), XOK ux → MOK (n + 32000) um → TOK t → va_P (dC, dI) vwCl (XW cyI cyZ cyO ax ux (kpf t) ++ (MW cyI cyZ am um ++ KT cyI t)) H → va_D A (XW cyI cyZ cyO ax ux (kpf t) ++ (MW cyI cyZ am um ++ KT cyI t)) → va_S A s.heap H locs → lv_has ls 4 [(3, .int (nI j)), (2, .ref (am 0)), (1, .ref (ax 0)), (0, .ref b)] → W p l e room_1 s m #[Value.ref b] below meth c H locs (k0 + 26) (s0 + 2545) (lw_Z below #[Value.ref b] s) (F0 m 838 ls [])) : W p l e room_1 s m #[Value.ref b] below meth c H locs k0 s0 (lw_Z below #[Value.ref b] s) (F0 m 756 ls []) := by
  obtain ⟨hx, hb, hr, hml, hown0, hts0, hX, hbl, hlk, hgv⟩ := C0
  have hown : s.vm.findClass RL = some m.cls := hown0
  have hts : ∀ w ∈ wsL_law, w.before #[Value.ref b] s = true := fun w h => hts0 w (wsL_law_in w h)
  refine lv_aload_n hx hb dL_law_756 rfl (lv_at hl 2 rfl) ?_
  refine lv_aload_n hx hb dL_law_757 rfl (lv_at hl 3 rfl) ?_
  refine lv_iload_n hx hb dL_law_758 rfl (lv_at hl 0 rfl) ?_
  refine lv_iconst (v := 1) hx hb dL_law_759 (by decide) ?_
  refine lv_iadd hx hb dL_law_760 ?_
  refine yy_int (v := nI (j + 1)) (ynj (by decide)) ?_
  refine va_sld hx hb hX hbl hbA hS (vp_in_nI (by omega) (by omega)) dL_law_761 ?_
  refine lv_topi (fun v761 ev761 => ?_)
  by_cases hk : 0 ≤ v761 ∧ v761 < 3
  · have hk3 := y012 hk
    have hkn := y012n hk3
    cases ht : t v761.toNatClampNeg with
    | none =>
      refine yy_calliL (va_runV (As := [.int v761]) (rest := []) ⟨hx, hb, hml, hown, hts⟩ (g_backN l dC dI cyI cyZ cyO H.size (ax 0) (ux.1 0) (ax 1) (ux.1 1) (ux.1 2) (ux.1 3) (ux.1 4) (ux.1 5) (ax 2) (ux.2 0) (ax 3) (ux.2 1) (ax 4) (ux.2 2) (ax 5) (ux.2 3) (ax 6) (ux.2 4) (ax 7) (ux.2 5) (ax 8) (ux.2 6) (ax 9) (ux.2 7) (ax 10) (ux.1 6) (ax 11) (ax 12) (ux.2 8) (ax 13) (ux.2 9) (ax 14) (ux.2 10) (ax 15) (ux.2 11) (ax 16) (ux.2 12) (ax 17) (ux.2 13) (ax 18) (ux.1 7) (ax 19) (ux.2 14) (ax 20) (ux.2 15) (ax 21) (ux.1 8) (ux.1 9) (ux.1 10) (ux.1 11) (ux.1 12) (ux.1 13) (ax 22) (ux.1 14) (ax 23) (ux.2 16) (ax 24) (ux.1 15) (ux.1 16) (ux.1 17) (ux.1 18) (ux.1 19) (ux.1 20) (ax 25) (ux.1 21) (ux.1 22) (ux.1 23) (ux.1 24) (ux.1 25) (ux.1 26) (ux.1 27) (ux.1 28) (ux.1 29) (ux.1 30) (ux.1 31) (ux.1 32) (ux.1 33) (ax 26) (ux.1 34) (ax 27) (ux.2 17) (ax 28) (ux.2 18) (ax 29) (ux.2 19) (ax 30) (ux.1 35) (ux.1 36) (ux.1 37) (ax 31) (ux.2 20) (ax 32) (ux.1 38) (ux.1 39) (ux.1 40) (ax 33) (ux.2 21) (ax 34) (ux.1 41) (ax 35) (ux.2 22) (ax 36) (ux.2 23) (ax 37) (ux.1 42) (ax 38) (ux.2 24) (ax 39) (ux.2 25) (ax 40) (kpf t) v761 hXO.1 hXO.2.1 hXO.2.2.1 hXO.2.2.2.1 hXO.2.2.2.2.1 hXO.2.2.2.2.2.1 hXO.2.2.2.2.2.2.1 hXO.2.2.2.2.2.2.2.1 hXO.2.2.2.2.2.2.2.2.1 hXO.2.2.2.2.2.2.2.2.2 hk3 (kpf_none ht)) (cwV 1 hts gL_law_X10_back rfl rfl rfl (by decide +kernel) ⟨Nat.le_of_ble_eq_true rfl, Nat.le_of_ble_eq_true rfl⟩) (yPreV hK (va_P_left hP) (va_D_left hD) (ci := 10) (q0 := 0) rfl rfl) rfl rfl hl.1 rfl (lv_room (Nat.le_of_ble_eq_true rfl)) dL_law_762 ⟨by show _ ≤ 600000; omega, by show _ ≤ 7302250; omega⟩) hP hD hS hA (fun r762 ux H locs hw hP hD hS => ?_)
      have hXO : XOK ux := hw
      have hP : va_P (dC, dI) vwCl (XW cyI cyZ cyO ax ux (kpf t) ++ (MW cyI cyZ am um ++ KT cyI t)) H := hP
      have hD : va_D A (XW cyI cyZ cyO ax ux (kpf t) ++ (MW cyI cyZ am um ++ KT cyI t)) := hD
      refine lv_pop hx hb dL_law_765 rfl ?_
      refine lv_aload_n hx hb dL_law_766 rfl (lv_at hl 1 rfl) ?_
      refine lv_aload_n hx hb dL_law_767 rfl (lv_at hl 3 rfl) ?_
      refine lv_iload_n hx hb dL_law_768 rfl (lv_at hl 0 rfl) ?_
      refine lv_iconst (v := 1) hx hb dL_law_769 (by decide) ?_
      refine lv_iadd hx hb dL_law_770 ?_
      refine yy_int (v := nI (j + 1)) (ynj (by decide)) ?_
      refine va_sld hx hb hX hbl hbA hS (vp_in_nI (by omega) (by omega)) dL_law_771 ?_
      refine lv_topi (fun v771 ev771 => ?_)
      have hP := yrotP hP
      have hD := yrotD hD
      refine yy_calliL (va_runV (As := [.int v771]) (rest := []) ⟨hx, hb, hml, hown, hts⟩ (p_back l dC dI cyI cyZ cyO H.size (am 0) (um.1 0) (um.1 1) (um.1 2) (um.1 3) (um.1 4) (um.1 5) (um.1 6) (um.1 7) (am 1) (um.2 0) (am 2) (um.2 1) (am 3) (um.2 2) (am 4) (um.2 3) (am 5) (um.2 4) (am 6) (um.2 5) (am 7) (um.2 6) (am 8) (um.2 7) (am 9) (um.2 8) (am 10) (um.2 9) (am 11) (um.2 10) (am 12) (um.2 11) (am 13) (um.2 12) (am 14) (um.2 13) (am 15) (um.2 14) (am 16) (um.2 15) v771 n hMO.1 hMO.2.1 hMO.2.2.1 hMO.2.2.2.1 hMO.2.2.2.2.1 hn hn0 hMO.2.2.2.2.2) (cwV 1 hts gL_law_X11_back rfl rfl rfl (by decide +kernel) ⟨Nat.le_of_ble_eq_true rfl, Nat.le_of_ble_eq_true rfl⟩) (yPreV hK (va_P_left hP) (va_D_left hD) (ci := 11) (q0 := 0) rfl rfl) rfl rfl hl.1 rfl (lv_room (Nat.le_of_ble_eq_true rfl)) dL_law_772 ⟨by show _ ≤ 600000; omega, by show _ ≤ 7302250; omega⟩) hP hD hS hA (fun r772 um H locs hw hP hD hS => ?_)
      have hMO : MOK (n + 32000) um := hw
      have hP : va_P (dC, dI) vwCl (MW cyI cyZ am um ++ (XW cyI cyZ cyO ax ux (kpf t) ++ KT cyI t)) H := hP
      have hD : va_D A (MW cyI cyZ am um ++ (XW cyI cyZ cyO ax ux (kpf t) ++ KT cyI t)) := hD
      have hP := yrotP hP
      have hD := yrotD hD
      refine lv_pop hx hb dL_law_775 rfl ?_
      refine lv_goto (tgt := 838) hx hb dL_law_776 (by decide) ?_
      refine W.widen (k := k0 + 26) (n := s0 + 2545) (by omega) (by omega) ?_
      exact fin _ _ _ _ _ _ hXO hMO hTO hP hD hS hl
    | some q =>
      have hKO := hTO _ _ ht
      have hp0 := kperm (cyI := cyI) hkn (XW cyI cyZ cyO ax ux (kpf t)) (MW cyI cyZ am um) t
      rw [ht] at hp0
      have hP : va_P (dC, dI) vwCl ((XW cyI cyZ cyO ax ux (kpf t) ++ KW cyI q.1 q.2) ++ (MW cyI cyZ am um ++ KTr cyI v761.toNatClampNeg t)) H := va_P_perm hP hp0
      have hD : va_D A ((XW cyI cyZ cyO ax ux (kpf t) ++ KW cyI q.1 q.2) ++ (MW cyI cyZ am um ++ KTr cyI v761.toNatClampNeg t)) := va_D_perm hD hp0
      refine yy_calliL (va_runV (As := [.int v761]) (rest := []) ⟨hx, hb, hml, hown, hts⟩ (g_backS l dC dI cyI cyZ cyO H.size (ax 0) (ux.1 0) (ax 1) (ux.1 1) (ux.1 2) (ux.1 3) (ux.1 4) (ux.1 5) (ax 2) (ux.2 0) (ax 3) (ux.2 1) (ax 4) (ux.2 2) (ax 5) (ux.2 3) (ax 6) (ux.2 4) (ax 7) (ux.2 5) (ax 8) (ux.2 6) (ax 9) (ux.2 7) (ax 10) (ux.1 6) (ax 11) (ax 12) (ux.2 8) (ax 13) (ux.2 9) (ax 14) (ux.2 10) (ax 15) (ux.2 11) (ax 16) (ux.2 12) (ax 17) (ux.2 13) (ax 18) (ux.1 7) (ax 19) (ux.2 14) (ax 20) (ux.2 15) (ax 21) (ux.1 8) (ux.1 9) (ux.1 10) (ux.1 11) (ux.1 12) (ux.1 13) (ax 22) (ux.1 14) (ax 23) (ux.2 16) (ax 24) (ux.1 15) (ux.1 16) (ux.1 17) (ux.1 18) (ux.1 19) (ux.1 20) (ax 25) (ux.1 21) (ux.1 22) (ux.1 23) (ux.1 24) (ux.1 25) (ux.1 26) (ux.1 27) (ux.1 28) (ux.1 29) (ux.1 30) (ux.1 31) (ux.1 32) (ux.1 33) (ax 26) (ux.1 34) (ax 27) (ux.2 17) (ax 28) (ux.2 18) (ax 29) (ux.2 19) (ax 30) (ux.1 35) (ux.1 36) (ux.1 37) (ax 31) (ux.2 20) (ax 32) (ux.1 38) (ux.1 39) (ux.1 40) (ax 33) (ux.2 21) (ax 34) (ux.1 41) (ax 35) (ux.2 22) (ax 36) (ux.2 23) (ax 37) (ux.1 42) (ax 38) (ux.2 24) (ax 39) (ux.2 25) (ax 40) (kpf t) v761 (q.1 0) (q.2.1 0) (q.1 1) (q.1 2) (q.2.2 0) (q.1 3) (q.2.2 1) (q.1 4) (q.2.2 2) (q.1 5) (q.2.2 3) (q.1 6) (q.2.2 4) (q.1 7) (q.2.2 5) (q.1 8) (q.2.1 1) (q.1 9) (q.2.2 6) (q.1 10) (q.2.2 7) (q.1 11) (q.2.1 2) (q.2.1 3) (q.2.1 4) (q.2.1 5) (q.2.1 6) (q.2.1 7) (q.1 12) (q.2.1 8) (q.1 13) (q.2.2 8) (q.1 14) (q.2.1 9) (q.2.1 10) (q.2.1 11) (q.2.1 12) (q.2.1 13) (q.2.1 14) (q.1 15) (q.2.1 15) (q.2.1 16) (q.2.1 17) (q.2.1 18) (q.2.1 19) (q.2.1 20) (q.2.1 21) (q.2.1 22) (q.2.1 23) (q.2.1 24) (q.2.1 25) (q.2.1 26) (q.2.1 27) (q.1 16) (q.2.1 28) (q.1 17) (q.2.2 9) (q.1 18) (q.2.2 10) (q.1 19) (q.2.2 11) (q.1 20) (q.2.1 29) (q.2.1 30) (q.2.1 31) (q.1 21) (q.2.2 12) (q.1 22) (q.2.1 32) (q.2.1 33) (q.2.1 34) (q.1 23) (q.2.2 13) (q.1 24) (q.2.1 35) (q.1 25) (q.2.2 14) hXO.1 hXO.2.1 hXO.2.2.1 hXO.2.2.2.1 hXO.2.2.2.2.1 hXO.2.2.2.2.2.1 hXO.2.2.2.2.2.2.1 hXO.2.2.2.2.2.2.2.1 hXO.2.2.2.2.2.2.2.2.1 hXO.2.2.2.2.2.2.2.2.2 hk3 hKO.1 hKO.2.1 hKO.2.2.1 hKO.2.2.2.1 hKO.2.2.2.2.1 hKO.2.2.2.2.2.1 hKO.2.2.2.2.2.2 (kpf_some ht)) (cwV 1 hts gL_law_X10_back rfl rfl rfl (by decide +kernel) ⟨Nat.le_of_ble_eq_true rfl, Nat.le_of_ble_eq_true rfl⟩) (yPreV hK (va_P_left hP) (va_D_left hD) (ci := 10) (q0 := 0) rfl rfl) rfl rfl hl.1 rfl (lv_room (Nat.le_of_ble_eq_true rfl)) dL_law_762 ⟨by show _ ≤ 600000; omega, by show _ ≤ 7302250; omega⟩) hP hD hS hA (fun r762 uu H locs hw hP hD hS => ?_)
      obtain ⟨x0, x1, x2, x3, x4, x5, x6, x7, x8, x9, y0, y1, y2, y3, y4, y5, y6⟩ := hw
      obtain ⟨ux, ex⟩ : ∃ ux : yU, ux = uu := ⟨_, rfl⟩
      obtain ⟨w, ew⟩ : ∃ w : KS, w = ((q.1, ((fun j => uu.1 (43 + j)), (fun j => uu.2 (26 + j)))) : KS) := ⟨_, rfl⟩
      have hXO : XOK ux := by rw [ex]; exact ⟨x0, x1, x2, x3, x4, x5, x6, x7, x8, x9⟩
      have hKO2 : KOK w.2 := by rw [ew]; exact ⟨y0, y1, y2, y3, y4, y5, y6⟩
      have hP : va_P (dC, dI) vwCl ((XW cyI cyZ cyO ax ux (kpf t) ++ KW cyI w.1 w.2) ++ (MW cyI cyZ am um ++ KTr cyI v761.toNatClampNeg t)) H := by rw [ex, ew]; exact hP
      have hD : va_D A ((XW cyI cyZ cyO ax ux (kpf t) ++ KW cyI w.1 w.2) ++ (MW cyI cyZ am um ++ KTr cyI v761.toNatClampNeg t)) := by rw [ex, ew]; exact hD
      have eT : ((XW cyI cyZ cyO ax ux (kpf t) ++ KW cyI w.1 w.2) ++ (MW cyI cyZ am um ++ KTr cyI v761.toNatClampNeg t)) = ((XW cyI cyZ cyO ax ux (kpf (tup t v761.toNatClampNeg w)) ++ KB cyI (tup t v761.toNatClampNeg w v761.toNatClampNeg)) ++ (MW cyI cyZ am um ++ KTr cyI v761.toNatClampNeg (tup t v761.toNatClampNeg w))) := by rw [tup_k, KTr_tup hkn, kpf_S ht (by rw [ew])]; rfl
      rw [eT] at hP hD
      have hP := va_P_perm hP (kperm hkn _ _ _).symm
      have hD := va_D_perm hD (kperm hkn _ _ _).symm
      have hTO := TOK_tup (k := v761.toNatClampNeg) hTO hKO2
      generalize tup t v761.toNatClampNeg w = t at hP hD hTO
      refine lv_pop hx hb dL_law_765 rfl ?_
      refine lv_aload_n hx hb dL_law_766 rfl (lv_at hl 1 rfl) ?_
      refine lv_aload_n hx hb dL_law_767 rfl (lv_at hl 3 rfl) ?_
      refine lv_iload_n hx hb dL_law_768 rfl (lv_at hl 0 rfl) ?_
      refine lv_iconst (v := 1) hx hb dL_law_769 (by decide) ?_
      refine lv_iadd hx hb dL_law_770 ?_
      refine yy_int (v := nI (j + 1)) (ynj (by decide)) ?_
      refine va_sld hx hb hX hbl hbA hS (vp_in_nI (by omega) (by omega)) dL_law_771 ?_
      refine lv_topi (fun v771 ev771 => ?_)
      have hP := yrotP hP
      have hD := yrotD hD
      refine yy_calliL (va_runV (As := [.int v771]) (rest := []) ⟨hx, hb, hml, hown, hts⟩ (p_back l dC dI cyI cyZ cyO H.size (am 0) (um.1 0) (um.1 1) (um.1 2) (um.1 3) (um.1 4) (um.1 5) (um.1 6) (um.1 7) (am 1) (um.2 0) (am 2) (um.2 1) (am 3) (um.2 2) (am 4) (um.2 3) (am 5) (um.2 4) (am 6) (um.2 5) (am 7) (um.2 6) (am 8) (um.2 7) (am 9) (um.2 8) (am 10) (um.2 9) (am 11) (um.2 10) (am 12) (um.2 11) (am 13) (um.2 12) (am 14) (um.2 13) (am 15) (um.2 14) (am 16) (um.2 15) v771 n hMO.1 hMO.2.1 hMO.2.2.1 hMO.2.2.2.1 hMO.2.2.2.2.1 hn hn0 hMO.2.2.2.2.2) (cwV 1 hts gL_law_X11_back rfl rfl rfl (by decide +kernel) ⟨Nat.le_of_ble_eq_true rfl, Nat.le_of_ble_eq_true rfl⟩) (yPreV hK (va_P_left hP) (va_D_left hD) (ci := 11) (q0 := 0) rfl rfl) rfl rfl hl.1 rfl (lv_room (Nat.le_of_ble_eq_true rfl)) dL_law_772 ⟨by show _ ≤ 600000; omega, by show _ ≤ 7302250; omega⟩) hP hD hS hA (fun r772 um H locs hw hP hD hS => ?_)
      have hMO : MOK (n + 32000) um := hw
      have hP : va_P (dC, dI) vwCl (MW cyI cyZ am um ++ (XW cyI cyZ cyO ax ux (kpf t) ++ KT cyI t)) H := hP
      have hD : va_D A (MW cyI cyZ am um ++ (XW cyI cyZ cyO ax ux (kpf t) ++ KT cyI t)) := hD
      have hP := yrotP hP
      have hD := yrotD hD
      refine lv_pop hx hb dL_law_775 rfl ?_
      refine lv_goto (tgt := 838) hx hb dL_law_776 (by decide) ?_
      refine W.widen (k := k0 + 26) (n := s0 + 2545) (by omega) (by omega) ?_
      exact fin _ _ _ _ _ _ hXO hMO hTO hP hD hS hl
  · refine yy_calliL (va_runV (As := [.int v761]) (rest := []) ⟨hx, hb, hml, hown, hts⟩ (g_backR l dC dI cyI cyZ cyO H.size (ax 0) (ux.1 0) (ax 1) (ux.1 1) (ux.1 2) (ux.1 3) (ux.1 4) (ux.1 5) (ax 2) (ux.2 0) (ax 3) (ux.2 1) (ax 4) (ux.2 2) (ax 5) (ux.2 3) (ax 6) (ux.2 4) (ax 7) (ux.2 5) (ax 8) (ux.2 6) (ax 9) (ux.2 7) (ax 10) (ux.1 6) (ax 11) (ax 12) (ux.2 8) (ax 13) (ux.2 9) (ax 14) (ux.2 10) (ax 15) (ux.2 11) (ax 16) (ux.2 12) (ax 17) (ux.2 13) (ax 18) (ux.1 7) (ax 19) (ux.2 14) (ax 20) (ux.2 15) (ax 21) (ux.1 8) (ux.1 9) (ux.1 10) (ux.1 11) (ux.1 12) (ux.1 13) (ax 22) (ux.1 14) (ax 23) (ux.2 16) (ax 24) (ux.1 15) (ux.1 16) (ux.1 17) (ux.1 18) (ux.1 19) (ux.1 20) (ax 25) (ux.1 21) (ux.1 22) (ux.1 23) (ux.1 24) (ux.1 25) (ux.1 26) (ux.1 27) (ux.1 28) (ux.1 29) (ux.1 30) (ux.1 31) (ux.1 32) (ux.1 33) (ax 26) (ux.1 34) (ax 27) (ux.2 17) (ax 28) (ux.2 18) (ax 29) (ux.2 19) (ax 30) (ux.1 35) (ux.1 36) (ux.1 37) (ax 31) (ux.2 20) (ax 32) (ux.1 38) (ux.1 39) (ux.1 40) (ax 33) (ux.2 21) (ax 34) (ux.1 41) (ax 35) (ux.2 22) (ax 36) (ux.2 23) (ax 37) (ux.1 42) (ax 38) (ux.2 24) (ax 39) (ux.2 25) (ax 40) (kpf t) v761 hXO.1 hXO.2.1 hXO.2.2.1 hXO.2.2.2.1 hXO.2.2.2.2.1 hXO.2.2.2.2.2.1 hXO.2.2.2.2.2.2.1 hXO.2.2.2.2.2.2.2.1 hXO.2.2.2.2.2.2.2.2.1 hXO.2.2.2.2.2.2.2.2.2 hk) (cwV 1 hts gL_law_X10_back rfl rfl rfl (by decide +kernel) ⟨Nat.le_of_ble_eq_true rfl, Nat.le_of_ble_eq_true rfl⟩) (yPreV hK (va_P_left hP) (va_D_left hD) (ci := 10) (q0 := 0) rfl rfl) rfl rfl hl.1 rfl (lv_room (Nat.le_of_ble_eq_true rfl)) dL_law_762 ⟨by show _ ≤ 600000; omega, by show _ ≤ 7302250; omega⟩) hP hD hS hA (fun r762 ux H locs hw hP hD hS => ?_)
    have hXO : XOK ux := hw
    have hP : va_P (dC, dI) vwCl (XW cyI cyZ cyO ax ux (kpf t) ++ (MW cyI cyZ am um ++ KT cyI t)) H := hP
    have hD : va_D A (XW cyI cyZ cyO ax ux (kpf t) ++ (MW cyI cyZ am um ++ KT cyI t)) := hD
    refine lv_pop hx hb dL_law_765 rfl ?_
    refine lv_aload_n hx hb dL_law_766 rfl (lv_at hl 1 rfl) ?_
    refine lv_aload_n hx hb dL_law_767 rfl (lv_at hl 3 rfl) ?_
    refine lv_iload_n hx hb dL_law_768 rfl (lv_at hl 0 rfl) ?_
    refine lv_iconst (v := 1) hx hb dL_law_769 (by decide) ?_
    refine lv_iadd hx hb dL_law_770 ?_
    refine yy_int (v := nI (j + 1)) (ynj (by decide)) ?_
    refine va_sld hx hb hX hbl hbA hS (vp_in_nI (by omega) (by omega)) dL_law_771 ?_
    refine lv_topi (fun v771 ev771 => ?_)
    have hP := yrotP hP
    have hD := yrotD hD
    refine yy_calliL (va_runV (As := [.int v771]) (rest := []) ⟨hx, hb, hml, hown, hts⟩ (p_back l dC dI cyI cyZ cyO H.size (am 0) (um.1 0) (um.1 1) (um.1 2) (um.1 3) (um.1 4) (um.1 5) (um.1 6) (um.1 7) (am 1) (um.2 0) (am 2) (um.2 1) (am 3) (um.2 2) (am 4) (um.2 3) (am 5) (um.2 4) (am 6) (um.2 5) (am 7) (um.2 6) (am 8) (um.2 7) (am 9) (um.2 8) (am 10) (um.2 9) (am 11) (um.2 10) (am 12) (um.2 11) (am 13) (um.2 12) (am 14) (um.2 13) (am 15) (um.2 14) (am 16) (um.2 15) v771 n hMO.1 hMO.2.1 hMO.2.2.1 hMO.2.2.2.1 hMO.2.2.2.2.1 hn hn0 hMO.2.2.2.2.2) (cwV 1 hts gL_law_X11_back rfl rfl rfl (by decide +kernel) ⟨Nat.le_of_ble_eq_true rfl, Nat.le_of_ble_eq_true rfl⟩) (yPreV hK (va_P_left hP) (va_D_left hD) (ci := 11) (q0 := 0) rfl rfl) rfl rfl hl.1 rfl (lv_room (Nat.le_of_ble_eq_true rfl)) dL_law_772 ⟨by show _ ≤ 600000; omega, by show _ ≤ 7302250; omega⟩) hP hD hS hA (fun r772 um H locs hw hP hD hS => ?_)
    have hMO : MOK (n + 32000) um := hw
    have hP : va_P (dC, dI) vwCl (MW cyI cyZ am um ++ (XW cyI cyZ cyO ax ux (kpf t) ++ KT cyI t)) H := hP
    have hD : va_D A (MW cyI cyZ am um ++ (XW cyI cyZ cyO ax ux (kpf t) ++ KT cyI t)) := hD
    have hP := yrotP hP
    have hD := yrotD hD
    refine lv_pop hx hb dL_law_775 rfl ?_
    refine lv_goto (tgt := 838) hx hb dL_law_776 (by decide) ?_
    refine W.widen (k := k0 + 26) (n := s0 + 2545) (by omega) (by omega) ?_
    exact fin _ _ _ _ _ _ hXO hMO hTO hP hD hS hl
set_option maxHeartbeats 4000000 in
set_option maxRecDepth 100000 in
/-- the law: differs -/
theorem law_differs {p : Program} {e : Env} {s : State} {m : MethodId} {below : List Frame} {meth : Method} {c : Code} (l : Launch) {b L : Nat} {xs : Nat → Int32} (hL : L ≤ 3072) (C0 : lw_At p s m meth c b L xs) {dC : Nat → ClassId} {dI : Nat → Nat → Nat} {cyI cyZ cyO : ClassId} {A : Nat → Prop} (hA : ∀ q : Nat, s.heap.size ≤ q → A q) (hbA : ¬ A b) (hN : yN s) (hK : va_K (dC, dI) vwCl (yT cyI cyZ cyO) s) (ax am : Nat → Nat) (j : Nat) (hj : j + 6 ≤ L) (n : Int) (hn0 : 0 ≤ n) (hn : n ≤ 1400000000) (k0 s0 : Nat) (hk0 : k0 + 26 ≤ 600000) (hs0 : s0 + 2545 ≤ 7302250) (ux um : yU) (t : Nat → Option KS) {H : Heap} {locs : List Loc} (hXO : XOK ux) (hMO : MOK n um) (hTO : TOK t) (hP : va_P (dC, dI) vwCl (XW cyI cyZ cyO ax ux (kpf t) ++ (MW cyI cyZ am um ++ KT cyI t)) H) (hD : va_D A (XW cyI cyZ cyO ax ux (kpf t) ++ (MW cyI cyZ am um ++ KT cyI t))) (hS : va_S A s.heap H locs) {ls : Array Slot} (hl : lv_has ls 4 [(3, .int (nI j)), (2, .ref (am 0)), (1, .ref (ax 0)), (0, .ref b)]) (fin : ∀ (ux um : yU) (t : Nat → Option KS) (H : Heap) (locs : List Loc) (ls : Array Slot), XOK ux → MOK (n + 32000) um → TOK t → va_P (dC, dI) vwCl (XW cyI cyZ cyO ax ux (kpf t) ++ (MW cyI cyZ am um ++ KT cyI t)) H → va_D A (XW cyI cyZ cyO ax ux (kpf t) ++ (MW cyI cyZ am um ++ KT cyI t)) → va_S A s.heap H locs → lv_has ls 4 [(3, .int (nI j)), (2, .ref (am 0)), (1, .ref (ax 0)), (0, .ref b)] → W p l e room_1 s m #[Value.ref b] below meth c H locs (k0 + 26) (s0 + 2545) (lw_Z below #[Value.ref b] s) (F0 m 838 ls [])) : W p l e room_1 s m #[Value.ref b] below meth c H locs k0 s0 (lw_Z below #[Value.ref b] s) (F0 m 779 ls []) := by
  obtain ⟨hx, hb, hr, hml, hown0, hts0, hX, hbl, hlk, hgv⟩ := C0
  have hown : s.vm.findClass RL = some m.cls := hown0
  have hts : ∀ w ∈ wsL_law, w.before #[Value.ref b] s = true := fun w h => hts0 w (wsL_law_in w h)
  refine lv_aload_n hx hb dL_law_779 rfl (lv_at hl 2 rfl) ?_
  refine lv_aload_n hx hb dL_law_780 rfl (lv_at hl 3 rfl) ?_
  refine lv_iload_n hx hb dL_law_781 rfl (lv_at hl 0 rfl) ?_
  refine lv_iconst (v := 1) hx hb dL_law_782 (by decide) ?_
  refine lv_iadd hx hb dL_law_783 ?_
  refine yy_int (v := nI (j + 1)) (ynj (by decide)) ?_
  refine va_sld hx hb hX hbl hbA hS (vp_in_nI (by omega) (by omega)) dL_law_784 ?_
  refine lv_topi (fun v784 ev784 => ?_)
  by_cases hk : 0 ≤ v784 ∧ v784 < 3
  · have hk3 := y012 hk
    have hkn := y012n hk3
    cases ht : t v784.toNatClampNeg with
    | none =>
      refine yy_calliL (va_runV (As := [.int v784]) (rest := []) ⟨hx, hb, hml, hown, hts⟩ (g_differsN l dC dI cyI cyZ cyO H.size (ax 0) (ux.1 0) (ax 1) (ux.1 1) (ux.1 2) (ux.1 3) (ux.1 4) (ux.1 5) (ax 2) (ux.2 0) (ax 3) (ux.2 1) (ax 4) (ux.2 2) (ax 5) (ux.2 3) (ax 6) (ux.2 4) (ax 7) (ux.2 5) (ax 8) (ux.2 6) (ax 9) (ux.2 7) (ax 10) (ux.1 6) (ax 11) (ax 12) (ux.2 8) (ax 13) (ux.2 9) (ax 14) (ux.2 10) (ax 15) (ux.2 11) (ax 16) (ux.2 12) (ax 17) (ux.2 13) (ax 18) (ux.1 7) (ax 19) (ux.2 14) (ax 20) (ux.2 15) (ax 21) (ux.1 8) (ux.1 9) (ux.1 10) (ux.1 11) (ux.1 12) (ux.1 13) (ax 22) (ux.1 14) (ax 23) (ux.2 16) (ax 24) (ux.1 15) (ux.1 16) (ux.1 17) (ux.1 18) (ux.1 19) (ux.1 20) (ax 25) (ux.1 21) (ux.1 22) (ux.1 23) (ux.1 24) (ux.1 25) (ux.1 26) (ux.1 27) (ux.1 28) (ux.1 29) (ux.1 30) (ux.1 31) (ux.1 32) (ux.1 33) (ax 26) (ux.1 34) (ax 27) (ux.2 17) (ax 28) (ux.2 18) (ax 29) (ux.2 19) (ax 30) (ux.1 35) (ux.1 36) (ux.1 37) (ax 31) (ux.2 20) (ax 32) (ux.1 38) (ux.1 39) (ux.1 40) (ax 33) (ux.2 21) (ax 34) (ux.1 41) (ax 35) (ux.2 22) (ax 36) (ux.2 23) (ax 37) (ux.1 42) (ax 38) (ux.2 24) (ax 39) (ux.2 25) (ax 40) (kpf t) v784 hXO.1 hXO.2.1 hXO.2.2.1 hXO.2.2.2.1 hXO.2.2.2.2.1 hXO.2.2.2.2.2.1 hXO.2.2.2.2.2.2.1 hXO.2.2.2.2.2.2.2.1 hXO.2.2.2.2.2.2.2.2.1 hXO.2.2.2.2.2.2.2.2.2 hk3 (kpf_none ht)) (cwV 1 hts gL_law_X10_differs rfl rfl rfl (by decide +kernel) ⟨Nat.le_of_ble_eq_true rfl, Nat.le_of_ble_eq_true rfl⟩) (yPreV hK (va_P_left hP) (va_D_left hD) (ci := 10) (q0 := 0) rfl rfl) rfl rfl hl.1 rfl (lv_room (Nat.le_of_ble_eq_true rfl)) dL_law_785 ⟨by show _ ≤ 600000; omega, by show _ ≤ 7302250; omega⟩) hP hD hS hA (fun r785 ux H locs hw hP hD hS => ?_)
      have hXO : XOK ux := hw
      have hP : va_P (dC, dI) vwCl (XW cyI cyZ cyO ax ux (kpf t) ++ (MW cyI cyZ am um ++ KT cyI t)) H := hP
      have hD : va_D A (XW cyI cyZ cyO ax ux (kpf t) ++ (MW cyI cyZ am um ++ KT cyI t)) := hD
      refine lv_pop hx hb dL_law_788 rfl ?_
      refine lv_aload_n hx hb dL_law_789 rfl (lv_at hl 1 rfl) ?_
      refine lv_aload_n hx hb dL_law_790 rfl (lv_at hl 3 rfl) ?_
      refine lv_iload_n hx hb dL_law_791 rfl (lv_at hl 0 rfl) ?_
      refine lv_iconst (v := 1) hx hb dL_law_792 (by decide) ?_
      refine lv_iadd hx hb dL_law_793 ?_
      refine yy_int (v := nI (j + 1)) (ynj (by decide)) ?_
      refine va_sld hx hb hX hbl hbA hS (vp_in_nI (by omega) (by omega)) dL_law_794 ?_
      refine lv_topi (fun v794 ev794 => ?_)
      have hP := yrotP hP
      have hD := yrotD hD
      refine yy_calliL (va_runV (As := [.int v794]) (rest := []) ⟨hx, hb, hml, hown, hts⟩ (p_differs l dC dI cyI cyZ cyO H.size (am 0) (um.1 0) (um.1 1) (um.1 2) (um.1 3) (um.1 4) (um.1 5) (um.1 6) (um.1 7) (am 1) (um.2 0) (am 2) (um.2 1) (am 3) (um.2 2) (am 4) (um.2 3) (am 5) (um.2 4) (am 6) (um.2 5) (am 7) (um.2 6) (am 8) (um.2 7) (am 9) (um.2 8) (am 10) (um.2 9) (am 11) (um.2 10) (am 12) (um.2 11) (am 13) (um.2 12) (am 14) (um.2 13) (am 15) (um.2 14) (am 16) (um.2 15) v794 n hMO.1 hMO.2.1 hMO.2.2.1 hMO.2.2.2.1 hMO.2.2.2.2.1 hn hn0 hMO.2.2.2.2.2) (cwV 1 hts gL_law_X11_differs rfl rfl rfl (by decide +kernel) ⟨Nat.le_of_ble_eq_true rfl, Nat.le_of_ble_eq_true rfl⟩) (yPreV hK (va_P_left hP) (va_D_left hD) (ci := 11) (q0 := 0) rfl rfl) rfl rfl hl.1 rfl (lv_room (Nat.le_of_ble_eq_true rfl)) dL_law_795 ⟨by show _ ≤ 600000; omega, by show _ ≤ 7302250; omega⟩) hP hD hS hA (fun r795 um H locs hw hP hD hS => ?_)
      have hMO : MOK (n + 32000) um := hw
      have hP : va_P (dC, dI) vwCl (MW cyI cyZ am um ++ (XW cyI cyZ cyO ax ux (kpf t) ++ KT cyI t)) H := hP
      have hD : va_D A (MW cyI cyZ am um ++ (XW cyI cyZ cyO ax ux (kpf t) ++ KT cyI t)) := hD
      have hP := yrotP hP
      have hD := yrotD hD
      refine lv_pop hx hb dL_law_798 rfl ?_
      refine lv_goto (tgt := 838) hx hb dL_law_799 (by decide) ?_
      refine W.widen (k := k0 + 26) (n := s0 + 2545) (by omega) (by omega) ?_
      exact fin _ _ _ _ _ _ hXO hMO hTO hP hD hS hl
    | some q =>
      have hKO := hTO _ _ ht
      have hp0 := kperm (cyI := cyI) hkn (XW cyI cyZ cyO ax ux (kpf t)) (MW cyI cyZ am um) t
      rw [ht] at hp0
      have hP : va_P (dC, dI) vwCl ((XW cyI cyZ cyO ax ux (kpf t) ++ KW cyI q.1 q.2) ++ (MW cyI cyZ am um ++ KTr cyI v784.toNatClampNeg t)) H := va_P_perm hP hp0
      have hD : va_D A ((XW cyI cyZ cyO ax ux (kpf t) ++ KW cyI q.1 q.2) ++ (MW cyI cyZ am um ++ KTr cyI v784.toNatClampNeg t)) := va_D_perm hD hp0
      refine yy_calliL (va_runV (As := [.int v784]) (rest := []) ⟨hx, hb, hml, hown, hts⟩ (g_differsS l dC dI cyI cyZ cyO H.size (ax 0) (ux.1 0) (ax 1) (ux.1 1) (ux.1 2) (ux.1 3) (ux.1 4) (ux.1 5) (ax 2) (ux.2 0) (ax 3) (ux.2 1) (ax 4) (ux.2 2) (ax 5) (ux.2 3) (ax 6) (ux.2 4) (ax 7) (ux.2 5) (ax 8) (ux.2 6) (ax 9) (ux.2 7) (ax 10) (ux.1 6) (ax 11) (ax 12) (ux.2 8) (ax 13) (ux.2 9) (ax 14) (ux.2 10) (ax 15) (ux.2 11) (ax 16) (ux.2 12) (ax 17) (ux.2 13) (ax 18) (ux.1 7) (ax 19) (ux.2 14) (ax 20) (ux.2 15) (ax 21) (ux.1 8) (ux.1 9) (ux.1 10) (ux.1 11) (ux.1 12) (ux.1 13) (ax 22) (ux.1 14) (ax 23) (ux.2 16) (ax 24) (ux.1 15) (ux.1 16) (ux.1 17) (ux.1 18) (ux.1 19) (ux.1 20) (ax 25) (ux.1 21) (ux.1 22) (ux.1 23) (ux.1 24) (ux.1 25) (ux.1 26) (ux.1 27) (ux.1 28) (ux.1 29) (ux.1 30) (ux.1 31) (ux.1 32) (ux.1 33) (ax 26) (ux.1 34) (ax 27) (ux.2 17) (ax 28) (ux.2 18) (ax 29) (ux.2 19) (ax 30) (ux.1 35) (ux.1 36) (ux.1 37) (ax 31) (ux.2 20) (ax 32) (ux.1 38) (ux.1 39) (ux.1 40) (ax 33) (ux.2 21) (ax 34) (ux.1 41) (ax 35) (ux.2 22) (ax 36) (ux.2 23) (ax 37) (ux.1 42) (ax 38) (ux.2 24) (ax 39) (ux.2 25) (ax 40) (kpf t) v784 (q.1 0) (q.2.1 0) (q.1 1) (q.1 2) (q.2.2 0) (q.1 3) (q.2.2 1) (q.1 4) (q.2.2 2) (q.1 5) (q.2.2 3) (q.1 6) (q.2.2 4) (q.1 7) (q.2.2 5) (q.1 8) (q.2.1 1) (q.1 9) (q.2.2 6) (q.1 10) (q.2.2 7) (q.1 11) (q.2.1 2) (q.2.1 3) (q.2.1 4) (q.2.1 5) (q.2.1 6) (q.2.1 7) (q.1 12) (q.2.1 8) (q.1 13) (q.2.2 8) (q.1 14) (q.2.1 9) (q.2.1 10) (q.2.1 11) (q.2.1 12) (q.2.1 13) (q.2.1 14) (q.1 15) (q.2.1 15) (q.2.1 16) (q.2.1 17) (q.2.1 18) (q.2.1 19) (q.2.1 20) (q.2.1 21) (q.2.1 22) (q.2.1 23) (q.2.1 24) (q.2.1 25) (q.2.1 26) (q.2.1 27) (q.1 16) (q.2.1 28) (q.1 17) (q.2.2 9) (q.1 18) (q.2.2 10) (q.1 19) (q.2.2 11) (q.1 20) (q.2.1 29) (q.2.1 30) (q.2.1 31) (q.1 21) (q.2.2 12) (q.1 22) (q.2.1 32) (q.2.1 33) (q.2.1 34) (q.1 23) (q.2.2 13) (q.1 24) (q.2.1 35) (q.1 25) (q.2.2 14) hXO.1 hXO.2.1 hXO.2.2.1 hXO.2.2.2.1 hXO.2.2.2.2.1 hXO.2.2.2.2.2.1 hXO.2.2.2.2.2.2.1 hXO.2.2.2.2.2.2.2.1 hXO.2.2.2.2.2.2.2.2.1 hXO.2.2.2.2.2.2.2.2.2 hk3 hKO.1 hKO.2.1 hKO.2.2.1 hKO.2.2.2.1 hKO.2.2.2.2.1 hKO.2.2.2.2.2.1 hKO.2.2.2.2.2.2 (kpf_some ht)) (cwV 1 hts gL_law_X10_differs rfl rfl rfl (by decide +kernel) ⟨Nat.le_of_ble_eq_true rfl, Nat.le_of_ble_eq_true rfl⟩) (yPreV hK (va_P_left hP) (va_D_left hD) (ci := 10) (q0 := 0) rfl rfl) rfl rfl hl.1 rfl (lv_room (Nat.le_of_ble_eq_true rfl)) dL_law_785 ⟨by show _ ≤ 600000; omega, by show _ ≤ 7302250; omega⟩) hP hD hS hA (fun r785 uu H locs hw hP hD hS => ?_)
      obtain ⟨x0, x1, x2, x3, x4, x5, x6, x7, x8, x9, y0, y1, y2, y3, y4, y5, y6⟩ := hw
      obtain ⟨ux, ex⟩ : ∃ ux : yU, ux = uu := ⟨_, rfl⟩
      obtain ⟨w, ew⟩ : ∃ w : KS, w = ((q.1, ((fun j => uu.1 (43 + j)), (fun j => uu.2 (26 + j)))) : KS) := ⟨_, rfl⟩
      have hXO : XOK ux := by rw [ex]; exact ⟨x0, x1, x2, x3, x4, x5, x6, x7, x8, x9⟩
      have hKO2 : KOK w.2 := by rw [ew]; exact ⟨y0, y1, y2, y3, y4, y5, y6⟩
      have hP : va_P (dC, dI) vwCl ((XW cyI cyZ cyO ax ux (kpf t) ++ KW cyI w.1 w.2) ++ (MW cyI cyZ am um ++ KTr cyI v784.toNatClampNeg t)) H := by rw [ex, ew]; exact hP
      have hD : va_D A ((XW cyI cyZ cyO ax ux (kpf t) ++ KW cyI w.1 w.2) ++ (MW cyI cyZ am um ++ KTr cyI v784.toNatClampNeg t)) := by rw [ex, ew]; exact hD
      have eT : ((XW cyI cyZ cyO ax ux (kpf t) ++ KW cyI w.1 w.2) ++ (MW cyI cyZ am um ++ KTr cyI v784.toNatClampNeg t)) = ((XW cyI cyZ cyO ax ux (kpf (tup t v784.toNatClampNeg w)) ++ KB cyI (tup t v784.toNatClampNeg w v784.toNatClampNeg)) ++ (MW cyI cyZ am um ++ KTr cyI v784.toNatClampNeg (tup t v784.toNatClampNeg w))) := by rw [tup_k, KTr_tup hkn, kpf_S ht (by rw [ew])]; rfl
      rw [eT] at hP hD
      have hP := va_P_perm hP (kperm hkn _ _ _).symm
      have hD := va_D_perm hD (kperm hkn _ _ _).symm
      have hTO := TOK_tup (k := v784.toNatClampNeg) hTO hKO2
      generalize tup t v784.toNatClampNeg w = t at hP hD hTO
      refine lv_pop hx hb dL_law_788 rfl ?_
      refine lv_aload_n hx hb dL_law_789 rfl (lv_at hl 1 rfl) ?_
      refine lv_aload_n hx hb dL_law_790 rfl (lv_at hl 3 rfl) ?_
      refine lv_iload_n hx hb dL_law_791 rfl (lv_at hl 0 rfl) ?_
      refine lv_iconst (v := 1) hx hb dL_law_792 (by decide) ?_
      refine lv_iadd hx hb dL_law_793 ?_
      refine yy_int (v := nI (j + 1)) (ynj (by decide)) ?_
      refine va_sld hx hb hX hbl hbA hS (vp_in_nI (by omega) (by omega)) dL_law_794 ?_
      refine lv_topi (fun v794 ev794 => ?_)
      have hP := yrotP hP
      have hD := yrotD hD
      refine yy_calliL (va_runV (As := [.int v794]) (rest := []) ⟨hx, hb, hml, hown, hts⟩ (p_differs l dC dI cyI cyZ cyO H.size (am 0) (um.1 0) (um.1 1) (um.1 2) (um.1 3) (um.1 4) (um.1 5) (um.1 6) (um.1 7) (am 1) (um.2 0) (am 2) (um.2 1) (am 3) (um.2 2) (am 4) (um.2 3) (am 5) (um.2 4) (am 6) (um.2 5) (am 7) (um.2 6) (am 8) (um.2 7) (am 9) (um.2 8) (am 10) (um.2 9) (am 11) (um.2 10) (am 12) (um.2 11) (am 13) (um.2 12) (am 14) (um.2 13) (am 15) (um.2 14) (am 16) (um.2 15) v794 n hMO.1 hMO.2.1 hMO.2.2.1 hMO.2.2.2.1 hMO.2.2.2.2.1 hn hn0 hMO.2.2.2.2.2) (cwV 1 hts gL_law_X11_differs rfl rfl rfl (by decide +kernel) ⟨Nat.le_of_ble_eq_true rfl, Nat.le_of_ble_eq_true rfl⟩) (yPreV hK (va_P_left hP) (va_D_left hD) (ci := 11) (q0 := 0) rfl rfl) rfl rfl hl.1 rfl (lv_room (Nat.le_of_ble_eq_true rfl)) dL_law_795 ⟨by show _ ≤ 600000; omega, by show _ ≤ 7302250; omega⟩) hP hD hS hA (fun r795 um H locs hw hP hD hS => ?_)
      have hMO : MOK (n + 32000) um := hw
      have hP : va_P (dC, dI) vwCl (MW cyI cyZ am um ++ (XW cyI cyZ cyO ax ux (kpf t) ++ KT cyI t)) H := hP
      have hD : va_D A (MW cyI cyZ am um ++ (XW cyI cyZ cyO ax ux (kpf t) ++ KT cyI t)) := hD
      have hP := yrotP hP
      have hD := yrotD hD
      refine lv_pop hx hb dL_law_798 rfl ?_
      refine lv_goto (tgt := 838) hx hb dL_law_799 (by decide) ?_
      refine W.widen (k := k0 + 26) (n := s0 + 2545) (by omega) (by omega) ?_
      exact fin _ _ _ _ _ _ hXO hMO hTO hP hD hS hl
  · refine yy_calliL (va_runV (As := [.int v784]) (rest := []) ⟨hx, hb, hml, hown, hts⟩ (g_differsR l dC dI cyI cyZ cyO H.size (ax 0) (ux.1 0) (ax 1) (ux.1 1) (ux.1 2) (ux.1 3) (ux.1 4) (ux.1 5) (ax 2) (ux.2 0) (ax 3) (ux.2 1) (ax 4) (ux.2 2) (ax 5) (ux.2 3) (ax 6) (ux.2 4) (ax 7) (ux.2 5) (ax 8) (ux.2 6) (ax 9) (ux.2 7) (ax 10) (ux.1 6) (ax 11) (ax 12) (ux.2 8) (ax 13) (ux.2 9) (ax 14) (ux.2 10) (ax 15) (ux.2 11) (ax 16) (ux.2 12) (ax 17) (ux.2 13) (ax 18) (ux.1 7) (ax 19) (ux.2 14) (ax 20) (ux.2 15) (ax 21) (ux.1 8) (ux.1 9) (ux.1 10) (ux.1 11) (ux.1 12) (ux.1 13) (ax 22) (ux.1 14) (ax 23) (ux.2 16) (ax 24) (ux.1 15) (ux.1 16) (ux.1 17) (ux.1 18) (ux.1 19) (ux.1 20) (ax 25) (ux.1 21) (ux.1 22) (ux.1 23) (ux.1 24) (ux.1 25) (ux.1 26) (ux.1 27) (ux.1 28) (ux.1 29) (ux.1 30) (ux.1 31) (ux.1 32) (ux.1 33) (ax 26) (ux.1 34) (ax 27) (ux.2 17) (ax 28) (ux.2 18) (ax 29) (ux.2 19) (ax 30) (ux.1 35) (ux.1 36) (ux.1 37) (ax 31) (ux.2 20) (ax 32) (ux.1 38) (ux.1 39) (ux.1 40) (ax 33) (ux.2 21) (ax 34) (ux.1 41) (ax 35) (ux.2 22) (ax 36) (ux.2 23) (ax 37) (ux.1 42) (ax 38) (ux.2 24) (ax 39) (ux.2 25) (ax 40) (kpf t) v784 hXO.1 hXO.2.1 hXO.2.2.1 hXO.2.2.2.1 hXO.2.2.2.2.1 hXO.2.2.2.2.2.1 hXO.2.2.2.2.2.2.1 hXO.2.2.2.2.2.2.2.1 hXO.2.2.2.2.2.2.2.2.1 hXO.2.2.2.2.2.2.2.2.2 hk) (cwV 1 hts gL_law_X10_differs rfl rfl rfl (by decide +kernel) ⟨Nat.le_of_ble_eq_true rfl, Nat.le_of_ble_eq_true rfl⟩) (yPreV hK (va_P_left hP) (va_D_left hD) (ci := 10) (q0 := 0) rfl rfl) rfl rfl hl.1 rfl (lv_room (Nat.le_of_ble_eq_true rfl)) dL_law_785 ⟨by show _ ≤ 600000; omega, by show _ ≤ 7302250; omega⟩) hP hD hS hA (fun r785 ux H locs hw hP hD hS => ?_)
    have hXO : XOK ux := hw
    have hP : va_P (dC, dI) vwCl (XW cyI cyZ cyO ax ux (kpf t) ++ (MW cyI cyZ am um ++ KT cyI t)) H := hP
    have hD : va_D A (XW cyI cyZ cyO ax ux (kpf t) ++ (MW cyI cyZ am um ++ KT cyI t)) := hD
    refine lv_pop hx hb dL_law_788 rfl ?_
    refine lv_aload_n hx hb dL_law_789 rfl (lv_at hl 1 rfl) ?_
    refine lv_aload_n hx hb dL_law_790 rfl (lv_at hl 3 rfl) ?_
    refine lv_iload_n hx hb dL_law_791 rfl (lv_at hl 0 rfl) ?_
    refine lv_iconst (v := 1) hx hb dL_law_792 (by decide) ?_
    refine lv_iadd hx hb dL_law_793 ?_
    refine yy_int (v := nI (j + 1)) (ynj (by decide)) ?_
    refine va_sld hx hb hX hbl hbA hS (vp_in_nI (by omega) (by omega)) dL_law_794 ?_
    refine lv_topi (fun v794 ev794 => ?_)
    have hP := yrotP hP
    have hD := yrotD hD
    refine yy_calliL (va_runV (As := [.int v794]) (rest := []) ⟨hx, hb, hml, hown, hts⟩ (p_differs l dC dI cyI cyZ cyO H.size (am 0) (um.1 0) (um.1 1) (um.1 2) (um.1 3) (um.1 4) (um.1 5) (um.1 6) (um.1 7) (am 1) (um.2 0) (am 2) (um.2 1) (am 3) (um.2 2) (am 4) (um.2 3) (am 5) (um.2 4) (am 6) (um.2 5) (am 7) (um.2 6) (am 8) (um.2 7) (am 9) (um.2 8) (am 10) (um.2 9) (am 11) (um.2 10) (am 12) (um.2 11) (am 13) (um.2 12) (am 14) (um.2 13) (am 15) (um.2 14) (am 16) (um.2 15) v794 n hMO.1 hMO.2.1 hMO.2.2.1 hMO.2.2.2.1 hMO.2.2.2.2.1 hn hn0 hMO.2.2.2.2.2) (cwV 1 hts gL_law_X11_differs rfl rfl rfl (by decide +kernel) ⟨Nat.le_of_ble_eq_true rfl, Nat.le_of_ble_eq_true rfl⟩) (yPreV hK (va_P_left hP) (va_D_left hD) (ci := 11) (q0 := 0) rfl rfl) rfl rfl hl.1 rfl (lv_room (Nat.le_of_ble_eq_true rfl)) dL_law_795 ⟨by show _ ≤ 600000; omega, by show _ ≤ 7302250; omega⟩) hP hD hS hA (fun r795 um H locs hw hP hD hS => ?_)
    have hMO : MOK (n + 32000) um := hw
    have hP : va_P (dC, dI) vwCl (MW cyI cyZ am um ++ (XW cyI cyZ cyO ax ux (kpf t) ++ KT cyI t)) H := hP
    have hD : va_D A (MW cyI cyZ am um ++ (XW cyI cyZ cyO ax ux (kpf t) ++ KT cyI t)) := hD
    have hP := yrotP hP
    have hD := yrotD hD
    refine lv_pop hx hb dL_law_798 rfl ?_
    refine lv_goto (tgt := 838) hx hb dL_law_799 (by decide) ?_
    refine W.widen (k := k0 + 26) (n := s0 + 2545) (by omega) (by omega) ?_
    exact fin _ _ _ _ _ _ hXO hMO hTO hP hD hS hl
set_option maxHeartbeats 4000000 in
set_option maxRecDepth 100000 in
/-- the law: told -/
theorem law_told {p : Program} {e : Env} {s : State} {m : MethodId} {below : List Frame} {meth : Method} {c : Code} (l : Launch) {b L : Nat} {xs : Nat → Int32} (hL : L ≤ 3072) (C0 : lw_At p s m meth c b L xs) {dC : Nat → ClassId} {dI : Nat → Nat → Nat} {cyI cyZ cyO : ClassId} {A : Nat → Prop} (hA : ∀ q : Nat, s.heap.size ≤ q → A q) (hbA : ¬ A b) (hN : yN s) (hK : va_K (dC, dI) vwCl (yT cyI cyZ cyO) s) (ax am : Nat → Nat) (j : Nat) (hj : j + 6 ≤ L) (n : Int) (hn0 : 0 ≤ n) (hn : n ≤ 1400000000) (k0 s0 : Nat) (hk0 : k0 + 26 ≤ 600000) (hs0 : s0 + 2545 ≤ 7302250) (ux um : yU) (t : Nat → Option KS) {H : Heap} {locs : List Loc} (hXO : XOK ux) (hMO : MOK n um) (hTO : TOK t) (hP : va_P (dC, dI) vwCl (XW cyI cyZ cyO ax ux (kpf t) ++ (MW cyI cyZ am um ++ KT cyI t)) H) (hD : va_D A (XW cyI cyZ cyO ax ux (kpf t) ++ (MW cyI cyZ am um ++ KT cyI t))) (hS : va_S A s.heap H locs) {ls : Array Slot} (hl : lv_has ls 4 [(3, .int (nI j)), (2, .ref (am 0)), (1, .ref (ax 0)), (0, .ref b)]) (fin : ∀ (ux um : yU) (t : Nat → Option KS) (H : Heap) (locs : List Loc) (ls : Array Slot), XOK ux → MOK (n + 32000) um → TOK t → va_P (dC, dI) vwCl (XW cyI cyZ cyO ax ux (kpf t) ++ (MW cyI cyZ am um ++ KT cyI t)) H → va_D A (XW cyI cyZ cyO ax ux (kpf t) ++ (MW cyI cyZ am um ++ KT cyI t)) → va_S A s.heap H locs → lv_has ls 4 [(3, .int (nI j)), (2, .ref (am 0)), (1, .ref (ax 0)), (0, .ref b)] → W p l e room_1 s m #[Value.ref b] below meth c H locs (k0 + 26) (s0 + 2545) (lw_Z below #[Value.ref b] s) (F0 m 838 ls [])) : W p l e room_1 s m #[Value.ref b] below meth c H locs k0 s0 (lw_Z below #[Value.ref b] s) (F0 m 802 ls []) := by
  obtain ⟨hx, hb, hr, hml, hown0, hts0, hX, hbl, hlk, hgv⟩ := C0
  have hown : s.vm.findClass RL = some m.cls := hown0
  have hts : ∀ w ∈ wsL_law, w.before #[Value.ref b] s = true := fun w h => hts0 w (wsL_law_in w h)
  refine lv_aload_n hx hb dL_law_802 rfl (lv_at hl 2 rfl) ?_
  refine lv_aload_n hx hb dL_law_803 rfl (lv_at hl 3 rfl) ?_
  refine lv_iload_n hx hb dL_law_804 rfl (lv_at hl 0 rfl) ?_
  refine lv_iconst (v := 1) hx hb dL_law_805 (by decide) ?_
  refine lv_iadd hx hb dL_law_806 ?_
  refine yy_int (v := nI (j + 1)) (ynj (by decide)) ?_
  refine va_sld hx hb hX hbl hbA hS (vp_in_nI (by omega) (by omega)) dL_law_807 ?_
  refine lv_topi (fun v807 ev807 => ?_)
  refine yy_calliL (va_runV (As := [.int v807]) (rest := []) ⟨hx, hb, hml, hown, hts⟩ (g_told l dC dI cyI cyZ cyO H.size (ax 0) (ux.1 0) (ax 1) (ux.1 1) (ux.1 2) (ux.1 3) (ux.1 4) (ux.1 5) (ax 2) (ux.2 0) (ax 3) (ux.2 1) (ax 4) (ux.2 2) (ax 5) (ux.2 3) (ax 6) (ux.2 4) (ax 7) (ux.2 5) (ax 8) (ux.2 6) (ax 9) (ux.2 7) (ax 10) (ux.1 6) (ax 11) (ax 12) (ux.2 8) (ax 13) (ux.2 9) (ax 14) (ux.2 10) (ax 15) (ux.2 11) (ax 16) (ux.2 12) (ax 17) (ux.2 13) (ax 18) (ux.1 7) (ax 19) (ux.2 14) (ax 20) (ux.2 15) (ax 21) (ux.1 8) (ux.1 9) (ux.1 10) (ux.1 11) (ux.1 12) (ux.1 13) (ax 22) (ux.1 14) (ax 23) (ux.2 16) (ax 24) (ux.1 15) (ux.1 16) (ux.1 17) (ux.1 18) (ux.1 19) (ux.1 20) (ax 25) (ux.1 21) (ux.1 22) (ux.1 23) (ux.1 24) (ux.1 25) (ux.1 26) (ux.1 27) (ux.1 28) (ux.1 29) (ux.1 30) (ux.1 31) (ux.1 32) (ux.1 33) (ax 26) (ux.1 34) (ax 27) (ux.2 17) (ax 28) (ux.2 18) (ax 29) (ux.2 19) (ax 30) (ux.1 35) (ux.1 36) (ux.1 37) (ax 31) (ux.2 20) (ax 32) (ux.1 38) (ux.1 39) (ux.1 40) (ax 33) (ux.2 21) (ax 34) (ux.1 41) (ax 35) (ux.2 22) (ax 36) (ux.2 23) (ax 37) (ux.1 42) (ax 38) (ux.2 24) (ax 39) (ux.2 25) (ax 40) (kpf t) v807 hXO.1 hXO.2.1 hXO.2.2.1 hXO.2.2.2.1 hXO.2.2.2.2.1 hXO.2.2.2.2.2.1 hXO.2.2.2.2.2.2.1 hXO.2.2.2.2.2.2.2.1 hXO.2.2.2.2.2.2.2.2.1 hXO.2.2.2.2.2.2.2.2.2) (cwV 1 hts gL_law_X10_told rfl rfl rfl (by decide +kernel) ⟨Nat.le_of_ble_eq_true rfl, Nat.le_of_ble_eq_true rfl⟩) (yPreV hK (va_P_left hP) (va_D_left hD) (ci := 10) (q0 := 0) rfl rfl) rfl rfl hl.1 rfl (lv_room (Nat.le_of_ble_eq_true rfl)) dL_law_808 ⟨by show _ ≤ 600000; omega, by show _ ≤ 7302250; omega⟩) hP hD hS hA (fun r808 ux H locs hw hP hD hS => ?_)
  have hXO : XOK ux := hw
  have hP : va_P (dC, dI) vwCl (XW cyI cyZ cyO ax ux (kpf t) ++ (MW cyI cyZ am um ++ KT cyI t)) H := hP
  have hD : va_D A (XW cyI cyZ cyO ax ux (kpf t) ++ (MW cyI cyZ am um ++ KT cyI t)) := hD
  refine lv_pop hx hb dL_law_811 rfl ?_
  refine lv_aload_n hx hb dL_law_812 rfl (lv_at hl 1 rfl) ?_
  refine lv_aload_n hx hb dL_law_813 rfl (lv_at hl 3 rfl) ?_
  refine lv_iload_n hx hb dL_law_814 rfl (lv_at hl 0 rfl) ?_
  refine lv_iconst (v := 1) hx hb dL_law_815 (by decide) ?_
  refine lv_iadd hx hb dL_law_816 ?_
  refine yy_int (v := nI (j + 1)) (ynj (by decide)) ?_
  refine va_sld hx hb hX hbl hbA hS (vp_in_nI (by omega) (by omega)) dL_law_817 ?_
  refine lv_topi (fun v817 ev817 => ?_)
  have hP := yrotP hP
  have hD := yrotD hD
  refine yy_calliL (va_runV (As := [.int v817]) (rest := []) ⟨hx, hb, hml, hown, hts⟩ (p_told l dC dI cyI cyZ cyO H.size (am 0) (um.1 0) (um.1 1) (um.1 2) (um.1 3) (um.1 4) (um.1 5) (um.1 6) (um.1 7) (am 1) (um.2 0) (am 2) (um.2 1) (am 3) (um.2 2) (am 4) (um.2 3) (am 5) (um.2 4) (am 6) (um.2 5) (am 7) (um.2 6) (am 8) (um.2 7) (am 9) (um.2 8) (am 10) (um.2 9) (am 11) (um.2 10) (am 12) (um.2 11) (am 13) (um.2 12) (am 14) (um.2 13) (am 15) (um.2 14) (am 16) (um.2 15) v817 n hMO.1 hMO.2.1 hMO.2.2.1 hMO.2.2.2.1 hMO.2.2.2.2.1 hn hn0 hMO.2.2.2.2.2) (cwV 1 hts gL_law_X11_told rfl rfl rfl (by decide +kernel) ⟨Nat.le_of_ble_eq_true rfl, Nat.le_of_ble_eq_true rfl⟩) (yPreV hK (va_P_left hP) (va_D_left hD) (ci := 11) (q0 := 0) rfl rfl) rfl rfl hl.1 rfl (lv_room (Nat.le_of_ble_eq_true rfl)) dL_law_818 ⟨by show _ ≤ 600000; omega, by show _ ≤ 7302250; omega⟩) hP hD hS hA (fun r818 um H locs hw hP hD hS => ?_)
  have hMO : MOK (n + 32000) um := hw
  have hP : va_P (dC, dI) vwCl (MW cyI cyZ am um ++ (XW cyI cyZ cyO ax ux (kpf t) ++ KT cyI t)) H := hP
  have hD : va_D A (MW cyI cyZ am um ++ (XW cyI cyZ cyO ax ux (kpf t) ++ KT cyI t)) := hD
  have hP := yrotP hP
  have hD := yrotD hD
  refine lv_pop hx hb dL_law_821 rfl ?_
  refine lv_goto (tgt := 838) hx hb dL_law_822 (by decide) ?_
  refine W.widen (k := k0 + 26) (n := s0 + 2545) (by omega) (by omega) ?_
  exact fin _ _ _ _ _ _ hXO hMO hTO hP hD hS hl
set_option maxHeartbeats 4000000 in
set_option maxRecDepth 100000 in
/-- the law: status -/
theorem law_status {p : Program} {e : Env} {s : State} {m : MethodId} {below : List Frame} {meth : Method} {c : Code} (l : Launch) {b L : Nat} {xs : Nat → Int32} (hL : L ≤ 3072) (C0 : lw_At p s m meth c b L xs) {dC : Nat → ClassId} {dI : Nat → Nat → Nat} {cyI cyZ cyO : ClassId} {A : Nat → Prop} (hA : ∀ q : Nat, s.heap.size ≤ q → A q) (hbA : ¬ A b) (hN : yN s) (hK : va_K (dC, dI) vwCl (yT cyI cyZ cyO) s) (ax am : Nat → Nat) (j : Nat) (hj : j + 6 ≤ L) (n : Int) (hn0 : 0 ≤ n) (hn : n ≤ 1400000000) (k0 s0 : Nat) (hk0 : k0 + 26 ≤ 600000) (hs0 : s0 + 2545 ≤ 7302250) (ux um : yU) (t : Nat → Option KS) {H : Heap} {locs : List Loc} (hXO : XOK ux) (hMO : MOK n um) (hTO : TOK t) (hP : va_P (dC, dI) vwCl (XW cyI cyZ cyO ax ux (kpf t) ++ (MW cyI cyZ am um ++ KT cyI t)) H) (hD : va_D A (XW cyI cyZ cyO ax ux (kpf t) ++ (MW cyI cyZ am um ++ KT cyI t))) (hS : va_S A s.heap H locs) {ls : Array Slot} (hl : lv_has ls 4 [(3, .int (nI j)), (2, .ref (am 0)), (1, .ref (ax 0)), (0, .ref b)]) (fin : ∀ (ux um : yU) (t : Nat → Option KS) (H : Heap) (locs : List Loc) (ls : Array Slot), XOK ux → MOK (n + 32000) um → TOK t → va_P (dC, dI) vwCl (XW cyI cyZ cyO ax ux (kpf t) ++ (MW cyI cyZ am um ++ KT cyI t)) H → va_D A (XW cyI cyZ cyO ax ux (kpf t) ++ (MW cyI cyZ am um ++ KT cyI t)) → va_S A s.heap H locs → lv_has ls 4 [(3, .int (nI j)), (2, .ref (am 0)), (1, .ref (ax 0)), (0, .ref b)] → W p l e room_1 s m #[Value.ref b] below meth c H locs (k0 + 26) (s0 + 2545) (lw_Z below #[Value.ref b] s) (F0 m 838 ls [])) : W p l e room_1 s m #[Value.ref b] below meth c H locs k0 s0 (lw_Z below #[Value.ref b] s) (F0 m 825 ls []) := by
  obtain ⟨hx, hb, hr, hml, hown0, hts0, hX, hbl, hlk, hgv⟩ := C0
  have hown : s.vm.findClass RL = some m.cls := hown0
  have hts : ∀ w ∈ wsL_law, w.before #[Value.ref b] s = true := fun w h => hts0 w (wsL_law_in w h)
  refine lv_aload_n hx hb dL_law_825 rfl (lv_at hl 2 rfl) ?_
  refine yy_calliL (va_runV (As := []) (rest := []) ⟨hx, hb, hml, hown, hts⟩ (g_status l dC dI cyI cyZ cyO H.size (ax 0) (ux.1 0) (ax 1) (ux.1 1) (ux.1 2) (ux.1 3) (ux.1 4) (ux.1 5) (ax 2) (ux.2 0) (ax 3) (ux.2 1) (ax 4) (ux.2 2) (ax 5) (ux.2 3) (ax 6) (ux.2 4) (ax 7) (ux.2 5) (ax 8) (ux.2 6) (ax 9) (ux.2 7) (ax 10) (ux.1 6) (ax 11) (ax 12) (ux.2 8) (ax 13) (ux.2 9) (ax 14) (ux.2 10) (ax 15) (ux.2 11) (ax 16) (ux.2 12) (ax 17) (ux.2 13) (ax 18) (ux.1 7) (ax 19) (ux.2 14) (ax 20) (ux.2 15) (ax 21) (ux.1 8) (ux.1 9) (ux.1 10) (ux.1 11) (ux.1 12) (ux.1 13) (ax 22) (ux.1 14) (ax 23) (ux.2 16) (ax 24) (ux.1 15) (ux.1 16) (ux.1 17) (ux.1 18) (ux.1 19) (ux.1 20) (ax 25) (ux.1 21) (ux.1 22) (ux.1 23) (ux.1 24) (ux.1 25) (ux.1 26) (ux.1 27) (ux.1 28) (ux.1 29) (ux.1 30) (ux.1 31) (ux.1 32) (ux.1 33) (ax 26) (ux.1 34) (ax 27) (ux.2 17) (ax 28) (ux.2 18) (ax 29) (ux.2 19) (ax 30) (ux.1 35) (ux.1 36) (ux.1 37) (ax 31) (ux.2 20) (ax 32) (ux.1 38) (ux.1 39) (ux.1 40) (ax 33) (ux.2 21) (ax 34) (ux.1 41) (ax 35) (ux.2 22) (ax 36) (ux.2 23) (ax 37) (ux.1 42) (ax 38) (ux.2 24) (ax 39) (ux.2 25) (ax 40) (kpf t) hXO.1 hXO.2.1 hXO.2.2.1 hXO.2.2.2.1 hXO.2.2.2.2.1 hXO.2.2.2.2.2.1 hXO.2.2.2.2.2.2.1 hXO.2.2.2.2.2.2.2.1 hXO.2.2.2.2.2.2.2.2.1 hXO.2.2.2.2.2.2.2.2.2) (cwV 0 hts gL_law_X10_status rfl rfl rfl (by decide +kernel) ⟨Nat.le_of_ble_eq_true rfl, Nat.le_of_ble_eq_true rfl⟩) (yPreV hK (va_P_left hP) (va_D_left hD) (ci := 10) (q0 := 0) rfl rfl) rfl rfl hl.1 rfl (lv_room (Nat.le_of_ble_eq_true rfl)) dL_law_826 ⟨by show _ ≤ 600000; omega, by show _ ≤ 7302250; omega⟩) hP hD hS hA (fun r826 ux H locs hw hP hD hS => ?_)
  have hXO : XOK ux := hw
  have hP : va_P (dC, dI) vwCl (XW cyI cyZ cyO ax ux (kpf t) ++ (MW cyI cyZ am um ++ KT cyI t)) H := hP
  have hD : va_D A (XW cyI cyZ cyO ax ux (kpf t) ++ (MW cyI cyZ am um ++ KT cyI t)) := hD
  refine lv_pop hx hb dL_law_829 rfl ?_
  refine lv_aload_n hx hb dL_law_830 rfl (lv_at hl 1 rfl) ?_
  have hP := yrotP hP
  have hD := yrotD hD
  refine yy_calliL (va_runV (As := []) (rest := []) ⟨hx, hb, hml, hown, hts⟩ (p_status l dC dI cyI cyZ cyO H.size (am 0) (um.1 0) (um.1 1) (um.1 2) (um.1 3) (um.1 4) (um.1 5) (um.1 6) (um.1 7) (am 1) (um.2 0) (am 2) (um.2 1) (am 3) (um.2 2) (am 4) (um.2 3) (am 5) (um.2 4) (am 6) (um.2 5) (am 7) (um.2 6) (am 8) (um.2 7) (am 9) (um.2 8) (am 10) (um.2 9) (am 11) (um.2 10) (am 12) (um.2 11) (am 13) (um.2 12) (am 14) (um.2 13) (am 15) (um.2 14) (am 16) (um.2 15) n hMO.1 hMO.2.1 hMO.2.2.1 hMO.2.2.2.1 hMO.2.2.2.2.1 hn hn0 hMO.2.2.2.2.2) (cwV 0 hts gL_law_X11_status rfl rfl rfl (by decide +kernel) ⟨Nat.le_of_ble_eq_true rfl, Nat.le_of_ble_eq_true rfl⟩) (yPreV hK (va_P_left hP) (va_D_left hD) (ci := 11) (q0 := 0) rfl rfl) rfl rfl hl.1 rfl (lv_room (Nat.le_of_ble_eq_true rfl)) dL_law_831 ⟨by show _ ≤ 600000; omega, by show _ ≤ 7302250; omega⟩) hP hD hS hA (fun r831 um H locs hw hP hD hS => ?_)
  have hMO : MOK (n + 32000) um := hw
  have hP : va_P (dC, dI) vwCl (MW cyI cyZ am um ++ (XW cyI cyZ cyO ax ux (kpf t) ++ KT cyI t)) H := hP
  have hD : va_D A (MW cyI cyZ am um ++ (XW cyI cyZ cyO ax ux (kpf t) ++ KT cyI t)) := hD
  have hP := yrotP hP
  have hD := yrotD hD
  refine lv_pop hx hb dL_law_834 rfl ?_
  refine lv_goto (tgt := 838) hx hb dL_law_835 (by decide) ?_
  refine W.widen (k := k0 + 26) (n := s0 + 2545) (by omega) (by omega) ?_
  exact fin _ _ _ _ _ _ hXO hMO hTO hP hD hS hl
