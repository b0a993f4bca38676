abbrev isW (w : Int32) : Prop := 0 ≤ w ∧ w ≤ 65532 ∧ w - w / 4 * 4 = 0
/-- a truth as an int -/
abbrev zB (b : Prop) [Decidable b] : Int32 := if b then 1 else 0
theorem zB0 {b : Prop} [Decidable b] : (zB b = 0) ↔ ¬ b := by unfold zB; by_cases h : b <;> simp [h]
theorem zBn {b : Prop} [Decidable b] : narrow .boolean (.int (zB b)) = .int (zB b) := by unfold zB; by_cases h : b <;> simp [h] <;> rfl
set_option maxHeartbeats 4000000 in
set_option maxRecDepth 100000 in
theorem k_isWord (l : Launch) (dC : Nat → ClassId) (dI : Nat → Nat → Nat) (cyI cyZ cyO : ClassId) (sz : Nat) (w : Int32)  : Met l yX6_isWord wsX6_isWord ({ frames := 0, cells := 0, slots := 0, locals := 0 }) (yPre [.int w] (dC, dI) [] (yT cyI cyZ cyO) sz) (yQi (fun (r : Int32) (u : Unit) => r = (zB (isW w))) (dC, dI) [] (yT cyI cyZ cyO) sz (fun _ => [])) 0 0 (va_A [] sz) := by
  refine yMet (cc := cX6_isWord) (maxL := 1) (ret := (some .boolean)) (by decide) rfl (Nat.le_of_ble_eq_true rfl) ?_
  intro p e s m below meth c A hx hb hr hlk hml hts hown hnm hsz hAe hP hK hD hA hS ls hl
  have hl : lv_has ls 1 [(0, .int w)] := hl
  have hk41 := hts (.constant RX6 41 65532) (by decide +kernel)
  refine lv_iload_n hx hb dX6_isWord_0 rfl (lv_at hl 0 rfl) ?_
  refine lv_if_lt (tgt := 20) hx hb dX6_isWord_1 (by decide) (fun c1 => ?_) (fun c1 => ?_)
  · refine lv_iconst (v := 0) hx hb dX6_isWord_20 (by decide) ?_
    refine W.widen (k := 0) (n := 0) (Nat.le_of_ble_eq_true rfl) (Nat.le_of_ble_eq_true rfl) ?_
    exact yy_iret (v := 0) () hx hb hr hlk rfl hsz hAe hK hP hD hS [] rfl rfl (by decide) (by (try simp only [zB0, Decidable.not_not] at c1); (try simp only [isW, zB, ← Int32.not_lt] at c1 ⊢); (try simp only [Decidable.not_not] at c1 ⊢); simp only [c1, not_true_eq_false, not_false_eq_true, false_and, and_false, true_and, and_true, and_self, or_true, true_or, or_false, false_or, or_self, ↓reduceIte]) dX6_isWord_21
  · refine lv_iload_n hx hb dX6_isWord_4 rfl (lv_at hl 0 rfl) ?_
    refine lv_ldc hx hb hown hk41 dX6_isWord_5 ?_
    refine lv_icmp_gt (tgt := 20) hx hb dX6_isWord_7 (by decide) (fun c7 => ?_) (fun c7 => ?_)
    · refine lv_iconst (v := 0) hx hb dX6_isWord_20 (by decide) ?_
      refine W.widen (k := 0) (n := 0) (Nat.le_of_ble_eq_true rfl) (Nat.le_of_ble_eq_true rfl) ?_
      exact yy_iret (v := 0) () hx hb hr hlk rfl hsz hAe hK hP hD hS [] rfl rfl (by decide) (by (try simp only [zB0, Decidable.not_not] at c1 c7); (try simp only [isW, zB, ← Int32.not_lt] at c1 c7 ⊢); (try simp only [Decidable.not_not] at c1 c7 ⊢); simp only [c1, c7, not_true_eq_false, not_false_eq_true, false_and, and_false, true_and, and_true, and_self, or_true, true_or, or_false, false_or, or_self, ↓reduceIte]) dX6_isWord_21
    · refine lv_iload_n hx hb dX6_isWord_10 rfl (lv_at hl 0 rfl) ?_
      refine lv_iconst (v := 4) hx hb dX6_isWord_11 (by decide) ?_
      refine lv_irem hx hb dX6_isWord_12 (by decide) ?_
      refine lv_if_ne (tgt := 20) hx hb dX6_isWord_13 (by decide) (fun c13 => ?_) (fun c13 => ?_)
      · refine lv_iconst (v := 0) hx hb dX6_isWord_20 (by decide) ?_
        refine W.widen (k := 0) (n := 0) (Nat.le_of_ble_eq_true rfl) (Nat.le_of_ble_eq_true rfl) ?_
        exact yy_iret (v := 0) () hx hb hr hlk rfl hsz hAe hK hP hD hS [] rfl rfl (by decide) (by (try simp only [zB0, Decidable.not_not] at c1 c7 c13); (try simp only [isW, zB, ← Int32.not_lt] at c1 c7 c13 ⊢); (try simp only [Decidable.not_not] at c1 c7 c13 ⊢); simp only [c1, c7, c13, not_true_eq_false, not_false_eq_true, false_and, and_false, true_and, and_true, and_self, or_true, true_or, or_false, false_or, or_self, ↓reduceIte]) dX6_isWord_21
      · refine lv_iconst (v := 1) hx hb dX6_isWord_16 (by decide) ?_
        refine lv_goto (tgt := 21) hx hb dX6_isWord_17 (by decide) ?_
        refine W.widen (k := 0) (n := 0) (Nat.le_of_ble_eq_true rfl) (Nat.le_of_ble_eq_true rfl) ?_
        exact yy_iret (v := 1) () hx hb hr hlk rfl hsz hAe hK hP hD hS [] rfl rfl (by decide) (by (try simp only [zB0, Decidable.not_not] at c1 c7 c13); (try simp only [isW, zB, ← Int32.not_lt] at c1 c7 c13 ⊢); (try simp only [Decidable.not_not] at c1 c7 c13 ⊢); simp only [c1, c7, c13, not_true_eq_false, not_false_eq_true, false_and, and_false, true_and, and_true, and_self, or_true, true_or, or_false, false_or, or_self, ↓reduceIte]) dX6_isWord_21
set_option maxHeartbeats 4000000 in
set_option maxRecDepth 100000 in
theorem k_isGuardValue (l : Launch) (dC : Nat → ClassId) (dI : Nat → Nat → Nat) (cyI cyZ cyO : ClassId) (sz : Nat) (w : Int32)  : Met l yX6_isGuardValue wsX6_isGuardValue ({ frames := 0, cells := 0, slots := 0, locals := 0 }) (yPre [.int w] (dC, dI) [] (yT cyI cyZ cyO) sz) (yQi (fun (r : Int32) (u : Unit) => r = (zB (w = 0 ∨ w = 1))) (dC, dI) [] (yT cyI cyZ cyO) sz (fun _ => [])) 0 0 (va_A [] sz) := by
  refine yMet (cc := cX6_isGuardValue) (maxL := 1) (ret := (some .boolean)) (by decide) rfl (Nat.le_of_ble_eq_true rfl) ?_
  intro p e s m below meth c A hx hb hr hlk hml hts hown hnm hsz hAe hP hK hD hA hS ls hl
  have hl : lv_has ls 1 [(0, .int w)] := hl
  refine lv_iload_n hx hb dX6_isGuardValue_0 rfl (lv_at hl 0 rfl) ?_
  refine lv_if_eq (tgt := 9) hx hb dX6_isGuardValue_1 (by decide) (fun c1 => ?_) (fun c1 => ?_)
  · refine lv_iconst (v := 1) hx hb dX6_isGuardValue_9 (by decide) ?_
    refine lv_goto (tgt := 14) hx hb dX6_isGuardValue_10 (by decide) ?_
    refine W.widen (k := 0) (n := 0) (Nat.le_of_ble_eq_true rfl) (Nat.le_of_ble_eq_true rfl) ?_
    exact yy_iret (v := 1) () hx hb hr hlk rfl hsz hAe hK hP hD hS [] rfl rfl (by decide) (by (try simp only [zB0, Decidable.not_not] at c1); (try simp only [isW, zB, ← Int32.not_lt] at c1 ⊢); (try simp only [Decidable.not_not] at c1 ⊢); simp only [c1, not_true_eq_false, not_false_eq_true, false_and, and_false, true_and, and_true, and_self, or_true, true_or, or_false, false_or, or_self, ↓reduceIte]) dX6_isGuardValue_14
  · refine lv_iload_n hx hb dX6_isGuardValue_4 rfl (lv_at hl 0 rfl) ?_
    refine lv_iconst (v := 1) hx hb dX6_isGuardValue_5 (by decide) ?_
    refine lv_icmp_ne (tgt := 13) hx hb dX6_isGuardValue_6 (by decide) (fun c6 => ?_) (fun c6 => ?_)
    · refine lv_iconst (v := 0) hx hb dX6_isGuardValue_13 (by decide) ?_
      refine W.widen (k := 0) (n := 0) (Nat.le_of_ble_eq_true rfl) (Nat.le_of_ble_eq_true rfl) ?_
      exact yy_iret (v := 0) () hx hb hr hlk rfl hsz hAe hK hP hD hS [] rfl rfl (by decide) (by (try simp only [zB0, Decidable.not_not] at c1 c6); (try simp only [isW, zB, ← Int32.not_lt] at c1 c6 ⊢); (try simp only [Decidable.not_not] at c1 c6 ⊢); simp only [c1, c6, not_true_eq_false, not_false_eq_true, false_and, and_false, true_and, and_true, and_self, or_true, true_or, or_false, false_or, or_self, ↓reduceIte]) dX6_isGuardValue_14
    · refine lv_iconst (v := 1) hx hb dX6_isGuardValue_9 (by decide) ?_
      refine lv_goto (tgt := 14) hx hb dX6_isGuardValue_10 (by decide) ?_
      refine W.widen (k := 0) (n := 0) (Nat.le_of_ble_eq_true rfl) (Nat.le_of_ble_eq_true rfl) ?_
      exact yy_iret (v := 1) () hx hb hr hlk rfl hsz hAe hK hP hD hS [] rfl rfl (by decide) (by (try simp only [zB0, Decidable.not_not] at c1 c6); (try simp only [isW, zB, ← Int32.not_lt] at c1 c6 ⊢); (try simp only [Decidable.not_not] at c1 c6 ⊢); simp only [c1, c6, not_true_eq_false, not_false_eq_true, false_and, and_false, true_and, and_true, and_self, or_true, true_or, or_false, false_or, or_self, ↓reduceIte]) dX6_isGuardValue_14
set_option maxHeartbeats 4000000 in
set_option maxRecDepth 100000 in
theorem k_isWire (l : Launch) (dC : Nat → ClassId) (dI : Nat → Nat → Nat) (cyI cyZ cyO : ClassId) (sz : Nat) (w : Int32)  : Met l yX9_isWire wsX9_isWire ({ frames := 0, cells := 0, slots := 0, locals := 0 }) (yPre [.int w] (dC, dI) [] (yT cyI cyZ cyO) sz) (yQi (fun (r : Int32) (u : Unit) => r = (zB (0 ≤ w ∧ w < 15))) (dC, dI) [] (yT cyI cyZ cyO) sz (fun _ => [])) 0 0 (va_A [] sz) := by
  refine yMet (cc := cX9_isWire) (maxL := 1) (ret := (some .boolean)) (by decide) rfl (Nat.le_of_ble_eq_true rfl) ?_
  intro p e s m below meth c A hx hb hr hlk hml hts hown hnm hsz hAe hP hK hD hA hS ls hl
  have hl : lv_has ls 1 [(0, .int w)] := hl
  refine lv_iload_n hx hb dX9_isWire_0 rfl (lv_at hl 0 rfl) ?_
  refine lv_if_lt (tgt := 14) hx hb dX9_isWire_1 (by decide) (fun c1 => ?_) (fun c1 => ?_)
  · refine lv_iconst (v := 0) hx hb dX9_isWire_14 (by decide) ?_
    refine W.widen (k := 0) (n := 0) (Nat.le_of_ble_eq_true rfl) (Nat.le_of_ble_eq_true rfl) ?_
    exact yy_iret (v := 0) () hx hb hr hlk rfl hsz hAe hK hP hD hS [] rfl rfl (by decide) (by (try simp only [zB0, Decidable.not_not] at c1); (try simp only [isW, zB, ← Int32.not_lt] at c1 ⊢); (try simp only [Decidable.not_not] at c1 ⊢); simp only [c1, not_true_eq_false, not_false_eq_true, false_and, and_false, true_and, and_true, and_self, or_true, true_or, or_false, false_or, or_self, ↓reduceIte]) dX9_isWire_15
  · refine lv_iload_n hx hb dX9_isWire_4 rfl (lv_at hl 0 rfl) ?_
    refine lv_bipush (v := 15) hx hb dX9_isWire_5 (by decide) ?_
    refine lv_icmp_ge (tgt := 14) hx hb dX9_isWire_7 (by decide) (fun c7 => ?_) (fun c7 => ?_)
    · refine lv_iconst (v := 0) hx hb dX9_isWire_14 (by decide) ?_
      refine W.widen (k := 0) (n := 0) (Nat.le_of_ble_eq_true rfl) (Nat.le_of_ble_eq_true rfl) ?_
      exact yy_iret (v := 0) () hx hb hr hlk rfl hsz hAe hK hP hD hS [] rfl rfl (by decide) (by (try simp only [zB0, Decidable.not_not] at c1 c7); (try simp only [isW, zB, ← Int32.not_lt] at c1 c7 ⊢); (try simp only [Decidable.not_not] at c1 c7 ⊢); simp only [c1, c7, not_true_eq_false, not_false_eq_true, false_and, and_false, true_and, and_true, and_self, or_true, true_or, or_false, false_or, or_self, ↓reduceIte]) dX9_isWire_15
    · refine lv_iconst (v := 1) hx hb dX9_isWire_10 (by decide) ?_
      refine lv_goto (tgt := 15) hx hb dX9_isWire_11 (by decide) ?_
      refine W.widen (k := 0) (n := 0) (Nat.le_of_ble_eq_true rfl) (Nat.le_of_ble_eq_true rfl) ?_
      exact yy_iret (v := 1) () hx hb hr hlk rfl hsz hAe hK hP hD hS [] rfl rfl (by decide) (by (try simp only [zB0, Decidable.not_not] at c1 c7); (try simp only [isW, zB, ← Int32.not_lt] at c1 c7 ⊢); (try simp only [Decidable.not_not] at c1 c7 ⊢); simp only [c1, c7, not_true_eq_false, not_false_eq_true, false_and, and_false, true_and, and_true, and_self, or_true, true_or, or_false, false_or, or_self, ↓reduceIte]) dX9_isWire_15
set_option maxHeartbeats 4000000 in
set_option maxRecDepth 100000 in
theorem k_isTransfer (l : Launch) (dC : Nat → ClassId) (dI : Nat → Nat → Nat) (cyI cyZ cyO : ClassId) (sz : Nat) (w : Int32)  : Met l yX9_isTransfer wsX9_isTransfer ({ frames := 0, cells := 0, slots := 0, locals := 0 }) (yPre [.int w] (dC, dI) [] (yT cyI cyZ cyO) sz) (yQi (fun (r : Int32) (u : Unit) => r = (zB (w = 2 ∨ w = 3))) (dC, dI) [] (yT cyI cyZ cyO) sz (fun _ => [])) 0 0 (va_A [] sz) := by
  refine yMet (cc := cX9_isTransfer) (maxL := 1) (ret := (some .boolean)) (by decide) rfl (Nat.le_of_ble_eq_true rfl) ?_
  intro p e s m below meth c A hx hb hr hlk hml hts hown hnm hsz hAe hP hK hD hA hS ls hl
  have hl : lv_has ls 1 [(0, .int w)] := hl
  refine lv_iload_n hx hb dX9_isTransfer_0 rfl (lv_at hl 0 rfl) ?_
  refine lv_iconst (v := 2) hx hb dX9_isTransfer_1 (by decide) ?_
  refine lv_icmp_eq (tgt := 10) hx hb dX9_isTransfer_2 (by decide) (fun c2 => ?_) (fun c2 => ?_)
  · refine lv_iconst (v := 1) hx hb dX9_isTransfer_10 (by decide) ?_
    refine lv_goto (tgt := 15) hx hb dX9_isTransfer_11 (by decide) ?_
    refine W.widen (k := 0) (n := 0) (Nat.le_of_ble_eq_true rfl) (Nat.le_of_ble_eq_true rfl) ?_
    exact yy_iret (v := 1) () hx hb hr hlk rfl hsz hAe hK hP hD hS [] rfl rfl (by decide) (by (try simp only [zB0, Decidable.not_not] at c2); (try simp only [isW, zB, ← Int32.not_lt] at c2 ⊢); (try simp only [Decidable.not_not] at c2 ⊢); simp only [c2, not_true_eq_false, not_false_eq_true, false_and, and_false, true_and, and_true, and_self, or_true, true_or, or_false, false_or, or_self, ↓reduceIte]) dX9_isTransfer_15
  · refine lv_iload_n hx hb dX9_isTransfer_5 rfl (lv_at hl 0 rfl) ?_
    refine lv_iconst (v := 3) hx hb dX9_isTransfer_6 (by decide) ?_
    refine lv_icmp_ne (tgt := 14) hx hb dX9_isTransfer_7 (by decide) (fun c7 => ?_) (fun c7 => ?_)
    · refine lv_iconst (v := 0) hx hb dX9_isTransfer_14 (by decide) ?_
      refine W.widen (k := 0) (n := 0) (Nat.le_of_ble_eq_true rfl) (Nat.le_of_ble_eq_true rfl) ?_
      exact yy_iret (v := 0) () hx hb hr hlk rfl hsz hAe hK hP hD hS [] rfl rfl (by decide) (by (try simp only [zB0, Decidable.not_not] at c2 c7); (try simp only [isW, zB, ← Int32.not_lt] at c2 c7 ⊢); (try simp only [Decidable.not_not] at c2 c7 ⊢); simp only [c2, c7, not_true_eq_false, not_false_eq_true, false_and, and_false, true_and, and_true, and_self, or_true, true_or, or_false, false_or, or_self, ↓reduceIte]) dX9_isTransfer_15
    · refine lv_iconst (v := 1) hx hb dX9_isTransfer_10 (by decide) ?_
      refine lv_goto (tgt := 15) hx hb dX9_isTransfer_11 (by decide) ?_
      refine W.widen (k := 0) (n := 0) (Nat.le_of_ble_eq_true rfl) (Nat.le_of_ble_eq_true rfl) ?_
      exact yy_iret (v := 1) () hx hb hr hlk rfl hsz hAe hK hP hD hS [] rfl rfl (by decide) (by (try simp only [zB0, Decidable.not_not] at c2 c7); (try simp only [isW, zB, ← Int32.not_lt] at c2 c7 ⊢); (try simp only [Decidable.not_not] at c2 c7 ⊢); simp only [c2, c7, not_true_eq_false, not_false_eq_true, false_and, and_false, true_and, and_true, and_self, or_true, true_or, or_false, false_or, or_self, ↓reduceIte]) dX9_isTransfer_15
set_option maxHeartbeats 4000000 in
set_option maxRecDepth 100000 in
theorem k_isPlace (l : Launch) (dC : Nat → ClassId) (dI : Nat → Nat → Nat) (cyI cyZ cyO : ClassId) (sz : Nat) (w : Int32)  : Met l yX10_isPlace wsX10_isPlace ({ frames := 0, cells := 0, slots := 0, locals := 0 }) (yPre [.int w] (dC, dI) [] (yT cyI cyZ cyO) sz) (yQi (fun (r : Int32) (u : Unit) => r = (zB (0 ≤ w ∧ w < 3))) (dC, dI) [] (yT cyI cyZ cyO) sz (fun _ => [])) 0 0 (va_A [] sz) := by
  refine yMet (cc := cX10_isPlace) (maxL := 1) (ret := (some .boolean)) (by decide) rfl (Nat.le_of_ble_eq_true rfl) ?_
  intro p e s m below meth c A hx hb hr hlk hml hts hown hnm hsz hAe hP hK hD hA hS ls hl
  have hl : lv_has ls 1 [(0, .int w)] := hl
  refine lv_iload_n hx hb dX10_isPlace_0 rfl (lv_at hl 0 rfl) ?_
  refine lv_if_lt (tgt := 13) hx hb dX10_isPlace_1 (by decide) (fun c1 => ?_) (fun c1 => ?_)
  · refine lv_iconst (v := 0) hx hb dX10_isPlace_13 (by decide) ?_
    refine W.widen (k := 0) (n := 0) (Nat.le_of_ble_eq_true rfl) (Nat.le_of_ble_eq_true rfl) ?_
    exact yy_iret (v := 0) () hx hb hr hlk rfl hsz hAe hK hP hD hS [] rfl rfl (by decide) (by (try simp only [zB0, Decidable.not_not] at c1); (try simp only [isW, zB, ← Int32.not_lt] at c1 ⊢); (try simp only [Decidable.not_not] at c1 ⊢); simp only [c1, not_true_eq_false, not_false_eq_true, false_and, and_false, true_and, and_true, and_self, or_true, true_or, or_false, false_or, or_self, ↓reduceIte]) dX10_isPlace_14
  · refine lv_iload_n hx hb dX10_isPlace_4 rfl (lv_at hl 0 rfl) ?_
    refine lv_iconst (v := 3) hx hb dX10_isPlace_5 (by decide) ?_
    refine lv_icmp_ge (tgt := 13) hx hb dX10_isPlace_6 (by decide) (fun c6 => ?_) (fun c6 => ?_)
    · refine lv_iconst (v := 0) hx hb dX10_isPlace_13 (by decide) ?_
      refine W.widen (k := 0) (n := 0) (Nat.le_of_ble_eq_true rfl) (Nat.le_of_ble_eq_true rfl) ?_
      exact yy_iret (v := 0) () hx hb hr hlk rfl hsz hAe hK hP hD hS [] rfl rfl (by decide) (by (try simp only [zB0, Decidable.not_not] at c1 c6); (try simp only [isW, zB, ← Int32.not_lt] at c1 c6 ⊢); (try simp only [Decidable.not_not] at c1 c6 ⊢); simp only [c1, c6, not_true_eq_false, not_false_eq_true, false_and, and_false, true_and, and_true, and_self, or_true, true_or, or_false, false_or, or_self, ↓reduceIte]) dX10_isPlace_14
    · refine lv_iconst (v := 1) hx hb dX10_isPlace_9 (by decide) ?_
      refine lv_goto (tgt := 14) hx hb dX10_isPlace_10 (by decide) ?_
      refine W.widen (k := 0) (n := 0) (Nat.le_of_ble_eq_true rfl) (Nat.le_of_ble_eq_true rfl) ?_
      exact yy_iret (v := 1) () hx hb hr hlk rfl hsz hAe hK hP hD hS [] rfl rfl (by decide) (by (try simp only [zB0, Decidable.not_not] at c1 c6); (try simp only [isW, zB, ← Int32.not_lt] at c1 c6 ⊢); (try simp only [Decidable.not_not] at c1 c6 ⊢); simp only [c1, c6, not_true_eq_false, not_false_eq_true, false_and, and_false, true_and, and_true, and_self, or_true, true_or, or_false, false_or, or_self, ↓reduceIte]) dX10_isPlace_14
set_option maxHeartbeats 4000000 in
set_option maxRecDepth 100000 in
theorem k_allow (l : Launch) (dC : Nat → ClassId) (dI : Nat → Nat → Nat) (cyI cyZ cyO : ClassId) (sz : Nat) (h0 : Nat) (h0_plan : Nat) (h0_now : Nat) (h0_kept : Nat) (h0_keptChanges : Nat) (h0_replay : Nat) (h0_refused : Int32) (w : Int32)  : Met l yX10_allow wsX10_allow ({ frames := 0, cells := 0, slots := 0, locals := 0 }) (yPre [.ref h0, .int w] (dC, dI) [(h0, .inr (10, [.ref h0_plan, .ref h0_now, .ref h0_kept, .ref h0_keptChanges, .ref h0_replay, .int h0_refused]))] (yT cyI cyZ cyO) sz) (yQi (fun (r : Int32) (u : Unit) => r = w) (dC, dI) [(h0, .inr (10, [.ref h0_plan, .ref h0_now, .ref h0_kept, .ref h0_keptChanges, .ref h0_replay, .int h0_refused]))] (yT cyI cyZ cyO) sz (fun _ => [(h0, .inr (10, [.ref h0_plan, .ref h0_now, .ref h0_kept, .ref h0_keptChanges, .ref h0_replay, .int 0]))])) 0 0 (va_A [(h0, .inr (10, [.ref h0_plan, .ref h0_now, .ref h0_kept, .ref h0_keptChanges, .ref h0_replay, .int h0_refused]))] sz) := by
  refine yMet (cc := cX10_allow) (maxL := 2) (ret := (some .int)) (by decide) rfl (Nat.le_of_ble_eq_true rfl) ?_
  intro p e s m below meth c A hx hb hr hlk hml hts hown hnm hsz hAe hP hK hD hA hS ls hl
  have hl : lv_has ls 2 [(0, .ref h0), (1, .int w)] := hl
  have hf38 := hts (.fieldLink RX10 38 "BusBridge" "refused" "I") (by decide +kernel)
  have hnX10 : ∀ w ∈ wsX100, w ∈ wsX10_allow := by decide +kernel
  refine lv_aload_n hx hb dX10_allow_0 rfl (lv_at hl 0 rfl) ?_
  refine lv_iconst (v := 0) hx hb dX10_allow_1 (by decide) ?_
  refine va_put (D := (dC, dI)) (ci := 10) (v := .int 0) (ty := .int) (C := RX10) (T := TX10) (N := 6) hx hb hts hnX10 tyX10 tyX10_ok nmX10 hown hK hP hD hS 0 rfl rfl 5 (by decide) hf38 (fun _ h9 => h9) rfl (by decide +kernel) rfl rfl (Nat.le_of_ble_eq_true rfl) dX10_allow_2 (fun H locs hP hD hS => ?_)
  have hP : va_P (dC, dI) vwCl [(h0, .inr (10, [.ref h0_plan, .ref h0_now, .ref h0_kept, .ref h0_keptChanges, .ref h0_replay, .int 0]))] H := hP
  have hD : va_D A [(h0, .inr (10, [.ref h0_plan, .ref h0_now, .ref h0_kept, .ref h0_keptChanges, .ref h0_replay, .int 0]))] := hD
  refine lv_iload_n hx hb dX10_allow_5 rfl (lv_at hl 1 rfl) ?_
  refine W.widen (k := 0) (n := 0) (Nat.le_of_ble_eq_true rfl) (Nat.le_of_ble_eq_true rfl) ?_
  exact yy_iret (v := w) () hx hb hr hlk rfl hsz hAe hK hP hD hS [0] rfl rfl (by decide) (rfl) dX10_allow_6
set_option maxHeartbeats 4000000 in
set_option maxRecDepth 100000 in
theorem k_refuse (l : Launch) (dC : Nat → ClassId) (dI : Nat → Nat → Nat) (cyI cyZ cyO : ClassId) (sz : Nat) (h0 : Nat) (h0_plan : Nat) (h0_now : Nat) (h0_kept : Nat) (h0_keptChanges : Nat) (h0_replay : Nat) (h0_refused : Int32) (w : Int32)  : Met l yX10_refuse wsX10_refuse ({ frames := 0, cells := 0, slots := 0, locals := 0 }) (yPre [.ref h0, .int w] (dC, dI) [(h0, .inr (10, [.ref h0_plan, .ref h0_now, .ref h0_kept, .ref h0_keptChanges, .ref h0_replay, .int h0_refused]))] (yT cyI cyZ cyO) sz) (yQi (fun (r : Int32) (u : Unit) => r = w) (dC, dI) [(h0, .inr (10, [.ref h0_plan, .ref h0_now, .ref h0_kept, .ref h0_keptChanges, .ref h0_replay, .int h0_refused]))] (yT cyI cyZ cyO) sz (fun _ => [(h0, .inr (10, [.ref h0_plan, .ref h0_now, .ref h0_kept, .ref h0_keptChanges, .ref h0_replay, .int w]))])) 0 0 (va_A [(h0, .inr (10, [.ref h0_plan, .ref h0_now, .ref h0_kept, .ref h0_keptChanges, .ref h0_replay, .int h0_refused]))] sz) := by
  refine yMet (cc := cX10_refuse) (maxL := 2) (ret := (some .int)) (by decide) rfl (Nat.le_of_ble_eq_true rfl) ?_
  intro p e s m below meth c A hx hb hr hlk hml hts hown hnm hsz hAe hP hK hD hA hS ls hl
  have hl : lv_has ls 2 [(0, .ref h0), (1, .int w)] := hl
  have hf38 := hts (.fieldLink RX10 38 "BusBridge" "refused" "I") (by decide +kernel)
  have hnX10 : ∀ w ∈ wsX100, w ∈ wsX10_refuse := by decide +kernel
  refine lv_aload_n hx hb dX10_refuse_0 rfl (lv_at hl 0 rfl) ?_
  refine lv_iload_n hx hb dX10_refuse_1 rfl (lv_at hl 1 rfl) ?_
  refine va_put (D := (dC, dI)) (ci := 10) (v := .int w) (ty := .int) (C := RX10) (T := TX10) (N := 6) hx hb hts hnX10 tyX10 tyX10_ok nmX10 hown hK hP hD hS 0 rfl rfl 5 (by decide) hf38 (fun _ h9 => h9) rfl (by decide +kernel) rfl rfl (Nat.le_of_ble_eq_true rfl) dX10_refuse_2 (fun H locs hP hD hS => ?_)
  have hP : va_P (dC, dI) vwCl [(h0, .inr (10, [.ref h0_plan, .ref h0_now, .ref h0_kept, .ref h0_keptChanges, .ref h0_replay, .int w]))] H := hP
  have hD : va_D A [(h0, .inr (10, [.ref h0_plan, .ref h0_now, .ref h0_kept, .ref h0_keptChanges, .ref h0_replay, .int w]))] := hD
  refine lv_iload_n hx hb dX10_refuse_5 rfl (lv_at hl 1 rfl) ?_
  refine W.widen (k := 0) (n := 0) (Nat.le_of_ble_eq_true rfl) (Nat.le_of_ble_eq_true rfl) ?_
  exact yy_iret (v := w) () hx hb hr hlk rfl hsz hAe hK hP hD hS [0] rfl rfl (by decide) (rfl) dX10_refuse_6
set_option maxHeartbeats 4000000 in
set_option maxRecDepth 100000 in
theorem k_refuseWithZero (l : Launch) (dC : Nat → ClassId) (dI : Nat → Nat → Nat) (cyI cyZ cyO : ClassId) (sz : Nat) (h0 : Nat) (h0_plan : Nat) (h0_now : Nat) (h0_kept : Nat) (h0_keptChanges : Nat) (h0_replay : Nat) (h0_refused : Int32) (w : Int32)  : Met l yX10_refuseWithZero wsX10_refuseWithZero ({ frames := 0, cells := 0, slots := 0, locals := 0 }) (yPre [.ref h0, .int w] (dC, dI) [(h0, .inr (10, [.ref h0_plan, .ref h0_now, .ref h0_kept, .ref h0_keptChanges, .ref h0_replay, .int h0_refused]))] (yT cyI cyZ cyO) sz) (yQi (fun (r : Int32) (u : Unit) => r = 0) (dC, dI) [(h0, .inr (10, [.ref h0_plan, .ref h0_now, .ref h0_kept, .ref h0_keptChanges, .ref h0_replay, .int h0_refused]))] (yT cyI cyZ cyO) sz (fun _ => [(h0, .inr (10, [.ref h0_plan, .ref h0_now, .ref h0_kept, .ref h0_keptChanges, .ref h0_replay, .int w]))])) 0 0 (va_A [(h0, .inr (10, [.ref h0_plan, .ref h0_now, .ref h0_kept, .ref h0_keptChanges, .ref h0_replay, .int h0_refused]))] sz) := by
  refine yMet (cc := cX10_refuseWithZero) (maxL := 2) (ret := (some .int)) (by decide) rfl (Nat.le_of_ble_eq_true rfl) ?_
  intro p e s m below meth c A hx hb hr hlk hml hts hown hnm hsz hAe hP hK hD hA hS ls hl
  have hl : lv_has ls 2 [(0, .ref h0), (1, .int w)] := hl
  have hf38 := hts (.fieldLink RX10 38 "BusBridge" "refused" "I") (by decide +kernel)
  have hnX10 : ∀ w ∈ wsX100, w ∈ wsX10_refuseWithZero := by decide +kernel
  refine lv_aload_n hx hb dX10_refuseWithZero_0 rfl (lv_at hl 0 rfl) ?_
  refine lv_iload_n hx hb dX10_refuseWithZero_1 rfl (lv_at hl 1 rfl) ?_
  refine va_put (D := (dC, dI)) (ci := 10) (v := .int w) (ty := .int) (C := RX10) (T := TX10) (N := 6) hx hb hts hnX10 tyX10 tyX10_ok nmX10 hown hK hP hD hS 0 rfl rfl 5 (by decide) hf38 (fun _ h9 => h9) rfl (by decide +kernel) rfl rfl (Nat.le_of_ble_eq_true rfl) dX10_refuseWithZero_2 (fun H locs hP hD hS => ?_)
  have hP : va_P (dC, dI) vwCl [(h0, .inr (10, [.ref h0_plan, .ref h0_now, .ref h0_kept, .ref h0_keptChanges, .ref h0_replay, .int w]))] H := hP
  have hD : va_D A [(h0, .inr (10, [.ref h0_plan, .ref h0_now, .ref h0_kept, .ref h0_keptChanges, .ref h0_replay, .int w]))] := hD
  refine lv_iconst (v := 0) hx hb dX10_refuseWithZero_5 (by decide) ?_
  refine W.widen (k := 0) (n := 0) (Nat.le_of_ble_eq_true rfl) (Nat.le_of_ble_eq_true rfl) ?_
  exact yy_iret (v := 0) () hx hb hr hlk rfl hsz hAe hK hP hD hS [0] rfl rfl (by decide) (rfl) dX10_refuseWithZero_6
set_option maxHeartbeats 4000000 in
set_option maxRecDepth 100000 in
theorem k_isFull (l : Launch) (dC : Nat → ClassId) (dI : Nat → Nat → Nat) (cyI cyZ cyO : ClassId) (sz : Nat) (h0 : Nat) (h0_row : Nat) (h0_most : Int32) (h0_width : Int32) (h0_count : Int32)  : Met l yX8_isFull wsX8_isFull ({ frames := 0, cells := 0, slots := 0, locals := 0 }) (yPre [.ref h0] (dC, dI) [(h0, .inr (8, [.ref h0_row, .int h0_most, .int h0_width, .int h0_count]))] (yT cyI cyZ cyO) sz) (yQi (fun (r : Int32) (u : Unit) => r = (zB (h0_most ≤ h0_count))) (dC, dI) [(h0, .inr (8, [.ref h0_row, .int h0_most, .int h0_width, .int h0_count]))] (yT cyI cyZ cyO) sz (fun _ => [(h0, .inr (8, [.ref h0_row, .int h0_most, .int h0_width, .int h0_count]))])) 0 0 (va_A [(h0, .inr (8, [.ref h0_row, .int h0_most, .int h0_width, .int h0_count]))] sz) := by
  refine yMet (cc := cX8_isFull) (maxL := 1) (ret := (some .boolean)) (by decide) rfl (Nat.le_of_ble_eq_true rfl) ?_
  intro p e s m below meth c A hx hb hr hlk hml hts hown hnm hsz hAe hP hK hD hA hS ls hl
  have hl : lv_has ls 1 [(0, .ref h0)] := hl
  have hf26 := hts (.fieldLink RX8 26 "BusBridge$Table" "count" "I") (by decide +kernel)
  have hf7 := hts (.fieldLink RX8 7 "BusBridge$Table" "most" "I") (by decide +kernel)
  have hnX8 : ∀ w ∈ wsX80, w ∈ wsX8_isFull := by decide +kernel
  refine lv_aload_n hx hb dX8_isFull_0 rfl (lv_at hl 0 rfl) ?_
  refine va_get (D := (dC, dI)) (ci := 8) (v := .int h0_count) (C := RX8) (T := TX8) (N := 4) hx hb hts hnX8 hown hK hP 0 rfl rfl 3 (by decide) hf26 (fun _ h9 => h9) rfl dX8_isFull_1 ?_
  refine lv_aload_n hx hb dX8_isFull_4 rfl (lv_at hl 0 rfl) ?_
  refine va_get (D := (dC, dI)) (ci := 8) (v := .int h0_most) (C := RX8) (T := TX8) (N := 4) hx hb hts hnX8 hown hK hP 0 rfl rfl 1 (by decide) hf7 (fun _ h9 => h9) rfl dX8_isFull_5 ?_
  refine lv_icmp_lt (tgt := 15) hx hb dX8_isFull_8 (by decide) (fun c8 => ?_) (fun c8 => ?_)
  · refine lv_iconst (v := 0) hx hb dX8_isFull_15 (by decide) ?_
    refine W.widen (k := 0) (n := 0) (Nat.le_of_ble_eq_true rfl) (Nat.le_of_ble_eq_true rfl) ?_
    exact yy_iret (v := 0) () hx hb hr hlk rfl hsz hAe hK hP hD hS [0] rfl rfl (by decide) (by (try simp only [zB0, Decidable.not_not] at c8); (try simp only [isW, zB, ← Int32.not_lt] at c8 ⊢); (try simp only [Decidable.not_not] at c8 ⊢); simp only [c8, not_true_eq_false, not_false_eq_true, false_and, and_false, true_and, and_true, and_self, or_true, true_or, or_false, false_or, or_self, ↓reduceIte]) dX8_isFull_16
  · refine lv_iconst (v := 1) hx hb dX8_isFull_11 (by decide) ?_
    refine lv_goto (tgt := 16) hx hb dX8_isFull_12 (by decide) ?_
    refine W.widen (k := 0) (n := 0) (Nat.le_of_ble_eq_true rfl) (Nat.le_of_ble_eq_true rfl) ?_
    exact yy_iret (v := 1) () hx hb hr hlk rfl hsz hAe hK hP hD hS [0] rfl rfl (by decide) (by (try simp only [zB0, Decidable.not_not] at c8); (try simp only [isW, zB, ← Int32.not_lt] at c8 ⊢); (try simp only [Decidable.not_not] at c8 ⊢); simp only [c8, not_true_eq_false, not_false_eq_true, false_and, and_false, true_and, and_true, and_self, or_true, true_or, or_false, false_or, or_self, ↓reduceIte]) dX8_isFull_16
set_option maxHeartbeats 4000000 in
set_option maxRecDepth 100000 in
theorem k_hasRow (l : Launch) (dC : Nat → ClassId) (dI : Nat → Nat → Nat) (cyI cyZ cyO : ClassId) (sz : Nat) (h0 : Nat) (h0_row : Nat) (h0_most : Int32) (h0_width : Int32) (h0_count : Int32) (i : Int32)  : Met l yX8_hasRow wsX8_hasRow ({ frames := 0, cells := 0, slots := 0, locals := 0 }) (yPre [.ref h0, .int i] (dC, dI) [(h0, .inr (8, [.ref h0_row, .int h0_most, .int h0_width, .int h0_count]))] (yT cyI cyZ cyO) sz) (yQi (fun (r : Int32) (u : Unit) => r = (zB (0 ≤ i ∧ i < h0_count))) (dC, dI) [(h0, .inr (8, [.ref h0_row, .int h0_most, .int h0_width, .int h0_count]))] (yT cyI cyZ cyO) sz (fun _ => [(h0, .inr (8, [.ref h0_row, .int h0_most, .int h0_width, .int h0_count]))])) 0 0 (va_A [(h0, .inr (8, [.ref h0_row, .int h0_most, .int h0_width, .int h0_count]))] sz) := by
  refine yMet (cc := cX8_hasRow) (maxL := 2) (ret := (some .boolean)) (by decide) rfl (Nat.le_of_ble_eq_true rfl) ?_
  intro p e s m below meth c A hx hb hr hlk hml hts hown hnm hsz hAe hP hK hD hA hS ls hl
  have hl : lv_has ls 2 [(0, .ref h0), (1, .int i)] := hl
  have hf26 := hts (.fieldLink RX8 26 "BusBridge$Table" "count" "I") (by decide +kernel)
  have hnX8 : ∀ w ∈ wsX80, w ∈ wsX8_hasRow := by decide +kernel
  refine lv_iload_n hx hb dX8_hasRow_0 rfl (lv_at hl 1 rfl) ?_
  refine lv_if_lt (tgt := 16) hx hb dX8_hasRow_1 (by decide) (fun c1 => ?_) (fun c1 => ?_)
  · refine lv_iconst (v := 0) hx hb dX8_hasRow_16 (by decide) ?_
    refine W.widen (k := 0) (n := 0) (Nat.le_of_ble_eq_true rfl) (Nat.le_of_ble_eq_true rfl) ?_
    exact yy_iret (v := 0) () hx hb hr hlk rfl hsz hAe hK hP hD hS [0] rfl rfl (by decide) (by (try simp only [zB0, Decidable.not_not] at c1); (try simp only [isW, zB, ← Int32.not_lt] at c1 ⊢); (try simp only [Decidable.not_not] at c1 ⊢); simp only [c1, not_true_eq_false, not_false_eq_true, false_and, and_false, true_and, and_true, and_self, or_true, true_or, or_false, false_or, or_self, ↓reduceIte]) dX8_hasRow_17
  · refine lv_iload_n hx hb dX8_hasRow_4 rfl (lv_at hl 1 rfl) ?_
    refine lv_aload_n hx hb dX8_hasRow_5 rfl (lv_at hl 0 rfl) ?_
    refine va_get (D := (dC, dI)) (ci := 8) (v := .int h0_count) (C := RX8) (T := TX8) (N := 4) hx hb hts hnX8 hown hK hP 0 rfl rfl 3 (by decide) hf26 (fun _ h9 => h9) rfl dX8_hasRow_6 ?_
    refine lv_icmp_ge (tgt := 16) hx hb dX8_hasRow_9 (by decide) (fun c9 => ?_) (fun c9 => ?_)
    · refine lv_iconst (v := 0) hx hb dX8_hasRow_16 (by decide) ?_
      refine W.widen (k := 0) (n := 0) (Nat.le_of_ble_eq_true rfl) (Nat.le_of_ble_eq_true rfl) ?_
      exact yy_iret (v := 0) () hx hb hr hlk rfl hsz hAe hK hP hD hS [0] rfl rfl (by decide) (by (try simp only [zB0, Decidable.not_not] at c1 c9); (try simp only [isW, zB, ← Int32.not_lt] at c1 c9 ⊢); (try simp only [Decidable.not_not] at c1 c9 ⊢); simp only [c1, c9, not_true_eq_false, not_false_eq_true, false_and, and_false, true_and, and_true, and_self, or_true, true_or, or_false, false_or, or_self, ↓reduceIte]) dX8_hasRow_17
    · refine lv_iconst (v := 1) hx hb dX8_hasRow_12 (by decide) ?_
      refine lv_goto (tgt := 17) hx hb dX8_hasRow_13 (by decide) ?_
      refine W.widen (k := 0) (n := 0) (Nat.le_of_ble_eq_true rfl) (Nat.le_of_ble_eq_true rfl) ?_
      exact yy_iret (v := 1) () hx hb hr hlk rfl hsz hAe hK hP hD hS [0] rfl rfl (by decide) (by (try simp only [zB0, Decidable.not_not] at c1 c9); (try simp only [isW, zB, ← Int32.not_lt] at c1 c9 ⊢); (try simp only [Decidable.not_not] at c1 c9 ⊢); simp only [c1, c9, not_true_eq_false, not_false_eq_true, false_and, and_false, true_and, and_true, and_self, or_true, true_or, or_false, false_or, or_self, ↓reduceIte]) dX8_hasRow_17
set_option maxHeartbeats 4000000 in
set_option maxRecDepth 100000 in
theorem k_hasColumn (l : Launch) (dC : Nat → ClassId) (dI : Nat → Nat → Nat) (cyI cyZ cyO : ClassId) (sz : Nat) (h0 : Nat) (h0_row : Nat) (h0_most : Int32) (h0_width : Int32) (h0_count : Int32) (i : Int32)  : Met l yX8_hasColumn wsX8_hasColumn ({ frames := 0, cells := 0, slots := 0, locals := 0 }) (yPre [.ref h0, .int i] (dC, dI) [(h0, .inr (8, [.ref h0_row, .int h0_most, .int h0_width, .int h0_count]))] (yT cyI cyZ cyO) sz) (yQi (fun (r : Int32) (u : Unit) => r = (zB (0 ≤ i ∧ i < h0_width))) (dC, dI) [(h0, .inr (8, [.ref h0_row, .int h0_most, .int h0_width, .int h0_count]))] (yT cyI cyZ cyO) sz (fun _ => [(h0, .inr (8, [.ref h0_row, .int h0_most, .int h0_width, .int h0_count]))])) 0 0 (va_A [(h0, .inr (8, [.ref h0_row, .int h0_most, .int h0_width, .int h0_count]))] sz) := by
  refine yMet (cc := cX8_hasColumn) (maxL := 2) (ret := (some .boolean)) (by decide) rfl (Nat.le_of_ble_eq_true rfl) ?_
  intro p e s m below meth c A hx hb hr hlk hml hts hown hnm hsz hAe hP hK hD hA hS ls hl
  have hl : lv_has ls 2 [(0, .ref h0), (1, .int i)] := hl
  have hf13 := hts (.fieldLink RX8 13 "BusBridge$Table" "width" "I") (by decide +kernel)
  have hnX8 : ∀ w ∈ wsX80, w ∈ wsX8_hasColumn := by decide +kernel
  refine lv_iload_n hx hb dX8_hasColumn_0 rfl (lv_at hl 1 rfl) ?_
  refine lv_if_lt (tgt := 16) hx hb dX8_hasColumn_1 (by decide) (fun c1 => ?_) (fun c1 => ?_)
  · refine lv_iconst (v := 0) hx hb dX8_hasColumn_16 (by decide) ?_
    refine W.widen (k := 0) (n := 0) (Nat.le_of_ble_eq_true rfl) (Nat.le_of_ble_eq_true rfl) ?_
    exact yy_iret (v := 0) () hx hb hr hlk rfl hsz hAe hK hP hD hS [0] rfl rfl (by decide) (by (try simp only [zB0, Decidable.not_not] at c1); (try simp only [isW, zB, ← Int32.not_lt] at c1 ⊢); (try simp only [Decidable.not_not] at c1 ⊢); simp only [c1, not_true_eq_false, not_false_eq_true, false_and, and_false, true_and, and_true, and_self, or_true, true_or, or_false, false_or, or_self, ↓reduceIte]) dX8_hasColumn_17
  · refine lv_iload_n hx hb dX8_hasColumn_4 rfl (lv_at hl 1 rfl) ?_
    refine lv_aload_n hx hb dX8_hasColumn_5 rfl (lv_at hl 0 rfl) ?_
    refine va_get (D := (dC, dI)) (ci := 8) (v := .int h0_width) (C := RX8) (T := TX8) (N := 4) hx hb hts hnX8 hown hK hP 0 rfl rfl 2 (by decide) hf13 (fun _ h9 => h9) rfl dX8_hasColumn_6 ?_
    refine lv_icmp_ge (tgt := 16) hx hb dX8_hasColumn_9 (by decide) (fun c9 => ?_) (fun c9 => ?_)
    · refine lv_iconst (v := 0) hx hb dX8_hasColumn_16 (by decide) ?_
      refine W.widen (k := 0) (n := 0) (Nat.le_of_ble_eq_true rfl) (Nat.le_of_ble_eq_true rfl) ?_
      exact yy_iret (v := 0) () hx hb hr hlk rfl hsz hAe hK hP hD hS [0] rfl rfl (by decide) (by (try simp only [zB0, Decidable.not_not] at c1 c9); (try simp only [isW, zB, ← Int32.not_lt] at c1 c9 ⊢); (try simp only [Decidable.not_not] at c1 c9 ⊢); simp only [c1, c9, not_true_eq_false, not_false_eq_true, false_and, and_false, true_and, and_true, and_self, or_true, true_or, or_false, false_or, or_self, ↓reduceIte]) dX8_hasColumn_17
    · refine lv_iconst (v := 1) hx hb dX8_hasColumn_12 (by decide) ?_
      refine lv_goto (tgt := 17) hx hb dX8_hasColumn_13 (by decide) ?_
      refine W.widen (k := 0) (n := 0) (Nat.le_of_ble_eq_true rfl) (Nat.le_of_ble_eq_true rfl) ?_
      exact yy_iret (v := 1) () hx hb hr hlk rfl hsz hAe hK hP hD hS [0] rfl rfl (by decide) (by (try simp only [zB0, Decidable.not_not] at c1 c9); (try simp only [isW, zB, ← Int32.not_lt] at c1 c9 ⊢); (try simp only [Decidable.not_not] at c1 c9 ⊢); simp only [c1, c9, not_true_eq_false, not_false_eq_true, false_and, and_false, true_and, and_true, and_self, or_true, true_or, or_false, false_or, or_self, ↓reduceIte]) dX8_hasColumn_17
set_option maxHeartbeats 4000000 in
set_option maxRecDepth 100000 in
theorem k_Tclear (l : Launch) (dC : Nat → ClassId) (dI : Nat → Nat → Nat) (cyI cyZ cyO : ClassId) (sz : Nat) (h0 : Nat) (h0_row : Nat) (h0_most : Int32) (h0_width : Int32) (h0_count : Int32)  : Met l yX8_clear wsX8_clear ({ frames := 0, cells := 0, slots := 0, locals := 0 }) (yPre [.ref h0] (dC, dI) [(h0, .inr (8, [.ref h0_row, .int h0_most, .int h0_width, .int h0_count]))] (yT cyI cyZ cyO) sz) (yQv (fun (u : Unit) => True) (dC, dI) [(h0, .inr (8, [.ref h0_row, .int h0_most, .int h0_width, .int h0_count]))] (yT cyI cyZ cyO) sz (fun _ => [(h0, .inr (8, [.ref h0_row, .int h0_most, .int h0_width, .int 0]))])) 0 0 (va_A [(h0, .inr (8, [.ref h0_row, .int h0_most, .int h0_width, .int h0_count]))] sz) := by
  refine yMet (cc := cX8_clear) (maxL := 1) (ret := none) (by decide) rfl (Nat.le_of_ble_eq_true rfl) ?_
  intro p e s m below meth c A hx hb hr hlk hml hts hown hnm hsz hAe hP hK hD hA hS ls hl
  have hl : lv_has ls 1 [(0, .ref h0)] := hl
  have hf26 := hts (.fieldLink RX8 26 "BusBridge$Table" "count" "I") (by decide +kernel)
  have hnX8 : ∀ w ∈ wsX80, w ∈ wsX8_clear := by decide +kernel
  refine lv_aload_n hx hb dX8_clear_0 rfl (lv_at hl 0 rfl) ?_
  refine lv_iconst (v := 0) hx hb dX8_clear_1 (by decide) ?_
  refine va_put (D := (dC, dI)) (ci := 8) (v := .int 0) (ty := .int) (C := RX8) (T := TX8) (N := 4) hx hb hts hnX8 tyX8 tyX8_ok nmX8 hown hK hP hD hS 0 rfl rfl 3 (by decide) hf26 (fun _ h9 => h9) rfl (by decide +kernel) rfl rfl (Nat.le_of_ble_eq_true rfl) dX8_clear_2 (fun H locs hP hD hS => ?_)
  have hP : va_P (dC, dI) vwCl [(h0, .inr (8, [.ref h0_row, .int h0_most, .int h0_width, .int 0]))] H := hP
  have hD : va_D A [(h0, .inr (8, [.ref h0_row, .int h0_most, .int h0_width, .int 0]))] := hD
  refine W.widen (k := 0) (n := 0) (Nat.le_of_ble_eq_true rfl) (Nat.le_of_ble_eq_true rfl) ?_
  exact yy_vret () hx hb hr hlk hsz hAe hK hP hD hS [0] rfl rfl (by decide) (trivial) dX8_clear_5
