/-! the reference's row z on an idle run: clock t, READY of the clock before b -/
def yz (t b : Int32) : Nat → Int32 := fun j => if j = 179 then t else if j = 19 then b else if j = 4 then 1 else if 45 ≤ j ∧ j < 60 then 1 else if j = 180 ∨ j = 181 then -1 else 0
theorem yz_t {t b x : Int32} : upd (yz t b) 179 x = yz x b := by
  funext j; unfold upd yz
  by_cases h : j = 179
  · rw [if_pos h, if_pos h]
  · rw [if_neg h, if_neg h, if_neg h]
theorem yz_b {t b x : Int32} : upd (yz t b) 19 x = yz t x := by
  funext j; unfold upd yz
  by_cases h : j = 19
  · rw [if_pos h, if_neg (by omega), if_pos h]
  · rw [if_neg h, if_neg h, if_neg h]
def yA (k : Nat) : Nat → Int32 := fun j => if j = 4 then 1 else if 45 ≤ j ∧ j < 45 + k then 1 else 0
theorem yA_0 : upd (fun _ => 0) 4 1 = yA 0 := by
  funext j; unfold upd yA
  by_cases h : j = 4
  · rw [if_pos h, if_pos h]
  · rw [if_neg h, if_neg h, if_neg (by omega)]
theorem yA_s {k : Nat} : upd (yA k) (45 + k) 1 = yA (k + 1) := by
  funext j; unfold upd yA
  by_cases h : j = 45 + k
  · rw [if_pos h, if_neg (by omega), if_pos (by omega)]
  · rw [if_neg h]
    by_cases h4 : j = 4
    · rw [if_pos h4, if_pos h4]
    · rw [if_neg h4, if_neg h4]
      by_cases h5 : 45 ≤ j ∧ j < 45 + k
      · rw [if_pos h5, if_pos (by omega)]
      · rw [if_neg h5, if_neg (by omega)]
theorem yA_z : upd (upd (yA 15) 180 (-1)) 181 (-1) = yz 0 0 := by
  funext j; unfold upd yA yz
  by_cases h1 : j = 181
  · rw [if_pos h1, if_neg (by omega), if_neg (by omega), if_neg (by omega), if_neg (by omega), if_pos (Or.inr h1)]
  · rw [if_neg h1]
    by_cases h0 : j = 180
    · rw [if_pos h0, if_neg (by omega), if_neg (by omega), if_neg (by omega), if_neg (by omega), if_pos (Or.inl h0)]
    · rw [if_neg h0]
      by_cases h9 : j = 179
      · rw [if_pos h9, if_neg (by omega), if_neg (by omega)]
      · rw [if_neg h9]
        by_cases h3 : j = 19
        · rw [if_pos h3, if_neg (by omega), if_neg (by omega)]
        · rw [if_neg h3]
          by_cases h4 : j = 4
          · rw [if_pos h4, if_pos h4]
          · rw [if_neg h4, if_neg h4]
            by_cases h5 : 45 ≤ j ∧ j < 60
            · rw [if_pos h5, if_pos (by omega)]
            · rw [if_neg h5, if_neg (by omega), if_neg (by omega)]
theorem yz_out {t b : Int32} : ∀ j, 2490 ≤ j → yz t b j = 0 := by
  intro j h; unfold yz
  rw [if_neg (by omega), if_neg (by omega), if_neg (by omega), if_neg (by omega), if_neg (by omega)]
theorem yplus {i : Int32} {n k : Nat} {c : Int32} (hc : c = nI k) (h : vp_in i n) (hn : n < 2 ^ 30) (hk : k < 2 ^ 30) : ∃ j : Nat, j < n ∧ i.toNatClampNeg = j ∧ (c + i).toNatClampNeg = k + j ∧ c + i = nI (k + j) := by
  obtain ⟨j, hj, rfl⟩ := vp_in_of h (by omega)
  refine ⟨j, hj, nI_clamp (by omega), ?_, ?_⟩
  · rw [hc, nI_add, nI_clamp (by omega)]
  · rw [hc, nI_add]
theorem yin_mono {i : Int32} {n m : Nat} (h : vp_in i n) (hm : n ≤ m) : vp_in i m := fun q => h (q.imp id (fun z => Nat.le_trans hm z))
theorem yplus_in {i : Int32} {n k m : Nat} {c : Int32} (hc : c = nI k) (h : vp_in i n) (hn : n < 2 ^ 30) (hk : k < 2 ^ 30) (hm : k + n ≤ m) : vp_in (c + i) m := by
  obtain ⟨j, hj, -, -, e⟩ := yplus hc h hn hk
  rw [e]
  exact yin_mono (vp_in_nI (N := k + n) (by omega) (by omega)) hm
theorem yzF {t b i : Int32} (h : vp_in i 15) : yz t b ((45 : Int32) + i).toNatClampNeg = 1 := by
  obtain ⟨j, hj, -, e, -⟩ := yplus (c := 45) (k := 45) (by decide) h (by decide) (by decide)
  rw [e]; unfold yz
  rw [if_neg (by omega), if_neg (by omega), if_neg (by omega), if_pos (by omega)]
theorem yzT {t b i : Int32} (h : vp_in i 15) : yz t b ((60 : Int32) + i).toNatClampNeg = 0 := by
  obtain ⟨j, hj, -, e, -⟩ := yplus (c := 60) (k := 60) (by decide) h (by decide) (by decide)
  rw [e]; unfold yz
  rw [if_neg (by omega), if_neg (by omega), if_neg (by omega), if_neg (by omega), if_neg (by omega)]
theorem yzG {t b i : Int32} (h : vp_in i 16) : yz t b ((214 : Int32) + i).toNatClampNeg = 0 := by
  obtain ⟨j, hj, -, e, -⟩ := yplus (c := 214) (k := 214) (by decide) h (by decide) (by decide)
  rw [e]; unfold yz
  rw [if_neg (by omega), if_neg (by omega), if_neg (by omega), if_neg (by omega), if_neg (by omega)]
theorem yzW {t b i : Int32} (h : vp_in i 15) : yz t b i.toNatClampNeg = yR i.toNatClampNeg := by
  obtain ⟨j, hj, e, -⟩ := yplus (c := 45) (k := 45) (by decide) h (by decide) (by decide)
  rw [e]; unfold yz yR upd
  rw [if_neg (by omega), if_neg (by omega)]
  by_cases h4 : j = 4
  · rw [if_pos h4, if_pos h4]
  · rw [if_neg h4, if_neg h4, if_neg (by omega), if_neg (by omega)]
theorem yl64 {x y : Int32} : x.toInt64 = y.toInt64 ↔ x = y := ⟨fun h => Int32.toInt_inj.mp (by rw [← Int32.toInt_toInt64, ← Int32.toInt_toInt64, h]), fun h => by rw [h]⟩
theorem ylc1 {x y : Int32} : (lg_cmp x.toInt64 y.toInt64 < 0) = (x < y) := by
  unfold lg_cmp
  have e1 : (x.toInt64 > y.toInt64) ↔ y < x := Int32.toInt64_lt
  have e2 : (x.toInt64 = y.toInt64) ↔ x = y := yl64
  by_cases h1 : y < x
  · rw [if_pos (e1.mpr h1)]; exact propext ⟨fun q => absurd q (by decide), fun q => absurd (Int32.lt_trans q h1) Int32.lt_irrefl⟩
  · rw [if_neg (fun q => h1 (e1.mp q))]
    by_cases h2 : x = y
    · rw [if_pos (e2.mpr h2), h2]; exact propext ⟨fun q => absurd q (by decide), fun q => absurd q Int32.lt_irrefl⟩
    · rw [if_neg (fun q => h2 (e2.mp q))]
      exact propext ⟨fun _ => Int32.lt_of_le_of_ne (Int32.not_lt.mp h1) h2, fun _ => by decide⟩
theorem ylc2 {x y : Int32} : (0 < lg_cmp x.toInt64 y.toInt64) = (y < x) := by
  unfold lg_cmp
  have e1 : (x.toInt64 > y.toInt64) ↔ y < x := Int32.toInt64_lt
  have e2 : (x.toInt64 = y.toInt64) ↔ x = y := yl64
  by_cases h1 : y < x
  · rw [if_pos (e1.mpr h1)]; exact propext ⟨fun _ => h1, fun _ => by decide⟩
  · rw [if_neg (fun q => h1 (e1.mp q))]
    by_cases h2 : x = y
    · rw [if_pos (e2.mpr h2)]; exact propext ⟨fun q => absurd q (by decide), fun q => absurd q h1⟩
    · rw [if_neg (fun q => h2 (e2.mp q))]; exact propext ⟨fun q => absurd q (by decide), fun q => absurd q h1⟩
theorem y14 {w : Int32} : ((14 : Int32) < w) = ¬ (w < 15) := by
  refine propext ⟨fun h => Int32.not_lt.mpr ?_, fun h => ?_⟩
  · have a := Int32.lt_iff_toInt_lt.mp h
    have e1 : (14 : Int32).toInt = 14 := by decide
    have e2 : (15 : Int32).toInt = 15 := by decide
    refine Int32.le_iff_toInt_le.mpr ?_
    rw [e1] at a; rw [e2]; omega
  · have a := Int32.le_iff_toInt_le.mp (Int32.not_lt.mp h)
    have e1 : (14 : Int32).toInt = 14 := by decide
    have e2 : (15 : Int32).toInt = 15 := by decide
    refine Int32.lt_iff_toInt_lt.mpr ?_
    rw [e2] at a; rw [e1]; omega
theorem y2 {w : Int32} : ((2 : Int32) < w) = ¬ (w < 3) := by
  refine propext ⟨fun h => Int32.not_lt.mpr ?_, fun h => ?_⟩
  · have a := Int32.lt_iff_toInt_lt.mp h
    have e1 : (2 : Int32).toInt = 2 := by decide
    have e2 : (3 : Int32).toInt = 3 := by decide
    refine Int32.le_iff_toInt_le.mpr ?_
    rw [e1] at a; rw [e2]; omega
  · have a := Int32.le_iff_toInt_le.mp (Int32.not_lt.mp h)
    have e1 : (2 : Int32).toInt = 2 := by decide
    have e2 : (3 : Int32).toInt = 3 := by decide
    refine Int32.lt_iff_toInt_lt.mpr ?_
    rw [e2] at a; rw [e1]; omega
theorem ykind {k : Int32} : (¬ k < 2 ∧ ¬ 3 < k) = (k = 2 ∨ k = 3) := by
  refine propext ⟨fun h => ?_, fun h => ?_⟩
  · have a1 := Int32.le_iff_toInt_le.mp (Int32.not_lt.mp h.1)
    have a2 := Int32.le_iff_toInt_le.mp (Int32.not_lt.mp h.2)
    have e1 : (2 : Int32).toInt = 2 := by decide
    have e2 : (3 : Int32).toInt = 3 := by decide
    rw [e1] at a1; rw [e2] at a2
    rcases (show k.toInt = 2 ∨ k.toInt = 3 by omega) with q | q
    · exact Or.inl (Int32.toInt_inj.mp (by rw [q, e1]))
    · exact Or.inr (Int32.toInt_inj.mp (by rw [q, e2]))
  · rcases h with rfl | rfl <;> decide
theorem yuz30 {x i : Int32} (h : vp_in i 15) : upd (yz 0 0) ((30 : Int32) + i).toNatClampNeg x (179 : Int32).toNatClampNeg = 0 := by
  obtain ⟨j, hj, -, e, -⟩ := yplus (c := 30) (k := 30) (by decide) h (by decide) (by decide)
  rw [e, show (179 : Int32).toNatClampNeg = 179 from by decide]; unfold upd
  rw [if_neg (by omega)]; rfl
theorem yuz45 {x y i : Int32} (h : vp_in i 15) : upd (upd (yz 0 0) ((30 : Int32) + i).toNatClampNeg x) ((45 : Int32) + i).toNatClampNeg y (179 : Int32).toNatClampNeg = 0 := by
  obtain ⟨j, hj, -, e, -⟩ := yplus (c := 45) (k := 45) (by decide) h (by decide) (by decide)
  rw [e, show (179 : Int32).toNatClampNeg = 179 from by decide]
  show (if 179 = 45 + j then y else _) = _
  rw [if_neg (by omega)]
  exact yuz30 h
/-- in's answer, as a range -/
theorem yinr {w lo hi : Int32} {n : Nat} (hlo : lo = 0) (hn : hi.toInt + 1 = n) (h : ¬ zB (lo ≤ w ∧ w ≤ hi) = 0) : vp_in w n := by
  have h2 : lo ≤ w ∧ w ≤ hi := Decidable.not_not.mp (fun q => h (zB0.mpr q))
  subst hlo
  refine vp_in_iff.mpr ⟨by simpa using Int32.le_iff_toInt_le.mp h2.1, ?_⟩
  have := Int32.le_iff_toInt_le.mp h2.2
  omega
set_option maxHeartbeats 4000000 in
set_option maxRecDepth 100000 in
theorem r_inE (l : Launch) (dC : Nat → ClassId) (dI : Nat → Nat → Nat) (cyI cyZ cyO : ClassId) (sz : Nat) (v : Int32) (lo : Int32) (hi : Int32) (hE : hi < lo) : Met l yX11_in wsX11_in ({ frames := 0, cells := 0, slots := 0, locals := 0 }) (yPre [.long (v : Int32).toInt64, .long (lo : Int32).toInt64, .long (hi : Int32).toInt64] (dC, dI) [] (yT cyI cyZ cyO) sz) (yQi (fun (r : Int32) (u : Unit) => r = 0) (dC, dI) [] (yT cyI cyZ cyO) sz (fun _ => [])) 0 0 (va_A [] sz) := by
  refine yMet (cc := cX11_in) (maxL := 6) (ret := (some .boolean)) (by decide) rfl (Nat.le_of_ble_eq_true rfl) ?_
  intro p e s m below meth c A hx hb hr hlk hml hts hown hnm hsz hAe hP hK hD hA hS ls hl
  have hl : lv_has ls 6 [(0, .long (v : Int32).toInt64), (2, .long (lo : Int32).toInt64), (4, .long (hi : Int32).toInt64)] := hl
  refine lv_lload_n hx hb dX11_in_0 rfl (lv_at hl 0 rfl) ?_
  refine lv_lload_n hx hb dX11_in_1 rfl (lv_at hl 1 rfl) ?_
  refine W.lcmp hx hb dX11_in_2 ?_
  refine lv_if_lt (tgt := 17) hx hb dX11_in_3 (by decide) (fun c3 => ?_) (fun c3 => ?_)
  · refine lv_iconst (v := 0) hx hb dX11_in_17 (by decide) ?_
    refine W.widen (k := 0) (n := 0) (Nat.le_of_ble_eq_true rfl) (Nat.le_of_ble_eq_true rfl) ?_
    exact yy_iret (v := 0) () hx hb hr hlk rfl hsz hAe hK hP hD hS [] rfl rfl (by decide) (rfl) dX11_in_18
  · refine lv_lload_n hx hb dX11_in_6 rfl (lv_at hl 0 rfl) ?_
    refine lv_lload hx hb dX11_in_7 (lv_at hl 2 rfl) ?_
    refine W.lcmp hx hb dX11_in_9 ?_
    refine lv_if_gt (tgt := 17) hx hb dX11_in_10 (by decide) (fun c10 => ?_) (fun c10 => ?_)
    · refine lv_iconst (v := 0) hx hb dX11_in_17 (by decide) ?_
      refine W.widen (k := 0) (n := 0) (Nat.le_of_ble_eq_true rfl) (Nat.le_of_ble_eq_true rfl) ?_
      exact yy_iret (v := 0) () hx hb hr hlk rfl hsz hAe hK hP hD hS [] rfl rfl (by decide) (rfl) dX11_in_18
    · refine lv_iconst (v := 1) hx hb dX11_in_13 (by decide) ?_
      refine lv_goto (tgt := 18) hx hb dX11_in_14 (by decide) ?_
      refine W.widen (k := 0) (n := 0) (Nat.le_of_ble_eq_true rfl) (Nat.le_of_ble_eq_true rfl) ?_
      exact yy_iret (v := 1) () hx hb hr hlk rfl hsz hAe hK hP hD hS [] rfl rfl (by decide) (by rw [ylc1] at c3; rw [ylc2] at c10; exact absurd hE (Int32.not_lt.mpr (Int32.le_trans (Int32.not_lt.mp c3) (Int32.not_lt.mp c10)))) dX11_in_18
set_option maxHeartbeats 4000000 in
set_option maxRecDepth 100000 in
theorem r_in (l : Launch) (dC : Nat → ClassId) (dI : Nat → Nat → Nat) (cyI cyZ cyO : ClassId) (sz : Nat) (v : Int32) (lo : Int32) (hi : Int32)  : Met l yX11_in wsX11_in ({ frames := 0, cells := 0, slots := 0, locals := 0 }) (yPre [.long (v : Int32).toInt64, .long (lo : Int32).toInt64, .long (hi : Int32).toInt64] (dC, dI) [] (yT cyI cyZ cyO) sz) (yQi (fun (r : Int32) (u : Unit) => r = (zB (lo ≤ v ∧ v ≤ hi))) (dC, dI) [] (yT cyI cyZ cyO) sz (fun _ => [])) 0 0 (va_A [] sz) := by
  refine yMet (cc := cX11_in) (maxL := 6) (ret := (some .boolean)) (by decide) rfl (Nat.le_of_ble_eq_true rfl) ?_
  intro p e s m below meth c A hx hb hr hlk hml hts hown hnm hsz hAe hP hK hD hA hS ls hl
  have hl : lv_has ls 6 [(0, .long (v : Int32).toInt64), (2, .long (lo : Int32).toInt64), (4, .long (hi : Int32).toInt64)] := hl
  refine lv_lload_n hx hb dX11_in_0 rfl (lv_at hl 0 rfl) ?_
  refine lv_lload_n hx hb dX11_in_1 rfl (lv_at hl 1 rfl) ?_
  refine W.lcmp hx hb dX11_in_2 ?_
  refine lv_if_lt (tgt := 17) hx hb dX11_in_3 (by decide) (fun c3 => ?_) (fun c3 => ?_)
  · refine lv_iconst (v := 0) hx hb dX11_in_17 (by decide) ?_
    refine W.widen (k := 0) (n := 0) (Nat.le_of_ble_eq_true rfl) (Nat.le_of_ble_eq_true rfl) ?_
    exact yy_iret (v := 0) () hx hb hr hlk rfl hsz hAe hK hP hD hS [] rfl rfl (by decide) (by (try simp only [zB0, Decidable.not_not] at c3); (try simp only [isW, zB, ← Int32.not_lt, sp_slave, sp_register, sp_depth, sp_limit, sp_transfer, sp_clock, sp_finish, sp_turn, sp_wire, sp_findings, sp_bridge, sp_keep, sp_told, ylc1, ylc2, y14, y2] at c3 ⊢); (try simp only [Decidable.not_not] at c3 ⊢); (try simp only [c3, not_true_eq_false, not_false_eq_true, false_and, and_false, true_and, and_true, and_self, or_true, true_or, or_false, false_or, or_self, ↓reduceIte]); (try simp only [← and_assoc]); (try simp only [c3, not_true_eq_false, not_false_eq_true, false_and, and_false, true_and, and_true, and_self, or_true, true_or, or_false, false_or, or_self, ↓reduceIte]); (try decide)) dX11_in_18
  · refine lv_lload_n hx hb dX11_in_6 rfl (lv_at hl 0 rfl) ?_
    refine lv_lload hx hb dX11_in_7 (lv_at hl 2 rfl) ?_
    refine W.lcmp hx hb dX11_in_9 ?_
    refine lv_if_gt (tgt := 17) hx hb dX11_in_10 (by decide) (fun c10 => ?_) (fun c10 => ?_)
    · refine lv_iconst (v := 0) hx hb dX11_in_17 (by decide) ?_
      refine W.widen (k := 0) (n := 0) (Nat.le_of_ble_eq_true rfl) (Nat.le_of_ble_eq_true rfl) ?_
      exact yy_iret (v := 0) () hx hb hr hlk rfl hsz hAe hK hP hD hS [] rfl rfl (by decide) (by (try simp only [zB0, Decidable.not_not] at c3 c10); (try simp only [isW, zB, ← Int32.not_lt, sp_slave, sp_register, sp_depth, sp_limit, sp_transfer, sp_clock, sp_finish, sp_turn, sp_wire, sp_findings, sp_bridge, sp_keep, sp_told, ylc1, ylc2, y14, y2] at c3 c10 ⊢); (try simp only [Decidable.not_not] at c3 c10 ⊢); (try simp only [c3, c10, not_true_eq_false, not_false_eq_true, false_and, and_false, true_and, and_true, and_self, or_true, true_or, or_false, false_or, or_self, ↓reduceIte]); (try simp only [← and_assoc]); (try simp only [c3, c10, not_true_eq_false, not_false_eq_true, false_and, and_false, true_and, and_true, and_self, or_true, true_or, or_false, false_or, or_self, ↓reduceIte]); (try decide)) dX11_in_18
    · refine lv_iconst (v := 1) hx hb dX11_in_13 (by decide) ?_
      refine lv_goto (tgt := 18) hx hb dX11_in_14 (by decide) ?_
      refine W.widen (k := 0) (n := 0) (Nat.le_of_ble_eq_true rfl) (Nat.le_of_ble_eq_true rfl) ?_
      exact yy_iret (v := 1) () hx hb hr hlk rfl hsz hAe hK hP hD hS [] rfl rfl (by decide) (by (try simp only [zB0, Decidable.not_not] at c3 c10); (try simp only [isW, zB, ← Int32.not_lt, sp_slave, sp_register, sp_depth, sp_limit, sp_transfer, sp_clock, sp_finish, sp_turn, sp_wire, sp_findings, sp_bridge, sp_keep, sp_told, ylc1, ylc2, y14, y2] at c3 c10 ⊢); (try simp only [Decidable.not_not] at c3 c10 ⊢); (try simp only [c3, c10, not_true_eq_false, not_false_eq_true, false_and, and_false, true_and, and_true, and_self, or_true, true_or, or_false, false_or, or_self, ↓reduceIte]); (try simp only [← and_assoc]); (try simp only [c3, c10, not_true_eq_false, not_false_eq_true, false_and, and_false, true_and, and_true, and_self, or_true, true_or, or_false, false_or, or_self, ↓reduceIte]); (try decide)) dX11_in_18
set_option maxHeartbeats 4000000 in
set_option maxRecDepth 100000 in
theorem r_isWord (l : Launch) (dC : Nat → ClassId) (dI : Nat → Nat → Nat) (cyI cyZ cyO : ClassId) (sz : Nat) (w : Int32)  : Met l yX11_isWord wsX11_isWord ({ frames := 1, cells := 0, slots := 0, locals := 25 }) (yPre [.int w] (dC, dI) [] (yT cyI cyZ cyO) sz) (yQi (fun (r : Int32) (u : Unit) => r = (zB (isW w))) (dC, dI) [] (yT cyI cyZ cyO) sz (fun _ => [])) 0 0 (va_A [] sz) := by
  refine yMet (cc := cX11_isWord) (maxL := 1) (ret := (some .boolean)) (by decide) rfl (Nat.le_of_ble_eq_true rfl) ?_
  intro p e s m below meth c A hx hb hr hlk hml hts hown hnm hsz hAe hP hK hD hA hS ls hl
  have hl : lv_has ls 1 [(0, .int w)] := hl
  have hl72 := hts (.constantLong RX11 72 65532) (by decide +kernel)
  refine lv_iload_n hx hb dX11_isWord_0 rfl (lv_at hl 0 rfl) ?_
  refine lv_i2l hx hb dX11_isWord_1 rfl ?_
  refine lv_lconst (v := (0 : Int32).toInt64) hx hb dX11_isWord_2 (by decide) ?_
  refine lv_ldc2 (v := 65532) hx hb hown hl72 dX11_isWord_3 ?_
  refine yy_long (v := (65532 : Int32).toInt64) (by decide) ?_
  have hPc := hP.sub (ws' := []) [] rfl
  have hDc := hD.sub (ws' := []) [] (by decide) rfl
  refine yy_calli [] [] (wr := []) (va_runS (As := [.long (w : Int32).toInt64, .long (0 : Int32).toInt64, .long (65532 : Int32).toInt64]) (rest := []) ⟨hx, hb, hml, hown, hts⟩ (r_in l dC dI cyI cyZ cyO s.heap.size w 0 65532 ) (va_cwS 3 hts gX11_isWord_X11_in rfl rfl rfl (by decide +kernel) ⟨Nat.le_of_ble_eq_true rfl, Nat.le_of_ble_eq_true rfl⟩) (yPreS hK hPc hDc) rfl rfl hl.1 rfl (lv_room (Nat.le_of_ble_eq_true rfl)) dX11_isWord_6 ⟨Nat.le_of_ble_eq_true rfl, Nat.le_of_ble_eq_true rfl⟩) hP hD hS hA rfl rfl (by decide) (by decide) (fun r_2 u_1 H locs hw hP hD hS => ?_)
  have hP : va_P (dC, dI) vwCl [] H := hP
  have hD : va_D A [] := hD
  refine W.widen (k := 0) (n := 0) (Nat.le_of_ble_eq_true rfl) (Nat.le_of_ble_eq_true rfl) ?_
  have hw : r_2 = (zB (0 ≤ w ∧ w ≤ 65532)) := hw
  subst hw
  refine lv_if_eq (tgt := 22) hx hb dX11_isWord_9 (by decide) (fun c9 => ?_) (fun c9 => ?_)
  · refine lv_iconst (v := 0) hx hb dX11_isWord_22 (by decide) ?_
    refine W.widen (k := 0) (n := 0) (Nat.le_of_ble_eq_true rfl) (Nat.le_of_ble_eq_true rfl) ?_
    exact yy_iret (v := 0) () hx hb hr hlk rfl hsz hAe hK hP hD hS [] rfl rfl (by decide) (by (try simp only [zB0, Decidable.not_not] at c9); (try simp only [isW, zB, ← Int32.not_lt, sp_slave, sp_register, sp_depth, sp_limit, sp_transfer, sp_clock, sp_finish, sp_turn, sp_wire, sp_findings, sp_bridge, sp_keep, sp_told, ylc1, ylc2, y14, y2] at c9 ⊢); (try simp only [Decidable.not_not] at c9 ⊢); (try simp only [c9, not_true_eq_false, not_false_eq_true, false_and, and_false, true_and, and_true, and_self, or_true, true_or, or_false, false_or, or_self, ↓reduceIte]); (try simp only [← and_assoc]); (try simp only [c9, not_true_eq_false, not_false_eq_true, false_and, and_false, true_and, and_true, and_self, or_true, true_or, or_false, false_or, or_self, ↓reduceIte]); (try decide)) dX11_isWord_23
  · refine lv_iload_n hx hb dX11_isWord_12 rfl (lv_at hl 0 rfl) ?_
    refine lv_iconst (v := 4) hx hb dX11_isWord_13 (by decide) ?_
    refine lv_irem hx hb dX11_isWord_14 (by decide) ?_
    refine lv_if_ne (tgt := 22) hx hb dX11_isWord_15 (by decide) (fun c15 => ?_) (fun c15 => ?_)
    · refine lv_iconst (v := 0) hx hb dX11_isWord_22 (by decide) ?_
      refine W.widen (k := 0) (n := 0) (Nat.le_of_ble_eq_true rfl) (Nat.le_of_ble_eq_true rfl) ?_
      exact yy_iret (v := 0) () hx hb hr hlk rfl hsz hAe hK hP hD hS [] rfl rfl (by decide) (by (try simp only [zB0, Decidable.not_not] at c9 c15); (try simp only [isW, zB, ← Int32.not_lt, sp_slave, sp_register, sp_depth, sp_limit, sp_transfer, sp_clock, sp_finish, sp_turn, sp_wire, sp_findings, sp_bridge, sp_keep, sp_told, ylc1, ylc2, y14, y2] at c9 c15 ⊢); (try simp only [Decidable.not_not] at c9 c15 ⊢); (try simp only [c9, c15, not_true_eq_false, not_false_eq_true, false_and, and_false, true_and, and_true, and_self, or_true, true_or, or_false, false_or, or_self, ↓reduceIte]); (try simp only [← and_assoc]); (try simp only [c9, c15, not_true_eq_false, not_false_eq_true, false_and, and_false, true_and, and_true, and_self, or_true, true_or, or_false, false_or, or_self, ↓reduceIte]); (try decide)) dX11_isWord_23
    · refine lv_iconst (v := 1) hx hb dX11_isWord_18 (by decide) ?_
      refine lv_goto (tgt := 23) hx hb dX11_isWord_19 (by decide) ?_
      refine W.widen (k := 0) (n := 0) (Nat.le_of_ble_eq_true rfl) (Nat.le_of_ble_eq_true rfl) ?_
      exact yy_iret (v := 1) () hx hb hr hlk rfl hsz hAe hK hP hD hS [] rfl rfl (by decide) (by (try simp only [zB0, Decidable.not_not] at c9 c15); (try simp only [isW, zB, ← Int32.not_lt, sp_slave, sp_register, sp_depth, sp_limit, sp_transfer, sp_clock, sp_finish, sp_turn, sp_wire, sp_findings, sp_bridge, sp_keep, sp_told, ylc1, ylc2, y14, y2] at c9 c15 ⊢); (try simp only [Decidable.not_not] at c9 c15 ⊢); (try simp only [c9, c15, not_true_eq_false, not_false_eq_true, false_and, and_false, true_and, and_true, and_self, or_true, true_or, or_false, false_or, or_self, ↓reduceIte]); (try simp only [← and_assoc]); (try simp only [c9, c15, not_true_eq_false, not_false_eq_true, false_and, and_false, true_and, and_true, and_self, or_true, true_or, or_false, false_or, or_self, ↓reduceIte]); (try decide)) dX11_isWord_23
set_option maxHeartbeats 4000000 in
set_option maxRecDepth 100000 in
theorem r_done (l : Launch) (dC : Nat → ClassId) (dI : Nat → Nat → Nat) (cyI cyZ cyO : ClassId) (sz : Nat) (h0 : Nat) (h0_z : Nat) (h0_status : Int32) (h0_slaves : Int32) (h0_first : Nat) (h0_last : Nat) (h0_wait : Nat) (h0_broken : Nat) (h0_registers : Int32) (h0_word : Nat) (h0_kind : Nat) (h0_atFirst : Nat) (h0_deep : Int32) (h0_most : Int32) (h0_changes : Int32) (h0_see : Nat) (h0_set : Nat) (h0_gave : Int32) (h0_wrote : Int32) (h0_written : Nat) (h0_played : Nat) (h0_since : Nat) (h0_kept : Nat) (h0_keptChanges : Nat) (h0_isKept : Nat) (w : Int32)  : Met l yX11_done wsX11_done ({ frames := 0, cells := 0, slots := 0, locals := 0 }) (yPre [.ref h0, .int w] (dC, dI) [(h0, .inr (11, [.ref h0_z, .int h0_status, .int h0_slaves, .ref h0_first, .ref h0_last, .ref h0_wait, .ref h0_broken, .int h0_registers, .ref h0_word, .ref h0_kind, .ref h0_atFirst, .int h0_deep, .int h0_most, .int h0_changes, .ref h0_see, .ref h0_set, .int h0_gave, .int h0_wrote, .ref h0_written, .ref h0_played, .ref h0_since, .ref h0_kept, .ref h0_keptChanges, .ref h0_isKept]))] (yT cyI cyZ cyO) sz) (yQi (fun (r : Int32) (u : Unit) => r = w) (dC, dI) [(h0, .inr (11, [.ref h0_z, .int h0_status, .int h0_slaves, .ref h0_first, .ref h0_last, .ref h0_wait, .ref h0_broken, .int h0_registers, .ref h0_word, .ref h0_kind, .ref h0_atFirst, .int h0_deep, .int h0_most, .int h0_changes, .ref h0_see, .ref h0_set, .int h0_gave, .int h0_wrote, .ref h0_written, .ref h0_played, .ref h0_since, .ref h0_kept, .ref h0_keptChanges, .ref h0_isKept]))] (yT cyI cyZ cyO) sz (fun _ => [(h0, .inr (11, [.ref h0_z, .int 0, .int h0_slaves, .ref h0_first, .ref h0_last, .ref h0_wait, .ref h0_broken, .int h0_registers, .ref h0_word, .ref h0_kind, .ref h0_atFirst, .int h0_deep, .int h0_most, .int h0_changes, .ref h0_see, .ref h0_set, .int h0_gave, .int h0_wrote, .ref h0_written, .ref h0_played, .ref h0_since, .ref h0_kept, .ref h0_keptChanges, .ref h0_isKept]))])) 0 0 (va_A [(h0, .inr (11, [.ref h0_z, .int h0_status, .int h0_slaves, .ref h0_first, .ref h0_last, .ref h0_wait, .ref h0_broken, .int h0_registers, .ref h0_word, .ref h0_kind, .ref h0_atFirst, .int h0_deep, .int h0_most, .int h0_changes, .ref h0_see, .ref h0_set, .int h0_gave, .int h0_wrote, .ref h0_written, .ref h0_played, .ref h0_since, .ref h0_kept, .ref h0_keptChanges, .ref h0_isKept]))] sz) := by
  refine yMet (cc := cX11_done) (maxL := 2) (ret := (some .int)) (by decide) rfl (Nat.le_of_ble_eq_true rfl) ?_
  intro p e s m below meth c A hx hb hr hlk hml hts hown hnm hsz hAe hP hK hD hA hS ls hl
  have hl : lv_has ls 2 [(0, .ref h0), (1, .int w)] := hl
  have hf66 := hts (.fieldLink RX11 66 "BusBridgeModel" "status" "I") (by decide +kernel)
  have hnX11 : ∀ w ∈ wsX110, w ∈ wsX11_done := by decide +kernel
  refine lv_aload_n hx hb dX11_done_0 rfl (lv_at hl 0 rfl) ?_
  refine lv_iconst (v := 0) hx hb dX11_done_1 (by decide) ?_
  refine va_put (D := (dC, dI)) (ci := 11) (v := .int 0) (ty := .int) (C := RX11) (T := TX11) (N := 24) hx hb hts hnX11 tyX11 tyX11_ok nmX11 hown hK hP hD hS 0 rfl rfl 1 (by decide) hf66 (fun _ h9 => h9) rfl (by decide +kernel) rfl rfl (Nat.le_of_ble_eq_true rfl) dX11_done_2 (fun H locs hP hD hS => ?_)
  have hP : va_P (dC, dI) vwCl [(h0, .inr (11, [.ref h0_z, .int 0, .int h0_slaves, .ref h0_first, .ref h0_last, .ref h0_wait, .ref h0_broken, .int h0_registers, .ref h0_word, .ref h0_kind, .ref h0_atFirst, .int h0_deep, .int h0_most, .int h0_changes, .ref h0_see, .ref h0_set, .int h0_gave, .int h0_wrote, .ref h0_written, .ref h0_played, .ref h0_since, .ref h0_kept, .ref h0_keptChanges, .ref h0_isKept]))] H := hP
  have hD : va_D A [(h0, .inr (11, [.ref h0_z, .int 0, .int h0_slaves, .ref h0_first, .ref h0_last, .ref h0_wait, .ref h0_broken, .int h0_registers, .ref h0_word, .ref h0_kind, .ref h0_atFirst, .int h0_deep, .int h0_most, .int h0_changes, .ref h0_see, .ref h0_set, .int h0_gave, .int h0_wrote, .ref h0_written, .ref h0_played, .ref h0_since, .ref h0_kept, .ref h0_keptChanges, .ref h0_isKept]))] := hD
  refine lv_iload_n hx hb dX11_done_5 rfl (lv_at hl 1 rfl) ?_
  refine W.widen (k := 0) (n := 0) (Nat.le_of_ble_eq_true rfl) (Nat.le_of_ble_eq_true rfl) ?_
  exact yy_iret (v := w) () hx hb hr hlk rfl hsz hAe hK hP hD hS [0] rfl rfl (by decide) (rfl) dX11_done_6
set_option maxHeartbeats 4000000 in
set_option maxRecDepth 100000 in
theorem r_refused (l : Launch) (dC : Nat → ClassId) (dI : Nat → Nat → Nat) (cyI cyZ cyO : ClassId) (sz : Nat) (h0 : Nat) (h0_z : Nat) (h0_status : Int32) (h0_slaves : Int32) (h0_first : Nat) (h0_last : Nat) (h0_wait : Nat) (h0_broken : Nat) (h0_registers : Int32) (h0_word : Nat) (h0_kind : Nat) (h0_atFirst : Nat) (h0_deep : Int32) (h0_most : Int32) (h0_changes : Int32) (h0_see : Nat) (h0_set : Nat) (h0_gave : Int32) (h0_wrote : Int32) (h0_written : Nat) (h0_played : Nat) (h0_since : Nat) (h0_kept : Nat) (h0_keptChanges : Nat) (h0_isKept : Nat) (w : Int32)  : Met l yX11_refused wsX11_refused ({ frames := 0, cells := 0, slots := 0, locals := 0 }) (yPre [.ref h0, .int w] (dC, dI) [(h0, .inr (11, [.ref h0_z, .int h0_status, .int h0_slaves, .ref h0_first, .ref h0_last, .ref h0_wait, .ref h0_broken, .int h0_registers, .ref h0_word, .ref h0_kind, .ref h0_atFirst, .int h0_deep, .int h0_most, .int h0_changes, .ref h0_see, .ref h0_set, .int h0_gave, .int h0_wrote, .ref h0_written, .ref h0_played, .ref h0_since, .ref h0_kept, .ref h0_keptChanges, .ref h0_isKept]))] (yT cyI cyZ cyO) sz) (yQi (fun (r : Int32) (u : Unit) => r = w) (dC, dI) [(h0, .inr (11, [.ref h0_z, .int h0_status, .int h0_slaves, .ref h0_first, .ref h0_last, .ref h0_wait, .ref h0_broken, .int h0_registers, .ref h0_word, .ref h0_kind, .ref h0_atFirst, .int h0_deep, .int h0_most, .int h0_changes, .ref h0_see, .ref h0_set, .int h0_gave, .int h0_wrote, .ref h0_written, .ref h0_played, .ref h0_since, .ref h0_kept, .ref h0_keptChanges, .ref h0_isKept]))] (yT cyI cyZ cyO) sz (fun _ => [(h0, .inr (11, [.ref h0_z, .int w, .int h0_slaves, .ref h0_first, .ref h0_last, .ref h0_wait, .ref h0_broken, .int h0_registers, .ref h0_word, .ref h0_kind, .ref h0_atFirst, .int h0_deep, .int h0_most, .int h0_changes, .ref h0_see, .ref h0_set, .int h0_gave, .int h0_wrote, .ref h0_written, .ref h0_played, .ref h0_since, .ref h0_kept, .ref h0_keptChanges, .ref h0_isKept]))])) 0 0 (va_A [(h0, .inr (11, [.ref h0_z, .int h0_status, .int h0_slaves, .ref h0_first, .ref h0_last, .ref h0_wait, .ref h0_broken, .int h0_registers, .ref h0_word, .ref h0_kind, .ref h0_atFirst, .int h0_deep, .int h0_most, .int h0_changes, .ref h0_see, .ref h0_set, .int h0_gave, .int h0_wrote, .ref h0_written, .ref h0_played, .ref h0_since, .ref h0_kept, .ref h0_keptChanges, .ref h0_isKept]))] sz) := by
  refine yMet (cc := cX11_refused) (maxL := 2) (ret := (some .int)) (by decide) rfl (Nat.le_of_ble_eq_true rfl) ?_
  intro p e s m below meth c A hx hb hr hlk hml hts hown hnm hsz hAe hP hK hD hA hS ls hl
  have hl : lv_has ls 2 [(0, .ref h0), (1, .int w)] := hl
  have hf66 := hts (.fieldLink RX11 66 "BusBridgeModel" "status" "I") (by decide +kernel)
  have hnX11 : ∀ w ∈ wsX110, w ∈ wsX11_refused := by decide +kernel
  refine lv_aload_n hx hb dX11_refused_0 rfl (lv_at hl 0 rfl) ?_
  refine lv_iload_n hx hb dX11_refused_1 rfl (lv_at hl 1 rfl) ?_
  refine va_put (D := (dC, dI)) (ci := 11) (v := .int w) (ty := .int) (C := RX11) (T := TX11) (N := 24) hx hb hts hnX11 tyX11 tyX11_ok nmX11 hown hK hP hD hS 0 rfl rfl 1 (by decide) hf66 (fun _ h9 => h9) rfl (by decide +kernel) rfl rfl (Nat.le_of_ble_eq_true rfl) dX11_refused_2 (fun H locs hP hD hS => ?_)
  have hP : va_P (dC, dI) vwCl [(h0, .inr (11, [.ref h0_z, .int w, .int h0_slaves, .ref h0_first, .ref h0_last, .ref h0_wait, .ref h0_broken, .int h0_registers, .ref h0_word, .ref h0_kind, .ref h0_atFirst, .int h0_deep, .int h0_most, .int h0_changes, .ref h0_see, .ref h0_set, .int h0_gave, .int h0_wrote, .ref h0_written, .ref h0_played, .ref h0_since, .ref h0_kept, .ref h0_keptChanges, .ref h0_isKept]))] H := hP
  have hD : va_D A [(h0, .inr (11, [.ref h0_z, .int w, .int h0_slaves, .ref h0_first, .ref h0_last, .ref h0_wait, .ref h0_broken, .int h0_registers, .ref h0_word, .ref h0_kind, .ref h0_atFirst, .int h0_deep, .int h0_most, .int h0_changes, .ref h0_see, .ref h0_set, .int h0_gave, .int h0_wrote, .ref h0_written, .ref h0_played, .ref h0_since, .ref h0_kept, .ref h0_keptChanges, .ref h0_isKept]))] := hD
  refine lv_iload_n hx hb dX11_refused_5 rfl (lv_at hl 1 rfl) ?_
  refine W.widen (k := 0) (n := 0) (Nat.le_of_ble_eq_true rfl) (Nat.le_of_ble_eq_true rfl) ?_
  exact yy_iret (v := w) () hx hb hr hlk rfl hsz hAe hK hP hD hS [0] rfl rfl (by decide) (rfl) dX11_refused_6
set_option maxHeartbeats 4000000 in
set_option maxRecDepth 100000 in
theorem r_none (l : Launch) (dC : Nat → ClassId) (dI : Nat → Nat → Nat) (cyI cyZ cyO : ClassId) (sz : Nat) (h0 : Nat) (h0_z : Nat) (h0_status : Int32) (h0_slaves : Int32) (h0_first : Nat) (h0_last : Nat) (h0_wait : Nat) (h0_broken : Nat) (h0_registers : Int32) (h0_word : Nat) (h0_kind : Nat) (h0_atFirst : Nat) (h0_deep : Int32) (h0_most : Int32) (h0_changes : Int32) (h0_see : Nat) (h0_set : Nat) (h0_gave : Int32) (h0_wrote : Int32) (h0_written : Nat) (h0_played : Nat) (h0_since : Nat) (h0_kept : Nat) (h0_keptChanges : Nat) (h0_isKept : Nat) (w : Int32)  : Met l yX11_none wsX11_none ({ frames := 0, cells := 0, slots := 0, locals := 0 }) (yPre [.ref h0, .int w] (dC, dI) [(h0, .inr (11, [.ref h0_z, .int h0_status, .int h0_slaves, .ref h0_first, .ref h0_last, .ref h0_wait, .ref h0_broken, .int h0_registers, .ref h0_word, .ref h0_kind, .ref h0_atFirst, .int h0_deep, .int h0_most, .int h0_changes, .ref h0_see, .ref h0_set, .int h0_gave, .int h0_wrote, .ref h0_written, .ref h0_played, .ref h0_since, .ref h0_kept, .ref h0_keptChanges, .ref h0_isKept]))] (yT cyI cyZ cyO) sz) (yQi (fun (r : Int32) (u : Unit) => r = 0) (dC, dI) [(h0, .inr (11, [.ref h0_z, .int h0_status, .int h0_slaves, .ref h0_first, .ref h0_last, .ref h0_wait, .ref h0_broken, .int h0_registers, .ref h0_word, .ref h0_kind, .ref h0_atFirst, .int h0_deep, .int h0_most, .int h0_changes, .ref h0_see, .ref h0_set, .int h0_gave, .int h0_wrote, .ref h0_written, .ref h0_played, .ref h0_since, .ref h0_kept, .ref h0_keptChanges, .ref h0_isKept]))] (yT cyI cyZ cyO) sz (fun _ => [(h0, .inr (11, [.ref h0_z, .int w, .int h0_slaves, .ref h0_first, .ref h0_last, .ref h0_wait, .ref h0_broken, .int h0_registers, .ref h0_word, .ref h0_kind, .ref h0_atFirst, .int h0_deep, .int h0_most, .int h0_changes, .ref h0_see, .ref h0_set, .int h0_gave, .int h0_wrote, .ref h0_written, .ref h0_played, .ref h0_since, .ref h0_kept, .ref h0_keptChanges, .ref h0_isKept]))])) 0 0 (va_A [(h0, .inr (11, [.ref h0_z, .int h0_status, .int h0_slaves, .ref h0_first, .ref h0_last, .ref h0_wait, .ref h0_broken, .int h0_registers, .ref h0_word, .ref h0_kind, .ref h0_atFirst, .int h0_deep, .int h0_most, .int h0_changes, .ref h0_see, .ref h0_set, .int h0_gave, .int h0_wrote, .ref h0_written, .ref h0_played, .ref h0_since, .ref h0_kept, .ref h0_keptChanges, .ref h0_isKept]))] sz) := by
  refine yMet (cc := cX11_none) (maxL := 2) (ret := (some .int)) (by decide) rfl (Nat.le_of_ble_eq_true rfl) ?_
  intro p e s m below meth c A hx hb hr hlk hml hts hown hnm hsz hAe hP hK hD hA hS ls hl
  have hl : lv_has ls 2 [(0, .ref h0), (1, .int w)] := hl
  have hf66 := hts (.fieldLink RX11 66 "BusBridgeModel" "status" "I") (by decide +kernel)
  have hnX11 : ∀ w ∈ wsX110, w ∈ wsX11_none := by decide +kernel
  refine lv_aload_n hx hb dX11_none_0 rfl (lv_at hl 0 rfl) ?_
  refine lv_iload_n hx hb dX11_none_1 rfl (lv_at hl 1 rfl) ?_
  refine va_put (D := (dC, dI)) (ci := 11) (v := .int w) (ty := .int) (C := RX11) (T := TX11) (N := 24) hx hb hts hnX11 tyX11 tyX11_ok nmX11 hown hK hP hD hS 0 rfl rfl 1 (by decide) hf66 (fun _ h9 => h9) rfl (by decide +kernel) rfl rfl (Nat.le_of_ble_eq_true rfl) dX11_none_2 (fun H locs hP hD hS => ?_)
  have hP : va_P (dC, dI) vwCl [(h0, .inr (11, [.ref h0_z, .int w, .int h0_slaves, .ref h0_first, .ref h0_last, .ref h0_wait, .ref h0_broken, .int h0_registers, .ref h0_word, .ref h0_kind, .ref h0_atFirst, .int h0_deep, .int h0_most, .int h0_changes, .ref h0_see, .ref h0_set, .int h0_gave, .int h0_wrote, .ref h0_written, .ref h0_played, .ref h0_since, .ref h0_kept, .ref h0_keptChanges, .ref h0_isKept]))] H := hP
  have hD : va_D A [(h0, .inr (11, [.ref h0_z, .int w, .int h0_slaves, .ref h0_first, .ref h0_last, .ref h0_wait, .ref h0_broken, .int h0_registers, .ref h0_word, .ref h0_kind, .ref h0_atFirst, .int h0_deep, .int h0_most, .int h0_changes, .ref h0_see, .ref h0_set, .int h0_gave, .int h0_wrote, .ref h0_written, .ref h0_played, .ref h0_since, .ref h0_kept, .ref h0_keptChanges, .ref h0_isKept]))] := hD
  refine lv_iconst (v := 0) hx hb dX11_none_5 (by decide) ?_
  refine W.widen (k := 0) (n := 0) (Nat.le_of_ble_eq_true rfl) (Nat.le_of_ble_eq_true rfl) ?_
  exact yy_iret (v := 0) () hx hb hr hlk rfl hsz hAe hK hP hD hS [0] rfl rfl (by decide) (rfl) dX11_none_6
set_option maxHeartbeats 4000000 in
set_option maxRecDepth 100000 in
theorem r_begin0 (l : Launch) (dC : Nat → ClassId) (dI : Nat → Nat → Nat) (cyI cyZ cyO : ClassId) (sz : Nat) (h0 : Nat) (rz : Nat) (rf : Nat) (rl : Nat) (rwx : Nat) (rb : Nat) (rwd : Nat) (rk : Nat) (ra : Nat) (rs : Nat) (rt : Nat) (rwr : Nat) (rp : Nat) (rsi : Nat) (rke : Nat) (rkc : Nat) (rik : Nat)  : Met l yX11_begin wsX11_begin ({ frames := 0, cells := 0, slots := 0, locals := 0 }) (yPre [.ref h0] (dC, dI) [(h0, .inr (11, [.ref rz, .int 0, .int 0, .ref rf, .ref rl, .ref rwx, .ref rb, .int 0, .ref rwd, .ref rk, .ref ra, .int 0, .int 32, .int 0, .ref rs, .ref rt, .int 0, .int 0, .ref rwr, .ref rp, .ref rsi, .ref rke, .ref rkc, .ref rik])), (rz, .inl (cyI, 2490, .inl (fun _ => 0)))] (yT cyI cyZ cyO) sz) (yQv (fun (u : Unit) => True) (dC, dI) [(h0, .inr (11, [.ref rz, .int 0, .int 0, .ref rf, .ref rl, .ref rwx, .ref rb, .int 0, .ref rwd, .ref rk, .ref ra, .int 0, .int 32, .int 0, .ref rs, .ref rt, .int 0, .int 0, .ref rwr, .ref rp, .ref rsi, .ref rke, .ref rkc, .ref rik])), (rz, .inl (cyI, 2490, .inl (fun _ => 0)))] (yT cyI cyZ cyO) sz (fun _ => [(h0, .inr (11, [.ref rz, .int 0, .int 0, .ref rf, .ref rl, .ref rwx, .ref rb, .int 0, .ref rwd, .ref rk, .ref ra, .int 0, .int 32, .int 0, .ref rs, .ref rt, .int 0, .int 0, .ref rwr, .ref rp, .ref rsi, .ref rke, .ref rkc, .ref rik])), (rz, .inl (cyI, 2490, .inl (yz 0 0)))])) 0 0 (va_A [(h0, .inr (11, [.ref rz, .int 0, .int 0, .ref rf, .ref rl, .ref rwx, .ref rb, .int 0, .ref rwd, .ref rk, .ref ra, .int 0, .int 32, .int 0, .ref rs, .ref rt, .int 0, .int 0, .ref rwr, .ref rp, .ref rsi, .ref rke, .ref rkc, .ref rik])), (rz, .inl (cyI, 2490, .inl (fun _ => 0)))] sz) := by
  refine yMet (cc := cX11_begin) (maxL := 2) (ret := none) (by decide) rfl (Nat.le_of_ble_eq_true rfl) ?_
  intro p e s m below meth c A hx hb hr hlk hml hts hown hnm hsz hAe hP hK hD hA hS ls hl
  have hl : lv_has ls 2 [(0, .ref h0)] := hl
  have hf69 := hts (.fieldLink RX11 69 "BusBridgeModel" "registers" "I") (by decide +kernel)
  have hf7 := hts (.fieldLink RX11 7 "BusBridgeModel" "z" "[I") (by decide +kernel)
  have hnX11 : ∀ w ∈ wsX110, w ∈ wsX11_begin := by decide +kernel
  refine lv_iconst (v := 0) hx hb dX11_begin_0 (by decide) ?_
  refine lv_istore_n (lv' := [(1, .int 0), (0, .ref h0)]) hx hb dX11_begin_1 rfl hl (by decide) rfl (fun ls hl => ?_)
  have key : ∀ (k i : Nat) (x : Int32) (g : Nat → Int32) (H : Heap) (locs : List Loc) (ls : Array Slot), i ≤ 2490 → 2491 ≤ i + k → x = nI i → g = yfill (fun _ => 0) 0 i → va_P (dC, dI) vwCl [(h0, .inr (11, [.ref rz, .int 0, .int 0, .ref rf, .ref rl, .ref rwx, .ref rb, .int 0, .ref rwd, .ref rk, .ref ra, .int 0, .int 32, .int 0, .ref rs, .ref rt, .int 0, .int 0, .ref rwr, .ref rp, .ref rsi, .ref rke, .ref rkc, .ref rik])), (rz, .inl (cyI, 2490, .inl g))] H → va_D A [(h0, .inr (11, [.ref rz, .int 0, .int 0, .ref rf, .ref rl, .ref rwx, .ref rb, .int 0, .ref rwd, .ref rk, .ref ra, .int 0, .int 32, .int 0, .ref rs, .ref rt, .int 0, .int 0, .ref rwr, .ref rp, .ref rsi, .ref rke, .ref rkc, .ref rik])), (rz, .inl (cyI, 2490, .inl g))] → va_S A s.heap H locs → lv_has ls 2 [(1, .int x), (0, .ref h0)] → W p l e ({ frames := 0, cells := 0, slots := 0, locals := 0 } : Room) s m [.ref h0].toArray below meth c H locs 0 0 (MQ below (yQv (fun (u : Unit) => True) (dC, dI) [(h0, .inr (11, [.ref rz, .int 0, .int 0, .ref rf, .ref rl, .ref rwx, .ref rb, .int 0, .ref rwd, .ref rk, .ref ra, .int 0, .int 32, .int 0, .ref rs, .ref rt, .int 0, .int 0, .ref rwr, .ref rp, .ref rsi, .ref rke, .ref rkc, .ref rik])), (rz, .inl (cyI, 2490, .inl (fun _ => 0)))] (yT cyI cyZ cyO) sz (fun _ => [(h0, .inr (11, [.ref rz, .int 0, .int 0, .ref rf, .ref rl, .ref rwx, .ref rb, .int 0, .ref rwd, .ref rk, .ref ra, .int 0, .int 32, .int 0, .ref rs, .ref rt, .int 0, .int 0, .ref rwr, .ref rp, .ref rsi, .ref rke, .ref rkc, .ref rik])), (rz, .inl (cyI, 2490, .inl (yz 0 0)))])) [.ref h0].toArray s 0 0 A) (F0 m 2 ls []) := by
    intro k
    induction k with
    | zero => intro i x g H locs ls h1 h2; exact absurd h2 (by omega)
    | succ k ih =>
      intro i x g H locs ls h1 h2 ex eg hP hD hS hl
      refine lv_iload_n hx hb dX11_begin_2 rfl (lv_at hl 0 rfl) ?_
      refine lv_sipush (v := 2490) hx hb dX11_begin_3 (by decide) ?_
      refine lv_icmp_ge (tgt := 22) hx hb dX11_begin_6 (by decide) (fun c6 => ?_) (fun c6 => ?_)
      · have ei : i = 2490 := by rcases Nat.lt_or_ge i 2490 with q | q; exact absurd (by rw [ex] at c6; exact c6) (nI_ge q (by decide)); omega
        subst ei
        rw [eg, yfill_n (by first | exact fun _ _ => rfl | exact yz_out)] at hP hD
        refine lv_aload_n hx hb dX11_begin_22 rfl (lv_at hl 1 rfl) ?_
        refine va_get (D := (dC, dI)) (ci := 11) (v := .ref rz) (C := RX11) (T := TX11) (N := 24) hx hb hts hnX11 hown hK hP 0 rfl rfl 0 (by decide) hf7 (fun _ h9 => h9) rfl dX11_begin_23 ?_
        refine lv_iconst (v := 4) hx hb dX11_begin_26 (by decide) ?_
        refine lv_iconst (v := 1) hx hb dX11_begin_27 (by decide) ?_
        refine yy_iast (f' := (yA 0)) hx hb hK hP hD hS 1 0 rfl rfl (yin (by decide)) dX11_begin_28 yA_0 (fun H locs hP hD hS => ?_)
        have hP : va_P (dC, dI) vwCl [(h0, .inr (11, [.ref rz, .int 0, .int 0, .ref rf, .ref rl, .ref rwx, .ref rb, .int 0, .ref rwd, .ref rk, .ref ra, .int 0, .int 32, .int 0, .ref rs, .ref rt, .int 0, .int 0, .ref rwr, .ref rp, .ref rsi, .ref rke, .ref rkc, .ref rik])), (rz, .inl (cyI, 2490, .inl (yA 0)))] H := hP
        have hD : va_D A [(h0, .inr (11, [.ref rz, .int 0, .int 0, .ref rf, .ref rl, .ref rwx, .ref rb, .int 0, .ref rwd, .ref rk, .ref ra, .int 0, .int 32, .int 0, .ref rs, .ref rt, .int 0, .int 0, .ref rwr, .ref rp, .ref rsi, .ref rke, .ref rkc, .ref rik])), (rz, .inl (cyI, 2490, .inl (yA 0)))] := hD
        refine lv_iconst (v := 0) hx hb dX11_begin_29 (by decide) ?_
        refine lv_istore_n (lv' := [(1, .int 0), (0, .ref h0)]) hx hb dX11_begin_30 rfl hl (by decide) rfl (fun ls hl => ?_)
        refine lv_iload_n hx hb dX11_begin_31 rfl (lv_at hl 0 rfl) ?_
        refine lv_bipush (v := 15) hx hb dX11_begin_32 (by decide) ?_
        refine lv_icmp_ge (tgt := 53) hx hb dX11_begin_34 (by decide) (fun c => absurd c (by decide)) (fun _ => ?_)
        refine lv_aload_n hx hb dX11_begin_37 rfl (lv_at hl 1 rfl) ?_
        refine va_get (D := (dC, dI)) (ci := 11) (v := .ref rz) (C := RX11) (T := TX11) (N := 24) hx hb hts hnX11 hown hK hP 0 rfl rfl 0 (by decide) hf7 (fun _ h9 => h9) rfl dX11_begin_38 ?_
        refine lv_bipush (v := 45) hx hb dX11_begin_41 (by decide) ?_
        refine lv_iload_n hx hb dX11_begin_43 rfl (lv_at hl 0 rfl) ?_
        refine lv_iadd hx hb dX11_begin_44 ?_
        refine yy_int (v := 45) (by decide) ?_
        refine lv_iconst (v := 1) hx hb dX11_begin_45 (by decide) ?_
        refine yy_iast (f' := (yA 1)) hx hb hK hP hD hS 1 0 rfl rfl (yin (by decide)) dX11_begin_46 yA_s (fun H locs hP hD hS => ?_)
        have hP : va_P (dC, dI) vwCl [(h0, .inr (11, [.ref rz, .int 0, .int 0, .ref rf, .ref rl, .ref rwx, .ref rb, .int 0, .ref rwd, .ref rk, .ref ra, .int 0, .int 32, .int 0, .ref rs, .ref rt, .int 0, .int 0, .ref rwr, .ref rp, .ref rsi, .ref rke, .ref rkc, .ref rik])), (rz, .inl (cyI, 2490, .inl (yA 1)))] H := hP
        have hD : va_D A [(h0, .inr (11, [.ref rz, .int 0, .int 0, .ref rf, .ref rl, .ref rwx, .ref rb, .int 0, .ref rwd, .ref rk, .ref ra, .int 0, .int 32, .int 0, .ref rs, .ref rt, .int 0, .int 0, .ref rwr, .ref rp, .ref rsi, .ref rke, .ref rkc, .ref rik])), (rz, .inl (cyI, 2490, .inl (yA 1)))] := hD
        refine lv_iinc (v := 1) (lv' := [(1, .int 1), (0, .ref h0)]) hx hb dX11_begin_47 hl (k := 0) rfl (by decide) (by decide) rfl (fun ls hl => ?_)
        refine lv_goto (tgt := 31) hx hb dX11_begin_50 (by decide) ?_
        refine lv_iload_n hx hb dX11_begin_31 rfl (lv_at hl 0 rfl) ?_
        refine lv_bipush (v := 15) hx hb dX11_begin_32 (by decide) ?_
        refine lv_icmp_ge (tgt := 53) hx hb dX11_begin_34 (by decide) (fun c => absurd c (by decide)) (fun _ => ?_)
        refine lv_aload_n hx hb dX11_begin_37 rfl (lv_at hl 1 rfl) ?_
        refine va_get (D := (dC, dI)) (ci := 11) (v := .ref rz) (C := RX11) (T := TX11) (N := 24) hx hb hts hnX11 hown hK hP 0 rfl rfl 0 (by decide) hf7 (fun _ h9 => h9) rfl dX11_begin_38 ?_
        refine lv_bipush (v := 45) hx hb dX11_begin_41 (by decide) ?_
        refine lv_iload_n hx hb dX11_begin_43 rfl (lv_at hl 0 rfl) ?_
        refine lv_iadd hx hb dX11_begin_44 ?_
        refine yy_int (v := 46) (by decide) ?_
        refine lv_iconst (v := 1) hx hb dX11_begin_45 (by decide) ?_
        refine yy_iast (f' := (yA 2)) hx hb hK hP hD hS 1 0 rfl rfl (yin (by decide)) dX11_begin_46 yA_s (fun H locs hP hD hS => ?_)
        have hP : va_P (dC, dI) vwCl [(h0, .inr (11, [.ref rz, .int 0, .int 0, .ref rf, .ref rl, .ref rwx, .ref rb, .int 0, .ref rwd, .ref rk, .ref ra, .int 0, .int 32, .int 0, .ref rs, .ref rt, .int 0, .int 0, .ref rwr, .ref rp, .ref rsi, .ref rke, .ref rkc, .ref rik])), (rz, .inl (cyI, 2490, .inl (yA 2)))] H := hP
        have hD : va_D A [(h0, .inr (11, [.ref rz, .int 0, .int 0, .ref rf, .ref rl, .ref rwx, .ref rb, .int 0, .ref rwd, .ref rk, .ref ra, .int 0, .int 32, .int 0, .ref rs, .ref rt, .int 0, .int 0, .ref rwr, .ref rp, .ref rsi, .ref rke, .ref rkc, .ref rik])), (rz, .inl (cyI, 2490, .inl (yA 2)))] := hD
        refine lv_iinc (v := 2) (lv' := [(1, .int 2), (0, .ref h0)]) hx hb dX11_begin_47 hl (k := 0) rfl (by decide) (by decide) rfl (fun ls hl => ?_)
        refine lv_goto (tgt := 31) hx hb dX11_begin_50 (by decide) ?_
        refine lv_iload_n hx hb dX11_begin_31 rfl (lv_at hl 0 rfl) ?_
        refine lv_bipush (v := 15) hx hb dX11_begin_32 (by decide) ?_
        refine lv_icmp_ge (tgt := 53) hx hb dX11_begin_34 (by decide) (fun c => absurd c (by decide)) (fun _ => ?_)
        refine lv_aload_n hx hb dX11_begin_37 rfl (lv_at hl 1 rfl) ?_
        refine va_get (D := (dC, dI)) (ci := 11) (v := .ref rz) (C := RX11) (T := TX11) (N := 24) hx hb hts hnX11 hown hK hP 0 rfl rfl 0 (by decide) hf7 (fun _ h9 => h9) rfl dX11_begin_38 ?_
        refine lv_bipush (v := 45) hx hb dX11_begin_41 (by decide) ?_
        refine lv_iload_n hx hb dX11_begin_43 rfl (lv_at hl 0 rfl) ?_
        refine lv_iadd hx hb dX11_begin_44 ?_
        refine yy_int (v := 47) (by decide) ?_
        refine lv_iconst (v := 1) hx hb dX11_begin_45 (by decide) ?_
        refine yy_iast (f' := (yA 3)) hx hb hK hP hD hS 1 0 rfl rfl (yin (by decide)) dX11_begin_46 yA_s (fun H locs hP hD hS => ?_)
        have hP : va_P (dC, dI) vwCl [(h0, .inr (11, [.ref rz, .int 0, .int 0, .ref rf, .ref rl, .ref rwx, .ref rb, .int 0, .ref rwd, .ref rk, .ref ra, .int 0, .int 32, .int 0, .ref rs, .ref rt, .int 0, .int 0, .ref rwr, .ref rp, .ref rsi, .ref rke, .ref rkc, .ref rik])), (rz, .inl (cyI, 2490, .inl (yA 3)))] H := hP
        have hD : va_D A [(h0, .inr (11, [.ref rz, .int 0, .int 0, .ref rf, .ref rl, .ref rwx, .ref rb, .int 0, .ref rwd, .ref rk, .ref ra, .int 0, .int 32, .int 0, .ref rs, .ref rt, .int 0, .int 0, .ref rwr, .ref rp, .ref rsi, .ref rke, .ref rkc, .ref rik])), (rz, .inl (cyI, 2490, .inl (yA 3)))] := hD
        refine lv_iinc (v := 3) (lv' := [(1, .int 3), (0, .ref h0)]) hx hb dX11_begin_47 hl (k := 0) rfl (by decide) (by decide) rfl (fun ls hl => ?_)
        refine lv_goto (tgt := 31) hx hb dX11_begin_50 (by decide) ?_
        refine lv_iload_n hx hb dX11_begin_31 rfl (lv_at hl 0 rfl) ?_
        refine lv_bipush (v := 15) hx hb dX11_begin_32 (by decide) ?_
        refine lv_icmp_ge (tgt := 53) hx hb dX11_begin_34 (by decide) (fun c => absurd c (by decide)) (fun _ => ?_)
        refine lv_aload_n hx hb dX11_begin_37 rfl (lv_at hl 1 rfl) ?_
        refine va_get (D := (dC, dI)) (ci := 11) (v := .ref rz) (C := RX11) (T := TX11) (N := 24) hx hb hts hnX11 hown hK hP 0 rfl rfl 0 (by decide) hf7 (fun _ h9 => h9) rfl dX11_begin_38 ?_
        refine lv_bipush (v := 45) hx hb dX11_begin_41 (by decide) ?_
        refine lv_iload_n hx hb dX11_begin_43 rfl (lv_at hl 0 rfl) ?_
        refine lv_iadd hx hb dX11_begin_44 ?_
        refine yy_int (v := 48) (by decide) ?_
        refine lv_iconst (v := 1) hx hb dX11_begin_45 (by decide) ?_
        refine yy_iast (f' := (yA 4)) hx hb hK hP hD hS 1 0 rfl rfl (yin (by decide)) dX11_begin_46 yA_s (fun H locs hP hD hS => ?_)
        have hP : va_P (dC, dI) vwCl [(h0, .inr (11, [.ref rz, .int 0, .int 0, .ref rf, .ref rl, .ref rwx, .ref rb, .int 0, .ref rwd, .ref rk, .ref ra, .int 0, .int 32, .int 0, .ref rs, .ref rt, .int 0, .int 0, .ref rwr, .ref rp, .ref rsi, .ref rke, .ref rkc, .ref rik])), (rz, .inl (cyI, 2490, .inl (yA 4)))] H := hP
        have hD : va_D A [(h0, .inr (11, [.ref rz, .int 0, .int 0, .ref rf, .ref rl, .ref rwx, .ref rb, .int 0, .ref rwd, .ref rk, .ref ra, .int 0, .int 32, .int 0, .ref rs, .ref rt, .int 0, .int 0, .ref rwr, .ref rp, .ref rsi, .ref rke, .ref rkc, .ref rik])), (rz, .inl (cyI, 2490, .inl (yA 4)))] := hD
        refine lv_iinc (v := 4) (lv' := [(1, .int 4), (0, .ref h0)]) hx hb dX11_begin_47 hl (k := 0) rfl (by decide) (by decide) rfl (fun ls hl => ?_)
        refine lv_goto (tgt := 31) hx hb dX11_begin_50 (by decide) ?_
        refine lv_iload_n hx hb dX11_begin_31 rfl (lv_at hl 0 rfl) ?_
        refine lv_bipush (v := 15) hx hb dX11_begin_32 (by decide) ?_
        refine lv_icmp_ge (tgt := 53) hx hb dX11_begin_34 (by decide) (fun c => absurd c (by decide)) (fun _ => ?_)
        refine lv_aload_n hx hb dX11_begin_37 rfl (lv_at hl 1 rfl) ?_
        refine va_get (D := (dC, dI)) (ci := 11) (v := .ref rz) (C := RX11) (T := TX11) (N := 24) hx hb hts hnX11 hown hK hP 0 rfl rfl 0 (by decide) hf7 (fun _ h9 => h9) rfl dX11_begin_38 ?_
        refine lv_bipush (v := 45) hx hb dX11_begin_41 (by decide) ?_
        refine lv_iload_n hx hb dX11_begin_43 rfl (lv_at hl 0 rfl) ?_
        refine lv_iadd hx hb dX11_begin_44 ?_
        refine yy_int (v := 49) (by decide) ?_
        refine lv_iconst (v := 1) hx hb dX11_begin_45 (by decide) ?_
        refine yy_iast (f' := (yA 5)) hx hb hK hP hD hS 1 0 rfl rfl (yin (by decide)) dX11_begin_46 yA_s (fun H locs hP hD hS => ?_)
        have hP : va_P (dC, dI) vwCl [(h0, .inr (11, [.ref rz, .int 0, .int 0, .ref rf, .ref rl, .ref rwx, .ref rb, .int 0, .ref rwd, .ref rk, .ref ra, .int 0, .int 32, .int 0, .ref rs, .ref rt, .int 0, .int 0, .ref rwr, .ref rp, .ref rsi, .ref rke, .ref rkc, .ref rik])), (rz, .inl (cyI, 2490, .inl (yA 5)))] H := hP
        have hD : va_D A [(h0, .inr (11, [.ref rz, .int 0, .int 0, .ref rf, .ref rl, .ref rwx, .ref rb, .int 0, .ref rwd, .ref rk, .ref ra, .int 0, .int 32, .int 0, .ref rs, .ref rt, .int 0, .int 0, .ref rwr, .ref rp, .ref rsi, .ref rke, .ref rkc, .ref rik])), (rz, .inl (cyI, 2490, .inl (yA 5)))] := hD
        refine lv_iinc (v := 5) (lv' := [(1, .int 5), (0, .ref h0)]) hx hb dX11_begin_47 hl (k := 0) rfl (by decide) (by decide) rfl (fun ls hl => ?_)
        refine lv_goto (tgt := 31) hx hb dX11_begin_50 (by decide) ?_
        refine lv_iload_n hx hb dX11_begin_31 rfl (lv_at hl 0 rfl) ?_
        refine lv_bipush (v := 15) hx hb dX11_begin_32 (by decide) ?_
        refine lv_icmp_ge (tgt := 53) hx hb dX11_begin_34 (by decide) (fun c => absurd c (by decide)) (fun _ => ?_)
        refine lv_aload_n hx hb dX11_begin_37 rfl (lv_at hl 1 rfl) ?_
        refine va_get (D := (dC, dI)) (ci := 11) (v := .ref rz) (C := RX11) (T := TX11) (N := 24) hx hb hts hnX11 hown hK hP 0 rfl rfl 0 (by decide) hf7 (fun _ h9 => h9) rfl dX11_begin_38 ?_
        refine lv_bipush (v := 45) hx hb dX11_begin_41 (by decide) ?_
        refine lv_iload_n hx hb dX11_begin_43 rfl (lv_at hl 0 rfl) ?_
        refine lv_iadd hx hb dX11_begin_44 ?_
        refine yy_int (v := 50) (by decide) ?_
        refine lv_iconst (v := 1) hx hb dX11_begin_45 (by decide) ?_
        refine yy_iast (f' := (yA 6)) hx hb hK hP hD hS 1 0 rfl rfl (yin (by decide)) dX11_begin_46 yA_s (fun H locs hP hD hS => ?_)
        have hP : va_P (dC, dI) vwCl [(h0, .inr (11, [.ref rz, .int 0, .int 0, .ref rf, .ref rl, .ref rwx, .ref rb, .int 0, .ref rwd, .ref rk, .ref ra, .int 0, .int 32, .int 0, .ref rs, .ref rt, .int 0, .int 0, .ref rwr, .ref rp, .ref rsi, .ref rke, .ref rkc, .ref rik])), (rz, .inl (cyI, 2490, .inl (yA 6)))] H := hP
        have hD : va_D A [(h0, .inr (11, [.ref rz, .int 0, .int 0, .ref rf, .ref rl, .ref rwx, .ref rb, .int 0, .ref rwd, .ref rk, .ref ra, .int 0, .int 32, .int 0, .ref rs, .ref rt, .int 0, .int 0, .ref rwr, .ref rp, .ref rsi, .ref rke, .ref rkc, .ref rik])), (rz, .inl (cyI, 2490, .inl (yA 6)))] := hD
        refine lv_iinc (v := 6) (lv' := [(1, .int 6), (0, .ref h0)]) hx hb dX11_begin_47 hl (k := 0) rfl (by decide) (by decide) rfl (fun ls hl => ?_)
        refine lv_goto (tgt := 31) hx hb dX11_begin_50 (by decide) ?_
        refine lv_iload_n hx hb dX11_begin_31 rfl (lv_at hl 0 rfl) ?_
        refine lv_bipush (v := 15) hx hb dX11_begin_32 (by decide) ?_
        refine lv_icmp_ge (tgt := 53) hx hb dX11_begin_34 (by decide) (fun c => absurd c (by decide)) (fun _ => ?_)
        refine lv_aload_n hx hb dX11_begin_37 rfl (lv_at hl 1 rfl) ?_
        refine va_get (D := (dC, dI)) (ci := 11) (v := .ref rz) (C := RX11) (T := TX11) (N := 24) hx hb hts hnX11 hown hK hP 0 rfl rfl 0 (by decide) hf7 (fun _ h9 => h9) rfl dX11_begin_38 ?_
        refine lv_bipush (v := 45) hx hb dX11_begin_41 (by decide) ?_
        refine lv_iload_n hx hb dX11_begin_43 rfl (lv_at hl 0 rfl) ?_
        refine lv_iadd hx hb dX11_begin_44 ?_
        refine yy_int (v := 51) (by decide) ?_
        refine lv_iconst (v := 1) hx hb dX11_begin_45 (by decide) ?_
        refine yy_iast (f' := (yA 7)) hx hb hK hP hD hS 1 0 rfl rfl (yin (by decide)) dX11_begin_46 yA_s (fun H locs hP hD hS => ?_)
        have hP : va_P (dC, dI) vwCl [(h0, .inr (11, [.ref rz, .int 0, .int 0, .ref rf, .ref rl, .ref rwx, .ref rb, .int 0, .ref rwd, .ref rk, .ref ra, .int 0, .int 32, .int 0, .ref rs, .ref rt, .int 0, .int 0, .ref rwr, .ref rp, .ref rsi, .ref rke, .ref rkc, .ref rik])), (rz, .inl (cyI, 2490, .inl (yA 7)))] H := hP
        have hD : va_D A [(h0, .inr (11, [.ref rz, .int 0, .int 0, .ref rf, .ref rl, .ref rwx, .ref rb, .int 0, .ref rwd, .ref rk, .ref ra, .int 0, .int 32, .int 0, .ref rs, .ref rt, .int 0, .int 0, .ref rwr, .ref rp, .ref rsi, .ref rke, .ref rkc, .ref rik])), (rz, .inl (cyI, 2490, .inl (yA 7)))] := hD
        refine lv_iinc (v := 7) (lv' := [(1, .int 7), (0, .ref h0)]) hx hb dX11_begin_47 hl (k := 0) rfl (by decide) (by decide) rfl (fun ls hl => ?_)
        refine lv_goto (tgt := 31) hx hb dX11_begin_50 (by decide) ?_
        refine lv_iload_n hx hb dX11_begin_31 rfl (lv_at hl 0 rfl) ?_
        refine lv_bipush (v := 15) hx hb dX11_begin_32 (by decide) ?_
        refine lv_icmp_ge (tgt := 53) hx hb dX11_begin_34 (by decide) (fun c => absurd c (by decide)) (fun _ => ?_)
        refine lv_aload_n hx hb dX11_begin_37 rfl (lv_at hl 1 rfl) ?_
        refine va_get (D := (dC, dI)) (ci := 11) (v := .ref rz) (C := RX11) (T := TX11) (N := 24) hx hb hts hnX11 hown hK hP 0 rfl rfl 0 (by decide) hf7 (fun _ h9 => h9) rfl dX11_begin_38 ?_
        refine lv_bipush (v := 45) hx hb dX11_begin_41 (by decide) ?_
        refine lv_iload_n hx hb dX11_begin_43 rfl (lv_at hl 0 rfl) ?_
        refine lv_iadd hx hb dX11_begin_44 ?_
        refine yy_int (v := 52) (by decide) ?_
        refine lv_iconst (v := 1) hx hb dX11_begin_45 (by decide) ?_
        refine yy_iast (f' := (yA 8)) hx hb hK hP hD hS 1 0 rfl rfl (yin (by decide)) dX11_begin_46 yA_s (fun H locs hP hD hS => ?_)
        have hP : va_P (dC, dI) vwCl [(h0, .inr (11, [.ref rz, .int 0, .int 0, .ref rf, .ref rl, .ref rwx, .ref rb, .int 0, .ref rwd, .ref rk, .ref ra, .int 0, .int 32, .int 0, .ref rs, .ref rt, .int 0, .int 0, .ref rwr, .ref rp, .ref rsi, .ref rke, .ref rkc, .ref rik])), (rz, .inl (cyI, 2490, .inl (yA 8)))] H := hP
        have hD : va_D A [(h0, .inr (11, [.ref rz, .int 0, .int 0, .ref rf, .ref rl, .ref rwx, .ref rb, .int 0, .ref rwd, .ref rk, .ref ra, .int 0, .int 32, .int 0, .ref rs, .ref rt, .int 0, .int 0, .ref rwr, .ref rp, .ref rsi, .ref rke, .ref rkc, .ref rik])), (rz, .inl (cyI, 2490, .inl (yA 8)))] := hD
        refine lv_iinc (v := 8) (lv' := [(1, .int 8), (0, .ref h0)]) hx hb dX11_begin_47 hl (k := 0) rfl (by decide) (by decide) rfl (fun ls hl => ?_)
        refine lv_goto (tgt := 31) hx hb dX11_begin_50 (by decide) ?_
        refine lv_iload_n hx hb dX11_begin_31 rfl (lv_at hl 0 rfl) ?_
        refine lv_bipush (v := 15) hx hb dX11_begin_32 (by decide) ?_
        refine lv_icmp_ge (tgt := 53) hx hb dX11_begin_34 (by decide) (fun c => absurd c (by decide)) (fun _ => ?_)
        refine lv_aload_n hx hb dX11_begin_37 rfl (lv_at hl 1 rfl) ?_
        refine va_get (D := (dC, dI)) (ci := 11) (v := .ref rz) (C := RX11) (T := TX11) (N := 24) hx hb hts hnX11 hown hK hP 0 rfl rfl 0 (by decide) hf7 (fun _ h9 => h9) rfl dX11_begin_38 ?_
        refine lv_bipush (v := 45) hx hb dX11_begin_41 (by decide) ?_
        refine lv_iload_n hx hb dX11_begin_43 rfl (lv_at hl 0 rfl) ?_
        refine lv_iadd hx hb dX11_begin_44 ?_
        refine yy_int (v := 53) (by decide) ?_
        refine lv_iconst (v := 1) hx hb dX11_begin_45 (by decide) ?_
        refine yy_iast (f' := (yA 9)) hx hb hK hP hD hS 1 0 rfl rfl (yin (by decide)) dX11_begin_46 yA_s (fun H locs hP hD hS => ?_)
        have hP : va_P (dC, dI) vwCl [(h0, .inr (11, [.ref rz, .int 0, .int 0, .ref rf, .ref rl, .ref rwx, .ref rb, .int 0, .ref rwd, .ref rk, .ref ra, .int 0, .int 32, .int 0, .ref rs, .ref rt, .int 0, .int 0, .ref rwr, .ref rp, .ref rsi, .ref rke, .ref rkc, .ref rik])), (rz, .inl (cyI, 2490, .inl (yA 9)))] H := hP
        have hD : va_D A [(h0, .inr (11, [.ref rz, .int 0, .int 0, .ref rf, .ref rl, .ref rwx, .ref rb, .int 0, .ref rwd, .ref rk, .ref ra, .int 0, .int 32, .int 0, .ref rs, .ref rt, .int 0, .int 0, .ref rwr, .ref rp, .ref rsi, .ref rke, .ref rkc, .ref rik])), (rz, .inl (cyI, 2490, .inl (yA 9)))] := hD
        refine lv_iinc (v := 9) (lv' := [(1, .int 9), (0, .ref h0)]) hx hb dX11_begin_47 hl (k := 0) rfl (by decide) (by decide) rfl (fun ls hl => ?_)
        refine lv_goto (tgt := 31) hx hb dX11_begin_50 (by decide) ?_
        refine lv_iload_n hx hb dX11_begin_31 rfl (lv_at hl 0 rfl) ?_
        refine lv_bipush (v := 15) hx hb dX11_begin_32 (by decide) ?_
        refine lv_icmp_ge (tgt := 53) hx hb dX11_begin_34 (by decide) (fun c => absurd c (by decide)) (fun _ => ?_)
        refine lv_aload_n hx hb dX11_begin_37 rfl (lv_at hl 1 rfl) ?_
        refine va_get (D := (dC, dI)) (ci := 11) (v := .ref rz) (C := RX11) (T := TX11) (N := 24) hx hb hts hnX11 hown hK hP 0 rfl rfl 0 (by decide) hf7 (fun _ h9 => h9) rfl dX11_begin_38 ?_
        refine lv_bipush (v := 45) hx hb dX11_begin_41 (by decide) ?_
        refine lv_iload_n hx hb dX11_begin_43 rfl (lv_at hl 0 rfl) ?_
        refine lv_iadd hx hb dX11_begin_44 ?_
        refine yy_int (v := 54) (by decide) ?_
        refine lv_iconst (v := 1) hx hb dX11_begin_45 (by decide) ?_
        refine yy_iast (f' := (yA 10)) hx hb hK hP hD hS 1 0 rfl rfl (yin (by decide)) dX11_begin_46 yA_s (fun H locs hP hD hS => ?_)
        have hP : va_P (dC, dI) vwCl [(h0, .inr (11, [.ref rz, .int 0, .int 0, .ref rf, .ref rl, .ref rwx, .ref rb, .int 0, .ref rwd, .ref rk, .ref ra, .int 0, .int 32, .int 0, .ref rs, .ref rt, .int 0, .int 0, .ref rwr, .ref rp, .ref rsi, .ref rke, .ref rkc, .ref rik])), (rz, .inl (cyI, 2490, .inl (yA 10)))] H := hP
        have hD : va_D A [(h0, .inr (11, [.ref rz, .int 0, .int 0, .ref rf, .ref rl, .ref rwx, .ref rb, .int 0, .ref rwd, .ref rk, .ref ra, .int 0, .int 32, .int 0, .ref rs, .ref rt, .int 0, .int 0, .ref rwr, .ref rp, .ref rsi, .ref rke, .ref rkc, .ref rik])), (rz, .inl (cyI, 2490, .inl (yA 10)))] := hD
        refine lv_iinc (v := 10) (lv' := [(1, .int 10), (0, .ref h0)]) hx hb dX11_begin_47 hl (k := 0) rfl (by decide) (by decide) rfl (fun ls hl => ?_)
        refine lv_goto (tgt := 31) hx hb dX11_begin_50 (by decide) ?_
        refine lv_iload_n hx hb dX11_begin_31 rfl (lv_at hl 0 rfl) ?_
        refine lv_bipush (v := 15) hx hb dX11_begin_32 (by decide) ?_
        refine lv_icmp_ge (tgt := 53) hx hb dX11_begin_34 (by decide) (fun c => absurd c (by decide)) (fun _ => ?_)
        refine lv_aload_n hx hb dX11_begin_37 rfl (lv_at hl 1 rfl) ?_
        refine va_get (D := (dC, dI)) (ci := 11) (v := .ref rz) (C := RX11) (T := TX11) (N := 24) hx hb hts hnX11 hown hK hP 0 rfl rfl 0 (by decide) hf7 (fun _ h9 => h9) rfl dX11_begin_38 ?_
        refine lv_bipush (v := 45) hx hb dX11_begin_41 (by decide) ?_
        refine lv_iload_n hx hb dX11_begin_43 rfl (lv_at hl 0 rfl) ?_
        refine lv_iadd hx hb dX11_begin_44 ?_
        refine yy_int (v := 55) (by decide) ?_
        refine lv_iconst (v := 1) hx hb dX11_begin_45 (by decide) ?_
        refine yy_iast (f' := (yA 11)) hx hb hK hP hD hS 1 0 rfl rfl (yin (by decide)) dX11_begin_46 yA_s (fun H locs hP hD hS => ?_)
        have hP : va_P (dC, dI) vwCl [(h0, .inr (11, [.ref rz, .int 0, .int 0, .ref rf, .ref rl, .ref rwx, .ref rb, .int 0, .ref rwd, .ref rk, .ref ra, .int 0, .int 32, .int 0, .ref rs, .ref rt, .int 0, .int 0, .ref rwr, .ref rp, .ref rsi, .ref rke, .ref rkc, .ref rik])), (rz, .inl (cyI, 2490, .inl (yA 11)))] H := hP
        have hD : va_D A [(h0, .inr (11, [.ref rz, .int 0, .int 0, .ref rf, .ref rl, .ref rwx, .ref rb, .int 0, .ref rwd, .ref rk, .ref ra, .int 0, .int 32, .int 0, .ref rs, .ref rt, .int 0, .int 0, .ref rwr, .ref rp, .ref rsi, .ref rke, .ref rkc, .ref rik])), (rz, .inl (cyI, 2490, .inl (yA 11)))] := hD
        refine lv_iinc (v := 11) (lv' := [(1, .int 11), (0, .ref h0)]) hx hb dX11_begin_47 hl (k := 0) rfl (by decide) (by decide) rfl (fun ls hl => ?_)
        refine lv_goto (tgt := 31) hx hb dX11_begin_50 (by decide) ?_
        refine lv_iload_n hx hb dX11_begin_31 rfl (lv_at hl 0 rfl) ?_
        refine lv_bipush (v := 15) hx hb dX11_begin_32 (by decide) ?_
        refine lv_icmp_ge (tgt := 53) hx hb dX11_begin_34 (by decide) (fun c => absurd c (by decide)) (fun _ => ?_)
        refine lv_aload_n hx hb dX11_begin_37 rfl (lv_at hl 1 rfl) ?_
        refine va_get (D := (dC, dI)) (ci := 11) (v := .ref rz) (C := RX11) (T := TX11) (N := 24) hx hb hts hnX11 hown hK hP 0 rfl rfl 0 (by decide) hf7 (fun _ h9 => h9) rfl dX11_begin_38 ?_
        refine lv_bipush (v := 45) hx hb dX11_begin_41 (by decide) ?_
        refine lv_iload_n hx hb dX11_begin_43 rfl (lv_at hl 0 rfl) ?_
        refine lv_iadd hx hb dX11_begin_44 ?_
        refine yy_int (v := 56) (by decide) ?_
        refine lv_iconst (v := 1) hx hb dX11_begin_45 (by decide) ?_
        refine yy_iast (f' := (yA 12)) hx hb hK hP hD hS 1 0 rfl rfl (yin (by decide)) dX11_begin_46 yA_s (fun H locs hP hD hS => ?_)
        have hP : va_P (dC, dI) vwCl [(h0, .inr (11, [.ref rz, .int 0, .int 0, .ref rf, .ref rl, .ref rwx, .ref rb, .int 0, .ref rwd, .ref rk, .ref ra, .int 0, .int 32, .int 0, .ref rs, .ref rt, .int 0, .int 0, .ref rwr, .ref rp, .ref rsi, .ref rke, .ref rkc, .ref rik])), (rz, .inl (cyI, 2490, .inl (yA 12)))] H := hP
        have hD : va_D A [(h0, .inr (11, [.ref rz, .int 0, .int 0, .ref rf, .ref rl, .ref rwx, .ref rb, .int 0, .ref rwd, .ref rk, .ref ra, .int 0, .int 32, .int 0, .ref rs, .ref rt, .int 0, .int 0, .ref rwr, .ref rp, .ref rsi, .ref rke, .ref rkc, .ref rik])), (rz, .inl (cyI, 2490, .inl (yA 12)))] := hD
        refine lv_iinc (v := 12) (lv' := [(1, .int 12), (0, .ref h0)]) hx hb dX11_begin_47 hl (k := 0) rfl (by decide) (by decide) rfl (fun ls hl => ?_)
        refine lv_goto (tgt := 31) hx hb dX11_begin_50 (by decide) ?_
        refine lv_iload_n hx hb dX11_begin_31 rfl (lv_at hl 0 rfl) ?_
        refine lv_bipush (v := 15) hx hb dX11_begin_32 (by decide) ?_
        refine lv_icmp_ge (tgt := 53) hx hb dX11_begin_34 (by decide) (fun c => absurd c (by decide)) (fun _ => ?_)
        refine lv_aload_n hx hb dX11_begin_37 rfl (lv_at hl 1 rfl) ?_
        refine va_get (D := (dC, dI)) (ci := 11) (v := .ref rz) (C := RX11) (T := TX11) (N := 24) hx hb hts hnX11 hown hK hP 0 rfl rfl 0 (by decide) hf7 (fun _ h9 => h9) rfl dX11_begin_38 ?_
        refine lv_bipush (v := 45) hx hb dX11_begin_41 (by decide) ?_
        refine lv_iload_n hx hb dX11_begin_43 rfl (lv_at hl 0 rfl) ?_
        refine lv_iadd hx hb dX11_begin_44 ?_
        refine yy_int (v := 57) (by decide) ?_
        refine lv_iconst (v := 1) hx hb dX11_begin_45 (by decide) ?_
        refine yy_iast (f' := (yA 13)) hx hb hK hP hD hS 1 0 rfl rfl (yin (by decide)) dX11_begin_46 yA_s (fun H locs hP hD hS => ?_)
        have hP : va_P (dC, dI) vwCl [(h0, .inr (11, [.ref rz, .int 0, .int 0, .ref rf, .ref rl, .ref rwx, .ref rb, .int 0, .ref rwd, .ref rk, .ref ra, .int 0, .int 32, .int 0, .ref rs, .ref rt, .int 0, .int 0, .ref rwr, .ref rp, .ref rsi, .ref rke, .ref rkc, .ref rik])), (rz, .inl (cyI, 2490, .inl (yA 13)))] H := hP
        have hD : va_D A [(h0, .inr (11, [.ref rz, .int 0, .int 0, .ref rf, .ref rl, .ref rwx, .ref rb, .int 0, .ref rwd, .ref rk, .ref ra, .int 0, .int 32, .int 0, .ref rs, .ref rt, .int 0, .int 0, .ref rwr, .ref rp, .ref rsi, .ref rke, .ref rkc, .ref rik])), (rz, .inl (cyI, 2490, .inl (yA 13)))] := hD
        refine lv_iinc (v := 13) (lv' := [(1, .int 13), (0, .ref h0)]) hx hb dX11_begin_47 hl (k := 0) rfl (by decide) (by decide) rfl (fun ls hl => ?_)
        refine lv_goto (tgt := 31) hx hb dX11_begin_50 (by decide) ?_
        refine lv_iload_n hx hb dX11_begin_31 rfl (lv_at hl 0 rfl) ?_
        refine lv_bipush (v := 15) hx hb dX11_begin_32 (by decide) ?_
        refine lv_icmp_ge (tgt := 53) hx hb dX11_begin_34 (by decide) (fun c => absurd c (by decide)) (fun _ => ?_)
        refine lv_aload_n hx hb dX11_begin_37 rfl (lv_at hl 1 rfl) ?_
        refine va_get (D := (dC, dI)) (ci := 11) (v := .ref rz) (C := RX11) (T := TX11) (N := 24) hx hb hts hnX11 hown hK hP 0 rfl rfl 0 (by decide) hf7 (fun _ h9 => h9) rfl dX11_begin_38 ?_
        refine lv_bipush (v := 45) hx hb dX11_begin_41 (by decide) ?_
        refine lv_iload_n hx hb dX11_begin_43 rfl (lv_at hl 0 rfl) ?_
        refine lv_iadd hx hb dX11_begin_44 ?_
        refine yy_int (v := 58) (by decide) ?_
        refine lv_iconst (v := 1) hx hb dX11_begin_45 (by decide) ?_
        refine yy_iast (f' := (yA 14)) hx hb hK hP hD hS 1 0 rfl rfl (yin (by decide)) dX11_begin_46 yA_s (fun H locs hP hD hS => ?_)
        have hP : va_P (dC, dI) vwCl [(h0, .inr (11, [.ref rz, .int 0, .int 0, .ref rf, .ref rl, .ref rwx, .ref rb, .int 0, .ref rwd, .ref rk, .ref ra, .int 0, .int 32, .int 0, .ref rs, .ref rt, .int 0, .int 0, .ref rwr, .ref rp, .ref rsi, .ref rke, .ref rkc, .ref rik])), (rz, .inl (cyI, 2490, .inl (yA 14)))] H := hP
        have hD : va_D A [(h0, .inr (11, [.ref rz, .int 0, .int 0, .ref rf, .ref rl, .ref rwx, .ref rb, .int 0, .ref rwd, .ref rk, .ref ra, .int 0, .int 32, .int 0, .ref rs, .ref rt, .int 0, .int 0, .ref rwr, .ref rp, .ref rsi, .ref rke, .ref rkc, .ref rik])), (rz, .inl (cyI, 2490, .inl (yA 14)))] := hD
        refine lv_iinc (v := 14) (lv' := [(1, .int 14), (0, .ref h0)]) hx hb dX11_begin_47 hl (k := 0) rfl (by decide) (by decide) rfl (fun ls hl => ?_)
        refine lv_goto (tgt := 31) hx hb dX11_begin_50 (by decide) ?_
        refine lv_iload_n hx hb dX11_begin_31 rfl (lv_at hl 0 rfl) ?_
        refine lv_bipush (v := 15) hx hb dX11_begin_32 (by decide) ?_
        refine lv_icmp_ge (tgt := 53) hx hb dX11_begin_34 (by decide) (fun c => absurd c (by decide)) (fun _ => ?_)
        refine lv_aload_n hx hb dX11_begin_37 rfl (lv_at hl 1 rfl) ?_
        refine va_get (D := (dC, dI)) (ci := 11) (v := .ref rz) (C := RX11) (T := TX11) (N := 24) hx hb hts hnX11 hown hK hP 0 rfl rfl 0 (by decide) hf7 (fun _ h9 => h9) rfl dX11_begin_38 ?_
        refine lv_bipush (v := 45) hx hb dX11_begin_41 (by decide) ?_
        refine lv_iload_n hx hb dX11_begin_43 rfl (lv_at hl 0 rfl) ?_
        refine lv_iadd hx hb dX11_begin_44 ?_
        refine yy_int (v := 59) (by decide) ?_
        refine lv_iconst (v := 1) hx hb dX11_begin_45 (by decide) ?_
        refine yy_iast (f' := (yA 15)) hx hb hK hP hD hS 1 0 rfl rfl (yin (by decide)) dX11_begin_46 yA_s (fun H locs hP hD hS => ?_)
        have hP : va_P (dC, dI) vwCl [(h0, .inr (11, [.ref rz, .int 0, .int 0, .ref rf, .ref rl, .ref rwx, .ref rb, .int 0, .ref rwd, .ref rk, .ref ra, .int 0, .int 32, .int 0, .ref rs, .ref rt, .int 0, .int 0, .ref rwr, .ref rp, .ref rsi, .ref rke, .ref rkc, .ref rik])), (rz, .inl (cyI, 2490, .inl (yA 15)))] H := hP
        have hD : va_D A [(h0, .inr (11, [.ref rz, .int 0, .int 0, .ref rf, .ref rl, .ref rwx, .ref rb, .int 0, .ref rwd, .ref rk, .ref ra, .int 0, .int 32, .int 0, .ref rs, .ref rt, .int 0, .int 0, .ref rwr, .ref rp, .ref rsi, .ref rke, .ref rkc, .ref rik])), (rz, .inl (cyI, 2490, .inl (yA 15)))] := hD
        refine lv_iinc (v := 15) (lv' := [(1, .int 15), (0, .ref h0)]) hx hb dX11_begin_47 hl (k := 0) rfl (by decide) (by decide) rfl (fun ls hl => ?_)
        refine lv_goto (tgt := 31) hx hb dX11_begin_50 (by decide) ?_
        refine lv_iload_n hx hb dX11_begin_31 rfl (lv_at hl 0 rfl) ?_
        refine lv_bipush (v := 15) hx hb dX11_begin_32 (by decide) ?_
        refine lv_icmp_ge (tgt := 53) hx hb dX11_begin_34 (by decide) (fun _ => ?_) (fun c => absurd (by decide) c)
        refine lv_iconst (v := 0) hx hb dX11_begin_53 (by decide) ?_
        refine lv_istore_n (lv' := [(1, .int 0), (0, .ref h0)]) hx hb dX11_begin_54 rfl hl (by decide) rfl (fun ls hl => ?_)
        refine lv_iload_n hx hb dX11_begin_55 rfl (lv_at hl 0 rfl) ?_
        refine lv_aload_n hx hb dX11_begin_56 rfl (lv_at hl 1 rfl) ?_
        refine va_get (D := (dC, dI)) (ci := 11) (v := .int 0) (C := RX11) (T := TX11) (N := 24) hx hb hts hnX11 hown hK hP 0 rfl rfl 7 (by decide) hf69 (fun _ h9 => h9) rfl dX11_begin_57 ?_
        refine lv_icmp_ge (tgt := 84) hx hb dX11_begin_60 (by decide) (fun _ => ?_) (fun c => absurd (by decide) c)
        refine lv_aload_n hx hb dX11_begin_84 rfl (lv_at hl 1 rfl) ?_
        refine va_get (D := (dC, dI)) (ci := 11) (v := .ref rz) (C := RX11) (T := TX11) (N := 24) hx hb hts hnX11 hown hK hP 0 rfl rfl 0 (by decide) hf7 (fun _ h9 => h9) rfl dX11_begin_85 ?_
        refine lv_sipush (v := 180) hx hb dX11_begin_88 (by decide) ?_
        refine lv_iconst (v := (-1)) hx hb dX11_begin_91 (by decide) ?_
        refine yy_iast (f' := (upd (yA 15) 180 (-1))) hx hb hK hP hD hS 1 0 rfl rfl (yin (by decide)) dX11_begin_92 rfl (fun H locs hP hD hS => ?_)
        have hP : va_P (dC, dI) vwCl [(h0, .inr (11, [.ref rz, .int 0, .int 0, .ref rf, .ref rl, .ref rwx, .ref rb, .int 0, .ref rwd, .ref rk, .ref ra, .int 0, .int 32, .int 0, .ref rs, .ref rt, .int 0, .int 0, .ref rwr, .ref rp, .ref rsi, .ref rke, .ref rkc, .ref rik])), (rz, .inl (cyI, 2490, .inl (upd (yA 15) 180 (-1))))] H := hP
        have hD : va_D A [(h0, .inr (11, [.ref rz, .int 0, .int 0, .ref rf, .ref rl, .ref rwx, .ref rb, .int 0, .ref rwd, .ref rk, .ref ra, .int 0, .int 32, .int 0, .ref rs, .ref rt, .int 0, .int 0, .ref rwr, .ref rp, .ref rsi, .ref rke, .ref rkc, .ref rik])), (rz, .inl (cyI, 2490, .inl (upd (yA 15) 180 (-1))))] := hD
        refine lv_aload_n hx hb dX11_begin_93 rfl (lv_at hl 1 rfl) ?_
        refine va_get (D := (dC, dI)) (ci := 11) (v := .ref rz) (C := RX11) (T := TX11) (N := 24) hx hb hts hnX11 hown hK hP 0 rfl rfl 0 (by decide) hf7 (fun _ h9 => h9) rfl dX11_begin_94 ?_
        refine lv_sipush (v := 181) hx hb dX11_begin_97 (by decide) ?_
        refine lv_iconst (v := (-1)) hx hb dX11_begin_100 (by decide) ?_
        refine yy_iast (f' := (yz 0 0)) hx hb hK hP hD hS 1 0 rfl rfl (yin (by decide)) dX11_begin_101 yA_z (fun H locs hP hD hS => ?_)
        have hP : va_P (dC, dI) vwCl [(h0, .inr (11, [.ref rz, .int 0, .int 0, .ref rf, .ref rl, .ref rwx, .ref rb, .int 0, .ref rwd, .ref rk, .ref ra, .int 0, .int 32, .int 0, .ref rs, .ref rt, .int 0, .int 0, .ref rwr, .ref rp, .ref rsi, .ref rke, .ref rkc, .ref rik])), (rz, .inl (cyI, 2490, .inl (yz 0 0)))] H := hP
        have hD : va_D A [(h0, .inr (11, [.ref rz, .int 0, .int 0, .ref rf, .ref rl, .ref rwx, .ref rb, .int 0, .ref rwd, .ref rk, .ref ra, .int 0, .int 32, .int 0, .ref rs, .ref rt, .int 0, .int 0, .ref rwr, .ref rp, .ref rsi, .ref rke, .ref rkc, .ref rik])), (rz, .inl (cyI, 2490, .inl (yz 0 0)))] := hD
        refine W.widen (k := 0) (n := 0) (Nat.le_of_ble_eq_true rfl) (Nat.le_of_ble_eq_true rfl) ?_
        exact yy_vret () hx hb hr hlk hsz hAe hK hP hD hS [0, 1] rfl rfl (by decide) (trivial) dX11_begin_102
      · have hlt : i < 2490 := by rcases Nat.lt_or_ge i 2490 with q | q; exact q; exact absurd (by rw [ex]; exact nI_le q (by omega)) c6
        refine lv_aload_n hx hb dX11_begin_9 rfl (lv_at hl 1 rfl) ?_
        refine va_get (D := (dC, dI)) (ci := 11) (v := .ref rz) (C := RX11) (T := TX11) (N := 24) hx hb hts hnX11 hown hK hP 0 rfl rfl 0 (by decide) hf7 (fun _ h9 => h9) rfl dX11_begin_10 ?_
        refine lv_iload_n hx hb dX11_begin_13 rfl (lv_at hl 0 rfl) ?_
        refine lv_iconst (v := 0) hx hb dX11_begin_14 (by decide) ?_
        refine yy_iast (f' := (yfill (fun _ => 0) 0 (i + 1))) hx hb hK hP hD hS 1 0 rfl rfl (by rw [ex]; exact vp_in_nI hlt (by decide)) dX11_begin_15 (by rw [ex, nI_clamp (by omega), eg]; exact yfill_s) (fun H locs hP hD hS => ?_)
        have hP : va_P (dC, dI) vwCl [(h0, .inr (11, [.ref rz, .int 0, .int 0, .ref rf, .ref rl, .ref rwx, .ref rb, .int 0, .ref rwd, .ref rk, .ref ra, .int 0, .int 32, .int 0, .ref rs, .ref rt, .int 0, .int 0, .ref rwr, .ref rp, .ref rsi, .ref rke, .ref rkc, .ref rik])), (rz, .inl (cyI, 2490, .inl (yfill (fun _ => 0) 0 (i + 1))))] H := hP
        have hD : va_D A [(h0, .inr (11, [.ref rz, .int 0, .int 0, .ref rf, .ref rl, .ref rwx, .ref rb, .int 0, .ref rwd, .ref rk, .ref ra, .int 0, .int 32, .int 0, .ref rs, .ref rt, .int 0, .int 0, .ref rwr, .ref rp, .ref rsi, .ref rke, .ref rkc, .ref rik])), (rz, .inl (cyI, 2490, .inl (yfill (fun _ => 0) 0 (i + 1))))] := hD
        refine lv_iinc (v := (nI (i + 1))) (lv' := [(1, .int (nI (i + 1))), (0, .ref h0)]) hx hb dX11_begin_16 hl (k := 0) rfl (by rw [ex]; exact nI_1 i) (by decide) rfl (fun ls hl => ?_)
        refine lv_goto (tgt := 2) hx hb dX11_begin_19 (by decide) ?_
        exact ih (i + 1) _ _ _ _ _ (by omega) (by omega) rfl rfl hP hD hS hl
  exact key 2491 0 0 _ _ _ _ (Nat.zero_le _) (by omega) nI_0.symm yfill_0.symm hP hD hS hl
set_option maxHeartbeats 4000000 in
set_option maxRecDepth 100000 in
theorem r_begin1 (l : Launch) (dC : Nat → ClassId) (dI : Nat → Nat → Nat) (cyI cyZ cyO : ClassId) (sz : Nat) (h0 : Nat) (rz : Nat) (rf : Nat) (rl : Nat) (rwx : Nat) (rb : Nat) (rwd : Nat) (rk : Nat) (ra : Nat) (rs : Nat) (rt : Nat) (rwr : Nat) (rp : Nat) (rsi : Nat) (rke : Nat) (rkc : Nat) (rik : Nat)  : Met l yX11_begin wsX11_begin ({ frames := 0, cells := 0, slots := 0, locals := 0 }) (yPre [.ref h0] (dC, dI) [(h0, .inr (11, [.ref rz, .int 0, .int 0, .ref rf, .ref rl, .ref rwx, .ref rb, .int 0, .ref rwd, .ref rk, .ref ra, .int 0, .int 32, .int 0, .ref rs, .ref rt, .int 0, .int 0, .ref rwr, .ref rp, .ref rsi, .ref rke, .ref rkc, .ref rik])), (rz, .inl (cyI, 2490, .inl (yz 0 0)))] (yT cyI cyZ cyO) sz) (yQv (fun (u : Unit) => True) (dC, dI) [(h0, .inr (11, [.ref rz, .int 0, .int 0, .ref rf, .ref rl, .ref rwx, .ref rb, .int 0, .ref rwd, .ref rk, .ref ra, .int 0, .int 32, .int 0, .ref rs, .ref rt, .int 0, .int 0, .ref rwr, .ref rp, .ref rsi, .ref rke, .ref rkc, .ref rik])), (rz, .inl (cyI, 2490, .inl (yz 0 0)))] (yT cyI cyZ cyO) sz (fun _ => [(h0, .inr (11, [.ref rz, .int 0, .int 0, .ref rf, .ref rl, .ref rwx, .ref rb, .int 0, .ref rwd, .ref rk, .ref ra, .int 0, .int 32, .int 0, .ref rs, .ref rt, .int 0, .int 0, .ref rwr, .ref rp, .ref rsi, .ref rke, .ref rkc, .ref rik])), (rz, .inl (cyI, 2490, .inl (yz 0 0)))])) 0 0 (va_A [(h0, .inr (11, [.ref rz, .int 0, .int 0, .ref rf, .ref rl, .ref rwx, .ref rb, .int 0, .ref rwd, .ref rk, .ref ra, .int 0, .int 32, .int 0, .ref rs, .ref rt, .int 0, .int 0, .ref rwr, .ref rp, .ref rsi, .ref rke, .ref rkc, .ref rik])), (rz, .inl (cyI, 2490, .inl (yz 0 0)))] sz) := by
  refine yMet (cc := cX11_begin) (maxL := 2) (ret := none) (by decide) rfl (Nat.le_of_ble_eq_true rfl) ?_
  intro p e s m below meth c A hx hb hr hlk hml hts hown hnm hsz hAe hP hK hD hA hS ls hl
  have hl : lv_has ls 2 [(0, .ref h0)] := hl
  have hf69 := hts (.fieldLink RX11 69 "BusBridgeModel" "registers" "I") (by decide +kernel)
  have hf7 := hts (.fieldLink RX11 7 "BusBridgeModel" "z" "[I") (by decide +kernel)
  have hnX11 : ∀ w ∈ wsX110, w ∈ wsX11_begin := by decide +kernel
  refine lv_iconst (v := 0) hx hb dX11_begin_0 (by decide) ?_
  refine lv_istore_n (lv' := [(1, .int 0), (0, .ref h0)]) hx hb dX11_begin_1 rfl hl (by decide) rfl (fun ls hl => ?_)
  have key : ∀ (k i : Nat) (x : Int32) (g : Nat → Int32) (H : Heap) (locs : List Loc) (ls : Array Slot), i ≤ 2490 → 2491 ≤ i + k → x = nI i → g = yfill (yz 0 0) 0 i → va_P (dC, dI) vwCl [(h0, .inr (11, [.ref rz, .int 0, .int 0, .ref rf, .ref rl, .ref rwx, .ref rb, .int 0, .ref rwd, .ref rk, .ref ra, .int 0, .int 32, .int 0, .ref rs, .ref rt, .int 0, .int 0, .ref rwr, .ref rp, .ref rsi, .ref rke, .ref rkc, .ref rik])), (rz, .inl (cyI, 2490, .inl g))] H → va_D A [(h0, .inr (11, [.ref rz, .int 0, .int 0, .ref rf, .ref rl, .ref rwx, .ref rb, .int 0, .ref rwd, .ref rk, .ref ra, .int 0, .int 32, .int 0, .ref rs, .ref rt, .int 0, .int 0, .ref rwr, .ref rp, .ref rsi, .ref rke, .ref rkc, .ref rik])), (rz, .inl (cyI, 2490, .inl g))] → va_S A s.heap H locs → lv_has ls 2 [(1, .int x), (0, .ref h0)] → W p l e ({ frames := 0, cells := 0, slots := 0, locals := 0 } : Room) s m [.ref h0].toArray below meth c H locs 0 0 (MQ below (yQv (fun (u : Unit) => True) (dC, dI) [(h0, .inr (11, [.ref rz, .int 0, .int 0, .ref rf, .ref rl, .ref rwx, .ref rb, .int 0, .ref rwd, .ref rk, .ref ra, .int 0, .int 32, .int 0, .ref rs, .ref rt, .int 0, .int 0, .ref rwr, .ref rp, .ref rsi, .ref rke, .ref rkc, .ref rik])), (rz, .inl (cyI, 2490, .inl (yz 0 0)))] (yT cyI cyZ cyO) sz (fun _ => [(h0, .inr (11, [.ref rz, .int 0, .int 0, .ref rf, .ref rl, .ref rwx, .ref rb, .int 0, .ref rwd, .ref rk, .ref ra, .int 0, .int 32, .int 0, .ref rs, .ref rt, .int 0, .int 0, .ref rwr, .ref rp, .ref rsi, .ref rke, .ref rkc, .ref rik])), (rz, .inl (cyI, 2490, .inl (yz 0 0)))])) [.ref h0].toArray s 0 0 A) (F0 m 2 ls []) := by
    intro k
    induction k with
    | zero => intro i x g H locs ls h1 h2; exact absurd h2 (by omega)
    | succ k ih =>
      intro i x g H locs ls h1 h2 ex eg hP hD hS hl
      refine lv_iload_n hx hb dX11_begin_2 rfl (lv_at hl 0 rfl) ?_
      refine lv_sipush (v := 2490) hx hb dX11_begin_3 (by decide) ?_
      refine lv_icmp_ge (tgt := 22) hx hb dX11_begin_6 (by decide) (fun c6 => ?_) (fun c6 => ?_)
      · have ei : i = 2490 := by rcases Nat.lt_or_ge i 2490 with q | q; exact absurd (by rw [ex] at c6; exact c6) (nI_ge q (by decide)); omega
        subst ei
        rw [eg, yfill_n (by first | exact fun _ _ => rfl | exact yz_out)] at hP hD
        refine lv_aload_n hx hb dX11_begin_22 rfl (lv_at hl 1 rfl) ?_
        refine va_get (D := (dC, dI)) (ci := 11) (v := .ref rz) (C := RX11) (T := TX11) (N := 24) hx hb hts hnX11 hown hK hP 0 rfl rfl 0 (by decide) hf7 (fun _ h9 => h9) rfl dX11_begin_23 ?_
        refine lv_iconst (v := 4) hx hb dX11_begin_26 (by decide) ?_
        refine lv_iconst (v := 1) hx hb dX11_begin_27 (by decide) ?_
        refine yy_iast (f' := (yA 0)) hx hb hK hP hD hS 1 0 rfl rfl (yin (by decide)) dX11_begin_28 yA_0 (fun H locs hP hD hS => ?_)
        have hP : va_P (dC, dI) vwCl [(h0, .inr (11, [.ref rz, .int 0, .int 0, .ref rf, .ref rl, .ref rwx, .ref rb, .int 0, .ref rwd, .ref rk, .ref ra, .int 0, .int 32, .int 0, .ref rs, .ref rt, .int 0, .int 0, .ref rwr, .ref rp, .ref rsi, .ref rke, .ref rkc, .ref rik])), (rz, .inl (cyI, 2490, .inl (yA 0)))] H := hP
        have hD : va_D A [(h0, .inr (11, [.ref rz, .int 0, .int 0, .ref rf, .ref rl, .ref rwx, .ref rb, .int 0, .ref rwd, .ref rk, .ref ra, .int 0, .int 32, .int 0, .ref rs, .ref rt, .int 0, .int 0, .ref rwr, .ref rp, .ref rsi, .ref rke, .ref rkc, .ref rik])), (rz, .inl (cyI, 2490, .inl (yA 0)))] := hD
        refine lv_iconst (v := 0) hx hb dX11_begin_29 (by decide) ?_
        refine lv_istore_n (lv' := [(1, .int 0), (0, .ref h0)]) hx hb dX11_begin_30 rfl hl (by decide) rfl (fun ls hl => ?_)
        refine lv_iload_n hx hb dX11_begin_31 rfl (lv_at hl 0 rfl) ?_
        refine lv_bipush (v := 15) hx hb dX11_begin_32 (by decide) ?_
        refine lv_icmp_ge (tgt := 53) hx hb dX11_begin_34 (by decide) (fun c => absurd c (by decide)) (fun _ => ?_)
        refine lv_aload_n hx hb dX11_begin_37 rfl (lv_at hl 1 rfl) ?_
        refine va_get (D := (dC, dI)) (ci := 11) (v := .ref rz) (C := RX11) (T := TX11) (N := 24) hx hb hts hnX11 hown hK hP 0 rfl rfl 0 (by decide) hf7 (fun _ h9 => h9) rfl dX11_begin_38 ?_
        refine lv_bipush (v := 45) hx hb dX11_begin_41 (by decide) ?_
        refine lv_iload_n hx hb dX11_begin_43 rfl (lv_at hl 0 rfl) ?_
        refine lv_iadd hx hb dX11_begin_44 ?_
        refine yy_int (v := 45) (by decide) ?_
        refine lv_iconst (v := 1) hx hb dX11_begin_45 (by decide) ?_
        refine yy_iast (f' := (yA 1)) hx hb hK hP hD hS 1 0 rfl rfl (yin (by decide)) dX11_begin_46 yA_s (fun H locs hP hD hS => ?_)
        have hP : va_P (dC, dI) vwCl [(h0, .inr (11, [.ref rz, .int 0, .int 0, .ref rf, .ref rl, .ref rwx, .ref rb, .int 0, .ref rwd, .ref rk, .ref ra, .int 0, .int 32, .int 0, .ref rs, .ref rt, .int 0, .int 0, .ref rwr, .ref rp, .ref rsi, .ref rke, .ref rkc, .ref rik])), (rz, .inl (cyI, 2490, .inl (yA 1)))] H := hP
        have hD : va_D A [(h0, .inr (11, [.ref rz, .int 0, .int 0, .ref rf, .ref rl, .ref rwx, .ref rb, .int 0, .ref rwd, .ref rk, .ref ra, .int 0, .int 32, .int 0, .ref rs, .ref rt, .int 0, .int 0, .ref rwr, .ref rp, .ref rsi, .ref rke, .ref rkc, .ref rik])), (rz, .inl (cyI, 2490, .inl (yA 1)))] := hD
        refine lv_iinc (v := 1) (lv' := [(1, .int 1), (0, .ref h0)]) hx hb dX11_begin_47 hl (k := 0) rfl (by decide) (by decide) rfl (fun ls hl => ?_)
        refine lv_goto (tgt := 31) hx hb dX11_begin_50 (by decide) ?_
        refine lv_iload_n hx hb dX11_begin_31 rfl (lv_at hl 0 rfl) ?_
        refine lv_bipush (v := 15) hx hb dX11_begin_32 (by decide) ?_
        refine lv_icmp_ge (tgt := 53) hx hb dX11_begin_34 (by decide) (fun c => absurd c (by decide)) (fun _ => ?_)
        refine lv_aload_n hx hb dX11_begin_37 rfl (lv_at hl 1 rfl) ?_
        refine va_get (D := (dC, dI)) (ci := 11) (v := .ref rz) (C := RX11) (T := TX11) (N := 24) hx hb hts hnX11 hown hK hP 0 rfl rfl 0 (by decide) hf7 (fun _ h9 => h9) rfl dX11_begin_38 ?_
        refine lv_bipush (v := 45) hx hb dX11_begin_41 (by decide) ?_
        refine lv_iload_n hx hb dX11_begin_43 rfl (lv_at hl 0 rfl) ?_
        refine lv_iadd hx hb dX11_begin_44 ?_
        refine yy_int (v := 46) (by decide) ?_
        refine lv_iconst (v := 1) hx hb dX11_begin_45 (by decide) ?_
        refine yy_iast (f' := (yA 2)) hx hb hK hP hD hS 1 0 rfl rfl (yin (by decide)) dX11_begin_46 yA_s (fun H locs hP hD hS => ?_)
        have hP : va_P (dC, dI) vwCl [(h0, .inr (11, [.ref rz, .int 0, .int 0, .ref rf, .ref rl, .ref rwx, .ref rb, .int 0, .ref rwd, .ref rk, .ref ra, .int 0, .int 32, .int 0, .ref rs, .ref rt, .int 0, .int 0, .ref rwr, .ref rp, .ref rsi, .ref rke, .ref rkc, .ref rik])), (rz, .inl (cyI, 2490, .inl (yA 2)))] H := hP
        have hD : va_D A [(h0, .inr (11, [.ref rz, .int 0, .int 0, .ref rf, .ref rl, .ref rwx, .ref rb, .int 0, .ref rwd, .ref rk, .ref ra, .int 0, .int 32, .int 0, .ref rs, .ref rt, .int 0, .int 0, .ref rwr, .ref rp, .ref rsi, .ref rke, .ref rkc, .ref rik])), (rz, .inl (cyI, 2490, .inl (yA 2)))] := hD
        refine lv_iinc (v := 2) (lv' := [(1, .int 2), (0, .ref h0)]) hx hb dX11_begin_47 hl (k := 0) rfl (by decide) (by decide) rfl (fun ls hl => ?_)
        refine lv_goto (tgt := 31) hx hb dX11_begin_50 (by decide) ?_
        refine lv_iload_n hx hb dX11_begin_31 rfl (lv_at hl 0 rfl) ?_
        refine lv_bipush (v := 15) hx hb dX11_begin_32 (by decide) ?_
        refine lv_icmp_ge (tgt := 53) hx hb dX11_begin_34 (by decide) (fun c => absurd c (by decide)) (fun _ => ?_)
        refine lv_aload_n hx hb dX11_begin_37 rfl (lv_at hl 1 rfl) ?_
        refine va_get (D := (dC, dI)) (ci := 11) (v := .ref rz) (C := RX11) (T := TX11) (N := 24) hx hb hts hnX11 hown hK hP 0 rfl rfl 0 (by decide) hf7 (fun _ h9 => h9) rfl dX11_begin_38 ?_
        refine lv_bipush (v := 45) hx hb dX11_begin_41 (by decide) ?_
        refine lv_iload_n hx hb dX11_begin_43 rfl (lv_at hl 0 rfl) ?_
        refine lv_iadd hx hb dX11_begin_44 ?_
        refine yy_int (v := 47) (by decide) ?_
        refine lv_iconst (v := 1) hx hb dX11_begin_45 (by decide) ?_
        refine yy_iast (f' := (yA 3)) hx hb hK hP hD hS 1 0 rfl rfl (yin (by decide)) dX11_begin_46 yA_s (fun H locs hP hD hS => ?_)
        have hP : va_P (dC, dI) vwCl [(h0, .inr (11, [.ref rz, .int 0, .int 0, .ref rf, .ref rl, .ref rwx, .ref rb, .int 0, .ref rwd, .ref rk, .ref ra, .int 0, .int 32, .int 0, .ref rs, .ref rt, .int 0, .int 0, .ref rwr, .ref rp, .ref rsi, .ref rke, .ref rkc, .ref rik])), (rz, .inl (cyI, 2490, .inl (yA 3)))] H := hP
        have hD : va_D A [(h0, .inr (11, [.ref rz, .int 0, .int 0, .ref rf, .ref rl, .ref rwx, .ref rb, .int 0, .ref rwd, .ref rk, .ref ra, .int 0, .int 32, .int 0, .ref rs, .ref rt, .int 0, .int 0, .ref rwr, .ref rp, .ref rsi, .ref rke, .ref rkc, .ref rik])), (rz, .inl (cyI, 2490, .inl (yA 3)))] := hD
        refine lv_iinc (v := 3) (lv' := [(1, .int 3), (0, .ref h0)]) hx hb dX11_begin_47 hl (k := 0) rfl (by decide) (by decide) rfl (fun ls hl => ?_)
        refine lv_goto (tgt := 31) hx hb dX11_begin_50 (by decide) ?_
        refine lv_iload_n hx hb dX11_begin_31 rfl (lv_at hl 0 rfl) ?_
        refine lv_bipush (v := 15) hx hb dX11_begin_32 (by decide) ?_
        refine lv_icmp_ge (tgt := 53) hx hb dX11_begin_34 (by decide) (fun c => absurd c (by decide)) (fun _ => ?_)
        refine lv_aload_n hx hb dX11_begin_37 rfl (lv_at hl 1 rfl) ?_
        refine va_get (D := (dC, dI)) (ci := 11) (v := .ref rz) (C := RX11) (T := TX11) (N := 24) hx hb hts hnX11 hown hK hP 0 rfl rfl 0 (by decide) hf7 (fun _ h9 => h9) rfl dX11_begin_38 ?_
        refine lv_bipush (v := 45) hx hb dX11_begin_41 (by decide) ?_
        refine lv_iload_n hx hb dX11_begin_43 rfl (lv_at hl 0 rfl) ?_
        refine lv_iadd hx hb dX11_begin_44 ?_
        refine yy_int (v := 48) (by decide) ?_
        refine lv_iconst (v := 1) hx hb dX11_begin_45 (by decide) ?_
        refine yy_iast (f' := (yA 4)) hx hb hK hP hD hS 1 0 rfl rfl (yin (by decide)) dX11_begin_46 yA_s (fun H locs hP hD hS => ?_)
        have hP : va_P (dC, dI) vwCl [(h0, .inr (11, [.ref rz, .int 0, .int 0, .ref rf, .ref rl, .ref rwx, .ref rb, .int 0, .ref rwd, .ref rk, .ref ra, .int 0, .int 32, .int 0, .ref rs, .ref rt, .int 0, .int 0, .ref rwr, .ref rp, .ref rsi, .ref rke, .ref rkc, .ref rik])), (rz, .inl (cyI, 2490, .inl (yA 4)))] H := hP
        have hD : va_D A [(h0, .inr (11, [.ref rz, .int 0, .int 0, .ref rf, .ref rl, .ref rwx, .ref rb, .int 0, .ref rwd, .ref rk, .ref ra, .int 0, .int 32, .int 0, .ref rs, .ref rt, .int 0, .int 0, .ref rwr, .ref rp, .ref rsi, .ref rke, .ref rkc, .ref rik])), (rz, .inl (cyI, 2490, .inl (yA 4)))] := hD
        refine lv_iinc (v := 4) (lv' := [(1, .int 4), (0, .ref h0)]) hx hb dX11_begin_47 hl (k := 0) rfl (by decide) (by decide) rfl (fun ls hl => ?_)
        refine lv_goto (tgt := 31) hx hb dX11_begin_50 (by decide) ?_
        refine lv_iload_n hx hb dX11_begin_31 rfl (lv_at hl 0 rfl) ?_
        refine lv_bipush (v := 15) hx hb dX11_begin_32 (by decide) ?_
        refine lv_icmp_ge (tgt := 53) hx hb dX11_begin_34 (by decide) (fun c => absurd c (by decide)) (fun _ => ?_)
        refine lv_aload_n hx hb dX11_begin_37 rfl (lv_at hl 1 rfl) ?_
        refine va_get (D := (dC, dI)) (ci := 11) (v := .ref rz) (C := RX11) (T := TX11) (N := 24) hx hb hts hnX11 hown hK hP 0 rfl rfl 0 (by decide) hf7 (fun _ h9 => h9) rfl dX11_begin_38 ?_
        refine lv_bipush (v := 45) hx hb dX11_begin_41 (by decide) ?_
        refine lv_iload_n hx hb dX11_begin_43 rfl (lv_at hl 0 rfl) ?_
        refine lv_iadd hx hb dX11_begin_44 ?_
        refine yy_int (v := 49) (by decide) ?_
        refine lv_iconst (v := 1) hx hb dX11_begin_45 (by decide) ?_
        refine yy_iast (f' := (yA 5)) hx hb hK hP hD hS 1 0 rfl rfl (yin (by decide)) dX11_begin_46 yA_s (fun H locs hP hD hS => ?_)
        have hP : va_P (dC, dI) vwCl [(h0, .inr (11, [.ref rz, .int 0, .int 0, .ref rf, .ref rl, .ref rwx, .ref rb, .int 0, .ref rwd, .ref rk, .ref ra, .int 0, .int 32, .int 0, .ref rs, .ref rt, .int 0, .int 0, .ref rwr, .ref rp, .ref rsi, .ref rke, .ref rkc, .ref rik])), (rz, .inl (cyI, 2490, .inl (yA 5)))] H := hP
        have hD : va_D A [(h0, .inr (11, [.ref rz, .int 0, .int 0, .ref rf, .ref rl, .ref rwx, .ref rb, .int 0, .ref rwd, .ref rk, .ref ra, .int 0, .int 32, .int 0, .ref rs, .ref rt, .int 0, .int 0, .ref rwr, .ref rp, .ref rsi, .ref rke, .ref rkc, .ref rik])), (rz, .inl (cyI, 2490, .inl (yA 5)))] := hD
        refine lv_iinc (v := 5) (lv' := [(1, .int 5), (0, .ref h0)]) hx hb dX11_begin_47 hl (k := 0) rfl (by decide) (by decide) rfl (fun ls hl => ?_)
        refine lv_goto (tgt := 31) hx hb dX11_begin_50 (by decide) ?_
        refine lv_iload_n hx hb dX11_begin_31 rfl (lv_at hl 0 rfl) ?_
        refine lv_bipush (v := 15) hx hb dX11_begin_32 (by decide) ?_
        refine lv_icmp_ge (tgt := 53) hx hb dX11_begin_34 (by decide) (fun c => absurd c (by decide)) (fun _ => ?_)
        refine lv_aload_n hx hb dX11_begin_37 rfl (lv_at hl 1 rfl) ?_
        refine va_get (D := (dC, dI)) (ci := 11) (v := .ref rz) (C := RX11) (T := TX11) (N := 24) hx hb hts hnX11 hown hK hP 0 rfl rfl 0 (by decide) hf7 (fun _ h9 => h9) rfl dX11_begin_38 ?_
        refine lv_bipush (v := 45) hx hb dX11_begin_41 (by decide) ?_
        refine lv_iload_n hx hb dX11_begin_43 rfl (lv_at hl 0 rfl) ?_
        refine lv_iadd hx hb dX11_begin_44 ?_
        refine yy_int (v := 50) (by decide) ?_
        refine lv_iconst (v := 1) hx hb dX11_begin_45 (by decide) ?_
        refine yy_iast (f' := (yA 6)) hx hb hK hP hD hS 1 0 rfl rfl (yin (by decide)) dX11_begin_46 yA_s (fun H locs hP hD hS => ?_)
        have hP : va_P (dC, dI) vwCl [(h0, .inr (11, [.ref rz, .int 0, .int 0, .ref rf, .ref rl, .ref rwx, .ref rb, .int 0, .ref rwd, .ref rk, .ref ra, .int 0, .int 32, .int 0, .ref rs, .ref rt, .int 0, .int 0, .ref rwr, .ref rp, .ref rsi, .ref rke, .ref rkc, .ref rik])), (rz, .inl (cyI, 2490, .inl (yA 6)))] H := hP
        have hD : va_D A [(h0, .inr (11, [.ref rz, .int 0, .int 0, .ref rf, .ref rl, .ref rwx, .ref rb, .int 0, .ref rwd, .ref rk, .ref ra, .int 0, .int 32, .int 0, .ref rs, .ref rt, .int 0, .int 0, .ref rwr, .ref rp, .ref rsi, .ref rke, .ref rkc, .ref rik])), (rz, .inl (cyI, 2490, .inl (yA 6)))] := hD
        refine lv_iinc (v := 6) (lv' := [(1, .int 6), (0, .ref h0)]) hx hb dX11_begin_47 hl (k := 0) rfl (by decide) (by decide) rfl (fun ls hl => ?_)
        refine lv_goto (tgt := 31) hx hb dX11_begin_50 (by decide) ?_
        refine lv_iload_n hx hb dX11_begin_31 rfl (lv_at hl 0 rfl) ?_
        refine lv_bipush (v := 15) hx hb dX11_begin_32 (by decide) ?_
        refine lv_icmp_ge (tgt := 53) hx hb dX11_begin_34 (by decide) (fun c => absurd c (by decide)) (fun _ => ?_)
        refine lv_aload_n hx hb dX11_begin_37 rfl (lv_at hl 1 rfl) ?_
        refine va_get (D := (dC, dI)) (ci := 11) (v := .ref rz) (C := RX11) (T := TX11) (N := 24) hx hb hts hnX11 hown hK hP 0 rfl rfl 0 (by decide) hf7 (fun _ h9 => h9) rfl dX11_begin_38 ?_
        refine lv_bipush (v := 45) hx hb dX11_begin_41 (by decide) ?_
        refine lv_iload_n hx hb dX11_begin_43 rfl (lv_at hl 0 rfl) ?_
        refine lv_iadd hx hb dX11_begin_44 ?_
        refine yy_int (v := 51) (by decide) ?_
        refine lv_iconst (v := 1) hx hb dX11_begin_45 (by decide) ?_
        refine yy_iast (f' := (yA 7)) hx hb hK hP hD hS 1 0 rfl rfl (yin (by decide)) dX11_begin_46 yA_s (fun H locs hP hD hS => ?_)
        have hP : va_P (dC, dI) vwCl [(h0, .inr (11, [.ref rz, .int 0, .int 0, .ref rf, .ref rl, .ref rwx, .ref rb, .int 0, .ref rwd, .ref rk, .ref ra, .int 0, .int 32, .int 0, .ref rs, .ref rt, .int 0, .int 0, .ref rwr, .ref rp, .ref rsi, .ref rke, .ref rkc, .ref rik])), (rz, .inl (cyI, 2490, .inl (yA 7)))] H := hP
        have hD : va_D A [(h0, .inr (11, [.ref rz, .int 0, .int 0, .ref rf, .ref rl, .ref rwx, .ref rb, .int 0, .ref rwd, .ref rk, .ref ra, .int 0, .int 32, .int 0, .ref rs, .ref rt, .int 0, .int 0, .ref rwr, .ref rp, .ref rsi, .ref rke, .ref rkc, .ref rik])), (rz, .inl (cyI, 2490, .inl (yA 7)))] := hD
        refine lv_iinc (v := 7) (lv' := [(1, .int 7), (0, .ref h0)]) hx hb dX11_begin_47 hl (k := 0) rfl (by decide) (by decide) rfl (fun ls hl => ?_)
        refine lv_goto (tgt := 31) hx hb dX11_begin_50 (by decide) ?_
        refine lv_iload_n hx hb dX11_begin_31 rfl (lv_at hl 0 rfl) ?_
        refine lv_bipush (v := 15) hx hb dX11_begin_32 (by decide) ?_
        refine lv_icmp_ge (tgt := 53) hx hb dX11_begin_34 (by decide) (fun c => absurd c (by decide)) (fun _ => ?_)
        refine lv_aload_n hx hb dX11_begin_37 rfl (lv_at hl 1 rfl) ?_
        refine va_get (D := (dC, dI)) (ci := 11) (v := .ref rz) (C := RX11) (T := TX11) (N := 24) hx hb hts hnX11 hown hK hP 0 rfl rfl 0 (by decide) hf7 (fun _ h9 => h9) rfl dX11_begin_38 ?_
        refine lv_bipush (v := 45) hx hb dX11_begin_41 (by decide) ?_
        refine lv_iload_n hx hb dX11_begin_43 rfl (lv_at hl 0 rfl) ?_
        refine lv_iadd hx hb dX11_begin_44 ?_
        refine yy_int (v := 52) (by decide) ?_
        refine lv_iconst (v := 1) hx hb dX11_begin_45 (by decide) ?_
        refine yy_iast (f' := (yA 8)) hx hb hK hP hD hS 1 0 rfl rfl (yin (by decide)) dX11_begin_46 yA_s (fun H locs hP hD hS => ?_)
        have hP : va_P (dC, dI) vwCl [(h0, .inr (11, [.ref rz, .int 0, .int 0, .ref rf, .ref rl, .ref rwx, .ref rb, .int 0, .ref rwd, .ref rk, .ref ra, .int 0, .int 32, .int 0, .ref rs, .ref rt, .int 0, .int 0, .ref rwr, .ref rp, .ref rsi, .ref rke, .ref rkc, .ref rik])), (rz, .inl (cyI, 2490, .inl (yA 8)))] H := hP
        have hD : va_D A [(h0, .inr (11, [.ref rz, .int 0, .int 0, .ref rf, .ref rl, .ref rwx, .ref rb, .int 0, .ref rwd, .ref rk, .ref ra, .int 0, .int 32, .int 0, .ref rs, .ref rt, .int 0, .int 0, .ref rwr, .ref rp, .ref rsi, .ref rke, .ref rkc, .ref rik])), (rz, .inl (cyI, 2490, .inl (yA 8)))] := hD
        refine lv_iinc (v := 8) (lv' := [(1, .int 8), (0, .ref h0)]) hx hb dX11_begin_47 hl (k := 0) rfl (by decide) (by decide) rfl (fun ls hl => ?_)
        refine lv_goto (tgt := 31) hx hb dX11_begin_50 (by decide) ?_
        refine lv_iload_n hx hb dX11_begin_31 rfl (lv_at hl 0 rfl) ?_
        refine lv_bipush (v := 15) hx hb dX11_begin_32 (by decide) ?_
        refine lv_icmp_ge (tgt := 53) hx hb dX11_begin_34 (by decide) (fun c => absurd c (by decide)) (fun _ => ?_)
        refine lv_aload_n hx hb dX11_begin_37 rfl (lv_at hl 1 rfl) ?_
        refine va_get (D := (dC, dI)) (ci := 11) (v := .ref rz) (C := RX11) (T := TX11) (N := 24) hx hb hts hnX11 hown hK hP 0 rfl rfl 0 (by decide) hf7 (fun _ h9 => h9) rfl dX11_begin_38 ?_
        refine lv_bipush (v := 45) hx hb dX11_begin_41 (by decide) ?_
        refine lv_iload_n hx hb dX11_begin_43 rfl (lv_at hl 0 rfl) ?_
        refine lv_iadd hx hb dX11_begin_44 ?_
        refine yy_int (v := 53) (by decide) ?_
        refine lv_iconst (v := 1) hx hb dX11_begin_45 (by decide) ?_
        refine yy_iast (f' := (yA 9)) hx hb hK hP hD hS 1 0 rfl rfl (yin (by decide)) dX11_begin_46 yA_s (fun H locs hP hD hS => ?_)
        have hP : va_P (dC, dI) vwCl [(h0, .inr (11, [.ref rz, .int 0, .int 0, .ref rf, .ref rl, .ref rwx, .ref rb, .int 0, .ref rwd, .ref rk, .ref ra, .int 0, .int 32, .int 0, .ref rs, .ref rt, .int 0, .int 0, .ref rwr, .ref rp, .ref rsi, .ref rke, .ref rkc, .ref rik])), (rz, .inl (cyI, 2490, .inl (yA 9)))] H := hP
        have hD : va_D A [(h0, .inr (11, [.ref rz, .int 0, .int 0, .ref rf, .ref rl, .ref rwx, .ref rb, .int 0, .ref rwd, .ref rk, .ref ra, .int 0, .int 32, .int 0, .ref rs, .ref rt, .int 0, .int 0, .ref rwr, .ref rp, .ref rsi, .ref rke, .ref rkc, .ref rik])), (rz, .inl (cyI, 2490, .inl (yA 9)))] := hD
        refine lv_iinc (v := 9) (lv' := [(1, .int 9), (0, .ref h0)]) hx hb dX11_begin_47 hl (k := 0) rfl (by decide) (by decide) rfl (fun ls hl => ?_)
        refine lv_goto (tgt := 31) hx hb dX11_begin_50 (by decide) ?_
        refine lv_iload_n hx hb dX11_begin_31 rfl (lv_at hl 0 rfl) ?_
        refine lv_bipush (v := 15) hx hb dX11_begin_32 (by decide) ?_
        refine lv_icmp_ge (tgt := 53) hx hb dX11_begin_34 (by decide) (fun c => absurd c (by decide)) (fun _ => ?_)
        refine lv_aload_n hx hb dX11_begin_37 rfl (lv_at hl 1 rfl) ?_
        refine va_get (D := (dC, dI)) (ci := 11) (v := .ref rz) (C := RX11) (T := TX11) (N := 24) hx hb hts hnX11 hown hK hP 0 rfl rfl 0 (by decide) hf7 (fun _ h9 => h9) rfl dX11_begin_38 ?_
        refine lv_bipush (v := 45) hx hb dX11_begin_41 (by decide) ?_
        refine lv_iload_n hx hb dX11_begin_43 rfl (lv_at hl 0 rfl) ?_
        refine lv_iadd hx hb dX11_begin_44 ?_
        refine yy_int (v := 54) (by decide) ?_
        refine lv_iconst (v := 1) hx hb dX11_begin_45 (by decide) ?_
        refine yy_iast (f' := (yA 10)) hx hb hK hP hD hS 1 0 rfl rfl (yin (by decide)) dX11_begin_46 yA_s (fun H locs hP hD hS => ?_)
        have hP : va_P (dC, dI) vwCl [(h0, .inr (11, [.ref rz, .int 0, .int 0, .ref rf, .ref rl, .ref rwx, .ref rb, .int 0, .ref rwd, .ref rk, .ref ra, .int 0, .int 32, .int 0, .ref rs, .ref rt, .int 0, .int 0, .ref rwr, .ref rp, .ref rsi, .ref rke, .ref rkc, .ref rik])), (rz, .inl (cyI, 2490, .inl (yA 10)))] H := hP
        have hD : va_D A [(h0, .inr (11, [.ref rz, .int 0, .int 0, .ref rf, .ref rl, .ref rwx, .ref rb, .int 0, .ref rwd, .ref rk, .ref ra, .int 0, .int 32, .int 0, .ref rs, .ref rt, .int 0, .int 0, .ref rwr, .ref rp, .ref rsi, .ref rke, .ref rkc, .ref rik])), (rz, .inl (cyI, 2490, .inl (yA 10)))] := hD
        refine lv_iinc (v := 10) (lv' := [(1, .int 10), (0, .ref h0)]) hx hb dX11_begin_47 hl (k := 0) rfl (by decide) (by decide) rfl (fun ls hl => ?_)
        refine lv_goto (tgt := 31) hx hb dX11_begin_50 (by decide) ?_
        refine lv_iload_n hx hb dX11_begin_31 rfl (lv_at hl 0 rfl) ?_
        refine lv_bipush (v := 15) hx hb dX11_begin_32 (by decide) ?_
        refine lv_icmp_ge (tgt := 53) hx hb dX11_begin_34 (by decide) (fun c => absurd c (by decide)) (fun _ => ?_)
        refine lv_aload_n hx hb dX11_begin_37 rfl (lv_at hl 1 rfl) ?_
        refine va_get (D := (dC, dI)) (ci := 11) (v := .ref rz) (C := RX11) (T := TX11) (N := 24) hx hb hts hnX11 hown hK hP 0 rfl rfl 0 (by decide) hf7 (fun _ h9 => h9) rfl dX11_begin_38 ?_
        refine lv_bipush (v := 45) hx hb dX11_begin_41 (by decide) ?_
        refine lv_iload_n hx hb dX11_begin_43 rfl (lv_at hl 0 rfl) ?_
        refine lv_iadd hx hb dX11_begin_44 ?_
        refine yy_int (v := 55) (by decide) ?_
        refine lv_iconst (v := 1) hx hb dX11_begin_45 (by decide) ?_
        refine yy_iast (f' := (yA 11)) hx hb hK hP hD hS 1 0 rfl rfl (yin (by decide)) dX11_begin_46 yA_s (fun H locs hP hD hS => ?_)
        have hP : va_P (dC, dI) vwCl [(h0, .inr (11, [.ref rz, .int 0, .int 0, .ref rf, .ref rl, .ref rwx, .ref rb, .int 0, .ref rwd, .ref rk, .ref ra, .int 0, .int 32, .int 0, .ref rs, .ref rt, .int 0, .int 0, .ref rwr, .ref rp, .ref rsi, .ref rke, .ref rkc, .ref rik])), (rz, .inl (cyI, 2490, .inl (yA 11)))] H := hP
        have hD : va_D A [(h0, .inr (11, [.ref rz, .int 0, .int 0, .ref rf, .ref rl, .ref rwx, .ref rb, .int 0, .ref rwd, .ref rk, .ref ra, .int 0, .int 32, .int 0, .ref rs, .ref rt, .int 0, .int 0, .ref rwr, .ref rp, .ref rsi, .ref rke, .ref rkc, .ref rik])), (rz, .inl (cyI, 2490, .inl (yA 11)))] := hD
        refine lv_iinc (v := 11) (lv' := [(1, .int 11), (0, .ref h0)]) hx hb dX11_begin_47 hl (k := 0) rfl (by decide) (by decide) rfl (fun ls hl => ?_)
        refine lv_goto (tgt := 31) hx hb dX11_begin_50 (by decide) ?_
        refine lv_iload_n hx hb dX11_begin_31 rfl (lv_at hl 0 rfl) ?_
        refine lv_bipush (v := 15) hx hb dX11_begin_32 (by decide) ?_
        refine lv_icmp_ge (tgt := 53) hx hb dX11_begin_34 (by decide) (fun c => absurd c (by decide)) (fun _ => ?_)
        refine lv_aload_n hx hb dX11_begin_37 rfl (lv_at hl 1 rfl) ?_
        refine va_get (D := (dC, dI)) (ci := 11) (v := .ref rz) (C := RX11) (T := TX11) (N := 24) hx hb hts hnX11 hown hK hP 0 rfl rfl 0 (by decide) hf7 (fun _ h9 => h9) rfl dX11_begin_38 ?_
        refine lv_bipush (v := 45) hx hb dX11_begin_41 (by decide) ?_
        refine lv_iload_n hx hb dX11_begin_43 rfl (lv_at hl 0 rfl) ?_
        refine lv_iadd hx hb dX11_begin_44 ?_
        refine yy_int (v := 56) (by decide) ?_
        refine lv_iconst (v := 1) hx hb dX11_begin_45 (by decide) ?_
        refine yy_iast (f' := (yA 12)) hx hb hK hP hD hS 1 0 rfl rfl (yin (by decide)) dX11_begin_46 yA_s (fun H locs hP hD hS => ?_)
        have hP : va_P (dC, dI) vwCl [(h0, .inr (11, [.ref rz, .int 0, .int 0, .ref rf, .ref rl, .ref rwx, .ref rb, .int 0, .ref rwd, .ref rk, .ref ra, .int 0, .int 32, .int 0, .ref rs, .ref rt, .int 0, .int 0, .ref rwr, .ref rp, .ref rsi, .ref rke, .ref rkc, .ref rik])), (rz, .inl (cyI, 2490, .inl (yA 12)))] H := hP
        have hD : va_D A [(h0, .inr (11, [.ref rz, .int 0, .int 0, .ref rf, .ref rl, .ref rwx, .ref rb, .int 0, .ref rwd, .ref rk, .ref ra, .int 0, .int 32, .int 0, .ref rs, .ref rt, .int 0, .int 0, .ref rwr, .ref rp, .ref rsi, .ref rke, .ref rkc, .ref rik])), (rz, .inl (cyI, 2490, .inl (yA 12)))] := hD
        refine lv_iinc (v := 12) (lv' := [(1, .int 12), (0, .ref h0)]) hx hb dX11_begin_47 hl (k := 0) rfl (by decide) (by decide) rfl (fun ls hl => ?_)
        refine lv_goto (tgt := 31) hx hb dX11_begin_50 (by decide) ?_
        refine lv_iload_n hx hb dX11_begin_31 rfl (lv_at hl 0 rfl) ?_
        refine lv_bipush (v := 15) hx hb dX11_begin_32 (by decide) ?_
        refine lv_icmp_ge (tgt := 53) hx hb dX11_begin_34 (by decide) (fun c => absurd c (by decide)) (fun _ => ?_)
        refine lv_aload_n hx hb dX11_begin_37 rfl (lv_at hl 1 rfl) ?_
        refine va_get (D := (dC, dI)) (ci := 11) (v := .ref rz) (C := RX11) (T := TX11) (N := 24) hx hb hts hnX11 hown hK hP 0 rfl rfl 0 (by decide) hf7 (fun _ h9 => h9) rfl dX11_begin_38 ?_
        refine lv_bipush (v := 45) hx hb dX11_begin_41 (by decide) ?_
        refine lv_iload_n hx hb dX11_begin_43 rfl (lv_at hl 0 rfl) ?_
        refine lv_iadd hx hb dX11_begin_44 ?_
        refine yy_int (v := 57) (by decide) ?_
        refine lv_iconst (v := 1) hx hb dX11_begin_45 (by decide) ?_
        refine yy_iast (f' := (yA 13)) hx hb hK hP hD hS 1 0 rfl rfl (yin (by decide)) dX11_begin_46 yA_s (fun H locs hP hD hS => ?_)
        have hP : va_P (dC, dI) vwCl [(h0, .inr (11, [.ref rz, .int 0, .int 0, .ref rf, .ref rl, .ref rwx, .ref rb, .int 0, .ref rwd, .ref rk, .ref ra, .int 0, .int 32, .int 0, .ref rs, .ref rt, .int 0, .int 0, .ref rwr, .ref rp, .ref rsi, .ref rke, .ref rkc, .ref rik])), (rz, .inl (cyI, 2490, .inl (yA 13)))] H := hP
        have hD : va_D A [(h0, .inr (11, [.ref rz, .int 0, .int 0, .ref rf, .ref rl, .ref rwx, .ref rb, .int 0, .ref rwd, .ref rk, .ref ra, .int 0, .int 32, .int 0, .ref rs, .ref rt, .int 0, .int 0, .ref rwr, .ref rp, .ref rsi, .ref rke, .ref rkc, .ref rik])), (rz, .inl (cyI, 2490, .inl (yA 13)))] := hD
        refine lv_iinc (v := 13) (lv' := [(1, .int 13), (0, .ref h0)]) hx hb dX11_begin_47 hl (k := 0) rfl (by decide) (by decide) rfl (fun ls hl => ?_)
        refine lv_goto (tgt := 31) hx hb dX11_begin_50 (by decide) ?_
        refine lv_iload_n hx hb dX11_begin_31 rfl (lv_at hl 0 rfl) ?_
        refine lv_bipush (v := 15) hx hb dX11_begin_32 (by decide) ?_
        refine lv_icmp_ge (tgt := 53) hx hb dX11_begin_34 (by decide) (fun c => absurd c (by decide)) (fun _ => ?_)
        refine lv_aload_n hx hb dX11_begin_37 rfl (lv_at hl 1 rfl) ?_
        refine va_get (D := (dC, dI)) (ci := 11) (v := .ref rz) (C := RX11) (T := TX11) (N := 24) hx hb hts hnX11 hown hK hP 0 rfl rfl 0 (by decide) hf7 (fun _ h9 => h9) rfl dX11_begin_38 ?_
        refine lv_bipush (v := 45) hx hb dX11_begin_41 (by decide) ?_
        refine lv_iload_n hx hb dX11_begin_43 rfl (lv_at hl 0 rfl) ?_
        refine lv_iadd hx hb dX11_begin_44 ?_
        refine yy_int (v := 58) (by decide) ?_
        refine lv_iconst (v := 1) hx hb dX11_begin_45 (by decide) ?_
        refine yy_iast (f' := (yA 14)) hx hb hK hP hD hS 1 0 rfl rfl (yin (by decide)) dX11_begin_46 yA_s (fun H locs hP hD hS => ?_)
        have hP : va_P (dC, dI) vwCl [(h0, .inr (11, [.ref rz, .int 0, .int 0, .ref rf, .ref rl, .ref rwx, .ref rb, .int 0, .ref rwd, .ref rk, .ref ra, .int 0, .int 32, .int 0, .ref rs, .ref rt, .int 0, .int 0, .ref rwr, .ref rp, .ref rsi, .ref rke, .ref rkc, .ref rik])), (rz, .inl (cyI, 2490, .inl (yA 14)))] H := hP
        have hD : va_D A [(h0, .inr (11, [.ref rz, .int 0, .int 0, .ref rf, .ref rl, .ref rwx, .ref rb, .int 0, .ref rwd, .ref rk, .ref ra, .int 0, .int 32, .int 0, .ref rs, .ref rt, .int 0, .int 0, .ref rwr, .ref rp, .ref rsi, .ref rke, .ref rkc, .ref rik])), (rz, .inl (cyI, 2490, .inl (yA 14)))] := hD
        refine lv_iinc (v := 14) (lv' := [(1, .int 14), (0, .ref h0)]) hx hb dX11_begin_47 hl (k := 0) rfl (by decide) (by decide) rfl (fun ls hl => ?_)
        refine lv_goto (tgt := 31) hx hb dX11_begin_50 (by decide) ?_
        refine lv_iload_n hx hb dX11_begin_31 rfl (lv_at hl 0 rfl) ?_
        refine lv_bipush (v := 15) hx hb dX11_begin_32 (by decide) ?_
        refine lv_icmp_ge (tgt := 53) hx hb dX11_begin_34 (by decide) (fun c => absurd c (by decide)) (fun _ => ?_)
        refine lv_aload_n hx hb dX11_begin_37 rfl (lv_at hl 1 rfl) ?_
        refine va_get (D := (dC, dI)) (ci := 11) (v := .ref rz) (C := RX11) (T := TX11) (N := 24) hx hb hts hnX11 hown hK hP 0 rfl rfl 0 (by decide) hf7 (fun _ h9 => h9) rfl dX11_begin_38 ?_
        refine lv_bipush (v := 45) hx hb dX11_begin_41 (by decide) ?_
        refine lv_iload_n hx hb dX11_begin_43 rfl (lv_at hl 0 rfl) ?_
        refine lv_iadd hx hb dX11_begin_44 ?_
        refine yy_int (v := 59) (by decide) ?_
        refine lv_iconst (v := 1) hx hb dX11_begin_45 (by decide) ?_
        refine yy_iast (f' := (yA 15)) hx hb hK hP hD hS 1 0 rfl rfl (yin (by decide)) dX11_begin_46 yA_s (fun H locs hP hD hS => ?_)
        have hP : va_P (dC, dI) vwCl [(h0, .inr (11, [.ref rz, .int 0, .int 0, .ref rf, .ref rl, .ref rwx, .ref rb, .int 0, .ref rwd, .ref rk, .ref ra, .int 0, .int 32, .int 0, .ref rs, .ref rt, .int 0, .int 0, .ref rwr, .ref rp, .ref rsi, .ref rke, .ref rkc, .ref rik])), (rz, .inl (cyI, 2490, .inl (yA 15)))] H := hP
        have hD : va_D A [(h0, .inr (11, [.ref rz, .int 0, .int 0, .ref rf, .ref rl, .ref rwx, .ref rb, .int 0, .ref rwd, .ref rk, .ref ra, .int 0, .int 32, .int 0, .ref rs, .ref rt, .int 0, .int 0, .ref rwr, .ref rp, .ref rsi, .ref rke, .ref rkc, .ref rik])), (rz, .inl (cyI, 2490, .inl (yA 15)))] := hD
        refine lv_iinc (v := 15) (lv' := [(1, .int 15), (0, .ref h0)]) hx hb dX11_begin_47 hl (k := 0) rfl (by decide) (by decide) rfl (fun ls hl => ?_)
        refine lv_goto (tgt := 31) hx hb dX11_begin_50 (by decide) ?_
        refine lv_iload_n hx hb dX11_begin_31 rfl (lv_at hl 0 rfl) ?_
        refine lv_bipush (v := 15) hx hb dX11_begin_32 (by decide) ?_
        refine lv_icmp_ge (tgt := 53) hx hb dX11_begin_34 (by decide) (fun _ => ?_) (fun c => absurd (by decide) c)
        refine lv_iconst (v := 0) hx hb dX11_begin_53 (by decide) ?_
        refine lv_istore_n (lv' := [(1, .int 0), (0, .ref h0)]) hx hb dX11_begin_54 rfl hl (by decide) rfl (fun ls hl => ?_)
        refine lv_iload_n hx hb dX11_begin_55 rfl (lv_at hl 0 rfl) ?_
        refine lv_aload_n hx hb dX11_begin_56 rfl (lv_at hl 1 rfl) ?_
        refine va_get (D := (dC, dI)) (ci := 11) (v := .int 0) (C := RX11) (T := TX11) (N := 24) hx hb hts hnX11 hown hK hP 0 rfl rfl 7 (by decide) hf69 (fun _ h9 => h9) rfl dX11_begin_57 ?_
        refine lv_icmp_ge (tgt := 84) hx hb dX11_begin_60 (by decide) (fun _ => ?_) (fun c => absurd (by decide) c)
        refine lv_aload_n hx hb dX11_begin_84 rfl (lv_at hl 1 rfl) ?_
        refine va_get (D := (dC, dI)) (ci := 11) (v := .ref rz) (C := RX11) (T := TX11) (N := 24) hx hb hts hnX11 hown hK hP 0 rfl rfl 0 (by decide) hf7 (fun _ h9 => h9) rfl dX11_begin_85 ?_
        refine lv_sipush (v := 180) hx hb dX11_begin_88 (by decide) ?_
        refine lv_iconst (v := (-1)) hx hb dX11_begin_91 (by decide) ?_
        refine yy_iast (f' := (upd (yA 15) 180 (-1))) hx hb hK hP hD hS 1 0 rfl rfl (yin (by decide)) dX11_begin_92 rfl (fun H locs hP hD hS => ?_)
        have hP : va_P (dC, dI) vwCl [(h0, .inr (11, [.ref rz, .int 0, .int 0, .ref rf, .ref rl, .ref rwx, .ref rb, .int 0, .ref rwd, .ref rk, .ref ra, .int 0, .int 32, .int 0, .ref rs, .ref rt, .int 0, .int 0, .ref rwr, .ref rp, .ref rsi, .ref rke, .ref rkc, .ref rik])), (rz, .inl (cyI, 2490, .inl (upd (yA 15) 180 (-1))))] H := hP
        have hD : va_D A [(h0, .inr (11, [.ref rz, .int 0, .int 0, .ref rf, .ref rl, .ref rwx, .ref rb, .int 0, .ref rwd, .ref rk, .ref ra, .int 0, .int 32, .int 0, .ref rs, .ref rt, .int 0, .int 0, .ref rwr, .ref rp, .ref rsi, .ref rke, .ref rkc, .ref rik])), (rz, .inl (cyI, 2490, .inl (upd (yA 15) 180 (-1))))] := hD
        refine lv_aload_n hx hb dX11_begin_93 rfl (lv_at hl 1 rfl) ?_
        refine va_get (D := (dC, dI)) (ci := 11) (v := .ref rz) (C := RX11) (T := TX11) (N := 24) hx hb hts hnX11 hown hK hP 0 rfl rfl 0 (by decide) hf7 (fun _ h9 => h9) rfl dX11_begin_94 ?_
        refine lv_sipush (v := 181) hx hb dX11_begin_97 (by decide) ?_
        refine lv_iconst (v := (-1)) hx hb dX11_begin_100 (by decide) ?_
        refine yy_iast (f' := (yz 0 0)) hx hb hK hP hD hS 1 0 rfl rfl (yin (by decide)) dX11_begin_101 yA_z (fun H locs hP hD hS => ?_)
        have hP : va_P (dC, dI) vwCl [(h0, .inr (11, [.ref rz, .int 0, .int 0, .ref rf, .ref rl, .ref rwx, .ref rb, .int 0, .ref rwd, .ref rk, .ref ra, .int 0, .int 32, .int 0, .ref rs, .ref rt, .int 0, .int 0, .ref rwr, .ref rp, .ref rsi, .ref rke, .ref rkc, .ref rik])), (rz, .inl (cyI, 2490, .inl (yz 0 0)))] H := hP
        have hD : va_D A [(h0, .inr (11, [.ref rz, .int 0, .int 0, .ref rf, .ref rl, .ref rwx, .ref rb, .int 0, .ref rwd, .ref rk, .ref ra, .int 0, .int 32, .int 0, .ref rs, .ref rt, .int 0, .int 0, .ref rwr, .ref rp, .ref rsi, .ref rke, .ref rkc, .ref rik])), (rz, .inl (cyI, 2490, .inl (yz 0 0)))] := hD
        refine W.widen (k := 0) (n := 0) (Nat.le_of_ble_eq_true rfl) (Nat.le_of_ble_eq_true rfl) ?_
        exact yy_vret () hx hb hr hlk hsz hAe hK hP hD hS [0, 1] rfl rfl (by decide) (trivial) dX11_begin_102
      · have hlt : i < 2490 := by rcases Nat.lt_or_ge i 2490 with q | q; exact q; exact absurd (by rw [ex]; exact nI_le q (by omega)) c6
        refine lv_aload_n hx hb dX11_begin_9 rfl (lv_at hl 1 rfl) ?_
        refine va_get (D := (dC, dI)) (ci := 11) (v := .ref rz) (C := RX11) (T := TX11) (N := 24) hx hb hts hnX11 hown hK hP 0 rfl rfl 0 (by decide) hf7 (fun _ h9 => h9) rfl dX11_begin_10 ?_
        refine lv_iload_n hx hb dX11_begin_13 rfl (lv_at hl 0 rfl) ?_
        refine lv_iconst (v := 0) hx hb dX11_begin_14 (by decide) ?_
        refine yy_iast (f' := (yfill (yz 0 0) 0 (i + 1))) hx hb hK hP hD hS 1 0 rfl rfl (by rw [ex]; exact vp_in_nI hlt (by decide)) dX11_begin_15 (by rw [ex, nI_clamp (by omega), eg]; exact yfill_s) (fun H locs hP hD hS => ?_)
        have hP : va_P (dC, dI) vwCl [(h0, .inr (11, [.ref rz, .int 0, .int 0, .ref rf, .ref rl, .ref rwx, .ref rb, .int 0, .ref rwd, .ref rk, .ref ra, .int 0, .int 32, .int 0, .ref rs, .ref rt, .int 0, .int 0, .ref rwr, .ref rp, .ref rsi, .ref rke, .ref rkc, .ref rik])), (rz, .inl (cyI, 2490, .inl (yfill (yz 0 0) 0 (i + 1))))] H := hP
        have hD : va_D A [(h0, .inr (11, [.ref rz, .int 0, .int 0, .ref rf, .ref rl, .ref rwx, .ref rb, .int 0, .ref rwd, .ref rk, .ref ra, .int 0, .int 32, .int 0, .ref rs, .ref rt, .int 0, .int 0, .ref rwr, .ref rp, .ref rsi, .ref rke, .ref rkc, .ref rik])), (rz, .inl (cyI, 2490, .inl (yfill (yz 0 0) 0 (i + 1))))] := hD
        refine lv_iinc (v := (nI (i + 1))) (lv' := [(1, .int (nI (i + 1))), (0, .ref h0)]) hx hb dX11_begin_16 hl (k := 0) rfl (by rw [ex]; exact nI_1 i) (by decide) rfl (fun ls hl => ?_)
        refine lv_goto (tgt := 2) hx hb dX11_begin_19 (by decide) ?_
        exact ih (i + 1) _ _ _ _ _ (by omega) (by omega) rfl rfl hP hD hS hl
  exact key 2491 0 0 _ _ _ _ (Nat.zero_le _) (by omega) nI_0.symm yfill_0.symm hP hD hS hl
set_option maxHeartbeats 4000000 in
set_option maxRecDepth 100000 in
theorem r_new (l : Launch) (dC : Nat → ClassId) (dI : Nat → Nat → Nat) (cyI cyZ cyO : ClassId) (sz : Nat) (h0 : Nat)  : Met l yX11_init wsX11_init ({ frames := 1, cells := 16, slots := 10364, locals := 21 }) (yPre [.ref h0] (dC, dI) [(h0, .inr (11, [.null, .int 0, .int 0, .null, .null, .null, .null, .int 0, .null, .null, .null, .int 0, .int 0, .int 0, .null, .null, .int 0, .int 0, .null, .null, .null, .null, .null, .null]))] (yT cyI cyZ cyO) sz) (yQv (fun (u : Nat → Nat) => True) (dC, dI) [(h0, .inr (11, [.null, .int 0, .int 0, .null, .null, .null, .null, .int 0, .null, .null, .null, .int 0, .int 0, .int 0, .null, .null, .int 0, .int 0, .null, .null, .null, .null, .null, .null]))] (yT cyI cyZ cyO) sz (fun u => [(h0, .inr (11, [.ref (u 0), .int 0, .int 0, .ref (u 1), .ref (u 2), .ref (u 3), .ref (u 4), .int 0, .ref (u 5), .ref (u 6), .ref (u 7), .int 0, .int 32, .int 0, .ref (u 8), .ref (u 9), .int 0, .int 0, .ref (u 10), .ref (u 11), .ref (u 12), .ref (u 13), .ref (u 14), .ref (u 15)])), ((u 0), .inl (cyI, 2490, .inl (yz 0 0))), ((u 1), .inl (cyI, 8, .inl (fun _ => 0))), ((u 2), .inl (cyI, 8, .inl (fun _ => 0))), ((u 3), .inl (cyI, 8, .inl (fun _ => 0))), ((u 4), .inl (cyZ, 8, .inl (fun _ => 0))), ((u 5), .inl (cyI, 48, .inl (fun _ => 0))), ((u 6), .inl (cyI, 48, .inl (fun _ => 0))), ((u 7), .inl (cyI, 48, .inl (fun _ => 0))), ((u 8), .inl (cyI, 15, .inl (fun _ => 0))), ((u 9), .inl (cyI, 15, .inl (fun _ => 0))), ((u 10), .inl (cyZ, 48, .inl (fun _ => 0))), ((u 11), .inl (cyI, 96, .inl (fun _ => 0))), ((u 12), .inl (cyI, 48, .inl (fun _ => 0))), ((u 13), .inl (cyI, 7470, .inl (fun _ => 0))), ((u 14), .inl (cyI, 3, .inl (fun _ => 0))), ((u 15), .inl (cyZ, 3, .inl (fun _ => 0)))])) 16 10364 (va_A [(h0, .inr (11, [.null, .int 0, .int 0, .null, .null, .null, .null, .int 0, .null, .null, .null, .int 0, .int 0, .int 0, .null, .null, .int 0, .int 0, .null, .null, .null, .null, .null, .null]))] sz) := by
  refine yMet (cc := cX11_init) (maxL := 1) (ret := none) (by decide) rfl (Nat.le_of_ble_eq_true rfl) ?_
  intro p e s m below meth c A hx hb hr hlk hml hts hown hnm hsz hAe hP hK hD hA hS ls hl
  have hl : lv_has ls 1 [(0, .ref h0)] := hl
  have haboolean := hts (.arrayClass .boolean) (by decide +kernel)
  have haint := hts (.arrayClass .int) (by decide +kernel)
  have hf13 := hts (.fieldLink RX11 13 "BusBridgeModel" "first" "[I") (by decide +kernel)
  have hf16 := hts (.fieldLink RX11 16 "BusBridgeModel" "last" "[I") (by decide +kernel)
  have hf19 := hts (.fieldLink RX11 19 "BusBridgeModel" "wait" "[I") (by decide +kernel)
  have hf22 := hts (.fieldLink RX11 22 "BusBridgeModel" "broken" "[Z") (by decide +kernel)
  have hf26 := hts (.fieldLink RX11 26 "BusBridgeModel" "word" "[I") (by decide +kernel)
  have hf29 := hts (.fieldLink RX11 29 "BusBridgeModel" "kind" "[I") (by decide +kernel)
  have hf32 := hts (.fieldLink RX11 32 "BusBridgeModel" "atFirst" "[I") (by decide +kernel)
  have hf35 := hts (.fieldLink RX11 35 "BusBridgeModel" "most" "I") (by decide +kernel)
  have hf39 := hts (.fieldLink RX11 39 "BusBridgeModel" "see" "[I") (by decide +kernel)
  have hf42 := hts (.fieldLink RX11 42 "BusBridgeModel" "set" "[I") (by decide +kernel)
  have hf45 := hts (.fieldLink RX11 45 "BusBridgeModel" "written" "[Z") (by decide +kernel)
  have hf48 := hts (.fieldLink RX11 48 "BusBridgeModel" "played" "[I") (by decide +kernel)
  have hf51 := hts (.fieldLink RX11 51 "BusBridgeModel" "since" "[I") (by decide +kernel)
  have hf54 := hts (.fieldLink RX11 54 "BusBridgeModel" "kept" "[I") (by decide +kernel)
  have hf57 := hts (.fieldLink RX11 57 "BusBridgeModel" "keptChanges" "[I") (by decide +kernel)
  have hf60 := hts (.fieldLink RX11 60 "BusBridgeModel" "isKept" "[Z") (by decide +kernel)
  have hf7 := hts (.fieldLink RX11 7 "BusBridgeModel" "z" "[I") (by decide +kernel)
  have hnX11 : ∀ w ∈ wsX110, w ∈ wsX11_init := by decide +kernel
  have ho1 := hts (.methodLink RX11 1 objectInit) (by decide +kernel)
  have hoi := hts (.instanceMethod objectInit) (by decide +kernel)
  have hoc := hts (.code objectInit ⟨#[0xb1]⟩ 1 none) (by decide +kernel)
  refine lv_aload_n hx hb dX11_init_0 rfl (lv_at hl 0 rfl) ?_
  refine W.objInit hx hb hown ho1 hoi hoc rfl (by rw [hml]; exact hl.1) rfl dX11_init_1 (Nat.le_of_ble_eq_true rfl) (Nat.le_of_ble_eq_true rfl) ?_
  refine W.eq (g2 := F0 m 4 ls []) rfl ?_
  refine lv_aload_n hx hb dX11_init_4 rfl (lv_at hl 0 rfl) ?_
  refine lv_sipush (v := 2490) hx hb dX11_init_5 (by decide) ?_
  refine yy_newI (N' := 2490) hx hb haint 0 rfl hK hP hD hS hA (by decide) (by decide) (by decide) (Nat.le_of_ble_eq_true rfl) (Nat.le_of_ble_eq_true rfl) dX11_init_8 (fun q_1 H hP hD hS => ?_)
  have hP : va_P (dC, dI) vwCl [(h0, .inr (11, [.null, .int 0, .int 0, .null, .null, .null, .null, .int 0, .null, .null, .null, .int 0, .int 0, .int 0, .null, .null, .int 0, .int 0, .null, .null, .null, .null, .null, .null])), (q_1, .inl (cyI, 2490, .inl (fun _ => 0)))] H := hP
  have hD : va_D A [(h0, .inr (11, [.null, .int 0, .int 0, .null, .null, .null, .null, .int 0, .null, .null, .null, .int 0, .int 0, .int 0, .null, .null, .int 0, .int 0, .null, .null, .null, .null, .null, .null])), (q_1, .inl (cyI, 2490, .inl (fun _ => 0)))] := hD
  refine W.widen (k := 1) (n := 2490) (Nat.le_of_ble_eq_true rfl) (Nat.le_of_ble_eq_true rfl) ?_
  refine va_putF (D := (dC, dI)) (ci := 11) (v := .ref q_1) (ty := (.array .int)) (C := RX11) (T := TX11) (N := 24) hx hb hts hnX11 tyX11 tyX11_ok nmX11 hown hK hP hD hS 0 rfl rfl 0 (by decide) hf7 (fun _ h9 => h9) rfl hnm rfl (by decide +kernel) rfl rfl (Nat.le_of_ble_eq_true rfl) dX11_init_10 (fun H locs hP hD hS => ?_)
  have hP : va_P (dC, dI) vwCl [(h0, .inr (11, [.ref q_1, .int 0, .int 0, .null, .null, .null, .null, .int 0, .null, .null, .null, .int 0, .int 0, .int 0, .null, .null, .int 0, .int 0, .null, .null, .null, .null, .null, .null])), (q_1, .inl (cyI, 2490, .inl (fun _ => 0)))] H := hP
  have hD : va_D A [(h0, .inr (11, [.ref q_1, .int 0, .int 0, .null, .null, .null, .null, .int 0, .null, .null, .null, .int 0, .int 0, .int 0, .null, .null, .int 0, .int 0, .null, .null, .null, .null, .null, .null])), (q_1, .inl (cyI, 2490, .inl (fun _ => 0)))] := hD
  refine lv_aload_n hx hb dX11_init_13 rfl (lv_at hl 0 rfl) ?_
  refine lv_bipush (v := 8) hx hb dX11_init_14 (by decide) ?_
  refine yy_newI (N' := 8) hx hb haint 0 rfl hK hP hD hS hA (by decide) (by decide) (by decide) (Nat.le_of_ble_eq_true rfl) (Nat.le_of_ble_eq_true rfl) dX11_init_16 (fun q_2 H hP hD hS => ?_)
  have hP : va_P (dC, dI) vwCl [(h0, .inr (11, [.ref q_1, .int 0, .int 0, .null, .null, .null, .null, .int 0, .null, .null, .null, .int 0, .int 0, .int 0, .null, .null, .int 0, .int 0, .null, .null, .null, .null, .null, .null])), (q_1, .inl (cyI, 2490, .inl (fun _ => 0))), (q_2, .inl (cyI, 8, .inl (fun _ => 0)))] H := hP
  have hD : va_D A [(h0, .inr (11, [.ref q_1, .int 0, .int 0, .null, .null, .null, .null, .int 0, .null, .null, .null, .int 0, .int 0, .int 0, .null, .null, .int 0, .int 0, .null, .null, .null, .null, .null, .null])), (q_1, .inl (cyI, 2490, .inl (fun _ => 0))), (q_2, .inl (cyI, 8, .inl (fun _ => 0)))] := hD
  refine W.widen (k := 2) (n := 2498) (Nat.le_of_ble_eq_true rfl) (Nat.le_of_ble_eq_true rfl) ?_
  refine va_putF (D := (dC, dI)) (ci := 11) (v := .ref q_2) (ty := (.array .int)) (C := RX11) (T := TX11) (N := 24) hx hb hts hnX11 tyX11 tyX11_ok nmX11 hown hK hP hD hS 0 rfl rfl 3 (by decide) hf13 (fun _ h9 => h9) rfl hnm rfl (by decide +kernel) rfl rfl (Nat.le_of_ble_eq_true rfl) dX11_init_18 (fun H locs hP hD hS => ?_)
  have hP : va_P (dC, dI) vwCl [(h0, .inr (11, [.ref q_1, .int 0, .int 0, .ref q_2, .null, .null, .null, .int 0, .null, .null, .null, .int 0, .int 0, .int 0, .null, .null, .int 0, .int 0, .null, .null, .null, .null, .null, .null])), (q_1, .inl (cyI, 2490, .inl (fun _ => 0))), (q_2, .inl (cyI, 8, .inl (fun _ => 0)))] H := hP
  have hD : va_D A [(h0, .inr (11, [.ref q_1, .int 0, .int 0, .ref q_2, .null, .null, .null, .int 0, .null, .null, .null, .int 0, .int 0, .int 0, .null, .null, .int 0, .int 0, .null, .null, .null, .null, .null, .null])), (q_1, .inl (cyI, 2490, .inl (fun _ => 0))), (q_2, .inl (cyI, 8, .inl (fun _ => 0)))] := hD
  refine lv_aload_n hx hb dX11_init_21 rfl (lv_at hl 0 rfl) ?_
  refine lv_bipush (v := 8) hx hb dX11_init_22 (by decide) ?_
  refine yy_newI (N' := 8) hx hb haint 0 rfl hK hP hD hS hA (by decide) (by decide) (by decide) (Nat.le_of_ble_eq_true rfl) (Nat.le_of_ble_eq_true rfl) dX11_init_24 (fun q_3 H hP hD hS => ?_)
  have hP : va_P (dC, dI) vwCl [(h0, .inr (11, [.ref q_1, .int 0, .int 0, .ref q_2, .null, .null, .null, .int 0, .null, .null, .null, .int 0, .int 0, .int 0, .null, .null, .int 0, .int 0, .null, .null, .null, .null, .null, .null])), (q_1, .inl (cyI, 2490, .inl (fun _ => 0))), (q_2, .inl (cyI, 8, .inl (fun _ => 0))), (q_3, .inl (cyI, 8, .inl (fun _ => 0)))] H := hP
  have hD : va_D A [(h0, .inr (11, [.ref q_1, .int 0, .int 0, .ref q_2, .null, .null, .null, .int 0, .null, .null, .null, .int 0, .int 0, .int 0, .null, .null, .int 0, .int 0, .null, .null, .null, .null, .null, .null])), (q_1, .inl (cyI, 2490, .inl (fun _ => 0))), (q_2, .inl (cyI, 8, .inl (fun _ => 0))), (q_3, .inl (cyI, 8, .inl (fun _ => 0)))] := hD
  refine W.widen (k := 3) (n := 2506) (Nat.le_of_ble_eq_true rfl) (Nat.le_of_ble_eq_true rfl) ?_
  refine va_putF (D := (dC, dI)) (ci := 11) (v := .ref q_3) (ty := (.array .int)) (C := RX11) (T := TX11) (N := 24) hx hb hts hnX11 tyX11 tyX11_ok nmX11 hown hK hP hD hS 0 rfl rfl 4 (by decide) hf16 (fun _ h9 => h9) rfl hnm rfl (by decide +kernel) rfl rfl (Nat.le_of_ble_eq_true rfl) dX11_init_26 (fun H locs hP hD hS => ?_)
  have hP : va_P (dC, dI) vwCl [(h0, .inr (11, [.ref q_1, .int 0, .int 0, .ref q_2, .ref q_3, .null, .null, .int 0, .null, .null, .null, .int 0, .int 0, .int 0, .null, .null, .int 0, .int 0, .null, .null, .null, .null, .null, .null])), (q_1, .inl (cyI, 2490, .inl (fun _ => 0))), (q_2, .inl (cyI, 8, .inl (fun _ => 0))), (q_3, .inl (cyI, 8, .inl (fun _ => 0)))] H := hP
  have hD : va_D A [(h0, .inr (11, [.ref q_1, .int 0, .int 0, .ref q_2, .ref q_3, .null, .null, .int 0, .null, .null, .null, .int 0, .int 0, .int 0, .null, .null, .int 0, .int 0, .null, .null, .null, .null, .null, .null])), (q_1, .inl (cyI, 2490, .inl (fun _ => 0))), (q_2, .inl (cyI, 8, .inl (fun _ => 0))), (q_3, .inl (cyI, 8, .inl (fun _ => 0)))] := hD
  refine lv_aload_n hx hb dX11_init_29 rfl (lv_at hl 0 rfl) ?_
  refine lv_bipush (v := 8) hx hb dX11_init_30 (by decide) ?_
  refine yy_newI (N' := 8) hx hb haint 0 rfl hK hP hD hS hA (by decide) (by decide) (by decide) (Nat.le_of_ble_eq_true rfl) (Nat.le_of_ble_eq_true rfl) dX11_init_32 (fun q_4 H hP hD hS => ?_)
  have hP : va_P (dC, dI) vwCl [(h0, .inr (11, [.ref q_1, .int 0, .int 0, .ref q_2, .ref q_3, .null, .null, .int 0, .null, .null, .null, .int 0, .int 0, .int 0, .null, .null, .int 0, .int 0, .null, .null, .null, .null, .null, .null])), (q_1, .inl (cyI, 2490, .inl (fun _ => 0))), (q_2, .inl (cyI, 8, .inl (fun _ => 0))), (q_3, .inl (cyI, 8, .inl (fun _ => 0))), (q_4, .inl (cyI, 8, .inl (fun _ => 0)))] H := hP
  have hD : va_D A [(h0, .inr (11, [.ref q_1, .int 0, .int 0, .ref q_2, .ref q_3, .null, .null, .int 0, .null, .null, .null, .int 0, .int 0, .int 0, .null, .null, .int 0, .int 0, .null, .null, .null, .null, .null, .null])), (q_1, .inl (cyI, 2490, .inl (fun _ => 0))), (q_2, .inl (cyI, 8, .inl (fun _ => 0))), (q_3, .inl (cyI, 8, .inl (fun _ => 0))), (q_4, .inl (cyI, 8, .inl (fun _ => 0)))] := hD
  refine W.widen (k := 4) (n := 2514) (Nat.le_of_ble_eq_true rfl) (Nat.le_of_ble_eq_true rfl) ?_
  refine va_putF (D := (dC, dI)) (ci := 11) (v := .ref q_4) (ty := (.array .int)) (C := RX11) (T := TX11) (N := 24) hx hb hts hnX11 tyX11 tyX11_ok nmX11 hown hK hP hD hS 0 rfl rfl 5 (by decide) hf19 (fun _ h9 => h9) rfl hnm rfl (by decide +kernel) rfl rfl (Nat.le_of_ble_eq_true rfl) dX11_init_34 (fun H locs hP hD hS => ?_)
  have hP : va_P (dC, dI) vwCl [(h0, .inr (11, [.ref q_1, .int 0, .int 0, .ref q_2, .ref q_3, .ref q_4, .null, .int 0, .null, .null, .null, .int 0, .int 0, .int 0, .null, .null, .int 0, .int 0, .null, .null, .null, .null, .null, .null])), (q_1, .inl (cyI, 2490, .inl (fun _ => 0))), (q_2, .inl (cyI, 8, .inl (fun _ => 0))), (q_3, .inl (cyI, 8, .inl (fun _ => 0))), (q_4, .inl (cyI, 8, .inl (fun _ => 0)))] H := hP
  have hD : va_D A [(h0, .inr (11, [.ref q_1, .int 0, .int 0, .ref q_2, .ref q_3, .ref q_4, .null, .int 0, .null, .null, .null, .int 0, .int 0, .int 0, .null, .null, .int 0, .int 0, .null, .null, .null, .null, .null, .null])), (q_1, .inl (cyI, 2490, .inl (fun _ => 0))), (q_2, .inl (cyI, 8, .inl (fun _ => 0))), (q_3, .inl (cyI, 8, .inl (fun _ => 0))), (q_4, .inl (cyI, 8, .inl (fun _ => 0)))] := hD
  refine lv_aload_n hx hb dX11_init_37 rfl (lv_at hl 0 rfl) ?_
  refine lv_bipush (v := 8) hx hb dX11_init_38 (by decide) ?_
  refine yy_newZ (N' := 8) hx hb haboolean 1 rfl hK hP hD hS hA (by decide) (by decide) (by decide) (Nat.le_of_ble_eq_true rfl) (Nat.le_of_ble_eq_true rfl) dX11_init_40 (fun q_5 H hP hD hS => ?_)
  have hP : va_P (dC, dI) vwCl [(h0, .inr (11, [.ref q_1, .int 0, .int 0, .ref q_2, .ref q_3, .ref q_4, .null, .int 0, .null, .null, .null, .int 0, .int 0, .int 0, .null, .null, .int 0, .int 0, .null, .null, .null, .null, .null, .null])), (q_1, .inl (cyI, 2490, .inl (fun _ => 0))), (q_2, .inl (cyI, 8, .inl (fun _ => 0))), (q_3, .inl (cyI, 8, .inl (fun _ => 0))), (q_4, .inl (cyI, 8, .inl (fun _ => 0))), (q_5, .inl (cyZ, 8, .inl (fun _ => 0)))] H := hP
  have hD : va_D A [(h0, .inr (11, [.ref q_1, .int 0, .int 0, .ref q_2, .ref q_3, .ref q_4, .null, .int 0, .null, .null, .null, .int 0, .int 0, .int 0, .null, .null, .int 0, .int 0, .null, .null, .null, .null, .null, .null])), (q_1, .inl (cyI, 2490, .inl (fun _ => 0))), (q_2, .inl (cyI, 8, .inl (fun _ => 0))), (q_3, .inl (cyI, 8, .inl (fun _ => 0))), (q_4, .inl (cyI, 8, .inl (fun _ => 0))), (q_5, .inl (cyZ, 8, .inl (fun _ => 0)))] := hD
  refine W.widen (k := 5) (n := 2522) (Nat.le_of_ble_eq_true rfl) (Nat.le_of_ble_eq_true rfl) ?_
  refine va_putF (D := (dC, dI)) (ci := 11) (v := .ref q_5) (ty := (.array .boolean)) (C := RX11) (T := TX11) (N := 24) hx hb hts hnX11 tyX11 tyX11_ok nmX11 hown hK hP hD hS 0 rfl rfl 6 (by decide) hf22 (fun _ h9 => h9) rfl hnm rfl (by decide +kernel) rfl rfl (Nat.le_of_ble_eq_true rfl) dX11_init_42 (fun H locs hP hD hS => ?_)
  have hP : va_P (dC, dI) vwCl [(h0, .inr (11, [.ref q_1, .int 0, .int 0, .ref q_2, .ref q_3, .ref q_4, .ref q_5, .int 0, .null, .null, .null, .int 0, .int 0, .int 0, .null, .null, .int 0, .int 0, .null, .null, .null, .null, .null, .null])), (q_1, .inl (cyI, 2490, .inl (fun _ => 0))), (q_2, .inl (cyI, 8, .inl (fun _ => 0))), (q_3, .inl (cyI, 8, .inl (fun _ => 0))), (q_4, .inl (cyI, 8, .inl (fun _ => 0))), (q_5, .inl (cyZ, 8, .inl (fun _ => 0)))] H := hP
  have hD : va_D A [(h0, .inr (11, [.ref q_1, .int 0, .int 0, .ref q_2, .ref q_3, .ref q_4, .ref q_5, .int 0, .null, .null, .null, .int 0, .int 0, .int 0, .null, .null, .int 0, .int 0, .null, .null, .null, .null, .null, .null])), (q_1, .inl (cyI, 2490, .inl (fun _ => 0))), (q_2, .inl (cyI, 8, .inl (fun _ => 0))), (q_3, .inl (cyI, 8, .inl (fun _ => 0))), (q_4, .inl (cyI, 8, .inl (fun _ => 0))), (q_5, .inl (cyZ, 8, .inl (fun _ => 0)))] := hD
  refine lv_aload_n hx hb dX11_init_45 rfl (lv_at hl 0 rfl) ?_
  refine lv_bipush (v := 48) hx hb dX11_init_46 (by decide) ?_
  refine yy_newI (N' := 48) hx hb haint 0 rfl hK hP hD hS hA (by decide) (by decide) (by decide) (Nat.le_of_ble_eq_true rfl) (Nat.le_of_ble_eq_true rfl) dX11_init_48 (fun q_6 H hP hD hS => ?_)
  have hP : va_P (dC, dI) vwCl [(h0, .inr (11, [.ref q_1, .int 0, .int 0, .ref q_2, .ref q_3, .ref q_4, .ref q_5, .int 0, .null, .null, .null, .int 0, .int 0, .int 0, .null, .null, .int 0, .int 0, .null, .null, .null, .null, .null, .null])), (q_1, .inl (cyI, 2490, .inl (fun _ => 0))), (q_2, .inl (cyI, 8, .inl (fun _ => 0))), (q_3, .inl (cyI, 8, .inl (fun _ => 0))), (q_4, .inl (cyI, 8, .inl (fun _ => 0))), (q_5, .inl (cyZ, 8, .inl (fun _ => 0))), (q_6, .inl (cyI, 48, .inl (fun _ => 0)))] H := hP
  have hD : va_D A [(h0, .inr (11, [.ref q_1, .int 0, .int 0, .ref q_2, .ref q_3, .ref q_4, .ref q_5, .int 0, .null, .null, .null, .int 0, .int 0, .int 0, .null, .null, .int 0, .int 0, .null, .null, .null, .null, .null, .null])), (q_1, .inl (cyI, 2490, .inl (fun _ => 0))), (q_2, .inl (cyI, 8, .inl (fun _ => 0))), (q_3, .inl (cyI, 8, .inl (fun _ => 0))), (q_4, .inl (cyI, 8, .inl (fun _ => 0))), (q_5, .inl (cyZ, 8, .inl (fun _ => 0))), (q_6, .inl (cyI, 48, .inl (fun _ => 0)))] := hD
  refine W.widen (k := 6) (n := 2570) (Nat.le_of_ble_eq_true rfl) (Nat.le_of_ble_eq_true rfl) ?_
  refine va_putF (D := (dC, dI)) (ci := 11) (v := .ref q_6) (ty := (.array .int)) (C := RX11) (T := TX11) (N := 24) hx hb hts hnX11 tyX11 tyX11_ok nmX11 hown hK hP hD hS 0 rfl rfl 8 (by decide) hf26 (fun _ h9 => h9) rfl hnm rfl (by decide +kernel) rfl rfl (Nat.le_of_ble_eq_true rfl) dX11_init_50 (fun H locs hP hD hS => ?_)
  have hP : va_P (dC, dI) vwCl [(h0, .inr (11, [.ref q_1, .int 0, .int 0, .ref q_2, .ref q_3, .ref q_4, .ref q_5, .int 0, .ref q_6, .null, .null, .int 0, .int 0, .int 0, .null, .null, .int 0, .int 0, .null, .null, .null, .null, .null, .null])), (q_1, .inl (cyI, 2490, .inl (fun _ => 0))), (q_2, .inl (cyI, 8, .inl (fun _ => 0))), (q_3, .inl (cyI, 8, .inl (fun _ => 0))), (q_4, .inl (cyI, 8, .inl (fun _ => 0))), (q_5, .inl (cyZ, 8, .inl (fun _ => 0))), (q_6, .inl (cyI, 48, .inl (fun _ => 0)))] H := hP
  have hD : va_D A [(h0, .inr (11, [.ref q_1, .int 0, .int 0, .ref q_2, .ref q_3, .ref q_4, .ref q_5, .int 0, .ref q_6, .null, .null, .int 0, .int 0, .int 0, .null, .null, .int 0, .int 0, .null, .null, .null, .null, .null, .null])), (q_1, .inl (cyI, 2490, .inl (fun _ => 0))), (q_2, .inl (cyI, 8, .inl (fun _ => 0))), (q_3, .inl (cyI, 8, .inl (fun _ => 0))), (q_4, .inl (cyI, 8, .inl (fun _ => 0))), (q_5, .inl (cyZ, 8, .inl (fun _ => 0))), (q_6, .inl (cyI, 48, .inl (fun _ => 0)))] := hD
  refine lv_aload_n hx hb dX11_init_53 rfl (lv_at hl 0 rfl) ?_
  refine lv_bipush (v := 48) hx hb dX11_init_54 (by decide) ?_
  refine yy_newI (N' := 48) hx hb haint 0 rfl hK hP hD hS hA (by decide) (by decide) (by decide) (Nat.le_of_ble_eq_true rfl) (Nat.le_of_ble_eq_true rfl) dX11_init_56 (fun q_7 H hP hD hS => ?_)
  have hP : va_P (dC, dI) vwCl [(h0, .inr (11, [.ref q_1, .int 0, .int 0, .ref q_2, .ref q_3, .ref q_4, .ref q_5, .int 0, .ref q_6, .null, .null, .int 0, .int 0, .int 0, .null, .null, .int 0, .int 0, .null, .null, .null, .null, .null, .null])), (q_1, .inl (cyI, 2490, .inl (fun _ => 0))), (q_2, .inl (cyI, 8, .inl (fun _ => 0))), (q_3, .inl (cyI, 8, .inl (fun _ => 0))), (q_4, .inl (cyI, 8, .inl (fun _ => 0))), (q_5, .inl (cyZ, 8, .inl (fun _ => 0))), (q_6, .inl (cyI, 48, .inl (fun _ => 0))), (q_7, .inl (cyI, 48, .inl (fun _ => 0)))] H := hP
  have hD : va_D A [(h0, .inr (11, [.ref q_1, .int 0, .int 0, .ref q_2, .ref q_3, .ref q_4, .ref q_5, .int 0, .ref q_6, .null, .null, .int 0, .int 0, .int 0, .null, .null, .int 0, .int 0, .null, .null, .null, .null, .null, .null])), (q_1, .inl (cyI, 2490, .inl (fun _ => 0))), (q_2, .inl (cyI, 8, .inl (fun _ => 0))), (q_3, .inl (cyI, 8, .inl (fun _ => 0))), (q_4, .inl (cyI, 8, .inl (fun _ => 0))), (q_5, .inl (cyZ, 8, .inl (fun _ => 0))), (q_6, .inl (cyI, 48, .inl (fun _ => 0))), (q_7, .inl (cyI, 48, .inl (fun _ => 0)))] := hD
  refine W.widen (k := 7) (n := 2618) (Nat.le_of_ble_eq_true rfl) (Nat.le_of_ble_eq_true rfl) ?_
  refine va_putF (D := (dC, dI)) (ci := 11) (v := .ref q_7) (ty := (.array .int)) (C := RX11) (T := TX11) (N := 24) hx hb hts hnX11 tyX11 tyX11_ok nmX11 hown hK hP hD hS 0 rfl rfl 9 (by decide) hf29 (fun _ h9 => h9) rfl hnm rfl (by decide +kernel) rfl rfl (Nat.le_of_ble_eq_true rfl) dX11_init_58 (fun H locs hP hD hS => ?_)
  have hP : va_P (dC, dI) vwCl [(h0, .inr (11, [.ref q_1, .int 0, .int 0, .ref q_2, .ref q_3, .ref q_4, .ref q_5, .int 0, .ref q_6, .ref q_7, .null, .int 0, .int 0, .int 0, .null, .null, .int 0, .int 0, .null, .null, .null, .null, .null, .null])), (q_1, .inl (cyI, 2490, .inl (fun _ => 0))), (q_2, .inl (cyI, 8, .inl (fun _ => 0))), (q_3, .inl (cyI, 8, .inl (fun _ => 0))), (q_4, .inl (cyI, 8, .inl (fun _ => 0))), (q_5, .inl (cyZ, 8, .inl (fun _ => 0))), (q_6, .inl (cyI, 48, .inl (fun _ => 0))), (q_7, .inl (cyI, 48, .inl (fun _ => 0)))] H := hP
  have hD : va_D A [(h0, .inr (11, [.ref q_1, .int 0, .int 0, .ref q_2, .ref q_3, .ref q_4, .ref q_5, .int 0, .ref q_6, .ref q_7, .null, .int 0, .int 0, .int 0, .null, .null, .int 0, .int 0, .null, .null, .null, .null, .null, .null])), (q_1, .inl (cyI, 2490, .inl (fun _ => 0))), (q_2, .inl (cyI, 8, .inl (fun _ => 0))), (q_3, .inl (cyI, 8, .inl (fun _ => 0))), (q_4, .inl (cyI, 8, .inl (fun _ => 0))), (q_5, .inl (cyZ, 8, .inl (fun _ => 0))), (q_6, .inl (cyI, 48, .inl (fun _ => 0))), (q_7, .inl (cyI, 48, .inl (fun _ => 0)))] := hD
  refine lv_aload_n hx hb dX11_init_61 rfl (lv_at hl 0 rfl) ?_
  refine lv_bipush (v := 48) hx hb dX11_init_62 (by decide) ?_
  refine yy_newI (N' := 48) hx hb haint 0 rfl hK hP hD hS hA (by decide) (by decide) (by decide) (Nat.le_of_ble_eq_true rfl) (Nat.le_of_ble_eq_true rfl) dX11_init_64 (fun q_8 H hP hD hS => ?_)
  have hP : va_P (dC, dI) vwCl [(h0, .inr (11, [.ref q_1, .int 0, .int 0, .ref q_2, .ref q_3, .ref q_4, .ref q_5, .int 0, .ref q_6, .ref q_7, .null, .int 0, .int 0, .int 0, .null, .null, .int 0, .int 0, .null, .null, .null, .null, .null, .null])), (q_1, .inl (cyI, 2490, .inl (fun _ => 0))), (q_2, .inl (cyI, 8, .inl (fun _ => 0))), (q_3, .inl (cyI, 8, .inl (fun _ => 0))), (q_4, .inl (cyI, 8, .inl (fun _ => 0))), (q_5, .inl (cyZ, 8, .inl (fun _ => 0))), (q_6, .inl (cyI, 48, .inl (fun _ => 0))), (q_7, .inl (cyI, 48, .inl (fun _ => 0))), (q_8, .inl (cyI, 48, .inl (fun _ => 0)))] H := hP
  have hD : va_D A [(h0, .inr (11, [.ref q_1, .int 0, .int 0, .ref q_2, .ref q_3, .ref q_4, .ref q_5, .int 0, .ref q_6, .ref q_7, .null, .int 0, .int 0, .int 0, .null, .null, .int 0, .int 0, .null, .null, .null, .null, .null, .null])), (q_1, .inl (cyI, 2490, .inl (fun _ => 0))), (q_2, .inl (cyI, 8, .inl (fun _ => 0))), (q_3, .inl (cyI, 8, .inl (fun _ => 0))), (q_4, .inl (cyI, 8, .inl (fun _ => 0))), (q_5, .inl (cyZ, 8, .inl (fun _ => 0))), (q_6, .inl (cyI, 48, .inl (fun _ => 0))), (q_7, .inl (cyI, 48, .inl (fun _ => 0))), (q_8, .inl (cyI, 48, .inl (fun _ => 0)))] := hD
  refine W.widen (k := 8) (n := 2666) (Nat.le_of_ble_eq_true rfl) (Nat.le_of_ble_eq_true rfl) ?_
  refine va_putF (D := (dC, dI)) (ci := 11) (v := .ref q_8) (ty := (.array .int)) (C := RX11) (T := TX11) (N := 24) hx hb hts hnX11 tyX11 tyX11_ok nmX11 hown hK hP hD hS 0 rfl rfl 10 (by decide) hf32 (fun _ h9 => h9) rfl hnm rfl (by decide +kernel) rfl rfl (Nat.le_of_ble_eq_true rfl) dX11_init_66 (fun H locs hP hD hS => ?_)
  have hP : va_P (dC, dI) vwCl [(h0, .inr (11, [.ref q_1, .int 0, .int 0, .ref q_2, .ref q_3, .ref q_4, .ref q_5, .int 0, .ref q_6, .ref q_7, .ref q_8, .int 0, .int 0, .int 0, .null, .null, .int 0, .int 0, .null, .null, .null, .null, .null, .null])), (q_1, .inl (cyI, 2490, .inl (fun _ => 0))), (q_2, .inl (cyI, 8, .inl (fun _ => 0))), (q_3, .inl (cyI, 8, .inl (fun _ => 0))), (q_4, .inl (cyI, 8, .inl (fun _ => 0))), (q_5, .inl (cyZ, 8, .inl (fun _ => 0))), (q_6, .inl (cyI, 48, .inl (fun _ => 0))), (q_7, .inl (cyI, 48, .inl (fun _ => 0))), (q_8, .inl (cyI, 48, .inl (fun _ => 0)))] H := hP
  have hD : va_D A [(h0, .inr (11, [.ref q_1, .int 0, .int 0, .ref q_2, .ref q_3, .ref q_4, .ref q_5, .int 0, .ref q_6, .ref q_7, .ref q_8, .int 0, .int 0, .int 0, .null, .null, .int 0, .int 0, .null, .null, .null, .null, .null, .null])), (q_1, .inl (cyI, 2490, .inl (fun _ => 0))), (q_2, .inl (cyI, 8, .inl (fun _ => 0))), (q_3, .inl (cyI, 8, .inl (fun _ => 0))), (q_4, .inl (cyI, 8, .inl (fun _ => 0))), (q_5, .inl (cyZ, 8, .inl (fun _ => 0))), (q_6, .inl (cyI, 48, .inl (fun _ => 0))), (q_7, .inl (cyI, 48, .inl (fun _ => 0))), (q_8, .inl (cyI, 48, .inl (fun _ => 0)))] := hD
  refine lv_aload_n hx hb dX11_init_69 rfl (lv_at hl 0 rfl) ?_
  refine lv_bipush (v := 32) hx hb dX11_init_70 (by decide) ?_
  refine va_put (D := (dC, dI)) (ci := 11) (v := .int 32) (ty := .int) (C := RX11) (T := TX11) (N := 24) hx hb hts hnX11 tyX11 tyX11_ok nmX11 hown hK hP hD hS 0 rfl rfl 12 (by decide) hf35 (fun _ h9 => h9) rfl (by decide +kernel) rfl rfl (Nat.le_of_ble_eq_true rfl) dX11_init_72 (fun H locs hP hD hS => ?_)
  have hP : va_P (dC, dI) vwCl [(h0, .inr (11, [.ref q_1, .int 0, .int 0, .ref q_2, .ref q_3, .ref q_4, .ref q_5, .int 0, .ref q_6, .ref q_7, .ref q_8, .int 0, .int 32, .int 0, .null, .null, .int 0, .int 0, .null, .null, .null, .null, .null, .null])), (q_1, .inl (cyI, 2490, .inl (fun _ => 0))), (q_2, .inl (cyI, 8, .inl (fun _ => 0))), (q_3, .inl (cyI, 8, .inl (fun _ => 0))), (q_4, .inl (cyI, 8, .inl (fun _ => 0))), (q_5, .inl (cyZ, 8, .inl (fun _ => 0))), (q_6, .inl (cyI, 48, .inl (fun _ => 0))), (q_7, .inl (cyI, 48, .inl (fun _ => 0))), (q_8, .inl (cyI, 48, .inl (fun _ => 0)))] H := hP
  have hD : va_D A [(h0, .inr (11, [.ref q_1, .int 0, .int 0, .ref q_2, .ref q_3, .ref q_4, .ref q_5, .int 0, .ref q_6, .ref q_7, .ref q_8, .int 0, .int 32, .int 0, .null, .null, .int 0, .int 0, .null, .null, .null, .null, .null, .null])), (q_1, .inl (cyI, 2490, .inl (fun _ => 0))), (q_2, .inl (cyI, 8, .inl (fun _ => 0))), (q_3, .inl (cyI, 8, .inl (fun _ => 0))), (q_4, .inl (cyI, 8, .inl (fun _ => 0))), (q_5, .inl (cyZ, 8, .inl (fun _ => 0))), (q_6, .inl (cyI, 48, .inl (fun _ => 0))), (q_7, .inl (cyI, 48, .inl (fun _ => 0))), (q_8, .inl (cyI, 48, .inl (fun _ => 0)))] := hD
  refine lv_aload_n hx hb dX11_init_75 rfl (lv_at hl 0 rfl) ?_
  refine lv_bipush (v := 15) hx hb dX11_init_76 (by decide) ?_
  refine yy_newI (N' := 15) hx hb haint 0 rfl hK hP hD hS hA (by decide) (by decide) (by decide) (Nat.le_of_ble_eq_true rfl) (Nat.le_of_ble_eq_true rfl) dX11_init_78 (fun q_9 H hP hD hS => ?_)
  have hP : va_P (dC, dI) vwCl [(h0, .inr (11, [.ref q_1, .int 0, .int 0, .ref q_2, .ref q_3, .ref q_4, .ref q_5, .int 0, .ref q_6, .ref q_7, .ref q_8, .int 0, .int 32, .int 0, .null, .null, .int 0, .int 0, .null, .null, .null, .null, .null, .null])), (q_1, .inl (cyI, 2490, .inl (fun _ => 0))), (q_2, .inl (cyI, 8, .inl (fun _ => 0))), (q_3, .inl (cyI, 8, .inl (fun _ => 0))), (q_4, .inl (cyI, 8, .inl (fun _ => 0))), (q_5, .inl (cyZ, 8, .inl (fun _ => 0))), (q_6, .inl (cyI, 48, .inl (fun _ => 0))), (q_7, .inl (cyI, 48, .inl (fun _ => 0))), (q_8, .inl (cyI, 48, .inl (fun _ => 0))), (q_9, .inl (cyI, 15, .inl (fun _ => 0)))] H := hP
  have hD : va_D A [(h0, .inr (11, [.ref q_1, .int 0, .int 0, .ref q_2, .ref q_3, .ref q_4, .ref q_5, .int 0, .ref q_6, .ref q_7, .ref q_8, .int 0, .int 32, .int 0, .null, .null, .int 0, .int 0, .null, .null, .null, .null, .null, .null])), (q_1, .inl (cyI, 2490, .inl (fun _ => 0))), (q_2, .inl (cyI, 8, .inl (fun _ => 0))), (q_3, .inl (cyI, 8, .inl (fun _ => 0))), (q_4, .inl (cyI, 8, .inl (fun _ => 0))), (q_5, .inl (cyZ, 8, .inl (fun _ => 0))), (q_6, .inl (cyI, 48, .inl (fun _ => 0))), (q_7, .inl (cyI, 48, .inl (fun _ => 0))), (q_8, .inl (cyI, 48, .inl (fun _ => 0))), (q_9, .inl (cyI, 15, .inl (fun _ => 0)))] := hD
  refine W.widen (k := 9) (n := 2681) (Nat.le_of_ble_eq_true rfl) (Nat.le_of_ble_eq_true rfl) ?_
  refine va_putF (D := (dC, dI)) (ci := 11) (v := .ref q_9) (ty := (.array .int)) (C := RX11) (T := TX11) (N := 24) hx hb hts hnX11 tyX11 tyX11_ok nmX11 hown hK hP hD hS 0 rfl rfl 14 (by decide) hf39 (fun _ h9 => h9) rfl hnm rfl (by decide +kernel) rfl rfl (Nat.le_of_ble_eq_true rfl) dX11_init_80 (fun H locs hP hD hS => ?_)
  have hP : va_P (dC, dI) vwCl [(h0, .inr (11, [.ref q_1, .int 0, .int 0, .ref q_2, .ref q_3, .ref q_4, .ref q_5, .int 0, .ref q_6, .ref q_7, .ref q_8, .int 0, .int 32, .int 0, .ref q_9, .null, .int 0, .int 0, .null, .null, .null, .null, .null, .null])), (q_1, .inl (cyI, 2490, .inl (fun _ => 0))), (q_2, .inl (cyI, 8, .inl (fun _ => 0))), (q_3, .inl (cyI, 8, .inl (fun _ => 0))), (q_4, .inl (cyI, 8, .inl (fun _ => 0))), (q_5, .inl (cyZ, 8, .inl (fun _ => 0))), (q_6, .inl (cyI, 48, .inl (fun _ => 0))), (q_7, .inl (cyI, 48, .inl (fun _ => 0))), (q_8, .inl (cyI, 48, .inl (fun _ => 0))), (q_9, .inl (cyI, 15, .inl (fun _ => 0)))] H := hP
  have hD : va_D A [(h0, .inr (11, [.ref q_1, .int 0, .int 0, .ref q_2, .ref q_3, .ref q_4, .ref q_5, .int 0, .ref q_6, .ref q_7, .ref q_8, .int 0, .int 32, .int 0, .ref q_9, .null, .int 0, .int 0, .null, .null, .null, .null, .null, .null])), (q_1, .inl (cyI, 2490, .inl (fun _ => 0))), (q_2, .inl (cyI, 8, .inl (fun _ => 0))), (q_3, .inl (cyI, 8, .inl (fun _ => 0))), (q_4, .inl (cyI, 8, .inl (fun _ => 0))), (q_5, .inl (cyZ, 8, .inl (fun _ => 0))), (q_6, .inl (cyI, 48, .inl (fun _ => 0))), (q_7, .inl (cyI, 48, .inl (fun _ => 0))), (q_8, .inl (cyI, 48, .inl (fun _ => 0))), (q_9, .inl (cyI, 15, .inl (fun _ => 0)))] := hD
  refine lv_aload_n hx hb dX11_init_83 rfl (lv_at hl 0 rfl) ?_
  refine lv_bipush (v := 15) hx hb dX11_init_84 (by decide) ?_
  refine yy_newI (N' := 15) hx hb haint 0 rfl hK hP hD hS hA (by decide) (by decide) (by decide) (Nat.le_of_ble_eq_true rfl) (Nat.le_of_ble_eq_true rfl) dX11_init_86 (fun q_10 H hP hD hS => ?_)
  have hP : va_P (dC, dI) vwCl [(h0, .inr (11, [.ref q_1, .int 0, .int 0, .ref q_2, .ref q_3, .ref q_4, .ref q_5, .int 0, .ref q_6, .ref q_7, .ref q_8, .int 0, .int 32, .int 0, .ref q_9, .null, .int 0, .int 0, .null, .null, .null, .null, .null, .null])), (q_1, .inl (cyI, 2490, .inl (fun _ => 0))), (q_2, .inl (cyI, 8, .inl (fun _ => 0))), (q_3, .inl (cyI, 8, .inl (fun _ => 0))), (q_4, .inl (cyI, 8, .inl (fun _ => 0))), (q_5, .inl (cyZ, 8, .inl (fun _ => 0))), (q_6, .inl (cyI, 48, .inl (fun _ => 0))), (q_7, .inl (cyI, 48, .inl (fun _ => 0))), (q_8, .inl (cyI, 48, .inl (fun _ => 0))), (q_9, .inl (cyI, 15, .inl (fun _ => 0))), (q_10, .inl (cyI, 15, .inl (fun _ => 0)))] H := hP
  have hD : va_D A [(h0, .inr (11, [.ref q_1, .int 0, .int 0, .ref q_2, .ref q_3, .ref q_4, .ref q_5, .int 0, .ref q_6, .ref q_7, .ref q_8, .int 0, .int 32, .int 0, .ref q_9, .null, .int 0, .int 0, .null, .null, .null, .null, .null, .null])), (q_1, .inl (cyI, 2490, .inl (fun _ => 0))), (q_2, .inl (cyI, 8, .inl (fun _ => 0))), (q_3, .inl (cyI, 8, .inl (fun _ => 0))), (q_4, .inl (cyI, 8, .inl (fun _ => 0))), (q_5, .inl (cyZ, 8, .inl (fun _ => 0))), (q_6, .inl (cyI, 48, .inl (fun _ => 0))), (q_7, .inl (cyI, 48, .inl (fun _ => 0))), (q_8, .inl (cyI, 48, .inl (fun _ => 0))), (q_9, .inl (cyI, 15, .inl (fun _ => 0))), (q_10, .inl (cyI, 15, .inl (fun _ => 0)))] := hD
  refine W.widen (k := 10) (n := 2696) (Nat.le_of_ble_eq_true rfl) (Nat.le_of_ble_eq_true rfl) ?_
  refine va_putF (D := (dC, dI)) (ci := 11) (v := .ref q_10) (ty := (.array .int)) (C := RX11) (T := TX11) (N := 24) hx hb hts hnX11 tyX11 tyX11_ok nmX11 hown hK hP hD hS 0 rfl rfl 15 (by decide) hf42 (fun _ h9 => h9) rfl hnm rfl (by decide +kernel) rfl rfl (Nat.le_of_ble_eq_true rfl) dX11_init_88 (fun H locs hP hD hS => ?_)
  have hP : va_P (dC, dI) vwCl [(h0, .inr (11, [.ref q_1, .int 0, .int 0, .ref q_2, .ref q_3, .ref q_4, .ref q_5, .int 0, .ref q_6, .ref q_7, .ref q_8, .int 0, .int 32, .int 0, .ref q_9, .ref q_10, .int 0, .int 0, .null, .null, .null, .null, .null, .null])), (q_1, .inl (cyI, 2490, .inl (fun _ => 0))), (q_2, .inl (cyI, 8, .inl (fun _ => 0))), (q_3, .inl (cyI, 8, .inl (fun _ => 0))), (q_4, .inl (cyI, 8, .inl (fun _ => 0))), (q_5, .inl (cyZ, 8, .inl (fun _ => 0))), (q_6, .inl (cyI, 48, .inl (fun _ => 0))), (q_7, .inl (cyI, 48, .inl (fun _ => 0))), (q_8, .inl (cyI, 48, .inl (fun _ => 0))), (q_9, .inl (cyI, 15, .inl (fun _ => 0))), (q_10, .inl (cyI, 15, .inl (fun _ => 0)))] H := hP
  have hD : va_D A [(h0, .inr (11, [.ref q_1, .int 0, .int 0, .ref q_2, .ref q_3, .ref q_4, .ref q_5, .int 0, .ref q_6, .ref q_7, .ref q_8, .int 0, .int 32, .int 0, .ref q_9, .ref q_10, .int 0, .int 0, .null, .null, .null, .null, .null, .null])), (q_1, .inl (cyI, 2490, .inl (fun _ => 0))), (q_2, .inl (cyI, 8, .inl (fun _ => 0))), (q_3, .inl (cyI, 8, .inl (fun _ => 0))), (q_4, .inl (cyI, 8, .inl (fun _ => 0))), (q_5, .inl (cyZ, 8, .inl (fun _ => 0))), (q_6, .inl (cyI, 48, .inl (fun _ => 0))), (q_7, .inl (cyI, 48, .inl (fun _ => 0))), (q_8, .inl (cyI, 48, .inl (fun _ => 0))), (q_9, .inl (cyI, 15, .inl (fun _ => 0))), (q_10, .inl (cyI, 15, .inl (fun _ => 0)))] := hD
  refine lv_aload_n hx hb dX11_init_91 rfl (lv_at hl 0 rfl) ?_
  refine lv_bipush (v := 48) hx hb dX11_init_92 (by decide) ?_
  refine yy_newZ (N' := 48) hx hb haboolean 1 rfl hK hP hD hS hA (by decide) (by decide) (by decide) (Nat.le_of_ble_eq_true rfl) (Nat.le_of_ble_eq_true rfl) dX11_init_94 (fun q_11 H hP hD hS => ?_)
  have hP : va_P (dC, dI) vwCl [(h0, .inr (11, [.ref q_1, .int 0, .int 0, .ref q_2, .ref q_3, .ref q_4, .ref q_5, .int 0, .ref q_6, .ref q_7, .ref q_8, .int 0, .int 32, .int 0, .ref q_9, .ref q_10, .int 0, .int 0, .null, .null, .null, .null, .null, .null])), (q_1, .inl (cyI, 2490, .inl (fun _ => 0))), (q_2, .inl (cyI, 8, .inl (fun _ => 0))), (q_3, .inl (cyI, 8, .inl (fun _ => 0))), (q_4, .inl (cyI, 8, .inl (fun _ => 0))), (q_5, .inl (cyZ, 8, .inl (fun _ => 0))), (q_6, .inl (cyI, 48, .inl (fun _ => 0))), (q_7, .inl (cyI, 48, .inl (fun _ => 0))), (q_8, .inl (cyI, 48, .inl (fun _ => 0))), (q_9, .inl (cyI, 15, .inl (fun _ => 0))), (q_10, .inl (cyI, 15, .inl (fun _ => 0))), (q_11, .inl (cyZ, 48, .inl (fun _ => 0)))] H := hP
  have hD : va_D A [(h0, .inr (11, [.ref q_1, .int 0, .int 0, .ref q_2, .ref q_3, .ref q_4, .ref q_5, .int 0, .ref q_6, .ref q_7, .ref q_8, .int 0, .int 32, .int 0, .ref q_9, .ref q_10, .int 0, .int 0, .null, .null, .null, .null, .null, .null])), (q_1, .inl (cyI, 2490, .inl (fun _ => 0))), (q_2, .inl (cyI, 8, .inl (fun _ => 0))), (q_3, .inl (cyI, 8, .inl (fun _ => 0))), (q_4, .inl (cyI, 8, .inl (fun _ => 0))), (q_5, .inl (cyZ, 8, .inl (fun _ => 0))), (q_6, .inl (cyI, 48, .inl (fun _ => 0))), (q_7, .inl (cyI, 48, .inl (fun _ => 0))), (q_8, .inl (cyI, 48, .inl (fun _ => 0))), (q_9, .inl (cyI, 15, .inl (fun _ => 0))), (q_10, .inl (cyI, 15, .inl (fun _ => 0))), (q_11, .inl (cyZ, 48, .inl (fun _ => 0)))] := hD
  refine W.widen (k := 11) (n := 2744) (Nat.le_of_ble_eq_true rfl) (Nat.le_of_ble_eq_true rfl) ?_
  refine va_putF (D := (dC, dI)) (ci := 11) (v := .ref q_11) (ty := (.array .boolean)) (C := RX11) (T := TX11) (N := 24) hx hb hts hnX11 tyX11 tyX11_ok nmX11 hown hK hP hD hS 0 rfl rfl 18 (by decide) hf45 (fun _ h9 => h9) rfl hnm rfl (by decide +kernel) rfl rfl (Nat.le_of_ble_eq_true rfl) dX11_init_96 (fun H locs hP hD hS => ?_)
  have hP : va_P (dC, dI) vwCl [(h0, .inr (11, [.ref q_1, .int 0, .int 0, .ref q_2, .ref q_3, .ref q_4, .ref q_5, .int 0, .ref q_6, .ref q_7, .ref q_8, .int 0, .int 32, .int 0, .ref q_9, .ref q_10, .int 0, .int 0, .ref q_11, .null, .null, .null, .null, .null])), (q_1, .inl (cyI, 2490, .inl (fun _ => 0))), (q_2, .inl (cyI, 8, .inl (fun _ => 0))), (q_3, .inl (cyI, 8, .inl (fun _ => 0))), (q_4, .inl (cyI, 8, .inl (fun _ => 0))), (q_5, .inl (cyZ, 8, .inl (fun _ => 0))), (q_6, .inl (cyI, 48, .inl (fun _ => 0))), (q_7, .inl (cyI, 48, .inl (fun _ => 0))), (q_8, .inl (cyI, 48, .inl (fun _ => 0))), (q_9, .inl (cyI, 15, .inl (fun _ => 0))), (q_10, .inl (cyI, 15, .inl (fun _ => 0))), (q_11, .inl (cyZ, 48, .inl (fun _ => 0)))] H := hP
  have hD : va_D A [(h0, .inr (11, [.ref q_1, .int 0, .int 0, .ref q_2, .ref q_3, .ref q_4, .ref q_5, .int 0, .ref q_6, .ref q_7, .ref q_8, .int 0, .int 32, .int 0, .ref q_9, .ref q_10, .int 0, .int 0, .ref q_11, .null, .null, .null, .null, .null])), (q_1, .inl (cyI, 2490, .inl (fun _ => 0))), (q_2, .inl (cyI, 8, .inl (fun _ => 0))), (q_3, .inl (cyI, 8, .inl (fun _ => 0))), (q_4, .inl (cyI, 8, .inl (fun _ => 0))), (q_5, .inl (cyZ, 8, .inl (fun _ => 0))), (q_6, .inl (cyI, 48, .inl (fun _ => 0))), (q_7, .inl (cyI, 48, .inl (fun _ => 0))), (q_8, .inl (cyI, 48, .inl (fun _ => 0))), (q_9, .inl (cyI, 15, .inl (fun _ => 0))), (q_10, .inl (cyI, 15, .inl (fun _ => 0))), (q_11, .inl (cyZ, 48, .inl (fun _ => 0)))] := hD
  refine lv_aload_n hx hb dX11_init_99 rfl (lv_at hl 0 rfl) ?_
  refine lv_bipush (v := 96) hx hb dX11_init_100 (by decide) ?_
  refine yy_newI (N' := 96) hx hb haint 0 rfl hK hP hD hS hA (by decide) (by decide) (by decide) (Nat.le_of_ble_eq_true rfl) (Nat.le_of_ble_eq_true rfl) dX11_init_102 (fun q_12 H hP hD hS => ?_)
  have hP : va_P (dC, dI) vwCl [(h0, .inr (11, [.ref q_1, .int 0, .int 0, .ref q_2, .ref q_3, .ref q_4, .ref q_5, .int 0, .ref q_6, .ref q_7, .ref q_8, .int 0, .int 32, .int 0, .ref q_9, .ref q_10, .int 0, .int 0, .ref q_11, .null, .null, .null, .null, .null])), (q_1, .inl (cyI, 2490, .inl (fun _ => 0))), (q_2, .inl (cyI, 8, .inl (fun _ => 0))), (q_3, .inl (cyI, 8, .inl (fun _ => 0))), (q_4, .inl (cyI, 8, .inl (fun _ => 0))), (q_5, .inl (cyZ, 8, .inl (fun _ => 0))), (q_6, .inl (cyI, 48, .inl (fun _ => 0))), (q_7, .inl (cyI, 48, .inl (fun _ => 0))), (q_8, .inl (cyI, 48, .inl (fun _ => 0))), (q_9, .inl (cyI, 15, .inl (fun _ => 0))), (q_10, .inl (cyI, 15, .inl (fun _ => 0))), (q_11, .inl (cyZ, 48, .inl (fun _ => 0))), (q_12, .inl (cyI, 96, .inl (fun _ => 0)))] H := hP
  have hD : va_D A [(h0, .inr (11, [.ref q_1, .int 0, .int 0, .ref q_2, .ref q_3, .ref q_4, .ref q_5, .int 0, .ref q_6, .ref q_7, .ref q_8, .int 0, .int 32, .int 0, .ref q_9, .ref q_10, .int 0, .int 0, .ref q_11, .null, .null, .null, .null, .null])), (q_1, .inl (cyI, 2490, .inl (fun _ => 0))), (q_2, .inl (cyI, 8, .inl (fun _ => 0))), (q_3, .inl (cyI, 8, .inl (fun _ => 0))), (q_4, .inl (cyI, 8, .inl (fun _ => 0))), (q_5, .inl (cyZ, 8, .inl (fun _ => 0))), (q_6, .inl (cyI, 48, .inl (fun _ => 0))), (q_7, .inl (cyI, 48, .inl (fun _ => 0))), (q_8, .inl (cyI, 48, .inl (fun _ => 0))), (q_9, .inl (cyI, 15, .inl (fun _ => 0))), (q_10, .inl (cyI, 15, .inl (fun _ => 0))), (q_11, .inl (cyZ, 48, .inl (fun _ => 0))), (q_12, .inl (cyI, 96, .inl (fun _ => 0)))] := hD
  refine W.widen (k := 12) (n := 2840) (Nat.le_of_ble_eq_true rfl) (Nat.le_of_ble_eq_true rfl) ?_
  refine va_putF (D := (dC, dI)) (ci := 11) (v := .ref q_12) (ty := (.array .int)) (C := RX11) (T := TX11) (N := 24) hx hb hts hnX11 tyX11 tyX11_ok nmX11 hown hK hP hD hS 0 rfl rfl 19 (by decide) hf48 (fun _ h9 => h9) rfl hnm rfl (by decide +kernel) rfl rfl (Nat.le_of_ble_eq_true rfl) dX11_init_104 (fun H locs hP hD hS => ?_)
  have hP : va_P (dC, dI) vwCl [(h0, .inr (11, [.ref q_1, .int 0, .int 0, .ref q_2, .ref q_3, .ref q_4, .ref q_5, .int 0, .ref q_6, .ref q_7, .ref q_8, .int 0, .int 32, .int 0, .ref q_9, .ref q_10, .int 0, .int 0, .ref q_11, .ref q_12, .null, .null, .null, .null])), (q_1, .inl (cyI, 2490, .inl (fun _ => 0))), (q_2, .inl (cyI, 8, .inl (fun _ => 0))), (q_3, .inl (cyI, 8, .inl (fun _ => 0))), (q_4, .inl (cyI, 8, .inl (fun _ => 0))), (q_5, .inl (cyZ, 8, .inl (fun _ => 0))), (q_6, .inl (cyI, 48, .inl (fun _ => 0))), (q_7, .inl (cyI, 48, .inl (fun _ => 0))), (q_8, .inl (cyI, 48, .inl (fun _ => 0))), (q_9, .inl (cyI, 15, .inl (fun _ => 0))), (q_10, .inl (cyI, 15, .inl (fun _ => 0))), (q_11, .inl (cyZ, 48, .inl (fun _ => 0))), (q_12, .inl (cyI, 96, .inl (fun _ => 0)))] H := hP
  have hD : va_D A [(h0, .inr (11, [.ref q_1, .int 0, .int 0, .ref q_2, .ref q_3, .ref q_4, .ref q_5, .int 0, .ref q_6, .ref q_7, .ref q_8, .int 0, .int 32, .int 0, .ref q_9, .ref q_10, .int 0, .int 0, .ref q_11, .ref q_12, .null, .null, .null, .null])), (q_1, .inl (cyI, 2490, .inl (fun _ => 0))), (q_2, .inl (cyI, 8, .inl (fun _ => 0))), (q_3, .inl (cyI, 8, .inl (fun _ => 0))), (q_4, .inl (cyI, 8, .inl (fun _ => 0))), (q_5, .inl (cyZ, 8, .inl (fun _ => 0))), (q_6, .inl (cyI, 48, .inl (fun _ => 0))), (q_7, .inl (cyI, 48, .inl (fun _ => 0))), (q_8, .inl (cyI, 48, .inl (fun _ => 0))), (q_9, .inl (cyI, 15, .inl (fun _ => 0))), (q_10, .inl (cyI, 15, .inl (fun _ => 0))), (q_11, .inl (cyZ, 48, .inl (fun _ => 0))), (q_12, .inl (cyI, 96, .inl (fun _ => 0)))] := hD
  refine lv_aload_n hx hb dX11_init_107 rfl (lv_at hl 0 rfl) ?_
  refine lv_bipush (v := 48) hx hb dX11_init_108 (by decide) ?_
  refine yy_newI (N' := 48) hx hb haint 0 rfl hK hP hD hS hA (by decide) (by decide) (by decide) (Nat.le_of_ble_eq_true rfl) (Nat.le_of_ble_eq_true rfl) dX11_init_110 (fun q_13 H hP hD hS => ?_)
  have hP : va_P (dC, dI) vwCl [(h0, .inr (11, [.ref q_1, .int 0, .int 0, .ref q_2, .ref q_3, .ref q_4, .ref q_5, .int 0, .ref q_6, .ref q_7, .ref q_8, .int 0, .int 32, .int 0, .ref q_9, .ref q_10, .int 0, .int 0, .ref q_11, .ref q_12, .null, .null, .null, .null])), (q_1, .inl (cyI, 2490, .inl (fun _ => 0))), (q_2, .inl (cyI, 8, .inl (fun _ => 0))), (q_3, .inl (cyI, 8, .inl (fun _ => 0))), (q_4, .inl (cyI, 8, .inl (fun _ => 0))), (q_5, .inl (cyZ, 8, .inl (fun _ => 0))), (q_6, .inl (cyI, 48, .inl (fun _ => 0))), (q_7, .inl (cyI, 48, .inl (fun _ => 0))), (q_8, .inl (cyI, 48, .inl (fun _ => 0))), (q_9, .inl (cyI, 15, .inl (fun _ => 0))), (q_10, .inl (cyI, 15, .inl (fun _ => 0))), (q_11, .inl (cyZ, 48, .inl (fun _ => 0))), (q_12, .inl (cyI, 96, .inl (fun _ => 0))), (q_13, .inl (cyI, 48, .inl (fun _ => 0)))] H := hP
  have hD : va_D A [(h0, .inr (11, [.ref q_1, .int 0, .int 0, .ref q_2, .ref q_3, .ref q_4, .ref q_5, .int 0, .ref q_6, .ref q_7, .ref q_8, .int 0, .int 32, .int 0, .ref q_9, .ref q_10, .int 0, .int 0, .ref q_11, .ref q_12, .null, .null, .null, .null])), (q_1, .inl (cyI, 2490, .inl (fun _ => 0))), (q_2, .inl (cyI, 8, .inl (fun _ => 0))), (q_3, .inl (cyI, 8, .inl (fun _ => 0))), (q_4, .inl (cyI, 8, .inl (fun _ => 0))), (q_5, .inl (cyZ, 8, .inl (fun _ => 0))), (q_6, .inl (cyI, 48, .inl (fun _ => 0))), (q_7, .inl (cyI, 48, .inl (fun _ => 0))), (q_8, .inl (cyI, 48, .inl (fun _ => 0))), (q_9, .inl (cyI, 15, .inl (fun _ => 0))), (q_10, .inl (cyI, 15, .inl (fun _ => 0))), (q_11, .inl (cyZ, 48, .inl (fun _ => 0))), (q_12, .inl (cyI, 96, .inl (fun _ => 0))), (q_13, .inl (cyI, 48, .inl (fun _ => 0)))] := hD
  refine W.widen (k := 13) (n := 2888) (Nat.le_of_ble_eq_true rfl) (Nat.le_of_ble_eq_true rfl) ?_
  refine va_putF (D := (dC, dI)) (ci := 11) (v := .ref q_13) (ty := (.array .int)) (C := RX11) (T := TX11) (N := 24) hx hb hts hnX11 tyX11 tyX11_ok nmX11 hown hK hP hD hS 0 rfl rfl 20 (by decide) hf51 (fun _ h9 => h9) rfl hnm rfl (by decide +kernel) rfl rfl (Nat.le_of_ble_eq_true rfl) dX11_init_112 (fun H locs hP hD hS => ?_)
  have hP : va_P (dC, dI) vwCl [(h0, .inr (11, [.ref q_1, .int 0, .int 0, .ref q_2, .ref q_3, .ref q_4, .ref q_5, .int 0, .ref q_6, .ref q_7, .ref q_8, .int 0, .int 32, .int 0, .ref q_9, .ref q_10, .int 0, .int 0, .ref q_11, .ref q_12, .ref q_13, .null, .null, .null])), (q_1, .inl (cyI, 2490, .inl (fun _ => 0))), (q_2, .inl (cyI, 8, .inl (fun _ => 0))), (q_3, .inl (cyI, 8, .inl (fun _ => 0))), (q_4, .inl (cyI, 8, .inl (fun _ => 0))), (q_5, .inl (cyZ, 8, .inl (fun _ => 0))), (q_6, .inl (cyI, 48, .inl (fun _ => 0))), (q_7, .inl (cyI, 48, .inl (fun _ => 0))), (q_8, .inl (cyI, 48, .inl (fun _ => 0))), (q_9, .inl (cyI, 15, .inl (fun _ => 0))), (q_10, .inl (cyI, 15, .inl (fun _ => 0))), (q_11, .inl (cyZ, 48, .inl (fun _ => 0))), (q_12, .inl (cyI, 96, .inl (fun _ => 0))), (q_13, .inl (cyI, 48, .inl (fun _ => 0)))] H := hP
  have hD : va_D A [(h0, .inr (11, [.ref q_1, .int 0, .int 0, .ref q_2, .ref q_3, .ref q_4, .ref q_5, .int 0, .ref q_6, .ref q_7, .ref q_8, .int 0, .int 32, .int 0, .ref q_9, .ref q_10, .int 0, .int 0, .ref q_11, .ref q_12, .ref q_13, .null, .null, .null])), (q_1, .inl (cyI, 2490, .inl (fun _ => 0))), (q_2, .inl (cyI, 8, .inl (fun _ => 0))), (q_3, .inl (cyI, 8, .inl (fun _ => 0))), (q_4, .inl (cyI, 8, .inl (fun _ => 0))), (q_5, .inl (cyZ, 8, .inl (fun _ => 0))), (q_6, .inl (cyI, 48, .inl (fun _ => 0))), (q_7, .inl (cyI, 48, .inl (fun _ => 0))), (q_8, .inl (cyI, 48, .inl (fun _ => 0))), (q_9, .inl (cyI, 15, .inl (fun _ => 0))), (q_10, .inl (cyI, 15, .inl (fun _ => 0))), (q_11, .inl (cyZ, 48, .inl (fun _ => 0))), (q_12, .inl (cyI, 96, .inl (fun _ => 0))), (q_13, .inl (cyI, 48, .inl (fun _ => 0)))] := hD
  refine lv_aload_n hx hb dX11_init_115 rfl (lv_at hl 0 rfl) ?_
  refine lv_sipush (v := 7470) hx hb dX11_init_116 (by decide) ?_
  refine yy_newI (N' := 7470) hx hb haint 0 rfl hK hP hD hS hA (by decide) (by decide) (by decide) (Nat.le_of_ble_eq_true rfl) (Nat.le_of_ble_eq_true rfl) dX11_init_119 (fun q_14 H hP hD hS => ?_)
  have hP : va_P (dC, dI) vwCl [(h0, .inr (11, [.ref q_1, .int 0, .int 0, .ref q_2, .ref q_3, .ref q_4, .ref q_5, .int 0, .ref q_6, .ref q_7, .ref q_8, .int 0, .int 32, .int 0, .ref q_9, .ref q_10, .int 0, .int 0, .ref q_11, .ref q_12, .ref q_13, .null, .null, .null])), (q_1, .inl (cyI, 2490, .inl (fun _ => 0))), (q_2, .inl (cyI, 8, .inl (fun _ => 0))), (q_3, .inl (cyI, 8, .inl (fun _ => 0))), (q_4, .inl (cyI, 8, .inl (fun _ => 0))), (q_5, .inl (cyZ, 8, .inl (fun _ => 0))), (q_6, .inl (cyI, 48, .inl (fun _ => 0))), (q_7, .inl (cyI, 48, .inl (fun _ => 0))), (q_8, .inl (cyI, 48, .inl (fun _ => 0))), (q_9, .inl (cyI, 15, .inl (fun _ => 0))), (q_10, .inl (cyI, 15, .inl (fun _ => 0))), (q_11, .inl (cyZ, 48, .inl (fun _ => 0))), (q_12, .inl (cyI, 96, .inl (fun _ => 0))), (q_13, .inl (cyI, 48, .inl (fun _ => 0))), (q_14, .inl (cyI, 7470, .inl (fun _ => 0)))] H := hP
  have hD : va_D A [(h0, .inr (11, [.ref q_1, .int 0, .int 0, .ref q_2, .ref q_3, .ref q_4, .ref q_5, .int 0, .ref q_6, .ref q_7, .ref q_8, .int 0, .int 32, .int 0, .ref q_9, .ref q_10, .int 0, .int 0, .ref q_11, .ref q_12, .ref q_13, .null, .null, .null])), (q_1, .inl (cyI, 2490, .inl (fun _ => 0))), (q_2, .inl (cyI, 8, .inl (fun _ => 0))), (q_3, .inl (cyI, 8, .inl (fun _ => 0))), (q_4, .inl (cyI, 8, .inl (fun _ => 0))), (q_5, .inl (cyZ, 8, .inl (fun _ => 0))), (q_6, .inl (cyI, 48, .inl (fun _ => 0))), (q_7, .inl (cyI, 48, .inl (fun _ => 0))), (q_8, .inl (cyI, 48, .inl (fun _ => 0))), (q_9, .inl (cyI, 15, .inl (fun _ => 0))), (q_10, .inl (cyI, 15, .inl (fun _ => 0))), (q_11, .inl (cyZ, 48, .inl (fun _ => 0))), (q_12, .inl (cyI, 96, .inl (fun _ => 0))), (q_13, .inl (cyI, 48, .inl (fun _ => 0))), (q_14, .inl (cyI, 7470, .inl (fun _ => 0)))] := hD
  refine W.widen (k := 14) (n := 10358) (Nat.le_of_ble_eq_true rfl) (Nat.le_of_ble_eq_true rfl) ?_
  refine va_putF (D := (dC, dI)) (ci := 11) (v := .ref q_14) (ty := (.array .int)) (C := RX11) (T := TX11) (N := 24) hx hb hts hnX11 tyX11 tyX11_ok nmX11 hown hK hP hD hS 0 rfl rfl 21 (by decide) hf54 (fun _ h9 => h9) rfl hnm rfl (by decide +kernel) rfl rfl (Nat.le_of_ble_eq_true rfl) dX11_init_121 (fun H locs hP hD hS => ?_)
  have hP : va_P (dC, dI) vwCl [(h0, .inr (11, [.ref q_1, .int 0, .int 0, .ref q_2, .ref q_3, .ref q_4, .ref q_5, .int 0, .ref q_6, .ref q_7, .ref q_8, .int 0, .int 32, .int 0, .ref q_9, .ref q_10, .int 0, .int 0, .ref q_11, .ref q_12, .ref q_13, .ref q_14, .null, .null])), (q_1, .inl (cyI, 2490, .inl (fun _ => 0))), (q_2, .inl (cyI, 8, .inl (fun _ => 0))), (q_3, .inl (cyI, 8, .inl (fun _ => 0))), (q_4, .inl (cyI, 8, .inl (fun _ => 0))), (q_5, .inl (cyZ, 8, .inl (fun _ => 0))), (q_6, .inl (cyI, 48, .inl (fun _ => 0))), (q_7, .inl (cyI, 48, .inl (fun _ => 0))), (q_8, .inl (cyI, 48, .inl (fun _ => 0))), (q_9, .inl (cyI, 15, .inl (fun _ => 0))), (q_10, .inl (cyI, 15, .inl (fun _ => 0))), (q_11, .inl (cyZ, 48, .inl (fun _ => 0))), (q_12, .inl (cyI, 96, .inl (fun _ => 0))), (q_13, .inl (cyI, 48, .inl (fun _ => 0))), (q_14, .inl (cyI, 7470, .inl (fun _ => 0)))] H := hP
  have hD : va_D A [(h0, .inr (11, [.ref q_1, .int 0, .int 0, .ref q_2, .ref q_3, .ref q_4, .ref q_5, .int 0, .ref q_6, .ref q_7, .ref q_8, .int 0, .int 32, .int 0, .ref q_9, .ref q_10, .int 0, .int 0, .ref q_11, .ref q_12, .ref q_13, .ref q_14, .null, .null])), (q_1, .inl (cyI, 2490, .inl (fun _ => 0))), (q_2, .inl (cyI, 8, .inl (fun _ => 0))), (q_3, .inl (cyI, 8, .inl (fun _ => 0))), (q_4, .inl (cyI, 8, .inl (fun _ => 0))), (q_5, .inl (cyZ, 8, .inl (fun _ => 0))), (q_6, .inl (cyI, 48, .inl (fun _ => 0))), (q_7, .inl (cyI, 48, .inl (fun _ => 0))), (q_8, .inl (cyI, 48, .inl (fun _ => 0))), (q_9, .inl (cyI, 15, .inl (fun _ => 0))), (q_10, .inl (cyI, 15, .inl (fun _ => 0))), (q_11, .inl (cyZ, 48, .inl (fun _ => 0))), (q_12, .inl (cyI, 96, .inl (fun _ => 0))), (q_13, .inl (cyI, 48, .inl (fun _ => 0))), (q_14, .inl (cyI, 7470, .inl (fun _ => 0)))] := hD
  refine lv_aload_n hx hb dX11_init_124 rfl (lv_at hl 0 rfl) ?_
  refine lv_iconst (v := 3) hx hb dX11_init_125 (by decide) ?_
  refine yy_newI (N' := 3) hx hb haint 0 rfl hK hP hD hS hA (by decide) (by decide) (by decide) (Nat.le_of_ble_eq_true rfl) (Nat.le_of_ble_eq_true rfl) dX11_init_126 (fun q_15 H hP hD hS => ?_)
  have hP : va_P (dC, dI) vwCl [(h0, .inr (11, [.ref q_1, .int 0, .int 0, .ref q_2, .ref q_3, .ref q_4, .ref q_5, .int 0, .ref q_6, .ref q_7, .ref q_8, .int 0, .int 32, .int 0, .ref q_9, .ref q_10, .int 0, .int 0, .ref q_11, .ref q_12, .ref q_13, .ref q_14, .null, .null])), (q_1, .inl (cyI, 2490, .inl (fun _ => 0))), (q_2, .inl (cyI, 8, .inl (fun _ => 0))), (q_3, .inl (cyI, 8, .inl (fun _ => 0))), (q_4, .inl (cyI, 8, .inl (fun _ => 0))), (q_5, .inl (cyZ, 8, .inl (fun _ => 0))), (q_6, .inl (cyI, 48, .inl (fun _ => 0))), (q_7, .inl (cyI, 48, .inl (fun _ => 0))), (q_8, .inl (cyI, 48, .inl (fun _ => 0))), (q_9, .inl (cyI, 15, .inl (fun _ => 0))), (q_10, .inl (cyI, 15, .inl (fun _ => 0))), (q_11, .inl (cyZ, 48, .inl (fun _ => 0))), (q_12, .inl (cyI, 96, .inl (fun _ => 0))), (q_13, .inl (cyI, 48, .inl (fun _ => 0))), (q_14, .inl (cyI, 7470, .inl (fun _ => 0))), (q_15, .inl (cyI, 3, .inl (fun _ => 0)))] H := hP
  have hD : va_D A [(h0, .inr (11, [.ref q_1, .int 0, .int 0, .ref q_2, .ref q_3, .ref q_4, .ref q_5, .int 0, .ref q_6, .ref q_7, .ref q_8, .int 0, .int 32, .int 0, .ref q_9, .ref q_10, .int 0, .int 0, .ref q_11, .ref q_12, .ref q_13, .ref q_14, .null, .null])), (q_1, .inl (cyI, 2490, .inl (fun _ => 0))), (q_2, .inl (cyI, 8, .inl (fun _ => 0))), (q_3, .inl (cyI, 8, .inl (fun _ => 0))), (q_4, .inl (cyI, 8, .inl (fun _ => 0))), (q_5, .inl (cyZ, 8, .inl (fun _ => 0))), (q_6, .inl (cyI, 48, .inl (fun _ => 0))), (q_7, .inl (cyI, 48, .inl (fun _ => 0))), (q_8, .inl (cyI, 48, .inl (fun _ => 0))), (q_9, .inl (cyI, 15, .inl (fun _ => 0))), (q_10, .inl (cyI, 15, .inl (fun _ => 0))), (q_11, .inl (cyZ, 48, .inl (fun _ => 0))), (q_12, .inl (cyI, 96, .inl (fun _ => 0))), (q_13, .inl (cyI, 48, .inl (fun _ => 0))), (q_14, .inl (cyI, 7470, .inl (fun _ => 0))), (q_15, .inl (cyI, 3, .inl (fun _ => 0)))] := hD
  refine W.widen (k := 15) (n := 10361) (Nat.le_of_ble_eq_true rfl) (Nat.le_of_ble_eq_true rfl) ?_
  refine va_putF (D := (dC, dI)) (ci := 11) (v := .ref q_15) (ty := (.array .int)) (C := RX11) (T := TX11) (N := 24) hx hb hts hnX11 tyX11 tyX11_ok nmX11 hown hK hP hD hS 0 rfl rfl 22 (by decide) hf57 (fun _ h9 => h9) rfl hnm rfl (by decide +kernel) rfl rfl (Nat.le_of_ble_eq_true rfl) dX11_init_128 (fun H locs hP hD hS => ?_)
  have hP : va_P (dC, dI) vwCl [(h0, .inr (11, [.ref q_1, .int 0, .int 0, .ref q_2, .ref q_3, .ref q_4, .ref q_5, .int 0, .ref q_6, .ref q_7, .ref q_8, .int 0, .int 32, .int 0, .ref q_9, .ref q_10, .int 0, .int 0, .ref q_11, .ref q_12, .ref q_13, .ref q_14, .ref q_15, .null])), (q_1, .inl (cyI, 2490, .inl (fun _ => 0))), (q_2, .inl (cyI, 8, .inl (fun _ => 0))), (q_3, .inl (cyI, 8, .inl (fun _ => 0))), (q_4, .inl (cyI, 8, .inl (fun _ => 0))), (q_5, .inl (cyZ, 8, .inl (fun _ => 0))), (q_6, .inl (cyI, 48, .inl (fun _ => 0))), (q_7, .inl (cyI, 48, .inl (fun _ => 0))), (q_8, .inl (cyI, 48, .inl (fun _ => 0))), (q_9, .inl (cyI, 15, .inl (fun _ => 0))), (q_10, .inl (cyI, 15, .inl (fun _ => 0))), (q_11, .inl (cyZ, 48, .inl (fun _ => 0))), (q_12, .inl (cyI, 96, .inl (fun _ => 0))), (q_13, .inl (cyI, 48, .inl (fun _ => 0))), (q_14, .inl (cyI, 7470, .inl (fun _ => 0))), (q_15, .inl (cyI, 3, .inl (fun _ => 0)))] H := hP
  have hD : va_D A [(h0, .inr (11, [.ref q_1, .int 0, .int 0, .ref q_2, .ref q_3, .ref q_4, .ref q_5, .int 0, .ref q_6, .ref q_7, .ref q_8, .int 0, .int 32, .int 0, .ref q_9, .ref q_10, .int 0, .int 0, .ref q_11, .ref q_12, .ref q_13, .ref q_14, .ref q_15, .null])), (q_1, .inl (cyI, 2490, .inl (fun _ => 0))), (q_2, .inl (cyI, 8, .inl (fun _ => 0))), (q_3, .inl (cyI, 8, .inl (fun _ => 0))), (q_4, .inl (cyI, 8, .inl (fun _ => 0))), (q_5, .inl (cyZ, 8, .inl (fun _ => 0))), (q_6, .inl (cyI, 48, .inl (fun _ => 0))), (q_7, .inl (cyI, 48, .inl (fun _ => 0))), (q_8, .inl (cyI, 48, .inl (fun _ => 0))), (q_9, .inl (cyI, 15, .inl (fun _ => 0))), (q_10, .inl (cyI, 15, .inl (fun _ => 0))), (q_11, .inl (cyZ, 48, .inl (fun _ => 0))), (q_12, .inl (cyI, 96, .inl (fun _ => 0))), (q_13, .inl (cyI, 48, .inl (fun _ => 0))), (q_14, .inl (cyI, 7470, .inl (fun _ => 0))), (q_15, .inl (cyI, 3, .inl (fun _ => 0)))] := hD
  refine lv_aload_n hx hb dX11_init_131 rfl (lv_at hl 0 rfl) ?_
  refine lv_iconst (v := 3) hx hb dX11_init_132 (by decide) ?_
  refine yy_newZ (N' := 3) hx hb haboolean 1 rfl hK hP hD hS hA (by decide) (by decide) (by decide) (Nat.le_of_ble_eq_true rfl) (Nat.le_of_ble_eq_true rfl) dX11_init_133 (fun q_16 H hP hD hS => ?_)
  have hP : va_P (dC, dI) vwCl [(h0, .inr (11, [.ref q_1, .int 0, .int 0, .ref q_2, .ref q_3, .ref q_4, .ref q_5, .int 0, .ref q_6, .ref q_7, .ref q_8, .int 0, .int 32, .int 0, .ref q_9, .ref q_10, .int 0, .int 0, .ref q_11, .ref q_12, .ref q_13, .ref q_14, .ref q_15, .null])), (q_1, .inl (cyI, 2490, .inl (fun _ => 0))), (q_2, .inl (cyI, 8, .inl (fun _ => 0))), (q_3, .inl (cyI, 8, .inl (fun _ => 0))), (q_4, .inl (cyI, 8, .inl (fun _ => 0))), (q_5, .inl (cyZ, 8, .inl (fun _ => 0))), (q_6, .inl (cyI, 48, .inl (fun _ => 0))), (q_7, .inl (cyI, 48, .inl (fun _ => 0))), (q_8, .inl (cyI, 48, .inl (fun _ => 0))), (q_9, .inl (cyI, 15, .inl (fun _ => 0))), (q_10, .inl (cyI, 15, .inl (fun _ => 0))), (q_11, .inl (cyZ, 48, .inl (fun _ => 0))), (q_12, .inl (cyI, 96, .inl (fun _ => 0))), (q_13, .inl (cyI, 48, .inl (fun _ => 0))), (q_14, .inl (cyI, 7470, .inl (fun _ => 0))), (q_15, .inl (cyI, 3, .inl (fun _ => 0))), (q_16, .inl (cyZ, 3, .inl (fun _ => 0)))] H := hP
  have hD : va_D A [(h0, .inr (11, [.ref q_1, .int 0, .int 0, .ref q_2, .ref q_3, .ref q_4, .ref q_5, .int 0, .ref q_6, .ref q_7, .ref q_8, .int 0, .int 32, .int 0, .ref q_9, .ref q_10, .int 0, .int 0, .ref q_11, .ref q_12, .ref q_13, .ref q_14, .ref q_15, .null])), (q_1, .inl (cyI, 2490, .inl (fun _ => 0))), (q_2, .inl (cyI, 8, .inl (fun _ => 0))), (q_3, .inl (cyI, 8, .inl (fun _ => 0))), (q_4, .inl (cyI, 8, .inl (fun _ => 0))), (q_5, .inl (cyZ, 8, .inl (fun _ => 0))), (q_6, .inl (cyI, 48, .inl (fun _ => 0))), (q_7, .inl (cyI, 48, .inl (fun _ => 0))), (q_8, .inl (cyI, 48, .inl (fun _ => 0))), (q_9, .inl (cyI, 15, .inl (fun _ => 0))), (q_10, .inl (cyI, 15, .inl (fun _ => 0))), (q_11, .inl (cyZ, 48, .inl (fun _ => 0))), (q_12, .inl (cyI, 96, .inl (fun _ => 0))), (q_13, .inl (cyI, 48, .inl (fun _ => 0))), (q_14, .inl (cyI, 7470, .inl (fun _ => 0))), (q_15, .inl (cyI, 3, .inl (fun _ => 0))), (q_16, .inl (cyZ, 3, .inl (fun _ => 0)))] := hD
  refine W.widen (k := 16) (n := 10364) (Nat.le_of_ble_eq_true rfl) (Nat.le_of_ble_eq_true rfl) ?_
  refine va_putF (D := (dC, dI)) (ci := 11) (v := .ref q_16) (ty := (.array .boolean)) (C := RX11) (T := TX11) (N := 24) hx hb hts hnX11 tyX11 tyX11_ok nmX11 hown hK hP hD hS 0 rfl rfl 23 (by decide) hf60 (fun _ h9 => h9) rfl hnm rfl (by decide +kernel) rfl rfl (Nat.le_of_ble_eq_true rfl) dX11_init_135 (fun H locs hP hD hS => ?_)
  have hP : va_P (dC, dI) vwCl [(h0, .inr (11, [.ref q_1, .int 0, .int 0, .ref q_2, .ref q_3, .ref q_4, .ref q_5, .int 0, .ref q_6, .ref q_7, .ref q_8, .int 0, .int 32, .int 0, .ref q_9, .ref q_10, .int 0, .int 0, .ref q_11, .ref q_12, .ref q_13, .ref q_14, .ref q_15, .ref q_16])), (q_1, .inl (cyI, 2490, .inl (fun _ => 0))), (q_2, .inl (cyI, 8, .inl (fun _ => 0))), (q_3, .inl (cyI, 8, .inl (fun _ => 0))), (q_4, .inl (cyI, 8, .inl (fun _ => 0))), (q_5, .inl (cyZ, 8, .inl (fun _ => 0))), (q_6, .inl (cyI, 48, .inl (fun _ => 0))), (q_7, .inl (cyI, 48, .inl (fun _ => 0))), (q_8, .inl (cyI, 48, .inl (fun _ => 0))), (q_9, .inl (cyI, 15, .inl (fun _ => 0))), (q_10, .inl (cyI, 15, .inl (fun _ => 0))), (q_11, .inl (cyZ, 48, .inl (fun _ => 0))), (q_12, .inl (cyI, 96, .inl (fun _ => 0))), (q_13, .inl (cyI, 48, .inl (fun _ => 0))), (q_14, .inl (cyI, 7470, .inl (fun _ => 0))), (q_15, .inl (cyI, 3, .inl (fun _ => 0))), (q_16, .inl (cyZ, 3, .inl (fun _ => 0)))] H := hP
  have hD : va_D A [(h0, .inr (11, [.ref q_1, .int 0, .int 0, .ref q_2, .ref q_3, .ref q_4, .ref q_5, .int 0, .ref q_6, .ref q_7, .ref q_8, .int 0, .int 32, .int 0, .ref q_9, .ref q_10, .int 0, .int 0, .ref q_11, .ref q_12, .ref q_13, .ref q_14, .ref q_15, .ref q_16])), (q_1, .inl (cyI, 2490, .inl (fun _ => 0))), (q_2, .inl (cyI, 8, .inl (fun _ => 0))), (q_3, .inl (cyI, 8, .inl (fun _ => 0))), (q_4, .inl (cyI, 8, .inl (fun _ => 0))), (q_5, .inl (cyZ, 8, .inl (fun _ => 0))), (q_6, .inl (cyI, 48, .inl (fun _ => 0))), (q_7, .inl (cyI, 48, .inl (fun _ => 0))), (q_8, .inl (cyI, 48, .inl (fun _ => 0))), (q_9, .inl (cyI, 15, .inl (fun _ => 0))), (q_10, .inl (cyI, 15, .inl (fun _ => 0))), (q_11, .inl (cyZ, 48, .inl (fun _ => 0))), (q_12, .inl (cyI, 96, .inl (fun _ => 0))), (q_13, .inl (cyI, 48, .inl (fun _ => 0))), (q_14, .inl (cyI, 7470, .inl (fun _ => 0))), (q_15, .inl (cyI, 3, .inl (fun _ => 0))), (q_16, .inl (cyZ, 3, .inl (fun _ => 0)))] := hD
  refine lv_aload_n hx hb dX11_init_138 rfl (lv_at hl 0 rfl) ?_
  have hPc := hP.sub (ws' := [(h0, .inr (11, [.ref q_1, .int 0, .int 0, .ref q_2, .ref q_3, .ref q_4, .ref q_5, .int 0, .ref q_6, .ref q_7, .ref q_8, .int 0, .int 32, .int 0, .ref q_9, .ref q_10, .int 0, .int 0, .ref q_11, .ref q_12, .ref q_13, .ref q_14, .ref q_15, .ref q_16])), (q_1, .inl (cyI, 2490, .inl (fun _ => 0)))]) [0, 1] rfl
  have hDc := hD.sub (ws' := [(h0, .inr (11, [.ref q_1, .int 0, .int 0, .ref q_2, .ref q_3, .ref q_4, .ref q_5, .int 0, .ref q_6, .ref q_7, .ref q_8, .int 0, .int 32, .int 0, .ref q_9, .ref q_10, .int 0, .int 0, .ref q_11, .ref q_12, .ref q_13, .ref q_14, .ref q_15, .ref q_16])), (q_1, .inl (cyI, 2490, .inl (fun _ => 0)))]) [0, 1] (by decide) rfl
  refine yy_callv [0, 1] [2, 3, 4, 5, 6, 7, 8, 9, 10, 11, 12, 13, 14, 15, 16] (wr := [(q_2, .inl (cyI, 8, .inl (fun _ => 0))), (q_3, .inl (cyI, 8, .inl (fun _ => 0))), (q_4, .inl (cyI, 8, .inl (fun _ => 0))), (q_5, .inl (cyZ, 8, .inl (fun _ => 0))), (q_6, .inl (cyI, 48, .inl (fun _ => 0))), (q_7, .inl (cyI, 48, .inl (fun _ => 0))), (q_8, .inl (cyI, 48, .inl (fun _ => 0))), (q_9, .inl (cyI, 15, .inl (fun _ => 0))), (q_10, .inl (cyI, 15, .inl (fun _ => 0))), (q_11, .inl (cyZ, 48, .inl (fun _ => 0))), (q_12, .inl (cyI, 96, .inl (fun _ => 0))), (q_13, .inl (cyI, 48, .inl (fun _ => 0))), (q_14, .inl (cyI, 7470, .inl (fun _ => 0))), (q_15, .inl (cyI, 3, .inl (fun _ => 0))), (q_16, .inl (cyZ, 3, .inl (fun _ => 0)))]) (va_runV (As := []) (rest := []) ⟨hx, hb, hml, hown, hts⟩ (r_begin0 l dC dI cyI cyZ cyO H.size h0 q_1 q_2 q_3 q_4 q_5 q_6 q_7 q_8 q_9 q_10 q_11 q_12 q_13 q_14 q_15 q_16 ) (cwV 0 hts gX11_init_X11_begin rfl rfl rfl (by decide +kernel) ⟨Nat.le_of_ble_eq_true rfl, Nat.le_of_ble_eq_true rfl⟩) (yPreV hK hPc hDc (ci := 11) (q0 := 0) rfl rfl) rfl rfl hl.1 rfl (lv_room (Nat.le_of_ble_eq_true rfl)) dX11_init_139 ⟨Nat.le_of_ble_eq_true rfl, Nat.le_of_ble_eq_true rfl⟩) hP hD hS hA rfl rfl (by decide) (by decide) (fun u_17 H locs hw hP hD hS => ?_)
  have hP : va_P (dC, dI) vwCl [(q_2, .inl (cyI, 8, .inl (fun _ => 0))), (q_3, .inl (cyI, 8, .inl (fun _ => 0))), (q_4, .inl (cyI, 8, .inl (fun _ => 0))), (q_5, .inl (cyZ, 8, .inl (fun _ => 0))), (q_6, .inl (cyI, 48, .inl (fun _ => 0))), (q_7, .inl (cyI, 48, .inl (fun _ => 0))), (q_8, .inl (cyI, 48, .inl (fun _ => 0))), (q_9, .inl (cyI, 15, .inl (fun _ => 0))), (q_10, .inl (cyI, 15, .inl (fun _ => 0))), (q_11, .inl (cyZ, 48, .inl (fun _ => 0))), (q_12, .inl (cyI, 96, .inl (fun _ => 0))), (q_13, .inl (cyI, 48, .inl (fun _ => 0))), (q_14, .inl (cyI, 7470, .inl (fun _ => 0))), (q_15, .inl (cyI, 3, .inl (fun _ => 0))), (q_16, .inl (cyZ, 3, .inl (fun _ => 0))), (h0, .inr (11, [.ref q_1, .int 0, .int 0, .ref q_2, .ref q_3, .ref q_4, .ref q_5, .int 0, .ref q_6, .ref q_7, .ref q_8, .int 0, .int 32, .int 0, .ref q_9, .ref q_10, .int 0, .int 0, .ref q_11, .ref q_12, .ref q_13, .ref q_14, .ref q_15, .ref q_16])), (q_1, .inl (cyI, 2490, .inl (yz 0 0)))] H := hP
  have hD : va_D A [(q_2, .inl (cyI, 8, .inl (fun _ => 0))), (q_3, .inl (cyI, 8, .inl (fun _ => 0))), (q_4, .inl (cyI, 8, .inl (fun _ => 0))), (q_5, .inl (cyZ, 8, .inl (fun _ => 0))), (q_6, .inl (cyI, 48, .inl (fun _ => 0))), (q_7, .inl (cyI, 48, .inl (fun _ => 0))), (q_8, .inl (cyI, 48, .inl (fun _ => 0))), (q_9, .inl (cyI, 15, .inl (fun _ => 0))), (q_10, .inl (cyI, 15, .inl (fun _ => 0))), (q_11, .inl (cyZ, 48, .inl (fun _ => 0))), (q_12, .inl (cyI, 96, .inl (fun _ => 0))), (q_13, .inl (cyI, 48, .inl (fun _ => 0))), (q_14, .inl (cyI, 7470, .inl (fun _ => 0))), (q_15, .inl (cyI, 3, .inl (fun _ => 0))), (q_16, .inl (cyZ, 3, .inl (fun _ => 0))), (h0, .inr (11, [.ref q_1, .int 0, .int 0, .ref q_2, .ref q_3, .ref q_4, .ref q_5, .int 0, .ref q_6, .ref q_7, .ref q_8, .int 0, .int 32, .int 0, .ref q_9, .ref q_10, .int 0, .int 0, .ref q_11, .ref q_12, .ref q_13, .ref q_14, .ref q_15, .ref q_16])), (q_1, .inl (cyI, 2490, .inl (yz 0 0)))] := hD
  refine W.widen (k := 16) (n := 10364) (Nat.le_of_ble_eq_true rfl) (Nat.le_of_ble_eq_true rfl) ?_
  refine W.widen (k := 16) (n := 10364) (Nat.le_of_ble_eq_true rfl) (Nat.le_of_ble_eq_true rfl) ?_
  exact yy_vret ((fun k => match k with | 0 => q_1 | 1 => q_2 | 2 => q_3 | 3 => q_4 | 4 => q_5 | 5 => q_6 | 6 => q_7 | 7 => q_8 | 8 => q_9 | 9 => q_10 | 10 => q_11 | 11 => q_12 | 12 => q_13 | 13 => q_14 | 14 => q_15 | 15 => q_16 | _ => 0) : Nat → Nat) hx hb hr hlk hsz hAe hK hP hD hS [15, 16, 0, 1, 2, 3, 4, 5, 6, 7, 8, 9, 10, 11, 12, 13, 14] rfl rfl (by decide) (trivial) dX11_init_142
