/-! the reference's row z: which of its places have ranges (acts and findings at most n), and what its places say of each other -/
def ZR (n : Int) (z : Nat → Int32) : Prop :=
  (yr (-1) 59 (z 180) ∧ yr (-1) 59 (z 181) ∧ yr 0 60 (z 182) ∧ yr 0 4 (z 192) ∧ yr 0 n (z 204) ∧ yr 0 n (z 208) ∧ yr 0 60 (z 212) ∧ yr 0 n (z 213)) ∧ ∀ i : Nat, i < 200 → yr 0 7 (z (890 + 8 * i))
/-- an address that some SLAVE has -/
def yDec (fi la : Nat → Int32) (s x : Int32) : Prop := ∃ k : Nat, (k : Int) < s.toInt ∧ fi k ≤ x ∧ x ≤ la k + 3
def Zc1 (z : Nat → Int32) : Prop := z 184 = 1 → (z 192).toInt ≤ 3
def Zc2 (fi la : Nat → Int32) (s : Int32) (z : Nat → Int32) : Prop := ∀ i : Nat, (i : Int) < (z 192).toInt → yDec fi la s (z (193 + i))
def Zc3 (fi la : Nat → Int32) (s : Int32) (z : Nat → Int32) : Prop := z 184 = 1 ∨ z 184 = 2 ∨ z 184 = 3 → yDec fi la s (z 185)
def Zcl (fi la : Nat → Int32) (s : Int32) (z : Nat → Int32) : Prop := (z 192).toInt ≤ 3 ∧ ∀ i : Nat, (i : Int) ≤ (z 192).toInt → yDec fi la s (z (193 + i))
def ZI (n : Int) (fi la : Nat → Int32) (s : Int32) (z : Nat → Int32) : Prop := ZR n z ∧ Zc1 z ∧ Zc2 fi la s z ∧ Zc3 fi la s z
def Z0 (n : Int) (fi la : Nat → Int32) (s : Int32) (z : Nat → Int32) : Prop := ZR n z ∧ Zc2 fi la s z
def ZL (n : Int) (fi la : Nat → Int32) (s : Int32) (z : Nat → Int32) : Prop := ZR n z ∧ Zc1 z ∧ Zcl fi la s z ∧ Zc3 fi la s z
theorem yup {z : Nat → Int32} {n k : Nat} {x : Int32} (h : ¬ k = n) : upd z n x k = z k := by unfold upd; rw [if_neg h]
theorem yus {z : Nat → Int32} {n : Nat} {x : Int32} : upd z n x n = x := by unfold upd; rw [if_pos rfl]
theorem ynat {a b : Int} {x : Int32} (h : yr a b x) (h0 : 0 ≤ a) : a ≤ (x.toNatClampNeg : Int) ∧ (x.toNatClampNeg : Int) ≤ b ∧ (x.toNatClampNeg : Int) = x.toInt := by
  have h1 := h.1
  have h2 := h.2
  have e : (x.toNatClampNeg : Int) = x.toInt := by
    show ((x.toInt.toNat : Nat) : Int) = x.toInt
    omega
  omega
/-- g says the same as z, of the places that are watched -/
def ZS (z g : Nat → Int32) : Prop := (g 180 = z 180 ∧ g 181 = z 181 ∧ g 182 = z 182 ∧ g 204 = z 204 ∧ g 208 = z 208 ∧ g 212 = z 212 ∧ g 213 = z 213) ∧ (∀ i : Nat, i < 200 → g (890 + 8 * i) = z (890 + 8 * i)) ∧ (g 192 = z 192 ∧ g 193 = z 193 ∧ g 194 = z 194 ∧ g 195 = z 195 ∧ g 196 = z 196)
def ZT (z g : Nat → Int32) : Prop := g 184 = z 184 ∧ g 185 = z 185
def zgap (lo hi : Int) : Bool := decide (0 ≤ lo) && decide (hi < 890) && ([180, 181, 182, 192, 193, 194, 195, 196, 204, 208, 212, 213] : List Int).all (fun p => decide (p < lo) || decide (hi < p))
def zgap2 (lo hi : Int) : Bool := ([184, 185] : List Int).all (fun p => decide (p < lo) || decide (hi < p))
theorem ZS_gap {z g : Nat → Int32} {i x : Int32} {lo hi : Int} (e : g = upd z i.toNatClampNeg x) (hi' : yr lo hi i) (ok : zgap lo hi = true) : ZS z g := by
  simp only [zgap, List.all_cons, List.all_nil, Bool.and_eq_true, Bool.or_eq_true, decide_eq_true_eq, Bool.and_true] at ok
  obtain ⟨⟨k0, k1⟩, p1, p2, p3, p4, p5, p6, p7, p8, p9, p10, p11, p12⟩ := ok
  obtain ⟨q1, q2, -⟩ := ynat hi' k0
  subst e
  refine ⟨⟨yup (by omega), yup (by omega), yup (by omega), yup (by omega), yup (by omega), yup (by omega), yup (by omega)⟩, fun i _ => yup (by omega), yup (by omega), yup (by omega), yup (by omega), yup (by omega), yup (by omega)⟩
theorem ZT_gap {z g : Nat → Int32} {i x : Int32} {lo hi : Int} (e : g = upd z i.toNatClampNeg x) (hi' : yr lo hi i) (k0 : 0 ≤ lo) (ok : zgap2 lo hi = true) : ZT z g := by
  simp only [zgap2, List.all_cons, List.all_nil, Bool.and_eq_true, Bool.or_eq_true, decide_eq_true_eq, Bool.and_true] at ok
  obtain ⟨p1, p2⟩ := ok
  obtain ⟨q1, q2, -⟩ := ynat hi' k0
  subst e
  exact ⟨yup (by omega), yup (by omega)⟩
theorem yk_keep {z g : Nat → Int32} {i x v : Int32} {lo hi : Int} {p : Nat} (e : g = upd z i.toNatClampNeg x) (h : z p = v) (hi' : yr lo hi i) (k0 : 0 ≤ lo) (ok : (p : Int) < lo ∨ hi < p) : g p = v := by
  obtain ⟨q1, q2, -⟩ := ynat hi' k0
  subst e
  rw [yup (by omega)]
  exact h
/-- a place of THE LOG that is no SLAVE's -/
theorem ZS_log {z g : Nat → Int32} {i x v : Int32} {c : Int} (e : g = upd z i.toNatClampNeg x) (hv : yr 0 199 v) (ei : i.toInt = 890 + 8 * v.toInt + c) (c1 : 1 ≤ c) (c2 : c ≤ 7) : ZS z g ∧ ZT z g := by
  have hv1 := hv.1
  have hv2 := hv.2
  have e2 : (i.toNatClampNeg : Int) = i.toInt := by
    show ((i.toInt.toNat : Nat) : Int) = i.toInt
    omega
  subst e
  refine ⟨⟨⟨yup (by omega), yup (by omega), yup (by omega), yup (by omega), yup (by omega), yup (by omega), yup (by omega)⟩, fun i _ => yup (by omega), yup (by omega), yup (by omega), yup (by omega), yup (by omega), yup (by omega)⟩, yup (by omega), yup (by omega)⟩
theorem ZR_same {n : Int} {z g : Nat → Int32} (h : ZR n z) (q : ZS z g) : ZR n g := by
  obtain ⟨⟨h1, h2, h3, h4, h5, h6, h7, h8⟩, h9⟩ := h
  obtain ⟨⟨q1, q2, q3, q4, q5, q6, q7⟩, q8, q9, -⟩ := q
  exact ⟨⟨by rw [q1]; exact h1, by rw [q2]; exact h2, by rw [q3]; exact h3, by rw [q9]; exact h4, by rw [q4]; exact h5, by rw [q5]; exact h6, by rw [q6]; exact h7, by rw [q7]; exact h8⟩, fun i hi => by rw [q8 i hi]; exact h9 i hi⟩
theorem ZS_193 {z g : Nat → Int32} (q : ZS z g) {i : Nat} (h : i < 4) : g (193 + i) = z (193 + i) := by
  obtain ⟨-, -, -, q1, q2, q3, q4⟩ := q
  match i, h with
  | 0, _ => exact q1
  | 1, _ => exact q2
  | 2, _ => exact q3
  | 3, _ => exact q4
theorem Z0_same {n : Int} {fi la : Nat → Int32} {s : Int32} {z g : Nat → Int32} (h : Z0 n fi la s z) (q : ZS z g) : Z0 n fi la s g := by
  obtain ⟨h1, h2⟩ := h
  refine ⟨ZR_same h1 q, fun i hi => ?_⟩
  have h4 := h1.1.2.2.2.1.2
  rw [q.2.2.1] at hi
  rw [ZS_193 q (by omega)]
  exact h2 i hi
theorem ZI_same {n : Int} {fi la : Nat → Int32} {s : Int32} {z g : Nat → Int32} (h : ZI n fi la s z) (q : ZS z g) (t : ZT z g) : ZI n fi la s g := by
  obtain ⟨h1, h2, h3, h4⟩ := h
  have h0 := Z0_same ⟨h1, h3⟩ q
  refine ⟨h0.1, fun w => ?_, h0.2, fun w => ?_⟩
  · rw [q.2.2.1]; rw [t.1] at w; exact h2 w
  · rw [t.2]; rw [t.1] at w; exact h4 w
theorem ZL_same {n : Int} {fi la : Nat → Int32} {s : Int32} {z g : Nat → Int32} (h : ZL n fi la s z) (q : ZS z g) (t : ZT z g) : ZL n fi la s g := by
  obtain ⟨h1, h2, h3, h4⟩ := h
  refine ⟨ZR_same h1 q, fun w => ?_, ⟨by rw [q.2.2.1]; exact h3.1, fun i hi => ?_⟩, fun w => ?_⟩
  · rw [q.2.2.1]; rw [t.1] at w; exact h2 w
  · rw [q.2.2.1] at hi
    have h5 := h3.1
    rw [ZS_193 q (by omega)]
    exact h3.2 i hi
  · rw [t.2]; rw [t.1] at w; exact h4 w
theorem ZI_Z0 {n : Int} {fi la : Nat → Int32} {s : Int32} {z : Nat → Int32} (h : ZI n fi la s z) : Z0 n fi la s z := ⟨h.1, h.2.2.1⟩
theorem ZL_ZI {n : Int} {fi la : Nat → Int32} {s : Int32} {z : Nat → Int32} (h : ZL n fi la s z) : ZI n fi la s z := ⟨h.1, h.2.1, fun i hi => h.2.2.1.2 i (by omega), h.2.2.2⟩
theorem ZR_mono {n m : Int} {z : Nat → Int32} (h : ZR n z) (hm : n ≤ m) : ZR m z := by
  obtain ⟨⟨q1, q2, q3, q4, q5, q6, q7, q8⟩, q9⟩ := h
  exact ⟨⟨q1, q2, q3, q4, yr_w q5 (Int.le_refl _) hm, yr_w q6 (Int.le_refl _) hm, q7, yr_w q8 (Int.le_refl _) hm⟩, q9⟩
theorem ZI_mono {n m : Int} {fi la : Nat → Int32} {s : Int32} {z : Nat → Int32} (h : ZI n fi la s z) (hm : n ≤ m) : ZI m fi la s z := ⟨ZR_mono h.1 hm, h.2⟩
theorem Z0_mono {n m : Int} {fi la : Nat → Int32} {s : Int32} {z : Nat → Int32} (h : Z0 n fi la s z) (hm : n ≤ m) : Z0 m fi la s z := ⟨ZR_mono h.1 hm, h.2⟩
theorem ZL_mono {n m : Int} {fi la : Nat → Int32} {s : Int32} {z : Nat → Int32} (h : ZL n fi la s z) (hm : n ≤ m) : ZL m fi la s z := ⟨ZR_mono h.1 hm, h.2⟩
/-- stores at the watched places -/
theorem ZR_put {n m : Int} {z g : Nat → Int32} {p : Nat} {x : Int32} (h : ZR n z) (hm : n ≤ m) (e : g = upd z p x) (hp : p < 890) (h0 : p = 180 ∨ p = 181 → yr (-1) 59 x) (h1 : p = 182 ∨ p = 212 → yr 0 60 x) (h2 : p = 192 → yr 0 4 x) (h3 : p = 204 ∨ p = 208 ∨ p = 213 → yr 0 m x) : ZR m g := by
  obtain ⟨⟨q1, q2, q3, q4, q5, q6, q7, q8⟩, q9⟩ := ZR_mono h hm
  subst e
  have put : ∀ (k : Nat) (a b : Int), (k = p → yr a b x) → yr a b (z k) → yr a b (upd z p x k) := by
    intro k a b hx hz
    by_cases hk : k = p
    · subst hk; rw [yus]; exact hx rfl
    · rw [yup hk]; exact hz
  exact ⟨⟨put _ _ _ (fun q => h0 (by omega)) q1, put _ _ _ (fun q => h0 (by omega)) q2, put _ _ _ (fun q => h1 (by omega)) q3, put _ _ _ (fun q => h2 (by omega)) q4, put _ _ _ (fun q => h3 (by omega)) q5, put _ _ _ (fun q => h3 (by omega)) q6, put _ _ _ (fun q => h1 (by omega)) q7, put _ _ _ (fun q => h3 (by omega)) q8⟩, fun i hi => put _ _ _ (fun q => absurd q (by omega)) (q9 i hi)⟩
/-- a watched place that isn't the bridge's -/
theorem ZI_put {n m : Int} {fi la : Nat → Int32} {s : Int32} {z g : Nat → Int32} {p : Nat} {x : Int32} (h : ZI n fi la s z) (hm : n ≤ m) (e : g = upd z p x) (hp : p = 180 ∨ p = 181 ∨ p = 182 ∨ p = 204 ∨ p = 208 ∨ p = 212 ∨ p = 213) (h0 : p = 180 ∨ p = 181 → yr (-1) 59 x) (h1 : p = 182 ∨ p = 212 → yr 0 60 x) (h3 : p = 204 ∨ p = 208 ∨ p = 213 → yr 0 m x) : ZI m fi la s g := by
  have hR := ZR_put h.1 hm e (by omega) h0 h1 (fun q => by omega) h3
  obtain ⟨-, c1, c2, c3⟩ := h
  subst e
  have k : ∀ j : Nat, 184 ≤ j → j ≤ 185 ∨ 192 ≤ j → j ≤ 200 → upd z p x j = z j := fun j a b c => yup (by omega)
  have e192 := k 192 (by omega) (by omega) (by omega)
  have h4 := hR.1.2.2.2.1.2
  refine ⟨hR, fun w => ?_, fun i hi => ?_, fun w => ?_⟩
  · rw [e192]; rw [k 184 (by omega) (by omega) (by omega)] at w; exact c1 w
  · have hi2 := hi
    rw [e192] at hi2
    rw [k (193 + i) (by omega) (by omega) (by omega)]; exact c2 i hi2
  · rw [k 185 (by omega) (by omega) (by omega)]; rw [k 184 (by omega) (by omega) (by omega)] at w; exact c3 w
theorem zlit {z g : Nat → Int32} {i x : Int32} {p : Nat} (e : g = upd z i.toNatClampNeg x) (h : i.toNatClampNeg = p) : g = upd z p x := by rw [e, h]
theorem ZI_180 {n : Int} {fi la : Nat → Int32} {s : Int32} {z g : Nat → Int32} {x : Int32} (h : ZI n fi la s z) (e : g = upd z (180 : Int32).toNatClampNeg x) (hx : yr (-1) 59 x) : ZI n fi la s g := ZI_put h (Int.le_refl _) (zlit (p := 180) e (by decide)) (by omega) (fun _ => hx) (fun q => by omega) (fun q => by omega)
theorem ZI_181 {n : Int} {fi la : Nat → Int32} {s : Int32} {z g : Nat → Int32} {x : Int32} (h : ZI n fi la s z) (e : g = upd z (181 : Int32).toNatClampNeg x) (hx : yr (-1) 59 x) : ZI n fi la s g := ZI_put h (Int.le_refl _) (zlit (p := 181) e (by decide)) (by omega) (fun _ => hx) (fun q => by omega) (fun q => by omega)
theorem ZI_182 {n : Int} {fi la : Nat → Int32} {s : Int32} {z g : Nat → Int32} {x : Int32} (h : ZI n fi la s z) (e : g = upd z (182 : Int32).toNatClampNeg x) (hx : yr 0 60 x) : ZI n fi la s g := ZI_put h (Int.le_refl _) (zlit (p := 182) e (by decide)) (by omega) (fun q => by omega) (fun _ => hx) (fun q => by omega)
theorem ZI_212 {n : Int} {fi la : Nat → Int32} {s : Int32} {z g : Nat → Int32} {x : Int32} (h : ZI n fi la s z) (e : g = upd z (212 : Int32).toNatClampNeg x) (hx : yr 0 60 x) : ZI n fi la s g := ZI_put h (Int.le_refl _) (zlit (p := 212) e (by decide)) (by omega) (fun q => by omega) (fun _ => hx) (fun q => by omega)
theorem ZI_204 {n : Int} {fi la : Nat → Int32} {s : Int32} {z g : Nat → Int32} {x : Int32} (h : ZI n fi la s z) (e : g = upd z (204 : Int32).toNatClampNeg x) (hx : z 208 = x) : ZI n fi la s g := ZI_put h (Int.le_refl _) (zlit (p := 204) e (by decide)) (by omega) (fun q => by omega) (fun q => by omega) (fun _ => by rw [← hx]; exact h.1.1.2.2.2.2.2.1)
theorem yr_inc {n : Int} {v x : Int32} (h : yr 0 n v) (hn : n ≤ 2000000000) (e : x = v + 1) : yr 0 (n + 1) x := by
  rw [e]
  have := yr_add h (yrc (a := 1) (b := 1) (x := 1) (by decide) (by decide)) (lo := 0) (hi := n + 1) (by omega) (by omega) (by omega) (by omega)
  exact this
theorem ZI_208 {n : Int} {fi la : Nat → Int32} {s : Int32} {z g : Nat → Int32} {x v : Int32} (h : ZI n fi la s z) (hn : n ≤ 2000000000) (e : g = upd z (208 : Int32).toNatClampNeg x) (hv : z 208 = v) (hx : x = v + 1) : ZI (n + 1) fi la s g := ZI_put h (by omega) (zlit (p := 208) e (by decide)) (by omega) (fun q => by omega) (fun q => by omega) (fun _ => yr_inc (by rw [← hv]; exact h.1.1.2.2.2.2.2.1) hn hx)
theorem ZI_213 {n : Int} {fi la : Nat → Int32} {s : Int32} {z g : Nat → Int32} {x v : Int32} (h : ZI n fi la s z) (hn : n ≤ 2000000000) (e : g = upd z (213 : Int32).toNatClampNeg x) (hv : z 213 = v) (hx : x = v + 1) : ZI (n + 1) fi la s g := ZI_put h (by omega) (zlit (p := 213) e (by decide)) (by omega) (fun q => by omega) (fun q => by omega) (fun _ => yr_inc (by rw [← hv]; exact h.1.1.2.2.2.2.2.2.2) hn hx)
theorem ZI_log0 {n : Int} {fi la : Nat → Int32} {s : Int32} {z g : Nat → Int32} {i x v : Int32} (h : ZI n fi la s z) (e : g = upd z i.toNatClampNeg x) (hv : yr 0 199 v) (ei : i.toInt = 890 + 8 * v.toInt + 0) (hx : yr 0 7 x) : ZI n fi la s g := by
  have hv1 := hv.1
  have hv2 := hv.2
  have e2 : (i.toNatClampNeg : Int) = i.toInt := by
    show ((i.toInt.toNat : Nat) : Int) = i.toInt
    omega
  obtain ⟨⟨⟨h1, h2, h3, h4, h5, h6, h7, h8⟩, h9⟩, c1, c2, c3⟩ := h
  subst e
  have k : ∀ j : Nat, j < 890 → upd z i.toNatClampNeg x j = z j := fun j a => yup (by omega)
  refine ⟨⟨⟨by rw [k _ (by omega)]; exact h1, by rw [k _ (by omega)]; exact h2, by rw [k _ (by omega)]; exact h3, by rw [k _ (by omega)]; exact h4, by rw [k _ (by omega)]; exact h5, by rw [k _ (by omega)]; exact h6, by rw [k _ (by omega)]; exact h7, by rw [k _ (by omega)]; exact h8⟩, fun j hj => ?_⟩, fun w => ?_, fun j hj => ?_, fun w => ?_⟩
  · by_cases q : 890 + 8 * j = i.toNatClampNeg
    · rw [q, yus]; exact hx
    · rw [yup q]; exact h9 j hj
  · rw [k _ (by omega)]; rw [k _ (by omega)] at w; exact c1 w
  · rw [k _ (by omega)] at hj
    have := h4.2
    rw [k _ (by omega)]; exact c2 j hj
  · rw [k _ (by omega)]; rw [k _ (by omega)] at w; exact c3 w
/-- the bridge's state is set -/
theorem Z0_184 {n : Int} {fi la : Nat → Int32} {s : Int32} {z g : Nat → Int32} {x : Int32} (h : Z0 n fi la s z) (e : g = upd z (184 : Int32).toNatClampNeg x) (h1 : x = 1 → (z 192).toInt ≤ 3) (h3 : x = 1 ∨ x = 2 ∨ x = 3 → yDec fi la s (z 185)) : ZI n fi la s g := by
  have e' := zlit (p := 184) e (by decide)
  have hR := ZR_put h.1 (Int.le_refl _) e' (by omega) (fun q => by omega) (fun q => by omega) (fun q => by omega) (fun q => by omega)
  subst e'
  refine ⟨hR, fun w => ?_, fun i hi => ?_, fun w => ?_⟩
  · rw [yup (by decide)]; rw [yus] at w; exact h1 w
  · rw [yup (by decide)] at hi
    have := h.1.1.2.2.2.1.2
    rw [yup (by omega)]; exact h.2 i hi
  · rw [yup (by decide)]; rw [yus] at w; exact h3 w
theorem yne {a b : Int} {x y : Int32} (h : yr a b x) (hy : y.toInt < a ∨ b < y.toInt) : ¬ x = y := fun q => by
  subst q
  have := h.1; have := h.2
  omega
theorem Z0_184r {n : Int} {fi la : Nat → Int32} {s : Int32} {z g : Nat → Int32} {x : Int32} {a b : Int} (h : Z0 n fi la s z) (e : g = upd z (184 : Int32).toNatClampNeg x) (hx : yr a b x) (o1 : (1 : Int32).toInt < a ∨ b < (1 : Int32).toInt) (o2 : (2 : Int32).toInt < a ∨ b < (2 : Int32).toInt) (o3 : (3 : Int32).toInt < a ∨ b < (3 : Int32).toInt) : ZI n fi la s g :=
  Z0_184 h e (fun q => absurd q (yne hx o1)) (fun q => by rcases q with q | q | q; exact absurd q (yne hx o1); exact absurd q (yne hx o2); exact absurd q (yne hx o3))
theorem Z0_185 {n : Int} {fi la : Nat → Int32} {s : Int32} {z g : Nat → Int32} {x : Int32} (h : Z0 n fi la s z) (e : g = upd z (185 : Int32).toNatClampNeg x) : Z0 n fi la s g := Z0_same h (ZS_gap e (lo := 185) (hi := 185) ⟨by decide, by decide⟩ (by decide))
/-- a write is POSTED: its address behind the others -/
theorem ZI_post {n : Int} {fi la : Nat → Int32} {s : Int32} {z g : Nat → Int32} {i v x : Int32} (h : ZI n fi la s z) (e : g = upd z i.toNatClampNeg x) (h1 : z 184 = 1) (hv : z 192 = v) (ei : i.toInt = 193 + v.toInt) (hx : z 185 = x) : ZL n fi la s g := by
  obtain ⟨hR, c1, c2, c3⟩ := h
  have k3 := c1 h1
  have k0 := hR.1.2.2.2.1.1
  have d := c3 (Or.inl h1)
  rw [hx] at d
  rw [hv] at k3 k0
  have e2 : (i.toNatClampNeg : Int) = i.toInt := by
    show ((i.toInt.toNat : Nat) : Int) = i.toInt
    omega
  have hR2 := ZR_put hR (Int.le_refl _) e (by omega) (fun q => by omega) (fun q => by omega) (fun q => by omega) (fun q => by omega)
  subst e
  refine ⟨hR2, fun w => ?_, ⟨?_, fun j hj => ?_⟩, fun w => ?_⟩
  · rw [yup (by omega), hv]; exact k3
  · rw [yup (by omega), hv]; exact k3
  · rw [yup (by omega), hv] at hj
    by_cases q : 193 + j = i.toNatClampNeg
    · rw [q, yus]; exact d
    · rw [yup q]; exact c2 j (by rw [hv]; omega)
  · rw [yup (by omega), hx]; exact d
theorem ZL_192 {n : Int} {fi la : Nat → Int32} {s : Int32} {z g : Nat → Int32} {x v : Int32} (h : ZL n fi la s z) (e : g = upd z (192 : Int32).toNatClampNeg x) (hv : z 192 = v) (hx : x = v + 1) : Z0 n fi la s g := by
  have e' := zlit (p := 192) e (by decide)
  have k0 := h.1.1.2.2.2.1
  have k3 := h.2.2.1.1
  rw [hv] at k0 k3
  have hx2 : yr 0 4 x := by
    rw [hx]
    exact yr_add (a := 0) (b := 3) (c := 1) (d := 1) ⟨k0.1, k3⟩ ⟨by decide, by decide⟩ (by decide) (by decide) (by decide) (by decide)
  have ex : x.toInt = v.toInt + 1 := by
    rw [hx, Int32.toInt_add, show (1 : Int32).toInt = 1 from by decide]
    exact ybm (by have := k0.1; omega) (by omega)
  have hR := ZR_put h.1 (Int.le_refl _) e' (by omega) (fun q => by omega) (fun q => by omega) (fun _ => hx2) (fun q => by omega)
  subst e'
  refine ⟨hR, fun i hi => ?_⟩
  rw [yus] at hi
  rw [yup (by omega)]
  exact h.2.2.1.2 i (by rw [hv]; omega)
/-- the first POSTED write goes -/
theorem ZI_192 {n : Int} {fi la : Nat → Int32} {s : Int32} {z g : Nat → Int32} {x v : Int32} (h : ZI n fi la s z) (e : g = upd z (192 : Int32).toNatClampNeg x) (hv : z 192 = v) (hx : x = v - 1) (hp : yr 1 4 v) : ZL n fi la s g := by
  have e' := zlit (p := 192) e (by decide)
  have p1 := hp.1
  have p2 := hp.2
  have ex : x.toInt = v.toInt - 1 := by
    rw [hx, Int32.toInt_sub, show (1 : Int32).toInt = 1 from by decide]
    exact ybm (by omega) (by omega)
  obtain ⟨hR0, c1, c2, c3⟩ := h
  have hR := ZR_put hR0 (Int.le_refl _) e' (by omega) (fun q => by omega) (fun q => by omega) (fun _ => ⟨by omega, by omega⟩) (fun q => by omega)
  subst e'
  refine ⟨hR, fun w => ?_, ⟨?_, fun i hi => ?_⟩, fun w => ?_⟩
  · rw [yus]; omega
  · rw [yus]; omega
  · rw [yus] at hi
    rw [yup (by omega)]
    exact c2 i (by rw [hv]; omega)
  · rw [yup (by decide)]; rw [yup (by decide)] at w; exact c3 w
theorem ZL_shift {n : Int} {fi la : Nat → Int32} {s : Int32} {z g : Nat → Int32} {i j k x : Int32} (h : ZL n fi la s z) (e : g = upd z i.toNatClampNeg x) (ei : i.toInt = 193 + k.toInt) (ej : j.toInt = 194 + k.toInt) (hx : x = z j.toNatClampNeg) (hk : 0 ≤ k.toInt) (hlt : k.toInt < (z 192).toInt) : ZL n fi la s g := by
  obtain ⟨hR, c1, ⟨l1, l2⟩, c3⟩ := h
  have e2 : (i.toNatClampNeg : Int) = i.toInt := by
    show ((i.toInt.toNat : Nat) : Int) = i.toInt
    omega
  have e3 : (j.toNatClampNeg : Int) = j.toInt := by
    show ((j.toInt.toNat : Nat) : Int) = j.toInt
    omega
  have d : yDec fi la s x := by
    have := l2 (k.toInt.toNat + 1) (by omega)
    rw [show 193 + (k.toInt.toNat + 1) = j.toNatClampNeg by omega, ← hx] at this
    exact this
  have hR2 := ZR_put hR (Int.le_refl _) e (by omega) (fun q => by omega) (fun q => by omega) (fun q => by omega) (fun q => by omega)
  subst e
  refine ⟨hR2, fun w => ?_, ⟨?_, fun q hq => ?_⟩, fun w => ?_⟩
  · rw [yup (by omega)]; exact l1
  · rw [yup (by omega)]; exact l1
  · rw [yup (by omega)] at hq
    by_cases q2 : 193 + q = i.toNatClampNeg
    · rw [q2, yus]; exact d
    · rw [yup q2]; exact l2 q hq
  · rw [yup (by omega)]; rw [yup (by omega)] at w; exact c3 w
theorem ZR_zero {n : Int} {z : Nat → Int32} (h : ∀ j : Nat, j < 2490 → z j = 0) (hn : 0 ≤ n) : ZR n z := by
  have e0 : (0 : Int32).toInt = 0 := by decide
  have y : ∀ (a b : Int) (j : Nat), j < 2490 → a ≤ 0 → 0 ≤ b → yr a b (z j) := fun a b j hj ha hb => by
    rw [h j hj]; exact ⟨by rw [e0]; exact ha, by rw [e0]; exact hb⟩
  exact ⟨⟨y _ _ _ (by decide) (by decide) (by decide), y _ _ _ (by decide) (by decide) (by decide), y _ _ _ (by decide) (by decide) (by decide), y _ _ _ (by decide) (by decide) (by decide), y _ _ _ (by decide) (by decide) hn, y _ _ _ (by decide) (by decide) hn, y _ _ _ (by decide) (by decide) (by decide), y _ _ _ (by decide) (by decide) hn⟩, fun i hi => y _ _ _ (by omega) (by decide) (by decide)⟩
theorem ZI_zero {n : Int} {fi la : Nat → Int32} {s : Int32} {z : Nat → Int32} (h : ∀ j : Nat, j < 2490 → z j = 0) (hn : 0 ≤ n) : ZI n fi la s z := by
  have e0 : (0 : Int32).toInt = 0 := by decide
  have h4 := h 184 (by decide)
  have h2 := h 192 (by decide)
  refine ⟨ZR_zero h hn, fun w => ?_, fun i hi => ?_, fun w => ?_⟩
  · rw [h2, e0]; decide
  · rw [h2, e0] at hi; omega
  · rw [h4] at w; rcases w with w | w | w <;> exact absurd w (by decide)
theorem ZI_congr {n : Int} {fi la : Nat → Int32} {s : Int32} {z g : Nat → Int32} (h : ZI n fi la s z) (e : ∀ j : Nat, j < 2490 → g j = z j) : ZI n fi la s g := by
  refine ZI_same h ⟨⟨e _ (by decide), e _ (by decide), e _ (by decide), e _ (by decide), e _ (by decide), e _ (by decide), e _ (by decide)⟩, fun i hi => e _ (by omega), e _ (by decide), e _ (by decide), e _ (by decide), e _ (by decide), e _ (by decide)⟩ ⟨e _ (by decide), e _ (by decide)⟩
/-- a SLAVE more -/
theorem yDec_more {fi la f' l' : Nat → Int32} {s s' x a b : Int32} (h : yDec fi la s x) (hs : yr 0 7 s) (ef : f' = upd fi s.toNatClampNeg a) (el : l' = upd la s.toNatClampNeg b) (es : s' = s + 1) : yDec f' l' s' x := by
  obtain ⟨k, h1, h2, h3⟩ := h
  obtain ⟨q1, q2, q3⟩ := ynat hs (by decide)
  have e2 : s'.toInt = s.toInt + 1 := by
    rw [es, Int32.toInt_add, show (1 : Int32).toInt = 1 from by decide]
    have := hs.1; have := hs.2
    exact ybm (by omega) (by omega)
  subst ef
  subst el
  exact ⟨k, by omega, by rw [yup (by omega)]; exact h2, by rw [yup (by omega)]; exact h3⟩
theorem ZI_more {n : Int} {fi la f' l' : Nat → Int32} {s s' a b : Int32} {z : Nat → Int32} (h : ZI n fi la s z) (hs : yr 0 7 s) (ef : f' = upd fi s.toNatClampNeg a) (el : l' = upd la s.toNatClampNeg b) (es : s' = s + 1) : ZI n f' l' s' z :=
  ⟨h.1, h.2.1, fun i hi => yDec_more (h.2.2.1 i hi) hs ef el es, fun w => yDec_more (h.2.2.2 w) hs ef el es⟩
/-- what is kept: three rows like z -/
def KI (n : Int) (fi la : Nat → Int32) (s : Int32) (kp : Nat → Int32) : Prop := ∀ k : Nat, k < 3 → ZI n fi la s (fun i => kp (2490 * k + i))
theorem KI_mono {n m : Int} {fi la : Nat → Int32} {s : Int32} {kp : Nat → Int32} (h : KI n fi la s kp) (hm : n ≤ m) : KI m fi la s kp := fun k hk => ZI_mono (h k hk) hm
theorem KI_more {n : Int} {fi la f' l' : Nat → Int32} {s s' a b : Int32} {kp : Nat → Int32} (h : KI n fi la s kp) (hs : yr 0 7 s) (ef : f' = upd fi s.toNatClampNeg a) (el : l' = upd la s.toNatClampNeg b) (es : s' = s + 1) : KI n f' l' s' kp := fun k hk => ZI_more (h k hk) hs ef el es
/-- while keep goes: place k's row is z's so far, the others are as they were -/
def KW_ (z kp0 kp : Nat → Int32) (k i : Int32) : Prop := (∀ j : Nat, (j : Int) < i.toInt → kp (2490 * k.toNatClampNeg + j) = z j) ∧ ∀ q : Nat, (q < 2490 * k.toNatClampNeg ∨ 2490 * k.toNatClampNeg + 2490 ≤ q) → kp q = kp0 q
theorem KW_0 {z kp : Nat → Int32} {k : Int32} : KW_ z kp kp k 0 := ⟨fun j hj => absurd hj (by rw [show (0 : Int32).toInt = 0 from by decide]; omega), fun _ _ => rfl⟩
theorem KW_s {z kp0 kp g : Nat → Int32} {k i t x i' : Int32} (h : KW_ z kp0 kp k i) (hk : yr 0 2 k) (hi : yr 0 2489 i) (e : g = upd kp t.toNatClampNeg x) (et : t.toInt = 2490 * k.toInt + i.toInt) (ex : x = z i.toNatClampNeg) (ei : i' = i + 1) : KW_ z kp0 g k i' := by
  obtain ⟨k1, k2, k3⟩ := ynat hk (by decide)
  obtain ⟨i1, i2, i3⟩ := ynat hi (by decide)
  have e2 : (t.toNatClampNeg : Int) = t.toInt := by
    show ((t.toInt.toNat : Nat) : Int) = t.toInt
    omega
  have e3 : i'.toInt = i.toInt + 1 := by
    rw [ei, Int32.toInt_add, show (1 : Int32).toInt = 1 from by decide]
    exact ybm (by omega) (by omega)
  subst e
  refine ⟨fun j hj => ?_, fun q hq => ?_⟩
  · by_cases hj2 : 2490 * k.toNatClampNeg + j = t.toNatClampNeg
    · rw [hj2, yus, ex]
      congr 1
      omega
    · rw [yup hj2]; exact h.1 j (by omega)
  · rw [yup (by omega)]; exact h.2 q hq
theorem KI_kept {n : Int} {fi la : Nat → Int32} {s : Int32} {z kp0 kp : Nat → Int32} {k i : Int32} (h : KI n fi la s kp0) (hz : ZI n fi la s z) (hk : yr 0 2 k) (hw : KW_ z kp0 kp k i) (hi : 2490 ≤ i.toInt) : KI n fi la s kp := by
  obtain ⟨k1, k2, k3⟩ := ynat hk (by decide)
  intro q hq
  by_cases e : q = k.toNatClampNeg
  · subst e
    exact ZI_congr hz (fun j hj => hw.1 j (by omega))
  · exact ZI_congr (h q hq) (fun j hj => hw.2 _ (by omega))
/-- while back goes -/
def BW_ (z kp : Nat → Int32) (k i : Int32) : Prop := ∀ j : Nat, (j : Int) < i.toInt → z j = kp (2490 * k.toNatClampNeg + j)
theorem BW_0 {z kp : Nat → Int32} {k : Int32} : BW_ z kp k 0 := fun j hj => absurd hj (by rw [show (0 : Int32).toInt = 0 from by decide]; omega)
theorem BW_s {z kp g : Nat → Int32} {k i t x i' : Int32} (h : BW_ z kp k i) (hk : yr 0 2 k) (hi : yr 0 2489 i) (e : g = upd z i.toNatClampNeg x) (et : t.toInt = 2490 * k.toInt + i.toInt) (ex : x = kp t.toNatClampNeg) (ei : i' = i + 1) : BW_ g kp k i' := by
  obtain ⟨k1, k2, k3⟩ := ynat hk (by decide)
  obtain ⟨i1, i2, i3⟩ := ynat hi (by decide)
  have e2 : (t.toNatClampNeg : Int) = t.toInt := by
    show ((t.toInt.toNat : Nat) : Int) = t.toInt
    omega
  have e3 : i'.toInt = i.toInt + 1 := by
    rw [ei, Int32.toInt_add, show (1 : Int32).toInt = 1 from by decide]
    exact ybm (by omega) (by omega)
  subst e
  intro j hj
  by_cases hj2 : j = i.toNatClampNeg
  · rw [hj2, yus, ex]
    congr 1
    omega
  · rw [yup hj2]; exact h j (by omega)
theorem ZI_back {n : Int} {fi la : Nat → Int32} {s : Int32} {z kp : Nat → Int32} {k i : Int32} (h : KI n fi la s kp) (hk : yr 0 2 k) (hw : BW_ z kp k i) (hi : 2490 ≤ i.toInt) : ZI n fi la s z := by
  obtain ⟨k1, k2, k3⟩ := ynat hk (by decide)
  exact ZI_congr (h k.toNatClampNeg (by omega)) (fun j hj => hw j (by omega))
/-- sums and products without wrapping -/
theorem ti_add {a b c d : Int} {x y v : Int32} (hx : yr a b x) (hy : yr c d y) (e : v = x + y) (h1 : -2147483648 ≤ a + c) (h2 : b + d ≤ 2147483647) : v.toInt = x.toInt + y.toInt := by
  rw [e, Int32.toInt_add]
  exact ybm (by have := hx.1; have := hy.1; omega) (by have := hx.2; have := hy.2; omega)
theorem ti_mul {a b c d : Int} {x y v : Int32} (hx : yr a b x) (hy : yr c d y) (e : v = x * y) (p1 : 0 ≤ a) (p2 : 0 ≤ c) (h2 : b * d ≤ 2147483647) : v.toInt = x.toInt * y.toInt := by
  rw [e, Int32.toInt_mul]
  have m2 : x.toInt * y.toInt ≤ b * d := Int.mul_le_mul hx.2 hy.2 (Int.le_trans p2 hy.1) (Int.le_trans (Int.le_trans p1 hx.1) hx.2)
  have m0 : 0 ≤ x.toInt * y.toInt := Int.mul_nonneg (Int.le_trans p1 hx.1) (Int.le_trans p2 hy.1)
  exact ybm (by omega) (by omega)
theorem yr_of {a b : Int} {x : Int32} {t : Int} (e : x.toInt = t) (h1 : a ≤ t) (h2 : t ≤ b) : yr a b x := ⟨by omega, by omega⟩
/-- while begin goes -/
theorem Zb_0 {z : Nat → Int32} : ∀ j : Nat, (j : Int) < (0 : Int32).toInt → z j = 0 := fun j hj => absurd hj (by rw [show (0 : Int32).toInt = 0 from by decide]; omega)
theorem Zb_s {z g : Nat → Int32} {i i' : Int32} (h : ∀ j : Nat, (j : Int) < i.toInt → z j = 0) (hi : yr 0 2489 i) (e : g = upd z i.toNatClampNeg 0) (ei : i' = i + 1) : ∀ j : Nat, (j : Int) < i'.toInt → g j = 0 := by
  obtain ⟨i1, i2, i3⟩ := ynat hi (by decide)
  have e3 : i'.toInt = i.toInt + 1 := by
    rw [ei, Int32.toInt_add, show (1 : Int32).toInt = 1 from by decide]
    exact ybm (by omega) (by omega)
  subst e
  intro j hj
  by_cases hj2 : j = i.toNatClampNeg
  · rw [hj2, yus]
  · rw [yup hj2]; exact h j (by omega)
/-- slaveOf's way -/
def ySo (fi la : Nat → Int32) (a i : Int32) : Prop := ∀ k : Nat, (k : Int) < i.toInt → ¬ (fi k ≤ a ∧ a ≤ la k + 3)
theorem ySo_0 {fi la : Nat → Int32} {a : Int32} : ySo fi la a 0 := fun j hj => absurd hj (by rw [show (0 : Int32).toInt = 0 from by decide]; omega)
theorem ySo_s {fi la : Nat → Int32} {a i i' : Int32} (h : ySo fi la a i) (hi : yr 0 7 i) (hn : ¬ (fi i.toNatClampNeg ≤ a ∧ a ≤ la i.toNatClampNeg + 3)) (ei : i' = i + 1) : ySo fi la a i' := by
  obtain ⟨i1, i2, i3⟩ := ynat hi (by decide)
  have e3 : i'.toInt = i.toInt + 1 := by
    rw [ei, Int32.toInt_add, show (1 : Int32).toInt = 1 from by decide]
    exact ybm (by omega) (by omega)
  intro j hj
  by_cases hj2 : j = i.toNatClampNeg
  · rw [hj2]; exact hn
  · exact h j (by omega)
theorem ySo_in {fi la : Nat → Int32} {a i s : Int32} (hi : yr 0 7 i) (hlt : i < s) (h : fi i.toNatClampNeg ≤ a ∧ a ≤ la i.toNatClampNeg + 3) : 0 ≤ i.toInt ↔ yDec fi la s a := by
  obtain ⟨i1, i2, i3⟩ := ynat hi (by decide)
  have := Int32.lt_iff_toInt_lt.mp hlt
  exact ⟨fun _ => ⟨_, by omega, h.1, h.2⟩, fun _ => hi.1⟩
theorem ySo_out {fi la : Nat → Int32} {a i s : Int32} (hs : s ≤ i) (h : ySo fi la a i) : 0 ≤ (-6 : Int32).toInt ↔ yDec fi la s a := by
  have := Int32.le_iff_toInt_le.mp hs
  refine ⟨fun q => absurd q (by decide), fun q => ?_⟩
  obtain ⟨k, h1, h2, h3⟩ := q
  exact absurd ⟨h2, h3⟩ (h k (by omega))
theorem ySo_r {fi la : Nat → Int32} {a r s : Int32} (h : 0 ≤ r.toInt ↔ yDec fi la s a) (hd : yDec fi la s a) (hr : yr (-6) 7 r) : yr 0 7 r := ⟨h.mpr hd, hr.2⟩
theorem ySo_d {fi la : Nat → Int32} {a r s : Int32} (h : 0 ≤ r.toInt ↔ yDec fi la s a) (hr : ¬ r < 0) : yDec fi la s a := by
  refine h.mp ?_
  have := Int32.le_iff_toInt_le.mp (Int32.not_lt.mp hr)
  rw [show (0 : Int32).toInt = 0 from by decide] at this
  exact this
