/-! ranges of ints, and rows that forget what was written -/
abbrev yU : Type := (Nat → Int32) × (Nat → Nat → Int32)
def yr (a b : Int) (x : Int32) : Prop := a ≤ x.toInt ∧ x.toInt ≤ b
theorem yrc {a b : Int} {x : Int32} (h1 : a ≤ x.toInt) (h2 : x.toInt ≤ b) : yr a b x := ⟨h1, h2⟩
theorem yr_all (x : Int32) : yr (-2147483648) 2147483647 x := ⟨Int32.le_toInt x, by have := Int32.toInt_lt x; omega⟩
theorem yr_w {a b a' b' : Int} {x : Int32} (h : yr a b x) (h1 : a' ≤ a) (h2 : b ≤ b') : yr a' b' x := ⟨Int.le_trans h1 h.1, Int.le_trans h.2 h2⟩
theorem ybm {z : Int} (h1 : -2147483648 ≤ z) (h2 : z ≤ 2147483647) : z.bmod (2 ^ 32) = z := Int.bmod_eq_of_le (by omega) (by omega)
theorem yr_add {a b c d lo hi : Int} {x y : Int32} (hx : yr a b x) (hy : yr c d y) (e1 : lo ≤ a + c) (e2 : b + d ≤ hi) (e3 : -2147483648 ≤ a + c) (e4 : b + d ≤ 2147483647) : yr lo hi (x + y) := by
  have e : (x + y).toInt = x.toInt + y.toInt := by
    rw [Int32.toInt_add]
    exact ybm (by have := hx.1; have := hy.1; omega) (by have := hx.2; have := hy.2; omega)
  have := hx.1; have := hy.1; have := hx.2; have := hy.2
  exact ⟨by rw [e]; omega, by rw [e]; omega⟩
theorem yr_sub {a b c d lo hi : Int} {x y : Int32} (hx : yr a b x) (hy : yr c d y) (e1 : lo ≤ a - d) (e2 : b - c ≤ hi) (e3 : -2147483648 ≤ a - d) (e4 : b - c ≤ 2147483647) : yr lo hi (x - y) := by
  have e : (x - y).toInt = x.toInt - y.toInt := by
    rw [Int32.toInt_sub]
    exact ybm (by have := hx.1; have := hy.2; omega) (by have := hx.2; have := hy.1; omega)
  have := hx.1; have := hy.1; have := hx.2; have := hy.2
  exact ⟨by rw [e]; omega, by rw [e]; omega⟩
theorem yr_mul {a b c d lo hi : Int} {x y : Int32} (hx : yr a b x) (hy : yr c d y) (p1 : 0 ≤ a) (p2 : 0 ≤ c) (e1 : lo ≤ a * c) (e2 : b * d ≤ hi) (e3 : b * d ≤ 2147483647) : yr lo hi (x * y) := by
  have m1 : a * c ≤ x.toInt * y.toInt := Int.mul_le_mul hx.1 hy.1 p2 (Int.le_trans p1 hx.1)
  have m2 : x.toInt * y.toInt ≤ b * d := Int.mul_le_mul hx.2 hy.2 (Int.le_trans p2 hy.1) (Int.le_trans (Int.le_trans p1 hx.1) hx.2)
  have m0 : 0 ≤ a * c := Int.mul_nonneg p1 p2
  have e : (x * y).toInt = x.toInt * y.toInt := by
    rw [Int32.toInt_mul]
    exact ybm (by omega) (by omega)
  exact ⟨by rw [e]; omega, by rw [e]; omega⟩
theorem yr_ltL {a b c d k : Int} {x y : Int32} (hx : yr a b x) (hy : yr c d y) (h : x < y) (e : d - 1 ≤ k) : yr a k x := ⟨hx.1, by have := Int32.lt_iff_toInt_lt.mp h; have := hy.2; omega⟩
theorem yr_ltR {a b c d k : Int} {x y : Int32} (hx : yr a b x) (hy : yr c d y) (h : x < y) (e : k ≤ a + 1) : yr k d y := ⟨by have := Int32.lt_iff_toInt_lt.mp h; have := hx.1; omega, hy.2⟩
theorem yr_leL {a b c d k : Int} {x y : Int32} (hx : yr a b x) (hy : yr c d y) (h : x ≤ y) (e : d - 0 ≤ k) : yr a k x := ⟨hx.1, by have := Int32.le_iff_toInt_le.mp h; have := hy.2; omega⟩
theorem yr_leR {a b c d k : Int} {x y : Int32} (hx : yr a b x) (hy : yr c d y) (h : x ≤ y) (e : k ≤ a + 0) : yr k d y := ⟨by have := Int32.le_iff_toInt_le.mp h; have := hx.1; omega, hy.2⟩
theorem yr_eq {a b c d lo hi : Int} {x y : Int32} (hx : yr a b x) (hy : yr c d y) (h : x = y) (e1 : lo = max a c) (e2 : hi = min b d) : yr lo hi x := by
  subst h
  have := hx.1; have := hy.1; have := hx.2; have := hy.2
  exact ⟨by omega, by omega⟩
theorem yr_neL {a b k : Int} {x y : Int32} (hx : yr a b x) (h : ¬ x = y) (e : y.toInt = a) (e2 : k ≤ a + 1) : yr k b x := by
  have hne : x.toInt ≠ y.toInt := fun q => h (Int32.toInt_inj.mp q)
  have := hx.1
  exact ⟨by omega, hx.2⟩
theorem yr_neH {a b k : Int} {x y : Int32} (hx : yr a b x) (h : ¬ x = y) (e : y.toInt = b) (e2 : b - 1 ≤ k) : yr a k x := by
  have hne : x.toInt ≠ y.toInt := fun q => h (Int32.toInt_inj.mp q)
  have := hx.2
  exact ⟨hx.1, by omega⟩
theorem yr_in {a b : Int} {x : Int32} {n : Nat} (h : yr a b x) (h1 : 0 ≤ a) (h2 : b < n) : vp_in x n := vp_in_iff.mpr ⟨Int.le_trans h1 h.1, Int.lt_of_le_of_lt h.2 h2⟩
theorem yr_nn {a b : Int} {x : Int32} (h : yr a b x) (h1 : 0 ≤ a) : ¬ x < 0 := fun q => by
  have q1 := Int32.lt_iff_toInt_lt.mp q
  have q2 := h.1
  have : (0 : Int32).toInt = 0 := by decide
  omega
theorem yr_cl {a b : Int} {x : Int32} {n : Nat} (h : yr a b x) (h2 : b ≤ n) : x.toNatClampNeg ≤ n := by
  show x.toInt.toNat ≤ n
  have := h.2
  omega
theorem yr_01 {x : Int32} (h : yr 0 1 x) : x = 0 ∨ x = 1 := by
  have e1 : (0 : Int32).toInt = 0 := by decide
  have e2 : (1 : Int32).toInt = 1 := by decide
  rcases (show x.toInt = 0 ∨ x.toInt = 1 by have := h.1; have := h.2; omega) with q | q
  · exact Or.inl (Int32.toInt_inj.mp (by rw [q, e1]))
  · exact Or.inr (Int32.toInt_inj.mp (by rw [q, e2]))
theorem yr_nz {x : Int32} (h : yr 0 1 x) : narrow .boolean (.int x) = .int x := by rcases yr_01 h with rfl | rfl <;> rfl
theorem yr_fz {x : Int32} (h : yr 0 1 x) : fits .boolean (.int x) = true := by rcases yr_01 h with rfl | rfl <;> rfl
theorem yr_zB {b : Prop} [Decidable b] : yr 0 1 (zB b) := by
  unfold zB
  by_cases h : b
  · rw [if_pos h]; exact ⟨by decide, by decide⟩
  · rw [if_neg h]; exact ⟨by decide, by decide⟩
theorem yzP {b : Prop} [Decidable b] (h : ¬ zB b = 0) : b := Decidable.not_not.mp (fun q => h (zB0.mpr q))
theorem yms {HI : Int} {n : Nat} {x y : Int32} (hm : (HI - x.toInt).toNat < n + 1) (hx : yr (-2147483648) (HI - 1) x) (e : y = x + 1) (hH : HI ≤ 2147483647 := by decide) : (HI - y.toInt).toNat < n := by
  have e2 : (x + 1).toInt = x.toInt + 1 := by
    rw [Int32.toInt_add, show (1 : Int32).toInt = 1 from by decide]
    exact ybm (by have := hx.1; omega) (by have := hx.2; omega)
  rw [e, e2]
  have := hx.2
  omega
section YG
variable {p : Program} {l : Launch} {e : Env} {R : Room} {s : State} {m : MethodId} {args : Array Value} {below : List Frame} {meth : Method} {c : Code} {H : Heap} {locs : List Loc} {cells slots : Nat} {Q : State → Prop}
variable {cc : ByteArray} {pc : Nat} {ls : Array Slot} {rest : List Value} {D : va_G} {cl : List vw_C} {A : Nat → Prop} {a : Nat} {tys : List (ClassId × FieldType)} {ws : va_W} {H0 : Heap}
theorem yg_iast (hexec : p.tables.exec = Jvm.exec) (hb : c.code = cc) (hK : va_K D cl tys s) (hP : va_P D cl ws H) (hD : va_D A ws) (hS : va_S A H0 H locs) (q0 t0 : Nat) {cA : ClassId} {n : Nat} {f : Nat → Int32} (ha : ws[q0]? = some (a, .inl (cA, n, .inl f))) (ht : tys[t0]? = some (cA, .int)) {i : Int32} {x : Int32} (hin : vp_in i n) (hdg : decode cc pc = .ok (.iastore, 1))
    (kk : ∀ (f' : Nat → Int32), f' = upd f i.toNatClampNeg x → ∀ (H1 : Heap) (locs1 : List Loc), va_P D cl (ws.set q0 (a, .inl (cA, n, .inl f'))) H1 → va_D A (ws.set q0 (a, .inl (cA, n, .inl f'))) → va_S A H0 H1 locs1 → W p l e R s m args below meth c H1 locs1 cells slots Q (F0 m (pc + 1) ls rest)) : W p l e R s m args below meth c H locs cells slots Q (F0 m pc ls (.int x :: .int i :: .ref a :: rest)) :=
  va_iast hexec hb hK hP hD hS q0 t0 ha ht hin hdg (kk _ rfl)
theorem yg_zast (hexec : p.tables.exec = Jvm.exec) (hb : c.code = cc) (hK : va_K D cl tys s) (hP : va_P D cl ws H) (hD : va_D A ws) (hS : va_S A H0 H locs) (q0 t0 : Nat) {cA : ClassId} {n : Nat} {f : Nat → Int32} (ha : ws[q0]? = some (a, .inl (cA, n, .inl f))) (ht : tys[t0]? = some (cA, .boolean)) {i : Int32} {x : Int32} (hin : vp_in i n) (hdg : decode cc pc = .ok (.bastore, 1))
    (kk : ∀ (f' : Nat → Int32), f' = upd f i.toNatClampNeg (vp_nar .boolean x) → ∀ (H1 : Heap) (locs1 : List Loc), va_P D cl (ws.set q0 (a, .inl (cA, n, .inl f'))) H1 → va_D A (ws.set q0 (a, .inl (cA, n, .inl f'))) → va_S A H0 H1 locs1 → W p l e R s m args below meth c H1 locs1 cells slots Q (F0 m (pc + 1) ls rest)) : W p l e R s m args below meth c H locs cells slots Q (F0 m pc ls (.int x :: .int i :: .ref a :: rest)) :=
  va_zast hexec hb hK hP hD hS q0 t0 ha ht hin hdg (kk _ rfl)
theorem yg_copy (hexec : p.tables.exec = Jvm.exec) (hb : c.code = cc) (hml : c.maxLocals = ls.size) {own : String} {index : Nat} (hown : s.vm.findClass own = some m.cls) (hlink : (Cond.methodLink own index arraycopyName).before args s = true) (hnat : (Cond.native arraycopyName).before args s = true) (hstat : (Cond.static arraycopyName).before args s = true) (hini : (Cond.initialized "java/lang/System").before args s = true)
    (hK : va_K D cl tys s) (hP : va_P D cl ws H) (hD : va_D A ws) (hS : va_S A H0 H locs) (q0 q1 t0 : Nat) {a0 : Nat} {cA : ClassId} {n0 n1 : Nat} {f g : Nat → Int32} (ha0 : ws[q0]? = some (a0, .inl (cA, n0, .inl f))) (ha1 : ws[q1]? = some (a, .inl (cA, n1, .inl g))) (ht0 : tys[t0]? = some (cA, .int))
    {n : Int32} (h3 : ¬ n < 0) (h4 : n.toNatClampNeg ≤ n0) (h5 : n.toNatClampNeg ≤ n1)
    (hframes : 1 ≤ R.frames) (hlocals : (rest.map fun v => v.category).sum + 18 ≤ R.locals) (hdg : decode cc pc = .ok (.invokestatic index, 3))
    (kk : ∀ (f' : Nat → Int32) (H1 : Heap) (locs1 : List Loc), va_P D cl (ws.set q1 (a, .inl (cA, n1, .inl f'))) H1 → va_D A (ws.set q1 (a, .inl (cA, n1, .inl f'))) → va_S A H0 H1 locs1 → W p l e R s m args below meth c H1 locs1 cells slots Q (F0 m (pc + 3) ls rest)) : W p l e R s m args below meth c H locs cells slots Q (F0 m pc ls (.int n :: .int 0 :: .ref a :: .int 0 :: .ref a0 :: rest)) :=
  yy_copy hexec hb hml hown hlink hnat hstat hini hK hP hD hS q0 q1 t0 ha0 ha1 ht0 h3 h4 h5 hframes hlocals hdg rfl (kk _)
end YG
theorem ysw1_7 (x : Int32) : x = 1 ∨ x = 2 ∨ x = 3 ∨ x = 4 ∨ x = 5 ∨ x = 6 ∨ x = 7 ∨ (x.toInt < 1 ∨ 7 < x.toInt) := by
  rcases (show x.toInt < 1 ∨ 7 < x.toInt ∨ x.toInt = 1 ∨ x.toInt = 2 ∨ x.toInt = 3 ∨ x.toInt = 4 ∨ x.toInt = 5 ∨ x.toInt = 6 ∨ x.toInt = 7 by omega) with h | h | h | h | h | h | h | h | h
  · exact Or.inr (Or.inr (Or.inr (Or.inr (Or.inr (Or.inr (Or.inr (Or.inl h)))))))
  · exact Or.inr (Or.inr (Or.inr (Or.inr (Or.inr (Or.inr (Or.inr (Or.inr h)))))))
  · exact Or.inl (Int32.toInt_inj.mp (by rw [h]; decide))
  · exact Or.inr (Or.inl (Int32.toInt_inj.mp (by rw [h]; decide)))
  · exact Or.inr (Or.inr (Or.inl (Int32.toInt_inj.mp (by rw [h]; decide))))
  · exact Or.inr (Or.inr (Or.inr (Or.inl (Int32.toInt_inj.mp (by rw [h]; decide)))))
  · exact Or.inr (Or.inr (Or.inr (Or.inr (Or.inl (Int32.toInt_inj.mp (by rw [h]; decide))))))
  · exact Or.inr (Or.inr (Or.inr (Or.inr (Or.inr (Or.inl (Int32.toInt_inj.mp (by rw [h]; decide)))))))
  · exact Or.inr (Or.inr (Or.inr (Or.inr (Or.inr (Or.inr (Or.inl (Int32.toInt_inj.mp (by rw [h]; decide))))))))
theorem ysw1_4 (x : Int32) : x = 1 ∨ x = 2 ∨ x = 3 ∨ x = 4 ∨ (x.toInt < 1 ∨ 4 < x.toInt) := by
  rcases (show x.toInt < 1 ∨ 4 < x.toInt ∨ x.toInt = 1 ∨ x.toInt = 2 ∨ x.toInt = 3 ∨ x.toInt = 4 by omega) with h | h | h | h | h | h
  · exact Or.inr (Or.inr (Or.inr (Or.inr (Or.inl h))))
  · exact Or.inr (Or.inr (Or.inr (Or.inr (Or.inr h))))
  · exact Or.inl (Int32.toInt_inj.mp (by rw [h]; decide))
  · exact Or.inr (Or.inl (Int32.toInt_inj.mp (by rw [h]; decide)))
  · exact Or.inr (Or.inr (Or.inl (Int32.toInt_inj.mp (by rw [h]; decide))))
  · exact Or.inr (Or.inr (Or.inr (Or.inl (Int32.toInt_inj.mp (by rw [h]; decide)))))
theorem ysw8_15 (x : Int32) : x = 8 ∨ x = 9 ∨ x = 10 ∨ x = 11 ∨ x = 12 ∨ x = 13 ∨ x = 14 ∨ x = 15 ∨ (x.toInt < 8 ∨ 15 < x.toInt) := by
  rcases (show x.toInt < 8 ∨ 15 < x.toInt ∨ x.toInt = 8 ∨ x.toInt = 9 ∨ x.toInt = 10 ∨ x.toInt = 11 ∨ x.toInt = 12 ∨ x.toInt = 13 ∨ x.toInt = 14 ∨ x.toInt = 15 by omega) with h | h | h | h | h | h | h | h | h | h
  · exact Or.inr (Or.inr (Or.inr (Or.inr (Or.inr (Or.inr (Or.inr (Or.inr (Or.inl h))))))))
  · exact Or.inr (Or.inr (Or.inr (Or.inr (Or.inr (Or.inr (Or.inr (Or.inr (Or.inr h))))))))
  · exact Or.inl (Int32.toInt_inj.mp (by rw [h]; decide))
  · exact Or.inr (Or.inl (Int32.toInt_inj.mp (by rw [h]; decide)))
  · exact Or.inr (Or.inr (Or.inl (Int32.toInt_inj.mp (by rw [h]; decide))))
  · exact Or.inr (Or.inr (Or.inr (Or.inl (Int32.toInt_inj.mp (by rw [h]; decide)))))
  · exact Or.inr (Or.inr (Or.inr (Or.inr (Or.inl (Int32.toInt_inj.mp (by rw [h]; decide))))))
  · exact Or.inr (Or.inr (Or.inr (Or.inr (Or.inr (Or.inl (Int32.toInt_inj.mp (by rw [h]; decide)))))))
  · exact Or.inr (Or.inr (Or.inr (Or.inr (Or.inr (Or.inr (Or.inl (Int32.toInt_inj.mp (by rw [h]; decide))))))))
  · exact Or.inr (Or.inr (Or.inr (Or.inr (Or.inr (Or.inr (Or.inr (Or.inl (Int32.toInt_inj.mp (by rw [h]; decide)))))))))
theorem ysw0_5 (x : Int32) : x = 0 ∨ x = 1 ∨ x = 2 ∨ x = 3 ∨ x = 4 ∨ x = 5 ∨ (x.toInt < 0 ∨ 5 < x.toInt) := by
  rcases (show x.toInt < 0 ∨ 5 < x.toInt ∨ x.toInt = 0 ∨ x.toInt = 1 ∨ x.toInt = 2 ∨ x.toInt = 3 ∨ x.toInt = 4 ∨ x.toInt = 5 by omega) with h | h | h | h | h | h | h | h
  · exact Or.inr (Or.inr (Or.inr (Or.inr (Or.inr (Or.inr (Or.inl h))))))
  · exact Or.inr (Or.inr (Or.inr (Or.inr (Or.inr (Or.inr (Or.inr h))))))
  · exact Or.inl (Int32.toInt_inj.mp (by rw [h]; decide))
  · exact Or.inr (Or.inl (Int32.toInt_inj.mp (by rw [h]; decide)))
  · exact Or.inr (Or.inr (Or.inl (Int32.toInt_inj.mp (by rw [h]; decide))))
  · exact Or.inr (Or.inr (Or.inr (Or.inl (Int32.toInt_inj.mp (by rw [h]; decide)))))
  · exact Or.inr (Or.inr (Or.inr (Or.inr (Or.inl (Int32.toInt_inj.mp (by rw [h]; decide))))))
  · exact Or.inr (Or.inr (Or.inr (Or.inr (Or.inr (Or.inl (Int32.toInt_inj.mp (by rw [h]; decide)))))))
theorem ysw0_7 (x : Int32) : x = 0 ∨ x = 1 ∨ x = 2 ∨ x = 3 ∨ x = 4 ∨ x = 5 ∨ x = 6 ∨ x = 7 ∨ (x.toInt < 0 ∨ 7 < x.toInt) := by
  rcases (show x.toInt < 0 ∨ 7 < x.toInt ∨ x.toInt = 0 ∨ x.toInt = 1 ∨ x.toInt = 2 ∨ x.toInt = 3 ∨ x.toInt = 4 ∨ x.toInt = 5 ∨ x.toInt = 6 ∨ x.toInt = 7 by omega) with h | h | h | h | h | h | h | h | h | h
  · exact Or.inr (Or.inr (Or.inr (Or.inr (Or.inr (Or.inr (Or.inr (Or.inr (Or.inl h))))))))
  · exact Or.inr (Or.inr (Or.inr (Or.inr (Or.inr (Or.inr (Or.inr (Or.inr (Or.inr h))))))))
  · exact Or.inl (Int32.toInt_inj.mp (by rw [h]; decide))
  · exact Or.inr (Or.inl (Int32.toInt_inj.mp (by rw [h]; decide)))
  · exact Or.inr (Or.inr (Or.inl (Int32.toInt_inj.mp (by rw [h]; decide))))
  · exact Or.inr (Or.inr (Or.inr (Or.inl (Int32.toInt_inj.mp (by rw [h]; decide)))))
  · exact Or.inr (Or.inr (Or.inr (Or.inr (Or.inl (Int32.toInt_inj.mp (by rw [h]; decide))))))
  · exact Or.inr (Or.inr (Or.inr (Or.inr (Or.inr (Or.inl (Int32.toInt_inj.mp (by rw [h]; decide)))))))
  · exact Or.inr (Or.inr (Or.inr (Or.inr (Or.inr (Or.inr (Or.inl (Int32.toInt_inj.mp (by rw [h]; decide))))))))
  · exact Or.inr (Or.inr (Or.inr (Or.inr (Or.inr (Or.inr (Or.inr (Or.inl (Int32.toInt_inj.mp (by rw [h]; decide)))))))))
theorem ysw2_4 (x : Int32) : x = 2 ∨ x = 3 ∨ x = 4 ∨ (x.toInt < 2 ∨ 4 < x.toInt) := by
  rcases (show x.toInt < 2 ∨ 4 < x.toInt ∨ x.toInt = 2 ∨ x.toInt = 3 ∨ x.toInt = 4 by omega) with h | h | h | h | h
  · exact Or.inr (Or.inr (Or.inr (Or.inl h)))
  · exact Or.inr (Or.inr (Or.inr (Or.inr h)))
  · exact Or.inl (Int32.toInt_inj.mp (by rw [h]; decide))
  · exact Or.inr (Or.inl (Int32.toInt_inj.mp (by rw [h]; decide)))
  · exact Or.inr (Or.inr (Or.inl (Int32.toInt_inj.mp (by rw [h]; decide))))
