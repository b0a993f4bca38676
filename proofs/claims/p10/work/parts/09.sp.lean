theorem ywire {w : Int32} (h : ¬ zB (0 ≤ w ∧ w < 15) = 0) : vp_in w 15 := by
  have h2 : 0 ≤ w ∧ w < 15 := Decidable.not_not.mp (fun q => h (zB0.mpr q))
  exact vp_in_iff.mpr ⟨by simpa using Int32.le_iff_toInt_le.mp h2.1, by simpa using Int32.lt_iff_toInt_lt.mp h2.2⟩
theorem yplace {w : Int32} (h : ¬ zB (0 ≤ w ∧ w < 3) = 0) : vp_in w 3 := by
  have h2 : 0 ≤ w ∧ w < 3 := Decidable.not_not.mp (fun q => h (zB0.mpr q))
  exact vp_in_iff.mpr ⟨by simpa using Int32.le_iff_toInt_le.mp h2.1, by simpa using Int32.lt_iff_toInt_lt.mp h2.2⟩
theorem yrule {w : Int32} (h : ¬ w < 0) (h2 : w ≤ 15) : vp_in w 16 := by
  have a1 := Int32.le_iff_toInt_le.mp (Int32.not_lt.mp h)
  have a2 := Int32.le_iff_toInt_le.mp h2
  refine vp_in_iff.mpr ⟨by simpa using a1, ?_⟩
  have : (15 : Int32).toInt = 15 := by decide
  rw [this] at a2
  omega
theorem ysw5 (x : Int32) : x = 0 ∨ x = 1 ∨ x = 2 ∨ x = 3 ∨ x = 4 ∨ x = 5 ∨ ((x.toInt < 0 ∨ 5 < x.toInt) ∧ ¬ (¬ x < 0 ∧ ¬ 5 < x)) := by
  rcases pk_ix x (n := 6) (by decide) with h | h | ⟨j, hj, rfl⟩
  · refine Or.inr (Or.inr (Or.inr (Or.inr (Or.inr (Or.inr ⟨Or.inl (by simpa using Int32.lt_iff_toInt_lt.mp h), fun q => q.1 h⟩)))))
  · have h2 : (5 : Int32) < x := Int32.lt_of_lt_of_le (by decide) h
    refine Or.inr (Or.inr (Or.inr (Or.inr (Or.inr (Or.inr ⟨Or.inr (by simpa using Int32.lt_iff_toInt_lt.mp h2), fun q => q.2 h2⟩)))))
  · match j, hj with
    | 0, _ => exact Or.inl rfl
    | 1, _ => exact Or.inr (Or.inl rfl)
    | 2, _ => exact Or.inr (Or.inr (Or.inl rfl))
    | 3, _ => exact Or.inr (Or.inr (Or.inr (Or.inl rfl)))
    | 4, _ => exact Or.inr (Or.inr (Or.inr (Or.inr (Or.inl rfl))))
    | 5, _ => exact Or.inr (Or.inr (Or.inr (Or.inr (Or.inr (Or.inl rfl)))))
theorem ysw7 (x : Int32) : x = 0 ∨ x = 1 ∨ x = 2 ∨ x = 3 ∨ x = 4 ∨ x = 5 ∨ x = 6 ∨ x = 7 ∨ ((x.toInt < 0 ∨ 7 < x.toInt) ∧ ¬ (¬ x < 0 ∧ ¬ 7 < x)) := by
  rcases pk_ix x (n := 8) (by decide) with h | h | ⟨j, hj, rfl⟩
  · refine Or.inr (Or.inr (Or.inr (Or.inr (Or.inr (Or.inr (Or.inr (Or.inr ⟨Or.inl (by simpa using Int32.lt_iff_toInt_lt.mp h), fun q => q.1 h⟩)))))))
  · have h2 : (7 : Int32) < x := Int32.lt_of_lt_of_le (by decide) h
    refine Or.inr (Or.inr (Or.inr (Or.inr (Or.inr (Or.inr (Or.inr (Or.inr ⟨Or.inr (by simpa using Int32.lt_iff_toInt_lt.mp h2), fun q => q.2 h2⟩)))))))
  · match j, hj with
    | 0, _ => exact Or.inl rfl
    | 1, _ => exact Or.inr (Or.inl rfl)
    | 2, _ => exact Or.inr (Or.inr (Or.inl rfl))
    | 3, _ => exact Or.inr (Or.inr (Or.inr (Or.inl rfl)))
    | 4, _ => exact Or.inr (Or.inr (Or.inr (Or.inr (Or.inl rfl))))
    | 5, _ => exact Or.inr (Or.inr (Or.inr (Or.inr (Or.inr (Or.inl rfl)))))
    | 6, _ => exact Or.inr (Or.inr (Or.inr (Or.inr (Or.inr (Or.inr (Or.inl rfl))))))
    | 7, _ => exact Or.inr (Or.inr (Or.inr (Or.inr (Or.inr (Or.inr (Or.inr (Or.inl rfl)))))))
/-! what a call answers on a fresh object -/
abbrev sp_slave (a b c : Int32) : Int32 := if isW a ∧ isW b ∧ ¬ b < a ∧ ¬ c < 0 ∧ ¬ 15 < c then 0 else -2
abbrev sp_register (w k v : Int32) : Int32 := if isW w ∧ ¬ k < 0 ∧ ¬ 7 < k ∧ ¬ (k = 7 ∧ ¬ (v = 0 ∨ v = 1)) then -5 else -2
abbrev sp_depth (n : Int32) : Int32 := if ¬ n < 0 ∧ ¬ 4 < n then 0 else -2
abbrev sp_limit (n : Int32) : Int32 := if ¬ n < 4 ∧ ¬ 60 < n then 32 else -2
abbrev sp_transfer (a k g : Int32) : Int32 := if ¬ a < 0 ∧ ¬ 65535 < a ∧ (k = 2 ∨ k = 3) ∧ ¬ g < 0 ∧ ¬ 7 < g then 0 else -2
abbrev sp_clock (n : Int32) : Int32 := if ¬ n < 0 ∧ ¬ 500 < n then n else -2
abbrev sp_finish (n : Int32) : Int32 := if ¬ n < 0 ∧ ¬ 2000 < n then 0 else -2
abbrev sp_turn (w c : Int32) : Int32 := if 0 ≤ w ∧ w < 15 then (if ¬ c < 1 ∧ ¬ 100 < c then 1 else -2) else -1
abbrev sp_wire (i : Int32) : Int32 := if 0 ≤ i ∧ i < 15 then yR i.toNatClampNeg else 0
abbrev sp_findings (r : Int32) : Int32 := if ¬ r < 0 ∧ ¬ 15 < r then 0 else -2
abbrev sp_bridge (w : Int32) : Int32 := if ¬ w < 0 ∧ ¬ 5 < w then 0 else -2
abbrev sp_keep (k : Int32) : Int32 := if 0 ≤ k ∧ k < 3 then 1 else -1
abbrev sp_told (w : Int32) : Int32 := if ¬ w < 0 ∧ ¬ 7 < w then 0 else -2
