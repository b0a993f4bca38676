theorem ykn {f : Nat → Int32} {i v : Int32} {p : Nat} (e : v = f i.toNatClampNeg) (h : i.toNatClampNeg = p) : f p = v := by rw [e, h]
theorem ykl {f : Nat → Int32} {i v : Int32} {p : Nat} (e : f p = v) (h : i.toNatClampNeg = p) : f i.toNatClampNeg = v := by rw [h]; exact e
theorem yks {f g : Nat → Int32} {i x : Int32} {p : Nat} (e : g = upd f i.toNatClampNeg x) (h : i.toNatClampNeg = p) : g p = x := by rw [e, h]; exact yus
theorem yDe {fi la : Nat → Int32} {s x y : Int32} (h : yDec fi la s y) (e : x = y) : yDec fi la s x := by rw [e]; exact h
