/-! worlds as lists: permutations -/
theorem va_P_of {D : va_G} {cl : List vw_C} {ws ws' : va_W} {H : Heap} (h : va_P D cl ws H) (hm : ∀ q ∈ ws', q ∈ ws) : va_P D cl ws' H := fun k q hk => by
  obtain ⟨i, hi⟩ := List.mem_iff_getElem?.mp (hm q (List.mem_of_getElem? hk))
  exact h i q hi
theorem va_D_iff {A : Nat → Prop} {ws : va_W} : va_D A ws ↔ (ws.map (fun q => q.1)).Nodup ∧ ∀ q ∈ ws, A q.1 := by
  constructor
  · intro h
    refine ⟨List.pairwise_iff_getElem.mpr (fun i j hi hj hij e => ?_), fun q hq => ?_⟩
    · have hi' := hi
      have hj' := hj
      rw [List.length_map] at hi' hj'
      rw [List.getElem_map, List.getElem_map] at e
      have := h.1 i j _ _ (List.getElem?_eq_getElem hi') (List.getElem?_eq_getElem hj') e
      omega
    · obtain ⟨k, hk⟩ := List.mem_iff_getElem?.mp hq
      exact h.2 k q hk
  · intro h
    refine ⟨fun i j p q hi hj e => ?_, fun k q hk => h.2 q (List.mem_of_getElem? hk)⟩
    obtain ⟨hi1, hi2⟩ := List.getElem?_eq_some_iff.mp hi
    obtain ⟨hj1, hj2⟩ := List.getElem?_eq_some_iff.mp hj
    have pw := List.pairwise_iff_getElem.mp h.1
    rcases Nat.lt_trichotomy i j with q1 | q1 | q1
    · exact absurd (by rw [List.getElem_map, List.getElem_map, hi2, hj2]; exact e) (pw i j (by rw [List.length_map]; exact hi1) (by rw [List.length_map]; exact hj1) q1)
    · exact q1
    · exact absurd (by rw [List.getElem_map, List.getElem_map, hi2, hj2]; exact e.symm) (pw j i (by rw [List.length_map]; exact hj1) (by rw [List.length_map]; exact hi1) q1)
theorem va_P_perm {D : va_G} {cl : List vw_C} {ws ws' : va_W} {H : Heap} (h : va_P D cl ws H) (p : ws.Perm ws') : va_P D cl ws' H := va_P_of h (fun q hq => p.mem_iff.mpr hq)
theorem va_D_perm {A : Nat → Prop} {ws ws' : va_W} (h : va_D A ws) (p : ws.Perm ws') : va_D A ws' := va_D_iff.mpr ⟨(p.map _).nodup_iff.mp (va_D_iff.mp h).1, fun q hq => (va_D_iff.mp h).2 q (p.mem_iff.mpr hq)⟩
theorem va_P_left {D : va_G} {cl : List vw_C} {a b : va_W} {H : Heap} (h : va_P D cl (a ++ b) H) : va_P D cl a H := va_P_of h (fun _ hq => List.mem_append_left _ hq)
theorem va_D_left {A : Nat → Prop} {a b : va_W} (h : va_D A (a ++ b)) : va_D A a :=
  ⟨fun i j p q hi hj e => h.1 i j p q (by rw [List.getElem?_append_left (List.getElem?_eq_some_iff.mp hi).1]; exact hi) (by rw [List.getElem?_append_left (List.getElem?_eq_some_iff.mp hj).1]; exact hj) e, fun k q hk => h.2 k q (by rw [List.getElem?_append_left (List.getElem?_eq_some_iff.mp hk).1]; exact hk)⟩
theorem yrotP {D : va_G} {cl : List vw_C} {a b c : va_W} {H : Heap} (h : va_P D cl (a ++ (b ++ c)) H) : va_P D cl (b ++ (a ++ c)) H := va_P_perm h (List.perm_append_comm_assoc a b c)
theorem yrotD {A : Nat → Prop} {a b c : va_W} (h : va_D A (a ++ (b ++ c))) : va_D A (b ++ (a ++ c)) := va_D_perm h (List.perm_append_comm_assoc a b c)
theorem yrange (w : va_W) : (List.range w.length).map (fun i => w[i]?) = w.map some := by
  apply List.ext_getElem?
  intro n
  rw [List.getElem?_map, List.getElem?_map]
  by_cases h : n < w.length
  · rw [List.getElem?_range h]
    show some (w[n]?) = Option.map some (w[n]?)
    rw [List.getElem?_eq_getElem h]
    rfl
  · rw [List.getElem?_eq_none (by rw [List.length_range]; omega), List.getElem?_eq_none (by omega)]
    rfl
section YL
variable {p : Program} {l : Launch} {e : Env} {R : Room} {s : State} {m : MethodId} {args : Array Value} {below : List Frame} {meth : Method} {c : Code} {H : Heap} {locs : List Loc} {cells slots : Nat} {Q : State → Prop}
variable {pc : Nat} {ls : Array Slot} {rest : List Value} {D : va_G} {A : Nat → Prop} {tys : List (ClassId × FieldType)} {H0 : Heap}
/-- a call whose cells stand first in the world -/
theorem yy_calliL {S : Type} {post : Int32 → S → Prop} {w1 : S → va_W} {wc T : va_W} {mc ms : Nat} {st0 : List Value} {aa : Array Value}
    (hr : va_Run p l e R s m args below meth c H locs cells slots mc ms (F0 m pc ls st0) rest (yQi post D wc tys H.size w1 aa) (va_A wc H.size))
    (hP : va_P D vwCl (wc ++ T) H) (hD : va_D A (wc ++ T)) (hS : va_S A H0 H locs) (hA : ∀ q, H0.size ≤ q → A q)
    (kk : ∀ (r : Int32) (u : S) (H1 : Heap) (locs1 : List Loc), post r u → va_P D vwCl (w1 u ++ T) H1 → va_D A (w1 u ++ T) → va_S A H0 H1 locs1 → W p l e R s m args below meth c H1 locs1 (cells + mc) (slots + ms) Q (F0 m (pc + 3) ls (.int r :: rest))) : W p l e R s m args below meth c H locs cells slots Q (F0 m pc ls st0) := by
  have hFc : ∀ q, va_A wc H.size q → A q := by
    intro q h
    rcases h with ⟨k, e, h⟩ | h
    · exact hD.2 k (q, e) (by rw [List.getElem?_append_left (List.getElem?_eq_some_iff.mp h).1]; exact h)
    · exact hA q (Nat.le_trans hS.1 h)
  refine va_calli (A1 := va_A wc H.size) hr hS (fun q _ h => hFc q h) hFc (fun r u t H1 locs1 ht hvm hw hB hz1 hk1 hS1 => ?_)
  obtain ⟨hP1, hK1, hD1⟩ := hB
  rw [ht] at hP1
  obtain ⟨hP2, hD2⟩ := va_joinQ (X := wc) (cx := wc) (wr := []) (pl := T) hP hD (List.range wc.length) [] (yrange wc) rfl rfl (fun i h => by cases h) hk1 hFc hP1 hD1
  exact kk r u H1 locs1 hw hP2 hD2 hS1
end YL
theorem ynj {j k : Nat} {c : Int32} (hc : c = nI k) : nI j + c = nI (j + k) := by rw [hc, nI_add]
theorem ylen {L j : Nat} (hL : L ≤ 3072) (hj : j ≤ 4000) (h : ¬ (Int32.ofNat L - 6 < nI j)) : j + 6 ≤ L := by
  have h1 := Int32.le_iff_toInt_le.mp (Int32.not_lt.mp h)
  have e1 : (Int32.ofNat L).toInt = (L : Int) := nI_toInt (n := L) (by omega)
  have e2 : (Int32.ofNat L - 6).toInt = (L : Int) - 6 := by
    rw [Int32.toInt_sub, e1, show (6 : Int32).toInt = 6 from by decide]
    exact ybm (by omega) (by omega)
  rw [e2, nI_toInt (by omega)] at h1
  omega
/-- the switch's value -/
theorem ylaw {j : Nat} (h : j < 32) : j = 0 ∨ j = 1 ∨ j = 2 ∨ j = 3 ∨ j = 4 ∨ j = 5 ∨ j = 6 ∨ j = 7 ∨ j = 8 ∨ j = 9 ∨ j = 10 ∨ j = 11 ∨ j = 12 ∨ j = 13 ∨ j = 14 ∨ j = 15 ∨ j = 16 ∨ j = 17 ∨ j = 18 ∨ j = 19 ∨ j = 20 ∨ j = 21 ∨ j = 22 ∨ j = 23 ∨ 24 ≤ j := by omega
theorem y012 {k : Int32} (h : 0 ≤ k ∧ k < 3) : yr 0 2 k := by
  have h1 := Int32.le_iff_toInt_le.mp h.1
  have h2 := Int32.lt_iff_toInt_lt.mp h.2
  rw [show (0 : Int32).toInt = 0 from by decide] at h1
  rw [show (3 : Int32).toInt = 3 from by decide] at h2
  exact ⟨h1, by omega⟩
theorem y012n {k : Int32} (h : yr 0 2 k) : k.toNatClampNeg < 3 := by
  obtain ⟨h1, h2, h3⟩ := ynat h (by decide)
  omega
/-- the class's cells -/
abbrev XW (cyI cyZ cyO : ClassId) (a : Nat → Nat) (u : yU) (kp : Nat → Option Nat) : va_W := [((a 0), .inr (10, [.ref (a 1), .ref (a 10), .ref (a 40), .ref (a 36), .ref (a 37), .int (u.1 0)])), ((a 1), .inr (6, [.ref (a 2), .ref (a 3), .ref (a 4), .ref (a 5), .ref (a 6), .ref (a 7), .ref (a 8), .ref (a 9), .int (u.1 1), .int (u.1 2), .int (u.1 3), .int (u.1 4), .int (u.1 5)])), ((a 2), .inl (cyI, 8, .inl (u.2 0))), ((a 3), .inl (cyI, 8, .inl (u.2 1))), ((a 4), .inl (cyI, 8, .inl (u.2 2))), ((a 5), .inl (cyZ, 8, .inl (u.2 3))), ((a 6), .inl (cyI, 48, .inl (u.2 4))), ((a 7), .inl (cyI, 48, .inl (u.2 5))), ((a 8), .inl (cyI, 48, .inl (u.2 6))), ((a 9), .inl (cyI, 48, .inl (u.2 7))), ((a 10), .inr (3, [.ref (a 11), .ref (a 18), .ref (a 21), .ref (a 24), .ref (a 30), .ref (a 32), .int (u.1 6)])), ((a 11), .inr (9, [.ref (a 12), .ref (a 13), .ref (a 14), .ref (a 15), .ref (a 16), .ref (a 17)])), ((a 12), .inl (cyI, 15, .inl (u.2 8))), ((a 13), .inl (cyI, 15, .inl (u.2 9))), ((a 14), .inl (cyI, 15, .inl (u.2 10))), ((a 15), .inl (cyI, 15, .inl (u.2 11))), ((a 16), .inl (cyI, 15, .inl (u.2 12))), ((a 17), .inl (cyI, 15, .inl (u.2 13))), ((a 18), .inr (1, [.ref (a 19), .ref (a 20), .int (u.1 7)])), ((a 19), .inl (cyI, 48, .inl (u.2 14))), ((a 20), .inl (cyI, 48, .inl (u.2 15))), ((a 21), .inr (4, [.ref (a 22), .int (u.1 8), .int (u.1 9), .int (u.1 10), .int (u.1 11), .int (u.1 12), .int (u.1 13)])), ((a 22), .inr (8, [.ref (a 23), .int 60, .int 9, .int (u.1 14)])), ((a 23), .inl (cyI, 540, .inl (u.2 16))), ((a 24), .inr (0, [.ref (a 25), .ref (a 28), .ref (a 29), .int (u.1 15), .int (u.1 16), .int (u.1 17), .int (u.1 18), .int (u.1 19), .int (u.1 20)])), ((a 25), .inr (2, [.ref (a 26), .int (u.1 21), .int (u.1 22), .int (u.1 23), .int (u.1 24), .int (u.1 25), .int (u.1 26), .int (u.1 27), .int (u.1 28), .int (u.1 29), .int (u.1 30), .int (u.1 31), .int (u.1 32), .int (u.1 33)])), ((a 26), .inr (8, [.ref (a 27), .int 200, .int 8, .int (u.1 34)])), ((a 27), .inl (cyI, 1600, .inl (u.2 17))), ((a 28), .inl (cyI, 4, .inl (u.2 18))), ((a 29), .inl (cyI, 4, .inl (u.2 19))), ((a 30), .inr (7, [.ref (a 31), .int (u.1 35), .int (u.1 36), .int (u.1 37)])), ((a 31), .inl (cyI, 8, .inl (u.2 20))), ((a 32), .inr (5, [.ref (a 33), .ref (a 34), .int (u.1 38), .int (u.1 39), .int (u.1 40)])), ((a 33), .inl (cyI, 16, .inl (u.2 21))), ((a 34), .inr (8, [.ref (a 35), .int 60, .int 2, .int (u.1 41)])), ((a 35), .inl (cyI, 120, .inl (u.2 22))), ((a 36), .inl (cyI, 3, .inl (u.2 23))), ((a 37), .inr (1, [.ref (a 38), .ref (a 39), .int (u.1 42)])), ((a 38), .inl (cyI, 48, .inl (u.2 24))), ((a 39), .inl (cyI, 48, .inl (u.2 25))), ((a 40), .inl (cyO, 3, .inr (.inr (.inr (.inr kp)))))]
/-- the reference's -/
abbrev MW (cyI cyZ : ClassId) (a : Nat → Nat) (u : yU) : va_W := [((a 0), .inr (11, [.ref (a 1), .int (u.1 0), .int (u.1 1), .ref (a 2), .ref (a 3), .ref (a 4), .ref (a 5), .int (u.1 2), .ref (a 6), .ref (a 7), .ref (a 8), .int (u.1 3), .int (u.1 4), .int (u.1 5), .ref (a 9), .ref (a 10), .int (u.1 6), .int (u.1 7), .ref (a 11), .ref (a 12), .ref (a 13), .ref (a 14), .ref (a 15), .ref (a 16)])), ((a 1), .inl (cyI, 2490, .inl (u.2 0))), ((a 2), .inl (cyI, 8, .inl (u.2 1))), ((a 3), .inl (cyI, 8, .inl (u.2 2))), ((a 4), .inl (cyI, 8, .inl (u.2 3))), ((a 5), .inl (cyZ, 8, .inl (u.2 4))), ((a 6), .inl (cyI, 48, .inl (u.2 5))), ((a 7), .inl (cyI, 48, .inl (u.2 6))), ((a 8), .inl (cyI, 48, .inl (u.2 7))), ((a 9), .inl (cyI, 15, .inl (u.2 8))), ((a 10), .inl (cyI, 15, .inl (u.2 9))), ((a 11), .inl (cyZ, 48, .inl (u.2 10))), ((a 12), .inl (cyI, 96, .inl (u.2 11))), ((a 13), .inl (cyI, 48, .inl (u.2 12))), ((a 14), .inl (cyI, 7470, .inl (u.2 13))), ((a 15), .inl (cyI, 3, .inl (u.2 14))), ((a 16), .inl (cyZ, 3, .inl (u.2 15)))]
/-- a kept machine's -/
abbrev KW (cyI : ClassId) (a : Nat → Nat) (u : yU) : va_W := [((a 0), .inr (3, [.ref (a 1), .ref (a 8), .ref (a 11), .ref (a 14), .ref (a 20), .ref (a 22), .int (u.1 0)])), ((a 1), .inr (9, [.ref (a 2), .ref (a 3), .ref (a 4), .ref (a 5), .ref (a 6), .ref (a 7)])), ((a 2), .inl (cyI, 15, .inl (u.2 0))), ((a 3), .inl (cyI, 15, .inl (u.2 1))), ((a 4), .inl (cyI, 15, .inl (u.2 2))), ((a 5), .inl (cyI, 15, .inl (u.2 3))), ((a 6), .inl (cyI, 15, .inl (u.2 4))), ((a 7), .inl (cyI, 15, .inl (u.2 5))), ((a 8), .inr (1, [.ref (a 9), .ref (a 10), .int (u.1 1)])), ((a 9), .inl (cyI, 48, .inl (u.2 6))), ((a 10), .inl (cyI, 48, .inl (u.2 7))), ((a 11), .inr (4, [.ref (a 12), .int (u.1 2), .int (u.1 3), .int (u.1 4), .int (u.1 5), .int (u.1 6), .int (u.1 7)])), ((a 12), .inr (8, [.ref (a 13), .int 60, .int 9, .int (u.1 8)])), ((a 13), .inl (cyI, 540, .inl (u.2 8))), ((a 14), .inr (0, [.ref (a 15), .ref (a 18), .ref (a 19), .int (u.1 9), .int (u.1 10), .int (u.1 11), .int (u.1 12), .int (u.1 13), .int (u.1 14)])), ((a 15), .inr (2, [.ref (a 16), .int (u.1 15), .int (u.1 16), .int (u.1 17), .int (u.1 18), .int (u.1 19), .int (u.1 20), .int (u.1 21), .int (u.1 22), .int (u.1 23), .int (u.1 24), .int (u.1 25), .int (u.1 26), .int (u.1 27)])), ((a 16), .inr (8, [.ref (a 17), .int 200, .int 8, .int (u.1 28)])), ((a 17), .inl (cyI, 1600, .inl (u.2 9))), ((a 18), .inl (cyI, 4, .inl (u.2 10))), ((a 19), .inl (cyI, 4, .inl (u.2 11))), ((a 20), .inr (7, [.ref (a 21), .int (u.1 29), .int (u.1 30), .int (u.1 31)])), ((a 21), .inl (cyI, 8, .inl (u.2 12))), ((a 22), .inr (5, [.ref (a 23), .ref (a 24), .int (u.1 32), .int (u.1 33), .int (u.1 34)])), ((a 23), .inl (cyI, 16, .inl (u.2 13))), ((a 24), .inr (8, [.ref (a 25), .int 60, .int 2, .int (u.1 35)])), ((a 25), .inl (cyI, 120, .inl (u.2 14)))]
abbrev XOK (u : yU) : Prop := yr 0 8 (u.1 1) ∧ yr 0 48 (u.1 2) ∧ yr 0 4 (u.1 3) ∧ yr 0 60 (u.1 14) ∧ yr 0 4 (u.1 15) ∧ yr 0 1 (u.1 20) ∧ yr 0 200 (u.1 34) ∧ yr 0 1 (u.1 38) ∧ yr 0 1 (u.1 39) ∧ yr 0 60 (u.1 41)
abbrev KOK (u : yU) : Prop := yr 0 60 (u.1 8) ∧ yr 0 4 (u.1 9) ∧ yr 0 1 (u.1 14) ∧ yr 0 200 (u.1 28) ∧ yr 0 1 (u.1 32) ∧ yr 0 1 (u.1 33) ∧ yr 0 60 (u.1 35)
abbrev MOK (n : Int) (u : yU) : Prop := yr 0 8 (u.1 1) ∧ yr 0 48 (u.1 2) ∧ yr 0 4 (u.1 3) ∧ yr (-1) 47 (u.1 7) ∧ ZI n (u.2 1) (u.2 2) (u.1 1) (u.2 0) ∧ KI n (u.2 1) (u.2 2) (u.1 1) (u.2 13)
abbrev KS : Type := (Nat → Nat) × yU
def KB (cyI : ClassId) (o : Option KS) : va_W := match o with | none => [] | some s => KW cyI s.1 s.2
def KT (cyI : ClassId) (t : Nat → Option KS) : va_W := KB cyI (t 0) ++ (KB cyI (t 1) ++ KB cyI (t 2))
def KTr (cyI : ClassId) (k : Nat) (t : Nat → Option KS) : va_W := match k with | 0 => KB cyI (t 1) ++ KB cyI (t 2) | 1 => KB cyI (t 0) ++ KB cyI (t 2) | _ => KB cyI (t 0) ++ KB cyI (t 1)
def kpf (t : Nat → Option KS) : Nat → Option Nat := fun j => (t j).map (fun s => s.1 0)
def tup (t : Nat → Option KS) (k : Nat) (s : KS) : Nat → Option KS := fun j => if j = k then some s else t j
def TOK (t : Nat → Option KS) : Prop := ∀ (k : Nat) (s : KS), t k = some s → KOK s.2
theorem tup_k {t : Nat → Option KS} {k : Nat} {s : KS} : tup t k s k = some s := by unfold tup; rw [if_pos rfl]
theorem TOK_tup {t : Nat → Option KS} {k : Nat} {s : KS} (h : TOK t) (hs : KOK s.2) : TOK (tup t k s) := by
  intro j q hq
  unfold tup at hq
  by_cases e : j = k
  · rw [if_pos e] at hq; cases hq; exact hs
  · rw [if_neg e] at hq; exact h j q hq
theorem kpf_N {t : Nat → Option KS} {k : Nat} {s : KS} : va_up (kpf t) k (some (s.1 0)) = kpf (tup t k s) := by
  funext j
  unfold va_up kpf tup
  by_cases e : j = k
  · rw [if_pos e, if_pos e]; rfl
  · rw [if_neg e, if_neg e]
theorem kpf_S {t : Nat → Option KS} {k : Nat} {s q : KS} (h : t k = some q) (e : s.1 0 = q.1 0) : kpf (tup t k s) = kpf t := by
  funext j
  unfold kpf tup
  by_cases e2 : j = k
  · subst e2; rw [if_pos rfl, h]; show some (s.1 0) = some (q.1 0); rw [e]
  · rw [if_neg e2]
theorem kpf_none {t : Nat → Option KS} {k : Nat} (h : t k = none) : kpf t k = none := by unfold kpf; rw [h]; rfl
theorem kpf_some {t : Nat → Option KS} {k : Nat} {q : KS} (h : t k = some q) : kpf t k = some (q.1 0) := by unfold kpf; rw [h]; rfl
theorem KTr_tup {cyI : ClassId} {t : Nat → Option KS} {k : Nat} {s : KS} (hk : k < 3) : KTr cyI k (tup t k s) = KTr cyI k t := by
  match k, hk with
  | 0, _ => rfl
  | 1, _ => rfl
  | 2, _ => rfl
theorem kperm {cyI : ClassId} {k : Nat} (hk : k < 3) (X M : va_W) (t : Nat → Option KS) : (X ++ (M ++ KT cyI t)).Perm ((X ++ KB cyI (t k)) ++ (M ++ KTr cyI k t)) := by
  rw [List.append_assoc]
  refine List.Perm.append_left X ?_
  refine List.Perm.trans (List.Perm.append_left M ?_) (List.perm_append_comm_assoc M (KB cyI (t k)) (KTr cyI k t))
  match k, hk with
  | 0, _ => exact List.Perm.refl _
  | 1, _ => exact List.perm_append_comm_assoc _ _ _
  | 2, _ => exact List.Perm.trans (by show (KB cyI (t 0) ++ (KB cyI (t 1) ++ KB cyI (t 2))).Perm ((KB cyI (t 0) ++ KB cyI (t 1)) ++ KB cyI (t 2)); rw [List.append_assoc]) List.perm_append_comm
