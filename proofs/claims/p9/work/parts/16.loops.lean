/-! LOOPS: an array filled, an array copied, steps with nobody there -/
theorem cA_i {xs : List Int32} {h : AH} {p k : Nat} {l : List Int32} {f : Nat → List Int32 → Prop} (e : smC xs h p = some (.inl (k, l))) (g : f k l) : cA xs h p f := by
  unfold cA
  rw [e]
  exact g
theorem vinN {n m : Nat} (h : n < m) (hm : m < 2 ^ 31) : vp_in (nI n) m := vp_in_nI h hm
theorem smC_set {xs : List Int32} {h : AH} {p q : Nat} {c : AC} (hq : 32 ≤ q) (hne : p ≠ q) : smC xs (h.set (q - 32) c) p = smC xs h p := by
  unfold smC
  by_cases hp : p < 32
  · rw [if_pos hp, if_pos hp]
  · rw [if_neg hp, if_neg hp, List.getElem?_set_ne (by omega)]
theorem smC_own {xs : List Int32} {h : AH} {q : Nat} {c c0 : AC} (hq : 32 ≤ q) (h0 : h[q - 32]? = some c0) : smC xs (h.set (q - 32) c) q = some c := by
  unfold smC
  rw [if_neg (by omega), List.getElem?_set_self (List.getElem?_eq_some_iff.mp h0).1]
theorem set_own {h : AH} {i : Nat} {c : AC} (h0 : h[i]? = some c) : h.set i c = h := by
  apply List.ext_getElem?
  intro j
  rw [List.getElem?_set]
  by_cases hj : i = j
  · subst hj
    rw [if_pos rfl, h0, if_pos (List.getElem?_eq_some_iff.mp h0).1]
  · rw [if_neg hj]
theorem take_step {f g : List Int32} {j : Nat} (hf : j < f.length) (hg : j < g.length) : (f.take j ++ g.drop j).set j (f.getD j 0) = f.take (j + 1) ++ g.drop (j + 1) := by
  apply List.ext_getElem?
  intro i
  have hl : (f.take j).length = j := by rw [List.length_take]; omega
  have hl2 : (f.take (j + 1)).length = j + 1 := by rw [List.length_take]; omega
  rw [List.getElem?_set]
  by_cases hi : j = i
  · subst hi
    rw [if_pos rfl, if_pos (by rw [List.length_append, hl, List.length_drop]; omega), List.getElem?_append_left (by omega), List.getElem?_take, if_pos (by omega), List.getD_eq_getElem?_getD, List.getElem?_eq_getElem hf]
    rfl
  · rw [if_neg hi]
    by_cases h2 : i < j
    · rw [List.getElem?_append_left (by omega), List.getElem?_append_left (by omega), List.getElem?_take, List.getElem?_take, if_pos h2, if_pos (by omega)]
    · rw [List.getElem?_append_right (by omega), List.getElem?_append_right (by omega), List.getElem?_drop, List.getElem?_drop, hl, hl2]
      congr 1
      omega
theorem ushr0 (x : Int32) : (x.toUInt32 >>> ((0 : Int32).toUInt32 &&& Int32.toUInt32 31)).toInt32 = x := by
  have e : ((0 : Int32).toUInt32 &&& Int32.toUInt32 31) = 0 := by decide
  rw [e]
  simp
theorem set_e {h : AH} {i : Nat} {c c' : AC} (e : c = c') : h.set i c = h.set i c' := by rw [e]
theorem set_n0 {h : AH} {i : Nat} {a c c' : AC} (e : c = c') : (h.set i a).set i c = h.set i c' := by rw [List.set_set, e]
theorem set_n1 {h : AH} {i j : Nat} {a c c' bj : AC} (hj : i ≠ j) (e : c = c') : ((h.set i a).set j bj).set i c = (h.set j bj).set i c' := by
  subst e
  apply List.ext_getElem?
  intro z
  simp only [List.getElem?_set, List.length_set]
  by_cases hz : i = z
  · subst hz
    simp
  · simp [hz]
theorem set_n2 {h : AH} {i j k : Nat} {a c c' bj bk : AC} (hj : i ≠ j) (hk : i ≠ k) (e : c = c') : (((h.set i a).set j bj).set k bk).set i c = ((h.set j bj).set k bk).set i c' := by
  subst e
  apply List.ext_getElem?
  intro z
  simp only [List.getElem?_set, List.length_set]
  by_cases hz : i = z
  · subst hz
    simp
  · simp [hz]
theorem set_n3 {h : AH} {i j k l : Nat} {a c c' bj bk bl : AC} (hj : i ≠ j) (hk : i ≠ k) (hl : i ≠ l) (e : c = c') : ((((h.set i a).set j bj).set k bk).set l bl).set i c = (((h.set j bj).set k bk).set l bl).set i c' := by
  subst e
  apply List.ext_getElem?
  intro z
  simp only [List.getElem?_set, List.length_set]
  by_cases hz : i = z
  · subst hz
    simp
  · simp [hz]
theorem set_n4 {h : AH} {i j k l m : Nat} {a c c' bj bk bl bm : AC} (hj : i ≠ j) (hk : i ≠ k) (hl : i ≠ l) (hm : i ≠ m) (e : c = c') : (((((h.set i a).set j bj).set k bk).set l bl).set m bm).set i c = ((((h.set j bj).set k bk).set l bl).set m bm).set i c' := by
  subst e
  apply List.ext_getElem?
  intro z
  simp only [List.getElem?_set, List.length_set]
  by_cases hz : i = z
  · subst hz
    simp
  · simp [hz]
theorem set_idem {h : AH} {i : Nat} {c c' : AC} (h0 : h[i]? = some c) (e : c' = c) : h.set i c' = h := by
  rw [e]
  exact set_own h0
theorem gwl {xs : List Int32} {call : CT} {y : Nat} {Q : QT} {pc : Nat} {L L' : LoS} {st : List Value} {h : AH} {mc ms : Nat} (e : L = L') (g : gw xs call y Q pc L' st h mc ms) : gw xs call y Q pc L st h mc ms := by
  rw [e]
  exact g
