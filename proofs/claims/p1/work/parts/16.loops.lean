/-! LOOPS: an array filled, an array copied, steps with nobody there -/
theorem cA_i {xs : List Int32} {h : AH} {p k : Nat} {l : List Int32} {f : Nat → List Int32 → Prop} (e : smC xs h p = some (.inl (k, l))) (g : f k l) : cA xs h p f := by
  unfold cA
  rw [e]
  exact g
theorem vinN {n m : Nat} (h : n < m) (hm : m < 2 ^ 31) : vp_in (nI n) m := vp_in_nI h hm
theorem smC_set {xs : List Int32} {h : AH} {p q : Nat} {c : AC} (hq : 32 ≤ q) (hne : p ≠ q) : smC xs (h.set (q - 32) c) p = smC xs h p := by
  unfold smC
  by_cases hp : p < 32
  · rw [if_pos hp, if_pos hp]
  · rw [if_neg hp, if_neg hp, List.getElem?_set_ne (by omega)]
theorem smC_own {xs : List Int32} {h : AH} {q : Nat} {c c0 : AC} (hq : 32 ≤ q) (h0 : h[q - 32]? = some c0) : smC xs (h.set (q - 32) c) q = some c := by
  unfold smC
  rw [if_neg (by omega), List.getElem?_set_self (List.getElem?_eq_some_iff.mp h0).1]
theorem set_own {h : AH} {i : Nat} {c : AC} (h0 : h[i]? = some c) : h.set i c = h := by
  apply List.ext_getElem?
  intro j
  rw [List.getElem?_set]
  by_cases hj : i = j
  · subst hj
    rw [if_pos rfl, h0, if_pos (List.getElem?_eq_some_iff.mp h0).1]
  · rw [if_neg hj]
theorem take_step {f g : List Int32} {j : Nat} (hf : j < f.length) (hg : j < g.length) : (f.take j ++ g.drop j).set j (f.getD j 0) = f.take (j + 1) ++ g.drop (j + 1) := by
  apply List.ext_getElem?
  intro i
  have hl : (f.take j).length = j := by rw [List.length_take]; omega
  have hl2 : (f.take (j + 1)).length = j + 1 := by rw [List.length_take]; omega
  rw [List.getElem?_set]
  by_cases hi : j = i
  · subst hi
    rw [if_pos rfl, if_pos (by rw [List.length_append, hl, List.length_drop]; omega), List.getElem?_append_left (by omega), List.getElem?_take, if_pos (by omega), List.getD_eq_getElem?_getD, List.getElem?_eq_getElem hf]
    rfl
  · rw [if_neg hi]
    by_cases h2 : i < j
    · rw [List.getElem?_append_left (by omega), List.getElem?_append_left (by omega), List.getElem?_take, List.getElem?_take, if_pos h2, if_pos (by omega)]
    · rw [List.getElem?_append_right (by omega), List.getElem?_append_right (by omega), List.getElem?_drop, List.getElem?_drop, hl, hl2]
      congr 1
      omega
theorem ushr0 (x : Int32) : (x.toUInt32 >>> ((0 : Int32).toUInt32 &&& Int32.toUInt32 31)).toInt32 = x := by
  have e : ((0 : Int32).toUInt32 &&& Int32.toUInt32 31) = 0 := by decide
  rw [e]
  simp
theorem set_e {h : AH} {i : Nat} {c c' : AC} (e : c = c') : h.set i c = h.set i c' := by rw [e]
theorem set_n0 {h : AH} {i : Nat} {a c c' : AC} (e : c = c') : (h.set i a).set i c = h.set i c' := by rw [List.set_set, e]
theorem set_n1 {h : AH} {i j : Nat} {a c c' bj : AC} (hj : i ≠ j) (e : c = c') : ((h.set i a).set j bj).set i c = (h.set j bj).set i c' := by
  subst e
  apply List.ext_getElem?
  intro z
  simp only [List.getElem?_set, List.length_set]
  by_cases hz : i = z
  · subst hz
    simp
  · simp [hz]
theorem set_n2 {h : AH} {i j k : Nat} {a c c' bj bk : AC} (hj : i ≠ j) (hk : i ≠ k) (e : c = c') : (((h.set i a).set j bj).set k bk).set i c = ((h.set j bj).set k bk).set i c' := by
  subst e
  apply List.ext_getElem?
  intro z
  simp only [List.getElem?_set, List.length_set]
  by_cases hz : i = z
  · subst hz
    simp
  · simp [hz]
theorem set_n3 {h : AH} {i j k l : Nat} {a c c' bj bk bl : AC} (hj : i ≠ j) (hk : i ≠ k) (hl : i ≠ l) (e : c = c') : ((((h.set i a).set j bj).set k bk).set l bl).set i c = (((h.set j bj).set k bk).set l bl).set i c' := by
  subst e
  apply List.ext_getElem?
  intro z
  simp only [List.getElem?_set, List.length_set]
  by_cases hz : i = z
  · subst hz
    simp
  · simp [hz]
theorem set_n4 {h : AH} {i j k l m : Nat} {a c c' bj bk bl bm : AC} (hj : i ≠ j) (hk : i ≠ k) (hl : i ≠ l) (hm : i ≠ m) (e : c = c') : (((((h.set i a).set j bj).set k bk).set l bl).set m bm).set i c = ((((h.set j bj).set k bk).set l bl).set m bm).set i c' := by
  subst e
  apply List.ext_getElem?
  intro z
  simp only [List.getElem?_set, List.length_set]
  by_cases hz : i = z
  · subst hz
    simp
  · simp [hz]
theorem set_idem {h : AH} {i : Nat} {c c' : AC} (h0 : h[i]? = some c) (e : c' = c) : h.set i c' = h := by
  rw [e]
  exact set_own h0
theorem gwl {xs : List Int32} {call : CT} {y : Nat} {Q : QT} {pc : Nat} {L L' : LoS} {st : List Value} {h : AH} {mc ms : Nat} (e : L = L') (g : gw xs call y Q pc L' st h mc ms) : gw xs call y Q pc L st h mc ms := by
  rw [e]
  exact g
section LOOPS
variable {xs : List Int32} {d : Nat} {h : AH} {Q : QT}
/-- moveAll: 234 numbers from one array to another -/
theorem c_moveAll {o p q : Nat} {f g : List Int32} (hp : smC xs h p = some (.inl (0, f))) (hq32 : 32 ≤ q) (hq : h[q - 32]? = some (.inl (0, g))) (hf : f.length = 234) (hg : g.length = 234) (hne : p ≠ q) (hQ : Q none (h.set (q - 32) (.inl (0, f)))) : WP xs (d + 1) 110 0 0 [.ref o, .ref p, .ref q] h Q := by
  have key : ∀ (k j : Nat), j + k = 234 → gw xs (WP xs d) 110 Q 2 [some (.ref o), some (.ref p), some (.ref q), some (.int (nI j))] [] (h.set (q - 32) (.inl (0, f.take j ++ g.drop j))) 0 0 := by
    intro k
    induction k with
    | zero =>
      intro j hj
      have hj : j = 234 := by omega
      subst hj
      refine gs rfl ?_
      refine gs rfl ?_
      refine gs rfl ?_
      refine gs rfl ?_
      refine and_i rfl ?_
      rw [List.take_of_length_le (by omega), List.drop_of_length_le (by omega), List.append_nil]
      exact hQ
    | succ k ih =>
      intro j hj
      have hlen : (f.take j ++ g.drop j).length = 234 := by
        rw [List.length_append, List.length_take, List.length_drop]
        omega
      refine gs rfl ?_
      refine gs rfl ?_
      refine gs rfl ?_
      refine ifF (fun z => absurd ((le_k (by decide : (234 : Int32).toInt = 234) (nI_toInt (n := j) (by omega))).mp z) (by omega)) ?_
      refine gs rfl ?_
      refine gs rfl ?_
      refine gs rfl ?_
      refine gs rfl ?_
      refine gs rfl ?_
      refine cA_i ((smC_set hq32 hne).trans hp) (and_2 rfl (by rw [hf]; exact vinN (by omega) (by decide)) ?_)
      refine gs rfl ?_
      refine and_i hq32 (cA_i (smC_own hq32 hq) (and_2 rfl (by rw [hlen]; exact vinN (by omega) (by decide)) ?_))
      refine gs rfl ?_
      refine gs rfl ?_
      have h9 := ih (j + 1) (by omega)
      rw [← take_step (by omega) (by omega), ← nI_1] at h9
      rw [List.set_set, nI_clamp (by omega)]
      exact h9
  refine and_i (Nat.le_of_ble_eq_true rfl) ?_
  refine gs rfl ?_
  refine gs rfl ?_
  have h9 := key 234 0 (by omega)
  rw [List.take_zero, List.nil_append, List.drop_zero, set_own hq] at h9
  exact h9
theorem c_goOn33 {n b z : Int32} (h0 : 0 ≤ n.toInt) (h6 : n.toInt ≤ 60) (hQ : Q none (hF n b z ++ hM0)) : WP xs (d + 4) 41 0 0 [.ref 33, .int n] (hF 0 b z ++ hM0) Q := by
  have key : ∀ (k j : Nat), j + k = n.toInt.toNat → gw xs (WP xs (d + 3)) 41 Q 2 [some (.ref 33), some (.int n), some (.int (nI j))] [] (hF (nI j) b z ++ hM0) 0 0 := by
    intro k
    induction k with
    | zero =>
      intro j hj
      have hn : nI j = n := by
        apply Int32.toInt_inj.mp
        rw [nI_toInt (by omega)]
        omega
      refine gs rfl ?_
      refine gs rfl ?_
      refine gs rfl ?_
      refine ifT ((le_k rfl (nI_toInt (n := j) (by omega))).mpr (by omega)) ?_
      refine gs rfl ?_
      refine and_i rfl ?_
      rw [hn]
      exact hQ
    | succ k ih =>
      intro j hj
      refine gs rfl ?_
      refine gs rfl ?_
      refine gs rfl ?_
      refine ifF (fun z => absurd ((le_k rfl (nI_toInt (n := j) (by omega))).mp z) (by omega)) ?_
      refine gs rfl ?_
      refine gs rfl ?_
      refine and_i (Nat.le_of_ble_eq_true rfl) (cl0 (Nat.le_of_ble_eq_true rfl) (c_step33 ?_))
      refine gs rfl ?_
      refine gs rfl ?_
      refine gs rfl ?_
      have h9 := ih (j + 1) (by omega)
      rw [← nI_1] at h9
      exact h9
  refine and_i (Nat.le_of_ble_eq_true rfl) ?_
  refine gs rfl ?_
  refine gs rfl ?_
  exact key n.toInt.toNat 0 (by omega)
theorem c_goOn42 {n a z : Int32} (h0 : 0 ≤ n.toInt) (h6 : n.toInt ≤ 60) (hQ : Q none (hF a n z ++ hM0)) : WP xs (d + 4) 41 0 0 [.ref 42, .int n] (hF a 0 z ++ hM0) Q := by
  have key : ∀ (k j : Nat), j + k = n.toInt.toNat → gw xs (WP xs (d + 3)) 41 Q 2 [some (.ref 42), some (.int n), some (.int (nI j))] [] (hF a (nI j) z ++ hM0) 0 0 := by
    intro k
    induction k with
    | zero =>
      intro j hj
      have hn : nI j = n := by
        apply Int32.toInt_inj.mp
        rw [nI_toInt (by omega)]
        omega
      refine gs rfl ?_
      refine gs rfl ?_
      refine gs rfl ?_
      refine ifT ((le_k rfl (nI_toInt (n := j) (by omega))).mpr (by omega)) ?_
      refine gs rfl ?_
      refine and_i rfl ?_
      rw [hn]
      exact hQ
    | succ k ih =>
      intro j hj
      refine gs rfl ?_
      refine gs rfl ?_
      refine gs rfl ?_
      refine ifF (fun z => absurd ((le_k rfl (nI_toInt (n := j) (by omega))).mp z) (by omega)) ?_
      refine gs rfl ?_
      refine gs rfl ?_
      refine and_i (Nat.le_of_ble_eq_true rfl) (cl0 (Nat.le_of_ble_eq_true rfl) (c_step42 ?_))
      refine gs rfl ?_
      refine gs rfl ?_
      refine gs rfl ?_
      have h9 := ih (j + 1) (by omega)
      rw [← nI_1] at h9
      exact h9
  refine and_i (Nat.le_of_ble_eq_true rfl) ?_
  refine gs rfl ?_
  refine gs rfl ?_
  exact key n.toInt.toNat 0 (by omega)
theorem c_passes {n z : Int32} {T B : AC} {f : Nat → AC} (h0 : 0 ≤ n.toInt) (h6 : n.toInt ≤ 60) (hQ : Q none (pad f ++ hG n z T B)) : WP xs (d + 4) 146 0 0 [.ref 89, .int n] (pad f ++ hG 0 z T B) Q := by
  have key : ∀ (k j : Nat), j + k = n.toInt.toNat → gw xs (WP xs (d + 3)) 146 Q 2 [some (.ref 89), some (.int n), some (.int (nI j))] [] (pad f ++ hG (nI j) z T B) 0 0 := by
    intro k
    induction k with
    | zero =>
      intro j hj
      have hn : nI j = n := by
        apply Int32.toInt_inj.mp
        rw [nI_toInt (by omega)]
        omega
      refine gs rfl ?_
      refine gs rfl ?_
      refine gs rfl ?_
      refine ifT ((le_k rfl (nI_toInt (n := j) (by omega))).mpr (by omega)) ?_
      refine gs rfl ?_
      refine and_i rfl ?_
      rw [hn]
      exact hQ
    | succ k ih =>
      intro j hj
      refine gs rfl ?_
      refine gs rfl ?_
      refine gs rfl ?_
      refine ifF (fun z => absurd ((le_k rfl (nI_toInt (n := j) (by omega))).mp z) (by omega)) ?_
      refine gs rfl ?_
      refine gs rfl ?_
      refine and_i (Nat.le_of_ble_eq_true rfl) (cl0 (Nat.le_of_ble_eq_true rfl) (c_oneS ?_))
      refine gs rfl ?_
      refine gs rfl ?_
      have h9 := ih (j + 1) (by omega)
      rw [← nI_1] at h9
      exact h9
  refine and_i (Nat.le_of_ble_eq_true rfl) ?_
  refine gs rfl ?_
  refine gs rfl ?_
  exact key n.toInt.toNat 0 (by omega)
/-- loose's loop, of the class -/
theorem g_loose {n b z : Int32} {mc ms : Nat} (h0 : 0 ≤ n.toInt) (h6 : n.toInt ≤ 60) (hk : ∀ z2, gw xs (WP xs (d + 3)) 72 Q 63 [some (.ref 32), some (.int n), some (.int n)] [] (hF n b z2 ++ hM0) mc ms) : gw xs (WP xs (d + 3)) 72 Q 40 [some (.ref 32), some (.int n), some (.int 0)] [] (hF 0 b z ++ hM0) mc ms := by
  have key : ∀ (k j : Nat) (z : Int32), j + k = n.toInt.toNat → gw xs (WP xs (d + 3)) 72 Q 40 [some (.ref 32), some (.int n), some (.int (nI j))] [] (hF (nI j) b z ++ hM0) mc ms := by
    intro k
    induction k with
    | zero =>
      intro j z hj
      have hn : nI j = n := by
        apply Int32.toInt_inj.mp
        rw [nI_toInt (by omega)]
        omega
      rw [hn]
      refine gs rfl ?_
      refine gs rfl ?_
      refine gs rfl ?_
      refine ifT (Int32.le_refl _) ?_
      exact hk z
    | succ k ih =>
      intro j z hj
      refine gs rfl ?_
      refine gs rfl ?_
      refine gs rfl ?_
      refine ifF (fun z => absurd ((le_k rfl (nI_toInt (n := j) (by omega))).mp z) (by omega)) ?_
      refine gs rfl ?_
      refine gs rfl ?_
      refine and_i (Nat.le_of_ble_eq_true rfl) (cl0 (Nat.le_of_ble_eq_true rfl) (c_drawSham (fun z2 => ?_)))
      refine gs rfl ?_
      refine gs rfl ?_
      refine gs rfl ?_
      refine and_i (Nat.le_of_ble_eq_true rfl) (cl0 (Nat.le_of_ble_eq_true rfl) (c_step33 ?_))
      refine gs rfl ?_
      refine gs rfl ?_
      refine gs rfl ?_
      have h9 := ih (j + 1) z2 (by omega)
      rw [← nI_1] at h9
      exact h9
  exact key n.toInt.toNat 0 z (by omega)
set_option maxRecDepth 20000 in
/-- loose's loop, of the reference -/
theorem g_looseM {n z : Int32} {T B : AC} {f : Nat → AC} {mc ms : Nat} {o3 : Option Value} (h0 : 0 ≤ n.toInt) (h6 : n.toInt ≤ 60) (hk : ∀ z2 o3, gw xs (WP xs (d + 3)) 150 Q 89 [some (.ref 89), some (.int n), some (.int n), o3] [] (pad f ++ hG n z2 T B) mc ms) : gw xs (WP xs (d + 3)) 150 Q 40 [some (.ref 89), some (.int n), some (.int 0), o3] [] (pad f ++ hG 0 z T B) mc ms := by
  have key : ∀ (k j : Nat) (z : Int32) (o3 : Option Value), j + k = n.toInt.toNat → gw xs (WP xs (d + 3)) 150 Q 40 [some (.ref 89), some (.int n), some (.int (nI j)), o3] [] (pad f ++ hG (nI j) z T B) mc ms := by
    intro k
    induction k with
    | zero =>
      intro j z o3 hj
      have hn : nI j = n := by
        apply Int32.toInt_inj.mp
        rw [nI_toInt (by omega)]
        omega
      rw [hn]
      refine gs rfl ?_
      refine gs rfl ?_
      refine gs rfl ?_
      refine ifT (Int32.le_refl _) ?_
      exact hk z o3
    | succ k ih =>
      intro j z o3 hj
      refine gs rfl ?_
      refine gs rfl ?_
      refine gs rfl ?_
      refine ifF (fun z => absurd ((le_k rfl (nI_toInt (n := j) (by omega))).mp z) (by omega)) ?_
      refine gs rfl ?_
      refine gs rfl ?_
      refine and_i (Nat.le_of_ble_eq_true rfl) (cl0 (Nat.le_of_ble_eq_true rfl) (c_drawn (fun x z2 => ?_)))
      refine gs rfl ?_
      refine gs rfl ?_
      refine gs rfl ?_
      refine gs rfl ?_
      refine gs rfl ?_
      refine and_2 rfl (vin rfl) ?_
      refine gs rfl ?_
      refine gs rfl ?_
      refine gs rfl ?_
      refine and_i (Nat.le_of_ble_eq_true rfl) (cl0 (Nat.le_of_ble_eq_true rfl) (c_oneS ?_))
      refine gs rfl ?_
      refine gs rfl ?_
      have h9 := ih (j + 1) z2 (some (.int x)) (by omega)
      rw [← nI_1] at h9
      exact h9
  exact key n.toInt.toNat 0 z o3 (by omega)
/-- the class's cells, whatever they are now -/
theorem FRg {call : CT} {y pc mc ms : Nat} {L : LoS} {st : List Value} (e : h = pad (fun i => h.getD i (.inl (0, []))) ++ hM0) (g : ∀ f, gw xs call y Q pc L st (pad f ++ hM0) mc ms) : gw xs call y Q pc L st h mc ms := by
  rw [e]
  exact g _
end LOOPS
