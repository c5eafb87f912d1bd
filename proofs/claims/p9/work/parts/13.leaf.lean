/-! LEAVES -/
theorem ifT {c : Prop} {_ : Decidable c} {A B : Prop} (h : c) (a : A) : (if c then A else B) := by
  rw [if_pos h]
  exact a
theorem ifF {c : Prop} {_ : Decidable c} {A B : Prop} (h : ¬ c) (b : B) : (if c then A else B) := by
  rw [if_neg h]
  exact b
theorem ifs {c : Prop} {_ : Decidable c} {A B : Prop} (a : c → A) (b : ¬ c → B) : (if c then A else B) := by
  by_cases h : c
  · exact ifT h (a h)
  · exact ifF h (b h)
/-- a call that needs no room -/
theorem cl0 {call : CT} {K : List Value → AH → Nat → Nat → Prop} {a : Nat} {args rest : List Value} {h : AH} {mc ms : Nat} (hcat : catS rest ≤ 8) (hc : call a 0 0 args h (fun r h' => K (r.toList ++ rest) h' mc ms)) : cal call K a args rest h mc ms := ⟨hcat, 0, 0, Nat.zero_le _, Nat.zero_le _, hc⟩
/-- a call that makes cells -/
theorem cl {call : CT} {K : List Value → AH → Nat → Nat → Prop} {a : Nat} {args rest : List Value} {h : AH} {mc ms : Nat} (mc' ms' : Nat) (hcat : catS rest ≤ 8) (h1 : mc' ≤ mc) (h2 : ms' ≤ ms) (hc : call a mc' ms' args h (fun r h' => K (r.toList ++ rest) h' (mc - mc') (ms - ms'))) : cal call K a args rest h mc ms := ⟨hcat, mc', ms', h1, h2, hc⟩
theorem and_i {A B : Prop} (a : A) (b : B) : A ∧ B := ⟨a, b⟩
theorem and_2 {A B C : Prop} (a : A) (b : B) (c : C) : A ∧ B ∧ C := ⟨a, b, c⟩
theorem and_3 {A B C D : Prop} (a : A) (b : B) (c : C) (d : D) : A ∧ B ∧ C ∧ D := ⟨a, b, c, d⟩
theorem and_4 {A B C D E : Prop} (a : A) (b : B) (c : C) (d : D) (e : E) : A ∧ B ∧ C ∧ D ∧ E := ⟨a, b, c, d, e⟩
theorem vin {i : Int32} {n : Nat} (h : decide (¬ (i < 0 ∨ n ≤ i.toNatClampNeg)) = true) : vp_in i n := by
  unfold vp_in
  exact of_decide_eq_true h
theorem lt_k {x y : Int32} {a b : Int} (ha : x.toInt = a) (hb : y.toInt = b) : x < y ↔ a < b := by rw [Int32.lt_iff_toInt_lt, ha, hb]
theorem le_k {x y : Int32} {a b : Int} (ha : x.toInt = a) (hb : y.toInt = b) : x ≤ y ↔ a ≤ b := by rw [Int32.le_iff_toInt_le, ha, hb]
theorem eq_k {x y : Int32} {a b : Int} (ha : x.toInt = a) (hb : y.toInt = b) : x = y ↔ a = b := by rw [← ha, ← hb, Int32.toInt_inj]
theorem sub_k {x y : Int32} {a b : Int} (ha : x.toInt = a) (hb : y.toInt = b) (h1 : -2147483648 ≤ a - b) (h2 : a - b ≤ 2147483647) : (x - y).toInt = a - b := by
  rw [Int32.toInt_sub, ha, hb]
  exact Int.bmod_eq_of_le (by omega) (by omega)
theorem add_k {x y : Int32} {a b : Int} (ha : x.toInt = a) (hb : y.toInt = b) (h1 : -2147483648 ≤ a + b) (h2 : a + b ≤ 2147483647) : (x + y).toInt = a + b := by
  rw [Int32.toInt_add, ha, hb]
  exact Int.bmod_eq_of_le (by omega) (by omega)
theorem nat_of {x : Int32} {lo hi : Nat} (h1 : (lo : Int) ≤ x.toInt) (h2 : x.toInt ≤ (hi : Int)) : ∃ j : Nat, (lo ≤ j ∧ j ≤ hi) ∧ x = Int32.ofNat j := by
  refine ⟨x.toInt.toNat, ⟨by omega, by omega⟩, ?_⟩
  apply Int32.toInt_inj.mp
  have h3 := Int32.toInt_lt x
  have h4 := nI_toInt (n := x.toInt.toNat) (by omega)
  unfold nI at h4
  rw [h4]
  omega
theorem gwh {xs : List Int32} {call : CT} {y : Nat} {Q : QT} {pc : Nat} {L : LoS} {st : List Value} {h h' : AH} {mc ms : Nat} (e : h = h') (g : gw xs call y Q pc L st h' mc ms) : gw xs call y Q pc L st h mc ms := by
  rw [e]
  exact g
theorem qh {Q : QT} {r : Option Value} {h h' : AH} (e : h = h') (g : Q r h') : Q r h := by
  rw [e]
  exact g
theorem alen_k {l : List Int32} {n : Nat} (h : l.length = n) : Int32.ofNat l.length = Int32.ofNat n := by rw [h]
theorem gwst {xs : List Int32} {call : CT} {y : Nat} {Q : QT} {pc : Nat} {L : LoS} {st st' : List Value} {h : AH} {mc ms : Nat} (e : st = st') (g : gw xs call y Q pc L st' h mc ms) : gw xs call y Q pc L st h mc ms := by
  rw [e]
  exact g
