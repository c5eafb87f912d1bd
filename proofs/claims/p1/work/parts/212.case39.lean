/-! THE LAW'S CASES 39, over two new objects -/
set_option maxRecDepth 20000 in
set_option maxHeartbeats 40000000 in
theorem lc_39 {s0 s1 s2 s3 s4 s5 : Int32} {d mc ms : Nat} : gw [s0, s1, s2, s3, s4, s5] (WP [s0, s1, s2, s3, s4, s5] (d + 20)) 190 (fun r _ => r = some (.int 1)) 1405 [some (.ref 0), some (.ref 32), some (.ref 89), some (.int 0)] [] (hX0 ++ hM0) mc ms := by
  refine gs rfl ?_
  refine gs rfl ?_
  refine gs rfl ?_
  refine gs rfl ?_
  refine gs rfl ?_
  refine gs rfl ?_
  refine and_2 rfl (vin rfl) ?_
  refine gs rfl ?_
  refine and_i (Nat.le_of_ble_eq_true rfl) (cl0 (Nat.le_of_ble_eq_true rfl) (and_i (Nat.le_of_ble_eq_true rfl) ?_))
  refine gs rfl ?_
  refine gs rfl ?_
  refine gs rfl ?_
  refine ifs (fun c1 => ?_) (fun c1 => ?_)
  · have d2 : (s1).toInt < 1 := (lt_k (by rfl) (by rfl)).mp c1
    refine gs rfl ?_
    refine gs rfl ?_
    refine gs rfl ?_
    refine and_i (Nat.le_of_ble_eq_true rfl) (cl0 (Nat.le_of_ble_eq_true rfl) (and_i (Nat.le_of_ble_eq_true rfl) ?_))
    refine gs rfl ?_
    refine gs rfl ?_
    refine gs rfl ?_
    refine gs rfl ?_
    refine gs rfl ?_
    refine and_2 rfl (vin rfl) ?_
    refine gs rfl ?_
    refine gs rfl ?_
    refine gs rfl ?_
    refine and_3 (Nat.le_of_ble_eq_true rfl) rfl (vin rfl) ?_
    refine gs rfl ?_
    refine gs rfl ?_
    refine gs rfl ?_
    refine gs rfl ?_
    refine and_i rfl ?_
    refine gs rfl ?_
    refine and_i rfl ?_
    refine FRg rfl (fun f => ?_)
    refine gs rfl ?_
    refine gs rfl ?_
    refine gs rfl ?_
    refine gs rfl ?_
    refine gs rfl ?_
    refine gs rfl ?_
    refine and_2 rfl (vin rfl) ?_
    refine gs rfl ?_
    refine and_i (Nat.le_of_ble_eq_true rfl) (cl0 (Nat.le_of_ble_eq_true rfl) (and_i (Nat.le_of_ble_eq_true rfl) ?_))
    refine gs rfl ?_
    refine gs rfl ?_
    refine gs rfl ?_
    refine gs rfl ?_
    refine and_i (Nat.le_of_ble_eq_true rfl) (cl0 (Nat.le_of_ble_eq_true rfl) (and_i (Nat.le_of_ble_eq_true rfl) ?_))
    refine gs rfl ?_
    refine gs rfl ?_
    refine gs rfl ?_
    refine ifT ((lt_k (a := (s1).toInt) (b := 1) (by rfl) (by rfl)).mpr (by omega)) ?_
    refine gs rfl ?_
    refine gs rfl ?_
    refine and_2 rfl (Or.inl rfl) ?_
    refine gs rfl ?_
    refine gs rfl ?_
    refine gs rfl ?_
    refine gs rfl ?_
    refine and_i (Nat.le_of_ble_eq_true rfl) (cl0 (Nat.le_of_ble_eq_true rfl) (and_i (Nat.le_of_ble_eq_true rfl) ?_))
    refine gs rfl ?_
    refine gs rfl ?_
    refine gs rfl ?_
    refine gs rfl ?_
    refine gs rfl ?_
    refine gs rfl ?_
    refine gs rfl ?_
    refine and_2 rfl (vin rfl) ?_
    refine gs rfl ?_
    refine gs rfl ?_
    refine gs rfl ?_
    refine and_3 (Nat.le_of_ble_eq_true rfl) rfl (vin rfl) ?_
    refine gs rfl ?_
    refine gs rfl ?_
    refine and_i rfl ?_
    refine gs rfl ?_
    refine and_i rfl ?_
    refine gs rfl ?_
    refine gs rfl ?_
    refine gs rfl ?_
    refine gs rfl ?_
    refine gs rfl ?_
    refine gs rfl ?_
    refine and_i (Or.inl rfl) ?_
    refine gwst (congrArg (fun z => Value.int z :: _) (alen_k (n := 6) (by rfl))) ?_
    refine gs rfl ?_
    refine gs rfl ?_
    refine gs rfl ?_
    refine gs rfl ?_
    refine gs rfl ?_
    refine and_2 rfl (Or.inr rfl) ?_
    exact rfl
  · have d2 : ¬ ((s1).toInt < 1) := fun q => c1 ((lt_k (by rfl) (by rfl)).mpr q)
    refine gs rfl ?_
    refine gs rfl ?_
    refine gs rfl ?_
    refine ifs (fun c3 => ?_) (fun c3 => ?_)
    · have d4 : (s1).toInt ≤ 5 := (le_k (by rfl) (by rfl)).mp c3
      refine gs rfl ?_
      refine gs rfl ?_
      refine gs rfl ?_
      obtain ⟨j5, e6, x7⟩ := nat_of (x := s1) (lo := 1) (hi := 5) (by omega) (by omega)
      rcases (show j5 = 1 ∨ j5 = 2 ∨ j5 = 3 ∨ j5 = 4 ∨ j5 = 5 by omega) with rfl | rfl | rfl | rfl | rfl
      · have x7q : s1 = (1 : Int32) := x7
        clear x7
        subst x7q
        refine gs rfl ?_
        refine and_2 rfl (vin rfl) ?_
        refine gs rfl ?_
        refine and_i rfl ?_
        refine FRg rfl (fun f => ?_)
        refine gs rfl ?_
        refine gs rfl ?_
        refine gs rfl ?_
        refine gs rfl ?_
        refine gs rfl ?_
        refine gs rfl ?_
        refine and_2 rfl (vin rfl) ?_
        refine gs rfl ?_
        refine and_i (Nat.le_of_ble_eq_true rfl) (cl0 (Nat.le_of_ble_eq_true rfl) (and_i (Nat.le_of_ble_eq_true rfl) ?_))
        refine gs rfl ?_
        refine gs rfl ?_
        refine gs rfl ?_
        refine gs rfl ?_
        refine and_i (Nat.le_of_ble_eq_true rfl) (cl0 (Nat.le_of_ble_eq_true rfl) (and_i (Nat.le_of_ble_eq_true rfl) ?_))
        refine gs rfl ?_
        refine gs rfl ?_
        refine gs rfl ?_
        refine gs rfl ?_
        refine gs rfl ?_
        refine gs rfl ?_
        refine gs rfl ?_
        refine gs rfl ?_
        refine gs rfl ?_
        refine and_2 rfl (Or.inr rfl) ?_
        refine gs rfl ?_
        refine gs rfl ?_
        refine gs rfl ?_
        refine gs rfl ?_
        refine gs rfl ?_
        refine and_2 rfl (vin rfl) ?_
        refine gs rfl ?_
        refine gs rfl ?_
        refine and_i rfl ?_
        refine gs rfl ?_
        refine gs rfl ?_
        refine gs rfl ?_
        refine gs rfl ?_
        refine gs rfl ?_
        refine gs rfl ?_
        refine and_i (Or.inl rfl) ?_
        refine gwst (congrArg (fun z => Value.int z :: _) (alen_k (n := 6) (by rfl))) ?_
        refine gs rfl ?_
        refine gs rfl ?_
        refine gs rfl ?_
        refine gs rfl ?_
        refine gs rfl ?_
        refine and_2 rfl (Or.inr rfl) ?_
        exact rfl
      · have x7q : s1 = (2 : Int32) := x7
        clear x7
        subst x7q
        refine gs rfl ?_
        refine and_2 rfl (vin rfl) ?_
        refine gs rfl ?_
        refine and_i rfl ?_
        refine FRg rfl (fun f => ?_)
        refine gs rfl ?_
        refine gs rfl ?_
        refine gs rfl ?_
        refine gs rfl ?_
        refine gs rfl ?_
        refine gs rfl ?_
        refine and_2 rfl (vin rfl) ?_
        refine gs rfl ?_
        refine and_i (Nat.le_of_ble_eq_true rfl) (cl0 (Nat.le_of_ble_eq_true rfl) (and_i (Nat.le_of_ble_eq_true rfl) ?_))
        refine gs rfl ?_
        refine gs rfl ?_
        refine gs rfl ?_
        refine gs rfl ?_
        refine and_i (Nat.le_of_ble_eq_true rfl) (cl0 (Nat.le_of_ble_eq_true rfl) (and_i (Nat.le_of_ble_eq_true rfl) ?_))
        refine gs rfl ?_
        refine gs rfl ?_
        refine gs rfl ?_
        refine gs rfl ?_
        refine gs rfl ?_
        refine gs rfl ?_
        refine gs rfl ?_
        refine gs rfl ?_
        refine gs rfl ?_
        refine and_2 rfl (Or.inr rfl) ?_
        refine gs rfl ?_
        refine gs rfl ?_
        refine gs rfl ?_
        refine gs rfl ?_
        refine gs rfl ?_
        refine and_2 rfl (vin rfl) ?_
        refine gs rfl ?_
        refine gs rfl ?_
        refine and_i rfl ?_
        refine gs rfl ?_
        refine gs rfl ?_
        refine gs rfl ?_
        refine gs rfl ?_
        refine gs rfl ?_
        refine gs rfl ?_
        refine and_i (Or.inl rfl) ?_
        refine gwst (congrArg (fun z => Value.int z :: _) (alen_k (n := 6) (by rfl))) ?_
        refine gs rfl ?_
        refine gs rfl ?_
        refine gs rfl ?_
        refine gs rfl ?_
        refine gs rfl ?_
        refine and_2 rfl (Or.inr rfl) ?_
        exact rfl
      · have x7q : s1 = (3 : Int32) := x7
        clear x7
        subst x7q
        refine gs rfl ?_
        refine and_2 rfl (vin rfl) ?_
        refine gs rfl ?_
        refine and_i rfl ?_
        refine FRg rfl (fun f => ?_)
        refine gs rfl ?_
        refine gs rfl ?_
        refine gs rfl ?_
        refine gs rfl ?_
        refine gs rfl ?_
        refine gs rfl ?_
        refine and_2 rfl (vin rfl) ?_
        refine gs rfl ?_
        refine and_i (Nat.le_of_ble_eq_true rfl) (cl0 (Nat.le_of_ble_eq_true rfl) (and_i (Nat.le_of_ble_eq_true rfl) ?_))
        refine gs rfl ?_
        refine gs rfl ?_
        refine gs rfl ?_
        refine gs rfl ?_
        refine and_i (Nat.le_of_ble_eq_true rfl) (cl0 (Nat.le_of_ble_eq_true rfl) (and_i (Nat.le_of_ble_eq_true rfl) ?_))
        refine gs rfl ?_
        refine gs rfl ?_
        refine gs rfl ?_
        refine gs rfl ?_
        refine gs rfl ?_
        refine gs rfl ?_
        refine gs rfl ?_
        refine gs rfl ?_
        refine gs rfl ?_
        refine and_2 rfl (Or.inr rfl) ?_
        refine gs rfl ?_
        refine gs rfl ?_
        refine gs rfl ?_
        refine gs rfl ?_
        refine gs rfl ?_
        refine and_2 rfl (vin rfl) ?_
        refine gs rfl ?_
        refine gs rfl ?_
        refine and_i rfl ?_
        refine gs rfl ?_
        refine gs rfl ?_
        refine gs rfl ?_
        refine gs rfl ?_
        refine gs rfl ?_
        refine gs rfl ?_
        refine and_i (Or.inl rfl) ?_
        refine gwst (congrArg (fun z => Value.int z :: _) (alen_k (n := 6) (by rfl))) ?_
        refine gs rfl ?_
        refine gs rfl ?_
        refine gs rfl ?_
        refine gs rfl ?_
        refine gs rfl ?_
        refine and_2 rfl (Or.inr rfl) ?_
        exact rfl
      · have x7q : s1 = (4 : Int32) := x7
        clear x7
        subst x7q
        refine gs rfl ?_
        refine and_2 rfl (vin rfl) ?_
        refine gs rfl ?_
        refine and_i rfl ?_
        refine FRg rfl (fun f => ?_)
        refine gs rfl ?_
        refine gs rfl ?_
        refine gs rfl ?_
        refine gs rfl ?_
        refine gs rfl ?_
        refine gs rfl ?_
        refine and_2 rfl (vin rfl) ?_
        refine gs rfl ?_
        refine and_i (Nat.le_of_ble_eq_true rfl) (cl0 (Nat.le_of_ble_eq_true rfl) (and_i (Nat.le_of_ble_eq_true rfl) ?_))
        refine gs rfl ?_
        refine gs rfl ?_
        refine gs rfl ?_
        refine gs rfl ?_
        refine and_i (Nat.le_of_ble_eq_true rfl) (cl0 (Nat.le_of_ble_eq_true rfl) (and_i (Nat.le_of_ble_eq_true rfl) ?_))
        refine gs rfl ?_
        refine gs rfl ?_
        refine gs rfl ?_
        refine gs rfl ?_
        refine gs rfl ?_
        refine gs rfl ?_
        refine gs rfl ?_
        refine gs rfl ?_
        refine gs rfl ?_
        refine and_2 rfl (Or.inr rfl) ?_
        refine gs rfl ?_
        refine gs rfl ?_
        refine gs rfl ?_
        refine gs rfl ?_
        refine gs rfl ?_
        refine and_2 rfl (vin rfl) ?_
        refine gs rfl ?_
        refine gs rfl ?_
        refine and_i rfl ?_
        refine gs rfl ?_
        refine gs rfl ?_
        refine gs rfl ?_
        refine gs rfl ?_
        refine gs rfl ?_
        refine gs rfl ?_
        refine and_i (Or.inl rfl) ?_
        refine gwst (congrArg (fun z => Value.int z :: _) (alen_k (n := 6) (by rfl))) ?_
        refine gs rfl ?_
        refine gs rfl ?_
        refine gs rfl ?_
        refine gs rfl ?_
        refine gs rfl ?_
        refine and_2 rfl (Or.inr rfl) ?_
        exact rfl
      · have x7q : s1 = (5 : Int32) := x7
        clear x7
        subst x7q
        refine gs rfl ?_
        refine and_2 rfl (vin rfl) ?_
        refine gs rfl ?_
        refine and_i rfl ?_
        refine FRg rfl (fun f => ?_)
        refine gs rfl ?_
        refine gs rfl ?_
        refine gs rfl ?_
        refine gs rfl ?_
        refine gs rfl ?_
        refine gs rfl ?_
        refine and_2 rfl (vin rfl) ?_
        refine gs rfl ?_
        refine and_i (Nat.le_of_ble_eq_true rfl) (cl0 (Nat.le_of_ble_eq_true rfl) (and_i (Nat.le_of_ble_eq_true rfl) ?_))
        refine gs rfl ?_
        refine gs rfl ?_
        refine gs rfl ?_
        refine gs rfl ?_
        refine and_i (Nat.le_of_ble_eq_true rfl) (cl0 (Nat.le_of_ble_eq_true rfl) (and_i (Nat.le_of_ble_eq_true rfl) ?_))
        refine gs rfl ?_
        refine gs rfl ?_
        refine gs rfl ?_
        refine gs rfl ?_
        refine gs rfl ?_
        refine gs rfl ?_
        refine gs rfl ?_
        refine gs rfl ?_
        refine gs rfl ?_
        refine and_2 rfl (Or.inr rfl) ?_
        refine gs rfl ?_
        refine gs rfl ?_
        refine gs rfl ?_
        refine gs rfl ?_
        refine gs rfl ?_
        refine and_2 rfl (vin rfl) ?_
        refine gs rfl ?_
        refine gs rfl ?_
        refine and_i rfl ?_
        refine gs rfl ?_
        refine gs rfl ?_
        refine gs rfl ?_
        refine gs rfl ?_
        refine gs rfl ?_
        refine gs rfl ?_
        refine and_i (Or.inl rfl) ?_
        refine gwst (congrArg (fun z => Value.int z :: _) (alen_k (n := 6) (by rfl))) ?_
        refine gs rfl ?_
        refine gs rfl ?_
        refine gs rfl ?_
        refine gs rfl ?_
        refine gs rfl ?_
        refine and_2 rfl (Or.inr rfl) ?_
        exact rfl
    · have d4 : ¬ ((s1).toInt ≤ 5) := fun q => c3 ((le_k (by rfl) (by rfl)).mpr q)
      refine gs rfl ?_
      refine gs rfl ?_
      refine gs rfl ?_
      refine and_i (Nat.le_of_ble_eq_true rfl) (cl0 (Nat.le_of_ble_eq_true rfl) (and_i (Nat.le_of_ble_eq_true rfl) ?_))
      refine gs rfl ?_
      refine gs rfl ?_
      refine gs rfl ?_
      refine gs rfl ?_
      refine gs rfl ?_
      refine and_2 rfl (vin rfl) ?_
      refine gs rfl ?_
      refine gs rfl ?_
      refine gs rfl ?_
      refine and_3 (Nat.le_of_ble_eq_true rfl) rfl (vin rfl) ?_
      refine gs rfl ?_
      refine gs rfl ?_
      refine gs rfl ?_
      refine gs rfl ?_
      refine and_i rfl ?_
      refine gs rfl ?_
      refine and_i rfl ?_
      refine FRg rfl (fun f => ?_)
      refine gs rfl ?_
      refine gs rfl ?_
      refine gs rfl ?_
      refine gs rfl ?_
      refine gs rfl ?_
      refine gs rfl ?_
      refine and_2 rfl (vin rfl) ?_
      refine gs rfl ?_
      refine and_i (Nat.le_of_ble_eq_true rfl) (cl0 (Nat.le_of_ble_eq_true rfl) (and_i (Nat.le_of_ble_eq_true rfl) ?_))
      refine gs rfl ?_
      refine gs rfl ?_
      refine gs rfl ?_
      refine gs rfl ?_
      refine and_i (Nat.le_of_ble_eq_true rfl) (cl0 (Nat.le_of_ble_eq_true rfl) (and_i (Nat.le_of_ble_eq_true rfl) ?_))
      refine gs rfl ?_
      refine gs rfl ?_
      refine gs rfl ?_
      refine ifF ((fun q => absurd ((lt_k (a := (s1).toInt) (b := 1) (by rfl) (by rfl)).mp q) (by omega))) ?_
      refine gs rfl ?_
      refine gs rfl ?_
      refine gs rfl ?_
      refine ifT ((lt_k (a := 5) (b := (s1).toInt) (by rfl) (by rfl)).mpr (by omega)) ?_
      refine gs rfl ?_
      refine gs rfl ?_
      refine and_2 rfl (Or.inl rfl) ?_
      refine gs rfl ?_
      refine gs rfl ?_
      refine gs rfl ?_
      refine gs rfl ?_
      refine and_i (Nat.le_of_ble_eq_true rfl) (cl0 (Nat.le_of_ble_eq_true rfl) (and_i (Nat.le_of_ble_eq_true rfl) ?_))
      refine gs rfl ?_
      refine gs rfl ?_
      refine gs rfl ?_
      refine gs rfl ?_
      refine gs rfl ?_
      refine gs rfl ?_
      refine gs rfl ?_
      refine and_2 rfl (vin rfl) ?_
      refine gs rfl ?_
      refine gs rfl ?_
      refine gs rfl ?_
      refine and_3 (Nat.le_of_ble_eq_true rfl) rfl (vin rfl) ?_
      refine gs rfl ?_
      refine gs rfl ?_
      refine and_i rfl ?_
      refine gs rfl ?_
      refine and_i rfl ?_
      refine gs rfl ?_
      refine gs rfl ?_
      refine gs rfl ?_
      refine gs rfl ?_
      refine gs rfl ?_
      refine gs rfl ?_
      refine and_i (Or.inl rfl) ?_
      refine gwst (congrArg (fun z => Value.int z :: _) (alen_k (n := 6) (by rfl))) ?_
      refine gs rfl ?_
      refine gs rfl ?_
      refine gs rfl ?_
      refine gs rfl ?_
      refine gs rfl ?_
      refine and_2 rfl (Or.inr rfl) ?_
      exact rfl
