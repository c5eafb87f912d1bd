/-! THE LAW'S CASES 32, 33, 34, 35, 36, 37, 38, over two new objects -/
set_option maxRecDepth 20000 in
set_option maxHeartbeats 40000000 in
theorem lc_32 {s0 s1 s2 s3 s4 s5 : Int32} {d mc ms : Nat} : gw [s0, s1, s2, s3, s4, s5] (WP [s0, s1, s2, s3, s4, s5] (d + 20)) 190 (fun r _ => r = some (.int 1)) 1274 [some (.ref 0), some (.ref 32), some (.ref 89), some (.int 0)] [] (hX0 ++ hM0) mc ms := by
  refine gs rfl ?_
  refine gs rfl ?_
  refine gs rfl ?_
  refine gs rfl ?_
  refine gs rfl ?_
  refine gs rfl ?_
  refine and_2 rfl (vin rfl) ?_
  refine gs rfl ?_
  refine and_i (Nat.le_of_ble_eq_true rfl) (cl0 (Nat.le_of_ble_eq_true rfl) (and_i (Nat.le_of_ble_eq_true rfl) ?_))
  refine gs rfl ?_
  refine gs rfl ?_
  refine gs rfl ?_
  refine and_i (Nat.le_of_ble_eq_true rfl) (cl0 (Nat.le_of_ble_eq_true rfl) (and_i (Nat.le_of_ble_eq_true rfl) ?_))
  refine gs rfl ?_
  refine gs rfl ?_
  refine ifs (fun c1 => ?_) (fun c1 => ?_)
  · have d2 : (s1).toInt < 0 := (lt_k (by rfl) (by rfl)).mp c1
    refine gs rfl ?_
    refine gs rfl ?_
    refine and_2 rfl (Or.inl rfl) ?_
    refine gs rfl ?_
    refine gs rfl ?_
    refine gs rfl ?_
    refine gs rfl ?_
    refine and_i (Nat.le_of_ble_eq_true rfl) (cl0 (Nat.le_of_ble_eq_true rfl) (and_i (Nat.le_of_ble_eq_true rfl) ?_))
    refine gs rfl ?_
    refine gs rfl ?_
    refine gs rfl ?_
    refine gs rfl ?_
    refine gs rfl ?_
    refine and_2 rfl (vin rfl) ?_
    refine gs rfl ?_
    refine gs rfl ?_
    refine gs rfl ?_
    refine and_3 (Nat.le_of_ble_eq_true rfl) rfl (vin rfl) ?_
    refine gs rfl ?_
    refine gs rfl ?_
    refine gs rfl ?_
    refine gs rfl ?_
    refine and_i rfl ?_
    refine gs rfl ?_
    refine and_i rfl ?_
    refine FRg rfl (fun f => ?_)
    refine gs rfl ?_
    refine gs rfl ?_
    refine gs rfl ?_
    refine gs rfl ?_
    refine gs rfl ?_
    refine gs rfl ?_
    refine and_2 rfl (vin rfl) ?_
    refine gs rfl ?_
    refine and_i (Nat.le_of_ble_eq_true rfl) (cl0 (Nat.le_of_ble_eq_true rfl) (and_i (Nat.le_of_ble_eq_true rfl) ?_))
    refine gs rfl ?_
    refine gs rfl ?_
    refine and_i (Nat.le_of_ble_eq_true rfl) (cl0 (Nat.le_of_ble_eq_true rfl) (and_i (Nat.le_of_ble_eq_true rfl) ?_))
    refine gs rfl ?_
    refine gs rfl ?_
    refine gs rfl ?_
    refine gs rfl ?_
    refine and_i (Nat.le_of_ble_eq_true rfl) (cl0 (Nat.le_of_ble_eq_true rfl) (and_i (Nat.le_of_ble_eq_true rfl) ?_))
    refine gs rfl ?_
    refine gs rfl ?_
    refine gs rfl ?_
    refine ifT ((lt_k (a := (s1).toInt) (b := 0) (by rfl) (by rfl)).mpr (by omega)) ?_
    refine gs rfl ?_
    refine gs rfl ?_
    refine and_2 rfl (Or.inl rfl) ?_
    refine gs rfl ?_
    refine and_2 rfl (Or.inl rfl) ?_
    refine gs rfl ?_
    refine gs rfl ?_
    refine gs rfl ?_
    refine gs rfl ?_
    refine and_i (Nat.le_of_ble_eq_true rfl) (cl0 (Nat.le_of_ble_eq_true rfl) (and_i (Nat.le_of_ble_eq_true rfl) ?_))
    refine gs rfl ?_
    refine gs rfl ?_
    refine gs rfl ?_
    refine gs rfl ?_
    refine gs rfl ?_
    refine gs rfl ?_
    refine gs rfl ?_
    refine and_2 rfl (vin rfl) ?_
    refine gs rfl ?_
    refine gs rfl ?_
    refine gs rfl ?_
    refine and_3 (Nat.le_of_ble_eq_true rfl) rfl (vin rfl) ?_
    refine gs rfl ?_
    refine gs rfl ?_
    refine and_i rfl ?_
    refine gs rfl ?_
    refine and_i rfl ?_
    refine gs rfl ?_
    refine gs rfl ?_
    refine gs rfl ?_
    refine gs rfl ?_
    refine gs rfl ?_
    refine gs rfl ?_
    refine and_i (Or.inl rfl) ?_
    refine gwst (congrArg (fun z => Value.int z :: _) (alen_k (n := 6) (by rfl))) ?_
    refine gs rfl ?_
    refine gs rfl ?_
    refine gs rfl ?_
    refine gs rfl ?_
    refine gs rfl ?_
    refine and_2 rfl (Or.inr rfl) ?_
    exact rfl
  · have d2 : ¬ ((s1).toInt < 0) := fun q => c1 ((lt_k (by rfl) (by rfl)).mpr q)
    refine gs rfl ?_
    refine gs rfl ?_
    refine gs rfl ?_
    refine ifs (fun c3 => ?_) (fun c3 => ?_)
    · have d4 : 3 < (s1).toInt := (lt_k (by rfl) (by rfl)).mp c3
      refine gs rfl ?_
      refine gs rfl ?_
      refine and_2 rfl (Or.inl rfl) ?_
      refine gs rfl ?_
      refine gs rfl ?_
      refine gs rfl ?_
      refine gs rfl ?_
      refine and_i (Nat.le_of_ble_eq_true rfl) (cl0 (Nat.le_of_ble_eq_true rfl) (and_i (Nat.le_of_ble_eq_true rfl) ?_))
      refine gs rfl ?_
      refine gs rfl ?_
      refine gs rfl ?_
      refine gs rfl ?_
      refine gs rfl ?_
      refine and_2 rfl (vin rfl) ?_
      refine gs rfl ?_
      refine gs rfl ?_
      refine gs rfl ?_
      refine and_3 (Nat.le_of_ble_eq_true rfl) rfl (vin rfl) ?_
      refine gs rfl ?_
      refine gs rfl ?_
      refine gs rfl ?_
      refine gs rfl ?_
      refine and_i rfl ?_
      refine gs rfl ?_
      refine and_i rfl ?_
      refine FRg rfl (fun f => ?_)
      refine gs rfl ?_
      refine gs rfl ?_
      refine gs rfl ?_
      refine gs rfl ?_
      refine gs rfl ?_
      refine gs rfl ?_
      refine and_2 rfl (vin rfl) ?_
      refine gs rfl ?_
      refine and_i (Nat.le_of_ble_eq_true rfl) (cl0 (Nat.le_of_ble_eq_true rfl) (and_i (Nat.le_of_ble_eq_true rfl) ?_))
      refine gs rfl ?_
      refine gs rfl ?_
      refine and_i (Nat.le_of_ble_eq_true rfl) (cl0 (Nat.le_of_ble_eq_true rfl) (and_i (Nat.le_of_ble_eq_true rfl) ?_))
      refine gs rfl ?_
      refine gs rfl ?_
      refine gs rfl ?_
      refine gs rfl ?_
      refine and_i (Nat.le_of_ble_eq_true rfl) (cl0 (Nat.le_of_ble_eq_true rfl) (and_i (Nat.le_of_ble_eq_true rfl) ?_))
      refine gs rfl ?_
      refine gs rfl ?_
      refine gs rfl ?_
      refine ifF ((fun q => absurd ((lt_k (a := (s1).toInt) (b := 0) (by rfl) (by rfl)).mp q) (by omega))) ?_
      refine gs rfl ?_
      refine gs rfl ?_
      refine gs rfl ?_
      refine ifT ((lt_k (a := 3) (b := (s1).toInt) (by rfl) (by rfl)).mpr (by omega)) ?_
      refine gs rfl ?_
      refine gs rfl ?_
      refine and_2 rfl (Or.inl rfl) ?_
      refine gs rfl ?_
      refine and_2 rfl (Or.inl rfl) ?_
      refine gs rfl ?_
      refine gs rfl ?_
      refine gs rfl ?_
      refine gs rfl ?_
      refine and_i (Nat.le_of_ble_eq_true rfl) (cl0 (Nat.le_of_ble_eq_true rfl) (and_i (Nat.le_of_ble_eq_true rfl) ?_))
      refine gs rfl ?_
      refine gs rfl ?_
      refine gs rfl ?_
      refine gs rfl ?_
      refine gs rfl ?_
      refine gs rfl ?_
      refine gs rfl ?_
      refine and_2 rfl (vin rfl) ?_
      refine gs rfl ?_
      refine gs rfl ?_
      refine gs rfl ?_
      refine and_3 (Nat.le_of_ble_eq_true rfl) rfl (vin rfl) ?_
      refine gs rfl ?_
      refine gs rfl ?_
      refine and_i rfl ?_
      refine gs rfl ?_
      refine and_i rfl ?_
      refine gs rfl ?_
      refine gs rfl ?_
      refine gs rfl ?_
      refine gs rfl ?_
      refine gs rfl ?_
      refine gs rfl ?_
      refine and_i (Or.inl rfl) ?_
      refine gwst (congrArg (fun z => Value.int z :: _) (alen_k (n := 6) (by rfl))) ?_
      refine gs rfl ?_
      refine gs rfl ?_
      refine gs rfl ?_
      refine gs rfl ?_
      refine gs rfl ?_
      refine and_2 rfl (Or.inr rfl) ?_
      exact rfl
    · have d4 : ¬ (3 < (s1).toInt) := fun q => c3 ((lt_k (by rfl) (by rfl)).mpr q)
      refine gs rfl ?_
      refine gs rfl ?_
      refine gs rfl ?_
      refine and_2 rfl (Or.inr rfl) ?_
      refine gs rfl ?_
      refine gs rfl ?_
      refine gs rfl ?_
      refine gs rfl ?_
      obtain ⟨j5, e6, x7⟩ := nat_of (x := s1) (lo := 0) (hi := 3) (by omega) (by omega)
      rcases (show j5 = 0 ∨ j5 = 1 ∨ j5 = 2 ∨ j5 = 3 by omega) with rfl | rfl | rfl | rfl
      · have x7q : s1 = (0 : Int32) := x7
        clear x7
        subst x7q
        refine gs rfl ?_
        refine and_2 (Nat.le_of_ble_eq_true rfl) (vin rfl) ?_
        refine and_2 rfl (fun z q => by cases q) ?_
        refine gs rfl ?_
        refine gs rfl ?_
        refine gs rfl ?_
        refine gs rfl ?_
        refine gs rfl ?_
        refine gs rfl ?_
        refine gs rfl ?_
        refine and_i (Nat.le_of_ble_eq_true rfl) (cl0 (Nat.le_of_ble_eq_true rfl) (and_i (Nat.le_of_ble_eq_true rfl) ?_))
        refine gs rfl ?_
        refine gs rfl ?_
        refine gs rfl ?_
        refine gs rfl ?_
        refine gs rfl ?_
        refine and_2 rfl (vin rfl) ?_
        refine gs rfl ?_
        refine gs rfl ?_
        refine gs rfl ?_
        refine and_3 (Nat.le_of_ble_eq_true rfl) rfl (vin rfl) ?_
        refine gs rfl ?_
        refine gs rfl ?_
        refine gs rfl ?_
        refine gs rfl ?_
        refine and_i rfl ?_
        refine gs rfl ?_
        refine and_i rfl ?_
        refine FRg rfl (fun f => ?_)
        refine gs rfl ?_
        refine gs rfl ?_
        refine gs rfl ?_
        refine gs rfl ?_
        refine gs rfl ?_
        refine gs rfl ?_
        refine and_2 rfl (vin rfl) ?_
        refine gs rfl ?_
        refine and_i (Nat.le_of_ble_eq_true rfl) (cl0 (Nat.le_of_ble_eq_true rfl) (and_i (Nat.le_of_ble_eq_true rfl) ?_))
        refine gs rfl ?_
        refine gs rfl ?_
        refine and_i (Nat.le_of_ble_eq_true rfl) (cl0 (Nat.le_of_ble_eq_true rfl) (and_i (Nat.le_of_ble_eq_true rfl) ?_))
        refine gs rfl ?_
        refine gs rfl ?_
        refine gs rfl ?_
        refine gs rfl ?_
        refine and_i (Nat.le_of_ble_eq_true rfl) (cl0 (Nat.le_of_ble_eq_true rfl) (and_i (Nat.le_of_ble_eq_true rfl) ?_))
        refine gs rfl ?_
        refine gs rfl ?_
        refine gs rfl ?_
        refine gs rfl ?_
        refine gs rfl ?_
        refine gs rfl ?_
        refine gs rfl ?_
        refine gs rfl ?_
        refine gs rfl ?_
        refine and_2 rfl (Or.inr rfl) ?_
        refine gs rfl ?_
        refine and_2 rfl (Or.inr rfl) ?_
        refine gs rfl ?_
        refine gs rfl ?_
        refine gs rfl ?_
        refine gs rfl ?_
        refine gs rfl ?_
        refine and_2 rfl (vin rfl) ?_
        refine gs rfl ?_
        refine gs rfl ?_
        refine gs rfl ?_
        refine gs rfl ?_
        refine and_i (Nat.le_of_ble_eq_true rfl) (cl0 (Nat.le_of_ble_eq_true rfl) (and_i (Nat.le_of_ble_eq_true rfl) ?_))
        refine gs rfl ?_
        refine gs rfl ?_
        refine gs rfl ?_
        refine gs rfl ?_
        refine gs rfl ?_
        refine gs rfl ?_
        refine gs rfl ?_
        refine and_2 rfl (vin rfl) ?_
        refine gs rfl ?_
        refine gs rfl ?_
        refine gs rfl ?_
        refine and_3 (Nat.le_of_ble_eq_true rfl) rfl (vin rfl) ?_
        refine gs rfl ?_
        refine gs rfl ?_
        refine and_i rfl ?_
        refine gs rfl ?_
        refine and_i rfl ?_
        refine gs rfl ?_
        refine gs rfl ?_
        refine gs rfl ?_
        refine gs rfl ?_
        refine gs rfl ?_
        refine gs rfl ?_
        refine and_i (Or.inl rfl) ?_
        refine gwst (congrArg (fun z => Value.int z :: _) (alen_k (n := 6) (by rfl))) ?_
        refine gs rfl ?_
        refine gs rfl ?_
        refine gs rfl ?_
        refine gs rfl ?_
        refine gs rfl ?_
        refine and_2 rfl (Or.inr rfl) ?_
        exact rfl
      · have x7q : s1 = (1 : Int32) := x7
        clear x7
        subst x7q
        refine gs rfl ?_
        refine and_2 (Nat.le_of_ble_eq_true rfl) (vin rfl) ?_
        refine and_2 rfl (fun z q => by cases q) ?_
        refine gs rfl ?_
        refine gs rfl ?_
        refine gs rfl ?_
        refine gs rfl ?_
        refine gs rfl ?_
        refine gs rfl ?_
        refine gs rfl ?_
        refine and_i (Nat.le_of_ble_eq_true rfl) (cl0 (Nat.le_of_ble_eq_true rfl) (and_i (Nat.le_of_ble_eq_true rfl) ?_))
        refine gs rfl ?_
        refine gs rfl ?_
        refine gs rfl ?_
        refine gs rfl ?_
        refine gs rfl ?_
        refine and_2 rfl (vin rfl) ?_
        refine gs rfl ?_
        refine gs rfl ?_
        refine gs rfl ?_
        refine and_3 (Nat.le_of_ble_eq_true rfl) rfl (vin rfl) ?_
        refine gs rfl ?_
        refine gs rfl ?_
        refine gs rfl ?_
        refine gs rfl ?_
        refine and_i rfl ?_
        refine gs rfl ?_
        refine and_i rfl ?_
        refine FRg rfl (fun f => ?_)
        refine gs rfl ?_
        refine gs rfl ?_
        refine gs rfl ?_
        refine gs rfl ?_
        refine gs rfl ?_
        refine gs rfl ?_
        refine and_2 rfl (vin rfl) ?_
        refine gs rfl ?_
        refine and_i (Nat.le_of_ble_eq_true rfl) (cl0 (Nat.le_of_ble_eq_true rfl) (and_i (Nat.le_of_ble_eq_true rfl) ?_))
        refine gs rfl ?_
        refine gs rfl ?_
        refine and_i (Nat.le_of_ble_eq_true rfl) (cl0 (Nat.le_of_ble_eq_true rfl) (and_i (Nat.le_of_ble_eq_true rfl) ?_))
        refine gs rfl ?_
        refine gs rfl ?_
        refine gs rfl ?_
        refine gs rfl ?_
        refine and_i (Nat.le_of_ble_eq_true rfl) (cl0 (Nat.le_of_ble_eq_true rfl) (and_i (Nat.le_of_ble_eq_true rfl) ?_))
        refine gs rfl ?_
        refine gs rfl ?_
        refine gs rfl ?_
        refine gs rfl ?_
        refine gs rfl ?_
        refine gs rfl ?_
        refine gs rfl ?_
        refine gs rfl ?_
        refine gs rfl ?_
        refine and_2 rfl (Or.inr rfl) ?_
        refine gs rfl ?_
        refine and_2 rfl (Or.inr rfl) ?_
        refine gs rfl ?_
        refine gs rfl ?_
        refine gs rfl ?_
        refine gs rfl ?_
        refine gs rfl ?_
        refine and_2 rfl (vin rfl) ?_
        refine gs rfl ?_
        refine gs rfl ?_
        refine gs rfl ?_
        refine gs rfl ?_
        refine and_i (Nat.le_of_ble_eq_true rfl) (cl0 (Nat.le_of_ble_eq_true rfl) (and_i (Nat.le_of_ble_eq_true rfl) ?_))
        refine gs rfl ?_
        refine gs rfl ?_
        refine gs rfl ?_
        refine gs rfl ?_
        refine gs rfl ?_
        refine gs rfl ?_
        refine gs rfl ?_
        refine and_2 rfl (vin rfl) ?_
        refine gs rfl ?_
        refine gs rfl ?_
        refine gs rfl ?_
        refine and_3 (Nat.le_of_ble_eq_true rfl) rfl (vin rfl) ?_
        refine gs rfl ?_
        refine gs rfl ?_
        refine and_i rfl ?_
        refine gs rfl ?_
        refine and_i rfl ?_
        refine gs rfl ?_
        refine gs rfl ?_
        refine gs rfl ?_
        refine gs rfl ?_
        refine gs rfl ?_
        refine gs rfl ?_
        refine and_i (Or.inl rfl) ?_
        refine gwst (congrArg (fun z => Value.int z :: _) (alen_k (n := 6) (by rfl))) ?_
        refine gs rfl ?_
        refine gs rfl ?_
        refine gs rfl ?_
        refine gs rfl ?_
        refine gs rfl ?_
        refine and_2 rfl (Or.inr rfl) ?_
        exact rfl
      · have x7q : s1 = (2 : Int32) := x7
        clear x7
        subst x7q
        refine gs rfl ?_
        refine and_2 (Nat.le_of_ble_eq_true rfl) (vin rfl) ?_
        refine and_2 rfl (fun z q => by cases q) ?_
        refine gs rfl ?_
        refine gs rfl ?_
        refine gs rfl ?_
        refine gs rfl ?_
        refine gs rfl ?_
        refine gs rfl ?_
        refine gs rfl ?_
        refine and_i (Nat.le_of_ble_eq_true rfl) (cl0 (Nat.le_of_ble_eq_true rfl) (and_i (Nat.le_of_ble_eq_true rfl) ?_))
        refine gs rfl ?_
        refine gs rfl ?_
        refine gs rfl ?_
        refine gs rfl ?_
        refine gs rfl ?_
        refine and_2 rfl (vin rfl) ?_
        refine gs rfl ?_
        refine gs rfl ?_
        refine gs rfl ?_
        refine and_3 (Nat.le_of_ble_eq_true rfl) rfl (vin rfl) ?_
        refine gs rfl ?_
        refine gs rfl ?_
        refine gs rfl ?_
        refine gs rfl ?_
        refine and_i rfl ?_
        refine gs rfl ?_
        refine and_i rfl ?_
        refine FRg rfl (fun f => ?_)
        refine gs rfl ?_
        refine gs rfl ?_
        refine gs rfl ?_
        refine gs rfl ?_
        refine gs rfl ?_
        refine gs rfl ?_
        refine and_2 rfl (vin rfl) ?_
        refine gs rfl ?_
        refine and_i (Nat.le_of_ble_eq_true rfl) (cl0 (Nat.le_of_ble_eq_true rfl) (and_i (Nat.le_of_ble_eq_true rfl) ?_))
        refine gs rfl ?_
        refine gs rfl ?_
        refine and_i (Nat.le_of_ble_eq_true rfl) (cl0 (Nat.le_of_ble_eq_true rfl) (and_i (Nat.le_of_ble_eq_true rfl) ?_))
        refine gs rfl ?_
        refine gs rfl ?_
        refine gs rfl ?_
        refine gs rfl ?_
        refine and_i (Nat.le_of_ble_eq_true rfl) (cl0 (Nat.le_of_ble_eq_true rfl) (and_i (Nat.le_of_ble_eq_true rfl) ?_))
        refine gs rfl ?_
        refine gs rfl ?_
        refine gs rfl ?_
        refine gs rfl ?_
        refine gs rfl ?_
        refine gs rfl ?_
        refine gs rfl ?_
        refine gs rfl ?_
        refine gs rfl ?_
        refine and_2 rfl (Or.inr rfl) ?_
        refine gs rfl ?_
        refine and_2 rfl (Or.inr rfl) ?_
        refine gs rfl ?_
        refine gs rfl ?_
        refine gs rfl ?_
        refine gs rfl ?_
        refine gs rfl ?_
        refine and_2 rfl (vin rfl) ?_
        refine gs rfl ?_
        refine gs rfl ?_
        refine gs rfl ?_
        refine gs rfl ?_
        refine and_i (Nat.le_of_ble_eq_true rfl) (cl0 (Nat.le_of_ble_eq_true rfl) (and_i (Nat.le_of_ble_eq_true rfl) ?_))
        refine gs rfl ?_
        refine gs rfl ?_
        refine gs rfl ?_
        refine gs rfl ?_
        refine gs rfl ?_
        refine gs rfl ?_
        refine gs rfl ?_
        refine and_2 rfl (vin rfl) ?_
        refine gs rfl ?_
        refine gs rfl ?_
        refine gs rfl ?_
        refine and_3 (Nat.le_of_ble_eq_true rfl) rfl (vin rfl) ?_
        refine gs rfl ?_
        refine gs rfl ?_
        refine and_i rfl ?_
        refine gs rfl ?_
        refine and_i rfl ?_
        refine gs rfl ?_
        refine gs rfl ?_
        refine gs rfl ?_
        refine gs rfl ?_
        refine gs rfl ?_
        refine gs rfl ?_
        refine and_i (Or.inl rfl) ?_
        refine gwst (congrArg (fun z => Value.int z :: _) (alen_k (n := 6) (by rfl))) ?_
        refine gs rfl ?_
        refine gs rfl ?_
        refine gs rfl ?_
        refine gs rfl ?_
        refine gs rfl ?_
        refine and_2 rfl (Or.inr rfl) ?_
        exact rfl
      · have x7q : s1 = (3 : Int32) := x7
        clear x7
        subst x7q
        refine gs rfl ?_
        refine and_2 (Nat.le_of_ble_eq_true rfl) (vin rfl) ?_
        refine and_2 rfl (fun z q => by cases q) ?_
        refine gs rfl ?_
        refine gs rfl ?_
        refine gs rfl ?_
        refine gs rfl ?_
        refine gs rfl ?_
        refine gs rfl ?_
        refine gs rfl ?_
        refine and_i (Nat.le_of_ble_eq_true rfl) (cl0 (Nat.le_of_ble_eq_true rfl) (and_i (Nat.le_of_ble_eq_true rfl) ?_))
        refine gs rfl ?_
        refine gs rfl ?_
        refine gs rfl ?_
        refine gs rfl ?_
        refine gs rfl ?_
        refine and_2 rfl (vin rfl) ?_
        refine gs rfl ?_
        refine gs rfl ?_
        refine gs rfl ?_
        refine and_3 (Nat.le_of_ble_eq_true rfl) rfl (vin rfl) ?_
        refine gs rfl ?_
        refine gs rfl ?_
        refine gs rfl ?_
        refine gs rfl ?_
        refine and_i rfl ?_
        refine gs rfl ?_
        refine and_i rfl ?_
        refine FRg rfl (fun f => ?_)
        refine gs rfl ?_
        refine gs rfl ?_
        refine gs rfl ?_
        refine gs rfl ?_
        refine gs rfl ?_
        refine gs rfl ?_
        refine and_2 rfl (vin rfl) ?_
        refine gs rfl ?_
        refine and_i (Nat.le_of_ble_eq_true rfl) (cl0 (Nat.le_of_ble_eq_true rfl) (and_i (Nat.le_of_ble_eq_true rfl) ?_))
        refine gs rfl ?_
        refine gs rfl ?_
        refine and_i (Nat.le_of_ble_eq_true rfl) (cl0 (Nat.le_of_ble_eq_true rfl) (and_i (Nat.le_of_ble_eq_true rfl) ?_))
        refine gs rfl ?_
        refine gs rfl ?_
        refine gs rfl ?_
        refine gs rfl ?_
        refine and_i (Nat.le_of_ble_eq_true rfl) (cl0 (Nat.le_of_ble_eq_true rfl) (and_i (Nat.le_of_ble_eq_true rfl) ?_))
        refine gs rfl ?_
        refine gs rfl ?_
        refine gs rfl ?_
        refine gs rfl ?_
        refine gs rfl ?_
        refine gs rfl ?_
        refine gs rfl ?_
        refine gs rfl ?_
        refine gs rfl ?_
        refine and_2 rfl (Or.inr rfl) ?_
        refine gs rfl ?_
        refine and_2 rfl (Or.inr rfl) ?_
        refine gs rfl ?_
        refine gs rfl ?_
        refine gs rfl ?_
        refine gs rfl ?_
        refine gs rfl ?_
        refine and_2 rfl (vin rfl) ?_
        refine gs rfl ?_
        refine gs rfl ?_
        refine gs rfl ?_
        refine gs rfl ?_
        refine and_i (Nat.le_of_ble_eq_true rfl) (cl0 (Nat.le_of_ble_eq_true rfl) (and_i (Nat.le_of_ble_eq_true rfl) ?_))
        refine gs rfl ?_
        refine gs rfl ?_
        refine gs rfl ?_
        refine gs rfl ?_
        refine gs rfl ?_
        refine gs rfl ?_
        refine gs rfl ?_
        refine and_2 rfl (vin rfl) ?_
        refine gs rfl ?_
        refine gs rfl ?_
        refine gs rfl ?_
        refine and_3 (Nat.le_of_ble_eq_true rfl) rfl (vin rfl) ?_
        refine gs rfl ?_
        refine gs rfl ?_
        refine and_i rfl ?_
        refine gs rfl ?_
        refine and_i rfl ?_
        refine gs rfl ?_
        refine gs rfl ?_
        refine gs rfl ?_
        refine gs rfl ?_
        refine gs rfl ?_
        refine gs rfl ?_
        refine and_i (Or.inl rfl) ?_
        refine gwst (congrArg (fun z => Value.int z :: _) (alen_k (n := 6) (by rfl))) ?_
        refine gs rfl ?_
        refine gs rfl ?_
        refine gs rfl ?_
        refine gs rfl ?_
        refine gs rfl ?_
        refine and_2 rfl (Or.inr rfl) ?_
        exact rfl
set_option maxRecDepth 20000 in
set_option maxHeartbeats 40000000 in
theorem lc_33 {s0 s1 s2 s3 s4 s5 : Int32} {d mc ms : Nat} : gw [s0, s1, s2, s3, s4, s5] (WP [s0, s1, s2, s3, s4, s5] (d + 20)) 190 (fun r _ => r = some (.int 1)) 1297 [some (.ref 0), some (.ref 32), some (.ref 89), some (.int 0)] [] (hX0 ++ hM0) mc ms := by
  refine gs rfl ?_
  refine gs rfl ?_
  refine gs rfl ?_
  refine gs rfl ?_
  refine gs rfl ?_
  refine gs rfl ?_
  refine and_2 rfl (vin rfl) ?_
  refine gs rfl ?_
  refine and_i (Nat.le_of_ble_eq_true rfl) (cl0 (Nat.le_of_ble_eq_true rfl) (and_i (Nat.le_of_ble_eq_true rfl) ?_))
  refine gs rfl ?_
  refine gs rfl ?_
  refine gs rfl ?_
  refine and_i (Nat.le_of_ble_eq_true rfl) (cl0 (Nat.le_of_ble_eq_true rfl) (and_i (Nat.le_of_ble_eq_true rfl) ?_))
  refine gs rfl ?_
  refine gs rfl ?_
  refine ifs (fun c1 => ?_) (fun c1 => ?_)
  · have d2 : (s1).toInt < 0 := (lt_k (by rfl) (by rfl)).mp c1
    refine gs rfl ?_
    refine gs rfl ?_
    refine and_2 rfl (Or.inl rfl) ?_
    refine gs rfl ?_
    refine gs rfl ?_
    refine gs rfl ?_
    refine gs rfl ?_
    refine and_i (Nat.le_of_ble_eq_true rfl) (cl0 (Nat.le_of_ble_eq_true rfl) (and_i (Nat.le_of_ble_eq_true rfl) ?_))
    refine gs rfl ?_
    refine gs rfl ?_
    refine gs rfl ?_
    refine gs rfl ?_
    refine gs rfl ?_
    refine and_2 rfl (vin rfl) ?_
    refine gs rfl ?_
    refine gs rfl ?_
    refine gs rfl ?_
    refine and_3 (Nat.le_of_ble_eq_true rfl) rfl (vin rfl) ?_
    refine gs rfl ?_
    refine gs rfl ?_
    refine gs rfl ?_
    refine gs rfl ?_
    refine and_i rfl ?_
    refine gs rfl ?_
    refine and_i rfl ?_
    refine FRg rfl (fun f => ?_)
    refine gs rfl ?_
    refine gs rfl ?_
    refine gs rfl ?_
    refine gs rfl ?_
    refine gs rfl ?_
    refine gs rfl ?_
    refine and_2 rfl (vin rfl) ?_
    refine gs rfl ?_
    refine and_i (Nat.le_of_ble_eq_true rfl) (cl0 (Nat.le_of_ble_eq_true rfl) (and_i (Nat.le_of_ble_eq_true rfl) ?_))
    refine gs rfl ?_
    refine gs rfl ?_
    refine and_i (Nat.le_of_ble_eq_true rfl) (cl0 (Nat.le_of_ble_eq_true rfl) (and_i (Nat.le_of_ble_eq_true rfl) ?_))
    refine gs rfl ?_
    refine gs rfl ?_
    refine gs rfl ?_
    refine gs rfl ?_
    refine and_i (Nat.le_of_ble_eq_true rfl) (cl0 (Nat.le_of_ble_eq_true rfl) (and_i (Nat.le_of_ble_eq_true rfl) ?_))
    refine gs rfl ?_
    refine gs rfl ?_
    refine gs rfl ?_
    refine ifT ((lt_k (a := (s1).toInt) (b := 0) (by rfl) (by rfl)).mpr (by omega)) ?_
    refine gs rfl ?_
    refine gs rfl ?_
    refine and_2 rfl (Or.inl rfl) ?_
    refine gs rfl ?_
    refine and_2 rfl (Or.inl rfl) ?_
    refine gs rfl ?_
    refine gs rfl ?_
    refine gs rfl ?_
    refine gs rfl ?_
    refine and_i (Nat.le_of_ble_eq_true rfl) (cl0 (Nat.le_of_ble_eq_true rfl) (and_i (Nat.le_of_ble_eq_true rfl) ?_))
    refine gs rfl ?_
    refine gs rfl ?_
    refine gs rfl ?_
    refine gs rfl ?_
    refine gs rfl ?_
    refine gs rfl ?_
    refine gs rfl ?_
    refine and_2 rfl (vin rfl) ?_
    refine gs rfl ?_
    refine gs rfl ?_
    refine gs rfl ?_
    refine and_3 (Nat.le_of_ble_eq_true rfl) rfl (vin rfl) ?_
    refine gs rfl ?_
    refine gs rfl ?_
    refine and_i rfl ?_
    refine gs rfl ?_
    refine and_i rfl ?_
    refine gs rfl ?_
    refine gs rfl ?_
    refine gs rfl ?_
    refine gs rfl ?_
    refine gs rfl ?_
    refine gs rfl ?_
    refine and_i (Or.inl rfl) ?_
    refine gwst (congrArg (fun z => Value.int z :: _) (alen_k (n := 6) (by rfl))) ?_
    refine gs rfl ?_
    refine gs rfl ?_
    refine gs rfl ?_
    refine gs rfl ?_
    refine gs rfl ?_
    refine and_2 rfl (Or.inr rfl) ?_
    exact rfl
  · have d2 : ¬ ((s1).toInt < 0) := fun q => c1 ((lt_k (by rfl) (by rfl)).mpr q)
    refine gs rfl ?_
    refine gs rfl ?_
    refine gs rfl ?_
    refine ifs (fun c3 => ?_) (fun c3 => ?_)
    · have d4 : 3 < (s1).toInt := (lt_k (by rfl) (by rfl)).mp c3
      refine gs rfl ?_
      refine gs rfl ?_
      refine and_2 rfl (Or.inl rfl) ?_
      refine gs rfl ?_
      refine gs rfl ?_
      refine gs rfl ?_
      refine gs rfl ?_
      refine and_i (Nat.le_of_ble_eq_true rfl) (cl0 (Nat.le_of_ble_eq_true rfl) (and_i (Nat.le_of_ble_eq_true rfl) ?_))
      refine gs rfl ?_
      refine gs rfl ?_
      refine gs rfl ?_
      refine gs rfl ?_
      refine gs rfl ?_
      refine and_2 rfl (vin rfl) ?_
      refine gs rfl ?_
      refine gs rfl ?_
      refine gs rfl ?_
      refine and_3 (Nat.le_of_ble_eq_true rfl) rfl (vin rfl) ?_
      refine gs rfl ?_
      refine gs rfl ?_
      refine gs rfl ?_
      refine gs rfl ?_
      refine and_i rfl ?_
      refine gs rfl ?_
      refine and_i rfl ?_
      refine FRg rfl (fun f => ?_)
      refine gs rfl ?_
      refine gs rfl ?_
      refine gs rfl ?_
      refine gs rfl ?_
      refine gs rfl ?_
      refine gs rfl ?_
      refine and_2 rfl (vin rfl) ?_
      refine gs rfl ?_
      refine and_i (Nat.le_of_ble_eq_true rfl) (cl0 (Nat.le_of_ble_eq_true rfl) (and_i (Nat.le_of_ble_eq_true rfl) ?_))
      refine gs rfl ?_
      refine gs rfl ?_
      refine and_i (Nat.le_of_ble_eq_true rfl) (cl0 (Nat.le_of_ble_eq_true rfl) (and_i (Nat.le_of_ble_eq_true rfl) ?_))
      refine gs rfl ?_
      refine gs rfl ?_
      refine gs rfl ?_
      refine gs rfl ?_
      refine and_i (Nat.le_of_ble_eq_true rfl) (cl0 (Nat.le_of_ble_eq_true rfl) (and_i (Nat.le_of_ble_eq_true rfl) ?_))
      refine gs rfl ?_
      refine gs rfl ?_
      refine gs rfl ?_
      refine ifF ((fun q => absurd ((lt_k (a := (s1).toInt) (b := 0) (by rfl) (by rfl)).mp q) (by omega))) ?_
      refine gs rfl ?_
      refine gs rfl ?_
      refine gs rfl ?_
      refine ifT ((lt_k (a := 3) (b := (s1).toInt) (by rfl) (by rfl)).mpr (by omega)) ?_
      refine gs rfl ?_
      refine gs rfl ?_
      refine and_2 rfl (Or.inl rfl) ?_
      refine gs rfl ?_
      refine and_2 rfl (Or.inl rfl) ?_
      refine gs rfl ?_
      refine gs rfl ?_
      refine gs rfl ?_
      refine gs rfl ?_
      refine and_i (Nat.le_of_ble_eq_true rfl) (cl0 (Nat.le_of_ble_eq_true rfl) (and_i (Nat.le_of_ble_eq_true rfl) ?_))
      refine gs rfl ?_
      refine gs rfl ?_
      refine gs rfl ?_
      refine gs rfl ?_
      refine gs rfl ?_
      refine gs rfl ?_
      refine gs rfl ?_
      refine and_2 rfl (vin rfl) ?_
      refine gs rfl ?_
      refine gs rfl ?_
      refine gs rfl ?_
      refine and_3 (Nat.le_of_ble_eq_true rfl) rfl (vin rfl) ?_
      refine gs rfl ?_
      refine gs rfl ?_
      refine and_i rfl ?_
      refine gs rfl ?_
      refine and_i rfl ?_
      refine gs rfl ?_
      refine gs rfl ?_
      refine gs rfl ?_
      refine gs rfl ?_
      refine gs rfl ?_
      refine gs rfl ?_
      refine and_i (Or.inl rfl) ?_
      refine gwst (congrArg (fun z => Value.int z :: _) (alen_k (n := 6) (by rfl))) ?_
      refine gs rfl ?_
      refine gs rfl ?_
      refine gs rfl ?_
      refine gs rfl ?_
      refine gs rfl ?_
      refine and_2 rfl (Or.inr rfl) ?_
      exact rfl
    · have d4 : ¬ (3 < (s1).toInt) := fun q => c3 ((lt_k (by rfl) (by rfl)).mpr q)
      refine gs rfl ?_
      refine gs rfl ?_
      refine gs rfl ?_
      refine and_2 rfl (Or.inr rfl) ?_
      refine gs rfl ?_
      refine gs rfl ?_
      refine gs rfl ?_
      refine gs rfl ?_
      obtain ⟨j5, e6, x7⟩ := nat_of (x := s1) (lo := 0) (hi := 3) (by omega) (by omega)
      rcases (show j5 = 0 ∨ j5 = 1 ∨ j5 = 2 ∨ j5 = 3 by omega) with rfl | rfl | rfl | rfl
      · have x7q : s1 = (0 : Int32) := x7
        clear x7
        subst x7q
        refine gs rfl ?_
        refine and_2 (Nat.le_of_ble_eq_true rfl) (vin rfl) ?_
        refine and_2 rfl (fun z q => by cases q) ?_
        refine gs rfl ?_
        refine gs rfl ?_
        refine gs rfl ?_
        refine gs rfl ?_
        refine gs rfl ?_
        refine gs rfl ?_
        refine gs rfl ?_
        refine and_i (Nat.le_of_ble_eq_true rfl) (cl0 (Nat.le_of_ble_eq_true rfl) (and_i (Nat.le_of_ble_eq_true rfl) ?_))
        refine gs rfl ?_
        refine gs rfl ?_
        refine gs rfl ?_
        refine gs rfl ?_
        refine gs rfl ?_
        refine and_2 rfl (vin rfl) ?_
        refine gs rfl ?_
        refine gs rfl ?_
        refine gs rfl ?_
        refine and_3 (Nat.le_of_ble_eq_true rfl) rfl (vin rfl) ?_
        refine gs rfl ?_
        refine gs rfl ?_
        refine gs rfl ?_
        refine gs rfl ?_
        refine and_i rfl ?_
        refine gs rfl ?_
        refine and_i rfl ?_
        refine FRg rfl (fun f => ?_)
        refine gs rfl ?_
        refine gs rfl ?_
        refine gs rfl ?_
        refine gs rfl ?_
        refine gs rfl ?_
        refine gs rfl ?_
        refine and_2 rfl (vin rfl) ?_
        refine gs rfl ?_
        refine and_i (Nat.le_of_ble_eq_true rfl) (cl0 (Nat.le_of_ble_eq_true rfl) (and_i (Nat.le_of_ble_eq_true rfl) ?_))
        refine gs rfl ?_
        refine gs rfl ?_
        refine and_i (Nat.le_of_ble_eq_true rfl) (cl0 (Nat.le_of_ble_eq_true rfl) (and_i (Nat.le_of_ble_eq_true rfl) ?_))
        refine gs rfl ?_
        refine gs rfl ?_
        refine gs rfl ?_
        refine gs rfl ?_
        refine and_i (Nat.le_of_ble_eq_true rfl) (cl0 (Nat.le_of_ble_eq_true rfl) (and_i (Nat.le_of_ble_eq_true rfl) ?_))
        refine gs rfl ?_
        refine gs rfl ?_
        refine gs rfl ?_
        refine gs rfl ?_
        refine gs rfl ?_
        refine gs rfl ?_
        refine gs rfl ?_
        refine gs rfl ?_
        refine gs rfl ?_
        refine and_2 rfl (Or.inr rfl) ?_
        refine gs rfl ?_
        refine and_2 rfl (Or.inr rfl) ?_
        refine gs rfl ?_
        refine gs rfl ?_
        refine gs rfl ?_
        refine gs rfl ?_
        refine gs rfl ?_
        refine and_2 rfl (vin rfl) ?_
        refine gs rfl ?_
        refine gs rfl ?_
        refine gs rfl ?_
        refine gs rfl ?_
        refine and_i (Nat.le_of_ble_eq_true rfl) (cl0 (Nat.le_of_ble_eq_true rfl) (and_i (Nat.le_of_ble_eq_true rfl) ?_))
        refine gs rfl ?_
        refine gs rfl ?_
        refine gs rfl ?_
        refine gs rfl ?_
        refine gs rfl ?_
        refine gs rfl ?_
        refine gs rfl ?_
        refine and_2 rfl (vin rfl) ?_
        refine gs rfl ?_
        refine gs rfl ?_
        refine gs rfl ?_
        refine and_3 (Nat.le_of_ble_eq_true rfl) rfl (vin rfl) ?_
        refine gs rfl ?_
        refine gs rfl ?_
        refine and_i rfl ?_
        refine gs rfl ?_
        refine and_i rfl ?_
        refine gs rfl ?_
        refine gs rfl ?_
        refine gs rfl ?_
        refine gs rfl ?_
        refine gs rfl ?_
        refine gs rfl ?_
        refine and_i (Or.inl rfl) ?_
        refine gwst (congrArg (fun z => Value.int z :: _) (alen_k (n := 6) (by rfl))) ?_
        refine gs rfl ?_
        refine gs rfl ?_
        refine gs rfl ?_
        refine gs rfl ?_
        refine gs rfl ?_
        refine and_2 rfl (Or.inr rfl) ?_
        exact rfl
      · have x7q : s1 = (1 : Int32) := x7
        clear x7
        subst x7q
        refine gs rfl ?_
        refine and_2 (Nat.le_of_ble_eq_true rfl) (vin rfl) ?_
        refine and_2 rfl (fun z q => by cases q) ?_
        refine gs rfl ?_
        refine gs rfl ?_
        refine gs rfl ?_
        refine gs rfl ?_
        refine gs rfl ?_
        refine gs rfl ?_
        refine gs rfl ?_
        refine and_i (Nat.le_of_ble_eq_true rfl) (cl0 (Nat.le_of_ble_eq_true rfl) (and_i (Nat.le_of_ble_eq_true rfl) ?_))
        refine gs rfl ?_
        refine gs rfl ?_
        refine gs rfl ?_
        refine gs rfl ?_
        refine gs rfl ?_
        refine and_2 rfl (vin rfl) ?_
        refine gs rfl ?_
        refine gs rfl ?_
        refine gs rfl ?_
        refine and_3 (Nat.le_of_ble_eq_true rfl) rfl (vin rfl) ?_
        refine gs rfl ?_
        refine gs rfl ?_
        refine gs rfl ?_
        refine gs rfl ?_
        refine and_i rfl ?_
        refine gs rfl ?_
        refine and_i rfl ?_
        refine FRg rfl (fun f => ?_)
        refine gs rfl ?_
        refine gs rfl ?_
        refine gs rfl ?_
        refine gs rfl ?_
        refine gs rfl ?_
        refine gs rfl ?_
        refine and_2 rfl (vin rfl) ?_
        refine gs rfl ?_
        refine and_i (Nat.le_of_ble_eq_true rfl) (cl0 (Nat.le_of_ble_eq_true rfl) (and_i (Nat.le_of_ble_eq_true rfl) ?_))
        refine gs rfl ?_
        refine gs rfl ?_
        refine and_i (Nat.le_of_ble_eq_true rfl) (cl0 (Nat.le_of_ble_eq_true rfl) (and_i (Nat.le_of_ble_eq_true rfl) ?_))
        refine gs rfl ?_
        refine gs rfl ?_
        refine gs rfl ?_
        refine gs rfl ?_
        refine and_i (Nat.le_of_ble_eq_true rfl) (cl0 (Nat.le_of_ble_eq_true rfl) (and_i (Nat.le_of_ble_eq_true rfl) ?_))
        refine gs rfl ?_
        refine gs rfl ?_
        refine gs rfl ?_
        refine gs rfl ?_
        refine gs rfl ?_
        refine gs rfl ?_
        refine gs rfl ?_
        refine gs rfl ?_
        refine gs rfl ?_
        refine and_2 rfl (Or.inr rfl) ?_
        refine gs rfl ?_
        refine and_2 rfl (Or.inr rfl) ?_
        refine gs rfl ?_
        refine gs rfl ?_
        refine gs rfl ?_
        refine gs rfl ?_
        refine gs rfl ?_
        refine and_2 rfl (vin rfl) ?_
        refine gs rfl ?_
        refine gs rfl ?_
        refine gs rfl ?_
        refine gs rfl ?_
        refine and_i (Nat.le_of_ble_eq_true rfl) (cl0 (Nat.le_of_ble_eq_true rfl) (and_i (Nat.le_of_ble_eq_true rfl) ?_))
        refine gs rfl ?_
        refine gs rfl ?_
        refine gs rfl ?_
        refine gs rfl ?_
        refine gs rfl ?_
        refine gs rfl ?_
        refine gs rfl ?_
        refine and_2 rfl (vin rfl) ?_
        refine gs rfl ?_
        refine gs rfl ?_
        refine gs rfl ?_
        refine and_3 (Nat.le_of_ble_eq_true rfl) rfl (vin rfl) ?_
        refine gs rfl ?_
        refine gs rfl ?_
        refine and_i rfl ?_
        refine gs rfl ?_
        refine and_i rfl ?_
        refine gs rfl ?_
        refine gs rfl ?_
        refine gs rfl ?_
        refine gs rfl ?_
        refine gs rfl ?_
        refine gs rfl ?_
        refine and_i (Or.inl rfl) ?_
        refine gwst (congrArg (fun z => Value.int z :: _) (alen_k (n := 6) (by rfl))) ?_
        refine gs rfl ?_
        refine gs rfl ?_
        refine gs rfl ?_
        refine gs rfl ?_
        refine gs rfl ?_
        refine and_2 rfl (Or.inr rfl) ?_
        exact rfl
      · have x7q : s1 = (2 : Int32) := x7
        clear x7
        subst x7q
        refine gs rfl ?_
        refine and_2 (Nat.le_of_ble_eq_true rfl) (vin rfl) ?_
        refine and_2 rfl (fun z q => by cases q) ?_
        refine gs rfl ?_
        refine gs rfl ?_
        refine gs rfl ?_
        refine gs rfl ?_
        refine gs rfl ?_
        refine gs rfl ?_
        refine gs rfl ?_
        refine and_i (Nat.le_of_ble_eq_true rfl) (cl0 (Nat.le_of_ble_eq_true rfl) (and_i (Nat.le_of_ble_eq_true rfl) ?_))
        refine gs rfl ?_
        refine gs rfl ?_
        refine gs rfl ?_
        refine gs rfl ?_
        refine gs rfl ?_
        refine and_2 rfl (vin rfl) ?_
        refine gs rfl ?_
        refine gs rfl ?_
        refine gs rfl ?_
        refine and_3 (Nat.le_of_ble_eq_true rfl) rfl (vin rfl) ?_
        refine gs rfl ?_
        refine gs rfl ?_
        refine gs rfl ?_
        refine gs rfl ?_
        refine and_i rfl ?_
        refine gs rfl ?_
        refine and_i rfl ?_
        refine FRg rfl (fun f => ?_)
        refine gs rfl ?_
        refine gs rfl ?_
        refine gs rfl ?_
        refine gs rfl ?_
        refine gs rfl ?_
        refine gs rfl ?_
        refine and_2 rfl (vin rfl) ?_
        refine gs rfl ?_
        refine and_i (Nat.le_of_ble_eq_true rfl) (cl0 (Nat.le_of_ble_eq_true rfl) (and_i (Nat.le_of_ble_eq_true rfl) ?_))
        refine gs rfl ?_
        refine gs rfl ?_
        refine and_i (Nat.le_of_ble_eq_true rfl) (cl0 (Nat.le_of_ble_eq_true rfl) (and_i (Nat.le_of_ble_eq_true rfl) ?_))
        refine gs rfl ?_
        refine gs rfl ?_
        refine gs rfl ?_
        refine gs rfl ?_
        refine and_i (Nat.le_of_ble_eq_true rfl) (cl0 (Nat.le_of_ble_eq_true rfl) (and_i (Nat.le_of_ble_eq_true rfl) ?_))
        refine gs rfl ?_
        refine gs rfl ?_
        refine gs rfl ?_
        refine gs rfl ?_
        refine gs rfl ?_
        refine gs rfl ?_
        refine gs rfl ?_
        refine gs rfl ?_
        refine gs rfl ?_
        refine and_2 rfl (Or.inr rfl) ?_
        refine gs rfl ?_
        refine and_2 rfl (Or.inr rfl) ?_
        refine gs rfl ?_
        refine gs rfl ?_
        refine gs rfl ?_
        refine gs rfl ?_
        refine gs rfl ?_
        refine and_2 rfl (vin rfl) ?_
        refine gs rfl ?_
        refine gs rfl ?_
        refine gs rfl ?_
        refine gs rfl ?_
        refine and_i (Nat.le_of_ble_eq_true rfl) (cl0 (Nat.le_of_ble_eq_true rfl) (and_i (Nat.le_of_ble_eq_true rfl) ?_))
        refine gs rfl ?_
        refine gs rfl ?_
        refine gs rfl ?_
        refine gs rfl ?_
        refine gs rfl ?_
        refine gs rfl ?_
        refine gs rfl ?_
        refine and_2 rfl (vin rfl) ?_
        refine gs rfl ?_
        refine gs rfl ?_
        refine gs rfl ?_
        refine and_3 (Nat.le_of_ble_eq_true rfl) rfl (vin rfl) ?_
        refine gs rfl ?_
        refine gs rfl ?_
        refine and_i rfl ?_
        refine gs rfl ?_
        refine and_i rfl ?_
        refine gs rfl ?_
        refine gs rfl ?_
        refine gs rfl ?_
        refine gs rfl ?_
        refine gs rfl ?_
        refine gs rfl ?_
        refine and_i (Or.inl rfl) ?_
        refine gwst (congrArg (fun z => Value.int z :: _) (alen_k (n := 6) (by rfl))) ?_
        refine gs rfl ?_
        refine gs rfl ?_
        refine gs rfl ?_
        refine gs rfl ?_
        refine gs rfl ?_
        refine and_2 rfl (Or.inr rfl) ?_
        exact rfl
      · have x7q : s1 = (3 : Int32) := x7
        clear x7
        subst x7q
        refine gs rfl ?_
        refine and_2 (Nat.le_of_ble_eq_true rfl) (vin rfl) ?_
        refine and_2 rfl (fun z q => by cases q) ?_
        refine gs rfl ?_
        refine gs rfl ?_
        refine gs rfl ?_
        refine gs rfl ?_
        refine gs rfl ?_
        refine gs rfl ?_
        refine gs rfl ?_
        refine and_i (Nat.le_of_ble_eq_true rfl) (cl0 (Nat.le_of_ble_eq_true rfl) (and_i (Nat.le_of_ble_eq_true rfl) ?_))
        refine gs rfl ?_
        refine gs rfl ?_
        refine gs rfl ?_
        refine gs rfl ?_
        refine gs rfl ?_
        refine and_2 rfl (vin rfl) ?_
        refine gs rfl ?_
        refine gs rfl ?_
        refine gs rfl ?_
        refine and_3 (Nat.le_of_ble_eq_true rfl) rfl (vin rfl) ?_
        refine gs rfl ?_
        refine gs rfl ?_
        refine gs rfl ?_
        refine gs rfl ?_
        refine and_i rfl ?_
        refine gs rfl ?_
        refine and_i rfl ?_
        refine FRg rfl (fun f => ?_)
        refine gs rfl ?_
        refine gs rfl ?_
        refine gs rfl ?_
        refine gs rfl ?_
        refine gs rfl ?_
        refine gs rfl ?_
        refine and_2 rfl (vin rfl) ?_
        refine gs rfl ?_
        refine and_i (Nat.le_of_ble_eq_true rfl) (cl0 (Nat.le_of_ble_eq_true rfl) (and_i (Nat.le_of_ble_eq_true rfl) ?_))
        refine gs rfl ?_
        refine gs rfl ?_
        refine and_i (Nat.le_of_ble_eq_true rfl) (cl0 (Nat.le_of_ble_eq_true rfl) (and_i (Nat.le_of_ble_eq_true rfl) ?_))
        refine gs rfl ?_
        refine gs rfl ?_
        refine gs rfl ?_
        refine gs rfl ?_
        refine and_i (Nat.le_of_ble_eq_true rfl) (cl0 (Nat.le_of_ble_eq_true rfl) (and_i (Nat.le_of_ble_eq_true rfl) ?_))
        refine gs rfl ?_
        refine gs rfl ?_
        refine gs rfl ?_
        refine gs rfl ?_
        refine gs rfl ?_
        refine gs rfl ?_
        refine gs rfl ?_
        refine gs rfl ?_
        refine gs rfl ?_
        refine and_2 rfl (Or.inr rfl) ?_
        refine gs rfl ?_
        refine and_2 rfl (Or.inr rfl) ?_
        refine gs rfl ?_
        refine gs rfl ?_
        refine gs rfl ?_
        refine gs rfl ?_
        refine gs rfl ?_
        refine and_2 rfl (vin rfl) ?_
        refine gs rfl ?_
        refine gs rfl ?_
        refine gs rfl ?_
        refine gs rfl ?_
        refine and_i (Nat.le_of_ble_eq_true rfl) (cl0 (Nat.le_of_ble_eq_true rfl) (and_i (Nat.le_of_ble_eq_true rfl) ?_))
        refine gs rfl ?_
        refine gs rfl ?_
        refine gs rfl ?_
        refine gs rfl ?_
        refine gs rfl ?_
        refine gs rfl ?_
        refine gs rfl ?_
        refine and_2 rfl (vin rfl) ?_
        refine gs rfl ?_
        refine gs rfl ?_
        refine gs rfl ?_
        refine and_3 (Nat.le_of_ble_eq_true rfl) rfl (vin rfl) ?_
        refine gs rfl ?_
        refine gs rfl ?_
        refine and_i rfl ?_
        refine gs rfl ?_
        refine and_i rfl ?_
        refine gs rfl ?_
        refine gs rfl ?_
        refine gs rfl ?_
        refine gs rfl ?_
        refine gs rfl ?_
        refine gs rfl ?_
        refine and_i (Or.inl rfl) ?_
        refine gwst (congrArg (fun z => Value.int z :: _) (alen_k (n := 6) (by rfl))) ?_
        refine gs rfl ?_
        refine gs rfl ?_
        refine gs rfl ?_
        refine gs rfl ?_
        refine gs rfl ?_
        refine and_2 rfl (Or.inr rfl) ?_
        exact rfl
set_option maxRecDepth 20000 in
set_option maxHeartbeats 40000000 in
theorem lc_34 {s0 s1 s2 s3 s4 s5 : Int32} {d mc ms : Nat} : gw [s0, s1, s2, s3, s4, s5] (WP [s0, s1, s2, s3, s4, s5] (d + 20)) 190 (fun r _ => r = some (.int 1)) 1320 [some (.ref 0), some (.ref 32), some (.ref 89), some (.int 0)] [] (hX0 ++ hM0) mc ms := by
  refine gs rfl ?_
  refine gs rfl ?_
  refine and_i (Nat.le_of_ble_eq_true rfl) (cl0 (Nat.le_of_ble_eq_true rfl) (and_i (Nat.le_of_ble_eq_true rfl) ?_))
  refine gs rfl ?_
  refine gs rfl ?_
  refine gs rfl ?_
  refine gs rfl ?_
  refine gs rfl ?_
  refine and_i (Nat.le_of_ble_eq_true rfl) (cl0 (Nat.le_of_ble_eq_true rfl) (and_i (Nat.le_of_ble_eq_true rfl) ?_))
  refine gs rfl ?_
  refine gs rfl ?_
  refine gs rfl ?_
  refine gs rfl ?_
  refine gs rfl ?_
  refine gs rfl ?_
  refine gs rfl ?_
  refine gs rfl ?_
  refine and_3 (Nat.le_of_ble_eq_true rfl) (Nat.le_of_ble_eq_true rfl) (Nat.le_of_ble_eq_true rfl) ?_
  refine and_4 rfl (Or.inl rfl) (by decide) (by decide) ?_
  refine and_4 (by decide) (Nat.le_of_ble_eq_true rfl) (Nat.le_of_ble_eq_true rfl) (fun q => by cases q) ?_
  refine gs rfl ?_
  refine gs rfl ?_
  refine gs rfl ?_
  refine gs rfl ?_
  refine gs rfl ?_
  refine gs rfl ?_
  refine gs rfl ?_
  refine gs rfl ?_
  refine and_3 (Nat.le_of_ble_eq_true rfl) (Nat.le_of_ble_eq_true rfl) (Nat.le_of_ble_eq_true rfl) ?_
  refine and_4 rfl (Or.inl rfl) (by decide) (by decide) ?_
  refine and_4 (by decide) (Nat.le_of_ble_eq_true rfl) (Nat.le_of_ble_eq_true rfl) (fun q => by cases q) ?_
  refine gs rfl ?_
  refine gs rfl ?_
  refine gs rfl ?_
  refine gs rfl ?_
  refine gs rfl ?_
  refine gs rfl ?_
  refine gs rfl ?_
  refine gs rfl ?_
  refine and_3 (Nat.le_of_ble_eq_true rfl) (Nat.le_of_ble_eq_true rfl) (Nat.le_of_ble_eq_true rfl) ?_
  refine and_4 rfl (Or.inl rfl) (by decide) (by decide) ?_
  refine and_4 (by decide) (Nat.le_of_ble_eq_true rfl) (Nat.le_of_ble_eq_true rfl) (fun q => by cases q) ?_
  refine gs rfl ?_
  refine gs rfl ?_
  refine gs rfl ?_
  refine gs rfl ?_
  refine gs rfl ?_
  refine gs rfl ?_
  refine gs rfl ?_
  refine gs rfl ?_
  refine and_3 (Nat.le_of_ble_eq_true rfl) (Nat.le_of_ble_eq_true rfl) (Nat.le_of_ble_eq_true rfl) ?_
  refine and_4 rfl (Or.inl rfl) (by decide) (by decide) ?_
  refine and_4 (by decide) (Nat.le_of_ble_eq_true rfl) (Nat.le_of_ble_eq_true rfl) (fun q => by cases q) ?_
  refine gs rfl ?_
  refine gs rfl ?_
  refine gs rfl ?_
  refine gs rfl ?_
  refine gs rfl ?_
  refine gs rfl ?_
  refine gs rfl ?_
  refine gs rfl ?_
  refine and_3 (Nat.le_of_ble_eq_true rfl) (Nat.le_of_ble_eq_true rfl) (Nat.le_of_ble_eq_true rfl) ?_
  refine and_4 rfl (Or.inl rfl) (by decide) (by decide) ?_
  refine and_4 (by decide) (Nat.le_of_ble_eq_true rfl) (Nat.le_of_ble_eq_true rfl) (fun q => by cases q) ?_
  refine gs rfl ?_
  refine gs rfl ?_
  refine gs rfl ?_
  refine gs rfl ?_
  refine gs rfl ?_
  refine gs rfl ?_
  refine gs rfl ?_
  refine gs rfl ?_
  refine and_3 (Nat.le_of_ble_eq_true rfl) (Nat.le_of_ble_eq_true rfl) (Nat.le_of_ble_eq_true rfl) ?_
  refine and_4 rfl (Or.inl rfl) (by decide) (by decide) ?_
  refine and_4 (by decide) (Nat.le_of_ble_eq_true rfl) (Nat.le_of_ble_eq_true rfl) (fun q => by cases q) ?_
  refine gs rfl ?_
  refine gs rfl ?_
  refine gs rfl ?_
  refine gs rfl ?_
  refine gs rfl ?_
  refine gs rfl ?_
  refine gs rfl ?_
  refine gs rfl ?_
  refine and_3 (Nat.le_of_ble_eq_true rfl) (Nat.le_of_ble_eq_true rfl) (Nat.le_of_ble_eq_true rfl) ?_
  refine and_4 rfl (Or.inr rfl) (by decide) (by decide) ?_
  refine and_4 (by decide) (Nat.le_of_ble_eq_true rfl) (Nat.le_of_ble_eq_true rfl) (fun _ => by decide) ?_
  refine gs rfl ?_
  refine gs rfl ?_
  refine gs rfl ?_
  refine gs rfl ?_
  refine and_3 (Nat.le_of_ble_eq_true rfl) (Nat.le_of_ble_eq_true rfl) trivial ?_
  refine gs rfl ?_
  refine gs rfl ?_
  refine gs rfl ?_
  refine gs rfl ?_
  refine and_3 (Nat.le_of_ble_eq_true rfl) (Nat.le_of_ble_eq_true rfl) trivial ?_
  refine gs rfl ?_
  refine gs rfl ?_
  refine gs rfl ?_
  refine gs rfl ?_
  refine and_3 (Nat.le_of_ble_eq_true rfl) (Nat.le_of_ble_eq_true rfl) trivial ?_
  refine gs rfl ?_
  refine gs rfl ?_
  refine gs rfl ?_
  refine gs rfl ?_
  refine and_3 (Nat.le_of_ble_eq_true rfl) (Nat.le_of_ble_eq_true rfl) trivial ?_
  refine gs rfl ?_
  refine gs rfl ?_
  refine gs rfl ?_
  refine gs rfl ?_
  refine and_3 (Nat.le_of_ble_eq_true rfl) (Nat.le_of_ble_eq_true rfl) trivial ?_
  refine gs rfl ?_
  refine and_i rfl ?_
  refine gs rfl ?_
  refine gs rfl ?_
  refine gs rfl ?_
  refine gs rfl ?_
  refine gs rfl ?_
  refine and_i (Nat.le_of_ble_eq_true rfl) (cl0 (Nat.le_of_ble_eq_true rfl) (and_i (Nat.le_of_ble_eq_true rfl) ?_))
  refine gs rfl ?_
  refine gs rfl ?_
  refine gs rfl ?_
  refine gs rfl ?_
  refine and_3 (Nat.le_of_ble_eq_true rfl) (Nat.le_of_ble_eq_true rfl) trivial ?_
  refine gs rfl ?_
  refine gs rfl ?_
  refine gs rfl ?_
  refine gs rfl ?_
  refine gs rfl ?_
  refine gs rfl ?_
  refine gs rfl ?_
  refine gs rfl ?_
  refine and_3 (Nat.le_of_ble_eq_true rfl) (Nat.le_of_ble_eq_true rfl) (Nat.le_of_ble_eq_true rfl) ?_
  refine and_4 rfl (Or.inl rfl) (by decide) (by decide) ?_
  refine and_4 (by decide) (Nat.le_of_ble_eq_true rfl) (Nat.le_of_ble_eq_true rfl) (fun q => by cases q) ?_
  refine gs rfl ?_
  refine gs rfl ?_
  refine gs rfl ?_
  refine gs rfl ?_
  refine and_3 (Nat.le_of_ble_eq_true rfl) (Nat.le_of_ble_eq_true rfl) trivial ?_
  refine gs rfl ?_
  refine gs rfl ?_
  refine gs rfl ?_
  refine gs rfl ?_
  refine gs rfl ?_
  refine gs rfl ?_
  refine gs rfl ?_
  refine gs rfl ?_
  refine and_3 (Nat.le_of_ble_eq_true rfl) (Nat.le_of_ble_eq_true rfl) (Nat.le_of_ble_eq_true rfl) ?_
  refine and_4 rfl (Or.inl rfl) (by decide) (by decide) ?_
  refine and_4 (by decide) (Nat.le_of_ble_eq_true rfl) (Nat.le_of_ble_eq_true rfl) (fun q => by cases q) ?_
  refine gs rfl ?_
  refine gs rfl ?_
  refine gs rfl ?_
  refine gs rfl ?_
  refine and_3 (Nat.le_of_ble_eq_true rfl) (Nat.le_of_ble_eq_true rfl) trivial ?_
  refine gs rfl ?_
  refine and_i rfl ?_
  refine gs rfl ?_
  refine gs rfl ?_
  refine gs rfl ?_
  refine gs rfl ?_
  refine gs rfl ?_
  refine gs rfl ?_
  refine and_3 (Nat.le_of_ble_eq_true rfl) (Nat.le_of_ble_eq_true rfl) trivial ?_
  refine gs rfl ?_
  refine gs rfl ?_
  refine gs rfl ?_
  refine and_i rfl ?_
  refine FRg rfl (fun f => ?_)
  refine gs rfl ?_
  refine gs rfl ?_
  refine and_i (Nat.le_of_ble_eq_true rfl) (cl0 (Nat.le_of_ble_eq_true rfl) (and_i (Nat.le_of_ble_eq_true rfl) ?_))
  refine gs rfl ?_
  refine gs rfl ?_
  refine gs rfl ?_
  refine gs rfl ?_
  refine gs rfl ?_
  refine gs rfl ?_
  refine and_i (Nat.le_of_ble_eq_true rfl) (cl0 (Nat.le_of_ble_eq_true rfl) (c_moveAll rfl (Nat.le_of_ble_eq_true rfl) rfl (by rfl) (by rfl) (by decide) ?_))
  refine gs rfl ?_
  refine gs rfl ?_
  refine gs rfl ?_
  refine and_3 (Nat.le_of_ble_eq_true rfl) (Nat.le_of_ble_eq_true rfl) (Or.inr rfl) ?_
  refine gs rfl ?_
  refine gs rfl ?_
  refine gs rfl ?_
  refine gs rfl ?_
  refine gs rfl ?_
  refine gs rfl ?_
  refine and_3 (Nat.le_of_ble_eq_true rfl) (Nat.le_of_ble_eq_true rfl) trivial ?_
  refine gs rfl ?_
  refine gs rfl ?_
  refine gs rfl ?_
  refine and_i rfl ?_
  refine gs rfl ?_
  refine gs rfl ?_
  refine gs rfl ?_
  refine gs rfl ?_
  refine gs rfl ?_
  refine gs rfl ?_
  refine and_i (Or.inl rfl) ?_
  refine gwst (congrArg (fun z => Value.int z :: _) (alen_k (n := 6) (by rfl))) ?_
  refine gs rfl ?_
  refine gs rfl ?_
  refine gs rfl ?_
  refine gs rfl ?_
  refine gs rfl ?_
  refine and_2 rfl (Or.inr rfl) ?_
  exact rfl
set_option maxRecDepth 20000 in
set_option maxHeartbeats 40000000 in
theorem lc_35 {s0 s1 s2 s3 s4 s5 : Int32} {d mc ms : Nat} : gw [s0, s1, s2, s3, s4, s5] (WP [s0, s1, s2, s3, s4, s5] (d + 20)) 190 (fun r _ => r = some (.int 1)) 1333 [some (.ref 0), some (.ref 32), some (.ref 89), some (.int 0)] [] (hX0 ++ hM0) mc ms := by
  refine gs rfl ?_
  refine gs rfl ?_
  refine and_i (Nat.le_of_ble_eq_true rfl) (cl0 (Nat.le_of_ble_eq_true rfl) (and_i (Nat.le_of_ble_eq_true rfl) ?_))
  refine gs rfl ?_
  refine gs rfl ?_
  refine gs rfl ?_
  refine gs rfl ?_
  refine gs rfl ?_
  refine gs rfl ?_
  refine and_i (Nat.le_of_ble_eq_true rfl) (cl0 (Nat.le_of_ble_eq_true rfl) (and_i (Nat.le_of_ble_eq_true rfl) ?_))
  refine gs rfl ?_
  refine gs rfl ?_
  refine gs rfl ?_
  refine gs rfl ?_
  refine gs rfl ?_
  refine and_2 rfl (vin rfl) ?_
  refine gs rfl ?_
  refine gs rfl ?_
  refine gs rfl ?_
  refine and_3 (Nat.le_of_ble_eq_true rfl) rfl (vin rfl) ?_
  refine gs rfl ?_
  refine gs rfl ?_
  refine gs rfl ?_
  refine gs rfl ?_
  refine and_i rfl ?_
  refine gs rfl ?_
  refine and_i rfl ?_
  refine FRg rfl (fun f => ?_)
  refine gs rfl ?_
  refine gs rfl ?_
  refine and_i (Nat.le_of_ble_eq_true rfl) (cl0 (Nat.le_of_ble_eq_true rfl) (and_i (Nat.le_of_ble_eq_true rfl) ?_))
  refine gs rfl ?_
  refine gs rfl ?_
  refine gs rfl ?_
  refine gs rfl ?_
  refine gs rfl ?_
  refine gs rfl ?_
  refine and_i (Nat.le_of_ble_eq_true rfl) (cl0 (Nat.le_of_ble_eq_true rfl) (and_i (Nat.le_of_ble_eq_true rfl) ?_))
  refine gs rfl ?_
  refine gs rfl ?_
  refine gs rfl ?_
  refine gs rfl ?_
  refine gs rfl ?_
  refine gs rfl ?_
  refine gs rfl ?_
  refine and_2 rfl (vin rfl) ?_
  refine gs rfl ?_
  refine gs rfl ?_
  refine gs rfl ?_
  refine and_3 (Nat.le_of_ble_eq_true rfl) rfl (vin rfl) ?_
  refine gs rfl ?_
  refine gs rfl ?_
  refine and_i rfl ?_
  refine gs rfl ?_
  refine and_i rfl ?_
  refine gs rfl ?_
  refine gs rfl ?_
  refine gs rfl ?_
  refine gs rfl ?_
  refine gs rfl ?_
  refine gs rfl ?_
  refine and_i (Or.inl rfl) ?_
  refine gwst (congrArg (fun z => Value.int z :: _) (alen_k (n := 6) (by rfl))) ?_
  refine gs rfl ?_
  refine gs rfl ?_
  refine gs rfl ?_
  refine gs rfl ?_
  refine gs rfl ?_
  refine and_2 rfl (Or.inr rfl) ?_
  exact rfl
set_option maxRecDepth 20000 in
set_option maxHeartbeats 40000000 in
theorem lc_36 {s0 s1 s2 s3 s4 s5 : Int32} {d mc ms : Nat} : gw [s0, s1, s2, s3, s4, s5] (WP [s0, s1, s2, s3, s4, s5] (d + 20)) 190 (fun r _ => r = some (.int 1)) 1346 [some (.ref 0), some (.ref 32), some (.ref 89), some (.int 0)] [] (hX0 ++ hM0) mc ms := by
  refine gs rfl ?_
  refine gs rfl ?_
  refine gs rfl ?_
  refine gs rfl ?_
  refine gs rfl ?_
  refine gs rfl ?_
  refine and_2 rfl (vin rfl) ?_
  refine gs rfl ?_
  refine and_i (Nat.le_of_ble_eq_true rfl) (cl0 (Nat.le_of_ble_eq_true rfl) (and_i (Nat.le_of_ble_eq_true rfl) ?_))
  refine gs rfl ?_
  refine gs rfl ?_
  refine gs rfl ?_
  refine gs rfl ?_
  refine gs rfl ?_
  refine gs rfl ?_
  refine gs rfl ?_
  refine gs rfl ?_
  refine gs rfl ?_
  refine gs rfl ?_
  refine gs rfl ?_
  refine gs rfl ?_
  refine gs rfl ?_
  refine and_3 (Nat.le_of_ble_eq_true rfl) rfl (vin rfl) ?_
  refine gs rfl ?_
  refine gs rfl ?_
  refine gs rfl ?_
  refine gs rfl ?_
  refine gs rfl ?_
  refine gs rfl ?_
  refine gs rfl ?_
  refine and_3 (Nat.le_of_ble_eq_true rfl) (Nat.le_of_ble_eq_true rfl) trivial ?_
  refine gs rfl ?_
  refine gs rfl ?_
  refine gs rfl ?_
  refine gs rfl ?_
  refine and_i rfl ?_
  refine FRg rfl (fun f => ?_)
  refine gs rfl ?_
  refine gs rfl ?_
  refine gs rfl ?_
  refine gs rfl ?_
  refine gs rfl ?_
  refine gs rfl ?_
  refine and_2 rfl (vin rfl) ?_
  refine gs rfl ?_
  refine and_i (Nat.le_of_ble_eq_true rfl) (cl0 (Nat.le_of_ble_eq_true rfl) (and_i (Nat.le_of_ble_eq_true rfl) ?_))
  refine gs rfl ?_
  refine gs rfl ?_
  refine gs rfl ?_
  refine gs rfl ?_
  refine and_2 rfl (vin rfl) ?_
  refine gs rfl ?_
  refine gs rfl ?_
  refine gs rfl ?_
  refine gs rfl ?_
  refine gs rfl ?_
  refine gs rfl ?_
  refine gs rfl ?_
  refine gs rfl ?_
  refine gs rfl ?_
  refine and_2 rfl (vin rfl) ?_
  refine gs rfl ?_
  refine gs rfl ?_
  refine gs rfl ?_
  refine and_3 (Nat.le_of_ble_eq_true rfl) rfl (vin rfl) ?_
  refine gs rfl ?_
  refine gs rfl ?_
  refine gs rfl ?_
  refine gs rfl ?_
  refine gs rfl ?_
  refine and_2 rfl (vin rfl) ?_
  refine gs rfl ?_
  refine gs rfl ?_
  refine gs rfl ?_
  refine and_3 (Nat.le_of_ble_eq_true rfl) rfl (vin rfl) ?_
  refine gs rfl ?_
  refine gs rfl ?_
  refine gs rfl ?_
  refine gs rfl ?_
  refine and_2 rfl (vin rfl) ?_
  refine gs rfl ?_
  refine and_i rfl ?_
  refine gs rfl ?_
  refine gs rfl ?_
  refine gs rfl ?_
  refine gs rfl ?_
  refine gs rfl ?_
  refine gs rfl ?_
  refine and_i (Or.inl rfl) ?_
  refine gwst (congrArg (fun z => Value.int z :: _) (alen_k (n := 6) (by rfl))) ?_
  refine gs rfl ?_
  refine gs rfl ?_
  refine gs rfl ?_
  refine gs rfl ?_
  refine gs rfl ?_
  refine and_2 rfl (Or.inr rfl) ?_
  exact rfl
set_option maxRecDepth 20000 in
set_option maxHeartbeats 40000000 in
theorem lc_37 {s0 s1 s2 s3 s4 s5 : Int32} {d mc ms : Nat} : gw [s0, s1, s2, s3, s4, s5] (WP [s0, s1, s2, s3, s4, s5] (d + 20)) 190 (fun r _ => r = some (.int 1)) 1369 [some (.ref 0), some (.ref 32), some (.ref 89), some (.int 0)] [] (hX0 ++ hM0) mc ms := by
  refine gs rfl ?_
  refine gs rfl ?_
  refine and_i (Nat.le_of_ble_eq_true rfl) (cl0 (Nat.le_of_ble_eq_true rfl) (and_i (Nat.le_of_ble_eq_true rfl) ?_))
  refine gs rfl ?_
  refine gs rfl ?_
  refine gs rfl ?_
  refine gs rfl ?_
  refine gs rfl ?_
  refine gs rfl ?_
  refine gs rfl ?_
  refine gs rfl ?_
  refine and_3 (Nat.le_of_ble_eq_true rfl) (Nat.le_of_ble_eq_true rfl) trivial ?_
  refine gs rfl ?_
  refine gs rfl ?_
  refine and_i (Nat.le_of_ble_eq_true rfl) (cl0 (Nat.le_of_ble_eq_true rfl) (WPh (h' := hF 0 0 1 ++ hM0) (by decide +kernel) (c_think ?_)))
  refine gs rfl ?_
  refine gs rfl ?_
  refine gs rfl ?_
  refine gs rfl ?_
  refine gs rfl ?_
  refine gs rfl ?_
  refine gs rfl ?_
  refine gs rfl ?_
  refine and_i rfl ?_
  refine FRg rfl (fun f => ?_)
  refine gs rfl ?_
  refine gs rfl ?_
  refine and_i (Nat.le_of_ble_eq_true rfl) (cl0 (Nat.le_of_ble_eq_true rfl) (and_i (Nat.le_of_ble_eq_true rfl) ?_))
  refine gs rfl ?_
  refine gs rfl ?_
  refine gs rfl ?_
  refine gs rfl ?_
  refine and_2 rfl (vin rfl) ?_
  refine gs rfl ?_
  refine gs rfl ?_
  refine gs rfl ?_
  refine gs rfl ?_
  refine gs rfl ?_
  refine gs rfl ?_
  refine and_3 (Nat.le_of_ble_eq_true rfl) rfl (vin rfl) ?_
  refine gs rfl ?_
  refine gs rfl ?_
  refine gs rfl ?_
  refine gs rfl ?_
  refine gs rfl ?_
  refine gs rfl ?_
  refine and_i (Nat.le_of_ble_eq_true rfl) (cl0 (Nat.le_of_ble_eq_true rfl) (c_moveAll rfl (Nat.le_of_ble_eq_true rfl) rfl (by rfl) (by rfl) (by decide) ?_))
  refine gs rfl ?_
  refine gs rfl ?_
  refine gs rfl ?_
  refine gs rfl ?_
  refine gs rfl ?_
  refine gs rfl ?_
  refine gs rfl ?_
  refine gs rfl ?_
  refine gs rfl ?_
  refine gs rfl ?_
  refine gs rfl ?_
  refine gs rfl ?_
  refine gs rfl ?_
  refine and_i (Nat.le_of_ble_eq_true rfl) (cl0 (Nat.le_of_ble_eq_true rfl) (c_moveAll rfl (Nat.le_of_ble_eq_true rfl) rfl (by rfl) (by rfl) (by decide) ?_))
  refine gs rfl ?_
  refine gs rfl ?_
  refine gs rfl ?_
  refine gs rfl ?_
  refine gs rfl ?_
  refine and_i rfl ?_
  refine gs rfl ?_
  refine gs rfl ?_
  refine gs rfl ?_
  refine gs rfl ?_
  refine gs rfl ?_
  refine gs rfl ?_
  refine and_i (Or.inl rfl) ?_
  refine gwst (congrArg (fun z => Value.int z :: _) (alen_k (n := 6) (by rfl))) ?_
  refine gs rfl ?_
  refine gs rfl ?_
  refine gs rfl ?_
  refine gs rfl ?_
  refine gs rfl ?_
  refine and_2 rfl (Or.inr rfl) ?_
  exact rfl
set_option maxRecDepth 20000 in
set_option maxHeartbeats 40000000 in
theorem lc_38 {s0 s1 s2 s3 s4 s5 : Int32} {d mc ms : Nat} : gw [s0, s1, s2, s3, s4, s5] (WP [s0, s1, s2, s3, s4, s5] (d + 20)) 190 (fun r _ => r = some (.int 1)) 1382 [some (.ref 0), some (.ref 32), some (.ref 89), some (.int 0)] [] (hX0 ++ hM0) mc ms := by
  refine gs rfl ?_
  refine gs rfl ?_
  refine gs rfl ?_
  refine gs rfl ?_
  refine gs rfl ?_
  refine gs rfl ?_
  refine and_2 rfl (vin rfl) ?_
  refine gs rfl ?_
  refine and_i (Nat.le_of_ble_eq_true rfl) (cl0 (Nat.le_of_ble_eq_true rfl) (and_i (Nat.le_of_ble_eq_true rfl) ?_))
  refine gs rfl ?_
  refine gs rfl ?_
  refine ifs (fun c1 => ?_) (fun c1 => ?_)
  · have c1o : (s1).toInt < 0 ∨ 9 < (s1).toInt := c1
    refine gs rfl ?_
    refine gs rfl ?_
    refine gs rfl ?_
    refine and_i (Nat.le_of_ble_eq_true rfl) (cl0 (Nat.le_of_ble_eq_true rfl) (and_i (Nat.le_of_ble_eq_true rfl) ?_))
    refine gs rfl ?_
    refine gs rfl ?_
    refine gs rfl ?_
    refine gs rfl ?_
    refine gs rfl ?_
    refine and_2 rfl (vin rfl) ?_
    refine gs rfl ?_
    refine gs rfl ?_
    refine gs rfl ?_
    refine and_3 (Nat.le_of_ble_eq_true rfl) rfl (vin rfl) ?_
    refine gs rfl ?_
    refine gs rfl ?_
    refine gs rfl ?_
    refine gs rfl ?_
    refine and_i rfl ?_
    refine gs rfl ?_
    refine and_i rfl ?_
    refine FRg rfl (fun f => ?_)
    refine gs rfl ?_
    refine gs rfl ?_
    refine gs rfl ?_
    refine gs rfl ?_
    refine gs rfl ?_
    refine gs rfl ?_
    refine and_2 rfl (vin rfl) ?_
    refine gs rfl ?_
    refine and_i (Nat.le_of_ble_eq_true rfl) (cl0 (Nat.le_of_ble_eq_true rfl) (and_i (Nat.le_of_ble_eq_true rfl) ?_))
    refine gs rfl ?_
    refine gs rfl ?_
    refine ifT (by show (s1).toInt < 0 ∨ 9 < (s1).toInt; omega) ?_
    refine gs rfl ?_
    refine gs rfl ?_
    refine gs rfl ?_
    refine and_i (Nat.le_of_ble_eq_true rfl) (cl0 (Nat.le_of_ble_eq_true rfl) (and_i (Nat.le_of_ble_eq_true rfl) ?_))
    refine gs rfl ?_
    refine gs rfl ?_
    refine gs rfl ?_
    refine gs rfl ?_
    refine gs rfl ?_
    refine gs rfl ?_
    refine gs rfl ?_
    refine and_2 rfl (vin rfl) ?_
    refine gs rfl ?_
    refine gs rfl ?_
    refine gs rfl ?_
    refine and_3 (Nat.le_of_ble_eq_true rfl) rfl (vin rfl) ?_
    refine gs rfl ?_
    refine gs rfl ?_
    refine and_i rfl ?_
    refine gs rfl ?_
    refine and_i rfl ?_
    refine gs rfl ?_
    refine gs rfl ?_
    refine gs rfl ?_
    refine gs rfl ?_
    refine gs rfl ?_
    refine gs rfl ?_
    refine and_i (Or.inl rfl) ?_
    refine gwst (congrArg (fun z => Value.int z :: _) (alen_k (n := 6) (by rfl))) ?_
    refine gs rfl ?_
    refine gs rfl ?_
    refine gs rfl ?_
    refine gs rfl ?_
    refine gs rfl ?_
    refine and_2 rfl (Or.inr rfl) ?_
    exact rfl
  · have c1n : ¬ ((s1).toInt < 0 ∨ 9 < (s1).toInt) := c1
    have c1L : 0 ≤ (s1).toInt := by omega
    have c1H : (s1).toInt ≤ 9 := by omega
    obtain ⟨j2, e3, x4⟩ := nat_of (x := s1) (lo := 0) (hi := 9) (by omega) (by omega)
    rcases (show j2 = 0 ∨ j2 = 1 ∨ j2 = 2 ∨ j2 = 3 ∨ j2 = 4 ∨ j2 = 5 ∨ j2 = 6 ∨ j2 = 7 ∨ j2 = 8 ∨ j2 = 9 by omega) with rfl | rfl | rfl | rfl | rfl | rfl | rfl | rfl | rfl | rfl
    · have x4q : s1 = (0 : Int32) := x4
      clear x4
      subst x4q
      refine gs rfl ?_
      refine gs rfl ?_
      refine gs rfl ?_
      refine gs rfl ?_
      refine and_i rfl ?_
      refine FRg rfl (fun f => ?_)
      refine gs rfl ?_
      refine gs rfl ?_
      refine gs rfl ?_
      refine gs rfl ?_
      refine gs rfl ?_
      refine gs rfl ?_
      refine and_2 rfl (vin rfl) ?_
      refine gs rfl ?_
      refine and_i (Nat.le_of_ble_eq_true rfl) (cl0 (Nat.le_of_ble_eq_true rfl) (and_i (Nat.le_of_ble_eq_true rfl) ?_))
      refine gs rfl ?_
      refine gs rfl ?_
      refine gs rfl ?_
      refine gs rfl ?_
      refine gs rfl ?_
      refine gs rfl ?_
      refine and_2 rfl (vin rfl) ?_
      refine gs rfl ?_
      refine and_i rfl ?_
      refine gs rfl ?_
      refine gs rfl ?_
      refine gs rfl ?_
      refine gs rfl ?_
      refine gs rfl ?_
      refine gs rfl ?_
      refine and_i (Or.inl rfl) ?_
      refine gwst (congrArg (fun z => Value.int z :: _) (alen_k (n := 6) (by rfl))) ?_
      refine gs rfl ?_
      refine gs rfl ?_
      refine gs rfl ?_
      refine gs rfl ?_
      refine gs rfl ?_
      refine and_2 rfl (Or.inr rfl) ?_
      exact rfl
    · have x4q : s1 = (1 : Int32) := x4
      clear x4
      subst x4q
      refine gs rfl ?_
      refine gs rfl ?_
      refine gs rfl ?_
      refine gs rfl ?_
      refine and_i rfl ?_
      refine FRg rfl (fun f => ?_)
      refine gs rfl ?_
      refine gs rfl ?_
      refine gs rfl ?_
      refine gs rfl ?_
      refine gs rfl ?_
      refine gs rfl ?_
      refine and_2 rfl (vin rfl) ?_
      refine gs rfl ?_
      refine and_i (Nat.le_of_ble_eq_true rfl) (cl0 (Nat.le_of_ble_eq_true rfl) (and_i (Nat.le_of_ble_eq_true rfl) ?_))
      refine gs rfl ?_
      refine gs rfl ?_
      refine gs rfl ?_
      refine gs rfl ?_
      refine gs rfl ?_
      refine gs rfl ?_
      refine and_2 rfl (vin rfl) ?_
      refine gs rfl ?_
      refine and_i rfl ?_
      refine gs rfl ?_
      refine gs rfl ?_
      refine gs rfl ?_
      refine gs rfl ?_
      refine gs rfl ?_
      refine gs rfl ?_
      refine and_i (Or.inl rfl) ?_
      refine gwst (congrArg (fun z => Value.int z :: _) (alen_k (n := 6) (by rfl))) ?_
      refine gs rfl ?_
      refine gs rfl ?_
      refine gs rfl ?_
      refine gs rfl ?_
      refine gs rfl ?_
      refine and_2 rfl (Or.inr rfl) ?_
      exact rfl
    · have x4q : s1 = (2 : Int32) := x4
      clear x4
      subst x4q
      refine gs rfl ?_
      refine gs rfl ?_
      refine gs rfl ?_
      refine gs rfl ?_
      refine and_i rfl ?_
      refine FRg rfl (fun f => ?_)
      refine gs rfl ?_
      refine gs rfl ?_
      refine gs rfl ?_
      refine gs rfl ?_
      refine gs rfl ?_
      refine gs rfl ?_
      refine and_2 rfl (vin rfl) ?_
      refine gs rfl ?_
      refine and_i (Nat.le_of_ble_eq_true rfl) (cl0 (Nat.le_of_ble_eq_true rfl) (and_i (Nat.le_of_ble_eq_true rfl) ?_))
      refine gs rfl ?_
      refine gs rfl ?_
      refine gs rfl ?_
      refine gs rfl ?_
      refine gs rfl ?_
      refine gs rfl ?_
      refine and_2 rfl (vin rfl) ?_
      refine gs rfl ?_
      refine and_i rfl ?_
      refine gs rfl ?_
      refine gs rfl ?_
      refine gs rfl ?_
      refine gs rfl ?_
      refine gs rfl ?_
      refine gs rfl ?_
      refine and_i (Or.inl rfl) ?_
      refine gwst (congrArg (fun z => Value.int z :: _) (alen_k (n := 6) (by rfl))) ?_
      refine gs rfl ?_
      refine gs rfl ?_
      refine gs rfl ?_
      refine gs rfl ?_
      refine gs rfl ?_
      refine and_2 rfl (Or.inr rfl) ?_
      exact rfl
    · have x4q : s1 = (3 : Int32) := x4
      clear x4
      subst x4q
      refine gs rfl ?_
      refine gs rfl ?_
      refine gs rfl ?_
      refine and_i (Nat.le_of_ble_eq_true rfl) (cl0 (Nat.le_of_ble_eq_true rfl) (and_i (Nat.le_of_ble_eq_true rfl) ?_))
      refine gs rfl ?_
      refine gs rfl ?_
      refine gs rfl ?_
      refine gs rfl ?_
      refine gs rfl ?_
      refine gs rfl ?_
      refine gs rfl ?_
      refine gs rfl ?_
      refine gs rfl ?_
      refine gs rfl ?_
      refine and_i rfl ?_
      refine gs rfl ?_
      refine and_i rfl ?_
      refine FRg rfl (fun f => ?_)
      refine gs rfl ?_
      refine gs rfl ?_
      refine gs rfl ?_
      refine gs rfl ?_
      refine gs rfl ?_
      refine gs rfl ?_
      refine and_2 rfl (vin rfl) ?_
      refine gs rfl ?_
      refine and_i (Nat.le_of_ble_eq_true rfl) (cl0 (Nat.le_of_ble_eq_true rfl) (and_i (Nat.le_of_ble_eq_true rfl) ?_))
      refine gs rfl ?_
      refine gs rfl ?_
      refine gs rfl ?_
      refine gs rfl ?_
      refine gs rfl ?_
      refine and_i (Nat.le_of_ble_eq_true rfl) (cl0 (Nat.le_of_ble_eq_true rfl) (and_i (Nat.le_of_ble_eq_true rfl) ?_))
      refine gs rfl ?_
      refine gs rfl ?_
      refine gs rfl ?_
      refine gs rfl ?_
      refine gs rfl ?_
      refine gs rfl ?_
      refine gs rfl ?_
      refine gs rfl ?_
      refine gs rfl ?_
      refine and_2 rfl (vin rfl) ?_
      refine gs rfl ?_
      refine gs rfl ?_
      refine gs rfl ?_
      refine and_i rfl ?_
      refine gs rfl ?_
      refine and_i rfl ?_
      refine gs rfl ?_
      refine gs rfl ?_
      refine gs rfl ?_
      refine gs rfl ?_
      refine gs rfl ?_
      refine gs rfl ?_
      refine and_i (Or.inl rfl) ?_
      refine gwst (congrArg (fun z => Value.int z :: _) (alen_k (n := 6) (by rfl))) ?_
      refine gs rfl ?_
      refine gs rfl ?_
      refine gs rfl ?_
      refine gs rfl ?_
      refine gs rfl ?_
      refine and_2 rfl (Or.inr rfl) ?_
      exact rfl
    · have x4q : s1 = (4 : Int32) := x4
      clear x4
      subst x4q
      refine gs rfl ?_
      refine gs rfl ?_
      refine gs rfl ?_
      refine and_i (Nat.le_of_ble_eq_true rfl) (cl0 (Nat.le_of_ble_eq_true rfl) (and_i (Nat.le_of_ble_eq_true rfl) ?_))
      refine gs rfl ?_
      refine gs rfl ?_
      refine gs rfl ?_
      refine gs rfl ?_
      refine gs rfl ?_
      refine gs rfl ?_
      refine gs rfl ?_
      refine gs rfl ?_
      refine gs rfl ?_
      refine gs rfl ?_
      refine and_i rfl ?_
      refine gs rfl ?_
      refine and_i rfl ?_
      refine FRg rfl (fun f => ?_)
      refine gs rfl ?_
      refine gs rfl ?_
      refine gs rfl ?_
      refine gs rfl ?_
      refine gs rfl ?_
      refine gs rfl ?_
      refine and_2 rfl (vin rfl) ?_
      refine gs rfl ?_
      refine and_i (Nat.le_of_ble_eq_true rfl) (cl0 (Nat.le_of_ble_eq_true rfl) (and_i (Nat.le_of_ble_eq_true rfl) ?_))
      refine gs rfl ?_
      refine gs rfl ?_
      refine gs rfl ?_
      refine gs rfl ?_
      refine gs rfl ?_
      refine and_i (Nat.le_of_ble_eq_true rfl) (cl0 (Nat.le_of_ble_eq_true rfl) (and_i (Nat.le_of_ble_eq_true rfl) ?_))
      refine gs rfl ?_
      refine gs rfl ?_
      refine gs rfl ?_
      refine gs rfl ?_
      refine gs rfl ?_
      refine gs rfl ?_
      refine gs rfl ?_
      refine gs rfl ?_
      refine gs rfl ?_
      refine and_2 rfl (vin rfl) ?_
      refine gs rfl ?_
      refine gs rfl ?_
      refine gs rfl ?_
      refine and_i rfl ?_
      refine gs rfl ?_
      refine and_i rfl ?_
      refine gs rfl ?_
      refine gs rfl ?_
      refine gs rfl ?_
      refine gs rfl ?_
      refine gs rfl ?_
      refine gs rfl ?_
      refine and_i (Or.inl rfl) ?_
      refine gwst (congrArg (fun z => Value.int z :: _) (alen_k (n := 6) (by rfl))) ?_
      refine gs rfl ?_
      refine gs rfl ?_
      refine gs rfl ?_
      refine gs rfl ?_
      refine gs rfl ?_
      refine and_2 rfl (Or.inr rfl) ?_
      exact rfl
    · have x4q : s1 = (5 : Int32) := x4
      clear x4
      subst x4q
      refine gs rfl ?_
      refine gs rfl ?_
      refine gs rfl ?_
      refine and_i (Nat.le_of_ble_eq_true rfl) (cl0 (Nat.le_of_ble_eq_true rfl) (and_i (Nat.le_of_ble_eq_true rfl) ?_))
      refine gs rfl ?_
      refine gs rfl ?_
      refine gs rfl ?_
      refine gs rfl ?_
      refine gs rfl ?_
      refine gs rfl ?_
      refine gs rfl ?_
      refine gs rfl ?_
      refine gs rfl ?_
      refine gs rfl ?_
      refine and_i rfl ?_
      refine gs rfl ?_
      refine and_i rfl ?_
      refine FRg rfl (fun f => ?_)
      refine gs rfl ?_
      refine gs rfl ?_
      refine gs rfl ?_
      refine gs rfl ?_
      refine gs rfl ?_
      refine gs rfl ?_
      refine and_2 rfl (vin rfl) ?_
      refine gs rfl ?_
      refine and_i (Nat.le_of_ble_eq_true rfl) (cl0 (Nat.le_of_ble_eq_true rfl) (and_i (Nat.le_of_ble_eq_true rfl) ?_))
      refine gs rfl ?_
      refine gs rfl ?_
      refine gs rfl ?_
      refine gs rfl ?_
      refine gs rfl ?_
      refine and_i (Nat.le_of_ble_eq_true rfl) (cl0 (Nat.le_of_ble_eq_true rfl) (and_i (Nat.le_of_ble_eq_true rfl) ?_))
      refine gs rfl ?_
      refine gs rfl ?_
      refine gs rfl ?_
      refine gs rfl ?_
      refine gs rfl ?_
      refine gs rfl ?_
      refine gs rfl ?_
      refine gs rfl ?_
      refine gs rfl ?_
      refine and_2 rfl (vin rfl) ?_
      refine gs rfl ?_
      refine gs rfl ?_
      refine gs rfl ?_
      refine and_i rfl ?_
      refine gs rfl ?_
      refine and_i rfl ?_
      refine gs rfl ?_
      refine gs rfl ?_
      refine gs rfl ?_
      refine gs rfl ?_
      refine gs rfl ?_
      refine gs rfl ?_
      refine and_i (Or.inl rfl) ?_
      refine gwst (congrArg (fun z => Value.int z :: _) (alen_k (n := 6) (by rfl))) ?_
      refine gs rfl ?_
      refine gs rfl ?_
      refine gs rfl ?_
      refine gs rfl ?_
      refine gs rfl ?_
      refine and_2 rfl (Or.inr rfl) ?_
      exact rfl
    · have x4q : s1 = (6 : Int32) := x4
      clear x4
      subst x4q
      refine gs rfl ?_
      refine gs rfl ?_
      refine gs rfl ?_
      refine gs rfl ?_
      refine and_i rfl ?_
      refine FRg rfl (fun f => ?_)
      refine gs rfl ?_
      refine gs rfl ?_
      refine gs rfl ?_
      refine gs rfl ?_
      refine gs rfl ?_
      refine gs rfl ?_
      refine and_2 rfl (vin rfl) ?_
      refine gs rfl ?_
      refine and_i (Nat.le_of_ble_eq_true rfl) (cl0 (Nat.le_of_ble_eq_true rfl) (and_i (Nat.le_of_ble_eq_true rfl) ?_))
      refine gs rfl ?_
      refine gs rfl ?_
      refine gs rfl ?_
      refine gs rfl ?_
      refine gs rfl ?_
      refine gs rfl ?_
      refine and_2 rfl (vin rfl) ?_
      refine gs rfl ?_
      refine and_i rfl ?_
      refine gs rfl ?_
      refine gs rfl ?_
      refine gs rfl ?_
      refine gs rfl ?_
      refine gs rfl ?_
      refine gs rfl ?_
      refine and_i (Or.inl rfl) ?_
      refine gwst (congrArg (fun z => Value.int z :: _) (alen_k (n := 6) (by rfl))) ?_
      refine gs rfl ?_
      refine gs rfl ?_
      refine gs rfl ?_
      refine gs rfl ?_
      refine gs rfl ?_
      refine and_2 rfl (Or.inr rfl) ?_
      exact rfl
    · have x4q : s1 = (7 : Int32) := x4
      clear x4
      subst x4q
      refine gs rfl ?_
      refine gs rfl ?_
      refine gs rfl ?_
      refine gs rfl ?_
      refine and_i rfl ?_
      refine FRg rfl (fun f => ?_)
      refine gs rfl ?_
      refine gs rfl ?_
      refine gs rfl ?_
      refine gs rfl ?_
      refine gs rfl ?_
      refine gs rfl ?_
      refine and_2 rfl (vin rfl) ?_
      refine gs rfl ?_
      refine and_i (Nat.le_of_ble_eq_true rfl) (cl0 (Nat.le_of_ble_eq_true rfl) (and_i (Nat.le_of_ble_eq_true rfl) ?_))
      refine gs rfl ?_
      refine gs rfl ?_
      refine gs rfl ?_
      refine gs rfl ?_
      refine gs rfl ?_
      refine gs rfl ?_
      refine and_2 rfl (vin rfl) ?_
      refine gs rfl ?_
      refine and_i rfl ?_
      refine gs rfl ?_
      refine gs rfl ?_
      refine gs rfl ?_
      refine gs rfl ?_
      refine gs rfl ?_
      refine gs rfl ?_
      refine and_i (Or.inl rfl) ?_
      refine gwst (congrArg (fun z => Value.int z :: _) (alen_k (n := 6) (by rfl))) ?_
      refine gs rfl ?_
      refine gs rfl ?_
      refine gs rfl ?_
      refine gs rfl ?_
      refine gs rfl ?_
      refine and_2 rfl (Or.inr rfl) ?_
      exact rfl
    · have x4q : s1 = (8 : Int32) := x4
      clear x4
      subst x4q
      refine gs rfl ?_
      refine gs rfl ?_
      refine gs rfl ?_
      refine gs rfl ?_
      refine and_i rfl ?_
      refine FRg rfl (fun f => ?_)
      refine gs rfl ?_
      refine gs rfl ?_
      refine gs rfl ?_
      refine gs rfl ?_
      refine gs rfl ?_
      refine gs rfl ?_
      refine and_2 rfl (vin rfl) ?_
      refine gs rfl ?_
      refine and_i (Nat.le_of_ble_eq_true rfl) (cl0 (Nat.le_of_ble_eq_true rfl) (and_i (Nat.le_of_ble_eq_true rfl) ?_))
      refine gs rfl ?_
      refine gs rfl ?_
      refine gs rfl ?_
      refine gs rfl ?_
      refine gs rfl ?_
      refine and_i rfl ?_
      refine gs rfl ?_
      refine gs rfl ?_
      refine gs rfl ?_
      refine gs rfl ?_
      refine gs rfl ?_
      refine gs rfl ?_
      refine and_i (Or.inl rfl) ?_
      refine gwst (congrArg (fun z => Value.int z :: _) (alen_k (n := 6) (by rfl))) ?_
      refine gs rfl ?_
      refine gs rfl ?_
      refine gs rfl ?_
      refine gs rfl ?_
      refine gs rfl ?_
      refine and_2 rfl (Or.inr rfl) ?_
      exact rfl
    · have x4q : s1 = (9 : Int32) := x4
      clear x4
      subst x4q
      refine gs rfl ?_
      refine gs rfl ?_
      refine gs rfl ?_
      refine gs rfl ?_
      refine and_i rfl ?_
      refine FRg rfl (fun f => ?_)
      refine gs rfl ?_
      refine gs rfl ?_
      refine gs rfl ?_
      refine gs rfl ?_
      refine gs rfl ?_
      refine gs rfl ?_
      refine and_2 rfl (vin rfl) ?_
      refine gs rfl ?_
      refine and_i (Nat.le_of_ble_eq_true rfl) (cl0 (Nat.le_of_ble_eq_true rfl) (and_i (Nat.le_of_ble_eq_true rfl) ?_))
      refine gs rfl ?_
      refine gs rfl ?_
      refine gs rfl ?_
      refine gs rfl ?_
      refine gs rfl ?_
      refine gs rfl ?_
      refine and_2 rfl (vin rfl) ?_
      refine gs rfl ?_
      refine and_i rfl ?_
      refine gs rfl ?_
      refine gs rfl ?_
      refine gs rfl ?_
      refine gs rfl ?_
      refine gs rfl ?_
      refine gs rfl ?_
      refine and_i (Or.inl rfl) ?_
      refine gwst (congrArg (fun z => Value.int z :: _) (alen_k (n := 6) (by rfl))) ?_
      refine gs rfl ?_
      refine gs rfl ?_
      refine gs rfl ?_
      refine gs rfl ?_
      refine gs rfl ?_
      refine and_2 rfl (Or.inr rfl) ?_
      exact rfl
