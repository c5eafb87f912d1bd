/-! THE LAW'S CASES 29, over two new objects -/
set_option maxRecDepth 20000 in
set_option maxHeartbeats 40000000 in
theorem lc_29 {s0 s1 s2 s3 s4 s5 : Int32} {d mc ms : Nat} : gw [s0, s1, s2, s3, s4, s5] (WP [s0, s1, s2, s3, s4, s5] (d + 20)) 190 (fun r _ => r = some (.int 1)) 1125 [some (.ref 0), some (.ref 32), some (.ref 89), some (.int 0)] [] (hX0 ++ hM0) mc ms := by
  refine gs rfl ?_
  refine gs rfl ?_
  refine gs rfl ?_
  refine gs rfl ?_
  refine gs rfl ?_
  refine gs rfl ?_
  refine and_2 rfl (vin rfl) ?_
  refine gs rfl ?_
  refine gs rfl ?_
  refine gs rfl ?_
  refine gs rfl ?_
  refine gs rfl ?_
  refine and_2 rfl (vin rfl) ?_
  refine gs rfl ?_
  refine gs rfl ?_
  refine gs rfl ?_
  refine gs rfl ?_
  refine gs rfl ?_
  refine and_2 rfl (vin rfl) ?_
  refine gs rfl ?_
  refine and_i (Nat.le_of_ble_eq_true rfl) (cl0 (Nat.le_of_ble_eq_true rfl) (and_i (Nat.le_of_ble_eq_true rfl) ?_))
  refine gs rfl ?_
  refine gs rfl ?_
  refine gs rfl ?_
  refine and_i (Nat.le_of_ble_eq_true rfl) (cl0 (Nat.le_of_ble_eq_true rfl) (and_i (Nat.le_of_ble_eq_true rfl) ?_))
  refine gs rfl ?_
  refine gs rfl ?_
  refine ifs (fun c1 => ?_) (fun c1 => ?_)
  · have d2 : (s1).toInt < 0 := (lt_k (by rfl) (by rfl)).mp c1
    refine gs rfl ?_
    refine gs rfl ?_
    refine and_2 rfl (Or.inl rfl) ?_
    refine gs rfl ?_
    refine gs rfl ?_
    refine gs rfl ?_
    refine gs rfl ?_
    refine and_i (Nat.le_of_ble_eq_true rfl) (cl0 (Nat.le_of_ble_eq_true rfl) (and_i (Nat.le_of_ble_eq_true rfl) ?_))
    refine gs rfl ?_
    refine gs rfl ?_
    refine gs rfl ?_
    refine gs rfl ?_
    refine gs rfl ?_
    refine and_2 rfl (vin rfl) ?_
    refine gs rfl ?_
    refine gs rfl ?_
    refine gs rfl ?_
    refine and_3 (Nat.le_of_ble_eq_true rfl) rfl (vin rfl) ?_
    refine gs rfl ?_
    refine gs rfl ?_
    refine gs rfl ?_
    refine gs rfl ?_
    refine and_i rfl ?_
    refine gs rfl ?_
    refine and_i rfl ?_
    refine FRg rfl (fun f => ?_)
    refine gs rfl ?_
    refine gs rfl ?_
    refine gs rfl ?_
    refine gs rfl ?_
    refine gs rfl ?_
    refine gs rfl ?_
    refine and_2 rfl (vin rfl) ?_
    refine gs rfl ?_
    refine gs rfl ?_
    refine gs rfl ?_
    refine gs rfl ?_
    refine gs rfl ?_
    refine and_2 rfl (vin rfl) ?_
    refine gs rfl ?_
    refine gs rfl ?_
    refine gs rfl ?_
    refine gs rfl ?_
    refine gs rfl ?_
    refine and_2 rfl (vin rfl) ?_
    refine gs rfl ?_
    refine and_i (Nat.le_of_ble_eq_true rfl) (cl0 (Nat.le_of_ble_eq_true rfl) (and_i (Nat.le_of_ble_eq_true rfl) ?_))
    refine gs rfl ?_
    refine gs rfl ?_
    refine and_i (Nat.le_of_ble_eq_true rfl) (cl0 (Nat.le_of_ble_eq_true rfl) (and_i (Nat.le_of_ble_eq_true rfl) ?_))
    refine gs rfl ?_
    refine gs rfl ?_
    refine gs rfl ?_
    refine gs rfl ?_
    refine and_i (Nat.le_of_ble_eq_true rfl) (cl0 (Nat.le_of_ble_eq_true rfl) (and_i (Nat.le_of_ble_eq_true rfl) ?_))
    refine gs rfl ?_
    refine gs rfl ?_
    refine gs rfl ?_
    refine ifT ((lt_k (a := (s1).toInt) (b := 0) (by rfl) (by rfl)).mpr (by omega)) ?_
    refine gs rfl ?_
    refine gs rfl ?_
    refine and_2 rfl (Or.inl rfl) ?_
    refine gs rfl ?_
    refine and_2 rfl (Or.inl rfl) ?_
    refine gs rfl ?_
    refine gs rfl ?_
    refine gs rfl ?_
    refine gs rfl ?_
    refine and_i (Nat.le_of_ble_eq_true rfl) (cl0 (Nat.le_of_ble_eq_true rfl) (and_i (Nat.le_of_ble_eq_true rfl) ?_))
    refine gs rfl ?_
    refine gs rfl ?_
    refine gs rfl ?_
    refine gs rfl ?_
    refine gs rfl ?_
    refine gs rfl ?_
    refine gs rfl ?_
    refine and_2 rfl (vin rfl) ?_
    refine gs rfl ?_
    refine gs rfl ?_
    refine gs rfl ?_
    refine and_3 (Nat.le_of_ble_eq_true rfl) rfl (vin rfl) ?_
    refine gs rfl ?_
    refine gs rfl ?_
    refine and_i rfl ?_
    refine gs rfl ?_
    refine and_i rfl ?_
    refine gs rfl ?_
    refine gs rfl ?_
    refine gs rfl ?_
    refine gs rfl ?_
    refine gs rfl ?_
    refine gs rfl ?_
    refine and_i (Or.inl rfl) ?_
    refine gwst (congrArg (fun z => Value.int z :: _) (alen_k (n := 6) (by rfl))) ?_
    refine gs rfl ?_
    refine gs rfl ?_
    refine gs rfl ?_
    refine gs rfl ?_
    refine gs rfl ?_
    refine and_2 rfl (Or.inr rfl) ?_
    exact rfl
  · have d2 : ¬ ((s1).toInt < 0) := fun q => c1 ((lt_k (by rfl) (by rfl)).mpr q)
    refine gs rfl ?_
    refine gs rfl ?_
    refine gs rfl ?_
    refine ifs (fun c3 => ?_) (fun c3 => ?_)
    · have d4 : 3 < (s1).toInt := (lt_k (by rfl) (by rfl)).mp c3
      refine gs rfl ?_
      refine gs rfl ?_
      refine and_2 rfl (Or.inl rfl) ?_
      refine gs rfl ?_
      refine gs rfl ?_
      refine gs rfl ?_
      refine gs rfl ?_
      refine and_i (Nat.le_of_ble_eq_true rfl) (cl0 (Nat.le_of_ble_eq_true rfl) (and_i (Nat.le_of_ble_eq_true rfl) ?_))
      refine gs rfl ?_
      refine gs rfl ?_
      refine gs rfl ?_
      refine gs rfl ?_
      refine gs rfl ?_
      refine and_2 rfl (vin rfl) ?_
      refine gs rfl ?_
      refine gs rfl ?_
      refine gs rfl ?_
      refine and_3 (Nat.le_of_ble_eq_true rfl) rfl (vin rfl) ?_
      refine gs rfl ?_
      refine gs rfl ?_
      refine gs rfl ?_
      refine gs rfl ?_
      refine and_i rfl ?_
      refine gs rfl ?_
      refine and_i rfl ?_
      refine FRg rfl (fun f => ?_)
      refine gs rfl ?_
      refine gs rfl ?_
      refine gs rfl ?_
      refine gs rfl ?_
      refine gs rfl ?_
      refine gs rfl ?_
      refine and_2 rfl (vin rfl) ?_
      refine gs rfl ?_
      refine gs rfl ?_
      refine gs rfl ?_
      refine gs rfl ?_
      refine gs rfl ?_
      refine and_2 rfl (vin rfl) ?_
      refine gs rfl ?_
      refine gs rfl ?_
      refine gs rfl ?_
      refine gs rfl ?_
      refine gs rfl ?_
      refine and_2 rfl (vin rfl) ?_
      refine gs rfl ?_
      refine and_i (Nat.le_of_ble_eq_true rfl) (cl0 (Nat.le_of_ble_eq_true rfl) (and_i (Nat.le_of_ble_eq_true rfl) ?_))
      refine gs rfl ?_
      refine gs rfl ?_
      refine and_i (Nat.le_of_ble_eq_true rfl) (cl0 (Nat.le_of_ble_eq_true rfl) (and_i (Nat.le_of_ble_eq_true rfl) ?_))
      refine gs rfl ?_
      refine gs rfl ?_
      refine gs rfl ?_
      refine gs rfl ?_
      refine and_i (Nat.le_of_ble_eq_true rfl) (cl0 (Nat.le_of_ble_eq_true rfl) (and_i (Nat.le_of_ble_eq_true rfl) ?_))
      refine gs rfl ?_
      refine gs rfl ?_
      refine gs rfl ?_
      refine ifF ((fun q => absurd ((lt_k (a := (s1).toInt) (b := 0) (by rfl) (by rfl)).mp q) (by omega))) ?_
      refine gs rfl ?_
      refine gs rfl ?_
      refine gs rfl ?_
      refine ifT ((lt_k (a := 3) (b := (s1).toInt) (by rfl) (by rfl)).mpr (by omega)) ?_
      refine gs rfl ?_
      refine gs rfl ?_
      refine and_2 rfl (Or.inl rfl) ?_
      refine gs rfl ?_
      refine and_2 rfl (Or.inl rfl) ?_
      refine gs rfl ?_
      refine gs rfl ?_
      refine gs rfl ?_
      refine gs rfl ?_
      refine and_i (Nat.le_of_ble_eq_true rfl) (cl0 (Nat.le_of_ble_eq_true rfl) (and_i (Nat.le_of_ble_eq_true rfl) ?_))
      refine gs rfl ?_
      refine gs rfl ?_
      refine gs rfl ?_
      refine gs rfl ?_
      refine gs rfl ?_
      refine gs rfl ?_
      refine gs rfl ?_
      refine and_2 rfl (vin rfl) ?_
      refine gs rfl ?_
      refine gs rfl ?_
      refine gs rfl ?_
      refine and_3 (Nat.le_of_ble_eq_true rfl) rfl (vin rfl) ?_
      refine gs rfl ?_
      refine gs rfl ?_
      refine and_i rfl ?_
      refine gs rfl ?_
      refine and_i rfl ?_
      refine gs rfl ?_
      refine gs rfl ?_
      refine gs rfl ?_
      refine gs rfl ?_
      refine gs rfl ?_
      refine gs rfl ?_
      refine and_i (Or.inl rfl) ?_
      refine gwst (congrArg (fun z => Value.int z :: _) (alen_k (n := 6) (by rfl))) ?_
      refine gs rfl ?_
      refine gs rfl ?_
      refine gs rfl ?_
      refine gs rfl ?_
      refine gs rfl ?_
      refine and_2 rfl (Or.inr rfl) ?_
      exact rfl
    · have d4 : ¬ (3 < (s1).toInt) := fun q => c3 ((lt_k (by rfl) (by rfl)).mpr q)
      refine gs rfl ?_
      refine gs rfl ?_
      refine gs rfl ?_
      refine and_2 rfl (Or.inr rfl) ?_
      refine gs rfl ?_
      refine gs rfl ?_
      refine gs rfl ?_
      refine ifs (fun c5 => ?_) (fun c5 => ?_)
      · have d6 : (s2).toInt = 0 := (eq_k (by rfl) (by rfl)).mp c5
        refine gs rfl ?_
        refine gs rfl ?_
        refine ifT ((eq_k (a := (s2).toInt) (b := 0) (by rfl) (by rfl)).mpr (by omega)) ?_
        refine gs rfl ?_
        refine gs rfl ?_
        refine gs rfl ?_
        obtain ⟨j7, e8, x9⟩ := nat_of (x := s1) (lo := 0) (hi := 3) (by omega) (by omega)
        rcases (show j7 = 0 ∨ j7 = 1 ∨ j7 = 2 ∨ j7 = 3 by omega) with rfl | rfl | rfl | rfl
        · have x9q : s1 = (0 : Int32) := x9
          clear x9
          subst x9q
          refine gs rfl ?_
          refine and_2 (Nat.le_of_ble_eq_true rfl) (vin rfl) ?_
          refine and_2 rfl (fun z q => by cases q) ?_
          refine gs rfl ?_
          refine gs rfl ?_
          refine gs rfl ?_
          refine and_i (Nat.le_of_ble_eq_true rfl) (cl0 (Nat.le_of_ble_eq_true rfl) (and_i (Nat.le_of_ble_eq_true rfl) ?_))
          refine gs rfl ?_
          refine gs rfl ?_
          refine gs rfl ?_
          refine and_3 (Nat.le_of_ble_eq_true rfl) (Nat.le_of_ble_eq_true rfl) trivial ?_
          refine gs rfl ?_
          refine gs rfl ?_
          refine gs rfl ?_
          refine and_3 (Nat.le_of_ble_eq_true rfl) (Nat.le_of_ble_eq_true rfl) trivial ?_
          refine gs rfl ?_
          refine gs rfl ?_
          refine gs rfl ?_
          refine gs rfl ?_
          refine and_i (Nat.le_of_ble_eq_true rfl) (cl0 (Nat.le_of_ble_eq_true rfl) (and_i (Nat.le_of_ble_eq_true rfl) ?_))
          refine gs rfl ?_
          refine gs rfl ?_
          refine gs rfl ?_
          refine gs rfl ?_
          refine and_i (Or.inl rfl) ?_
          refine gwst (congrArg (fun z => Value.int z :: _) (alen_k (n := 40) (by rfl))) ?_
          refine gs rfl ?_
          refine gs rfl ?_
          refine gs rfl ?_
          refine gs rfl ?_
          refine gs rfl ?_
          refine gs rfl ?_
          refine gs rfl ?_
          refine gs rfl ?_
          refine and_3 (Nat.le_of_ble_eq_true rfl) rfl (vin rfl) ?_
          refine gs rfl ?_
          refine gs rfl ?_
          refine gs rfl ?_
          refine gs rfl ?_
          refine gs rfl ?_
          refine gs rfl ?_
          refine gs rfl ?_
          refine gs rfl ?_
          refine gs rfl ?_
          refine and_3 (Nat.le_of_ble_eq_true rfl) rfl (vin rfl) ?_
          refine gs rfl ?_
          refine gs rfl ?_
          refine gs rfl ?_
          refine gs rfl ?_
          refine gs rfl ?_
          refine gs rfl ?_
          refine gs rfl ?_
          refine gs rfl ?_
          refine gs rfl ?_
          refine and_3 (Nat.le_of_ble_eq_true rfl) rfl (vin rfl) ?_
          refine gs rfl ?_
          refine gs rfl ?_
          refine gs rfl ?_
          refine gs rfl ?_
          refine gs rfl ?_
          refine gs rfl ?_
          refine gs rfl ?_
          refine gs rfl ?_
          refine gs rfl ?_
          refine and_3 (Nat.le_of_ble_eq_true rfl) rfl (vin rfl) ?_
          refine gs rfl ?_
          refine gs rfl ?_
          refine gs rfl ?_
          refine gs rfl ?_
          refine gs rfl ?_
          refine gs rfl ?_
          refine gs rfl ?_
          refine gs rfl ?_
          refine gs rfl ?_
          refine and_3 (Nat.le_of_ble_eq_true rfl) rfl (vin rfl) ?_
          refine gs rfl ?_
          refine gs rfl ?_
          refine gs rfl ?_
          refine gs rfl ?_
          refine gs rfl ?_
          refine gs rfl ?_
          refine gs rfl ?_
          refine gs rfl ?_
          refine gs rfl ?_
          refine and_3 (Nat.le_of_ble_eq_true rfl) rfl (vin rfl) ?_
          refine gs rfl ?_
          refine gs rfl ?_
          refine gs rfl ?_
          refine gs rfl ?_
          refine gs rfl ?_
          refine gs rfl ?_
          refine gs rfl ?_
          refine gs rfl ?_
          refine gs rfl ?_
          refine and_3 (Nat.le_of_ble_eq_true rfl) rfl (vin rfl) ?_
          refine gs rfl ?_
          refine gs rfl ?_
          refine gs rfl ?_
          refine gs rfl ?_
          refine gs rfl ?_
          refine gs rfl ?_
          refine gs rfl ?_
          refine gs rfl ?_
          refine gs rfl ?_
          refine and_3 (Nat.le_of_ble_eq_true rfl) rfl (vin rfl) ?_
          refine gs rfl ?_
          refine gs rfl ?_
          refine gs rfl ?_
          refine gs rfl ?_
          refine gs rfl ?_
          refine gs rfl ?_
          refine gs rfl ?_
          refine gs rfl ?_
          refine gs rfl ?_
          refine and_3 (Nat.le_of_ble_eq_true rfl) rfl (vin rfl) ?_
          refine gs rfl ?_
          refine gs rfl ?_
          refine gs rfl ?_
          refine gs rfl ?_
          refine gs rfl ?_
          refine gs rfl ?_
          refine gs rfl ?_
          refine gs rfl ?_
          refine gs rfl ?_
          refine and_3 (Nat.le_of_ble_eq_true rfl) rfl (vin rfl) ?_
          refine gs rfl ?_
          refine gs rfl ?_
          refine gs rfl ?_
          refine gs rfl ?_
          refine gs rfl ?_
          refine gs rfl ?_
          refine gs rfl ?_
          refine gs rfl ?_
          refine gs rfl ?_
          refine and_3 (Nat.le_of_ble_eq_true rfl) rfl (vin rfl) ?_
          refine gs rfl ?_
          refine gs rfl ?_
          refine gs rfl ?_
          refine gs rfl ?_
          refine gs rfl ?_
          refine gs rfl ?_
          refine gs rfl ?_
          refine gs rfl ?_
          refine gs rfl ?_
          refine and_3 (Nat.le_of_ble_eq_true rfl) rfl (vin rfl) ?_
          refine gs rfl ?_
          refine gs rfl ?_
          refine gs rfl ?_
          refine gs rfl ?_
          refine gs rfl ?_
          refine gs rfl ?_
          refine gs rfl ?_
          refine gs rfl ?_
          refine gs rfl ?_
          refine and_3 (Nat.le_of_ble_eq_true rfl) rfl (vin rfl) ?_
          refine gs rfl ?_
          refine gs rfl ?_
          refine gs rfl ?_
          refine gs rfl ?_
          refine gs rfl ?_
          refine gs rfl ?_
          refine gs rfl ?_
          refine gs rfl ?_
          refine gs rfl ?_
          refine and_3 (Nat.le_of_ble_eq_true rfl) rfl (vin rfl) ?_
          refine gs rfl ?_
          refine gs rfl ?_
          refine gs rfl ?_
          refine gs rfl ?_
          refine gs rfl ?_
          refine gs rfl ?_
          refine gs rfl ?_
          refine gs rfl ?_
          refine gs rfl ?_
          refine and_3 (Nat.le_of_ble_eq_true rfl) rfl (vin rfl) ?_
          refine gs rfl ?_
          refine gs rfl ?_
          refine gs rfl ?_
          refine gs rfl ?_
          refine gs rfl ?_
          refine gs rfl ?_
          refine gs rfl ?_
          refine gs rfl ?_
          refine gs rfl ?_
          refine and_3 (Nat.le_of_ble_eq_true rfl) rfl (vin rfl) ?_
          refine gs rfl ?_
          refine gs rfl ?_
          refine gs rfl ?_
          refine gs rfl ?_
          refine gs rfl ?_
          refine gs rfl ?_
          refine gs rfl ?_
          refine gs rfl ?_
          refine gs rfl ?_
          refine and_3 (Nat.le_of_ble_eq_true rfl) rfl (vin rfl) ?_
          refine gs rfl ?_
          refine gs rfl ?_
          refine gs rfl ?_
          refine gs rfl ?_
          refine gs rfl ?_
          refine gs rfl ?_
          refine gs rfl ?_
          refine gs rfl ?_
          refine gs rfl ?_
          refine and_3 (Nat.le_of_ble_eq_true rfl) rfl (vin rfl) ?_
          refine gs rfl ?_
          refine gs rfl ?_
          refine gs rfl ?_
          refine gs rfl ?_
          refine gs rfl ?_
          refine gs rfl ?_
          refine gs rfl ?_
          refine gs rfl ?_
          refine gs rfl ?_
          refine and_3 (Nat.le_of_ble_eq_true rfl) rfl (vin rfl) ?_
          refine gs rfl ?_
          refine gs rfl ?_
          refine gs rfl ?_
          refine gs rfl ?_
          refine gs rfl ?_
          refine gs rfl ?_
          refine gs rfl ?_
          refine gs rfl ?_
          refine gs rfl ?_
          refine and_3 (Nat.le_of_ble_eq_true rfl) rfl (vin rfl) ?_
          refine gs rfl ?_
          refine gs rfl ?_
          refine gs rfl ?_
          refine gs rfl ?_
          refine gs rfl ?_
          refine gs rfl ?_
          refine gs rfl ?_
          refine gs rfl ?_
          refine gs rfl ?_
          refine and_3 (Nat.le_of_ble_eq_true rfl) rfl (vin rfl) ?_
          refine gs rfl ?_
          refine gs rfl ?_
          refine gs rfl ?_
          refine gs rfl ?_
          refine gs rfl ?_
          refine gs rfl ?_
          refine gs rfl ?_
          refine gs rfl ?_
          refine gs rfl ?_
          refine and_3 (Nat.le_of_ble_eq_true rfl) rfl (vin rfl) ?_
          refine gs rfl ?_
          refine gs rfl ?_
          refine gs rfl ?_
          refine gs rfl ?_
          refine gs rfl ?_
          refine gs rfl ?_
          refine gs rfl ?_
          refine gs rfl ?_
          refine gs rfl ?_
          refine and_3 (Nat.le_of_ble_eq_true rfl) rfl (vin rfl) ?_
          refine gs rfl ?_
          refine gs rfl ?_
          refine gs rfl ?_
          refine gs rfl ?_
          refine gs rfl ?_
          refine gs rfl ?_
          refine gs rfl ?_
          refine gs rfl ?_
          refine gs rfl ?_
          refine and_3 (Nat.le_of_ble_eq_true rfl) rfl (vin rfl) ?_
          refine gs rfl ?_
          refine gs rfl ?_
          refine gs rfl ?_
          refine gs rfl ?_
          refine gs rfl ?_
          refine gs rfl ?_
          refine gs rfl ?_
          refine gs rfl ?_
          refine gs rfl ?_
          refine and_3 (Nat.le_of_ble_eq_true rfl) rfl (vin rfl) ?_
          refine gs rfl ?_
          refine gs rfl ?_
          refine gs rfl ?_
          refine gs rfl ?_
          refine gs rfl ?_
          refine gs rfl ?_
          refine gs rfl ?_
          refine gs rfl ?_
          refine gs rfl ?_
          refine and_3 (Nat.le_of_ble_eq_true rfl) rfl (vin rfl) ?_
          refine gs rfl ?_
          refine gs rfl ?_
          refine gs rfl ?_
          refine gs rfl ?_
          refine gs rfl ?_
          refine gs rfl ?_
          refine gs rfl ?_
          refine gs rfl ?_
          refine gs rfl ?_
          refine and_3 (Nat.le_of_ble_eq_true rfl) rfl (vin rfl) ?_
          refine gs rfl ?_
          refine gs rfl ?_
          refine gs rfl ?_
          refine gs rfl ?_
          refine gs rfl ?_
          refine gs rfl ?_
          refine gs rfl ?_
          refine gs rfl ?_
          refine gs rfl ?_
          refine and_3 (Nat.le_of_ble_eq_true rfl) rfl (vin rfl) ?_
          refine gs rfl ?_
          refine gs rfl ?_
          refine gs rfl ?_
          refine gs rfl ?_
          refine gs rfl ?_
          refine gs rfl ?_
          refine gs rfl ?_
          refine gs rfl ?_
          refine gs rfl ?_
          refine and_3 (Nat.le_of_ble_eq_true rfl) rfl (vin rfl) ?_
          refine gs rfl ?_
          refine gs rfl ?_
          refine gs rfl ?_
          refine gs rfl ?_
          refine gs rfl ?_
          refine gs rfl ?_
          refine gs rfl ?_
          refine gs rfl ?_
          refine gs rfl ?_
          refine and_3 (Nat.le_of_ble_eq_true rfl) rfl (vin rfl) ?_
          refine gs rfl ?_
          refine gs rfl ?_
          refine gs rfl ?_
          refine gs rfl ?_
          refine gs rfl ?_
          refine gs rfl ?_
          refine gs rfl ?_
          refine gs rfl ?_
          refine gs rfl ?_
          refine and_3 (Nat.le_of_ble_eq_true rfl) rfl (vin rfl) ?_
          refine gs rfl ?_
          refine gs rfl ?_
          refine gs rfl ?_
          refine gs rfl ?_
          refine gs rfl ?_
          refine gs rfl ?_
          refine gs rfl ?_
          refine gs rfl ?_
          refine gs rfl ?_
          refine and_3 (Nat.le_of_ble_eq_true rfl) rfl (vin rfl) ?_
          refine gs rfl ?_
          refine gs rfl ?_
          refine gs rfl ?_
          refine gs rfl ?_
          refine gs rfl ?_
          refine gs rfl ?_
          refine gs rfl ?_
          refine gs rfl ?_
          refine gs rfl ?_
          refine and_3 (Nat.le_of_ble_eq_true rfl) rfl (vin rfl) ?_
          refine gs rfl ?_
          refine gs rfl ?_
          refine gs rfl ?_
          refine gs rfl ?_
          refine gs rfl ?_
          refine gs rfl ?_
          refine gs rfl ?_
          refine gs rfl ?_
          refine gs rfl ?_
          refine and_3 (Nat.le_of_ble_eq_true rfl) rfl (vin rfl) ?_
          refine gs rfl ?_
          refine gs rfl ?_
          refine gs rfl ?_
          refine gs rfl ?_
          refine gs rfl ?_
          refine gs rfl ?_
          refine gs rfl ?_
          refine gs rfl ?_
          refine gs rfl ?_
          refine and_3 (Nat.le_of_ble_eq_true rfl) rfl (vin rfl) ?_
          refine gs rfl ?_
          refine gs rfl ?_
          refine gs rfl ?_
          refine gs rfl ?_
          refine gs rfl ?_
          refine gs rfl ?_
          refine gs rfl ?_
          refine gs rfl ?_
          refine gs rfl ?_
          refine and_3 (Nat.le_of_ble_eq_true rfl) rfl (vin rfl) ?_
          refine gs rfl ?_
          refine gs rfl ?_
          refine gs rfl ?_
          refine gs rfl ?_
          refine gs rfl ?_
          refine gs rfl ?_
          refine gs rfl ?_
          refine gs rfl ?_
          refine gs rfl ?_
          refine and_3 (Nat.le_of_ble_eq_true rfl) rfl (vin rfl) ?_
          refine gs rfl ?_
          refine gs rfl ?_
          refine gs rfl ?_
          refine gs rfl ?_
          refine gs rfl ?_
          refine gs rfl ?_
          refine gs rfl ?_
          refine gs rfl ?_
          refine gs rfl ?_
          refine and_3 (Nat.le_of_ble_eq_true rfl) rfl (vin rfl) ?_
          refine gs rfl ?_
          refine gs rfl ?_
          refine gs rfl ?_
          refine gs rfl ?_
          refine gs rfl ?_
          refine gs rfl ?_
          refine gs rfl ?_
          refine gs rfl ?_
          refine gs rfl ?_
          refine and_3 (Nat.le_of_ble_eq_true rfl) rfl (vin rfl) ?_
          refine gs rfl ?_
          refine gs rfl ?_
          refine gs rfl ?_
          refine gs rfl ?_
          refine gs rfl ?_
          refine gs rfl ?_
          refine gs rfl ?_
          refine gs rfl ?_
          refine gs rfl ?_
          refine and_3 (Nat.le_of_ble_eq_true rfl) rfl (vin rfl) ?_
          refine gs rfl ?_
          refine gs rfl ?_
          refine gs rfl ?_
          refine gs rfl ?_
          refine gs rfl ?_
          refine gs rfl ?_
          refine and_i rfl ?_
          refine gs rfl ?_
          refine and_i rfl ?_
          refine gs rfl ?_
          refine gs rfl ?_
          refine and_i rfl ?_
          refine FRg rfl (fun f => ?_)
          refine gs rfl ?_
          refine gs rfl ?_
          refine gs rfl ?_
          refine gs rfl ?_
          refine gs rfl ?_
          refine gs rfl ?_
          refine and_2 rfl (vin rfl) ?_
          refine gs rfl ?_
          refine gs rfl ?_
          refine gs rfl ?_
          refine gs rfl ?_
          refine gs rfl ?_
          refine and_2 rfl (vin rfl) ?_
          refine gs rfl ?_
          refine gs rfl ?_
          refine gs rfl ?_
          refine gs rfl ?_
          refine gs rfl ?_
          refine and_2 rfl (vin rfl) ?_
          refine gs rfl ?_
          refine and_i (Nat.le_of_ble_eq_true rfl) (cl0 (Nat.le_of_ble_eq_true rfl) (and_i (Nat.le_of_ble_eq_true rfl) ?_))
          refine gs rfl ?_
          refine gs rfl ?_
          refine and_i (Nat.le_of_ble_eq_true rfl) (cl0 (Nat.le_of_ble_eq_true rfl) (and_i (Nat.le_of_ble_eq_true rfl) ?_))
          refine gs rfl ?_
          refine gs rfl ?_
          refine gs rfl ?_
          refine gs rfl ?_
          refine and_i (Nat.le_of_ble_eq_true rfl) (cl0 (Nat.le_of_ble_eq_true rfl) (and_i (Nat.le_of_ble_eq_true rfl) ?_))
          refine gs rfl ?_
          refine gs rfl ?_
          refine gs rfl ?_
          refine gs rfl ?_
          refine gs rfl ?_
          refine gs rfl ?_
          refine gs rfl ?_
          refine gs rfl ?_
          refine gs rfl ?_
          refine and_2 rfl (Or.inr rfl) ?_
          refine gs rfl ?_
          refine and_2 rfl (Or.inr rfl) ?_
          refine gs rfl ?_
          refine gs rfl ?_
          refine gs rfl ?_
          refine ifT ((eq_k (a := (s2).toInt) (b := 0) (by rfl) (by rfl)).mpr (by omega)) ?_
          refine gs rfl ?_
          refine gs rfl ?_
          refine ifT ((eq_k (a := (s2).toInt) (b := 0) (by rfl) (by rfl)).mpr (by omega)) ?_
          refine gs rfl ?_
          refine gs rfl ?_
          refine ifT ((eq_k (a := (s2).toInt) (b := 0) (by rfl) (by rfl)).mpr (by omega)) ?_
          refine gs rfl ?_
          refine gs rfl ?_
          refine gs rfl ?_
          refine gs rfl ?_
          refine gs rfl ?_
          refine and_3 (Nat.le_of_ble_eq_true rfl) rfl (vin rfl) ?_
          refine gs rfl ?_
          refine gs rfl ?_
          refine gs rfl ?_
          refine gs rfl ?_
          refine gs rfl ?_
          refine ifT ((eq_k (a := (s2).toInt) (b := 0) (by rfl) (by rfl)).mpr (by omega)) ?_
          refine gs rfl ?_
          refine gs rfl ?_
          refine gs rfl ?_
          refine and_3 (Nat.le_of_ble_eq_true rfl) rfl (vin rfl) ?_
          refine gs rfl ?_
          refine gs rfl ?_
          refine gs rfl ?_
          refine gs rfl ?_
          refine gs rfl ?_
          refine gs rfl ?_
          refine gs rfl ?_
          refine gs rfl ?_
          refine gs rfl ?_
          refine gs rfl ?_
          refine gs rfl ?_
          refine gs rfl ?_
          refine gs rfl ?_
          refine gs rfl ?_
          refine and_3 (Nat.le_of_ble_eq_true rfl) rfl (vin rfl) ?_
          refine gs rfl ?_
          refine gs rfl ?_
          refine gs rfl ?_
          refine gs rfl ?_
          refine gs rfl ?_
          refine gs rfl ?_
          refine gs rfl ?_
          refine gs rfl ?_
          refine gs rfl ?_
          refine gs rfl ?_
          refine gs rfl ?_
          refine gs rfl ?_
          refine gs rfl ?_
          refine gs rfl ?_
          refine and_3 (Nat.le_of_ble_eq_true rfl) rfl (vin rfl) ?_
          refine gs rfl ?_
          refine gs rfl ?_
          refine gs rfl ?_
          refine gs rfl ?_
          refine gs rfl ?_
          refine gs rfl ?_
          refine gs rfl ?_
          refine gs rfl ?_
          refine gs rfl ?_
          refine gs rfl ?_
          refine gs rfl ?_
          refine gs rfl ?_
          refine gs rfl ?_
          refine gs rfl ?_
          refine and_3 (Nat.le_of_ble_eq_true rfl) rfl (vin rfl) ?_
          refine gs rfl ?_
          refine gs rfl ?_
          refine gs rfl ?_
          refine gs rfl ?_
          refine gs rfl ?_
          refine gs rfl ?_
          refine gs rfl ?_
          refine gs rfl ?_
          refine gs rfl ?_
          refine gs rfl ?_
          refine gs rfl ?_
          refine gs rfl ?_
          refine gs rfl ?_
          refine gs rfl ?_
          refine and_3 (Nat.le_of_ble_eq_true rfl) rfl (vin rfl) ?_
          refine gs rfl ?_
          refine gs rfl ?_
          refine gs rfl ?_
          refine gs rfl ?_
          refine gs rfl ?_
          refine gs rfl ?_
          refine gs rfl ?_
          refine gs rfl ?_
          refine gs rfl ?_
          refine gs rfl ?_
          refine gs rfl ?_
          refine gs rfl ?_
          refine gs rfl ?_
          refine gs rfl ?_
          refine and_3 (Nat.le_of_ble_eq_true rfl) rfl (vin rfl) ?_
          refine gs rfl ?_
          refine gs rfl ?_
          refine gs rfl ?_
          refine gs rfl ?_
          refine gs rfl ?_
          refine gs rfl ?_
          refine gs rfl ?_
          refine gs rfl ?_
          refine gs rfl ?_
          refine gs rfl ?_
          refine gs rfl ?_
          refine gs rfl ?_
          refine gs rfl ?_
          refine gs rfl ?_
          refine and_3 (Nat.le_of_ble_eq_true rfl) rfl (vin rfl) ?_
          refine gs rfl ?_
          refine gs rfl ?_
          refine gs rfl ?_
          refine gs rfl ?_
          refine gs rfl ?_
          refine gs rfl ?_
          refine gs rfl ?_
          refine gs rfl ?_
          refine gs rfl ?_
          refine gs rfl ?_
          refine gs rfl ?_
          refine gs rfl ?_
          refine gs rfl ?_
          refine gs rfl ?_
          refine and_3 (Nat.le_of_ble_eq_true rfl) rfl (vin rfl) ?_
          refine gs rfl ?_
          refine gs rfl ?_
          refine gs rfl ?_
          refine gs rfl ?_
          refine gs rfl ?_
          refine gs rfl ?_
          refine gs rfl ?_
          refine gs rfl ?_
          refine gs rfl ?_
          refine gs rfl ?_
          refine gs rfl ?_
          refine gs rfl ?_
          refine gs rfl ?_
          refine gs rfl ?_
          refine and_3 (Nat.le_of_ble_eq_true rfl) rfl (vin rfl) ?_
          refine gs rfl ?_
          refine gs rfl ?_
          refine gs rfl ?_
          refine gs rfl ?_
          refine gs rfl ?_
          refine gs rfl ?_
          refine gs rfl ?_
          refine gs rfl ?_
          refine gs rfl ?_
          refine gs rfl ?_
          refine gs rfl ?_
          refine gs rfl ?_
          refine gs rfl ?_
          refine gs rfl ?_
          refine and_3 (Nat.le_of_ble_eq_true rfl) rfl (vin rfl) ?_
          refine gs rfl ?_
          refine gs rfl ?_
          refine gs rfl ?_
          refine gs rfl ?_
          refine gs rfl ?_
          refine gs rfl ?_
          refine gs rfl ?_
          refine gs rfl ?_
          refine gs rfl ?_
          refine gs rfl ?_
          refine gs rfl ?_
          refine gs rfl ?_
          refine gs rfl ?_
          refine gs rfl ?_
          refine and_3 (Nat.le_of_ble_eq_true rfl) rfl (vin rfl) ?_
          refine gs rfl ?_
          refine gs rfl ?_
          refine gs rfl ?_
          refine gs rfl ?_
          refine gs rfl ?_
          refine gs rfl ?_
          refine gs rfl ?_
          refine gs rfl ?_
          refine gs rfl ?_
          refine gs rfl ?_
          refine gs rfl ?_
          refine gs rfl ?_
          refine gs rfl ?_
          refine gs rfl ?_
          refine and_3 (Nat.le_of_ble_eq_true rfl) rfl (vin rfl) ?_
          refine gs rfl ?_
          refine gs rfl ?_
          refine gs rfl ?_
          refine gs rfl ?_
          refine gs rfl ?_
          refine gs rfl ?_
          refine gs rfl ?_
          refine gs rfl ?_
          refine gs rfl ?_
          refine gs rfl ?_
          refine gs rfl ?_
          refine gs rfl ?_
          refine gs rfl ?_
          refine gs rfl ?_
          refine and_3 (Nat.le_of_ble_eq_true rfl) rfl (vin rfl) ?_
          refine gs rfl ?_
          refine gs rfl ?_
          refine gs rfl ?_
          refine gs rfl ?_
          refine gs rfl ?_
          refine gs rfl ?_
          refine gs rfl ?_
          refine gs rfl ?_
          refine gs rfl ?_
          refine gs rfl ?_
          refine gs rfl ?_
          refine gs rfl ?_
          refine gs rfl ?_
          refine gs rfl ?_
          refine and_3 (Nat.le_of_ble_eq_true rfl) rfl (vin rfl) ?_
          refine gs rfl ?_
          refine gs rfl ?_
          refine gs rfl ?_
          refine gs rfl ?_
          refine gs rfl ?_
          refine gs rfl ?_
          refine gs rfl ?_
          refine gs rfl ?_
          refine gs rfl ?_
          refine gs rfl ?_
          refine gs rfl ?_
          refine gs rfl ?_
          refine gs rfl ?_
          refine gs rfl ?_
          refine and_3 (Nat.le_of_ble_eq_true rfl) rfl (vin rfl) ?_
          refine gs rfl ?_
          refine gs rfl ?_
          refine gs rfl ?_
          refine gs rfl ?_
          refine gs rfl ?_
          refine gs rfl ?_
          refine gs rfl ?_
          refine gs rfl ?_
          refine gs rfl ?_
          refine gs rfl ?_
          refine gs rfl ?_
          refine gs rfl ?_
          refine gs rfl ?_
          refine gs rfl ?_
          refine and_3 (Nat.le_of_ble_eq_true rfl) rfl (vin rfl) ?_
          refine gs rfl ?_
          refine gs rfl ?_
          refine gs rfl ?_
          refine gs rfl ?_
          refine gs rfl ?_
          refine gs rfl ?_
          refine gs rfl ?_
          refine gs rfl ?_
          refine gs rfl ?_
          refine gs rfl ?_
          refine gs rfl ?_
          refine gs rfl ?_
          refine gs rfl ?_
          refine gs rfl ?_
          refine and_3 (Nat.le_of_ble_eq_true rfl) rfl (vin rfl) ?_
          refine gs rfl ?_
          refine gs rfl ?_
          refine gs rfl ?_
          refine gs rfl ?_
          refine gs rfl ?_
          refine gs rfl ?_
          refine gs rfl ?_
          refine gs rfl ?_
          refine gs rfl ?_
          refine gs rfl ?_
          refine gs rfl ?_
          refine gs rfl ?_
          refine gs rfl ?_
          refine gs rfl ?_
          refine and_3 (Nat.le_of_ble_eq_true rfl) rfl (vin rfl) ?_
          refine gs rfl ?_
          refine gs rfl ?_
          refine gs rfl ?_
          refine gs rfl ?_
          refine gs rfl ?_
          refine gs rfl ?_
          refine gs rfl ?_
          refine gs rfl ?_
          refine gs rfl ?_
          refine gs rfl ?_
          refine gs rfl ?_
          refine gs rfl ?_
          refine gs rfl ?_
          refine gs rfl ?_
          refine and_3 (Nat.le_of_ble_eq_true rfl) rfl (vin rfl) ?_
          refine gs rfl ?_
          refine gs rfl ?_
          refine gs rfl ?_
          refine gs rfl ?_
          refine gs rfl ?_
          refine gs rfl ?_
          refine gs rfl ?_
          refine gs rfl ?_
          refine gs rfl ?_
          refine gs rfl ?_
          refine gs rfl ?_
          refine gs rfl ?_
          refine gs rfl ?_
          refine gs rfl ?_
          refine and_3 (Nat.le_of_ble_eq_true rfl) rfl (vin rfl) ?_
          refine gs rfl ?_
          refine gs rfl ?_
          refine gs rfl ?_
          refine gs rfl ?_
          refine gs rfl ?_
          refine gs rfl ?_
          refine gs rfl ?_
          refine gs rfl ?_
          refine gs rfl ?_
          refine gs rfl ?_
          refine gs rfl ?_
          refine gs rfl ?_
          refine gs rfl ?_
          refine gs rfl ?_
          refine and_3 (Nat.le_of_ble_eq_true rfl) rfl (vin rfl) ?_
          refine gs rfl ?_
          refine gs rfl ?_
          refine gs rfl ?_
          refine gs rfl ?_
          refine gs rfl ?_
          refine gs rfl ?_
          refine gs rfl ?_
          refine gs rfl ?_
          refine gs rfl ?_
          refine gs rfl ?_
          refine gs rfl ?_
          refine gs rfl ?_
          refine gs rfl ?_
          refine gs rfl ?_
          refine and_3 (Nat.le_of_ble_eq_true rfl) rfl (vin rfl) ?_
          refine gs rfl ?_
          refine gs rfl ?_
          refine gs rfl ?_
          refine gs rfl ?_
          refine gs rfl ?_
          refine gs rfl ?_
          refine gs rfl ?_
          refine gs rfl ?_
          refine gs rfl ?_
          refine gs rfl ?_
          refine gs rfl ?_
          refine gs rfl ?_
          refine gs rfl ?_
          refine gs rfl ?_
          refine and_3 (Nat.le_of_ble_eq_true rfl) rfl (vin rfl) ?_
          refine gs rfl ?_
          refine gs rfl ?_
          refine gs rfl ?_
          refine gs rfl ?_
          refine gs rfl ?_
          refine gs rfl ?_
          refine gs rfl ?_
          refine gs rfl ?_
          refine gs rfl ?_
          refine gs rfl ?_
          refine gs rfl ?_
          refine gs rfl ?_
          refine gs rfl ?_
          refine gs rfl ?_
          refine and_3 (Nat.le_of_ble_eq_true rfl) rfl (vin rfl) ?_
          refine gs rfl ?_
          refine gs rfl ?_
          refine gs rfl ?_
          refine gs rfl ?_
          refine gs rfl ?_
          refine gs rfl ?_
          refine gs rfl ?_
          refine gs rfl ?_
          refine gs rfl ?_
          refine gs rfl ?_
          refine gs rfl ?_
          refine gs rfl ?_
          refine gs rfl ?_
          refine gs rfl ?_
          refine and_3 (Nat.le_of_ble_eq_true rfl) rfl (vin rfl) ?_
          refine gs rfl ?_
          refine gs rfl ?_
          refine gs rfl ?_
          refine gs rfl ?_
          refine gs rfl ?_
          refine gs rfl ?_
          refine gs rfl ?_
          refine gs rfl ?_
          refine gs rfl ?_
          refine gs rfl ?_
          refine gs rfl ?_
          refine gs rfl ?_
          refine gs rfl ?_
          refine gs rfl ?_
          refine and_3 (Nat.le_of_ble_eq_true rfl) rfl (vin rfl) ?_
          refine gs rfl ?_
          refine gs rfl ?_
          refine gs rfl ?_
          refine gs rfl ?_
          refine gs rfl ?_
          refine gs rfl ?_
          refine gs rfl ?_
          refine gs rfl ?_
          refine gs rfl ?_
          refine gs rfl ?_
          refine gs rfl ?_
          refine gs rfl ?_
          refine gs rfl ?_
          refine gs rfl ?_
          refine and_3 (Nat.le_of_ble_eq_true rfl) rfl (vin rfl) ?_
          refine gs rfl ?_
          refine gs rfl ?_
          refine gs rfl ?_
          refine gs rfl ?_
          refine gs rfl ?_
          refine gs rfl ?_
          refine gs rfl ?_
          refine gs rfl ?_
          refine gs rfl ?_
          refine gs rfl ?_
          refine gs rfl ?_
          refine gs rfl ?_
          refine gs rfl ?_
          refine gs rfl ?_
          refine and_3 (Nat.le_of_ble_eq_true rfl) rfl (vin rfl) ?_
          refine gs rfl ?_
          refine gs rfl ?_
          refine gs rfl ?_
          refine gs rfl ?_
          refine gs rfl ?_
          refine gs rfl ?_
          refine gs rfl ?_
          refine gs rfl ?_
          refine gs rfl ?_
          refine gs rfl ?_
          refine gs rfl ?_
          refine gs rfl ?_
          refine gs rfl ?_
          refine gs rfl ?_
          refine and_3 (Nat.le_of_ble_eq_true rfl) rfl (vin rfl) ?_
          refine gs rfl ?_
          refine gs rfl ?_
          refine gs rfl ?_
          refine gs rfl ?_
          refine gs rfl ?_
          refine gs rfl ?_
          refine gs rfl ?_
          refine gs rfl ?_
          refine gs rfl ?_
          refine gs rfl ?_
          refine gs rfl ?_
          refine gs rfl ?_
          refine gs rfl ?_
          refine gs rfl ?_
          refine and_3 (Nat.le_of_ble_eq_true rfl) rfl (vin rfl) ?_
          refine gs rfl ?_
          refine gs rfl ?_
          refine gs rfl ?_
          refine gs rfl ?_
          refine gs rfl ?_
          refine gs rfl ?_
          refine gs rfl ?_
          refine gs rfl ?_
          refine gs rfl ?_
          refine gs rfl ?_
          refine gs rfl ?_
          refine gs rfl ?_
          refine gs rfl ?_
          refine gs rfl ?_
          refine and_3 (Nat.le_of_ble_eq_true rfl) rfl (vin rfl) ?_
          refine gs rfl ?_
          refine gs rfl ?_
          refine gs rfl ?_
          refine gs rfl ?_
          refine gs rfl ?_
          refine gs rfl ?_
          refine gs rfl ?_
          refine gs rfl ?_
          refine gs rfl ?_
          refine gs rfl ?_
          refine gs rfl ?_
          refine gs rfl ?_
          refine gs rfl ?_
          refine gs rfl ?_
          refine and_3 (Nat.le_of_ble_eq_true rfl) rfl (vin rfl) ?_
          refine gs rfl ?_
          refine gs rfl ?_
          refine gs rfl ?_
          refine gs rfl ?_
          refine gs rfl ?_
          refine gs rfl ?_
          refine gs rfl ?_
          refine gs rfl ?_
          refine gs rfl ?_
          refine gs rfl ?_
          refine gs rfl ?_
          refine gs rfl ?_
          refine gs rfl ?_
          refine gs rfl ?_
          refine and_3 (Nat.le_of_ble_eq_true rfl) rfl (vin rfl) ?_
          refine gs rfl ?_
          refine gs rfl ?_
          refine gs rfl ?_
          refine gs rfl ?_
          refine gs rfl ?_
          refine gs rfl ?_
          refine gs rfl ?_
          refine gs rfl ?_
          refine gs rfl ?_
          refine gs rfl ?_
          refine gs rfl ?_
          refine gs rfl ?_
          refine gs rfl ?_
          refine gs rfl ?_
          refine and_3 (Nat.le_of_ble_eq_true rfl) rfl (vin rfl) ?_
          refine gs rfl ?_
          refine gs rfl ?_
          refine gs rfl ?_
          refine gs rfl ?_
          refine gs rfl ?_
          refine gs rfl ?_
          refine gs rfl ?_
          refine gs rfl ?_
          refine gs rfl ?_
          refine gs rfl ?_
          refine gs rfl ?_
          refine gs rfl ?_
          refine gs rfl ?_
          refine gs rfl ?_
          refine and_3 (Nat.le_of_ble_eq_true rfl) rfl (vin rfl) ?_
          refine gs rfl ?_
          refine gs rfl ?_
          refine gs rfl ?_
          refine gs rfl ?_
          refine gs rfl ?_
          refine gs rfl ?_
          refine gs rfl ?_
          refine gs rfl ?_
          refine gs rfl ?_
          refine gs rfl ?_
          refine gs rfl ?_
          refine gs rfl ?_
          refine gs rfl ?_
          refine gs rfl ?_
          refine and_3 (Nat.le_of_ble_eq_true rfl) rfl (vin rfl) ?_
          refine gs rfl ?_
          refine gs rfl ?_
          refine gs rfl ?_
          refine gs rfl ?_
          refine gs rfl ?_
          refine gs rfl ?_
          refine gs rfl ?_
          refine gs rfl ?_
          refine gs rfl ?_
          refine gs rfl ?_
          refine gs rfl ?_
          refine gs rfl ?_
          refine gs rfl ?_
          refine gs rfl ?_
          refine and_3 (Nat.le_of_ble_eq_true rfl) rfl (vin rfl) ?_
          refine gs rfl ?_
          refine gs rfl ?_
          refine gs rfl ?_
          refine gs rfl ?_
          refine gs rfl ?_
          refine gs rfl ?_
          refine gs rfl ?_
          refine gs rfl ?_
          refine gs rfl ?_
          refine gs rfl ?_
          refine gs rfl ?_
          refine gs rfl ?_
          refine gs rfl ?_
          refine gs rfl ?_
          refine and_3 (Nat.le_of_ble_eq_true rfl) rfl (vin rfl) ?_
          refine gs rfl ?_
          refine gs rfl ?_
          refine gs rfl ?_
          refine gs rfl ?_
          refine gs rfl ?_
          refine gs rfl ?_
          refine gs rfl ?_
          refine gs rfl ?_
          refine gs rfl ?_
          refine gs rfl ?_
          refine gs rfl ?_
          refine gs rfl ?_
          refine gs rfl ?_
          refine gs rfl ?_
          refine and_3 (Nat.le_of_ble_eq_true rfl) rfl (vin rfl) ?_
          refine gs rfl ?_
          refine gs rfl ?_
          refine gs rfl ?_
          refine gs rfl ?_
          refine gs rfl ?_
          refine gs rfl ?_
          refine gs rfl ?_
          refine gs rfl ?_
          refine gs rfl ?_
          refine gs rfl ?_
          refine gs rfl ?_
          refine gs rfl ?_
          refine gs rfl ?_
          refine gs rfl ?_
          refine and_3 (Nat.le_of_ble_eq_true rfl) rfl (vin rfl) ?_
          refine gs rfl ?_
          refine gs rfl ?_
          refine gs rfl ?_
          refine gs rfl ?_
          refine gs rfl ?_
          refine gs rfl ?_
          refine gs rfl ?_
          refine gs rfl ?_
          refine gs rfl ?_
          refine gs rfl ?_
          refine gs rfl ?_
          refine gs rfl ?_
          refine gs rfl ?_
          refine gs rfl ?_
          refine and_3 (Nat.le_of_ble_eq_true rfl) rfl (vin rfl) ?_
          refine gs rfl ?_
          refine gs rfl ?_
          refine gs rfl ?_
          refine gs rfl ?_
          refine gs rfl ?_
          refine gs rfl ?_
          refine gs rfl ?_
          refine and_i rfl ?_
          refine gs rfl ?_
          refine gs rfl ?_
          refine gs rfl ?_
          refine gs rfl ?_
          refine gs rfl ?_
          refine gs rfl ?_
          refine and_i (Or.inl rfl) ?_
          refine gwst (congrArg (fun z => Value.int z :: _) (alen_k (n := 6) (by rfl))) ?_
          refine gs rfl ?_
          refine gs rfl ?_
          refine gs rfl ?_
          refine gs rfl ?_
          refine gs rfl ?_
          refine and_2 rfl (Or.inr rfl) ?_
          exact rfl
        · have x9q : s1 = (1 : Int32) := x9
          clear x9
          subst x9q
          refine gs rfl ?_
          refine and_2 (Nat.le_of_ble_eq_true rfl) (vin rfl) ?_
          refine and_2 rfl (fun z q => by cases q) ?_
          refine gs rfl ?_
          refine gs rfl ?_
          refine gs rfl ?_
          refine and_i (Nat.le_of_ble_eq_true rfl) (cl0 (Nat.le_of_ble_eq_true rfl) (and_i (Nat.le_of_ble_eq_true rfl) ?_))
          refine gs rfl ?_
          refine gs rfl ?_
          refine gs rfl ?_
          refine and_3 (Nat.le_of_ble_eq_true rfl) (Nat.le_of_ble_eq_true rfl) trivial ?_
          refine gs rfl ?_
          refine gs rfl ?_
          refine gs rfl ?_
          refine and_3 (Nat.le_of_ble_eq_true rfl) (Nat.le_of_ble_eq_true rfl) trivial ?_
          refine gs rfl ?_
          refine gs rfl ?_
          refine gs rfl ?_
          refine gs rfl ?_
          refine and_i (Nat.le_of_ble_eq_true rfl) (cl0 (Nat.le_of_ble_eq_true rfl) (and_i (Nat.le_of_ble_eq_true rfl) ?_))
          refine gs rfl ?_
          refine gs rfl ?_
          refine gs rfl ?_
          refine gs rfl ?_
          refine and_i (Or.inl rfl) ?_
          refine gwst (congrArg (fun z => Value.int z :: _) (alen_k (n := 40) (by rfl))) ?_
          refine gs rfl ?_
          refine gs rfl ?_
          refine gs rfl ?_
          refine gs rfl ?_
          refine gs rfl ?_
          refine gs rfl ?_
          refine gs rfl ?_
          refine gs rfl ?_
          refine and_3 (Nat.le_of_ble_eq_true rfl) rfl (vin rfl) ?_
          refine gs rfl ?_
          refine gs rfl ?_
          refine gs rfl ?_
          refine gs rfl ?_
          refine gs rfl ?_
          refine gs rfl ?_
          refine gs rfl ?_
          refine gs rfl ?_
          refine gs rfl ?_
          refine and_3 (Nat.le_of_ble_eq_true rfl) rfl (vin rfl) ?_
          refine gs rfl ?_
          refine gs rfl ?_
          refine gs rfl ?_
          refine gs rfl ?_
          refine gs rfl ?_
          refine gs rfl ?_
          refine gs rfl ?_
          refine gs rfl ?_
          refine gs rfl ?_
          refine and_3 (Nat.le_of_ble_eq_true rfl) rfl (vin rfl) ?_
          refine gs rfl ?_
          refine gs rfl ?_
          refine gs rfl ?_
          refine gs rfl ?_
          refine gs rfl ?_
          refine gs rfl ?_
          refine gs rfl ?_
          refine gs rfl ?_
          refine gs rfl ?_
          refine and_3 (Nat.le_of_ble_eq_true rfl) rfl (vin rfl) ?_
          refine gs rfl ?_
          refine gs rfl ?_
          refine gs rfl ?_
          refine gs rfl ?_
          refine gs rfl ?_
          refine gs rfl ?_
          refine gs rfl ?_
          refine gs rfl ?_
          refine gs rfl ?_
          refine and_3 (Nat.le_of_ble_eq_true rfl) rfl (vin rfl) ?_
          refine gs rfl ?_
          refine gs rfl ?_
          refine gs rfl ?_
          refine gs rfl ?_
          refine gs rfl ?_
          refine gs rfl ?_
          refine gs rfl ?_
          refine gs rfl ?_
          refine gs rfl ?_
          refine and_3 (Nat.le_of_ble_eq_true rfl) rfl (vin rfl) ?_
          refine gs rfl ?_
          refine gs rfl ?_
          refine gs rfl ?_
          refine gs rfl ?_
          refine gs rfl ?_
          refine gs rfl ?_
          refine gs rfl ?_
          refine gs rfl ?_
          refine gs rfl ?_
          refine and_3 (Nat.le_of_ble_eq_true rfl) rfl (vin rfl) ?_
          refine gs rfl ?_
          refine gs rfl ?_
          refine gs rfl ?_
          refine gs rfl ?_
          refine gs rfl ?_
          refine gs rfl ?_
          refine gs rfl ?_
          refine gs rfl ?_
          refine gs rfl ?_
          refine and_3 (Nat.le_of_ble_eq_true rfl) rfl (vin rfl) ?_
          refine gs rfl ?_
          refine gs rfl ?_
          refine gs rfl ?_
          refine gs rfl ?_
          refine gs rfl ?_
          refine gs rfl ?_
          refine gs rfl ?_
          refine gs rfl ?_
          refine gs rfl ?_
          refine and_3 (Nat.le_of_ble_eq_true rfl) rfl (vin rfl) ?_
          refine gs rfl ?_
          refine gs rfl ?_
          refine gs rfl ?_
          refine gs rfl ?_
          refine gs rfl ?_
          refine gs rfl ?_
          refine gs rfl ?_
          refine gs rfl ?_
          refine gs rfl ?_
          refine and_3 (Nat.le_of_ble_eq_true rfl) rfl (vin rfl) ?_
          refine gs rfl ?_
          refine gs rfl ?_
          refine gs rfl ?_
          refine gs rfl ?_
          refine gs rfl ?_
          refine gs rfl ?_
          refine gs rfl ?_
          refine gs rfl ?_
          refine gs rfl ?_
          refine and_3 (Nat.le_of_ble_eq_true rfl) rfl (vin rfl) ?_
          refine gs rfl ?_
          refine gs rfl ?_
          refine gs rfl ?_
          refine gs rfl ?_
          refine gs rfl ?_
          refine gs rfl ?_
          refine gs rfl ?_
          refine gs rfl ?_
          refine gs rfl ?_
          refine and_3 (Nat.le_of_ble_eq_true rfl) rfl (vin rfl) ?_
          refine gs rfl ?_
          refine gs rfl ?_
          refine gs rfl ?_
          refine gs rfl ?_
          refine gs rfl ?_
          refine gs rfl ?_
          refine gs rfl ?_
          refine gs rfl ?_
          refine gs rfl ?_
          refine and_3 (Nat.le_of_ble_eq_true rfl) rfl (vin rfl) ?_
          refine gs rfl ?_
          refine gs rfl ?_
          refine gs rfl ?_
          refine gs rfl ?_
          refine gs rfl ?_
          refine gs rfl ?_
          refine gs rfl ?_
          refine gs rfl ?_
          refine gs rfl ?_
          refine and_3 (Nat.le_of_ble_eq_true rfl) rfl (vin rfl) ?_
          refine gs rfl ?_
          refine gs rfl ?_
          refine gs rfl ?_
          refine gs rfl ?_
          refine gs rfl ?_
          refine gs rfl ?_
          refine gs rfl ?_
          refine gs rfl ?_
          refine gs rfl ?_
          refine and_3 (Nat.le_of_ble_eq_true rfl) rfl (vin rfl) ?_
          refine gs rfl ?_
          refine gs rfl ?_
          refine gs rfl ?_
          refine gs rfl ?_
          refine gs rfl ?_
          refine gs rfl ?_
          refine gs rfl ?_
          refine gs rfl ?_
          refine gs rfl ?_
          refine and_3 (Nat.le_of_ble_eq_true rfl) rfl (vin rfl) ?_
          refine gs rfl ?_
          refine gs rfl ?_
          refine gs rfl ?_
          refine gs rfl ?_
          refine gs rfl ?_
          refine gs rfl ?_
          refine gs rfl ?_
          refine gs rfl ?_
          refine gs rfl ?_
          refine and_3 (Nat.le_of_ble_eq_true rfl) rfl (vin rfl) ?_
          refine gs rfl ?_
          refine gs rfl ?_
          refine gs rfl ?_
          refine gs rfl ?_
          refine gs rfl ?_
          refine gs rfl ?_
          refine gs rfl ?_
          refine gs rfl ?_
          refine gs rfl ?_
          refine and_3 (Nat.le_of_ble_eq_true rfl) rfl (vin rfl) ?_
          refine gs rfl ?_
          refine gs rfl ?_
          refine gs rfl ?_
          refine gs rfl ?_
          refine gs rfl ?_
          refine gs rfl ?_
          refine gs rfl ?_
          refine gs rfl ?_
          refine gs rfl ?_
          refine and_3 (Nat.le_of_ble_eq_true rfl) rfl (vin rfl) ?_
          refine gs rfl ?_
          refine gs rfl ?_
          refine gs rfl ?_
          refine gs rfl ?_
          refine gs rfl ?_
          refine gs rfl ?_
          refine gs rfl ?_
          refine gs rfl ?_
          refine gs rfl ?_
          refine and_3 (Nat.le_of_ble_eq_true rfl) rfl (vin rfl) ?_
          refine gs rfl ?_
          refine gs rfl ?_
          refine gs rfl ?_
          refine gs rfl ?_
          refine gs rfl ?_
          refine gs rfl ?_
          refine gs rfl ?_
          refine gs rfl ?_
          refine gs rfl ?_
          refine and_3 (Nat.le_of_ble_eq_true rfl) rfl (vin rfl) ?_
          refine gs rfl ?_
          refine gs rfl ?_
          refine gs rfl ?_
          refine gs rfl ?_
          refine gs rfl ?_
          refine gs rfl ?_
          refine gs rfl ?_
          refine gs rfl ?_
          refine gs rfl ?_
          refine and_3 (Nat.le_of_ble_eq_true rfl) rfl (vin rfl) ?_
          refine gs rfl ?_
          refine gs rfl ?_
          refine gs rfl ?_
          refine gs rfl ?_
          refine gs rfl ?_
          refine gs rfl ?_
          refine gs rfl ?_
          refine gs rfl ?_
          refine gs rfl ?_
          refine and_3 (Nat.le_of_ble_eq_true rfl) rfl (vin rfl) ?_
          refine gs rfl ?_
          refine gs rfl ?_
          refine gs rfl ?_
          refine gs rfl ?_
          refine gs rfl ?_
          refine gs rfl ?_
          refine gs rfl ?_
          refine gs rfl ?_
          refine gs rfl ?_
          refine and_3 (Nat.le_of_ble_eq_true rfl) rfl (vin rfl) ?_
          refine gs rfl ?_
          refine gs rfl ?_
          refine gs rfl ?_
          refine gs rfl ?_
          refine gs rfl ?_
          refine gs rfl ?_
          refine gs rfl ?_
          refine gs rfl ?_
          refine gs rfl ?_
          refine and_3 (Nat.le_of_ble_eq_true rfl) rfl (vin rfl) ?_
          refine gs rfl ?_
          refine gs rfl ?_
          refine gs rfl ?_
          refine gs rfl ?_
          refine gs rfl ?_
          refine gs rfl ?_
          refine gs rfl ?_
          refine gs rfl ?_
          refine gs rfl ?_
          refine and_3 (Nat.le_of_ble_eq_true rfl) rfl (vin rfl) ?_
          refine gs rfl ?_
          refine gs rfl ?_
          refine gs rfl ?_
          refine gs rfl ?_
          refine gs rfl ?_
          refine gs rfl ?_
          refine gs rfl ?_
          refine gs rfl ?_
          refine gs rfl ?_
          refine and_3 (Nat.le_of_ble_eq_true rfl) rfl (vin rfl) ?_
          refine gs rfl ?_
          refine gs rfl ?_
          refine gs rfl ?_
          refine gs rfl ?_
          refine gs rfl ?_
          refine gs rfl ?_
          refine gs rfl ?_
          refine gs rfl ?_
          refine gs rfl ?_
          refine and_3 (Nat.le_of_ble_eq_true rfl) rfl (vin rfl) ?_
          refine gs rfl ?_
          refine gs rfl ?_
          refine gs rfl ?_
          refine gs rfl ?_
          refine gs rfl ?_
          refine gs rfl ?_
          refine gs rfl ?_
          refine gs rfl ?_
          refine gs rfl ?_
          refine and_3 (Nat.le_of_ble_eq_true rfl) rfl (vin rfl) ?_
          refine gs rfl ?_
          refine gs rfl ?_
          refine gs rfl ?_
          refine gs rfl ?_
          refine gs rfl ?_
          refine gs rfl ?_
          refine gs rfl ?_
          refine gs rfl ?_
          refine gs rfl ?_
          refine and_3 (Nat.le_of_ble_eq_true rfl) rfl (vin rfl) ?_
          refine gs rfl ?_
          refine gs rfl ?_
          refine gs rfl ?_
          refine gs rfl ?_
          refine gs rfl ?_
          refine gs rfl ?_
          refine gs rfl ?_
          refine gs rfl ?_
          refine gs rfl ?_
          refine and_3 (Nat.le_of_ble_eq_true rfl) rfl (vin rfl) ?_
          refine gs rfl ?_
          refine gs rfl ?_
          refine gs rfl ?_
          refine gs rfl ?_
          refine gs rfl ?_
          refine gs rfl ?_
          refine gs rfl ?_
          refine gs rfl ?_
          refine gs rfl ?_
          refine and_3 (Nat.le_of_ble_eq_true rfl) rfl (vin rfl) ?_
          refine gs rfl ?_
          refine gs rfl ?_
          refine gs rfl ?_
          refine gs rfl ?_
          refine gs rfl ?_
          refine gs rfl ?_
          refine gs rfl ?_
          refine gs rfl ?_
          refine gs rfl ?_
          refine and_3 (Nat.le_of_ble_eq_true rfl) rfl (vin rfl) ?_
          refine gs rfl ?_
          refine gs rfl ?_
          refine gs rfl ?_
          refine gs rfl ?_
          refine gs rfl ?_
          refine gs rfl ?_
          refine gs rfl ?_
          refine gs rfl ?_
          refine gs rfl ?_
          refine and_3 (Nat.le_of_ble_eq_true rfl) rfl (vin rfl) ?_
          refine gs rfl ?_
          refine gs rfl ?_
          refine gs rfl ?_
          refine gs rfl ?_
          refine gs rfl ?_
          refine gs rfl ?_
          refine gs rfl ?_
          refine gs rfl ?_
          refine gs rfl ?_
          refine and_3 (Nat.le_of_ble_eq_true rfl) rfl (vin rfl) ?_
          refine gs rfl ?_
          refine gs rfl ?_
          refine gs rfl ?_
          refine gs rfl ?_
          refine gs rfl ?_
          refine gs rfl ?_
          refine gs rfl ?_
          refine gs rfl ?_
          refine gs rfl ?_
          refine and_3 (Nat.le_of_ble_eq_true rfl) rfl (vin rfl) ?_
          refine gs rfl ?_
          refine gs rfl ?_
          refine gs rfl ?_
          refine gs rfl ?_
          refine gs rfl ?_
          refine gs rfl ?_
          refine gs rfl ?_
          refine gs rfl ?_
          refine gs rfl ?_
          refine and_3 (Nat.le_of_ble_eq_true rfl) rfl (vin rfl) ?_
          refine gs rfl ?_
          refine gs rfl ?_
          refine gs rfl ?_
          refine gs rfl ?_
          refine gs rfl ?_
          refine gs rfl ?_
          refine gs rfl ?_
          refine gs rfl ?_
          refine gs rfl ?_
          refine and_3 (Nat.le_of_ble_eq_true rfl) rfl (vin rfl) ?_
          refine gs rfl ?_
          refine gs rfl ?_
          refine gs rfl ?_
          refine gs rfl ?_
          refine gs rfl ?_
          refine gs rfl ?_
          refine gs rfl ?_
          refine gs rfl ?_
          refine gs rfl ?_
          refine and_3 (Nat.le_of_ble_eq_true rfl) rfl (vin rfl) ?_
          refine gs rfl ?_
          refine gs rfl ?_
          refine gs rfl ?_
          refine gs rfl ?_
          refine gs rfl ?_
          refine gs rfl ?_
          refine gs rfl ?_
          refine gs rfl ?_
          refine gs rfl ?_
          refine and_3 (Nat.le_of_ble_eq_true rfl) rfl (vin rfl) ?_
          refine gs rfl ?_
          refine gs rfl ?_
          refine gs rfl ?_
          refine gs rfl ?_
          refine gs rfl ?_
          refine gs rfl ?_
          refine and_i rfl ?_
          refine gs rfl ?_
          refine and_i rfl ?_
          refine gs rfl ?_
          refine gs rfl ?_
          refine and_i rfl ?_
          refine FRg rfl (fun f => ?_)
          refine gs rfl ?_
          refine gs rfl ?_
          refine gs rfl ?_
          refine gs rfl ?_
          refine gs rfl ?_
          refine gs rfl ?_
          refine and_2 rfl (vin rfl) ?_
          refine gs rfl ?_
          refine gs rfl ?_
          refine gs rfl ?_
          refine gs rfl ?_
          refine gs rfl ?_
          refine and_2 rfl (vin rfl) ?_
          refine gs rfl ?_
          refine gs rfl ?_
          refine gs rfl ?_
          refine gs rfl ?_
          refine gs rfl ?_
          refine and_2 rfl (vin rfl) ?_
          refine gs rfl ?_
          refine and_i (Nat.le_of_ble_eq_true rfl) (cl0 (Nat.le_of_ble_eq_true rfl) (and_i (Nat.le_of_ble_eq_true rfl) ?_))
          refine gs rfl ?_
          refine gs rfl ?_
          refine and_i (Nat.le_of_ble_eq_true rfl) (cl0 (Nat.le_of_ble_eq_true rfl) (and_i (Nat.le_of_ble_eq_true rfl) ?_))
          refine gs rfl ?_
          refine gs rfl ?_
          refine gs rfl ?_
          refine gs rfl ?_
          refine and_i (Nat.le_of_ble_eq_true rfl) (cl0 (Nat.le_of_ble_eq_true rfl) (and_i (Nat.le_of_ble_eq_true rfl) ?_))
          refine gs rfl ?_
          refine gs rfl ?_
          refine gs rfl ?_
          refine gs rfl ?_
          refine gs rfl ?_
          refine gs rfl ?_
          refine gs rfl ?_
          refine gs rfl ?_
          refine gs rfl ?_
          refine and_2 rfl (Or.inr rfl) ?_
          refine gs rfl ?_
          refine and_2 rfl (Or.inr rfl) ?_
          refine gs rfl ?_
          refine gs rfl ?_
          refine gs rfl ?_
          refine ifT ((eq_k (a := (s2).toInt) (b := 0) (by rfl) (by rfl)).mpr (by omega)) ?_
          refine gs rfl ?_
          refine gs rfl ?_
          refine ifT ((eq_k (a := (s2).toInt) (b := 0) (by rfl) (by rfl)).mpr (by omega)) ?_
          refine gs rfl ?_
          refine gs rfl ?_
          refine ifT ((eq_k (a := (s2).toInt) (b := 0) (by rfl) (by rfl)).mpr (by omega)) ?_
          refine gs rfl ?_
          refine gs rfl ?_
          refine gs rfl ?_
          refine gs rfl ?_
          refine gs rfl ?_
          refine and_3 (Nat.le_of_ble_eq_true rfl) rfl (vin rfl) ?_
          refine gs rfl ?_
          refine gs rfl ?_
          refine gs rfl ?_
          refine gs rfl ?_
          refine gs rfl ?_
          refine ifT ((eq_k (a := (s2).toInt) (b := 0) (by rfl) (by rfl)).mpr (by omega)) ?_
          refine gs rfl ?_
          refine gs rfl ?_
          refine gs rfl ?_
          refine and_3 (Nat.le_of_ble_eq_true rfl) rfl (vin rfl) ?_
          refine gs rfl ?_
          refine gs rfl ?_
          refine gs rfl ?_
          refine gs rfl ?_
          refine gs rfl ?_
          refine gs rfl ?_
          refine gs rfl ?_
          refine gs rfl ?_
          refine gs rfl ?_
          refine gs rfl ?_
          refine gs rfl ?_
          refine gs rfl ?_
          refine gs rfl ?_
          refine gs rfl ?_
          refine and_3 (Nat.le_of_ble_eq_true rfl) rfl (vin rfl) ?_
          refine gs rfl ?_
          refine gs rfl ?_
          refine gs rfl ?_
          refine gs rfl ?_
          refine gs rfl ?_
          refine gs rfl ?_
          refine gs rfl ?_
          refine gs rfl ?_
          refine gs rfl ?_
          refine gs rfl ?_
          refine gs rfl ?_
          refine gs rfl ?_
          refine gs rfl ?_
          refine gs rfl ?_
          refine and_3 (Nat.le_of_ble_eq_true rfl) rfl (vin rfl) ?_
          refine gs rfl ?_
          refine gs rfl ?_
          refine gs rfl ?_
          refine gs rfl ?_
          refine gs rfl ?_
          refine gs rfl ?_
          refine gs rfl ?_
          refine gs rfl ?_
          refine gs rfl ?_
          refine gs rfl ?_
          refine gs rfl ?_
          refine gs rfl ?_
          refine gs rfl ?_
          refine gs rfl ?_
          refine and_3 (Nat.le_of_ble_eq_true rfl) rfl (vin rfl) ?_
          refine gs rfl ?_
          refine gs rfl ?_
          refine gs rfl ?_
          refine gs rfl ?_
          refine gs rfl ?_
          refine gs rfl ?_
          refine gs rfl ?_
          refine gs rfl ?_
          refine gs rfl ?_
          refine gs rfl ?_
          refine gs rfl ?_
          refine gs rfl ?_
          refine gs rfl ?_
          refine gs rfl ?_
          refine and_3 (Nat.le_of_ble_eq_true rfl) rfl (vin rfl) ?_
          refine gs rfl ?_
          refine gs rfl ?_
          refine gs rfl ?_
          refine gs rfl ?_
          refine gs rfl ?_
          refine gs rfl ?_
          refine gs rfl ?_
          refine gs rfl ?_
          refine gs rfl ?_
          refine gs rfl ?_
          refine gs rfl ?_
          refine gs rfl ?_
          refine gs rfl ?_
          refine gs rfl ?_
          refine and_3 (Nat.le_of_ble_eq_true rfl) rfl (vin rfl) ?_
          refine gs rfl ?_
          refine gs rfl ?_
          refine gs rfl ?_
          refine gs rfl ?_
          refine gs rfl ?_
          refine gs rfl ?_
          refine gs rfl ?_
          refine gs rfl ?_
          refine gs rfl ?_
          refine gs rfl ?_
          refine gs rfl ?_
          refine gs rfl ?_
          refine gs rfl ?_
          refine gs rfl ?_
          refine and_3 (Nat.le_of_ble_eq_true rfl) rfl (vin rfl) ?_
          refine gs rfl ?_
          refine gs rfl ?_
          refine gs rfl ?_
          refine gs rfl ?_
          refine gs rfl ?_
          refine gs rfl ?_
          refine gs rfl ?_
          refine gs rfl ?_
          refine gs rfl ?_
          refine gs rfl ?_
          refine gs rfl ?_
          refine gs rfl ?_
          refine gs rfl ?_
          refine gs rfl ?_
          refine and_3 (Nat.le_of_ble_eq_true rfl) rfl (vin rfl) ?_
          refine gs rfl ?_
          refine gs rfl ?_
          refine gs rfl ?_
          refine gs rfl ?_
          refine gs rfl ?_
          refine gs rfl ?_
          refine gs rfl ?_
          refine gs rfl ?_
          refine gs rfl ?_
          refine gs rfl ?_
          refine gs rfl ?_
          refine gs rfl ?_
          refine gs rfl ?_
          refine gs rfl ?_
          refine and_3 (Nat.le_of_ble_eq_true rfl) rfl (vin rfl) ?_
          refine gs rfl ?_
          refine gs rfl ?_
          refine gs rfl ?_
          refine gs rfl ?_
          refine gs rfl ?_
          refine gs rfl ?_
          refine gs rfl ?_
          refine gs rfl ?_
          refine gs rfl ?_
          refine gs rfl ?_
          refine gs rfl ?_
          refine gs rfl ?_
          refine gs rfl ?_
          refine gs rfl ?_
          refine and_3 (Nat.le_of_ble_eq_true rfl) rfl (vin rfl) ?_
          refine gs rfl ?_
          refine gs rfl ?_
          refine gs rfl ?_
          refine gs rfl ?_
          refine gs rfl ?_
          refine gs rfl ?_
          refine gs rfl ?_
          refine gs rfl ?_
          refine gs rfl ?_
          refine gs rfl ?_
          refine gs rfl ?_
          refine gs rfl ?_
          refine gs rfl ?_
          refine gs rfl ?_
          refine and_3 (Nat.le_of_ble_eq_true rfl) rfl (vin rfl) ?_
          refine gs rfl ?_
          refine gs rfl ?_
          refine gs rfl ?_
          refine gs rfl ?_
          refine gs rfl ?_
          refine gs rfl ?_
          refine gs rfl ?_
          refine gs rfl ?_
          refine gs rfl ?_
          refine gs rfl ?_
          refine gs rfl ?_
          refine gs rfl ?_
          refine gs rfl ?_
          refine gs rfl ?_
          refine and_3 (Nat.le_of_ble_eq_true rfl) rfl (vin rfl) ?_
          refine gs rfl ?_
          refine gs rfl ?_
          refine gs rfl ?_
          refine gs rfl ?_
          refine gs rfl ?_
          refine gs rfl ?_
          refine gs rfl ?_
          refine gs rfl ?_
          refine gs rfl ?_
          refine gs rfl ?_
          refine gs rfl ?_
          refine gs rfl ?_
          refine gs rfl ?_
          refine gs rfl ?_
          refine and_3 (Nat.le_of_ble_eq_true rfl) rfl (vin rfl) ?_
          refine gs rfl ?_
          refine gs rfl ?_
          refine gs rfl ?_
          refine gs rfl ?_
          refine gs rfl ?_
          refine gs rfl ?_
          refine gs rfl ?_
          refine gs rfl ?_
          refine gs rfl ?_
          refine gs rfl ?_
          refine gs rfl ?_
          refine gs rfl ?_
          refine gs rfl ?_
          refine gs rfl ?_
          refine and_3 (Nat.le_of_ble_eq_true rfl) rfl (vin rfl) ?_
          refine gs rfl ?_
          refine gs rfl ?_
          refine gs rfl ?_
          refine gs rfl ?_
          refine gs rfl ?_
          refine gs rfl ?_
          refine gs rfl ?_
          refine gs rfl ?_
          refine gs rfl ?_
          refine gs rfl ?_
          refine gs rfl ?_
          refine gs rfl ?_
          refine gs rfl ?_
          refine gs rfl ?_
          refine and_3 (Nat.le_of_ble_eq_true rfl) rfl (vin rfl) ?_
          refine gs rfl ?_
          refine gs rfl ?_
          refine gs rfl ?_
          refine gs rfl ?_
          refine gs rfl ?_
          refine gs rfl ?_
          refine gs rfl ?_
          refine gs rfl ?_
          refine gs rfl ?_
          refine gs rfl ?_
          refine gs rfl ?_
          refine gs rfl ?_
          refine gs rfl ?_
          refine gs rfl ?_
          refine and_3 (Nat.le_of_ble_eq_true rfl) rfl (vin rfl) ?_
          refine gs rfl ?_
          refine gs rfl ?_
          refine gs rfl ?_
          refine gs rfl ?_
          refine gs rfl ?_
          refine gs rfl ?_
          refine gs rfl ?_
          refine gs rfl ?_
          refine gs rfl ?_
          refine gs rfl ?_
          refine gs rfl ?_
          refine gs rfl ?_
          refine gs rfl ?_
          refine gs rfl ?_
          refine and_3 (Nat.le_of_ble_eq_true rfl) rfl (vin rfl) ?_
          refine gs rfl ?_
          refine gs rfl ?_
          refine gs rfl ?_
          refine gs rfl ?_
          refine gs rfl ?_
          refine gs rfl ?_
          refine gs rfl ?_
          refine gs rfl ?_
          refine gs rfl ?_
          refine gs rfl ?_
          refine gs rfl ?_
          refine gs rfl ?_
          refine gs rfl ?_
          refine gs rfl ?_
          refine and_3 (Nat.le_of_ble_eq_true rfl) rfl (vin rfl) ?_
          refine gs rfl ?_
          refine gs rfl ?_
          refine gs rfl ?_
          refine gs rfl ?_
          refine gs rfl ?_
          refine gs rfl ?_
          refine gs rfl ?_
          refine gs rfl ?_
          refine gs rfl ?_
          refine gs rfl ?_
          refine gs rfl ?_
          refine gs rfl ?_
          refine gs rfl ?_
          refine gs rfl ?_
          refine and_3 (Nat.le_of_ble_eq_true rfl) rfl (vin rfl) ?_
          refine gs rfl ?_
          refine gs rfl ?_
          refine gs rfl ?_
          refine gs rfl ?_
          refine gs rfl ?_
          refine gs rfl ?_
          refine gs rfl ?_
          refine gs rfl ?_
          refine gs rfl ?_
          refine gs rfl ?_
          refine gs rfl ?_
          refine gs rfl ?_
          refine gs rfl ?_
          refine gs rfl ?_
          refine and_3 (Nat.le_of_ble_eq_true rfl) rfl (vin rfl) ?_
          refine gs rfl ?_
          refine gs rfl ?_
          refine gs rfl ?_
          refine gs rfl ?_
          refine gs rfl ?_
          refine gs rfl ?_
          refine gs rfl ?_
          refine gs rfl ?_
          refine gs rfl ?_
          refine gs rfl ?_
          refine gs rfl ?_
          refine gs rfl ?_
          refine gs rfl ?_
          refine gs rfl ?_
          refine and_3 (Nat.le_of_ble_eq_true rfl) rfl (vin rfl) ?_
          refine gs rfl ?_
          refine gs rfl ?_
          refine gs rfl ?_
          refine gs rfl ?_
          refine gs rfl ?_
          refine gs rfl ?_
          refine gs rfl ?_
          refine gs rfl ?_
          refine gs rfl ?_
          refine gs rfl ?_
          refine gs rfl ?_
          refine gs rfl ?_
          refine gs rfl ?_
          refine gs rfl ?_
          refine and_3 (Nat.le_of_ble_eq_true rfl) rfl (vin rfl) ?_
          refine gs rfl ?_
          refine gs rfl ?_
          refine gs rfl ?_
          refine gs rfl ?_
          refine gs rfl ?_
          refine gs rfl ?_
          refine gs rfl ?_
          refine gs rfl ?_
          refine gs rfl ?_
          refine gs rfl ?_
          refine gs rfl ?_
          refine gs rfl ?_
          refine gs rfl ?_
          refine gs rfl ?_
          refine and_3 (Nat.le_of_ble_eq_true rfl) rfl (vin rfl) ?_
          refine gs rfl ?_
          refine gs rfl ?_
          refine gs rfl ?_
          refine gs rfl ?_
          refine gs rfl ?_
          refine gs rfl ?_
          refine gs rfl ?_
          refine gs rfl ?_
          refine gs rfl ?_
          refine gs rfl ?_
          refine gs rfl ?_
          refine gs rfl ?_
          refine gs rfl ?_
          refine gs rfl ?_
          refine and_3 (Nat.le_of_ble_eq_true rfl) rfl (vin rfl) ?_
          refine gs rfl ?_
          refine gs rfl ?_
          refine gs rfl ?_
          refine gs rfl ?_
          refine gs rfl ?_
          refine gs rfl ?_
          refine gs rfl ?_
          refine gs rfl ?_
          refine gs rfl ?_
          refine gs rfl ?_
          refine gs rfl ?_
          refine gs rfl ?_
          refine gs rfl ?_
          refine gs rfl ?_
          refine and_3 (Nat.le_of_ble_eq_true rfl) rfl (vin rfl) ?_
          refine gs rfl ?_
          refine gs rfl ?_
          refine gs rfl ?_
          refine gs rfl ?_
          refine gs rfl ?_
          refine gs rfl ?_
          refine gs rfl ?_
          refine gs rfl ?_
          refine gs rfl ?_
          refine gs rfl ?_
          refine gs rfl ?_
          refine gs rfl ?_
          refine gs rfl ?_
          refine gs rfl ?_
          refine and_3 (Nat.le_of_ble_eq_true rfl) rfl (vin rfl) ?_
          refine gs rfl ?_
          refine gs rfl ?_
          refine gs rfl ?_
          refine gs rfl ?_
          refine gs rfl ?_
          refine gs rfl ?_
          refine gs rfl ?_
          refine gs rfl ?_
          refine gs rfl ?_
          refine gs rfl ?_
          refine gs rfl ?_
          refine gs rfl ?_
          refine gs rfl ?_
          refine gs rfl ?_
          refine and_3 (Nat.le_of_ble_eq_true rfl) rfl (vin rfl) ?_
          refine gs rfl ?_
          refine gs rfl ?_
          refine gs rfl ?_
          refine gs rfl ?_
          refine gs rfl ?_
          refine gs rfl ?_
          refine gs rfl ?_
          refine gs rfl ?_
          refine gs rfl ?_
          refine gs rfl ?_
          refine gs rfl ?_
          refine gs rfl ?_
          refine gs rfl ?_
          refine gs rfl ?_
          refine and_3 (Nat.le_of_ble_eq_true rfl) rfl (vin rfl) ?_
          refine gs rfl ?_
          refine gs rfl ?_
          refine gs rfl ?_
          refine gs rfl ?_
          refine gs rfl ?_
          refine gs rfl ?_
          refine gs rfl ?_
          refine gs rfl ?_
          refine gs rfl ?_
          refine gs rfl ?_
          refine gs rfl ?_
          refine gs rfl ?_
          refine gs rfl ?_
          refine gs rfl ?_
          refine and_3 (Nat.le_of_ble_eq_true rfl) rfl (vin rfl) ?_
          refine gs rfl ?_
          refine gs rfl ?_
          refine gs rfl ?_
          refine gs rfl ?_
          refine gs rfl ?_
          refine gs rfl ?_
          refine gs rfl ?_
          refine gs rfl ?_
          refine gs rfl ?_
          refine gs rfl ?_
          refine gs rfl ?_
          refine gs rfl ?_
          refine gs rfl ?_
          refine gs rfl ?_
          refine and_3 (Nat.le_of_ble_eq_true rfl) rfl (vin rfl) ?_
          refine gs rfl ?_
          refine gs rfl ?_
          refine gs rfl ?_
          refine gs rfl ?_
          refine gs rfl ?_
          refine gs rfl ?_
          refine gs rfl ?_
          refine gs rfl ?_
          refine gs rfl ?_
          refine gs rfl ?_
          refine gs rfl ?_
          refine gs rfl ?_
          refine gs rfl ?_
          refine gs rfl ?_
          refine and_3 (Nat.le_of_ble_eq_true rfl) rfl (vin rfl) ?_
          refine gs rfl ?_
          refine gs rfl ?_
          refine gs rfl ?_
          refine gs rfl ?_
          refine gs rfl ?_
          refine gs rfl ?_
          refine gs rfl ?_
          refine gs rfl ?_
          refine gs rfl ?_
          refine gs rfl ?_
          refine gs rfl ?_
          refine gs rfl ?_
          refine gs rfl ?_
          refine gs rfl ?_
          refine and_3 (Nat.le_of_ble_eq_true rfl) rfl (vin rfl) ?_
          refine gs rfl ?_
          refine gs rfl ?_
          refine gs rfl ?_
          refine gs rfl ?_
          refine gs rfl ?_
          refine gs rfl ?_
          refine gs rfl ?_
          refine gs rfl ?_
          refine gs rfl ?_
          refine gs rfl ?_
          refine gs rfl ?_
          refine gs rfl ?_
          refine gs rfl ?_
          refine gs rfl ?_
          refine and_3 (Nat.le_of_ble_eq_true rfl) rfl (vin rfl) ?_
          refine gs rfl ?_
          refine gs rfl ?_
          refine gs rfl ?_
          refine gs rfl ?_
          refine gs rfl ?_
          refine gs rfl ?_
          refine gs rfl ?_
          refine gs rfl ?_
          refine gs rfl ?_
          refine gs rfl ?_
          refine gs rfl ?_
          refine gs rfl ?_
          refine gs rfl ?_
          refine gs rfl ?_
          refine and_3 (Nat.le_of_ble_eq_true rfl) rfl (vin rfl) ?_
          refine gs rfl ?_
          refine gs rfl ?_
          refine gs rfl ?_
          refine gs rfl ?_
          refine gs rfl ?_
          refine gs rfl ?_
          refine gs rfl ?_
          refine gs rfl ?_
          refine gs rfl ?_
          refine gs rfl ?_
          refine gs rfl ?_
          refine gs rfl ?_
          refine gs rfl ?_
          refine gs rfl ?_
          refine and_3 (Nat.le_of_ble_eq_true rfl) rfl (vin rfl) ?_
          refine gs rfl ?_
          refine gs rfl ?_
          refine gs rfl ?_
          refine gs rfl ?_
          refine gs rfl ?_
          refine gs rfl ?_
          refine gs rfl ?_
          refine gs rfl ?_
          refine gs rfl ?_
          refine gs rfl ?_
          refine gs rfl ?_
          refine gs rfl ?_
          refine gs rfl ?_
          refine gs rfl ?_
          refine and_3 (Nat.le_of_ble_eq_true rfl) rfl (vin rfl) ?_
          refine gs rfl ?_
          refine gs rfl ?_
          refine gs rfl ?_
          refine gs rfl ?_
          refine gs rfl ?_
          refine gs rfl ?_
          refine gs rfl ?_
          refine gs rfl ?_
          refine gs rfl ?_
          refine gs rfl ?_
          refine gs rfl ?_
          refine gs rfl ?_
          refine gs rfl ?_
          refine gs rfl ?_
          refine and_3 (Nat.le_of_ble_eq_true rfl) rfl (vin rfl) ?_
          refine gs rfl ?_
          refine gs rfl ?_
          refine gs rfl ?_
          refine gs rfl ?_
          refine gs rfl ?_
          refine gs rfl ?_
          refine gs rfl ?_
          refine gs rfl ?_
          refine gs rfl ?_
          refine gs rfl ?_
          refine gs rfl ?_
          refine gs rfl ?_
          refine gs rfl ?_
          refine gs rfl ?_
          refine and_3 (Nat.le_of_ble_eq_true rfl) rfl (vin rfl) ?_
          refine gs rfl ?_
          refine gs rfl ?_
          refine gs rfl ?_
          refine gs rfl ?_
          refine gs rfl ?_
          refine gs rfl ?_
          refine gs rfl ?_
          refine gs rfl ?_
          refine gs rfl ?_
          refine gs rfl ?_
          refine gs rfl ?_
          refine gs rfl ?_
          refine gs rfl ?_
          refine gs rfl ?_
          refine and_3 (Nat.le_of_ble_eq_true rfl) rfl (vin rfl) ?_
          refine gs rfl ?_
          refine gs rfl ?_
          refine gs rfl ?_
          refine gs rfl ?_
          refine gs rfl ?_
          refine gs rfl ?_
          refine gs rfl ?_
          refine gs rfl ?_
          refine gs rfl ?_
          refine gs rfl ?_
          refine gs rfl ?_
          refine gs rfl ?_
          refine gs rfl ?_
          refine gs rfl ?_
          refine and_3 (Nat.le_of_ble_eq_true rfl) rfl (vin rfl) ?_
          refine gs rfl ?_
          refine gs rfl ?_
          refine gs rfl ?_
          refine gs rfl ?_
          refine gs rfl ?_
          refine gs rfl ?_
          refine gs rfl ?_
          refine gs rfl ?_
          refine gs rfl ?_
          refine gs rfl ?_
          refine gs rfl ?_
          refine gs rfl ?_
          refine gs rfl ?_
          refine gs rfl ?_
          refine and_3 (Nat.le_of_ble_eq_true rfl) rfl (vin rfl) ?_
          refine gs rfl ?_
          refine gs rfl ?_
          refine gs rfl ?_
          refine gs rfl ?_
          refine gs rfl ?_
          refine gs rfl ?_
          refine gs rfl ?_
          refine and_i rfl ?_
          refine gs rfl ?_
          refine gs rfl ?_
          refine gs rfl ?_
          refine gs rfl ?_
          refine gs rfl ?_
          refine gs rfl ?_
          refine and_i (Or.inl rfl) ?_
          refine gwst (congrArg (fun z => Value.int z :: _) (alen_k (n := 6) (by rfl))) ?_
          refine gs rfl ?_
          refine gs rfl ?_
          refine gs rfl ?_
          refine gs rfl ?_
          refine gs rfl ?_
          refine and_2 rfl (Or.inr rfl) ?_
          exact rfl
        · have x9q : s1 = (2 : Int32) := x9
          clear x9
          subst x9q
          refine gs rfl ?_
          refine and_2 (Nat.le_of_ble_eq_true rfl) (vin rfl) ?_
          refine and_2 rfl (fun z q => by cases q) ?_
          refine gs rfl ?_
          refine gs rfl ?_
          refine gs rfl ?_
          refine and_i (Nat.le_of_ble_eq_true rfl) (cl0 (Nat.le_of_ble_eq_true rfl) (and_i (Nat.le_of_ble_eq_true rfl) ?_))
          refine gs rfl ?_
          refine gs rfl ?_
          refine gs rfl ?_
          refine and_3 (Nat.le_of_ble_eq_true rfl) (Nat.le_of_ble_eq_true rfl) trivial ?_
          refine gs rfl ?_
          refine gs rfl ?_
          refine gs rfl ?_
          refine and_3 (Nat.le_of_ble_eq_true rfl) (Nat.le_of_ble_eq_true rfl) trivial ?_
          refine gs rfl ?_
          refine gs rfl ?_
          refine gs rfl ?_
          refine gs rfl ?_
          refine and_i (Nat.le_of_ble_eq_true rfl) (cl0 (Nat.le_of_ble_eq_true rfl) (and_i (Nat.le_of_ble_eq_true rfl) ?_))
          refine gs rfl ?_
          refine gs rfl ?_
          refine gs rfl ?_
          refine gs rfl ?_
          refine and_i (Or.inl rfl) ?_
          refine gwst (congrArg (fun z => Value.int z :: _) (alen_k (n := 40) (by rfl))) ?_
          refine gs rfl ?_
          refine gs rfl ?_
          refine gs rfl ?_
          refine gs rfl ?_
          refine gs rfl ?_
          refine gs rfl ?_
          refine gs rfl ?_
          refine gs rfl ?_
          refine and_3 (Nat.le_of_ble_eq_true rfl) rfl (vin rfl) ?_
          refine gs rfl ?_
          refine gs rfl ?_
          refine gs rfl ?_
          refine gs rfl ?_
          refine gs rfl ?_
          refine gs rfl ?_
          refine gs rfl ?_
          refine gs rfl ?_
          refine gs rfl ?_
          refine and_3 (Nat.le_of_ble_eq_true rfl) rfl (vin rfl) ?_
          refine gs rfl ?_
          refine gs rfl ?_
          refine gs rfl ?_
          refine gs rfl ?_
          refine gs rfl ?_
          refine gs rfl ?_
          refine gs rfl ?_
          refine gs rfl ?_
          refine gs rfl ?_
          refine and_3 (Nat.le_of_ble_eq_true rfl) rfl (vin rfl) ?_
          refine gs rfl ?_
          refine gs rfl ?_
          refine gs rfl ?_
          refine gs rfl ?_
          refine gs rfl ?_
          refine gs rfl ?_
          refine gs rfl ?_
          refine gs rfl ?_
          refine gs rfl ?_
          refine and_3 (Nat.le_of_ble_eq_true rfl) rfl (vin rfl) ?_
          refine gs rfl ?_
          refine gs rfl ?_
          refine gs rfl ?_
          refine gs rfl ?_
          refine gs rfl ?_
          refine gs rfl ?_
          refine gs rfl ?_
          refine gs rfl ?_
          refine gs rfl ?_
          refine and_3 (Nat.le_of_ble_eq_true rfl) rfl (vin rfl) ?_
          refine gs rfl ?_
          refine gs rfl ?_
          refine gs rfl ?_
          refine gs rfl ?_
          refine gs rfl ?_
          refine gs rfl ?_
          refine gs rfl ?_
          refine gs rfl ?_
          refine gs rfl ?_
          refine and_3 (Nat.le_of_ble_eq_true rfl) rfl (vin rfl) ?_
          refine gs rfl ?_
          refine gs rfl ?_
          refine gs rfl ?_
          refine gs rfl ?_
          refine gs rfl ?_
          refine gs rfl ?_
          refine gs rfl ?_
          refine gs rfl ?_
          refine gs rfl ?_
          refine and_3 (Nat.le_of_ble_eq_true rfl) rfl (vin rfl) ?_
          refine gs rfl ?_
          refine gs rfl ?_
          refine gs rfl ?_
          refine gs rfl ?_
          refine gs rfl ?_
          refine gs rfl ?_
          refine gs rfl ?_
          refine gs rfl ?_
          refine gs rfl ?_
          refine and_3 (Nat.le_of_ble_eq_true rfl) rfl (vin rfl) ?_
          refine gs rfl ?_
          refine gs rfl ?_
          refine gs rfl ?_
          refine gs rfl ?_
          refine gs rfl ?_
          refine gs rfl ?_
          refine gs rfl ?_
          refine gs rfl ?_
          refine gs rfl ?_
          refine and_3 (Nat.le_of_ble_eq_true rfl) rfl (vin rfl) ?_
          refine gs rfl ?_
          refine gs rfl ?_
          refine gs rfl ?_
          refine gs rfl ?_
          refine gs rfl ?_
          refine gs rfl ?_
          refine gs rfl ?_
          refine gs rfl ?_
          refine gs rfl ?_
          refine and_3 (Nat.le_of_ble_eq_true rfl) rfl (vin rfl) ?_
          refine gs rfl ?_
          refine gs rfl ?_
          refine gs rfl ?_
          refine gs rfl ?_
          refine gs rfl ?_
          refine gs rfl ?_
          refine gs rfl ?_
          refine gs rfl ?_
          refine gs rfl ?_
          refine and_3 (Nat.le_of_ble_eq_true rfl) rfl (vin rfl) ?_
          refine gs rfl ?_
          refine gs rfl ?_
          refine gs rfl ?_
          refine gs rfl ?_
          refine gs rfl ?_
          refine gs rfl ?_
          refine gs rfl ?_
          refine gs rfl ?_
          refine gs rfl ?_
          refine and_3 (Nat.le_of_ble_eq_true rfl) rfl (vin rfl) ?_
          refine gs rfl ?_
          refine gs rfl ?_
          refine gs rfl ?_
          refine gs rfl ?_
          refine gs rfl ?_
          refine gs rfl ?_
          refine gs rfl ?_
          refine gs rfl ?_
          refine gs rfl ?_
          refine and_3 (Nat.le_of_ble_eq_true rfl) rfl (vin rfl) ?_
          refine gs rfl ?_
          refine gs rfl ?_
          refine gs rfl ?_
          refine gs rfl ?_
          refine gs rfl ?_
          refine gs rfl ?_
          refine gs rfl ?_
          refine gs rfl ?_
          refine gs rfl ?_
          refine and_3 (Nat.le_of_ble_eq_true rfl) rfl (vin rfl) ?_
          refine gs rfl ?_
          refine gs rfl ?_
          refine gs rfl ?_
          refine gs rfl ?_
          refine gs rfl ?_
          refine gs rfl ?_
          refine gs rfl ?_
          refine gs rfl ?_
          refine gs rfl ?_
          refine and_3 (Nat.le_of_ble_eq_true rfl) rfl (vin rfl) ?_
          refine gs rfl ?_
          refine gs rfl ?_
          refine gs rfl ?_
          refine gs rfl ?_
          refine gs rfl ?_
          refine gs rfl ?_
          refine gs rfl ?_
          refine gs rfl ?_
          refine gs rfl ?_
          refine and_3 (Nat.le_of_ble_eq_true rfl) rfl (vin rfl) ?_
          refine gs rfl ?_
          refine gs rfl ?_
          refine gs rfl ?_
          refine gs rfl ?_
          refine gs rfl ?_
          refine gs rfl ?_
          refine gs rfl ?_
          refine gs rfl ?_
          refine gs rfl ?_
          refine and_3 (Nat.le_of_ble_eq_true rfl) rfl (vin rfl) ?_
          refine gs rfl ?_
          refine gs rfl ?_
          refine gs rfl ?_
          refine gs rfl ?_
          refine gs rfl ?_
          refine gs rfl ?_
          refine gs rfl ?_
          refine gs rfl ?_
          refine gs rfl ?_
          refine and_3 (Nat.le_of_ble_eq_true rfl) rfl (vin rfl) ?_
          refine gs rfl ?_
          refine gs rfl ?_
          refine gs rfl ?_
          refine gs rfl ?_
          refine gs rfl ?_
          refine gs rfl ?_
          refine gs rfl ?_
          refine gs rfl ?_
          refine gs rfl ?_
          refine and_3 (Nat.le_of_ble_eq_true rfl) rfl (vin rfl) ?_
          refine gs rfl ?_
          refine gs rfl ?_
          refine gs rfl ?_
          refine gs rfl ?_
          refine gs rfl ?_
          refine gs rfl ?_
          refine gs rfl ?_
          refine gs rfl ?_
          refine gs rfl ?_
          refine and_3 (Nat.le_of_ble_eq_true rfl) rfl (vin rfl) ?_
          refine gs rfl ?_
          refine gs rfl ?_
          refine gs rfl ?_
          refine gs rfl ?_
          refine gs rfl ?_
          refine gs rfl ?_
          refine gs rfl ?_
          refine gs rfl ?_
          refine gs rfl ?_
          refine and_3 (Nat.le_of_ble_eq_true rfl) rfl (vin rfl) ?_
          refine gs rfl ?_
          refine gs rfl ?_
          refine gs rfl ?_
          refine gs rfl ?_
          refine gs rfl ?_
          refine gs rfl ?_
          refine gs rfl ?_
          refine gs rfl ?_
          refine gs rfl ?_
          refine and_3 (Nat.le_of_ble_eq_true rfl) rfl (vin rfl) ?_
          refine gs rfl ?_
          refine gs rfl ?_
          refine gs rfl ?_
          refine gs rfl ?_
          refine gs rfl ?_
          refine gs rfl ?_
          refine gs rfl ?_
          refine gs rfl ?_
          refine gs rfl ?_
          refine and_3 (Nat.le_of_ble_eq_true rfl) rfl (vin rfl) ?_
          refine gs rfl ?_
          refine gs rfl ?_
          refine gs rfl ?_
          refine gs rfl ?_
          refine gs rfl ?_
          refine gs rfl ?_
          refine gs rfl ?_
          refine gs rfl ?_
          refine gs rfl ?_
          refine and_3 (Nat.le_of_ble_eq_true rfl) rfl (vin rfl) ?_
          refine gs rfl ?_
          refine gs rfl ?_
          refine gs rfl ?_
          refine gs rfl ?_
          refine gs rfl ?_
          refine gs rfl ?_
          refine gs rfl ?_
          refine gs rfl ?_
          refine gs rfl ?_
          refine and_3 (Nat.le_of_ble_eq_true rfl) rfl (vin rfl) ?_
          refine gs rfl ?_
          refine gs rfl ?_
          refine gs rfl ?_
          refine gs rfl ?_
          refine gs rfl ?_
          refine gs rfl ?_
          refine gs rfl ?_
          refine gs rfl ?_
          refine gs rfl ?_
          refine and_3 (Nat.le_of_ble_eq_true rfl) rfl (vin rfl) ?_
          refine gs rfl ?_
          refine gs rfl ?_
          refine gs rfl ?_
          refine gs rfl ?_
          refine gs rfl ?_
          refine gs rfl ?_
          refine gs rfl ?_
          refine gs rfl ?_
          refine gs rfl ?_
          refine and_3 (Nat.le_of_ble_eq_true rfl) rfl (vin rfl) ?_
          refine gs rfl ?_
          refine gs rfl ?_
          refine gs rfl ?_
          refine gs rfl ?_
          refine gs rfl ?_
          refine gs rfl ?_
          refine gs rfl ?_
          refine gs rfl ?_
          refine gs rfl ?_
          refine and_3 (Nat.le_of_ble_eq_true rfl) rfl (vin rfl) ?_
          refine gs rfl ?_
          refine gs rfl ?_
          refine gs rfl ?_
          refine gs rfl ?_
          refine gs rfl ?_
          refine gs rfl ?_
          refine gs rfl ?_
          refine gs rfl ?_
          refine gs rfl ?_
          refine and_3 (Nat.le_of_ble_eq_true rfl) rfl (vin rfl) ?_
          refine gs rfl ?_
          refine gs rfl ?_
          refine gs rfl ?_
          refine gs rfl ?_
          refine gs rfl ?_
          refine gs rfl ?_
          refine gs rfl ?_
          refine gs rfl ?_
          refine gs rfl ?_
          refine and_3 (Nat.le_of_ble_eq_true rfl) rfl (vin rfl) ?_
          refine gs rfl ?_
          refine gs rfl ?_
          refine gs rfl ?_
          refine gs rfl ?_
          refine gs rfl ?_
          refine gs rfl ?_
          refine gs rfl ?_
          refine gs rfl ?_
          refine gs rfl ?_
          refine and_3 (Nat.le_of_ble_eq_true rfl) rfl (vin rfl) ?_
          refine gs rfl ?_
          refine gs rfl ?_
          refine gs rfl ?_
          refine gs rfl ?_
          refine gs rfl ?_
          refine gs rfl ?_
          refine gs rfl ?_
          refine gs rfl ?_
          refine gs rfl ?_
          refine and_3 (Nat.le_of_ble_eq_true rfl) rfl (vin rfl) ?_
          refine gs rfl ?_
          refine gs rfl ?_
          refine gs rfl ?_
          refine gs rfl ?_
          refine gs rfl ?_
          refine gs rfl ?_
          refine gs rfl ?_
          refine gs rfl ?_
          refine gs rfl ?_
          refine and_3 (Nat.le_of_ble_eq_true rfl) rfl (vin rfl) ?_
          refine gs rfl ?_
          refine gs rfl ?_
          refine gs rfl ?_
          refine gs rfl ?_
          refine gs rfl ?_
          refine gs rfl ?_
          refine gs rfl ?_
          refine gs rfl ?_
          refine gs rfl ?_
          refine and_3 (Nat.le_of_ble_eq_true rfl) rfl (vin rfl) ?_
          refine gs rfl ?_
          refine gs rfl ?_
          refine gs rfl ?_
          refine gs rfl ?_
          refine gs rfl ?_
          refine gs rfl ?_
          refine gs rfl ?_
          refine gs rfl ?_
          refine gs rfl ?_
          refine and_3 (Nat.le_of_ble_eq_true rfl) rfl (vin rfl) ?_
          refine gs rfl ?_
          refine gs rfl ?_
          refine gs rfl ?_
          refine gs rfl ?_
          refine gs rfl ?_
          refine gs rfl ?_
          refine gs rfl ?_
          refine gs rfl ?_
          refine gs rfl ?_
          refine and_3 (Nat.le_of_ble_eq_true rfl) rfl (vin rfl) ?_
          refine gs rfl ?_
          refine gs rfl ?_
          refine gs rfl ?_
          refine gs rfl ?_
          refine gs rfl ?_
          refine gs rfl ?_
          refine gs rfl ?_
          refine gs rfl ?_
          refine gs rfl ?_
          refine and_3 (Nat.le_of_ble_eq_true rfl) rfl (vin rfl) ?_
          refine gs rfl ?_
          refine gs rfl ?_
          refine gs rfl ?_
          refine gs rfl ?_
          refine gs rfl ?_
          refine gs rfl ?_
          refine gs rfl ?_
          refine gs rfl ?_
          refine gs rfl ?_
          refine and_3 (Nat.le_of_ble_eq_true rfl) rfl (vin rfl) ?_
          refine gs rfl ?_
          refine gs rfl ?_
          refine gs rfl ?_
          refine gs rfl ?_
          refine gs rfl ?_
          refine gs rfl ?_
          refine gs rfl ?_
          refine gs rfl ?_
          refine gs rfl ?_
          refine and_3 (Nat.le_of_ble_eq_true rfl) rfl (vin rfl) ?_
          refine gs rfl ?_
          refine gs rfl ?_
          refine gs rfl ?_
          refine gs rfl ?_
          refine gs rfl ?_
          refine gs rfl ?_
          refine gs rfl ?_
          refine gs rfl ?_
          refine gs rfl ?_
          refine and_3 (Nat.le_of_ble_eq_true rfl) rfl (vin rfl) ?_
          refine gs rfl ?_
          refine gs rfl ?_
          refine gs rfl ?_
          refine gs rfl ?_
          refine gs rfl ?_
          refine gs rfl ?_
          refine and_i rfl ?_
          refine gs rfl ?_
          refine and_i rfl ?_
          refine gs rfl ?_
          refine gs rfl ?_
          refine and_i rfl ?_
          refine FRg rfl (fun f => ?_)
          refine gs rfl ?_
          refine gs rfl ?_
          refine gs rfl ?_
          refine gs rfl ?_
          refine gs rfl ?_
          refine gs rfl ?_
          refine and_2 rfl (vin rfl) ?_
          refine gs rfl ?_
          refine gs rfl ?_
          refine gs rfl ?_
          refine gs rfl ?_
          refine gs rfl ?_
          refine and_2 rfl (vin rfl) ?_
          refine gs rfl ?_
          refine gs rfl ?_
          refine gs rfl ?_
          refine gs rfl ?_
          refine gs rfl ?_
          refine and_2 rfl (vin rfl) ?_
          refine gs rfl ?_
          refine and_i (Nat.le_of_ble_eq_true rfl) (cl0 (Nat.le_of_ble_eq_true rfl) (and_i (Nat.le_of_ble_eq_true rfl) ?_))
          refine gs rfl ?_
          refine gs rfl ?_
          refine and_i (Nat.le_of_ble_eq_true rfl) (cl0 (Nat.le_of_ble_eq_true rfl) (and_i (Nat.le_of_ble_eq_true rfl) ?_))
          refine gs rfl ?_
          refine gs rfl ?_
          refine gs rfl ?_
          refine gs rfl ?_
          refine and_i (Nat.le_of_ble_eq_true rfl) (cl0 (Nat.le_of_ble_eq_true rfl) (and_i (Nat.le_of_ble_eq_true rfl) ?_))
          refine gs rfl ?_
          refine gs rfl ?_
          refine gs rfl ?_
          refine gs rfl ?_
          refine gs rfl ?_
          refine gs rfl ?_
          refine gs rfl ?_
          refine gs rfl ?_
          refine gs rfl ?_
          refine and_2 rfl (Or.inr rfl) ?_
          refine gs rfl ?_
          refine and_2 rfl (Or.inr rfl) ?_
          refine gs rfl ?_
          refine gs rfl ?_
          refine gs rfl ?_
          refine ifT ((eq_k (a := (s2).toInt) (b := 0) (by rfl) (by rfl)).mpr (by omega)) ?_
          refine gs rfl ?_
          refine gs rfl ?_
          refine ifT ((eq_k (a := (s2).toInt) (b := 0) (by rfl) (by rfl)).mpr (by omega)) ?_
          refine gs rfl ?_
          refine gs rfl ?_
          refine ifT ((eq_k (a := (s2).toInt) (b := 0) (by rfl) (by rfl)).mpr (by omega)) ?_
          refine gs rfl ?_
          refine gs rfl ?_
          refine gs rfl ?_
          refine gs rfl ?_
          refine gs rfl ?_
          refine and_3 (Nat.le_of_ble_eq_true rfl) rfl (vin rfl) ?_
          refine gs rfl ?_
          refine gs rfl ?_
          refine gs rfl ?_
          refine gs rfl ?_
          refine gs rfl ?_
          refine ifT ((eq_k (a := (s2).toInt) (b := 0) (by rfl) (by rfl)).mpr (by omega)) ?_
          refine gs rfl ?_
          refine gs rfl ?_
          refine gs rfl ?_
          refine and_3 (Nat.le_of_ble_eq_true rfl) rfl (vin rfl) ?_
          refine gs rfl ?_
          refine gs rfl ?_
          refine gs rfl ?_
          refine gs rfl ?_
          refine gs rfl ?_
          refine gs rfl ?_
          refine gs rfl ?_
          refine gs rfl ?_
          refine gs rfl ?_
          refine gs rfl ?_
          refine gs rfl ?_
          refine gs rfl ?_
          refine gs rfl ?_
          refine gs rfl ?_
          refine and_3 (Nat.le_of_ble_eq_true rfl) rfl (vin rfl) ?_
          refine gs rfl ?_
          refine gs rfl ?_
          refine gs rfl ?_
          refine gs rfl ?_
          refine gs rfl ?_
          refine gs rfl ?_
          refine gs rfl ?_
          refine gs rfl ?_
          refine gs rfl ?_
          refine gs rfl ?_
          refine gs rfl ?_
          refine gs rfl ?_
          refine gs rfl ?_
          refine gs rfl ?_
          refine and_3 (Nat.le_of_ble_eq_true rfl) rfl (vin rfl) ?_
          refine gs rfl ?_
          refine gs rfl ?_
          refine gs rfl ?_
          refine gs rfl ?_
          refine gs rfl ?_
          refine gs rfl ?_
          refine gs rfl ?_
          refine gs rfl ?_
          refine gs rfl ?_
          refine gs rfl ?_
          refine gs rfl ?_
          refine gs rfl ?_
          refine gs rfl ?_
          refine gs rfl ?_
          refine and_3 (Nat.le_of_ble_eq_true rfl) rfl (vin rfl) ?_
          refine gs rfl ?_
          refine gs rfl ?_
          refine gs rfl ?_
          refine gs rfl ?_
          refine gs rfl ?_
          refine gs rfl ?_
          refine gs rfl ?_
          refine gs rfl ?_
          refine gs rfl ?_
          refine gs rfl ?_
          refine gs rfl ?_
          refine gs rfl ?_
          refine gs rfl ?_
          refine gs rfl ?_
          refine and_3 (Nat.le_of_ble_eq_true rfl) rfl (vin rfl) ?_
          refine gs rfl ?_
          refine gs rfl ?_
          refine gs rfl ?_
          refine gs rfl ?_
          refine gs rfl ?_
          refine gs rfl ?_
          refine gs rfl ?_
          refine gs rfl ?_
          refine gs rfl ?_
          refine gs rfl ?_
          refine gs rfl ?_
          refine gs rfl ?_
          refine gs rfl ?_
          refine gs rfl ?_
          refine and_3 (Nat.le_of_ble_eq_true rfl) rfl (vin rfl) ?_
          refine gs rfl ?_
          refine gs rfl ?_
          refine gs rfl ?_
          refine gs rfl ?_
          refine gs rfl ?_
          refine gs rfl ?_
          refine gs rfl ?_
          refine gs rfl ?_
          refine gs rfl ?_
          refine gs rfl ?_
          refine gs rfl ?_
          refine gs rfl ?_
          refine gs rfl ?_
          refine gs rfl ?_
          refine and_3 (Nat.le_of_ble_eq_true rfl) rfl (vin rfl) ?_
          refine gs rfl ?_
          refine gs rfl ?_
          refine gs rfl ?_
          refine gs rfl ?_
          refine gs rfl ?_
          refine gs rfl ?_
          refine gs rfl ?_
          refine gs rfl ?_
          refine gs rfl ?_
          refine gs rfl ?_
          refine gs rfl ?_
          refine gs rfl ?_
          refine gs rfl ?_
          refine gs rfl ?_
          refine and_3 (Nat.le_of_ble_eq_true rfl) rfl (vin rfl) ?_
          refine gs rfl ?_
          refine gs rfl ?_
          refine gs rfl ?_
          refine gs rfl ?_
          refine gs rfl ?_
          refine gs rfl ?_
          refine gs rfl ?_
          refine gs rfl ?_
          refine gs rfl ?_
          refine gs rfl ?_
          refine gs rfl ?_
          refine gs rfl ?_
          refine gs rfl ?_
          refine gs rfl ?_
          refine and_3 (Nat.le_of_ble_eq_true rfl) rfl (vin rfl) ?_
          refine gs rfl ?_
          refine gs rfl ?_
          refine gs rfl ?_
          refine gs rfl ?_
          refine gs rfl ?_
          refine gs rfl ?_
          refine gs rfl ?_
          refine gs rfl ?_
          refine gs rfl ?_
          refine gs rfl ?_
          refine gs rfl ?_
          refine gs rfl ?_
          refine gs rfl ?_
          refine gs rfl ?_
          refine and_3 (Nat.le_of_ble_eq_true rfl) rfl (vin rfl) ?_
          refine gs rfl ?_
          refine gs rfl ?_
          refine gs rfl ?_
          refine gs rfl ?_
          refine gs rfl ?_
          refine gs rfl ?_
          refine gs rfl ?_
          refine gs rfl ?_
          refine gs rfl ?_
          refine gs rfl ?_
          refine gs rfl ?_
          refine gs rfl ?_
          refine gs rfl ?_
          refine gs rfl ?_
          refine and_3 (Nat.le_of_ble_eq_true rfl) rfl (vin rfl) ?_
          refine gs rfl ?_
          refine gs rfl ?_
          refine gs rfl ?_
          refine gs rfl ?_
          refine gs rfl ?_
          refine gs rfl ?_
          refine gs rfl ?_
          refine gs rfl ?_
          refine gs rfl ?_
          refine gs rfl ?_
          refine gs rfl ?_
          refine gs rfl ?_
          refine gs rfl ?_
          refine gs rfl ?_
          refine and_3 (Nat.le_of_ble_eq_true rfl) rfl (vin rfl) ?_
          refine gs rfl ?_
          refine gs rfl ?_
          refine gs rfl ?_
          refine gs rfl ?_
          refine gs rfl ?_
          refine gs rfl ?_
          refine gs rfl ?_
          refine gs rfl ?_
          refine gs rfl ?_
          refine gs rfl ?_
          refine gs rfl ?_
          refine gs rfl ?_
          refine gs rfl ?_
          refine gs rfl ?_
          refine and_3 (Nat.le_of_ble_eq_true rfl) rfl (vin rfl) ?_
          refine gs rfl ?_
          refine gs rfl ?_
          refine gs rfl ?_
          refine gs rfl ?_
          refine gs rfl ?_
          refine gs rfl ?_
          refine gs rfl ?_
          refine gs rfl ?_
          refine gs rfl ?_
          refine gs rfl ?_
          refine gs rfl ?_
          refine gs rfl ?_
          refine gs rfl ?_
          refine gs rfl ?_
          refine and_3 (Nat.le_of_ble_eq_true rfl) rfl (vin rfl) ?_
          refine gs rfl ?_
          refine gs rfl ?_
          refine gs rfl ?_
          refine gs rfl ?_
          refine gs rfl ?_
          refine gs rfl ?_
          refine gs rfl ?_
          refine gs rfl ?_
          refine gs rfl ?_
          refine gs rfl ?_
          refine gs rfl ?_
          refine gs rfl ?_
          refine gs rfl ?_
          refine gs rfl ?_
          refine and_3 (Nat.le_of_ble_eq_true rfl) rfl (vin rfl) ?_
          refine gs rfl ?_
          refine gs rfl ?_
          refine gs rfl ?_
          refine gs rfl ?_
          refine gs rfl ?_
          refine gs rfl ?_
          refine gs rfl ?_
          refine gs rfl ?_
          refine gs rfl ?_
          refine gs rfl ?_
          refine gs rfl ?_
          refine gs rfl ?_
          refine gs rfl ?_
          refine gs rfl ?_
          refine and_3 (Nat.le_of_ble_eq_true rfl) rfl (vin rfl) ?_
          refine gs rfl ?_
          refine gs rfl ?_
          refine gs rfl ?_
          refine gs rfl ?_
          refine gs rfl ?_
          refine gs rfl ?_
          refine gs rfl ?_
          refine gs rfl ?_
          refine gs rfl ?_
          refine gs rfl ?_
          refine gs rfl ?_
          refine gs rfl ?_
          refine gs rfl ?_
          refine gs rfl ?_
          refine and_3 (Nat.le_of_ble_eq_true rfl) rfl (vin rfl) ?_
          refine gs rfl ?_
          refine gs rfl ?_
          refine gs rfl ?_
          refine gs rfl ?_
          refine gs rfl ?_
          refine gs rfl ?_
          refine gs rfl ?_
          refine gs rfl ?_
          refine gs rfl ?_
          refine gs rfl ?_
          refine gs rfl ?_
          refine gs rfl ?_
          refine gs rfl ?_
          refine gs rfl ?_
          refine and_3 (Nat.le_of_ble_eq_true rfl) rfl (vin rfl) ?_
          refine gs rfl ?_
          refine gs rfl ?_
          refine gs rfl ?_
          refine gs rfl ?_
          refine gs rfl ?_
          refine gs rfl ?_
          refine gs rfl ?_
          refine gs rfl ?_
          refine gs rfl ?_
          refine gs rfl ?_
          refine gs rfl ?_
          refine gs rfl ?_
          refine gs rfl ?_
          refine gs rfl ?_
          refine and_3 (Nat.le_of_ble_eq_true rfl) rfl (vin rfl) ?_
          refine gs rfl ?_
          refine gs rfl ?_
          refine gs rfl ?_
          refine gs rfl ?_
          refine gs rfl ?_
          refine gs rfl ?_
          refine gs rfl ?_
          refine gs rfl ?_
          refine gs rfl ?_
          refine gs rfl ?_
          refine gs rfl ?_
          refine gs rfl ?_
          refine gs rfl ?_
          refine gs rfl ?_
          refine and_3 (Nat.le_of_ble_eq_true rfl) rfl (vin rfl) ?_
          refine gs rfl ?_
          refine gs rfl ?_
          refine gs rfl ?_
          refine gs rfl ?_
          refine gs rfl ?_
          refine gs rfl ?_
          refine gs rfl ?_
          refine gs rfl ?_
          refine gs rfl ?_
          refine gs rfl ?_
          refine gs rfl ?_
          refine gs rfl ?_
          refine gs rfl ?_
          refine gs rfl ?_
          refine and_3 (Nat.le_of_ble_eq_true rfl) rfl (vin rfl) ?_
          refine gs rfl ?_
          refine gs rfl ?_
          refine gs rfl ?_
          refine gs rfl ?_
          refine gs rfl ?_
          refine gs rfl ?_
          refine gs rfl ?_
          refine gs rfl ?_
          refine gs rfl ?_
          refine gs rfl ?_
          refine gs rfl ?_
          refine gs rfl ?_
          refine gs rfl ?_
          refine gs rfl ?_
          refine and_3 (Nat.le_of_ble_eq_true rfl) rfl (vin rfl) ?_
          refine gs rfl ?_
          refine gs rfl ?_
          refine gs rfl ?_
          refine gs rfl ?_
          refine gs rfl ?_
          refine gs rfl ?_
          refine gs rfl ?_
          refine gs rfl ?_
          refine gs rfl ?_
          refine gs rfl ?_
          refine gs rfl ?_
          refine gs rfl ?_
          refine gs rfl ?_
          refine gs rfl ?_
          refine and_3 (Nat.le_of_ble_eq_true rfl) rfl (vin rfl) ?_
          refine gs rfl ?_
          refine gs rfl ?_
          refine gs rfl ?_
          refine gs rfl ?_
          refine gs rfl ?_
          refine gs rfl ?_
          refine gs rfl ?_
          refine gs rfl ?_
          refine gs rfl ?_
          refine gs rfl ?_
          refine gs rfl ?_
          refine gs rfl ?_
          refine gs rfl ?_
          refine gs rfl ?_
          refine and_3 (Nat.le_of_ble_eq_true rfl) rfl (vin rfl) ?_
          refine gs rfl ?_
          refine gs rfl ?_
          refine gs rfl ?_
          refine gs rfl ?_
          refine gs rfl ?_
          refine gs rfl ?_
          refine gs rfl ?_
          refine gs rfl ?_
          refine gs rfl ?_
          refine gs rfl ?_
          refine gs rfl ?_
          refine gs rfl ?_
          refine gs rfl ?_
          refine gs rfl ?_
          refine and_3 (Nat.le_of_ble_eq_true rfl) rfl (vin rfl) ?_
          refine gs rfl ?_
          refine gs rfl ?_
          refine gs rfl ?_
          refine gs rfl ?_
          refine gs rfl ?_
          refine gs rfl ?_
          refine gs rfl ?_
          refine gs rfl ?_
          refine gs rfl ?_
          refine gs rfl ?_
          refine gs rfl ?_
          refine gs rfl ?_
          refine gs rfl ?_
          refine gs rfl ?_
          refine and_3 (Nat.le_of_ble_eq_true rfl) rfl (vin rfl) ?_
          refine gs rfl ?_
          refine gs rfl ?_
          refine gs rfl ?_
          refine gs rfl ?_
          refine gs rfl ?_
          refine gs rfl ?_
          refine gs rfl ?_
          refine gs rfl ?_
          refine gs rfl ?_
          refine gs rfl ?_
          refine gs rfl ?_
          refine gs rfl ?_
          refine gs rfl ?_
          refine gs rfl ?_
          refine and_3 (Nat.le_of_ble_eq_true rfl) rfl (vin rfl) ?_
          refine gs rfl ?_
          refine gs rfl ?_
          refine gs rfl ?_
          refine gs rfl ?_
          refine gs rfl ?_
          refine gs rfl ?_
          refine gs rfl ?_
          refine gs rfl ?_
          refine gs rfl ?_
          refine gs rfl ?_
          refine gs rfl ?_
          refine gs rfl ?_
          refine gs rfl ?_
          refine gs rfl ?_
          refine and_3 (Nat.le_of_ble_eq_true rfl) rfl (vin rfl) ?_
          refine gs rfl ?_
          refine gs rfl ?_
          refine gs rfl ?_
          refine gs rfl ?_
          refine gs rfl ?_
          refine gs rfl ?_
          refine gs rfl ?_
          refine gs rfl ?_
          refine gs rfl ?_
          refine gs rfl ?_
          refine gs rfl ?_
          refine gs rfl ?_
          refine gs rfl ?_
          refine gs rfl ?_
          refine and_3 (Nat.le_of_ble_eq_true rfl) rfl (vin rfl) ?_
          refine gs rfl ?_
          refine gs rfl ?_
          refine gs rfl ?_
          refine gs rfl ?_
          refine gs rfl ?_
          refine gs rfl ?_
          refine gs rfl ?_
          refine gs rfl ?_
          refine gs rfl ?_
          refine gs rfl ?_
          refine gs rfl ?_
          refine gs rfl ?_
          refine gs rfl ?_
          refine gs rfl ?_
          refine and_3 (Nat.le_of_ble_eq_true rfl) rfl (vin rfl) ?_
          refine gs rfl ?_
          refine gs rfl ?_
          refine gs rfl ?_
          refine gs rfl ?_
          refine gs rfl ?_
          refine gs rfl ?_
          refine gs rfl ?_
          refine gs rfl ?_
          refine gs rfl ?_
          refine gs rfl ?_
          refine gs rfl ?_
          refine gs rfl ?_
          refine gs rfl ?_
          refine gs rfl ?_
          refine and_3 (Nat.le_of_ble_eq_true rfl) rfl (vin rfl) ?_
          refine gs rfl ?_
          refine gs rfl ?_
          refine gs rfl ?_
          refine gs rfl ?_
          refine gs rfl ?_
          refine gs rfl ?_
          refine gs rfl ?_
          refine gs rfl ?_
          refine gs rfl ?_
          refine gs rfl ?_
          refine gs rfl ?_
          refine gs rfl ?_
          refine gs rfl ?_
          refine gs rfl ?_
          refine and_3 (Nat.le_of_ble_eq_true rfl) rfl (vin rfl) ?_
          refine gs rfl ?_
          refine gs rfl ?_
          refine gs rfl ?_
          refine gs rfl ?_
          refine gs rfl ?_
          refine gs rfl ?_
          refine gs rfl ?_
          refine gs rfl ?_
          refine gs rfl ?_
          refine gs rfl ?_
          refine gs rfl ?_
          refine gs rfl ?_
          refine gs rfl ?_
          refine gs rfl ?_
          refine and_3 (Nat.le_of_ble_eq_true rfl) rfl (vin rfl) ?_
          refine gs rfl ?_
          refine gs rfl ?_
          refine gs rfl ?_
          refine gs rfl ?_
          refine gs rfl ?_
          refine gs rfl ?_
          refine gs rfl ?_
          refine gs rfl ?_
          refine gs rfl ?_
          refine gs rfl ?_
          refine gs rfl ?_
          refine gs rfl ?_
          refine gs rfl ?_
          refine gs rfl ?_
          refine and_3 (Nat.le_of_ble_eq_true rfl) rfl (vin rfl) ?_
          refine gs rfl ?_
          refine gs rfl ?_
          refine gs rfl ?_
          refine gs rfl ?_
          refine gs rfl ?_
          refine gs rfl ?_
          refine gs rfl ?_
          refine gs rfl ?_
          refine gs rfl ?_
          refine gs rfl ?_
          refine gs rfl ?_
          refine gs rfl ?_
          refine gs rfl ?_
          refine gs rfl ?_
          refine and_3 (Nat.le_of_ble_eq_true rfl) rfl (vin rfl) ?_
          refine gs rfl ?_
          refine gs rfl ?_
          refine gs rfl ?_
          refine gs rfl ?_
          refine gs rfl ?_
          refine gs rfl ?_
          refine gs rfl ?_
          refine gs rfl ?_
          refine gs rfl ?_
          refine gs rfl ?_
          refine gs rfl ?_
          refine gs rfl ?_
          refine gs rfl ?_
          refine gs rfl ?_
          refine and_3 (Nat.le_of_ble_eq_true rfl) rfl (vin rfl) ?_
          refine gs rfl ?_
          refine gs rfl ?_
          refine gs rfl ?_
          refine gs rfl ?_
          refine gs rfl ?_
          refine gs rfl ?_
          refine gs rfl ?_
          refine gs rfl ?_
          refine gs rfl ?_
          refine gs rfl ?_
          refine gs rfl ?_
          refine gs rfl ?_
          refine gs rfl ?_
          refine gs rfl ?_
          refine and_3 (Nat.le_of_ble_eq_true rfl) rfl (vin rfl) ?_
          refine gs rfl ?_
          refine gs rfl ?_
          refine gs rfl ?_
          refine gs rfl ?_
          refine gs rfl ?_
          refine gs rfl ?_
          refine gs rfl ?_
          refine gs rfl ?_
          refine gs rfl ?_
          refine gs rfl ?_
          refine gs rfl ?_
          refine gs rfl ?_
          refine gs rfl ?_
          refine gs rfl ?_
          refine and_3 (Nat.le_of_ble_eq_true rfl) rfl (vin rfl) ?_
          refine gs rfl ?_
          refine gs rfl ?_
          refine gs rfl ?_
          refine gs rfl ?_
          refine gs rfl ?_
          refine gs rfl ?_
          refine gs rfl ?_
          refine gs rfl ?_
          refine gs rfl ?_
          refine gs rfl ?_
          refine gs rfl ?_
          refine gs rfl ?_
          refine gs rfl ?_
          refine gs rfl ?_
          refine and_3 (Nat.le_of_ble_eq_true rfl) rfl (vin rfl) ?_
          refine gs rfl ?_
          refine gs rfl ?_
          refine gs rfl ?_
          refine gs rfl ?_
          refine gs rfl ?_
          refine gs rfl ?_
          refine gs rfl ?_
          refine gs rfl ?_
          refine gs rfl ?_
          refine gs rfl ?_
          refine gs rfl ?_
          refine gs rfl ?_
          refine gs rfl ?_
          refine gs rfl ?_
          refine and_3 (Nat.le_of_ble_eq_true rfl) rfl (vin rfl) ?_
          refine gs rfl ?_
          refine gs rfl ?_
          refine gs rfl ?_
          refine gs rfl ?_
          refine gs rfl ?_
          refine gs rfl ?_
          refine gs rfl ?_
          refine gs rfl ?_
          refine gs rfl ?_
          refine gs rfl ?_
          refine gs rfl ?_
          refine gs rfl ?_
          refine gs rfl ?_
          refine gs rfl ?_
          refine and_3 (Nat.le_of_ble_eq_true rfl) rfl (vin rfl) ?_
          refine gs rfl ?_
          refine gs rfl ?_
          refine gs rfl ?_
          refine gs rfl ?_
          refine gs rfl ?_
          refine gs rfl ?_
          refine gs rfl ?_
          refine and_i rfl ?_
          refine gs rfl ?_
          refine gs rfl ?_
          refine gs rfl ?_
          refine gs rfl ?_
          refine gs rfl ?_
          refine gs rfl ?_
          refine and_i (Or.inl rfl) ?_
          refine gwst (congrArg (fun z => Value.int z :: _) (alen_k (n := 6) (by rfl))) ?_
          refine gs rfl ?_
          refine gs rfl ?_
          refine gs rfl ?_
          refine gs rfl ?_
          refine gs rfl ?_
          refine and_2 rfl (Or.inr rfl) ?_
          exact rfl
        · have x9q : s1 = (3 : Int32) := x9
          clear x9
          subst x9q
          refine gs rfl ?_
          refine and_2 (Nat.le_of_ble_eq_true rfl) (vin rfl) ?_
          refine and_2 rfl (fun z q => by cases q) ?_
          refine gs rfl ?_
          refine gs rfl ?_
          refine gs rfl ?_
          refine and_i (Nat.le_of_ble_eq_true rfl) (cl0 (Nat.le_of_ble_eq_true rfl) (and_i (Nat.le_of_ble_eq_true rfl) ?_))
          refine gs rfl ?_
          refine gs rfl ?_
          refine gs rfl ?_
          refine and_3 (Nat.le_of_ble_eq_true rfl) (Nat.le_of_ble_eq_true rfl) trivial ?_
          refine gs rfl ?_
          refine gs rfl ?_
          refine gs rfl ?_
          refine and_3 (Nat.le_of_ble_eq_true rfl) (Nat.le_of_ble_eq_true rfl) trivial ?_
          refine gs rfl ?_
          refine gs rfl ?_
          refine gs rfl ?_
          refine gs rfl ?_
          refine and_i (Nat.le_of_ble_eq_true rfl) (cl0 (Nat.le_of_ble_eq_true rfl) (and_i (Nat.le_of_ble_eq_true rfl) ?_))
          refine gs rfl ?_
          refine gs rfl ?_
          refine gs rfl ?_
          refine gs rfl ?_
          refine and_i (Or.inl rfl) ?_
          refine gwst (congrArg (fun z => Value.int z :: _) (alen_k (n := 40) (by rfl))) ?_
          refine gs rfl ?_
          refine gs rfl ?_
          refine gs rfl ?_
          refine gs rfl ?_
          refine gs rfl ?_
          refine gs rfl ?_
          refine gs rfl ?_
          refine gs rfl ?_
          refine and_3 (Nat.le_of_ble_eq_true rfl) rfl (vin rfl) ?_
          refine gs rfl ?_
          refine gs rfl ?_
          refine gs rfl ?_
          refine gs rfl ?_
          refine gs rfl ?_
          refine gs rfl ?_
          refine gs rfl ?_
          refine gs rfl ?_
          refine gs rfl ?_
          refine and_3 (Nat.le_of_ble_eq_true rfl) rfl (vin rfl) ?_
          refine gs rfl ?_
          refine gs rfl ?_
          refine gs rfl ?_
          refine gs rfl ?_
          refine gs rfl ?_
          refine gs rfl ?_
          refine gs rfl ?_
          refine gs rfl ?_
          refine gs rfl ?_
          refine and_3 (Nat.le_of_ble_eq_true rfl) rfl (vin rfl) ?_
          refine gs rfl ?_
          refine gs rfl ?_
          refine gs rfl ?_
          refine gs rfl ?_
          refine gs rfl ?_
          refine gs rfl ?_
          refine gs rfl ?_
          refine gs rfl ?_
          refine gs rfl ?_
          refine and_3 (Nat.le_of_ble_eq_true rfl) rfl (vin rfl) ?_
          refine gs rfl ?_
          refine gs rfl ?_
          refine gs rfl ?_
          refine gs rfl ?_
          refine gs rfl ?_
          refine gs rfl ?_
          refine gs rfl ?_
          refine gs rfl ?_
          refine gs rfl ?_
          refine and_3 (Nat.le_of_ble_eq_true rfl) rfl (vin rfl) ?_
          refine gs rfl ?_
          refine gs rfl ?_
          refine gs rfl ?_
          refine gs rfl ?_
          refine gs rfl ?_
          refine gs rfl ?_
          refine gs rfl ?_
          refine gs rfl ?_
          refine gs rfl ?_
          refine and_3 (Nat.le_of_ble_eq_true rfl) rfl (vin rfl) ?_
          refine gs rfl ?_
          refine gs rfl ?_
          refine gs rfl ?_
          refine gs rfl ?_
          refine gs rfl ?_
          refine gs rfl ?_
          refine gs rfl ?_
          refine gs rfl ?_
          refine gs rfl ?_
          refine and_3 (Nat.le_of_ble_eq_true rfl) rfl (vin rfl) ?_
          refine gs rfl ?_
          refine gs rfl ?_
          refine gs rfl ?_
          refine gs rfl ?_
          refine gs rfl ?_
          refine gs rfl ?_
          refine gs rfl ?_
          refine gs rfl ?_
          refine gs rfl ?_
          refine and_3 (Nat.le_of_ble_eq_true rfl) rfl (vin rfl) ?_
          refine gs rfl ?_
          refine gs rfl ?_
          refine gs rfl ?_
          refine gs rfl ?_
          refine gs rfl ?_
          refine gs rfl ?_
          refine gs rfl ?_
          refine gs rfl ?_
          refine gs rfl ?_
          refine and_3 (Nat.le_of_ble_eq_true rfl) rfl (vin rfl) ?_
          refine gs rfl ?_
          refine gs rfl ?_
          refine gs rfl ?_
          refine gs rfl ?_
          refine gs rfl ?_
          refine gs rfl ?_
          refine gs rfl ?_
          refine gs rfl ?_
          refine gs rfl ?_
          refine and_3 (Nat.le_of_ble_eq_true rfl) rfl (vin rfl) ?_
          refine gs rfl ?_
          refine gs rfl ?_
          refine gs rfl ?_
          refine gs rfl ?_
          refine gs rfl ?_
          refine gs rfl ?_
          refine gs rfl ?_
          refine gs rfl ?_
          refine gs rfl ?_
          refine and_3 (Nat.le_of_ble_eq_true rfl) rfl (vin rfl) ?_
          refine gs rfl ?_
          refine gs rfl ?_
          refine gs rfl ?_
          refine gs rfl ?_
          refine gs rfl ?_
          refine gs rfl ?_
          refine gs rfl ?_
          refine gs rfl ?_
          refine gs rfl ?_
          refine and_3 (Nat.le_of_ble_eq_true rfl) rfl (vin rfl) ?_
          refine gs rfl ?_
          refine gs rfl ?_
          refine gs rfl ?_
          refine gs rfl ?_
          refine gs rfl ?_
          refine gs rfl ?_
          refine gs rfl ?_
          refine gs rfl ?_
          refine gs rfl ?_
          refine and_3 (Nat.le_of_ble_eq_true rfl) rfl (vin rfl) ?_
          refine gs rfl ?_
          refine gs rfl ?_
          refine gs rfl ?_
          refine gs rfl ?_
          refine gs rfl ?_
          refine gs rfl ?_
          refine gs rfl ?_
          refine gs rfl ?_
          refine gs rfl ?_
          refine and_3 (Nat.le_of_ble_eq_true rfl) rfl (vin rfl) ?_
          refine gs rfl ?_
          refine gs rfl ?_
          refine gs rfl ?_
          refine gs rfl ?_
          refine gs rfl ?_
          refine gs rfl ?_
          refine gs rfl ?_
          refine gs rfl ?_
          refine gs rfl ?_
          refine and_3 (Nat.le_of_ble_eq_true rfl) rfl (vin rfl) ?_
          refine gs rfl ?_
          refine gs rfl ?_
          refine gs rfl ?_
          refine gs rfl ?_
          refine gs rfl ?_
          refine gs rfl ?_
          refine gs rfl ?_
          refine gs rfl ?_
          refine gs rfl ?_
          refine and_3 (Nat.le_of_ble_eq_true rfl) rfl (vin rfl) ?_
          refine gs rfl ?_
          refine gs rfl ?_
          refine gs rfl ?_
          refine gs rfl ?_
          refine gs rfl ?_
          refine gs rfl ?_
          refine gs rfl ?_
          refine gs rfl ?_
          refine gs rfl ?_
          refine and_3 (Nat.le_of_ble_eq_true rfl) rfl (vin rfl) ?_
          refine gs rfl ?_
          refine gs rfl ?_
          refine gs rfl ?_
          refine gs rfl ?_
          refine gs rfl ?_
          refine gs rfl ?_
          refine gs rfl ?_
          refine gs rfl ?_
          refine gs rfl ?_
          refine and_3 (Nat.le_of_ble_eq_true rfl) rfl (vin rfl) ?_
          refine gs rfl ?_
          refine gs rfl ?_
          refine gs rfl ?_
          refine gs rfl ?_
          refine gs rfl ?_
          refine gs rfl ?_
          refine gs rfl ?_
          refine gs rfl ?_
          refine gs rfl ?_
          refine and_3 (Nat.le_of_ble_eq_true rfl) rfl (vin rfl) ?_
          refine gs rfl ?_
          refine gs rfl ?_
          refine gs rfl ?_
          refine gs rfl ?_
          refine gs rfl ?_
          refine gs rfl ?_
          refine gs rfl ?_
          refine gs rfl ?_
          refine gs rfl ?_
          refine and_3 (Nat.le_of_ble_eq_true rfl) rfl (vin rfl) ?_
          refine gs rfl ?_
          refine gs rfl ?_
          refine gs rfl ?_
          refine gs rfl ?_
          refine gs rfl ?_
          refine gs rfl ?_
          refine gs rfl ?_
          refine gs rfl ?_
          refine gs rfl ?_
          refine and_3 (Nat.le_of_ble_eq_true rfl) rfl (vin rfl) ?_
          refine gs rfl ?_
          refine gs rfl ?_
          refine gs rfl ?_
          refine gs rfl ?_
          refine gs rfl ?_
          refine gs rfl ?_
          refine gs rfl ?_
          refine gs rfl ?_
          refine gs rfl ?_
          refine and_3 (Nat.le_of_ble_eq_true rfl) rfl (vin rfl) ?_
          refine gs rfl ?_
          refine gs rfl ?_
          refine gs rfl ?_
          refine gs rfl ?_
          refine gs rfl ?_
          refine gs rfl ?_
          refine gs rfl ?_
          refine gs rfl ?_
          refine gs rfl ?_
          refine and_3 (Nat.le_of_ble_eq_true rfl) rfl (vin rfl) ?_
          refine gs rfl ?_
          refine gs rfl ?_
          refine gs rfl ?_
          refine gs rfl ?_
          refine gs rfl ?_
          refine gs rfl ?_
          refine gs rfl ?_
          refine gs rfl ?_
          refine gs rfl ?_
          refine and_3 (Nat.le_of_ble_eq_true rfl) rfl (vin rfl) ?_
          refine gs rfl ?_
          refine gs rfl ?_
          refine gs rfl ?_
          refine gs rfl ?_
          refine gs rfl ?_
          refine gs rfl ?_
          refine gs rfl ?_
          refine gs rfl ?_
          refine gs rfl ?_
          refine and_3 (Nat.le_of_ble_eq_true rfl) rfl (vin rfl) ?_
          refine gs rfl ?_
          refine gs rfl ?_
          refine gs rfl ?_
          refine gs rfl ?_
          refine gs rfl ?_
          refine gs rfl ?_
          refine gs rfl ?_
          refine gs rfl ?_
          refine gs rfl ?_
          refine and_3 (Nat.le_of_ble_eq_true rfl) rfl (vin rfl) ?_
          refine gs rfl ?_
          refine gs rfl ?_
          refine gs rfl ?_
          refine gs rfl ?_
          refine gs rfl ?_
          refine gs rfl ?_
          refine gs rfl ?_
          refine gs rfl ?_
          refine gs rfl ?_
          refine and_3 (Nat.le_of_ble_eq_true rfl) rfl (vin rfl) ?_
          refine gs rfl ?_
          refine gs rfl ?_
          refine gs rfl ?_
          refine gs rfl ?_
          refine gs rfl ?_
          refine gs rfl ?_
          refine gs rfl ?_
          refine gs rfl ?_
          refine gs rfl ?_
          refine and_3 (Nat.le_of_ble_eq_true rfl) rfl (vin rfl) ?_
          refine gs rfl ?_
          refine gs rfl ?_
          refine gs rfl ?_
          refine gs rfl ?_
          refine gs rfl ?_
          refine gs rfl ?_
          refine gs rfl ?_
          refine gs rfl ?_
          refine gs rfl ?_
          refine and_3 (Nat.le_of_ble_eq_true rfl) rfl (vin rfl) ?_
          refine gs rfl ?_
          refine gs rfl ?_
          refine gs rfl ?_
          refine gs rfl ?_
          refine gs rfl ?_
          refine gs rfl ?_
          refine gs rfl ?_
          refine gs rfl ?_
          refine gs rfl ?_
          refine and_3 (Nat.le_of_ble_eq_true rfl) rfl (vin rfl) ?_
          refine gs rfl ?_
          refine gs rfl ?_
          refine gs rfl ?_
          refine gs rfl ?_
          refine gs rfl ?_
          refine gs rfl ?_
          refine gs rfl ?_
          refine gs rfl ?_
          refine gs rfl ?_
          refine and_3 (Nat.le_of_ble_eq_true rfl) rfl (vin rfl) ?_
          refine gs rfl ?_
          refine gs rfl ?_
          refine gs rfl ?_
          refine gs rfl ?_
          refine gs rfl ?_
          refine gs rfl ?_
          refine gs rfl ?_
          refine gs rfl ?_
          refine gs rfl ?_
          refine and_3 (Nat.le_of_ble_eq_true rfl) rfl (vin rfl) ?_
          refine gs rfl ?_
          refine gs rfl ?_
          refine gs rfl ?_
          refine gs rfl ?_
          refine gs rfl ?_
          refine gs rfl ?_
          refine gs rfl ?_
          refine gs rfl ?_
          refine gs rfl ?_
          refine and_3 (Nat.le_of_ble_eq_true rfl) rfl (vin rfl) ?_
          refine gs rfl ?_
          refine gs rfl ?_
          refine gs rfl ?_
          refine gs rfl ?_
          refine gs rfl ?_
          refine gs rfl ?_
          refine gs rfl ?_
          refine gs rfl ?_
          refine gs rfl ?_
          refine and_3 (Nat.le_of_ble_eq_true rfl) rfl (vin rfl) ?_
          refine gs rfl ?_
          refine gs rfl ?_
          refine gs rfl ?_
          refine gs rfl ?_
          refine gs rfl ?_
          refine gs rfl ?_
          refine gs rfl ?_
          refine gs rfl ?_
          refine gs rfl ?_
          refine and_3 (Nat.le_of_ble_eq_true rfl) rfl (vin rfl) ?_
          refine gs rfl ?_
          refine gs rfl ?_
          refine gs rfl ?_
          refine gs rfl ?_
          refine gs rfl ?_
          refine gs rfl ?_
          refine gs rfl ?_
          refine gs rfl ?_
          refine gs rfl ?_
          refine and_3 (Nat.le_of_ble_eq_true rfl) rfl (vin rfl) ?_
          refine gs rfl ?_
          refine gs rfl ?_
          refine gs rfl ?_
          refine gs rfl ?_
          refine gs rfl ?_
          refine gs rfl ?_
          refine gs rfl ?_
          refine gs rfl ?_
          refine gs rfl ?_
          refine and_3 (Nat.le_of_ble_eq_true rfl) rfl (vin rfl) ?_
          refine gs rfl ?_
          refine gs rfl ?_
          refine gs rfl ?_
          refine gs rfl ?_
          refine gs rfl ?_
          refine gs rfl ?_
          refine gs rfl ?_
          refine gs rfl ?_
          refine gs rfl ?_
          refine and_3 (Nat.le_of_ble_eq_true rfl) rfl (vin rfl) ?_
          refine gs rfl ?_
          refine gs rfl ?_
          refine gs rfl ?_
          refine gs rfl ?_
          refine gs rfl ?_
          refine gs rfl ?_
          refine gs rfl ?_
          refine gs rfl ?_
          refine gs rfl ?_
          refine and_3 (Nat.le_of_ble_eq_true rfl) rfl (vin rfl) ?_
          refine gs rfl ?_
          refine gs rfl ?_
          refine gs rfl ?_
          refine gs rfl ?_
          refine gs rfl ?_
          refine gs rfl ?_
          refine gs rfl ?_
          refine gs rfl ?_
          refine gs rfl ?_
          refine and_3 (Nat.le_of_ble_eq_true rfl) rfl (vin rfl) ?_
          refine gs rfl ?_
          refine gs rfl ?_
          refine gs rfl ?_
          refine gs rfl ?_
          refine gs rfl ?_
          refine gs rfl ?_
          refine and_i rfl ?_
          refine gs rfl ?_
          refine and_i rfl ?_
          refine gs rfl ?_
          refine gs rfl ?_
          refine and_i rfl ?_
          refine FRg rfl (fun f => ?_)
          refine gs rfl ?_
          refine gs rfl ?_
          refine gs rfl ?_
          refine gs rfl ?_
          refine gs rfl ?_
          refine gs rfl ?_
          refine and_2 rfl (vin rfl) ?_
          refine gs rfl ?_
          refine gs rfl ?_
          refine gs rfl ?_
          refine gs rfl ?_
          refine gs rfl ?_
          refine and_2 rfl (vin rfl) ?_
          refine gs rfl ?_
          refine gs rfl ?_
          refine gs rfl ?_
          refine gs rfl ?_
          refine gs rfl ?_
          refine and_2 rfl (vin rfl) ?_
          refine gs rfl ?_
          refine and_i (Nat.le_of_ble_eq_true rfl) (cl0 (Nat.le_of_ble_eq_true rfl) (and_i (Nat.le_of_ble_eq_true rfl) ?_))
          refine gs rfl ?_
          refine gs rfl ?_
          refine and_i (Nat.le_of_ble_eq_true rfl) (cl0 (Nat.le_of_ble_eq_true rfl) (and_i (Nat.le_of_ble_eq_true rfl) ?_))
          refine gs rfl ?_
          refine gs rfl ?_
          refine gs rfl ?_
          refine gs rfl ?_
          refine and_i (Nat.le_of_ble_eq_true rfl) (cl0 (Nat.le_of_ble_eq_true rfl) (and_i (Nat.le_of_ble_eq_true rfl) ?_))
          refine gs rfl ?_
          refine gs rfl ?_
          refine gs rfl ?_
          refine gs rfl ?_
          refine gs rfl ?_
          refine gs rfl ?_
          refine gs rfl ?_
          refine gs rfl ?_
          refine gs rfl ?_
          refine and_2 rfl (Or.inr rfl) ?_
          refine gs rfl ?_
          refine and_2 rfl (Or.inr rfl) ?_
          refine gs rfl ?_
          refine gs rfl ?_
          refine gs rfl ?_
          refine ifT ((eq_k (a := (s2).toInt) (b := 0) (by rfl) (by rfl)).mpr (by omega)) ?_
          refine gs rfl ?_
          refine gs rfl ?_
          refine ifT ((eq_k (a := (s2).toInt) (b := 0) (by rfl) (by rfl)).mpr (by omega)) ?_
          refine gs rfl ?_
          refine gs rfl ?_
          refine ifT ((eq_k (a := (s2).toInt) (b := 0) (by rfl) (by rfl)).mpr (by omega)) ?_
          refine gs rfl ?_
          refine gs rfl ?_
          refine gs rfl ?_
          refine gs rfl ?_
          refine gs rfl ?_
          refine and_3 (Nat.le_of_ble_eq_true rfl) rfl (vin rfl) ?_
          refine gs rfl ?_
          refine gs rfl ?_
          refine gs rfl ?_
          refine gs rfl ?_
          refine gs rfl ?_
          refine ifT ((eq_k (a := (s2).toInt) (b := 0) (by rfl) (by rfl)).mpr (by omega)) ?_
          refine gs rfl ?_
          refine gs rfl ?_
          refine gs rfl ?_
          refine and_3 (Nat.le_of_ble_eq_true rfl) rfl (vin rfl) ?_
          refine gs rfl ?_
          refine gs rfl ?_
          refine gs rfl ?_
          refine gs rfl ?_
          refine gs rfl ?_
          refine gs rfl ?_
          refine gs rfl ?_
          refine gs rfl ?_
          refine gs rfl ?_
          refine gs rfl ?_
          refine gs rfl ?_
          refine gs rfl ?_
          refine gs rfl ?_
          refine gs rfl ?_
          refine and_3 (Nat.le_of_ble_eq_true rfl) rfl (vin rfl) ?_
          refine gs rfl ?_
          refine gs rfl ?_
          refine gs rfl ?_
          refine gs rfl ?_
          refine gs rfl ?_
          refine gs rfl ?_
          refine gs rfl ?_
          refine gs rfl ?_
          refine gs rfl ?_
          refine gs rfl ?_
          refine gs rfl ?_
          refine gs rfl ?_
          refine gs rfl ?_
          refine gs rfl ?_
          refine and_3 (Nat.le_of_ble_eq_true rfl) rfl (vin rfl) ?_
          refine gs rfl ?_
          refine gs rfl ?_
          refine gs rfl ?_
          refine gs rfl ?_
          refine gs rfl ?_
          refine gs rfl ?_
          refine gs rfl ?_
          refine gs rfl ?_
          refine gs rfl ?_
          refine gs rfl ?_
          refine gs rfl ?_
          refine gs rfl ?_
          refine gs rfl ?_
          refine gs rfl ?_
          refine and_3 (Nat.le_of_ble_eq_true rfl) rfl (vin rfl) ?_
          refine gs rfl ?_
          refine gs rfl ?_
          refine gs rfl ?_
          refine gs rfl ?_
          refine gs rfl ?_
          refine gs rfl ?_
          refine gs rfl ?_
          refine gs rfl ?_
          refine gs rfl ?_
          refine gs rfl ?_
          refine gs rfl ?_
          refine gs rfl ?_
          refine gs rfl ?_
          refine gs rfl ?_
          refine and_3 (Nat.le_of_ble_eq_true rfl) rfl (vin rfl) ?_
          refine gs rfl ?_
          refine gs rfl ?_
          refine gs rfl ?_
          refine gs rfl ?_
          refine gs rfl ?_
          refine gs rfl ?_
          refine gs rfl ?_
          refine gs rfl ?_
          refine gs rfl ?_
          refine gs rfl ?_
          refine gs rfl ?_
          refine gs rfl ?_
          refine gs rfl ?_
          refine gs rfl ?_
          refine and_3 (Nat.le_of_ble_eq_true rfl) rfl (vin rfl) ?_
          refine gs rfl ?_
          refine gs rfl ?_
          refine gs rfl ?_
          refine gs rfl ?_
          refine gs rfl ?_
          refine gs rfl ?_
          refine gs rfl ?_
          refine gs rfl ?_
          refine gs rfl ?_
          refine gs rfl ?_
          refine gs rfl ?_
          refine gs rfl ?_
          refine gs rfl ?_
          refine gs rfl ?_
          refine and_3 (Nat.le_of_ble_eq_true rfl) rfl (vin rfl) ?_
          refine gs rfl ?_
          refine gs rfl ?_
          refine gs rfl ?_
          refine gs rfl ?_
          refine gs rfl ?_
          refine gs rfl ?_
          refine gs rfl ?_
          refine gs rfl ?_
          refine gs rfl ?_
          refine gs rfl ?_
          refine gs rfl ?_
          refine gs rfl ?_
          refine gs rfl ?_
          refine gs rfl ?_
          refine and_3 (Nat.le_of_ble_eq_true rfl) rfl (vin rfl) ?_
          refine gs rfl ?_
          refine gs rfl ?_
          refine gs rfl ?_
          refine gs rfl ?_
          refine gs rfl ?_
          refine gs rfl ?_
          refine gs rfl ?_
          refine gs rfl ?_
          refine gs rfl ?_
          refine gs rfl ?_
          refine gs rfl ?_
          refine gs rfl ?_
          refine gs rfl ?_
          refine gs rfl ?_
          refine and_3 (Nat.le_of_ble_eq_true rfl) rfl (vin rfl) ?_
          refine gs rfl ?_
          refine gs rfl ?_
          refine gs rfl ?_
          refine gs rfl ?_
          refine gs rfl ?_
          refine gs rfl ?_
          refine gs rfl ?_
          refine gs rfl ?_
          refine gs rfl ?_
          refine gs rfl ?_
          refine gs rfl ?_
          refine gs rfl ?_
          refine gs rfl ?_
          refine gs rfl ?_
          refine and_3 (Nat.le_of_ble_eq_true rfl) rfl (vin rfl) ?_
          refine gs rfl ?_
          refine gs rfl ?_
          refine gs rfl ?_
          refine gs rfl ?_
          refine gs rfl ?_
          refine gs rfl ?_
          refine gs rfl ?_
          refine gs rfl ?_
          refine gs rfl ?_
          refine gs rfl ?_
          refine gs rfl ?_
          refine gs rfl ?_
          refine gs rfl ?_
          refine gs rfl ?_
          refine and_3 (Nat.le_of_ble_eq_true rfl) rfl (vin rfl) ?_
          refine gs rfl ?_
          refine gs rfl ?_
          refine gs rfl ?_
          refine gs rfl ?_
          refine gs rfl ?_
          refine gs rfl ?_
          refine gs rfl ?_
          refine gs rfl ?_
          refine gs rfl ?_
          refine gs rfl ?_
          refine gs rfl ?_
          refine gs rfl ?_
          refine gs rfl ?_
          refine gs rfl ?_
          refine and_3 (Nat.le_of_ble_eq_true rfl) rfl (vin rfl) ?_
          refine gs rfl ?_
          refine gs rfl ?_
          refine gs rfl ?_
          refine gs rfl ?_
          refine gs rfl ?_
          refine gs rfl ?_
          refine gs rfl ?_
          refine gs rfl ?_
          refine gs rfl ?_
          refine gs rfl ?_
          refine gs rfl ?_
          refine gs rfl ?_
          refine gs rfl ?_
          refine gs rfl ?_
          refine and_3 (Nat.le_of_ble_eq_true rfl) rfl (vin rfl) ?_
          refine gs rfl ?_
          refine gs rfl ?_
          refine gs rfl ?_
          refine gs rfl ?_
          refine gs rfl ?_
          refine gs rfl ?_
          refine gs rfl ?_
          refine gs rfl ?_
          refine gs rfl ?_
          refine gs rfl ?_
          refine gs rfl ?_
          refine gs rfl ?_
          refine gs rfl ?_
          refine gs rfl ?_
          refine and_3 (Nat.le_of_ble_eq_true rfl) rfl (vin rfl) ?_
          refine gs rfl ?_
          refine gs rfl ?_
          refine gs rfl ?_
          refine gs rfl ?_
          refine gs rfl ?_
          refine gs rfl ?_
          refine gs rfl ?_
          refine gs rfl ?_
          refine gs rfl ?_
          refine gs rfl ?_
          refine gs rfl ?_
          refine gs rfl ?_
          refine gs rfl ?_
          refine gs rfl ?_
          refine and_3 (Nat.le_of_ble_eq_true rfl) rfl (vin rfl) ?_
          refine gs rfl ?_
          refine gs rfl ?_
          refine gs rfl ?_
          refine gs rfl ?_
          refine gs rfl ?_
          refine gs rfl ?_
          refine gs rfl ?_
          refine gs rfl ?_
          refine gs rfl ?_
          refine gs rfl ?_
          refine gs rfl ?_
          refine gs rfl ?_
          refine gs rfl ?_
          refine gs rfl ?_
          refine and_3 (Nat.le_of_ble_eq_true rfl) rfl (vin rfl) ?_
          refine gs rfl ?_
          refine gs rfl ?_
          refine gs rfl ?_
          refine gs rfl ?_
          refine gs rfl ?_
          refine gs rfl ?_
          refine gs rfl ?_
          refine gs rfl ?_
          refine gs rfl ?_
          refine gs rfl ?_
          refine gs rfl ?_
          refine gs rfl ?_
          refine gs rfl ?_
          refine gs rfl ?_
          refine and_3 (Nat.le_of_ble_eq_true rfl) rfl (vin rfl) ?_
          refine gs rfl ?_
          refine gs rfl ?_
          refine gs rfl ?_
          refine gs rfl ?_
          refine gs rfl ?_
          refine gs rfl ?_
          refine gs rfl ?_
          refine gs rfl ?_
          refine gs rfl ?_
          refine gs rfl ?_
          refine gs rfl ?_
          refine gs rfl ?_
          refine gs rfl ?_
          refine gs rfl ?_
          refine and_3 (Nat.le_of_ble_eq_true rfl) rfl (vin rfl) ?_
          refine gs rfl ?_
          refine gs rfl ?_
          refine gs rfl ?_
          refine gs rfl ?_
          refine gs rfl ?_
          refine gs rfl ?_
          refine gs rfl ?_
          refine gs rfl ?_
          refine gs rfl ?_
          refine gs rfl ?_
          refine gs rfl ?_
          refine gs rfl ?_
          refine gs rfl ?_
          refine gs rfl ?_
          refine and_3 (Nat.le_of_ble_eq_true rfl) rfl (vin rfl) ?_
          refine gs rfl ?_
          refine gs rfl ?_
          refine gs rfl ?_
          refine gs rfl ?_
          refine gs rfl ?_
          refine gs rfl ?_
          refine gs rfl ?_
          refine gs rfl ?_
          refine gs rfl ?_
          refine gs rfl ?_
          refine gs rfl ?_
          refine gs rfl ?_
          refine gs rfl ?_
          refine gs rfl ?_
          refine and_3 (Nat.le_of_ble_eq_true rfl) rfl (vin rfl) ?_
          refine gs rfl ?_
          refine gs rfl ?_
          refine gs rfl ?_
          refine gs rfl ?_
          refine gs rfl ?_
          refine gs rfl ?_
          refine gs rfl ?_
          refine gs rfl ?_
          refine gs rfl ?_
          refine gs rfl ?_
          refine gs rfl ?_
          refine gs rfl ?_
          refine gs rfl ?_
          refine gs rfl ?_
          refine and_3 (Nat.le_of_ble_eq_true rfl) rfl (vin rfl) ?_
          refine gs rfl ?_
          refine gs rfl ?_
          refine gs rfl ?_
          refine gs rfl ?_
          refine gs rfl ?_
          refine gs rfl ?_
          refine gs rfl ?_
          refine gs rfl ?_
          refine gs rfl ?_
          refine gs rfl ?_
          refine gs rfl ?_
          refine gs rfl ?_
          refine gs rfl ?_
          refine gs rfl ?_
          refine and_3 (Nat.le_of_ble_eq_true rfl) rfl (vin rfl) ?_
          refine gs rfl ?_
          refine gs rfl ?_
          refine gs rfl ?_
          refine gs rfl ?_
          refine gs rfl ?_
          refine gs rfl ?_
          refine gs rfl ?_
          refine gs rfl ?_
          refine gs rfl ?_
          refine gs rfl ?_
          refine gs rfl ?_
          refine gs rfl ?_
          refine gs rfl ?_
          refine gs rfl ?_
          refine and_3 (Nat.le_of_ble_eq_true rfl) rfl (vin rfl) ?_
          refine gs rfl ?_
          refine gs rfl ?_
          refine gs rfl ?_
          refine gs rfl ?_
          refine gs rfl ?_
          refine gs rfl ?_
          refine gs rfl ?_
          refine gs rfl ?_
          refine gs rfl ?_
          refine gs rfl ?_
          refine gs rfl ?_
          refine gs rfl ?_
          refine gs rfl ?_
          refine gs rfl ?_
          refine and_3 (Nat.le_of_ble_eq_true rfl) rfl (vin rfl) ?_
          refine gs rfl ?_
          refine gs rfl ?_
          refine gs rfl ?_
          refine gs rfl ?_
          refine gs rfl ?_
          refine gs rfl ?_
          refine gs rfl ?_
          refine gs rfl ?_
          refine gs rfl ?_
          refine gs rfl ?_
          refine gs rfl ?_
          refine gs rfl ?_
          refine gs rfl ?_
          refine gs rfl ?_
          refine and_3 (Nat.le_of_ble_eq_true rfl) rfl (vin rfl) ?_
          refine gs rfl ?_
          refine gs rfl ?_
          refine gs rfl ?_
          refine gs rfl ?_
          refine gs rfl ?_
          refine gs rfl ?_
          refine gs rfl ?_
          refine gs rfl ?_
          refine gs rfl ?_
          refine gs rfl ?_
          refine gs rfl ?_
          refine gs rfl ?_
          refine gs rfl ?_
          refine gs rfl ?_
          refine and_3 (Nat.le_of_ble_eq_true rfl) rfl (vin rfl) ?_
          refine gs rfl ?_
          refine gs rfl ?_
          refine gs rfl ?_
          refine gs rfl ?_
          refine gs rfl ?_
          refine gs rfl ?_
          refine gs rfl ?_
          refine gs rfl ?_
          refine gs rfl ?_
          refine gs rfl ?_
          refine gs rfl ?_
          refine gs rfl ?_
          refine gs rfl ?_
          refine gs rfl ?_
          refine and_3 (Nat.le_of_ble_eq_true rfl) rfl (vin rfl) ?_
          refine gs rfl ?_
          refine gs rfl ?_
          refine gs rfl ?_
          refine gs rfl ?_
          refine gs rfl ?_
          refine gs rfl ?_
          refine gs rfl ?_
          refine gs rfl ?_
          refine gs rfl ?_
          refine gs rfl ?_
          refine gs rfl ?_
          refine gs rfl ?_
          refine gs rfl ?_
          refine gs rfl ?_
          refine and_3 (Nat.le_of_ble_eq_true rfl) rfl (vin rfl) ?_
          refine gs rfl ?_
          refine gs rfl ?_
          refine gs rfl ?_
          refine gs rfl ?_
          refine gs rfl ?_
          refine gs rfl ?_
          refine gs rfl ?_
          refine gs rfl ?_
          refine gs rfl ?_
          refine gs rfl ?_
          refine gs rfl ?_
          refine gs rfl ?_
          refine gs rfl ?_
          refine gs rfl ?_
          refine and_3 (Nat.le_of_ble_eq_true rfl) rfl (vin rfl) ?_
          refine gs rfl ?_
          refine gs rfl ?_
          refine gs rfl ?_
          refine gs rfl ?_
          refine gs rfl ?_
          refine gs rfl ?_
          refine gs rfl ?_
          refine gs rfl ?_
          refine gs rfl ?_
          refine gs rfl ?_
          refine gs rfl ?_
          refine gs rfl ?_
          refine gs rfl ?_
          refine gs rfl ?_
          refine and_3 (Nat.le_of_ble_eq_true rfl) rfl (vin rfl) ?_
          refine gs rfl ?_
          refine gs rfl ?_
          refine gs rfl ?_
          refine gs rfl ?_
          refine gs rfl ?_
          refine gs rfl ?_
          refine gs rfl ?_
          refine gs rfl ?_
          refine gs rfl ?_
          refine gs rfl ?_
          refine gs rfl ?_
          refine gs rfl ?_
          refine gs rfl ?_
          refine gs rfl ?_
          refine and_3 (Nat.le_of_ble_eq_true rfl) rfl (vin rfl) ?_
          refine gs rfl ?_
          refine gs rfl ?_
          refine gs rfl ?_
          refine gs rfl ?_
          refine gs rfl ?_
          refine gs rfl ?_
          refine gs rfl ?_
          refine gs rfl ?_
          refine gs rfl ?_
          refine gs rfl ?_
          refine gs rfl ?_
          refine gs rfl ?_
          refine gs rfl ?_
          refine gs rfl ?_
          refine and_3 (Nat.le_of_ble_eq_true rfl) rfl (vin rfl) ?_
          refine gs rfl ?_
          refine gs rfl ?_
          refine gs rfl ?_
          refine gs rfl ?_
          refine gs rfl ?_
          refine gs rfl ?_
          refine gs rfl ?_
          refine gs rfl ?_
          refine gs rfl ?_
          refine gs rfl ?_
          refine gs rfl ?_
          refine gs rfl ?_
          refine gs rfl ?_
          refine gs rfl ?_
          refine and_3 (Nat.le_of_ble_eq_true rfl) rfl (vin rfl) ?_
          refine gs rfl ?_
          refine gs rfl ?_
          refine gs rfl ?_
          refine gs rfl ?_
          refine gs rfl ?_
          refine gs rfl ?_
          refine gs rfl ?_
          refine gs rfl ?_
          refine gs rfl ?_
          refine gs rfl ?_
          refine gs rfl ?_
          refine gs rfl ?_
          refine gs rfl ?_
          refine gs rfl ?_
          refine and_3 (Nat.le_of_ble_eq_true rfl) rfl (vin rfl) ?_
          refine gs rfl ?_
          refine gs rfl ?_
          refine gs rfl ?_
          refine gs rfl ?_
          refine gs rfl ?_
          refine gs rfl ?_
          refine gs rfl ?_
          refine gs rfl ?_
          refine gs rfl ?_
          refine gs rfl ?_
          refine gs rfl ?_
          refine gs rfl ?_
          refine gs rfl ?_
          refine gs rfl ?_
          refine and_3 (Nat.le_of_ble_eq_true rfl) rfl (vin rfl) ?_
          refine gs rfl ?_
          refine gs rfl ?_
          refine gs rfl ?_
          refine gs rfl ?_
          refine gs rfl ?_
          refine gs rfl ?_
          refine gs rfl ?_
          refine gs rfl ?_
          refine gs rfl ?_
          refine gs rfl ?_
          refine gs rfl ?_
          refine gs rfl ?_
          refine gs rfl ?_
          refine gs rfl ?_
          refine and_3 (Nat.le_of_ble_eq_true rfl) rfl (vin rfl) ?_
          refine gs rfl ?_
          refine gs rfl ?_
          refine gs rfl ?_
          refine gs rfl ?_
          refine gs rfl ?_
          refine gs rfl ?_
          refine gs rfl ?_
          refine gs rfl ?_
          refine gs rfl ?_
          refine gs rfl ?_
          refine gs rfl ?_
          refine gs rfl ?_
          refine gs rfl ?_
          refine gs rfl ?_
          refine and_3 (Nat.le_of_ble_eq_true rfl) rfl (vin rfl) ?_
          refine gs rfl ?_
          refine gs rfl ?_
          refine gs rfl ?_
          refine gs rfl ?_
          refine gs rfl ?_
          refine gs rfl ?_
          refine gs rfl ?_
          refine gs rfl ?_
          refine gs rfl ?_
          refine gs rfl ?_
          refine gs rfl ?_
          refine gs rfl ?_
          refine gs rfl ?_
          refine gs rfl ?_
          refine and_3 (Nat.le_of_ble_eq_true rfl) rfl (vin rfl) ?_
          refine gs rfl ?_
          refine gs rfl ?_
          refine gs rfl ?_
          refine gs rfl ?_
          refine gs rfl ?_
          refine gs rfl ?_
          refine gs rfl ?_
          refine gs rfl ?_
          refine gs rfl ?_
          refine gs rfl ?_
          refine gs rfl ?_
          refine gs rfl ?_
          refine gs rfl ?_
          refine gs rfl ?_
          refine and_3 (Nat.le_of_ble_eq_true rfl) rfl (vin rfl) ?_
          refine gs rfl ?_
          refine gs rfl ?_
          refine gs rfl ?_
          refine gs rfl ?_
          refine gs rfl ?_
          refine gs rfl ?_
          refine gs rfl ?_
          refine gs rfl ?_
          refine gs rfl ?_
          refine gs rfl ?_
          refine gs rfl ?_
          refine gs rfl ?_
          refine gs rfl ?_
          refine gs rfl ?_
          refine and_3 (Nat.le_of_ble_eq_true rfl) rfl (vin rfl) ?_
          refine gs rfl ?_
          refine gs rfl ?_
          refine gs rfl ?_
          refine gs rfl ?_
          refine gs rfl ?_
          refine gs rfl ?_
          refine gs rfl ?_
          refine gs rfl ?_
          refine gs rfl ?_
          refine gs rfl ?_
          refine gs rfl ?_
          refine gs rfl ?_
          refine gs rfl ?_
          refine gs rfl ?_
          refine and_3 (Nat.le_of_ble_eq_true rfl) rfl (vin rfl) ?_
          refine gs rfl ?_
          refine gs rfl ?_
          refine gs rfl ?_
          refine gs rfl ?_
          refine gs rfl ?_
          refine gs rfl ?_
          refine gs rfl ?_
          refine and_i rfl ?_
          refine gs rfl ?_
          refine gs rfl ?_
          refine gs rfl ?_
          refine gs rfl ?_
          refine gs rfl ?_
          refine gs rfl ?_
          refine and_i (Or.inl rfl) ?_
          refine gwst (congrArg (fun z => Value.int z :: _) (alen_k (n := 6) (by rfl))) ?_
          refine gs rfl ?_
          refine gs rfl ?_
          refine gs rfl ?_
          refine gs rfl ?_
          refine gs rfl ?_
          refine and_2 rfl (Or.inr rfl) ?_
          exact rfl
      · have d6 : ¬ ((s2).toInt = 0) := fun q => c5 ((eq_k (by rfl) (by rfl)).mpr q)
        refine gs rfl ?_
        refine gs rfl ?_
        refine gs rfl ?_
        refine ifs (fun c10 => ?_) (fun c10 => ?_)
        · have d11 : (s2).toInt = 8 := (eq_k (by rfl) (by rfl)).mp c10
          refine gs rfl ?_
          refine gs rfl ?_
          refine ifF ((fun q => absurd ((eq_k (a := (s2).toInt) (b := 0) (by rfl) (by rfl)).mp q) (by omega))) ?_
          refine gs rfl ?_
          refine gs rfl ?_
          refine ifs (fun c12 => ?_) (fun c12 => ?_)
          · have d13 : 0 ≤ (s3).toInt := (le_k (by rfl) (by rfl)).mp c12
            refine gs rfl ?_
            refine gs rfl ?_
            refine gs rfl ?_
            refine ifs (fun c14 => ?_) (fun c14 => ?_)
            · have d15 : (s3).toInt ≤ 40 := (le_k (by rfl) (by rfl)).mp c14
              refine gs rfl ?_
              refine gs rfl ?_
              refine gs rfl ?_
              obtain ⟨j16, e17, x18⟩ := nat_of (x := s1) (lo := 0) (hi := 3) (by omega) (by omega)
              rcases (show j16 = 0 ∨ j16 = 1 ∨ j16 = 2 ∨ j16 = 3 by omega) with rfl | rfl | rfl | rfl
              · have x18q : s1 = (0 : Int32) := x18
                clear x18
                subst x18q
                refine gs rfl ?_
                refine and_2 (Nat.le_of_ble_eq_true rfl) (vin rfl) ?_
                refine and_2 rfl (fun z q => by cases q) ?_
                refine gs rfl ?_
                refine gs rfl ?_
                refine gs rfl ?_
                refine and_i (Nat.le_of_ble_eq_true rfl) (cl0 (Nat.le_of_ble_eq_true rfl) (and_i (Nat.le_of_ble_eq_true rfl) ?_))
                refine gs rfl ?_
                refine gs rfl ?_
                refine gs rfl ?_
                refine and_3 (Nat.le_of_ble_eq_true rfl) (Nat.le_of_ble_eq_true rfl) trivial ?_
                refine gs rfl ?_
                refine gs rfl ?_
                refine gs rfl ?_
                refine and_3 (Nat.le_of_ble_eq_true rfl) (Nat.le_of_ble_eq_true rfl) trivial ?_
                refine gs rfl ?_
                refine gs rfl ?_
                refine gs rfl ?_
                refine gs rfl ?_
                refine and_i (Nat.le_of_ble_eq_true rfl) (cl0 (Nat.le_of_ble_eq_true rfl) (and_i (Nat.le_of_ble_eq_true rfl) ?_))
                refine gs rfl ?_
                refine gs rfl ?_
                refine gs rfl ?_
                refine gs rfl ?_
                refine and_i (Or.inl rfl) ?_
                refine gwst (congrArg (fun z => Value.int z :: _) (alen_k (n := 40) (by rfl))) ?_
                refine gs rfl ?_
                refine gs rfl ?_
                refine gs rfl ?_
                refine gs rfl ?_
                refine gs rfl ?_
                refine gs rfl ?_
                refine gs rfl ?_
                refine gs rfl ?_
                refine and_3 (Nat.le_of_ble_eq_true rfl) rfl (vin rfl) ?_
                refine gs rfl ?_
                refine gs rfl ?_
                refine gs rfl ?_
                refine gs rfl ?_
                refine gs rfl ?_
                refine gs rfl ?_
                refine gs rfl ?_
                refine gs rfl ?_
                refine gs rfl ?_
                refine and_3 (Nat.le_of_ble_eq_true rfl) rfl (vin rfl) ?_
                refine gs rfl ?_
                refine gs rfl ?_
                refine gs rfl ?_
                refine gs rfl ?_
                refine gs rfl ?_
                refine gs rfl ?_
                refine gs rfl ?_
                refine gs rfl ?_
                refine gs rfl ?_
                refine and_3 (Nat.le_of_ble_eq_true rfl) rfl (vin rfl) ?_
                refine gs rfl ?_
                refine gs rfl ?_
                refine gs rfl ?_
                refine gs rfl ?_
                refine gs rfl ?_
                refine gs rfl ?_
                refine gs rfl ?_
                refine gs rfl ?_
                refine gs rfl ?_
                refine and_3 (Nat.le_of_ble_eq_true rfl) rfl (vin rfl) ?_
                refine gs rfl ?_
                refine gs rfl ?_
                refine gs rfl ?_
                refine gs rfl ?_
                refine gs rfl ?_
                refine gs rfl ?_
                refine gs rfl ?_
                refine gs rfl ?_
                refine gs rfl ?_
                refine and_3 (Nat.le_of_ble_eq_true rfl) rfl (vin rfl) ?_
                refine gs rfl ?_
                refine gs rfl ?_
                refine gs rfl ?_
                refine gs rfl ?_
                refine gs rfl ?_
                refine gs rfl ?_
                refine gs rfl ?_
                refine gs rfl ?_
                refine gs rfl ?_
                refine and_3 (Nat.le_of_ble_eq_true rfl) rfl (vin rfl) ?_
                refine gs rfl ?_
                refine gs rfl ?_
                refine gs rfl ?_
                refine gs rfl ?_
                refine gs rfl ?_
                refine gs rfl ?_
                refine gs rfl ?_
                refine gs rfl ?_
                refine gs rfl ?_
                refine and_3 (Nat.le_of_ble_eq_true rfl) rfl (vin rfl) ?_
                refine gs rfl ?_
                refine gs rfl ?_
                refine gs rfl ?_
                refine gs rfl ?_
                refine gs rfl ?_
                refine gs rfl ?_
                refine gs rfl ?_
                refine gs rfl ?_
                refine gs rfl ?_
                refine and_3 (Nat.le_of_ble_eq_true rfl) rfl (vin rfl) ?_
                refine gs rfl ?_
                refine gs rfl ?_
                refine gs rfl ?_
                refine gs rfl ?_
                refine gs rfl ?_
                refine gs rfl ?_
                refine gs rfl ?_
                refine gs rfl ?_
                refine gs rfl ?_
                refine and_3 (Nat.le_of_ble_eq_true rfl) rfl (vin rfl) ?_
                refine gs rfl ?_
                refine gs rfl ?_
                refine gs rfl ?_
                refine gs rfl ?_
                refine gs rfl ?_
                refine gs rfl ?_
                refine gs rfl ?_
                refine gs rfl ?_
                refine gs rfl ?_
                refine and_3 (Nat.le_of_ble_eq_true rfl) rfl (vin rfl) ?_
                refine gs rfl ?_
                refine gs rfl ?_
                refine gs rfl ?_
                refine gs rfl ?_
                refine gs rfl ?_
                refine gs rfl ?_
                refine gs rfl ?_
                refine gs rfl ?_
                refine gs rfl ?_
                refine and_3 (Nat.le_of_ble_eq_true rfl) rfl (vin rfl) ?_
                refine gs rfl ?_
                refine gs rfl ?_
                refine gs rfl ?_
                refine gs rfl ?_
                refine gs rfl ?_
                refine gs rfl ?_
                refine gs rfl ?_
                refine gs rfl ?_
                refine gs rfl ?_
                refine and_3 (Nat.le_of_ble_eq_true rfl) rfl (vin rfl) ?_
                refine gs rfl ?_
                refine gs rfl ?_
                refine gs rfl ?_
                refine gs rfl ?_
                refine gs rfl ?_
                refine gs rfl ?_
                refine gs rfl ?_
                refine gs rfl ?_
                refine gs rfl ?_
                refine and_3 (Nat.le_of_ble_eq_true rfl) rfl (vin rfl) ?_
                refine gs rfl ?_
                refine gs rfl ?_
                refine gs rfl ?_
                refine gs rfl ?_
                refine gs rfl ?_
                refine gs rfl ?_
                refine gs rfl ?_
                refine gs rfl ?_
                refine gs rfl ?_
                refine and_3 (Nat.le_of_ble_eq_true rfl) rfl (vin rfl) ?_
                refine gs rfl ?_
                refine gs rfl ?_
                refine gs rfl ?_
                refine gs rfl ?_
                refine gs rfl ?_
                refine gs rfl ?_
                refine gs rfl ?_
                refine gs rfl ?_
                refine gs rfl ?_
                refine and_3 (Nat.le_of_ble_eq_true rfl) rfl (vin rfl) ?_
                refine gs rfl ?_
                refine gs rfl ?_
                refine gs rfl ?_
                refine gs rfl ?_
                refine gs rfl ?_
                refine gs rfl ?_
                refine gs rfl ?_
                refine gs rfl ?_
                refine gs rfl ?_
                refine and_3 (Nat.le_of_ble_eq_true rfl) rfl (vin rfl) ?_
                refine gs rfl ?_
                refine gs rfl ?_
                refine gs rfl ?_
                refine gs rfl ?_
                refine gs rfl ?_
                refine gs rfl ?_
                refine gs rfl ?_
                refine gs rfl ?_
                refine gs rfl ?_
                refine and_3 (Nat.le_of_ble_eq_true rfl) rfl (vin rfl) ?_
                refine gs rfl ?_
                refine gs rfl ?_
                refine gs rfl ?_
                refine gs rfl ?_
                refine gs rfl ?_
                refine gs rfl ?_
                refine gs rfl ?_
                refine gs rfl ?_
                refine gs rfl ?_
                refine and_3 (Nat.le_of_ble_eq_true rfl) rfl (vin rfl) ?_
                refine gs rfl ?_
                refine gs rfl ?_
                refine gs rfl ?_
                refine gs rfl ?_
                refine gs rfl ?_
                refine gs rfl ?_
                refine gs rfl ?_
                refine gs rfl ?_
                refine gs rfl ?_
                refine and_3 (Nat.le_of_ble_eq_true rfl) rfl (vin rfl) ?_
                refine gs rfl ?_
                refine gs rfl ?_
                refine gs rfl ?_
                refine gs rfl ?_
                refine gs rfl ?_
                refine gs rfl ?_
                refine gs rfl ?_
                refine gs rfl ?_
                refine gs rfl ?_
                refine and_3 (Nat.le_of_ble_eq_true rfl) rfl (vin rfl) ?_
                refine gs rfl ?_
                refine gs rfl ?_
                refine gs rfl ?_
                refine gs rfl ?_
                refine gs rfl ?_
                refine gs rfl ?_
                refine gs rfl ?_
                refine gs rfl ?_
                refine gs rfl ?_
                refine and_3 (Nat.le_of_ble_eq_true rfl) rfl (vin rfl) ?_
                refine gs rfl ?_
                refine gs rfl ?_
                refine gs rfl ?_
                refine gs rfl ?_
                refine gs rfl ?_
                refine gs rfl ?_
                refine gs rfl ?_
                refine gs rfl ?_
                refine gs rfl ?_
                refine and_3 (Nat.le_of_ble_eq_true rfl) rfl (vin rfl) ?_
                refine gs rfl ?_
                refine gs rfl ?_
                refine gs rfl ?_
                refine gs rfl ?_
                refine gs rfl ?_
                refine gs rfl ?_
                refine gs rfl ?_
                refine gs rfl ?_
                refine gs rfl ?_
                refine and_3 (Nat.le_of_ble_eq_true rfl) rfl (vin rfl) ?_
                refine gs rfl ?_
                refine gs rfl ?_
                refine gs rfl ?_
                refine gs rfl ?_
                refine gs rfl ?_
                refine gs rfl ?_
                refine gs rfl ?_
                refine gs rfl ?_
                refine gs rfl ?_
                refine and_3 (Nat.le_of_ble_eq_true rfl) rfl (vin rfl) ?_
                refine gs rfl ?_
                refine gs rfl ?_
                refine gs rfl ?_
                refine gs rfl ?_
                refine gs rfl ?_
                refine gs rfl ?_
                refine gs rfl ?_
                refine gs rfl ?_
                refine gs rfl ?_
                refine and_3 (Nat.le_of_ble_eq_true rfl) rfl (vin rfl) ?_
                refine gs rfl ?_
                refine gs rfl ?_
                refine gs rfl ?_
                refine gs rfl ?_
                refine gs rfl ?_
                refine gs rfl ?_
                refine gs rfl ?_
                refine gs rfl ?_
                refine gs rfl ?_
                refine and_3 (Nat.le_of_ble_eq_true rfl) rfl (vin rfl) ?_
                refine gs rfl ?_
                refine gs rfl ?_
                refine gs rfl ?_
                refine gs rfl ?_
                refine gs rfl ?_
                refine gs rfl ?_
                refine gs rfl ?_
                refine gs rfl ?_
                refine gs rfl ?_
                refine and_3 (Nat.le_of_ble_eq_true rfl) rfl (vin rfl) ?_
                refine gs rfl ?_
                refine gs rfl ?_
                refine gs rfl ?_
                refine gs rfl ?_
                refine gs rfl ?_
                refine gs rfl ?_
                refine gs rfl ?_
                refine gs rfl ?_
                refine gs rfl ?_
                refine and_3 (Nat.le_of_ble_eq_true rfl) rfl (vin rfl) ?_
                refine gs rfl ?_
                refine gs rfl ?_
                refine gs rfl ?_
                refine gs rfl ?_
                refine gs rfl ?_
                refine gs rfl ?_
                refine gs rfl ?_
                refine gs rfl ?_
                refine gs rfl ?_
                refine and_3 (Nat.le_of_ble_eq_true rfl) rfl (vin rfl) ?_
                refine gs rfl ?_
                refine gs rfl ?_
                refine gs rfl ?_
                refine gs rfl ?_
                refine gs rfl ?_
                refine gs rfl ?_
                refine gs rfl ?_
                refine gs rfl ?_
                refine gs rfl ?_
                refine and_3 (Nat.le_of_ble_eq_true rfl) rfl (vin rfl) ?_
                refine gs rfl ?_
                refine gs rfl ?_
                refine gs rfl ?_
                refine gs rfl ?_
                refine gs rfl ?_
                refine gs rfl ?_
                refine gs rfl ?_
                refine gs rfl ?_
                refine gs rfl ?_
                refine and_3 (Nat.le_of_ble_eq_true rfl) rfl (vin rfl) ?_
                refine gs rfl ?_
                refine gs rfl ?_
                refine gs rfl ?_
                refine gs rfl ?_
                refine gs rfl ?_
                refine gs rfl ?_
                refine gs rfl ?_
                refine gs rfl ?_
                refine gs rfl ?_
                refine and_3 (Nat.le_of_ble_eq_true rfl) rfl (vin rfl) ?_
                refine gs rfl ?_
                refine gs rfl ?_
                refine gs rfl ?_
                refine gs rfl ?_
                refine gs rfl ?_
                refine gs rfl ?_
                refine gs rfl ?_
                refine gs rfl ?_
                refine gs rfl ?_
                refine and_3 (Nat.le_of_ble_eq_true rfl) rfl (vin rfl) ?_
                refine gs rfl ?_
                refine gs rfl ?_
                refine gs rfl ?_
                refine gs rfl ?_
                refine gs rfl ?_
                refine gs rfl ?_
                refine gs rfl ?_
                refine gs rfl ?_
                refine gs rfl ?_
                refine and_3 (Nat.le_of_ble_eq_true rfl) rfl (vin rfl) ?_
                refine gs rfl ?_
                refine gs rfl ?_
                refine gs rfl ?_
                refine gs rfl ?_
                refine gs rfl ?_
                refine gs rfl ?_
                refine gs rfl ?_
                refine gs rfl ?_
                refine gs rfl ?_
                refine and_3 (Nat.le_of_ble_eq_true rfl) rfl (vin rfl) ?_
                refine gs rfl ?_
                refine gs rfl ?_
                refine gs rfl ?_
                refine gs rfl ?_
                refine gs rfl ?_
                refine gs rfl ?_
                refine gs rfl ?_
                refine gs rfl ?_
                refine gs rfl ?_
                refine and_3 (Nat.le_of_ble_eq_true rfl) rfl (vin rfl) ?_
                refine gs rfl ?_
                refine gs rfl ?_
                refine gs rfl ?_
                refine gs rfl ?_
                refine gs rfl ?_
                refine gs rfl ?_
                refine gs rfl ?_
                refine gs rfl ?_
                refine gs rfl ?_
                refine and_3 (Nat.le_of_ble_eq_true rfl) rfl (vin rfl) ?_
                refine gs rfl ?_
                refine gs rfl ?_
                refine gs rfl ?_
                refine gs rfl ?_
                refine gs rfl ?_
                refine gs rfl ?_
                refine gs rfl ?_
                refine gs rfl ?_
                refine gs rfl ?_
                refine and_3 (Nat.le_of_ble_eq_true rfl) rfl (vin rfl) ?_
                refine gs rfl ?_
                refine gs rfl ?_
                refine gs rfl ?_
                refine gs rfl ?_
                refine gs rfl ?_
                refine gs rfl ?_
                refine gs rfl ?_
                refine gs rfl ?_
                refine gs rfl ?_
                refine and_3 (Nat.le_of_ble_eq_true rfl) rfl (vin rfl) ?_
                refine gs rfl ?_
                refine gs rfl ?_
                refine gs rfl ?_
                refine gs rfl ?_
                refine gs rfl ?_
                refine gs rfl ?_
                refine gs rfl ?_
                refine gs rfl ?_
                refine gs rfl ?_
                refine and_3 (Nat.le_of_ble_eq_true rfl) rfl (vin rfl) ?_
                refine gs rfl ?_
                refine gs rfl ?_
                refine gs rfl ?_
                refine gs rfl ?_
                refine gs rfl ?_
                refine gs rfl ?_
                refine and_i rfl ?_
                refine gs rfl ?_
                refine and_i rfl ?_
                refine gs rfl ?_
                refine gs rfl ?_
                refine and_i rfl ?_
                refine FRg rfl (fun f => ?_)
                refine gs rfl ?_
                refine gs rfl ?_
                refine gs rfl ?_
                refine gs rfl ?_
                refine gs rfl ?_
                refine gs rfl ?_
                refine and_2 rfl (vin rfl) ?_
                refine gs rfl ?_
                refine gs rfl ?_
                refine gs rfl ?_
                refine gs rfl ?_
                refine gs rfl ?_
                refine and_2 rfl (vin rfl) ?_
                refine gs rfl ?_
                refine gs rfl ?_
                refine gs rfl ?_
                refine gs rfl ?_
                refine gs rfl ?_
                refine and_2 rfl (vin rfl) ?_
                refine gs rfl ?_
                refine and_i (Nat.le_of_ble_eq_true rfl) (cl0 (Nat.le_of_ble_eq_true rfl) (and_i (Nat.le_of_ble_eq_true rfl) ?_))
                refine gs rfl ?_
                refine gs rfl ?_
                refine and_i (Nat.le_of_ble_eq_true rfl) (cl0 (Nat.le_of_ble_eq_true rfl) (and_i (Nat.le_of_ble_eq_true rfl) ?_))
                refine gs rfl ?_
                refine gs rfl ?_
                refine gs rfl ?_
                refine gs rfl ?_
                refine and_i (Nat.le_of_ble_eq_true rfl) (cl0 (Nat.le_of_ble_eq_true rfl) (and_i (Nat.le_of_ble_eq_true rfl) ?_))
                refine gs rfl ?_
                refine gs rfl ?_
                refine gs rfl ?_
                refine gs rfl ?_
                refine gs rfl ?_
                refine gs rfl ?_
                refine gs rfl ?_
                refine gs rfl ?_
                refine gs rfl ?_
                refine and_2 rfl (Or.inr rfl) ?_
                refine gs rfl ?_
                refine and_2 rfl (Or.inr rfl) ?_
                refine gs rfl ?_
                refine gs rfl ?_
                refine gs rfl ?_
                refine ifF ((fun q => absurd ((eq_k (a := (s2).toInt) (b := 0) (by rfl) (by rfl)).mp q) (by omega))) ?_
                refine gs rfl ?_
                refine gs rfl ?_
                refine gs rfl ?_
                refine ifT ((eq_k (a := (s2).toInt) (b := 8) (by rfl) (by rfl)).mpr (by omega)) ?_
                refine gs rfl ?_
                refine gs rfl ?_
                refine ifF ((fun q => absurd ((eq_k (a := (s2).toInt) (b := 0) (by rfl) (by rfl)).mp q) (by omega))) ?_
                refine gs rfl ?_
                refine gs rfl ?_
                refine ifT ((le_k (a := 0) (b := (s3).toInt) (by rfl) (by rfl)).mpr (by omega)) ?_
                refine gs rfl ?_
                refine gs rfl ?_
                refine ifF ((fun q => absurd ((eq_k (a := (s2).toInt) (b := 0) (by rfl) (by rfl)).mp q) (by omega))) ?_
                refine gs rfl ?_
                refine gs rfl ?_
                refine gs rfl ?_
                refine ifT ((le_k (a := (s3).toInt) (b := 40) (by rfl) (by rfl)).mpr (by omega)) ?_
                refine gs rfl ?_
                refine gs rfl ?_
                refine gs rfl ?_
                refine gs rfl ?_
                refine gs rfl ?_
                refine and_3 (Nat.le_of_ble_eq_true rfl) rfl (vin rfl) ?_
                refine gs rfl ?_
                refine gs rfl ?_
                refine gs rfl ?_
                refine gs rfl ?_
                refine gs rfl ?_
                refine ifF ((fun q => absurd ((eq_k (a := (s2).toInt) (b := 0) (by rfl) (by rfl)).mp q) (by omega))) ?_
                refine gs rfl ?_
                refine gs rfl ?_
                refine and_3 (Nat.le_of_ble_eq_true rfl) rfl (vin rfl) ?_
                refine gs rfl ?_
                refine gs rfl ?_
                refine gs rfl ?_
                refine gs rfl ?_
                refine gs rfl ?_
                refine gs rfl ?_
                refine gs rfl ?_
                refine gs rfl ?_
                refine gs rfl ?_
                refine gs rfl ?_
                refine gs rfl ?_
                refine gs rfl ?_
                refine gs rfl ?_
                refine gs rfl ?_
                refine and_3 (Nat.le_of_ble_eq_true rfl) rfl (vin rfl) ?_
                refine gs rfl ?_
                refine gs rfl ?_
                refine gs rfl ?_
                refine gs rfl ?_
                refine gs rfl ?_
                refine gs rfl ?_
                refine gs rfl ?_
                refine gs rfl ?_
                refine gs rfl ?_
                refine gs rfl ?_
                refine gs rfl ?_
                refine gs rfl ?_
                refine gs rfl ?_
                refine gs rfl ?_
                refine and_3 (Nat.le_of_ble_eq_true rfl) rfl (vin rfl) ?_
                refine gs rfl ?_
                refine gs rfl ?_
                refine gs rfl ?_
                refine gs rfl ?_
                refine gs rfl ?_
                refine gs rfl ?_
                refine gs rfl ?_
                refine gs rfl ?_
                refine gs rfl ?_
                refine gs rfl ?_
                refine gs rfl ?_
                refine gs rfl ?_
                refine gs rfl ?_
                refine gs rfl ?_
                refine and_3 (Nat.le_of_ble_eq_true rfl) rfl (vin rfl) ?_
                refine gs rfl ?_
                refine gs rfl ?_
                refine gs rfl ?_
                refine gs rfl ?_
                refine gs rfl ?_
                refine gs rfl ?_
                refine gs rfl ?_
                refine gs rfl ?_
                refine gs rfl ?_
                refine gs rfl ?_
                refine gs rfl ?_
                refine gs rfl ?_
                refine gs rfl ?_
                refine gs rfl ?_
                refine and_3 (Nat.le_of_ble_eq_true rfl) rfl (vin rfl) ?_
                refine gs rfl ?_
                refine gs rfl ?_
                refine gs rfl ?_
                refine gs rfl ?_
                refine gs rfl ?_
                refine gs rfl ?_
                refine gs rfl ?_
                refine gs rfl ?_
                refine gs rfl ?_
                refine gs rfl ?_
                refine gs rfl ?_
                refine gs rfl ?_
                refine gs rfl ?_
                refine gs rfl ?_
                refine and_3 (Nat.le_of_ble_eq_true rfl) rfl (vin rfl) ?_
                refine gs rfl ?_
                refine gs rfl ?_
                refine gs rfl ?_
                refine gs rfl ?_
                refine gs rfl ?_
                refine gs rfl ?_
                refine gs rfl ?_
                refine gs rfl ?_
                refine gs rfl ?_
                refine gs rfl ?_
                refine gs rfl ?_
                refine gs rfl ?_
                refine gs rfl ?_
                refine gs rfl ?_
                refine and_3 (Nat.le_of_ble_eq_true rfl) rfl (vin rfl) ?_
                refine gs rfl ?_
                refine gs rfl ?_
                refine gs rfl ?_
                refine gs rfl ?_
                refine gs rfl ?_
                refine gs rfl ?_
                refine gs rfl ?_
                refine gs rfl ?_
                refine gs rfl ?_
                refine gs rfl ?_
                refine gs rfl ?_
                refine gs rfl ?_
                refine gs rfl ?_
                refine gs rfl ?_
                refine and_3 (Nat.le_of_ble_eq_true rfl) rfl (vin rfl) ?_
                refine gs rfl ?_
                refine gs rfl ?_
                refine gs rfl ?_
                refine gs rfl ?_
                refine gs rfl ?_
                refine gs rfl ?_
                refine gs rfl ?_
                refine gs rfl ?_
                refine gs rfl ?_
                refine gs rfl ?_
                refine gs rfl ?_
                refine gs rfl ?_
                refine gs rfl ?_
                refine gs rfl ?_
                refine and_3 (Nat.le_of_ble_eq_true rfl) rfl (vin rfl) ?_
                refine gs rfl ?_
                refine gs rfl ?_
                refine gs rfl ?_
                refine gs rfl ?_
                refine gs rfl ?_
                refine gs rfl ?_
                refine gs rfl ?_
                refine gs rfl ?_
                refine gs rfl ?_
                refine gs rfl ?_
                refine gs rfl ?_
                refine gs rfl ?_
                refine gs rfl ?_
                refine gs rfl ?_
                refine and_3 (Nat.le_of_ble_eq_true rfl) rfl (vin rfl) ?_
                refine gs rfl ?_
                refine gs rfl ?_
                refine gs rfl ?_
                refine gs rfl ?_
                refine gs rfl ?_
                refine gs rfl ?_
                refine gs rfl ?_
                refine gs rfl ?_
                refine gs rfl ?_
                refine gs rfl ?_
                refine gs rfl ?_
                refine gs rfl ?_
                refine gs rfl ?_
                refine gs rfl ?_
                refine and_3 (Nat.le_of_ble_eq_true rfl) rfl (vin rfl) ?_
                refine gs rfl ?_
                refine gs rfl ?_
                refine gs rfl ?_
                refine gs rfl ?_
                refine gs rfl ?_
                refine gs rfl ?_
                refine gs rfl ?_
                refine gs rfl ?_
                refine gs rfl ?_
                refine gs rfl ?_
                refine gs rfl ?_
                refine gs rfl ?_
                refine gs rfl ?_
                refine gs rfl ?_
                refine and_3 (Nat.le_of_ble_eq_true rfl) rfl (vin rfl) ?_
                refine gs rfl ?_
                refine gs rfl ?_
                refine gs rfl ?_
                refine gs rfl ?_
                refine gs rfl ?_
                refine gs rfl ?_
                refine gs rfl ?_
                refine gs rfl ?_
                refine gs rfl ?_
                refine gs rfl ?_
                refine gs rfl ?_
                refine gs rfl ?_
                refine gs rfl ?_
                refine gs rfl ?_
                refine and_3 (Nat.le_of_ble_eq_true rfl) rfl (vin rfl) ?_
                refine gs rfl ?_
                refine gs rfl ?_
                refine gs rfl ?_
                refine gs rfl ?_
                refine gs rfl ?_
                refine gs rfl ?_
                refine gs rfl ?_
                refine gs rfl ?_
                refine gs rfl ?_
                refine gs rfl ?_
                refine gs rfl ?_
                refine gs rfl ?_
                refine gs rfl ?_
                refine gs rfl ?_
                refine and_3 (Nat.le_of_ble_eq_true rfl) rfl (vin rfl) ?_
                refine gs rfl ?_
                refine gs rfl ?_
                refine gs rfl ?_
                refine gs rfl ?_
                refine gs rfl ?_
                refine gs rfl ?_
                refine gs rfl ?_
                refine gs rfl ?_
                refine gs rfl ?_
                refine gs rfl ?_
                refine gs rfl ?_
                refine gs rfl ?_
                refine gs rfl ?_
                refine gs rfl ?_
                refine and_3 (Nat.le_of_ble_eq_true rfl) rfl (vin rfl) ?_
                refine gs rfl ?_
                refine gs rfl ?_
                refine gs rfl ?_
                refine gs rfl ?_
                refine gs rfl ?_
                refine gs rfl ?_
                refine gs rfl ?_
                refine gs rfl ?_
                refine gs rfl ?_
                refine gs rfl ?_
                refine gs rfl ?_
                refine gs rfl ?_
                refine gs rfl ?_
                refine gs rfl ?_
                refine and_3 (Nat.le_of_ble_eq_true rfl) rfl (vin rfl) ?_
                refine gs rfl ?_
                refine gs rfl ?_
                refine gs rfl ?_
                refine gs rfl ?_
                refine gs rfl ?_
                refine gs rfl ?_
                refine gs rfl ?_
                refine gs rfl ?_
                refine gs rfl ?_
                refine gs rfl ?_
                refine gs rfl ?_
                refine gs rfl ?_
                refine gs rfl ?_
                refine gs rfl ?_
                refine and_3 (Nat.le_of_ble_eq_true rfl) rfl (vin rfl) ?_
                refine gs rfl ?_
                refine gs rfl ?_
                refine gs rfl ?_
                refine gs rfl ?_
                refine gs rfl ?_
                refine gs rfl ?_
                refine gs rfl ?_
                refine gs rfl ?_
                refine gs rfl ?_
                refine gs rfl ?_
                refine gs rfl ?_
                refine gs rfl ?_
                refine gs rfl ?_
                refine gs rfl ?_
                refine and_3 (Nat.le_of_ble_eq_true rfl) rfl (vin rfl) ?_
                refine gs rfl ?_
                refine gs rfl ?_
                refine gs rfl ?_
                refine gs rfl ?_
                refine gs rfl ?_
                refine gs rfl ?_
                refine gs rfl ?_
                refine gs rfl ?_
                refine gs rfl ?_
                refine gs rfl ?_
                refine gs rfl ?_
                refine gs rfl ?_
                refine gs rfl ?_
                refine gs rfl ?_
                refine and_3 (Nat.le_of_ble_eq_true rfl) rfl (vin rfl) ?_
                refine gs rfl ?_
                refine gs rfl ?_
                refine gs rfl ?_
                refine gs rfl ?_
                refine gs rfl ?_
                refine gs rfl ?_
                refine gs rfl ?_
                refine gs rfl ?_
                refine gs rfl ?_
                refine gs rfl ?_
                refine gs rfl ?_
                refine gs rfl ?_
                refine gs rfl ?_
                refine gs rfl ?_
                refine and_3 (Nat.le_of_ble_eq_true rfl) rfl (vin rfl) ?_
                refine gs rfl ?_
                refine gs rfl ?_
                refine gs rfl ?_
                refine gs rfl ?_
                refine gs rfl ?_
                refine gs rfl ?_
                refine gs rfl ?_
                refine gs rfl ?_
                refine gs rfl ?_
                refine gs rfl ?_
                refine gs rfl ?_
                refine gs rfl ?_
                refine gs rfl ?_
                refine gs rfl ?_
                refine and_3 (Nat.le_of_ble_eq_true rfl) rfl (vin rfl) ?_
                refine gs rfl ?_
                refine gs rfl ?_
                refine gs rfl ?_
                refine gs rfl ?_
                refine gs rfl ?_
                refine gs rfl ?_
                refine gs rfl ?_
                refine gs rfl ?_
                refine gs rfl ?_
                refine gs rfl ?_
                refine gs rfl ?_
                refine gs rfl ?_
                refine gs rfl ?_
                refine gs rfl ?_
                refine and_3 (Nat.le_of_ble_eq_true rfl) rfl (vin rfl) ?_
                refine gs rfl ?_
                refine gs rfl ?_
                refine gs rfl ?_
                refine gs rfl ?_
                refine gs rfl ?_
                refine gs rfl ?_
                refine gs rfl ?_
                refine gs rfl ?_
                refine gs rfl ?_
                refine gs rfl ?_
                refine gs rfl ?_
                refine gs rfl ?_
                refine gs rfl ?_
                refine gs rfl ?_
                refine and_3 (Nat.le_of_ble_eq_true rfl) rfl (vin rfl) ?_
                refine gs rfl ?_
                refine gs rfl ?_
                refine gs rfl ?_
                refine gs rfl ?_
                refine gs rfl ?_
                refine gs rfl ?_
                refine gs rfl ?_
                refine gs rfl ?_
                refine gs rfl ?_
                refine gs rfl ?_
                refine gs rfl ?_
                refine gs rfl ?_
                refine gs rfl ?_
                refine gs rfl ?_
                refine and_3 (Nat.le_of_ble_eq_true rfl) rfl (vin rfl) ?_
                refine gs rfl ?_
                refine gs rfl ?_
                refine gs rfl ?_
                refine gs rfl ?_
                refine gs rfl ?_
                refine gs rfl ?_
                refine gs rfl ?_
                refine gs rfl ?_
                refine gs rfl ?_
                refine gs rfl ?_
                refine gs rfl ?_
                refine gs rfl ?_
                refine gs rfl ?_
                refine gs rfl ?_
                refine and_3 (Nat.le_of_ble_eq_true rfl) rfl (vin rfl) ?_
                refine gs rfl ?_
                refine gs rfl ?_
                refine gs rfl ?_
                refine gs rfl ?_
                refine gs rfl ?_
                refine gs rfl ?_
                refine gs rfl ?_
                refine gs rfl ?_
                refine gs rfl ?_
                refine gs rfl ?_
                refine gs rfl ?_
                refine gs rfl ?_
                refine gs rfl ?_
                refine gs rfl ?_
                refine and_3 (Nat.le_of_ble_eq_true rfl) rfl (vin rfl) ?_
                refine gs rfl ?_
                refine gs rfl ?_
                refine gs rfl ?_
                refine gs rfl ?_
                refine gs rfl ?_
                refine gs rfl ?_
                refine gs rfl ?_
                refine gs rfl ?_
                refine gs rfl ?_
                refine gs rfl ?_
                refine gs rfl ?_
                refine gs rfl ?_
                refine gs rfl ?_
                refine gs rfl ?_
                refine and_3 (Nat.le_of_ble_eq_true rfl) rfl (vin rfl) ?_
                refine gs rfl ?_
                refine gs rfl ?_
                refine gs rfl ?_
                refine gs rfl ?_
                refine gs rfl ?_
                refine gs rfl ?_
                refine gs rfl ?_
                refine gs rfl ?_
                refine gs rfl ?_
                refine gs rfl ?_
                refine gs rfl ?_
                refine gs rfl ?_
                refine gs rfl ?_
                refine gs rfl ?_
                refine and_3 (Nat.le_of_ble_eq_true rfl) rfl (vin rfl) ?_
                refine gs rfl ?_
                refine gs rfl ?_
                refine gs rfl ?_
                refine gs rfl ?_
                refine gs rfl ?_
                refine gs rfl ?_
                refine gs rfl ?_
                refine gs rfl ?_
                refine gs rfl ?_
                refine gs rfl ?_
                refine gs rfl ?_
                refine gs rfl ?_
                refine gs rfl ?_
                refine gs rfl ?_
                refine and_3 (Nat.le_of_ble_eq_true rfl) rfl (vin rfl) ?_
                refine gs rfl ?_
                refine gs rfl ?_
                refine gs rfl ?_
                refine gs rfl ?_
                refine gs rfl ?_
                refine gs rfl ?_
                refine gs rfl ?_
                refine gs rfl ?_
                refine gs rfl ?_
                refine gs rfl ?_
                refine gs rfl ?_
                refine gs rfl ?_
                refine gs rfl ?_
                refine gs rfl ?_
                refine and_3 (Nat.le_of_ble_eq_true rfl) rfl (vin rfl) ?_
                refine gs rfl ?_
                refine gs rfl ?_
                refine gs rfl ?_
                refine gs rfl ?_
                refine gs rfl ?_
                refine gs rfl ?_
                refine gs rfl ?_
                refine gs rfl ?_
                refine gs rfl ?_
                refine gs rfl ?_
                refine gs rfl ?_
                refine gs rfl ?_
                refine gs rfl ?_
                refine gs rfl ?_
                refine and_3 (Nat.le_of_ble_eq_true rfl) rfl (vin rfl) ?_
                refine gs rfl ?_
                refine gs rfl ?_
                refine gs rfl ?_
                refine gs rfl ?_
                refine gs rfl ?_
                refine gs rfl ?_
                refine gs rfl ?_
                refine gs rfl ?_
                refine gs rfl ?_
                refine gs rfl ?_
                refine gs rfl ?_
                refine gs rfl ?_
                refine gs rfl ?_
                refine gs rfl ?_
                refine and_3 (Nat.le_of_ble_eq_true rfl) rfl (vin rfl) ?_
                refine gs rfl ?_
                refine gs rfl ?_
                refine gs rfl ?_
                refine gs rfl ?_
                refine gs rfl ?_
                refine gs rfl ?_
                refine gs rfl ?_
                refine gs rfl ?_
                refine gs rfl ?_
                refine gs rfl ?_
                refine gs rfl ?_
                refine gs rfl ?_
                refine gs rfl ?_
                refine gs rfl ?_
                refine and_3 (Nat.le_of_ble_eq_true rfl) rfl (vin rfl) ?_
                refine gs rfl ?_
                refine gs rfl ?_
                refine gs rfl ?_
                refine gs rfl ?_
                refine gs rfl ?_
                refine gs rfl ?_
                refine gs rfl ?_
                refine gs rfl ?_
                refine gs rfl ?_
                refine gs rfl ?_
                refine gs rfl ?_
                refine gs rfl ?_
                refine gs rfl ?_
                refine gs rfl ?_
                refine and_3 (Nat.le_of_ble_eq_true rfl) rfl (vin rfl) ?_
                refine gs rfl ?_
                refine gs rfl ?_
                refine gs rfl ?_
                refine gs rfl ?_
                refine gs rfl ?_
                refine gs rfl ?_
                refine gs rfl ?_
                refine gs rfl ?_
                refine gs rfl ?_
                refine gs rfl ?_
                refine gs rfl ?_
                refine gs rfl ?_
                refine gs rfl ?_
                refine gs rfl ?_
                refine and_3 (Nat.le_of_ble_eq_true rfl) rfl (vin rfl) ?_
                refine gs rfl ?_
                refine gs rfl ?_
                refine gs rfl ?_
                refine gs rfl ?_
                refine gs rfl ?_
                refine gs rfl ?_
                refine gs rfl ?_
                refine gs rfl ?_
                refine gs rfl ?_
                refine gs rfl ?_
                refine gs rfl ?_
                refine gs rfl ?_
                refine gs rfl ?_
                refine gs rfl ?_
                refine and_3 (Nat.le_of_ble_eq_true rfl) rfl (vin rfl) ?_
                refine gs rfl ?_
                refine gs rfl ?_
                refine gs rfl ?_
                refine gs rfl ?_
                refine gs rfl ?_
                refine gs rfl ?_
                refine gs rfl ?_
                refine gs rfl ?_
                refine gs rfl ?_
                refine gs rfl ?_
                refine gs rfl ?_
                refine gs rfl ?_
                refine gs rfl ?_
                refine gs rfl ?_
                refine and_3 (Nat.le_of_ble_eq_true rfl) rfl (vin rfl) ?_
                refine gs rfl ?_
                refine gs rfl ?_
                refine gs rfl ?_
                refine gs rfl ?_
                refine gs rfl ?_
                refine gs rfl ?_
                refine gs rfl ?_
                refine gs rfl ?_
                refine gs rfl ?_
                refine gs rfl ?_
                refine gs rfl ?_
                refine gs rfl ?_
                refine gs rfl ?_
                refine gs rfl ?_
                refine and_3 (Nat.le_of_ble_eq_true rfl) rfl (vin rfl) ?_
                refine gs rfl ?_
                refine gs rfl ?_
                refine gs rfl ?_
                refine gs rfl ?_
                refine gs rfl ?_
                refine gs rfl ?_
                refine gs rfl ?_
                refine gs rfl ?_
                refine gs rfl ?_
                refine gs rfl ?_
                refine gs rfl ?_
                refine gs rfl ?_
                refine gs rfl ?_
                refine gs rfl ?_
                refine and_3 (Nat.le_of_ble_eq_true rfl) rfl (vin rfl) ?_
                refine gs rfl ?_
                refine gs rfl ?_
                refine gs rfl ?_
                refine gs rfl ?_
                refine gs rfl ?_
                refine gs rfl ?_
                refine gs rfl ?_
                refine gs rfl ?_
                refine gs rfl ?_
                refine gs rfl ?_
                refine gs rfl ?_
                refine gs rfl ?_
                refine gs rfl ?_
                refine gs rfl ?_
                refine and_3 (Nat.le_of_ble_eq_true rfl) rfl (vin rfl) ?_
                refine gs rfl ?_
                refine gs rfl ?_
                refine gs rfl ?_
                refine gs rfl ?_
                refine gs rfl ?_
                refine gs rfl ?_
                refine gs rfl ?_
                refine gs rfl ?_
                refine gs rfl ?_
                refine gs rfl ?_
                refine gs rfl ?_
                refine gs rfl ?_
                refine gs rfl ?_
                refine gs rfl ?_
                refine and_3 (Nat.le_of_ble_eq_true rfl) rfl (vin rfl) ?_
                refine gs rfl ?_
                refine gs rfl ?_
                refine gs rfl ?_
                refine gs rfl ?_
                refine gs rfl ?_
                refine gs rfl ?_
                refine gs rfl ?_
                refine and_i rfl ?_
                refine gs rfl ?_
                refine gs rfl ?_
                refine gs rfl ?_
                refine gs rfl ?_
                refine gs rfl ?_
                refine gs rfl ?_
                refine and_i (Or.inl rfl) ?_
                refine gwst (congrArg (fun z => Value.int z :: _) (alen_k (n := 6) (by rfl))) ?_
                refine gs rfl ?_
                refine gs rfl ?_
                refine gs rfl ?_
                refine gs rfl ?_
                refine gs rfl ?_
                refine and_2 rfl (Or.inr rfl) ?_
                exact rfl
              · have x18q : s1 = (1 : Int32) := x18
                clear x18
                subst x18q
                refine gs rfl ?_
                refine and_2 (Nat.le_of_ble_eq_true rfl) (vin rfl) ?_
                refine and_2 rfl (fun z q => by cases q) ?_
                refine gs rfl ?_
                refine gs rfl ?_
                refine gs rfl ?_
                refine and_i (Nat.le_of_ble_eq_true rfl) (cl0 (Nat.le_of_ble_eq_true rfl) (and_i (Nat.le_of_ble_eq_true rfl) ?_))
                refine gs rfl ?_
                refine gs rfl ?_
                refine gs rfl ?_
                refine and_3 (Nat.le_of_ble_eq_true rfl) (Nat.le_of_ble_eq_true rfl) trivial ?_
                refine gs rfl ?_
                refine gs rfl ?_
                refine gs rfl ?_
                refine and_3 (Nat.le_of_ble_eq_true rfl) (Nat.le_of_ble_eq_true rfl) trivial ?_
                refine gs rfl ?_
                refine gs rfl ?_
                refine gs rfl ?_
                refine gs rfl ?_
                refine and_i (Nat.le_of_ble_eq_true rfl) (cl0 (Nat.le_of_ble_eq_true rfl) (and_i (Nat.le_of_ble_eq_true rfl) ?_))
                refine gs rfl ?_
                refine gs rfl ?_
                refine gs rfl ?_
                refine gs rfl ?_
                refine and_i (Or.inl rfl) ?_
                refine gwst (congrArg (fun z => Value.int z :: _) (alen_k (n := 40) (by rfl))) ?_
                refine gs rfl ?_
                refine gs rfl ?_
                refine gs rfl ?_
                refine gs rfl ?_
                refine gs rfl ?_
                refine gs rfl ?_
                refine gs rfl ?_
                refine gs rfl ?_
                refine and_3 (Nat.le_of_ble_eq_true rfl) rfl (vin rfl) ?_
                refine gs rfl ?_
                refine gs rfl ?_
                refine gs rfl ?_
                refine gs rfl ?_
                refine gs rfl ?_
                refine gs rfl ?_
                refine gs rfl ?_
                refine gs rfl ?_
                refine gs rfl ?_
                refine and_3 (Nat.le_of_ble_eq_true rfl) rfl (vin rfl) ?_
                refine gs rfl ?_
                refine gs rfl ?_
                refine gs rfl ?_
                refine gs rfl ?_
                refine gs rfl ?_
                refine gs rfl ?_
                refine gs rfl ?_
                refine gs rfl ?_
                refine gs rfl ?_
                refine and_3 (Nat.le_of_ble_eq_true rfl) rfl (vin rfl) ?_
                refine gs rfl ?_
                refine gs rfl ?_
                refine gs rfl ?_
                refine gs rfl ?_
                refine gs rfl ?_
                refine gs rfl ?_
                refine gs rfl ?_
                refine gs rfl ?_
                refine gs rfl ?_
                refine and_3 (Nat.le_of_ble_eq_true rfl) rfl (vin rfl) ?_
                refine gs rfl ?_
                refine gs rfl ?_
                refine gs rfl ?_
                refine gs rfl ?_
                refine gs rfl ?_
                refine gs rfl ?_
                refine gs rfl ?_
                refine gs rfl ?_
                refine gs rfl ?_
                refine and_3 (Nat.le_of_ble_eq_true rfl) rfl (vin rfl) ?_
                refine gs rfl ?_
                refine gs rfl ?_
                refine gs rfl ?_
                refine gs rfl ?_
                refine gs rfl ?_
                refine gs rfl ?_
                refine gs rfl ?_
                refine gs rfl ?_
                refine gs rfl ?_
                refine and_3 (Nat.le_of_ble_eq_true rfl) rfl (vin rfl) ?_
                refine gs rfl ?_
                refine gs rfl ?_
                refine gs rfl ?_
                refine gs rfl ?_
                refine gs rfl ?_
                refine gs rfl ?_
                refine gs rfl ?_
                refine gs rfl ?_
                refine gs rfl ?_
                refine and_3 (Nat.le_of_ble_eq_true rfl) rfl (vin rfl) ?_
                refine gs rfl ?_
                refine gs rfl ?_
                refine gs rfl ?_
                refine gs rfl ?_
                refine gs rfl ?_
                refine gs rfl ?_
                refine gs rfl ?_
                refine gs rfl ?_
                refine gs rfl ?_
                refine and_3 (Nat.le_of_ble_eq_true rfl) rfl (vin rfl) ?_
                refine gs rfl ?_
                refine gs rfl ?_
                refine gs rfl ?_
                refine gs rfl ?_
                refine gs rfl ?_
                refine gs rfl ?_
                refine gs rfl ?_
                refine gs rfl ?_
                refine gs rfl ?_
                refine and_3 (Nat.le_of_ble_eq_true rfl) rfl (vin rfl) ?_
                refine gs rfl ?_
                refine gs rfl ?_
                refine gs rfl ?_
                refine gs rfl ?_
                refine gs rfl ?_
                refine gs rfl ?_
                refine gs rfl ?_
                refine gs rfl ?_
                refine gs rfl ?_
                refine and_3 (Nat.le_of_ble_eq_true rfl) rfl (vin rfl) ?_
                refine gs rfl ?_
                refine gs rfl ?_
                refine gs rfl ?_
                refine gs rfl ?_
                refine gs rfl ?_
                refine gs rfl ?_
                refine gs rfl ?_
                refine gs rfl ?_
                refine gs rfl ?_
                refine and_3 (Nat.le_of_ble_eq_true rfl) rfl (vin rfl) ?_
                refine gs rfl ?_
                refine gs rfl ?_
                refine gs rfl ?_
                refine gs rfl ?_
                refine gs rfl ?_
                refine gs rfl ?_
                refine gs rfl ?_
                refine gs rfl ?_
                refine gs rfl ?_
                refine and_3 (Nat.le_of_ble_eq_true rfl) rfl (vin rfl) ?_
                refine gs rfl ?_
                refine gs rfl ?_
                refine gs rfl ?_
                refine gs rfl ?_
                refine gs rfl ?_
                refine gs rfl ?_
                refine gs rfl ?_
                refine gs rfl ?_
                refine gs rfl ?_
                refine and_3 (Nat.le_of_ble_eq_true rfl) rfl (vin rfl) ?_
                refine gs rfl ?_
                refine gs rfl ?_
                refine gs rfl ?_
                refine gs rfl ?_
                refine gs rfl ?_
                refine gs rfl ?_
                refine gs rfl ?_
                refine gs rfl ?_
                refine gs rfl ?_
                refine and_3 (Nat.le_of_ble_eq_true rfl) rfl (vin rfl) ?_
                refine gs rfl ?_
                refine gs rfl ?_
                refine gs rfl ?_
                refine gs rfl ?_
                refine gs rfl ?_
                refine gs rfl ?_
                refine gs rfl ?_
                refine gs rfl ?_
                refine gs rfl ?_
                refine and_3 (Nat.le_of_ble_eq_true rfl) rfl (vin rfl) ?_
                refine gs rfl ?_
                refine gs rfl ?_
                refine gs rfl ?_
                refine gs rfl ?_
                refine gs rfl ?_
                refine gs rfl ?_
                refine gs rfl ?_
                refine gs rfl ?_
                refine gs rfl ?_
                refine and_3 (Nat.le_of_ble_eq_true rfl) rfl (vin rfl) ?_
                refine gs rfl ?_
                refine gs rfl ?_
                refine gs rfl ?_
                refine gs rfl ?_
                refine gs rfl ?_
                refine gs rfl ?_
                refine gs rfl ?_
                refine gs rfl ?_
                refine gs rfl ?_
                refine and_3 (Nat.le_of_ble_eq_true rfl) rfl (vin rfl) ?_
                refine gs rfl ?_
                refine gs rfl ?_
                refine gs rfl ?_
                refine gs rfl ?_
                refine gs rfl ?_
                refine gs rfl ?_
                refine gs rfl ?_
                refine gs rfl ?_
                refine gs rfl ?_
                refine and_3 (Nat.le_of_ble_eq_true rfl) rfl (vin rfl) ?_
                refine gs rfl ?_
                refine gs rfl ?_
                refine gs rfl ?_
                refine gs rfl ?_
                refine gs rfl ?_
                refine gs rfl ?_
                refine gs rfl ?_
                refine gs rfl ?_
                refine gs rfl ?_
                refine and_3 (Nat.le_of_ble_eq_true rfl) rfl (vin rfl) ?_
                refine gs rfl ?_
                refine gs rfl ?_
                refine gs rfl ?_
                refine gs rfl ?_
                refine gs rfl ?_
                refine gs rfl ?_
                refine gs rfl ?_
                refine gs rfl ?_
                refine gs rfl ?_
                refine and_3 (Nat.le_of_ble_eq_true rfl) rfl (vin rfl) ?_
                refine gs rfl ?_
                refine gs rfl ?_
                refine gs rfl ?_
                refine gs rfl ?_
                refine gs rfl ?_
                refine gs rfl ?_
                refine gs rfl ?_
                refine gs rfl ?_
                refine gs rfl ?_
                refine and_3 (Nat.le_of_ble_eq_true rfl) rfl (vin rfl) ?_
                refine gs rfl ?_
                refine gs rfl ?_
                refine gs rfl ?_
                refine gs rfl ?_
                refine gs rfl ?_
                refine gs rfl ?_
                refine gs rfl ?_
                refine gs rfl ?_
                refine gs rfl ?_
                refine and_3 (Nat.le_of_ble_eq_true rfl) rfl (vin rfl) ?_
                refine gs rfl ?_
                refine gs rfl ?_
                refine gs rfl ?_
                refine gs rfl ?_
                refine gs rfl ?_
                refine gs rfl ?_
                refine gs rfl ?_
                refine gs rfl ?_
                refine gs rfl ?_
                refine and_3 (Nat.le_of_ble_eq_true rfl) rfl (vin rfl) ?_
                refine gs rfl ?_
                refine gs rfl ?_
                refine gs rfl ?_
                refine gs rfl ?_
                refine gs rfl ?_
                refine gs rfl ?_
                refine gs rfl ?_
                refine gs rfl ?_
                refine gs rfl ?_
                refine and_3 (Nat.le_of_ble_eq_true rfl) rfl (vin rfl) ?_
                refine gs rfl ?_
                refine gs rfl ?_
                refine gs rfl ?_
                refine gs rfl ?_
                refine gs rfl ?_
                refine gs rfl ?_
                refine gs rfl ?_
                refine gs rfl ?_
                refine gs rfl ?_
                refine and_3 (Nat.le_of_ble_eq_true rfl) rfl (vin rfl) ?_
                refine gs rfl ?_
                refine gs rfl ?_
                refine gs rfl ?_
                refine gs rfl ?_
                refine gs rfl ?_
                refine gs rfl ?_
                refine gs rfl ?_
                refine gs rfl ?_
                refine gs rfl ?_
                refine and_3 (Nat.le_of_ble_eq_true rfl) rfl (vin rfl) ?_
                refine gs rfl ?_
                refine gs rfl ?_
                refine gs rfl ?_
                refine gs rfl ?_
                refine gs rfl ?_
                refine gs rfl ?_
                refine gs rfl ?_
                refine gs rfl ?_
                refine gs rfl ?_
                refine and_3 (Nat.le_of_ble_eq_true rfl) rfl (vin rfl) ?_
                refine gs rfl ?_
                refine gs rfl ?_
                refine gs rfl ?_
                refine gs rfl ?_
                refine gs rfl ?_
                refine gs rfl ?_
                refine gs rfl ?_
                refine gs rfl ?_
                refine gs rfl ?_
                refine and_3 (Nat.le_of_ble_eq_true rfl) rfl (vin rfl) ?_
                refine gs rfl ?_
                refine gs rfl ?_
                refine gs rfl ?_
                refine gs rfl ?_
                refine gs rfl ?_
                refine gs rfl ?_
                refine gs rfl ?_
                refine gs rfl ?_
                refine gs rfl ?_
                refine and_3 (Nat.le_of_ble_eq_true rfl) rfl (vin rfl) ?_
                refine gs rfl ?_
                refine gs rfl ?_
                refine gs rfl ?_
                refine gs rfl ?_
                refine gs rfl ?_
                refine gs rfl ?_
                refine gs rfl ?_
                refine gs rfl ?_
                refine gs rfl ?_
                refine and_3 (Nat.le_of_ble_eq_true rfl) rfl (vin rfl) ?_
                refine gs rfl ?_
                refine gs rfl ?_
                refine gs rfl ?_
                refine gs rfl ?_
                refine gs rfl ?_
                refine gs rfl ?_
                refine gs rfl ?_
                refine gs rfl ?_
                refine gs rfl ?_
                refine and_3 (Nat.le_of_ble_eq_true rfl) rfl (vin rfl) ?_
                refine gs rfl ?_
                refine gs rfl ?_
                refine gs rfl ?_
                refine gs rfl ?_
                refine gs rfl ?_
                refine gs rfl ?_
                refine gs rfl ?_
                refine gs rfl ?_
                refine gs rfl ?_
                refine and_3 (Nat.le_of_ble_eq_true rfl) rfl (vin rfl) ?_
                refine gs rfl ?_
                refine gs rfl ?_
                refine gs rfl ?_
                refine gs rfl ?_
                refine gs rfl ?_
                refine gs rfl ?_
                refine gs rfl ?_
                refine gs rfl ?_
                refine gs rfl ?_
                refine and_3 (Nat.le_of_ble_eq_true rfl) rfl (vin rfl) ?_
                refine gs rfl ?_
                refine gs rfl ?_
                refine gs rfl ?_
                refine gs rfl ?_
                refine gs rfl ?_
                refine gs rfl ?_
                refine gs rfl ?_
                refine gs rfl ?_
                refine gs rfl ?_
                refine and_3 (Nat.le_of_ble_eq_true rfl) rfl (vin rfl) ?_
                refine gs rfl ?_
                refine gs rfl ?_
                refine gs rfl ?_
                refine gs rfl ?_
                refine gs rfl ?_
                refine gs rfl ?_
                refine gs rfl ?_
                refine gs rfl ?_
                refine gs rfl ?_
                refine and_3 (Nat.le_of_ble_eq_true rfl) rfl (vin rfl) ?_
                refine gs rfl ?_
                refine gs rfl ?_
                refine gs rfl ?_
                refine gs rfl ?_
                refine gs rfl ?_
                refine gs rfl ?_
                refine gs rfl ?_
                refine gs rfl ?_
                refine gs rfl ?_
                refine and_3 (Nat.le_of_ble_eq_true rfl) rfl (vin rfl) ?_
                refine gs rfl ?_
                refine gs rfl ?_
                refine gs rfl ?_
                refine gs rfl ?_
                refine gs rfl ?_
                refine gs rfl ?_
                refine gs rfl ?_
                refine gs rfl ?_
                refine gs rfl ?_
                refine and_3 (Nat.le_of_ble_eq_true rfl) rfl (vin rfl) ?_
                refine gs rfl ?_
                refine gs rfl ?_
                refine gs rfl ?_
                refine gs rfl ?_
                refine gs rfl ?_
                refine gs rfl ?_
                refine gs rfl ?_
                refine gs rfl ?_
                refine gs rfl ?_
                refine and_3 (Nat.le_of_ble_eq_true rfl) rfl (vin rfl) ?_
                refine gs rfl ?_
                refine gs rfl ?_
                refine gs rfl ?_
                refine gs rfl ?_
                refine gs rfl ?_
                refine gs rfl ?_
                refine gs rfl ?_
                refine gs rfl ?_
                refine gs rfl ?_
                refine and_3 (Nat.le_of_ble_eq_true rfl) rfl (vin rfl) ?_
                refine gs rfl ?_
                refine gs rfl ?_
                refine gs rfl ?_
                refine gs rfl ?_
                refine gs rfl ?_
                refine gs rfl ?_
                refine gs rfl ?_
                refine gs rfl ?_
                refine gs rfl ?_
                refine and_3 (Nat.le_of_ble_eq_true rfl) rfl (vin rfl) ?_
                refine gs rfl ?_
                refine gs rfl ?_
                refine gs rfl ?_
                refine gs rfl ?_
                refine gs rfl ?_
                refine gs rfl ?_
                refine and_i rfl ?_
                refine gs rfl ?_
                refine and_i rfl ?_
                refine gs rfl ?_
                refine gs rfl ?_
                refine and_i rfl ?_
                refine FRg rfl (fun f => ?_)
                refine gs rfl ?_
                refine gs rfl ?_
                refine gs rfl ?_
                refine gs rfl ?_
                refine gs rfl ?_
                refine gs rfl ?_
                refine and_2 rfl (vin rfl) ?_
                refine gs rfl ?_
                refine gs rfl ?_
                refine gs rfl ?_
                refine gs rfl ?_
                refine gs rfl ?_
                refine and_2 rfl (vin rfl) ?_
                refine gs rfl ?_
                refine gs rfl ?_
                refine gs rfl ?_
                refine gs rfl ?_
                refine gs rfl ?_
                refine and_2 rfl (vin rfl) ?_
                refine gs rfl ?_
                refine and_i (Nat.le_of_ble_eq_true rfl) (cl0 (Nat.le_of_ble_eq_true rfl) (and_i (Nat.le_of_ble_eq_true rfl) ?_))
                refine gs rfl ?_
                refine gs rfl ?_
                refine and_i (Nat.le_of_ble_eq_true rfl) (cl0 (Nat.le_of_ble_eq_true rfl) (and_i (Nat.le_of_ble_eq_true rfl) ?_))
                refine gs rfl ?_
                refine gs rfl ?_
                refine gs rfl ?_
                refine gs rfl ?_
                refine and_i (Nat.le_of_ble_eq_true rfl) (cl0 (Nat.le_of_ble_eq_true rfl) (and_i (Nat.le_of_ble_eq_true rfl) ?_))
                refine gs rfl ?_
                refine gs rfl ?_
                refine gs rfl ?_
                refine gs rfl ?_
                refine gs rfl ?_
                refine gs rfl ?_
                refine gs rfl ?_
                refine gs rfl ?_
                refine gs rfl ?_
                refine and_2 rfl (Or.inr rfl) ?_
                refine gs rfl ?_
                refine and_2 rfl (Or.inr rfl) ?_
                refine gs rfl ?_
                refine gs rfl ?_
                refine gs rfl ?_
                refine ifF ((fun q => absurd ((eq_k (a := (s2).toInt) (b := 0) (by rfl) (by rfl)).mp q) (by omega))) ?_
                refine gs rfl ?_
                refine gs rfl ?_
                refine gs rfl ?_
                refine ifT ((eq_k (a := (s2).toInt) (b := 8) (by rfl) (by rfl)).mpr (by omega)) ?_
                refine gs rfl ?_
                refine gs rfl ?_
                refine ifF ((fun q => absurd ((eq_k (a := (s2).toInt) (b := 0) (by rfl) (by rfl)).mp q) (by omega))) ?_
                refine gs rfl ?_
                refine gs rfl ?_
                refine ifT ((le_k (a := 0) (b := (s3).toInt) (by rfl) (by rfl)).mpr (by omega)) ?_
                refine gs rfl ?_
                refine gs rfl ?_
                refine ifF ((fun q => absurd ((eq_k (a := (s2).toInt) (b := 0) (by rfl) (by rfl)).mp q) (by omega))) ?_
                refine gs rfl ?_
                refine gs rfl ?_
                refine gs rfl ?_
                refine ifT ((le_k (a := (s3).toInt) (b := 40) (by rfl) (by rfl)).mpr (by omega)) ?_
                refine gs rfl ?_
                refine gs rfl ?_
                refine gs rfl ?_
                refine gs rfl ?_
                refine gs rfl ?_
                refine and_3 (Nat.le_of_ble_eq_true rfl) rfl (vin rfl) ?_
                refine gs rfl ?_
                refine gs rfl ?_
                refine gs rfl ?_
                refine gs rfl ?_
                refine gs rfl ?_
                refine ifF ((fun q => absurd ((eq_k (a := (s2).toInt) (b := 0) (by rfl) (by rfl)).mp q) (by omega))) ?_
                refine gs rfl ?_
                refine gs rfl ?_
                refine and_3 (Nat.le_of_ble_eq_true rfl) rfl (vin rfl) ?_
                refine gs rfl ?_
                refine gs rfl ?_
                refine gs rfl ?_
                refine gs rfl ?_
                refine gs rfl ?_
                refine gs rfl ?_
                refine gs rfl ?_
                refine gs rfl ?_
                refine gs rfl ?_
                refine gs rfl ?_
                refine gs rfl ?_
                refine gs rfl ?_
                refine gs rfl ?_
                refine gs rfl ?_
                refine and_3 (Nat.le_of_ble_eq_true rfl) rfl (vin rfl) ?_
                refine gs rfl ?_
                refine gs rfl ?_
                refine gs rfl ?_
                refine gs rfl ?_
                refine gs rfl ?_
                refine gs rfl ?_
                refine gs rfl ?_
                refine gs rfl ?_
                refine gs rfl ?_
                refine gs rfl ?_
                refine gs rfl ?_
                refine gs rfl ?_
                refine gs rfl ?_
                refine gs rfl ?_
                refine and_3 (Nat.le_of_ble_eq_true rfl) rfl (vin rfl) ?_
                refine gs rfl ?_
                refine gs rfl ?_
                refine gs rfl ?_
                refine gs rfl ?_
                refine gs rfl ?_
                refine gs rfl ?_
                refine gs rfl ?_
                refine gs rfl ?_
                refine gs rfl ?_
                refine gs rfl ?_
                refine gs rfl ?_
                refine gs rfl ?_
                refine gs rfl ?_
                refine gs rfl ?_
                refine and_3 (Nat.le_of_ble_eq_true rfl) rfl (vin rfl) ?_
                refine gs rfl ?_
                refine gs rfl ?_
                refine gs rfl ?_
                refine gs rfl ?_
                refine gs rfl ?_
                refine gs rfl ?_
                refine gs rfl ?_
                refine gs rfl ?_
                refine gs rfl ?_
                refine gs rfl ?_
                refine gs rfl ?_
                refine gs rfl ?_
                refine gs rfl ?_
                refine gs rfl ?_
                refine and_3 (Nat.le_of_ble_eq_true rfl) rfl (vin rfl) ?_
                refine gs rfl ?_
                refine gs rfl ?_
                refine gs rfl ?_
                refine gs rfl ?_
                refine gs rfl ?_
                refine gs rfl ?_
                refine gs rfl ?_
                refine gs rfl ?_
                refine gs rfl ?_
                refine gs rfl ?_
                refine gs rfl ?_
                refine gs rfl ?_
                refine gs rfl ?_
                refine gs rfl ?_
                refine and_3 (Nat.le_of_ble_eq_true rfl) rfl (vin rfl) ?_
                refine gs rfl ?_
                refine gs rfl ?_
                refine gs rfl ?_
                refine gs rfl ?_
                refine gs rfl ?_
                refine gs rfl ?_
                refine gs rfl ?_
                refine gs rfl ?_
                refine gs rfl ?_
                refine gs rfl ?_
                refine gs rfl ?_
                refine gs rfl ?_
                refine gs rfl ?_
                refine gs rfl ?_
                refine and_3 (Nat.le_of_ble_eq_true rfl) rfl (vin rfl) ?_
                refine gs rfl ?_
                refine gs rfl ?_
                refine gs rfl ?_
                refine gs rfl ?_
                refine gs rfl ?_
                refine gs rfl ?_
                refine gs rfl ?_
                refine gs rfl ?_
                refine gs rfl ?_
                refine gs rfl ?_
                refine gs rfl ?_
                refine gs rfl ?_
                refine gs rfl ?_
                refine gs rfl ?_
                refine and_3 (Nat.le_of_ble_eq_true rfl) rfl (vin rfl) ?_
                refine gs rfl ?_
                refine gs rfl ?_
                refine gs rfl ?_
                refine gs rfl ?_
                refine gs rfl ?_
                refine gs rfl ?_
                refine gs rfl ?_
                refine gs rfl ?_
                refine gs rfl ?_
                refine gs rfl ?_
                refine gs rfl ?_
                refine gs rfl ?_
                refine gs rfl ?_
                refine gs rfl ?_
                refine and_3 (Nat.le_of_ble_eq_true rfl) rfl (vin rfl) ?_
                refine gs rfl ?_
                refine gs rfl ?_
                refine gs rfl ?_
                refine gs rfl ?_
                refine gs rfl ?_
                refine gs rfl ?_
                refine gs rfl ?_
                refine gs rfl ?_
                refine gs rfl ?_
                refine gs rfl ?_
                refine gs rfl ?_
                refine gs rfl ?_
                refine gs rfl ?_
                refine gs rfl ?_
                refine and_3 (Nat.le_of_ble_eq_true rfl) rfl (vin rfl) ?_
                refine gs rfl ?_
                refine gs rfl ?_
                refine gs rfl ?_
                refine gs rfl ?_
                refine gs rfl ?_
                refine gs rfl ?_
                refine gs rfl ?_
                refine gs rfl ?_
                refine gs rfl ?_
                refine gs rfl ?_
                refine gs rfl ?_
                refine gs rfl ?_
                refine gs rfl ?_
                refine gs rfl ?_
                refine and_3 (Nat.le_of_ble_eq_true rfl) rfl (vin rfl) ?_
                refine gs rfl ?_
                refine gs rfl ?_
                refine gs rfl ?_
                refine gs rfl ?_
                refine gs rfl ?_
                refine gs rfl ?_
                refine gs rfl ?_
                refine gs rfl ?_
                refine gs rfl ?_
                refine gs rfl ?_
                refine gs rfl ?_
                refine gs rfl ?_
                refine gs rfl ?_
                refine gs rfl ?_
                refine and_3 (Nat.le_of_ble_eq_true rfl) rfl (vin rfl) ?_
                refine gs rfl ?_
                refine gs rfl ?_
                refine gs rfl ?_
                refine gs rfl ?_
                refine gs rfl ?_
                refine gs rfl ?_
                refine gs rfl ?_
                refine gs rfl ?_
                refine gs rfl ?_
                refine gs rfl ?_
                refine gs rfl ?_
                refine gs rfl ?_
                refine gs rfl ?_
                refine gs rfl ?_
                refine and_3 (Nat.le_of_ble_eq_true rfl) rfl (vin rfl) ?_
                refine gs rfl ?_
                refine gs rfl ?_
                refine gs rfl ?_
                refine gs rfl ?_
                refine gs rfl ?_
                refine gs rfl ?_
                refine gs rfl ?_
                refine gs rfl ?_
                refine gs rfl ?_
                refine gs rfl ?_
                refine gs rfl ?_
                refine gs rfl ?_
                refine gs rfl ?_
                refine gs rfl ?_
                refine and_3 (Nat.le_of_ble_eq_true rfl) rfl (vin rfl) ?_
                refine gs rfl ?_
                refine gs rfl ?_
                refine gs rfl ?_
                refine gs rfl ?_
                refine gs rfl ?_
                refine gs rfl ?_
                refine gs rfl ?_
                refine gs rfl ?_
                refine gs rfl ?_
                refine gs rfl ?_
                refine gs rfl ?_
                refine gs rfl ?_
                refine gs rfl ?_
                refine gs rfl ?_
                refine and_3 (Nat.le_of_ble_eq_true rfl) rfl (vin rfl) ?_
                refine gs rfl ?_
                refine gs rfl ?_
                refine gs rfl ?_
                refine gs rfl ?_
                refine gs rfl ?_
                refine gs rfl ?_
                refine gs rfl ?_
                refine gs rfl ?_
                refine gs rfl ?_
                refine gs rfl ?_
                refine gs rfl ?_
                refine gs rfl ?_
                refine gs rfl ?_
                refine gs rfl ?_
                refine and_3 (Nat.le_of_ble_eq_true rfl) rfl (vin rfl) ?_
                refine gs rfl ?_
                refine gs rfl ?_
                refine gs rfl ?_
                refine gs rfl ?_
                refine gs rfl ?_
                refine gs rfl ?_
                refine gs rfl ?_
                refine gs rfl ?_
                refine gs rfl ?_
                refine gs rfl ?_
                refine gs rfl ?_
                refine gs rfl ?_
                refine gs rfl ?_
                refine gs rfl ?_
                refine and_3 (Nat.le_of_ble_eq_true rfl) rfl (vin rfl) ?_
                refine gs rfl ?_
                refine gs rfl ?_
                refine gs rfl ?_
                refine gs rfl ?_
                refine gs rfl ?_
                refine gs rfl ?_
                refine gs rfl ?_
                refine gs rfl ?_
                refine gs rfl ?_
                refine gs rfl ?_
                refine gs rfl ?_
                refine gs rfl ?_
                refine gs rfl ?_
                refine gs rfl ?_
                refine and_3 (Nat.le_of_ble_eq_true rfl) rfl (vin rfl) ?_
                refine gs rfl ?_
                refine gs rfl ?_
                refine gs rfl ?_
                refine gs rfl ?_
                refine gs rfl ?_
                refine gs rfl ?_
                refine gs rfl ?_
                refine gs rfl ?_
                refine gs rfl ?_
                refine gs rfl ?_
                refine gs rfl ?_
                refine gs rfl ?_
                refine gs rfl ?_
                refine gs rfl ?_
                refine and_3 (Nat.le_of_ble_eq_true rfl) rfl (vin rfl) ?_
                refine gs rfl ?_
                refine gs rfl ?_
                refine gs rfl ?_
                refine gs rfl ?_
                refine gs rfl ?_
                refine gs rfl ?_
                refine gs rfl ?_
                refine gs rfl ?_
                refine gs rfl ?_
                refine gs rfl ?_
                refine gs rfl ?_
                refine gs rfl ?_
                refine gs rfl ?_
                refine gs rfl ?_
                refine and_3 (Nat.le_of_ble_eq_true rfl) rfl (vin rfl) ?_
                refine gs rfl ?_
                refine gs rfl ?_
                refine gs rfl ?_
                refine gs rfl ?_
                refine gs rfl ?_
                refine gs rfl ?_
                refine gs rfl ?_
                refine gs rfl ?_
                refine gs rfl ?_
                refine gs rfl ?_
                refine gs rfl ?_
                refine gs rfl ?_
                refine gs rfl ?_
                refine gs rfl ?_
                refine and_3 (Nat.le_of_ble_eq_true rfl) rfl (vin rfl) ?_
                refine gs rfl ?_
                refine gs rfl ?_
                refine gs rfl ?_
                refine gs rfl ?_
                refine gs rfl ?_
                refine gs rfl ?_
                refine gs rfl ?_
                refine gs rfl ?_
                refine gs rfl ?_
                refine gs rfl ?_
                refine gs rfl ?_
                refine gs rfl ?_
                refine gs rfl ?_
                refine gs rfl ?_
                refine and_3 (Nat.le_of_ble_eq_true rfl) rfl (vin rfl) ?_
                refine gs rfl ?_
                refine gs rfl ?_
                refine gs rfl ?_
                refine gs rfl ?_
                refine gs rfl ?_
                refine gs rfl ?_
                refine gs rfl ?_
                refine gs rfl ?_
                refine gs rfl ?_
                refine gs rfl ?_
                refine gs rfl ?_
                refine gs rfl ?_
                refine gs rfl ?_
                refine gs rfl ?_
                refine and_3 (Nat.le_of_ble_eq_true rfl) rfl (vin rfl) ?_
                refine gs rfl ?_
                refine gs rfl ?_
                refine gs rfl ?_
                refine gs rfl ?_
                refine gs rfl ?_
                refine gs rfl ?_
                refine gs rfl ?_
                refine gs rfl ?_
                refine gs rfl ?_
                refine gs rfl ?_
                refine gs rfl ?_
                refine gs rfl ?_
                refine gs rfl ?_
                refine gs rfl ?_
                refine and_3 (Nat.le_of_ble_eq_true rfl) rfl (vin rfl) ?_
                refine gs rfl ?_
                refine gs rfl ?_
                refine gs rfl ?_
                refine gs rfl ?_
                refine gs rfl ?_
                refine gs rfl ?_
                refine gs rfl ?_
                refine gs rfl ?_
                refine gs rfl ?_
                refine gs rfl ?_
                refine gs rfl ?_
                refine gs rfl ?_
                refine gs rfl ?_
                refine gs rfl ?_
                refine and_3 (Nat.le_of_ble_eq_true rfl) rfl (vin rfl) ?_
                refine gs rfl ?_
                refine gs rfl ?_
                refine gs rfl ?_
                refine gs rfl ?_
                refine gs rfl ?_
                refine gs rfl ?_
                refine gs rfl ?_
                refine gs rfl ?_
                refine gs rfl ?_
                refine gs rfl ?_
                refine gs rfl ?_
                refine gs rfl ?_
                refine gs rfl ?_
                refine gs rfl ?_
                refine and_3 (Nat.le_of_ble_eq_true rfl) rfl (vin rfl) ?_
                refine gs rfl ?_
                refine gs rfl ?_
                refine gs rfl ?_
                refine gs rfl ?_
                refine gs rfl ?_
                refine gs rfl ?_
                refine gs rfl ?_
                refine gs rfl ?_
                refine gs rfl ?_
                refine gs rfl ?_
                refine gs rfl ?_
                refine gs rfl ?_
                refine gs rfl ?_
                refine gs rfl ?_
                refine and_3 (Nat.le_of_ble_eq_true rfl) rfl (vin rfl) ?_
                refine gs rfl ?_
                refine gs rfl ?_
                refine gs rfl ?_
                refine gs rfl ?_
                refine gs rfl ?_
                refine gs rfl ?_
                refine gs rfl ?_
                refine gs rfl ?_
                refine gs rfl ?_
                refine gs rfl ?_
                refine gs rfl ?_
                refine gs rfl ?_
                refine gs rfl ?_
                refine gs rfl ?_
                refine and_3 (Nat.le_of_ble_eq_true rfl) rfl (vin rfl) ?_
                refine gs rfl ?_
                refine gs rfl ?_
                refine gs rfl ?_
                refine gs rfl ?_
                refine gs rfl ?_
                refine gs rfl ?_
                refine gs rfl ?_
                refine gs rfl ?_
                refine gs rfl ?_
                refine gs rfl ?_
                refine gs rfl ?_
                refine gs rfl ?_
                refine gs rfl ?_
                refine gs rfl ?_
                refine and_3 (Nat.le_of_ble_eq_true rfl) rfl (vin rfl) ?_
                refine gs rfl ?_
                refine gs rfl ?_
                refine gs rfl ?_
                refine gs rfl ?_
                refine gs rfl ?_
                refine gs rfl ?_
                refine gs rfl ?_
                refine gs rfl ?_
                refine gs rfl ?_
                refine gs rfl ?_
                refine gs rfl ?_
                refine gs rfl ?_
                refine gs rfl ?_
                refine gs rfl ?_
                refine and_3 (Nat.le_of_ble_eq_true rfl) rfl (vin rfl) ?_
                refine gs rfl ?_
                refine gs rfl ?_
                refine gs rfl ?_
                refine gs rfl ?_
                refine gs rfl ?_
                refine gs rfl ?_
                refine gs rfl ?_
                refine gs rfl ?_
                refine gs rfl ?_
                refine gs rfl ?_
                refine gs rfl ?_
                refine gs rfl ?_
                refine gs rfl ?_
                refine gs rfl ?_
                refine and_3 (Nat.le_of_ble_eq_true rfl) rfl (vin rfl) ?_
                refine gs rfl ?_
                refine gs rfl ?_
                refine gs rfl ?_
                refine gs rfl ?_
                refine gs rfl ?_
                refine gs rfl ?_
                refine gs rfl ?_
                refine gs rfl ?_
                refine gs rfl ?_
                refine gs rfl ?_
                refine gs rfl ?_
                refine gs rfl ?_
                refine gs rfl ?_
                refine gs rfl ?_
                refine and_3 (Nat.le_of_ble_eq_true rfl) rfl (vin rfl) ?_
                refine gs rfl ?_
                refine gs rfl ?_
                refine gs rfl ?_
                refine gs rfl ?_
                refine gs rfl ?_
                refine gs rfl ?_
                refine gs rfl ?_
                refine gs rfl ?_
                refine gs rfl ?_
                refine gs rfl ?_
                refine gs rfl ?_
                refine gs rfl ?_
                refine gs rfl ?_
                refine gs rfl ?_
                refine and_3 (Nat.le_of_ble_eq_true rfl) rfl (vin rfl) ?_
                refine gs rfl ?_
                refine gs rfl ?_
                refine gs rfl ?_
                refine gs rfl ?_
                refine gs rfl ?_
                refine gs rfl ?_
                refine gs rfl ?_
                refine gs rfl ?_
                refine gs rfl ?_
                refine gs rfl ?_
                refine gs rfl ?_
                refine gs rfl ?_
                refine gs rfl ?_
                refine gs rfl ?_
                refine and_3 (Nat.le_of_ble_eq_true rfl) rfl (vin rfl) ?_
                refine gs rfl ?_
                refine gs rfl ?_
                refine gs rfl ?_
                refine gs rfl ?_
                refine gs rfl ?_
                refine gs rfl ?_
                refine gs rfl ?_
                refine gs rfl ?_
                refine gs rfl ?_
                refine gs rfl ?_
                refine gs rfl ?_
                refine gs rfl ?_
                refine gs rfl ?_
                refine gs rfl ?_
                refine and_3 (Nat.le_of_ble_eq_true rfl) rfl (vin rfl) ?_
                refine gs rfl ?_
                refine gs rfl ?_
                refine gs rfl ?_
                refine gs rfl ?_
                refine gs rfl ?_
                refine gs rfl ?_
                refine gs rfl ?_
                refine gs rfl ?_
                refine gs rfl ?_
                refine gs rfl ?_
                refine gs rfl ?_
                refine gs rfl ?_
                refine gs rfl ?_
                refine gs rfl ?_
                refine and_3 (Nat.le_of_ble_eq_true rfl) rfl (vin rfl) ?_
                refine gs rfl ?_
                refine gs rfl ?_
                refine gs rfl ?_
                refine gs rfl ?_
                refine gs rfl ?_
                refine gs rfl ?_
                refine gs rfl ?_
                refine gs rfl ?_
                refine gs rfl ?_
                refine gs rfl ?_
                refine gs rfl ?_
                refine gs rfl ?_
                refine gs rfl ?_
                refine gs rfl ?_
                refine and_3 (Nat.le_of_ble_eq_true rfl) rfl (vin rfl) ?_
                refine gs rfl ?_
                refine gs rfl ?_
                refine gs rfl ?_
                refine gs rfl ?_
                refine gs rfl ?_
                refine gs rfl ?_
                refine gs rfl ?_
                refine gs rfl ?_
                refine gs rfl ?_
                refine gs rfl ?_
                refine gs rfl ?_
                refine gs rfl ?_
                refine gs rfl ?_
                refine gs rfl ?_
                refine and_3 (Nat.le_of_ble_eq_true rfl) rfl (vin rfl) ?_
                refine gs rfl ?_
                refine gs rfl ?_
                refine gs rfl ?_
                refine gs rfl ?_
                refine gs rfl ?_
                refine gs rfl ?_
                refine gs rfl ?_
                refine gs rfl ?_
                refine gs rfl ?_
                refine gs rfl ?_
                refine gs rfl ?_
                refine gs rfl ?_
                refine gs rfl ?_
                refine gs rfl ?_
                refine and_3 (Nat.le_of_ble_eq_true rfl) rfl (vin rfl) ?_
                refine gs rfl ?_
                refine gs rfl ?_
                refine gs rfl ?_
                refine gs rfl ?_
                refine gs rfl ?_
                refine gs rfl ?_
                refine gs rfl ?_
                refine gs rfl ?_
                refine gs rfl ?_
                refine gs rfl ?_
                refine gs rfl ?_
                refine gs rfl ?_
                refine gs rfl ?_
                refine gs rfl ?_
                refine and_3 (Nat.le_of_ble_eq_true rfl) rfl (vin rfl) ?_
                refine gs rfl ?_
                refine gs rfl ?_
                refine gs rfl ?_
                refine gs rfl ?_
                refine gs rfl ?_
                refine gs rfl ?_
                refine gs rfl ?_
                refine gs rfl ?_
                refine gs rfl ?_
                refine gs rfl ?_
                refine gs rfl ?_
                refine gs rfl ?_
                refine gs rfl ?_
                refine gs rfl ?_
                refine and_3 (Nat.le_of_ble_eq_true rfl) rfl (vin rfl) ?_
                refine gs rfl ?_
                refine gs rfl ?_
                refine gs rfl ?_
                refine gs rfl ?_
                refine gs rfl ?_
                refine gs rfl ?_
                refine gs rfl ?_
                refine and_i rfl ?_
                refine gs rfl ?_
                refine gs rfl ?_
                refine gs rfl ?_
                refine gs rfl ?_
                refine gs rfl ?_
                refine gs rfl ?_
                refine and_i (Or.inl rfl) ?_
                refine gwst (congrArg (fun z => Value.int z :: _) (alen_k (n := 6) (by rfl))) ?_
                refine gs rfl ?_
                refine gs rfl ?_
                refine gs rfl ?_
                refine gs rfl ?_
                refine gs rfl ?_
                refine and_2 rfl (Or.inr rfl) ?_
                exact rfl
              · have x18q : s1 = (2 : Int32) := x18
                clear x18
                subst x18q
                refine gs rfl ?_
                refine and_2 (Nat.le_of_ble_eq_true rfl) (vin rfl) ?_
                refine and_2 rfl (fun z q => by cases q) ?_
                refine gs rfl ?_
                refine gs rfl ?_
                refine gs rfl ?_
                refine and_i (Nat.le_of_ble_eq_true rfl) (cl0 (Nat.le_of_ble_eq_true rfl) (and_i (Nat.le_of_ble_eq_true rfl) ?_))
                refine gs rfl ?_
                refine gs rfl ?_
                refine gs rfl ?_
                refine and_3 (Nat.le_of_ble_eq_true rfl) (Nat.le_of_ble_eq_true rfl) trivial ?_
                refine gs rfl ?_
                refine gs rfl ?_
                refine gs rfl ?_
                refine and_3 (Nat.le_of_ble_eq_true rfl) (Nat.le_of_ble_eq_true rfl) trivial ?_
                refine gs rfl ?_
                refine gs rfl ?_
                refine gs rfl ?_
                refine gs rfl ?_
                refine and_i (Nat.le_of_ble_eq_true rfl) (cl0 (Nat.le_of_ble_eq_true rfl) (and_i (Nat.le_of_ble_eq_true rfl) ?_))
                refine gs rfl ?_
                refine gs rfl ?_
                refine gs rfl ?_
                refine gs rfl ?_
                refine and_i (Or.inl rfl) ?_
                refine gwst (congrArg (fun z => Value.int z :: _) (alen_k (n := 40) (by rfl))) ?_
                refine gs rfl ?_
                refine gs rfl ?_
                refine gs rfl ?_
                refine gs rfl ?_
                refine gs rfl ?_
                refine gs rfl ?_
                refine gs rfl ?_
                refine gs rfl ?_
                refine and_3 (Nat.le_of_ble_eq_true rfl) rfl (vin rfl) ?_
                refine gs rfl ?_
                refine gs rfl ?_
                refine gs rfl ?_
                refine gs rfl ?_
                refine gs rfl ?_
                refine gs rfl ?_
                refine gs rfl ?_
                refine gs rfl ?_
                refine gs rfl ?_
                refine and_3 (Nat.le_of_ble_eq_true rfl) rfl (vin rfl) ?_
                refine gs rfl ?_
                refine gs rfl ?_
                refine gs rfl ?_
                refine gs rfl ?_
                refine gs rfl ?_
                refine gs rfl ?_
                refine gs rfl ?_
                refine gs rfl ?_
                refine gs rfl ?_
                refine and_3 (Nat.le_of_ble_eq_true rfl) rfl (vin rfl) ?_
                refine gs rfl ?_
                refine gs rfl ?_
                refine gs rfl ?_
                refine gs rfl ?_
                refine gs rfl ?_
                refine gs rfl ?_
                refine gs rfl ?_
                refine gs rfl ?_
                refine gs rfl ?_
                refine and_3 (Nat.le_of_ble_eq_true rfl) rfl (vin rfl) ?_
                refine gs rfl ?_
                refine gs rfl ?_
                refine gs rfl ?_
                refine gs rfl ?_
                refine gs rfl ?_
                refine gs rfl ?_
                refine gs rfl ?_
                refine gs rfl ?_
                refine gs rfl ?_
                refine and_3 (Nat.le_of_ble_eq_true rfl) rfl (vin rfl) ?_
                refine gs rfl ?_
                refine gs rfl ?_
                refine gs rfl ?_
                refine gs rfl ?_
                refine gs rfl ?_
                refine gs rfl ?_
                refine gs rfl ?_
                refine gs rfl ?_
                refine gs rfl ?_
                refine and_3 (Nat.le_of_ble_eq_true rfl) rfl (vin rfl) ?_
                refine gs rfl ?_
                refine gs rfl ?_
                refine gs rfl ?_
                refine gs rfl ?_
                refine gs rfl ?_
                refine gs rfl ?_
                refine gs rfl ?_
                refine gs rfl ?_
                refine gs rfl ?_
                refine and_3 (Nat.le_of_ble_eq_true rfl) rfl (vin rfl) ?_
                refine gs rfl ?_
                refine gs rfl ?_
                refine gs rfl ?_
                refine gs rfl ?_
                refine gs rfl ?_
                refine gs rfl ?_
                refine gs rfl ?_
                refine gs rfl ?_
                refine gs rfl ?_
                refine and_3 (Nat.le_of_ble_eq_true rfl) rfl (vin rfl) ?_
                refine gs rfl ?_
                refine gs rfl ?_
                refine gs rfl ?_
                refine gs rfl ?_
                refine gs rfl ?_
                refine gs rfl ?_
                refine gs rfl ?_
                refine gs rfl ?_
                refine gs rfl ?_
                refine and_3 (Nat.le_of_ble_eq_true rfl) rfl (vin rfl) ?_
                refine gs rfl ?_
                refine gs rfl ?_
                refine gs rfl ?_
                refine gs rfl ?_
                refine gs rfl ?_
                refine gs rfl ?_
                refine gs rfl ?_
                refine gs rfl ?_
                refine gs rfl ?_
                refine and_3 (Nat.le_of_ble_eq_true rfl) rfl (vin rfl) ?_
                refine gs rfl ?_
                refine gs rfl ?_
                refine gs rfl ?_
                refine gs rfl ?_
                refine gs rfl ?_
                refine gs rfl ?_
                refine gs rfl ?_
                refine gs rfl ?_
                refine gs rfl ?_
                refine and_3 (Nat.le_of_ble_eq_true rfl) rfl (vin rfl) ?_
                refine gs rfl ?_
                refine gs rfl ?_
                refine gs rfl ?_
                refine gs rfl ?_
                refine gs rfl ?_
                refine gs rfl ?_
                refine gs rfl ?_
                refine gs rfl ?_
                refine gs rfl ?_
                refine and_3 (Nat.le_of_ble_eq_true rfl) rfl (vin rfl) ?_
                refine gs rfl ?_
                refine gs rfl ?_
                refine gs rfl ?_
                refine gs rfl ?_
                refine gs rfl ?_
                refine gs rfl ?_
                refine gs rfl ?_
                refine gs rfl ?_
                refine gs rfl ?_
                refine and_3 (Nat.le_of_ble_eq_true rfl) rfl (vin rfl) ?_
                refine gs rfl ?_
                refine gs rfl ?_
                refine gs rfl ?_
                refine gs rfl ?_
                refine gs rfl ?_
                refine gs rfl ?_
                refine gs rfl ?_
                refine gs rfl ?_
                refine gs rfl ?_
                refine and_3 (Nat.le_of_ble_eq_true rfl) rfl (vin rfl) ?_
                refine gs rfl ?_
                refine gs rfl ?_
                refine gs rfl ?_
                refine gs rfl ?_
                refine gs rfl ?_
                refine gs rfl ?_
                refine gs rfl ?_
                refine gs rfl ?_
                refine gs rfl ?_
                refine and_3 (Nat.le_of_ble_eq_true rfl) rfl (vin rfl) ?_
                refine gs rfl ?_
                refine gs rfl ?_
                refine gs rfl ?_
                refine gs rfl ?_
                refine gs rfl ?_
                refine gs rfl ?_
                refine gs rfl ?_
                refine gs rfl ?_
                refine gs rfl ?_
                refine and_3 (Nat.le_of_ble_eq_true rfl) rfl (vin rfl) ?_
                refine gs rfl ?_
                refine gs rfl ?_
                refine gs rfl ?_
                refine gs rfl ?_
                refine gs rfl ?_
                refine gs rfl ?_
                refine gs rfl ?_
                refine gs rfl ?_
                refine gs rfl ?_
                refine and_3 (Nat.le_of_ble_eq_true rfl) rfl (vin rfl) ?_
                refine gs rfl ?_
                refine gs rfl ?_
                refine gs rfl ?_
                refine gs rfl ?_
                refine gs rfl ?_
                refine gs rfl ?_
                refine gs rfl ?_
                refine gs rfl ?_
                refine gs rfl ?_
                refine and_3 (Nat.le_of_ble_eq_true rfl) rfl (vin rfl) ?_
                refine gs rfl ?_
                refine gs rfl ?_
                refine gs rfl ?_
                refine gs rfl ?_
                refine gs rfl ?_
                refine gs rfl ?_
                refine gs rfl ?_
                refine gs rfl ?_
                refine gs rfl ?_
                refine and_3 (Nat.le_of_ble_eq_true rfl) rfl (vin rfl) ?_
                refine gs rfl ?_
                refine gs rfl ?_
                refine gs rfl ?_
                refine gs rfl ?_
                refine gs rfl ?_
                refine gs rfl ?_
                refine gs rfl ?_
                refine gs rfl ?_
                refine gs rfl ?_
                refine and_3 (Nat.le_of_ble_eq_true rfl) rfl (vin rfl) ?_
                refine gs rfl ?_
                refine gs rfl ?_
                refine gs rfl ?_
                refine gs rfl ?_
                refine gs rfl ?_
                refine gs rfl ?_
                refine gs rfl ?_
                refine gs rfl ?_
                refine gs rfl ?_
                refine and_3 (Nat.le_of_ble_eq_true rfl) rfl (vin rfl) ?_
                refine gs rfl ?_
                refine gs rfl ?_
                refine gs rfl ?_
                refine gs rfl ?_
                refine gs rfl ?_
                refine gs rfl ?_
                refine gs rfl ?_
                refine gs rfl ?_
                refine gs rfl ?_
                refine and_3 (Nat.le_of_ble_eq_true rfl) rfl (vin rfl) ?_
                refine gs rfl ?_
                refine gs rfl ?_
                refine gs rfl ?_
                refine gs rfl ?_
                refine gs rfl ?_
                refine gs rfl ?_
                refine gs rfl ?_
                refine gs rfl ?_
                refine gs rfl ?_
                refine and_3 (Nat.le_of_ble_eq_true rfl) rfl (vin rfl) ?_
                refine gs rfl ?_
                refine gs rfl ?_
                refine gs rfl ?_
                refine gs rfl ?_
                refine gs rfl ?_
                refine gs rfl ?_
                refine gs rfl ?_
                refine gs rfl ?_
                refine gs rfl ?_
                refine and_3 (Nat.le_of_ble_eq_true rfl) rfl (vin rfl) ?_
                refine gs rfl ?_
                refine gs rfl ?_
                refine gs rfl ?_
                refine gs rfl ?_
                refine gs rfl ?_
                refine gs rfl ?_
                refine gs rfl ?_
                refine gs rfl ?_
                refine gs rfl ?_
                refine and_3 (Nat.le_of_ble_eq_true rfl) rfl (vin rfl) ?_
                refine gs rfl ?_
                refine gs rfl ?_
                refine gs rfl ?_
                refine gs rfl ?_
                refine gs rfl ?_
                refine gs rfl ?_
                refine gs rfl ?_
                refine gs rfl ?_
                refine gs rfl ?_
                refine and_3 (Nat.le_of_ble_eq_true rfl) rfl (vin rfl) ?_
                refine gs rfl ?_
                refine gs rfl ?_
                refine gs rfl ?_
                refine gs rfl ?_
                refine gs rfl ?_
                refine gs rfl ?_
                refine gs rfl ?_
                refine gs rfl ?_
                refine gs rfl ?_
                refine and_3 (Nat.le_of_ble_eq_true rfl) rfl (vin rfl) ?_
                refine gs rfl ?_
                refine gs rfl ?_
                refine gs rfl ?_
                refine gs rfl ?_
                refine gs rfl ?_
                refine gs rfl ?_
                refine gs rfl ?_
                refine gs rfl ?_
                refine gs rfl ?_
                refine and_3 (Nat.le_of_ble_eq_true rfl) rfl (vin rfl) ?_
                refine gs rfl ?_
                refine gs rfl ?_
                refine gs rfl ?_
                refine gs rfl ?_
                refine gs rfl ?_
                refine gs rfl ?_
                refine gs rfl ?_
                refine gs rfl ?_
                refine gs rfl ?_
                refine and_3 (Nat.le_of_ble_eq_true rfl) rfl (vin rfl) ?_
                refine gs rfl ?_
                refine gs rfl ?_
                refine gs rfl ?_
                refine gs rfl ?_
                refine gs rfl ?_
                refine gs rfl ?_
                refine gs rfl ?_
                refine gs rfl ?_
                refine gs rfl ?_
                refine and_3 (Nat.le_of_ble_eq_true rfl) rfl (vin rfl) ?_
                refine gs rfl ?_
                refine gs rfl ?_
                refine gs rfl ?_
                refine gs rfl ?_
                refine gs rfl ?_
                refine gs rfl ?_
                refine gs rfl ?_
                refine gs rfl ?_
                refine gs rfl ?_
                refine and_3 (Nat.le_of_ble_eq_true rfl) rfl (vin rfl) ?_
                refine gs rfl ?_
                refine gs rfl ?_
                refine gs rfl ?_
                refine gs rfl ?_
                refine gs rfl ?_
                refine gs rfl ?_
                refine gs rfl ?_
                refine gs rfl ?_
                refine gs rfl ?_
                refine and_3 (Nat.le_of_ble_eq_true rfl) rfl (vin rfl) ?_
                refine gs rfl ?_
                refine gs rfl ?_
                refine gs rfl ?_
                refine gs rfl ?_
                refine gs rfl ?_
                refine gs rfl ?_
                refine gs rfl ?_
                refine gs rfl ?_
                refine gs rfl ?_
                refine and_3 (Nat.le_of_ble_eq_true rfl) rfl (vin rfl) ?_
                refine gs rfl ?_
                refine gs rfl ?_
                refine gs rfl ?_
                refine gs rfl ?_
                refine gs rfl ?_
                refine gs rfl ?_
                refine gs rfl ?_
                refine gs rfl ?_
                refine gs rfl ?_
                refine and_3 (Nat.le_of_ble_eq_true rfl) rfl (vin rfl) ?_
                refine gs rfl ?_
                refine gs rfl ?_
                refine gs rfl ?_
                refine gs rfl ?_
                refine gs rfl ?_
                refine gs rfl ?_
                refine gs rfl ?_
                refine gs rfl ?_
                refine gs rfl ?_
                refine and_3 (Nat.le_of_ble_eq_true rfl) rfl (vin rfl) ?_
                refine gs rfl ?_
                refine gs rfl ?_
                refine gs rfl ?_
                refine gs rfl ?_
                refine gs rfl ?_
                refine gs rfl ?_
                refine gs rfl ?_
                refine gs rfl ?_
                refine gs rfl ?_
                refine and_3 (Nat.le_of_ble_eq_true rfl) rfl (vin rfl) ?_
                refine gs rfl ?_
                refine gs rfl ?_
                refine gs rfl ?_
                refine gs rfl ?_
                refine gs rfl ?_
                refine gs rfl ?_
                refine gs rfl ?_
                refine gs rfl ?_
                refine gs rfl ?_
                refine and_3 (Nat.le_of_ble_eq_true rfl) rfl (vin rfl) ?_
                refine gs rfl ?_
                refine gs rfl ?_
                refine gs rfl ?_
                refine gs rfl ?_
                refine gs rfl ?_
                refine gs rfl ?_
                refine gs rfl ?_
                refine gs rfl ?_
                refine gs rfl ?_
                refine and_3 (Nat.le_of_ble_eq_true rfl) rfl (vin rfl) ?_
                refine gs rfl ?_
                refine gs rfl ?_
                refine gs rfl ?_
                refine gs rfl ?_
                refine gs rfl ?_
                refine gs rfl ?_
                refine gs rfl ?_
                refine gs rfl ?_
                refine gs rfl ?_
                refine and_3 (Nat.le_of_ble_eq_true rfl) rfl (vin rfl) ?_
                refine gs rfl ?_
                refine gs rfl ?_
                refine gs rfl ?_
                refine gs rfl ?_
                refine gs rfl ?_
                refine gs rfl ?_
                refine gs rfl ?_
                refine gs rfl ?_
                refine gs rfl ?_
                refine and_3 (Nat.le_of_ble_eq_true rfl) rfl (vin rfl) ?_
                refine gs rfl ?_
                refine gs rfl ?_
                refine gs rfl ?_
                refine gs rfl ?_
                refine gs rfl ?_
                refine gs rfl ?_
                refine and_i rfl ?_
                refine gs rfl ?_
                refine and_i rfl ?_
                refine gs rfl ?_
                refine gs rfl ?_
                refine and_i rfl ?_
                refine FRg rfl (fun f => ?_)
                refine gs rfl ?_
                refine gs rfl ?_
                refine gs rfl ?_
                refine gs rfl ?_
                refine gs rfl ?_
                refine gs rfl ?_
                refine and_2 rfl (vin rfl) ?_
                refine gs rfl ?_
                refine gs rfl ?_
                refine gs rfl ?_
                refine gs rfl ?_
                refine gs rfl ?_
                refine and_2 rfl (vin rfl) ?_
                refine gs rfl ?_
                refine gs rfl ?_
                refine gs rfl ?_
                refine gs rfl ?_
                refine gs rfl ?_
                refine and_2 rfl (vin rfl) ?_
                refine gs rfl ?_
                refine and_i (Nat.le_of_ble_eq_true rfl) (cl0 (Nat.le_of_ble_eq_true rfl) (and_i (Nat.le_of_ble_eq_true rfl) ?_))
                refine gs rfl ?_
                refine gs rfl ?_
                refine and_i (Nat.le_of_ble_eq_true rfl) (cl0 (Nat.le_of_ble_eq_true rfl) (and_i (Nat.le_of_ble_eq_true rfl) ?_))
                refine gs rfl ?_
                refine gs rfl ?_
                refine gs rfl ?_
                refine gs rfl ?_
                refine and_i (Nat.le_of_ble_eq_true rfl) (cl0 (Nat.le_of_ble_eq_true rfl) (and_i (Nat.le_of_ble_eq_true rfl) ?_))
                refine gs rfl ?_
                refine gs rfl ?_
                refine gs rfl ?_
                refine gs rfl ?_
                refine gs rfl ?_
                refine gs rfl ?_
                refine gs rfl ?_
                refine gs rfl ?_
                refine gs rfl ?_
                refine and_2 rfl (Or.inr rfl) ?_
                refine gs rfl ?_
                refine and_2 rfl (Or.inr rfl) ?_
                refine gs rfl ?_
                refine gs rfl ?_
                refine gs rfl ?_
                refine ifF ((fun q => absurd ((eq_k (a := (s2).toInt) (b := 0) (by rfl) (by rfl)).mp q) (by omega))) ?_
                refine gs rfl ?_
                refine gs rfl ?_
                refine gs rfl ?_
                refine ifT ((eq_k (a := (s2).toInt) (b := 8) (by rfl) (by rfl)).mpr (by omega)) ?_
                refine gs rfl ?_
                refine gs rfl ?_
                refine ifF ((fun q => absurd ((eq_k (a := (s2).toInt) (b := 0) (by rfl) (by rfl)).mp q) (by omega))) ?_
                refine gs rfl ?_
                refine gs rfl ?_
                refine ifT ((le_k (a := 0) (b := (s3).toInt) (by rfl) (by rfl)).mpr (by omega)) ?_
                refine gs rfl ?_
                refine gs rfl ?_
                refine ifF ((fun q => absurd ((eq_k (a := (s2).toInt) (b := 0) (by rfl) (by rfl)).mp q) (by omega))) ?_
                refine gs rfl ?_
                refine gs rfl ?_
                refine gs rfl ?_
                refine ifT ((le_k (a := (s3).toInt) (b := 40) (by rfl) (by rfl)).mpr (by omega)) ?_
                refine gs rfl ?_
                refine gs rfl ?_
                refine gs rfl ?_
                refine gs rfl ?_
                refine gs rfl ?_
                refine and_3 (Nat.le_of_ble_eq_true rfl) rfl (vin rfl) ?_
                refine gs rfl ?_
                refine gs rfl ?_
                refine gs rfl ?_
                refine gs rfl ?_
                refine gs rfl ?_
                refine ifF ((fun q => absurd ((eq_k (a := (s2).toInt) (b := 0) (by rfl) (by rfl)).mp q) (by omega))) ?_
                refine gs rfl ?_
                refine gs rfl ?_
                refine and_3 (Nat.le_of_ble_eq_true rfl) rfl (vin rfl) ?_
                refine gs rfl ?_
                refine gs rfl ?_
                refine gs rfl ?_
                refine gs rfl ?_
                refine gs rfl ?_
                refine gs rfl ?_
                refine gs rfl ?_
                refine gs rfl ?_
                refine gs rfl ?_
                refine gs rfl ?_
                refine gs rfl ?_
                refine gs rfl ?_
                refine gs rfl ?_
                refine gs rfl ?_
                refine and_3 (Nat.le_of_ble_eq_true rfl) rfl (vin rfl) ?_
                refine gs rfl ?_
                refine gs rfl ?_
                refine gs rfl ?_
                refine gs rfl ?_
                refine gs rfl ?_
                refine gs rfl ?_
                refine gs rfl ?_
                refine gs rfl ?_
                refine gs rfl ?_
                refine gs rfl ?_
                refine gs rfl ?_
                refine gs rfl ?_
                refine gs rfl ?_
                refine gs rfl ?_
                refine and_3 (Nat.le_of_ble_eq_true rfl) rfl (vin rfl) ?_
                refine gs rfl ?_
                refine gs rfl ?_
                refine gs rfl ?_
                refine gs rfl ?_
                refine gs rfl ?_
                refine gs rfl ?_
                refine gs rfl ?_
                refine gs rfl ?_
                refine gs rfl ?_
                refine gs rfl ?_
                refine gs rfl ?_
                refine gs rfl ?_
                refine gs rfl ?_
                refine gs rfl ?_
                refine and_3 (Nat.le_of_ble_eq_true rfl) rfl (vin rfl) ?_
                refine gs rfl ?_
                refine gs rfl ?_
                refine gs rfl ?_
                refine gs rfl ?_
                refine gs rfl ?_
                refine gs rfl ?_
                refine gs rfl ?_
                refine gs rfl ?_
                refine gs rfl ?_
                refine gs rfl ?_
                refine gs rfl ?_
                refine gs rfl ?_
                refine gs rfl ?_
                refine gs rfl ?_
                refine and_3 (Nat.le_of_ble_eq_true rfl) rfl (vin rfl) ?_
                refine gs rfl ?_
                refine gs rfl ?_
                refine gs rfl ?_
                refine gs rfl ?_
                refine gs rfl ?_
                refine gs rfl ?_
                refine gs rfl ?_
                refine gs rfl ?_
                refine gs rfl ?_
                refine gs rfl ?_
                refine gs rfl ?_
                refine gs rfl ?_
                refine gs rfl ?_
                refine gs rfl ?_
                refine and_3 (Nat.le_of_ble_eq_true rfl) rfl (vin rfl) ?_
                refine gs rfl ?_
                refine gs rfl ?_
                refine gs rfl ?_
                refine gs rfl ?_
                refine gs rfl ?_
                refine gs rfl ?_
                refine gs rfl ?_
                refine gs rfl ?_
                refine gs rfl ?_
                refine gs rfl ?_
                refine gs rfl ?_
                refine gs rfl ?_
                refine gs rfl ?_
                refine gs rfl ?_
                refine and_3 (Nat.le_of_ble_eq_true rfl) rfl (vin rfl) ?_
                refine gs rfl ?_
                refine gs rfl ?_
                refine gs rfl ?_
                refine gs rfl ?_
                refine gs rfl ?_
                refine gs rfl ?_
                refine gs rfl ?_
                refine gs rfl ?_
                refine gs rfl ?_
                refine gs rfl ?_
                refine gs rfl ?_
                refine gs rfl ?_
                refine gs rfl ?_
                refine gs rfl ?_
                refine and_3 (Nat.le_of_ble_eq_true rfl) rfl (vin rfl) ?_
                refine gs rfl ?_
                refine gs rfl ?_
                refine gs rfl ?_
                refine gs rfl ?_
                refine gs rfl ?_
                refine gs rfl ?_
                refine gs rfl ?_
                refine gs rfl ?_
                refine gs rfl ?_
                refine gs rfl ?_
                refine gs rfl ?_
                refine gs rfl ?_
                refine gs rfl ?_
                refine gs rfl ?_
                refine and_3 (Nat.le_of_ble_eq_true rfl) rfl (vin rfl) ?_
                refine gs rfl ?_
                refine gs rfl ?_
                refine gs rfl ?_
                refine gs rfl ?_
                refine gs rfl ?_
                refine gs rfl ?_
                refine gs rfl ?_
                refine gs rfl ?_
                refine gs rfl ?_
                refine gs rfl ?_
                refine gs rfl ?_
                refine gs rfl ?_
                refine gs rfl ?_
                refine gs rfl ?_
                refine and_3 (Nat.le_of_ble_eq_true rfl) rfl (vin rfl) ?_
                refine gs rfl ?_
                refine gs rfl ?_
                refine gs rfl ?_
                refine gs rfl ?_
                refine gs rfl ?_
                refine gs rfl ?_
                refine gs rfl ?_
                refine gs rfl ?_
                refine gs rfl ?_
                refine gs rfl ?_
                refine gs rfl ?_
                refine gs rfl ?_
                refine gs rfl ?_
                refine gs rfl ?_
                refine and_3 (Nat.le_of_ble_eq_true rfl) rfl (vin rfl) ?_
                refine gs rfl ?_
                refine gs rfl ?_
                refine gs rfl ?_
                refine gs rfl ?_
                refine gs rfl ?_
                refine gs rfl ?_
                refine gs rfl ?_
                refine gs rfl ?_
                refine gs rfl ?_
                refine gs rfl ?_
                refine gs rfl ?_
                refine gs rfl ?_
                refine gs rfl ?_
                refine gs rfl ?_
                refine and_3 (Nat.le_of_ble_eq_true rfl) rfl (vin rfl) ?_
                refine gs rfl ?_
                refine gs rfl ?_
                refine gs rfl ?_
                refine gs rfl ?_
                refine gs rfl ?_
                refine gs rfl ?_
                refine gs rfl ?_
                refine gs rfl ?_
                refine gs rfl ?_
                refine gs rfl ?_
                refine gs rfl ?_
                refine gs rfl ?_
                refine gs rfl ?_
                refine gs rfl ?_
                refine and_3 (Nat.le_of_ble_eq_true rfl) rfl (vin rfl) ?_
                refine gs rfl ?_
                refine gs rfl ?_
                refine gs rfl ?_
                refine gs rfl ?_
                refine gs rfl ?_
                refine gs rfl ?_
                refine gs rfl ?_
                refine gs rfl ?_
                refine gs rfl ?_
                refine gs rfl ?_
                refine gs rfl ?_
                refine gs rfl ?_
                refine gs rfl ?_
                refine gs rfl ?_
                refine and_3 (Nat.le_of_ble_eq_true rfl) rfl (vin rfl) ?_
                refine gs rfl ?_
                refine gs rfl ?_
                refine gs rfl ?_
                refine gs rfl ?_
                refine gs rfl ?_
                refine gs rfl ?_
                refine gs rfl ?_
                refine gs rfl ?_
                refine gs rfl ?_
                refine gs rfl ?_
                refine gs rfl ?_
                refine gs rfl ?_
                refine gs rfl ?_
                refine gs rfl ?_
                refine and_3 (Nat.le_of_ble_eq_true rfl) rfl (vin rfl) ?_
                refine gs rfl ?_
                refine gs rfl ?_
                refine gs rfl ?_
                refine gs rfl ?_
                refine gs rfl ?_
                refine gs rfl ?_
                refine gs rfl ?_
                refine gs rfl ?_
                refine gs rfl ?_
                refine gs rfl ?_
                refine gs rfl ?_
                refine gs rfl ?_
                refine gs rfl ?_
                refine gs rfl ?_
                refine and_3 (Nat.le_of_ble_eq_true rfl) rfl (vin rfl) ?_
                refine gs rfl ?_
                refine gs rfl ?_
                refine gs rfl ?_
                refine gs rfl ?_
                refine gs rfl ?_
                refine gs rfl ?_
                refine gs rfl ?_
                refine gs rfl ?_
                refine gs rfl ?_
                refine gs rfl ?_
                refine gs rfl ?_
                refine gs rfl ?_
                refine gs rfl ?_
                refine gs rfl ?_
                refine and_3 (Nat.le_of_ble_eq_true rfl) rfl (vin rfl) ?_
                refine gs rfl ?_
                refine gs rfl ?_
                refine gs rfl ?_
                refine gs rfl ?_
                refine gs rfl ?_
                refine gs rfl ?_
                refine gs rfl ?_
                refine gs rfl ?_
                refine gs rfl ?_
                refine gs rfl ?_
                refine gs rfl ?_
                refine gs rfl ?_
                refine gs rfl ?_
                refine gs rfl ?_
                refine and_3 (Nat.le_of_ble_eq_true rfl) rfl (vin rfl) ?_
                refine gs rfl ?_
                refine gs rfl ?_
                refine gs rfl ?_
                refine gs rfl ?_
                refine gs rfl ?_
                refine gs rfl ?_
                refine gs rfl ?_
                refine gs rfl ?_
                refine gs rfl ?_
                refine gs rfl ?_
                refine gs rfl ?_
                refine gs rfl ?_
                refine gs rfl ?_
                refine gs rfl ?_
                refine and_3 (Nat.le_of_ble_eq_true rfl) rfl (vin rfl) ?_
                refine gs rfl ?_
                refine gs rfl ?_
                refine gs rfl ?_
                refine gs rfl ?_
                refine gs rfl ?_
                refine gs rfl ?_
                refine gs rfl ?_
                refine gs rfl ?_
                refine gs rfl ?_
                refine gs rfl ?_
                refine gs rfl ?_
                refine gs rfl ?_
                refine gs rfl ?_
                refine gs rfl ?_
                refine and_3 (Nat.le_of_ble_eq_true rfl) rfl (vin rfl) ?_
                refine gs rfl ?_
                refine gs rfl ?_
                refine gs rfl ?_
                refine gs rfl ?_
                refine gs rfl ?_
                refine gs rfl ?_
                refine gs rfl ?_
                refine gs rfl ?_
                refine gs rfl ?_
                refine gs rfl ?_
                refine gs rfl ?_
                refine gs rfl ?_
                refine gs rfl ?_
                refine gs rfl ?_
                refine and_3 (Nat.le_of_ble_eq_true rfl) rfl (vin rfl) ?_
                refine gs rfl ?_
                refine gs rfl ?_
                refine gs rfl ?_
                refine gs rfl ?_
                refine gs rfl ?_
                refine gs rfl ?_
                refine gs rfl ?_
                refine gs rfl ?_
                refine gs rfl ?_
                refine gs rfl ?_
                refine gs rfl ?_
                refine gs rfl ?_
                refine gs rfl ?_
                refine gs rfl ?_
                refine and_3 (Nat.le_of_ble_eq_true rfl) rfl (vin rfl) ?_
                refine gs rfl ?_
                refine gs rfl ?_
                refine gs rfl ?_
                refine gs rfl ?_
                refine gs rfl ?_
                refine gs rfl ?_
                refine gs rfl ?_
                refine gs rfl ?_
                refine gs rfl ?_
                refine gs rfl ?_
                refine gs rfl ?_
                refine gs rfl ?_
                refine gs rfl ?_
                refine gs rfl ?_
                refine and_3 (Nat.le_of_ble_eq_true rfl) rfl (vin rfl) ?_
                refine gs rfl ?_
                refine gs rfl ?_
                refine gs rfl ?_
                refine gs rfl ?_
                refine gs rfl ?_
                refine gs rfl ?_
                refine gs rfl ?_
                refine gs rfl ?_
                refine gs rfl ?_
                refine gs rfl ?_
                refine gs rfl ?_
                refine gs rfl ?_
                refine gs rfl ?_
                refine gs rfl ?_
                refine and_3 (Nat.le_of_ble_eq_true rfl) rfl (vin rfl) ?_
                refine gs rfl ?_
                refine gs rfl ?_
                refine gs rfl ?_
                refine gs rfl ?_
                refine gs rfl ?_
                refine gs rfl ?_
                refine gs rfl ?_
                refine gs rfl ?_
                refine gs rfl ?_
                refine gs rfl ?_
                refine gs rfl ?_
                refine gs rfl ?_
                refine gs rfl ?_
                refine gs rfl ?_
                refine and_3 (Nat.le_of_ble_eq_true rfl) rfl (vin rfl) ?_
                refine gs rfl ?_
                refine gs rfl ?_
                refine gs rfl ?_
                refine gs rfl ?_
                refine gs rfl ?_
                refine gs rfl ?_
                refine gs rfl ?_
                refine gs rfl ?_
                refine gs rfl ?_
                refine gs rfl ?_
                refine gs rfl ?_
                refine gs rfl ?_
                refine gs rfl ?_
                refine gs rfl ?_
                refine and_3 (Nat.le_of_ble_eq_true rfl) rfl (vin rfl) ?_
                refine gs rfl ?_
                refine gs rfl ?_
                refine gs rfl ?_
                refine gs rfl ?_
                refine gs rfl ?_
                refine gs rfl ?_
                refine gs rfl ?_
                refine gs rfl ?_
                refine gs rfl ?_
                refine gs rfl ?_
                refine gs rfl ?_
                refine gs rfl ?_
                refine gs rfl ?_
                refine gs rfl ?_
                refine and_3 (Nat.le_of_ble_eq_true rfl) rfl (vin rfl) ?_
                refine gs rfl ?_
                refine gs rfl ?_
                refine gs rfl ?_
                refine gs rfl ?_
                refine gs rfl ?_
                refine gs rfl ?_
                refine gs rfl ?_
                refine gs rfl ?_
                refine gs rfl ?_
                refine gs rfl ?_
                refine gs rfl ?_
                refine gs rfl ?_
                refine gs rfl ?_
                refine gs rfl ?_
                refine and_3 (Nat.le_of_ble_eq_true rfl) rfl (vin rfl) ?_
                refine gs rfl ?_
                refine gs rfl ?_
                refine gs rfl ?_
                refine gs rfl ?_
                refine gs rfl ?_
                refine gs rfl ?_
                refine gs rfl ?_
                refine gs rfl ?_
                refine gs rfl ?_
                refine gs rfl ?_
                refine gs rfl ?_
                refine gs rfl ?_
                refine gs rfl ?_
                refine gs rfl ?_
                refine and_3 (Nat.le_of_ble_eq_true rfl) rfl (vin rfl) ?_
                refine gs rfl ?_
                refine gs rfl ?_
                refine gs rfl ?_
                refine gs rfl ?_
                refine gs rfl ?_
                refine gs rfl ?_
                refine gs rfl ?_
                refine gs rfl ?_
                refine gs rfl ?_
                refine gs rfl ?_
                refine gs rfl ?_
                refine gs rfl ?_
                refine gs rfl ?_
                refine gs rfl ?_
                refine and_3 (Nat.le_of_ble_eq_true rfl) rfl (vin rfl) ?_
                refine gs rfl ?_
                refine gs rfl ?_
                refine gs rfl ?_
                refine gs rfl ?_
                refine gs rfl ?_
                refine gs rfl ?_
                refine gs rfl ?_
                refine gs rfl ?_
                refine gs rfl ?_
                refine gs rfl ?_
                refine gs rfl ?_
                refine gs rfl ?_
                refine gs rfl ?_
                refine gs rfl ?_
                refine and_3 (Nat.le_of_ble_eq_true rfl) rfl (vin rfl) ?_
                refine gs rfl ?_
                refine gs rfl ?_
                refine gs rfl ?_
                refine gs rfl ?_
                refine gs rfl ?_
                refine gs rfl ?_
                refine gs rfl ?_
                refine gs rfl ?_
                refine gs rfl ?_
                refine gs rfl ?_
                refine gs rfl ?_
                refine gs rfl ?_
                refine gs rfl ?_
                refine gs rfl ?_
                refine and_3 (Nat.le_of_ble_eq_true rfl) rfl (vin rfl) ?_
                refine gs rfl ?_
                refine gs rfl ?_
                refine gs rfl ?_
                refine gs rfl ?_
                refine gs rfl ?_
                refine gs rfl ?_
                refine gs rfl ?_
                refine gs rfl ?_
                refine gs rfl ?_
                refine gs rfl ?_
                refine gs rfl ?_
                refine gs rfl ?_
                refine gs rfl ?_
                refine gs rfl ?_
                refine and_3 (Nat.le_of_ble_eq_true rfl) rfl (vin rfl) ?_
                refine gs rfl ?_
                refine gs rfl ?_
                refine gs rfl ?_
                refine gs rfl ?_
                refine gs rfl ?_
                refine gs rfl ?_
                refine gs rfl ?_
                refine gs rfl ?_
                refine gs rfl ?_
                refine gs rfl ?_
                refine gs rfl ?_
                refine gs rfl ?_
                refine gs rfl ?_
                refine gs rfl ?_
                refine and_3 (Nat.le_of_ble_eq_true rfl) rfl (vin rfl) ?_
                refine gs rfl ?_
                refine gs rfl ?_
                refine gs rfl ?_
                refine gs rfl ?_
                refine gs rfl ?_
                refine gs rfl ?_
                refine gs rfl ?_
                refine gs rfl ?_
                refine gs rfl ?_
                refine gs rfl ?_
                refine gs rfl ?_
                refine gs rfl ?_
                refine gs rfl ?_
                refine gs rfl ?_
                refine and_3 (Nat.le_of_ble_eq_true rfl) rfl (vin rfl) ?_
                refine gs rfl ?_
                refine gs rfl ?_
                refine gs rfl ?_
                refine gs rfl ?_
                refine gs rfl ?_
                refine gs rfl ?_
                refine gs rfl ?_
                refine gs rfl ?_
                refine gs rfl ?_
                refine gs rfl ?_
                refine gs rfl ?_
                refine gs rfl ?_
                refine gs rfl ?_
                refine gs rfl ?_
                refine and_3 (Nat.le_of_ble_eq_true rfl) rfl (vin rfl) ?_
                refine gs rfl ?_
                refine gs rfl ?_
                refine gs rfl ?_
                refine gs rfl ?_
                refine gs rfl ?_
                refine gs rfl ?_
                refine gs rfl ?_
                refine gs rfl ?_
                refine gs rfl ?_
                refine gs rfl ?_
                refine gs rfl ?_
                refine gs rfl ?_
                refine gs rfl ?_
                refine gs rfl ?_
                refine and_3 (Nat.le_of_ble_eq_true rfl) rfl (vin rfl) ?_
                refine gs rfl ?_
                refine gs rfl ?_
                refine gs rfl ?_
                refine gs rfl ?_
                refine gs rfl ?_
                refine gs rfl ?_
                refine gs rfl ?_
                refine gs rfl ?_
                refine gs rfl ?_
                refine gs rfl ?_
                refine gs rfl ?_
                refine gs rfl ?_
                refine gs rfl ?_
                refine gs rfl ?_
                refine and_3 (Nat.le_of_ble_eq_true rfl) rfl (vin rfl) ?_
                refine gs rfl ?_
                refine gs rfl ?_
                refine gs rfl ?_
                refine gs rfl ?_
                refine gs rfl ?_
                refine gs rfl ?_
                refine gs rfl ?_
                refine gs rfl ?_
                refine gs rfl ?_
                refine gs rfl ?_
                refine gs rfl ?_
                refine gs rfl ?_
                refine gs rfl ?_
                refine gs rfl ?_
                refine and_3 (Nat.le_of_ble_eq_true rfl) rfl (vin rfl) ?_
                refine gs rfl ?_
                refine gs rfl ?_
                refine gs rfl ?_
                refine gs rfl ?_
                refine gs rfl ?_
                refine gs rfl ?_
                refine gs rfl ?_
                refine gs rfl ?_
                refine gs rfl ?_
                refine gs rfl ?_
                refine gs rfl ?_
                refine gs rfl ?_
                refine gs rfl ?_
                refine gs rfl ?_
                refine and_3 (Nat.le_of_ble_eq_true rfl) rfl (vin rfl) ?_
                refine gs rfl ?_
                refine gs rfl ?_
                refine gs rfl ?_
                refine gs rfl ?_
                refine gs rfl ?_
                refine gs rfl ?_
                refine gs rfl ?_
                refine gs rfl ?_
                refine gs rfl ?_
                refine gs rfl ?_
                refine gs rfl ?_
                refine gs rfl ?_
                refine gs rfl ?_
                refine gs rfl ?_
                refine and_3 (Nat.le_of_ble_eq_true rfl) rfl (vin rfl) ?_
                refine gs rfl ?_
                refine gs rfl ?_
                refine gs rfl ?_
                refine gs rfl ?_
                refine gs rfl ?_
                refine gs rfl ?_
                refine gs rfl ?_
                refine and_i rfl ?_
                refine gs rfl ?_
                refine gs rfl ?_
                refine gs rfl ?_
                refine gs rfl ?_
                refine gs rfl ?_
                refine gs rfl ?_
                refine and_i (Or.inl rfl) ?_
                refine gwst (congrArg (fun z => Value.int z :: _) (alen_k (n := 6) (by rfl))) ?_
                refine gs rfl ?_
                refine gs rfl ?_
                refine gs rfl ?_
                refine gs rfl ?_
                refine gs rfl ?_
                refine and_2 rfl (Or.inr rfl) ?_
                exact rfl
              · have x18q : s1 = (3 : Int32) := x18
                clear x18
                subst x18q
                refine gs rfl ?_
                refine and_2 (Nat.le_of_ble_eq_true rfl) (vin rfl) ?_
                refine and_2 rfl (fun z q => by cases q) ?_
                refine gs rfl ?_
                refine gs rfl ?_
                refine gs rfl ?_
                refine and_i (Nat.le_of_ble_eq_true rfl) (cl0 (Nat.le_of_ble_eq_true rfl) (and_i (Nat.le_of_ble_eq_true rfl) ?_))
                refine gs rfl ?_
                refine gs rfl ?_
                refine gs rfl ?_
                refine and_3 (Nat.le_of_ble_eq_true rfl) (Nat.le_of_ble_eq_true rfl) trivial ?_
                refine gs rfl ?_
                refine gs rfl ?_
                refine gs rfl ?_
                refine and_3 (Nat.le_of_ble_eq_true rfl) (Nat.le_of_ble_eq_true rfl) trivial ?_
                refine gs rfl ?_
                refine gs rfl ?_
                refine gs rfl ?_
                refine gs rfl ?_
                refine and_i (Nat.le_of_ble_eq_true rfl) (cl0 (Nat.le_of_ble_eq_true rfl) (and_i (Nat.le_of_ble_eq_true rfl) ?_))
                refine gs rfl ?_
                refine gs rfl ?_
                refine gs rfl ?_
                refine gs rfl ?_
                refine and_i (Or.inl rfl) ?_
                refine gwst (congrArg (fun z => Value.int z :: _) (alen_k (n := 40) (by rfl))) ?_
                refine gs rfl ?_
                refine gs rfl ?_
                refine gs rfl ?_
                refine gs rfl ?_
                refine gs rfl ?_
                refine gs rfl ?_
                refine gs rfl ?_
                refine gs rfl ?_
                refine and_3 (Nat.le_of_ble_eq_true rfl) rfl (vin rfl) ?_
                refine gs rfl ?_
                refine gs rfl ?_
                refine gs rfl ?_
                refine gs rfl ?_
                refine gs rfl ?_
                refine gs rfl ?_
                refine gs rfl ?_
                refine gs rfl ?_
                refine gs rfl ?_
                refine and_3 (Nat.le_of_ble_eq_true rfl) rfl (vin rfl) ?_
                refine gs rfl ?_
                refine gs rfl ?_
                refine gs rfl ?_
                refine gs rfl ?_
                refine gs rfl ?_
                refine gs rfl ?_
                refine gs rfl ?_
                refine gs rfl ?_
                refine gs rfl ?_
                refine and_3 (Nat.le_of_ble_eq_true rfl) rfl (vin rfl) ?_
                refine gs rfl ?_
                refine gs rfl ?_
                refine gs rfl ?_
                refine gs rfl ?_
                refine gs rfl ?_
                refine gs rfl ?_
                refine gs rfl ?_
                refine gs rfl ?_
                refine gs rfl ?_
                refine and_3 (Nat.le_of_ble_eq_true rfl) rfl (vin rfl) ?_
                refine gs rfl ?_
                refine gs rfl ?_
                refine gs rfl ?_
                refine gs rfl ?_
                refine gs rfl ?_
                refine gs rfl ?_
                refine gs rfl ?_
                refine gs rfl ?_
                refine gs rfl ?_
                refine and_3 (Nat.le_of_ble_eq_true rfl) rfl (vin rfl) ?_
                refine gs rfl ?_
                refine gs rfl ?_
                refine gs rfl ?_
                refine gs rfl ?_
                refine gs rfl ?_
                refine gs rfl ?_
                refine gs rfl ?_
                refine gs rfl ?_
                refine gs rfl ?_
                refine and_3 (Nat.le_of_ble_eq_true rfl) rfl (vin rfl) ?_
                refine gs rfl ?_
                refine gs rfl ?_
                refine gs rfl ?_
                refine gs rfl ?_
                refine gs rfl ?_
                refine gs rfl ?_
                refine gs rfl ?_
                refine gs rfl ?_
                refine gs rfl ?_
                refine and_3 (Nat.le_of_ble_eq_true rfl) rfl (vin rfl) ?_
                refine gs rfl ?_
                refine gs rfl ?_
                refine gs rfl ?_
                refine gs rfl ?_
                refine gs rfl ?_
                refine gs rfl ?_
                refine gs rfl ?_
                refine gs rfl ?_
                refine gs rfl ?_
                refine and_3 (Nat.le_of_ble_eq_true rfl) rfl (vin rfl) ?_
                refine gs rfl ?_
                refine gs rfl ?_
                refine gs rfl ?_
                refine gs rfl ?_
                refine gs rfl ?_
                refine gs rfl ?_
                refine gs rfl ?_
                refine gs rfl ?_
                refine gs rfl ?_
                refine and_3 (Nat.le_of_ble_eq_true rfl) rfl (vin rfl) ?_
                refine gs rfl ?_
                refine gs rfl ?_
                refine gs rfl ?_
                refine gs rfl ?_
                refine gs rfl ?_
                refine gs rfl ?_
                refine gs rfl ?_
                refine gs rfl ?_
                refine gs rfl ?_
                refine and_3 (Nat.le_of_ble_eq_true rfl) rfl (vin rfl) ?_
                refine gs rfl ?_
                refine gs rfl ?_
                refine gs rfl ?_
                refine gs rfl ?_
                refine gs rfl ?_
                refine gs rfl ?_
                refine gs rfl ?_
                refine gs rfl ?_
                refine gs rfl ?_
                refine and_3 (Nat.le_of_ble_eq_true rfl) rfl (vin rfl) ?_
                refine gs rfl ?_
                refine gs rfl ?_
                refine gs rfl ?_
                refine gs rfl ?_
                refine gs rfl ?_
                refine gs rfl ?_
                refine gs rfl ?_
                refine gs rfl ?_
                refine gs rfl ?_
                refine and_3 (Nat.le_of_ble_eq_true rfl) rfl (vin rfl) ?_
                refine gs rfl ?_
                refine gs rfl ?_
                refine gs rfl ?_
                refine gs rfl ?_
                refine gs rfl ?_
                refine gs rfl ?_
                refine gs rfl ?_
                refine gs rfl ?_
                refine gs rfl ?_
                refine and_3 (Nat.le_of_ble_eq_true rfl) rfl (vin rfl) ?_
                refine gs rfl ?_
                refine gs rfl ?_
                refine gs rfl ?_
                refine gs rfl ?_
                refine gs rfl ?_
                refine gs rfl ?_
                refine gs rfl ?_
                refine gs rfl ?_
                refine gs rfl ?_
                refine and_3 (Nat.le_of_ble_eq_true rfl) rfl (vin rfl) ?_
                refine gs rfl ?_
                refine gs rfl ?_
                refine gs rfl ?_
                refine gs rfl ?_
                refine gs rfl ?_
                refine gs rfl ?_
                refine gs rfl ?_
                refine gs rfl ?_
                refine gs rfl ?_
                refine and_3 (Nat.le_of_ble_eq_true rfl) rfl (vin rfl) ?_
                refine gs rfl ?_
                refine gs rfl ?_
                refine gs rfl ?_
                refine gs rfl ?_
                refine gs rfl ?_
                refine gs rfl ?_
                refine gs rfl ?_
                refine gs rfl ?_
                refine gs rfl ?_
                refine and_3 (Nat.le_of_ble_eq_true rfl) rfl (vin rfl) ?_
                refine gs rfl ?_
                refine gs rfl ?_
                refine gs rfl ?_
                refine gs rfl ?_
                refine gs rfl ?_
                refine gs rfl ?_
                refine gs rfl ?_
                refine gs rfl ?_
                refine gs rfl ?_
                refine and_3 (Nat.le_of_ble_eq_true rfl) rfl (vin rfl) ?_
                refine gs rfl ?_
                refine gs rfl ?_
                refine gs rfl ?_
                refine gs rfl ?_
                refine gs rfl ?_
                refine gs rfl ?_
                refine gs rfl ?_
                refine gs rfl ?_
                refine gs rfl ?_
                refine and_3 (Nat.le_of_ble_eq_true rfl) rfl (vin rfl) ?_
                refine gs rfl ?_
                refine gs rfl ?_
                refine gs rfl ?_
                refine gs rfl ?_
                refine gs rfl ?_
                refine gs rfl ?_
                refine gs rfl ?_
                refine gs rfl ?_
                refine gs rfl ?_
                refine and_3 (Nat.le_of_ble_eq_true rfl) rfl (vin rfl) ?_
                refine gs rfl ?_
                refine gs rfl ?_
                refine gs rfl ?_
                refine gs rfl ?_
                refine gs rfl ?_
                refine gs rfl ?_
                refine gs rfl ?_
                refine gs rfl ?_
                refine gs rfl ?_
                refine and_3 (Nat.le_of_ble_eq_true rfl) rfl (vin rfl) ?_
                refine gs rfl ?_
                refine gs rfl ?_
                refine gs rfl ?_
                refine gs rfl ?_
                refine gs rfl ?_
                refine gs rfl ?_
                refine gs rfl ?_
                refine gs rfl ?_
                refine gs rfl ?_
                refine and_3 (Nat.le_of_ble_eq_true rfl) rfl (vin rfl) ?_
                refine gs rfl ?_
                refine gs rfl ?_
                refine gs rfl ?_
                refine gs rfl ?_
                refine gs rfl ?_
                refine gs rfl ?_
                refine gs rfl ?_
                refine gs rfl ?_
                refine gs rfl ?_
                refine and_3 (Nat.le_of_ble_eq_true rfl) rfl (vin rfl) ?_
                refine gs rfl ?_
                refine gs rfl ?_
                refine gs rfl ?_
                refine gs rfl ?_
                refine gs rfl ?_
                refine gs rfl ?_
                refine gs rfl ?_
                refine gs rfl ?_
                refine gs rfl ?_
                refine and_3 (Nat.le_of_ble_eq_true rfl) rfl (vin rfl) ?_
                refine gs rfl ?_
                refine gs rfl ?_
                refine gs rfl ?_
                refine gs rfl ?_
                refine gs rfl ?_
                refine gs rfl ?_
                refine gs rfl ?_
                refine gs rfl ?_
                refine gs rfl ?_
                refine and_3 (Nat.le_of_ble_eq_true rfl) rfl (vin rfl) ?_
                refine gs rfl ?_
                refine gs rfl ?_
                refine gs rfl ?_
                refine gs rfl ?_
                refine gs rfl ?_
                refine gs rfl ?_
                refine gs rfl ?_
                refine gs rfl ?_
                refine gs rfl ?_
                refine and_3 (Nat.le_of_ble_eq_true rfl) rfl (vin rfl) ?_
                refine gs rfl ?_
                refine gs rfl ?_
                refine gs rfl ?_
                refine gs rfl ?_
                refine gs rfl ?_
                refine gs rfl ?_
                refine gs rfl ?_
                refine gs rfl ?_
                refine gs rfl ?_
                refine and_3 (Nat.le_of_ble_eq_true rfl) rfl (vin rfl) ?_
                refine gs rfl ?_
                refine gs rfl ?_
                refine gs rfl ?_
                refine gs rfl ?_
                refine gs rfl ?_
                refine gs rfl ?_
                refine gs rfl ?_
                refine gs rfl ?_
                refine gs rfl ?_
                refine and_3 (Nat.le_of_ble_eq_true rfl) rfl (vin rfl) ?_
                refine gs rfl ?_
                refine gs rfl ?_
                refine gs rfl ?_
                refine gs rfl ?_
                refine gs rfl ?_
                refine gs rfl ?_
                refine gs rfl ?_
                refine gs rfl ?_
                refine gs rfl ?_
                refine and_3 (Nat.le_of_ble_eq_true rfl) rfl (vin rfl) ?_
                refine gs rfl ?_
                refine gs rfl ?_
                refine gs rfl ?_
                refine gs rfl ?_
                refine gs rfl ?_
                refine gs rfl ?_
                refine gs rfl ?_
                refine gs rfl ?_
                refine gs rfl ?_
                refine and_3 (Nat.le_of_ble_eq_true rfl) rfl (vin rfl) ?_
                refine gs rfl ?_
                refine gs rfl ?_
                refine gs rfl ?_
                refine gs rfl ?_
                refine gs rfl ?_
                refine gs rfl ?_
                refine gs rfl ?_
                refine gs rfl ?_
                refine gs rfl ?_
                refine and_3 (Nat.le_of_ble_eq_true rfl) rfl (vin rfl) ?_
                refine gs rfl ?_
                refine gs rfl ?_
                refine gs rfl ?_
                refine gs rfl ?_
                refine gs rfl ?_
                refine gs rfl ?_
                refine gs rfl ?_
                refine gs rfl ?_
                refine gs rfl ?_
                refine and_3 (Nat.le_of_ble_eq_true rfl) rfl (vin rfl) ?_
                refine gs rfl ?_
                refine gs rfl ?_
                refine gs rfl ?_
                refine gs rfl ?_
                refine gs rfl ?_
                refine gs rfl ?_
                refine gs rfl ?_
                refine gs rfl ?_
                refine gs rfl ?_
                refine and_3 (Nat.le_of_ble_eq_true rfl) rfl (vin rfl) ?_
                refine gs rfl ?_
                refine gs rfl ?_
                refine gs rfl ?_
                refine gs rfl ?_
                refine gs rfl ?_
                refine gs rfl ?_
                refine gs rfl ?_
                refine gs rfl ?_
                refine gs rfl ?_
                refine and_3 (Nat.le_of_ble_eq_true rfl) rfl (vin rfl) ?_
                refine gs rfl ?_
                refine gs rfl ?_
                refine gs rfl ?_
                refine gs rfl ?_
                refine gs rfl ?_
                refine gs rfl ?_
                refine gs rfl ?_
                refine gs rfl ?_
                refine gs rfl ?_
                refine and_3 (Nat.le_of_ble_eq_true rfl) rfl (vin rfl) ?_
                refine gs rfl ?_
                refine gs rfl ?_
                refine gs rfl ?_
                refine gs rfl ?_
                refine gs rfl ?_
                refine gs rfl ?_
                refine gs rfl ?_
                refine gs rfl ?_
                refine gs rfl ?_
                refine and_3 (Nat.le_of_ble_eq_true rfl) rfl (vin rfl) ?_
                refine gs rfl ?_
                refine gs rfl ?_
                refine gs rfl ?_
                refine gs rfl ?_
                refine gs rfl ?_
                refine gs rfl ?_
                refine gs rfl ?_
                refine gs rfl ?_
                refine gs rfl ?_
                refine and_3 (Nat.le_of_ble_eq_true rfl) rfl (vin rfl) ?_
                refine gs rfl ?_
                refine gs rfl ?_
                refine gs rfl ?_
                refine gs rfl ?_
                refine gs rfl ?_
                refine gs rfl ?_
                refine gs rfl ?_
                refine gs rfl ?_
                refine gs rfl ?_
                refine and_3 (Nat.le_of_ble_eq_true rfl) rfl (vin rfl) ?_
                refine gs rfl ?_
                refine gs rfl ?_
                refine gs rfl ?_
                refine gs rfl ?_
                refine gs rfl ?_
                refine gs rfl ?_
                refine gs rfl ?_
                refine gs rfl ?_
                refine gs rfl ?_
                refine and_3 (Nat.le_of_ble_eq_true rfl) rfl (vin rfl) ?_
                refine gs rfl ?_
                refine gs rfl ?_
                refine gs rfl ?_
                refine gs rfl ?_
                refine gs rfl ?_
                refine gs rfl ?_
                refine gs rfl ?_
                refine gs rfl ?_
                refine gs rfl ?_
                refine and_3 (Nat.le_of_ble_eq_true rfl) rfl (vin rfl) ?_
                refine gs rfl ?_
                refine gs rfl ?_
                refine gs rfl ?_
                refine gs rfl ?_
                refine gs rfl ?_
                refine gs rfl ?_
                refine gs rfl ?_
                refine gs rfl ?_
                refine gs rfl ?_
                refine and_3 (Nat.le_of_ble_eq_true rfl) rfl (vin rfl) ?_
                refine gs rfl ?_
                refine gs rfl ?_
                refine gs rfl ?_
                refine gs rfl ?_
                refine gs rfl ?_
                refine gs rfl ?_
                refine and_i rfl ?_
                refine gs rfl ?_
                refine and_i rfl ?_
                refine gs rfl ?_
                refine gs rfl ?_
                refine and_i rfl ?_
                refine FRg rfl (fun f => ?_)
                refine gs rfl ?_
                refine gs rfl ?_
                refine gs rfl ?_
                refine gs rfl ?_
                refine gs rfl ?_
                refine gs rfl ?_
                refine and_2 rfl (vin rfl) ?_
                refine gs rfl ?_
                refine gs rfl ?_
                refine gs rfl ?_
                refine gs rfl ?_
                refine gs rfl ?_
                refine and_2 rfl (vin rfl) ?_
                refine gs rfl ?_
                refine gs rfl ?_
                refine gs rfl ?_
                refine gs rfl ?_
                refine gs rfl ?_
                refine and_2 rfl (vin rfl) ?_
                refine gs rfl ?_
                refine and_i (Nat.le_of_ble_eq_true rfl) (cl0 (Nat.le_of_ble_eq_true rfl) (and_i (Nat.le_of_ble_eq_true rfl) ?_))
                refine gs rfl ?_
                refine gs rfl ?_
                refine and_i (Nat.le_of_ble_eq_true rfl) (cl0 (Nat.le_of_ble_eq_true rfl) (and_i (Nat.le_of_ble_eq_true rfl) ?_))
                refine gs rfl ?_
                refine gs rfl ?_
                refine gs rfl ?_
                refine gs rfl ?_
                refine and_i (Nat.le_of_ble_eq_true rfl) (cl0 (Nat.le_of_ble_eq_true rfl) (and_i (Nat.le_of_ble_eq_true rfl) ?_))
                refine gs rfl ?_
                refine gs rfl ?_
                refine gs rfl ?_
                refine gs rfl ?_
                refine gs rfl ?_
                refine gs rfl ?_
                refine gs rfl ?_
                refine gs rfl ?_
                refine gs rfl ?_
                refine and_2 rfl (Or.inr rfl) ?_
                refine gs rfl ?_
                refine and_2 rfl (Or.inr rfl) ?_
                refine gs rfl ?_
                refine gs rfl ?_
                refine gs rfl ?_
                refine ifF ((fun q => absurd ((eq_k (a := (s2).toInt) (b := 0) (by rfl) (by rfl)).mp q) (by omega))) ?_
                refine gs rfl ?_
                refine gs rfl ?_
                refine gs rfl ?_
                refine ifT ((eq_k (a := (s2).toInt) (b := 8) (by rfl) (by rfl)).mpr (by omega)) ?_
                refine gs rfl ?_
                refine gs rfl ?_
                refine ifF ((fun q => absurd ((eq_k (a := (s2).toInt) (b := 0) (by rfl) (by rfl)).mp q) (by omega))) ?_
                refine gs rfl ?_
                refine gs rfl ?_
                refine ifT ((le_k (a := 0) (b := (s3).toInt) (by rfl) (by rfl)).mpr (by omega)) ?_
                refine gs rfl ?_
                refine gs rfl ?_
                refine ifF ((fun q => absurd ((eq_k (a := (s2).toInt) (b := 0) (by rfl) (by rfl)).mp q) (by omega))) ?_
                refine gs rfl ?_
                refine gs rfl ?_
                refine gs rfl ?_
                refine ifT ((le_k (a := (s3).toInt) (b := 40) (by rfl) (by rfl)).mpr (by omega)) ?_
                refine gs rfl ?_
                refine gs rfl ?_
                refine gs rfl ?_
                refine gs rfl ?_
                refine gs rfl ?_
                refine and_3 (Nat.le_of_ble_eq_true rfl) rfl (vin rfl) ?_
                refine gs rfl ?_
                refine gs rfl ?_
                refine gs rfl ?_
                refine gs rfl ?_
                refine gs rfl ?_
                refine ifF ((fun q => absurd ((eq_k (a := (s2).toInt) (b := 0) (by rfl) (by rfl)).mp q) (by omega))) ?_
                refine gs rfl ?_
                refine gs rfl ?_
                refine and_3 (Nat.le_of_ble_eq_true rfl) rfl (vin rfl) ?_
                refine gs rfl ?_
                refine gs rfl ?_
                refine gs rfl ?_
                refine gs rfl ?_
                refine gs rfl ?_
                refine gs rfl ?_
                refine gs rfl ?_
                refine gs rfl ?_
                refine gs rfl ?_
                refine gs rfl ?_
                refine gs rfl ?_
                refine gs rfl ?_
                refine gs rfl ?_
                refine gs rfl ?_
                refine and_3 (Nat.le_of_ble_eq_true rfl) rfl (vin rfl) ?_
                refine gs rfl ?_
                refine gs rfl ?_
                refine gs rfl ?_
                refine gs rfl ?_
                refine gs rfl ?_
                refine gs rfl ?_
                refine gs rfl ?_
                refine gs rfl ?_
                refine gs rfl ?_
                refine gs rfl ?_
                refine gs rfl ?_
                refine gs rfl ?_
                refine gs rfl ?_
                refine gs rfl ?_
                refine and_3 (Nat.le_of_ble_eq_true rfl) rfl (vin rfl) ?_
                refine gs rfl ?_
                refine gs rfl ?_
                refine gs rfl ?_
                refine gs rfl ?_
                refine gs rfl ?_
                refine gs rfl ?_
                refine gs rfl ?_
                refine gs rfl ?_
                refine gs rfl ?_
                refine gs rfl ?_
                refine gs rfl ?_
                refine gs rfl ?_
                refine gs rfl ?_
                refine gs rfl ?_
                refine and_3 (Nat.le_of_ble_eq_true rfl) rfl (vin rfl) ?_
                refine gs rfl ?_
                refine gs rfl ?_
                refine gs rfl ?_
                refine gs rfl ?_
                refine gs rfl ?_
                refine gs rfl ?_
                refine gs rfl ?_
                refine gs rfl ?_
                refine gs rfl ?_
                refine gs rfl ?_
                refine gs rfl ?_
                refine gs rfl ?_
                refine gs rfl ?_
                refine gs rfl ?_
                refine and_3 (Nat.le_of_ble_eq_true rfl) rfl (vin rfl) ?_
                refine gs rfl ?_
                refine gs rfl ?_
                refine gs rfl ?_
                refine gs rfl ?_
                refine gs rfl ?_
                refine gs rfl ?_
                refine gs rfl ?_
                refine gs rfl ?_
                refine gs rfl ?_
                refine gs rfl ?_
                refine gs rfl ?_
                refine gs rfl ?_
                refine gs rfl ?_
                refine gs rfl ?_
                refine and_3 (Nat.le_of_ble_eq_true rfl) rfl (vin rfl) ?_
                refine gs rfl ?_
                refine gs rfl ?_
                refine gs rfl ?_
                refine gs rfl ?_
                refine gs rfl ?_
                refine gs rfl ?_
                refine gs rfl ?_
                refine gs rfl ?_
                refine gs rfl ?_
                refine gs rfl ?_
                refine gs rfl ?_
                refine gs rfl ?_
                refine gs rfl ?_
                refine gs rfl ?_
                refine and_3 (Nat.le_of_ble_eq_true rfl) rfl (vin rfl) ?_
                refine gs rfl ?_
                refine gs rfl ?_
                refine gs rfl ?_
                refine gs rfl ?_
                refine gs rfl ?_
                refine gs rfl ?_
                refine gs rfl ?_
                refine gs rfl ?_
                refine gs rfl ?_
                refine gs rfl ?_
                refine gs rfl ?_
                refine gs rfl ?_
                refine gs rfl ?_
                refine gs rfl ?_
                refine and_3 (Nat.le_of_ble_eq_true rfl) rfl (vin rfl) ?_
                refine gs rfl ?_
                refine gs rfl ?_
                refine gs rfl ?_
                refine gs rfl ?_
                refine gs rfl ?_
                refine gs rfl ?_
                refine gs rfl ?_
                refine gs rfl ?_
                refine gs rfl ?_
                refine gs rfl ?_
                refine gs rfl ?_
                refine gs rfl ?_
                refine gs rfl ?_
                refine gs rfl ?_
                refine and_3 (Nat.le_of_ble_eq_true rfl) rfl (vin rfl) ?_
                refine gs rfl ?_
                refine gs rfl ?_
                refine gs rfl ?_
                refine gs rfl ?_
                refine gs rfl ?_
                refine gs rfl ?_
                refine gs rfl ?_
                refine gs rfl ?_
                refine gs rfl ?_
                refine gs rfl ?_
                refine gs rfl ?_
                refine gs rfl ?_
                refine gs rfl ?_
                refine gs rfl ?_
                refine and_3 (Nat.le_of_ble_eq_true rfl) rfl (vin rfl) ?_
                refine gs rfl ?_
                refine gs rfl ?_
                refine gs rfl ?_
                refine gs rfl ?_
                refine gs rfl ?_
                refine gs rfl ?_
                refine gs rfl ?_
                refine gs rfl ?_
                refine gs rfl ?_
                refine gs rfl ?_
                refine gs rfl ?_
                refine gs rfl ?_
                refine gs rfl ?_
                refine gs rfl ?_
                refine and_3 (Nat.le_of_ble_eq_true rfl) rfl (vin rfl) ?_
                refine gs rfl ?_
                refine gs rfl ?_
                refine gs rfl ?_
                refine gs rfl ?_
                refine gs rfl ?_
                refine gs rfl ?_
                refine gs rfl ?_
                refine gs rfl ?_
                refine gs rfl ?_
                refine gs rfl ?_
                refine gs rfl ?_
                refine gs rfl ?_
                refine gs rfl ?_
                refine gs rfl ?_
                refine and_3 (Nat.le_of_ble_eq_true rfl) rfl (vin rfl) ?_
                refine gs rfl ?_
                refine gs rfl ?_
                refine gs rfl ?_
                refine gs rfl ?_
                refine gs rfl ?_
                refine gs rfl ?_
                refine gs rfl ?_
                refine gs rfl ?_
                refine gs rfl ?_
                refine gs rfl ?_
                refine gs rfl ?_
                refine gs rfl ?_
                refine gs rfl ?_
                refine gs rfl ?_
                refine and_3 (Nat.le_of_ble_eq_true rfl) rfl (vin rfl) ?_
                refine gs rfl ?_
                refine gs rfl ?_
                refine gs rfl ?_
                refine gs rfl ?_
                refine gs rfl ?_
                refine gs rfl ?_
                refine gs rfl ?_
                refine gs rfl ?_
                refine gs rfl ?_
                refine gs rfl ?_
                refine gs rfl ?_
                refine gs rfl ?_
                refine gs rfl ?_
                refine gs rfl ?_
                refine and_3 (Nat.le_of_ble_eq_true rfl) rfl (vin rfl) ?_
                refine gs rfl ?_
                refine gs rfl ?_
                refine gs rfl ?_
                refine gs rfl ?_
                refine gs rfl ?_
                refine gs rfl ?_
                refine gs rfl ?_
                refine gs rfl ?_
                refine gs rfl ?_
                refine gs rfl ?_
                refine gs rfl ?_
                refine gs rfl ?_
                refine gs rfl ?_
                refine gs rfl ?_
                refine and_3 (Nat.le_of_ble_eq_true rfl) rfl (vin rfl) ?_
                refine gs rfl ?_
                refine gs rfl ?_
                refine gs rfl ?_
                refine gs rfl ?_
                refine gs rfl ?_
                refine gs rfl ?_
                refine gs rfl ?_
                refine gs rfl ?_
                refine gs rfl ?_
                refine gs rfl ?_
                refine gs rfl ?_
                refine gs rfl ?_
                refine gs rfl ?_
                refine gs rfl ?_
                refine and_3 (Nat.le_of_ble_eq_true rfl) rfl (vin rfl) ?_
                refine gs rfl ?_
                refine gs rfl ?_
                refine gs rfl ?_
                refine gs rfl ?_
                refine gs rfl ?_
                refine gs rfl ?_
                refine gs rfl ?_
                refine gs rfl ?_
                refine gs rfl ?_
                refine gs rfl ?_
                refine gs rfl ?_
                refine gs rfl ?_
                refine gs rfl ?_
                refine gs rfl ?_
                refine and_3 (Nat.le_of_ble_eq_true rfl) rfl (vin rfl) ?_
                refine gs rfl ?_
                refine gs rfl ?_
                refine gs rfl ?_
                refine gs rfl ?_
                refine gs rfl ?_
                refine gs rfl ?_
                refine gs rfl ?_
                refine gs rfl ?_
                refine gs rfl ?_
                refine gs rfl ?_
                refine gs rfl ?_
                refine gs rfl ?_
                refine gs rfl ?_
                refine gs rfl ?_
                refine and_3 (Nat.le_of_ble_eq_true rfl) rfl (vin rfl) ?_
                refine gs rfl ?_
                refine gs rfl ?_
                refine gs rfl ?_
                refine gs rfl ?_
                refine gs rfl ?_
                refine gs rfl ?_
                refine gs rfl ?_
                refine gs rfl ?_
                refine gs rfl ?_
                refine gs rfl ?_
                refine gs rfl ?_
                refine gs rfl ?_
                refine gs rfl ?_
                refine gs rfl ?_
                refine and_3 (Nat.le_of_ble_eq_true rfl) rfl (vin rfl) ?_
                refine gs rfl ?_
                refine gs rfl ?_
                refine gs rfl ?_
                refine gs rfl ?_
                refine gs rfl ?_
                refine gs rfl ?_
                refine gs rfl ?_
                refine gs rfl ?_
                refine gs rfl ?_
                refine gs rfl ?_
                refine gs rfl ?_
                refine gs rfl ?_
                refine gs rfl ?_
                refine gs rfl ?_
                refine and_3 (Nat.le_of_ble_eq_true rfl) rfl (vin rfl) ?_
                refine gs rfl ?_
                refine gs rfl ?_
                refine gs rfl ?_
                refine gs rfl ?_
                refine gs rfl ?_
                refine gs rfl ?_
                refine gs rfl ?_
                refine gs rfl ?_
                refine gs rfl ?_
                refine gs rfl ?_
                refine gs rfl ?_
                refine gs rfl ?_
                refine gs rfl ?_
                refine gs rfl ?_
                refine and_3 (Nat.le_of_ble_eq_true rfl) rfl (vin rfl) ?_
                refine gs rfl ?_
                refine gs rfl ?_
                refine gs rfl ?_
                refine gs rfl ?_
                refine gs rfl ?_
                refine gs rfl ?_
                refine gs rfl ?_
                refine gs rfl ?_
                refine gs rfl ?_
                refine gs rfl ?_
                refine gs rfl ?_
                refine gs rfl ?_
                refine gs rfl ?_
                refine gs rfl ?_
                refine and_3 (Nat.le_of_ble_eq_true rfl) rfl (vin rfl) ?_
                refine gs rfl ?_
                refine gs rfl ?_
                refine gs rfl ?_
                refine gs rfl ?_
                refine gs rfl ?_
                refine gs rfl ?_
                refine gs rfl ?_
                refine gs rfl ?_
                refine gs rfl ?_
                refine gs rfl ?_
                refine gs rfl ?_
                refine gs rfl ?_
                refine gs rfl ?_
                refine gs rfl ?_
                refine and_3 (Nat.le_of_ble_eq_true rfl) rfl (vin rfl) ?_
                refine gs rfl ?_
                refine gs rfl ?_
                refine gs rfl ?_
                refine gs rfl ?_
                refine gs rfl ?_
                refine gs rfl ?_
                refine gs rfl ?_
                refine gs rfl ?_
                refine gs rfl ?_
                refine gs rfl ?_
                refine gs rfl ?_
                refine gs rfl ?_
                refine gs rfl ?_
                refine gs rfl ?_
                refine and_3 (Nat.le_of_ble_eq_true rfl) rfl (vin rfl) ?_
                refine gs rfl ?_
                refine gs rfl ?_
                refine gs rfl ?_
                refine gs rfl ?_
                refine gs rfl ?_
                refine gs rfl ?_
                refine gs rfl ?_
                refine gs rfl ?_
                refine gs rfl ?_
                refine gs rfl ?_
                refine gs rfl ?_
                refine gs rfl ?_
                refine gs rfl ?_
                refine gs rfl ?_
                refine and_3 (Nat.le_of_ble_eq_true rfl) rfl (vin rfl) ?_
                refine gs rfl ?_
                refine gs rfl ?_
                refine gs rfl ?_
                refine gs rfl ?_
                refine gs rfl ?_
                refine gs rfl ?_
                refine gs rfl ?_
                refine gs rfl ?_
                refine gs rfl ?_
                refine gs rfl ?_
                refine gs rfl ?_
                refine gs rfl ?_
                refine gs rfl ?_
                refine gs rfl ?_
                refine and_3 (Nat.le_of_ble_eq_true rfl) rfl (vin rfl) ?_
                refine gs rfl ?_
                refine gs rfl ?_
                refine gs rfl ?_
                refine gs rfl ?_
                refine gs rfl ?_
                refine gs rfl ?_
                refine gs rfl ?_
                refine gs rfl ?_
                refine gs rfl ?_
                refine gs rfl ?_
                refine gs rfl ?_
                refine gs rfl ?_
                refine gs rfl ?_
                refine gs rfl ?_
                refine and_3 (Nat.le_of_ble_eq_true rfl) rfl (vin rfl) ?_
                refine gs rfl ?_
                refine gs rfl ?_
                refine gs rfl ?_
                refine gs rfl ?_
                refine gs rfl ?_
                refine gs rfl ?_
                refine gs rfl ?_
                refine gs rfl ?_
                refine gs rfl ?_
                refine gs rfl ?_
                refine gs rfl ?_
                refine gs rfl ?_
                refine gs rfl ?_
                refine gs rfl ?_
                refine and_3 (Nat.le_of_ble_eq_true rfl) rfl (vin rfl) ?_
                refine gs rfl ?_
                refine gs rfl ?_
                refine gs rfl ?_
                refine gs rfl ?_
                refine gs rfl ?_
                refine gs rfl ?_
                refine gs rfl ?_
                refine gs rfl ?_
                refine gs rfl ?_
                refine gs rfl ?_
                refine gs rfl ?_
                refine gs rfl ?_
                refine gs rfl ?_
                refine gs rfl ?_
                refine and_3 (Nat.le_of_ble_eq_true rfl) rfl (vin rfl) ?_
                refine gs rfl ?_
                refine gs rfl ?_
                refine gs rfl ?_
                refine gs rfl ?_
                refine gs rfl ?_
                refine gs rfl ?_
                refine gs rfl ?_
                refine gs rfl ?_
                refine gs rfl ?_
                refine gs rfl ?_
                refine gs rfl ?_
                refine gs rfl ?_
                refine gs rfl ?_
                refine gs rfl ?_
                refine and_3 (Nat.le_of_ble_eq_true rfl) rfl (vin rfl) ?_
                refine gs rfl ?_
                refine gs rfl ?_
                refine gs rfl ?_
                refine gs rfl ?_
                refine gs rfl ?_
                refine gs rfl ?_
                refine gs rfl ?_
                refine gs rfl ?_
                refine gs rfl ?_
                refine gs rfl ?_
                refine gs rfl ?_
                refine gs rfl ?_
                refine gs rfl ?_
                refine gs rfl ?_
                refine and_3 (Nat.le_of_ble_eq_true rfl) rfl (vin rfl) ?_
                refine gs rfl ?_
                refine gs rfl ?_
                refine gs rfl ?_
                refine gs rfl ?_
                refine gs rfl ?_
                refine gs rfl ?_
                refine gs rfl ?_
                refine gs rfl ?_
                refine gs rfl ?_
                refine gs rfl ?_
                refine gs rfl ?_
                refine gs rfl ?_
                refine gs rfl ?_
                refine gs rfl ?_
                refine and_3 (Nat.le_of_ble_eq_true rfl) rfl (vin rfl) ?_
                refine gs rfl ?_
                refine gs rfl ?_
                refine gs rfl ?_
                refine gs rfl ?_
                refine gs rfl ?_
                refine gs rfl ?_
                refine gs rfl ?_
                refine gs rfl ?_
                refine gs rfl ?_
                refine gs rfl ?_
                refine gs rfl ?_
                refine gs rfl ?_
                refine gs rfl ?_
                refine gs rfl ?_
                refine and_3 (Nat.le_of_ble_eq_true rfl) rfl (vin rfl) ?_
                refine gs rfl ?_
                refine gs rfl ?_
                refine gs rfl ?_
                refine gs rfl ?_
                refine gs rfl ?_
                refine gs rfl ?_
                refine gs rfl ?_
                refine gs rfl ?_
                refine gs rfl ?_
                refine gs rfl ?_
                refine gs rfl ?_
                refine gs rfl ?_
                refine gs rfl ?_
                refine gs rfl ?_
                refine and_3 (Nat.le_of_ble_eq_true rfl) rfl (vin rfl) ?_
                refine gs rfl ?_
                refine gs rfl ?_
                refine gs rfl ?_
                refine gs rfl ?_
                refine gs rfl ?_
                refine gs rfl ?_
                refine gs rfl ?_
                refine gs rfl ?_
                refine gs rfl ?_
                refine gs rfl ?_
                refine gs rfl ?_
                refine gs rfl ?_
                refine gs rfl ?_
                refine gs rfl ?_
                refine and_3 (Nat.le_of_ble_eq_true rfl) rfl (vin rfl) ?_
                refine gs rfl ?_
                refine gs rfl ?_
                refine gs rfl ?_
                refine gs rfl ?_
                refine gs rfl ?_
                refine gs rfl ?_
                refine gs rfl ?_
                refine gs rfl ?_
                refine gs rfl ?_
                refine gs rfl ?_
                refine gs rfl ?_
                refine gs rfl ?_
                refine gs rfl ?_
                refine gs rfl ?_
                refine and_3 (Nat.le_of_ble_eq_true rfl) rfl (vin rfl) ?_
                refine gs rfl ?_
                refine gs rfl ?_
                refine gs rfl ?_
                refine gs rfl ?_
                refine gs rfl ?_
                refine gs rfl ?_
                refine gs rfl ?_
                refine gs rfl ?_
                refine gs rfl ?_
                refine gs rfl ?_
                refine gs rfl ?_
                refine gs rfl ?_
                refine gs rfl ?_
                refine gs rfl ?_
                refine and_3 (Nat.le_of_ble_eq_true rfl) rfl (vin rfl) ?_
                refine gs rfl ?_
                refine gs rfl ?_
                refine gs rfl ?_
                refine gs rfl ?_
                refine gs rfl ?_
                refine gs rfl ?_
                refine gs rfl ?_
                refine gs rfl ?_
                refine gs rfl ?_
                refine gs rfl ?_
                refine gs rfl ?_
                refine gs rfl ?_
                refine gs rfl ?_
                refine gs rfl ?_
                refine and_3 (Nat.le_of_ble_eq_true rfl) rfl (vin rfl) ?_
                refine gs rfl ?_
                refine gs rfl ?_
                refine gs rfl ?_
                refine gs rfl ?_
                refine gs rfl ?_
                refine gs rfl ?_
                refine gs rfl ?_
                refine gs rfl ?_
                refine gs rfl ?_
                refine gs rfl ?_
                refine gs rfl ?_
                refine gs rfl ?_
                refine gs rfl ?_
                refine gs rfl ?_
                refine and_3 (Nat.le_of_ble_eq_true rfl) rfl (vin rfl) ?_
                refine gs rfl ?_
                refine gs rfl ?_
                refine gs rfl ?_
                refine gs rfl ?_
                refine gs rfl ?_
                refine gs rfl ?_
                refine gs rfl ?_
                refine gs rfl ?_
                refine gs rfl ?_
                refine gs rfl ?_
                refine gs rfl ?_
                refine gs rfl ?_
                refine gs rfl ?_
                refine gs rfl ?_
                refine and_3 (Nat.le_of_ble_eq_true rfl) rfl (vin rfl) ?_
                refine gs rfl ?_
                refine gs rfl ?_
                refine gs rfl ?_
                refine gs rfl ?_
                refine gs rfl ?_
                refine gs rfl ?_
                refine gs rfl ?_
                refine gs rfl ?_
                refine gs rfl ?_
                refine gs rfl ?_
                refine gs rfl ?_
                refine gs rfl ?_
                refine gs rfl ?_
                refine gs rfl ?_
                refine and_3 (Nat.le_of_ble_eq_true rfl) rfl (vin rfl) ?_
                refine gs rfl ?_
                refine gs rfl ?_
                refine gs rfl ?_
                refine gs rfl ?_
                refine gs rfl ?_
                refine gs rfl ?_
                refine gs rfl ?_
                refine and_i rfl ?_
                refine gs rfl ?_
                refine gs rfl ?_
                refine gs rfl ?_
                refine gs rfl ?_
                refine gs rfl ?_
                refine gs rfl ?_
                refine and_i (Or.inl rfl) ?_
                refine gwst (congrArg (fun z => Value.int z :: _) (alen_k (n := 6) (by rfl))) ?_
                refine gs rfl ?_
                refine gs rfl ?_
                refine gs rfl ?_
                refine gs rfl ?_
                refine gs rfl ?_
                refine and_2 rfl (Or.inr rfl) ?_
                exact rfl
            · have d15 : ¬ ((s3).toInt ≤ 40) := fun q => c14 ((le_k (by rfl) (by rfl)).mpr q)
              refine gs rfl ?_
              refine gs rfl ?_
              refine gs rfl ?_
              refine and_i (Nat.le_of_ble_eq_true rfl) (cl0 (Nat.le_of_ble_eq_true rfl) (and_i (Nat.le_of_ble_eq_true rfl) ?_))
              refine gs rfl ?_
              refine gs rfl ?_
              refine gs rfl ?_
              refine gs rfl ?_
              refine gs rfl ?_
              refine and_2 rfl (vin rfl) ?_
              refine gs rfl ?_
              refine gs rfl ?_
              refine gs rfl ?_
              refine and_3 (Nat.le_of_ble_eq_true rfl) rfl (vin rfl) ?_
              refine gs rfl ?_
              refine gs rfl ?_
              refine gs rfl ?_
              refine gs rfl ?_
              refine and_i rfl ?_
              refine gs rfl ?_
              refine and_i rfl ?_
              refine FRg rfl (fun f => ?_)
              refine gs rfl ?_
              refine gs rfl ?_
              refine gs rfl ?_
              refine gs rfl ?_
              refine gs rfl ?_
              refine gs rfl ?_
              refine and_2 rfl (vin rfl) ?_
              refine gs rfl ?_
              refine gs rfl ?_
              refine gs rfl ?_
              refine gs rfl ?_
              refine gs rfl ?_
              refine and_2 rfl (vin rfl) ?_
              refine gs rfl ?_
              refine gs rfl ?_
              refine gs rfl ?_
              refine gs rfl ?_
              refine gs rfl ?_
              refine and_2 rfl (vin rfl) ?_
              refine gs rfl ?_
              refine and_i (Nat.le_of_ble_eq_true rfl) (cl0 (Nat.le_of_ble_eq_true rfl) (and_i (Nat.le_of_ble_eq_true rfl) ?_))
              refine gs rfl ?_
              refine gs rfl ?_
              refine and_i (Nat.le_of_ble_eq_true rfl) (cl0 (Nat.le_of_ble_eq_true rfl) (and_i (Nat.le_of_ble_eq_true rfl) ?_))
              refine gs rfl ?_
              refine gs rfl ?_
              refine gs rfl ?_
              refine gs rfl ?_
              refine and_i (Nat.le_of_ble_eq_true rfl) (cl0 (Nat.le_of_ble_eq_true rfl) (and_i (Nat.le_of_ble_eq_true rfl) ?_))
              refine gs rfl ?_
              refine gs rfl ?_
              refine gs rfl ?_
              refine ifF ((fun q => absurd ((lt_k (a := (s1).toInt) (b := 0) (by rfl) (by rfl)).mp q) (by omega))) ?_
              refine gs rfl ?_
              refine gs rfl ?_
              refine gs rfl ?_
              refine ifF ((fun q => absurd ((lt_k (a := 3) (b := (s1).toInt) (by rfl) (by rfl)).mp q) (by omega))) ?_
              refine gs rfl ?_
              refine gs rfl ?_
              refine gs rfl ?_
              refine and_2 rfl (Or.inr rfl) ?_
              refine gs rfl ?_
              refine and_2 rfl (Or.inr rfl) ?_
              refine gs rfl ?_
              refine gs rfl ?_
              refine gs rfl ?_
              refine ifF ((fun q => absurd ((eq_k (a := (s2).toInt) (b := 0) (by rfl) (by rfl)).mp q) (by omega))) ?_
              refine gs rfl ?_
              refine gs rfl ?_
              refine gs rfl ?_
              refine ifT ((eq_k (a := (s2).toInt) (b := 8) (by rfl) (by rfl)).mpr (by omega)) ?_
              refine gs rfl ?_
              refine gs rfl ?_
              refine ifF ((fun q => absurd ((eq_k (a := (s2).toInt) (b := 0) (by rfl) (by rfl)).mp q) (by omega))) ?_
              refine gs rfl ?_
              refine gs rfl ?_
              refine ifT ((le_k (a := 0) (b := (s3).toInt) (by rfl) (by rfl)).mpr (by omega)) ?_
              refine gs rfl ?_
              refine gs rfl ?_
              refine ifF ((fun q => absurd ((eq_k (a := (s2).toInt) (b := 0) (by rfl) (by rfl)).mp q) (by omega))) ?_
              refine gs rfl ?_
              refine gs rfl ?_
              refine gs rfl ?_
              refine ifF ((fun q => absurd ((le_k (a := (s3).toInt) (b := 40) (by rfl) (by rfl)).mp q) (by omega))) ?_
              refine gs rfl ?_
              refine gs rfl ?_
              refine gs rfl ?_
              refine and_i (Nat.le_of_ble_eq_true rfl) (cl0 (Nat.le_of_ble_eq_true rfl) (and_i (Nat.le_of_ble_eq_true rfl) ?_))
              refine gs rfl ?_
              refine gs rfl ?_
              refine gs rfl ?_
              refine gs rfl ?_
              refine gs rfl ?_
              refine gs rfl ?_
              refine gs rfl ?_
              refine and_2 rfl (vin rfl) ?_
              refine gs rfl ?_
              refine gs rfl ?_
              refine gs rfl ?_
              refine and_3 (Nat.le_of_ble_eq_true rfl) rfl (vin rfl) ?_
              refine gs rfl ?_
              refine gs rfl ?_
              refine and_i rfl ?_
              refine gs rfl ?_
              refine and_i rfl ?_
              refine gs rfl ?_
              refine gs rfl ?_
              refine gs rfl ?_
              refine gs rfl ?_
              refine gs rfl ?_
              refine gs rfl ?_
              refine and_i (Or.inl rfl) ?_
              refine gwst (congrArg (fun z => Value.int z :: _) (alen_k (n := 6) (by rfl))) ?_
              refine gs rfl ?_
              refine gs rfl ?_
              refine gs rfl ?_
              refine gs rfl ?_
              refine gs rfl ?_
              refine and_2 rfl (Or.inr rfl) ?_
              exact rfl
          · have d13 : ¬ (0 ≤ (s3).toInt) := fun q => c12 ((le_k (by rfl) (by rfl)).mpr q)
            refine gs rfl ?_
            refine gs rfl ?_
            refine gs rfl ?_
            refine and_i (Nat.le_of_ble_eq_true rfl) (cl0 (Nat.le_of_ble_eq_true rfl) (and_i (Nat.le_of_ble_eq_true rfl) ?_))
            refine gs rfl ?_
            refine gs rfl ?_
            refine gs rfl ?_
            refine gs rfl ?_
            refine gs rfl ?_
            refine and_2 rfl (vin rfl) ?_
            refine gs rfl ?_
            refine gs rfl ?_
            refine gs rfl ?_
            refine and_3 (Nat.le_of_ble_eq_true rfl) rfl (vin rfl) ?_
            refine gs rfl ?_
            refine gs rfl ?_
            refine gs rfl ?_
            refine gs rfl ?_
            refine and_i rfl ?_
            refine gs rfl ?_
            refine and_i rfl ?_
            refine FRg rfl (fun f => ?_)
            refine gs rfl ?_
            refine gs rfl ?_
            refine gs rfl ?_
            refine gs rfl ?_
            refine gs rfl ?_
            refine gs rfl ?_
            refine and_2 rfl (vin rfl) ?_
            refine gs rfl ?_
            refine gs rfl ?_
            refine gs rfl ?_
            refine gs rfl ?_
            refine gs rfl ?_
            refine and_2 rfl (vin rfl) ?_
            refine gs rfl ?_
            refine gs rfl ?_
            refine gs rfl ?_
            refine gs rfl ?_
            refine gs rfl ?_
            refine and_2 rfl (vin rfl) ?_
            refine gs rfl ?_
            refine and_i (Nat.le_of_ble_eq_true rfl) (cl0 (Nat.le_of_ble_eq_true rfl) (and_i (Nat.le_of_ble_eq_true rfl) ?_))
            refine gs rfl ?_
            refine gs rfl ?_
            refine and_i (Nat.le_of_ble_eq_true rfl) (cl0 (Nat.le_of_ble_eq_true rfl) (and_i (Nat.le_of_ble_eq_true rfl) ?_))
            refine gs rfl ?_
            refine gs rfl ?_
            refine gs rfl ?_
            refine gs rfl ?_
            refine and_i (Nat.le_of_ble_eq_true rfl) (cl0 (Nat.le_of_ble_eq_true rfl) (and_i (Nat.le_of_ble_eq_true rfl) ?_))
            refine gs rfl ?_
            refine gs rfl ?_
            refine gs rfl ?_
            refine ifF ((fun q => absurd ((lt_k (a := (s1).toInt) (b := 0) (by rfl) (by rfl)).mp q) (by omega))) ?_
            refine gs rfl ?_
            refine gs rfl ?_
            refine gs rfl ?_
            refine ifF ((fun q => absurd ((lt_k (a := 3) (b := (s1).toInt) (by rfl) (by rfl)).mp q) (by omega))) ?_
            refine gs rfl ?_
            refine gs rfl ?_
            refine gs rfl ?_
            refine and_2 rfl (Or.inr rfl) ?_
            refine gs rfl ?_
            refine and_2 rfl (Or.inr rfl) ?_
            refine gs rfl ?_
            refine gs rfl ?_
            refine gs rfl ?_
            refine ifF ((fun q => absurd ((eq_k (a := (s2).toInt) (b := 0) (by rfl) (by rfl)).mp q) (by omega))) ?_
            refine gs rfl ?_
            refine gs rfl ?_
            refine gs rfl ?_
            refine ifT ((eq_k (a := (s2).toInt) (b := 8) (by rfl) (by rfl)).mpr (by omega)) ?_
            refine gs rfl ?_
            refine gs rfl ?_
            refine ifF ((fun q => absurd ((eq_k (a := (s2).toInt) (b := 0) (by rfl) (by rfl)).mp q) (by omega))) ?_
            refine gs rfl ?_
            refine gs rfl ?_
            refine ifF ((fun q => absurd ((le_k (a := 0) (b := (s3).toInt) (by rfl) (by rfl)).mp q) (by omega))) ?_
            refine gs rfl ?_
            refine gs rfl ?_
            refine gs rfl ?_
            refine and_i (Nat.le_of_ble_eq_true rfl) (cl0 (Nat.le_of_ble_eq_true rfl) (and_i (Nat.le_of_ble_eq_true rfl) ?_))
            refine gs rfl ?_
            refine gs rfl ?_
            refine gs rfl ?_
            refine gs rfl ?_
            refine gs rfl ?_
            refine gs rfl ?_
            refine gs rfl ?_
            refine and_2 rfl (vin rfl) ?_
            refine gs rfl ?_
            refine gs rfl ?_
            refine gs rfl ?_
            refine and_3 (Nat.le_of_ble_eq_true rfl) rfl (vin rfl) ?_
            refine gs rfl ?_
            refine gs rfl ?_
            refine and_i rfl ?_
            refine gs rfl ?_
            refine and_i rfl ?_
            refine gs rfl ?_
            refine gs rfl ?_
            refine gs rfl ?_
            refine gs rfl ?_
            refine gs rfl ?_
            refine gs rfl ?_
            refine and_i (Or.inl rfl) ?_
            refine gwst (congrArg (fun z => Value.int z :: _) (alen_k (n := 6) (by rfl))) ?_
            refine gs rfl ?_
            refine gs rfl ?_
            refine gs rfl ?_
            refine gs rfl ?_
            refine gs rfl ?_
            refine and_2 rfl (Or.inr rfl) ?_
            exact rfl
        · have d11 : ¬ ((s2).toInt = 8) := fun q => c10 ((eq_k (by rfl) (by rfl)).mpr q)
          refine gs rfl ?_
          refine gs rfl ?_
          refine gs rfl ?_
          refine ifs (fun c19 => ?_) (fun c19 => ?_)
          · have d20 : (s2).toInt = 16 := (eq_k (by rfl) (by rfl)).mp c19
            refine gs rfl ?_
            refine gs rfl ?_
            refine ifF ((fun q => absurd ((eq_k (a := (s2).toInt) (b := 0) (by rfl) (by rfl)).mp q) (by omega))) ?_
            refine gs rfl ?_
            refine gs rfl ?_
            refine ifs (fun c21 => ?_) (fun c21 => ?_)
            · have d22 : 0 ≤ (s3).toInt := (le_k (by rfl) (by rfl)).mp c21
              refine gs rfl ?_
              refine gs rfl ?_
              refine gs rfl ?_
              refine ifs (fun c23 => ?_) (fun c23 => ?_)
              · have d24 : (s3).toInt ≤ 40 := (le_k (by rfl) (by rfl)).mp c23
                refine gs rfl ?_
                refine gs rfl ?_
                refine gs rfl ?_
                obtain ⟨j25, e26, x27⟩ := nat_of (x := s1) (lo := 0) (hi := 3) (by omega) (by omega)
                rcases (show j25 = 0 ∨ j25 = 1 ∨ j25 = 2 ∨ j25 = 3 by omega) with rfl | rfl | rfl | rfl
                · have x27q : s1 = (0 : Int32) := x27
                  clear x27
                  subst x27q
                  refine gs rfl ?_
                  refine and_2 (Nat.le_of_ble_eq_true rfl) (vin rfl) ?_
                  refine and_2 rfl (fun z q => by cases q) ?_
                  refine gs rfl ?_
                  refine gs rfl ?_
                  refine gs rfl ?_
                  refine and_i (Nat.le_of_ble_eq_true rfl) (cl0 (Nat.le_of_ble_eq_true rfl) (and_i (Nat.le_of_ble_eq_true rfl) ?_))
                  refine gs rfl ?_
                  refine gs rfl ?_
                  refine gs rfl ?_
                  refine and_3 (Nat.le_of_ble_eq_true rfl) (Nat.le_of_ble_eq_true rfl) trivial ?_
                  refine gs rfl ?_
                  refine gs rfl ?_
                  refine gs rfl ?_
                  refine and_3 (Nat.le_of_ble_eq_true rfl) (Nat.le_of_ble_eq_true rfl) trivial ?_
                  refine gs rfl ?_
                  refine gs rfl ?_
                  refine gs rfl ?_
                  refine gs rfl ?_
                  refine and_i (Nat.le_of_ble_eq_true rfl) (cl0 (Nat.le_of_ble_eq_true rfl) (and_i (Nat.le_of_ble_eq_true rfl) ?_))
                  refine gs rfl ?_
                  refine gs rfl ?_
                  refine gs rfl ?_
                  refine gs rfl ?_
                  refine and_i (Or.inl rfl) ?_
                  refine gwst (congrArg (fun z => Value.int z :: _) (alen_k (n := 40) (by rfl))) ?_
                  refine gs rfl ?_
                  refine gs rfl ?_
                  refine gs rfl ?_
                  refine gs rfl ?_
                  refine gs rfl ?_
                  refine gs rfl ?_
                  refine gs rfl ?_
                  refine gs rfl ?_
                  refine and_3 (Nat.le_of_ble_eq_true rfl) rfl (vin rfl) ?_
                  refine gs rfl ?_
                  refine gs rfl ?_
                  refine gs rfl ?_
                  refine gs rfl ?_
                  refine gs rfl ?_
                  refine gs rfl ?_
                  refine gs rfl ?_
                  refine gs rfl ?_
                  refine gs rfl ?_
                  refine and_3 (Nat.le_of_ble_eq_true rfl) rfl (vin rfl) ?_
                  refine gs rfl ?_
                  refine gs rfl ?_
                  refine gs rfl ?_
                  refine gs rfl ?_
                  refine gs rfl ?_
                  refine gs rfl ?_
                  refine gs rfl ?_
                  refine gs rfl ?_
                  refine gs rfl ?_
                  refine and_3 (Nat.le_of_ble_eq_true rfl) rfl (vin rfl) ?_
                  refine gs rfl ?_
                  refine gs rfl ?_
                  refine gs rfl ?_
                  refine gs rfl ?_
                  refine gs rfl ?_
                  refine gs rfl ?_
                  refine gs rfl ?_
                  refine gs rfl ?_
                  refine gs rfl ?_
                  refine and_3 (Nat.le_of_ble_eq_true rfl) rfl (vin rfl) ?_
                  refine gs rfl ?_
                  refine gs rfl ?_
                  refine gs rfl ?_
                  refine gs rfl ?_
                  refine gs rfl ?_
                  refine gs rfl ?_
                  refine gs rfl ?_
                  refine gs rfl ?_
                  refine gs rfl ?_
                  refine and_3 (Nat.le_of_ble_eq_true rfl) rfl (vin rfl) ?_
                  refine gs rfl ?_
                  refine gs rfl ?_
                  refine gs rfl ?_
                  refine gs rfl ?_
                  refine gs rfl ?_
                  refine gs rfl ?_
                  refine gs rfl ?_
                  refine gs rfl ?_
                  refine gs rfl ?_
                  refine and_3 (Nat.le_of_ble_eq_true rfl) rfl (vin rfl) ?_
                  refine gs rfl ?_
                  refine gs rfl ?_
                  refine gs rfl ?_
                  refine gs rfl ?_
                  refine gs rfl ?_
                  refine gs rfl ?_
                  refine gs rfl ?_
                  refine gs rfl ?_
                  refine gs rfl ?_
                  refine and_3 (Nat.le_of_ble_eq_true rfl) rfl (vin rfl) ?_
                  refine gs rfl ?_
                  refine gs rfl ?_
                  refine gs rfl ?_
                  refine gs rfl ?_
                  refine gs rfl ?_
                  refine gs rfl ?_
                  refine gs rfl ?_
                  refine gs rfl ?_
                  refine gs rfl ?_
                  refine and_3 (Nat.le_of_ble_eq_true rfl) rfl (vin rfl) ?_
                  refine gs rfl ?_
                  refine gs rfl ?_
                  refine gs rfl ?_
                  refine gs rfl ?_
                  refine gs rfl ?_
                  refine gs rfl ?_
                  refine gs rfl ?_
                  refine gs rfl ?_
                  refine gs rfl ?_
                  refine and_3 (Nat.le_of_ble_eq_true rfl) rfl (vin rfl) ?_
                  refine gs rfl ?_
                  refine gs rfl ?_
                  refine gs rfl ?_
                  refine gs rfl ?_
                  refine gs rfl ?_
                  refine gs rfl ?_
                  refine gs rfl ?_
                  refine gs rfl ?_
                  refine gs rfl ?_
                  refine and_3 (Nat.le_of_ble_eq_true rfl) rfl (vin rfl) ?_
                  refine gs rfl ?_
                  refine gs rfl ?_
                  refine gs rfl ?_
                  refine gs rfl ?_
                  refine gs rfl ?_
                  refine gs rfl ?_
                  refine gs rfl ?_
                  refine gs rfl ?_
                  refine gs rfl ?_
                  refine and_3 (Nat.le_of_ble_eq_true rfl) rfl (vin rfl) ?_
                  refine gs rfl ?_
                  refine gs rfl ?_
                  refine gs rfl ?_
                  refine gs rfl ?_
                  refine gs rfl ?_
                  refine gs rfl ?_
                  refine gs rfl ?_
                  refine gs rfl ?_
                  refine gs rfl ?_
                  refine and_3 (Nat.le_of_ble_eq_true rfl) rfl (vin rfl) ?_
                  refine gs rfl ?_
                  refine gs rfl ?_
                  refine gs rfl ?_
                  refine gs rfl ?_
                  refine gs rfl ?_
                  refine gs rfl ?_
                  refine gs rfl ?_
                  refine gs rfl ?_
                  refine gs rfl ?_
                  refine and_3 (Nat.le_of_ble_eq_true rfl) rfl (vin rfl) ?_
                  refine gs rfl ?_
                  refine gs rfl ?_
                  refine gs rfl ?_
                  refine gs rfl ?_
                  refine gs rfl ?_
                  refine gs rfl ?_
                  refine gs rfl ?_
                  refine gs rfl ?_
                  refine gs rfl ?_
                  refine and_3 (Nat.le_of_ble_eq_true rfl) rfl (vin rfl) ?_
                  refine gs rfl ?_
                  refine gs rfl ?_
                  refine gs rfl ?_
                  refine gs rfl ?_
                  refine gs rfl ?_
                  refine gs rfl ?_
                  refine gs rfl ?_
                  refine gs rfl ?_
                  refine gs rfl ?_
                  refine and_3 (Nat.le_of_ble_eq_true rfl) rfl (vin rfl) ?_
                  refine gs rfl ?_
                  refine gs rfl ?_
                  refine gs rfl ?_
                  refine gs rfl ?_
                  refine gs rfl ?_
                  refine gs rfl ?_
                  refine gs rfl ?_
                  refine gs rfl ?_
                  refine gs rfl ?_
                  refine and_3 (Nat.le_of_ble_eq_true rfl) rfl (vin rfl) ?_
                  refine gs rfl ?_
                  refine gs rfl ?_
                  refine gs rfl ?_
                  refine gs rfl ?_
                  refine gs rfl ?_
                  refine gs rfl ?_
                  refine gs rfl ?_
                  refine gs rfl ?_
                  refine gs rfl ?_
                  refine and_3 (Nat.le_of_ble_eq_true rfl) rfl (vin rfl) ?_
                  refine gs rfl ?_
                  refine gs rfl ?_
                  refine gs rfl ?_
                  refine gs rfl ?_
                  refine gs rfl ?_
                  refine gs rfl ?_
                  refine gs rfl ?_
                  refine gs rfl ?_
                  refine gs rfl ?_
                  refine and_3 (Nat.le_of_ble_eq_true rfl) rfl (vin rfl) ?_
                  refine gs rfl ?_
                  refine gs rfl ?_
                  refine gs rfl ?_
                  refine gs rfl ?_
                  refine gs rfl ?_
                  refine gs rfl ?_
                  refine gs rfl ?_
                  refine gs rfl ?_
                  refine gs rfl ?_
                  refine and_3 (Nat.le_of_ble_eq_true rfl) rfl (vin rfl) ?_
                  refine gs rfl ?_
                  refine gs rfl ?_
                  refine gs rfl ?_
                  refine gs rfl ?_
                  refine gs rfl ?_
                  refine gs rfl ?_
                  refine gs rfl ?_
                  refine gs rfl ?_
                  refine gs rfl ?_
                  refine and_3 (Nat.le_of_ble_eq_true rfl) rfl (vin rfl) ?_
                  refine gs rfl ?_
                  refine gs rfl ?_
                  refine gs rfl ?_
                  refine gs rfl ?_
                  refine gs rfl ?_
                  refine gs rfl ?_
                  refine gs rfl ?_
                  refine gs rfl ?_
                  refine gs rfl ?_
                  refine and_3 (Nat.le_of_ble_eq_true rfl) rfl (vin rfl) ?_
                  refine gs rfl ?_
                  refine gs rfl ?_
                  refine gs rfl ?_
                  refine gs rfl ?_
                  refine gs rfl ?_
                  refine gs rfl ?_
                  refine gs rfl ?_
                  refine gs rfl ?_
                  refine gs rfl ?_
                  refine and_3 (Nat.le_of_ble_eq_true rfl) rfl (vin rfl) ?_
                  refine gs rfl ?_
                  refine gs rfl ?_
                  refine gs rfl ?_
                  refine gs rfl ?_
                  refine gs rfl ?_
                  refine gs rfl ?_
                  refine gs rfl ?_
                  refine gs rfl ?_
                  refine gs rfl ?_
                  refine and_3 (Nat.le_of_ble_eq_true rfl) rfl (vin rfl) ?_
                  refine gs rfl ?_
                  refine gs rfl ?_
                  refine gs rfl ?_
                  refine gs rfl ?_
                  refine gs rfl ?_
                  refine gs rfl ?_
                  refine gs rfl ?_
                  refine gs rfl ?_
                  refine gs rfl ?_
                  refine and_3 (Nat.le_of_ble_eq_true rfl) rfl (vin rfl) ?_
                  refine gs rfl ?_
                  refine gs rfl ?_
                  refine gs rfl ?_
                  refine gs rfl ?_
                  refine gs rfl ?_
                  refine gs rfl ?_
                  refine gs rfl ?_
                  refine gs rfl ?_
                  refine gs rfl ?_
                  refine and_3 (Nat.le_of_ble_eq_true rfl) rfl (vin rfl) ?_
                  refine gs rfl ?_
                  refine gs rfl ?_
                  refine gs rfl ?_
                  refine gs rfl ?_
                  refine gs rfl ?_
                  refine gs rfl ?_
                  refine gs rfl ?_
                  refine gs rfl ?_
                  refine gs rfl ?_
                  refine and_3 (Nat.le_of_ble_eq_true rfl) rfl (vin rfl) ?_
                  refine gs rfl ?_
                  refine gs rfl ?_
                  refine gs rfl ?_
                  refine gs rfl ?_
                  refine gs rfl ?_
                  refine gs rfl ?_
                  refine gs rfl ?_
                  refine gs rfl ?_
                  refine gs rfl ?_
                  refine and_3 (Nat.le_of_ble_eq_true rfl) rfl (vin rfl) ?_
                  refine gs rfl ?_
                  refine gs rfl ?_
                  refine gs rfl ?_
                  refine gs rfl ?_
                  refine gs rfl ?_
                  refine gs rfl ?_
                  refine gs rfl ?_
                  refine gs rfl ?_
                  refine gs rfl ?_
                  refine and_3 (Nat.le_of_ble_eq_true rfl) rfl (vin rfl) ?_
                  refine gs rfl ?_
                  refine gs rfl ?_
                  refine gs rfl ?_
                  refine gs rfl ?_
                  refine gs rfl ?_
                  refine gs rfl ?_
                  refine gs rfl ?_
                  refine gs rfl ?_
                  refine gs rfl ?_
                  refine and_3 (Nat.le_of_ble_eq_true rfl) rfl (vin rfl) ?_
                  refine gs rfl ?_
                  refine gs rfl ?_
                  refine gs rfl ?_
                  refine gs rfl ?_
                  refine gs rfl ?_
                  refine gs rfl ?_
                  refine gs rfl ?_
                  refine gs rfl ?_
                  refine gs rfl ?_
                  refine and_3 (Nat.le_of_ble_eq_true rfl) rfl (vin rfl) ?_
                  refine gs rfl ?_
                  refine gs rfl ?_
                  refine gs rfl ?_
                  refine gs rfl ?_
                  refine gs rfl ?_
                  refine gs rfl ?_
                  refine gs rfl ?_
                  refine gs rfl ?_
                  refine gs rfl ?_
                  refine and_3 (Nat.le_of_ble_eq_true rfl) rfl (vin rfl) ?_
                  refine gs rfl ?_
                  refine gs rfl ?_
                  refine gs rfl ?_
                  refine gs rfl ?_
                  refine gs rfl ?_
                  refine gs rfl ?_
                  refine gs rfl ?_
                  refine gs rfl ?_
                  refine gs rfl ?_
                  refine and_3 (Nat.le_of_ble_eq_true rfl) rfl (vin rfl) ?_
                  refine gs rfl ?_
                  refine gs rfl ?_
                  refine gs rfl ?_
                  refine gs rfl ?_
                  refine gs rfl ?_
                  refine gs rfl ?_
                  refine gs rfl ?_
                  refine gs rfl ?_
                  refine gs rfl ?_
                  refine and_3 (Nat.le_of_ble_eq_true rfl) rfl (vin rfl) ?_
                  refine gs rfl ?_
                  refine gs rfl ?_
                  refine gs rfl ?_
                  refine gs rfl ?_
                  refine gs rfl ?_
                  refine gs rfl ?_
                  refine gs rfl ?_
                  refine gs rfl ?_
                  refine gs rfl ?_
                  refine and_3 (Nat.le_of_ble_eq_true rfl) rfl (vin rfl) ?_
                  refine gs rfl ?_
                  refine gs rfl ?_
                  refine gs rfl ?_
                  refine gs rfl ?_
                  refine gs rfl ?_
                  refine gs rfl ?_
                  refine gs rfl ?_
                  refine gs rfl ?_
                  refine gs rfl ?_
                  refine and_3 (Nat.le_of_ble_eq_true rfl) rfl (vin rfl) ?_
                  refine gs rfl ?_
                  refine gs rfl ?_
                  refine gs rfl ?_
                  refine gs rfl ?_
                  refine gs rfl ?_
                  refine gs rfl ?_
                  refine gs rfl ?_
                  refine gs rfl ?_
                  refine gs rfl ?_
                  refine and_3 (Nat.le_of_ble_eq_true rfl) rfl (vin rfl) ?_
                  refine gs rfl ?_
                  refine gs rfl ?_
                  refine gs rfl ?_
                  refine gs rfl ?_
                  refine gs rfl ?_
                  refine gs rfl ?_
                  refine gs rfl ?_
                  refine gs rfl ?_
                  refine gs rfl ?_
                  refine and_3 (Nat.le_of_ble_eq_true rfl) rfl (vin rfl) ?_
                  refine gs rfl ?_
                  refine gs rfl ?_
                  refine gs rfl ?_
                  refine gs rfl ?_
                  refine gs rfl ?_
                  refine gs rfl ?_
                  refine gs rfl ?_
                  refine gs rfl ?_
                  refine gs rfl ?_
                  refine and_3 (Nat.le_of_ble_eq_true rfl) rfl (vin rfl) ?_
                  refine gs rfl ?_
                  refine gs rfl ?_
                  refine gs rfl ?_
                  refine gs rfl ?_
                  refine gs rfl ?_
                  refine gs rfl ?_
                  refine gs rfl ?_
                  refine gs rfl ?_
                  refine gs rfl ?_
                  refine and_3 (Nat.le_of_ble_eq_true rfl) rfl (vin rfl) ?_
                  refine gs rfl ?_
                  refine gs rfl ?_
                  refine gs rfl ?_
                  refine gs rfl ?_
                  refine gs rfl ?_
                  refine gs rfl ?_
                  refine gs rfl ?_
                  refine gs rfl ?_
                  refine gs rfl ?_
                  refine and_3 (Nat.le_of_ble_eq_true rfl) rfl (vin rfl) ?_
                  refine gs rfl ?_
                  refine gs rfl ?_
                  refine gs rfl ?_
                  refine gs rfl ?_
                  refine gs rfl ?_
                  refine gs rfl ?_
                  refine and_i rfl ?_
                  refine gs rfl ?_
                  refine and_i rfl ?_
                  refine gs rfl ?_
                  refine gs rfl ?_
                  refine and_i rfl ?_
                  refine FRg rfl (fun f => ?_)
                  refine gs rfl ?_
                  refine gs rfl ?_
                  refine gs rfl ?_
                  refine gs rfl ?_
                  refine gs rfl ?_
                  refine gs rfl ?_
                  refine and_2 rfl (vin rfl) ?_
                  refine gs rfl ?_
                  refine gs rfl ?_
                  refine gs rfl ?_
                  refine gs rfl ?_
                  refine gs rfl ?_
                  refine and_2 rfl (vin rfl) ?_
                  refine gs rfl ?_
                  refine gs rfl ?_
                  refine gs rfl ?_
                  refine gs rfl ?_
                  refine gs rfl ?_
                  refine and_2 rfl (vin rfl) ?_
                  refine gs rfl ?_
                  refine and_i (Nat.le_of_ble_eq_true rfl) (cl0 (Nat.le_of_ble_eq_true rfl) (and_i (Nat.le_of_ble_eq_true rfl) ?_))
                  refine gs rfl ?_
                  refine gs rfl ?_
                  refine and_i (Nat.le_of_ble_eq_true rfl) (cl0 (Nat.le_of_ble_eq_true rfl) (and_i (Nat.le_of_ble_eq_true rfl) ?_))
                  refine gs rfl ?_
                  refine gs rfl ?_
                  refine gs rfl ?_
                  refine gs rfl ?_
                  refine and_i (Nat.le_of_ble_eq_true rfl) (cl0 (Nat.le_of_ble_eq_true rfl) (and_i (Nat.le_of_ble_eq_true rfl) ?_))
                  refine gs rfl ?_
                  refine gs rfl ?_
                  refine gs rfl ?_
                  refine gs rfl ?_
                  refine gs rfl ?_
                  refine gs rfl ?_
                  refine gs rfl ?_
                  refine gs rfl ?_
                  refine gs rfl ?_
                  refine and_2 rfl (Or.inr rfl) ?_
                  refine gs rfl ?_
                  refine and_2 rfl (Or.inr rfl) ?_
                  refine gs rfl ?_
                  refine gs rfl ?_
                  refine gs rfl ?_
                  refine ifF ((fun q => absurd ((eq_k (a := (s2).toInt) (b := 0) (by rfl) (by rfl)).mp q) (by omega))) ?_
                  refine gs rfl ?_
                  refine gs rfl ?_
                  refine gs rfl ?_
                  refine ifF ((fun q => absurd ((eq_k (a := (s2).toInt) (b := 8) (by rfl) (by rfl)).mp q) (by omega))) ?_
                  refine gs rfl ?_
                  refine gs rfl ?_
                  refine gs rfl ?_
                  refine ifT ((eq_k (a := (s2).toInt) (b := 16) (by rfl) (by rfl)).mpr (by omega)) ?_
                  refine gs rfl ?_
                  refine gs rfl ?_
                  refine ifF ((fun q => absurd ((eq_k (a := (s2).toInt) (b := 0) (by rfl) (by rfl)).mp q) (by omega))) ?_
                  refine gs rfl ?_
                  refine gs rfl ?_
                  refine ifT ((le_k (a := 0) (b := (s3).toInt) (by rfl) (by rfl)).mpr (by omega)) ?_
                  refine gs rfl ?_
                  refine gs rfl ?_
                  refine ifF ((fun q => absurd ((eq_k (a := (s2).toInt) (b := 0) (by rfl) (by rfl)).mp q) (by omega))) ?_
                  refine gs rfl ?_
                  refine gs rfl ?_
                  refine gs rfl ?_
                  refine ifT ((le_k (a := (s3).toInt) (b := 40) (by rfl) (by rfl)).mpr (by omega)) ?_
                  refine gs rfl ?_
                  refine gs rfl ?_
                  refine gs rfl ?_
                  refine gs rfl ?_
                  refine gs rfl ?_
                  refine and_3 (Nat.le_of_ble_eq_true rfl) rfl (vin rfl) ?_
                  refine gs rfl ?_
                  refine gs rfl ?_
                  refine gs rfl ?_
                  refine gs rfl ?_
                  refine gs rfl ?_
                  refine ifF ((fun q => absurd ((eq_k (a := (s2).toInt) (b := 0) (by rfl) (by rfl)).mp q) (by omega))) ?_
                  refine gs rfl ?_
                  refine gs rfl ?_
                  refine and_3 (Nat.le_of_ble_eq_true rfl) rfl (vin rfl) ?_
                  refine gs rfl ?_
                  refine gs rfl ?_
                  refine gs rfl ?_
                  refine gs rfl ?_
                  refine gs rfl ?_
                  refine gs rfl ?_
                  refine gs rfl ?_
                  refine gs rfl ?_
                  refine gs rfl ?_
                  refine gs rfl ?_
                  refine gs rfl ?_
                  refine gs rfl ?_
                  refine gs rfl ?_
                  refine gs rfl ?_
                  refine and_3 (Nat.le_of_ble_eq_true rfl) rfl (vin rfl) ?_
                  refine gs rfl ?_
                  refine gs rfl ?_
                  refine gs rfl ?_
                  refine gs rfl ?_
                  refine gs rfl ?_
                  refine gs rfl ?_
                  refine gs rfl ?_
                  refine gs rfl ?_
                  refine gs rfl ?_
                  refine gs rfl ?_
                  refine gs rfl ?_
                  refine gs rfl ?_
                  refine gs rfl ?_
                  refine gs rfl ?_
                  refine and_3 (Nat.le_of_ble_eq_true rfl) rfl (vin rfl) ?_
                  refine gs rfl ?_
                  refine gs rfl ?_
                  refine gs rfl ?_
                  refine gs rfl ?_
                  refine gs rfl ?_
                  refine gs rfl ?_
                  refine gs rfl ?_
                  refine gs rfl ?_
                  refine gs rfl ?_
                  refine gs rfl ?_
                  refine gs rfl ?_
                  refine gs rfl ?_
                  refine gs rfl ?_
                  refine gs rfl ?_
                  refine and_3 (Nat.le_of_ble_eq_true rfl) rfl (vin rfl) ?_
                  refine gs rfl ?_
                  refine gs rfl ?_
                  refine gs rfl ?_
                  refine gs rfl ?_
                  refine gs rfl ?_
                  refine gs rfl ?_
                  refine gs rfl ?_
                  refine gs rfl ?_
                  refine gs rfl ?_
                  refine gs rfl ?_
                  refine gs rfl ?_
                  refine gs rfl ?_
                  refine gs rfl ?_
                  refine gs rfl ?_
                  refine and_3 (Nat.le_of_ble_eq_true rfl) rfl (vin rfl) ?_
                  refine gs rfl ?_
                  refine gs rfl ?_
                  refine gs rfl ?_
                  refine gs rfl ?_
                  refine gs rfl ?_
                  refine gs rfl ?_
                  refine gs rfl ?_
                  refine gs rfl ?_
                  refine gs rfl ?_
                  refine gs rfl ?_
                  refine gs rfl ?_
                  refine gs rfl ?_
                  refine gs rfl ?_
                  refine gs rfl ?_
                  refine and_3 (Nat.le_of_ble_eq_true rfl) rfl (vin rfl) ?_
                  refine gs rfl ?_
                  refine gs rfl ?_
                  refine gs rfl ?_
                  refine gs rfl ?_
                  refine gs rfl ?_
                  refine gs rfl ?_
                  refine gs rfl ?_
                  refine gs rfl ?_
                  refine gs rfl ?_
                  refine gs rfl ?_
                  refine gs rfl ?_
                  refine gs rfl ?_
                  refine gs rfl ?_
                  refine gs rfl ?_
                  refine and_3 (Nat.le_of_ble_eq_true rfl) rfl (vin rfl) ?_
                  refine gs rfl ?_
                  refine gs rfl ?_
                  refine gs rfl ?_
                  refine gs rfl ?_
                  refine gs rfl ?_
                  refine gs rfl ?_
                  refine gs rfl ?_
                  refine gs rfl ?_
                  refine gs rfl ?_
                  refine gs rfl ?_
                  refine gs rfl ?_
                  refine gs rfl ?_
                  refine gs rfl ?_
                  refine gs rfl ?_
                  refine and_3 (Nat.le_of_ble_eq_true rfl) rfl (vin rfl) ?_
                  refine gs rfl ?_
                  refine gs rfl ?_
                  refine gs rfl ?_
                  refine gs rfl ?_
                  refine gs rfl ?_
                  refine gs rfl ?_
                  refine gs rfl ?_
                  refine gs rfl ?_
                  refine gs rfl ?_
                  refine gs rfl ?_
                  refine gs rfl ?_
                  refine gs rfl ?_
                  refine gs rfl ?_
                  refine gs rfl ?_
                  refine and_3 (Nat.le_of_ble_eq_true rfl) rfl (vin rfl) ?_
                  refine gs rfl ?_
                  refine gs rfl ?_
                  refine gs rfl ?_
                  refine gs rfl ?_
                  refine gs rfl ?_
                  refine gs rfl ?_
                  refine gs rfl ?_
                  refine gs rfl ?_
                  refine gs rfl ?_
                  refine gs rfl ?_
                  refine gs rfl ?_
                  refine gs rfl ?_
                  refine gs rfl ?_
                  refine gs rfl ?_
                  refine and_3 (Nat.le_of_ble_eq_true rfl) rfl (vin rfl) ?_
                  refine gs rfl ?_
                  refine gs rfl ?_
                  refine gs rfl ?_
                  refine gs rfl ?_
                  refine gs rfl ?_
                  refine gs rfl ?_
                  refine gs rfl ?_
                  refine gs rfl ?_
                  refine gs rfl ?_
                  refine gs rfl ?_
                  refine gs rfl ?_
                  refine gs rfl ?_
                  refine gs rfl ?_
                  refine gs rfl ?_
                  refine and_3 (Nat.le_of_ble_eq_true rfl) rfl (vin rfl) ?_
                  refine gs rfl ?_
                  refine gs rfl ?_
                  refine gs rfl ?_
                  refine gs rfl ?_
                  refine gs rfl ?_
                  refine gs rfl ?_
                  refine gs rfl ?_
                  refine gs rfl ?_
                  refine gs rfl ?_
                  refine gs rfl ?_
                  refine gs rfl ?_
                  refine gs rfl ?_
                  refine gs rfl ?_
                  refine gs rfl ?_
                  refine and_3 (Nat.le_of_ble_eq_true rfl) rfl (vin rfl) ?_
                  refine gs rfl ?_
                  refine gs rfl ?_
                  refine gs rfl ?_
                  refine gs rfl ?_
                  refine gs rfl ?_
                  refine gs rfl ?_
                  refine gs rfl ?_
                  refine gs rfl ?_
                  refine gs rfl ?_
                  refine gs rfl ?_
                  refine gs rfl ?_
                  refine gs rfl ?_
                  refine gs rfl ?_
                  refine gs rfl ?_
                  refine and_3 (Nat.le_of_ble_eq_true rfl) rfl (vin rfl) ?_
                  refine gs rfl ?_
                  refine gs rfl ?_
                  refine gs rfl ?_
                  refine gs rfl ?_
                  refine gs rfl ?_
                  refine gs rfl ?_
                  refine gs rfl ?_
                  refine gs rfl ?_
                  refine gs rfl ?_
                  refine gs rfl ?_
                  refine gs rfl ?_
                  refine gs rfl ?_
                  refine gs rfl ?_
                  refine gs rfl ?_
                  refine and_3 (Nat.le_of_ble_eq_true rfl) rfl (vin rfl) ?_
                  refine gs rfl ?_
                  refine gs rfl ?_
                  refine gs rfl ?_
                  refine gs rfl ?_
                  refine gs rfl ?_
                  refine gs rfl ?_
                  refine gs rfl ?_
                  refine gs rfl ?_
                  refine gs rfl ?_
                  refine gs rfl ?_
                  refine gs rfl ?_
                  refine gs rfl ?_
                  refine gs rfl ?_
                  refine gs rfl ?_
                  refine and_3 (Nat.le_of_ble_eq_true rfl) rfl (vin rfl) ?_
                  refine gs rfl ?_
                  refine gs rfl ?_
                  refine gs rfl ?_
                  refine gs rfl ?_
                  refine gs rfl ?_
                  refine gs rfl ?_
                  refine gs rfl ?_
                  refine gs rfl ?_
                  refine gs rfl ?_
                  refine gs rfl ?_
                  refine gs rfl ?_
                  refine gs rfl ?_
                  refine gs rfl ?_
                  refine gs rfl ?_
                  refine and_3 (Nat.le_of_ble_eq_true rfl) rfl (vin rfl) ?_
                  refine gs rfl ?_
                  refine gs rfl ?_
                  refine gs rfl ?_
                  refine gs rfl ?_
                  refine gs rfl ?_
                  refine gs rfl ?_
                  refine gs rfl ?_
                  refine gs rfl ?_
                  refine gs rfl ?_
                  refine gs rfl ?_
                  refine gs rfl ?_
                  refine gs rfl ?_
                  refine gs rfl ?_
                  refine gs rfl ?_
                  refine and_3 (Nat.le_of_ble_eq_true rfl) rfl (vin rfl) ?_
                  refine gs rfl ?_
                  refine gs rfl ?_
                  refine gs rfl ?_
                  refine gs rfl ?_
                  refine gs rfl ?_
                  refine gs rfl ?_
                  refine gs rfl ?_
                  refine gs rfl ?_
                  refine gs rfl ?_
                  refine gs rfl ?_
                  refine gs rfl ?_
                  refine gs rfl ?_
                  refine gs rfl ?_
                  refine gs rfl ?_
                  refine and_3 (Nat.le_of_ble_eq_true rfl) rfl (vin rfl) ?_
                  refine gs rfl ?_
                  refine gs rfl ?_
                  refine gs rfl ?_
                  refine gs rfl ?_
                  refine gs rfl ?_
                  refine gs rfl ?_
                  refine gs rfl ?_
                  refine gs rfl ?_
                  refine gs rfl ?_
                  refine gs rfl ?_
                  refine gs rfl ?_
                  refine gs rfl ?_
                  refine gs rfl ?_
                  refine gs rfl ?_
                  refine and_3 (Nat.le_of_ble_eq_true rfl) rfl (vin rfl) ?_
                  refine gs rfl ?_
                  refine gs rfl ?_
                  refine gs rfl ?_
                  refine gs rfl ?_
                  refine gs rfl ?_
                  refine gs rfl ?_
                  refine gs rfl ?_
                  refine gs rfl ?_
                  refine gs rfl ?_
                  refine gs rfl ?_
                  refine gs rfl ?_
                  refine gs rfl ?_
                  refine gs rfl ?_
                  refine gs rfl ?_
                  refine and_3 (Nat.le_of_ble_eq_true rfl) rfl (vin rfl) ?_
                  refine gs rfl ?_
                  refine gs rfl ?_
                  refine gs rfl ?_
                  refine gs rfl ?_
                  refine gs rfl ?_
                  refine gs rfl ?_
                  refine gs rfl ?_
                  refine gs rfl ?_
                  refine gs rfl ?_
                  refine gs rfl ?_
                  refine gs rfl ?_
                  refine gs rfl ?_
                  refine gs rfl ?_
                  refine gs rfl ?_
                  refine and_3 (Nat.le_of_ble_eq_true rfl) rfl (vin rfl) ?_
                  refine gs rfl ?_
                  refine gs rfl ?_
                  refine gs rfl ?_
                  refine gs rfl ?_
                  refine gs rfl ?_
                  refine gs rfl ?_
                  refine gs rfl ?_
                  refine gs rfl ?_
                  refine gs rfl ?_
                  refine gs rfl ?_
                  refine gs rfl ?_
                  refine gs rfl ?_
                  refine gs rfl ?_
                  refine gs rfl ?_
                  refine and_3 (Nat.le_of_ble_eq_true rfl) rfl (vin rfl) ?_
                  refine gs rfl ?_
                  refine gs rfl ?_
                  refine gs rfl ?_
                  refine gs rfl ?_
                  refine gs rfl ?_
                  refine gs rfl ?_
                  refine gs rfl ?_
                  refine gs rfl ?_
                  refine gs rfl ?_
                  refine gs rfl ?_
                  refine gs rfl ?_
                  refine gs rfl ?_
                  refine gs rfl ?_
                  refine gs rfl ?_
                  refine and_3 (Nat.le_of_ble_eq_true rfl) rfl (vin rfl) ?_
                  refine gs rfl ?_
                  refine gs rfl ?_
                  refine gs rfl ?_
                  refine gs rfl ?_
                  refine gs rfl ?_
                  refine gs rfl ?_
                  refine gs rfl ?_
                  refine gs rfl ?_
                  refine gs rfl ?_
                  refine gs rfl ?_
                  refine gs rfl ?_
                  refine gs rfl ?_
                  refine gs rfl ?_
                  refine gs rfl ?_
                  refine and_3 (Nat.le_of_ble_eq_true rfl) rfl (vin rfl) ?_
                  refine gs rfl ?_
                  refine gs rfl ?_
                  refine gs rfl ?_
                  refine gs rfl ?_
                  refine gs rfl ?_
                  refine gs rfl ?_
                  refine gs rfl ?_
                  refine gs rfl ?_
                  refine gs rfl ?_
                  refine gs rfl ?_
                  refine gs rfl ?_
                  refine gs rfl ?_
                  refine gs rfl ?_
                  refine gs rfl ?_
                  refine and_3 (Nat.le_of_ble_eq_true rfl) rfl (vin rfl) ?_
                  refine gs rfl ?_
                  refine gs rfl ?_
                  refine gs rfl ?_
                  refine gs rfl ?_
                  refine gs rfl ?_
                  refine gs rfl ?_
                  refine gs rfl ?_
                  refine gs rfl ?_
                  refine gs rfl ?_
                  refine gs rfl ?_
                  refine gs rfl ?_
                  refine gs rfl ?_
                  refine gs rfl ?_
                  refine gs rfl ?_
                  refine and_3 (Nat.le_of_ble_eq_true rfl) rfl (vin rfl) ?_
                  refine gs rfl ?_
                  refine gs rfl ?_
                  refine gs rfl ?_
                  refine gs rfl ?_
                  refine gs rfl ?_
                  refine gs rfl ?_
                  refine gs rfl ?_
                  refine gs rfl ?_
                  refine gs rfl ?_
                  refine gs rfl ?_
                  refine gs rfl ?_
                  refine gs rfl ?_
                  refine gs rfl ?_
                  refine gs rfl ?_
                  refine and_3 (Nat.le_of_ble_eq_true rfl) rfl (vin rfl) ?_
                  refine gs rfl ?_
                  refine gs rfl ?_
                  refine gs rfl ?_
                  refine gs rfl ?_
                  refine gs rfl ?_
                  refine gs rfl ?_
                  refine gs rfl ?_
                  refine gs rfl ?_
                  refine gs rfl ?_
                  refine gs rfl ?_
                  refine gs rfl ?_
                  refine gs rfl ?_
                  refine gs rfl ?_
                  refine gs rfl ?_
                  refine and_3 (Nat.le_of_ble_eq_true rfl) rfl (vin rfl) ?_
                  refine gs rfl ?_
                  refine gs rfl ?_
                  refine gs rfl ?_
                  refine gs rfl ?_
                  refine gs rfl ?_
                  refine gs rfl ?_
                  refine gs rfl ?_
                  refine gs rfl ?_
                  refine gs rfl ?_
                  refine gs rfl ?_
                  refine gs rfl ?_
                  refine gs rfl ?_
                  refine gs rfl ?_
                  refine gs rfl ?_
                  refine and_3 (Nat.le_of_ble_eq_true rfl) rfl (vin rfl) ?_
                  refine gs rfl ?_
                  refine gs rfl ?_
                  refine gs rfl ?_
                  refine gs rfl ?_
                  refine gs rfl ?_
                  refine gs rfl ?_
                  refine gs rfl ?_
                  refine gs rfl ?_
                  refine gs rfl ?_
                  refine gs rfl ?_
                  refine gs rfl ?_
                  refine gs rfl ?_
                  refine gs rfl ?_
                  refine gs rfl ?_
                  refine and_3 (Nat.le_of_ble_eq_true rfl) rfl (vin rfl) ?_
                  refine gs rfl ?_
                  refine gs rfl ?_
                  refine gs rfl ?_
                  refine gs rfl ?_
                  refine gs rfl ?_
                  refine gs rfl ?_
                  refine gs rfl ?_
                  refine gs rfl ?_
                  refine gs rfl ?_
                  refine gs rfl ?_
                  refine gs rfl ?_
                  refine gs rfl ?_
                  refine gs rfl ?_
                  refine gs rfl ?_
                  refine and_3 (Nat.le_of_ble_eq_true rfl) rfl (vin rfl) ?_
                  refine gs rfl ?_
                  refine gs rfl ?_
                  refine gs rfl ?_
                  refine gs rfl ?_
                  refine gs rfl ?_
                  refine gs rfl ?_
                  refine gs rfl ?_
                  refine gs rfl ?_
                  refine gs rfl ?_
                  refine gs rfl ?_
                  refine gs rfl ?_
                  refine gs rfl ?_
                  refine gs rfl ?_
                  refine gs rfl ?_
                  refine and_3 (Nat.le_of_ble_eq_true rfl) rfl (vin rfl) ?_
                  refine gs rfl ?_
                  refine gs rfl ?_
                  refine gs rfl ?_
                  refine gs rfl ?_
                  refine gs rfl ?_
                  refine gs rfl ?_
                  refine gs rfl ?_
                  refine gs rfl ?_
                  refine gs rfl ?_
                  refine gs rfl ?_
                  refine gs rfl ?_
                  refine gs rfl ?_
                  refine gs rfl ?_
                  refine gs rfl ?_
                  refine and_3 (Nat.le_of_ble_eq_true rfl) rfl (vin rfl) ?_
                  refine gs rfl ?_
                  refine gs rfl ?_
                  refine gs rfl ?_
                  refine gs rfl ?_
                  refine gs rfl ?_
                  refine gs rfl ?_
                  refine gs rfl ?_
                  refine gs rfl ?_
                  refine gs rfl ?_
                  refine gs rfl ?_
                  refine gs rfl ?_
                  refine gs rfl ?_
                  refine gs rfl ?_
                  refine gs rfl ?_
                  refine and_3 (Nat.le_of_ble_eq_true rfl) rfl (vin rfl) ?_
                  refine gs rfl ?_
                  refine gs rfl ?_
                  refine gs rfl ?_
                  refine gs rfl ?_
                  refine gs rfl ?_
                  refine gs rfl ?_
                  refine gs rfl ?_
                  refine gs rfl ?_
                  refine gs rfl ?_
                  refine gs rfl ?_
                  refine gs rfl ?_
                  refine gs rfl ?_
                  refine gs rfl ?_
                  refine gs rfl ?_
                  refine and_3 (Nat.le_of_ble_eq_true rfl) rfl (vin rfl) ?_
                  refine gs rfl ?_
                  refine gs rfl ?_
                  refine gs rfl ?_
                  refine gs rfl ?_
                  refine gs rfl ?_
                  refine gs rfl ?_
                  refine gs rfl ?_
                  refine gs rfl ?_
                  refine gs rfl ?_
                  refine gs rfl ?_
                  refine gs rfl ?_
                  refine gs rfl ?_
                  refine gs rfl ?_
                  refine gs rfl ?_
                  refine and_3 (Nat.le_of_ble_eq_true rfl) rfl (vin rfl) ?_
                  refine gs rfl ?_
                  refine gs rfl ?_
                  refine gs rfl ?_
                  refine gs rfl ?_
                  refine gs rfl ?_
                  refine gs rfl ?_
                  refine gs rfl ?_
                  refine gs rfl ?_
                  refine gs rfl ?_
                  refine gs rfl ?_
                  refine gs rfl ?_
                  refine gs rfl ?_
                  refine gs rfl ?_
                  refine gs rfl ?_
                  refine and_3 (Nat.le_of_ble_eq_true rfl) rfl (vin rfl) ?_
                  refine gs rfl ?_
                  refine gs rfl ?_
                  refine gs rfl ?_
                  refine gs rfl ?_
                  refine gs rfl ?_
                  refine gs rfl ?_
                  refine gs rfl ?_
                  refine gs rfl ?_
                  refine gs rfl ?_
                  refine gs rfl ?_
                  refine gs rfl ?_
                  refine gs rfl ?_
                  refine gs rfl ?_
                  refine gs rfl ?_
                  refine and_3 (Nat.le_of_ble_eq_true rfl) rfl (vin rfl) ?_
                  refine gs rfl ?_
                  refine gs rfl ?_
                  refine gs rfl ?_
                  refine gs rfl ?_
                  refine gs rfl ?_
                  refine gs rfl ?_
                  refine gs rfl ?_
                  refine gs rfl ?_
                  refine gs rfl ?_
                  refine gs rfl ?_
                  refine gs rfl ?_
                  refine gs rfl ?_
                  refine gs rfl ?_
                  refine gs rfl ?_
                  refine and_3 (Nat.le_of_ble_eq_true rfl) rfl (vin rfl) ?_
                  refine gs rfl ?_
                  refine gs rfl ?_
                  refine gs rfl ?_
                  refine gs rfl ?_
                  refine gs rfl ?_
                  refine gs rfl ?_
                  refine gs rfl ?_
                  refine gs rfl ?_
                  refine gs rfl ?_
                  refine gs rfl ?_
                  refine gs rfl ?_
                  refine gs rfl ?_
                  refine gs rfl ?_
                  refine gs rfl ?_
                  refine and_3 (Nat.le_of_ble_eq_true rfl) rfl (vin rfl) ?_
                  refine gs rfl ?_
                  refine gs rfl ?_
                  refine gs rfl ?_
                  refine gs rfl ?_
                  refine gs rfl ?_
                  refine gs rfl ?_
                  refine gs rfl ?_
                  refine gs rfl ?_
                  refine gs rfl ?_
                  refine gs rfl ?_
                  refine gs rfl ?_
                  refine gs rfl ?_
                  refine gs rfl ?_
                  refine gs rfl ?_
                  refine and_3 (Nat.le_of_ble_eq_true rfl) rfl (vin rfl) ?_
                  refine gs rfl ?_
                  refine gs rfl ?_
                  refine gs rfl ?_
                  refine gs rfl ?_
                  refine gs rfl ?_
                  refine gs rfl ?_
                  refine gs rfl ?_
                  refine and_i rfl ?_
                  refine gs rfl ?_
                  refine gs rfl ?_
                  refine gs rfl ?_
                  refine gs rfl ?_
                  refine gs rfl ?_
                  refine gs rfl ?_
                  refine and_i (Or.inl rfl) ?_
                  refine gwst (congrArg (fun z => Value.int z :: _) (alen_k (n := 6) (by rfl))) ?_
                  refine gs rfl ?_
                  refine gs rfl ?_
                  refine gs rfl ?_
                  refine gs rfl ?_
                  refine gs rfl ?_
                  refine and_2 rfl (Or.inr rfl) ?_
                  exact rfl
                · have x27q : s1 = (1 : Int32) := x27
                  clear x27
                  subst x27q
                  refine gs rfl ?_
                  refine and_2 (Nat.le_of_ble_eq_true rfl) (vin rfl) ?_
                  refine and_2 rfl (fun z q => by cases q) ?_
                  refine gs rfl ?_
                  refine gs rfl ?_
                  refine gs rfl ?_
                  refine and_i (Nat.le_of_ble_eq_true rfl) (cl0 (Nat.le_of_ble_eq_true rfl) (and_i (Nat.le_of_ble_eq_true rfl) ?_))
                  refine gs rfl ?_
                  refine gs rfl ?_
                  refine gs rfl ?_
                  refine and_3 (Nat.le_of_ble_eq_true rfl) (Nat.le_of_ble_eq_true rfl) trivial ?_
                  refine gs rfl ?_
                  refine gs rfl ?_
                  refine gs rfl ?_
                  refine and_3 (Nat.le_of_ble_eq_true rfl) (Nat.le_of_ble_eq_true rfl) trivial ?_
                  refine gs rfl ?_
                  refine gs rfl ?_
                  refine gs rfl ?_
                  refine gs rfl ?_
                  refine and_i (Nat.le_of_ble_eq_true rfl) (cl0 (Nat.le_of_ble_eq_true rfl) (and_i (Nat.le_of_ble_eq_true rfl) ?_))
                  refine gs rfl ?_
                  refine gs rfl ?_
                  refine gs rfl ?_
                  refine gs rfl ?_
                  refine and_i (Or.inl rfl) ?_
                  refine gwst (congrArg (fun z => Value.int z :: _) (alen_k (n := 40) (by rfl))) ?_
                  refine gs rfl ?_
                  refine gs rfl ?_
                  refine gs rfl ?_
                  refine gs rfl ?_
                  refine gs rfl ?_
                  refine gs rfl ?_
                  refine gs rfl ?_
                  refine gs rfl ?_
                  refine and_3 (Nat.le_of_ble_eq_true rfl) rfl (vin rfl) ?_
                  refine gs rfl ?_
                  refine gs rfl ?_
                  refine gs rfl ?_
                  refine gs rfl ?_
                  refine gs rfl ?_
                  refine gs rfl ?_
                  refine gs rfl ?_
                  refine gs rfl ?_
                  refine gs rfl ?_
                  refine and_3 (Nat.le_of_ble_eq_true rfl) rfl (vin rfl) ?_
                  refine gs rfl ?_
                  refine gs rfl ?_
                  refine gs rfl ?_
                  refine gs rfl ?_
                  refine gs rfl ?_
                  refine gs rfl ?_
                  refine gs rfl ?_
                  refine gs rfl ?_
                  refine gs rfl ?_
                  refine and_3 (Nat.le_of_ble_eq_true rfl) rfl (vin rfl) ?_
                  refine gs rfl ?_
                  refine gs rfl ?_
                  refine gs rfl ?_
                  refine gs rfl ?_
                  refine gs rfl ?_
                  refine gs rfl ?_
                  refine gs rfl ?_
                  refine gs rfl ?_
                  refine gs rfl ?_
                  refine and_3 (Nat.le_of_ble_eq_true rfl) rfl (vin rfl) ?_
                  refine gs rfl ?_
                  refine gs rfl ?_
                  refine gs rfl ?_
                  refine gs rfl ?_
                  refine gs rfl ?_
                  refine gs rfl ?_
                  refine gs rfl ?_
                  refine gs rfl ?_
                  refine gs rfl ?_
                  refine and_3 (Nat.le_of_ble_eq_true rfl) rfl (vin rfl) ?_
                  refine gs rfl ?_
                  refine gs rfl ?_
                  refine gs rfl ?_
                  refine gs rfl ?_
                  refine gs rfl ?_
                  refine gs rfl ?_
                  refine gs rfl ?_
                  refine gs rfl ?_
                  refine gs rfl ?_
                  refine and_3 (Nat.le_of_ble_eq_true rfl) rfl (vin rfl) ?_
                  refine gs rfl ?_
                  refine gs rfl ?_
                  refine gs rfl ?_
                  refine gs rfl ?_
                  refine gs rfl ?_
                  refine gs rfl ?_
                  refine gs rfl ?_
                  refine gs rfl ?_
                  refine gs rfl ?_
                  refine and_3 (Nat.le_of_ble_eq_true rfl) rfl (vin rfl) ?_
                  refine gs rfl ?_
                  refine gs rfl ?_
                  refine gs rfl ?_
                  refine gs rfl ?_
                  refine gs rfl ?_
                  refine gs rfl ?_
                  refine gs rfl ?_
                  refine gs rfl ?_
                  refine gs rfl ?_
                  refine and_3 (Nat.le_of_ble_eq_true rfl) rfl (vin rfl) ?_
                  refine gs rfl ?_
                  refine gs rfl ?_
                  refine gs rfl ?_
                  refine gs rfl ?_
                  refine gs rfl ?_
                  refine gs rfl ?_
                  refine gs rfl ?_
                  refine gs rfl ?_
                  refine gs rfl ?_
                  refine and_3 (Nat.le_of_ble_eq_true rfl) rfl (vin rfl) ?_
                  refine gs rfl ?_
                  refine gs rfl ?_
                  refine gs rfl ?_
                  refine gs rfl ?_
                  refine gs rfl ?_
                  refine gs rfl ?_
                  refine gs rfl ?_
                  refine gs rfl ?_
                  refine gs rfl ?_
                  refine and_3 (Nat.le_of_ble_eq_true rfl) rfl (vin rfl) ?_
                  refine gs rfl ?_
                  refine gs rfl ?_
                  refine gs rfl ?_
                  refine gs rfl ?_
                  refine gs rfl ?_
                  refine gs rfl ?_
                  refine gs rfl ?_
                  refine gs rfl ?_
                  refine gs rfl ?_
                  refine and_3 (Nat.le_of_ble_eq_true rfl) rfl (vin rfl) ?_
                  refine gs rfl ?_
                  refine gs rfl ?_
                  refine gs rfl ?_
                  refine gs rfl ?_
                  refine gs rfl ?_
                  refine gs rfl ?_
                  refine gs rfl ?_
                  refine gs rfl ?_
                  refine gs rfl ?_
                  refine and_3 (Nat.le_of_ble_eq_true rfl) rfl (vin rfl) ?_
                  refine gs rfl ?_
                  refine gs rfl ?_
                  refine gs rfl ?_
                  refine gs rfl ?_
                  refine gs rfl ?_
                  refine gs rfl ?_
                  refine gs rfl ?_
                  refine gs rfl ?_
                  refine gs rfl ?_
                  refine and_3 (Nat.le_of_ble_eq_true rfl) rfl (vin rfl) ?_
                  refine gs rfl ?_
                  refine gs rfl ?_
                  refine gs rfl ?_
                  refine gs rfl ?_
                  refine gs rfl ?_
                  refine gs rfl ?_
                  refine gs rfl ?_
                  refine gs rfl ?_
                  refine gs rfl ?_
                  refine and_3 (Nat.le_of_ble_eq_true rfl) rfl (vin rfl) ?_
                  refine gs rfl ?_
                  refine gs rfl ?_
                  refine gs rfl ?_
                  refine gs rfl ?_
                  refine gs rfl ?_
                  refine gs rfl ?_
                  refine gs rfl ?_
                  refine gs rfl ?_
                  refine gs rfl ?_
                  refine and_3 (Nat.le_of_ble_eq_true rfl) rfl (vin rfl) ?_
                  refine gs rfl ?_
                  refine gs rfl ?_
                  refine gs rfl ?_
                  refine gs rfl ?_
                  refine gs rfl ?_
                  refine gs rfl ?_
                  refine gs rfl ?_
                  refine gs rfl ?_
                  refine gs rfl ?_
                  refine and_3 (Nat.le_of_ble_eq_true rfl) rfl (vin rfl) ?_
                  refine gs rfl ?_
                  refine gs rfl ?_
                  refine gs rfl ?_
                  refine gs rfl ?_
                  refine gs rfl ?_
                  refine gs rfl ?_
                  refine gs rfl ?_
                  refine gs rfl ?_
                  refine gs rfl ?_
                  refine and_3 (Nat.le_of_ble_eq_true rfl) rfl (vin rfl) ?_
                  refine gs rfl ?_
                  refine gs rfl ?_
                  refine gs rfl ?_
                  refine gs rfl ?_
                  refine gs rfl ?_
                  refine gs rfl ?_
                  refine gs rfl ?_
                  refine gs rfl ?_
                  refine gs rfl ?_
                  refine and_3 (Nat.le_of_ble_eq_true rfl) rfl (vin rfl) ?_
                  refine gs rfl ?_
                  refine gs rfl ?_
                  refine gs rfl ?_
                  refine gs rfl ?_
                  refine gs rfl ?_
                  refine gs rfl ?_
                  refine gs rfl ?_
                  refine gs rfl ?_
                  refine gs rfl ?_
                  refine and_3 (Nat.le_of_ble_eq_true rfl) rfl (vin rfl) ?_
                  refine gs rfl ?_
                  refine gs rfl ?_
                  refine gs rfl ?_
                  refine gs rfl ?_
                  refine gs rfl ?_
                  refine gs rfl ?_
                  refine gs rfl ?_
                  refine gs rfl ?_
                  refine gs rfl ?_
                  refine and_3 (Nat.le_of_ble_eq_true rfl) rfl (vin rfl) ?_
                  refine gs rfl ?_
                  refine gs rfl ?_
                  refine gs rfl ?_
                  refine gs rfl ?_
                  refine gs rfl ?_
                  refine gs rfl ?_
                  refine gs rfl ?_
                  refine gs rfl ?_
                  refine gs rfl ?_
                  refine and_3 (Nat.le_of_ble_eq_true rfl) rfl (vin rfl) ?_
                  refine gs rfl ?_
                  refine gs rfl ?_
                  refine gs rfl ?_
                  refine gs rfl ?_
                  refine gs rfl ?_
                  refine gs rfl ?_
                  refine gs rfl ?_
                  refine gs rfl ?_
                  refine gs rfl ?_
                  refine and_3 (Nat.le_of_ble_eq_true rfl) rfl (vin rfl) ?_
                  refine gs rfl ?_
                  refine gs rfl ?_
                  refine gs rfl ?_
                  refine gs rfl ?_
                  refine gs rfl ?_
                  refine gs rfl ?_
                  refine gs rfl ?_
                  refine gs rfl ?_
                  refine gs rfl ?_
                  refine and_3 (Nat.le_of_ble_eq_true rfl) rfl (vin rfl) ?_
                  refine gs rfl ?_
                  refine gs rfl ?_
                  refine gs rfl ?_
                  refine gs rfl ?_
                  refine gs rfl ?_
                  refine gs rfl ?_
                  refine gs rfl ?_
                  refine gs rfl ?_
                  refine gs rfl ?_
                  refine and_3 (Nat.le_of_ble_eq_true rfl) rfl (vin rfl) ?_
                  refine gs rfl ?_
                  refine gs rfl ?_
                  refine gs rfl ?_
                  refine gs rfl ?_
                  refine gs rfl ?_
                  refine gs rfl ?_
                  refine gs rfl ?_
                  refine gs rfl ?_
                  refine gs rfl ?_
                  refine and_3 (Nat.le_of_ble_eq_true rfl) rfl (vin rfl) ?_
                  refine gs rfl ?_
                  refine gs rfl ?_
                  refine gs rfl ?_
                  refine gs rfl ?_
                  refine gs rfl ?_
                  refine gs rfl ?_
                  refine gs rfl ?_
                  refine gs rfl ?_
                  refine gs rfl ?_
                  refine and_3 (Nat.le_of_ble_eq_true rfl) rfl (vin rfl) ?_
                  refine gs rfl ?_
                  refine gs rfl ?_
                  refine gs rfl ?_
                  refine gs rfl ?_
                  refine gs rfl ?_
                  refine gs rfl ?_
                  refine gs rfl ?_
                  refine gs rfl ?_
                  refine gs rfl ?_
                  refine and_3 (Nat.le_of_ble_eq_true rfl) rfl (vin rfl) ?_
                  refine gs rfl ?_
                  refine gs rfl ?_
                  refine gs rfl ?_
                  refine gs rfl ?_
                  refine gs rfl ?_
                  refine gs rfl ?_
                  refine gs rfl ?_
                  refine gs rfl ?_
                  refine gs rfl ?_
                  refine and_3 (Nat.le_of_ble_eq_true rfl) rfl (vin rfl) ?_
                  refine gs rfl ?_
                  refine gs rfl ?_
                  refine gs rfl ?_
                  refine gs rfl ?_
                  refine gs rfl ?_
                  refine gs rfl ?_
                  refine gs rfl ?_
                  refine gs rfl ?_
                  refine gs rfl ?_
                  refine and_3 (Nat.le_of_ble_eq_true rfl) rfl (vin rfl) ?_
                  refine gs rfl ?_
                  refine gs rfl ?_
                  refine gs rfl ?_
                  refine gs rfl ?_
                  refine gs rfl ?_
                  refine gs rfl ?_
                  refine gs rfl ?_
                  refine gs rfl ?_
                  refine gs rfl ?_
                  refine and_3 (Nat.le_of_ble_eq_true rfl) rfl (vin rfl) ?_
                  refine gs rfl ?_
                  refine gs rfl ?_
                  refine gs rfl ?_
                  refine gs rfl ?_
                  refine gs rfl ?_
                  refine gs rfl ?_
                  refine gs rfl ?_
                  refine gs rfl ?_
                  refine gs rfl ?_
                  refine and_3 (Nat.le_of_ble_eq_true rfl) rfl (vin rfl) ?_
                  refine gs rfl ?_
                  refine gs rfl ?_
                  refine gs rfl ?_
                  refine gs rfl ?_
                  refine gs rfl ?_
                  refine gs rfl ?_
                  refine gs rfl ?_
                  refine gs rfl ?_
                  refine gs rfl ?_
                  refine and_3 (Nat.le_of_ble_eq_true rfl) rfl (vin rfl) ?_
                  refine gs rfl ?_
                  refine gs rfl ?_
                  refine gs rfl ?_
                  refine gs rfl ?_
                  refine gs rfl ?_
                  refine gs rfl ?_
                  refine gs rfl ?_
                  refine gs rfl ?_
                  refine gs rfl ?_
                  refine and_3 (Nat.le_of_ble_eq_true rfl) rfl (vin rfl) ?_
                  refine gs rfl ?_
                  refine gs rfl ?_
                  refine gs rfl ?_
                  refine gs rfl ?_
                  refine gs rfl ?_
                  refine gs rfl ?_
                  refine gs rfl ?_
                  refine gs rfl ?_
                  refine gs rfl ?_
                  refine and_3 (Nat.le_of_ble_eq_true rfl) rfl (vin rfl) ?_
                  refine gs rfl ?_
                  refine gs rfl ?_
                  refine gs rfl ?_
                  refine gs rfl ?_
                  refine gs rfl ?_
                  refine gs rfl ?_
                  refine gs rfl ?_
                  refine gs rfl ?_
                  refine gs rfl ?_
                  refine and_3 (Nat.le_of_ble_eq_true rfl) rfl (vin rfl) ?_
                  refine gs rfl ?_
                  refine gs rfl ?_
                  refine gs rfl ?_
                  refine gs rfl ?_
                  refine gs rfl ?_
                  refine gs rfl ?_
                  refine gs rfl ?_
                  refine gs rfl ?_
                  refine gs rfl ?_
                  refine and_3 (Nat.le_of_ble_eq_true rfl) rfl (vin rfl) ?_
                  refine gs rfl ?_
                  refine gs rfl ?_
                  refine gs rfl ?_
                  refine gs rfl ?_
                  refine gs rfl ?_
                  refine gs rfl ?_
                  refine gs rfl ?_
                  refine gs rfl ?_
                  refine gs rfl ?_
                  refine and_3 (Nat.le_of_ble_eq_true rfl) rfl (vin rfl) ?_
                  refine gs rfl ?_
                  refine gs rfl ?_
                  refine gs rfl ?_
                  refine gs rfl ?_
                  refine gs rfl ?_
                  refine gs rfl ?_
                  refine gs rfl ?_
                  refine gs rfl ?_
                  refine gs rfl ?_
                  refine and_3 (Nat.le_of_ble_eq_true rfl) rfl (vin rfl) ?_
                  refine gs rfl ?_
                  refine gs rfl ?_
                  refine gs rfl ?_
                  refine gs rfl ?_
                  refine gs rfl ?_
                  refine gs rfl ?_
                  refine gs rfl ?_
                  refine gs rfl ?_
                  refine gs rfl ?_
                  refine and_3 (Nat.le_of_ble_eq_true rfl) rfl (vin rfl) ?_
                  refine gs rfl ?_
                  refine gs rfl ?_
                  refine gs rfl ?_
                  refine gs rfl ?_
                  refine gs rfl ?_
                  refine gs rfl ?_
                  refine gs rfl ?_
                  refine gs rfl ?_
                  refine gs rfl ?_
                  refine and_3 (Nat.le_of_ble_eq_true rfl) rfl (vin rfl) ?_
                  refine gs rfl ?_
                  refine gs rfl ?_
                  refine gs rfl ?_
                  refine gs rfl ?_
                  refine gs rfl ?_
                  refine gs rfl ?_
                  refine and_i rfl ?_
                  refine gs rfl ?_
                  refine and_i rfl ?_
                  refine gs rfl ?_
                  refine gs rfl ?_
                  refine and_i rfl ?_
                  refine FRg rfl (fun f => ?_)
                  refine gs rfl ?_
                  refine gs rfl ?_
                  refine gs rfl ?_
                  refine gs rfl ?_
                  refine gs rfl ?_
                  refine gs rfl ?_
                  refine and_2 rfl (vin rfl) ?_
                  refine gs rfl ?_
                  refine gs rfl ?_
                  refine gs rfl ?_
                  refine gs rfl ?_
                  refine gs rfl ?_
                  refine and_2 rfl (vin rfl) ?_
                  refine gs rfl ?_
                  refine gs rfl ?_
                  refine gs rfl ?_
                  refine gs rfl ?_
                  refine gs rfl ?_
                  refine and_2 rfl (vin rfl) ?_
                  refine gs rfl ?_
                  refine and_i (Nat.le_of_ble_eq_true rfl) (cl0 (Nat.le_of_ble_eq_true rfl) (and_i (Nat.le_of_ble_eq_true rfl) ?_))
                  refine gs rfl ?_
                  refine gs rfl ?_
                  refine and_i (Nat.le_of_ble_eq_true rfl) (cl0 (Nat.le_of_ble_eq_true rfl) (and_i (Nat.le_of_ble_eq_true rfl) ?_))
                  refine gs rfl ?_
                  refine gs rfl ?_
                  refine gs rfl ?_
                  refine gs rfl ?_
                  refine and_i (Nat.le_of_ble_eq_true rfl) (cl0 (Nat.le_of_ble_eq_true rfl) (and_i (Nat.le_of_ble_eq_true rfl) ?_))
                  refine gs rfl ?_
                  refine gs rfl ?_
                  refine gs rfl ?_
                  refine gs rfl ?_
                  refine gs rfl ?_
                  refine gs rfl ?_
                  refine gs rfl ?_
                  refine gs rfl ?_
                  refine gs rfl ?_
                  refine and_2 rfl (Or.inr rfl) ?_
                  refine gs rfl ?_
                  refine and_2 rfl (Or.inr rfl) ?_
                  refine gs rfl ?_
                  refine gs rfl ?_
                  refine gs rfl ?_
                  refine ifF ((fun q => absurd ((eq_k (a := (s2).toInt) (b := 0) (by rfl) (by rfl)).mp q) (by omega))) ?_
                  refine gs rfl ?_
                  refine gs rfl ?_
                  refine gs rfl ?_
                  refine ifF ((fun q => absurd ((eq_k (a := (s2).toInt) (b := 8) (by rfl) (by rfl)).mp q) (by omega))) ?_
                  refine gs rfl ?_
                  refine gs rfl ?_
                  refine gs rfl ?_
                  refine ifT ((eq_k (a := (s2).toInt) (b := 16) (by rfl) (by rfl)).mpr (by omega)) ?_
                  refine gs rfl ?_
                  refine gs rfl ?_
                  refine ifF ((fun q => absurd ((eq_k (a := (s2).toInt) (b := 0) (by rfl) (by rfl)).mp q) (by omega))) ?_
                  refine gs rfl ?_
                  refine gs rfl ?_
                  refine ifT ((le_k (a := 0) (b := (s3).toInt) (by rfl) (by rfl)).mpr (by omega)) ?_
                  refine gs rfl ?_
                  refine gs rfl ?_
                  refine ifF ((fun q => absurd ((eq_k (a := (s2).toInt) (b := 0) (by rfl) (by rfl)).mp q) (by omega))) ?_
                  refine gs rfl ?_
                  refine gs rfl ?_
                  refine gs rfl ?_
                  refine ifT ((le_k (a := (s3).toInt) (b := 40) (by rfl) (by rfl)).mpr (by omega)) ?_
                  refine gs rfl ?_
                  refine gs rfl ?_
                  refine gs rfl ?_
                  refine gs rfl ?_
                  refine gs rfl ?_
                  refine and_3 (Nat.le_of_ble_eq_true rfl) rfl (vin rfl) ?_
                  refine gs rfl ?_
                  refine gs rfl ?_
                  refine gs rfl ?_
                  refine gs rfl ?_
                  refine gs rfl ?_
                  refine ifF ((fun q => absurd ((eq_k (a := (s2).toInt) (b := 0) (by rfl) (by rfl)).mp q) (by omega))) ?_
                  refine gs rfl ?_
                  refine gs rfl ?_
                  refine and_3 (Nat.le_of_ble_eq_true rfl) rfl (vin rfl) ?_
                  refine gs rfl ?_
                  refine gs rfl ?_
                  refine gs rfl ?_
                  refine gs rfl ?_
                  refine gs rfl ?_
                  refine gs rfl ?_
                  refine gs rfl ?_
                  refine gs rfl ?_
                  refine gs rfl ?_
                  refine gs rfl ?_
                  refine gs rfl ?_
                  refine gs rfl ?_
                  refine gs rfl ?_
                  refine gs rfl ?_
                  refine and_3 (Nat.le_of_ble_eq_true rfl) rfl (vin rfl) ?_
                  refine gs rfl ?_
                  refine gs rfl ?_
                  refine gs rfl ?_
                  refine gs rfl ?_
                  refine gs rfl ?_
                  refine gs rfl ?_
                  refine gs rfl ?_
                  refine gs rfl ?_
                  refine gs rfl ?_
                  refine gs rfl ?_
                  refine gs rfl ?_
                  refine gs rfl ?_
                  refine gs rfl ?_
                  refine gs rfl ?_
                  refine and_3 (Nat.le_of_ble_eq_true rfl) rfl (vin rfl) ?_
                  refine gs rfl ?_
                  refine gs rfl ?_
                  refine gs rfl ?_
                  refine gs rfl ?_
                  refine gs rfl ?_
                  refine gs rfl ?_
                  refine gs rfl ?_
                  refine gs rfl ?_
                  refine gs rfl ?_
                  refine gs rfl ?_
                  refine gs rfl ?_
                  refine gs rfl ?_
                  refine gs rfl ?_
                  refine gs rfl ?_
                  refine and_3 (Nat.le_of_ble_eq_true rfl) rfl (vin rfl) ?_
                  refine gs rfl ?_
                  refine gs rfl ?_
                  refine gs rfl ?_
                  refine gs rfl ?_
                  refine gs rfl ?_
                  refine gs rfl ?_
                  refine gs rfl ?_
                  refine gs rfl ?_
                  refine gs rfl ?_
                  refine gs rfl ?_
                  refine gs rfl ?_
                  refine gs rfl ?_
                  refine gs rfl ?_
                  refine gs rfl ?_
                  refine and_3 (Nat.le_of_ble_eq_true rfl) rfl (vin rfl) ?_
                  refine gs rfl ?_
                  refine gs rfl ?_
                  refine gs rfl ?_
                  refine gs rfl ?_
                  refine gs rfl ?_
                  refine gs rfl ?_
                  refine gs rfl ?_
                  refine gs rfl ?_
                  refine gs rfl ?_
                  refine gs rfl ?_
                  refine gs rfl ?_
                  refine gs rfl ?_
                  refine gs rfl ?_
                  refine gs rfl ?_
                  refine and_3 (Nat.le_of_ble_eq_true rfl) rfl (vin rfl) ?_
                  refine gs rfl ?_
                  refine gs rfl ?_
                  refine gs rfl ?_
                  refine gs rfl ?_
                  refine gs rfl ?_
                  refine gs rfl ?_
                  refine gs rfl ?_
                  refine gs rfl ?_
                  refine gs rfl ?_
                  refine gs rfl ?_
                  refine gs rfl ?_
                  refine gs rfl ?_
                  refine gs rfl ?_
                  refine gs rfl ?_
                  refine and_3 (Nat.le_of_ble_eq_true rfl) rfl (vin rfl) ?_
                  refine gs rfl ?_
                  refine gs rfl ?_
                  refine gs rfl ?_
                  refine gs rfl ?_
                  refine gs rfl ?_
                  refine gs rfl ?_
                  refine gs rfl ?_
                  refine gs rfl ?_
                  refine gs rfl ?_
                  refine gs rfl ?_
                  refine gs rfl ?_
                  refine gs rfl ?_
                  refine gs rfl ?_
                  refine gs rfl ?_
                  refine and_3 (Nat.le_of_ble_eq_true rfl) rfl (vin rfl) ?_
                  refine gs rfl ?_
                  refine gs rfl ?_
                  refine gs rfl ?_
                  refine gs rfl ?_
                  refine gs rfl ?_
                  refine gs rfl ?_
                  refine gs rfl ?_
                  refine gs rfl ?_
                  refine gs rfl ?_
                  refine gs rfl ?_
                  refine gs rfl ?_
                  refine gs rfl ?_
                  refine gs rfl ?_
                  refine gs rfl ?_
                  refine and_3 (Nat.le_of_ble_eq_true rfl) rfl (vin rfl) ?_
                  refine gs rfl ?_
                  refine gs rfl ?_
                  refine gs rfl ?_
                  refine gs rfl ?_
                  refine gs rfl ?_
                  refine gs rfl ?_
                  refine gs rfl ?_
                  refine gs rfl ?_
                  refine gs rfl ?_
                  refine gs rfl ?_
                  refine gs rfl ?_
                  refine gs rfl ?_
                  refine gs rfl ?_
                  refine gs rfl ?_
                  refine and_3 (Nat.le_of_ble_eq_true rfl) rfl (vin rfl) ?_
                  refine gs rfl ?_
                  refine gs rfl ?_
                  refine gs rfl ?_
                  refine gs rfl ?_
                  refine gs rfl ?_
                  refine gs rfl ?_
                  refine gs rfl ?_
                  refine gs rfl ?_
                  refine gs rfl ?_
                  refine gs rfl ?_
                  refine gs rfl ?_
                  refine gs rfl ?_
                  refine gs rfl ?_
                  refine gs rfl ?_
                  refine and_3 (Nat.le_of_ble_eq_true rfl) rfl (vin rfl) ?_
                  refine gs rfl ?_
                  refine gs rfl ?_
                  refine gs rfl ?_
                  refine gs rfl ?_
                  refine gs rfl ?_
                  refine gs rfl ?_
                  refine gs rfl ?_
                  refine gs rfl ?_
                  refine gs rfl ?_
                  refine gs rfl ?_
                  refine gs rfl ?_
                  refine gs rfl ?_
                  refine gs rfl ?_
                  refine gs rfl ?_
                  refine and_3 (Nat.le_of_ble_eq_true rfl) rfl (vin rfl) ?_
                  refine gs rfl ?_
                  refine gs rfl ?_
                  refine gs rfl ?_
                  refine gs rfl ?_
                  refine gs rfl ?_
                  refine gs rfl ?_
                  refine gs rfl ?_
                  refine gs rfl ?_
                  refine gs rfl ?_
                  refine gs rfl ?_
                  refine gs rfl ?_
                  refine gs rfl ?_
                  refine gs rfl ?_
                  refine gs rfl ?_
                  refine and_3 (Nat.le_of_ble_eq_true rfl) rfl (vin rfl) ?_
                  refine gs rfl ?_
                  refine gs rfl ?_
                  refine gs rfl ?_
                  refine gs rfl ?_
                  refine gs rfl ?_
                  refine gs rfl ?_
                  refine gs rfl ?_
                  refine gs rfl ?_
                  refine gs rfl ?_
                  refine gs rfl ?_
                  refine gs rfl ?_
                  refine gs rfl ?_
                  refine gs rfl ?_
                  refine gs rfl ?_
                  refine and_3 (Nat.le_of_ble_eq_true rfl) rfl (vin rfl) ?_
                  refine gs rfl ?_
                  refine gs rfl ?_
                  refine gs rfl ?_
                  refine gs rfl ?_
                  refine gs rfl ?_
                  refine gs rfl ?_
                  refine gs rfl ?_
                  refine gs rfl ?_
                  refine gs rfl ?_
                  refine gs rfl ?_
                  refine gs rfl ?_
                  refine gs rfl ?_
                  refine gs rfl ?_
                  refine gs rfl ?_
                  refine and_3 (Nat.le_of_ble_eq_true rfl) rfl (vin rfl) ?_
                  refine gs rfl ?_
                  refine gs rfl ?_
                  refine gs rfl ?_
                  refine gs rfl ?_
                  refine gs rfl ?_
                  refine gs rfl ?_
                  refine gs rfl ?_
                  refine gs rfl ?_
                  refine gs rfl ?_
                  refine gs rfl ?_
                  refine gs rfl ?_
                  refine gs rfl ?_
                  refine gs rfl ?_
                  refine gs rfl ?_
                  refine and_3 (Nat.le_of_ble_eq_true rfl) rfl (vin rfl) ?_
                  refine gs rfl ?_
                  refine gs rfl ?_
                  refine gs rfl ?_
                  refine gs rfl ?_
                  refine gs rfl ?_
                  refine gs rfl ?_
                  refine gs rfl ?_
                  refine gs rfl ?_
                  refine gs rfl ?_
                  refine gs rfl ?_
                  refine gs rfl ?_
                  refine gs rfl ?_
                  refine gs rfl ?_
                  refine gs rfl ?_
                  refine and_3 (Nat.le_of_ble_eq_true rfl) rfl (vin rfl) ?_
                  refine gs rfl ?_
                  refine gs rfl ?_
                  refine gs rfl ?_
                  refine gs rfl ?_
                  refine gs rfl ?_
                  refine gs rfl ?_
                  refine gs rfl ?_
                  refine gs rfl ?_
                  refine gs rfl ?_
                  refine gs rfl ?_
                  refine gs rfl ?_
                  refine gs rfl ?_
                  refine gs rfl ?_
                  refine gs rfl ?_
                  refine and_3 (Nat.le_of_ble_eq_true rfl) rfl (vin rfl) ?_
                  refine gs rfl ?_
                  refine gs rfl ?_
                  refine gs rfl ?_
                  refine gs rfl ?_
                  refine gs rfl ?_
                  refine gs rfl ?_
                  refine gs rfl ?_
                  refine gs rfl ?_
                  refine gs rfl ?_
                  refine gs rfl ?_
                  refine gs rfl ?_
                  refine gs rfl ?_
                  refine gs rfl ?_
                  refine gs rfl ?_
                  refine and_3 (Nat.le_of_ble_eq_true rfl) rfl (vin rfl) ?_
                  refine gs rfl ?_
                  refine gs rfl ?_
                  refine gs rfl ?_
                  refine gs rfl ?_
                  refine gs rfl ?_
                  refine gs rfl ?_
                  refine gs rfl ?_
                  refine gs rfl ?_
                  refine gs rfl ?_
                  refine gs rfl ?_
                  refine gs rfl ?_
                  refine gs rfl ?_
                  refine gs rfl ?_
                  refine gs rfl ?_
                  refine and_3 (Nat.le_of_ble_eq_true rfl) rfl (vin rfl) ?_
                  refine gs rfl ?_
                  refine gs rfl ?_
                  refine gs rfl ?_
                  refine gs rfl ?_
                  refine gs rfl ?_
                  refine gs rfl ?_
                  refine gs rfl ?_
                  refine gs rfl ?_
                  refine gs rfl ?_
                  refine gs rfl ?_
                  refine gs rfl ?_
                  refine gs rfl ?_
                  refine gs rfl ?_
                  refine gs rfl ?_
                  refine and_3 (Nat.le_of_ble_eq_true rfl) rfl (vin rfl) ?_
                  refine gs rfl ?_
                  refine gs rfl ?_
                  refine gs rfl ?_
                  refine gs rfl ?_
                  refine gs rfl ?_
                  refine gs rfl ?_
                  refine gs rfl ?_
                  refine gs rfl ?_
                  refine gs rfl ?_
                  refine gs rfl ?_
                  refine gs rfl ?_
                  refine gs rfl ?_
                  refine gs rfl ?_
                  refine gs rfl ?_
                  refine and_3 (Nat.le_of_ble_eq_true rfl) rfl (vin rfl) ?_
                  refine gs rfl ?_
                  refine gs rfl ?_
                  refine gs rfl ?_
                  refine gs rfl ?_
                  refine gs rfl ?_
                  refine gs rfl ?_
                  refine gs rfl ?_
                  refine gs rfl ?_
                  refine gs rfl ?_
                  refine gs rfl ?_
                  refine gs rfl ?_
                  refine gs rfl ?_
                  refine gs rfl ?_
                  refine gs rfl ?_
                  refine and_3 (Nat.le_of_ble_eq_true rfl) rfl (vin rfl) ?_
                  refine gs rfl ?_
                  refine gs rfl ?_
                  refine gs rfl ?_
                  refine gs rfl ?_
                  refine gs rfl ?_
                  refine gs rfl ?_
                  refine gs rfl ?_
                  refine gs rfl ?_
                  refine gs rfl ?_
                  refine gs rfl ?_
                  refine gs rfl ?_
                  refine gs rfl ?_
                  refine gs rfl ?_
                  refine gs rfl ?_
                  refine and_3 (Nat.le_of_ble_eq_true rfl) rfl (vin rfl) ?_
                  refine gs rfl ?_
                  refine gs rfl ?_
                  refine gs rfl ?_
                  refine gs rfl ?_
                  refine gs rfl ?_
                  refine gs rfl ?_
                  refine gs rfl ?_
                  refine gs rfl ?_
                  refine gs rfl ?_
                  refine gs rfl ?_
                  refine gs rfl ?_
                  refine gs rfl ?_
                  refine gs rfl ?_
                  refine gs rfl ?_
                  refine and_3 (Nat.le_of_ble_eq_true rfl) rfl (vin rfl) ?_
                  refine gs rfl ?_
                  refine gs rfl ?_
                  refine gs rfl ?_
                  refine gs rfl ?_
                  refine gs rfl ?_
                  refine gs rfl ?_
                  refine gs rfl ?_
                  refine gs rfl ?_
                  refine gs rfl ?_
                  refine gs rfl ?_
                  refine gs rfl ?_
                  refine gs rfl ?_
                  refine gs rfl ?_
                  refine gs rfl ?_
                  refine and_3 (Nat.le_of_ble_eq_true rfl) rfl (vin rfl) ?_
                  refine gs rfl ?_
                  refine gs rfl ?_
                  refine gs rfl ?_
                  refine gs rfl ?_
                  refine gs rfl ?_
                  refine gs rfl ?_
                  refine gs rfl ?_
                  refine gs rfl ?_
                  refine gs rfl ?_
                  refine gs rfl ?_
                  refine gs rfl ?_
                  refine gs rfl ?_
                  refine gs rfl ?_
                  refine gs rfl ?_
                  refine and_3 (Nat.le_of_ble_eq_true rfl) rfl (vin rfl) ?_
                  refine gs rfl ?_
                  refine gs rfl ?_
                  refine gs rfl ?_
                  refine gs rfl ?_
                  refine gs rfl ?_
                  refine gs rfl ?_
                  refine gs rfl ?_
                  refine gs rfl ?_
                  refine gs rfl ?_
                  refine gs rfl ?_
                  refine gs rfl ?_
                  refine gs rfl ?_
                  refine gs rfl ?_
                  refine gs rfl ?_
                  refine and_3 (Nat.le_of_ble_eq_true rfl) rfl (vin rfl) ?_
                  refine gs rfl ?_
                  refine gs rfl ?_
                  refine gs rfl ?_
                  refine gs rfl ?_
                  refine gs rfl ?_
                  refine gs rfl ?_
                  refine gs rfl ?_
                  refine gs rfl ?_
                  refine gs rfl ?_
                  refine gs rfl ?_
                  refine gs rfl ?_
                  refine gs rfl ?_
                  refine gs rfl ?_
                  refine gs rfl ?_
                  refine and_3 (Nat.le_of_ble_eq_true rfl) rfl (vin rfl) ?_
                  refine gs rfl ?_
                  refine gs rfl ?_
                  refine gs rfl ?_
                  refine gs rfl ?_
                  refine gs rfl ?_
                  refine gs rfl ?_
                  refine gs rfl ?_
                  refine gs rfl ?_
                  refine gs rfl ?_
                  refine gs rfl ?_
                  refine gs rfl ?_
                  refine gs rfl ?_
                  refine gs rfl ?_
                  refine gs rfl ?_
                  refine and_3 (Nat.le_of_ble_eq_true rfl) rfl (vin rfl) ?_
                  refine gs rfl ?_
                  refine gs rfl ?_
                  refine gs rfl ?_
                  refine gs rfl ?_
                  refine gs rfl ?_
                  refine gs rfl ?_
                  refine gs rfl ?_
                  refine gs rfl ?_
                  refine gs rfl ?_
                  refine gs rfl ?_
                  refine gs rfl ?_
                  refine gs rfl ?_
                  refine gs rfl ?_
                  refine gs rfl ?_
                  refine and_3 (Nat.le_of_ble_eq_true rfl) rfl (vin rfl) ?_
                  refine gs rfl ?_
                  refine gs rfl ?_
                  refine gs rfl ?_
                  refine gs rfl ?_
                  refine gs rfl ?_
                  refine gs rfl ?_
                  refine gs rfl ?_
                  refine gs rfl ?_
                  refine gs rfl ?_
                  refine gs rfl ?_
                  refine gs rfl ?_
                  refine gs rfl ?_
                  refine gs rfl ?_
                  refine gs rfl ?_
                  refine and_3 (Nat.le_of_ble_eq_true rfl) rfl (vin rfl) ?_
                  refine gs rfl ?_
                  refine gs rfl ?_
                  refine gs rfl ?_
                  refine gs rfl ?_
                  refine gs rfl ?_
                  refine gs rfl ?_
                  refine gs rfl ?_
                  refine gs rfl ?_
                  refine gs rfl ?_
                  refine gs rfl ?_
                  refine gs rfl ?_
                  refine gs rfl ?_
                  refine gs rfl ?_
                  refine gs rfl ?_
                  refine and_3 (Nat.le_of_ble_eq_true rfl) rfl (vin rfl) ?_
                  refine gs rfl ?_
                  refine gs rfl ?_
                  refine gs rfl ?_
                  refine gs rfl ?_
                  refine gs rfl ?_
                  refine gs rfl ?_
                  refine gs rfl ?_
                  refine gs rfl ?_
                  refine gs rfl ?_
                  refine gs rfl ?_
                  refine gs rfl ?_
                  refine gs rfl ?_
                  refine gs rfl ?_
                  refine gs rfl ?_
                  refine and_3 (Nat.le_of_ble_eq_true rfl) rfl (vin rfl) ?_
                  refine gs rfl ?_
                  refine gs rfl ?_
                  refine gs rfl ?_
                  refine gs rfl ?_
                  refine gs rfl ?_
                  refine gs rfl ?_
                  refine gs rfl ?_
                  refine gs rfl ?_
                  refine gs rfl ?_
                  refine gs rfl ?_
                  refine gs rfl ?_
                  refine gs rfl ?_
                  refine gs rfl ?_
                  refine gs rfl ?_
                  refine and_3 (Nat.le_of_ble_eq_true rfl) rfl (vin rfl) ?_
                  refine gs rfl ?_
                  refine gs rfl ?_
                  refine gs rfl ?_
                  refine gs rfl ?_
                  refine gs rfl ?_
                  refine gs rfl ?_
                  refine gs rfl ?_
                  refine gs rfl ?_
                  refine gs rfl ?_
                  refine gs rfl ?_
                  refine gs rfl ?_
                  refine gs rfl ?_
                  refine gs rfl ?_
                  refine gs rfl ?_
                  refine and_3 (Nat.le_of_ble_eq_true rfl) rfl (vin rfl) ?_
                  refine gs rfl ?_
                  refine gs rfl ?_
                  refine gs rfl ?_
                  refine gs rfl ?_
                  refine gs rfl ?_
                  refine gs rfl ?_
                  refine gs rfl ?_
                  refine gs rfl ?_
                  refine gs rfl ?_
                  refine gs rfl ?_
                  refine gs rfl ?_
                  refine gs rfl ?_
                  refine gs rfl ?_
                  refine gs rfl ?_
                  refine and_3 (Nat.le_of_ble_eq_true rfl) rfl (vin rfl) ?_
                  refine gs rfl ?_
                  refine gs rfl ?_
                  refine gs rfl ?_
                  refine gs rfl ?_
                  refine gs rfl ?_
                  refine gs rfl ?_
                  refine gs rfl ?_
                  refine gs rfl ?_
                  refine gs rfl ?_
                  refine gs rfl ?_
                  refine gs rfl ?_
                  refine gs rfl ?_
                  refine gs rfl ?_
                  refine gs rfl ?_
                  refine and_3 (Nat.le_of_ble_eq_true rfl) rfl (vin rfl) ?_
                  refine gs rfl ?_
                  refine gs rfl ?_
                  refine gs rfl ?_
                  refine gs rfl ?_
                  refine gs rfl ?_
                  refine gs rfl ?_
                  refine gs rfl ?_
                  refine gs rfl ?_
                  refine gs rfl ?_
                  refine gs rfl ?_
                  refine gs rfl ?_
                  refine gs rfl ?_
                  refine gs rfl ?_
                  refine gs rfl ?_
                  refine and_3 (Nat.le_of_ble_eq_true rfl) rfl (vin rfl) ?_
                  refine gs rfl ?_
                  refine gs rfl ?_
                  refine gs rfl ?_
                  refine gs rfl ?_
                  refine gs rfl ?_
                  refine gs rfl ?_
                  refine gs rfl ?_
                  refine gs rfl ?_
                  refine gs rfl ?_
                  refine gs rfl ?_
                  refine gs rfl ?_
                  refine gs rfl ?_
                  refine gs rfl ?_
                  refine gs rfl ?_
                  refine and_3 (Nat.le_of_ble_eq_true rfl) rfl (vin rfl) ?_
                  refine gs rfl ?_
                  refine gs rfl ?_
                  refine gs rfl ?_
                  refine gs rfl ?_
                  refine gs rfl ?_
                  refine gs rfl ?_
                  refine gs rfl ?_
                  refine gs rfl ?_
                  refine gs rfl ?_
                  refine gs rfl ?_
                  refine gs rfl ?_
                  refine gs rfl ?_
                  refine gs rfl ?_
                  refine gs rfl ?_
                  refine and_3 (Nat.le_of_ble_eq_true rfl) rfl (vin rfl) ?_
                  refine gs rfl ?_
                  refine gs rfl ?_
                  refine gs rfl ?_
                  refine gs rfl ?_
                  refine gs rfl ?_
                  refine gs rfl ?_
                  refine gs rfl ?_
                  refine and_i rfl ?_
                  refine gs rfl ?_
                  refine gs rfl ?_
                  refine gs rfl ?_
                  refine gs rfl ?_
                  refine gs rfl ?_
                  refine gs rfl ?_
                  refine and_i (Or.inl rfl) ?_
                  refine gwst (congrArg (fun z => Value.int z :: _) (alen_k (n := 6) (by rfl))) ?_
                  refine gs rfl ?_
                  refine gs rfl ?_
                  refine gs rfl ?_
                  refine gs rfl ?_
                  refine gs rfl ?_
                  refine and_2 rfl (Or.inr rfl) ?_
                  exact rfl
                · have x27q : s1 = (2 : Int32) := x27
                  clear x27
                  subst x27q
                  refine gs rfl ?_
                  refine and_2 (Nat.le_of_ble_eq_true rfl) (vin rfl) ?_
                  refine and_2 rfl (fun z q => by cases q) ?_
                  refine gs rfl ?_
                  refine gs rfl ?_
                  refine gs rfl ?_
                  refine and_i (Nat.le_of_ble_eq_true rfl) (cl0 (Nat.le_of_ble_eq_true rfl) (and_i (Nat.le_of_ble_eq_true rfl) ?_))
                  refine gs rfl ?_
                  refine gs rfl ?_
                  refine gs rfl ?_
                  refine and_3 (Nat.le_of_ble_eq_true rfl) (Nat.le_of_ble_eq_true rfl) trivial ?_
                  refine gs rfl ?_
                  refine gs rfl ?_
                  refine gs rfl ?_
                  refine and_3 (Nat.le_of_ble_eq_true rfl) (Nat.le_of_ble_eq_true rfl) trivial ?_
                  refine gs rfl ?_
                  refine gs rfl ?_
                  refine gs rfl ?_
                  refine gs rfl ?_
                  refine and_i (Nat.le_of_ble_eq_true rfl) (cl0 (Nat.le_of_ble_eq_true rfl) (and_i (Nat.le_of_ble_eq_true rfl) ?_))
                  refine gs rfl ?_
                  refine gs rfl ?_
                  refine gs rfl ?_
                  refine gs rfl ?_
                  refine and_i (Or.inl rfl) ?_
                  refine gwst (congrArg (fun z => Value.int z :: _) (alen_k (n := 40) (by rfl))) ?_
                  refine gs rfl ?_
                  refine gs rfl ?_
                  refine gs rfl ?_
                  refine gs rfl ?_
                  refine gs rfl ?_
                  refine gs rfl ?_
                  refine gs rfl ?_
                  refine gs rfl ?_
                  refine and_3 (Nat.le_of_ble_eq_true rfl) rfl (vin rfl) ?_
                  refine gs rfl ?_
                  refine gs rfl ?_
                  refine gs rfl ?_
                  refine gs rfl ?_
                  refine gs rfl ?_
                  refine gs rfl ?_
                  refine gs rfl ?_
                  refine gs rfl ?_
                  refine gs rfl ?_
                  refine and_3 (Nat.le_of_ble_eq_true rfl) rfl (vin rfl) ?_
                  refine gs rfl ?_
                  refine gs rfl ?_
                  refine gs rfl ?_
                  refine gs rfl ?_
                  refine gs rfl ?_
                  refine gs rfl ?_
                  refine gs rfl ?_
                  refine gs rfl ?_
                  refine gs rfl ?_
                  refine and_3 (Nat.le_of_ble_eq_true rfl) rfl (vin rfl) ?_
                  refine gs rfl ?_
                  refine gs rfl ?_
                  refine gs rfl ?_
                  refine gs rfl ?_
                  refine gs rfl ?_
                  refine gs rfl ?_
                  refine gs rfl ?_
                  refine gs rfl ?_
                  refine gs rfl ?_
                  refine and_3 (Nat.le_of_ble_eq_true rfl) rfl (vin rfl) ?_
                  refine gs rfl ?_
                  refine gs rfl ?_
                  refine gs rfl ?_
                  refine gs rfl ?_
                  refine gs rfl ?_
                  refine gs rfl ?_
                  refine gs rfl ?_
                  refine gs rfl ?_
                  refine gs rfl ?_
                  refine and_3 (Nat.le_of_ble_eq_true rfl) rfl (vin rfl) ?_
                  refine gs rfl ?_
                  refine gs rfl ?_
                  refine gs rfl ?_
                  refine gs rfl ?_
                  refine gs rfl ?_
                  refine gs rfl ?_
                  refine gs rfl ?_
                  refine gs rfl ?_
                  refine gs rfl ?_
                  refine and_3 (Nat.le_of_ble_eq_true rfl) rfl (vin rfl) ?_
                  refine gs rfl ?_
                  refine gs rfl ?_
                  refine gs rfl ?_
                  refine gs rfl ?_
                  refine gs rfl ?_
                  refine gs rfl ?_
                  refine gs rfl ?_
                  refine gs rfl ?_
                  refine gs rfl ?_
                  refine and_3 (Nat.le_of_ble_eq_true rfl) rfl (vin rfl) ?_
                  refine gs rfl ?_
                  refine gs rfl ?_
                  refine gs rfl ?_
                  refine gs rfl ?_
                  refine gs rfl ?_
                  refine gs rfl ?_
                  refine gs rfl ?_
                  refine gs rfl ?_
                  refine gs rfl ?_
                  refine and_3 (Nat.le_of_ble_eq_true rfl) rfl (vin rfl) ?_
                  refine gs rfl ?_
                  refine gs rfl ?_
                  refine gs rfl ?_
                  refine gs rfl ?_
                  refine gs rfl ?_
                  refine gs rfl ?_
                  refine gs rfl ?_
                  refine gs rfl ?_
                  refine gs rfl ?_
                  refine and_3 (Nat.le_of_ble_eq_true rfl) rfl (vin rfl) ?_
                  refine gs rfl ?_
                  refine gs rfl ?_
                  refine gs rfl ?_
                  refine gs rfl ?_
                  refine gs rfl ?_
                  refine gs rfl ?_
                  refine gs rfl ?_
                  refine gs rfl ?_
                  refine gs rfl ?_
                  refine and_3 (Nat.le_of_ble_eq_true rfl) rfl (vin rfl) ?_
                  refine gs rfl ?_
                  refine gs rfl ?_
                  refine gs rfl ?_
                  refine gs rfl ?_
                  refine gs rfl ?_
                  refine gs rfl ?_
                  refine gs rfl ?_
                  refine gs rfl ?_
                  refine gs rfl ?_
                  refine and_3 (Nat.le_of_ble_eq_true rfl) rfl (vin rfl) ?_
                  refine gs rfl ?_
                  refine gs rfl ?_
                  refine gs rfl ?_
                  refine gs rfl ?_
                  refine gs rfl ?_
                  refine gs rfl ?_
                  refine gs rfl ?_
                  refine gs rfl ?_
                  refine gs rfl ?_
                  refine and_3 (Nat.le_of_ble_eq_true rfl) rfl (vin rfl) ?_
                  refine gs rfl ?_
                  refine gs rfl ?_
                  refine gs rfl ?_
                  refine gs rfl ?_
                  refine gs rfl ?_
                  refine gs rfl ?_
                  refine gs rfl ?_
                  refine gs rfl ?_
                  refine gs rfl ?_
                  refine and_3 (Nat.le_of_ble_eq_true rfl) rfl (vin rfl) ?_
                  refine gs rfl ?_
                  refine gs rfl ?_
                  refine gs rfl ?_
                  refine gs rfl ?_
                  refine gs rfl ?_
                  refine gs rfl ?_
                  refine gs rfl ?_
                  refine gs rfl ?_
                  refine gs rfl ?_
                  refine and_3 (Nat.le_of_ble_eq_true rfl) rfl (vin rfl) ?_
                  refine gs rfl ?_
                  refine gs rfl ?_
                  refine gs rfl ?_
                  refine gs rfl ?_
                  refine gs rfl ?_
                  refine gs rfl ?_
                  refine gs rfl ?_
                  refine gs rfl ?_
                  refine gs rfl ?_
                  refine and_3 (Nat.le_of_ble_eq_true rfl) rfl (vin rfl) ?_
                  refine gs rfl ?_
                  refine gs rfl ?_
                  refine gs rfl ?_
                  refine gs rfl ?_
                  refine gs rfl ?_
                  refine gs rfl ?_
                  refine gs rfl ?_
                  refine gs rfl ?_
                  refine gs rfl ?_
                  refine and_3 (Nat.le_of_ble_eq_true rfl) rfl (vin rfl) ?_
                  refine gs rfl ?_
                  refine gs rfl ?_
                  refine gs rfl ?_
                  refine gs rfl ?_
                  refine gs rfl ?_
                  refine gs rfl ?_
                  refine gs rfl ?_
                  refine gs rfl ?_
                  refine gs rfl ?_
                  refine and_3 (Nat.le_of_ble_eq_true rfl) rfl (vin rfl) ?_
                  refine gs rfl ?_
                  refine gs rfl ?_
                  refine gs rfl ?_
                  refine gs rfl ?_
                  refine gs rfl ?_
                  refine gs rfl ?_
                  refine gs rfl ?_
                  refine gs rfl ?_
                  refine gs rfl ?_
                  refine and_3 (Nat.le_of_ble_eq_true rfl) rfl (vin rfl) ?_
                  refine gs rfl ?_
                  refine gs rfl ?_
                  refine gs rfl ?_
                  refine gs rfl ?_
                  refine gs rfl ?_
                  refine gs rfl ?_
                  refine gs rfl ?_
                  refine gs rfl ?_
                  refine gs rfl ?_
                  refine and_3 (Nat.le_of_ble_eq_true rfl) rfl (vin rfl) ?_
                  refine gs rfl ?_
                  refine gs rfl ?_
                  refine gs rfl ?_
                  refine gs rfl ?_
                  refine gs rfl ?_
                  refine gs rfl ?_
                  refine gs rfl ?_
                  refine gs rfl ?_
                  refine gs rfl ?_
                  refine and_3 (Nat.le_of_ble_eq_true rfl) rfl (vin rfl) ?_
                  refine gs rfl ?_
                  refine gs rfl ?_
                  refine gs rfl ?_
                  refine gs rfl ?_
                  refine gs rfl ?_
                  refine gs rfl ?_
                  refine gs rfl ?_
                  refine gs rfl ?_
                  refine gs rfl ?_
                  refine and_3 (Nat.le_of_ble_eq_true rfl) rfl (vin rfl) ?_
                  refine gs rfl ?_
                  refine gs rfl ?_
                  refine gs rfl ?_
                  refine gs rfl ?_
                  refine gs rfl ?_
                  refine gs rfl ?_
                  refine gs rfl ?_
                  refine gs rfl ?_
                  refine gs rfl ?_
                  refine and_3 (Nat.le_of_ble_eq_true rfl) rfl (vin rfl) ?_
                  refine gs rfl ?_
                  refine gs rfl ?_
                  refine gs rfl ?_
                  refine gs rfl ?_
                  refine gs rfl ?_
                  refine gs rfl ?_
                  refine gs rfl ?_
                  refine gs rfl ?_
                  refine gs rfl ?_
                  refine and_3 (Nat.le_of_ble_eq_true rfl) rfl (vin rfl) ?_
                  refine gs rfl ?_
                  refine gs rfl ?_
                  refine gs rfl ?_
                  refine gs rfl ?_
                  refine gs rfl ?_
                  refine gs rfl ?_
                  refine gs rfl ?_
                  refine gs rfl ?_
                  refine gs rfl ?_
                  refine and_3 (Nat.le_of_ble_eq_true rfl) rfl (vin rfl) ?_
                  refine gs rfl ?_
                  refine gs rfl ?_
                  refine gs rfl ?_
                  refine gs rfl ?_
                  refine gs rfl ?_
                  refine gs rfl ?_
                  refine gs rfl ?_
                  refine gs rfl ?_
                  refine gs rfl ?_
                  refine and_3 (Nat.le_of_ble_eq_true rfl) rfl (vin rfl) ?_
                  refine gs rfl ?_
                  refine gs rfl ?_
                  refine gs rfl ?_
                  refine gs rfl ?_
                  refine gs rfl ?_
                  refine gs rfl ?_
                  refine gs rfl ?_
                  refine gs rfl ?_
                  refine gs rfl ?_
                  refine and_3 (Nat.le_of_ble_eq_true rfl) rfl (vin rfl) ?_
                  refine gs rfl ?_
                  refine gs rfl ?_
                  refine gs rfl ?_
                  refine gs rfl ?_
                  refine gs rfl ?_
                  refine gs rfl ?_
                  refine gs rfl ?_
                  refine gs rfl ?_
                  refine gs rfl ?_
                  refine and_3 (Nat.le_of_ble_eq_true rfl) rfl (vin rfl) ?_
                  refine gs rfl ?_
                  refine gs rfl ?_
                  refine gs rfl ?_
                  refine gs rfl ?_
                  refine gs rfl ?_
                  refine gs rfl ?_
                  refine gs rfl ?_
                  refine gs rfl ?_
                  refine gs rfl ?_
                  refine and_3 (Nat.le_of_ble_eq_true rfl) rfl (vin rfl) ?_
                  refine gs rfl ?_
                  refine gs rfl ?_
                  refine gs rfl ?_
                  refine gs rfl ?_
                  refine gs rfl ?_
                  refine gs rfl ?_
                  refine gs rfl ?_
                  refine gs rfl ?_
                  refine gs rfl ?_
                  refine and_3 (Nat.le_of_ble_eq_true rfl) rfl (vin rfl) ?_
                  refine gs rfl ?_
                  refine gs rfl ?_
                  refine gs rfl ?_
                  refine gs rfl ?_
                  refine gs rfl ?_
                  refine gs rfl ?_
                  refine gs rfl ?_
                  refine gs rfl ?_
                  refine gs rfl ?_
                  refine and_3 (Nat.le_of_ble_eq_true rfl) rfl (vin rfl) ?_
                  refine gs rfl ?_
                  refine gs rfl ?_
                  refine gs rfl ?_
                  refine gs rfl ?_
                  refine gs rfl ?_
                  refine gs rfl ?_
                  refine gs rfl ?_
                  refine gs rfl ?_
                  refine gs rfl ?_
                  refine and_3 (Nat.le_of_ble_eq_true rfl) rfl (vin rfl) ?_
                  refine gs rfl ?_
                  refine gs rfl ?_
                  refine gs rfl ?_
                  refine gs rfl ?_
                  refine gs rfl ?_
                  refine gs rfl ?_
                  refine gs rfl ?_
                  refine gs rfl ?_
                  refine gs rfl ?_
                  refine and_3 (Nat.le_of_ble_eq_true rfl) rfl (vin rfl) ?_
                  refine gs rfl ?_
                  refine gs rfl ?_
                  refine gs rfl ?_
                  refine gs rfl ?_
                  refine gs rfl ?_
                  refine gs rfl ?_
                  refine gs rfl ?_
                  refine gs rfl ?_
                  refine gs rfl ?_
                  refine and_3 (Nat.le_of_ble_eq_true rfl) rfl (vin rfl) ?_
                  refine gs rfl ?_
                  refine gs rfl ?_
                  refine gs rfl ?_
                  refine gs rfl ?_
                  refine gs rfl ?_
                  refine gs rfl ?_
                  refine gs rfl ?_
                  refine gs rfl ?_
                  refine gs rfl ?_
                  refine and_3 (Nat.le_of_ble_eq_true rfl) rfl (vin rfl) ?_
                  refine gs rfl ?_
                  refine gs rfl ?_
                  refine gs rfl ?_
                  refine gs rfl ?_
                  refine gs rfl ?_
                  refine gs rfl ?_
                  refine gs rfl ?_
                  refine gs rfl ?_
                  refine gs rfl ?_
                  refine and_3 (Nat.le_of_ble_eq_true rfl) rfl (vin rfl) ?_
                  refine gs rfl ?_
                  refine gs rfl ?_
                  refine gs rfl ?_
                  refine gs rfl ?_
                  refine gs rfl ?_
                  refine gs rfl ?_
                  refine gs rfl ?_
                  refine gs rfl ?_
                  refine gs rfl ?_
                  refine and_3 (Nat.le_of_ble_eq_true rfl) rfl (vin rfl) ?_
                  refine gs rfl ?_
                  refine gs rfl ?_
                  refine gs rfl ?_
                  refine gs rfl ?_
                  refine gs rfl ?_
                  refine gs rfl ?_
                  refine gs rfl ?_
                  refine gs rfl ?_
                  refine gs rfl ?_
                  refine and_3 (Nat.le_of_ble_eq_true rfl) rfl (vin rfl) ?_
                  refine gs rfl ?_
                  refine gs rfl ?_
                  refine gs rfl ?_
                  refine gs rfl ?_
                  refine gs rfl ?_
                  refine gs rfl ?_
                  refine gs rfl ?_
                  refine gs rfl ?_
                  refine gs rfl ?_
                  refine and_3 (Nat.le_of_ble_eq_true rfl) rfl (vin rfl) ?_
                  refine gs rfl ?_
                  refine gs rfl ?_
                  refine gs rfl ?_
                  refine gs rfl ?_
                  refine gs rfl ?_
                  refine gs rfl ?_
                  refine gs rfl ?_
                  refine gs rfl ?_
                  refine gs rfl ?_
                  refine and_3 (Nat.le_of_ble_eq_true rfl) rfl (vin rfl) ?_
                  refine gs rfl ?_
                  refine gs rfl ?_
                  refine gs rfl ?_
                  refine gs rfl ?_
                  refine gs rfl ?_
                  refine gs rfl ?_
                  refine gs rfl ?_
                  refine gs rfl ?_
                  refine gs rfl ?_
                  refine and_3 (Nat.le_of_ble_eq_true rfl) rfl (vin rfl) ?_
                  refine gs rfl ?_
                  refine gs rfl ?_
                  refine gs rfl ?_
                  refine gs rfl ?_
                  refine gs rfl ?_
                  refine gs rfl ?_
                  refine and_i rfl ?_
                  refine gs rfl ?_
                  refine and_i rfl ?_
                  refine gs rfl ?_
                  refine gs rfl ?_
                  refine and_i rfl ?_
                  refine FRg rfl (fun f => ?_)
                  refine gs rfl ?_
                  refine gs rfl ?_
                  refine gs rfl ?_
                  refine gs rfl ?_
                  refine gs rfl ?_
                  refine gs rfl ?_
                  refine and_2 rfl (vin rfl) ?_
                  refine gs rfl ?_
                  refine gs rfl ?_
                  refine gs rfl ?_
                  refine gs rfl ?_
                  refine gs rfl ?_
                  refine and_2 rfl (vin rfl) ?_
                  refine gs rfl ?_
                  refine gs rfl ?_
                  refine gs rfl ?_
                  refine gs rfl ?_
                  refine gs rfl ?_
                  refine and_2 rfl (vin rfl) ?_
                  refine gs rfl ?_
                  refine and_i (Nat.le_of_ble_eq_true rfl) (cl0 (Nat.le_of_ble_eq_true rfl) (and_i (Nat.le_of_ble_eq_true rfl) ?_))
                  refine gs rfl ?_
                  refine gs rfl ?_
                  refine and_i (Nat.le_of_ble_eq_true rfl) (cl0 (Nat.le_of_ble_eq_true rfl) (and_i (Nat.le_of_ble_eq_true rfl) ?_))
                  refine gs rfl ?_
                  refine gs rfl ?_
                  refine gs rfl ?_
                  refine gs rfl ?_
                  refine and_i (Nat.le_of_ble_eq_true rfl) (cl0 (Nat.le_of_ble_eq_true rfl) (and_i (Nat.le_of_ble_eq_true rfl) ?_))
                  refine gs rfl ?_
                  refine gs rfl ?_
                  refine gs rfl ?_
                  refine gs rfl ?_
                  refine gs rfl ?_
                  refine gs rfl ?_
                  refine gs rfl ?_
                  refine gs rfl ?_
                  refine gs rfl ?_
                  refine and_2 rfl (Or.inr rfl) ?_
                  refine gs rfl ?_
                  refine and_2 rfl (Or.inr rfl) ?_
                  refine gs rfl ?_
                  refine gs rfl ?_
                  refine gs rfl ?_
                  refine ifF ((fun q => absurd ((eq_k (a := (s2).toInt) (b := 0) (by rfl) (by rfl)).mp q) (by omega))) ?_
                  refine gs rfl ?_
                  refine gs rfl ?_
                  refine gs rfl ?_
                  refine ifF ((fun q => absurd ((eq_k (a := (s2).toInt) (b := 8) (by rfl) (by rfl)).mp q) (by omega))) ?_
                  refine gs rfl ?_
                  refine gs rfl ?_
                  refine gs rfl ?_
                  refine ifT ((eq_k (a := (s2).toInt) (b := 16) (by rfl) (by rfl)).mpr (by omega)) ?_
                  refine gs rfl ?_
                  refine gs rfl ?_
                  refine ifF ((fun q => absurd ((eq_k (a := (s2).toInt) (b := 0) (by rfl) (by rfl)).mp q) (by omega))) ?_
                  refine gs rfl ?_
                  refine gs rfl ?_
                  refine ifT ((le_k (a := 0) (b := (s3).toInt) (by rfl) (by rfl)).mpr (by omega)) ?_
                  refine gs rfl ?_
                  refine gs rfl ?_
                  refine ifF ((fun q => absurd ((eq_k (a := (s2).toInt) (b := 0) (by rfl) (by rfl)).mp q) (by omega))) ?_
                  refine gs rfl ?_
                  refine gs rfl ?_
                  refine gs rfl ?_
                  refine ifT ((le_k (a := (s3).toInt) (b := 40) (by rfl) (by rfl)).mpr (by omega)) ?_
                  refine gs rfl ?_
                  refine gs rfl ?_
                  refine gs rfl ?_
                  refine gs rfl ?_
                  refine gs rfl ?_
                  refine and_3 (Nat.le_of_ble_eq_true rfl) rfl (vin rfl) ?_
                  refine gs rfl ?_
                  refine gs rfl ?_
                  refine gs rfl ?_
                  refine gs rfl ?_
                  refine gs rfl ?_
                  refine ifF ((fun q => absurd ((eq_k (a := (s2).toInt) (b := 0) (by rfl) (by rfl)).mp q) (by omega))) ?_
                  refine gs rfl ?_
                  refine gs rfl ?_
                  refine and_3 (Nat.le_of_ble_eq_true rfl) rfl (vin rfl) ?_
                  refine gs rfl ?_
                  refine gs rfl ?_
                  refine gs rfl ?_
                  refine gs rfl ?_
                  refine gs rfl ?_
                  refine gs rfl ?_
                  refine gs rfl ?_
                  refine gs rfl ?_
                  refine gs rfl ?_
                  refine gs rfl ?_
                  refine gs rfl ?_
                  refine gs rfl ?_
                  refine gs rfl ?_
                  refine gs rfl ?_
                  refine and_3 (Nat.le_of_ble_eq_true rfl) rfl (vin rfl) ?_
                  refine gs rfl ?_
                  refine gs rfl ?_
                  refine gs rfl ?_
                  refine gs rfl ?_
                  refine gs rfl ?_
                  refine gs rfl ?_
                  refine gs rfl ?_
                  refine gs rfl ?_
                  refine gs rfl ?_
                  refine gs rfl ?_
                  refine gs rfl ?_
                  refine gs rfl ?_
                  refine gs rfl ?_
                  refine gs rfl ?_
                  refine and_3 (Nat.le_of_ble_eq_true rfl) rfl (vin rfl) ?_
                  refine gs rfl ?_
                  refine gs rfl ?_
                  refine gs rfl ?_
                  refine gs rfl ?_
                  refine gs rfl ?_
                  refine gs rfl ?_
                  refine gs rfl ?_
                  refine gs rfl ?_
                  refine gs rfl ?_
                  refine gs rfl ?_
                  refine gs rfl ?_
                  refine gs rfl ?_
                  refine gs rfl ?_
                  refine gs rfl ?_
                  refine and_3 (Nat.le_of_ble_eq_true rfl) rfl (vin rfl) ?_
                  refine gs rfl ?_
                  refine gs rfl ?_
                  refine gs rfl ?_
                  refine gs rfl ?_
                  refine gs rfl ?_
                  refine gs rfl ?_
                  refine gs rfl ?_
                  refine gs rfl ?_
                  refine gs rfl ?_
                  refine gs rfl ?_
                  refine gs rfl ?_
                  refine gs rfl ?_
                  refine gs rfl ?_
                  refine gs rfl ?_
                  refine and_3 (Nat.le_of_ble_eq_true rfl) rfl (vin rfl) ?_
                  refine gs rfl ?_
                  refine gs rfl ?_
                  refine gs rfl ?_
                  refine gs rfl ?_
                  refine gs rfl ?_
                  refine gs rfl ?_
                  refine gs rfl ?_
                  refine gs rfl ?_
                  refine gs rfl ?_
                  refine gs rfl ?_
                  refine gs rfl ?_
                  refine gs rfl ?_
                  refine gs rfl ?_
                  refine gs rfl ?_
                  refine and_3 (Nat.le_of_ble_eq_true rfl) rfl (vin rfl) ?_
                  refine gs rfl ?_
                  refine gs rfl ?_
                  refine gs rfl ?_
                  refine gs rfl ?_
                  refine gs rfl ?_
                  refine gs rfl ?_
                  refine gs rfl ?_
                  refine gs rfl ?_
                  refine gs rfl ?_
                  refine gs rfl ?_
                  refine gs rfl ?_
                  refine gs rfl ?_
                  refine gs rfl ?_
                  refine gs rfl ?_
                  refine and_3 (Nat.le_of_ble_eq_true rfl) rfl (vin rfl) ?_
                  refine gs rfl ?_
                  refine gs rfl ?_
                  refine gs rfl ?_
                  refine gs rfl ?_
                  refine gs rfl ?_
                  refine gs rfl ?_
                  refine gs rfl ?_
                  refine gs rfl ?_
                  refine gs rfl ?_
                  refine gs rfl ?_
                  refine gs rfl ?_
                  refine gs rfl ?_
                  refine gs rfl ?_
                  refine gs rfl ?_
                  refine and_3 (Nat.le_of_ble_eq_true rfl) rfl (vin rfl) ?_
                  refine gs rfl ?_
                  refine gs rfl ?_
                  refine gs rfl ?_
                  refine gs rfl ?_
                  refine gs rfl ?_
                  refine gs rfl ?_
                  refine gs rfl ?_
                  refine gs rfl ?_
                  refine gs rfl ?_
                  refine gs rfl ?_
                  refine gs rfl ?_
                  refine gs rfl ?_
                  refine gs rfl ?_
                  refine gs rfl ?_
                  refine and_3 (Nat.le_of_ble_eq_true rfl) rfl (vin rfl) ?_
                  refine gs rfl ?_
                  refine gs rfl ?_
                  refine gs rfl ?_
                  refine gs rfl ?_
                  refine gs rfl ?_
                  refine gs rfl ?_
                  refine gs rfl ?_
                  refine gs rfl ?_
                  refine gs rfl ?_
                  refine gs rfl ?_
                  refine gs rfl ?_
                  refine gs rfl ?_
                  refine gs rfl ?_
                  refine gs rfl ?_
                  refine and_3 (Nat.le_of_ble_eq_true rfl) rfl (vin rfl) ?_
                  refine gs rfl ?_
                  refine gs rfl ?_
                  refine gs rfl ?_
                  refine gs rfl ?_
                  refine gs rfl ?_
                  refine gs rfl ?_
                  refine gs rfl ?_
                  refine gs rfl ?_
                  refine gs rfl ?_
                  refine gs rfl ?_
                  refine gs rfl ?_
                  refine gs rfl ?_
                  refine gs rfl ?_
                  refine gs rfl ?_
                  refine and_3 (Nat.le_of_ble_eq_true rfl) rfl (vin rfl) ?_
                  refine gs rfl ?_
                  refine gs rfl ?_
                  refine gs rfl ?_
                  refine gs rfl ?_
                  refine gs rfl ?_
                  refine gs rfl ?_
                  refine gs rfl ?_
                  refine gs rfl ?_
                  refine gs rfl ?_
                  refine gs rfl ?_
                  refine gs rfl ?_
                  refine gs rfl ?_
                  refine gs rfl ?_
                  refine gs rfl ?_
                  refine and_3 (Nat.le_of_ble_eq_true rfl) rfl (vin rfl) ?_
                  refine gs rfl ?_
                  refine gs rfl ?_
                  refine gs rfl ?_
                  refine gs rfl ?_
                  refine gs rfl ?_
                  refine gs rfl ?_
                  refine gs rfl ?_
                  refine gs rfl ?_
                  refine gs rfl ?_
                  refine gs rfl ?_
                  refine gs rfl ?_
                  refine gs rfl ?_
                  refine gs rfl ?_
                  refine gs rfl ?_
                  refine and_3 (Nat.le_of_ble_eq_true rfl) rfl (vin rfl) ?_
                  refine gs rfl ?_
                  refine gs rfl ?_
                  refine gs rfl ?_
                  refine gs rfl ?_
                  refine gs rfl ?_
                  refine gs rfl ?_
                  refine gs rfl ?_
                  refine gs rfl ?_
                  refine gs rfl ?_
                  refine gs rfl ?_
                  refine gs rfl ?_
                  refine gs rfl ?_
                  refine gs rfl ?_
                  refine gs rfl ?_
                  refine and_3 (Nat.le_of_ble_eq_true rfl) rfl (vin rfl) ?_
                  refine gs rfl ?_
                  refine gs rfl ?_
                  refine gs rfl ?_
                  refine gs rfl ?_
                  refine gs rfl ?_
                  refine gs rfl ?_
                  refine gs rfl ?_
                  refine gs rfl ?_
                  refine gs rfl ?_
                  refine gs rfl ?_
                  refine gs rfl ?_
                  refine gs rfl ?_
                  refine gs rfl ?_
                  refine gs rfl ?_
                  refine and_3 (Nat.le_of_ble_eq_true rfl) rfl (vin rfl) ?_
                  refine gs rfl ?_
                  refine gs rfl ?_
                  refine gs rfl ?_
                  refine gs rfl ?_
                  refine gs rfl ?_
                  refine gs rfl ?_
                  refine gs rfl ?_
                  refine gs rfl ?_
                  refine gs rfl ?_
                  refine gs rfl ?_
                  refine gs rfl ?_
                  refine gs rfl ?_
                  refine gs rfl ?_
                  refine gs rfl ?_
                  refine and_3 (Nat.le_of_ble_eq_true rfl) rfl (vin rfl) ?_
                  refine gs rfl ?_
                  refine gs rfl ?_
                  refine gs rfl ?_
                  refine gs rfl ?_
                  refine gs rfl ?_
                  refine gs rfl ?_
                  refine gs rfl ?_
                  refine gs rfl ?_
                  refine gs rfl ?_
                  refine gs rfl ?_
                  refine gs rfl ?_
                  refine gs rfl ?_
                  refine gs rfl ?_
                  refine gs rfl ?_
                  refine and_3 (Nat.le_of_ble_eq_true rfl) rfl (vin rfl) ?_
                  refine gs rfl ?_
                  refine gs rfl ?_
                  refine gs rfl ?_
                  refine gs rfl ?_
                  refine gs rfl ?_
                  refine gs rfl ?_
                  refine gs rfl ?_
                  refine gs rfl ?_
                  refine gs rfl ?_
                  refine gs rfl ?_
                  refine gs rfl ?_
                  refine gs rfl ?_
                  refine gs rfl ?_
                  refine gs rfl ?_
                  refine and_3 (Nat.le_of_ble_eq_true rfl) rfl (vin rfl) ?_
                  refine gs rfl ?_
                  refine gs rfl ?_
                  refine gs rfl ?_
                  refine gs rfl ?_
                  refine gs rfl ?_
                  refine gs rfl ?_
                  refine gs rfl ?_
                  refine gs rfl ?_
                  refine gs rfl ?_
                  refine gs rfl ?_
                  refine gs rfl ?_
                  refine gs rfl ?_
                  refine gs rfl ?_
                  refine gs rfl ?_
                  refine and_3 (Nat.le_of_ble_eq_true rfl) rfl (vin rfl) ?_
                  refine gs rfl ?_
                  refine gs rfl ?_
                  refine gs rfl ?_
                  refine gs rfl ?_
                  refine gs rfl ?_
                  refine gs rfl ?_
                  refine gs rfl ?_
                  refine gs rfl ?_
                  refine gs rfl ?_
                  refine gs rfl ?_
                  refine gs rfl ?_
                  refine gs rfl ?_
                  refine gs rfl ?_
                  refine gs rfl ?_
                  refine and_3 (Nat.le_of_ble_eq_true rfl) rfl (vin rfl) ?_
                  refine gs rfl ?_
                  refine gs rfl ?_
                  refine gs rfl ?_
                  refine gs rfl ?_
                  refine gs rfl ?_
                  refine gs rfl ?_
                  refine gs rfl ?_
                  refine gs rfl ?_
                  refine gs rfl ?_
                  refine gs rfl ?_
                  refine gs rfl ?_
                  refine gs rfl ?_
                  refine gs rfl ?_
                  refine gs rfl ?_
                  refine and_3 (Nat.le_of_ble_eq_true rfl) rfl (vin rfl) ?_
                  refine gs rfl ?_
                  refine gs rfl ?_
                  refine gs rfl ?_
                  refine gs rfl ?_
                  refine gs rfl ?_
                  refine gs rfl ?_
                  refine gs rfl ?_
                  refine gs rfl ?_
                  refine gs rfl ?_
                  refine gs rfl ?_
                  refine gs rfl ?_
                  refine gs rfl ?_
                  refine gs rfl ?_
                  refine gs rfl ?_
                  refine and_3 (Nat.le_of_ble_eq_true rfl) rfl (vin rfl) ?_
                  refine gs rfl ?_
                  refine gs rfl ?_
                  refine gs rfl ?_
                  refine gs rfl ?_
                  refine gs rfl ?_
                  refine gs rfl ?_
                  refine gs rfl ?_
                  refine gs rfl ?_
                  refine gs rfl ?_
                  refine gs rfl ?_
                  refine gs rfl ?_
                  refine gs rfl ?_
                  refine gs rfl ?_
                  refine gs rfl ?_
                  refine and_3 (Nat.le_of_ble_eq_true rfl) rfl (vin rfl) ?_
                  refine gs rfl ?_
                  refine gs rfl ?_
                  refine gs rfl ?_
                  refine gs rfl ?_
                  refine gs rfl ?_
                  refine gs rfl ?_
                  refine gs rfl ?_
                  refine gs rfl ?_
                  refine gs rfl ?_
                  refine gs rfl ?_
                  refine gs rfl ?_
                  refine gs rfl ?_
                  refine gs rfl ?_
                  refine gs rfl ?_
                  refine and_3 (Nat.le_of_ble_eq_true rfl) rfl (vin rfl) ?_
                  refine gs rfl ?_
                  refine gs rfl ?_
                  refine gs rfl ?_
                  refine gs rfl ?_
                  refine gs rfl ?_
                  refine gs rfl ?_
                  refine gs rfl ?_
                  refine gs rfl ?_
                  refine gs rfl ?_
                  refine gs rfl ?_
                  refine gs rfl ?_
                  refine gs rfl ?_
                  refine gs rfl ?_
                  refine gs rfl ?_
                  refine and_3 (Nat.le_of_ble_eq_true rfl) rfl (vin rfl) ?_
                  refine gs rfl ?_
                  refine gs rfl ?_
                  refine gs rfl ?_
                  refine gs rfl ?_
                  refine gs rfl ?_
                  refine gs rfl ?_
                  refine gs rfl ?_
                  refine gs rfl ?_
                  refine gs rfl ?_
                  refine gs rfl ?_
                  refine gs rfl ?_
                  refine gs rfl ?_
                  refine gs rfl ?_
                  refine gs rfl ?_
                  refine and_3 (Nat.le_of_ble_eq_true rfl) rfl (vin rfl) ?_
                  refine gs rfl ?_
                  refine gs rfl ?_
                  refine gs rfl ?_
                  refine gs rfl ?_
                  refine gs rfl ?_
                  refine gs rfl ?_
                  refine gs rfl ?_
                  refine gs rfl ?_
                  refine gs rfl ?_
                  refine gs rfl ?_
                  refine gs rfl ?_
                  refine gs rfl ?_
                  refine gs rfl ?_
                  refine gs rfl ?_
                  refine and_3 (Nat.le_of_ble_eq_true rfl) rfl (vin rfl) ?_
                  refine gs rfl ?_
                  refine gs rfl ?_
                  refine gs rfl ?_
                  refine gs rfl ?_
                  refine gs rfl ?_
                  refine gs rfl ?_
                  refine gs rfl ?_
                  refine gs rfl ?_
                  refine gs rfl ?_
                  refine gs rfl ?_
                  refine gs rfl ?_
                  refine gs rfl ?_
                  refine gs rfl ?_
                  refine gs rfl ?_
                  refine and_3 (Nat.le_of_ble_eq_true rfl) rfl (vin rfl) ?_
                  refine gs rfl ?_
                  refine gs rfl ?_
                  refine gs rfl ?_
                  refine gs rfl ?_
                  refine gs rfl ?_
                  refine gs rfl ?_
                  refine gs rfl ?_
                  refine gs rfl ?_
                  refine gs rfl ?_
                  refine gs rfl ?_
                  refine gs rfl ?_
                  refine gs rfl ?_
                  refine gs rfl ?_
                  refine gs rfl ?_
                  refine and_3 (Nat.le_of_ble_eq_true rfl) rfl (vin rfl) ?_
                  refine gs rfl ?_
                  refine gs rfl ?_
                  refine gs rfl ?_
                  refine gs rfl ?_
                  refine gs rfl ?_
                  refine gs rfl ?_
                  refine gs rfl ?_
                  refine gs rfl ?_
                  refine gs rfl ?_
                  refine gs rfl ?_
                  refine gs rfl ?_
                  refine gs rfl ?_
                  refine gs rfl ?_
                  refine gs rfl ?_
                  refine and_3 (Nat.le_of_ble_eq_true rfl) rfl (vin rfl) ?_
                  refine gs rfl ?_
                  refine gs rfl ?_
                  refine gs rfl ?_
                  refine gs rfl ?_
                  refine gs rfl ?_
                  refine gs rfl ?_
                  refine gs rfl ?_
                  refine gs rfl ?_
                  refine gs rfl ?_
                  refine gs rfl ?_
                  refine gs rfl ?_
                  refine gs rfl ?_
                  refine gs rfl ?_
                  refine gs rfl ?_
                  refine and_3 (Nat.le_of_ble_eq_true rfl) rfl (vin rfl) ?_
                  refine gs rfl ?_
                  refine gs rfl ?_
                  refine gs rfl ?_
                  refine gs rfl ?_
                  refine gs rfl ?_
                  refine gs rfl ?_
                  refine gs rfl ?_
                  refine gs rfl ?_
                  refine gs rfl ?_
                  refine gs rfl ?_
                  refine gs rfl ?_
                  refine gs rfl ?_
                  refine gs rfl ?_
                  refine gs rfl ?_
                  refine and_3 (Nat.le_of_ble_eq_true rfl) rfl (vin rfl) ?_
                  refine gs rfl ?_
                  refine gs rfl ?_
                  refine gs rfl ?_
                  refine gs rfl ?_
                  refine gs rfl ?_
                  refine gs rfl ?_
                  refine gs rfl ?_
                  refine gs rfl ?_
                  refine gs rfl ?_
                  refine gs rfl ?_
                  refine gs rfl ?_
                  refine gs rfl ?_
                  refine gs rfl ?_
                  refine gs rfl ?_
                  refine and_3 (Nat.le_of_ble_eq_true rfl) rfl (vin rfl) ?_
                  refine gs rfl ?_
                  refine gs rfl ?_
                  refine gs rfl ?_
                  refine gs rfl ?_
                  refine gs rfl ?_
                  refine gs rfl ?_
                  refine gs rfl ?_
                  refine gs rfl ?_
                  refine gs rfl ?_
                  refine gs rfl ?_
                  refine gs rfl ?_
                  refine gs rfl ?_
                  refine gs rfl ?_
                  refine gs rfl ?_
                  refine and_3 (Nat.le_of_ble_eq_true rfl) rfl (vin rfl) ?_
                  refine gs rfl ?_
                  refine gs rfl ?_
                  refine gs rfl ?_
                  refine gs rfl ?_
                  refine gs rfl ?_
                  refine gs rfl ?_
                  refine gs rfl ?_
                  refine gs rfl ?_
                  refine gs rfl ?_
                  refine gs rfl ?_
                  refine gs rfl ?_
                  refine gs rfl ?_
                  refine gs rfl ?_
                  refine gs rfl ?_
                  refine and_3 (Nat.le_of_ble_eq_true rfl) rfl (vin rfl) ?_
                  refine gs rfl ?_
                  refine gs rfl ?_
                  refine gs rfl ?_
                  refine gs rfl ?_
                  refine gs rfl ?_
                  refine gs rfl ?_
                  refine gs rfl ?_
                  refine gs rfl ?_
                  refine gs rfl ?_
                  refine gs rfl ?_
                  refine gs rfl ?_
                  refine gs rfl ?_
                  refine gs rfl ?_
                  refine gs rfl ?_
                  refine and_3 (Nat.le_of_ble_eq_true rfl) rfl (vin rfl) ?_
                  refine gs rfl ?_
                  refine gs rfl ?_
                  refine gs rfl ?_
                  refine gs rfl ?_
                  refine gs rfl ?_
                  refine gs rfl ?_
                  refine gs rfl ?_
                  refine gs rfl ?_
                  refine gs rfl ?_
                  refine gs rfl ?_
                  refine gs rfl ?_
                  refine gs rfl ?_
                  refine gs rfl ?_
                  refine gs rfl ?_
                  refine and_3 (Nat.le_of_ble_eq_true rfl) rfl (vin rfl) ?_
                  refine gs rfl ?_
                  refine gs rfl ?_
                  refine gs rfl ?_
                  refine gs rfl ?_
                  refine gs rfl ?_
                  refine gs rfl ?_
                  refine gs rfl ?_
                  refine gs rfl ?_
                  refine gs rfl ?_
                  refine gs rfl ?_
                  refine gs rfl ?_
                  refine gs rfl ?_
                  refine gs rfl ?_
                  refine gs rfl ?_
                  refine and_3 (Nat.le_of_ble_eq_true rfl) rfl (vin rfl) ?_
                  refine gs rfl ?_
                  refine gs rfl ?_
                  refine gs rfl ?_
                  refine gs rfl ?_
                  refine gs rfl ?_
                  refine gs rfl ?_
                  refine gs rfl ?_
                  refine gs rfl ?_
                  refine gs rfl ?_
                  refine gs rfl ?_
                  refine gs rfl ?_
                  refine gs rfl ?_
                  refine gs rfl ?_
                  refine gs rfl ?_
                  refine and_3 (Nat.le_of_ble_eq_true rfl) rfl (vin rfl) ?_
                  refine gs rfl ?_
                  refine gs rfl ?_
                  refine gs rfl ?_
                  refine gs rfl ?_
                  refine gs rfl ?_
                  refine gs rfl ?_
                  refine gs rfl ?_
                  refine gs rfl ?_
                  refine gs rfl ?_
                  refine gs rfl ?_
                  refine gs rfl ?_
                  refine gs rfl ?_
                  refine gs rfl ?_
                  refine gs rfl ?_
                  refine and_3 (Nat.le_of_ble_eq_true rfl) rfl (vin rfl) ?_
                  refine gs rfl ?_
                  refine gs rfl ?_
                  refine gs rfl ?_
                  refine gs rfl ?_
                  refine gs rfl ?_
                  refine gs rfl ?_
                  refine gs rfl ?_
                  refine gs rfl ?_
                  refine gs rfl ?_
                  refine gs rfl ?_
                  refine gs rfl ?_
                  refine gs rfl ?_
                  refine gs rfl ?_
                  refine gs rfl ?_
                  refine and_3 (Nat.le_of_ble_eq_true rfl) rfl (vin rfl) ?_
                  refine gs rfl ?_
                  refine gs rfl ?_
                  refine gs rfl ?_
                  refine gs rfl ?_
                  refine gs rfl ?_
                  refine gs rfl ?_
                  refine gs rfl ?_
                  refine and_i rfl ?_
                  refine gs rfl ?_
                  refine gs rfl ?_
                  refine gs rfl ?_
                  refine gs rfl ?_
                  refine gs rfl ?_
                  refine gs rfl ?_
                  refine and_i (Or.inl rfl) ?_
                  refine gwst (congrArg (fun z => Value.int z :: _) (alen_k (n := 6) (by rfl))) ?_
                  refine gs rfl ?_
                  refine gs rfl ?_
                  refine gs rfl ?_
                  refine gs rfl ?_
                  refine gs rfl ?_
                  refine and_2 rfl (Or.inr rfl) ?_
                  exact rfl
                · have x27q : s1 = (3 : Int32) := x27
                  clear x27
                  subst x27q
                  refine gs rfl ?_
                  refine and_2 (Nat.le_of_ble_eq_true rfl) (vin rfl) ?_
                  refine and_2 rfl (fun z q => by cases q) ?_
                  refine gs rfl ?_
                  refine gs rfl ?_
                  refine gs rfl ?_
                  refine and_i (Nat.le_of_ble_eq_true rfl) (cl0 (Nat.le_of_ble_eq_true rfl) (and_i (Nat.le_of_ble_eq_true rfl) ?_))
                  refine gs rfl ?_
                  refine gs rfl ?_
                  refine gs rfl ?_
                  refine and_3 (Nat.le_of_ble_eq_true rfl) (Nat.le_of_ble_eq_true rfl) trivial ?_
                  refine gs rfl ?_
                  refine gs rfl ?_
                  refine gs rfl ?_
                  refine and_3 (Nat.le_of_ble_eq_true rfl) (Nat.le_of_ble_eq_true rfl) trivial ?_
                  refine gs rfl ?_
                  refine gs rfl ?_
                  refine gs rfl ?_
                  refine gs rfl ?_
                  refine and_i (Nat.le_of_ble_eq_true rfl) (cl0 (Nat.le_of_ble_eq_true rfl) (and_i (Nat.le_of_ble_eq_true rfl) ?_))
                  refine gs rfl ?_
                  refine gs rfl ?_
                  refine gs rfl ?_
                  refine gs rfl ?_
                  refine and_i (Or.inl rfl) ?_
                  refine gwst (congrArg (fun z => Value.int z :: _) (alen_k (n := 40) (by rfl))) ?_
                  refine gs rfl ?_
                  refine gs rfl ?_
                  refine gs rfl ?_
                  refine gs rfl ?_
                  refine gs rfl ?_
                  refine gs rfl ?_
                  refine gs rfl ?_
                  refine gs rfl ?_
                  refine and_3 (Nat.le_of_ble_eq_true rfl) rfl (vin rfl) ?_
                  refine gs rfl ?_
                  refine gs rfl ?_
                  refine gs rfl ?_
                  refine gs rfl ?_
                  refine gs rfl ?_
                  refine gs rfl ?_
                  refine gs rfl ?_
                  refine gs rfl ?_
                  refine gs rfl ?_
                  refine and_3 (Nat.le_of_ble_eq_true rfl) rfl (vin rfl) ?_
                  refine gs rfl ?_
                  refine gs rfl ?_
                  refine gs rfl ?_
                  refine gs rfl ?_
                  refine gs rfl ?_
                  refine gs rfl ?_
                  refine gs rfl ?_
                  refine gs rfl ?_
                  refine gs rfl ?_
                  refine and_3 (Nat.le_of_ble_eq_true rfl) rfl (vin rfl) ?_
                  refine gs rfl ?_
                  refine gs rfl ?_
                  refine gs rfl ?_
                  refine gs rfl ?_
                  refine gs rfl ?_
                  refine gs rfl ?_
                  refine gs rfl ?_
                  refine gs rfl ?_
                  refine gs rfl ?_
                  refine and_3 (Nat.le_of_ble_eq_true rfl) rfl (vin rfl) ?_
                  refine gs rfl ?_
                  refine gs rfl ?_
                  refine gs rfl ?_
                  refine gs rfl ?_
                  refine gs rfl ?_
                  refine gs rfl ?_
                  refine gs rfl ?_
                  refine gs rfl ?_
                  refine gs rfl ?_
                  refine and_3 (Nat.le_of_ble_eq_true rfl) rfl (vin rfl) ?_
                  refine gs rfl ?_
                  refine gs rfl ?_
                  refine gs rfl ?_
                  refine gs rfl ?_
                  refine gs rfl ?_
                  refine gs rfl ?_
                  refine gs rfl ?_
                  refine gs rfl ?_
                  refine gs rfl ?_
                  refine and_3 (Nat.le_of_ble_eq_true rfl) rfl (vin rfl) ?_
                  refine gs rfl ?_
                  refine gs rfl ?_
                  refine gs rfl ?_
                  refine gs rfl ?_
                  refine gs rfl ?_
                  refine gs rfl ?_
                  refine gs rfl ?_
                  refine gs rfl ?_
                  refine gs rfl ?_
                  refine and_3 (Nat.le_of_ble_eq_true rfl) rfl (vin rfl) ?_
                  refine gs rfl ?_
                  refine gs rfl ?_
                  refine gs rfl ?_
                  refine gs rfl ?_
                  refine gs rfl ?_
                  refine gs rfl ?_
                  refine gs rfl ?_
                  refine gs rfl ?_
                  refine gs rfl ?_
                  refine and_3 (Nat.le_of_ble_eq_true rfl) rfl (vin rfl) ?_
                  refine gs rfl ?_
                  refine gs rfl ?_
                  refine gs rfl ?_
                  refine gs rfl ?_
                  refine gs rfl ?_
                  refine gs rfl ?_
                  refine gs rfl ?_
                  refine gs rfl ?_
                  refine gs rfl ?_
                  refine and_3 (Nat.le_of_ble_eq_true rfl) rfl (vin rfl) ?_
                  refine gs rfl ?_
                  refine gs rfl ?_
                  refine gs rfl ?_
                  refine gs rfl ?_
                  refine gs rfl ?_
                  refine gs rfl ?_
                  refine gs rfl ?_
                  refine gs rfl ?_
                  refine gs rfl ?_
                  refine and_3 (Nat.le_of_ble_eq_true rfl) rfl (vin rfl) ?_
                  refine gs rfl ?_
                  refine gs rfl ?_
                  refine gs rfl ?_
                  refine gs rfl ?_
                  refine gs rfl ?_
                  refine gs rfl ?_
                  refine gs rfl ?_
                  refine gs rfl ?_
                  refine gs rfl ?_
                  refine and_3 (Nat.le_of_ble_eq_true rfl) rfl (vin rfl) ?_
                  refine gs rfl ?_
                  refine gs rfl ?_
                  refine gs rfl ?_
                  refine gs rfl ?_
                  refine gs rfl ?_
                  refine gs rfl ?_
                  refine gs rfl ?_
                  refine gs rfl ?_
                  refine gs rfl ?_
                  refine and_3 (Nat.le_of_ble_eq_true rfl) rfl (vin rfl) ?_
                  refine gs rfl ?_
                  refine gs rfl ?_
                  refine gs rfl ?_
                  refine gs rfl ?_
                  refine gs rfl ?_
                  refine gs rfl ?_
                  refine gs rfl ?_
                  refine gs rfl ?_
                  refine gs rfl ?_
                  refine and_3 (Nat.le_of_ble_eq_true rfl) rfl (vin rfl) ?_
                  refine gs rfl ?_
                  refine gs rfl ?_
                  refine gs rfl ?_
                  refine gs rfl ?_
                  refine gs rfl ?_
                  refine gs rfl ?_
                  refine gs rfl ?_
                  refine gs rfl ?_
                  refine gs rfl ?_
                  refine and_3 (Nat.le_of_ble_eq_true rfl) rfl (vin rfl) ?_
                  refine gs rfl ?_
                  refine gs rfl ?_
                  refine gs rfl ?_
                  refine gs rfl ?_
                  refine gs rfl ?_
                  refine gs rfl ?_
                  refine gs rfl ?_
                  refine gs rfl ?_
                  refine gs rfl ?_
                  refine and_3 (Nat.le_of_ble_eq_true rfl) rfl (vin rfl) ?_
                  refine gs rfl ?_
                  refine gs rfl ?_
                  refine gs rfl ?_
                  refine gs rfl ?_
                  refine gs rfl ?_
                  refine gs rfl ?_
                  refine gs rfl ?_
                  refine gs rfl ?_
                  refine gs rfl ?_
                  refine and_3 (Nat.le_of_ble_eq_true rfl) rfl (vin rfl) ?_
                  refine gs rfl ?_
                  refine gs rfl ?_
                  refine gs rfl ?_
                  refine gs rfl ?_
                  refine gs rfl ?_
                  refine gs rfl ?_
                  refine gs rfl ?_
                  refine gs rfl ?_
                  refine gs rfl ?_
                  refine and_3 (Nat.le_of_ble_eq_true rfl) rfl (vin rfl) ?_
                  refine gs rfl ?_
                  refine gs rfl ?_
                  refine gs rfl ?_
                  refine gs rfl ?_
                  refine gs rfl ?_
                  refine gs rfl ?_
                  refine gs rfl ?_
                  refine gs rfl ?_
                  refine gs rfl ?_
                  refine and_3 (Nat.le_of_ble_eq_true rfl) rfl (vin rfl) ?_
                  refine gs rfl ?_
                  refine gs rfl ?_
                  refine gs rfl ?_
                  refine gs rfl ?_
                  refine gs rfl ?_
                  refine gs rfl ?_
                  refine gs rfl ?_
                  refine gs rfl ?_
                  refine gs rfl ?_
                  refine and_3 (Nat.le_of_ble_eq_true rfl) rfl (vin rfl) ?_
                  refine gs rfl ?_
                  refine gs rfl ?_
                  refine gs rfl ?_
                  refine gs rfl ?_
                  refine gs rfl ?_
                  refine gs rfl ?_
                  refine gs rfl ?_
                  refine gs rfl ?_
                  refine gs rfl ?_
                  refine and_3 (Nat.le_of_ble_eq_true rfl) rfl (vin rfl) ?_
                  refine gs rfl ?_
                  refine gs rfl ?_
                  refine gs rfl ?_
                  refine gs rfl ?_
                  refine gs rfl ?_
                  refine gs rfl ?_
                  refine gs rfl ?_
                  refine gs rfl ?_
                  refine gs rfl ?_
                  refine and_3 (Nat.le_of_ble_eq_true rfl) rfl (vin rfl) ?_
                  refine gs rfl ?_
                  refine gs rfl ?_
                  refine gs rfl ?_
                  refine gs rfl ?_
                  refine gs rfl ?_
                  refine gs rfl ?_
                  refine gs rfl ?_
                  refine gs rfl ?_
                  refine gs rfl ?_
                  refine and_3 (Nat.le_of_ble_eq_true rfl) rfl (vin rfl) ?_
                  refine gs rfl ?_
                  refine gs rfl ?_
                  refine gs rfl ?_
                  refine gs rfl ?_
                  refine gs rfl ?_
                  refine gs rfl ?_
                  refine gs rfl ?_
                  refine gs rfl ?_
                  refine gs rfl ?_
                  refine and_3 (Nat.le_of_ble_eq_true rfl) rfl (vin rfl) ?_
                  refine gs rfl ?_
                  refine gs rfl ?_
                  refine gs rfl ?_
                  refine gs rfl ?_
                  refine gs rfl ?_
                  refine gs rfl ?_
                  refine gs rfl ?_
                  refine gs rfl ?_
                  refine gs rfl ?_
                  refine and_3 (Nat.le_of_ble_eq_true rfl) rfl (vin rfl) ?_
                  refine gs rfl ?_
                  refine gs rfl ?_
                  refine gs rfl ?_
                  refine gs rfl ?_
                  refine gs rfl ?_
                  refine gs rfl ?_
                  refine gs rfl ?_
                  refine gs rfl ?_
                  refine gs rfl ?_
                  refine and_3 (Nat.le_of_ble_eq_true rfl) rfl (vin rfl) ?_
                  refine gs rfl ?_
                  refine gs rfl ?_
                  refine gs rfl ?_
                  refine gs rfl ?_
                  refine gs rfl ?_
                  refine gs rfl ?_
                  refine gs rfl ?_
                  refine gs rfl ?_
                  refine gs rfl ?_
                  refine and_3 (Nat.le_of_ble_eq_true rfl) rfl (vin rfl) ?_
                  refine gs rfl ?_
                  refine gs rfl ?_
                  refine gs rfl ?_
                  refine gs rfl ?_
                  refine gs rfl ?_
                  refine gs rfl ?_
                  refine gs rfl ?_
                  refine gs rfl ?_
                  refine gs rfl ?_
                  refine and_3 (Nat.le_of_ble_eq_true rfl) rfl (vin rfl) ?_
                  refine gs rfl ?_
                  refine gs rfl ?_
                  refine gs rfl ?_
                  refine gs rfl ?_
                  refine gs rfl ?_
                  refine gs rfl ?_
                  refine gs rfl ?_
                  refine gs rfl ?_
                  refine gs rfl ?_
                  refine and_3 (Nat.le_of_ble_eq_true rfl) rfl (vin rfl) ?_
                  refine gs rfl ?_
                  refine gs rfl ?_
                  refine gs rfl ?_
                  refine gs rfl ?_
                  refine gs rfl ?_
                  refine gs rfl ?_
                  refine gs rfl ?_
                  refine gs rfl ?_
                  refine gs rfl ?_
                  refine and_3 (Nat.le_of_ble_eq_true rfl) rfl (vin rfl) ?_
                  refine gs rfl ?_
                  refine gs rfl ?_
                  refine gs rfl ?_
                  refine gs rfl ?_
                  refine gs rfl ?_
                  refine gs rfl ?_
                  refine gs rfl ?_
                  refine gs rfl ?_
                  refine gs rfl ?_
                  refine and_3 (Nat.le_of_ble_eq_true rfl) rfl (vin rfl) ?_
                  refine gs rfl ?_
                  refine gs rfl ?_
                  refine gs rfl ?_
                  refine gs rfl ?_
                  refine gs rfl ?_
                  refine gs rfl ?_
                  refine gs rfl ?_
                  refine gs rfl ?_
                  refine gs rfl ?_
                  refine and_3 (Nat.le_of_ble_eq_true rfl) rfl (vin rfl) ?_
                  refine gs rfl ?_
                  refine gs rfl ?_
                  refine gs rfl ?_
                  refine gs rfl ?_
                  refine gs rfl ?_
                  refine gs rfl ?_
                  refine gs rfl ?_
                  refine gs rfl ?_
                  refine gs rfl ?_
                  refine and_3 (Nat.le_of_ble_eq_true rfl) rfl (vin rfl) ?_
                  refine gs rfl ?_
                  refine gs rfl ?_
                  refine gs rfl ?_
                  refine gs rfl ?_
                  refine gs rfl ?_
                  refine gs rfl ?_
                  refine gs rfl ?_
                  refine gs rfl ?_
                  refine gs rfl ?_
                  refine and_3 (Nat.le_of_ble_eq_true rfl) rfl (vin rfl) ?_
                  refine gs rfl ?_
                  refine gs rfl ?_
                  refine gs rfl ?_
                  refine gs rfl ?_
                  refine gs rfl ?_
                  refine gs rfl ?_
                  refine gs rfl ?_
                  refine gs rfl ?_
                  refine gs rfl ?_
                  refine and_3 (Nat.le_of_ble_eq_true rfl) rfl (vin rfl) ?_
                  refine gs rfl ?_
                  refine gs rfl ?_
                  refine gs rfl ?_
                  refine gs rfl ?_
                  refine gs rfl ?_
                  refine gs rfl ?_
                  refine gs rfl ?_
                  refine gs rfl ?_
                  refine gs rfl ?_
                  refine and_3 (Nat.le_of_ble_eq_true rfl) rfl (vin rfl) ?_
                  refine gs rfl ?_
                  refine gs rfl ?_
                  refine gs rfl ?_
                  refine gs rfl ?_
                  refine gs rfl ?_
                  refine gs rfl ?_
                  refine gs rfl ?_
                  refine gs rfl ?_
                  refine gs rfl ?_
                  refine and_3 (Nat.le_of_ble_eq_true rfl) rfl (vin rfl) ?_
                  refine gs rfl ?_
                  refine gs rfl ?_
                  refine gs rfl ?_
                  refine gs rfl ?_
                  refine gs rfl ?_
                  refine gs rfl ?_
                  refine gs rfl ?_
                  refine gs rfl ?_
                  refine gs rfl ?_
                  refine and_3 (Nat.le_of_ble_eq_true rfl) rfl (vin rfl) ?_
                  refine gs rfl ?_
                  refine gs rfl ?_
                  refine gs rfl ?_
                  refine gs rfl ?_
                  refine gs rfl ?_
                  refine gs rfl ?_
                  refine gs rfl ?_
                  refine gs rfl ?_
                  refine gs rfl ?_
                  refine and_3 (Nat.le_of_ble_eq_true rfl) rfl (vin rfl) ?_
                  refine gs rfl ?_
                  refine gs rfl ?_
                  refine gs rfl ?_
                  refine gs rfl ?_
                  refine gs rfl ?_
                  refine gs rfl ?_
                  refine gs rfl ?_
                  refine gs rfl ?_
                  refine gs rfl ?_
                  refine and_3 (Nat.le_of_ble_eq_true rfl) rfl (vin rfl) ?_
                  refine gs rfl ?_
                  refine gs rfl ?_
                  refine gs rfl ?_
                  refine gs rfl ?_
                  refine gs rfl ?_
                  refine gs rfl ?_
                  refine gs rfl ?_
                  refine gs rfl ?_
                  refine gs rfl ?_
                  refine and_3 (Nat.le_of_ble_eq_true rfl) rfl (vin rfl) ?_
                  refine gs rfl ?_
                  refine gs rfl ?_
                  refine gs rfl ?_
                  refine gs rfl ?_
                  refine gs rfl ?_
                  refine gs rfl ?_
                  refine and_i rfl ?_
                  refine gs rfl ?_
                  refine and_i rfl ?_
                  refine gs rfl ?_
                  refine gs rfl ?_
                  refine and_i rfl ?_
                  refine FRg rfl (fun f => ?_)
                  refine gs rfl ?_
                  refine gs rfl ?_
                  refine gs rfl ?_
                  refine gs rfl ?_
                  refine gs rfl ?_
                  refine gs rfl ?_
                  refine and_2 rfl (vin rfl) ?_
                  refine gs rfl ?_
                  refine gs rfl ?_
                  refine gs rfl ?_
                  refine gs rfl ?_
                  refine gs rfl ?_
                  refine and_2 rfl (vin rfl) ?_
                  refine gs rfl ?_
                  refine gs rfl ?_
                  refine gs rfl ?_
                  refine gs rfl ?_
                  refine gs rfl ?_
                  refine and_2 rfl (vin rfl) ?_
                  refine gs rfl ?_
                  refine and_i (Nat.le_of_ble_eq_true rfl) (cl0 (Nat.le_of_ble_eq_true rfl) (and_i (Nat.le_of_ble_eq_true rfl) ?_))
                  refine gs rfl ?_
                  refine gs rfl ?_
                  refine and_i (Nat.le_of_ble_eq_true rfl) (cl0 (Nat.le_of_ble_eq_true rfl) (and_i (Nat.le_of_ble_eq_true rfl) ?_))
                  refine gs rfl ?_
                  refine gs rfl ?_
                  refine gs rfl ?_
                  refine gs rfl ?_
                  refine and_i (Nat.le_of_ble_eq_true rfl) (cl0 (Nat.le_of_ble_eq_true rfl) (and_i (Nat.le_of_ble_eq_true rfl) ?_))
                  refine gs rfl ?_
                  refine gs rfl ?_
                  refine gs rfl ?_
                  refine gs rfl ?_
                  refine gs rfl ?_
                  refine gs rfl ?_
                  refine gs rfl ?_
                  refine gs rfl ?_
                  refine gs rfl ?_
                  refine and_2 rfl (Or.inr rfl) ?_
                  refine gs rfl ?_
                  refine and_2 rfl (Or.inr rfl) ?_
                  refine gs rfl ?_
                  refine gs rfl ?_
                  refine gs rfl ?_
                  refine ifF ((fun q => absurd ((eq_k (a := (s2).toInt) (b := 0) (by rfl) (by rfl)).mp q) (by omega))) ?_
                  refine gs rfl ?_
                  refine gs rfl ?_
                  refine gs rfl ?_
                  refine ifF ((fun q => absurd ((eq_k (a := (s2).toInt) (b := 8) (by rfl) (by rfl)).mp q) (by omega))) ?_
                  refine gs rfl ?_
                  refine gs rfl ?_
                  refine gs rfl ?_
                  refine ifT ((eq_k (a := (s2).toInt) (b := 16) (by rfl) (by rfl)).mpr (by omega)) ?_
                  refine gs rfl ?_
                  refine gs rfl ?_
                  refine ifF ((fun q => absurd ((eq_k (a := (s2).toInt) (b := 0) (by rfl) (by rfl)).mp q) (by omega))) ?_
                  refine gs rfl ?_
                  refine gs rfl ?_
                  refine ifT ((le_k (a := 0) (b := (s3).toInt) (by rfl) (by rfl)).mpr (by omega)) ?_
                  refine gs rfl ?_
                  refine gs rfl ?_
                  refine ifF ((fun q => absurd ((eq_k (a := (s2).toInt) (b := 0) (by rfl) (by rfl)).mp q) (by omega))) ?_
                  refine gs rfl ?_
                  refine gs rfl ?_
                  refine gs rfl ?_
                  refine ifT ((le_k (a := (s3).toInt) (b := 40) (by rfl) (by rfl)).mpr (by omega)) ?_
                  refine gs rfl ?_
                  refine gs rfl ?_
                  refine gs rfl ?_
                  refine gs rfl ?_
                  refine gs rfl ?_
                  refine and_3 (Nat.le_of_ble_eq_true rfl) rfl (vin rfl) ?_
                  refine gs rfl ?_
                  refine gs rfl ?_
                  refine gs rfl ?_
                  refine gs rfl ?_
                  refine gs rfl ?_
                  refine ifF ((fun q => absurd ((eq_k (a := (s2).toInt) (b := 0) (by rfl) (by rfl)).mp q) (by omega))) ?_
                  refine gs rfl ?_
                  refine gs rfl ?_
                  refine and_3 (Nat.le_of_ble_eq_true rfl) rfl (vin rfl) ?_
                  refine gs rfl ?_
                  refine gs rfl ?_
                  refine gs rfl ?_
                  refine gs rfl ?_
                  refine gs rfl ?_
                  refine gs rfl ?_
                  refine gs rfl ?_
                  refine gs rfl ?_
                  refine gs rfl ?_
                  refine gs rfl ?_
                  refine gs rfl ?_
                  refine gs rfl ?_
                  refine gs rfl ?_
                  refine gs rfl ?_
                  refine and_3 (Nat.le_of_ble_eq_true rfl) rfl (vin rfl) ?_
                  refine gs rfl ?_
                  refine gs rfl ?_
                  refine gs rfl ?_
                  refine gs rfl ?_
                  refine gs rfl ?_
                  refine gs rfl ?_
                  refine gs rfl ?_
                  refine gs rfl ?_
                  refine gs rfl ?_
                  refine gs rfl ?_
                  refine gs rfl ?_
                  refine gs rfl ?_
                  refine gs rfl ?_
                  refine gs rfl ?_
                  refine and_3 (Nat.le_of_ble_eq_true rfl) rfl (vin rfl) ?_
                  refine gs rfl ?_
                  refine gs rfl ?_
                  refine gs rfl ?_
                  refine gs rfl ?_
                  refine gs rfl ?_
                  refine gs rfl ?_
                  refine gs rfl ?_
                  refine gs rfl ?_
                  refine gs rfl ?_
                  refine gs rfl ?_
                  refine gs rfl ?_
                  refine gs rfl ?_
                  refine gs rfl ?_
                  refine gs rfl ?_
                  refine and_3 (Nat.le_of_ble_eq_true rfl) rfl (vin rfl) ?_
                  refine gs rfl ?_
                  refine gs rfl ?_
                  refine gs rfl ?_
                  refine gs rfl ?_
                  refine gs rfl ?_
                  refine gs rfl ?_
                  refine gs rfl ?_
                  refine gs rfl ?_
                  refine gs rfl ?_
                  refine gs rfl ?_
                  refine gs rfl ?_
                  refine gs rfl ?_
                  refine gs rfl ?_
                  refine gs rfl ?_
                  refine and_3 (Nat.le_of_ble_eq_true rfl) rfl (vin rfl) ?_
                  refine gs rfl ?_
                  refine gs rfl ?_
                  refine gs rfl ?_
                  refine gs rfl ?_
                  refine gs rfl ?_
                  refine gs rfl ?_
                  refine gs rfl ?_
                  refine gs rfl ?_
                  refine gs rfl ?_
                  refine gs rfl ?_
                  refine gs rfl ?_
                  refine gs rfl ?_
                  refine gs rfl ?_
                  refine gs rfl ?_
                  refine and_3 (Nat.le_of_ble_eq_true rfl) rfl (vin rfl) ?_
                  refine gs rfl ?_
                  refine gs rfl ?_
                  refine gs rfl ?_
                  refine gs rfl ?_
                  refine gs rfl ?_
                  refine gs rfl ?_
                  refine gs rfl ?_
                  refine gs rfl ?_
                  refine gs rfl ?_
                  refine gs rfl ?_
                  refine gs rfl ?_
                  refine gs rfl ?_
                  refine gs rfl ?_
                  refine gs rfl ?_
                  refine and_3 (Nat.le_of_ble_eq_true rfl) rfl (vin rfl) ?_
                  refine gs rfl ?_
                  refine gs rfl ?_
                  refine gs rfl ?_
                  refine gs rfl ?_
                  refine gs rfl ?_
                  refine gs rfl ?_
                  refine gs rfl ?_
                  refine gs rfl ?_
                  refine gs rfl ?_
                  refine gs rfl ?_
                  refine gs rfl ?_
                  refine gs rfl ?_
                  refine gs rfl ?_
                  refine gs rfl ?_
                  refine and_3 (Nat.le_of_ble_eq_true rfl) rfl (vin rfl) ?_
                  refine gs rfl ?_
                  refine gs rfl ?_
                  refine gs rfl ?_
                  refine gs rfl ?_
                  refine gs rfl ?_
                  refine gs rfl ?_
                  refine gs rfl ?_
                  refine gs rfl ?_
                  refine gs rfl ?_
                  refine gs rfl ?_
                  refine gs rfl ?_
                  refine gs rfl ?_
                  refine gs rfl ?_
                  refine gs rfl ?_
                  refine and_3 (Nat.le_of_ble_eq_true rfl) rfl (vin rfl) ?_
                  refine gs rfl ?_
                  refine gs rfl ?_
                  refine gs rfl ?_
                  refine gs rfl ?_
                  refine gs rfl ?_
                  refine gs rfl ?_
                  refine gs rfl ?_
                  refine gs rfl ?_
                  refine gs rfl ?_
                  refine gs rfl ?_
                  refine gs rfl ?_
                  refine gs rfl ?_
                  refine gs rfl ?_
                  refine gs rfl ?_
                  refine and_3 (Nat.le_of_ble_eq_true rfl) rfl (vin rfl) ?_
                  refine gs rfl ?_
                  refine gs rfl ?_
                  refine gs rfl ?_
                  refine gs rfl ?_
                  refine gs rfl ?_
                  refine gs rfl ?_
                  refine gs rfl ?_
                  refine gs rfl ?_
                  refine gs rfl ?_
                  refine gs rfl ?_
                  refine gs rfl ?_
                  refine gs rfl ?_
                  refine gs rfl ?_
                  refine gs rfl ?_
                  refine and_3 (Nat.le_of_ble_eq_true rfl) rfl (vin rfl) ?_
                  refine gs rfl ?_
                  refine gs rfl ?_
                  refine gs rfl ?_
                  refine gs rfl ?_
                  refine gs rfl ?_
                  refine gs rfl ?_
                  refine gs rfl ?_
                  refine gs rfl ?_
                  refine gs rfl ?_
                  refine gs rfl ?_
                  refine gs rfl ?_
                  refine gs rfl ?_
                  refine gs rfl ?_
                  refine gs rfl ?_
                  refine and_3 (Nat.le_of_ble_eq_true rfl) rfl (vin rfl) ?_
                  refine gs rfl ?_
                  refine gs rfl ?_
                  refine gs rfl ?_
                  refine gs rfl ?_
                  refine gs rfl ?_
                  refine gs rfl ?_
                  refine gs rfl ?_
                  refine gs rfl ?_
                  refine gs rfl ?_
                  refine gs rfl ?_
                  refine gs rfl ?_
                  refine gs rfl ?_
                  refine gs rfl ?_
                  refine gs rfl ?_
                  refine and_3 (Nat.le_of_ble_eq_true rfl) rfl (vin rfl) ?_
                  refine gs rfl ?_
                  refine gs rfl ?_
                  refine gs rfl ?_
                  refine gs rfl ?_
                  refine gs rfl ?_
                  refine gs rfl ?_
                  refine gs rfl ?_
                  refine gs rfl ?_
                  refine gs rfl ?_
                  refine gs rfl ?_
                  refine gs rfl ?_
                  refine gs rfl ?_
                  refine gs rfl ?_
                  refine gs rfl ?_
                  refine and_3 (Nat.le_of_ble_eq_true rfl) rfl (vin rfl) ?_
                  refine gs rfl ?_
                  refine gs rfl ?_
                  refine gs rfl ?_
                  refine gs rfl ?_
                  refine gs rfl ?_
                  refine gs rfl ?_
                  refine gs rfl ?_
                  refine gs rfl ?_
                  refine gs rfl ?_
                  refine gs rfl ?_
                  refine gs rfl ?_
                  refine gs rfl ?_
                  refine gs rfl ?_
                  refine gs rfl ?_
                  refine and_3 (Nat.le_of_ble_eq_true rfl) rfl (vin rfl) ?_
                  refine gs rfl ?_
                  refine gs rfl ?_
                  refine gs rfl ?_
                  refine gs rfl ?_
                  refine gs rfl ?_
                  refine gs rfl ?_
                  refine gs rfl ?_
                  refine gs rfl ?_
                  refine gs rfl ?_
                  refine gs rfl ?_
                  refine gs rfl ?_
                  refine gs rfl ?_
                  refine gs rfl ?_
                  refine gs rfl ?_
                  refine and_3 (Nat.le_of_ble_eq_true rfl) rfl (vin rfl) ?_
                  refine gs rfl ?_
                  refine gs rfl ?_
                  refine gs rfl ?_
                  refine gs rfl ?_
                  refine gs rfl ?_
                  refine gs rfl ?_
                  refine gs rfl ?_
                  refine gs rfl ?_
                  refine gs rfl ?_
                  refine gs rfl ?_
                  refine gs rfl ?_
                  refine gs rfl ?_
                  refine gs rfl ?_
                  refine gs rfl ?_
                  refine and_3 (Nat.le_of_ble_eq_true rfl) rfl (vin rfl) ?_
                  refine gs rfl ?_
                  refine gs rfl ?_
                  refine gs rfl ?_
                  refine gs rfl ?_
                  refine gs rfl ?_
                  refine gs rfl ?_
                  refine gs rfl ?_
                  refine gs rfl ?_
                  refine gs rfl ?_
                  refine gs rfl ?_
                  refine gs rfl ?_
                  refine gs rfl ?_
                  refine gs rfl ?_
                  refine gs rfl ?_
                  refine and_3 (Nat.le_of_ble_eq_true rfl) rfl (vin rfl) ?_
                  refine gs rfl ?_
                  refine gs rfl ?_
                  refine gs rfl ?_
                  refine gs rfl ?_
                  refine gs rfl ?_
                  refine gs rfl ?_
                  refine gs rfl ?_
                  refine gs rfl ?_
                  refine gs rfl ?_
                  refine gs rfl ?_
                  refine gs rfl ?_
                  refine gs rfl ?_
                  refine gs rfl ?_
                  refine gs rfl ?_
                  refine and_3 (Nat.le_of_ble_eq_true rfl) rfl (vin rfl) ?_
                  refine gs rfl ?_
                  refine gs rfl ?_
                  refine gs rfl ?_
                  refine gs rfl ?_
                  refine gs rfl ?_
                  refine gs rfl ?_
                  refine gs rfl ?_
                  refine gs rfl ?_
                  refine gs rfl ?_
                  refine gs rfl ?_
                  refine gs rfl ?_
                  refine gs rfl ?_
                  refine gs rfl ?_
                  refine gs rfl ?_
                  refine and_3 (Nat.le_of_ble_eq_true rfl) rfl (vin rfl) ?_
                  refine gs rfl ?_
                  refine gs rfl ?_
                  refine gs rfl ?_
                  refine gs rfl ?_
                  refine gs rfl ?_
                  refine gs rfl ?_
                  refine gs rfl ?_
                  refine gs rfl ?_
                  refine gs rfl ?_
                  refine gs rfl ?_
                  refine gs rfl ?_
                  refine gs rfl ?_
                  refine gs rfl ?_
                  refine gs rfl ?_
                  refine and_3 (Nat.le_of_ble_eq_true rfl) rfl (vin rfl) ?_
                  refine gs rfl ?_
                  refine gs rfl ?_
                  refine gs rfl ?_
                  refine gs rfl ?_
                  refine gs rfl ?_
                  refine gs rfl ?_
                  refine gs rfl ?_
                  refine gs rfl ?_
                  refine gs rfl ?_
                  refine gs rfl ?_
                  refine gs rfl ?_
                  refine gs rfl ?_
                  refine gs rfl ?_
                  refine gs rfl ?_
                  refine and_3 (Nat.le_of_ble_eq_true rfl) rfl (vin rfl) ?_
                  refine gs rfl ?_
                  refine gs rfl ?_
                  refine gs rfl ?_
                  refine gs rfl ?_
                  refine gs rfl ?_
                  refine gs rfl ?_
                  refine gs rfl ?_
                  refine gs rfl ?_
                  refine gs rfl ?_
                  refine gs rfl ?_
                  refine gs rfl ?_
                  refine gs rfl ?_
                  refine gs rfl ?_
                  refine gs rfl ?_
                  refine and_3 (Nat.le_of_ble_eq_true rfl) rfl (vin rfl) ?_
                  refine gs rfl ?_
                  refine gs rfl ?_
                  refine gs rfl ?_
                  refine gs rfl ?_
                  refine gs rfl ?_
                  refine gs rfl ?_
                  refine gs rfl ?_
                  refine gs rfl ?_
                  refine gs rfl ?_
                  refine gs rfl ?_
                  refine gs rfl ?_
                  refine gs rfl ?_
                  refine gs rfl ?_
                  refine gs rfl ?_
                  refine and_3 (Nat.le_of_ble_eq_true rfl) rfl (vin rfl) ?_
                  refine gs rfl ?_
                  refine gs rfl ?_
                  refine gs rfl ?_
                  refine gs rfl ?_
                  refine gs rfl ?_
                  refine gs rfl ?_
                  refine gs rfl ?_
                  refine gs rfl ?_
                  refine gs rfl ?_
                  refine gs rfl ?_
                  refine gs rfl ?_
                  refine gs rfl ?_
                  refine gs rfl ?_
                  refine gs rfl ?_
                  refine and_3 (Nat.le_of_ble_eq_true rfl) rfl (vin rfl) ?_
                  refine gs rfl ?_
                  refine gs rfl ?_
                  refine gs rfl ?_
                  refine gs rfl ?_
                  refine gs rfl ?_
                  refine gs rfl ?_
                  refine gs rfl ?_
                  refine gs rfl ?_
                  refine gs rfl ?_
                  refine gs rfl ?_
                  refine gs rfl ?_
                  refine gs rfl ?_
                  refine gs rfl ?_
                  refine gs rfl ?_
                  refine and_3 (Nat.le_of_ble_eq_true rfl) rfl (vin rfl) ?_
                  refine gs rfl ?_
                  refine gs rfl ?_
                  refine gs rfl ?_
                  refine gs rfl ?_
                  refine gs rfl ?_
                  refine gs rfl ?_
                  refine gs rfl ?_
                  refine gs rfl ?_
                  refine gs rfl ?_
                  refine gs rfl ?_
                  refine gs rfl ?_
                  refine gs rfl ?_
                  refine gs rfl ?_
                  refine gs rfl ?_
                  refine and_3 (Nat.le_of_ble_eq_true rfl) rfl (vin rfl) ?_
                  refine gs rfl ?_
                  refine gs rfl ?_
                  refine gs rfl ?_
                  refine gs rfl ?_
                  refine gs rfl ?_
                  refine gs rfl ?_
                  refine gs rfl ?_
                  refine gs rfl ?_
                  refine gs rfl ?_
                  refine gs rfl ?_
                  refine gs rfl ?_
                  refine gs rfl ?_
                  refine gs rfl ?_
                  refine gs rfl ?_
                  refine and_3 (Nat.le_of_ble_eq_true rfl) rfl (vin rfl) ?_
                  refine gs rfl ?_
                  refine gs rfl ?_
                  refine gs rfl ?_
                  refine gs rfl ?_
                  refine gs rfl ?_
                  refine gs rfl ?_
                  refine gs rfl ?_
                  refine gs rfl ?_
                  refine gs rfl ?_
                  refine gs rfl ?_
                  refine gs rfl ?_
                  refine gs rfl ?_
                  refine gs rfl ?_
                  refine gs rfl ?_
                  refine and_3 (Nat.le_of_ble_eq_true rfl) rfl (vin rfl) ?_
                  refine gs rfl ?_
                  refine gs rfl ?_
                  refine gs rfl ?_
                  refine gs rfl ?_
                  refine gs rfl ?_
                  refine gs rfl ?_
                  refine gs rfl ?_
                  refine gs rfl ?_
                  refine gs rfl ?_
                  refine gs rfl ?_
                  refine gs rfl ?_
                  refine gs rfl ?_
                  refine gs rfl ?_
                  refine gs rfl ?_
                  refine and_3 (Nat.le_of_ble_eq_true rfl) rfl (vin rfl) ?_
                  refine gs rfl ?_
                  refine gs rfl ?_
                  refine gs rfl ?_
                  refine gs rfl ?_
                  refine gs rfl ?_
                  refine gs rfl ?_
                  refine gs rfl ?_
                  refine gs rfl ?_
                  refine gs rfl ?_
                  refine gs rfl ?_
                  refine gs rfl ?_
                  refine gs rfl ?_
                  refine gs rfl ?_
                  refine gs rfl ?_
                  refine and_3 (Nat.le_of_ble_eq_true rfl) rfl (vin rfl) ?_
                  refine gs rfl ?_
                  refine gs rfl ?_
                  refine gs rfl ?_
                  refine gs rfl ?_
                  refine gs rfl ?_
                  refine gs rfl ?_
                  refine gs rfl ?_
                  refine gs rfl ?_
                  refine gs rfl ?_
                  refine gs rfl ?_
                  refine gs rfl ?_
                  refine gs rfl ?_
                  refine gs rfl ?_
                  refine gs rfl ?_
                  refine and_3 (Nat.le_of_ble_eq_true rfl) rfl (vin rfl) ?_
                  refine gs rfl ?_
                  refine gs rfl ?_
                  refine gs rfl ?_
                  refine gs rfl ?_
                  refine gs rfl ?_
                  refine gs rfl ?_
                  refine gs rfl ?_
                  refine gs rfl ?_
                  refine gs rfl ?_
                  refine gs rfl ?_
                  refine gs rfl ?_
                  refine gs rfl ?_
                  refine gs rfl ?_
                  refine gs rfl ?_
                  refine and_3 (Nat.le_of_ble_eq_true rfl) rfl (vin rfl) ?_
                  refine gs rfl ?_
                  refine gs rfl ?_
                  refine gs rfl ?_
                  refine gs rfl ?_
                  refine gs rfl ?_
                  refine gs rfl ?_
                  refine gs rfl ?_
                  refine gs rfl ?_
                  refine gs rfl ?_
                  refine gs rfl ?_
                  refine gs rfl ?_
                  refine gs rfl ?_
                  refine gs rfl ?_
                  refine gs rfl ?_
                  refine and_3 (Nat.le_of_ble_eq_true rfl) rfl (vin rfl) ?_
                  refine gs rfl ?_
                  refine gs rfl ?_
                  refine gs rfl ?_
                  refine gs rfl ?_
                  refine gs rfl ?_
                  refine gs rfl ?_
                  refine gs rfl ?_
                  refine gs rfl ?_
                  refine gs rfl ?_
                  refine gs rfl ?_
                  refine gs rfl ?_
                  refine gs rfl ?_
                  refine gs rfl ?_
                  refine gs rfl ?_
                  refine and_3 (Nat.le_of_ble_eq_true rfl) rfl (vin rfl) ?_
                  refine gs rfl ?_
                  refine gs rfl ?_
                  refine gs rfl ?_
                  refine gs rfl ?_
                  refine gs rfl ?_
                  refine gs rfl ?_
                  refine gs rfl ?_
                  refine gs rfl ?_
                  refine gs rfl ?_
                  refine gs rfl ?_
                  refine gs rfl ?_
                  refine gs rfl ?_
                  refine gs rfl ?_
                  refine gs rfl ?_
                  refine and_3 (Nat.le_of_ble_eq_true rfl) rfl (vin rfl) ?_
                  refine gs rfl ?_
                  refine gs rfl ?_
                  refine gs rfl ?_
                  refine gs rfl ?_
                  refine gs rfl ?_
                  refine gs rfl ?_
                  refine gs rfl ?_
                  refine gs rfl ?_
                  refine gs rfl ?_
                  refine gs rfl ?_
                  refine gs rfl ?_
                  refine gs rfl ?_
                  refine gs rfl ?_
                  refine gs rfl ?_
                  refine and_3 (Nat.le_of_ble_eq_true rfl) rfl (vin rfl) ?_
                  refine gs rfl ?_
                  refine gs rfl ?_
                  refine gs rfl ?_
                  refine gs rfl ?_
                  refine gs rfl ?_
                  refine gs rfl ?_
                  refine gs rfl ?_
                  refine gs rfl ?_
                  refine gs rfl ?_
                  refine gs rfl ?_
                  refine gs rfl ?_
                  refine gs rfl ?_
                  refine gs rfl ?_
                  refine gs rfl ?_
                  refine and_3 (Nat.le_of_ble_eq_true rfl) rfl (vin rfl) ?_
                  refine gs rfl ?_
                  refine gs rfl ?_
                  refine gs rfl ?_
                  refine gs rfl ?_
                  refine gs rfl ?_
                  refine gs rfl ?_
                  refine gs rfl ?_
                  refine gs rfl ?_
                  refine gs rfl ?_
                  refine gs rfl ?_
                  refine gs rfl ?_
                  refine gs rfl ?_
                  refine gs rfl ?_
                  refine gs rfl ?_
                  refine and_3 (Nat.le_of_ble_eq_true rfl) rfl (vin rfl) ?_
                  refine gs rfl ?_
                  refine gs rfl ?_
                  refine gs rfl ?_
                  refine gs rfl ?_
                  refine gs rfl ?_
                  refine gs rfl ?_
                  refine gs rfl ?_
                  refine gs rfl ?_
                  refine gs rfl ?_
                  refine gs rfl ?_
                  refine gs rfl ?_
                  refine gs rfl ?_
                  refine gs rfl ?_
                  refine gs rfl ?_
                  refine and_3 (Nat.le_of_ble_eq_true rfl) rfl (vin rfl) ?_
                  refine gs rfl ?_
                  refine gs rfl ?_
                  refine gs rfl ?_
                  refine gs rfl ?_
                  refine gs rfl ?_
                  refine gs rfl ?_
                  refine gs rfl ?_
                  refine gs rfl ?_
                  refine gs rfl ?_
                  refine gs rfl ?_
                  refine gs rfl ?_
                  refine gs rfl ?_
                  refine gs rfl ?_
                  refine gs rfl ?_
                  refine and_3 (Nat.le_of_ble_eq_true rfl) rfl (vin rfl) ?_
                  refine gs rfl ?_
                  refine gs rfl ?_
                  refine gs rfl ?_
                  refine gs rfl ?_
                  refine gs rfl ?_
                  refine gs rfl ?_
                  refine gs rfl ?_
                  refine and_i rfl ?_
                  refine gs rfl ?_
                  refine gs rfl ?_
                  refine gs rfl ?_
                  refine gs rfl ?_
                  refine gs rfl ?_
                  refine gs rfl ?_
                  refine and_i (Or.inl rfl) ?_
                  refine gwst (congrArg (fun z => Value.int z :: _) (alen_k (n := 6) (by rfl))) ?_
                  refine gs rfl ?_
                  refine gs rfl ?_
                  refine gs rfl ?_
                  refine gs rfl ?_
                  refine gs rfl ?_
                  refine and_2 rfl (Or.inr rfl) ?_
                  exact rfl
              · have d24 : ¬ ((s3).toInt ≤ 40) := fun q => c23 ((le_k (by rfl) (by rfl)).mpr q)
                refine gs rfl ?_
                refine gs rfl ?_
                refine gs rfl ?_
                refine and_i (Nat.le_of_ble_eq_true rfl) (cl0 (Nat.le_of_ble_eq_true rfl) (and_i (Nat.le_of_ble_eq_true rfl) ?_))
                refine gs rfl ?_
                refine gs rfl ?_
                refine gs rfl ?_
                refine gs rfl ?_
                refine gs rfl ?_
                refine and_2 rfl (vin rfl) ?_
                refine gs rfl ?_
                refine gs rfl ?_
                refine gs rfl ?_
                refine and_3 (Nat.le_of_ble_eq_true rfl) rfl (vin rfl) ?_
                refine gs rfl ?_
                refine gs rfl ?_
                refine gs rfl ?_
                refine gs rfl ?_
                refine and_i rfl ?_
                refine gs rfl ?_
                refine and_i rfl ?_
                refine FRg rfl (fun f => ?_)
                refine gs rfl ?_
                refine gs rfl ?_
                refine gs rfl ?_
                refine gs rfl ?_
                refine gs rfl ?_
                refine gs rfl ?_
                refine and_2 rfl (vin rfl) ?_
                refine gs rfl ?_
                refine gs rfl ?_
                refine gs rfl ?_
                refine gs rfl ?_
                refine gs rfl ?_
                refine and_2 rfl (vin rfl) ?_
                refine gs rfl ?_
                refine gs rfl ?_
                refine gs rfl ?_
                refine gs rfl ?_
                refine gs rfl ?_
                refine and_2 rfl (vin rfl) ?_
                refine gs rfl ?_
                refine and_i (Nat.le_of_ble_eq_true rfl) (cl0 (Nat.le_of_ble_eq_true rfl) (and_i (Nat.le_of_ble_eq_true rfl) ?_))
                refine gs rfl ?_
                refine gs rfl ?_
                refine and_i (Nat.le_of_ble_eq_true rfl) (cl0 (Nat.le_of_ble_eq_true rfl) (and_i (Nat.le_of_ble_eq_true rfl) ?_))
                refine gs rfl ?_
                refine gs rfl ?_
                refine gs rfl ?_
                refine gs rfl ?_
                refine and_i (Nat.le_of_ble_eq_true rfl) (cl0 (Nat.le_of_ble_eq_true rfl) (and_i (Nat.le_of_ble_eq_true rfl) ?_))
                refine gs rfl ?_
                refine gs rfl ?_
                refine gs rfl ?_
                refine ifF ((fun q => absurd ((lt_k (a := (s1).toInt) (b := 0) (by rfl) (by rfl)).mp q) (by omega))) ?_
                refine gs rfl ?_
                refine gs rfl ?_
                refine gs rfl ?_
                refine ifF ((fun q => absurd ((lt_k (a := 3) (b := (s1).toInt) (by rfl) (by rfl)).mp q) (by omega))) ?_
                refine gs rfl ?_
                refine gs rfl ?_
                refine gs rfl ?_
                refine and_2 rfl (Or.inr rfl) ?_
                refine gs rfl ?_
                refine and_2 rfl (Or.inr rfl) ?_
                refine gs rfl ?_
                refine gs rfl ?_
                refine gs rfl ?_
                refine ifF ((fun q => absurd ((eq_k (a := (s2).toInt) (b := 0) (by rfl) (by rfl)).mp q) (by omega))) ?_
                refine gs rfl ?_
                refine gs rfl ?_
                refine gs rfl ?_
                refine ifF ((fun q => absurd ((eq_k (a := (s2).toInt) (b := 8) (by rfl) (by rfl)).mp q) (by omega))) ?_
                refine gs rfl ?_
                refine gs rfl ?_
                refine gs rfl ?_
                refine ifT ((eq_k (a := (s2).toInt) (b := 16) (by rfl) (by rfl)).mpr (by omega)) ?_
                refine gs rfl ?_
                refine gs rfl ?_
                refine ifF ((fun q => absurd ((eq_k (a := (s2).toInt) (b := 0) (by rfl) (by rfl)).mp q) (by omega))) ?_
                refine gs rfl ?_
                refine gs rfl ?_
                refine ifT ((le_k (a := 0) (b := (s3).toInt) (by rfl) (by rfl)).mpr (by omega)) ?_
                refine gs rfl ?_
                refine gs rfl ?_
                refine ifF ((fun q => absurd ((eq_k (a := (s2).toInt) (b := 0) (by rfl) (by rfl)).mp q) (by omega))) ?_
                refine gs rfl ?_
                refine gs rfl ?_
                refine gs rfl ?_
                refine ifF ((fun q => absurd ((le_k (a := (s3).toInt) (b := 40) (by rfl) (by rfl)).mp q) (by omega))) ?_
                refine gs rfl ?_
                refine gs rfl ?_
                refine gs rfl ?_
                refine and_i (Nat.le_of_ble_eq_true rfl) (cl0 (Nat.le_of_ble_eq_true rfl) (and_i (Nat.le_of_ble_eq_true rfl) ?_))
                refine gs rfl ?_
                refine gs rfl ?_
                refine gs rfl ?_
                refine gs rfl ?_
                refine gs rfl ?_
                refine gs rfl ?_
                refine gs rfl ?_
                refine and_2 rfl (vin rfl) ?_
                refine gs rfl ?_
                refine gs rfl ?_
                refine gs rfl ?_
                refine and_3 (Nat.le_of_ble_eq_true rfl) rfl (vin rfl) ?_
                refine gs rfl ?_
                refine gs rfl ?_
                refine and_i rfl ?_
                refine gs rfl ?_
                refine and_i rfl ?_
                refine gs rfl ?_
                refine gs rfl ?_
                refine gs rfl ?_
                refine gs rfl ?_
                refine gs rfl ?_
                refine gs rfl ?_
                refine and_i (Or.inl rfl) ?_
                refine gwst (congrArg (fun z => Value.int z :: _) (alen_k (n := 6) (by rfl))) ?_
                refine gs rfl ?_
                refine gs rfl ?_
                refine gs rfl ?_
                refine gs rfl ?_
                refine gs rfl ?_
                refine and_2 rfl (Or.inr rfl) ?_
                exact rfl
            · have d22 : ¬ (0 ≤ (s3).toInt) := fun q => c21 ((le_k (by rfl) (by rfl)).mpr q)
              refine gs rfl ?_
              refine gs rfl ?_
              refine gs rfl ?_
              refine and_i (Nat.le_of_ble_eq_true rfl) (cl0 (Nat.le_of_ble_eq_true rfl) (and_i (Nat.le_of_ble_eq_true rfl) ?_))
              refine gs rfl ?_
              refine gs rfl ?_
              refine gs rfl ?_
              refine gs rfl ?_
              refine gs rfl ?_
              refine and_2 rfl (vin rfl) ?_
              refine gs rfl ?_
              refine gs rfl ?_
              refine gs rfl ?_
              refine and_3 (Nat.le_of_ble_eq_true rfl) rfl (vin rfl) ?_
              refine gs rfl ?_
              refine gs rfl ?_
              refine gs rfl ?_
              refine gs rfl ?_
              refine and_i rfl ?_
              refine gs rfl ?_
              refine and_i rfl ?_
              refine FRg rfl (fun f => ?_)
              refine gs rfl ?_
              refine gs rfl ?_
              refine gs rfl ?_
              refine gs rfl ?_
              refine gs rfl ?_
              refine gs rfl ?_
              refine and_2 rfl (vin rfl) ?_
              refine gs rfl ?_
              refine gs rfl ?_
              refine gs rfl ?_
              refine gs rfl ?_
              refine gs rfl ?_
              refine and_2 rfl (vin rfl) ?_
              refine gs rfl ?_
              refine gs rfl ?_
              refine gs rfl ?_
              refine gs rfl ?_
              refine gs rfl ?_
              refine and_2 rfl (vin rfl) ?_
              refine gs rfl ?_
              refine and_i (Nat.le_of_ble_eq_true rfl) (cl0 (Nat.le_of_ble_eq_true rfl) (and_i (Nat.le_of_ble_eq_true rfl) ?_))
              refine gs rfl ?_
              refine gs rfl ?_
              refine and_i (Nat.le_of_ble_eq_true rfl) (cl0 (Nat.le_of_ble_eq_true rfl) (and_i (Nat.le_of_ble_eq_true rfl) ?_))
              refine gs rfl ?_
              refine gs rfl ?_
              refine gs rfl ?_
              refine gs rfl ?_
              refine and_i (Nat.le_of_ble_eq_true rfl) (cl0 (Nat.le_of_ble_eq_true rfl) (and_i (Nat.le_of_ble_eq_true rfl) ?_))
              refine gs rfl ?_
              refine gs rfl ?_
              refine gs rfl ?_
              refine ifF ((fun q => absurd ((lt_k (a := (s1).toInt) (b := 0) (by rfl) (by rfl)).mp q) (by omega))) ?_
              refine gs rfl ?_
              refine gs rfl ?_
              refine gs rfl ?_
              refine ifF ((fun q => absurd ((lt_k (a := 3) (b := (s1).toInt) (by rfl) (by rfl)).mp q) (by omega))) ?_
              refine gs rfl ?_
              refine gs rfl ?_
              refine gs rfl ?_
              refine and_2 rfl (Or.inr rfl) ?_
              refine gs rfl ?_
              refine and_2 rfl (Or.inr rfl) ?_
              refine gs rfl ?_
              refine gs rfl ?_
              refine gs rfl ?_
              refine ifF ((fun q => absurd ((eq_k (a := (s2).toInt) (b := 0) (by rfl) (by rfl)).mp q) (by omega))) ?_
              refine gs rfl ?_
              refine gs rfl ?_
              refine gs rfl ?_
              refine ifF ((fun q => absurd ((eq_k (a := (s2).toInt) (b := 8) (by rfl) (by rfl)).mp q) (by omega))) ?_
              refine gs rfl ?_
              refine gs rfl ?_
              refine gs rfl ?_
              refine ifT ((eq_k (a := (s2).toInt) (b := 16) (by rfl) (by rfl)).mpr (by omega)) ?_
              refine gs rfl ?_
              refine gs rfl ?_
              refine ifF ((fun q => absurd ((eq_k (a := (s2).toInt) (b := 0) (by rfl) (by rfl)).mp q) (by omega))) ?_
              refine gs rfl ?_
              refine gs rfl ?_
              refine ifF ((fun q => absurd ((le_k (a := 0) (b := (s3).toInt) (by rfl) (by rfl)).mp q) (by omega))) ?_
              refine gs rfl ?_
              refine gs rfl ?_
              refine gs rfl ?_
              refine and_i (Nat.le_of_ble_eq_true rfl) (cl0 (Nat.le_of_ble_eq_true rfl) (and_i (Nat.le_of_ble_eq_true rfl) ?_))
              refine gs rfl ?_
              refine gs rfl ?_
              refine gs rfl ?_
              refine gs rfl ?_
              refine gs rfl ?_
              refine gs rfl ?_
              refine gs rfl ?_
              refine and_2 rfl (vin rfl) ?_
              refine gs rfl ?_
              refine gs rfl ?_
              refine gs rfl ?_
              refine and_3 (Nat.le_of_ble_eq_true rfl) rfl (vin rfl) ?_
              refine gs rfl ?_
              refine gs rfl ?_
              refine and_i rfl ?_
              refine gs rfl ?_
              refine and_i rfl ?_
              refine gs rfl ?_
              refine gs rfl ?_
              refine gs rfl ?_
              refine gs rfl ?_
              refine gs rfl ?_
              refine gs rfl ?_
              refine and_i (Or.inl rfl) ?_
              refine gwst (congrArg (fun z => Value.int z :: _) (alen_k (n := 6) (by rfl))) ?_
              refine gs rfl ?_
              refine gs rfl ?_
              refine gs rfl ?_
              refine gs rfl ?_
              refine gs rfl ?_
              refine and_2 rfl (Or.inr rfl) ?_
              exact rfl
          · have d20 : ¬ ((s2).toInt = 16) := fun q => c19 ((eq_k (by rfl) (by rfl)).mpr q)
            refine gs rfl ?_
            refine gs rfl ?_
            refine gs rfl ?_
            refine ifs (fun c28 => ?_) (fun c28 => ?_)
            · have d29 : (s2).toInt = 32 := (eq_k (by rfl) (by rfl)).mp c28
              refine gs rfl ?_
              refine gs rfl ?_
              refine ifF ((fun q => absurd ((eq_k (a := (s2).toInt) (b := 0) (by rfl) (by rfl)).mp q) (by omega))) ?_
              refine gs rfl ?_
              refine gs rfl ?_
              refine ifs (fun c30 => ?_) (fun c30 => ?_)
              · have d31 : 0 ≤ (s3).toInt := (le_k (by rfl) (by rfl)).mp c30
                refine gs rfl ?_
                refine gs rfl ?_
                refine gs rfl ?_
                refine ifs (fun c32 => ?_) (fun c32 => ?_)
                · have d33 : (s3).toInt ≤ 40 := (le_k (by rfl) (by rfl)).mp c32
                  refine gs rfl ?_
                  refine gs rfl ?_
                  refine gs rfl ?_
                  obtain ⟨j34, e35, x36⟩ := nat_of (x := s1) (lo := 0) (hi := 3) (by omega) (by omega)
                  rcases (show j34 = 0 ∨ j34 = 1 ∨ j34 = 2 ∨ j34 = 3 by omega) with rfl | rfl | rfl | rfl
                  · have x36q : s1 = (0 : Int32) := x36
                    clear x36
                    subst x36q
                    refine gs rfl ?_
                    refine and_2 (Nat.le_of_ble_eq_true rfl) (vin rfl) ?_
                    refine and_2 rfl (fun z q => by cases q) ?_
                    refine gs rfl ?_
                    refine gs rfl ?_
                    refine gs rfl ?_
                    refine and_i (Nat.le_of_ble_eq_true rfl) (cl0 (Nat.le_of_ble_eq_true rfl) (and_i (Nat.le_of_ble_eq_true rfl) ?_))
                    refine gs rfl ?_
                    refine gs rfl ?_
                    refine gs rfl ?_
                    refine and_3 (Nat.le_of_ble_eq_true rfl) (Nat.le_of_ble_eq_true rfl) trivial ?_
                    refine gs rfl ?_
                    refine gs rfl ?_
                    refine gs rfl ?_
                    refine and_3 (Nat.le_of_ble_eq_true rfl) (Nat.le_of_ble_eq_true rfl) trivial ?_
                    refine gs rfl ?_
                    refine gs rfl ?_
                    refine gs rfl ?_
                    refine gs rfl ?_
                    refine and_i (Nat.le_of_ble_eq_true rfl) (cl0 (Nat.le_of_ble_eq_true rfl) (and_i (Nat.le_of_ble_eq_true rfl) ?_))
                    refine gs rfl ?_
                    refine gs rfl ?_
                    refine gs rfl ?_
                    refine gs rfl ?_
                    refine and_i (Or.inl rfl) ?_
                    refine gwst (congrArg (fun z => Value.int z :: _) (alen_k (n := 40) (by rfl))) ?_
                    refine gs rfl ?_
                    refine gs rfl ?_
                    refine gs rfl ?_
                    refine gs rfl ?_
                    refine gs rfl ?_
                    refine gs rfl ?_
                    refine gs rfl ?_
                    refine gs rfl ?_
                    refine and_3 (Nat.le_of_ble_eq_true rfl) rfl (vin rfl) ?_
                    refine gs rfl ?_
                    refine gs rfl ?_
                    refine gs rfl ?_
                    refine gs rfl ?_
                    refine gs rfl ?_
                    refine gs rfl ?_
                    refine gs rfl ?_
                    refine gs rfl ?_
                    refine gs rfl ?_
                    refine and_3 (Nat.le_of_ble_eq_true rfl) rfl (vin rfl) ?_
                    refine gs rfl ?_
                    refine gs rfl ?_
                    refine gs rfl ?_
                    refine gs rfl ?_
                    refine gs rfl ?_
                    refine gs rfl ?_
                    refine gs rfl ?_
                    refine gs rfl ?_
                    refine gs rfl ?_
                    refine and_3 (Nat.le_of_ble_eq_true rfl) rfl (vin rfl) ?_
                    refine gs rfl ?_
                    refine gs rfl ?_
                    refine gs rfl ?_
                    refine gs rfl ?_
                    refine gs rfl ?_
                    refine gs rfl ?_
                    refine gs rfl ?_
                    refine gs rfl ?_
                    refine gs rfl ?_
                    refine and_3 (Nat.le_of_ble_eq_true rfl) rfl (vin rfl) ?_
                    refine gs rfl ?_
                    refine gs rfl ?_
                    refine gs rfl ?_
                    refine gs rfl ?_
                    refine gs rfl ?_
                    refine gs rfl ?_
                    refine gs rfl ?_
                    refine gs rfl ?_
                    refine gs rfl ?_
                    refine and_3 (Nat.le_of_ble_eq_true rfl) rfl (vin rfl) ?_
                    refine gs rfl ?_
                    refine gs rfl ?_
                    refine gs rfl ?_
                    refine gs rfl ?_
                    refine gs rfl ?_
                    refine gs rfl ?_
                    refine gs rfl ?_
                    refine gs rfl ?_
                    refine gs rfl ?_
                    refine and_3 (Nat.le_of_ble_eq_true rfl) rfl (vin rfl) ?_
                    refine gs rfl ?_
                    refine gs rfl ?_
                    refine gs rfl ?_
                    refine gs rfl ?_
                    refine gs rfl ?_
                    refine gs rfl ?_
                    refine gs rfl ?_
                    refine gs rfl ?_
                    refine gs rfl ?_
                    refine and_3 (Nat.le_of_ble_eq_true rfl) rfl (vin rfl) ?_
                    refine gs rfl ?_
                    refine gs rfl ?_
                    refine gs rfl ?_
                    refine gs rfl ?_
                    refine gs rfl ?_
                    refine gs rfl ?_
                    refine gs rfl ?_
                    refine gs rfl ?_
                    refine gs rfl ?_
                    refine and_3 (Nat.le_of_ble_eq_true rfl) rfl (vin rfl) ?_
                    refine gs rfl ?_
                    refine gs rfl ?_
                    refine gs rfl ?_
                    refine gs rfl ?_
                    refine gs rfl ?_
                    refine gs rfl ?_
                    refine gs rfl ?_
                    refine gs rfl ?_
                    refine gs rfl ?_
                    refine and_3 (Nat.le_of_ble_eq_true rfl) rfl (vin rfl) ?_
                    refine gs rfl ?_
                    refine gs rfl ?_
                    refine gs rfl ?_
                    refine gs rfl ?_
                    refine gs rfl ?_
                    refine gs rfl ?_
                    refine gs rfl ?_
                    refine gs rfl ?_
                    refine gs rfl ?_
                    refine and_3 (Nat.le_of_ble_eq_true rfl) rfl (vin rfl) ?_
                    refine gs rfl ?_
                    refine gs rfl ?_
                    refine gs rfl ?_
                    refine gs rfl ?_
                    refine gs rfl ?_
                    refine gs rfl ?_
                    refine gs rfl ?_
                    refine gs rfl ?_
                    refine gs rfl ?_
                    refine and_3 (Nat.le_of_ble_eq_true rfl) rfl (vin rfl) ?_
                    refine gs rfl ?_
                    refine gs rfl ?_
                    refine gs rfl ?_
                    refine gs rfl ?_
                    refine gs rfl ?_
                    refine gs rfl ?_
                    refine gs rfl ?_
                    refine gs rfl ?_
                    refine gs rfl ?_
                    refine and_3 (Nat.le_of_ble_eq_true rfl) rfl (vin rfl) ?_
                    refine gs rfl ?_
                    refine gs rfl ?_
                    refine gs rfl ?_
                    refine gs rfl ?_
                    refine gs rfl ?_
                    refine gs rfl ?_
                    refine gs rfl ?_
                    refine gs rfl ?_
                    refine gs rfl ?_
                    refine and_3 (Nat.le_of_ble_eq_true rfl) rfl (vin rfl) ?_
                    refine gs rfl ?_
                    refine gs rfl ?_
                    refine gs rfl ?_
                    refine gs rfl ?_
                    refine gs rfl ?_
                    refine gs rfl ?_
                    refine gs rfl ?_
                    refine gs rfl ?_
                    refine gs rfl ?_
                    refine and_3 (Nat.le_of_ble_eq_true rfl) rfl (vin rfl) ?_
                    refine gs rfl ?_
                    refine gs rfl ?_
                    refine gs rfl ?_
                    refine gs rfl ?_
                    refine gs rfl ?_
                    refine gs rfl ?_
                    refine gs rfl ?_
                    refine gs rfl ?_
                    refine gs rfl ?_
                    refine and_3 (Nat.le_of_ble_eq_true rfl) rfl (vin rfl) ?_
                    refine gs rfl ?_
                    refine gs rfl ?_
                    refine gs rfl ?_
                    refine gs rfl ?_
                    refine gs rfl ?_
                    refine gs rfl ?_
                    refine gs rfl ?_
                    refine gs rfl ?_
                    refine gs rfl ?_
                    refine and_3 (Nat.le_of_ble_eq_true rfl) rfl (vin rfl) ?_
                    refine gs rfl ?_
                    refine gs rfl ?_
                    refine gs rfl ?_
                    refine gs rfl ?_
                    refine gs rfl ?_
                    refine gs rfl ?_
                    refine gs rfl ?_
                    refine gs rfl ?_
                    refine gs rfl ?_
                    refine and_3 (Nat.le_of_ble_eq_true rfl) rfl (vin rfl) ?_
                    refine gs rfl ?_
                    refine gs rfl ?_
                    refine gs rfl ?_
                    refine gs rfl ?_
                    refine gs rfl ?_
                    refine gs rfl ?_
                    refine gs rfl ?_
                    refine gs rfl ?_
                    refine gs rfl ?_
                    refine and_3 (Nat.le_of_ble_eq_true rfl) rfl (vin rfl) ?_
                    refine gs rfl ?_
                    refine gs rfl ?_
                    refine gs rfl ?_
                    refine gs rfl ?_
                    refine gs rfl ?_
                    refine gs rfl ?_
                    refine gs rfl ?_
                    refine gs rfl ?_
                    refine gs rfl ?_
                    refine and_3 (Nat.le_of_ble_eq_true rfl) rfl (vin rfl) ?_
                    refine gs rfl ?_
                    refine gs rfl ?_
                    refine gs rfl ?_
                    refine gs rfl ?_
                    refine gs rfl ?_
                    refine gs rfl ?_
                    refine gs rfl ?_
                    refine gs rfl ?_
                    refine gs rfl ?_
                    refine and_3 (Nat.le_of_ble_eq_true rfl) rfl (vin rfl) ?_
                    refine gs rfl ?_
                    refine gs rfl ?_
                    refine gs rfl ?_
                    refine gs rfl ?_
                    refine gs rfl ?_
                    refine gs rfl ?_
                    refine gs rfl ?_
                    refine gs rfl ?_
                    refine gs rfl ?_
                    refine and_3 (Nat.le_of_ble_eq_true rfl) rfl (vin rfl) ?_
                    refine gs rfl ?_
                    refine gs rfl ?_
                    refine gs rfl ?_
                    refine gs rfl ?_
                    refine gs rfl ?_
                    refine gs rfl ?_
                    refine gs rfl ?_
                    refine gs rfl ?_
                    refine gs rfl ?_
                    refine and_3 (Nat.le_of_ble_eq_true rfl) rfl (vin rfl) ?_
                    refine gs rfl ?_
                    refine gs rfl ?_
                    refine gs rfl ?_
                    refine gs rfl ?_
                    refine gs rfl ?_
                    refine gs rfl ?_
                    refine gs rfl ?_
                    refine gs rfl ?_
                    refine gs rfl ?_
                    refine and_3 (Nat.le_of_ble_eq_true rfl) rfl (vin rfl) ?_
                    refine gs rfl ?_
                    refine gs rfl ?_
                    refine gs rfl ?_
                    refine gs rfl ?_
                    refine gs rfl ?_
                    refine gs rfl ?_
                    refine gs rfl ?_
                    refine gs rfl ?_
                    refine gs rfl ?_
                    refine and_3 (Nat.le_of_ble_eq_true rfl) rfl (vin rfl) ?_
                    refine gs rfl ?_
                    refine gs rfl ?_
                    refine gs rfl ?_
                    refine gs rfl ?_
                    refine gs rfl ?_
                    refine gs rfl ?_
                    refine gs rfl ?_
                    refine gs rfl ?_
                    refine gs rfl ?_
                    refine and_3 (Nat.le_of_ble_eq_true rfl) rfl (vin rfl) ?_
                    refine gs rfl ?_
                    refine gs rfl ?_
                    refine gs rfl ?_
                    refine gs rfl ?_
                    refine gs rfl ?_
                    refine gs rfl ?_
                    refine gs rfl ?_
                    refine gs rfl ?_
                    refine gs rfl ?_
                    refine and_3 (Nat.le_of_ble_eq_true rfl) rfl (vin rfl) ?_
                    refine gs rfl ?_
                    refine gs rfl ?_
                    refine gs rfl ?_
                    refine gs rfl ?_
                    refine gs rfl ?_
                    refine gs rfl ?_
                    refine gs rfl ?_
                    refine gs rfl ?_
                    refine gs rfl ?_
                    refine and_3 (Nat.le_of_ble_eq_true rfl) rfl (vin rfl) ?_
                    refine gs rfl ?_
                    refine gs rfl ?_
                    refine gs rfl ?_
                    refine gs rfl ?_
                    refine gs rfl ?_
                    refine gs rfl ?_
                    refine gs rfl ?_
                    refine gs rfl ?_
                    refine gs rfl ?_
                    refine and_3 (Nat.le_of_ble_eq_true rfl) rfl (vin rfl) ?_
                    refine gs rfl ?_
                    refine gs rfl ?_
                    refine gs rfl ?_
                    refine gs rfl ?_
                    refine gs rfl ?_
                    refine gs rfl ?_
                    refine gs rfl ?_
                    refine gs rfl ?_
                    refine gs rfl ?_
                    refine and_3 (Nat.le_of_ble_eq_true rfl) rfl (vin rfl) ?_
                    refine gs rfl ?_
                    refine gs rfl ?_
                    refine gs rfl ?_
                    refine gs rfl ?_
                    refine gs rfl ?_
                    refine gs rfl ?_
                    refine gs rfl ?_
                    refine gs rfl ?_
                    refine gs rfl ?_
                    refine and_3 (Nat.le_of_ble_eq_true rfl) rfl (vin rfl) ?_
                    refine gs rfl ?_
                    refine gs rfl ?_
                    refine gs rfl ?_
                    refine gs rfl ?_
                    refine gs rfl ?_
                    refine gs rfl ?_
                    refine gs rfl ?_
                    refine gs rfl ?_
                    refine gs rfl ?_
                    refine and_3 (Nat.le_of_ble_eq_true rfl) rfl (vin rfl) ?_
                    refine gs rfl ?_
                    refine gs rfl ?_
                    refine gs rfl ?_
                    refine gs rfl ?_
                    refine gs rfl ?_
                    refine gs rfl ?_
                    refine gs rfl ?_
                    refine gs rfl ?_
                    refine gs rfl ?_
                    refine and_3 (Nat.le_of_ble_eq_true rfl) rfl (vin rfl) ?_
                    refine gs rfl ?_
                    refine gs rfl ?_
                    refine gs rfl ?_
                    refine gs rfl ?_
                    refine gs rfl ?_
                    refine gs rfl ?_
                    refine gs rfl ?_
                    refine gs rfl ?_
                    refine gs rfl ?_
                    refine and_3 (Nat.le_of_ble_eq_true rfl) rfl (vin rfl) ?_
                    refine gs rfl ?_
                    refine gs rfl ?_
                    refine gs rfl ?_
                    refine gs rfl ?_
                    refine gs rfl ?_
                    refine gs rfl ?_
                    refine gs rfl ?_
                    refine gs rfl ?_
                    refine gs rfl ?_
                    refine and_3 (Nat.le_of_ble_eq_true rfl) rfl (vin rfl) ?_
                    refine gs rfl ?_
                    refine gs rfl ?_
                    refine gs rfl ?_
                    refine gs rfl ?_
                    refine gs rfl ?_
                    refine gs rfl ?_
                    refine gs rfl ?_
                    refine gs rfl ?_
                    refine gs rfl ?_
                    refine and_3 (Nat.le_of_ble_eq_true rfl) rfl (vin rfl) ?_
                    refine gs rfl ?_
                    refine gs rfl ?_
                    refine gs rfl ?_
                    refine gs rfl ?_
                    refine gs rfl ?_
                    refine gs rfl ?_
                    refine gs rfl ?_
                    refine gs rfl ?_
                    refine gs rfl ?_
                    refine and_3 (Nat.le_of_ble_eq_true rfl) rfl (vin rfl) ?_
                    refine gs rfl ?_
                    refine gs rfl ?_
                    refine gs rfl ?_
                    refine gs rfl ?_
                    refine gs rfl ?_
                    refine gs rfl ?_
                    refine gs rfl ?_
                    refine gs rfl ?_
                    refine gs rfl ?_
                    refine and_3 (Nat.le_of_ble_eq_true rfl) rfl (vin rfl) ?_
                    refine gs rfl ?_
                    refine gs rfl ?_
                    refine gs rfl ?_
                    refine gs rfl ?_
                    refine gs rfl ?_
                    refine gs rfl ?_
                    refine gs rfl ?_
                    refine gs rfl ?_
                    refine gs rfl ?_
                    refine and_3 (Nat.le_of_ble_eq_true rfl) rfl (vin rfl) ?_
                    refine gs rfl ?_
                    refine gs rfl ?_
                    refine gs rfl ?_
                    refine gs rfl ?_
                    refine gs rfl ?_
                    refine gs rfl ?_
                    refine gs rfl ?_
                    refine gs rfl ?_
                    refine gs rfl ?_
                    refine and_3 (Nat.le_of_ble_eq_true rfl) rfl (vin rfl) ?_
                    refine gs rfl ?_
                    refine gs rfl ?_
                    refine gs rfl ?_
                    refine gs rfl ?_
                    refine gs rfl ?_
                    refine gs rfl ?_
                    refine gs rfl ?_
                    refine gs rfl ?_
                    refine gs rfl ?_
                    refine and_3 (Nat.le_of_ble_eq_true rfl) rfl (vin rfl) ?_
                    refine gs rfl ?_
                    refine gs rfl ?_
                    refine gs rfl ?_
                    refine gs rfl ?_
                    refine gs rfl ?_
                    refine gs rfl ?_
                    refine and_i rfl ?_
                    refine gs rfl ?_
                    refine and_i rfl ?_
                    refine gs rfl ?_
                    refine gs rfl ?_
                    refine and_i rfl ?_
                    refine FRg rfl (fun f => ?_)
                    refine gs rfl ?_
                    refine gs rfl ?_
                    refine gs rfl ?_
                    refine gs rfl ?_
                    refine gs rfl ?_
                    refine gs rfl ?_
                    refine and_2 rfl (vin rfl) ?_
                    refine gs rfl ?_
                    refine gs rfl ?_
                    refine gs rfl ?_
                    refine gs rfl ?_
                    refine gs rfl ?_
                    refine and_2 rfl (vin rfl) ?_
                    refine gs rfl ?_
                    refine gs rfl ?_
                    refine gs rfl ?_
                    refine gs rfl ?_
                    refine gs rfl ?_
                    refine and_2 rfl (vin rfl) ?_
                    refine gs rfl ?_
                    refine and_i (Nat.le_of_ble_eq_true rfl) (cl0 (Nat.le_of_ble_eq_true rfl) (and_i (Nat.le_of_ble_eq_true rfl) ?_))
                    refine gs rfl ?_
                    refine gs rfl ?_
                    refine and_i (Nat.le_of_ble_eq_true rfl) (cl0 (Nat.le_of_ble_eq_true rfl) (and_i (Nat.le_of_ble_eq_true rfl) ?_))
                    refine gs rfl ?_
                    refine gs rfl ?_
                    refine gs rfl ?_
                    refine gs rfl ?_
                    refine and_i (Nat.le_of_ble_eq_true rfl) (cl0 (Nat.le_of_ble_eq_true rfl) (and_i (Nat.le_of_ble_eq_true rfl) ?_))
                    refine gs rfl ?_
                    refine gs rfl ?_
                    refine gs rfl ?_
                    refine gs rfl ?_
                    refine gs rfl ?_
                    refine gs rfl ?_
                    refine gs rfl ?_
                    refine gs rfl ?_
                    refine gs rfl ?_
                    refine and_2 rfl (Or.inr rfl) ?_
                    refine gs rfl ?_
                    refine and_2 rfl (Or.inr rfl) ?_
                    refine gs rfl ?_
                    refine gs rfl ?_
                    refine gs rfl ?_
                    refine ifF ((fun q => absurd ((eq_k (a := (s2).toInt) (b := 0) (by rfl) (by rfl)).mp q) (by omega))) ?_
                    refine gs rfl ?_
                    refine gs rfl ?_
                    refine gs rfl ?_
                    refine ifF ((fun q => absurd ((eq_k (a := (s2).toInt) (b := 8) (by rfl) (by rfl)).mp q) (by omega))) ?_
                    refine gs rfl ?_
                    refine gs rfl ?_
                    refine gs rfl ?_
                    refine ifF ((fun q => absurd ((eq_k (a := (s2).toInt) (b := 16) (by rfl) (by rfl)).mp q) (by omega))) ?_
                    refine gs rfl ?_
                    refine gs rfl ?_
                    refine gs rfl ?_
                    refine ifT ((eq_k (a := (s2).toInt) (b := 32) (by rfl) (by rfl)).mpr (by omega)) ?_
                    refine gs rfl ?_
                    refine gs rfl ?_
                    refine ifF ((fun q => absurd ((eq_k (a := (s2).toInt) (b := 0) (by rfl) (by rfl)).mp q) (by omega))) ?_
                    refine gs rfl ?_
                    refine gs rfl ?_
                    refine ifT ((le_k (a := 0) (b := (s3).toInt) (by rfl) (by rfl)).mpr (by omega)) ?_
                    refine gs rfl ?_
                    refine gs rfl ?_
                    refine ifF ((fun q => absurd ((eq_k (a := (s2).toInt) (b := 0) (by rfl) (by rfl)).mp q) (by omega))) ?_
                    refine gs rfl ?_
                    refine gs rfl ?_
                    refine gs rfl ?_
                    refine ifT ((le_k (a := (s3).toInt) (b := 40) (by rfl) (by rfl)).mpr (by omega)) ?_
                    refine gs rfl ?_
                    refine gs rfl ?_
                    refine gs rfl ?_
                    refine gs rfl ?_
                    refine gs rfl ?_
                    refine and_3 (Nat.le_of_ble_eq_true rfl) rfl (vin rfl) ?_
                    refine gs rfl ?_
                    refine gs rfl ?_
                    refine gs rfl ?_
                    refine gs rfl ?_
                    refine gs rfl ?_
                    refine ifF ((fun q => absurd ((eq_k (a := (s2).toInt) (b := 0) (by rfl) (by rfl)).mp q) (by omega))) ?_
                    refine gs rfl ?_
                    refine gs rfl ?_
                    refine and_3 (Nat.le_of_ble_eq_true rfl) rfl (vin rfl) ?_
                    refine gs rfl ?_
                    refine gs rfl ?_
                    refine gs rfl ?_
                    refine gs rfl ?_
                    refine gs rfl ?_
                    refine gs rfl ?_
                    refine gs rfl ?_
                    refine gs rfl ?_
                    refine gs rfl ?_
                    refine gs rfl ?_
                    refine gs rfl ?_
                    refine gs rfl ?_
                    refine gs rfl ?_
                    refine gs rfl ?_
                    refine and_3 (Nat.le_of_ble_eq_true rfl) rfl (vin rfl) ?_
                    refine gs rfl ?_
                    refine gs rfl ?_
                    refine gs rfl ?_
                    refine gs rfl ?_
                    refine gs rfl ?_
                    refine gs rfl ?_
                    refine gs rfl ?_
                    refine gs rfl ?_
                    refine gs rfl ?_
                    refine gs rfl ?_
                    refine gs rfl ?_
                    refine gs rfl ?_
                    refine gs rfl ?_
                    refine gs rfl ?_
                    refine and_3 (Nat.le_of_ble_eq_true rfl) rfl (vin rfl) ?_
                    refine gs rfl ?_
                    refine gs rfl ?_
                    refine gs rfl ?_
                    refine gs rfl ?_
                    refine gs rfl ?_
                    refine gs rfl ?_
                    refine gs rfl ?_
                    refine gs rfl ?_
                    refine gs rfl ?_
                    refine gs rfl ?_
                    refine gs rfl ?_
                    refine gs rfl ?_
                    refine gs rfl ?_
                    refine gs rfl ?_
                    refine and_3 (Nat.le_of_ble_eq_true rfl) rfl (vin rfl) ?_
                    refine gs rfl ?_
                    refine gs rfl ?_
                    refine gs rfl ?_
                    refine gs rfl ?_
                    refine gs rfl ?_
                    refine gs rfl ?_
                    refine gs rfl ?_
                    refine gs rfl ?_
                    refine gs rfl ?_
                    refine gs rfl ?_
                    refine gs rfl ?_
                    refine gs rfl ?_
                    refine gs rfl ?_
                    refine gs rfl ?_
                    refine and_3 (Nat.le_of_ble_eq_true rfl) rfl (vin rfl) ?_
                    refine gs rfl ?_
                    refine gs rfl ?_
                    refine gs rfl ?_
                    refine gs rfl ?_
                    refine gs rfl ?_
                    refine gs rfl ?_
                    refine gs rfl ?_
                    refine gs rfl ?_
                    refine gs rfl ?_
                    refine gs rfl ?_
                    refine gs rfl ?_
                    refine gs rfl ?_
                    refine gs rfl ?_
                    refine gs rfl ?_
                    refine and_3 (Nat.le_of_ble_eq_true rfl) rfl (vin rfl) ?_
                    refine gs rfl ?_
                    refine gs rfl ?_
                    refine gs rfl ?_
                    refine gs rfl ?_
                    refine gs rfl ?_
                    refine gs rfl ?_
                    refine gs rfl ?_
                    refine gs rfl ?_
                    refine gs rfl ?_
                    refine gs rfl ?_
                    refine gs rfl ?_
                    refine gs rfl ?_
                    refine gs rfl ?_
                    refine gs rfl ?_
                    refine and_3 (Nat.le_of_ble_eq_true rfl) rfl (vin rfl) ?_
                    refine gs rfl ?_
                    refine gs rfl ?_
                    refine gs rfl ?_
                    refine gs rfl ?_
                    refine gs rfl ?_
                    refine gs rfl ?_
                    refine gs rfl ?_
                    refine gs rfl ?_
                    refine gs rfl ?_
                    refine gs rfl ?_
                    refine gs rfl ?_
                    refine gs rfl ?_
                    refine gs rfl ?_
                    refine gs rfl ?_
                    refine and_3 (Nat.le_of_ble_eq_true rfl) rfl (vin rfl) ?_
                    refine gs rfl ?_
                    refine gs rfl ?_
                    refine gs rfl ?_
                    refine gs rfl ?_
                    refine gs rfl ?_
                    refine gs rfl ?_
                    refine gs rfl ?_
                    refine gs rfl ?_
                    refine gs rfl ?_
                    refine gs rfl ?_
                    refine gs rfl ?_
                    refine gs rfl ?_
                    refine gs rfl ?_
                    refine gs rfl ?_
                    refine and_3 (Nat.le_of_ble_eq_true rfl) rfl (vin rfl) ?_
                    refine gs rfl ?_
                    refine gs rfl ?_
                    refine gs rfl ?_
                    refine gs rfl ?_
                    refine gs rfl ?_
                    refine gs rfl ?_
                    refine gs rfl ?_
                    refine gs rfl ?_
                    refine gs rfl ?_
                    refine gs rfl ?_
                    refine gs rfl ?_
                    refine gs rfl ?_
                    refine gs rfl ?_
                    refine gs rfl ?_
                    refine and_3 (Nat.le_of_ble_eq_true rfl) rfl (vin rfl) ?_
                    refine gs rfl ?_
                    refine gs rfl ?_
                    refine gs rfl ?_
                    refine gs rfl ?_
                    refine gs rfl ?_
                    refine gs rfl ?_
                    refine gs rfl ?_
                    refine gs rfl ?_
                    refine gs rfl ?_
                    refine gs rfl ?_
                    refine gs rfl ?_
                    refine gs rfl ?_
                    refine gs rfl ?_
                    refine gs rfl ?_
                    refine and_3 (Nat.le_of_ble_eq_true rfl) rfl (vin rfl) ?_
                    refine gs rfl ?_
                    refine gs rfl ?_
                    refine gs rfl ?_
                    refine gs rfl ?_
                    refine gs rfl ?_
                    refine gs rfl ?_
                    refine gs rfl ?_
                    refine gs rfl ?_
                    refine gs rfl ?_
                    refine gs rfl ?_
                    refine gs rfl ?_
                    refine gs rfl ?_
                    refine gs rfl ?_
                    refine gs rfl ?_
                    refine and_3 (Nat.le_of_ble_eq_true rfl) rfl (vin rfl) ?_
                    refine gs rfl ?_
                    refine gs rfl ?_
                    refine gs rfl ?_
                    refine gs rfl ?_
                    refine gs rfl ?_
                    refine gs rfl ?_
                    refine gs rfl ?_
                    refine gs rfl ?_
                    refine gs rfl ?_
                    refine gs rfl ?_
                    refine gs rfl ?_
                    refine gs rfl ?_
                    refine gs rfl ?_
                    refine gs rfl ?_
                    refine and_3 (Nat.le_of_ble_eq_true rfl) rfl (vin rfl) ?_
                    refine gs rfl ?_
                    refine gs rfl ?_
                    refine gs rfl ?_
                    refine gs rfl ?_
                    refine gs rfl ?_
                    refine gs rfl ?_
                    refine gs rfl ?_
                    refine gs rfl ?_
                    refine gs rfl ?_
                    refine gs rfl ?_
                    refine gs rfl ?_
                    refine gs rfl ?_
                    refine gs rfl ?_
                    refine gs rfl ?_
                    refine and_3 (Nat.le_of_ble_eq_true rfl) rfl (vin rfl) ?_
                    refine gs rfl ?_
                    refine gs rfl ?_
                    refine gs rfl ?_
                    refine gs rfl ?_
                    refine gs rfl ?_
                    refine gs rfl ?_
                    refine gs rfl ?_
                    refine gs rfl ?_
                    refine gs rfl ?_
                    refine gs rfl ?_
                    refine gs rfl ?_
                    refine gs rfl ?_
                    refine gs rfl ?_
                    refine gs rfl ?_
                    refine and_3 (Nat.le_of_ble_eq_true rfl) rfl (vin rfl) ?_
                    refine gs rfl ?_
                    refine gs rfl ?_
                    refine gs rfl ?_
                    refine gs rfl ?_
                    refine gs rfl ?_
                    refine gs rfl ?_
                    refine gs rfl ?_
                    refine gs rfl ?_
                    refine gs rfl ?_
                    refine gs rfl ?_
                    refine gs rfl ?_
                    refine gs rfl ?_
                    refine gs rfl ?_
                    refine gs rfl ?_
                    refine and_3 (Nat.le_of_ble_eq_true rfl) rfl (vin rfl) ?_
                    refine gs rfl ?_
                    refine gs rfl ?_
                    refine gs rfl ?_
                    refine gs rfl ?_
                    refine gs rfl ?_
                    refine gs rfl ?_
                    refine gs rfl ?_
                    refine gs rfl ?_
                    refine gs rfl ?_
                    refine gs rfl ?_
                    refine gs rfl ?_
                    refine gs rfl ?_
                    refine gs rfl ?_
                    refine gs rfl ?_
                    refine and_3 (Nat.le_of_ble_eq_true rfl) rfl (vin rfl) ?_
                    refine gs rfl ?_
                    refine gs rfl ?_
                    refine gs rfl ?_
                    refine gs rfl ?_
                    refine gs rfl ?_
                    refine gs rfl ?_
                    refine gs rfl ?_
                    refine gs rfl ?_
                    refine gs rfl ?_
                    refine gs rfl ?_
                    refine gs rfl ?_
                    refine gs rfl ?_
                    refine gs rfl ?_
                    refine gs rfl ?_
                    refine and_3 (Nat.le_of_ble_eq_true rfl) rfl (vin rfl) ?_
                    refine gs rfl ?_
                    refine gs rfl ?_
                    refine gs rfl ?_
                    refine gs rfl ?_
                    refine gs rfl ?_
                    refine gs rfl ?_
                    refine gs rfl ?_
                    refine gs rfl ?_
                    refine gs rfl ?_
                    refine gs rfl ?_
                    refine gs rfl ?_
                    refine gs rfl ?_
                    refine gs rfl ?_
                    refine gs rfl ?_
                    refine and_3 (Nat.le_of_ble_eq_true rfl) rfl (vin rfl) ?_
                    refine gs rfl ?_
                    refine gs rfl ?_
                    refine gs rfl ?_
                    refine gs rfl ?_
                    refine gs rfl ?_
                    refine gs rfl ?_
                    refine gs rfl ?_
                    refine gs rfl ?_
                    refine gs rfl ?_
                    refine gs rfl ?_
                    refine gs rfl ?_
                    refine gs rfl ?_
                    refine gs rfl ?_
                    refine gs rfl ?_
                    refine and_3 (Nat.le_of_ble_eq_true rfl) rfl (vin rfl) ?_
                    refine gs rfl ?_
                    refine gs rfl ?_
                    refine gs rfl ?_
                    refine gs rfl ?_
                    refine gs rfl ?_
                    refine gs rfl ?_
                    refine gs rfl ?_
                    refine gs rfl ?_
                    refine gs rfl ?_
                    refine gs rfl ?_
                    refine gs rfl ?_
                    refine gs rfl ?_
                    refine gs rfl ?_
                    refine gs rfl ?_
                    refine and_3 (Nat.le_of_ble_eq_true rfl) rfl (vin rfl) ?_
                    refine gs rfl ?_
                    refine gs rfl ?_
                    refine gs rfl ?_
                    refine gs rfl ?_
                    refine gs rfl ?_
                    refine gs rfl ?_
                    refine gs rfl ?_
                    refine gs rfl ?_
                    refine gs rfl ?_
                    refine gs rfl ?_
                    refine gs rfl ?_
                    refine gs rfl ?_
                    refine gs rfl ?_
                    refine gs rfl ?_
                    refine and_3 (Nat.le_of_ble_eq_true rfl) rfl (vin rfl) ?_
                    refine gs rfl ?_
                    refine gs rfl ?_
                    refine gs rfl ?_
                    refine gs rfl ?_
                    refine gs rfl ?_
                    refine gs rfl ?_
                    refine gs rfl ?_
                    refine gs rfl ?_
                    refine gs rfl ?_
                    refine gs rfl ?_
                    refine gs rfl ?_
                    refine gs rfl ?_
                    refine gs rfl ?_
                    refine gs rfl ?_
                    refine and_3 (Nat.le_of_ble_eq_true rfl) rfl (vin rfl) ?_
                    refine gs rfl ?_
                    refine gs rfl ?_
                    refine gs rfl ?_
                    refine gs rfl ?_
                    refine gs rfl ?_
                    refine gs rfl ?_
                    refine gs rfl ?_
                    refine gs rfl ?_
                    refine gs rfl ?_
                    refine gs rfl ?_
                    refine gs rfl ?_
                    refine gs rfl ?_
                    refine gs rfl ?_
                    refine gs rfl ?_
                    refine and_3 (Nat.le_of_ble_eq_true rfl) rfl (vin rfl) ?_
                    refine gs rfl ?_
                    refine gs rfl ?_
                    refine gs rfl ?_
                    refine gs rfl ?_
                    refine gs rfl ?_
                    refine gs rfl ?_
                    refine gs rfl ?_
                    refine gs rfl ?_
                    refine gs rfl ?_
                    refine gs rfl ?_
                    refine gs rfl ?_
                    refine gs rfl ?_
                    refine gs rfl ?_
                    refine gs rfl ?_
                    refine and_3 (Nat.le_of_ble_eq_true rfl) rfl (vin rfl) ?_
                    refine gs rfl ?_
                    refine gs rfl ?_
                    refine gs rfl ?_
                    refine gs rfl ?_
                    refine gs rfl ?_
                    refine gs rfl ?_
                    refine gs rfl ?_
                    refine gs rfl ?_
                    refine gs rfl ?_
                    refine gs rfl ?_
                    refine gs rfl ?_
                    refine gs rfl ?_
                    refine gs rfl ?_
                    refine gs rfl ?_
                    refine and_3 (Nat.le_of_ble_eq_true rfl) rfl (vin rfl) ?_
                    refine gs rfl ?_
                    refine gs rfl ?_
                    refine gs rfl ?_
                    refine gs rfl ?_
                    refine gs rfl ?_
                    refine gs rfl ?_
                    refine gs rfl ?_
                    refine gs rfl ?_
                    refine gs rfl ?_
                    refine gs rfl ?_
                    refine gs rfl ?_
                    refine gs rfl ?_
                    refine gs rfl ?_
                    refine gs rfl ?_
                    refine and_3 (Nat.le_of_ble_eq_true rfl) rfl (vin rfl) ?_
                    refine gs rfl ?_
                    refine gs rfl ?_
                    refine gs rfl ?_
                    refine gs rfl ?_
                    refine gs rfl ?_
                    refine gs rfl ?_
                    refine gs rfl ?_
                    refine gs rfl ?_
                    refine gs rfl ?_
                    refine gs rfl ?_
                    refine gs rfl ?_
                    refine gs rfl ?_
                    refine gs rfl ?_
                    refine gs rfl ?_
                    refine and_3 (Nat.le_of_ble_eq_true rfl) rfl (vin rfl) ?_
                    refine gs rfl ?_
                    refine gs rfl ?_
                    refine gs rfl ?_
                    refine gs rfl ?_
                    refine gs rfl ?_
                    refine gs rfl ?_
                    refine gs rfl ?_
                    refine gs rfl ?_
                    refine gs rfl ?_
                    refine gs rfl ?_
                    refine gs rfl ?_
                    refine gs rfl ?_
                    refine gs rfl ?_
                    refine gs rfl ?_
                    refine and_3 (Nat.le_of_ble_eq_true rfl) rfl (vin rfl) ?_
                    refine gs rfl ?_
                    refine gs rfl ?_
                    refine gs rfl ?_
                    refine gs rfl ?_
                    refine gs rfl ?_
                    refine gs rfl ?_
                    refine gs rfl ?_
                    refine gs rfl ?_
                    refine gs rfl ?_
                    refine gs rfl ?_
                    refine gs rfl ?_
                    refine gs rfl ?_
                    refine gs rfl ?_
                    refine gs rfl ?_
                    refine and_3 (Nat.le_of_ble_eq_true rfl) rfl (vin rfl) ?_
                    refine gs rfl ?_
                    refine gs rfl ?_
                    refine gs rfl ?_
                    refine gs rfl ?_
                    refine gs rfl ?_
                    refine gs rfl ?_
                    refine gs rfl ?_
                    refine gs rfl ?_
                    refine gs rfl ?_
                    refine gs rfl ?_
                    refine gs rfl ?_
                    refine gs rfl ?_
                    refine gs rfl ?_
                    refine gs rfl ?_
                    refine and_3 (Nat.le_of_ble_eq_true rfl) rfl (vin rfl) ?_
                    refine gs rfl ?_
                    refine gs rfl ?_
                    refine gs rfl ?_
                    refine gs rfl ?_
                    refine gs rfl ?_
                    refine gs rfl ?_
                    refine gs rfl ?_
                    refine gs rfl ?_
                    refine gs rfl ?_
                    refine gs rfl ?_
                    refine gs rfl ?_
                    refine gs rfl ?_
                    refine gs rfl ?_
                    refine gs rfl ?_
                    refine and_3 (Nat.le_of_ble_eq_true rfl) rfl (vin rfl) ?_
                    refine gs rfl ?_
                    refine gs rfl ?_
                    refine gs rfl ?_
                    refine gs rfl ?_
                    refine gs rfl ?_
                    refine gs rfl ?_
                    refine gs rfl ?_
                    refine gs rfl ?_
                    refine gs rfl ?_
                    refine gs rfl ?_
                    refine gs rfl ?_
                    refine gs rfl ?_
                    refine gs rfl ?_
                    refine gs rfl ?_
                    refine and_3 (Nat.le_of_ble_eq_true rfl) rfl (vin rfl) ?_
                    refine gs rfl ?_
                    refine gs rfl ?_
                    refine gs rfl ?_
                    refine gs rfl ?_
                    refine gs rfl ?_
                    refine gs rfl ?_
                    refine gs rfl ?_
                    refine gs rfl ?_
                    refine gs rfl ?_
                    refine gs rfl ?_
                    refine gs rfl ?_
                    refine gs rfl ?_
                    refine gs rfl ?_
                    refine gs rfl ?_
                    refine and_3 (Nat.le_of_ble_eq_true rfl) rfl (vin rfl) ?_
                    refine gs rfl ?_
                    refine gs rfl ?_
                    refine gs rfl ?_
                    refine gs rfl ?_
                    refine gs rfl ?_
                    refine gs rfl ?_
                    refine gs rfl ?_
                    refine gs rfl ?_
                    refine gs rfl ?_
                    refine gs rfl ?_
                    refine gs rfl ?_
                    refine gs rfl ?_
                    refine gs rfl ?_
                    refine gs rfl ?_
                    refine and_3 (Nat.le_of_ble_eq_true rfl) rfl (vin rfl) ?_
                    refine gs rfl ?_
                    refine gs rfl ?_
                    refine gs rfl ?_
                    refine gs rfl ?_
                    refine gs rfl ?_
                    refine gs rfl ?_
                    refine gs rfl ?_
                    refine gs rfl ?_
                    refine gs rfl ?_
                    refine gs rfl ?_
                    refine gs rfl ?_
                    refine gs rfl ?_
                    refine gs rfl ?_
                    refine gs rfl ?_
                    refine and_3 (Nat.le_of_ble_eq_true rfl) rfl (vin rfl) ?_
                    refine gs rfl ?_
                    refine gs rfl ?_
                    refine gs rfl ?_
                    refine gs rfl ?_
                    refine gs rfl ?_
                    refine gs rfl ?_
                    refine gs rfl ?_
                    refine gs rfl ?_
                    refine gs rfl ?_
                    refine gs rfl ?_
                    refine gs rfl ?_
                    refine gs rfl ?_
                    refine gs rfl ?_
                    refine gs rfl ?_
                    refine and_3 (Nat.le_of_ble_eq_true rfl) rfl (vin rfl) ?_
                    refine gs rfl ?_
                    refine gs rfl ?_
                    refine gs rfl ?_
                    refine gs rfl ?_
                    refine gs rfl ?_
                    refine gs rfl ?_
                    refine gs rfl ?_
                    refine gs rfl ?_
                    refine gs rfl ?_
                    refine gs rfl ?_
                    refine gs rfl ?_
                    refine gs rfl ?_
                    refine gs rfl ?_
                    refine gs rfl ?_
                    refine and_3 (Nat.le_of_ble_eq_true rfl) rfl (vin rfl) ?_
                    refine gs rfl ?_
                    refine gs rfl ?_
                    refine gs rfl ?_
                    refine gs rfl ?_
                    refine gs rfl ?_
                    refine gs rfl ?_
                    refine gs rfl ?_
                    refine gs rfl ?_
                    refine gs rfl ?_
                    refine gs rfl ?_
                    refine gs rfl ?_
                    refine gs rfl ?_
                    refine gs rfl ?_
                    refine gs rfl ?_
                    refine and_3 (Nat.le_of_ble_eq_true rfl) rfl (vin rfl) ?_
                    refine gs rfl ?_
                    refine gs rfl ?_
                    refine gs rfl ?_
                    refine gs rfl ?_
                    refine gs rfl ?_
                    refine gs rfl ?_
                    refine gs rfl ?_
                    refine gs rfl ?_
                    refine gs rfl ?_
                    refine gs rfl ?_
                    refine gs rfl ?_
                    refine gs rfl ?_
                    refine gs rfl ?_
                    refine gs rfl ?_
                    refine and_3 (Nat.le_of_ble_eq_true rfl) rfl (vin rfl) ?_
                    refine gs rfl ?_
                    refine gs rfl ?_
                    refine gs rfl ?_
                    refine gs rfl ?_
                    refine gs rfl ?_
                    refine gs rfl ?_
                    refine gs rfl ?_
                    refine gs rfl ?_
                    refine gs rfl ?_
                    refine gs rfl ?_
                    refine gs rfl ?_
                    refine gs rfl ?_
                    refine gs rfl ?_
                    refine gs rfl ?_
                    refine and_3 (Nat.le_of_ble_eq_true rfl) rfl (vin rfl) ?_
                    refine gs rfl ?_
                    refine gs rfl ?_
                    refine gs rfl ?_
                    refine gs rfl ?_
                    refine gs rfl ?_
                    refine gs rfl ?_
                    refine gs rfl ?_
                    refine and_i rfl ?_
                    refine gs rfl ?_
                    refine gs rfl ?_
                    refine gs rfl ?_
                    refine gs rfl ?_
                    refine gs rfl ?_
                    refine gs rfl ?_
                    refine and_i (Or.inl rfl) ?_
                    refine gwst (congrArg (fun z => Value.int z :: _) (alen_k (n := 6) (by rfl))) ?_
                    refine gs rfl ?_
                    refine gs rfl ?_
                    refine gs rfl ?_
                    refine gs rfl ?_
                    refine gs rfl ?_
                    refine and_2 rfl (Or.inr rfl) ?_
                    exact rfl
                  · have x36q : s1 = (1 : Int32) := x36
                    clear x36
                    subst x36q
                    refine gs rfl ?_
                    refine and_2 (Nat.le_of_ble_eq_true rfl) (vin rfl) ?_
                    refine and_2 rfl (fun z q => by cases q) ?_
                    refine gs rfl ?_
                    refine gs rfl ?_
                    refine gs rfl ?_
                    refine and_i (Nat.le_of_ble_eq_true rfl) (cl0 (Nat.le_of_ble_eq_true rfl) (and_i (Nat.le_of_ble_eq_true rfl) ?_))
                    refine gs rfl ?_
                    refine gs rfl ?_
                    refine gs rfl ?_
                    refine and_3 (Nat.le_of_ble_eq_true rfl) (Nat.le_of_ble_eq_true rfl) trivial ?_
                    refine gs rfl ?_
                    refine gs rfl ?_
                    refine gs rfl ?_
                    refine and_3 (Nat.le_of_ble_eq_true rfl) (Nat.le_of_ble_eq_true rfl) trivial ?_
                    refine gs rfl ?_
                    refine gs rfl ?_
                    refine gs rfl ?_
                    refine gs rfl ?_
                    refine and_i (Nat.le_of_ble_eq_true rfl) (cl0 (Nat.le_of_ble_eq_true rfl) (and_i (Nat.le_of_ble_eq_true rfl) ?_))
                    refine gs rfl ?_
                    refine gs rfl ?_
                    refine gs rfl ?_
                    refine gs rfl ?_
                    refine and_i (Or.inl rfl) ?_
                    refine gwst (congrArg (fun z => Value.int z :: _) (alen_k (n := 40) (by rfl))) ?_
                    refine gs rfl ?_
                    refine gs rfl ?_
                    refine gs rfl ?_
                    refine gs rfl ?_
                    refine gs rfl ?_
                    refine gs rfl ?_
                    refine gs rfl ?_
                    refine gs rfl ?_
                    refine and_3 (Nat.le_of_ble_eq_true rfl) rfl (vin rfl) ?_
                    refine gs rfl ?_
                    refine gs rfl ?_
                    refine gs rfl ?_
                    refine gs rfl ?_
                    refine gs rfl ?_
                    refine gs rfl ?_
                    refine gs rfl ?_
                    refine gs rfl ?_
                    refine gs rfl ?_
                    refine and_3 (Nat.le_of_ble_eq_true rfl) rfl (vin rfl) ?_
                    refine gs rfl ?_
                    refine gs rfl ?_
                    refine gs rfl ?_
                    refine gs rfl ?_
                    refine gs rfl ?_
                    refine gs rfl ?_
                    refine gs rfl ?_
                    refine gs rfl ?_
                    refine gs rfl ?_
                    refine and_3 (Nat.le_of_ble_eq_true rfl) rfl (vin rfl) ?_
                    refine gs rfl ?_
                    refine gs rfl ?_
                    refine gs rfl ?_
                    refine gs rfl ?_
                    refine gs rfl ?_
                    refine gs rfl ?_
                    refine gs rfl ?_
                    refine gs rfl ?_
                    refine gs rfl ?_
                    refine and_3 (Nat.le_of_ble_eq_true rfl) rfl (vin rfl) ?_
                    refine gs rfl ?_
                    refine gs rfl ?_
                    refine gs rfl ?_
                    refine gs rfl ?_
                    refine gs rfl ?_
                    refine gs rfl ?_
                    refine gs rfl ?_
                    refine gs rfl ?_
                    refine gs rfl ?_
                    refine and_3 (Nat.le_of_ble_eq_true rfl) rfl (vin rfl) ?_
                    refine gs rfl ?_
                    refine gs rfl ?_
                    refine gs rfl ?_
                    refine gs rfl ?_
                    refine gs rfl ?_
                    refine gs rfl ?_
                    refine gs rfl ?_
                    refine gs rfl ?_
                    refine gs rfl ?_
                    refine and_3 (Nat.le_of_ble_eq_true rfl) rfl (vin rfl) ?_
                    refine gs rfl ?_
                    refine gs rfl ?_
                    refine gs rfl ?_
                    refine gs rfl ?_
                    refine gs rfl ?_
                    refine gs rfl ?_
                    refine gs rfl ?_
                    refine gs rfl ?_
                    refine gs rfl ?_
                    refine and_3 (Nat.le_of_ble_eq_true rfl) rfl (vin rfl) ?_
                    refine gs rfl ?_
                    refine gs rfl ?_
                    refine gs rfl ?_
                    refine gs rfl ?_
                    refine gs rfl ?_
                    refine gs rfl ?_
                    refine gs rfl ?_
                    refine gs rfl ?_
                    refine gs rfl ?_
                    refine and_3 (Nat.le_of_ble_eq_true rfl) rfl (vin rfl) ?_
                    refine gs rfl ?_
                    refine gs rfl ?_
                    refine gs rfl ?_
                    refine gs rfl ?_
                    refine gs rfl ?_
                    refine gs rfl ?_
                    refine gs rfl ?_
                    refine gs rfl ?_
                    refine gs rfl ?_
                    refine and_3 (Nat.le_of_ble_eq_true rfl) rfl (vin rfl) ?_
                    refine gs rfl ?_
                    refine gs rfl ?_
                    refine gs rfl ?_
                    refine gs rfl ?_
                    refine gs rfl ?_
                    refine gs rfl ?_
                    refine gs rfl ?_
                    refine gs rfl ?_
                    refine gs rfl ?_
                    refine and_3 (Nat.le_of_ble_eq_true rfl) rfl (vin rfl) ?_
                    refine gs rfl ?_
                    refine gs rfl ?_
                    refine gs rfl ?_
                    refine gs rfl ?_
                    refine gs rfl ?_
                    refine gs rfl ?_
                    refine gs rfl ?_
                    refine gs rfl ?_
                    refine gs rfl ?_
                    refine and_3 (Nat.le_of_ble_eq_true rfl) rfl (vin rfl) ?_
                    refine gs rfl ?_
                    refine gs rfl ?_
                    refine gs rfl ?_
                    refine gs rfl ?_
                    refine gs rfl ?_
                    refine gs rfl ?_
                    refine gs rfl ?_
                    refine gs rfl ?_
                    refine gs rfl ?_
                    refine and_3 (Nat.le_of_ble_eq_true rfl) rfl (vin rfl) ?_
                    refine gs rfl ?_
                    refine gs rfl ?_
                    refine gs rfl ?_
                    refine gs rfl ?_
                    refine gs rfl ?_
                    refine gs rfl ?_
                    refine gs rfl ?_
                    refine gs rfl ?_
                    refine gs rfl ?_
                    refine and_3 (Nat.le_of_ble_eq_true rfl) rfl (vin rfl) ?_
                    refine gs rfl ?_
                    refine gs rfl ?_
                    refine gs rfl ?_
                    refine gs rfl ?_
                    refine gs rfl ?_
                    refine gs rfl ?_
                    refine gs rfl ?_
                    refine gs rfl ?_
                    refine gs rfl ?_
                    refine and_3 (Nat.le_of_ble_eq_true rfl) rfl (vin rfl) ?_
                    refine gs rfl ?_
                    refine gs rfl ?_
                    refine gs rfl ?_
                    refine gs rfl ?_
                    refine gs rfl ?_
                    refine gs rfl ?_
                    refine gs rfl ?_
                    refine gs rfl ?_
                    refine gs rfl ?_
                    refine and_3 (Nat.le_of_ble_eq_true rfl) rfl (vin rfl) ?_
                    refine gs rfl ?_
                    refine gs rfl ?_
                    refine gs rfl ?_
                    refine gs rfl ?_
                    refine gs rfl ?_
                    refine gs rfl ?_
                    refine gs rfl ?_
                    refine gs rfl ?_
                    refine gs rfl ?_
                    refine and_3 (Nat.le_of_ble_eq_true rfl) rfl (vin rfl) ?_
                    refine gs rfl ?_
                    refine gs rfl ?_
                    refine gs rfl ?_
                    refine gs rfl ?_
                    refine gs rfl ?_
                    refine gs rfl ?_
                    refine gs rfl ?_
                    refine gs rfl ?_
                    refine gs rfl ?_
                    refine and_3 (Nat.le_of_ble_eq_true rfl) rfl (vin rfl) ?_
                    refine gs rfl ?_
                    refine gs rfl ?_
                    refine gs rfl ?_
                    refine gs rfl ?_
                    refine gs rfl ?_
                    refine gs rfl ?_
                    refine gs rfl ?_
                    refine gs rfl ?_
                    refine gs rfl ?_
                    refine and_3 (Nat.le_of_ble_eq_true rfl) rfl (vin rfl) ?_
                    refine gs rfl ?_
                    refine gs rfl ?_
                    refine gs rfl ?_
                    refine gs rfl ?_
                    refine gs rfl ?_
                    refine gs rfl ?_
                    refine gs rfl ?_
                    refine gs rfl ?_
                    refine gs rfl ?_
                    refine and_3 (Nat.le_of_ble_eq_true rfl) rfl (vin rfl) ?_
                    refine gs rfl ?_
                    refine gs rfl ?_
                    refine gs rfl ?_
                    refine gs rfl ?_
                    refine gs rfl ?_
                    refine gs rfl ?_
                    refine gs rfl ?_
                    refine gs rfl ?_
                    refine gs rfl ?_
                    refine and_3 (Nat.le_of_ble_eq_true rfl) rfl (vin rfl) ?_
                    refine gs rfl ?_
                    refine gs rfl ?_
                    refine gs rfl ?_
                    refine gs rfl ?_
                    refine gs rfl ?_
                    refine gs rfl ?_
                    refine gs rfl ?_
                    refine gs rfl ?_
                    refine gs rfl ?_
                    refine and_3 (Nat.le_of_ble_eq_true rfl) rfl (vin rfl) ?_
                    refine gs rfl ?_
                    refine gs rfl ?_
                    refine gs rfl ?_
                    refine gs rfl ?_
                    refine gs rfl ?_
                    refine gs rfl ?_
                    refine gs rfl ?_
                    refine gs rfl ?_
                    refine gs rfl ?_
                    refine and_3 (Nat.le_of_ble_eq_true rfl) rfl (vin rfl) ?_
                    refine gs rfl ?_
                    refine gs rfl ?_
                    refine gs rfl ?_
                    refine gs rfl ?_
                    refine gs rfl ?_
                    refine gs rfl ?_
                    refine gs rfl ?_
                    refine gs rfl ?_
                    refine gs rfl ?_
                    refine and_3 (Nat.le_of_ble_eq_true rfl) rfl (vin rfl) ?_
                    refine gs rfl ?_
                    refine gs rfl ?_
                    refine gs rfl ?_
                    refine gs rfl ?_
                    refine gs rfl ?_
                    refine gs rfl ?_
                    refine gs rfl ?_
                    refine gs rfl ?_
                    refine gs rfl ?_
                    refine and_3 (Nat.le_of_ble_eq_true rfl) rfl (vin rfl) ?_
                    refine gs rfl ?_
                    refine gs rfl ?_
                    refine gs rfl ?_
                    refine gs rfl ?_
                    refine gs rfl ?_
                    refine gs rfl ?_
                    refine gs rfl ?_
                    refine gs rfl ?_
                    refine gs rfl ?_
                    refine and_3 (Nat.le_of_ble_eq_true rfl) rfl (vin rfl) ?_
                    refine gs rfl ?_
                    refine gs rfl ?_
                    refine gs rfl ?_
                    refine gs rfl ?_
                    refine gs rfl ?_
                    refine gs rfl ?_
                    refine gs rfl ?_
                    refine gs rfl ?_
                    refine gs rfl ?_
                    refine and_3 (Nat.le_of_ble_eq_true rfl) rfl (vin rfl) ?_
                    refine gs rfl ?_
                    refine gs rfl ?_
                    refine gs rfl ?_
                    refine gs rfl ?_
                    refine gs rfl ?_
                    refine gs rfl ?_
                    refine gs rfl ?_
                    refine gs rfl ?_
                    refine gs rfl ?_
                    refine and_3 (Nat.le_of_ble_eq_true rfl) rfl (vin rfl) ?_
                    refine gs rfl ?_
                    refine gs rfl ?_
                    refine gs rfl ?_
                    refine gs rfl ?_
                    refine gs rfl ?_
                    refine gs rfl ?_
                    refine gs rfl ?_
                    refine gs rfl ?_
                    refine gs rfl ?_
                    refine and_3 (Nat.le_of_ble_eq_true rfl) rfl (vin rfl) ?_
                    refine gs rfl ?_
                    refine gs rfl ?_
                    refine gs rfl ?_
                    refine gs rfl ?_
                    refine gs rfl ?_
                    refine gs rfl ?_
                    refine gs rfl ?_
                    refine gs rfl ?_
                    refine gs rfl ?_
                    refine and_3 (Nat.le_of_ble_eq_true rfl) rfl (vin rfl) ?_
                    refine gs rfl ?_
                    refine gs rfl ?_
                    refine gs rfl ?_
                    refine gs rfl ?_
                    refine gs rfl ?_
                    refine gs rfl ?_
                    refine gs rfl ?_
                    refine gs rfl ?_
                    refine gs rfl ?_
                    refine and_3 (Nat.le_of_ble_eq_true rfl) rfl (vin rfl) ?_
                    refine gs rfl ?_
                    refine gs rfl ?_
                    refine gs rfl ?_
                    refine gs rfl ?_
                    refine gs rfl ?_
                    refine gs rfl ?_
                    refine gs rfl ?_
                    refine gs rfl ?_
                    refine gs rfl ?_
                    refine and_3 (Nat.le_of_ble_eq_true rfl) rfl (vin rfl) ?_
                    refine gs rfl ?_
                    refine gs rfl ?_
                    refine gs rfl ?_
                    refine gs rfl ?_
                    refine gs rfl ?_
                    refine gs rfl ?_
                    refine gs rfl ?_
                    refine gs rfl ?_
                    refine gs rfl ?_
                    refine and_3 (Nat.le_of_ble_eq_true rfl) rfl (vin rfl) ?_
                    refine gs rfl ?_
                    refine gs rfl ?_
                    refine gs rfl ?_
                    refine gs rfl ?_
                    refine gs rfl ?_
                    refine gs rfl ?_
                    refine gs rfl ?_
                    refine gs rfl ?_
                    refine gs rfl ?_
                    refine and_3 (Nat.le_of_ble_eq_true rfl) rfl (vin rfl) ?_
                    refine gs rfl ?_
                    refine gs rfl ?_
                    refine gs rfl ?_
                    refine gs rfl ?_
                    refine gs rfl ?_
                    refine gs rfl ?_
                    refine gs rfl ?_
                    refine gs rfl ?_
                    refine gs rfl ?_
                    refine and_3 (Nat.le_of_ble_eq_true rfl) rfl (vin rfl) ?_
                    refine gs rfl ?_
                    refine gs rfl ?_
                    refine gs rfl ?_
                    refine gs rfl ?_
                    refine gs rfl ?_
                    refine gs rfl ?_
                    refine gs rfl ?_
                    refine gs rfl ?_
                    refine gs rfl ?_
                    refine and_3 (Nat.le_of_ble_eq_true rfl) rfl (vin rfl) ?_
                    refine gs rfl ?_
                    refine gs rfl ?_
                    refine gs rfl ?_
                    refine gs rfl ?_
                    refine gs rfl ?_
                    refine gs rfl ?_
                    refine gs rfl ?_
                    refine gs rfl ?_
                    refine gs rfl ?_
                    refine and_3 (Nat.le_of_ble_eq_true rfl) rfl (vin rfl) ?_
                    refine gs rfl ?_
                    refine gs rfl ?_
                    refine gs rfl ?_
                    refine gs rfl ?_
                    refine gs rfl ?_
                    refine gs rfl ?_
                    refine gs rfl ?_
                    refine gs rfl ?_
                    refine gs rfl ?_
                    refine and_3 (Nat.le_of_ble_eq_true rfl) rfl (vin rfl) ?_
                    refine gs rfl ?_
                    refine gs rfl ?_
                    refine gs rfl ?_
                    refine gs rfl ?_
                    refine gs rfl ?_
                    refine gs rfl ?_
                    refine gs rfl ?_
                    refine gs rfl ?_
                    refine gs rfl ?_
                    refine and_3 (Nat.le_of_ble_eq_true rfl) rfl (vin rfl) ?_
                    refine gs rfl ?_
                    refine gs rfl ?_
                    refine gs rfl ?_
                    refine gs rfl ?_
                    refine gs rfl ?_
                    refine gs rfl ?_
                    refine gs rfl ?_
                    refine gs rfl ?_
                    refine gs rfl ?_
                    refine and_3 (Nat.le_of_ble_eq_true rfl) rfl (vin rfl) ?_
                    refine gs rfl ?_
                    refine gs rfl ?_
                    refine gs rfl ?_
                    refine gs rfl ?_
                    refine gs rfl ?_
                    refine gs rfl ?_
                    refine gs rfl ?_
                    refine gs rfl ?_
                    refine gs rfl ?_
                    refine and_3 (Nat.le_of_ble_eq_true rfl) rfl (vin rfl) ?_
                    refine gs rfl ?_
                    refine gs rfl ?_
                    refine gs rfl ?_
                    refine gs rfl ?_
                    refine gs rfl ?_
                    refine gs rfl ?_
                    refine and_i rfl ?_
                    refine gs rfl ?_
                    refine and_i rfl ?_
                    refine gs rfl ?_
                    refine gs rfl ?_
                    refine and_i rfl ?_
                    refine FRg rfl (fun f => ?_)
                    refine gs rfl ?_
                    refine gs rfl ?_
                    refine gs rfl ?_
                    refine gs rfl ?_
                    refine gs rfl ?_
                    refine gs rfl ?_
                    refine and_2 rfl (vin rfl) ?_
                    refine gs rfl ?_
                    refine gs rfl ?_
                    refine gs rfl ?_
                    refine gs rfl ?_
                    refine gs rfl ?_
                    refine and_2 rfl (vin rfl) ?_
                    refine gs rfl ?_
                    refine gs rfl ?_
                    refine gs rfl ?_
                    refine gs rfl ?_
                    refine gs rfl ?_
                    refine and_2 rfl (vin rfl) ?_
                    refine gs rfl ?_
                    refine and_i (Nat.le_of_ble_eq_true rfl) (cl0 (Nat.le_of_ble_eq_true rfl) (and_i (Nat.le_of_ble_eq_true rfl) ?_))
                    refine gs rfl ?_
                    refine gs rfl ?_
                    refine and_i (Nat.le_of_ble_eq_true rfl) (cl0 (Nat.le_of_ble_eq_true rfl) (and_i (Nat.le_of_ble_eq_true rfl) ?_))
                    refine gs rfl ?_
                    refine gs rfl ?_
                    refine gs rfl ?_
                    refine gs rfl ?_
                    refine and_i (Nat.le_of_ble_eq_true rfl) (cl0 (Nat.le_of_ble_eq_true rfl) (and_i (Nat.le_of_ble_eq_true rfl) ?_))
                    refine gs rfl ?_
                    refine gs rfl ?_
                    refine gs rfl ?_
                    refine gs rfl ?_
                    refine gs rfl ?_
                    refine gs rfl ?_
                    refine gs rfl ?_
                    refine gs rfl ?_
                    refine gs rfl ?_
                    refine and_2 rfl (Or.inr rfl) ?_
                    refine gs rfl ?_
                    refine and_2 rfl (Or.inr rfl) ?_
                    refine gs rfl ?_
                    refine gs rfl ?_
                    refine gs rfl ?_
                    refine ifF ((fun q => absurd ((eq_k (a := (s2).toInt) (b := 0) (by rfl) (by rfl)).mp q) (by omega))) ?_
                    refine gs rfl ?_
                    refine gs rfl ?_
                    refine gs rfl ?_
                    refine ifF ((fun q => absurd ((eq_k (a := (s2).toInt) (b := 8) (by rfl) (by rfl)).mp q) (by omega))) ?_
                    refine gs rfl ?_
                    refine gs rfl ?_
                    refine gs rfl ?_
                    refine ifF ((fun q => absurd ((eq_k (a := (s2).toInt) (b := 16) (by rfl) (by rfl)).mp q) (by omega))) ?_
                    refine gs rfl ?_
                    refine gs rfl ?_
                    refine gs rfl ?_
                    refine ifT ((eq_k (a := (s2).toInt) (b := 32) (by rfl) (by rfl)).mpr (by omega)) ?_
                    refine gs rfl ?_
                    refine gs rfl ?_
                    refine ifF ((fun q => absurd ((eq_k (a := (s2).toInt) (b := 0) (by rfl) (by rfl)).mp q) (by omega))) ?_
                    refine gs rfl ?_
                    refine gs rfl ?_
                    refine ifT ((le_k (a := 0) (b := (s3).toInt) (by rfl) (by rfl)).mpr (by omega)) ?_
                    refine gs rfl ?_
                    refine gs rfl ?_
                    refine ifF ((fun q => absurd ((eq_k (a := (s2).toInt) (b := 0) (by rfl) (by rfl)).mp q) (by omega))) ?_
                    refine gs rfl ?_
                    refine gs rfl ?_
                    refine gs rfl ?_
                    refine ifT ((le_k (a := (s3).toInt) (b := 40) (by rfl) (by rfl)).mpr (by omega)) ?_
                    refine gs rfl ?_
                    refine gs rfl ?_
                    refine gs rfl ?_
                    refine gs rfl ?_
                    refine gs rfl ?_
                    refine and_3 (Nat.le_of_ble_eq_true rfl) rfl (vin rfl) ?_
                    refine gs rfl ?_
                    refine gs rfl ?_
                    refine gs rfl ?_
                    refine gs rfl ?_
                    refine gs rfl ?_
                    refine ifF ((fun q => absurd ((eq_k (a := (s2).toInt) (b := 0) (by rfl) (by rfl)).mp q) (by omega))) ?_
                    refine gs rfl ?_
                    refine gs rfl ?_
                    refine and_3 (Nat.le_of_ble_eq_true rfl) rfl (vin rfl) ?_
                    refine gs rfl ?_
                    refine gs rfl ?_
                    refine gs rfl ?_
                    refine gs rfl ?_
                    refine gs rfl ?_
                    refine gs rfl ?_
                    refine gs rfl ?_
                    refine gs rfl ?_
                    refine gs rfl ?_
                    refine gs rfl ?_
                    refine gs rfl ?_
                    refine gs rfl ?_
                    refine gs rfl ?_
                    refine gs rfl ?_
                    refine and_3 (Nat.le_of_ble_eq_true rfl) rfl (vin rfl) ?_
                    refine gs rfl ?_
                    refine gs rfl ?_
                    refine gs rfl ?_
                    refine gs rfl ?_
                    refine gs rfl ?_
                    refine gs rfl ?_
                    refine gs rfl ?_
                    refine gs rfl ?_
                    refine gs rfl ?_
                    refine gs rfl ?_
                    refine gs rfl ?_
                    refine gs rfl ?_
                    refine gs rfl ?_
                    refine gs rfl ?_
                    refine and_3 (Nat.le_of_ble_eq_true rfl) rfl (vin rfl) ?_
                    refine gs rfl ?_
                    refine gs rfl ?_
                    refine gs rfl ?_
                    refine gs rfl ?_
                    refine gs rfl ?_
                    refine gs rfl ?_
                    refine gs rfl ?_
                    refine gs rfl ?_
                    refine gs rfl ?_
                    refine gs rfl ?_
                    refine gs rfl ?_
                    refine gs rfl ?_
                    refine gs rfl ?_
                    refine gs rfl ?_
                    refine and_3 (Nat.le_of_ble_eq_true rfl) rfl (vin rfl) ?_
                    refine gs rfl ?_
                    refine gs rfl ?_
                    refine gs rfl ?_
                    refine gs rfl ?_
                    refine gs rfl ?_
                    refine gs rfl ?_
                    refine gs rfl ?_
                    refine gs rfl ?_
                    refine gs rfl ?_
                    refine gs rfl ?_
                    refine gs rfl ?_
                    refine gs rfl ?_
                    refine gs rfl ?_
                    refine gs rfl ?_
                    refine and_3 (Nat.le_of_ble_eq_true rfl) rfl (vin rfl) ?_
                    refine gs rfl ?_
                    refine gs rfl ?_
                    refine gs rfl ?_
                    refine gs rfl ?_
                    refine gs rfl ?_
                    refine gs rfl ?_
                    refine gs rfl ?_
                    refine gs rfl ?_
                    refine gs rfl ?_
                    refine gs rfl ?_
                    refine gs rfl ?_
                    refine gs rfl ?_
                    refine gs rfl ?_
                    refine gs rfl ?_
                    refine and_3 (Nat.le_of_ble_eq_true rfl) rfl (vin rfl) ?_
                    refine gs rfl ?_
                    refine gs rfl ?_
                    refine gs rfl ?_
                    refine gs rfl ?_
                    refine gs rfl ?_
                    refine gs rfl ?_
                    refine gs rfl ?_
                    refine gs rfl ?_
                    refine gs rfl ?_
                    refine gs rfl ?_
                    refine gs rfl ?_
                    refine gs rfl ?_
                    refine gs rfl ?_
                    refine gs rfl ?_
                    refine and_3 (Nat.le_of_ble_eq_true rfl) rfl (vin rfl) ?_
                    refine gs rfl ?_
                    refine gs rfl ?_
                    refine gs rfl ?_
                    refine gs rfl ?_
                    refine gs rfl ?_
                    refine gs rfl ?_
                    refine gs rfl ?_
                    refine gs rfl ?_
                    refine gs rfl ?_
                    refine gs rfl ?_
                    refine gs rfl ?_
                    refine gs rfl ?_
                    refine gs rfl ?_
                    refine gs rfl ?_
                    refine and_3 (Nat.le_of_ble_eq_true rfl) rfl (vin rfl) ?_
                    refine gs rfl ?_
                    refine gs rfl ?_
                    refine gs rfl ?_
                    refine gs rfl ?_
                    refine gs rfl ?_
                    refine gs rfl ?_
                    refine gs rfl ?_
                    refine gs rfl ?_
                    refine gs rfl ?_
                    refine gs rfl ?_
                    refine gs rfl ?_
                    refine gs rfl ?_
                    refine gs rfl ?_
                    refine gs rfl ?_
                    refine and_3 (Nat.le_of_ble_eq_true rfl) rfl (vin rfl) ?_
                    refine gs rfl ?_
                    refine gs rfl ?_
                    refine gs rfl ?_
                    refine gs rfl ?_
                    refine gs rfl ?_
                    refine gs rfl ?_
                    refine gs rfl ?_
                    refine gs rfl ?_
                    refine gs rfl ?_
                    refine gs rfl ?_
                    refine gs rfl ?_
                    refine gs rfl ?_
                    refine gs rfl ?_
                    refine gs rfl ?_
                    refine and_3 (Nat.le_of_ble_eq_true rfl) rfl (vin rfl) ?_
                    refine gs rfl ?_
                    refine gs rfl ?_
                    refine gs rfl ?_
                    refine gs rfl ?_
                    refine gs rfl ?_
                    refine gs rfl ?_
                    refine gs rfl ?_
                    refine gs rfl ?_
                    refine gs rfl ?_
                    refine gs rfl ?_
                    refine gs rfl ?_
                    refine gs rfl ?_
                    refine gs rfl ?_
                    refine gs rfl ?_
                    refine and_3 (Nat.le_of_ble_eq_true rfl) rfl (vin rfl) ?_
                    refine gs rfl ?_
                    refine gs rfl ?_
                    refine gs rfl ?_
                    refine gs rfl ?_
                    refine gs rfl ?_
                    refine gs rfl ?_
                    refine gs rfl ?_
                    refine gs rfl ?_
                    refine gs rfl ?_
                    refine gs rfl ?_
                    refine gs rfl ?_
                    refine gs rfl ?_
                    refine gs rfl ?_
                    refine gs rfl ?_
                    refine and_3 (Nat.le_of_ble_eq_true rfl) rfl (vin rfl) ?_
                    refine gs rfl ?_
                    refine gs rfl ?_
                    refine gs rfl ?_
                    refine gs rfl ?_
                    refine gs rfl ?_
                    refine gs rfl ?_
                    refine gs rfl ?_
                    refine gs rfl ?_
                    refine gs rfl ?_
                    refine gs rfl ?_
                    refine gs rfl ?_
                    refine gs rfl ?_
                    refine gs rfl ?_
                    refine gs rfl ?_
                    refine and_3 (Nat.le_of_ble_eq_true rfl) rfl (vin rfl) ?_
                    refine gs rfl ?_
                    refine gs rfl ?_
                    refine gs rfl ?_
                    refine gs rfl ?_
                    refine gs rfl ?_
                    refine gs rfl ?_
                    refine gs rfl ?_
                    refine gs rfl ?_
                    refine gs rfl ?_
                    refine gs rfl ?_
                    refine gs rfl ?_
                    refine gs rfl ?_
                    refine gs rfl ?_
                    refine gs rfl ?_
                    refine and_3 (Nat.le_of_ble_eq_true rfl) rfl (vin rfl) ?_
                    refine gs rfl ?_
                    refine gs rfl ?_
                    refine gs rfl ?_
                    refine gs rfl ?_
                    refine gs rfl ?_
                    refine gs rfl ?_
                    refine gs rfl ?_
                    refine gs rfl ?_
                    refine gs rfl ?_
                    refine gs rfl ?_
                    refine gs rfl ?_
                    refine gs rfl ?_
                    refine gs rfl ?_
                    refine gs rfl ?_
                    refine and_3 (Nat.le_of_ble_eq_true rfl) rfl (vin rfl) ?_
                    refine gs rfl ?_
                    refine gs rfl ?_
                    refine gs rfl ?_
                    refine gs rfl ?_
                    refine gs rfl ?_
                    refine gs rfl ?_
                    refine gs rfl ?_
                    refine gs rfl ?_
                    refine gs rfl ?_
                    refine gs rfl ?_
                    refine gs rfl ?_
                    refine gs rfl ?_
                    refine gs rfl ?_
                    refine gs rfl ?_
                    refine and_3 (Nat.le_of_ble_eq_true rfl) rfl (vin rfl) ?_
                    refine gs rfl ?_
                    refine gs rfl ?_
                    refine gs rfl ?_
                    refine gs rfl ?_
                    refine gs rfl ?_
                    refine gs rfl ?_
                    refine gs rfl ?_
                    refine gs rfl ?_
                    refine gs rfl ?_
                    refine gs rfl ?_
                    refine gs rfl ?_
                    refine gs rfl ?_
                    refine gs rfl ?_
                    refine gs rfl ?_
                    refine and_3 (Nat.le_of_ble_eq_true rfl) rfl (vin rfl) ?_
                    refine gs rfl ?_
                    refine gs rfl ?_
                    refine gs rfl ?_
                    refine gs rfl ?_
                    refine gs rfl ?_
                    refine gs rfl ?_
                    refine gs rfl ?_
                    refine gs rfl ?_
                    refine gs rfl ?_
                    refine gs rfl ?_
                    refine gs rfl ?_
                    refine gs rfl ?_
                    refine gs rfl ?_
                    refine gs rfl ?_
                    refine and_3 (Nat.le_of_ble_eq_true rfl) rfl (vin rfl) ?_
                    refine gs rfl ?_
                    refine gs rfl ?_
                    refine gs rfl ?_
                    refine gs rfl ?_
                    refine gs rfl ?_
                    refine gs rfl ?_
                    refine gs rfl ?_
                    refine gs rfl ?_
                    refine gs rfl ?_
                    refine gs rfl ?_
                    refine gs rfl ?_
                    refine gs rfl ?_
                    refine gs rfl ?_
                    refine gs rfl ?_
                    refine and_3 (Nat.le_of_ble_eq_true rfl) rfl (vin rfl) ?_
                    refine gs rfl ?_
                    refine gs rfl ?_
                    refine gs rfl ?_
                    refine gs rfl ?_
                    refine gs rfl ?_
                    refine gs rfl ?_
                    refine gs rfl ?_
                    refine gs rfl ?_
                    refine gs rfl ?_
                    refine gs rfl ?_
                    refine gs rfl ?_
                    refine gs rfl ?_
                    refine gs rfl ?_
                    refine gs rfl ?_
                    refine and_3 (Nat.le_of_ble_eq_true rfl) rfl (vin rfl) ?_
                    refine gs rfl ?_
                    refine gs rfl ?_
                    refine gs rfl ?_
                    refine gs rfl ?_
                    refine gs rfl ?_
                    refine gs rfl ?_
                    refine gs rfl ?_
                    refine gs rfl ?_
                    refine gs rfl ?_
                    refine gs rfl ?_
                    refine gs rfl ?_
                    refine gs rfl ?_
                    refine gs rfl ?_
                    refine gs rfl ?_
                    refine and_3 (Nat.le_of_ble_eq_true rfl) rfl (vin rfl) ?_
                    refine gs rfl ?_
                    refine gs rfl ?_
                    refine gs rfl ?_
                    refine gs rfl ?_
                    refine gs rfl ?_
                    refine gs rfl ?_
                    refine gs rfl ?_
                    refine gs rfl ?_
                    refine gs rfl ?_
                    refine gs rfl ?_
                    refine gs rfl ?_
                    refine gs rfl ?_
                    refine gs rfl ?_
                    refine gs rfl ?_
                    refine and_3 (Nat.le_of_ble_eq_true rfl) rfl (vin rfl) ?_
                    refine gs rfl ?_
                    refine gs rfl ?_
                    refine gs rfl ?_
                    refine gs rfl ?_
                    refine gs rfl ?_
                    refine gs rfl ?_
                    refine gs rfl ?_
                    refine gs rfl ?_
                    refine gs rfl ?_
                    refine gs rfl ?_
                    refine gs rfl ?_
                    refine gs rfl ?_
                    refine gs rfl ?_
                    refine gs rfl ?_
                    refine and_3 (Nat.le_of_ble_eq_true rfl) rfl (vin rfl) ?_
                    refine gs rfl ?_
                    refine gs rfl ?_
                    refine gs rfl ?_
                    refine gs rfl ?_
                    refine gs rfl ?_
                    refine gs rfl ?_
                    refine gs rfl ?_
                    refine gs rfl ?_
                    refine gs rfl ?_
                    refine gs rfl ?_
                    refine gs rfl ?_
                    refine gs rfl ?_
                    refine gs rfl ?_
                    refine gs rfl ?_
                    refine and_3 (Nat.le_of_ble_eq_true rfl) rfl (vin rfl) ?_
                    refine gs rfl ?_
                    refine gs rfl ?_
                    refine gs rfl ?_
                    refine gs rfl ?_
                    refine gs rfl ?_
                    refine gs rfl ?_
                    refine gs rfl ?_
                    refine gs rfl ?_
                    refine gs rfl ?_
                    refine gs rfl ?_
                    refine gs rfl ?_
                    refine gs rfl ?_
                    refine gs rfl ?_
                    refine gs rfl ?_
                    refine and_3 (Nat.le_of_ble_eq_true rfl) rfl (vin rfl) ?_
                    refine gs rfl ?_
                    refine gs rfl ?_
                    refine gs rfl ?_
                    refine gs rfl ?_
                    refine gs rfl ?_
                    refine gs rfl ?_
                    refine gs rfl ?_
                    refine gs rfl ?_
                    refine gs rfl ?_
                    refine gs rfl ?_
                    refine gs rfl ?_
                    refine gs rfl ?_
                    refine gs rfl ?_
                    refine gs rfl ?_
                    refine and_3 (Nat.le_of_ble_eq_true rfl) rfl (vin rfl) ?_
                    refine gs rfl ?_
                    refine gs rfl ?_
                    refine gs rfl ?_
                    refine gs rfl ?_
                    refine gs rfl ?_
                    refine gs rfl ?_
                    refine gs rfl ?_
                    refine gs rfl ?_
                    refine gs rfl ?_
                    refine gs rfl ?_
                    refine gs rfl ?_
                    refine gs rfl ?_
                    refine gs rfl ?_
                    refine gs rfl ?_
                    refine and_3 (Nat.le_of_ble_eq_true rfl) rfl (vin rfl) ?_
                    refine gs rfl ?_
                    refine gs rfl ?_
                    refine gs rfl ?_
                    refine gs rfl ?_
                    refine gs rfl ?_
                    refine gs rfl ?_
                    refine gs rfl ?_
                    refine gs rfl ?_
                    refine gs rfl ?_
                    refine gs rfl ?_
                    refine gs rfl ?_
                    refine gs rfl ?_
                    refine gs rfl ?_
                    refine gs rfl ?_
                    refine and_3 (Nat.le_of_ble_eq_true rfl) rfl (vin rfl) ?_
                    refine gs rfl ?_
                    refine gs rfl ?_
                    refine gs rfl ?_
                    refine gs rfl ?_
                    refine gs rfl ?_
                    refine gs rfl ?_
                    refine gs rfl ?_
                    refine gs rfl ?_
                    refine gs rfl ?_
                    refine gs rfl ?_
                    refine gs rfl ?_
                    refine gs rfl ?_
                    refine gs rfl ?_
                    refine gs rfl ?_
                    refine and_3 (Nat.le_of_ble_eq_true rfl) rfl (vin rfl) ?_
                    refine gs rfl ?_
                    refine gs rfl ?_
                    refine gs rfl ?_
                    refine gs rfl ?_
                    refine gs rfl ?_
                    refine gs rfl ?_
                    refine gs rfl ?_
                    refine gs rfl ?_
                    refine gs rfl ?_
                    refine gs rfl ?_
                    refine gs rfl ?_
                    refine gs rfl ?_
                    refine gs rfl ?_
                    refine gs rfl ?_
                    refine and_3 (Nat.le_of_ble_eq_true rfl) rfl (vin rfl) ?_
                    refine gs rfl ?_
                    refine gs rfl ?_
                    refine gs rfl ?_
                    refine gs rfl ?_
                    refine gs rfl ?_
                    refine gs rfl ?_
                    refine gs rfl ?_
                    refine gs rfl ?_
                    refine gs rfl ?_
                    refine gs rfl ?_
                    refine gs rfl ?_
                    refine gs rfl ?_
                    refine gs rfl ?_
                    refine gs rfl ?_
                    refine and_3 (Nat.le_of_ble_eq_true rfl) rfl (vin rfl) ?_
                    refine gs rfl ?_
                    refine gs rfl ?_
                    refine gs rfl ?_
                    refine gs rfl ?_
                    refine gs rfl ?_
                    refine gs rfl ?_
                    refine gs rfl ?_
                    refine gs rfl ?_
                    refine gs rfl ?_
                    refine gs rfl ?_
                    refine gs rfl ?_
                    refine gs rfl ?_
                    refine gs rfl ?_
                    refine gs rfl ?_
                    refine and_3 (Nat.le_of_ble_eq_true rfl) rfl (vin rfl) ?_
                    refine gs rfl ?_
                    refine gs rfl ?_
                    refine gs rfl ?_
                    refine gs rfl ?_
                    refine gs rfl ?_
                    refine gs rfl ?_
                    refine gs rfl ?_
                    refine gs rfl ?_
                    refine gs rfl ?_
                    refine gs rfl ?_
                    refine gs rfl ?_
                    refine gs rfl ?_
                    refine gs rfl ?_
                    refine gs rfl ?_
                    refine and_3 (Nat.le_of_ble_eq_true rfl) rfl (vin rfl) ?_
                    refine gs rfl ?_
                    refine gs rfl ?_
                    refine gs rfl ?_
                    refine gs rfl ?_
                    refine gs rfl ?_
                    refine gs rfl ?_
                    refine gs rfl ?_
                    refine gs rfl ?_
                    refine gs rfl ?_
                    refine gs rfl ?_
                    refine gs rfl ?_
                    refine gs rfl ?_
                    refine gs rfl ?_
                    refine gs rfl ?_
                    refine and_3 (Nat.le_of_ble_eq_true rfl) rfl (vin rfl) ?_
                    refine gs rfl ?_
                    refine gs rfl ?_
                    refine gs rfl ?_
                    refine gs rfl ?_
                    refine gs rfl ?_
                    refine gs rfl ?_
                    refine gs rfl ?_
                    refine gs rfl ?_
                    refine gs rfl ?_
                    refine gs rfl ?_
                    refine gs rfl ?_
                    refine gs rfl ?_
                    refine gs rfl ?_
                    refine gs rfl ?_
                    refine and_3 (Nat.le_of_ble_eq_true rfl) rfl (vin rfl) ?_
                    refine gs rfl ?_
                    refine gs rfl ?_
                    refine gs rfl ?_
                    refine gs rfl ?_
                    refine gs rfl ?_
                    refine gs rfl ?_
                    refine gs rfl ?_
                    refine gs rfl ?_
                    refine gs rfl ?_
                    refine gs rfl ?_
                    refine gs rfl ?_
                    refine gs rfl ?_
                    refine gs rfl ?_
                    refine gs rfl ?_
                    refine and_3 (Nat.le_of_ble_eq_true rfl) rfl (vin rfl) ?_
                    refine gs rfl ?_
                    refine gs rfl ?_
                    refine gs rfl ?_
                    refine gs rfl ?_
                    refine gs rfl ?_
                    refine gs rfl ?_
                    refine gs rfl ?_
                    refine gs rfl ?_
                    refine gs rfl ?_
                    refine gs rfl ?_
                    refine gs rfl ?_
                    refine gs rfl ?_
                    refine gs rfl ?_
                    refine gs rfl ?_
                    refine and_3 (Nat.le_of_ble_eq_true rfl) rfl (vin rfl) ?_
                    refine gs rfl ?_
                    refine gs rfl ?_
                    refine gs rfl ?_
                    refine gs rfl ?_
                    refine gs rfl ?_
                    refine gs rfl ?_
                    refine gs rfl ?_
                    refine gs rfl ?_
                    refine gs rfl ?_
                    refine gs rfl ?_
                    refine gs rfl ?_
                    refine gs rfl ?_
                    refine gs rfl ?_
                    refine gs rfl ?_
                    refine and_3 (Nat.le_of_ble_eq_true rfl) rfl (vin rfl) ?_
                    refine gs rfl ?_
                    refine gs rfl ?_
                    refine gs rfl ?_
                    refine gs rfl ?_
                    refine gs rfl ?_
                    refine gs rfl ?_
                    refine gs rfl ?_
                    refine gs rfl ?_
                    refine gs rfl ?_
                    refine gs rfl ?_
                    refine gs rfl ?_
                    refine gs rfl ?_
                    refine gs rfl ?_
                    refine gs rfl ?_
                    refine and_3 (Nat.le_of_ble_eq_true rfl) rfl (vin rfl) ?_
                    refine gs rfl ?_
                    refine gs rfl ?_
                    refine gs rfl ?_
                    refine gs rfl ?_
                    refine gs rfl ?_
                    refine gs rfl ?_
                    refine gs rfl ?_
                    refine gs rfl ?_
                    refine gs rfl ?_
                    refine gs rfl ?_
                    refine gs rfl ?_
                    refine gs rfl ?_
                    refine gs rfl ?_
                    refine gs rfl ?_
                    refine and_3 (Nat.le_of_ble_eq_true rfl) rfl (vin rfl) ?_
                    refine gs rfl ?_
                    refine gs rfl ?_
                    refine gs rfl ?_
                    refine gs rfl ?_
                    refine gs rfl ?_
                    refine gs rfl ?_
                    refine gs rfl ?_
                    refine gs rfl ?_
                    refine gs rfl ?_
                    refine gs rfl ?_
                    refine gs rfl ?_
                    refine gs rfl ?_
                    refine gs rfl ?_
                    refine gs rfl ?_
                    refine and_3 (Nat.le_of_ble_eq_true rfl) rfl (vin rfl) ?_
                    refine gs rfl ?_
                    refine gs rfl ?_
                    refine gs rfl ?_
                    refine gs rfl ?_
                    refine gs rfl ?_
                    refine gs rfl ?_
                    refine gs rfl ?_
                    refine and_i rfl ?_
                    refine gs rfl ?_
                    refine gs rfl ?_
                    refine gs rfl ?_
                    refine gs rfl ?_
                    refine gs rfl ?_
                    refine gs rfl ?_
                    refine and_i (Or.inl rfl) ?_
                    refine gwst (congrArg (fun z => Value.int z :: _) (alen_k (n := 6) (by rfl))) ?_
                    refine gs rfl ?_
                    refine gs rfl ?_
                    refine gs rfl ?_
                    refine gs rfl ?_
                    refine gs rfl ?_
                    refine and_2 rfl (Or.inr rfl) ?_
                    exact rfl
                  · have x36q : s1 = (2 : Int32) := x36
                    clear x36
                    subst x36q
                    refine gs rfl ?_
                    refine and_2 (Nat.le_of_ble_eq_true rfl) (vin rfl) ?_
                    refine and_2 rfl (fun z q => by cases q) ?_
                    refine gs rfl ?_
                    refine gs rfl ?_
                    refine gs rfl ?_
                    refine and_i (Nat.le_of_ble_eq_true rfl) (cl0 (Nat.le_of_ble_eq_true rfl) (and_i (Nat.le_of_ble_eq_true rfl) ?_))
                    refine gs rfl ?_
                    refine gs rfl ?_
                    refine gs rfl ?_
                    refine and_3 (Nat.le_of_ble_eq_true rfl) (Nat.le_of_ble_eq_true rfl) trivial ?_
                    refine gs rfl ?_
                    refine gs rfl ?_
                    refine gs rfl ?_
                    refine and_3 (Nat.le_of_ble_eq_true rfl) (Nat.le_of_ble_eq_true rfl) trivial ?_
                    refine gs rfl ?_
                    refine gs rfl ?_
                    refine gs rfl ?_
                    refine gs rfl ?_
                    refine and_i (Nat.le_of_ble_eq_true rfl) (cl0 (Nat.le_of_ble_eq_true rfl) (and_i (Nat.le_of_ble_eq_true rfl) ?_))
                    refine gs rfl ?_
                    refine gs rfl ?_
                    refine gs rfl ?_
                    refine gs rfl ?_
                    refine and_i (Or.inl rfl) ?_
                    refine gwst (congrArg (fun z => Value.int z :: _) (alen_k (n := 40) (by rfl))) ?_
                    refine gs rfl ?_
                    refine gs rfl ?_
                    refine gs rfl ?_
                    refine gs rfl ?_
                    refine gs rfl ?_
                    refine gs rfl ?_
                    refine gs rfl ?_
                    refine gs rfl ?_
                    refine and_3 (Nat.le_of_ble_eq_true rfl) rfl (vin rfl) ?_
                    refine gs rfl ?_
                    refine gs rfl ?_
                    refine gs rfl ?_
                    refine gs rfl ?_
                    refine gs rfl ?_
                    refine gs rfl ?_
                    refine gs rfl ?_
                    refine gs rfl ?_
                    refine gs rfl ?_
                    refine and_3 (Nat.le_of_ble_eq_true rfl) rfl (vin rfl) ?_
                    refine gs rfl ?_
                    refine gs rfl ?_
                    refine gs rfl ?_
                    refine gs rfl ?_
                    refine gs rfl ?_
                    refine gs rfl ?_
                    refine gs rfl ?_
                    refine gs rfl ?_
                    refine gs rfl ?_
                    refine and_3 (Nat.le_of_ble_eq_true rfl) rfl (vin rfl) ?_
                    refine gs rfl ?_
                    refine gs rfl ?_
                    refine gs rfl ?_
                    refine gs rfl ?_
                    refine gs rfl ?_
                    refine gs rfl ?_
                    refine gs rfl ?_
                    refine gs rfl ?_
                    refine gs rfl ?_
                    refine and_3 (Nat.le_of_ble_eq_true rfl) rfl (vin rfl) ?_
                    refine gs rfl ?_
                    refine gs rfl ?_
                    refine gs rfl ?_
                    refine gs rfl ?_
                    refine gs rfl ?_
                    refine gs rfl ?_
                    refine gs rfl ?_
                    refine gs rfl ?_
                    refine gs rfl ?_
                    refine and_3 (Nat.le_of_ble_eq_true rfl) rfl (vin rfl) ?_
                    refine gs rfl ?_
                    refine gs rfl ?_
                    refine gs rfl ?_
                    refine gs rfl ?_
                    refine gs rfl ?_
                    refine gs rfl ?_
                    refine gs rfl ?_
                    refine gs rfl ?_
                    refine gs rfl ?_
                    refine and_3 (Nat.le_of_ble_eq_true rfl) rfl (vin rfl) ?_
                    refine gs rfl ?_
                    refine gs rfl ?_
                    refine gs rfl ?_
                    refine gs rfl ?_
                    refine gs rfl ?_
                    refine gs rfl ?_
                    refine gs rfl ?_
                    refine gs rfl ?_
                    refine gs rfl ?_
                    refine and_3 (Nat.le_of_ble_eq_true rfl) rfl (vin rfl) ?_
                    refine gs rfl ?_
                    refine gs rfl ?_
                    refine gs rfl ?_
                    refine gs rfl ?_
                    refine gs rfl ?_
                    refine gs rfl ?_
                    refine gs rfl ?_
                    refine gs rfl ?_
                    refine gs rfl ?_
                    refine and_3 (Nat.le_of_ble_eq_true rfl) rfl (vin rfl) ?_
                    refine gs rfl ?_
                    refine gs rfl ?_
                    refine gs rfl ?_
                    refine gs rfl ?_
                    refine gs rfl ?_
                    refine gs rfl ?_
                    refine gs rfl ?_
                    refine gs rfl ?_
                    refine gs rfl ?_
                    refine and_3 (Nat.le_of_ble_eq_true rfl) rfl (vin rfl) ?_
                    refine gs rfl ?_
                    refine gs rfl ?_
                    refine gs rfl ?_
                    refine gs rfl ?_
                    refine gs rfl ?_
                    refine gs rfl ?_
                    refine gs rfl ?_
                    refine gs rfl ?_
                    refine gs rfl ?_
                    refine and_3 (Nat.le_of_ble_eq_true rfl) rfl (vin rfl) ?_
                    refine gs rfl ?_
                    refine gs rfl ?_
                    refine gs rfl ?_
                    refine gs rfl ?_
                    refine gs rfl ?_
                    refine gs rfl ?_
                    refine gs rfl ?_
                    refine gs rfl ?_
                    refine gs rfl ?_
                    refine and_3 (Nat.le_of_ble_eq_true rfl) rfl (vin rfl) ?_
                    refine gs rfl ?_
                    refine gs rfl ?_
                    refine gs rfl ?_
                    refine gs rfl ?_
                    refine gs rfl ?_
                    refine gs rfl ?_
                    refine gs rfl ?_
                    refine gs rfl ?_
                    refine gs rfl ?_
                    refine and_3 (Nat.le_of_ble_eq_true rfl) rfl (vin rfl) ?_
                    refine gs rfl ?_
                    refine gs rfl ?_
                    refine gs rfl ?_
                    refine gs rfl ?_
                    refine gs rfl ?_
                    refine gs rfl ?_
                    refine gs rfl ?_
                    refine gs rfl ?_
                    refine gs rfl ?_
                    refine and_3 (Nat.le_of_ble_eq_true rfl) rfl (vin rfl) ?_
                    refine gs rfl ?_
                    refine gs rfl ?_
                    refine gs rfl ?_
                    refine gs rfl ?_
                    refine gs rfl ?_
                    refine gs rfl ?_
                    refine gs rfl ?_
                    refine gs rfl ?_
                    refine gs rfl ?_
                    refine and_3 (Nat.le_of_ble_eq_true rfl) rfl (vin rfl) ?_
                    refine gs rfl ?_
                    refine gs rfl ?_
                    refine gs rfl ?_
                    refine gs rfl ?_
                    refine gs rfl ?_
                    refine gs rfl ?_
                    refine gs rfl ?_
                    refine gs rfl ?_
                    refine gs rfl ?_
                    refine and_3 (Nat.le_of_ble_eq_true rfl) rfl (vin rfl) ?_
                    refine gs rfl ?_
                    refine gs rfl ?_
                    refine gs rfl ?_
                    refine gs rfl ?_
                    refine gs rfl ?_
                    refine gs rfl ?_
                    refine gs rfl ?_
                    refine gs rfl ?_
                    refine gs rfl ?_
                    refine and_3 (Nat.le_of_ble_eq_true rfl) rfl (vin rfl) ?_
                    refine gs rfl ?_
                    refine gs rfl ?_
                    refine gs rfl ?_
                    refine gs rfl ?_
                    refine gs rfl ?_
                    refine gs rfl ?_
                    refine gs rfl ?_
                    refine gs rfl ?_
                    refine gs rfl ?_
                    refine and_3 (Nat.le_of_ble_eq_true rfl) rfl (vin rfl) ?_
                    refine gs rfl ?_
                    refine gs rfl ?_
                    refine gs rfl ?_
                    refine gs rfl ?_
                    refine gs rfl ?_
                    refine gs rfl ?_
                    refine gs rfl ?_
                    refine gs rfl ?_
                    refine gs rfl ?_
                    refine and_3 (Nat.le_of_ble_eq_true rfl) rfl (vin rfl) ?_
                    refine gs rfl ?_
                    refine gs rfl ?_
                    refine gs rfl ?_
                    refine gs rfl ?_
                    refine gs rfl ?_
                    refine gs rfl ?_
                    refine gs rfl ?_
                    refine gs rfl ?_
                    refine gs rfl ?_
                    refine and_3 (Nat.le_of_ble_eq_true rfl) rfl (vin rfl) ?_
                    refine gs rfl ?_
                    refine gs rfl ?_
                    refine gs rfl ?_
                    refine gs rfl ?_
                    refine gs rfl ?_
                    refine gs rfl ?_
                    refine gs rfl ?_
                    refine gs rfl ?_
                    refine gs rfl ?_
                    refine and_3 (Nat.le_of_ble_eq_true rfl) rfl (vin rfl) ?_
                    refine gs rfl ?_
                    refine gs rfl ?_
                    refine gs rfl ?_
                    refine gs rfl ?_
                    refine gs rfl ?_
                    refine gs rfl ?_
                    refine gs rfl ?_
                    refine gs rfl ?_
                    refine gs rfl ?_
                    refine and_3 (Nat.le_of_ble_eq_true rfl) rfl (vin rfl) ?_
                    refine gs rfl ?_
                    refine gs rfl ?_
                    refine gs rfl ?_
                    refine gs rfl ?_
                    refine gs rfl ?_
                    refine gs rfl ?_
                    refine gs rfl ?_
                    refine gs rfl ?_
                    refine gs rfl ?_
                    refine and_3 (Nat.le_of_ble_eq_true rfl) rfl (vin rfl) ?_
                    refine gs rfl ?_
                    refine gs rfl ?_
                    refine gs rfl ?_
                    refine gs rfl ?_
                    refine gs rfl ?_
                    refine gs rfl ?_
                    refine gs rfl ?_
                    refine gs rfl ?_
                    refine gs rfl ?_
                    refine and_3 (Nat.le_of_ble_eq_true rfl) rfl (vin rfl) ?_
                    refine gs rfl ?_
                    refine gs rfl ?_
                    refine gs rfl ?_
                    refine gs rfl ?_
                    refine gs rfl ?_
                    refine gs rfl ?_
                    refine gs rfl ?_
                    refine gs rfl ?_
                    refine gs rfl ?_
                    refine and_3 (Nat.le_of_ble_eq_true rfl) rfl (vin rfl) ?_
                    refine gs rfl ?_
                    refine gs rfl ?_
                    refine gs rfl ?_
                    refine gs rfl ?_
                    refine gs rfl ?_
                    refine gs rfl ?_
                    refine gs rfl ?_
                    refine gs rfl ?_
                    refine gs rfl ?_
                    refine and_3 (Nat.le_of_ble_eq_true rfl) rfl (vin rfl) ?_
                    refine gs rfl ?_
                    refine gs rfl ?_
                    refine gs rfl ?_
                    refine gs rfl ?_
                    refine gs rfl ?_
                    refine gs rfl ?_
                    refine gs rfl ?_
                    refine gs rfl ?_
                    refine gs rfl ?_
                    refine and_3 (Nat.le_of_ble_eq_true rfl) rfl (vin rfl) ?_
                    refine gs rfl ?_
                    refine gs rfl ?_
                    refine gs rfl ?_
                    refine gs rfl ?_
                    refine gs rfl ?_
                    refine gs rfl ?_
                    refine gs rfl ?_
                    refine gs rfl ?_
                    refine gs rfl ?_
                    refine and_3 (Nat.le_of_ble_eq_true rfl) rfl (vin rfl) ?_
                    refine gs rfl ?_
                    refine gs rfl ?_
                    refine gs rfl ?_
                    refine gs rfl ?_
                    refine gs rfl ?_
                    refine gs rfl ?_
                    refine gs rfl ?_
                    refine gs rfl ?_
                    refine gs rfl ?_
                    refine and_3 (Nat.le_of_ble_eq_true rfl) rfl (vin rfl) ?_
                    refine gs rfl ?_
                    refine gs rfl ?_
                    refine gs rfl ?_
                    refine gs rfl ?_
                    refine gs rfl ?_
                    refine gs rfl ?_
                    refine gs rfl ?_
                    refine gs rfl ?_
                    refine gs rfl ?_
                    refine and_3 (Nat.le_of_ble_eq_true rfl) rfl (vin rfl) ?_
                    refine gs rfl ?_
                    refine gs rfl ?_
                    refine gs rfl ?_
                    refine gs rfl ?_
                    refine gs rfl ?_
                    refine gs rfl ?_
                    refine gs rfl ?_
                    refine gs rfl ?_
                    refine gs rfl ?_
                    refine and_3 (Nat.le_of_ble_eq_true rfl) rfl (vin rfl) ?_
                    refine gs rfl ?_
                    refine gs rfl ?_
                    refine gs rfl ?_
                    refine gs rfl ?_
                    refine gs rfl ?_
                    refine gs rfl ?_
                    refine gs rfl ?_
                    refine gs rfl ?_
                    refine gs rfl ?_
                    refine and_3 (Nat.le_of_ble_eq_true rfl) rfl (vin rfl) ?_
                    refine gs rfl ?_
                    refine gs rfl ?_
                    refine gs rfl ?_
                    refine gs rfl ?_
                    refine gs rfl ?_
                    refine gs rfl ?_
                    refine gs rfl ?_
                    refine gs rfl ?_
                    refine gs rfl ?_
                    refine and_3 (Nat.le_of_ble_eq_true rfl) rfl (vin rfl) ?_
                    refine gs rfl ?_
                    refine gs rfl ?_
                    refine gs rfl ?_
                    refine gs rfl ?_
                    refine gs rfl ?_
                    refine gs rfl ?_
                    refine gs rfl ?_
                    refine gs rfl ?_
                    refine gs rfl ?_
                    refine and_3 (Nat.le_of_ble_eq_true rfl) rfl (vin rfl) ?_
                    refine gs rfl ?_
                    refine gs rfl ?_
                    refine gs rfl ?_
                    refine gs rfl ?_
                    refine gs rfl ?_
                    refine gs rfl ?_
                    refine gs rfl ?_
                    refine gs rfl ?_
                    refine gs rfl ?_
                    refine and_3 (Nat.le_of_ble_eq_true rfl) rfl (vin rfl) ?_
                    refine gs rfl ?_
                    refine gs rfl ?_
                    refine gs rfl ?_
                    refine gs rfl ?_
                    refine gs rfl ?_
                    refine gs rfl ?_
                    refine gs rfl ?_
                    refine gs rfl ?_
                    refine gs rfl ?_
                    refine and_3 (Nat.le_of_ble_eq_true rfl) rfl (vin rfl) ?_
                    refine gs rfl ?_
                    refine gs rfl ?_
                    refine gs rfl ?_
                    refine gs rfl ?_
                    refine gs rfl ?_
                    refine gs rfl ?_
                    refine gs rfl ?_
                    refine gs rfl ?_
                    refine gs rfl ?_
                    refine and_3 (Nat.le_of_ble_eq_true rfl) rfl (vin rfl) ?_
                    refine gs rfl ?_
                    refine gs rfl ?_
                    refine gs rfl ?_
                    refine gs rfl ?_
                    refine gs rfl ?_
                    refine gs rfl ?_
                    refine gs rfl ?_
                    refine gs rfl ?_
                    refine gs rfl ?_
                    refine and_3 (Nat.le_of_ble_eq_true rfl) rfl (vin rfl) ?_
                    refine gs rfl ?_
                    refine gs rfl ?_
                    refine gs rfl ?_
                    refine gs rfl ?_
                    refine gs rfl ?_
                    refine gs rfl ?_
                    refine gs rfl ?_
                    refine gs rfl ?_
                    refine gs rfl ?_
                    refine and_3 (Nat.le_of_ble_eq_true rfl) rfl (vin rfl) ?_
                    refine gs rfl ?_
                    refine gs rfl ?_
                    refine gs rfl ?_
                    refine gs rfl ?_
                    refine gs rfl ?_
                    refine gs rfl ?_
                    refine gs rfl ?_
                    refine gs rfl ?_
                    refine gs rfl ?_
                    refine and_3 (Nat.le_of_ble_eq_true rfl) rfl (vin rfl) ?_
                    refine gs rfl ?_
                    refine gs rfl ?_
                    refine gs rfl ?_
                    refine gs rfl ?_
                    refine gs rfl ?_
                    refine gs rfl ?_
                    refine gs rfl ?_
                    refine gs rfl ?_
                    refine gs rfl ?_
                    refine and_3 (Nat.le_of_ble_eq_true rfl) rfl (vin rfl) ?_
                    refine gs rfl ?_
                    refine gs rfl ?_
                    refine gs rfl ?_
                    refine gs rfl ?_
                    refine gs rfl ?_
                    refine gs rfl ?_
                    refine and_i rfl ?_
                    refine gs rfl ?_
                    refine and_i rfl ?_
                    refine gs rfl ?_
                    refine gs rfl ?_
                    refine and_i rfl ?_
                    refine FRg rfl (fun f => ?_)
                    refine gs rfl ?_
                    refine gs rfl ?_
                    refine gs rfl ?_
                    refine gs rfl ?_
                    refine gs rfl ?_
                    refine gs rfl ?_
                    refine and_2 rfl (vin rfl) ?_
                    refine gs rfl ?_
                    refine gs rfl ?_
                    refine gs rfl ?_
                    refine gs rfl ?_
                    refine gs rfl ?_
                    refine and_2 rfl (vin rfl) ?_
                    refine gs rfl ?_
                    refine gs rfl ?_
                    refine gs rfl ?_
                    refine gs rfl ?_
                    refine gs rfl ?_
                    refine and_2 rfl (vin rfl) ?_
                    refine gs rfl ?_
                    refine and_i (Nat.le_of_ble_eq_true rfl) (cl0 (Nat.le_of_ble_eq_true rfl) (and_i (Nat.le_of_ble_eq_true rfl) ?_))
                    refine gs rfl ?_
                    refine gs rfl ?_
                    refine and_i (Nat.le_of_ble_eq_true rfl) (cl0 (Nat.le_of_ble_eq_true rfl) (and_i (Nat.le_of_ble_eq_true rfl) ?_))
                    refine gs rfl ?_
                    refine gs rfl ?_
                    refine gs rfl ?_
                    refine gs rfl ?_
                    refine and_i (Nat.le_of_ble_eq_true rfl) (cl0 (Nat.le_of_ble_eq_true rfl) (and_i (Nat.le_of_ble_eq_true rfl) ?_))
                    refine gs rfl ?_
                    refine gs rfl ?_
                    refine gs rfl ?_
                    refine gs rfl ?_
                    refine gs rfl ?_
                    refine gs rfl ?_
                    refine gs rfl ?_
                    refine gs rfl ?_
                    refine gs rfl ?_
                    refine and_2 rfl (Or.inr rfl) ?_
                    refine gs rfl ?_
                    refine and_2 rfl (Or.inr rfl) ?_
                    refine gs rfl ?_
                    refine gs rfl ?_
                    refine gs rfl ?_
                    refine ifF ((fun q => absurd ((eq_k (a := (s2).toInt) (b := 0) (by rfl) (by rfl)).mp q) (by omega))) ?_
                    refine gs rfl ?_
                    refine gs rfl ?_
                    refine gs rfl ?_
                    refine ifF ((fun q => absurd ((eq_k (a := (s2).toInt) (b := 8) (by rfl) (by rfl)).mp q) (by omega))) ?_
                    refine gs rfl ?_
                    refine gs rfl ?_
                    refine gs rfl ?_
                    refine ifF ((fun q => absurd ((eq_k (a := (s2).toInt) (b := 16) (by rfl) (by rfl)).mp q) (by omega))) ?_
                    refine gs rfl ?_
                    refine gs rfl ?_
                    refine gs rfl ?_
                    refine ifT ((eq_k (a := (s2).toInt) (b := 32) (by rfl) (by rfl)).mpr (by omega)) ?_
                    refine gs rfl ?_
                    refine gs rfl ?_
                    refine ifF ((fun q => absurd ((eq_k (a := (s2).toInt) (b := 0) (by rfl) (by rfl)).mp q) (by omega))) ?_
                    refine gs rfl ?_
                    refine gs rfl ?_
                    refine ifT ((le_k (a := 0) (b := (s3).toInt) (by rfl) (by rfl)).mpr (by omega)) ?_
                    refine gs rfl ?_
                    refine gs rfl ?_
                    refine ifF ((fun q => absurd ((eq_k (a := (s2).toInt) (b := 0) (by rfl) (by rfl)).mp q) (by omega))) ?_
                    refine gs rfl ?_
                    refine gs rfl ?_
                    refine gs rfl ?_
                    refine ifT ((le_k (a := (s3).toInt) (b := 40) (by rfl) (by rfl)).mpr (by omega)) ?_
                    refine gs rfl ?_
                    refine gs rfl ?_
                    refine gs rfl ?_
                    refine gs rfl ?_
                    refine gs rfl ?_
                    refine and_3 (Nat.le_of_ble_eq_true rfl) rfl (vin rfl) ?_
                    refine gs rfl ?_
                    refine gs rfl ?_
                    refine gs rfl ?_
                    refine gs rfl ?_
                    refine gs rfl ?_
                    refine ifF ((fun q => absurd ((eq_k (a := (s2).toInt) (b := 0) (by rfl) (by rfl)).mp q) (by omega))) ?_
                    refine gs rfl ?_
                    refine gs rfl ?_
                    refine and_3 (Nat.le_of_ble_eq_true rfl) rfl (vin rfl) ?_
                    refine gs rfl ?_
                    refine gs rfl ?_
                    refine gs rfl ?_
                    refine gs rfl ?_
                    refine gs rfl ?_
                    refine gs rfl ?_
                    refine gs rfl ?_
                    refine gs rfl ?_
                    refine gs rfl ?_
                    refine gs rfl ?_
                    refine gs rfl ?_
                    refine gs rfl ?_
                    refine gs rfl ?_
                    refine gs rfl ?_
                    refine and_3 (Nat.le_of_ble_eq_true rfl) rfl (vin rfl) ?_
                    refine gs rfl ?_
                    refine gs rfl ?_
                    refine gs rfl ?_
                    refine gs rfl ?_
                    refine gs rfl ?_
                    refine gs rfl ?_
                    refine gs rfl ?_
                    refine gs rfl ?_
                    refine gs rfl ?_
                    refine gs rfl ?_
                    refine gs rfl ?_
                    refine gs rfl ?_
                    refine gs rfl ?_
                    refine gs rfl ?_
                    refine and_3 (Nat.le_of_ble_eq_true rfl) rfl (vin rfl) ?_
                    refine gs rfl ?_
                    refine gs rfl ?_
                    refine gs rfl ?_
                    refine gs rfl ?_
                    refine gs rfl ?_
                    refine gs rfl ?_
                    refine gs rfl ?_
                    refine gs rfl ?_
                    refine gs rfl ?_
                    refine gs rfl ?_
                    refine gs rfl ?_
                    refine gs rfl ?_
                    refine gs rfl ?_
                    refine gs rfl ?_
                    refine and_3 (Nat.le_of_ble_eq_true rfl) rfl (vin rfl) ?_
                    refine gs rfl ?_
                    refine gs rfl ?_
                    refine gs rfl ?_
                    refine gs rfl ?_
                    refine gs rfl ?_
                    refine gs rfl ?_
                    refine gs rfl ?_
                    refine gs rfl ?_
                    refine gs rfl ?_
                    refine gs rfl ?_
                    refine gs rfl ?_
                    refine gs rfl ?_
                    refine gs rfl ?_
                    refine gs rfl ?_
                    refine and_3 (Nat.le_of_ble_eq_true rfl) rfl (vin rfl) ?_
                    refine gs rfl ?_
                    refine gs rfl ?_
                    refine gs rfl ?_
                    refine gs rfl ?_
                    refine gs rfl ?_
                    refine gs rfl ?_
                    refine gs rfl ?_
                    refine gs rfl ?_
                    refine gs rfl ?_
                    refine gs rfl ?_
                    refine gs rfl ?_
                    refine gs rfl ?_
                    refine gs rfl ?_
                    refine gs rfl ?_
                    refine and_3 (Nat.le_of_ble_eq_true rfl) rfl (vin rfl) ?_
                    refine gs rfl ?_
                    refine gs rfl ?_
                    refine gs rfl ?_
                    refine gs rfl ?_
                    refine gs rfl ?_
                    refine gs rfl ?_
                    refine gs rfl ?_
                    refine gs rfl ?_
                    refine gs rfl ?_
                    refine gs rfl ?_
                    refine gs rfl ?_
                    refine gs rfl ?_
                    refine gs rfl ?_
                    refine gs rfl ?_
                    refine and_3 (Nat.le_of_ble_eq_true rfl) rfl (vin rfl) ?_
                    refine gs rfl ?_
                    refine gs rfl ?_
                    refine gs rfl ?_
                    refine gs rfl ?_
                    refine gs rfl ?_
                    refine gs rfl ?_
                    refine gs rfl ?_
                    refine gs rfl ?_
                    refine gs rfl ?_
                    refine gs rfl ?_
                    refine gs rfl ?_
                    refine gs rfl ?_
                    refine gs rfl ?_
                    refine gs rfl ?_
                    refine and_3 (Nat.le_of_ble_eq_true rfl) rfl (vin rfl) ?_
                    refine gs rfl ?_
                    refine gs rfl ?_
                    refine gs rfl ?_
                    refine gs rfl ?_
                    refine gs rfl ?_
                    refine gs rfl ?_
                    refine gs rfl ?_
                    refine gs rfl ?_
                    refine gs rfl ?_
                    refine gs rfl ?_
                    refine gs rfl ?_
                    refine gs rfl ?_
                    refine gs rfl ?_
                    refine gs rfl ?_
                    refine and_3 (Nat.le_of_ble_eq_true rfl) rfl (vin rfl) ?_
                    refine gs rfl ?_
                    refine gs rfl ?_
                    refine gs rfl ?_
                    refine gs rfl ?_
                    refine gs rfl ?_
                    refine gs rfl ?_
                    refine gs rfl ?_
                    refine gs rfl ?_
                    refine gs rfl ?_
                    refine gs rfl ?_
                    refine gs rfl ?_
                    refine gs rfl ?_
                    refine gs rfl ?_
                    refine gs rfl ?_
                    refine and_3 (Nat.le_of_ble_eq_true rfl) rfl (vin rfl) ?_
                    refine gs rfl ?_
                    refine gs rfl ?_
                    refine gs rfl ?_
                    refine gs rfl ?_
                    refine gs rfl ?_
                    refine gs rfl ?_
                    refine gs rfl ?_
                    refine gs rfl ?_
                    refine gs rfl ?_
                    refine gs rfl ?_
                    refine gs rfl ?_
                    refine gs rfl ?_
                    refine gs rfl ?_
                    refine gs rfl ?_
                    refine and_3 (Nat.le_of_ble_eq_true rfl) rfl (vin rfl) ?_
                    refine gs rfl ?_
                    refine gs rfl ?_
                    refine gs rfl ?_
                    refine gs rfl ?_
                    refine gs rfl ?_
                    refine gs rfl ?_
                    refine gs rfl ?_
                    refine gs rfl ?_
                    refine gs rfl ?_
                    refine gs rfl ?_
                    refine gs rfl ?_
                    refine gs rfl ?_
                    refine gs rfl ?_
                    refine gs rfl ?_
                    refine and_3 (Nat.le_of_ble_eq_true rfl) rfl (vin rfl) ?_
                    refine gs rfl ?_
                    refine gs rfl ?_
                    refine gs rfl ?_
                    refine gs rfl ?_
                    refine gs rfl ?_
                    refine gs rfl ?_
                    refine gs rfl ?_
                    refine gs rfl ?_
                    refine gs rfl ?_
                    refine gs rfl ?_
                    refine gs rfl ?_
                    refine gs rfl ?_
                    refine gs rfl ?_
                    refine gs rfl ?_
                    refine and_3 (Nat.le_of_ble_eq_true rfl) rfl (vin rfl) ?_
                    refine gs rfl ?_
                    refine gs rfl ?_
                    refine gs rfl ?_
                    refine gs rfl ?_
                    refine gs rfl ?_
                    refine gs rfl ?_
                    refine gs rfl ?_
                    refine gs rfl ?_
                    refine gs rfl ?_
                    refine gs rfl ?_
                    refine gs rfl ?_
                    refine gs rfl ?_
                    refine gs rfl ?_
                    refine gs rfl ?_
                    refine and_3 (Nat.le_of_ble_eq_true rfl) rfl (vin rfl) ?_
                    refine gs rfl ?_
                    refine gs rfl ?_
                    refine gs rfl ?_
                    refine gs rfl ?_
                    refine gs rfl ?_
                    refine gs rfl ?_
                    refine gs rfl ?_
                    refine gs rfl ?_
                    refine gs rfl ?_
                    refine gs rfl ?_
                    refine gs rfl ?_
                    refine gs rfl ?_
                    refine gs rfl ?_
                    refine gs rfl ?_
                    refine and_3 (Nat.le_of_ble_eq_true rfl) rfl (vin rfl) ?_
                    refine gs rfl ?_
                    refine gs rfl ?_
                    refine gs rfl ?_
                    refine gs rfl ?_
                    refine gs rfl ?_
                    refine gs rfl ?_
                    refine gs rfl ?_
                    refine gs rfl ?_
                    refine gs rfl ?_
                    refine gs rfl ?_
                    refine gs rfl ?_
                    refine gs rfl ?_
                    refine gs rfl ?_
                    refine gs rfl ?_
                    refine and_3 (Nat.le_of_ble_eq_true rfl) rfl (vin rfl) ?_
                    refine gs rfl ?_
                    refine gs rfl ?_
                    refine gs rfl ?_
                    refine gs rfl ?_
                    refine gs rfl ?_
                    refine gs rfl ?_
                    refine gs rfl ?_
                    refine gs rfl ?_
                    refine gs rfl ?_
                    refine gs rfl ?_
                    refine gs rfl ?_
                    refine gs rfl ?_
                    refine gs rfl ?_
                    refine gs rfl ?_
                    refine and_3 (Nat.le_of_ble_eq_true rfl) rfl (vin rfl) ?_
                    refine gs rfl ?_
                    refine gs rfl ?_
                    refine gs rfl ?_
                    refine gs rfl ?_
                    refine gs rfl ?_
                    refine gs rfl ?_
                    refine gs rfl ?_
                    refine gs rfl ?_
                    refine gs rfl ?_
                    refine gs rfl ?_
                    refine gs rfl ?_
                    refine gs rfl ?_
                    refine gs rfl ?_
                    refine gs rfl ?_
                    refine and_3 (Nat.le_of_ble_eq_true rfl) rfl (vin rfl) ?_
                    refine gs rfl ?_
                    refine gs rfl ?_
                    refine gs rfl ?_
                    refine gs rfl ?_
                    refine gs rfl ?_
                    refine gs rfl ?_
                    refine gs rfl ?_
                    refine gs rfl ?_
                    refine gs rfl ?_
                    refine gs rfl ?_
                    refine gs rfl ?_
                    refine gs rfl ?_
                    refine gs rfl ?_
                    refine gs rfl ?_
                    refine and_3 (Nat.le_of_ble_eq_true rfl) rfl (vin rfl) ?_
                    refine gs rfl ?_
                    refine gs rfl ?_
                    refine gs rfl ?_
                    refine gs rfl ?_
                    refine gs rfl ?_
                    refine gs rfl ?_
                    refine gs rfl ?_
                    refine gs rfl ?_
                    refine gs rfl ?_
                    refine gs rfl ?_
                    refine gs rfl ?_
                    refine gs rfl ?_
                    refine gs rfl ?_
                    refine gs rfl ?_
                    refine and_3 (Nat.le_of_ble_eq_true rfl) rfl (vin rfl) ?_
                    refine gs rfl ?_
                    refine gs rfl ?_
                    refine gs rfl ?_
                    refine gs rfl ?_
                    refine gs rfl ?_
                    refine gs rfl ?_
                    refine gs rfl ?_
                    refine gs rfl ?_
                    refine gs rfl ?_
                    refine gs rfl ?_
                    refine gs rfl ?_
                    refine gs rfl ?_
                    refine gs rfl ?_
                    refine gs rfl ?_
                    refine and_3 (Nat.le_of_ble_eq_true rfl) rfl (vin rfl) ?_
                    refine gs rfl ?_
                    refine gs rfl ?_
                    refine gs rfl ?_
                    refine gs rfl ?_
                    refine gs rfl ?_
                    refine gs rfl ?_
                    refine gs rfl ?_
                    refine gs rfl ?_
                    refine gs rfl ?_
                    refine gs rfl ?_
                    refine gs rfl ?_
                    refine gs rfl ?_
                    refine gs rfl ?_
                    refine gs rfl ?_
                    refine and_3 (Nat.le_of_ble_eq_true rfl) rfl (vin rfl) ?_
                    refine gs rfl ?_
                    refine gs rfl ?_
                    refine gs rfl ?_
                    refine gs rfl ?_
                    refine gs rfl ?_
                    refine gs rfl ?_
                    refine gs rfl ?_
                    refine gs rfl ?_
                    refine gs rfl ?_
                    refine gs rfl ?_
                    refine gs rfl ?_
                    refine gs rfl ?_
                    refine gs rfl ?_
                    refine gs rfl ?_
                    refine and_3 (Nat.le_of_ble_eq_true rfl) rfl (vin rfl) ?_
                    refine gs rfl ?_
                    refine gs rfl ?_
                    refine gs rfl ?_
                    refine gs rfl ?_
                    refine gs rfl ?_
                    refine gs rfl ?_
                    refine gs rfl ?_
                    refine gs rfl ?_
                    refine gs rfl ?_
                    refine gs rfl ?_
                    refine gs rfl ?_
                    refine gs rfl ?_
                    refine gs rfl ?_
                    refine gs rfl ?_
                    refine and_3 (Nat.le_of_ble_eq_true rfl) rfl (vin rfl) ?_
                    refine gs rfl ?_
                    refine gs rfl ?_
                    refine gs rfl ?_
                    refine gs rfl ?_
                    refine gs rfl ?_
                    refine gs rfl ?_
                    refine gs rfl ?_
                    refine gs rfl ?_
                    refine gs rfl ?_
                    refine gs rfl ?_
                    refine gs rfl ?_
                    refine gs rfl ?_
                    refine gs rfl ?_
                    refine gs rfl ?_
                    refine and_3 (Nat.le_of_ble_eq_true rfl) rfl (vin rfl) ?_
                    refine gs rfl ?_
                    refine gs rfl ?_
                    refine gs rfl ?_
                    refine gs rfl ?_
                    refine gs rfl ?_
                    refine gs rfl ?_
                    refine gs rfl ?_
                    refine gs rfl ?_
                    refine gs rfl ?_
                    refine gs rfl ?_
                    refine gs rfl ?_
                    refine gs rfl ?_
                    refine gs rfl ?_
                    refine gs rfl ?_
                    refine and_3 (Nat.le_of_ble_eq_true rfl) rfl (vin rfl) ?_
                    refine gs rfl ?_
                    refine gs rfl ?_
                    refine gs rfl ?_
                    refine gs rfl ?_
                    refine gs rfl ?_
                    refine gs rfl ?_
                    refine gs rfl ?_
                    refine gs rfl ?_
                    refine gs rfl ?_
                    refine gs rfl ?_
                    refine gs rfl ?_
                    refine gs rfl ?_
                    refine gs rfl ?_
                    refine gs rfl ?_
                    refine and_3 (Nat.le_of_ble_eq_true rfl) rfl (vin rfl) ?_
                    refine gs rfl ?_
                    refine gs rfl ?_
                    refine gs rfl ?_
                    refine gs rfl ?_
                    refine gs rfl ?_
                    refine gs rfl ?_
                    refine gs rfl ?_
                    refine gs rfl ?_
                    refine gs rfl ?_
                    refine gs rfl ?_
                    refine gs rfl ?_
                    refine gs rfl ?_
                    refine gs rfl ?_
                    refine gs rfl ?_
                    refine and_3 (Nat.le_of_ble_eq_true rfl) rfl (vin rfl) ?_
                    refine gs rfl ?_
                    refine gs rfl ?_
                    refine gs rfl ?_
                    refine gs rfl ?_
                    refine gs rfl ?_
                    refine gs rfl ?_
                    refine gs rfl ?_
                    refine gs rfl ?_
                    refine gs rfl ?_
                    refine gs rfl ?_
                    refine gs rfl ?_
                    refine gs rfl ?_
                    refine gs rfl ?_
                    refine gs rfl ?_
                    refine and_3 (Nat.le_of_ble_eq_true rfl) rfl (vin rfl) ?_
                    refine gs rfl ?_
                    refine gs rfl ?_
                    refine gs rfl ?_
                    refine gs rfl ?_
                    refine gs rfl ?_
                    refine gs rfl ?_
                    refine gs rfl ?_
                    refine gs rfl ?_
                    refine gs rfl ?_
                    refine gs rfl ?_
                    refine gs rfl ?_
                    refine gs rfl ?_
                    refine gs rfl ?_
                    refine gs rfl ?_
                    refine and_3 (Nat.le_of_ble_eq_true rfl) rfl (vin rfl) ?_
                    refine gs rfl ?_
                    refine gs rfl ?_
                    refine gs rfl ?_
                    refine gs rfl ?_
                    refine gs rfl ?_
                    refine gs rfl ?_
                    refine gs rfl ?_
                    refine gs rfl ?_
                    refine gs rfl ?_
                    refine gs rfl ?_
                    refine gs rfl ?_
                    refine gs rfl ?_
                    refine gs rfl ?_
                    refine gs rfl ?_
                    refine and_3 (Nat.le_of_ble_eq_true rfl) rfl (vin rfl) ?_
                    refine gs rfl ?_
                    refine gs rfl ?_
                    refine gs rfl ?_
                    refine gs rfl ?_
                    refine gs rfl ?_
                    refine gs rfl ?_
                    refine gs rfl ?_
                    refine gs rfl ?_
                    refine gs rfl ?_
                    refine gs rfl ?_
                    refine gs rfl ?_
                    refine gs rfl ?_
                    refine gs rfl ?_
                    refine gs rfl ?_
                    refine and_3 (Nat.le_of_ble_eq_true rfl) rfl (vin rfl) ?_
                    refine gs rfl ?_
                    refine gs rfl ?_
                    refine gs rfl ?_
                    refine gs rfl ?_
                    refine gs rfl ?_
                    refine gs rfl ?_
                    refine gs rfl ?_
                    refine gs rfl ?_
                    refine gs rfl ?_
                    refine gs rfl ?_
                    refine gs rfl ?_
                    refine gs rfl ?_
                    refine gs rfl ?_
                    refine gs rfl ?_
                    refine and_3 (Nat.le_of_ble_eq_true rfl) rfl (vin rfl) ?_
                    refine gs rfl ?_
                    refine gs rfl ?_
                    refine gs rfl ?_
                    refine gs rfl ?_
                    refine gs rfl ?_
                    refine gs rfl ?_
                    refine gs rfl ?_
                    refine gs rfl ?_
                    refine gs rfl ?_
                    refine gs rfl ?_
                    refine gs rfl ?_
                    refine gs rfl ?_
                    refine gs rfl ?_
                    refine gs rfl ?_
                    refine and_3 (Nat.le_of_ble_eq_true rfl) rfl (vin rfl) ?_
                    refine gs rfl ?_
                    refine gs rfl ?_
                    refine gs rfl ?_
                    refine gs rfl ?_
                    refine gs rfl ?_
                    refine gs rfl ?_
                    refine gs rfl ?_
                    refine gs rfl ?_
                    refine gs rfl ?_
                    refine gs rfl ?_
                    refine gs rfl ?_
                    refine gs rfl ?_
                    refine gs rfl ?_
                    refine gs rfl ?_
                    refine and_3 (Nat.le_of_ble_eq_true rfl) rfl (vin rfl) ?_
                    refine gs rfl ?_
                    refine gs rfl ?_
                    refine gs rfl ?_
                    refine gs rfl ?_
                    refine gs rfl ?_
                    refine gs rfl ?_
                    refine gs rfl ?_
                    refine gs rfl ?_
                    refine gs rfl ?_
                    refine gs rfl ?_
                    refine gs rfl ?_
                    refine gs rfl ?_
                    refine gs rfl ?_
                    refine gs rfl ?_
                    refine and_3 (Nat.le_of_ble_eq_true rfl) rfl (vin rfl) ?_
                    refine gs rfl ?_
                    refine gs rfl ?_
                    refine gs rfl ?_
                    refine gs rfl ?_
                    refine gs rfl ?_
                    refine gs rfl ?_
                    refine gs rfl ?_
                    refine gs rfl ?_
                    refine gs rfl ?_
                    refine gs rfl ?_
                    refine gs rfl ?_
                    refine gs rfl ?_
                    refine gs rfl ?_
                    refine gs rfl ?_
                    refine and_3 (Nat.le_of_ble_eq_true rfl) rfl (vin rfl) ?_
                    refine gs rfl ?_
                    refine gs rfl ?_
                    refine gs rfl ?_
                    refine gs rfl ?_
                    refine gs rfl ?_
                    refine gs rfl ?_
                    refine gs rfl ?_
                    refine gs rfl ?_
                    refine gs rfl ?_
                    refine gs rfl ?_
                    refine gs rfl ?_
                    refine gs rfl ?_
                    refine gs rfl ?_
                    refine gs rfl ?_
                    refine and_3 (Nat.le_of_ble_eq_true rfl) rfl (vin rfl) ?_
                    refine gs rfl ?_
                    refine gs rfl ?_
                    refine gs rfl ?_
                    refine gs rfl ?_
                    refine gs rfl ?_
                    refine gs rfl ?_
                    refine gs rfl ?_
                    refine gs rfl ?_
                    refine gs rfl ?_
                    refine gs rfl ?_
                    refine gs rfl ?_
                    refine gs rfl ?_
                    refine gs rfl ?_
                    refine gs rfl ?_
                    refine and_3 (Nat.le_of_ble_eq_true rfl) rfl (vin rfl) ?_
                    refine gs rfl ?_
                    refine gs rfl ?_
                    refine gs rfl ?_
                    refine gs rfl ?_
                    refine gs rfl ?_
                    refine gs rfl ?_
                    refine gs rfl ?_
                    refine gs rfl ?_
                    refine gs rfl ?_
                    refine gs rfl ?_
                    refine gs rfl ?_
                    refine gs rfl ?_
                    refine gs rfl ?_
                    refine gs rfl ?_
                    refine and_3 (Nat.le_of_ble_eq_true rfl) rfl (vin rfl) ?_
                    refine gs rfl ?_
                    refine gs rfl ?_
                    refine gs rfl ?_
                    refine gs rfl ?_
                    refine gs rfl ?_
                    refine gs rfl ?_
                    refine gs rfl ?_
                    refine gs rfl ?_
                    refine gs rfl ?_
                    refine gs rfl ?_
                    refine gs rfl ?_
                    refine gs rfl ?_
                    refine gs rfl ?_
                    refine gs rfl ?_
                    refine and_3 (Nat.le_of_ble_eq_true rfl) rfl (vin rfl) ?_
                    refine gs rfl ?_
                    refine gs rfl ?_
                    refine gs rfl ?_
                    refine gs rfl ?_
                    refine gs rfl ?_
                    refine gs rfl ?_
                    refine gs rfl ?_
                    refine and_i rfl ?_
                    refine gs rfl ?_
                    refine gs rfl ?_
                    refine gs rfl ?_
                    refine gs rfl ?_
                    refine gs rfl ?_
                    refine gs rfl ?_
                    refine and_i (Or.inl rfl) ?_
                    refine gwst (congrArg (fun z => Value.int z :: _) (alen_k (n := 6) (by rfl))) ?_
                    refine gs rfl ?_
                    refine gs rfl ?_
                    refine gs rfl ?_
                    refine gs rfl ?_
                    refine gs rfl ?_
                    refine and_2 rfl (Or.inr rfl) ?_
                    exact rfl
                  · have x36q : s1 = (3 : Int32) := x36
                    clear x36
                    subst x36q
                    refine gs rfl ?_
                    refine and_2 (Nat.le_of_ble_eq_true rfl) (vin rfl) ?_
                    refine and_2 rfl (fun z q => by cases q) ?_
                    refine gs rfl ?_
                    refine gs rfl ?_
                    refine gs rfl ?_
                    refine and_i (Nat.le_of_ble_eq_true rfl) (cl0 (Nat.le_of_ble_eq_true rfl) (and_i (Nat.le_of_ble_eq_true rfl) ?_))
                    refine gs rfl ?_
                    refine gs rfl ?_
                    refine gs rfl ?_
                    refine and_3 (Nat.le_of_ble_eq_true rfl) (Nat.le_of_ble_eq_true rfl) trivial ?_
                    refine gs rfl ?_
                    refine gs rfl ?_
                    refine gs rfl ?_
                    refine and_3 (Nat.le_of_ble_eq_true rfl) (Nat.le_of_ble_eq_true rfl) trivial ?_
                    refine gs rfl ?_
                    refine gs rfl ?_
                    refine gs rfl ?_
                    refine gs rfl ?_
                    refine and_i (Nat.le_of_ble_eq_true rfl) (cl0 (Nat.le_of_ble_eq_true rfl) (and_i (Nat.le_of_ble_eq_true rfl) ?_))
                    refine gs rfl ?_
                    refine gs rfl ?_
                    refine gs rfl ?_
                    refine gs rfl ?_
                    refine and_i (Or.inl rfl) ?_
                    refine gwst (congrArg (fun z => Value.int z :: _) (alen_k (n := 40) (by rfl))) ?_
                    refine gs rfl ?_
                    refine gs rfl ?_
                    refine gs rfl ?_
                    refine gs rfl ?_
                    refine gs rfl ?_
                    refine gs rfl ?_
                    refine gs rfl ?_
                    refine gs rfl ?_
                    refine and_3 (Nat.le_of_ble_eq_true rfl) rfl (vin rfl) ?_
                    refine gs rfl ?_
                    refine gs rfl ?_
                    refine gs rfl ?_
                    refine gs rfl ?_
                    refine gs rfl ?_
                    refine gs rfl ?_
                    refine gs rfl ?_
                    refine gs rfl ?_
                    refine gs rfl ?_
                    refine and_3 (Nat.le_of_ble_eq_true rfl) rfl (vin rfl) ?_
                    refine gs rfl ?_
                    refine gs rfl ?_
                    refine gs rfl ?_
                    refine gs rfl ?_
                    refine gs rfl ?_
                    refine gs rfl ?_
                    refine gs rfl ?_
                    refine gs rfl ?_
                    refine gs rfl ?_
                    refine and_3 (Nat.le_of_ble_eq_true rfl) rfl (vin rfl) ?_
                    refine gs rfl ?_
                    refine gs rfl ?_
                    refine gs rfl ?_
                    refine gs rfl ?_
                    refine gs rfl ?_
                    refine gs rfl ?_
                    refine gs rfl ?_
                    refine gs rfl ?_
                    refine gs rfl ?_
                    refine and_3 (Nat.le_of_ble_eq_true rfl) rfl (vin rfl) ?_
                    refine gs rfl ?_
                    refine gs rfl ?_
                    refine gs rfl ?_
                    refine gs rfl ?_
                    refine gs rfl ?_
                    refine gs rfl ?_
                    refine gs rfl ?_
                    refine gs rfl ?_
                    refine gs rfl ?_
                    refine and_3 (Nat.le_of_ble_eq_true rfl) rfl (vin rfl) ?_
                    refine gs rfl ?_
                    refine gs rfl ?_
                    refine gs rfl ?_
                    refine gs rfl ?_
                    refine gs rfl ?_
                    refine gs rfl ?_
                    refine gs rfl ?_
                    refine gs rfl ?_
                    refine gs rfl ?_
                    refine and_3 (Nat.le_of_ble_eq_true rfl) rfl (vin rfl) ?_
                    refine gs rfl ?_
                    refine gs rfl ?_
                    refine gs rfl ?_
                    refine gs rfl ?_
                    refine gs rfl ?_
                    refine gs rfl ?_
                    refine gs rfl ?_
                    refine gs rfl ?_
                    refine gs rfl ?_
                    refine and_3 (Nat.le_of_ble_eq_true rfl) rfl (vin rfl) ?_
                    refine gs rfl ?_
                    refine gs rfl ?_
                    refine gs rfl ?_
                    refine gs rfl ?_
                    refine gs rfl ?_
                    refine gs rfl ?_
                    refine gs rfl ?_
                    refine gs rfl ?_
                    refine gs rfl ?_
                    refine and_3 (Nat.le_of_ble_eq_true rfl) rfl (vin rfl) ?_
                    refine gs rfl ?_
                    refine gs rfl ?_
                    refine gs rfl ?_
                    refine gs rfl ?_
                    refine gs rfl ?_
                    refine gs rfl ?_
                    refine gs rfl ?_
                    refine gs rfl ?_
                    refine gs rfl ?_
                    refine and_3 (Nat.le_of_ble_eq_true rfl) rfl (vin rfl) ?_
                    refine gs rfl ?_
                    refine gs rfl ?_
                    refine gs rfl ?_
                    refine gs rfl ?_
                    refine gs rfl ?_
                    refine gs rfl ?_
                    refine gs rfl ?_
                    refine gs rfl ?_
                    refine gs rfl ?_
                    refine and_3 (Nat.le_of_ble_eq_true rfl) rfl (vin rfl) ?_
                    refine gs rfl ?_
                    refine gs rfl ?_
                    refine gs rfl ?_
                    refine gs rfl ?_
                    refine gs rfl ?_
                    refine gs rfl ?_
                    refine gs rfl ?_
                    refine gs rfl ?_
                    refine gs rfl ?_
                    refine and_3 (Nat.le_of_ble_eq_true rfl) rfl (vin rfl) ?_
                    refine gs rfl ?_
                    refine gs rfl ?_
                    refine gs rfl ?_
                    refine gs rfl ?_
                    refine gs rfl ?_
                    refine gs rfl ?_
                    refine gs rfl ?_
                    refine gs rfl ?_
                    refine gs rfl ?_
                    refine and_3 (Nat.le_of_ble_eq_true rfl) rfl (vin rfl) ?_
                    refine gs rfl ?_
                    refine gs rfl ?_
                    refine gs rfl ?_
                    refine gs rfl ?_
                    refine gs rfl ?_
                    refine gs rfl ?_
                    refine gs rfl ?_
                    refine gs rfl ?_
                    refine gs rfl ?_
                    refine and_3 (Nat.le_of_ble_eq_true rfl) rfl (vin rfl) ?_
                    refine gs rfl ?_
                    refine gs rfl ?_
                    refine gs rfl ?_
                    refine gs rfl ?_
                    refine gs rfl ?_
                    refine gs rfl ?_
                    refine gs rfl ?_
                    refine gs rfl ?_
                    refine gs rfl ?_
                    refine and_3 (Nat.le_of_ble_eq_true rfl) rfl (vin rfl) ?_
                    refine gs rfl ?_
                    refine gs rfl ?_
                    refine gs rfl ?_
                    refine gs rfl ?_
                    refine gs rfl ?_
                    refine gs rfl ?_
                    refine gs rfl ?_
                    refine gs rfl ?_
                    refine gs rfl ?_
                    refine and_3 (Nat.le_of_ble_eq_true rfl) rfl (vin rfl) ?_
                    refine gs rfl ?_
                    refine gs rfl ?_
                    refine gs rfl ?_
                    refine gs rfl ?_
                    refine gs rfl ?_
                    refine gs rfl ?_
                    refine gs rfl ?_
                    refine gs rfl ?_
                    refine gs rfl ?_
                    refine and_3 (Nat.le_of_ble_eq_true rfl) rfl (vin rfl) ?_
                    refine gs rfl ?_
                    refine gs rfl ?_
                    refine gs rfl ?_
                    refine gs rfl ?_
                    refine gs rfl ?_
                    refine gs rfl ?_
                    refine gs rfl ?_
                    refine gs rfl ?_
                    refine gs rfl ?_
                    refine and_3 (Nat.le_of_ble_eq_true rfl) rfl (vin rfl) ?_
                    refine gs rfl ?_
                    refine gs rfl ?_
                    refine gs rfl ?_
                    refine gs rfl ?_
                    refine gs rfl ?_
                    refine gs rfl ?_
                    refine gs rfl ?_
                    refine gs rfl ?_
                    refine gs rfl ?_
                    refine and_3 (Nat.le_of_ble_eq_true rfl) rfl (vin rfl) ?_
                    refine gs rfl ?_
                    refine gs rfl ?_
                    refine gs rfl ?_
                    refine gs rfl ?_
                    refine gs rfl ?_
                    refine gs rfl ?_
                    refine gs rfl ?_
                    refine gs rfl ?_
                    refine gs rfl ?_
                    refine and_3 (Nat.le_of_ble_eq_true rfl) rfl (vin rfl) ?_
                    refine gs rfl ?_
                    refine gs rfl ?_
                    refine gs rfl ?_
                    refine gs rfl ?_
                    refine gs rfl ?_
                    refine gs rfl ?_
                    refine gs rfl ?_
                    refine gs rfl ?_
                    refine gs rfl ?_
                    refine and_3 (Nat.le_of_ble_eq_true rfl) rfl (vin rfl) ?_
                    refine gs rfl ?_
                    refine gs rfl ?_
                    refine gs rfl ?_
                    refine gs rfl ?_
                    refine gs rfl ?_
                    refine gs rfl ?_
                    refine gs rfl ?_
                    refine gs rfl ?_
                    refine gs rfl ?_
                    refine and_3 (Nat.le_of_ble_eq_true rfl) rfl (vin rfl) ?_
                    refine gs rfl ?_
                    refine gs rfl ?_
                    refine gs rfl ?_
                    refine gs rfl ?_
                    refine gs rfl ?_
                    refine gs rfl ?_
                    refine gs rfl ?_
                    refine gs rfl ?_
                    refine gs rfl ?_
                    refine and_3 (Nat.le_of_ble_eq_true rfl) rfl (vin rfl) ?_
                    refine gs rfl ?_
                    refine gs rfl ?_
                    refine gs rfl ?_
                    refine gs rfl ?_
                    refine gs rfl ?_
                    refine gs rfl ?_
                    refine gs rfl ?_
                    refine gs rfl ?_
                    refine gs rfl ?_
                    refine and_3 (Nat.le_of_ble_eq_true rfl) rfl (vin rfl) ?_
                    refine gs rfl ?_
                    refine gs rfl ?_
                    refine gs rfl ?_
                    refine gs rfl ?_
                    refine gs rfl ?_
                    refine gs rfl ?_
                    refine gs rfl ?_
                    refine gs rfl ?_
                    refine gs rfl ?_
                    refine and_3 (Nat.le_of_ble_eq_true rfl) rfl (vin rfl) ?_
                    refine gs rfl ?_
                    refine gs rfl ?_
                    refine gs rfl ?_
                    refine gs rfl ?_
                    refine gs rfl ?_
                    refine gs rfl ?_
                    refine gs rfl ?_
                    refine gs rfl ?_
                    refine gs rfl ?_
                    refine and_3 (Nat.le_of_ble_eq_true rfl) rfl (vin rfl) ?_
                    refine gs rfl ?_
                    refine gs rfl ?_
                    refine gs rfl ?_
                    refine gs rfl ?_
                    refine gs rfl ?_
                    refine gs rfl ?_
                    refine gs rfl ?_
                    refine gs rfl ?_
                    refine gs rfl ?_
                    refine and_3 (Nat.le_of_ble_eq_true rfl) rfl (vin rfl) ?_
                    refine gs rfl ?_
                    refine gs rfl ?_
                    refine gs rfl ?_
                    refine gs rfl ?_
                    refine gs rfl ?_
                    refine gs rfl ?_
                    refine gs rfl ?_
                    refine gs rfl ?_
                    refine gs rfl ?_
                    refine and_3 (Nat.le_of_ble_eq_true rfl) rfl (vin rfl) ?_
                    refine gs rfl ?_
                    refine gs rfl ?_
                    refine gs rfl ?_
                    refine gs rfl ?_
                    refine gs rfl ?_
                    refine gs rfl ?_
                    refine gs rfl ?_
                    refine gs rfl ?_
                    refine gs rfl ?_
                    refine and_3 (Nat.le_of_ble_eq_true rfl) rfl (vin rfl) ?_
                    refine gs rfl ?_
                    refine gs rfl ?_
                    refine gs rfl ?_
                    refine gs rfl ?_
                    refine gs rfl ?_
                    refine gs rfl ?_
                    refine gs rfl ?_
                    refine gs rfl ?_
                    refine gs rfl ?_
                    refine and_3 (Nat.le_of_ble_eq_true rfl) rfl (vin rfl) ?_
                    refine gs rfl ?_
                    refine gs rfl ?_
                    refine gs rfl ?_
                    refine gs rfl ?_
                    refine gs rfl ?_
                    refine gs rfl ?_
                    refine gs rfl ?_
                    refine gs rfl ?_
                    refine gs rfl ?_
                    refine and_3 (Nat.le_of_ble_eq_true rfl) rfl (vin rfl) ?_
                    refine gs rfl ?_
                    refine gs rfl ?_
                    refine gs rfl ?_
                    refine gs rfl ?_
                    refine gs rfl ?_
                    refine gs rfl ?_
                    refine gs rfl ?_
                    refine gs rfl ?_
                    refine gs rfl ?_
                    refine and_3 (Nat.le_of_ble_eq_true rfl) rfl (vin rfl) ?_
                    refine gs rfl ?_
                    refine gs rfl ?_
                    refine gs rfl ?_
                    refine gs rfl ?_
                    refine gs rfl ?_
                    refine gs rfl ?_
                    refine gs rfl ?_
                    refine gs rfl ?_
                    refine gs rfl ?_
                    refine and_3 (Nat.le_of_ble_eq_true rfl) rfl (vin rfl) ?_
                    refine gs rfl ?_
                    refine gs rfl ?_
                    refine gs rfl ?_
                    refine gs rfl ?_
                    refine gs rfl ?_
                    refine gs rfl ?_
                    refine gs rfl ?_
                    refine gs rfl ?_
                    refine gs rfl ?_
                    refine and_3 (Nat.le_of_ble_eq_true rfl) rfl (vin rfl) ?_
                    refine gs rfl ?_
                    refine gs rfl ?_
                    refine gs rfl ?_
                    refine gs rfl ?_
                    refine gs rfl ?_
                    refine gs rfl ?_
                    refine gs rfl ?_
                    refine gs rfl ?_
                    refine gs rfl ?_
                    refine and_3 (Nat.le_of_ble_eq_true rfl) rfl (vin rfl) ?_
                    refine gs rfl ?_
                    refine gs rfl ?_
                    refine gs rfl ?_
                    refine gs rfl ?_
                    refine gs rfl ?_
                    refine gs rfl ?_
                    refine gs rfl ?_
                    refine gs rfl ?_
                    refine gs rfl ?_
                    refine and_3 (Nat.le_of_ble_eq_true rfl) rfl (vin rfl) ?_
                    refine gs rfl ?_
                    refine gs rfl ?_
                    refine gs rfl ?_
                    refine gs rfl ?_
                    refine gs rfl ?_
                    refine gs rfl ?_
                    refine gs rfl ?_
                    refine gs rfl ?_
                    refine gs rfl ?_
                    refine and_3 (Nat.le_of_ble_eq_true rfl) rfl (vin rfl) ?_
                    refine gs rfl ?_
                    refine gs rfl ?_
                    refine gs rfl ?_
                    refine gs rfl ?_
                    refine gs rfl ?_
                    refine gs rfl ?_
                    refine gs rfl ?_
                    refine gs rfl ?_
                    refine gs rfl ?_
                    refine and_3 (Nat.le_of_ble_eq_true rfl) rfl (vin rfl) ?_
                    refine gs rfl ?_
                    refine gs rfl ?_
                    refine gs rfl ?_
                    refine gs rfl ?_
                    refine gs rfl ?_
                    refine gs rfl ?_
                    refine gs rfl ?_
                    refine gs rfl ?_
                    refine gs rfl ?_
                    refine and_3 (Nat.le_of_ble_eq_true rfl) rfl (vin rfl) ?_
                    refine gs rfl ?_
                    refine gs rfl ?_
                    refine gs rfl ?_
                    refine gs rfl ?_
                    refine gs rfl ?_
                    refine gs rfl ?_
                    refine gs rfl ?_
                    refine gs rfl ?_
                    refine gs rfl ?_
                    refine and_3 (Nat.le_of_ble_eq_true rfl) rfl (vin rfl) ?_
                    refine gs rfl ?_
                    refine gs rfl ?_
                    refine gs rfl ?_
                    refine gs rfl ?_
                    refine gs rfl ?_
                    refine gs rfl ?_
                    refine gs rfl ?_
                    refine gs rfl ?_
                    refine gs rfl ?_
                    refine and_3 (Nat.le_of_ble_eq_true rfl) rfl (vin rfl) ?_
                    refine gs rfl ?_
                    refine gs rfl ?_
                    refine gs rfl ?_
                    refine gs rfl ?_
                    refine gs rfl ?_
                    refine gs rfl ?_
                    refine and_i rfl ?_
                    refine gs rfl ?_
                    refine and_i rfl ?_
                    refine gs rfl ?_
                    refine gs rfl ?_
                    refine and_i rfl ?_
                    refine FRg rfl (fun f => ?_)
                    refine gs rfl ?_
                    refine gs rfl ?_
                    refine gs rfl ?_
                    refine gs rfl ?_
                    refine gs rfl ?_
                    refine gs rfl ?_
                    refine and_2 rfl (vin rfl) ?_
                    refine gs rfl ?_
                    refine gs rfl ?_
                    refine gs rfl ?_
                    refine gs rfl ?_
                    refine gs rfl ?_
                    refine and_2 rfl (vin rfl) ?_
                    refine gs rfl ?_
                    refine gs rfl ?_
                    refine gs rfl ?_
                    refine gs rfl ?_
                    refine gs rfl ?_
                    refine and_2 rfl (vin rfl) ?_
                    refine gs rfl ?_
                    refine and_i (Nat.le_of_ble_eq_true rfl) (cl0 (Nat.le_of_ble_eq_true rfl) (and_i (Nat.le_of_ble_eq_true rfl) ?_))
                    refine gs rfl ?_
                    refine gs rfl ?_
                    refine and_i (Nat.le_of_ble_eq_true rfl) (cl0 (Nat.le_of_ble_eq_true rfl) (and_i (Nat.le_of_ble_eq_true rfl) ?_))
                    refine gs rfl ?_
                    refine gs rfl ?_
                    refine gs rfl ?_
                    refine gs rfl ?_
                    refine and_i (Nat.le_of_ble_eq_true rfl) (cl0 (Nat.le_of_ble_eq_true rfl) (and_i (Nat.le_of_ble_eq_true rfl) ?_))
                    refine gs rfl ?_
                    refine gs rfl ?_
                    refine gs rfl ?_
                    refine gs rfl ?_
                    refine gs rfl ?_
                    refine gs rfl ?_
                    refine gs rfl ?_
                    refine gs rfl ?_
                    refine gs rfl ?_
                    refine and_2 rfl (Or.inr rfl) ?_
                    refine gs rfl ?_
                    refine and_2 rfl (Or.inr rfl) ?_
                    refine gs rfl ?_
                    refine gs rfl ?_
                    refine gs rfl ?_
                    refine ifF ((fun q => absurd ((eq_k (a := (s2).toInt) (b := 0) (by rfl) (by rfl)).mp q) (by omega))) ?_
                    refine gs rfl ?_
                    refine gs rfl ?_
                    refine gs rfl ?_
                    refine ifF ((fun q => absurd ((eq_k (a := (s2).toInt) (b := 8) (by rfl) (by rfl)).mp q) (by omega))) ?_
                    refine gs rfl ?_
                    refine gs rfl ?_
                    refine gs rfl ?_
                    refine ifF ((fun q => absurd ((eq_k (a := (s2).toInt) (b := 16) (by rfl) (by rfl)).mp q) (by omega))) ?_
                    refine gs rfl ?_
                    refine gs rfl ?_
                    refine gs rfl ?_
                    refine ifT ((eq_k (a := (s2).toInt) (b := 32) (by rfl) (by rfl)).mpr (by omega)) ?_
                    refine gs rfl ?_
                    refine gs rfl ?_
                    refine ifF ((fun q => absurd ((eq_k (a := (s2).toInt) (b := 0) (by rfl) (by rfl)).mp q) (by omega))) ?_
                    refine gs rfl ?_
                    refine gs rfl ?_
                    refine ifT ((le_k (a := 0) (b := (s3).toInt) (by rfl) (by rfl)).mpr (by omega)) ?_
                    refine gs rfl ?_
                    refine gs rfl ?_
                    refine ifF ((fun q => absurd ((eq_k (a := (s2).toInt) (b := 0) (by rfl) (by rfl)).mp q) (by omega))) ?_
                    refine gs rfl ?_
                    refine gs rfl ?_
                    refine gs rfl ?_
                    refine ifT ((le_k (a := (s3).toInt) (b := 40) (by rfl) (by rfl)).mpr (by omega)) ?_
                    refine gs rfl ?_
                    refine gs rfl ?_
                    refine gs rfl ?_
                    refine gs rfl ?_
                    refine gs rfl ?_
                    refine and_3 (Nat.le_of_ble_eq_true rfl) rfl (vin rfl) ?_
                    refine gs rfl ?_
                    refine gs rfl ?_
                    refine gs rfl ?_
                    refine gs rfl ?_
                    refine gs rfl ?_
                    refine ifF ((fun q => absurd ((eq_k (a := (s2).toInt) (b := 0) (by rfl) (by rfl)).mp q) (by omega))) ?_
                    refine gs rfl ?_
                    refine gs rfl ?_
                    refine and_3 (Nat.le_of_ble_eq_true rfl) rfl (vin rfl) ?_
                    refine gs rfl ?_
                    refine gs rfl ?_
                    refine gs rfl ?_
                    refine gs rfl ?_
                    refine gs rfl ?_
                    refine gs rfl ?_
                    refine gs rfl ?_
                    refine gs rfl ?_
                    refine gs rfl ?_
                    refine gs rfl ?_
                    refine gs rfl ?_
                    refine gs rfl ?_
                    refine gs rfl ?_
                    refine gs rfl ?_
                    refine and_3 (Nat.le_of_ble_eq_true rfl) rfl (vin rfl) ?_
                    refine gs rfl ?_
                    refine gs rfl ?_
                    refine gs rfl ?_
                    refine gs rfl ?_
                    refine gs rfl ?_
                    refine gs rfl ?_
                    refine gs rfl ?_
                    refine gs rfl ?_
                    refine gs rfl ?_
                    refine gs rfl ?_
                    refine gs rfl ?_
                    refine gs rfl ?_
                    refine gs rfl ?_
                    refine gs rfl ?_
                    refine and_3 (Nat.le_of_ble_eq_true rfl) rfl (vin rfl) ?_
                    refine gs rfl ?_
                    refine gs rfl ?_
                    refine gs rfl ?_
                    refine gs rfl ?_
                    refine gs rfl ?_
                    refine gs rfl ?_
                    refine gs rfl ?_
                    refine gs rfl ?_
                    refine gs rfl ?_
                    refine gs rfl ?_
                    refine gs rfl ?_
                    refine gs rfl ?_
                    refine gs rfl ?_
                    refine gs rfl ?_
                    refine and_3 (Nat.le_of_ble_eq_true rfl) rfl (vin rfl) ?_
                    refine gs rfl ?_
                    refine gs rfl ?_
                    refine gs rfl ?_
                    refine gs rfl ?_
                    refine gs rfl ?_
                    refine gs rfl ?_
                    refine gs rfl ?_
                    refine gs rfl ?_
                    refine gs rfl ?_
                    refine gs rfl ?_
                    refine gs rfl ?_
                    refine gs rfl ?_
                    refine gs rfl ?_
                    refine gs rfl ?_
                    refine and_3 (Nat.le_of_ble_eq_true rfl) rfl (vin rfl) ?_
                    refine gs rfl ?_
                    refine gs rfl ?_
                    refine gs rfl ?_
                    refine gs rfl ?_
                    refine gs rfl ?_
                    refine gs rfl ?_
                    refine gs rfl ?_
                    refine gs rfl ?_
                    refine gs rfl ?_
                    refine gs rfl ?_
                    refine gs rfl ?_
                    refine gs rfl ?_
                    refine gs rfl ?_
                    refine gs rfl ?_
                    refine and_3 (Nat.le_of_ble_eq_true rfl) rfl (vin rfl) ?_
                    refine gs rfl ?_
                    refine gs rfl ?_
                    refine gs rfl ?_
                    refine gs rfl ?_
                    refine gs rfl ?_
                    refine gs rfl ?_
                    refine gs rfl ?_
                    refine gs rfl ?_
                    refine gs rfl ?_
                    refine gs rfl ?_
                    refine gs rfl ?_
                    refine gs rfl ?_
                    refine gs rfl ?_
                    refine gs rfl ?_
                    refine and_3 (Nat.le_of_ble_eq_true rfl) rfl (vin rfl) ?_
                    refine gs rfl ?_
                    refine gs rfl ?_
                    refine gs rfl ?_
                    refine gs rfl ?_
                    refine gs rfl ?_
                    refine gs rfl ?_
                    refine gs rfl ?_
                    refine gs rfl ?_
                    refine gs rfl ?_
                    refine gs rfl ?_
                    refine gs rfl ?_
                    refine gs rfl ?_
                    refine gs rfl ?_
                    refine gs rfl ?_
                    refine and_3 (Nat.le_of_ble_eq_true rfl) rfl (vin rfl) ?_
                    refine gs rfl ?_
                    refine gs rfl ?_
                    refine gs rfl ?_
                    refine gs rfl ?_
                    refine gs rfl ?_
                    refine gs rfl ?_
                    refine gs rfl ?_
                    refine gs rfl ?_
                    refine gs rfl ?_
                    refine gs rfl ?_
                    refine gs rfl ?_
                    refine gs rfl ?_
                    refine gs rfl ?_
                    refine gs rfl ?_
                    refine and_3 (Nat.le_of_ble_eq_true rfl) rfl (vin rfl) ?_
                    refine gs rfl ?_
                    refine gs rfl ?_
                    refine gs rfl ?_
                    refine gs rfl ?_
                    refine gs rfl ?_
                    refine gs rfl ?_
                    refine gs rfl ?_
                    refine gs rfl ?_
                    refine gs rfl ?_
                    refine gs rfl ?_
                    refine gs rfl ?_
                    refine gs rfl ?_
                    refine gs rfl ?_
                    refine gs rfl ?_
                    refine and_3 (Nat.le_of_ble_eq_true rfl) rfl (vin rfl) ?_
                    refine gs rfl ?_
                    refine gs rfl ?_
                    refine gs rfl ?_
                    refine gs rfl ?_
                    refine gs rfl ?_
                    refine gs rfl ?_
                    refine gs rfl ?_
                    refine gs rfl ?_
                    refine gs rfl ?_
                    refine gs rfl ?_
                    refine gs rfl ?_
                    refine gs rfl ?_
                    refine gs rfl ?_
                    refine gs rfl ?_
                    refine and_3 (Nat.le_of_ble_eq_true rfl) rfl (vin rfl) ?_
                    refine gs rfl ?_
                    refine gs rfl ?_
                    refine gs rfl ?_
                    refine gs rfl ?_
                    refine gs rfl ?_
                    refine gs rfl ?_
                    refine gs rfl ?_
                    refine gs rfl ?_
                    refine gs rfl ?_
                    refine gs rfl ?_
                    refine gs rfl ?_
                    refine gs rfl ?_
                    refine gs rfl ?_
                    refine gs rfl ?_
                    refine and_3 (Nat.le_of_ble_eq_true rfl) rfl (vin rfl) ?_
                    refine gs rfl ?_
                    refine gs rfl ?_
                    refine gs rfl ?_
                    refine gs rfl ?_
                    refine gs rfl ?_
                    refine gs rfl ?_
                    refine gs rfl ?_
                    refine gs rfl ?_
                    refine gs rfl ?_
                    refine gs rfl ?_
                    refine gs rfl ?_
                    refine gs rfl ?_
                    refine gs rfl ?_
                    refine gs rfl ?_
                    refine and_3 (Nat.le_of_ble_eq_true rfl) rfl (vin rfl) ?_
                    refine gs rfl ?_
                    refine gs rfl ?_
                    refine gs rfl ?_
                    refine gs rfl ?_
                    refine gs rfl ?_
                    refine gs rfl ?_
                    refine gs rfl ?_
                    refine gs rfl ?_
                    refine gs rfl ?_
                    refine gs rfl ?_
                    refine gs rfl ?_
                    refine gs rfl ?_
                    refine gs rfl ?_
                    refine gs rfl ?_
                    refine and_3 (Nat.le_of_ble_eq_true rfl) rfl (vin rfl) ?_
                    refine gs rfl ?_
                    refine gs rfl ?_
                    refine gs rfl ?_
                    refine gs rfl ?_
                    refine gs rfl ?_
                    refine gs rfl ?_
                    refine gs rfl ?_
                    refine gs rfl ?_
                    refine gs rfl ?_
                    refine gs rfl ?_
                    refine gs rfl ?_
                    refine gs rfl ?_
                    refine gs rfl ?_
                    refine gs rfl ?_
                    refine and_3 (Nat.le_of_ble_eq_true rfl) rfl (vin rfl) ?_
                    refine gs rfl ?_
                    refine gs rfl ?_
                    refine gs rfl ?_
                    refine gs rfl ?_
                    refine gs rfl ?_
                    refine gs rfl ?_
                    refine gs rfl ?_
                    refine gs rfl ?_
                    refine gs rfl ?_
                    refine gs rfl ?_
                    refine gs rfl ?_
                    refine gs rfl ?_
                    refine gs rfl ?_
                    refine gs rfl ?_
                    refine and_3 (Nat.le_of_ble_eq_true rfl) rfl (vin rfl) ?_
                    refine gs rfl ?_
                    refine gs rfl ?_
                    refine gs rfl ?_
                    refine gs rfl ?_
                    refine gs rfl ?_
                    refine gs rfl ?_
                    refine gs rfl ?_
                    refine gs rfl ?_
                    refine gs rfl ?_
                    refine gs rfl ?_
                    refine gs rfl ?_
                    refine gs rfl ?_
                    refine gs rfl ?_
                    refine gs rfl ?_
                    refine and_3 (Nat.le_of_ble_eq_true rfl) rfl (vin rfl) ?_
                    refine gs rfl ?_
                    refine gs rfl ?_
                    refine gs rfl ?_
                    refine gs rfl ?_
                    refine gs rfl ?_
                    refine gs rfl ?_
                    refine gs rfl ?_
                    refine gs rfl ?_
                    refine gs rfl ?_
                    refine gs rfl ?_
                    refine gs rfl ?_
                    refine gs rfl ?_
                    refine gs rfl ?_
                    refine gs rfl ?_
                    refine and_3 (Nat.le_of_ble_eq_true rfl) rfl (vin rfl) ?_
                    refine gs rfl ?_
                    refine gs rfl ?_
                    refine gs rfl ?_
                    refine gs rfl ?_
                    refine gs rfl ?_
                    refine gs rfl ?_
                    refine gs rfl ?_
                    refine gs rfl ?_
                    refine gs rfl ?_
                    refine gs rfl ?_
                    refine gs rfl ?_
                    refine gs rfl ?_
                    refine gs rfl ?_
                    refine gs rfl ?_
                    refine and_3 (Nat.le_of_ble_eq_true rfl) rfl (vin rfl) ?_
                    refine gs rfl ?_
                    refine gs rfl ?_
                    refine gs rfl ?_
                    refine gs rfl ?_
                    refine gs rfl ?_
                    refine gs rfl ?_
                    refine gs rfl ?_
                    refine gs rfl ?_
                    refine gs rfl ?_
                    refine gs rfl ?_
                    refine gs rfl ?_
                    refine gs rfl ?_
                    refine gs rfl ?_
                    refine gs rfl ?_
                    refine and_3 (Nat.le_of_ble_eq_true rfl) rfl (vin rfl) ?_
                    refine gs rfl ?_
                    refine gs rfl ?_
                    refine gs rfl ?_
                    refine gs rfl ?_
                    refine gs rfl ?_
                    refine gs rfl ?_
                    refine gs rfl ?_
                    refine gs rfl ?_
                    refine gs rfl ?_
                    refine gs rfl ?_
                    refine gs rfl ?_
                    refine gs rfl ?_
                    refine gs rfl ?_
                    refine gs rfl ?_
                    refine and_3 (Nat.le_of_ble_eq_true rfl) rfl (vin rfl) ?_
                    refine gs rfl ?_
                    refine gs rfl ?_
                    refine gs rfl ?_
                    refine gs rfl ?_
                    refine gs rfl ?_
                    refine gs rfl ?_
                    refine gs rfl ?_
                    refine gs rfl ?_
                    refine gs rfl ?_
                    refine gs rfl ?_
                    refine gs rfl ?_
                    refine gs rfl ?_
                    refine gs rfl ?_
                    refine gs rfl ?_
                    refine and_3 (Nat.le_of_ble_eq_true rfl) rfl (vin rfl) ?_
                    refine gs rfl ?_
                    refine gs rfl ?_
                    refine gs rfl ?_
                    refine gs rfl ?_
                    refine gs rfl ?_
                    refine gs rfl ?_
                    refine gs rfl ?_
                    refine gs rfl ?_
                    refine gs rfl ?_
                    refine gs rfl ?_
                    refine gs rfl ?_
                    refine gs rfl ?_
                    refine gs rfl ?_
                    refine gs rfl ?_
                    refine and_3 (Nat.le_of_ble_eq_true rfl) rfl (vin rfl) ?_
                    refine gs rfl ?_
                    refine gs rfl ?_
                    refine gs rfl ?_
                    refine gs rfl ?_
                    refine gs rfl ?_
                    refine gs rfl ?_
                    refine gs rfl ?_
                    refine gs rfl ?_
                    refine gs rfl ?_
                    refine gs rfl ?_
                    refine gs rfl ?_
                    refine gs rfl ?_
                    refine gs rfl ?_
                    refine gs rfl ?_
                    refine and_3 (Nat.le_of_ble_eq_true rfl) rfl (vin rfl) ?_
                    refine gs rfl ?_
                    refine gs rfl ?_
                    refine gs rfl ?_
                    refine gs rfl ?_
                    refine gs rfl ?_
                    refine gs rfl ?_
                    refine gs rfl ?_
                    refine gs rfl ?_
                    refine gs rfl ?_
                    refine gs rfl ?_
                    refine gs rfl ?_
                    refine gs rfl ?_
                    refine gs rfl ?_
                    refine gs rfl ?_
                    refine and_3 (Nat.le_of_ble_eq_true rfl) rfl (vin rfl) ?_
                    refine gs rfl ?_
                    refine gs rfl ?_
                    refine gs rfl ?_
                    refine gs rfl ?_
                    refine gs rfl ?_
                    refine gs rfl ?_
                    refine gs rfl ?_
                    refine gs rfl ?_
                    refine gs rfl ?_
                    refine gs rfl ?_
                    refine gs rfl ?_
                    refine gs rfl ?_
                    refine gs rfl ?_
                    refine gs rfl ?_
                    refine and_3 (Nat.le_of_ble_eq_true rfl) rfl (vin rfl) ?_
                    refine gs rfl ?_
                    refine gs rfl ?_
                    refine gs rfl ?_
                    refine gs rfl ?_
                    refine gs rfl ?_
                    refine gs rfl ?_
                    refine gs rfl ?_
                    refine gs rfl ?_
                    refine gs rfl ?_
                    refine gs rfl ?_
                    refine gs rfl ?_
                    refine gs rfl ?_
                    refine gs rfl ?_
                    refine gs rfl ?_
                    refine and_3 (Nat.le_of_ble_eq_true rfl) rfl (vin rfl) ?_
                    refine gs rfl ?_
                    refine gs rfl ?_
                    refine gs rfl ?_
                    refine gs rfl ?_
                    refine gs rfl ?_
                    refine gs rfl ?_
                    refine gs rfl ?_
                    refine gs rfl ?_
                    refine gs rfl ?_
                    refine gs rfl ?_
                    refine gs rfl ?_
                    refine gs rfl ?_
                    refine gs rfl ?_
                    refine gs rfl ?_
                    refine and_3 (Nat.le_of_ble_eq_true rfl) rfl (vin rfl) ?_
                    refine gs rfl ?_
                    refine gs rfl ?_
                    refine gs rfl ?_
                    refine gs rfl ?_
                    refine gs rfl ?_
                    refine gs rfl ?_
                    refine gs rfl ?_
                    refine gs rfl ?_
                    refine gs rfl ?_
                    refine gs rfl ?_
                    refine gs rfl ?_
                    refine gs rfl ?_
                    refine gs rfl ?_
                    refine gs rfl ?_
                    refine and_3 (Nat.le_of_ble_eq_true rfl) rfl (vin rfl) ?_
                    refine gs rfl ?_
                    refine gs rfl ?_
                    refine gs rfl ?_
                    refine gs rfl ?_
                    refine gs rfl ?_
                    refine gs rfl ?_
                    refine gs rfl ?_
                    refine gs rfl ?_
                    refine gs rfl ?_
                    refine gs rfl ?_
                    refine gs rfl ?_
                    refine gs rfl ?_
                    refine gs rfl ?_
                    refine gs rfl ?_
                    refine and_3 (Nat.le_of_ble_eq_true rfl) rfl (vin rfl) ?_
                    refine gs rfl ?_
                    refine gs rfl ?_
                    refine gs rfl ?_
                    refine gs rfl ?_
                    refine gs rfl ?_
                    refine gs rfl ?_
                    refine gs rfl ?_
                    refine gs rfl ?_
                    refine gs rfl ?_
                    refine gs rfl ?_
                    refine gs rfl ?_
                    refine gs rfl ?_
                    refine gs rfl ?_
                    refine gs rfl ?_
                    refine and_3 (Nat.le_of_ble_eq_true rfl) rfl (vin rfl) ?_
                    refine gs rfl ?_
                    refine gs rfl ?_
                    refine gs rfl ?_
                    refine gs rfl ?_
                    refine gs rfl ?_
                    refine gs rfl ?_
                    refine gs rfl ?_
                    refine gs rfl ?_
                    refine gs rfl ?_
                    refine gs rfl ?_
                    refine gs rfl ?_
                    refine gs rfl ?_
                    refine gs rfl ?_
                    refine gs rfl ?_
                    refine and_3 (Nat.le_of_ble_eq_true rfl) rfl (vin rfl) ?_
                    refine gs rfl ?_
                    refine gs rfl ?_
                    refine gs rfl ?_
                    refine gs rfl ?_
                    refine gs rfl ?_
                    refine gs rfl ?_
                    refine gs rfl ?_
                    refine gs rfl ?_
                    refine gs rfl ?_
                    refine gs rfl ?_
                    refine gs rfl ?_
                    refine gs rfl ?_
                    refine gs rfl ?_
                    refine gs rfl ?_
                    refine and_3 (Nat.le_of_ble_eq_true rfl) rfl (vin rfl) ?_
                    refine gs rfl ?_
                    refine gs rfl ?_
                    refine gs rfl ?_
                    refine gs rfl ?_
                    refine gs rfl ?_
                    refine gs rfl ?_
                    refine gs rfl ?_
                    refine gs rfl ?_
                    refine gs rfl ?_
                    refine gs rfl ?_
                    refine gs rfl ?_
                    refine gs rfl ?_
                    refine gs rfl ?_
                    refine gs rfl ?_
                    refine and_3 (Nat.le_of_ble_eq_true rfl) rfl (vin rfl) ?_
                    refine gs rfl ?_
                    refine gs rfl ?_
                    refine gs rfl ?_
                    refine gs rfl ?_
                    refine gs rfl ?_
                    refine gs rfl ?_
                    refine gs rfl ?_
                    refine gs rfl ?_
                    refine gs rfl ?_
                    refine gs rfl ?_
                    refine gs rfl ?_
                    refine gs rfl ?_
                    refine gs rfl ?_
                    refine gs rfl ?_
                    refine and_3 (Nat.le_of_ble_eq_true rfl) rfl (vin rfl) ?_
                    refine gs rfl ?_
                    refine gs rfl ?_
                    refine gs rfl ?_
                    refine gs rfl ?_
                    refine gs rfl ?_
                    refine gs rfl ?_
                    refine gs rfl ?_
                    refine gs rfl ?_
                    refine gs rfl ?_
                    refine gs rfl ?_
                    refine gs rfl ?_
                    refine gs rfl ?_
                    refine gs rfl ?_
                    refine gs rfl ?_
                    refine and_3 (Nat.le_of_ble_eq_true rfl) rfl (vin rfl) ?_
                    refine gs rfl ?_
                    refine gs rfl ?_
                    refine gs rfl ?_
                    refine gs rfl ?_
                    refine gs rfl ?_
                    refine gs rfl ?_
                    refine gs rfl ?_
                    refine gs rfl ?_
                    refine gs rfl ?_
                    refine gs rfl ?_
                    refine gs rfl ?_
                    refine gs rfl ?_
                    refine gs rfl ?_
                    refine gs rfl ?_
                    refine and_3 (Nat.le_of_ble_eq_true rfl) rfl (vin rfl) ?_
                    refine gs rfl ?_
                    refine gs rfl ?_
                    refine gs rfl ?_
                    refine gs rfl ?_
                    refine gs rfl ?_
                    refine gs rfl ?_
                    refine gs rfl ?_
                    refine gs rfl ?_
                    refine gs rfl ?_
                    refine gs rfl ?_
                    refine gs rfl ?_
                    refine gs rfl ?_
                    refine gs rfl ?_
                    refine gs rfl ?_
                    refine and_3 (Nat.le_of_ble_eq_true rfl) rfl (vin rfl) ?_
                    refine gs rfl ?_
                    refine gs rfl ?_
                    refine gs rfl ?_
                    refine gs rfl ?_
                    refine gs rfl ?_
                    refine gs rfl ?_
                    refine gs rfl ?_
                    refine gs rfl ?_
                    refine gs rfl ?_
                    refine gs rfl ?_
                    refine gs rfl ?_
                    refine gs rfl ?_
                    refine gs rfl ?_
                    refine gs rfl ?_
                    refine and_3 (Nat.le_of_ble_eq_true rfl) rfl (vin rfl) ?_
                    refine gs rfl ?_
                    refine gs rfl ?_
                    refine gs rfl ?_
                    refine gs rfl ?_
                    refine gs rfl ?_
                    refine gs rfl ?_
                    refine gs rfl ?_
                    refine gs rfl ?_
                    refine gs rfl ?_
                    refine gs rfl ?_
                    refine gs rfl ?_
                    refine gs rfl ?_
                    refine gs rfl ?_
                    refine gs rfl ?_
                    refine and_3 (Nat.le_of_ble_eq_true rfl) rfl (vin rfl) ?_
                    refine gs rfl ?_
                    refine gs rfl ?_
                    refine gs rfl ?_
                    refine gs rfl ?_
                    refine gs rfl ?_
                    refine gs rfl ?_
                    refine gs rfl ?_
                    refine gs rfl ?_
                    refine gs rfl ?_
                    refine gs rfl ?_
                    refine gs rfl ?_
                    refine gs rfl ?_
                    refine gs rfl ?_
                    refine gs rfl ?_
                    refine and_3 (Nat.le_of_ble_eq_true rfl) rfl (vin rfl) ?_
                    refine gs rfl ?_
                    refine gs rfl ?_
                    refine gs rfl ?_
                    refine gs rfl ?_
                    refine gs rfl ?_
                    refine gs rfl ?_
                    refine gs rfl ?_
                    refine and_i rfl ?_
                    refine gs rfl ?_
                    refine gs rfl ?_
                    refine gs rfl ?_
                    refine gs rfl ?_
                    refine gs rfl ?_
                    refine gs rfl ?_
                    refine and_i (Or.inl rfl) ?_
                    refine gwst (congrArg (fun z => Value.int z :: _) (alen_k (n := 6) (by rfl))) ?_
                    refine gs rfl ?_
                    refine gs rfl ?_
                    refine gs rfl ?_
                    refine gs rfl ?_
                    refine gs rfl ?_
                    refine and_2 rfl (Or.inr rfl) ?_
                    exact rfl
                · have d33 : ¬ ((s3).toInt ≤ 40) := fun q => c32 ((le_k (by rfl) (by rfl)).mpr q)
                  refine gs rfl ?_
                  refine gs rfl ?_
                  refine gs rfl ?_
                  refine and_i (Nat.le_of_ble_eq_true rfl) (cl0 (Nat.le_of_ble_eq_true rfl) (and_i (Nat.le_of_ble_eq_true rfl) ?_))
                  refine gs rfl ?_
                  refine gs rfl ?_
                  refine gs rfl ?_
                  refine gs rfl ?_
                  refine gs rfl ?_
                  refine and_2 rfl (vin rfl) ?_
                  refine gs rfl ?_
                  refine gs rfl ?_
                  refine gs rfl ?_
                  refine and_3 (Nat.le_of_ble_eq_true rfl) rfl (vin rfl) ?_
                  refine gs rfl ?_
                  refine gs rfl ?_
                  refine gs rfl ?_
                  refine gs rfl ?_
                  refine and_i rfl ?_
                  refine gs rfl ?_
                  refine and_i rfl ?_
                  refine FRg rfl (fun f => ?_)
                  refine gs rfl ?_
                  refine gs rfl ?_
                  refine gs rfl ?_
                  refine gs rfl ?_
                  refine gs rfl ?_
                  refine gs rfl ?_
                  refine and_2 rfl (vin rfl) ?_
                  refine gs rfl ?_
                  refine gs rfl ?_
                  refine gs rfl ?_
                  refine gs rfl ?_
                  refine gs rfl ?_
                  refine and_2 rfl (vin rfl) ?_
                  refine gs rfl ?_
                  refine gs rfl ?_
                  refine gs rfl ?_
                  refine gs rfl ?_
                  refine gs rfl ?_
                  refine and_2 rfl (vin rfl) ?_
                  refine gs rfl ?_
                  refine and_i (Nat.le_of_ble_eq_true rfl) (cl0 (Nat.le_of_ble_eq_true rfl) (and_i (Nat.le_of_ble_eq_true rfl) ?_))
                  refine gs rfl ?_
                  refine gs rfl ?_
                  refine and_i (Nat.le_of_ble_eq_true rfl) (cl0 (Nat.le_of_ble_eq_true rfl) (and_i (Nat.le_of_ble_eq_true rfl) ?_))
                  refine gs rfl ?_
                  refine gs rfl ?_
                  refine gs rfl ?_
                  refine gs rfl ?_
                  refine and_i (Nat.le_of_ble_eq_true rfl) (cl0 (Nat.le_of_ble_eq_true rfl) (and_i (Nat.le_of_ble_eq_true rfl) ?_))
                  refine gs rfl ?_
                  refine gs rfl ?_
                  refine gs rfl ?_
                  refine ifF ((fun q => absurd ((lt_k (a := (s1).toInt) (b := 0) (by rfl) (by rfl)).mp q) (by omega))) ?_
                  refine gs rfl ?_
                  refine gs rfl ?_
                  refine gs rfl ?_
                  refine ifF ((fun q => absurd ((lt_k (a := 3) (b := (s1).toInt) (by rfl) (by rfl)).mp q) (by omega))) ?_
                  refine gs rfl ?_
                  refine gs rfl ?_
                  refine gs rfl ?_
                  refine and_2 rfl (Or.inr rfl) ?_
                  refine gs rfl ?_
                  refine and_2 rfl (Or.inr rfl) ?_
                  refine gs rfl ?_
                  refine gs rfl ?_
                  refine gs rfl ?_
                  refine ifF ((fun q => absurd ((eq_k (a := (s2).toInt) (b := 0) (by rfl) (by rfl)).mp q) (by omega))) ?_
                  refine gs rfl ?_
                  refine gs rfl ?_
                  refine gs rfl ?_
                  refine ifF ((fun q => absurd ((eq_k (a := (s2).toInt) (b := 8) (by rfl) (by rfl)).mp q) (by omega))) ?_
                  refine gs rfl ?_
                  refine gs rfl ?_
                  refine gs rfl ?_
                  refine ifF ((fun q => absurd ((eq_k (a := (s2).toInt) (b := 16) (by rfl) (by rfl)).mp q) (by omega))) ?_
                  refine gs rfl ?_
                  refine gs rfl ?_
                  refine gs rfl ?_
                  refine ifT ((eq_k (a := (s2).toInt) (b := 32) (by rfl) (by rfl)).mpr (by omega)) ?_
                  refine gs rfl ?_
                  refine gs rfl ?_
                  refine ifF ((fun q => absurd ((eq_k (a := (s2).toInt) (b := 0) (by rfl) (by rfl)).mp q) (by omega))) ?_
                  refine gs rfl ?_
                  refine gs rfl ?_
                  refine ifT ((le_k (a := 0) (b := (s3).toInt) (by rfl) (by rfl)).mpr (by omega)) ?_
                  refine gs rfl ?_
                  refine gs rfl ?_
                  refine ifF ((fun q => absurd ((eq_k (a := (s2).toInt) (b := 0) (by rfl) (by rfl)).mp q) (by omega))) ?_
                  refine gs rfl ?_
                  refine gs rfl ?_
                  refine gs rfl ?_
                  refine ifF ((fun q => absurd ((le_k (a := (s3).toInt) (b := 40) (by rfl) (by rfl)).mp q) (by omega))) ?_
                  refine gs rfl ?_
                  refine gs rfl ?_
                  refine gs rfl ?_
                  refine and_i (Nat.le_of_ble_eq_true rfl) (cl0 (Nat.le_of_ble_eq_true rfl) (and_i (Nat.le_of_ble_eq_true rfl) ?_))
                  refine gs rfl ?_
                  refine gs rfl ?_
                  refine gs rfl ?_
                  refine gs rfl ?_
                  refine gs rfl ?_
                  refine gs rfl ?_
                  refine gs rfl ?_
                  refine and_2 rfl (vin rfl) ?_
                  refine gs rfl ?_
                  refine gs rfl ?_
                  refine gs rfl ?_
                  refine and_3 (Nat.le_of_ble_eq_true rfl) rfl (vin rfl) ?_
                  refine gs rfl ?_
                  refine gs rfl ?_
                  refine and_i rfl ?_
                  refine gs rfl ?_
                  refine and_i rfl ?_
                  refine gs rfl ?_
                  refine gs rfl ?_
                  refine gs rfl ?_
                  refine gs rfl ?_
                  refine gs rfl ?_
                  refine gs rfl ?_
                  refine and_i (Or.inl rfl) ?_
                  refine gwst (congrArg (fun z => Value.int z :: _) (alen_k (n := 6) (by rfl))) ?_
                  refine gs rfl ?_
                  refine gs rfl ?_
                  refine gs rfl ?_
                  refine gs rfl ?_
                  refine gs rfl ?_
                  refine and_2 rfl (Or.inr rfl) ?_
                  exact rfl
              · have d31 : ¬ (0 ≤ (s3).toInt) := fun q => c30 ((le_k (by rfl) (by rfl)).mpr q)
                refine gs rfl ?_
                refine gs rfl ?_
                refine gs rfl ?_
                refine and_i (Nat.le_of_ble_eq_true rfl) (cl0 (Nat.le_of_ble_eq_true rfl) (and_i (Nat.le_of_ble_eq_true rfl) ?_))
                refine gs rfl ?_
                refine gs rfl ?_
                refine gs rfl ?_
                refine gs rfl ?_
                refine gs rfl ?_
                refine and_2 rfl (vin rfl) ?_
                refine gs rfl ?_
                refine gs rfl ?_
                refine gs rfl ?_
                refine and_3 (Nat.le_of_ble_eq_true rfl) rfl (vin rfl) ?_
                refine gs rfl ?_
                refine gs rfl ?_
                refine gs rfl ?_
                refine gs rfl ?_
                refine and_i rfl ?_
                refine gs rfl ?_
                refine and_i rfl ?_
                refine FRg rfl (fun f => ?_)
                refine gs rfl ?_
                refine gs rfl ?_
                refine gs rfl ?_
                refine gs rfl ?_
                refine gs rfl ?_
                refine gs rfl ?_
                refine and_2 rfl (vin rfl) ?_
                refine gs rfl ?_
                refine gs rfl ?_
                refine gs rfl ?_
                refine gs rfl ?_
                refine gs rfl ?_
                refine and_2 rfl (vin rfl) ?_
                refine gs rfl ?_
                refine gs rfl ?_
                refine gs rfl ?_
                refine gs rfl ?_
                refine gs rfl ?_
                refine and_2 rfl (vin rfl) ?_
                refine gs rfl ?_
                refine and_i (Nat.le_of_ble_eq_true rfl) (cl0 (Nat.le_of_ble_eq_true rfl) (and_i (Nat.le_of_ble_eq_true rfl) ?_))
                refine gs rfl ?_
                refine gs rfl ?_
                refine and_i (Nat.le_of_ble_eq_true rfl) (cl0 (Nat.le_of_ble_eq_true rfl) (and_i (Nat.le_of_ble_eq_true rfl) ?_))
                refine gs rfl ?_
                refine gs rfl ?_
                refine gs rfl ?_
                refine gs rfl ?_
                refine and_i (Nat.le_of_ble_eq_true rfl) (cl0 (Nat.le_of_ble_eq_true rfl) (and_i (Nat.le_of_ble_eq_true rfl) ?_))
                refine gs rfl ?_
                refine gs rfl ?_
                refine gs rfl ?_
                refine ifF ((fun q => absurd ((lt_k (a := (s1).toInt) (b := 0) (by rfl) (by rfl)).mp q) (by omega))) ?_
                refine gs rfl ?_
                refine gs rfl ?_
                refine gs rfl ?_
                refine ifF ((fun q => absurd ((lt_k (a := 3) (b := (s1).toInt) (by rfl) (by rfl)).mp q) (by omega))) ?_
                refine gs rfl ?_
                refine gs rfl ?_
                refine gs rfl ?_
                refine and_2 rfl (Or.inr rfl) ?_
                refine gs rfl ?_
                refine and_2 rfl (Or.inr rfl) ?_
                refine gs rfl ?_
                refine gs rfl ?_
                refine gs rfl ?_
                refine ifF ((fun q => absurd ((eq_k (a := (s2).toInt) (b := 0) (by rfl) (by rfl)).mp q) (by omega))) ?_
                refine gs rfl ?_
                refine gs rfl ?_
                refine gs rfl ?_
                refine ifF ((fun q => absurd ((eq_k (a := (s2).toInt) (b := 8) (by rfl) (by rfl)).mp q) (by omega))) ?_
                refine gs rfl ?_
                refine gs rfl ?_
                refine gs rfl ?_
                refine ifF ((fun q => absurd ((eq_k (a := (s2).toInt) (b := 16) (by rfl) (by rfl)).mp q) (by omega))) ?_
                refine gs rfl ?_
                refine gs rfl ?_
                refine gs rfl ?_
                refine ifT ((eq_k (a := (s2).toInt) (b := 32) (by rfl) (by rfl)).mpr (by omega)) ?_
                refine gs rfl ?_
                refine gs rfl ?_
                refine ifF ((fun q => absurd ((eq_k (a := (s2).toInt) (b := 0) (by rfl) (by rfl)).mp q) (by omega))) ?_
                refine gs rfl ?_
                refine gs rfl ?_
                refine ifF ((fun q => absurd ((le_k (a := 0) (b := (s3).toInt) (by rfl) (by rfl)).mp q) (by omega))) ?_
                refine gs rfl ?_
                refine gs rfl ?_
                refine gs rfl ?_
                refine and_i (Nat.le_of_ble_eq_true rfl) (cl0 (Nat.le_of_ble_eq_true rfl) (and_i (Nat.le_of_ble_eq_true rfl) ?_))
                refine gs rfl ?_
                refine gs rfl ?_
                refine gs rfl ?_
                refine gs rfl ?_
                refine gs rfl ?_
                refine gs rfl ?_
                refine gs rfl ?_
                refine and_2 rfl (vin rfl) ?_
                refine gs rfl ?_
                refine gs rfl ?_
                refine gs rfl ?_
                refine and_3 (Nat.le_of_ble_eq_true rfl) rfl (vin rfl) ?_
                refine gs rfl ?_
                refine gs rfl ?_
                refine and_i rfl ?_
                refine gs rfl ?_
                refine and_i rfl ?_
                refine gs rfl ?_
                refine gs rfl ?_
                refine gs rfl ?_
                refine gs rfl ?_
                refine gs rfl ?_
                refine gs rfl ?_
                refine and_i (Or.inl rfl) ?_
                refine gwst (congrArg (fun z => Value.int z :: _) (alen_k (n := 6) (by rfl))) ?_
                refine gs rfl ?_
                refine gs rfl ?_
                refine gs rfl ?_
                refine gs rfl ?_
                refine gs rfl ?_
                refine and_2 rfl (Or.inr rfl) ?_
                exact rfl
            · have d29 : ¬ ((s2).toInt = 32) := fun q => c28 ((eq_k (by rfl) (by rfl)).mpr q)
              refine gs rfl ?_
              refine gs rfl ?_
              refine gs rfl ?_
              refine and_i (Nat.le_of_ble_eq_true rfl) (cl0 (Nat.le_of_ble_eq_true rfl) (and_i (Nat.le_of_ble_eq_true rfl) ?_))
              refine gs rfl ?_
              refine gs rfl ?_
              refine gs rfl ?_
              refine gs rfl ?_
              refine gs rfl ?_
              refine and_2 rfl (vin rfl) ?_
              refine gs rfl ?_
              refine gs rfl ?_
              refine gs rfl ?_
              refine and_3 (Nat.le_of_ble_eq_true rfl) rfl (vin rfl) ?_
              refine gs rfl ?_
              refine gs rfl ?_
              refine gs rfl ?_
              refine gs rfl ?_
              refine and_i rfl ?_
              refine gs rfl ?_
              refine and_i rfl ?_
              refine FRg rfl (fun f => ?_)
              refine gs rfl ?_
              refine gs rfl ?_
              refine gs rfl ?_
              refine gs rfl ?_
              refine gs rfl ?_
              refine gs rfl ?_
              refine and_2 rfl (vin rfl) ?_
              refine gs rfl ?_
              refine gs rfl ?_
              refine gs rfl ?_
              refine gs rfl ?_
              refine gs rfl ?_
              refine and_2 rfl (vin rfl) ?_
              refine gs rfl ?_
              refine gs rfl ?_
              refine gs rfl ?_
              refine gs rfl ?_
              refine gs rfl ?_
              refine and_2 rfl (vin rfl) ?_
              refine gs rfl ?_
              refine and_i (Nat.le_of_ble_eq_true rfl) (cl0 (Nat.le_of_ble_eq_true rfl) (and_i (Nat.le_of_ble_eq_true rfl) ?_))
              refine gs rfl ?_
              refine gs rfl ?_
              refine and_i (Nat.le_of_ble_eq_true rfl) (cl0 (Nat.le_of_ble_eq_true rfl) (and_i (Nat.le_of_ble_eq_true rfl) ?_))
              refine gs rfl ?_
              refine gs rfl ?_
              refine gs rfl ?_
              refine gs rfl ?_
              refine and_i (Nat.le_of_ble_eq_true rfl) (cl0 (Nat.le_of_ble_eq_true rfl) (and_i (Nat.le_of_ble_eq_true rfl) ?_))
              refine gs rfl ?_
              refine gs rfl ?_
              refine gs rfl ?_
              refine ifF ((fun q => absurd ((lt_k (a := (s1).toInt) (b := 0) (by rfl) (by rfl)).mp q) (by omega))) ?_
              refine gs rfl ?_
              refine gs rfl ?_
              refine gs rfl ?_
              refine ifF ((fun q => absurd ((lt_k (a := 3) (b := (s1).toInt) (by rfl) (by rfl)).mp q) (by omega))) ?_
              refine gs rfl ?_
              refine gs rfl ?_
              refine gs rfl ?_
              refine and_2 rfl (Or.inr rfl) ?_
              refine gs rfl ?_
              refine and_2 rfl (Or.inr rfl) ?_
              refine gs rfl ?_
              refine gs rfl ?_
              refine gs rfl ?_
              refine ifF ((fun q => absurd ((eq_k (a := (s2).toInt) (b := 0) (by rfl) (by rfl)).mp q) (by omega))) ?_
              refine gs rfl ?_
              refine gs rfl ?_
              refine gs rfl ?_
              refine ifF ((fun q => absurd ((eq_k (a := (s2).toInt) (b := 8) (by rfl) (by rfl)).mp q) (by omega))) ?_
              refine gs rfl ?_
              refine gs rfl ?_
              refine gs rfl ?_
              refine ifF ((fun q => absurd ((eq_k (a := (s2).toInt) (b := 16) (by rfl) (by rfl)).mp q) (by omega))) ?_
              refine gs rfl ?_
              refine gs rfl ?_
              refine gs rfl ?_
              refine ifF ((fun q => absurd ((eq_k (a := (s2).toInt) (b := 32) (by rfl) (by rfl)).mp q) (by omega))) ?_
              refine gs rfl ?_
              refine gs rfl ?_
              refine gs rfl ?_
              refine and_i (Nat.le_of_ble_eq_true rfl) (cl0 (Nat.le_of_ble_eq_true rfl) (and_i (Nat.le_of_ble_eq_true rfl) ?_))
              refine gs rfl ?_
              refine gs rfl ?_
              refine gs rfl ?_
              refine gs rfl ?_
              refine gs rfl ?_
              refine gs rfl ?_
              refine gs rfl ?_
              refine and_2 rfl (vin rfl) ?_
              refine gs rfl ?_
              refine gs rfl ?_
              refine gs rfl ?_
              refine and_3 (Nat.le_of_ble_eq_true rfl) rfl (vin rfl) ?_
              refine gs rfl ?_
              refine gs rfl ?_
              refine and_i rfl ?_
              refine gs rfl ?_
              refine and_i rfl ?_
              refine gs rfl ?_
              refine gs rfl ?_
              refine gs rfl ?_
              refine gs rfl ?_
              refine gs rfl ?_
              refine gs rfl ?_
              refine and_i (Or.inl rfl) ?_
              refine gwst (congrArg (fun z => Value.int z :: _) (alen_k (n := 6) (by rfl))) ?_
              refine gs rfl ?_
              refine gs rfl ?_
              refine gs rfl ?_
              refine gs rfl ?_
              refine gs rfl ?_
              refine and_2 rfl (Or.inr rfl) ?_
              exact rfl
