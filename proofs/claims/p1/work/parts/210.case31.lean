/-! THE LAW'S CASES 31, over two new objects -/
set_option maxRecDepth 20000 in
set_option maxHeartbeats 40000000 in
theorem lc_31 {s0 s1 s2 s3 s4 s5 : Int32} {d mc ms : Nat} : gw [s0, s1, s2, s3, s4, s5] (WP [s0, s1, s2, s3, s4, s5] (d + 20)) 190 (fun r _ => r = some (.int 1)) 1211 [some (.ref 0), some (.ref 32), some (.ref 89), some (.int 0)] [] (hX0 ++ hM0) mc ms := by
  refine gs rfl ?_
  refine gs rfl ?_
  refine gs rfl ?_
  refine gs rfl ?_
  refine gs rfl ?_
  refine gs rfl ?_
  refine and_2 rfl (vin rfl) ?_
  refine gs rfl ?_
  refine gs rfl ?_
  refine gs rfl ?_
  refine gs rfl ?_
  refine gs rfl ?_
  refine and_2 rfl (vin rfl) ?_
  refine gs rfl ?_
  refine gs rfl ?_
  refine gs rfl ?_
  refine gs rfl ?_
  refine gs rfl ?_
  refine and_2 rfl (vin rfl) ?_
  refine gs rfl ?_
  refine gs rfl ?_
  refine gs rfl ?_
  refine gs rfl ?_
  refine gs rfl ?_
  refine and_2 rfl (vin rfl) ?_
  refine gs rfl ?_
  refine gs rfl ?_
  refine gs rfl ?_
  refine gs rfl ?_
  refine gs rfl ?_
  refine and_2 rfl (vin rfl) ?_
  refine gs rfl ?_
  refine and_i (Nat.le_of_ble_eq_true rfl) (cl0 (Nat.le_of_ble_eq_true rfl) (and_i (Nat.le_of_ble_eq_true rfl) ?_))
  refine gs rfl ?_
  refine gs rfl ?_
  refine gs rfl ?_
  refine and_i (Nat.le_of_ble_eq_true rfl) (cl0 (Nat.le_of_ble_eq_true rfl) (and_i (Nat.le_of_ble_eq_true rfl) ?_))
  refine gs rfl ?_
  refine gs rfl ?_
  refine ifs (fun c1 => ?_) (fun c1 => ?_)
  · have d2 : (s1).toInt < 0 := (lt_k (by rfl) (by rfl)).mp c1
    refine gs rfl ?_
    refine gs rfl ?_
    refine and_2 rfl (Or.inl rfl) ?_
    refine gs rfl ?_
    refine gs rfl ?_
    refine gs rfl ?_
    refine gs rfl ?_
    refine and_i (Nat.le_of_ble_eq_true rfl) (cl0 (Nat.le_of_ble_eq_true rfl) (and_i (Nat.le_of_ble_eq_true rfl) ?_))
    refine gs rfl ?_
    refine gs rfl ?_
    refine gs rfl ?_
    refine gs rfl ?_
    refine gs rfl ?_
    refine and_2 rfl (vin rfl) ?_
    refine gs rfl ?_
    refine gs rfl ?_
    refine gs rfl ?_
    refine and_3 (Nat.le_of_ble_eq_true rfl) rfl (vin rfl) ?_
    refine gs rfl ?_
    refine gs rfl ?_
    refine gs rfl ?_
    refine gs rfl ?_
    refine and_i rfl ?_
    refine gs rfl ?_
    refine and_i rfl ?_
    refine FRg rfl (fun f => ?_)
    refine gs rfl ?_
    refine gs rfl ?_
    refine gs rfl ?_
    refine gs rfl ?_
    refine gs rfl ?_
    refine gs rfl ?_
    refine and_2 rfl (vin rfl) ?_
    refine gs rfl ?_
    refine gs rfl ?_
    refine gs rfl ?_
    refine gs rfl ?_
    refine gs rfl ?_
    refine and_2 rfl (vin rfl) ?_
    refine gs rfl ?_
    refine gs rfl ?_
    refine gs rfl ?_
    refine gs rfl ?_
    refine gs rfl ?_
    refine and_2 rfl (vin rfl) ?_
    refine gs rfl ?_
    refine gs rfl ?_
    refine gs rfl ?_
    refine gs rfl ?_
    refine gs rfl ?_
    refine and_2 rfl (vin rfl) ?_
    refine gs rfl ?_
    refine gs rfl ?_
    refine gs rfl ?_
    refine gs rfl ?_
    refine gs rfl ?_
    refine and_2 rfl (vin rfl) ?_
    refine gs rfl ?_
    refine and_i (Nat.le_of_ble_eq_true rfl) (cl0 (Nat.le_of_ble_eq_true rfl) (and_i (Nat.le_of_ble_eq_true rfl) ?_))
    refine gs rfl ?_
    refine gs rfl ?_
    refine and_i (Nat.le_of_ble_eq_true rfl) (cl0 (Nat.le_of_ble_eq_true rfl) (and_i (Nat.le_of_ble_eq_true rfl) ?_))
    refine gs rfl ?_
    refine gs rfl ?_
    refine gs rfl ?_
    refine gs rfl ?_
    refine and_i (Nat.le_of_ble_eq_true rfl) (cl0 (Nat.le_of_ble_eq_true rfl) (and_i (Nat.le_of_ble_eq_true rfl) ?_))
    refine gs rfl ?_
    refine gs rfl ?_
    refine gs rfl ?_
    refine ifT ((lt_k (a := (s1).toInt) (b := 0) (by rfl) (by rfl)).mpr (by omega)) ?_
    refine gs rfl ?_
    refine gs rfl ?_
    refine and_2 rfl (Or.inl rfl) ?_
    refine gs rfl ?_
    refine and_2 rfl (Or.inl rfl) ?_
    refine gs rfl ?_
    refine gs rfl ?_
    refine gs rfl ?_
    refine gs rfl ?_
    refine and_i (Nat.le_of_ble_eq_true rfl) (cl0 (Nat.le_of_ble_eq_true rfl) (and_i (Nat.le_of_ble_eq_true rfl) ?_))
    refine gs rfl ?_
    refine gs rfl ?_
    refine gs rfl ?_
    refine gs rfl ?_
    refine gs rfl ?_
    refine gs rfl ?_
    refine gs rfl ?_
    refine and_2 rfl (vin rfl) ?_
    refine gs rfl ?_
    refine gs rfl ?_
    refine gs rfl ?_
    refine and_3 (Nat.le_of_ble_eq_true rfl) rfl (vin rfl) ?_
    refine gs rfl ?_
    refine gs rfl ?_
    refine and_i rfl ?_
    refine gs rfl ?_
    refine and_i rfl ?_
    refine gs rfl ?_
    refine gs rfl ?_
    refine gs rfl ?_
    refine gs rfl ?_
    refine gs rfl ?_
    refine gs rfl ?_
    refine and_i (Or.inl rfl) ?_
    refine gwst (congrArg (fun z => Value.int z :: _) (alen_k (n := 6) (by rfl))) ?_
    refine gs rfl ?_
    refine gs rfl ?_
    refine gs rfl ?_
    refine gs rfl ?_
    refine gs rfl ?_
    refine and_2 rfl (Or.inr rfl) ?_
    exact rfl
  · have d2 : ¬ ((s1).toInt < 0) := fun q => c1 ((lt_k (by rfl) (by rfl)).mpr q)
    refine gs rfl ?_
    refine gs rfl ?_
    refine gs rfl ?_
    refine ifs (fun c3 => ?_) (fun c3 => ?_)
    · have d4 : 3 < (s1).toInt := (lt_k (by rfl) (by rfl)).mp c3
      refine gs rfl ?_
      refine gs rfl ?_
      refine and_2 rfl (Or.inl rfl) ?_
      refine gs rfl ?_
      refine gs rfl ?_
      refine gs rfl ?_
      refine gs rfl ?_
      refine and_i (Nat.le_of_ble_eq_true rfl) (cl0 (Nat.le_of_ble_eq_true rfl) (and_i (Nat.le_of_ble_eq_true rfl) ?_))
      refine gs rfl ?_
      refine gs rfl ?_
      refine gs rfl ?_
      refine gs rfl ?_
      refine gs rfl ?_
      refine and_2 rfl (vin rfl) ?_
      refine gs rfl ?_
      refine gs rfl ?_
      refine gs rfl ?_
      refine and_3 (Nat.le_of_ble_eq_true rfl) rfl (vin rfl) ?_
      refine gs rfl ?_
      refine gs rfl ?_
      refine gs rfl ?_
      refine gs rfl ?_
      refine and_i rfl ?_
      refine gs rfl ?_
      refine and_i rfl ?_
      refine FRg rfl (fun f => ?_)
      refine gs rfl ?_
      refine gs rfl ?_
      refine gs rfl ?_
      refine gs rfl ?_
      refine gs rfl ?_
      refine gs rfl ?_
      refine and_2 rfl (vin rfl) ?_
      refine gs rfl ?_
      refine gs rfl ?_
      refine gs rfl ?_
      refine gs rfl ?_
      refine gs rfl ?_
      refine and_2 rfl (vin rfl) ?_
      refine gs rfl ?_
      refine gs rfl ?_
      refine gs rfl ?_
      refine gs rfl ?_
      refine gs rfl ?_
      refine and_2 rfl (vin rfl) ?_
      refine gs rfl ?_
      refine gs rfl ?_
      refine gs rfl ?_
      refine gs rfl ?_
      refine gs rfl ?_
      refine and_2 rfl (vin rfl) ?_
      refine gs rfl ?_
      refine gs rfl ?_
      refine gs rfl ?_
      refine gs rfl ?_
      refine gs rfl ?_
      refine and_2 rfl (vin rfl) ?_
      refine gs rfl ?_
      refine and_i (Nat.le_of_ble_eq_true rfl) (cl0 (Nat.le_of_ble_eq_true rfl) (and_i (Nat.le_of_ble_eq_true rfl) ?_))
      refine gs rfl ?_
      refine gs rfl ?_
      refine and_i (Nat.le_of_ble_eq_true rfl) (cl0 (Nat.le_of_ble_eq_true rfl) (and_i (Nat.le_of_ble_eq_true rfl) ?_))
      refine gs rfl ?_
      refine gs rfl ?_
      refine gs rfl ?_
      refine gs rfl ?_
      refine and_i (Nat.le_of_ble_eq_true rfl) (cl0 (Nat.le_of_ble_eq_true rfl) (and_i (Nat.le_of_ble_eq_true rfl) ?_))
      refine gs rfl ?_
      refine gs rfl ?_
      refine gs rfl ?_
      refine ifF ((fun q => absurd ((lt_k (a := (s1).toInt) (b := 0) (by rfl) (by rfl)).mp q) (by omega))) ?_
      refine gs rfl ?_
      refine gs rfl ?_
      refine gs rfl ?_
      refine ifT ((lt_k (a := 3) (b := (s1).toInt) (by rfl) (by rfl)).mpr (by omega)) ?_
      refine gs rfl ?_
      refine gs rfl ?_
      refine and_2 rfl (Or.inl rfl) ?_
      refine gs rfl ?_
      refine and_2 rfl (Or.inl rfl) ?_
      refine gs rfl ?_
      refine gs rfl ?_
      refine gs rfl ?_
      refine gs rfl ?_
      refine and_i (Nat.le_of_ble_eq_true rfl) (cl0 (Nat.le_of_ble_eq_true rfl) (and_i (Nat.le_of_ble_eq_true rfl) ?_))
      refine gs rfl ?_
      refine gs rfl ?_
      refine gs rfl ?_
      refine gs rfl ?_
      refine gs rfl ?_
      refine gs rfl ?_
      refine gs rfl ?_
      refine and_2 rfl (vin rfl) ?_
      refine gs rfl ?_
      refine gs rfl ?_
      refine gs rfl ?_
      refine and_3 (Nat.le_of_ble_eq_true rfl) rfl (vin rfl) ?_
      refine gs rfl ?_
      refine gs rfl ?_
      refine and_i rfl ?_
      refine gs rfl ?_
      refine and_i rfl ?_
      refine gs rfl ?_
      refine gs rfl ?_
      refine gs rfl ?_
      refine gs rfl ?_
      refine gs rfl ?_
      refine gs rfl ?_
      refine and_i (Or.inl rfl) ?_
      refine gwst (congrArg (fun z => Value.int z :: _) (alen_k (n := 6) (by rfl))) ?_
      refine gs rfl ?_
      refine gs rfl ?_
      refine gs rfl ?_
      refine gs rfl ?_
      refine gs rfl ?_
      refine and_2 rfl (Or.inr rfl) ?_
      exact rfl
    · have d4 : ¬ (3 < (s1).toInt) := fun q => c3 ((lt_k (by rfl) (by rfl)).mpr q)
      refine gs rfl ?_
      refine gs rfl ?_
      refine gs rfl ?_
      refine and_2 rfl (Or.inr rfl) ?_
      refine gs rfl ?_
      refine gs rfl ?_
      refine gs rfl ?_
      refine gs rfl ?_
      refine and_i (Nat.le_of_ble_eq_true rfl) (cl0 (Nat.le_of_ble_eq_true rfl) (and_i (Nat.le_of_ble_eq_true rfl) ?_))
      refine gs rfl ?_
      refine gs rfl ?_
      refine ifs (fun c5 => ?_) (fun c5 => ?_)
      · have d6 : (s3).toInt < 0 := (lt_k (by rfl) (by rfl)).mp c5
        refine gs rfl ?_
        refine gs rfl ?_
        refine and_2 rfl (Or.inl rfl) ?_
        refine gs rfl ?_
        refine gs rfl ?_
        refine gs rfl ?_
        refine gs rfl ?_
        refine and_i (Nat.le_of_ble_eq_true rfl) (cl0 (Nat.le_of_ble_eq_true rfl) (and_i (Nat.le_of_ble_eq_true rfl) ?_))
        refine gs rfl ?_
        refine gs rfl ?_
        refine gs rfl ?_
        refine gs rfl ?_
        refine gs rfl ?_
        refine and_2 rfl (vin rfl) ?_
        refine gs rfl ?_
        refine gs rfl ?_
        refine gs rfl ?_
        refine and_3 (Nat.le_of_ble_eq_true rfl) rfl (vin rfl) ?_
        refine gs rfl ?_
        refine gs rfl ?_
        refine gs rfl ?_
        refine gs rfl ?_
        refine and_i rfl ?_
        refine gs rfl ?_
        refine and_i rfl ?_
        refine FRg rfl (fun f => ?_)
        refine gs rfl ?_
        refine gs rfl ?_
        refine gs rfl ?_
        refine gs rfl ?_
        refine gs rfl ?_
        refine gs rfl ?_
        refine and_2 rfl (vin rfl) ?_
        refine gs rfl ?_
        refine gs rfl ?_
        refine gs rfl ?_
        refine gs rfl ?_
        refine gs rfl ?_
        refine and_2 rfl (vin rfl) ?_
        refine gs rfl ?_
        refine gs rfl ?_
        refine gs rfl ?_
        refine gs rfl ?_
        refine gs rfl ?_
        refine and_2 rfl (vin rfl) ?_
        refine gs rfl ?_
        refine gs rfl ?_
        refine gs rfl ?_
        refine gs rfl ?_
        refine gs rfl ?_
        refine and_2 rfl (vin rfl) ?_
        refine gs rfl ?_
        refine gs rfl ?_
        refine gs rfl ?_
        refine gs rfl ?_
        refine gs rfl ?_
        refine and_2 rfl (vin rfl) ?_
        refine gs rfl ?_
        refine and_i (Nat.le_of_ble_eq_true rfl) (cl0 (Nat.le_of_ble_eq_true rfl) (and_i (Nat.le_of_ble_eq_true rfl) ?_))
        refine gs rfl ?_
        refine gs rfl ?_
        refine and_i (Nat.le_of_ble_eq_true rfl) (cl0 (Nat.le_of_ble_eq_true rfl) (and_i (Nat.le_of_ble_eq_true rfl) ?_))
        refine gs rfl ?_
        refine gs rfl ?_
        refine gs rfl ?_
        refine gs rfl ?_
        refine and_i (Nat.le_of_ble_eq_true rfl) (cl0 (Nat.le_of_ble_eq_true rfl) (and_i (Nat.le_of_ble_eq_true rfl) ?_))
        refine gs rfl ?_
        refine gs rfl ?_
        refine gs rfl ?_
        refine ifF ((fun q => absurd ((lt_k (a := (s1).toInt) (b := 0) (by rfl) (by rfl)).mp q) (by omega))) ?_
        refine gs rfl ?_
        refine gs rfl ?_
        refine gs rfl ?_
        refine ifF ((fun q => absurd ((lt_k (a := 3) (b := (s1).toInt) (by rfl) (by rfl)).mp q) (by omega))) ?_
        refine gs rfl ?_
        refine gs rfl ?_
        refine gs rfl ?_
        refine and_2 rfl (Or.inr rfl) ?_
        refine gs rfl ?_
        refine and_2 rfl (Or.inr rfl) ?_
        refine gs rfl ?_
        refine gs rfl ?_
        refine gs rfl ?_
        refine and_i (Nat.le_of_ble_eq_true rfl) (cl0 (Nat.le_of_ble_eq_true rfl) (and_i (Nat.le_of_ble_eq_true rfl) ?_))
        refine gs rfl ?_
        refine gs rfl ?_
        refine gs rfl ?_
        refine gs rfl ?_
        refine and_i (Nat.le_of_ble_eq_true rfl) (cl0 (Nat.le_of_ble_eq_true rfl) (and_i (Nat.le_of_ble_eq_true rfl) ?_))
        refine gs rfl ?_
        refine gs rfl ?_
        refine gs rfl ?_
        refine ifT ((lt_k (a := (s3).toInt) (b := 0) (by rfl) (by rfl)).mpr (by omega)) ?_
        refine gs rfl ?_
        refine gs rfl ?_
        refine and_2 rfl (Or.inl rfl) ?_
        refine gs rfl ?_
        refine and_2 rfl (Or.inl rfl) ?_
        refine gs rfl ?_
        refine gs rfl ?_
        refine gs rfl ?_
        refine gs rfl ?_
        refine and_i (Nat.le_of_ble_eq_true rfl) (cl0 (Nat.le_of_ble_eq_true rfl) (and_i (Nat.le_of_ble_eq_true rfl) ?_))
        refine gs rfl ?_
        refine gs rfl ?_
        refine gs rfl ?_
        refine gs rfl ?_
        refine gs rfl ?_
        refine gs rfl ?_
        refine gs rfl ?_
        refine and_2 rfl (vin rfl) ?_
        refine gs rfl ?_
        refine gs rfl ?_
        refine gs rfl ?_
        refine and_3 (Nat.le_of_ble_eq_true rfl) rfl (vin rfl) ?_
        refine gs rfl ?_
        refine gs rfl ?_
        refine and_i rfl ?_
        refine gs rfl ?_
        refine and_i rfl ?_
        refine gs rfl ?_
        refine gs rfl ?_
        refine gs rfl ?_
        refine gs rfl ?_
        refine gs rfl ?_
        refine gs rfl ?_
        refine and_i (Or.inl rfl) ?_
        refine gwst (congrArg (fun z => Value.int z :: _) (alen_k (n := 6) (by rfl))) ?_
        refine gs rfl ?_
        refine gs rfl ?_
        refine gs rfl ?_
        refine gs rfl ?_
        refine gs rfl ?_
        refine and_2 rfl (Or.inr rfl) ?_
        exact rfl
      · have d6 : ¬ ((s3).toInt < 0) := fun q => c5 ((lt_k (by rfl) (by rfl)).mpr q)
        refine gs rfl ?_
        refine gs rfl ?_
        refine gs rfl ?_
        refine ifs (fun c7 => ?_) (fun c7 => ?_)
        · have d8 : 3 < (s3).toInt := (lt_k (by rfl) (by rfl)).mp c7
          refine gs rfl ?_
          refine gs rfl ?_
          refine and_2 rfl (Or.inl rfl) ?_
          refine gs rfl ?_
          refine gs rfl ?_
          refine gs rfl ?_
          refine gs rfl ?_
          refine and_i (Nat.le_of_ble_eq_true rfl) (cl0 (Nat.le_of_ble_eq_true rfl) (and_i (Nat.le_of_ble_eq_true rfl) ?_))
          refine gs rfl ?_
          refine gs rfl ?_
          refine gs rfl ?_
          refine gs rfl ?_
          refine gs rfl ?_
          refine and_2 rfl (vin rfl) ?_
          refine gs rfl ?_
          refine gs rfl ?_
          refine gs rfl ?_
          refine and_3 (Nat.le_of_ble_eq_true rfl) rfl (vin rfl) ?_
          refine gs rfl ?_
          refine gs rfl ?_
          refine gs rfl ?_
          refine gs rfl ?_
          refine and_i rfl ?_
          refine gs rfl ?_
          refine and_i rfl ?_
          refine FRg rfl (fun f => ?_)
          refine gs rfl ?_
          refine gs rfl ?_
          refine gs rfl ?_
          refine gs rfl ?_
          refine gs rfl ?_
          refine gs rfl ?_
          refine and_2 rfl (vin rfl) ?_
          refine gs rfl ?_
          refine gs rfl ?_
          refine gs rfl ?_
          refine gs rfl ?_
          refine gs rfl ?_
          refine and_2 rfl (vin rfl) ?_
          refine gs rfl ?_
          refine gs rfl ?_
          refine gs rfl ?_
          refine gs rfl ?_
          refine gs rfl ?_
          refine and_2 rfl (vin rfl) ?_
          refine gs rfl ?_
          refine gs rfl ?_
          refine gs rfl ?_
          refine gs rfl ?_
          refine gs rfl ?_
          refine and_2 rfl (vin rfl) ?_
          refine gs rfl ?_
          refine gs rfl ?_
          refine gs rfl ?_
          refine gs rfl ?_
          refine gs rfl ?_
          refine and_2 rfl (vin rfl) ?_
          refine gs rfl ?_
          refine and_i (Nat.le_of_ble_eq_true rfl) (cl0 (Nat.le_of_ble_eq_true rfl) (and_i (Nat.le_of_ble_eq_true rfl) ?_))
          refine gs rfl ?_
          refine gs rfl ?_
          refine and_i (Nat.le_of_ble_eq_true rfl) (cl0 (Nat.le_of_ble_eq_true rfl) (and_i (Nat.le_of_ble_eq_true rfl) ?_))
          refine gs rfl ?_
          refine gs rfl ?_
          refine gs rfl ?_
          refine gs rfl ?_
          refine and_i (Nat.le_of_ble_eq_true rfl) (cl0 (Nat.le_of_ble_eq_true rfl) (and_i (Nat.le_of_ble_eq_true rfl) ?_))
          refine gs rfl ?_
          refine gs rfl ?_
          refine gs rfl ?_
          refine ifF ((fun q => absurd ((lt_k (a := (s1).toInt) (b := 0) (by rfl) (by rfl)).mp q) (by omega))) ?_
          refine gs rfl ?_
          refine gs rfl ?_
          refine gs rfl ?_
          refine ifF ((fun q => absurd ((lt_k (a := 3) (b := (s1).toInt) (by rfl) (by rfl)).mp q) (by omega))) ?_
          refine gs rfl ?_
          refine gs rfl ?_
          refine gs rfl ?_
          refine and_2 rfl (Or.inr rfl) ?_
          refine gs rfl ?_
          refine and_2 rfl (Or.inr rfl) ?_
          refine gs rfl ?_
          refine gs rfl ?_
          refine gs rfl ?_
          refine and_i (Nat.le_of_ble_eq_true rfl) (cl0 (Nat.le_of_ble_eq_true rfl) (and_i (Nat.le_of_ble_eq_true rfl) ?_))
          refine gs rfl ?_
          refine gs rfl ?_
          refine gs rfl ?_
          refine gs rfl ?_
          refine and_i (Nat.le_of_ble_eq_true rfl) (cl0 (Nat.le_of_ble_eq_true rfl) (and_i (Nat.le_of_ble_eq_true rfl) ?_))
          refine gs rfl ?_
          refine gs rfl ?_
          refine gs rfl ?_
          refine ifF ((fun q => absurd ((lt_k (a := (s3).toInt) (b := 0) (by rfl) (by rfl)).mp q) (by omega))) ?_
          refine gs rfl ?_
          refine gs rfl ?_
          refine gs rfl ?_
          refine ifT ((lt_k (a := 3) (b := (s3).toInt) (by rfl) (by rfl)).mpr (by omega)) ?_
          refine gs rfl ?_
          refine gs rfl ?_
          refine and_2 rfl (Or.inl rfl) ?_
          refine gs rfl ?_
          refine and_2 rfl (Or.inl rfl) ?_
          refine gs rfl ?_
          refine gs rfl ?_
          refine gs rfl ?_
          refine gs rfl ?_
          refine and_i (Nat.le_of_ble_eq_true rfl) (cl0 (Nat.le_of_ble_eq_true rfl) (and_i (Nat.le_of_ble_eq_true rfl) ?_))
          refine gs rfl ?_
          refine gs rfl ?_
          refine gs rfl ?_
          refine gs rfl ?_
          refine gs rfl ?_
          refine gs rfl ?_
          refine gs rfl ?_
          refine and_2 rfl (vin rfl) ?_
          refine gs rfl ?_
          refine gs rfl ?_
          refine gs rfl ?_
          refine and_3 (Nat.le_of_ble_eq_true rfl) rfl (vin rfl) ?_
          refine gs rfl ?_
          refine gs rfl ?_
          refine and_i rfl ?_
          refine gs rfl ?_
          refine and_i rfl ?_
          refine gs rfl ?_
          refine gs rfl ?_
          refine gs rfl ?_
          refine gs rfl ?_
          refine gs rfl ?_
          refine gs rfl ?_
          refine and_i (Or.inl rfl) ?_
          refine gwst (congrArg (fun z => Value.int z :: _) (alen_k (n := 6) (by rfl))) ?_
          refine gs rfl ?_
          refine gs rfl ?_
          refine gs rfl ?_
          refine gs rfl ?_
          refine gs rfl ?_
          refine and_2 rfl (Or.inr rfl) ?_
          exact rfl
        · have d8 : ¬ (3 < (s3).toInt) := fun q => c7 ((lt_k (by rfl) (by rfl)).mpr q)
          refine gs rfl ?_
          refine gs rfl ?_
          refine gs rfl ?_
          refine and_2 rfl (Or.inr rfl) ?_
          refine gs rfl ?_
          refine gs rfl ?_
          refine gs rfl ?_
          refine gs rfl ?_
          obtain ⟨j9, e10, x11⟩ := nat_of (x := s1) (lo := 0) (hi := 3) (by omega) (by omega)
          rcases (show j9 = 0 ∨ j9 = 1 ∨ j9 = 2 ∨ j9 = 3 by omega) with rfl | rfl | rfl | rfl
          · have x11q : s1 = (0 : Int32) := x11
            clear x11
            subst x11q
            refine gs rfl ?_
            refine and_2 (Nat.le_of_ble_eq_true rfl) (vin rfl) ?_
            refine and_2 rfl (fun z q => by cases q) ?_
            refine gs rfl ?_
            refine gs rfl ?_
            refine gs rfl ?_
            refine gs rfl ?_
            obtain ⟨j12, e13, x14⟩ := nat_of (x := s3) (lo := 0) (hi := 3) (by omega) (by omega)
            rcases (show j12 = 0 ∨ j12 = 1 ∨ j12 = 2 ∨ j12 = 3 by omega) with rfl | rfl | rfl | rfl
            · have x14q : s3 = (0 : Int32) := x14
              clear x14
              subst x14q
              refine gs rfl ?_
              refine and_2 (Nat.le_of_ble_eq_true rfl) (vin rfl) ?_
              refine and_2 rfl (fun z q => by cases q) ?_
              refine gs rfl ?_
              refine gs rfl ?_
              refine gs rfl ?_
              refine gs rfl ?_
              refine gs rfl ?_
              refine gs rfl ?_
              refine gs rfl ?_
              refine and_i (Nat.le_of_ble_eq_true rfl) (cl0 (Nat.le_of_ble_eq_true rfl) (and_i (Nat.le_of_ble_eq_true rfl) ?_))
              refine gs rfl ?_
              refine gs rfl ?_
              refine gs rfl ?_
              refine gs rfl ?_
              refine gs rfl ?_
              refine and_2 rfl (vin rfl) ?_
              refine gs rfl ?_
              refine gs rfl ?_
              refine gs rfl ?_
              refine and_3 (Nat.le_of_ble_eq_true rfl) rfl (vin rfl) ?_
              refine gs rfl ?_
              refine gs rfl ?_
              refine gs rfl ?_
              refine gs rfl ?_
              refine and_i rfl ?_
              refine gs rfl ?_
              refine and_i rfl ?_
              refine FRg rfl (fun f => ?_)
              refine gs rfl ?_
              refine gs rfl ?_
              refine gs rfl ?_
              refine gs rfl ?_
              refine gs rfl ?_
              refine gs rfl ?_
              refine and_2 rfl (vin rfl) ?_
              refine gs rfl ?_
              refine gs rfl ?_
              refine gs rfl ?_
              refine gs rfl ?_
              refine gs rfl ?_
              refine and_2 rfl (vin rfl) ?_
              refine gs rfl ?_
              refine gs rfl ?_
              refine gs rfl ?_
              refine gs rfl ?_
              refine gs rfl ?_
              refine and_2 rfl (vin rfl) ?_
              refine gs rfl ?_
              refine gs rfl ?_
              refine gs rfl ?_
              refine gs rfl ?_
              refine gs rfl ?_
              refine and_2 rfl (vin rfl) ?_
              refine gs rfl ?_
              refine gs rfl ?_
              refine gs rfl ?_
              refine gs rfl ?_
              refine gs rfl ?_
              refine and_2 rfl (vin rfl) ?_
              refine gs rfl ?_
              refine and_i (Nat.le_of_ble_eq_true rfl) (cl0 (Nat.le_of_ble_eq_true rfl) (and_i (Nat.le_of_ble_eq_true rfl) ?_))
              refine gs rfl ?_
              refine gs rfl ?_
              refine and_i (Nat.le_of_ble_eq_true rfl) (cl0 (Nat.le_of_ble_eq_true rfl) (and_i (Nat.le_of_ble_eq_true rfl) ?_))
              refine gs rfl ?_
              refine gs rfl ?_
              refine gs rfl ?_
              refine gs rfl ?_
              refine and_i (Nat.le_of_ble_eq_true rfl) (cl0 (Nat.le_of_ble_eq_true rfl) (and_i (Nat.le_of_ble_eq_true rfl) ?_))
              refine gs rfl ?_
              refine gs rfl ?_
              refine gs rfl ?_
              refine gs rfl ?_
              refine gs rfl ?_
              refine gs rfl ?_
              refine gs rfl ?_
              refine gs rfl ?_
              refine gs rfl ?_
              refine and_2 rfl (Or.inr rfl) ?_
              refine gs rfl ?_
              refine and_2 rfl (Or.inr rfl) ?_
              refine gs rfl ?_
              refine gs rfl ?_
              refine gs rfl ?_
              refine and_i (Nat.le_of_ble_eq_true rfl) (cl0 (Nat.le_of_ble_eq_true rfl) (and_i (Nat.le_of_ble_eq_true rfl) ?_))
              refine gs rfl ?_
              refine gs rfl ?_
              refine gs rfl ?_
              refine gs rfl ?_
              refine and_i (Nat.le_of_ble_eq_true rfl) (cl0 (Nat.le_of_ble_eq_true rfl) (and_i (Nat.le_of_ble_eq_true rfl) ?_))
              refine gs rfl ?_
              refine gs rfl ?_
              refine gs rfl ?_
              refine gs rfl ?_
              refine gs rfl ?_
              refine gs rfl ?_
              refine gs rfl ?_
              refine gs rfl ?_
              refine gs rfl ?_
              refine and_2 rfl (Or.inr rfl) ?_
              refine gs rfl ?_
              refine and_2 rfl (Or.inr rfl) ?_
              refine gs rfl ?_
              refine gs rfl ?_
              refine gs rfl ?_
              refine gs rfl ?_
              refine gs rfl ?_
              refine and_2 rfl (vin rfl) ?_
              refine gs rfl ?_
              refine gs rfl ?_
              refine gs rfl ?_
              refine gs rfl ?_
              refine and_i (Nat.le_of_ble_eq_true rfl) (cl0 (Nat.le_of_ble_eq_true rfl) (and_i (Nat.le_of_ble_eq_true rfl) ?_))
              refine gs rfl ?_
              refine gs rfl ?_
              refine gs rfl ?_
              refine gs rfl ?_
              refine gs rfl ?_
              refine gs rfl ?_
              refine gs rfl ?_
              refine and_2 rfl (vin rfl) ?_
              refine gs rfl ?_
              refine gs rfl ?_
              refine gs rfl ?_
              refine and_3 (Nat.le_of_ble_eq_true rfl) rfl (vin rfl) ?_
              refine gs rfl ?_
              refine gs rfl ?_
              refine and_i rfl ?_
              refine gs rfl ?_
              refine and_i rfl ?_
              refine gs rfl ?_
              refine gs rfl ?_
              refine gs rfl ?_
              refine gs rfl ?_
              refine gs rfl ?_
              refine gs rfl ?_
              refine and_i (Or.inl rfl) ?_
              refine gwst (congrArg (fun z => Value.int z :: _) (alen_k (n := 6) (by rfl))) ?_
              refine gs rfl ?_
              refine gs rfl ?_
              refine gs rfl ?_
              refine gs rfl ?_
              refine gs rfl ?_
              refine and_2 rfl (Or.inr rfl) ?_
              exact rfl
            · have x14q : s3 = (1 : Int32) := x14
              clear x14
              subst x14q
              refine gs rfl ?_
              refine and_2 (Nat.le_of_ble_eq_true rfl) (vin rfl) ?_
              refine and_2 rfl (fun z q => by cases q) ?_
              refine gs rfl ?_
              refine gs rfl ?_
              refine gs rfl ?_
              refine gs rfl ?_
              refine gs rfl ?_
              refine gs rfl ?_
              refine gs rfl ?_
              refine and_i (Nat.le_of_ble_eq_true rfl) (cl0 (Nat.le_of_ble_eq_true rfl) (and_i (Nat.le_of_ble_eq_true rfl) ?_))
              refine gs rfl ?_
              refine gs rfl ?_
              refine gs rfl ?_
              refine gs rfl ?_
              refine gs rfl ?_
              refine and_2 rfl (vin rfl) ?_
              refine gs rfl ?_
              refine gs rfl ?_
              refine gs rfl ?_
              refine and_3 (Nat.le_of_ble_eq_true rfl) rfl (vin rfl) ?_
              refine gs rfl ?_
              refine gs rfl ?_
              refine gs rfl ?_
              refine gs rfl ?_
              refine and_i rfl ?_
              refine gs rfl ?_
              refine and_i rfl ?_
              refine FRg rfl (fun f => ?_)
              refine gs rfl ?_
              refine gs rfl ?_
              refine gs rfl ?_
              refine gs rfl ?_
              refine gs rfl ?_
              refine gs rfl ?_
              refine and_2 rfl (vin rfl) ?_
              refine gs rfl ?_
              refine gs rfl ?_
              refine gs rfl ?_
              refine gs rfl ?_
              refine gs rfl ?_
              refine and_2 rfl (vin rfl) ?_
              refine gs rfl ?_
              refine gs rfl ?_
              refine gs rfl ?_
              refine gs rfl ?_
              refine gs rfl ?_
              refine and_2 rfl (vin rfl) ?_
              refine gs rfl ?_
              refine gs rfl ?_
              refine gs rfl ?_
              refine gs rfl ?_
              refine gs rfl ?_
              refine and_2 rfl (vin rfl) ?_
              refine gs rfl ?_
              refine gs rfl ?_
              refine gs rfl ?_
              refine gs rfl ?_
              refine gs rfl ?_
              refine and_2 rfl (vin rfl) ?_
              refine gs rfl ?_
              refine and_i (Nat.le_of_ble_eq_true rfl) (cl0 (Nat.le_of_ble_eq_true rfl) (and_i (Nat.le_of_ble_eq_true rfl) ?_))
              refine gs rfl ?_
              refine gs rfl ?_
              refine and_i (Nat.le_of_ble_eq_true rfl) (cl0 (Nat.le_of_ble_eq_true rfl) (and_i (Nat.le_of_ble_eq_true rfl) ?_))
              refine gs rfl ?_
              refine gs rfl ?_
              refine gs rfl ?_
              refine gs rfl ?_
              refine and_i (Nat.le_of_ble_eq_true rfl) (cl0 (Nat.le_of_ble_eq_true rfl) (and_i (Nat.le_of_ble_eq_true rfl) ?_))
              refine gs rfl ?_
              refine gs rfl ?_
              refine gs rfl ?_
              refine gs rfl ?_
              refine gs rfl ?_
              refine gs rfl ?_
              refine gs rfl ?_
              refine gs rfl ?_
              refine gs rfl ?_
              refine and_2 rfl (Or.inr rfl) ?_
              refine gs rfl ?_
              refine and_2 rfl (Or.inr rfl) ?_
              refine gs rfl ?_
              refine gs rfl ?_
              refine gs rfl ?_
              refine and_i (Nat.le_of_ble_eq_true rfl) (cl0 (Nat.le_of_ble_eq_true rfl) (and_i (Nat.le_of_ble_eq_true rfl) ?_))
              refine gs rfl ?_
              refine gs rfl ?_
              refine gs rfl ?_
              refine gs rfl ?_
              refine and_i (Nat.le_of_ble_eq_true rfl) (cl0 (Nat.le_of_ble_eq_true rfl) (and_i (Nat.le_of_ble_eq_true rfl) ?_))
              refine gs rfl ?_
              refine gs rfl ?_
              refine gs rfl ?_
              refine gs rfl ?_
              refine gs rfl ?_
              refine gs rfl ?_
              refine gs rfl ?_
              refine gs rfl ?_
              refine gs rfl ?_
              refine and_2 rfl (Or.inr rfl) ?_
              refine gs rfl ?_
              refine and_2 rfl (Or.inr rfl) ?_
              refine gs rfl ?_
              refine gs rfl ?_
              refine gs rfl ?_
              refine gs rfl ?_
              refine gs rfl ?_
              refine and_2 rfl (vin rfl) ?_
              refine gs rfl ?_
              refine gs rfl ?_
              refine gs rfl ?_
              refine gs rfl ?_
              refine and_i (Nat.le_of_ble_eq_true rfl) (cl0 (Nat.le_of_ble_eq_true rfl) (and_i (Nat.le_of_ble_eq_true rfl) ?_))
              refine gs rfl ?_
              refine gs rfl ?_
              refine gs rfl ?_
              refine gs rfl ?_
              refine gs rfl ?_
              refine gs rfl ?_
              refine gs rfl ?_
              refine and_2 rfl (vin rfl) ?_
              refine gs rfl ?_
              refine gs rfl ?_
              refine gs rfl ?_
              refine and_3 (Nat.le_of_ble_eq_true rfl) rfl (vin rfl) ?_
              refine gs rfl ?_
              refine gs rfl ?_
              refine and_i rfl ?_
              refine gs rfl ?_
              refine and_i rfl ?_
              refine gs rfl ?_
              refine gs rfl ?_
              refine gs rfl ?_
              refine gs rfl ?_
              refine gs rfl ?_
              refine gs rfl ?_
              refine and_i (Or.inl rfl) ?_
              refine gwst (congrArg (fun z => Value.int z :: _) (alen_k (n := 6) (by rfl))) ?_
              refine gs rfl ?_
              refine gs rfl ?_
              refine gs rfl ?_
              refine gs rfl ?_
              refine gs rfl ?_
              refine and_2 rfl (Or.inr rfl) ?_
              exact rfl
            · have x14q : s3 = (2 : Int32) := x14
              clear x14
              subst x14q
              refine gs rfl ?_
              refine and_2 (Nat.le_of_ble_eq_true rfl) (vin rfl) ?_
              refine and_2 rfl (fun z q => by cases q) ?_
              refine gs rfl ?_
              refine gs rfl ?_
              refine gs rfl ?_
              refine gs rfl ?_
              refine gs rfl ?_
              refine gs rfl ?_
              refine gs rfl ?_
              refine and_i (Nat.le_of_ble_eq_true rfl) (cl0 (Nat.le_of_ble_eq_true rfl) (and_i (Nat.le_of_ble_eq_true rfl) ?_))
              refine gs rfl ?_
              refine gs rfl ?_
              refine gs rfl ?_
              refine gs rfl ?_
              refine gs rfl ?_
              refine and_2 rfl (vin rfl) ?_
              refine gs rfl ?_
              refine gs rfl ?_
              refine gs rfl ?_
              refine and_3 (Nat.le_of_ble_eq_true rfl) rfl (vin rfl) ?_
              refine gs rfl ?_
              refine gs rfl ?_
              refine gs rfl ?_
              refine gs rfl ?_
              refine and_i rfl ?_
              refine gs rfl ?_
              refine and_i rfl ?_
              refine FRg rfl (fun f => ?_)
              refine gs rfl ?_
              refine gs rfl ?_
              refine gs rfl ?_
              refine gs rfl ?_
              refine gs rfl ?_
              refine gs rfl ?_
              refine and_2 rfl (vin rfl) ?_
              refine gs rfl ?_
              refine gs rfl ?_
              refine gs rfl ?_
              refine gs rfl ?_
              refine gs rfl ?_
              refine and_2 rfl (vin rfl) ?_
              refine gs rfl ?_
              refine gs rfl ?_
              refine gs rfl ?_
              refine gs rfl ?_
              refine gs rfl ?_
              refine and_2 rfl (vin rfl) ?_
              refine gs rfl ?_
              refine gs rfl ?_
              refine gs rfl ?_
              refine gs rfl ?_
              refine gs rfl ?_
              refine and_2 rfl (vin rfl) ?_
              refine gs rfl ?_
              refine gs rfl ?_
              refine gs rfl ?_
              refine gs rfl ?_
              refine gs rfl ?_
              refine and_2 rfl (vin rfl) ?_
              refine gs rfl ?_
              refine and_i (Nat.le_of_ble_eq_true rfl) (cl0 (Nat.le_of_ble_eq_true rfl) (and_i (Nat.le_of_ble_eq_true rfl) ?_))
              refine gs rfl ?_
              refine gs rfl ?_
              refine and_i (Nat.le_of_ble_eq_true rfl) (cl0 (Nat.le_of_ble_eq_true rfl) (and_i (Nat.le_of_ble_eq_true rfl) ?_))
              refine gs rfl ?_
              refine gs rfl ?_
              refine gs rfl ?_
              refine gs rfl ?_
              refine and_i (Nat.le_of_ble_eq_true rfl) (cl0 (Nat.le_of_ble_eq_true rfl) (and_i (Nat.le_of_ble_eq_true rfl) ?_))
              refine gs rfl ?_
              refine gs rfl ?_
              refine gs rfl ?_
              refine gs rfl ?_
              refine gs rfl ?_
              refine gs rfl ?_
              refine gs rfl ?_
              refine gs rfl ?_
              refine gs rfl ?_
              refine and_2 rfl (Or.inr rfl) ?_
              refine gs rfl ?_
              refine and_2 rfl (Or.inr rfl) ?_
              refine gs rfl ?_
              refine gs rfl ?_
              refine gs rfl ?_
              refine and_i (Nat.le_of_ble_eq_true rfl) (cl0 (Nat.le_of_ble_eq_true rfl) (and_i (Nat.le_of_ble_eq_true rfl) ?_))
              refine gs rfl ?_
              refine gs rfl ?_
              refine gs rfl ?_
              refine gs rfl ?_
              refine and_i (Nat.le_of_ble_eq_true rfl) (cl0 (Nat.le_of_ble_eq_true rfl) (and_i (Nat.le_of_ble_eq_true rfl) ?_))
              refine gs rfl ?_
              refine gs rfl ?_
              refine gs rfl ?_
              refine gs rfl ?_
              refine gs rfl ?_
              refine gs rfl ?_
              refine gs rfl ?_
              refine gs rfl ?_
              refine gs rfl ?_
              refine and_2 rfl (Or.inr rfl) ?_
              refine gs rfl ?_
              refine and_2 rfl (Or.inr rfl) ?_
              refine gs rfl ?_
              refine gs rfl ?_
              refine gs rfl ?_
              refine gs rfl ?_
              refine gs rfl ?_
              refine and_2 rfl (vin rfl) ?_
              refine gs rfl ?_
              refine gs rfl ?_
              refine gs rfl ?_
              refine gs rfl ?_
              refine and_i (Nat.le_of_ble_eq_true rfl) (cl0 (Nat.le_of_ble_eq_true rfl) (and_i (Nat.le_of_ble_eq_true rfl) ?_))
              refine gs rfl ?_
              refine gs rfl ?_
              refine gs rfl ?_
              refine gs rfl ?_
              refine gs rfl ?_
              refine gs rfl ?_
              refine gs rfl ?_
              refine and_2 rfl (vin rfl) ?_
              refine gs rfl ?_
              refine gs rfl ?_
              refine gs rfl ?_
              refine and_3 (Nat.le_of_ble_eq_true rfl) rfl (vin rfl) ?_
              refine gs rfl ?_
              refine gs rfl ?_
              refine and_i rfl ?_
              refine gs rfl ?_
              refine and_i rfl ?_
              refine gs rfl ?_
              refine gs rfl ?_
              refine gs rfl ?_
              refine gs rfl ?_
              refine gs rfl ?_
              refine gs rfl ?_
              refine and_i (Or.inl rfl) ?_
              refine gwst (congrArg (fun z => Value.int z :: _) (alen_k (n := 6) (by rfl))) ?_
              refine gs rfl ?_
              refine gs rfl ?_
              refine gs rfl ?_
              refine gs rfl ?_
              refine gs rfl ?_
              refine and_2 rfl (Or.inr rfl) ?_
              exact rfl
            · have x14q : s3 = (3 : Int32) := x14
              clear x14
              subst x14q
              refine gs rfl ?_
              refine and_2 (Nat.le_of_ble_eq_true rfl) (vin rfl) ?_
              refine and_2 rfl (fun z q => by cases q) ?_
              refine gs rfl ?_
              refine gs rfl ?_
              refine gs rfl ?_
              refine gs rfl ?_
              refine gs rfl ?_
              refine gs rfl ?_
              refine gs rfl ?_
              refine and_i (Nat.le_of_ble_eq_true rfl) (cl0 (Nat.le_of_ble_eq_true rfl) (and_i (Nat.le_of_ble_eq_true rfl) ?_))
              refine gs rfl ?_
              refine gs rfl ?_
              refine gs rfl ?_
              refine gs rfl ?_
              refine gs rfl ?_
              refine and_2 rfl (vin rfl) ?_
              refine gs rfl ?_
              refine gs rfl ?_
              refine gs rfl ?_
              refine and_3 (Nat.le_of_ble_eq_true rfl) rfl (vin rfl) ?_
              refine gs rfl ?_
              refine gs rfl ?_
              refine gs rfl ?_
              refine gs rfl ?_
              refine and_i rfl ?_
              refine gs rfl ?_
              refine and_i rfl ?_
              refine FRg rfl (fun f => ?_)
              refine gs rfl ?_
              refine gs rfl ?_
              refine gs rfl ?_
              refine gs rfl ?_
              refine gs rfl ?_
              refine gs rfl ?_
              refine and_2 rfl (vin rfl) ?_
              refine gs rfl ?_
              refine gs rfl ?_
              refine gs rfl ?_
              refine gs rfl ?_
              refine gs rfl ?_
              refine and_2 rfl (vin rfl) ?_
              refine gs rfl ?_
              refine gs rfl ?_
              refine gs rfl ?_
              refine gs rfl ?_
              refine gs rfl ?_
              refine and_2 rfl (vin rfl) ?_
              refine gs rfl ?_
              refine gs rfl ?_
              refine gs rfl ?_
              refine gs rfl ?_
              refine gs rfl ?_
              refine and_2 rfl (vin rfl) ?_
              refine gs rfl ?_
              refine gs rfl ?_
              refine gs rfl ?_
              refine gs rfl ?_
              refine gs rfl ?_
              refine and_2 rfl (vin rfl) ?_
              refine gs rfl ?_
              refine and_i (Nat.le_of_ble_eq_true rfl) (cl0 (Nat.le_of_ble_eq_true rfl) (and_i (Nat.le_of_ble_eq_true rfl) ?_))
              refine gs rfl ?_
              refine gs rfl ?_
              refine and_i (Nat.le_of_ble_eq_true rfl) (cl0 (Nat.le_of_ble_eq_true rfl) (and_i (Nat.le_of_ble_eq_true rfl) ?_))
              refine gs rfl ?_
              refine gs rfl ?_
              refine gs rfl ?_
              refine gs rfl ?_
              refine and_i (Nat.le_of_ble_eq_true rfl) (cl0 (Nat.le_of_ble_eq_true rfl) (and_i (Nat.le_of_ble_eq_true rfl) ?_))
              refine gs rfl ?_
              refine gs rfl ?_
              refine gs rfl ?_
              refine gs rfl ?_
              refine gs rfl ?_
              refine gs rfl ?_
              refine gs rfl ?_
              refine gs rfl ?_
              refine gs rfl ?_
              refine and_2 rfl (Or.inr rfl) ?_
              refine gs rfl ?_
              refine and_2 rfl (Or.inr rfl) ?_
              refine gs rfl ?_
              refine gs rfl ?_
              refine gs rfl ?_
              refine and_i (Nat.le_of_ble_eq_true rfl) (cl0 (Nat.le_of_ble_eq_true rfl) (and_i (Nat.le_of_ble_eq_true rfl) ?_))
              refine gs rfl ?_
              refine gs rfl ?_
              refine gs rfl ?_
              refine gs rfl ?_
              refine and_i (Nat.le_of_ble_eq_true rfl) (cl0 (Nat.le_of_ble_eq_true rfl) (and_i (Nat.le_of_ble_eq_true rfl) ?_))
              refine gs rfl ?_
              refine gs rfl ?_
              refine gs rfl ?_
              refine gs rfl ?_
              refine gs rfl ?_
              refine gs rfl ?_
              refine gs rfl ?_
              refine gs rfl ?_
              refine gs rfl ?_
              refine and_2 rfl (Or.inr rfl) ?_
              refine gs rfl ?_
              refine and_2 rfl (Or.inr rfl) ?_
              refine gs rfl ?_
              refine gs rfl ?_
              refine gs rfl ?_
              refine gs rfl ?_
              refine gs rfl ?_
              refine and_2 rfl (vin rfl) ?_
              refine gs rfl ?_
              refine gs rfl ?_
              refine gs rfl ?_
              refine gs rfl ?_
              refine and_i (Nat.le_of_ble_eq_true rfl) (cl0 (Nat.le_of_ble_eq_true rfl) (and_i (Nat.le_of_ble_eq_true rfl) ?_))
              refine gs rfl ?_
              refine gs rfl ?_
              refine gs rfl ?_
              refine gs rfl ?_
              refine gs rfl ?_
              refine gs rfl ?_
              refine gs rfl ?_
              refine and_2 rfl (vin rfl) ?_
              refine gs rfl ?_
              refine gs rfl ?_
              refine gs rfl ?_
              refine and_3 (Nat.le_of_ble_eq_true rfl) rfl (vin rfl) ?_
              refine gs rfl ?_
              refine gs rfl ?_
              refine and_i rfl ?_
              refine gs rfl ?_
              refine and_i rfl ?_
              refine gs rfl ?_
              refine gs rfl ?_
              refine gs rfl ?_
              refine gs rfl ?_
              refine gs rfl ?_
              refine gs rfl ?_
              refine and_i (Or.inl rfl) ?_
              refine gwst (congrArg (fun z => Value.int z :: _) (alen_k (n := 6) (by rfl))) ?_
              refine gs rfl ?_
              refine gs rfl ?_
              refine gs rfl ?_
              refine gs rfl ?_
              refine gs rfl ?_
              refine and_2 rfl (Or.inr rfl) ?_
              exact rfl
          · have x11q : s1 = (1 : Int32) := x11
            clear x11
            subst x11q
            refine gs rfl ?_
            refine and_2 (Nat.le_of_ble_eq_true rfl) (vin rfl) ?_
            refine and_2 rfl (fun z q => by cases q) ?_
            refine gs rfl ?_
            refine gs rfl ?_
            refine gs rfl ?_
            refine gs rfl ?_
            obtain ⟨j15, e16, x17⟩ := nat_of (x := s3) (lo := 0) (hi := 3) (by omega) (by omega)
            rcases (show j15 = 0 ∨ j15 = 1 ∨ j15 = 2 ∨ j15 = 3 by omega) with rfl | rfl | rfl | rfl
            · have x17q : s3 = (0 : Int32) := x17
              clear x17
              subst x17q
              refine gs rfl ?_
              refine and_2 (Nat.le_of_ble_eq_true rfl) (vin rfl) ?_
              refine and_2 rfl (fun z q => by cases q) ?_
              refine gs rfl ?_
              refine gs rfl ?_
              refine gs rfl ?_
              refine gs rfl ?_
              refine gs rfl ?_
              refine gs rfl ?_
              refine gs rfl ?_
              refine and_i (Nat.le_of_ble_eq_true rfl) (cl0 (Nat.le_of_ble_eq_true rfl) (and_i (Nat.le_of_ble_eq_true rfl) ?_))
              refine gs rfl ?_
              refine gs rfl ?_
              refine gs rfl ?_
              refine gs rfl ?_
              refine gs rfl ?_
              refine and_2 rfl (vin rfl) ?_
              refine gs rfl ?_
              refine gs rfl ?_
              refine gs rfl ?_
              refine and_3 (Nat.le_of_ble_eq_true rfl) rfl (vin rfl) ?_
              refine gs rfl ?_
              refine gs rfl ?_
              refine gs rfl ?_
              refine gs rfl ?_
              refine and_i rfl ?_
              refine gs rfl ?_
              refine and_i rfl ?_
              refine FRg rfl (fun f => ?_)
              refine gs rfl ?_
              refine gs rfl ?_
              refine gs rfl ?_
              refine gs rfl ?_
              refine gs rfl ?_
              refine gs rfl ?_
              refine and_2 rfl (vin rfl) ?_
              refine gs rfl ?_
              refine gs rfl ?_
              refine gs rfl ?_
              refine gs rfl ?_
              refine gs rfl ?_
              refine and_2 rfl (vin rfl) ?_
              refine gs rfl ?_
              refine gs rfl ?_
              refine gs rfl ?_
              refine gs rfl ?_
              refine gs rfl ?_
              refine and_2 rfl (vin rfl) ?_
              refine gs rfl ?_
              refine gs rfl ?_
              refine gs rfl ?_
              refine gs rfl ?_
              refine gs rfl ?_
              refine and_2 rfl (vin rfl) ?_
              refine gs rfl ?_
              refine gs rfl ?_
              refine gs rfl ?_
              refine gs rfl ?_
              refine gs rfl ?_
              refine and_2 rfl (vin rfl) ?_
              refine gs rfl ?_
              refine and_i (Nat.le_of_ble_eq_true rfl) (cl0 (Nat.le_of_ble_eq_true rfl) (and_i (Nat.le_of_ble_eq_true rfl) ?_))
              refine gs rfl ?_
              refine gs rfl ?_
              refine and_i (Nat.le_of_ble_eq_true rfl) (cl0 (Nat.le_of_ble_eq_true rfl) (and_i (Nat.le_of_ble_eq_true rfl) ?_))
              refine gs rfl ?_
              refine gs rfl ?_
              refine gs rfl ?_
              refine gs rfl ?_
              refine and_i (Nat.le_of_ble_eq_true rfl) (cl0 (Nat.le_of_ble_eq_true rfl) (and_i (Nat.le_of_ble_eq_true rfl) ?_))
              refine gs rfl ?_
              refine gs rfl ?_
              refine gs rfl ?_
              refine gs rfl ?_
              refine gs rfl ?_
              refine gs rfl ?_
              refine gs rfl ?_
              refine gs rfl ?_
              refine gs rfl ?_
              refine and_2 rfl (Or.inr rfl) ?_
              refine gs rfl ?_
              refine and_2 rfl (Or.inr rfl) ?_
              refine gs rfl ?_
              refine gs rfl ?_
              refine gs rfl ?_
              refine and_i (Nat.le_of_ble_eq_true rfl) (cl0 (Nat.le_of_ble_eq_true rfl) (and_i (Nat.le_of_ble_eq_true rfl) ?_))
              refine gs rfl ?_
              refine gs rfl ?_
              refine gs rfl ?_
              refine gs rfl ?_
              refine and_i (Nat.le_of_ble_eq_true rfl) (cl0 (Nat.le_of_ble_eq_true rfl) (and_i (Nat.le_of_ble_eq_true rfl) ?_))
              refine gs rfl ?_
              refine gs rfl ?_
              refine gs rfl ?_
              refine gs rfl ?_
              refine gs rfl ?_
              refine gs rfl ?_
              refine gs rfl ?_
              refine gs rfl ?_
              refine gs rfl ?_
              refine and_2 rfl (Or.inr rfl) ?_
              refine gs rfl ?_
              refine and_2 rfl (Or.inr rfl) ?_
              refine gs rfl ?_
              refine gs rfl ?_
              refine gs rfl ?_
              refine gs rfl ?_
              refine gs rfl ?_
              refine and_2 rfl (vin rfl) ?_
              refine gs rfl ?_
              refine gs rfl ?_
              refine gs rfl ?_
              refine gs rfl ?_
              refine and_i (Nat.le_of_ble_eq_true rfl) (cl0 (Nat.le_of_ble_eq_true rfl) (and_i (Nat.le_of_ble_eq_true rfl) ?_))
              refine gs rfl ?_
              refine gs rfl ?_
              refine gs rfl ?_
              refine gs rfl ?_
              refine gs rfl ?_
              refine gs rfl ?_
              refine gs rfl ?_
              refine and_2 rfl (vin rfl) ?_
              refine gs rfl ?_
              refine gs rfl ?_
              refine gs rfl ?_
              refine and_3 (Nat.le_of_ble_eq_true rfl) rfl (vin rfl) ?_
              refine gs rfl ?_
              refine gs rfl ?_
              refine and_i rfl ?_
              refine gs rfl ?_
              refine and_i rfl ?_
              refine gs rfl ?_
              refine gs rfl ?_
              refine gs rfl ?_
              refine gs rfl ?_
              refine gs rfl ?_
              refine gs rfl ?_
              refine and_i (Or.inl rfl) ?_
              refine gwst (congrArg (fun z => Value.int z :: _) (alen_k (n := 6) (by rfl))) ?_
              refine gs rfl ?_
              refine gs rfl ?_
              refine gs rfl ?_
              refine gs rfl ?_
              refine gs rfl ?_
              refine and_2 rfl (Or.inr rfl) ?_
              exact rfl
            · have x17q : s3 = (1 : Int32) := x17
              clear x17
              subst x17q
              refine gs rfl ?_
              refine and_2 (Nat.le_of_ble_eq_true rfl) (vin rfl) ?_
              refine and_2 rfl (fun z q => by cases q) ?_
              refine gs rfl ?_
              refine gs rfl ?_
              refine gs rfl ?_
              refine gs rfl ?_
              refine gs rfl ?_
              refine gs rfl ?_
              refine gs rfl ?_
              refine and_i (Nat.le_of_ble_eq_true rfl) (cl0 (Nat.le_of_ble_eq_true rfl) (and_i (Nat.le_of_ble_eq_true rfl) ?_))
              refine gs rfl ?_
              refine gs rfl ?_
              refine gs rfl ?_
              refine gs rfl ?_
              refine gs rfl ?_
              refine and_2 rfl (vin rfl) ?_
              refine gs rfl ?_
              refine gs rfl ?_
              refine gs rfl ?_
              refine and_3 (Nat.le_of_ble_eq_true rfl) rfl (vin rfl) ?_
              refine gs rfl ?_
              refine gs rfl ?_
              refine gs rfl ?_
              refine gs rfl ?_
              refine and_i rfl ?_
              refine gs rfl ?_
              refine and_i rfl ?_
              refine FRg rfl (fun f => ?_)
              refine gs rfl ?_
              refine gs rfl ?_
              refine gs rfl ?_
              refine gs rfl ?_
              refine gs rfl ?_
              refine gs rfl ?_
              refine and_2 rfl (vin rfl) ?_
              refine gs rfl ?_
              refine gs rfl ?_
              refine gs rfl ?_
              refine gs rfl ?_
              refine gs rfl ?_
              refine and_2 rfl (vin rfl) ?_
              refine gs rfl ?_
              refine gs rfl ?_
              refine gs rfl ?_
              refine gs rfl ?_
              refine gs rfl ?_
              refine and_2 rfl (vin rfl) ?_
              refine gs rfl ?_
              refine gs rfl ?_
              refine gs rfl ?_
              refine gs rfl ?_
              refine gs rfl ?_
              refine and_2 rfl (vin rfl) ?_
              refine gs rfl ?_
              refine gs rfl ?_
              refine gs rfl ?_
              refine gs rfl ?_
              refine gs rfl ?_
              refine and_2 rfl (vin rfl) ?_
              refine gs rfl ?_
              refine and_i (Nat.le_of_ble_eq_true rfl) (cl0 (Nat.le_of_ble_eq_true rfl) (and_i (Nat.le_of_ble_eq_true rfl) ?_))
              refine gs rfl ?_
              refine gs rfl ?_
              refine and_i (Nat.le_of_ble_eq_true rfl) (cl0 (Nat.le_of_ble_eq_true rfl) (and_i (Nat.le_of_ble_eq_true rfl) ?_))
              refine gs rfl ?_
              refine gs rfl ?_
              refine gs rfl ?_
              refine gs rfl ?_
              refine and_i (Nat.le_of_ble_eq_true rfl) (cl0 (Nat.le_of_ble_eq_true rfl) (and_i (Nat.le_of_ble_eq_true rfl) ?_))
              refine gs rfl ?_
              refine gs rfl ?_
              refine gs rfl ?_
              refine gs rfl ?_
              refine gs rfl ?_
              refine gs rfl ?_
              refine gs rfl ?_
              refine gs rfl ?_
              refine gs rfl ?_
              refine and_2 rfl (Or.inr rfl) ?_
              refine gs rfl ?_
              refine and_2 rfl (Or.inr rfl) ?_
              refine gs rfl ?_
              refine gs rfl ?_
              refine gs rfl ?_
              refine and_i (Nat.le_of_ble_eq_true rfl) (cl0 (Nat.le_of_ble_eq_true rfl) (and_i (Nat.le_of_ble_eq_true rfl) ?_))
              refine gs rfl ?_
              refine gs rfl ?_
              refine gs rfl ?_
              refine gs rfl ?_
              refine and_i (Nat.le_of_ble_eq_true rfl) (cl0 (Nat.le_of_ble_eq_true rfl) (and_i (Nat.le_of_ble_eq_true rfl) ?_))
              refine gs rfl ?_
              refine gs rfl ?_
              refine gs rfl ?_
              refine gs rfl ?_
              refine gs rfl ?_
              refine gs rfl ?_
              refine gs rfl ?_
              refine gs rfl ?_
              refine gs rfl ?_
              refine and_2 rfl (Or.inr rfl) ?_
              refine gs rfl ?_
              refine and_2 rfl (Or.inr rfl) ?_
              refine gs rfl ?_
              refine gs rfl ?_
              refine gs rfl ?_
              refine gs rfl ?_
              refine gs rfl ?_
              refine and_2 rfl (vin rfl) ?_
              refine gs rfl ?_
              refine gs rfl ?_
              refine gs rfl ?_
              refine gs rfl ?_
              refine and_i (Nat.le_of_ble_eq_true rfl) (cl0 (Nat.le_of_ble_eq_true rfl) (and_i (Nat.le_of_ble_eq_true rfl) ?_))
              refine gs rfl ?_
              refine gs rfl ?_
              refine gs rfl ?_
              refine gs rfl ?_
              refine gs rfl ?_
              refine gs rfl ?_
              refine gs rfl ?_
              refine and_2 rfl (vin rfl) ?_
              refine gs rfl ?_
              refine gs rfl ?_
              refine gs rfl ?_
              refine and_3 (Nat.le_of_ble_eq_true rfl) rfl (vin rfl) ?_
              refine gs rfl ?_
              refine gs rfl ?_
              refine and_i rfl ?_
              refine gs rfl ?_
              refine and_i rfl ?_
              refine gs rfl ?_
              refine gs rfl ?_
              refine gs rfl ?_
              refine gs rfl ?_
              refine gs rfl ?_
              refine gs rfl ?_
              refine and_i (Or.inl rfl) ?_
              refine gwst (congrArg (fun z => Value.int z :: _) (alen_k (n := 6) (by rfl))) ?_
              refine gs rfl ?_
              refine gs rfl ?_
              refine gs rfl ?_
              refine gs rfl ?_
              refine gs rfl ?_
              refine and_2 rfl (Or.inr rfl) ?_
              exact rfl
            · have x17q : s3 = (2 : Int32) := x17
              clear x17
              subst x17q
              refine gs rfl ?_
              refine and_2 (Nat.le_of_ble_eq_true rfl) (vin rfl) ?_
              refine and_2 rfl (fun z q => by cases q) ?_
              refine gs rfl ?_
              refine gs rfl ?_
              refine gs rfl ?_
              refine gs rfl ?_
              refine gs rfl ?_
              refine gs rfl ?_
              refine gs rfl ?_
              refine and_i (Nat.le_of_ble_eq_true rfl) (cl0 (Nat.le_of_ble_eq_true rfl) (and_i (Nat.le_of_ble_eq_true rfl) ?_))
              refine gs rfl ?_
              refine gs rfl ?_
              refine gs rfl ?_
              refine gs rfl ?_
              refine gs rfl ?_
              refine and_2 rfl (vin rfl) ?_
              refine gs rfl ?_
              refine gs rfl ?_
              refine gs rfl ?_
              refine and_3 (Nat.le_of_ble_eq_true rfl) rfl (vin rfl) ?_
              refine gs rfl ?_
              refine gs rfl ?_
              refine gs rfl ?_
              refine gs rfl ?_
              refine and_i rfl ?_
              refine gs rfl ?_
              refine and_i rfl ?_
              refine FRg rfl (fun f => ?_)
              refine gs rfl ?_
              refine gs rfl ?_
              refine gs rfl ?_
              refine gs rfl ?_
              refine gs rfl ?_
              refine gs rfl ?_
              refine and_2 rfl (vin rfl) ?_
              refine gs rfl ?_
              refine gs rfl ?_
              refine gs rfl ?_
              refine gs rfl ?_
              refine gs rfl ?_
              refine and_2 rfl (vin rfl) ?_
              refine gs rfl ?_
              refine gs rfl ?_
              refine gs rfl ?_
              refine gs rfl ?_
              refine gs rfl ?_
              refine and_2 rfl (vin rfl) ?_
              refine gs rfl ?_
              refine gs rfl ?_
              refine gs rfl ?_
              refine gs rfl ?_
              refine gs rfl ?_
              refine and_2 rfl (vin rfl) ?_
              refine gs rfl ?_
              refine gs rfl ?_
              refine gs rfl ?_
              refine gs rfl ?_
              refine gs rfl ?_
              refine and_2 rfl (vin rfl) ?_
              refine gs rfl ?_
              refine and_i (Nat.le_of_ble_eq_true rfl) (cl0 (Nat.le_of_ble_eq_true rfl) (and_i (Nat.le_of_ble_eq_true rfl) ?_))
              refine gs rfl ?_
              refine gs rfl ?_
              refine and_i (Nat.le_of_ble_eq_true rfl) (cl0 (Nat.le_of_ble_eq_true rfl) (and_i (Nat.le_of_ble_eq_true rfl) ?_))
              refine gs rfl ?_
              refine gs rfl ?_
              refine gs rfl ?_
              refine gs rfl ?_
              refine and_i (Nat.le_of_ble_eq_true rfl) (cl0 (Nat.le_of_ble_eq_true rfl) (and_i (Nat.le_of_ble_eq_true rfl) ?_))
              refine gs rfl ?_
              refine gs rfl ?_
              refine gs rfl ?_
              refine gs rfl ?_
              refine gs rfl ?_
              refine gs rfl ?_
              refine gs rfl ?_
              refine gs rfl ?_
              refine gs rfl ?_
              refine and_2 rfl (Or.inr rfl) ?_
              refine gs rfl ?_
              refine and_2 rfl (Or.inr rfl) ?_
              refine gs rfl ?_
              refine gs rfl ?_
              refine gs rfl ?_
              refine and_i (Nat.le_of_ble_eq_true rfl) (cl0 (Nat.le_of_ble_eq_true rfl) (and_i (Nat.le_of_ble_eq_true rfl) ?_))
              refine gs rfl ?_
              refine gs rfl ?_
              refine gs rfl ?_
              refine gs rfl ?_
              refine and_i (Nat.le_of_ble_eq_true rfl) (cl0 (Nat.le_of_ble_eq_true rfl) (and_i (Nat.le_of_ble_eq_true rfl) ?_))
              refine gs rfl ?_
              refine gs rfl ?_
              refine gs rfl ?_
              refine gs rfl ?_
              refine gs rfl ?_
              refine gs rfl ?_
              refine gs rfl ?_
              refine gs rfl ?_
              refine gs rfl ?_
              refine and_2 rfl (Or.inr rfl) ?_
              refine gs rfl ?_
              refine and_2 rfl (Or.inr rfl) ?_
              refine gs rfl ?_
              refine gs rfl ?_
              refine gs rfl ?_
              refine gs rfl ?_
              refine gs rfl ?_
              refine and_2 rfl (vin rfl) ?_
              refine gs rfl ?_
              refine gs rfl ?_
              refine gs rfl ?_
              refine gs rfl ?_
              refine and_i (Nat.le_of_ble_eq_true rfl) (cl0 (Nat.le_of_ble_eq_true rfl) (and_i (Nat.le_of_ble_eq_true rfl) ?_))
              refine gs rfl ?_
              refine gs rfl ?_
              refine gs rfl ?_
              refine gs rfl ?_
              refine gs rfl ?_
              refine gs rfl ?_
              refine gs rfl ?_
              refine and_2 rfl (vin rfl) ?_
              refine gs rfl ?_
              refine gs rfl ?_
              refine gs rfl ?_
              refine and_3 (Nat.le_of_ble_eq_true rfl) rfl (vin rfl) ?_
              refine gs rfl ?_
              refine gs rfl ?_
              refine and_i rfl ?_
              refine gs rfl ?_
              refine and_i rfl ?_
              refine gs rfl ?_
              refine gs rfl ?_
              refine gs rfl ?_
              refine gs rfl ?_
              refine gs rfl ?_
              refine gs rfl ?_
              refine and_i (Or.inl rfl) ?_
              refine gwst (congrArg (fun z => Value.int z :: _) (alen_k (n := 6) (by rfl))) ?_
              refine gs rfl ?_
              refine gs rfl ?_
              refine gs rfl ?_
              refine gs rfl ?_
              refine gs rfl ?_
              refine and_2 rfl (Or.inr rfl) ?_
              exact rfl
            · have x17q : s3 = (3 : Int32) := x17
              clear x17
              subst x17q
              refine gs rfl ?_
              refine and_2 (Nat.le_of_ble_eq_true rfl) (vin rfl) ?_
              refine and_2 rfl (fun z q => by cases q) ?_
              refine gs rfl ?_
              refine gs rfl ?_
              refine gs rfl ?_
              refine gs rfl ?_
              refine gs rfl ?_
              refine gs rfl ?_
              refine gs rfl ?_
              refine and_i (Nat.le_of_ble_eq_true rfl) (cl0 (Nat.le_of_ble_eq_true rfl) (and_i (Nat.le_of_ble_eq_true rfl) ?_))
              refine gs rfl ?_
              refine gs rfl ?_
              refine gs rfl ?_
              refine gs rfl ?_
              refine gs rfl ?_
              refine and_2 rfl (vin rfl) ?_
              refine gs rfl ?_
              refine gs rfl ?_
              refine gs rfl ?_
              refine and_3 (Nat.le_of_ble_eq_true rfl) rfl (vin rfl) ?_
              refine gs rfl ?_
              refine gs rfl ?_
              refine gs rfl ?_
              refine gs rfl ?_
              refine and_i rfl ?_
              refine gs rfl ?_
              refine and_i rfl ?_
              refine FRg rfl (fun f => ?_)
              refine gs rfl ?_
              refine gs rfl ?_
              refine gs rfl ?_
              refine gs rfl ?_
              refine gs rfl ?_
              refine gs rfl ?_
              refine and_2 rfl (vin rfl) ?_
              refine gs rfl ?_
              refine gs rfl ?_
              refine gs rfl ?_
              refine gs rfl ?_
              refine gs rfl ?_
              refine and_2 rfl (vin rfl) ?_
              refine gs rfl ?_
              refine gs rfl ?_
              refine gs rfl ?_
              refine gs rfl ?_
              refine gs rfl ?_
              refine and_2 rfl (vin rfl) ?_
              refine gs rfl ?_
              refine gs rfl ?_
              refine gs rfl ?_
              refine gs rfl ?_
              refine gs rfl ?_
              refine and_2 rfl (vin rfl) ?_
              refine gs rfl ?_
              refine gs rfl ?_
              refine gs rfl ?_
              refine gs rfl ?_
              refine gs rfl ?_
              refine and_2 rfl (vin rfl) ?_
              refine gs rfl ?_
              refine and_i (Nat.le_of_ble_eq_true rfl) (cl0 (Nat.le_of_ble_eq_true rfl) (and_i (Nat.le_of_ble_eq_true rfl) ?_))
              refine gs rfl ?_
              refine gs rfl ?_
              refine and_i (Nat.le_of_ble_eq_true rfl) (cl0 (Nat.le_of_ble_eq_true rfl) (and_i (Nat.le_of_ble_eq_true rfl) ?_))
              refine gs rfl ?_
              refine gs rfl ?_
              refine gs rfl ?_
              refine gs rfl ?_
              refine and_i (Nat.le_of_ble_eq_true rfl) (cl0 (Nat.le_of_ble_eq_true rfl) (and_i (Nat.le_of_ble_eq_true rfl) ?_))
              refine gs rfl ?_
              refine gs rfl ?_
              refine gs rfl ?_
              refine gs rfl ?_
              refine gs rfl ?_
              refine gs rfl ?_
              refine gs rfl ?_
              refine gs rfl ?_
              refine gs rfl ?_
              refine and_2 rfl (Or.inr rfl) ?_
              refine gs rfl ?_
              refine and_2 rfl (Or.inr rfl) ?_
              refine gs rfl ?_
              refine gs rfl ?_
              refine gs rfl ?_
              refine and_i (Nat.le_of_ble_eq_true rfl) (cl0 (Nat.le_of_ble_eq_true rfl) (and_i (Nat.le_of_ble_eq_true rfl) ?_))
              refine gs rfl ?_
              refine gs rfl ?_
              refine gs rfl ?_
              refine gs rfl ?_
              refine and_i (Nat.le_of_ble_eq_true rfl) (cl0 (Nat.le_of_ble_eq_true rfl) (and_i (Nat.le_of_ble_eq_true rfl) ?_))
              refine gs rfl ?_
              refine gs rfl ?_
              refine gs rfl ?_
              refine gs rfl ?_
              refine gs rfl ?_
              refine gs rfl ?_
              refine gs rfl ?_
              refine gs rfl ?_
              refine gs rfl ?_
              refine and_2 rfl (Or.inr rfl) ?_
              refine gs rfl ?_
              refine and_2 rfl (Or.inr rfl) ?_
              refine gs rfl ?_
              refine gs rfl ?_
              refine gs rfl ?_
              refine gs rfl ?_
              refine gs rfl ?_
              refine and_2 rfl (vin rfl) ?_
              refine gs rfl ?_
              refine gs rfl ?_
              refine gs rfl ?_
              refine gs rfl ?_
              refine and_i (Nat.le_of_ble_eq_true rfl) (cl0 (Nat.le_of_ble_eq_true rfl) (and_i (Nat.le_of_ble_eq_true rfl) ?_))
              refine gs rfl ?_
              refine gs rfl ?_
              refine gs rfl ?_
              refine gs rfl ?_
              refine gs rfl ?_
              refine gs rfl ?_
              refine gs rfl ?_
              refine and_2 rfl (vin rfl) ?_
              refine gs rfl ?_
              refine gs rfl ?_
              refine gs rfl ?_
              refine and_3 (Nat.le_of_ble_eq_true rfl) rfl (vin rfl) ?_
              refine gs rfl ?_
              refine gs rfl ?_
              refine and_i rfl ?_
              refine gs rfl ?_
              refine and_i rfl ?_
              refine gs rfl ?_
              refine gs rfl ?_
              refine gs rfl ?_
              refine gs rfl ?_
              refine gs rfl ?_
              refine gs rfl ?_
              refine and_i (Or.inl rfl) ?_
              refine gwst (congrArg (fun z => Value.int z :: _) (alen_k (n := 6) (by rfl))) ?_
              refine gs rfl ?_
              refine gs rfl ?_
              refine gs rfl ?_
              refine gs rfl ?_
              refine gs rfl ?_
              refine and_2 rfl (Or.inr rfl) ?_
              exact rfl
          · have x11q : s1 = (2 : Int32) := x11
            clear x11
            subst x11q
            refine gs rfl ?_
            refine and_2 (Nat.le_of_ble_eq_true rfl) (vin rfl) ?_
            refine and_2 rfl (fun z q => by cases q) ?_
            refine gs rfl ?_
            refine gs rfl ?_
            refine gs rfl ?_
            refine gs rfl ?_
            obtain ⟨j18, e19, x20⟩ := nat_of (x := s3) (lo := 0) (hi := 3) (by omega) (by omega)
            rcases (show j18 = 0 ∨ j18 = 1 ∨ j18 = 2 ∨ j18 = 3 by omega) with rfl | rfl | rfl | rfl
            · have x20q : s3 = (0 : Int32) := x20
              clear x20
              subst x20q
              refine gs rfl ?_
              refine and_2 (Nat.le_of_ble_eq_true rfl) (vin rfl) ?_
              refine and_2 rfl (fun z q => by cases q) ?_
              refine gs rfl ?_
              refine gs rfl ?_
              refine gs rfl ?_
              refine gs rfl ?_
              refine gs rfl ?_
              refine gs rfl ?_
              refine gs rfl ?_
              refine and_i (Nat.le_of_ble_eq_true rfl) (cl0 (Nat.le_of_ble_eq_true rfl) (and_i (Nat.le_of_ble_eq_true rfl) ?_))
              refine gs rfl ?_
              refine gs rfl ?_
              refine gs rfl ?_
              refine gs rfl ?_
              refine gs rfl ?_
              refine and_2 rfl (vin rfl) ?_
              refine gs rfl ?_
              refine gs rfl ?_
              refine gs rfl ?_
              refine and_3 (Nat.le_of_ble_eq_true rfl) rfl (vin rfl) ?_
              refine gs rfl ?_
              refine gs rfl ?_
              refine gs rfl ?_
              refine gs rfl ?_
              refine and_i rfl ?_
              refine gs rfl ?_
              refine and_i rfl ?_
              refine FRg rfl (fun f => ?_)
              refine gs rfl ?_
              refine gs rfl ?_
              refine gs rfl ?_
              refine gs rfl ?_
              refine gs rfl ?_
              refine gs rfl ?_
              refine and_2 rfl (vin rfl) ?_
              refine gs rfl ?_
              refine gs rfl ?_
              refine gs rfl ?_
              refine gs rfl ?_
              refine gs rfl ?_
              refine and_2 rfl (vin rfl) ?_
              refine gs rfl ?_
              refine gs rfl ?_
              refine gs rfl ?_
              refine gs rfl ?_
              refine gs rfl ?_
              refine and_2 rfl (vin rfl) ?_
              refine gs rfl ?_
              refine gs rfl ?_
              refine gs rfl ?_
              refine gs rfl ?_
              refine gs rfl ?_
              refine and_2 rfl (vin rfl) ?_
              refine gs rfl ?_
              refine gs rfl ?_
              refine gs rfl ?_
              refine gs rfl ?_
              refine gs rfl ?_
              refine and_2 rfl (vin rfl) ?_
              refine gs rfl ?_
              refine and_i (Nat.le_of_ble_eq_true rfl) (cl0 (Nat.le_of_ble_eq_true rfl) (and_i (Nat.le_of_ble_eq_true rfl) ?_))
              refine gs rfl ?_
              refine gs rfl ?_
              refine and_i (Nat.le_of_ble_eq_true rfl) (cl0 (Nat.le_of_ble_eq_true rfl) (and_i (Nat.le_of_ble_eq_true rfl) ?_))
              refine gs rfl ?_
              refine gs rfl ?_
              refine gs rfl ?_
              refine gs rfl ?_
              refine and_i (Nat.le_of_ble_eq_true rfl) (cl0 (Nat.le_of_ble_eq_true rfl) (and_i (Nat.le_of_ble_eq_true rfl) ?_))
              refine gs rfl ?_
              refine gs rfl ?_
              refine gs rfl ?_
              refine gs rfl ?_
              refine gs rfl ?_
              refine gs rfl ?_
              refine gs rfl ?_
              refine gs rfl ?_
              refine gs rfl ?_
              refine and_2 rfl (Or.inr rfl) ?_
              refine gs rfl ?_
              refine and_2 rfl (Or.inr rfl) ?_
              refine gs rfl ?_
              refine gs rfl ?_
              refine gs rfl ?_
              refine and_i (Nat.le_of_ble_eq_true rfl) (cl0 (Nat.le_of_ble_eq_true rfl) (and_i (Nat.le_of_ble_eq_true rfl) ?_))
              refine gs rfl ?_
              refine gs rfl ?_
              refine gs rfl ?_
              refine gs rfl ?_
              refine and_i (Nat.le_of_ble_eq_true rfl) (cl0 (Nat.le_of_ble_eq_true rfl) (and_i (Nat.le_of_ble_eq_true rfl) ?_))
              refine gs rfl ?_
              refine gs rfl ?_
              refine gs rfl ?_
              refine gs rfl ?_
              refine gs rfl ?_
              refine gs rfl ?_
              refine gs rfl ?_
              refine gs rfl ?_
              refine gs rfl ?_
              refine and_2 rfl (Or.inr rfl) ?_
              refine gs rfl ?_
              refine and_2 rfl (Or.inr rfl) ?_
              refine gs rfl ?_
              refine gs rfl ?_
              refine gs rfl ?_
              refine gs rfl ?_
              refine gs rfl ?_
              refine and_2 rfl (vin rfl) ?_
              refine gs rfl ?_
              refine gs rfl ?_
              refine gs rfl ?_
              refine gs rfl ?_
              refine and_i (Nat.le_of_ble_eq_true rfl) (cl0 (Nat.le_of_ble_eq_true rfl) (and_i (Nat.le_of_ble_eq_true rfl) ?_))
              refine gs rfl ?_
              refine gs rfl ?_
              refine gs rfl ?_
              refine gs rfl ?_
              refine gs rfl ?_
              refine gs rfl ?_
              refine gs rfl ?_
              refine and_2 rfl (vin rfl) ?_
              refine gs rfl ?_
              refine gs rfl ?_
              refine gs rfl ?_
              refine and_3 (Nat.le_of_ble_eq_true rfl) rfl (vin rfl) ?_
              refine gs rfl ?_
              refine gs rfl ?_
              refine and_i rfl ?_
              refine gs rfl ?_
              refine and_i rfl ?_
              refine gs rfl ?_
              refine gs rfl ?_
              refine gs rfl ?_
              refine gs rfl ?_
              refine gs rfl ?_
              refine gs rfl ?_
              refine and_i (Or.inl rfl) ?_
              refine gwst (congrArg (fun z => Value.int z :: _) (alen_k (n := 6) (by rfl))) ?_
              refine gs rfl ?_
              refine gs rfl ?_
              refine gs rfl ?_
              refine gs rfl ?_
              refine gs rfl ?_
              refine and_2 rfl (Or.inr rfl) ?_
              exact rfl
            · have x20q : s3 = (1 : Int32) := x20
              clear x20
              subst x20q
              refine gs rfl ?_
              refine and_2 (Nat.le_of_ble_eq_true rfl) (vin rfl) ?_
              refine and_2 rfl (fun z q => by cases q) ?_
              refine gs rfl ?_
              refine gs rfl ?_
              refine gs rfl ?_
              refine gs rfl ?_
              refine gs rfl ?_
              refine gs rfl ?_
              refine gs rfl ?_
              refine and_i (Nat.le_of_ble_eq_true rfl) (cl0 (Nat.le_of_ble_eq_true rfl) (and_i (Nat.le_of_ble_eq_true rfl) ?_))
              refine gs rfl ?_
              refine gs rfl ?_
              refine gs rfl ?_
              refine gs rfl ?_
              refine gs rfl ?_
              refine and_2 rfl (vin rfl) ?_
              refine gs rfl ?_
              refine gs rfl ?_
              refine gs rfl ?_
              refine and_3 (Nat.le_of_ble_eq_true rfl) rfl (vin rfl) ?_
              refine gs rfl ?_
              refine gs rfl ?_
              refine gs rfl ?_
              refine gs rfl ?_
              refine and_i rfl ?_
              refine gs rfl ?_
              refine and_i rfl ?_
              refine FRg rfl (fun f => ?_)
              refine gs rfl ?_
              refine gs rfl ?_
              refine gs rfl ?_
              refine gs rfl ?_
              refine gs rfl ?_
              refine gs rfl ?_
              refine and_2 rfl (vin rfl) ?_
              refine gs rfl ?_
              refine gs rfl ?_
              refine gs rfl ?_
              refine gs rfl ?_
              refine gs rfl ?_
              refine and_2 rfl (vin rfl) ?_
              refine gs rfl ?_
              refine gs rfl ?_
              refine gs rfl ?_
              refine gs rfl ?_
              refine gs rfl ?_
              refine and_2 rfl (vin rfl) ?_
              refine gs rfl ?_
              refine gs rfl ?_
              refine gs rfl ?_
              refine gs rfl ?_
              refine gs rfl ?_
              refine and_2 rfl (vin rfl) ?_
              refine gs rfl ?_
              refine gs rfl ?_
              refine gs rfl ?_
              refine gs rfl ?_
              refine gs rfl ?_
              refine and_2 rfl (vin rfl) ?_
              refine gs rfl ?_
              refine and_i (Nat.le_of_ble_eq_true rfl) (cl0 (Nat.le_of_ble_eq_true rfl) (and_i (Nat.le_of_ble_eq_true rfl) ?_))
              refine gs rfl ?_
              refine gs rfl ?_
              refine and_i (Nat.le_of_ble_eq_true rfl) (cl0 (Nat.le_of_ble_eq_true rfl) (and_i (Nat.le_of_ble_eq_true rfl) ?_))
              refine gs rfl ?_
              refine gs rfl ?_
              refine gs rfl ?_
              refine gs rfl ?_
              refine and_i (Nat.le_of_ble_eq_true rfl) (cl0 (Nat.le_of_ble_eq_true rfl) (and_i (Nat.le_of_ble_eq_true rfl) ?_))
              refine gs rfl ?_
              refine gs rfl ?_
              refine gs rfl ?_
              refine gs rfl ?_
              refine gs rfl ?_
              refine gs rfl ?_
              refine gs rfl ?_
              refine gs rfl ?_
              refine gs rfl ?_
              refine and_2 rfl (Or.inr rfl) ?_
              refine gs rfl ?_
              refine and_2 rfl (Or.inr rfl) ?_
              refine gs rfl ?_
              refine gs rfl ?_
              refine gs rfl ?_
              refine and_i (Nat.le_of_ble_eq_true rfl) (cl0 (Nat.le_of_ble_eq_true rfl) (and_i (Nat.le_of_ble_eq_true rfl) ?_))
              refine gs rfl ?_
              refine gs rfl ?_
              refine gs rfl ?_
              refine gs rfl ?_
              refine and_i (Nat.le_of_ble_eq_true rfl) (cl0 (Nat.le_of_ble_eq_true rfl) (and_i (Nat.le_of_ble_eq_true rfl) ?_))
              refine gs rfl ?_
              refine gs rfl ?_
              refine gs rfl ?_
              refine gs rfl ?_
              refine gs rfl ?_
              refine gs rfl ?_
              refine gs rfl ?_
              refine gs rfl ?_
              refine gs rfl ?_
              refine and_2 rfl (Or.inr rfl) ?_
              refine gs rfl ?_
              refine and_2 rfl (Or.inr rfl) ?_
              refine gs rfl ?_
              refine gs rfl ?_
              refine gs rfl ?_
              refine gs rfl ?_
              refine gs rfl ?_
              refine and_2 rfl (vin rfl) ?_
              refine gs rfl ?_
              refine gs rfl ?_
              refine gs rfl ?_
              refine gs rfl ?_
              refine and_i (Nat.le_of_ble_eq_true rfl) (cl0 (Nat.le_of_ble_eq_true rfl) (and_i (Nat.le_of_ble_eq_true rfl) ?_))
              refine gs rfl ?_
              refine gs rfl ?_
              refine gs rfl ?_
              refine gs rfl ?_
              refine gs rfl ?_
              refine gs rfl ?_
              refine gs rfl ?_
              refine and_2 rfl (vin rfl) ?_
              refine gs rfl ?_
              refine gs rfl ?_
              refine gs rfl ?_
              refine and_3 (Nat.le_of_ble_eq_true rfl) rfl (vin rfl) ?_
              refine gs rfl ?_
              refine gs rfl ?_
              refine and_i rfl ?_
              refine gs rfl ?_
              refine and_i rfl ?_
              refine gs rfl ?_
              refine gs rfl ?_
              refine gs rfl ?_
              refine gs rfl ?_
              refine gs rfl ?_
              refine gs rfl ?_
              refine and_i (Or.inl rfl) ?_
              refine gwst (congrArg (fun z => Value.int z :: _) (alen_k (n := 6) (by rfl))) ?_
              refine gs rfl ?_
              refine gs rfl ?_
              refine gs rfl ?_
              refine gs rfl ?_
              refine gs rfl ?_
              refine and_2 rfl (Or.inr rfl) ?_
              exact rfl
            · have x20q : s3 = (2 : Int32) := x20
              clear x20
              subst x20q
              refine gs rfl ?_
              refine and_2 (Nat.le_of_ble_eq_true rfl) (vin rfl) ?_
              refine and_2 rfl (fun z q => by cases q) ?_
              refine gs rfl ?_
              refine gs rfl ?_
              refine gs rfl ?_
              refine gs rfl ?_
              refine gs rfl ?_
              refine gs rfl ?_
              refine gs rfl ?_
              refine and_i (Nat.le_of_ble_eq_true rfl) (cl0 (Nat.le_of_ble_eq_true rfl) (and_i (Nat.le_of_ble_eq_true rfl) ?_))
              refine gs rfl ?_
              refine gs rfl ?_
              refine gs rfl ?_
              refine gs rfl ?_
              refine gs rfl ?_
              refine and_2 rfl (vin rfl) ?_
              refine gs rfl ?_
              refine gs rfl ?_
              refine gs rfl ?_
              refine and_3 (Nat.le_of_ble_eq_true rfl) rfl (vin rfl) ?_
              refine gs rfl ?_
              refine gs rfl ?_
              refine gs rfl ?_
              refine gs rfl ?_
              refine and_i rfl ?_
              refine gs rfl ?_
              refine and_i rfl ?_
              refine FRg rfl (fun f => ?_)
              refine gs rfl ?_
              refine gs rfl ?_
              refine gs rfl ?_
              refine gs rfl ?_
              refine gs rfl ?_
              refine gs rfl ?_
              refine and_2 rfl (vin rfl) ?_
              refine gs rfl ?_
              refine gs rfl ?_
              refine gs rfl ?_
              refine gs rfl ?_
              refine gs rfl ?_
              refine and_2 rfl (vin rfl) ?_
              refine gs rfl ?_
              refine gs rfl ?_
              refine gs rfl ?_
              refine gs rfl ?_
              refine gs rfl ?_
              refine and_2 rfl (vin rfl) ?_
              refine gs rfl ?_
              refine gs rfl ?_
              refine gs rfl ?_
              refine gs rfl ?_
              refine gs rfl ?_
              refine and_2 rfl (vin rfl) ?_
              refine gs rfl ?_
              refine gs rfl ?_
              refine gs rfl ?_
              refine gs rfl ?_
              refine gs rfl ?_
              refine and_2 rfl (vin rfl) ?_
              refine gs rfl ?_
              refine and_i (Nat.le_of_ble_eq_true rfl) (cl0 (Nat.le_of_ble_eq_true rfl) (and_i (Nat.le_of_ble_eq_true rfl) ?_))
              refine gs rfl ?_
              refine gs rfl ?_
              refine and_i (Nat.le_of_ble_eq_true rfl) (cl0 (Nat.le_of_ble_eq_true rfl) (and_i (Nat.le_of_ble_eq_true rfl) ?_))
              refine gs rfl ?_
              refine gs rfl ?_
              refine gs rfl ?_
              refine gs rfl ?_
              refine and_i (Nat.le_of_ble_eq_true rfl) (cl0 (Nat.le_of_ble_eq_true rfl) (and_i (Nat.le_of_ble_eq_true rfl) ?_))
              refine gs rfl ?_
              refine gs rfl ?_
              refine gs rfl ?_
              refine gs rfl ?_
              refine gs rfl ?_
              refine gs rfl ?_
              refine gs rfl ?_
              refine gs rfl ?_
              refine gs rfl ?_
              refine and_2 rfl (Or.inr rfl) ?_
              refine gs rfl ?_
              refine and_2 rfl (Or.inr rfl) ?_
              refine gs rfl ?_
              refine gs rfl ?_
              refine gs rfl ?_
              refine and_i (Nat.le_of_ble_eq_true rfl) (cl0 (Nat.le_of_ble_eq_true rfl) (and_i (Nat.le_of_ble_eq_true rfl) ?_))
              refine gs rfl ?_
              refine gs rfl ?_
              refine gs rfl ?_
              refine gs rfl ?_
              refine and_i (Nat.le_of_ble_eq_true rfl) (cl0 (Nat.le_of_ble_eq_true rfl) (and_i (Nat.le_of_ble_eq_true rfl) ?_))
              refine gs rfl ?_
              refine gs rfl ?_
              refine gs rfl ?_
              refine gs rfl ?_
              refine gs rfl ?_
              refine gs rfl ?_
              refine gs rfl ?_
              refine gs rfl ?_
              refine gs rfl ?_
              refine and_2 rfl (Or.inr rfl) ?_
              refine gs rfl ?_
              refine and_2 rfl (Or.inr rfl) ?_
              refine gs rfl ?_
              refine gs rfl ?_
              refine gs rfl ?_
              refine gs rfl ?_
              refine gs rfl ?_
              refine and_2 rfl (vin rfl) ?_
              refine gs rfl ?_
              refine gs rfl ?_
              refine gs rfl ?_
              refine gs rfl ?_
              refine and_i (Nat.le_of_ble_eq_true rfl) (cl0 (Nat.le_of_ble_eq_true rfl) (and_i (Nat.le_of_ble_eq_true rfl) ?_))
              refine gs rfl ?_
              refine gs rfl ?_
              refine gs rfl ?_
              refine gs rfl ?_
              refine gs rfl ?_
              refine gs rfl ?_
              refine gs rfl ?_
              refine and_2 rfl (vin rfl) ?_
              refine gs rfl ?_
              refine gs rfl ?_
              refine gs rfl ?_
              refine and_3 (Nat.le_of_ble_eq_true rfl) rfl (vin rfl) ?_
              refine gs rfl ?_
              refine gs rfl ?_
              refine and_i rfl ?_
              refine gs rfl ?_
              refine and_i rfl ?_
              refine gs rfl ?_
              refine gs rfl ?_
              refine gs rfl ?_
              refine gs rfl ?_
              refine gs rfl ?_
              refine gs rfl ?_
              refine and_i (Or.inl rfl) ?_
              refine gwst (congrArg (fun z => Value.int z :: _) (alen_k (n := 6) (by rfl))) ?_
              refine gs rfl ?_
              refine gs rfl ?_
              refine gs rfl ?_
              refine gs rfl ?_
              refine gs rfl ?_
              refine and_2 rfl (Or.inr rfl) ?_
              exact rfl
            · have x20q : s3 = (3 : Int32) := x20
              clear x20
              subst x20q
              refine gs rfl ?_
              refine and_2 (Nat.le_of_ble_eq_true rfl) (vin rfl) ?_
              refine and_2 rfl (fun z q => by cases q) ?_
              refine gs rfl ?_
              refine gs rfl ?_
              refine gs rfl ?_
              refine gs rfl ?_
              refine gs rfl ?_
              refine gs rfl ?_
              refine gs rfl ?_
              refine and_i (Nat.le_of_ble_eq_true rfl) (cl0 (Nat.le_of_ble_eq_true rfl) (and_i (Nat.le_of_ble_eq_true rfl) ?_))
              refine gs rfl ?_
              refine gs rfl ?_
              refine gs rfl ?_
              refine gs rfl ?_
              refine gs rfl ?_
              refine and_2 rfl (vin rfl) ?_
              refine gs rfl ?_
              refine gs rfl ?_
              refine gs rfl ?_
              refine and_3 (Nat.le_of_ble_eq_true rfl) rfl (vin rfl) ?_
              refine gs rfl ?_
              refine gs rfl ?_
              refine gs rfl ?_
              refine gs rfl ?_
              refine and_i rfl ?_
              refine gs rfl ?_
              refine and_i rfl ?_
              refine FRg rfl (fun f => ?_)
              refine gs rfl ?_
              refine gs rfl ?_
              refine gs rfl ?_
              refine gs rfl ?_
              refine gs rfl ?_
              refine gs rfl ?_
              refine and_2 rfl (vin rfl) ?_
              refine gs rfl ?_
              refine gs rfl ?_
              refine gs rfl ?_
              refine gs rfl ?_
              refine gs rfl ?_
              refine and_2 rfl (vin rfl) ?_
              refine gs rfl ?_
              refine gs rfl ?_
              refine gs rfl ?_
              refine gs rfl ?_
              refine gs rfl ?_
              refine and_2 rfl (vin rfl) ?_
              refine gs rfl ?_
              refine gs rfl ?_
              refine gs rfl ?_
              refine gs rfl ?_
              refine gs rfl ?_
              refine and_2 rfl (vin rfl) ?_
              refine gs rfl ?_
              refine gs rfl ?_
              refine gs rfl ?_
              refine gs rfl ?_
              refine gs rfl ?_
              refine and_2 rfl (vin rfl) ?_
              refine gs rfl ?_
              refine and_i (Nat.le_of_ble_eq_true rfl) (cl0 (Nat.le_of_ble_eq_true rfl) (and_i (Nat.le_of_ble_eq_true rfl) ?_))
              refine gs rfl ?_
              refine gs rfl ?_
              refine and_i (Nat.le_of_ble_eq_true rfl) (cl0 (Nat.le_of_ble_eq_true rfl) (and_i (Nat.le_of_ble_eq_true rfl) ?_))
              refine gs rfl ?_
              refine gs rfl ?_
              refine gs rfl ?_
              refine gs rfl ?_
              refine and_i (Nat.le_of_ble_eq_true rfl) (cl0 (Nat.le_of_ble_eq_true rfl) (and_i (Nat.le_of_ble_eq_true rfl) ?_))
              refine gs rfl ?_
              refine gs rfl ?_
              refine gs rfl ?_
              refine gs rfl ?_
              refine gs rfl ?_
              refine gs rfl ?_
              refine gs rfl ?_
              refine gs rfl ?_
              refine gs rfl ?_
              refine and_2 rfl (Or.inr rfl) ?_
              refine gs rfl ?_
              refine and_2 rfl (Or.inr rfl) ?_
              refine gs rfl ?_
              refine gs rfl ?_
              refine gs rfl ?_
              refine and_i (Nat.le_of_ble_eq_true rfl) (cl0 (Nat.le_of_ble_eq_true rfl) (and_i (Nat.le_of_ble_eq_true rfl) ?_))
              refine gs rfl ?_
              refine gs rfl ?_
              refine gs rfl ?_
              refine gs rfl ?_
              refine and_i (Nat.le_of_ble_eq_true rfl) (cl0 (Nat.le_of_ble_eq_true rfl) (and_i (Nat.le_of_ble_eq_true rfl) ?_))
              refine gs rfl ?_
              refine gs rfl ?_
              refine gs rfl ?_
              refine gs rfl ?_
              refine gs rfl ?_
              refine gs rfl ?_
              refine gs rfl ?_
              refine gs rfl ?_
              refine gs rfl ?_
              refine and_2 rfl (Or.inr rfl) ?_
              refine gs rfl ?_
              refine and_2 rfl (Or.inr rfl) ?_
              refine gs rfl ?_
              refine gs rfl ?_
              refine gs rfl ?_
              refine gs rfl ?_
              refine gs rfl ?_
              refine and_2 rfl (vin rfl) ?_
              refine gs rfl ?_
              refine gs rfl ?_
              refine gs rfl ?_
              refine gs rfl ?_
              refine and_i (Nat.le_of_ble_eq_true rfl) (cl0 (Nat.le_of_ble_eq_true rfl) (and_i (Nat.le_of_ble_eq_true rfl) ?_))
              refine gs rfl ?_
              refine gs rfl ?_
              refine gs rfl ?_
              refine gs rfl ?_
              refine gs rfl ?_
              refine gs rfl ?_
              refine gs rfl ?_
              refine and_2 rfl (vin rfl) ?_
              refine gs rfl ?_
              refine gs rfl ?_
              refine gs rfl ?_
              refine and_3 (Nat.le_of_ble_eq_true rfl) rfl (vin rfl) ?_
              refine gs rfl ?_
              refine gs rfl ?_
              refine and_i rfl ?_
              refine gs rfl ?_
              refine and_i rfl ?_
              refine gs rfl ?_
              refine gs rfl ?_
              refine gs rfl ?_
              refine gs rfl ?_
              refine gs rfl ?_
              refine gs rfl ?_
              refine and_i (Or.inl rfl) ?_
              refine gwst (congrArg (fun z => Value.int z :: _) (alen_k (n := 6) (by rfl))) ?_
              refine gs rfl ?_
              refine gs rfl ?_
              refine gs rfl ?_
              refine gs rfl ?_
              refine gs rfl ?_
              refine and_2 rfl (Or.inr rfl) ?_
              exact rfl
          · have x11q : s1 = (3 : Int32) := x11
            clear x11
            subst x11q
            refine gs rfl ?_
            refine and_2 (Nat.le_of_ble_eq_true rfl) (vin rfl) ?_
            refine and_2 rfl (fun z q => by cases q) ?_
            refine gs rfl ?_
            refine gs rfl ?_
            refine gs rfl ?_
            refine gs rfl ?_
            obtain ⟨j21, e22, x23⟩ := nat_of (x := s3) (lo := 0) (hi := 3) (by omega) (by omega)
            rcases (show j21 = 0 ∨ j21 = 1 ∨ j21 = 2 ∨ j21 = 3 by omega) with rfl | rfl | rfl | rfl
            · have x23q : s3 = (0 : Int32) := x23
              clear x23
              subst x23q
              refine gs rfl ?_
              refine and_2 (Nat.le_of_ble_eq_true rfl) (vin rfl) ?_
              refine and_2 rfl (fun z q => by cases q) ?_
              refine gs rfl ?_
              refine gs rfl ?_
              refine gs rfl ?_
              refine gs rfl ?_
              refine gs rfl ?_
              refine gs rfl ?_
              refine gs rfl ?_
              refine and_i (Nat.le_of_ble_eq_true rfl) (cl0 (Nat.le_of_ble_eq_true rfl) (and_i (Nat.le_of_ble_eq_true rfl) ?_))
              refine gs rfl ?_
              refine gs rfl ?_
              refine gs rfl ?_
              refine gs rfl ?_
              refine gs rfl ?_
              refine and_2 rfl (vin rfl) ?_
              refine gs rfl ?_
              refine gs rfl ?_
              refine gs rfl ?_
              refine and_3 (Nat.le_of_ble_eq_true rfl) rfl (vin rfl) ?_
              refine gs rfl ?_
              refine gs rfl ?_
              refine gs rfl ?_
              refine gs rfl ?_
              refine and_i rfl ?_
              refine gs rfl ?_
              refine and_i rfl ?_
              refine FRg rfl (fun f => ?_)
              refine gs rfl ?_
              refine gs rfl ?_
              refine gs rfl ?_
              refine gs rfl ?_
              refine gs rfl ?_
              refine gs rfl ?_
              refine and_2 rfl (vin rfl) ?_
              refine gs rfl ?_
              refine gs rfl ?_
              refine gs rfl ?_
              refine gs rfl ?_
              refine gs rfl ?_
              refine and_2 rfl (vin rfl) ?_
              refine gs rfl ?_
              refine gs rfl ?_
              refine gs rfl ?_
              refine gs rfl ?_
              refine gs rfl ?_
              refine and_2 rfl (vin rfl) ?_
              refine gs rfl ?_
              refine gs rfl ?_
              refine gs rfl ?_
              refine gs rfl ?_
              refine gs rfl ?_
              refine and_2 rfl (vin rfl) ?_
              refine gs rfl ?_
              refine gs rfl ?_
              refine gs rfl ?_
              refine gs rfl ?_
              refine gs rfl ?_
              refine and_2 rfl (vin rfl) ?_
              refine gs rfl ?_
              refine and_i (Nat.le_of_ble_eq_true rfl) (cl0 (Nat.le_of_ble_eq_true rfl) (and_i (Nat.le_of_ble_eq_true rfl) ?_))
              refine gs rfl ?_
              refine gs rfl ?_
              refine and_i (Nat.le_of_ble_eq_true rfl) (cl0 (Nat.le_of_ble_eq_true rfl) (and_i (Nat.le_of_ble_eq_true rfl) ?_))
              refine gs rfl ?_
              refine gs rfl ?_
              refine gs rfl ?_
              refine gs rfl ?_
              refine and_i (Nat.le_of_ble_eq_true rfl) (cl0 (Nat.le_of_ble_eq_true rfl) (and_i (Nat.le_of_ble_eq_true rfl) ?_))
              refine gs rfl ?_
              refine gs rfl ?_
              refine gs rfl ?_
              refine gs rfl ?_
              refine gs rfl ?_
              refine gs rfl ?_
              refine gs rfl ?_
              refine gs rfl ?_
              refine gs rfl ?_
              refine and_2 rfl (Or.inr rfl) ?_
              refine gs rfl ?_
              refine and_2 rfl (Or.inr rfl) ?_
              refine gs rfl ?_
              refine gs rfl ?_
              refine gs rfl ?_
              refine and_i (Nat.le_of_ble_eq_true rfl) (cl0 (Nat.le_of_ble_eq_true rfl) (and_i (Nat.le_of_ble_eq_true rfl) ?_))
              refine gs rfl ?_
              refine gs rfl ?_
              refine gs rfl ?_
              refine gs rfl ?_
              refine and_i (Nat.le_of_ble_eq_true rfl) (cl0 (Nat.le_of_ble_eq_true rfl) (and_i (Nat.le_of_ble_eq_true rfl) ?_))
              refine gs rfl ?_
              refine gs rfl ?_
              refine gs rfl ?_
              refine gs rfl ?_
              refine gs rfl ?_
              refine gs rfl ?_
              refine gs rfl ?_
              refine gs rfl ?_
              refine gs rfl ?_
              refine and_2 rfl (Or.inr rfl) ?_
              refine gs rfl ?_
              refine and_2 rfl (Or.inr rfl) ?_
              refine gs rfl ?_
              refine gs rfl ?_
              refine gs rfl ?_
              refine gs rfl ?_
              refine gs rfl ?_
              refine and_2 rfl (vin rfl) ?_
              refine gs rfl ?_
              refine gs rfl ?_
              refine gs rfl ?_
              refine gs rfl ?_
              refine and_i (Nat.le_of_ble_eq_true rfl) (cl0 (Nat.le_of_ble_eq_true rfl) (and_i (Nat.le_of_ble_eq_true rfl) ?_))
              refine gs rfl ?_
              refine gs rfl ?_
              refine gs rfl ?_
              refine gs rfl ?_
              refine gs rfl ?_
              refine gs rfl ?_
              refine gs rfl ?_
              refine and_2 rfl (vin rfl) ?_
              refine gs rfl ?_
              refine gs rfl ?_
              refine gs rfl ?_
              refine and_3 (Nat.le_of_ble_eq_true rfl) rfl (vin rfl) ?_
              refine gs rfl ?_
              refine gs rfl ?_
              refine and_i rfl ?_
              refine gs rfl ?_
              refine and_i rfl ?_
              refine gs rfl ?_
              refine gs rfl ?_
              refine gs rfl ?_
              refine gs rfl ?_
              refine gs rfl ?_
              refine gs rfl ?_
              refine and_i (Or.inl rfl) ?_
              refine gwst (congrArg (fun z => Value.int z :: _) (alen_k (n := 6) (by rfl))) ?_
              refine gs rfl ?_
              refine gs rfl ?_
              refine gs rfl ?_
              refine gs rfl ?_
              refine gs rfl ?_
              refine and_2 rfl (Or.inr rfl) ?_
              exact rfl
            · have x23q : s3 = (1 : Int32) := x23
              clear x23
              subst x23q
              refine gs rfl ?_
              refine and_2 (Nat.le_of_ble_eq_true rfl) (vin rfl) ?_
              refine and_2 rfl (fun z q => by cases q) ?_
              refine gs rfl ?_
              refine gs rfl ?_
              refine gs rfl ?_
              refine gs rfl ?_
              refine gs rfl ?_
              refine gs rfl ?_
              refine gs rfl ?_
              refine and_i (Nat.le_of_ble_eq_true rfl) (cl0 (Nat.le_of_ble_eq_true rfl) (and_i (Nat.le_of_ble_eq_true rfl) ?_))
              refine gs rfl ?_
              refine gs rfl ?_
              refine gs rfl ?_
              refine gs rfl ?_
              refine gs rfl ?_
              refine and_2 rfl (vin rfl) ?_
              refine gs rfl ?_
              refine gs rfl ?_
              refine gs rfl ?_
              refine and_3 (Nat.le_of_ble_eq_true rfl) rfl (vin rfl) ?_
              refine gs rfl ?_
              refine gs rfl ?_
              refine gs rfl ?_
              refine gs rfl ?_
              refine and_i rfl ?_
              refine gs rfl ?_
              refine and_i rfl ?_
              refine FRg rfl (fun f => ?_)
              refine gs rfl ?_
              refine gs rfl ?_
              refine gs rfl ?_
              refine gs rfl ?_
              refine gs rfl ?_
              refine gs rfl ?_
              refine and_2 rfl (vin rfl) ?_
              refine gs rfl ?_
              refine gs rfl ?_
              refine gs rfl ?_
              refine gs rfl ?_
              refine gs rfl ?_
              refine and_2 rfl (vin rfl) ?_
              refine gs rfl ?_
              refine gs rfl ?_
              refine gs rfl ?_
              refine gs rfl ?_
              refine gs rfl ?_
              refine and_2 rfl (vin rfl) ?_
              refine gs rfl ?_
              refine gs rfl ?_
              refine gs rfl ?_
              refine gs rfl ?_
              refine gs rfl ?_
              refine and_2 rfl (vin rfl) ?_
              refine gs rfl ?_
              refine gs rfl ?_
              refine gs rfl ?_
              refine gs rfl ?_
              refine gs rfl ?_
              refine and_2 rfl (vin rfl) ?_
              refine gs rfl ?_
              refine and_i (Nat.le_of_ble_eq_true rfl) (cl0 (Nat.le_of_ble_eq_true rfl) (and_i (Nat.le_of_ble_eq_true rfl) ?_))
              refine gs rfl ?_
              refine gs rfl ?_
              refine and_i (Nat.le_of_ble_eq_true rfl) (cl0 (Nat.le_of_ble_eq_true rfl) (and_i (Nat.le_of_ble_eq_true rfl) ?_))
              refine gs rfl ?_
              refine gs rfl ?_
              refine gs rfl ?_
              refine gs rfl ?_
              refine and_i (Nat.le_of_ble_eq_true rfl) (cl0 (Nat.le_of_ble_eq_true rfl) (and_i (Nat.le_of_ble_eq_true rfl) ?_))
              refine gs rfl ?_
              refine gs rfl ?_
              refine gs rfl ?_
              refine gs rfl ?_
              refine gs rfl ?_
              refine gs rfl ?_
              refine gs rfl ?_
              refine gs rfl ?_
              refine gs rfl ?_
              refine and_2 rfl (Or.inr rfl) ?_
              refine gs rfl ?_
              refine and_2 rfl (Or.inr rfl) ?_
              refine gs rfl ?_
              refine gs rfl ?_
              refine gs rfl ?_
              refine and_i (Nat.le_of_ble_eq_true rfl) (cl0 (Nat.le_of_ble_eq_true rfl) (and_i (Nat.le_of_ble_eq_true rfl) ?_))
              refine gs rfl ?_
              refine gs rfl ?_
              refine gs rfl ?_
              refine gs rfl ?_
              refine and_i (Nat.le_of_ble_eq_true rfl) (cl0 (Nat.le_of_ble_eq_true rfl) (and_i (Nat.le_of_ble_eq_true rfl) ?_))
              refine gs rfl ?_
              refine gs rfl ?_
              refine gs rfl ?_
              refine gs rfl ?_
              refine gs rfl ?_
              refine gs rfl ?_
              refine gs rfl ?_
              refine gs rfl ?_
              refine gs rfl ?_
              refine and_2 rfl (Or.inr rfl) ?_
              refine gs rfl ?_
              refine and_2 rfl (Or.inr rfl) ?_
              refine gs rfl ?_
              refine gs rfl ?_
              refine gs rfl ?_
              refine gs rfl ?_
              refine gs rfl ?_
              refine and_2 rfl (vin rfl) ?_
              refine gs rfl ?_
              refine gs rfl ?_
              refine gs rfl ?_
              refine gs rfl ?_
              refine and_i (Nat.le_of_ble_eq_true rfl) (cl0 (Nat.le_of_ble_eq_true rfl) (and_i (Nat.le_of_ble_eq_true rfl) ?_))
              refine gs rfl ?_
              refine gs rfl ?_
              refine gs rfl ?_
              refine gs rfl ?_
              refine gs rfl ?_
              refine gs rfl ?_
              refine gs rfl ?_
              refine and_2 rfl (vin rfl) ?_
              refine gs rfl ?_
              refine gs rfl ?_
              refine gs rfl ?_
              refine and_3 (Nat.le_of_ble_eq_true rfl) rfl (vin rfl) ?_
              refine gs rfl ?_
              refine gs rfl ?_
              refine and_i rfl ?_
              refine gs rfl ?_
              refine and_i rfl ?_
              refine gs rfl ?_
              refine gs rfl ?_
              refine gs rfl ?_
              refine gs rfl ?_
              refine gs rfl ?_
              refine gs rfl ?_
              refine and_i (Or.inl rfl) ?_
              refine gwst (congrArg (fun z => Value.int z :: _) (alen_k (n := 6) (by rfl))) ?_
              refine gs rfl ?_
              refine gs rfl ?_
              refine gs rfl ?_
              refine gs rfl ?_
              refine gs rfl ?_
              refine and_2 rfl (Or.inr rfl) ?_
              exact rfl
            · have x23q : s3 = (2 : Int32) := x23
              clear x23
              subst x23q
              refine gs rfl ?_
              refine and_2 (Nat.le_of_ble_eq_true rfl) (vin rfl) ?_
              refine and_2 rfl (fun z q => by cases q) ?_
              refine gs rfl ?_
              refine gs rfl ?_
              refine gs rfl ?_
              refine gs rfl ?_
              refine gs rfl ?_
              refine gs rfl ?_
              refine gs rfl ?_
              refine and_i (Nat.le_of_ble_eq_true rfl) (cl0 (Nat.le_of_ble_eq_true rfl) (and_i (Nat.le_of_ble_eq_true rfl) ?_))
              refine gs rfl ?_
              refine gs rfl ?_
              refine gs rfl ?_
              refine gs rfl ?_
              refine gs rfl ?_
              refine and_2 rfl (vin rfl) ?_
              refine gs rfl ?_
              refine gs rfl ?_
              refine gs rfl ?_
              refine and_3 (Nat.le_of_ble_eq_true rfl) rfl (vin rfl) ?_
              refine gs rfl ?_
              refine gs rfl ?_
              refine gs rfl ?_
              refine gs rfl ?_
              refine and_i rfl ?_
              refine gs rfl ?_
              refine and_i rfl ?_
              refine FRg rfl (fun f => ?_)
              refine gs rfl ?_
              refine gs rfl ?_
              refine gs rfl ?_
              refine gs rfl ?_
              refine gs rfl ?_
              refine gs rfl ?_
              refine and_2 rfl (vin rfl) ?_
              refine gs rfl ?_
              refine gs rfl ?_
              refine gs rfl ?_
              refine gs rfl ?_
              refine gs rfl ?_
              refine and_2 rfl (vin rfl) ?_
              refine gs rfl ?_
              refine gs rfl ?_
              refine gs rfl ?_
              refine gs rfl ?_
              refine gs rfl ?_
              refine and_2 rfl (vin rfl) ?_
              refine gs rfl ?_
              refine gs rfl ?_
              refine gs rfl ?_
              refine gs rfl ?_
              refine gs rfl ?_
              refine and_2 rfl (vin rfl) ?_
              refine gs rfl ?_
              refine gs rfl ?_
              refine gs rfl ?_
              refine gs rfl ?_
              refine gs rfl ?_
              refine and_2 rfl (vin rfl) ?_
              refine gs rfl ?_
              refine and_i (Nat.le_of_ble_eq_true rfl) (cl0 (Nat.le_of_ble_eq_true rfl) (and_i (Nat.le_of_ble_eq_true rfl) ?_))
              refine gs rfl ?_
              refine gs rfl ?_
              refine and_i (Nat.le_of_ble_eq_true rfl) (cl0 (Nat.le_of_ble_eq_true rfl) (and_i (Nat.le_of_ble_eq_true rfl) ?_))
              refine gs rfl ?_
              refine gs rfl ?_
              refine gs rfl ?_
              refine gs rfl ?_
              refine and_i (Nat.le_of_ble_eq_true rfl) (cl0 (Nat.le_of_ble_eq_true rfl) (and_i (Nat.le_of_ble_eq_true rfl) ?_))
              refine gs rfl ?_
              refine gs rfl ?_
              refine gs rfl ?_
              refine gs rfl ?_
              refine gs rfl ?_
              refine gs rfl ?_
              refine gs rfl ?_
              refine gs rfl ?_
              refine gs rfl ?_
              refine and_2 rfl (Or.inr rfl) ?_
              refine gs rfl ?_
              refine and_2 rfl (Or.inr rfl) ?_
              refine gs rfl ?_
              refine gs rfl ?_
              refine gs rfl ?_
              refine and_i (Nat.le_of_ble_eq_true rfl) (cl0 (Nat.le_of_ble_eq_true rfl) (and_i (Nat.le_of_ble_eq_true rfl) ?_))
              refine gs rfl ?_
              refine gs rfl ?_
              refine gs rfl ?_
              refine gs rfl ?_
              refine and_i (Nat.le_of_ble_eq_true rfl) (cl0 (Nat.le_of_ble_eq_true rfl) (and_i (Nat.le_of_ble_eq_true rfl) ?_))
              refine gs rfl ?_
              refine gs rfl ?_
              refine gs rfl ?_
              refine gs rfl ?_
              refine gs rfl ?_
              refine gs rfl ?_
              refine gs rfl ?_
              refine gs rfl ?_
              refine gs rfl ?_
              refine and_2 rfl (Or.inr rfl) ?_
              refine gs rfl ?_
              refine and_2 rfl (Or.inr rfl) ?_
              refine gs rfl ?_
              refine gs rfl ?_
              refine gs rfl ?_
              refine gs rfl ?_
              refine gs rfl ?_
              refine and_2 rfl (vin rfl) ?_
              refine gs rfl ?_
              refine gs rfl ?_
              refine gs rfl ?_
              refine gs rfl ?_
              refine and_i (Nat.le_of_ble_eq_true rfl) (cl0 (Nat.le_of_ble_eq_true rfl) (and_i (Nat.le_of_ble_eq_true rfl) ?_))
              refine gs rfl ?_
              refine gs rfl ?_
              refine gs rfl ?_
              refine gs rfl ?_
              refine gs rfl ?_
              refine gs rfl ?_
              refine gs rfl ?_
              refine and_2 rfl (vin rfl) ?_
              refine gs rfl ?_
              refine gs rfl ?_
              refine gs rfl ?_
              refine and_3 (Nat.le_of_ble_eq_true rfl) rfl (vin rfl) ?_
              refine gs rfl ?_
              refine gs rfl ?_
              refine and_i rfl ?_
              refine gs rfl ?_
              refine and_i rfl ?_
              refine gs rfl ?_
              refine gs rfl ?_
              refine gs rfl ?_
              refine gs rfl ?_
              refine gs rfl ?_
              refine gs rfl ?_
              refine and_i (Or.inl rfl) ?_
              refine gwst (congrArg (fun z => Value.int z :: _) (alen_k (n := 6) (by rfl))) ?_
              refine gs rfl ?_
              refine gs rfl ?_
              refine gs rfl ?_
              refine gs rfl ?_
              refine gs rfl ?_
              refine and_2 rfl (Or.inr rfl) ?_
              exact rfl
            · have x23q : s3 = (3 : Int32) := x23
              clear x23
              subst x23q
              refine gs rfl ?_
              refine and_2 (Nat.le_of_ble_eq_true rfl) (vin rfl) ?_
              refine and_2 rfl (fun z q => by cases q) ?_
              refine gs rfl ?_
              refine gs rfl ?_
              refine gs rfl ?_
              refine gs rfl ?_
              refine gs rfl ?_
              refine gs rfl ?_
              refine gs rfl ?_
              refine and_i (Nat.le_of_ble_eq_true rfl) (cl0 (Nat.le_of_ble_eq_true rfl) (and_i (Nat.le_of_ble_eq_true rfl) ?_))
              refine gs rfl ?_
              refine gs rfl ?_
              refine gs rfl ?_
              refine gs rfl ?_
              refine gs rfl ?_
              refine and_2 rfl (vin rfl) ?_
              refine gs rfl ?_
              refine gs rfl ?_
              refine gs rfl ?_
              refine and_3 (Nat.le_of_ble_eq_true rfl) rfl (vin rfl) ?_
              refine gs rfl ?_
              refine gs rfl ?_
              refine gs rfl ?_
              refine gs rfl ?_
              refine and_i rfl ?_
              refine gs rfl ?_
              refine and_i rfl ?_
              refine FRg rfl (fun f => ?_)
              refine gs rfl ?_
              refine gs rfl ?_
              refine gs rfl ?_
              refine gs rfl ?_
              refine gs rfl ?_
              refine gs rfl ?_
              refine and_2 rfl (vin rfl) ?_
              refine gs rfl ?_
              refine gs rfl ?_
              refine gs rfl ?_
              refine gs rfl ?_
              refine gs rfl ?_
              refine and_2 rfl (vin rfl) ?_
              refine gs rfl ?_
              refine gs rfl ?_
              refine gs rfl ?_
              refine gs rfl ?_
              refine gs rfl ?_
              refine and_2 rfl (vin rfl) ?_
              refine gs rfl ?_
              refine gs rfl ?_
              refine gs rfl ?_
              refine gs rfl ?_
              refine gs rfl ?_
              refine and_2 rfl (vin rfl) ?_
              refine gs rfl ?_
              refine gs rfl ?_
              refine gs rfl ?_
              refine gs rfl ?_
              refine gs rfl ?_
              refine and_2 rfl (vin rfl) ?_
              refine gs rfl ?_
              refine and_i (Nat.le_of_ble_eq_true rfl) (cl0 (Nat.le_of_ble_eq_true rfl) (and_i (Nat.le_of_ble_eq_true rfl) ?_))
              refine gs rfl ?_
              refine gs rfl ?_
              refine and_i (Nat.le_of_ble_eq_true rfl) (cl0 (Nat.le_of_ble_eq_true rfl) (and_i (Nat.le_of_ble_eq_true rfl) ?_))
              refine gs rfl ?_
              refine gs rfl ?_
              refine gs rfl ?_
              refine gs rfl ?_
              refine and_i (Nat.le_of_ble_eq_true rfl) (cl0 (Nat.le_of_ble_eq_true rfl) (and_i (Nat.le_of_ble_eq_true rfl) ?_))
              refine gs rfl ?_
              refine gs rfl ?_
              refine gs rfl ?_
              refine gs rfl ?_
              refine gs rfl ?_
              refine gs rfl ?_
              refine gs rfl ?_
              refine gs rfl ?_
              refine gs rfl ?_
              refine and_2 rfl (Or.inr rfl) ?_
              refine gs rfl ?_
              refine and_2 rfl (Or.inr rfl) ?_
              refine gs rfl ?_
              refine gs rfl ?_
              refine gs rfl ?_
              refine and_i (Nat.le_of_ble_eq_true rfl) (cl0 (Nat.le_of_ble_eq_true rfl) (and_i (Nat.le_of_ble_eq_true rfl) ?_))
              refine gs rfl ?_
              refine gs rfl ?_
              refine gs rfl ?_
              refine gs rfl ?_
              refine and_i (Nat.le_of_ble_eq_true rfl) (cl0 (Nat.le_of_ble_eq_true rfl) (and_i (Nat.le_of_ble_eq_true rfl) ?_))
              refine gs rfl ?_
              refine gs rfl ?_
              refine gs rfl ?_
              refine gs rfl ?_
              refine gs rfl ?_
              refine gs rfl ?_
              refine gs rfl ?_
              refine gs rfl ?_
              refine gs rfl ?_
              refine and_2 rfl (Or.inr rfl) ?_
              refine gs rfl ?_
              refine and_2 rfl (Or.inr rfl) ?_
              refine gs rfl ?_
              refine gs rfl ?_
              refine gs rfl ?_
              refine gs rfl ?_
              refine gs rfl ?_
              refine and_2 rfl (vin rfl) ?_
              refine gs rfl ?_
              refine gs rfl ?_
              refine gs rfl ?_
              refine gs rfl ?_
              refine and_i (Nat.le_of_ble_eq_true rfl) (cl0 (Nat.le_of_ble_eq_true rfl) (and_i (Nat.le_of_ble_eq_true rfl) ?_))
              refine gs rfl ?_
              refine gs rfl ?_
              refine gs rfl ?_
              refine gs rfl ?_
              refine gs rfl ?_
              refine gs rfl ?_
              refine gs rfl ?_
              refine and_2 rfl (vin rfl) ?_
              refine gs rfl ?_
              refine gs rfl ?_
              refine gs rfl ?_
              refine and_3 (Nat.le_of_ble_eq_true rfl) rfl (vin rfl) ?_
              refine gs rfl ?_
              refine gs rfl ?_
              refine and_i rfl ?_
              refine gs rfl ?_
              refine and_i rfl ?_
              refine gs rfl ?_
              refine gs rfl ?_
              refine gs rfl ?_
              refine gs rfl ?_
              refine gs rfl ?_
              refine gs rfl ?_
              refine and_i (Or.inl rfl) ?_
              refine gwst (congrArg (fun z => Value.int z :: _) (alen_k (n := 6) (by rfl))) ?_
              refine gs rfl ?_
              refine gs rfl ?_
              refine gs rfl ?_
              refine gs rfl ?_
              refine gs rfl ?_
              refine and_2 rfl (Or.inr rfl) ?_
              exact rfl
