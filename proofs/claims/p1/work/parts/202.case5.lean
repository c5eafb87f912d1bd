/-! THE LAW'S CASES 5, 6, 7, over two new objects -/
set_option maxRecDepth 20000 in
set_option maxHeartbeats 40000000 in
theorem lc_5 {s0 s1 s2 s3 s4 s5 : Int32} {d mc ms : Nat} : gw [s0, s1, s2, s3, s4, s5] (WP [s0, s1, s2, s3, s4, s5] (d + 20)) 190 (fun r _ => r = some (.int 1)) 363 [some (.ref 0), some (.ref 32), some (.ref 89), some (.int 0)] [] (hX0 ++ hM0) mc ms := by
  refine gs rfl ?_
  refine gs rfl ?_
  refine gs rfl ?_
  refine gs rfl ?_
  refine gs rfl ?_
  refine gs rfl ?_
  refine and_2 rfl (vin rfl) ?_
  refine gs rfl ?_
  refine gs rfl ?_
  refine gs rfl ?_
  refine gs rfl ?_
  refine gs rfl ?_
  refine and_2 rfl (vin rfl) ?_
  refine gs rfl ?_
  refine gs rfl ?_
  refine gs rfl ?_
  refine gs rfl ?_
  refine gs rfl ?_
  refine and_2 rfl (vin rfl) ?_
  refine gs rfl ?_
  refine and_i (Nat.le_of_ble_eq_true rfl) (cl0 (Nat.le_of_ble_eq_true rfl) (and_i (Nat.le_of_ble_eq_true rfl) ?_))
  refine gs rfl ?_
  refine gs rfl ?_
  refine gs rfl ?_
  refine and_i (Nat.le_of_ble_eq_true rfl) (cl0 (Nat.le_of_ble_eq_true rfl) (and_i (Nat.le_of_ble_eq_true rfl) ?_))
  refine gs rfl ?_
  refine gs rfl ?_
  refine ifs (fun c1 => ?_) (fun c1 => ?_)
  · have d2 : (s1).toInt < 0 := (lt_k (by rfl) (by rfl)).mp c1
    refine gs rfl ?_
    refine gs rfl ?_
    refine and_2 rfl (Or.inl rfl) ?_
    refine gs rfl ?_
    refine gs rfl ?_
    refine gs rfl ?_
    refine gs rfl ?_
    refine and_i (Nat.le_of_ble_eq_true rfl) (cl0 (Nat.le_of_ble_eq_true rfl) (and_i (Nat.le_of_ble_eq_true rfl) ?_))
    refine gs rfl ?_
    refine gs rfl ?_
    refine gs rfl ?_
    refine gs rfl ?_
    refine gs rfl ?_
    refine and_2 rfl (vin rfl) ?_
    refine gs rfl ?_
    refine gs rfl ?_
    refine gs rfl ?_
    refine and_3 (Nat.le_of_ble_eq_true rfl) rfl (vin rfl) ?_
    refine gs rfl ?_
    refine gs rfl ?_
    refine gs rfl ?_
    refine gs rfl ?_
    refine and_i rfl ?_
    refine gs rfl ?_
    refine and_i rfl ?_
    refine FRg rfl (fun f => ?_)
    refine gs rfl ?_
    refine gs rfl ?_
    refine gs rfl ?_
    refine gs rfl ?_
    refine gs rfl ?_
    refine gs rfl ?_
    refine and_2 rfl (vin rfl) ?_
    refine gs rfl ?_
    refine gs rfl ?_
    refine gs rfl ?_
    refine gs rfl ?_
    refine gs rfl ?_
    refine and_2 rfl (vin rfl) ?_
    refine gs rfl ?_
    refine gs rfl ?_
    refine gs rfl ?_
    refine gs rfl ?_
    refine gs rfl ?_
    refine and_2 rfl (vin rfl) ?_
    refine gs rfl ?_
    refine and_i (Nat.le_of_ble_eq_true rfl) (cl0 (Nat.le_of_ble_eq_true rfl) (and_i (Nat.le_of_ble_eq_true rfl) ?_))
    refine gs rfl ?_
    refine gs rfl ?_
    refine ifs (fun c3 => ?_) (fun c3 => ?_)
    · have d4 : (s2).toInt = 0 := (eq_k (by rfl) (by rfl)).mp c3
      refine gs rfl ?_
      refine gs rfl ?_
      refine gs rfl ?_
      refine gs rfl ?_
      refine and_i (Nat.le_of_ble_eq_true rfl) (cl0 (Nat.le_of_ble_eq_true rfl) (and_i (Nat.le_of_ble_eq_true rfl) ?_))
      refine gs rfl ?_
      refine gs rfl ?_
      refine gs rfl ?_
      refine ifs (fun c5 => ?_) (fun c5 => ?_)
      · have d6 : (s3).toInt < 0 := (lt_k (by rfl) (by rfl)).mp c5
        refine gs rfl ?_
        refine gs rfl ?_
        refine and_2 rfl (Or.inl rfl) ?_
        refine gs rfl ?_
        refine gs rfl ?_
        refine gs rfl ?_
        refine gs rfl ?_
        refine gs rfl ?_
        refine and_i (Nat.le_of_ble_eq_true rfl) (cl0 (Nat.le_of_ble_eq_true rfl) (and_i (Nat.le_of_ble_eq_true rfl) ?_))
        refine gs rfl ?_
        refine gs rfl ?_
        refine gs rfl ?_
        refine gs rfl ?_
        refine gs rfl ?_
        refine gs rfl ?_
        refine and_2 rfl (vin rfl) ?_
        refine gs rfl ?_
        refine gs rfl ?_
        refine gs rfl ?_
        refine and_i (Nat.le_of_ble_eq_true rfl) (cl0 (Nat.le_of_ble_eq_true rfl) (and_i (Nat.le_of_ble_eq_true rfl) ?_))
        refine gs rfl ?_
        refine gs rfl ?_
        refine gs rfl ?_
        refine ifT ((lt_k (a := (s1).toInt) (b := 0) (by rfl) (by rfl)).mpr (by omega)) ?_
        refine gs rfl ?_
        refine gs rfl ?_
        refine and_2 rfl (Or.inl rfl) ?_
        refine gs rfl ?_
        refine and_2 rfl (Or.inl rfl) ?_
        refine gs rfl ?_
        refine gs rfl ?_
        refine gs rfl ?_
        refine gs rfl ?_
        refine and_i (Nat.le_of_ble_eq_true rfl) (cl0 (Nat.le_of_ble_eq_true rfl) (and_i (Nat.le_of_ble_eq_true rfl) ?_))
        refine gs rfl ?_
        refine gs rfl ?_
        refine gs rfl ?_
        refine gs rfl ?_
        refine gs rfl ?_
        refine gs rfl ?_
        refine gs rfl ?_
        refine and_2 rfl (vin rfl) ?_
        refine gs rfl ?_
        refine gs rfl ?_
        refine gs rfl ?_
        refine and_3 (Nat.le_of_ble_eq_true rfl) rfl (vin rfl) ?_
        refine gs rfl ?_
        refine gs rfl ?_
        refine and_i rfl ?_
        refine gs rfl ?_
        refine and_i rfl ?_
        refine gs rfl ?_
        refine gs rfl ?_
        refine gs rfl ?_
        refine gs rfl ?_
        refine gs rfl ?_
        refine gs rfl ?_
        refine and_i (Or.inl rfl) ?_
        refine gwst (congrArg (fun z => Value.int z :: _) (alen_k (n := 6) (by rfl))) ?_
        refine gs rfl ?_
        refine gs rfl ?_
        refine gs rfl ?_
        refine gs rfl ?_
        refine gs rfl ?_
        refine and_2 rfl (Or.inr rfl) ?_
        exact rfl
      · have d6 : ¬ ((s3).toInt < 0) := fun q => c5 ((lt_k (by rfl) (by rfl)).mpr q)
        refine gs rfl ?_
        refine gs rfl ?_
        refine gs rfl ?_
        refine ifs (fun c7 => ?_) (fun c7 => ?_)
        · have d8 : 99 < (s3).toInt := (lt_k (by rfl) (by rfl)).mp c7
          refine gs rfl ?_
          refine gs rfl ?_
          refine and_2 rfl (Or.inl rfl) ?_
          refine gs rfl ?_
          refine gs rfl ?_
          refine gs rfl ?_
          refine gs rfl ?_
          refine gs rfl ?_
          refine and_i (Nat.le_of_ble_eq_true rfl) (cl0 (Nat.le_of_ble_eq_true rfl) (and_i (Nat.le_of_ble_eq_true rfl) ?_))
          refine gs rfl ?_
          refine gs rfl ?_
          refine gs rfl ?_
          refine gs rfl ?_
          refine gs rfl ?_
          refine gs rfl ?_
          refine and_2 rfl (vin rfl) ?_
          refine gs rfl ?_
          refine gs rfl ?_
          refine gs rfl ?_
          refine and_i (Nat.le_of_ble_eq_true rfl) (cl0 (Nat.le_of_ble_eq_true rfl) (and_i (Nat.le_of_ble_eq_true rfl) ?_))
          refine gs rfl ?_
          refine gs rfl ?_
          refine gs rfl ?_
          refine ifT ((lt_k (a := (s1).toInt) (b := 0) (by rfl) (by rfl)).mpr (by omega)) ?_
          refine gs rfl ?_
          refine gs rfl ?_
          refine and_2 rfl (Or.inl rfl) ?_
          refine gs rfl ?_
          refine and_2 rfl (Or.inl rfl) ?_
          refine gs rfl ?_
          refine gs rfl ?_
          refine gs rfl ?_
          refine gs rfl ?_
          refine and_i (Nat.le_of_ble_eq_true rfl) (cl0 (Nat.le_of_ble_eq_true rfl) (and_i (Nat.le_of_ble_eq_true rfl) ?_))
          refine gs rfl ?_
          refine gs rfl ?_
          refine gs rfl ?_
          refine gs rfl ?_
          refine gs rfl ?_
          refine gs rfl ?_
          refine gs rfl ?_
          refine and_2 rfl (vin rfl) ?_
          refine gs rfl ?_
          refine gs rfl ?_
          refine gs rfl ?_
          refine and_3 (Nat.le_of_ble_eq_true rfl) rfl (vin rfl) ?_
          refine gs rfl ?_
          refine gs rfl ?_
          refine and_i rfl ?_
          refine gs rfl ?_
          refine and_i rfl ?_
          refine gs rfl ?_
          refine gs rfl ?_
          refine gs rfl ?_
          refine gs rfl ?_
          refine gs rfl ?_
          refine gs rfl ?_
          refine and_i (Or.inl rfl) ?_
          refine gwst (congrArg (fun z => Value.int z :: _) (alen_k (n := 6) (by rfl))) ?_
          refine gs rfl ?_
          refine gs rfl ?_
          refine gs rfl ?_
          refine gs rfl ?_
          refine gs rfl ?_
          refine and_2 rfl (Or.inr rfl) ?_
          exact rfl
        · have d8 : ¬ (99 < (s3).toInt) := fun q => c7 ((lt_k (by rfl) (by rfl)).mpr q)
          refine gs rfl ?_
          refine gs rfl ?_
          refine gs rfl ?_
          refine and_2 rfl (Or.inr rfl) ?_
          refine gs rfl ?_
          refine gs rfl ?_
          refine gs rfl ?_
          refine gs rfl ?_
          refine gs rfl ?_
          refine and_i (Nat.le_of_ble_eq_true rfl) (cl0 (Nat.le_of_ble_eq_true rfl) (and_i (Nat.le_of_ble_eq_true rfl) ?_))
          refine gs rfl ?_
          refine gs rfl ?_
          refine gs rfl ?_
          refine gs rfl ?_
          refine gs rfl ?_
          refine gs rfl ?_
          refine and_2 rfl (vin rfl) ?_
          refine gs rfl ?_
          refine gs rfl ?_
          refine gs rfl ?_
          refine and_i (Nat.le_of_ble_eq_true rfl) (cl0 (Nat.le_of_ble_eq_true rfl) (and_i (Nat.le_of_ble_eq_true rfl) ?_))
          refine gs rfl ?_
          refine gs rfl ?_
          refine gs rfl ?_
          refine ifT ((lt_k (a := (s1).toInt) (b := 0) (by rfl) (by rfl)).mpr (by omega)) ?_
          refine gs rfl ?_
          refine gs rfl ?_
          refine and_2 rfl (Or.inl rfl) ?_
          refine gs rfl ?_
          refine and_2 rfl (Or.inl rfl) ?_
          refine gs rfl ?_
          refine gs rfl ?_
          refine gs rfl ?_
          refine gs rfl ?_
          refine and_i (Nat.le_of_ble_eq_true rfl) (cl0 (Nat.le_of_ble_eq_true rfl) (and_i (Nat.le_of_ble_eq_true rfl) ?_))
          refine gs rfl ?_
          refine gs rfl ?_
          refine gs rfl ?_
          refine gs rfl ?_
          refine gs rfl ?_
          refine gs rfl ?_
          refine gs rfl ?_
          refine and_2 rfl (vin rfl) ?_
          refine gs rfl ?_
          refine gs rfl ?_
          refine gs rfl ?_
          refine and_3 (Nat.le_of_ble_eq_true rfl) rfl (vin rfl) ?_
          refine gs rfl ?_
          refine gs rfl ?_
          refine and_i rfl ?_
          refine gs rfl ?_
          refine and_i rfl ?_
          refine gs rfl ?_
          refine gs rfl ?_
          refine gs rfl ?_
          refine gs rfl ?_
          refine gs rfl ?_
          refine gs rfl ?_
          refine and_i (Or.inl rfl) ?_
          refine gwst (congrArg (fun z => Value.int z :: _) (alen_k (n := 6) (by rfl))) ?_
          refine gs rfl ?_
          refine gs rfl ?_
          refine gs rfl ?_
          refine gs rfl ?_
          refine gs rfl ?_
          refine and_2 rfl (Or.inr rfl) ?_
          exact rfl
    · have d4 : ¬ ((s2).toInt = 0) := fun q => c3 ((eq_k (by rfl) (by rfl)).mpr q)
      refine gs rfl ?_
      refine gs rfl ?_
      refine gs rfl ?_
      refine ifs (fun c9 => ?_) (fun c9 => ?_)
      · have d10 : (s2).toInt = 2 := (eq_k (by rfl) (by rfl)).mp c9
        refine gs rfl ?_
        refine gs rfl ?_
        refine gs rfl ?_
        refine gs rfl ?_
        refine and_i (Nat.le_of_ble_eq_true rfl) (cl0 (Nat.le_of_ble_eq_true rfl) (and_i (Nat.le_of_ble_eq_true rfl) ?_))
        refine gs rfl ?_
        refine gs rfl ?_
        refine gs rfl ?_
        refine ifs (fun c11 => ?_) (fun c11 => ?_)
        · have d12 : (s3).toInt < 0 := (lt_k (by rfl) (by rfl)).mp c11
          refine gs rfl ?_
          refine gs rfl ?_
          refine and_2 rfl (Or.inl rfl) ?_
          refine gs rfl ?_
          refine gs rfl ?_
          refine gs rfl ?_
          refine gs rfl ?_
          refine gs rfl ?_
          refine and_i (Nat.le_of_ble_eq_true rfl) (cl0 (Nat.le_of_ble_eq_true rfl) (and_i (Nat.le_of_ble_eq_true rfl) ?_))
          refine gs rfl ?_
          refine gs rfl ?_
          refine gs rfl ?_
          refine gs rfl ?_
          refine gs rfl ?_
          refine gs rfl ?_
          refine and_2 rfl (vin rfl) ?_
          refine gs rfl ?_
          refine gs rfl ?_
          refine gs rfl ?_
          refine and_i (Nat.le_of_ble_eq_true rfl) (cl0 (Nat.le_of_ble_eq_true rfl) (and_i (Nat.le_of_ble_eq_true rfl) ?_))
          refine gs rfl ?_
          refine gs rfl ?_
          refine gs rfl ?_
          refine ifT ((lt_k (a := (s1).toInt) (b := 0) (by rfl) (by rfl)).mpr (by omega)) ?_
          refine gs rfl ?_
          refine gs rfl ?_
          refine and_2 rfl (Or.inl rfl) ?_
          refine gs rfl ?_
          refine and_2 rfl (Or.inl rfl) ?_
          refine gs rfl ?_
          refine gs rfl ?_
          refine gs rfl ?_
          refine gs rfl ?_
          refine and_i (Nat.le_of_ble_eq_true rfl) (cl0 (Nat.le_of_ble_eq_true rfl) (and_i (Nat.le_of_ble_eq_true rfl) ?_))
          refine gs rfl ?_
          refine gs rfl ?_
          refine gs rfl ?_
          refine gs rfl ?_
          refine gs rfl ?_
          refine gs rfl ?_
          refine gs rfl ?_
          refine and_2 rfl (vin rfl) ?_
          refine gs rfl ?_
          refine gs rfl ?_
          refine gs rfl ?_
          refine and_3 (Nat.le_of_ble_eq_true rfl) rfl (vin rfl) ?_
          refine gs rfl ?_
          refine gs rfl ?_
          refine and_i rfl ?_
          refine gs rfl ?_
          refine and_i rfl ?_
          refine gs rfl ?_
          refine gs rfl ?_
          refine gs rfl ?_
          refine gs rfl ?_
          refine gs rfl ?_
          refine gs rfl ?_
          refine and_i (Or.inl rfl) ?_
          refine gwst (congrArg (fun z => Value.int z :: _) (alen_k (n := 6) (by rfl))) ?_
          refine gs rfl ?_
          refine gs rfl ?_
          refine gs rfl ?_
          refine gs rfl ?_
          refine gs rfl ?_
          refine and_2 rfl (Or.inr rfl) ?_
          exact rfl
        · have d12 : ¬ ((s3).toInt < 0) := fun q => c11 ((lt_k (by rfl) (by rfl)).mpr q)
          refine gs rfl ?_
          refine gs rfl ?_
          refine gs rfl ?_
          refine ifs (fun c13 => ?_) (fun c13 => ?_)
          · have d14 : 99 < (s3).toInt := (lt_k (by rfl) (by rfl)).mp c13
            refine gs rfl ?_
            refine gs rfl ?_
            refine and_2 rfl (Or.inl rfl) ?_
            refine gs rfl ?_
            refine gs rfl ?_
            refine gs rfl ?_
            refine gs rfl ?_
            refine gs rfl ?_
            refine and_i (Nat.le_of_ble_eq_true rfl) (cl0 (Nat.le_of_ble_eq_true rfl) (and_i (Nat.le_of_ble_eq_true rfl) ?_))
            refine gs rfl ?_
            refine gs rfl ?_
            refine gs rfl ?_
            refine gs rfl ?_
            refine gs rfl ?_
            refine gs rfl ?_
            refine and_2 rfl (vin rfl) ?_
            refine gs rfl ?_
            refine gs rfl ?_
            refine gs rfl ?_
            refine and_i (Nat.le_of_ble_eq_true rfl) (cl0 (Nat.le_of_ble_eq_true rfl) (and_i (Nat.le_of_ble_eq_true rfl) ?_))
            refine gs rfl ?_
            refine gs rfl ?_
            refine gs rfl ?_
            refine ifT ((lt_k (a := (s1).toInt) (b := 0) (by rfl) (by rfl)).mpr (by omega)) ?_
            refine gs rfl ?_
            refine gs rfl ?_
            refine and_2 rfl (Or.inl rfl) ?_
            refine gs rfl ?_
            refine and_2 rfl (Or.inl rfl) ?_
            refine gs rfl ?_
            refine gs rfl ?_
            refine gs rfl ?_
            refine gs rfl ?_
            refine and_i (Nat.le_of_ble_eq_true rfl) (cl0 (Nat.le_of_ble_eq_true rfl) (and_i (Nat.le_of_ble_eq_true rfl) ?_))
            refine gs rfl ?_
            refine gs rfl ?_
            refine gs rfl ?_
            refine gs rfl ?_
            refine gs rfl ?_
            refine gs rfl ?_
            refine gs rfl ?_
            refine and_2 rfl (vin rfl) ?_
            refine gs rfl ?_
            refine gs rfl ?_
            refine gs rfl ?_
            refine and_3 (Nat.le_of_ble_eq_true rfl) rfl (vin rfl) ?_
            refine gs rfl ?_
            refine gs rfl ?_
            refine and_i rfl ?_
            refine gs rfl ?_
            refine and_i rfl ?_
            refine gs rfl ?_
            refine gs rfl ?_
            refine gs rfl ?_
            refine gs rfl ?_
            refine gs rfl ?_
            refine gs rfl ?_
            refine and_i (Or.inl rfl) ?_
            refine gwst (congrArg (fun z => Value.int z :: _) (alen_k (n := 6) (by rfl))) ?_
            refine gs rfl ?_
            refine gs rfl ?_
            refine gs rfl ?_
            refine gs rfl ?_
            refine gs rfl ?_
            refine and_2 rfl (Or.inr rfl) ?_
            exact rfl
          · have d14 : ¬ (99 < (s3).toInt) := fun q => c13 ((lt_k (by rfl) (by rfl)).mpr q)
            refine gs rfl ?_
            refine gs rfl ?_
            refine gs rfl ?_
            refine and_2 rfl (Or.inr rfl) ?_
            refine gs rfl ?_
            refine gs rfl ?_
            refine gs rfl ?_
            refine gs rfl ?_
            refine gs rfl ?_
            refine and_i (Nat.le_of_ble_eq_true rfl) (cl0 (Nat.le_of_ble_eq_true rfl) (and_i (Nat.le_of_ble_eq_true rfl) ?_))
            refine gs rfl ?_
            refine gs rfl ?_
            refine gs rfl ?_
            refine gs rfl ?_
            refine gs rfl ?_
            refine gs rfl ?_
            refine and_2 rfl (vin rfl) ?_
            refine gs rfl ?_
            refine gs rfl ?_
            refine gs rfl ?_
            refine and_i (Nat.le_of_ble_eq_true rfl) (cl0 (Nat.le_of_ble_eq_true rfl) (and_i (Nat.le_of_ble_eq_true rfl) ?_))
            refine gs rfl ?_
            refine gs rfl ?_
            refine gs rfl ?_
            refine ifT ((lt_k (a := (s1).toInt) (b := 0) (by rfl) (by rfl)).mpr (by omega)) ?_
            refine gs rfl ?_
            refine gs rfl ?_
            refine and_2 rfl (Or.inl rfl) ?_
            refine gs rfl ?_
            refine and_2 rfl (Or.inl rfl) ?_
            refine gs rfl ?_
            refine gs rfl ?_
            refine gs rfl ?_
            refine gs rfl ?_
            refine and_i (Nat.le_of_ble_eq_true rfl) (cl0 (Nat.le_of_ble_eq_true rfl) (and_i (Nat.le_of_ble_eq_true rfl) ?_))
            refine gs rfl ?_
            refine gs rfl ?_
            refine gs rfl ?_
            refine gs rfl ?_
            refine gs rfl ?_
            refine gs rfl ?_
            refine gs rfl ?_
            refine and_2 rfl (vin rfl) ?_
            refine gs rfl ?_
            refine gs rfl ?_
            refine gs rfl ?_
            refine and_3 (Nat.le_of_ble_eq_true rfl) rfl (vin rfl) ?_
            refine gs rfl ?_
            refine gs rfl ?_
            refine and_i rfl ?_
            refine gs rfl ?_
            refine and_i rfl ?_
            refine gs rfl ?_
            refine gs rfl ?_
            refine gs rfl ?_
            refine gs rfl ?_
            refine gs rfl ?_
            refine gs rfl ?_
            refine and_i (Or.inl rfl) ?_
            refine gwst (congrArg (fun z => Value.int z :: _) (alen_k (n := 6) (by rfl))) ?_
            refine gs rfl ?_
            refine gs rfl ?_
            refine gs rfl ?_
            refine gs rfl ?_
            refine gs rfl ?_
            refine and_2 rfl (Or.inr rfl) ?_
            exact rfl
      · have d10 : ¬ ((s2).toInt = 2) := fun q => c9 ((eq_k (by rfl) (by rfl)).mpr q)
        refine gs rfl ?_
        refine gs rfl ?_
        refine gs rfl ?_
        refine ifs (fun c15 => ?_) (fun c15 => ?_)
        · have d16 : (s2).toInt = 1 := (eq_k (by rfl) (by rfl)).mp c15
          refine gs rfl ?_
          refine gs rfl ?_
          refine gs rfl ?_
          refine gs rfl ?_
          refine and_i (Nat.le_of_ble_eq_true rfl) (cl0 (Nat.le_of_ble_eq_true rfl) (and_i (Nat.le_of_ble_eq_true rfl) ?_))
          refine gs rfl ?_
          refine gs rfl ?_
          refine gs rfl ?_
          refine ifs (fun c17 => ?_) (fun c17 => ?_)
          · have d18 : (s3).toInt < 0 := (lt_k (by rfl) (by rfl)).mp c17
            refine gs rfl ?_
            refine gs rfl ?_
            refine and_2 rfl (Or.inl rfl) ?_
            refine gs rfl ?_
            refine gs rfl ?_
            refine gs rfl ?_
            refine gs rfl ?_
            refine gs rfl ?_
            refine and_i (Nat.le_of_ble_eq_true rfl) (cl0 (Nat.le_of_ble_eq_true rfl) (and_i (Nat.le_of_ble_eq_true rfl) ?_))
            refine gs rfl ?_
            refine gs rfl ?_
            refine gs rfl ?_
            refine gs rfl ?_
            refine gs rfl ?_
            refine gs rfl ?_
            refine and_2 rfl (vin rfl) ?_
            refine gs rfl ?_
            refine gs rfl ?_
            refine gs rfl ?_
            refine and_i (Nat.le_of_ble_eq_true rfl) (cl0 (Nat.le_of_ble_eq_true rfl) (and_i (Nat.le_of_ble_eq_true rfl) ?_))
            refine gs rfl ?_
            refine gs rfl ?_
            refine gs rfl ?_
            refine ifT ((lt_k (a := (s1).toInt) (b := 0) (by rfl) (by rfl)).mpr (by omega)) ?_
            refine gs rfl ?_
            refine gs rfl ?_
            refine and_2 rfl (Or.inl rfl) ?_
            refine gs rfl ?_
            refine and_2 rfl (Or.inl rfl) ?_
            refine gs rfl ?_
            refine gs rfl ?_
            refine gs rfl ?_
            refine gs rfl ?_
            refine and_i (Nat.le_of_ble_eq_true rfl) (cl0 (Nat.le_of_ble_eq_true rfl) (and_i (Nat.le_of_ble_eq_true rfl) ?_))
            refine gs rfl ?_
            refine gs rfl ?_
            refine gs rfl ?_
            refine gs rfl ?_
            refine gs rfl ?_
            refine gs rfl ?_
            refine gs rfl ?_
            refine and_2 rfl (vin rfl) ?_
            refine gs rfl ?_
            refine gs rfl ?_
            refine gs rfl ?_
            refine and_3 (Nat.le_of_ble_eq_true rfl) rfl (vin rfl) ?_
            refine gs rfl ?_
            refine gs rfl ?_
            refine and_i rfl ?_
            refine gs rfl ?_
            refine and_i rfl ?_
            refine gs rfl ?_
            refine gs rfl ?_
            refine gs rfl ?_
            refine gs rfl ?_
            refine gs rfl ?_
            refine gs rfl ?_
            refine and_i (Or.inl rfl) ?_
            refine gwst (congrArg (fun z => Value.int z :: _) (alen_k (n := 6) (by rfl))) ?_
            refine gs rfl ?_
            refine gs rfl ?_
            refine gs rfl ?_
            refine gs rfl ?_
            refine gs rfl ?_
            refine and_2 rfl (Or.inr rfl) ?_
            exact rfl
          · have d18 : ¬ ((s3).toInt < 0) := fun q => c17 ((lt_k (by rfl) (by rfl)).mpr q)
            refine gs rfl ?_
            refine gs rfl ?_
            refine gs rfl ?_
            refine ifs (fun c19 => ?_) (fun c19 => ?_)
            · have d20 : 9 < (s3).toInt := (lt_k (by rfl) (by rfl)).mp c19
              refine gs rfl ?_
              refine gs rfl ?_
              refine and_2 rfl (Or.inl rfl) ?_
              refine gs rfl ?_
              refine gs rfl ?_
              refine gs rfl ?_
              refine gs rfl ?_
              refine gs rfl ?_
              refine and_i (Nat.le_of_ble_eq_true rfl) (cl0 (Nat.le_of_ble_eq_true rfl) (and_i (Nat.le_of_ble_eq_true rfl) ?_))
              refine gs rfl ?_
              refine gs rfl ?_
              refine gs rfl ?_
              refine gs rfl ?_
              refine gs rfl ?_
              refine gs rfl ?_
              refine and_2 rfl (vin rfl) ?_
              refine gs rfl ?_
              refine gs rfl ?_
              refine gs rfl ?_
              refine and_i (Nat.le_of_ble_eq_true rfl) (cl0 (Nat.le_of_ble_eq_true rfl) (and_i (Nat.le_of_ble_eq_true rfl) ?_))
              refine gs rfl ?_
              refine gs rfl ?_
              refine gs rfl ?_
              refine ifT ((lt_k (a := (s1).toInt) (b := 0) (by rfl) (by rfl)).mpr (by omega)) ?_
              refine gs rfl ?_
              refine gs rfl ?_
              refine and_2 rfl (Or.inl rfl) ?_
              refine gs rfl ?_
              refine and_2 rfl (Or.inl rfl) ?_
              refine gs rfl ?_
              refine gs rfl ?_
              refine gs rfl ?_
              refine gs rfl ?_
              refine and_i (Nat.le_of_ble_eq_true rfl) (cl0 (Nat.le_of_ble_eq_true rfl) (and_i (Nat.le_of_ble_eq_true rfl) ?_))
              refine gs rfl ?_
              refine gs rfl ?_
              refine gs rfl ?_
              refine gs rfl ?_
              refine gs rfl ?_
              refine gs rfl ?_
              refine gs rfl ?_
              refine and_2 rfl (vin rfl) ?_
              refine gs rfl ?_
              refine gs rfl ?_
              refine gs rfl ?_
              refine and_3 (Nat.le_of_ble_eq_true rfl) rfl (vin rfl) ?_
              refine gs rfl ?_
              refine gs rfl ?_
              refine and_i rfl ?_
              refine gs rfl ?_
              refine and_i rfl ?_
              refine gs rfl ?_
              refine gs rfl ?_
              refine gs rfl ?_
              refine gs rfl ?_
              refine gs rfl ?_
              refine gs rfl ?_
              refine and_i (Or.inl rfl) ?_
              refine gwst (congrArg (fun z => Value.int z :: _) (alen_k (n := 6) (by rfl))) ?_
              refine gs rfl ?_
              refine gs rfl ?_
              refine gs rfl ?_
              refine gs rfl ?_
              refine gs rfl ?_
              refine and_2 rfl (Or.inr rfl) ?_
              exact rfl
            · have d20 : ¬ (9 < (s3).toInt) := fun q => c19 ((lt_k (by rfl) (by rfl)).mpr q)
              refine gs rfl ?_
              refine gs rfl ?_
              refine gs rfl ?_
              refine and_2 rfl (Or.inr rfl) ?_
              refine gs rfl ?_
              refine gs rfl ?_
              refine gs rfl ?_
              refine gs rfl ?_
              refine gs rfl ?_
              refine and_i (Nat.le_of_ble_eq_true rfl) (cl0 (Nat.le_of_ble_eq_true rfl) (and_i (Nat.le_of_ble_eq_true rfl) ?_))
              refine gs rfl ?_
              refine gs rfl ?_
              refine gs rfl ?_
              refine gs rfl ?_
              refine gs rfl ?_
              refine gs rfl ?_
              refine and_2 rfl (vin rfl) ?_
              refine gs rfl ?_
              refine gs rfl ?_
              refine gs rfl ?_
              refine and_i (Nat.le_of_ble_eq_true rfl) (cl0 (Nat.le_of_ble_eq_true rfl) (and_i (Nat.le_of_ble_eq_true rfl) ?_))
              refine gs rfl ?_
              refine gs rfl ?_
              refine gs rfl ?_
              refine ifT ((lt_k (a := (s1).toInt) (b := 0) (by rfl) (by rfl)).mpr (by omega)) ?_
              refine gs rfl ?_
              refine gs rfl ?_
              refine and_2 rfl (Or.inl rfl) ?_
              refine gs rfl ?_
              refine and_2 rfl (Or.inl rfl) ?_
              refine gs rfl ?_
              refine gs rfl ?_
              refine gs rfl ?_
              refine gs rfl ?_
              refine and_i (Nat.le_of_ble_eq_true rfl) (cl0 (Nat.le_of_ble_eq_true rfl) (and_i (Nat.le_of_ble_eq_true rfl) ?_))
              refine gs rfl ?_
              refine gs rfl ?_
              refine gs rfl ?_
              refine gs rfl ?_
              refine gs rfl ?_
              refine gs rfl ?_
              refine gs rfl ?_
              refine and_2 rfl (vin rfl) ?_
              refine gs rfl ?_
              refine gs rfl ?_
              refine gs rfl ?_
              refine and_3 (Nat.le_of_ble_eq_true rfl) rfl (vin rfl) ?_
              refine gs rfl ?_
              refine gs rfl ?_
              refine and_i rfl ?_
              refine gs rfl ?_
              refine and_i rfl ?_
              refine gs rfl ?_
              refine gs rfl ?_
              refine gs rfl ?_
              refine gs rfl ?_
              refine gs rfl ?_
              refine gs rfl ?_
              refine and_i (Or.inl rfl) ?_
              refine gwst (congrArg (fun z => Value.int z :: _) (alen_k (n := 6) (by rfl))) ?_
              refine gs rfl ?_
              refine gs rfl ?_
              refine gs rfl ?_
              refine gs rfl ?_
              refine gs rfl ?_
              refine and_2 rfl (Or.inr rfl) ?_
              exact rfl
        · have d16 : ¬ ((s2).toInt = 1) := fun q => c15 ((eq_k (by rfl) (by rfl)).mpr q)
          refine gs rfl ?_
          refine gs rfl ?_
          refine gs rfl ?_
          refine ifs (fun c21 => ?_) (fun c21 => ?_)
          · have d22 : (s2).toInt = 3 := (eq_k (by rfl) (by rfl)).mp c21
            refine gs rfl ?_
            refine gs rfl ?_
            refine gs rfl ?_
            refine gs rfl ?_
            refine and_i (Nat.le_of_ble_eq_true rfl) (cl0 (Nat.le_of_ble_eq_true rfl) (and_i (Nat.le_of_ble_eq_true rfl) ?_))
            refine gs rfl ?_
            refine gs rfl ?_
            refine gs rfl ?_
            refine ifs (fun c23 => ?_) (fun c23 => ?_)
            · have d24 : (s3).toInt < 0 := (lt_k (by rfl) (by rfl)).mp c23
              refine gs rfl ?_
              refine gs rfl ?_
              refine and_2 rfl (Or.inl rfl) ?_
              refine gs rfl ?_
              refine gs rfl ?_
              refine gs rfl ?_
              refine gs rfl ?_
              refine gs rfl ?_
              refine gs rfl ?_
              refine and_i (Nat.le_of_ble_eq_true rfl) (cl0 (Nat.le_of_ble_eq_true rfl) (and_i (Nat.le_of_ble_eq_true rfl) ?_))
              refine gs rfl ?_
              refine gs rfl ?_
              refine gs rfl ?_
              refine gs rfl ?_
              refine gs rfl ?_
              refine gs rfl ?_
              refine and_2 rfl (vin rfl) ?_
              refine gs rfl ?_
              refine gs rfl ?_
              refine gs rfl ?_
              refine and_i (Nat.le_of_ble_eq_true rfl) (cl0 (Nat.le_of_ble_eq_true rfl) (and_i (Nat.le_of_ble_eq_true rfl) ?_))
              refine gs rfl ?_
              refine gs rfl ?_
              refine gs rfl ?_
              refine ifT ((lt_k (a := (s1).toInt) (b := 0) (by rfl) (by rfl)).mpr (by omega)) ?_
              refine gs rfl ?_
              refine gs rfl ?_
              refine and_2 rfl (Or.inl rfl) ?_
              refine gs rfl ?_
              refine and_2 rfl (Or.inl rfl) ?_
              refine gs rfl ?_
              refine gs rfl ?_
              refine gs rfl ?_
              refine gs rfl ?_
              refine and_i (Nat.le_of_ble_eq_true rfl) (cl0 (Nat.le_of_ble_eq_true rfl) (and_i (Nat.le_of_ble_eq_true rfl) ?_))
              refine gs rfl ?_
              refine gs rfl ?_
              refine gs rfl ?_
              refine gs rfl ?_
              refine gs rfl ?_
              refine gs rfl ?_
              refine gs rfl ?_
              refine and_2 rfl (vin rfl) ?_
              refine gs rfl ?_
              refine gs rfl ?_
              refine gs rfl ?_
              refine and_3 (Nat.le_of_ble_eq_true rfl) rfl (vin rfl) ?_
              refine gs rfl ?_
              refine gs rfl ?_
              refine and_i rfl ?_
              refine gs rfl ?_
              refine and_i rfl ?_
              refine gs rfl ?_
              refine gs rfl ?_
              refine gs rfl ?_
              refine gs rfl ?_
              refine gs rfl ?_
              refine gs rfl ?_
              refine and_i (Or.inl rfl) ?_
              refine gwst (congrArg (fun z => Value.int z :: _) (alen_k (n := 6) (by rfl))) ?_
              refine gs rfl ?_
              refine gs rfl ?_
              refine gs rfl ?_
              refine gs rfl ?_
              refine gs rfl ?_
              refine and_2 rfl (Or.inr rfl) ?_
              exact rfl
            · have d24 : ¬ ((s3).toInt < 0) := fun q => c23 ((lt_k (by rfl) (by rfl)).mpr q)
              refine gs rfl ?_
              refine gs rfl ?_
              refine gs rfl ?_
              refine ifs (fun c25 => ?_) (fun c25 => ?_)
              · have d26 : 1 < (s3).toInt := (lt_k (by rfl) (by rfl)).mp c25
                refine gs rfl ?_
                refine gs rfl ?_
                refine and_2 rfl (Or.inl rfl) ?_
                refine gs rfl ?_
                refine gs rfl ?_
                refine gs rfl ?_
                refine gs rfl ?_
                refine gs rfl ?_
                refine gs rfl ?_
                refine and_i (Nat.le_of_ble_eq_true rfl) (cl0 (Nat.le_of_ble_eq_true rfl) (and_i (Nat.le_of_ble_eq_true rfl) ?_))
                refine gs rfl ?_
                refine gs rfl ?_
                refine gs rfl ?_
                refine gs rfl ?_
                refine gs rfl ?_
                refine gs rfl ?_
                refine and_2 rfl (vin rfl) ?_
                refine gs rfl ?_
                refine gs rfl ?_
                refine gs rfl ?_
                refine and_i (Nat.le_of_ble_eq_true rfl) (cl0 (Nat.le_of_ble_eq_true rfl) (and_i (Nat.le_of_ble_eq_true rfl) ?_))
                refine gs rfl ?_
                refine gs rfl ?_
                refine gs rfl ?_
                refine ifT ((lt_k (a := (s1).toInt) (b := 0) (by rfl) (by rfl)).mpr (by omega)) ?_
                refine gs rfl ?_
                refine gs rfl ?_
                refine and_2 rfl (Or.inl rfl) ?_
                refine gs rfl ?_
                refine and_2 rfl (Or.inl rfl) ?_
                refine gs rfl ?_
                refine gs rfl ?_
                refine gs rfl ?_
                refine gs rfl ?_
                refine and_i (Nat.le_of_ble_eq_true rfl) (cl0 (Nat.le_of_ble_eq_true rfl) (and_i (Nat.le_of_ble_eq_true rfl) ?_))
                refine gs rfl ?_
                refine gs rfl ?_
                refine gs rfl ?_
                refine gs rfl ?_
                refine gs rfl ?_
                refine gs rfl ?_
                refine gs rfl ?_
                refine and_2 rfl (vin rfl) ?_
                refine gs rfl ?_
                refine gs rfl ?_
                refine gs rfl ?_
                refine and_3 (Nat.le_of_ble_eq_true rfl) rfl (vin rfl) ?_
                refine gs rfl ?_
                refine gs rfl ?_
                refine and_i rfl ?_
                refine gs rfl ?_
                refine and_i rfl ?_
                refine gs rfl ?_
                refine gs rfl ?_
                refine gs rfl ?_
                refine gs rfl ?_
                refine gs rfl ?_
                refine gs rfl ?_
                refine and_i (Or.inl rfl) ?_
                refine gwst (congrArg (fun z => Value.int z :: _) (alen_k (n := 6) (by rfl))) ?_
                refine gs rfl ?_
                refine gs rfl ?_
                refine gs rfl ?_
                refine gs rfl ?_
                refine gs rfl ?_
                refine and_2 rfl (Or.inr rfl) ?_
                exact rfl
              · have d26 : ¬ (1 < (s3).toInt) := fun q => c25 ((lt_k (by rfl) (by rfl)).mpr q)
                refine gs rfl ?_
                refine gs rfl ?_
                refine gs rfl ?_
                refine and_2 rfl (Or.inr rfl) ?_
                refine gs rfl ?_
                refine gs rfl ?_
                refine gs rfl ?_
                refine gs rfl ?_
                refine gs rfl ?_
                refine gs rfl ?_
                refine gs rfl ?_
                refine and_i (Nat.le_of_ble_eq_true rfl) (cl0 (Nat.le_of_ble_eq_true rfl) (and_i (Nat.le_of_ble_eq_true rfl) ?_))
                refine gs rfl ?_
                refine gs rfl ?_
                refine gs rfl ?_
                refine gs rfl ?_
                refine gs rfl ?_
                refine gs rfl ?_
                refine and_2 rfl (vin rfl) ?_
                refine gs rfl ?_
                refine gs rfl ?_
                refine gs rfl ?_
                refine and_i (Nat.le_of_ble_eq_true rfl) (cl0 (Nat.le_of_ble_eq_true rfl) (and_i (Nat.le_of_ble_eq_true rfl) ?_))
                refine gs rfl ?_
                refine gs rfl ?_
                refine gs rfl ?_
                refine ifT ((lt_k (a := (s1).toInt) (b := 0) (by rfl) (by rfl)).mpr (by omega)) ?_
                refine gs rfl ?_
                refine gs rfl ?_
                refine and_2 rfl (Or.inl rfl) ?_
                refine gs rfl ?_
                refine and_2 rfl (Or.inl rfl) ?_
                refine gs rfl ?_
                refine gs rfl ?_
                refine gs rfl ?_
                refine gs rfl ?_
                refine and_i (Nat.le_of_ble_eq_true rfl) (cl0 (Nat.le_of_ble_eq_true rfl) (and_i (Nat.le_of_ble_eq_true rfl) ?_))
                refine gs rfl ?_
                refine gs rfl ?_
                refine gs rfl ?_
                refine gs rfl ?_
                refine gs rfl ?_
                refine gs rfl ?_
                refine gs rfl ?_
                refine and_2 rfl (vin rfl) ?_
                refine gs rfl ?_
                refine gs rfl ?_
                refine gs rfl ?_
                refine and_3 (Nat.le_of_ble_eq_true rfl) rfl (vin rfl) ?_
                refine gs rfl ?_
                refine gs rfl ?_
                refine and_i rfl ?_
                refine gs rfl ?_
                refine and_i rfl ?_
                refine gs rfl ?_
                refine gs rfl ?_
                refine gs rfl ?_
                refine gs rfl ?_
                refine gs rfl ?_
                refine gs rfl ?_
                refine and_i (Or.inl rfl) ?_
                refine gwst (congrArg (fun z => Value.int z :: _) (alen_k (n := 6) (by rfl))) ?_
                refine gs rfl ?_
                refine gs rfl ?_
                refine gs rfl ?_
                refine gs rfl ?_
                refine gs rfl ?_
                refine and_2 rfl (Or.inr rfl) ?_
                exact rfl
          · have d22 : ¬ ((s2).toInt = 3) := fun q => c21 ((eq_k (by rfl) (by rfl)).mpr q)
            refine gs rfl ?_
            refine gs rfl ?_
            refine gs rfl ?_
            refine gs rfl ?_
            refine gs rfl ?_
            refine and_i (Nat.le_of_ble_eq_true rfl) (cl0 (Nat.le_of_ble_eq_true rfl) (and_i (Nat.le_of_ble_eq_true rfl) ?_))
            refine gs rfl ?_
            refine gs rfl ?_
            refine gs rfl ?_
            refine gs rfl ?_
            refine gs rfl ?_
            refine gs rfl ?_
            refine and_2 rfl (vin rfl) ?_
            refine gs rfl ?_
            refine gs rfl ?_
            refine gs rfl ?_
            refine and_i (Nat.le_of_ble_eq_true rfl) (cl0 (Nat.le_of_ble_eq_true rfl) (and_i (Nat.le_of_ble_eq_true rfl) ?_))
            refine gs rfl ?_
            refine gs rfl ?_
            refine gs rfl ?_
            refine ifT ((lt_k (a := (s1).toInt) (b := 0) (by rfl) (by rfl)).mpr (by omega)) ?_
            refine gs rfl ?_
            refine gs rfl ?_
            refine and_2 rfl (Or.inl rfl) ?_
            refine gs rfl ?_
            refine and_2 rfl (Or.inl rfl) ?_
            refine gs rfl ?_
            refine gs rfl ?_
            refine gs rfl ?_
            refine gs rfl ?_
            refine and_i (Nat.le_of_ble_eq_true rfl) (cl0 (Nat.le_of_ble_eq_true rfl) (and_i (Nat.le_of_ble_eq_true rfl) ?_))
            refine gs rfl ?_
            refine gs rfl ?_
            refine gs rfl ?_
            refine gs rfl ?_
            refine gs rfl ?_
            refine gs rfl ?_
            refine gs rfl ?_
            refine and_2 rfl (vin rfl) ?_
            refine gs rfl ?_
            refine gs rfl ?_
            refine gs rfl ?_
            refine and_3 (Nat.le_of_ble_eq_true rfl) rfl (vin rfl) ?_
            refine gs rfl ?_
            refine gs rfl ?_
            refine and_i rfl ?_
            refine gs rfl ?_
            refine and_i rfl ?_
            refine gs rfl ?_
            refine gs rfl ?_
            refine gs rfl ?_
            refine gs rfl ?_
            refine gs rfl ?_
            refine gs rfl ?_
            refine and_i (Or.inl rfl) ?_
            refine gwst (congrArg (fun z => Value.int z :: _) (alen_k (n := 6) (by rfl))) ?_
            refine gs rfl ?_
            refine gs rfl ?_
            refine gs rfl ?_
            refine gs rfl ?_
            refine gs rfl ?_
            refine and_2 rfl (Or.inr rfl) ?_
            exact rfl
  · have d2 : ¬ ((s1).toInt < 0) := fun q => c1 ((lt_k (by rfl) (by rfl)).mpr q)
    refine gs rfl ?_
    refine gs rfl ?_
    refine gs rfl ?_
    refine gs rfl ?_
    refine gs rfl ?_
    refine ifT ((le_k (a := 0) (b := (s1).toInt) (by rfl) (by rfl)).mpr (by omega)) ?_
    refine gs rfl ?_
    refine gs rfl ?_
    refine and_2 rfl (Or.inl rfl) ?_
    refine gs rfl ?_
    refine gs rfl ?_
    refine gs rfl ?_
    refine gs rfl ?_
    refine and_i (Nat.le_of_ble_eq_true rfl) (cl0 (Nat.le_of_ble_eq_true rfl) (and_i (Nat.le_of_ble_eq_true rfl) ?_))
    refine gs rfl ?_
    refine gs rfl ?_
    refine gs rfl ?_
    refine gs rfl ?_
    refine gs rfl ?_
    refine and_2 rfl (vin rfl) ?_
    refine gs rfl ?_
    refine gs rfl ?_
    refine gs rfl ?_
    refine and_3 (Nat.le_of_ble_eq_true rfl) rfl (vin rfl) ?_
    refine gs rfl ?_
    refine gs rfl ?_
    refine gs rfl ?_
    refine gs rfl ?_
    refine and_i rfl ?_
    refine gs rfl ?_
    refine and_i rfl ?_
    refine FRg rfl (fun f => ?_)
    refine gs rfl ?_
    refine gs rfl ?_
    refine gs rfl ?_
    refine gs rfl ?_
    refine gs rfl ?_
    refine gs rfl ?_
    refine and_2 rfl (vin rfl) ?_
    refine gs rfl ?_
    refine gs rfl ?_
    refine gs rfl ?_
    refine gs rfl ?_
    refine gs rfl ?_
    refine and_2 rfl (vin rfl) ?_
    refine gs rfl ?_
    refine gs rfl ?_
    refine gs rfl ?_
    refine gs rfl ?_
    refine gs rfl ?_
    refine and_2 rfl (vin rfl) ?_
    refine gs rfl ?_
    refine and_i (Nat.le_of_ble_eq_true rfl) (cl0 (Nat.le_of_ble_eq_true rfl) (and_i (Nat.le_of_ble_eq_true rfl) ?_))
    refine gs rfl ?_
    refine gs rfl ?_
    refine ifs (fun c27 => ?_) (fun c27 => ?_)
    · have d28 : (s2).toInt = 0 := (eq_k (by rfl) (by rfl)).mp c27
      refine gs rfl ?_
      refine gs rfl ?_
      refine gs rfl ?_
      refine gs rfl ?_
      refine and_i (Nat.le_of_ble_eq_true rfl) (cl0 (Nat.le_of_ble_eq_true rfl) (and_i (Nat.le_of_ble_eq_true rfl) ?_))
      refine gs rfl ?_
      refine gs rfl ?_
      refine gs rfl ?_
      refine ifs (fun c29 => ?_) (fun c29 => ?_)
      · have d30 : (s3).toInt < 0 := (lt_k (by rfl) (by rfl)).mp c29
        refine gs rfl ?_
        refine gs rfl ?_
        refine and_2 rfl (Or.inl rfl) ?_
        refine gs rfl ?_
        refine gs rfl ?_
        refine gs rfl ?_
        refine gs rfl ?_
        refine gs rfl ?_
        refine and_i (Nat.le_of_ble_eq_true rfl) (cl0 (Nat.le_of_ble_eq_true rfl) (and_i (Nat.le_of_ble_eq_true rfl) ?_))
        refine gs rfl ?_
        refine gs rfl ?_
        refine gs rfl ?_
        refine gs rfl ?_
        refine gs rfl ?_
        refine gs rfl ?_
        refine and_2 rfl (vin rfl) ?_
        refine gs rfl ?_
        refine gs rfl ?_
        refine gs rfl ?_
        refine and_i (Nat.le_of_ble_eq_true rfl) (cl0 (Nat.le_of_ble_eq_true rfl) (and_i (Nat.le_of_ble_eq_true rfl) ?_))
        refine gs rfl ?_
        refine gs rfl ?_
        refine gs rfl ?_
        refine ifF ((fun q => absurd ((lt_k (a := (s1).toInt) (b := 0) (by rfl) (by rfl)).mp q) (by omega))) ?_
        refine gs rfl ?_
        refine gs rfl ?_
        refine gs rfl ?_
        refine ifT ((lt_k (a := (-1)) (b := (s1).toInt) (by rfl) (by rfl)).mpr (by omega)) ?_
        refine gs rfl ?_
        refine gs rfl ?_
        refine and_2 rfl (Or.inl rfl) ?_
        refine gs rfl ?_
        refine and_2 rfl (Or.inl rfl) ?_
        refine gs rfl ?_
        refine gs rfl ?_
        refine gs rfl ?_
        refine gs rfl ?_
        refine and_i (Nat.le_of_ble_eq_true rfl) (cl0 (Nat.le_of_ble_eq_true rfl) (and_i (Nat.le_of_ble_eq_true rfl) ?_))
        refine gs rfl ?_
        refine gs rfl ?_
        refine gs rfl ?_
        refine gs rfl ?_
        refine gs rfl ?_
        refine gs rfl ?_
        refine gs rfl ?_
        refine and_2 rfl (vin rfl) ?_
        refine gs rfl ?_
        refine gs rfl ?_
        refine gs rfl ?_
        refine and_3 (Nat.le_of_ble_eq_true rfl) rfl (vin rfl) ?_
        refine gs rfl ?_
        refine gs rfl ?_
        refine and_i rfl ?_
        refine gs rfl ?_
        refine and_i rfl ?_
        refine gs rfl ?_
        refine gs rfl ?_
        refine gs rfl ?_
        refine gs rfl ?_
        refine gs rfl ?_
        refine gs rfl ?_
        refine and_i (Or.inl rfl) ?_
        refine gwst (congrArg (fun z => Value.int z :: _) (alen_k (n := 6) (by rfl))) ?_
        refine gs rfl ?_
        refine gs rfl ?_
        refine gs rfl ?_
        refine gs rfl ?_
        refine gs rfl ?_
        refine and_2 rfl (Or.inr rfl) ?_
        exact rfl
      · have d30 : ¬ ((s3).toInt < 0) := fun q => c29 ((lt_k (by rfl) (by rfl)).mpr q)
        refine gs rfl ?_
        refine gs rfl ?_
        refine gs rfl ?_
        refine ifs (fun c31 => ?_) (fun c31 => ?_)
        · have d32 : 99 < (s3).toInt := (lt_k (by rfl) (by rfl)).mp c31
          refine gs rfl ?_
          refine gs rfl ?_
          refine and_2 rfl (Or.inl rfl) ?_
          refine gs rfl ?_
          refine gs rfl ?_
          refine gs rfl ?_
          refine gs rfl ?_
          refine gs rfl ?_
          refine and_i (Nat.le_of_ble_eq_true rfl) (cl0 (Nat.le_of_ble_eq_true rfl) (and_i (Nat.le_of_ble_eq_true rfl) ?_))
          refine gs rfl ?_
          refine gs rfl ?_
          refine gs rfl ?_
          refine gs rfl ?_
          refine gs rfl ?_
          refine gs rfl ?_
          refine and_2 rfl (vin rfl) ?_
          refine gs rfl ?_
          refine gs rfl ?_
          refine gs rfl ?_
          refine and_i (Nat.le_of_ble_eq_true rfl) (cl0 (Nat.le_of_ble_eq_true rfl) (and_i (Nat.le_of_ble_eq_true rfl) ?_))
          refine gs rfl ?_
          refine gs rfl ?_
          refine gs rfl ?_
          refine ifF ((fun q => absurd ((lt_k (a := (s1).toInt) (b := 0) (by rfl) (by rfl)).mp q) (by omega))) ?_
          refine gs rfl ?_
          refine gs rfl ?_
          refine gs rfl ?_
          refine ifT ((lt_k (a := (-1)) (b := (s1).toInt) (by rfl) (by rfl)).mpr (by omega)) ?_
          refine gs rfl ?_
          refine gs rfl ?_
          refine and_2 rfl (Or.inl rfl) ?_
          refine gs rfl ?_
          refine and_2 rfl (Or.inl rfl) ?_
          refine gs rfl ?_
          refine gs rfl ?_
          refine gs rfl ?_
          refine gs rfl ?_
          refine and_i (Nat.le_of_ble_eq_true rfl) (cl0 (Nat.le_of_ble_eq_true rfl) (and_i (Nat.le_of_ble_eq_true rfl) ?_))
          refine gs rfl ?_
          refine gs rfl ?_
          refine gs rfl ?_
          refine gs rfl ?_
          refine gs rfl ?_
          refine gs rfl ?_
          refine gs rfl ?_
          refine and_2 rfl (vin rfl) ?_
          refine gs rfl ?_
          refine gs rfl ?_
          refine gs rfl ?_
          refine and_3 (Nat.le_of_ble_eq_true rfl) rfl (vin rfl) ?_
          refine gs rfl ?_
          refine gs rfl ?_
          refine and_i rfl ?_
          refine gs rfl ?_
          refine and_i rfl ?_
          refine gs rfl ?_
          refine gs rfl ?_
          refine gs rfl ?_
          refine gs rfl ?_
          refine gs rfl ?_
          refine gs rfl ?_
          refine and_i (Or.inl rfl) ?_
          refine gwst (congrArg (fun z => Value.int z :: _) (alen_k (n := 6) (by rfl))) ?_
          refine gs rfl ?_
          refine gs rfl ?_
          refine gs rfl ?_
          refine gs rfl ?_
          refine gs rfl ?_
          refine and_2 rfl (Or.inr rfl) ?_
          exact rfl
        · have d32 : ¬ (99 < (s3).toInt) := fun q => c31 ((lt_k (by rfl) (by rfl)).mpr q)
          refine gs rfl ?_
          refine gs rfl ?_
          refine gs rfl ?_
          refine and_2 rfl (Or.inr rfl) ?_
          refine gs rfl ?_
          refine gs rfl ?_
          refine gs rfl ?_
          refine gs rfl ?_
          refine gs rfl ?_
          refine and_i (Nat.le_of_ble_eq_true rfl) (cl0 (Nat.le_of_ble_eq_true rfl) (and_i (Nat.le_of_ble_eq_true rfl) ?_))
          refine gs rfl ?_
          refine gs rfl ?_
          refine gs rfl ?_
          refine gs rfl ?_
          refine gs rfl ?_
          refine gs rfl ?_
          refine and_2 rfl (vin rfl) ?_
          refine gs rfl ?_
          refine gs rfl ?_
          refine gs rfl ?_
          refine and_i (Nat.le_of_ble_eq_true rfl) (cl0 (Nat.le_of_ble_eq_true rfl) (and_i (Nat.le_of_ble_eq_true rfl) ?_))
          refine gs rfl ?_
          refine gs rfl ?_
          refine gs rfl ?_
          refine ifF ((fun q => absurd ((lt_k (a := (s1).toInt) (b := 0) (by rfl) (by rfl)).mp q) (by omega))) ?_
          refine gs rfl ?_
          refine gs rfl ?_
          refine gs rfl ?_
          refine ifT ((lt_k (a := (-1)) (b := (s1).toInt) (by rfl) (by rfl)).mpr (by omega)) ?_
          refine gs rfl ?_
          refine gs rfl ?_
          refine and_2 rfl (Or.inl rfl) ?_
          refine gs rfl ?_
          refine and_2 rfl (Or.inl rfl) ?_
          refine gs rfl ?_
          refine gs rfl ?_
          refine gs rfl ?_
          refine gs rfl ?_
          refine and_i (Nat.le_of_ble_eq_true rfl) (cl0 (Nat.le_of_ble_eq_true rfl) (and_i (Nat.le_of_ble_eq_true rfl) ?_))
          refine gs rfl ?_
          refine gs rfl ?_
          refine gs rfl ?_
          refine gs rfl ?_
          refine gs rfl ?_
          refine gs rfl ?_
          refine gs rfl ?_
          refine and_2 rfl (vin rfl) ?_
          refine gs rfl ?_
          refine gs rfl ?_
          refine gs rfl ?_
          refine and_3 (Nat.le_of_ble_eq_true rfl) rfl (vin rfl) ?_
          refine gs rfl ?_
          refine gs rfl ?_
          refine and_i rfl ?_
          refine gs rfl ?_
          refine and_i rfl ?_
          refine gs rfl ?_
          refine gs rfl ?_
          refine gs rfl ?_
          refine gs rfl ?_
          refine gs rfl ?_
          refine gs rfl ?_
          refine and_i (Or.inl rfl) ?_
          refine gwst (congrArg (fun z => Value.int z :: _) (alen_k (n := 6) (by rfl))) ?_
          refine gs rfl ?_
          refine gs rfl ?_
          refine gs rfl ?_
          refine gs rfl ?_
          refine gs rfl ?_
          refine and_2 rfl (Or.inr rfl) ?_
          exact rfl
    · have d28 : ¬ ((s2).toInt = 0) := fun q => c27 ((eq_k (by rfl) (by rfl)).mpr q)
      refine gs rfl ?_
      refine gs rfl ?_
      refine gs rfl ?_
      refine ifs (fun c33 => ?_) (fun c33 => ?_)
      · have d34 : (s2).toInt = 2 := (eq_k (by rfl) (by rfl)).mp c33
        refine gs rfl ?_
        refine gs rfl ?_
        refine gs rfl ?_
        refine gs rfl ?_
        refine and_i (Nat.le_of_ble_eq_true rfl) (cl0 (Nat.le_of_ble_eq_true rfl) (and_i (Nat.le_of_ble_eq_true rfl) ?_))
        refine gs rfl ?_
        refine gs rfl ?_
        refine gs rfl ?_
        refine ifs (fun c35 => ?_) (fun c35 => ?_)
        · have d36 : (s3).toInt < 0 := (lt_k (by rfl) (by rfl)).mp c35
          refine gs rfl ?_
          refine gs rfl ?_
          refine and_2 rfl (Or.inl rfl) ?_
          refine gs rfl ?_
          refine gs rfl ?_
          refine gs rfl ?_
          refine gs rfl ?_
          refine gs rfl ?_
          refine and_i (Nat.le_of_ble_eq_true rfl) (cl0 (Nat.le_of_ble_eq_true rfl) (and_i (Nat.le_of_ble_eq_true rfl) ?_))
          refine gs rfl ?_
          refine gs rfl ?_
          refine gs rfl ?_
          refine gs rfl ?_
          refine gs rfl ?_
          refine gs rfl ?_
          refine and_2 rfl (vin rfl) ?_
          refine gs rfl ?_
          refine gs rfl ?_
          refine gs rfl ?_
          refine and_i (Nat.le_of_ble_eq_true rfl) (cl0 (Nat.le_of_ble_eq_true rfl) (and_i (Nat.le_of_ble_eq_true rfl) ?_))
          refine gs rfl ?_
          refine gs rfl ?_
          refine gs rfl ?_
          refine ifF ((fun q => absurd ((lt_k (a := (s1).toInt) (b := 0) (by rfl) (by rfl)).mp q) (by omega))) ?_
          refine gs rfl ?_
          refine gs rfl ?_
          refine gs rfl ?_
          refine ifT ((lt_k (a := (-1)) (b := (s1).toInt) (by rfl) (by rfl)).mpr (by omega)) ?_
          refine gs rfl ?_
          refine gs rfl ?_
          refine and_2 rfl (Or.inl rfl) ?_
          refine gs rfl ?_
          refine and_2 rfl (Or.inl rfl) ?_
          refine gs rfl ?_
          refine gs rfl ?_
          refine gs rfl ?_
          refine gs rfl ?_
          refine and_i (Nat.le_of_ble_eq_true rfl) (cl0 (Nat.le_of_ble_eq_true rfl) (and_i (Nat.le_of_ble_eq_true rfl) ?_))
          refine gs rfl ?_
          refine gs rfl ?_
          refine gs rfl ?_
          refine gs rfl ?_
          refine gs rfl ?_
          refine gs rfl ?_
          refine gs rfl ?_
          refine and_2 rfl (vin rfl) ?_
          refine gs rfl ?_
          refine gs rfl ?_
          refine gs rfl ?_
          refine and_3 (Nat.le_of_ble_eq_true rfl) rfl (vin rfl) ?_
          refine gs rfl ?_
          refine gs rfl ?_
          refine and_i rfl ?_
          refine gs rfl ?_
          refine and_i rfl ?_
          refine gs rfl ?_
          refine gs rfl ?_
          refine gs rfl ?_
          refine gs rfl ?_
          refine gs rfl ?_
          refine gs rfl ?_
          refine and_i (Or.inl rfl) ?_
          refine gwst (congrArg (fun z => Value.int z :: _) (alen_k (n := 6) (by rfl))) ?_
          refine gs rfl ?_
          refine gs rfl ?_
          refine gs rfl ?_
          refine gs rfl ?_
          refine gs rfl ?_
          refine and_2 rfl (Or.inr rfl) ?_
          exact rfl
        · have d36 : ¬ ((s3).toInt < 0) := fun q => c35 ((lt_k (by rfl) (by rfl)).mpr q)
          refine gs rfl ?_
          refine gs rfl ?_
          refine gs rfl ?_
          refine ifs (fun c37 => ?_) (fun c37 => ?_)
          · have d38 : 99 < (s3).toInt := (lt_k (by rfl) (by rfl)).mp c37
            refine gs rfl ?_
            refine gs rfl ?_
            refine and_2 rfl (Or.inl rfl) ?_
            refine gs rfl ?_
            refine gs rfl ?_
            refine gs rfl ?_
            refine gs rfl ?_
            refine gs rfl ?_
            refine and_i (Nat.le_of_ble_eq_true rfl) (cl0 (Nat.le_of_ble_eq_true rfl) (and_i (Nat.le_of_ble_eq_true rfl) ?_))
            refine gs rfl ?_
            refine gs rfl ?_
            refine gs rfl ?_
            refine gs rfl ?_
            refine gs rfl ?_
            refine gs rfl ?_
            refine and_2 rfl (vin rfl) ?_
            refine gs rfl ?_
            refine gs rfl ?_
            refine gs rfl ?_
            refine and_i (Nat.le_of_ble_eq_true rfl) (cl0 (Nat.le_of_ble_eq_true rfl) (and_i (Nat.le_of_ble_eq_true rfl) ?_))
            refine gs rfl ?_
            refine gs rfl ?_
            refine gs rfl ?_
            refine ifF ((fun q => absurd ((lt_k (a := (s1).toInt) (b := 0) (by rfl) (by rfl)).mp q) (by omega))) ?_
            refine gs rfl ?_
            refine gs rfl ?_
            refine gs rfl ?_
            refine ifT ((lt_k (a := (-1)) (b := (s1).toInt) (by rfl) (by rfl)).mpr (by omega)) ?_
            refine gs rfl ?_
            refine gs rfl ?_
            refine and_2 rfl (Or.inl rfl) ?_
            refine gs rfl ?_
            refine and_2 rfl (Or.inl rfl) ?_
            refine gs rfl ?_
            refine gs rfl ?_
            refine gs rfl ?_
            refine gs rfl ?_
            refine and_i (Nat.le_of_ble_eq_true rfl) (cl0 (Nat.le_of_ble_eq_true rfl) (and_i (Nat.le_of_ble_eq_true rfl) ?_))
            refine gs rfl ?_
            refine gs rfl ?_
            refine gs rfl ?_
            refine gs rfl ?_
            refine gs rfl ?_
            refine gs rfl ?_
            refine gs rfl ?_
            refine and_2 rfl (vin rfl) ?_
            refine gs rfl ?_
            refine gs rfl ?_
            refine gs rfl ?_
            refine and_3 (Nat.le_of_ble_eq_true rfl) rfl (vin rfl) ?_
            refine gs rfl ?_
            refine gs rfl ?_
            refine and_i rfl ?_
            refine gs rfl ?_
            refine and_i rfl ?_
            refine gs rfl ?_
            refine gs rfl ?_
            refine gs rfl ?_
            refine gs rfl ?_
            refine gs rfl ?_
            refine gs rfl ?_
            refine and_i (Or.inl rfl) ?_
            refine gwst (congrArg (fun z => Value.int z :: _) (alen_k (n := 6) (by rfl))) ?_
            refine gs rfl ?_
            refine gs rfl ?_
            refine gs rfl ?_
            refine gs rfl ?_
            refine gs rfl ?_
            refine and_2 rfl (Or.inr rfl) ?_
            exact rfl
          · have d38 : ¬ (99 < (s3).toInt) := fun q => c37 ((lt_k (by rfl) (by rfl)).mpr q)
            refine gs rfl ?_
            refine gs rfl ?_
            refine gs rfl ?_
            refine and_2 rfl (Or.inr rfl) ?_
            refine gs rfl ?_
            refine gs rfl ?_
            refine gs rfl ?_
            refine gs rfl ?_
            refine gs rfl ?_
            refine and_i (Nat.le_of_ble_eq_true rfl) (cl0 (Nat.le_of_ble_eq_true rfl) (and_i (Nat.le_of_ble_eq_true rfl) ?_))
            refine gs rfl ?_
            refine gs rfl ?_
            refine gs rfl ?_
            refine gs rfl ?_
            refine gs rfl ?_
            refine gs rfl ?_
            refine and_2 rfl (vin rfl) ?_
            refine gs rfl ?_
            refine gs rfl ?_
            refine gs rfl ?_
            refine and_i (Nat.le_of_ble_eq_true rfl) (cl0 (Nat.le_of_ble_eq_true rfl) (and_i (Nat.le_of_ble_eq_true rfl) ?_))
            refine gs rfl ?_
            refine gs rfl ?_
            refine gs rfl ?_
            refine ifF ((fun q => absurd ((lt_k (a := (s1).toInt) (b := 0) (by rfl) (by rfl)).mp q) (by omega))) ?_
            refine gs rfl ?_
            refine gs rfl ?_
            refine gs rfl ?_
            refine ifT ((lt_k (a := (-1)) (b := (s1).toInt) (by rfl) (by rfl)).mpr (by omega)) ?_
            refine gs rfl ?_
            refine gs rfl ?_
            refine and_2 rfl (Or.inl rfl) ?_
            refine gs rfl ?_
            refine and_2 rfl (Or.inl rfl) ?_
            refine gs rfl ?_
            refine gs rfl ?_
            refine gs rfl ?_
            refine gs rfl ?_
            refine and_i (Nat.le_of_ble_eq_true rfl) (cl0 (Nat.le_of_ble_eq_true rfl) (and_i (Nat.le_of_ble_eq_true rfl) ?_))
            refine gs rfl ?_
            refine gs rfl ?_
            refine gs rfl ?_
            refine gs rfl ?_
            refine gs rfl ?_
            refine gs rfl ?_
            refine gs rfl ?_
            refine and_2 rfl (vin rfl) ?_
            refine gs rfl ?_
            refine gs rfl ?_
            refine gs rfl ?_
            refine and_3 (Nat.le_of_ble_eq_true rfl) rfl (vin rfl) ?_
            refine gs rfl ?_
            refine gs rfl ?_
            refine and_i rfl ?_
            refine gs rfl ?_
            refine and_i rfl ?_
            refine gs rfl ?_
            refine gs rfl ?_
            refine gs rfl ?_
            refine gs rfl ?_
            refine gs rfl ?_
            refine gs rfl ?_
            refine and_i (Or.inl rfl) ?_
            refine gwst (congrArg (fun z => Value.int z :: _) (alen_k (n := 6) (by rfl))) ?_
            refine gs rfl ?_
            refine gs rfl ?_
            refine gs rfl ?_
            refine gs rfl ?_
            refine gs rfl ?_
            refine and_2 rfl (Or.inr rfl) ?_
            exact rfl
      · have d34 : ¬ ((s2).toInt = 2) := fun q => c33 ((eq_k (by rfl) (by rfl)).mpr q)
        refine gs rfl ?_
        refine gs rfl ?_
        refine gs rfl ?_
        refine ifs (fun c39 => ?_) (fun c39 => ?_)
        · have d40 : (s2).toInt = 1 := (eq_k (by rfl) (by rfl)).mp c39
          refine gs rfl ?_
          refine gs rfl ?_
          refine gs rfl ?_
          refine gs rfl ?_
          refine and_i (Nat.le_of_ble_eq_true rfl) (cl0 (Nat.le_of_ble_eq_true rfl) (and_i (Nat.le_of_ble_eq_true rfl) ?_))
          refine gs rfl ?_
          refine gs rfl ?_
          refine gs rfl ?_
          refine ifs (fun c41 => ?_) (fun c41 => ?_)
          · have d42 : (s3).toInt < 0 := (lt_k (by rfl) (by rfl)).mp c41
            refine gs rfl ?_
            refine gs rfl ?_
            refine and_2 rfl (Or.inl rfl) ?_
            refine gs rfl ?_
            refine gs rfl ?_
            refine gs rfl ?_
            refine gs rfl ?_
            refine gs rfl ?_
            refine and_i (Nat.le_of_ble_eq_true rfl) (cl0 (Nat.le_of_ble_eq_true rfl) (and_i (Nat.le_of_ble_eq_true rfl) ?_))
            refine gs rfl ?_
            refine gs rfl ?_
            refine gs rfl ?_
            refine gs rfl ?_
            refine gs rfl ?_
            refine gs rfl ?_
            refine and_2 rfl (vin rfl) ?_
            refine gs rfl ?_
            refine gs rfl ?_
            refine gs rfl ?_
            refine and_i (Nat.le_of_ble_eq_true rfl) (cl0 (Nat.le_of_ble_eq_true rfl) (and_i (Nat.le_of_ble_eq_true rfl) ?_))
            refine gs rfl ?_
            refine gs rfl ?_
            refine gs rfl ?_
            refine ifF ((fun q => absurd ((lt_k (a := (s1).toInt) (b := 0) (by rfl) (by rfl)).mp q) (by omega))) ?_
            refine gs rfl ?_
            refine gs rfl ?_
            refine gs rfl ?_
            refine ifT ((lt_k (a := (-1)) (b := (s1).toInt) (by rfl) (by rfl)).mpr (by omega)) ?_
            refine gs rfl ?_
            refine gs rfl ?_
            refine and_2 rfl (Or.inl rfl) ?_
            refine gs rfl ?_
            refine and_2 rfl (Or.inl rfl) ?_
            refine gs rfl ?_
            refine gs rfl ?_
            refine gs rfl ?_
            refine gs rfl ?_
            refine and_i (Nat.le_of_ble_eq_true rfl) (cl0 (Nat.le_of_ble_eq_true rfl) (and_i (Nat.le_of_ble_eq_true rfl) ?_))
            refine gs rfl ?_
            refine gs rfl ?_
            refine gs rfl ?_
            refine gs rfl ?_
            refine gs rfl ?_
            refine gs rfl ?_
            refine gs rfl ?_
            refine and_2 rfl (vin rfl) ?_
            refine gs rfl ?_
            refine gs rfl ?_
            refine gs rfl ?_
            refine and_3 (Nat.le_of_ble_eq_true rfl) rfl (vin rfl) ?_
            refine gs rfl ?_
            refine gs rfl ?_
            refine and_i rfl ?_
            refine gs rfl ?_
            refine and_i rfl ?_
            refine gs rfl ?_
            refine gs rfl ?_
            refine gs rfl ?_
            refine gs rfl ?_
            refine gs rfl ?_
            refine gs rfl ?_
            refine and_i (Or.inl rfl) ?_
            refine gwst (congrArg (fun z => Value.int z :: _) (alen_k (n := 6) (by rfl))) ?_
            refine gs rfl ?_
            refine gs rfl ?_
            refine gs rfl ?_
            refine gs rfl ?_
            refine gs rfl ?_
            refine and_2 rfl (Or.inr rfl) ?_
            exact rfl
          · have d42 : ¬ ((s3).toInt < 0) := fun q => c41 ((lt_k (by rfl) (by rfl)).mpr q)
            refine gs rfl ?_
            refine gs rfl ?_
            refine gs rfl ?_
            refine ifs (fun c43 => ?_) (fun c43 => ?_)
            · have d44 : 9 < (s3).toInt := (lt_k (by rfl) (by rfl)).mp c43
              refine gs rfl ?_
              refine gs rfl ?_
              refine and_2 rfl (Or.inl rfl) ?_
              refine gs rfl ?_
              refine gs rfl ?_
              refine gs rfl ?_
              refine gs rfl ?_
              refine gs rfl ?_
              refine and_i (Nat.le_of_ble_eq_true rfl) (cl0 (Nat.le_of_ble_eq_true rfl) (and_i (Nat.le_of_ble_eq_true rfl) ?_))
              refine gs rfl ?_
              refine gs rfl ?_
              refine gs rfl ?_
              refine gs rfl ?_
              refine gs rfl ?_
              refine gs rfl ?_
              refine and_2 rfl (vin rfl) ?_
              refine gs rfl ?_
              refine gs rfl ?_
              refine gs rfl ?_
              refine and_i (Nat.le_of_ble_eq_true rfl) (cl0 (Nat.le_of_ble_eq_true rfl) (and_i (Nat.le_of_ble_eq_true rfl) ?_))
              refine gs rfl ?_
              refine gs rfl ?_
              refine gs rfl ?_
              refine ifF ((fun q => absurd ((lt_k (a := (s1).toInt) (b := 0) (by rfl) (by rfl)).mp q) (by omega))) ?_
              refine gs rfl ?_
              refine gs rfl ?_
              refine gs rfl ?_
              refine ifT ((lt_k (a := (-1)) (b := (s1).toInt) (by rfl) (by rfl)).mpr (by omega)) ?_
              refine gs rfl ?_
              refine gs rfl ?_
              refine and_2 rfl (Or.inl rfl) ?_
              refine gs rfl ?_
              refine and_2 rfl (Or.inl rfl) ?_
              refine gs rfl ?_
              refine gs rfl ?_
              refine gs rfl ?_
              refine gs rfl ?_
              refine and_i (Nat.le_of_ble_eq_true rfl) (cl0 (Nat.le_of_ble_eq_true rfl) (and_i (Nat.le_of_ble_eq_true rfl) ?_))
              refine gs rfl ?_
              refine gs rfl ?_
              refine gs rfl ?_
              refine gs rfl ?_
              refine gs rfl ?_
              refine gs rfl ?_
              refine gs rfl ?_
              refine and_2 rfl (vin rfl) ?_
              refine gs rfl ?_
              refine gs rfl ?_
              refine gs rfl ?_
              refine and_3 (Nat.le_of_ble_eq_true rfl) rfl (vin rfl) ?_
              refine gs rfl ?_
              refine gs rfl ?_
              refine and_i rfl ?_
              refine gs rfl ?_
              refine and_i rfl ?_
              refine gs rfl ?_
              refine gs rfl ?_
              refine gs rfl ?_
              refine gs rfl ?_
              refine gs rfl ?_
              refine gs rfl ?_
              refine and_i (Or.inl rfl) ?_
              refine gwst (congrArg (fun z => Value.int z :: _) (alen_k (n := 6) (by rfl))) ?_
              refine gs rfl ?_
              refine gs rfl ?_
              refine gs rfl ?_
              refine gs rfl ?_
              refine gs rfl ?_
              refine and_2 rfl (Or.inr rfl) ?_
              exact rfl
            · have d44 : ¬ (9 < (s3).toInt) := fun q => c43 ((lt_k (by rfl) (by rfl)).mpr q)
              refine gs rfl ?_
              refine gs rfl ?_
              refine gs rfl ?_
              refine and_2 rfl (Or.inr rfl) ?_
              refine gs rfl ?_
              refine gs rfl ?_
              refine gs rfl ?_
              refine gs rfl ?_
              refine gs rfl ?_
              refine and_i (Nat.le_of_ble_eq_true rfl) (cl0 (Nat.le_of_ble_eq_true rfl) (and_i (Nat.le_of_ble_eq_true rfl) ?_))
              refine gs rfl ?_
              refine gs rfl ?_
              refine gs rfl ?_
              refine gs rfl ?_
              refine gs rfl ?_
              refine gs rfl ?_
              refine and_2 rfl (vin rfl) ?_
              refine gs rfl ?_
              refine gs rfl ?_
              refine gs rfl ?_
              refine and_i (Nat.le_of_ble_eq_true rfl) (cl0 (Nat.le_of_ble_eq_true rfl) (and_i (Nat.le_of_ble_eq_true rfl) ?_))
              refine gs rfl ?_
              refine gs rfl ?_
              refine gs rfl ?_
              refine ifF ((fun q => absurd ((lt_k (a := (s1).toInt) (b := 0) (by rfl) (by rfl)).mp q) (by omega))) ?_
              refine gs rfl ?_
              refine gs rfl ?_
              refine gs rfl ?_
              refine ifT ((lt_k (a := (-1)) (b := (s1).toInt) (by rfl) (by rfl)).mpr (by omega)) ?_
              refine gs rfl ?_
              refine gs rfl ?_
              refine and_2 rfl (Or.inl rfl) ?_
              refine gs rfl ?_
              refine and_2 rfl (Or.inl rfl) ?_
              refine gs rfl ?_
              refine gs rfl ?_
              refine gs rfl ?_
              refine gs rfl ?_
              refine and_i (Nat.le_of_ble_eq_true rfl) (cl0 (Nat.le_of_ble_eq_true rfl) (and_i (Nat.le_of_ble_eq_true rfl) ?_))
              refine gs rfl ?_
              refine gs rfl ?_
              refine gs rfl ?_
              refine gs rfl ?_
              refine gs rfl ?_
              refine gs rfl ?_
              refine gs rfl ?_
              refine and_2 rfl (vin rfl) ?_
              refine gs rfl ?_
              refine gs rfl ?_
              refine gs rfl ?_
              refine and_3 (Nat.le_of_ble_eq_true rfl) rfl (vin rfl) ?_
              refine gs rfl ?_
              refine gs rfl ?_
              refine and_i rfl ?_
              refine gs rfl ?_
              refine and_i rfl ?_
              refine gs rfl ?_
              refine gs rfl ?_
              refine gs rfl ?_
              refine gs rfl ?_
              refine gs rfl ?_
              refine gs rfl ?_
              refine and_i (Or.inl rfl) ?_
              refine gwst (congrArg (fun z => Value.int z :: _) (alen_k (n := 6) (by rfl))) ?_
              refine gs rfl ?_
              refine gs rfl ?_
              refine gs rfl ?_
              refine gs rfl ?_
              refine gs rfl ?_
              refine and_2 rfl (Or.inr rfl) ?_
              exact rfl
        · have d40 : ¬ ((s2).toInt = 1) := fun q => c39 ((eq_k (by rfl) (by rfl)).mpr q)
          refine gs rfl ?_
          refine gs rfl ?_
          refine gs rfl ?_
          refine ifs (fun c45 => ?_) (fun c45 => ?_)
          · have d46 : (s2).toInt = 3 := (eq_k (by rfl) (by rfl)).mp c45
            refine gs rfl ?_
            refine gs rfl ?_
            refine gs rfl ?_
            refine gs rfl ?_
            refine and_i (Nat.le_of_ble_eq_true rfl) (cl0 (Nat.le_of_ble_eq_true rfl) (and_i (Nat.le_of_ble_eq_true rfl) ?_))
            refine gs rfl ?_
            refine gs rfl ?_
            refine gs rfl ?_
            refine ifs (fun c47 => ?_) (fun c47 => ?_)
            · have d48 : (s3).toInt < 0 := (lt_k (by rfl) (by rfl)).mp c47
              refine gs rfl ?_
              refine gs rfl ?_
              refine and_2 rfl (Or.inl rfl) ?_
              refine gs rfl ?_
              refine gs rfl ?_
              refine gs rfl ?_
              refine gs rfl ?_
              refine gs rfl ?_
              refine gs rfl ?_
              refine and_i (Nat.le_of_ble_eq_true rfl) (cl0 (Nat.le_of_ble_eq_true rfl) (and_i (Nat.le_of_ble_eq_true rfl) ?_))
              refine gs rfl ?_
              refine gs rfl ?_
              refine gs rfl ?_
              refine gs rfl ?_
              refine gs rfl ?_
              refine gs rfl ?_
              refine and_2 rfl (vin rfl) ?_
              refine gs rfl ?_
              refine gs rfl ?_
              refine gs rfl ?_
              refine and_i (Nat.le_of_ble_eq_true rfl) (cl0 (Nat.le_of_ble_eq_true rfl) (and_i (Nat.le_of_ble_eq_true rfl) ?_))
              refine gs rfl ?_
              refine gs rfl ?_
              refine gs rfl ?_
              refine ifF ((fun q => absurd ((lt_k (a := (s1).toInt) (b := 0) (by rfl) (by rfl)).mp q) (by omega))) ?_
              refine gs rfl ?_
              refine gs rfl ?_
              refine gs rfl ?_
              refine ifT ((lt_k (a := (-1)) (b := (s1).toInt) (by rfl) (by rfl)).mpr (by omega)) ?_
              refine gs rfl ?_
              refine gs rfl ?_
              refine and_2 rfl (Or.inl rfl) ?_
              refine gs rfl ?_
              refine and_2 rfl (Or.inl rfl) ?_
              refine gs rfl ?_
              refine gs rfl ?_
              refine gs rfl ?_
              refine gs rfl ?_
              refine and_i (Nat.le_of_ble_eq_true rfl) (cl0 (Nat.le_of_ble_eq_true rfl) (and_i (Nat.le_of_ble_eq_true rfl) ?_))
              refine gs rfl ?_
              refine gs rfl ?_
              refine gs rfl ?_
              refine gs rfl ?_
              refine gs rfl ?_
              refine gs rfl ?_
              refine gs rfl ?_
              refine and_2 rfl (vin rfl) ?_
              refine gs rfl ?_
              refine gs rfl ?_
              refine gs rfl ?_
              refine and_3 (Nat.le_of_ble_eq_true rfl) rfl (vin rfl) ?_
              refine gs rfl ?_
              refine gs rfl ?_
              refine and_i rfl ?_
              refine gs rfl ?_
              refine and_i rfl ?_
              refine gs rfl ?_
              refine gs rfl ?_
              refine gs rfl ?_
              refine gs rfl ?_
              refine gs rfl ?_
              refine gs rfl ?_
              refine and_i (Or.inl rfl) ?_
              refine gwst (congrArg (fun z => Value.int z :: _) (alen_k (n := 6) (by rfl))) ?_
              refine gs rfl ?_
              refine gs rfl ?_
              refine gs rfl ?_
              refine gs rfl ?_
              refine gs rfl ?_
              refine and_2 rfl (Or.inr rfl) ?_
              exact rfl
            · have d48 : ¬ ((s3).toInt < 0) := fun q => c47 ((lt_k (by rfl) (by rfl)).mpr q)
              refine gs rfl ?_
              refine gs rfl ?_
              refine gs rfl ?_
              refine ifs (fun c49 => ?_) (fun c49 => ?_)
              · have d50 : 1 < (s3).toInt := (lt_k (by rfl) (by rfl)).mp c49
                refine gs rfl ?_
                refine gs rfl ?_
                refine and_2 rfl (Or.inl rfl) ?_
                refine gs rfl ?_
                refine gs rfl ?_
                refine gs rfl ?_
                refine gs rfl ?_
                refine gs rfl ?_
                refine gs rfl ?_
                refine and_i (Nat.le_of_ble_eq_true rfl) (cl0 (Nat.le_of_ble_eq_true rfl) (and_i (Nat.le_of_ble_eq_true rfl) ?_))
                refine gs rfl ?_
                refine gs rfl ?_
                refine gs rfl ?_
                refine gs rfl ?_
                refine gs rfl ?_
                refine gs rfl ?_
                refine and_2 rfl (vin rfl) ?_
                refine gs rfl ?_
                refine gs rfl ?_
                refine gs rfl ?_
                refine and_i (Nat.le_of_ble_eq_true rfl) (cl0 (Nat.le_of_ble_eq_true rfl) (and_i (Nat.le_of_ble_eq_true rfl) ?_))
                refine gs rfl ?_
                refine gs rfl ?_
                refine gs rfl ?_
                refine ifF ((fun q => absurd ((lt_k (a := (s1).toInt) (b := 0) (by rfl) (by rfl)).mp q) (by omega))) ?_
                refine gs rfl ?_
                refine gs rfl ?_
                refine gs rfl ?_
                refine ifT ((lt_k (a := (-1)) (b := (s1).toInt) (by rfl) (by rfl)).mpr (by omega)) ?_
                refine gs rfl ?_
                refine gs rfl ?_
                refine and_2 rfl (Or.inl rfl) ?_
                refine gs rfl ?_
                refine and_2 rfl (Or.inl rfl) ?_
                refine gs rfl ?_
                refine gs rfl ?_
                refine gs rfl ?_
                refine gs rfl ?_
                refine and_i (Nat.le_of_ble_eq_true rfl) (cl0 (Nat.le_of_ble_eq_true rfl) (and_i (Nat.le_of_ble_eq_true rfl) ?_))
                refine gs rfl ?_
                refine gs rfl ?_
                refine gs rfl ?_
                refine gs rfl ?_
                refine gs rfl ?_
                refine gs rfl ?_
                refine gs rfl ?_
                refine and_2 rfl (vin rfl) ?_
                refine gs rfl ?_
                refine gs rfl ?_
                refine gs rfl ?_
                refine and_3 (Nat.le_of_ble_eq_true rfl) rfl (vin rfl) ?_
                refine gs rfl ?_
                refine gs rfl ?_
                refine and_i rfl ?_
                refine gs rfl ?_
                refine and_i rfl ?_
                refine gs rfl ?_
                refine gs rfl ?_
                refine gs rfl ?_
                refine gs rfl ?_
                refine gs rfl ?_
                refine gs rfl ?_
                refine and_i (Or.inl rfl) ?_
                refine gwst (congrArg (fun z => Value.int z :: _) (alen_k (n := 6) (by rfl))) ?_
                refine gs rfl ?_
                refine gs rfl ?_
                refine gs rfl ?_
                refine gs rfl ?_
                refine gs rfl ?_
                refine and_2 rfl (Or.inr rfl) ?_
                exact rfl
              · have d50 : ¬ (1 < (s3).toInt) := fun q => c49 ((lt_k (by rfl) (by rfl)).mpr q)
                refine gs rfl ?_
                refine gs rfl ?_
                refine gs rfl ?_
                refine and_2 rfl (Or.inr rfl) ?_
                refine gs rfl ?_
                refine gs rfl ?_
                refine gs rfl ?_
                refine gs rfl ?_
                refine gs rfl ?_
                refine gs rfl ?_
                refine gs rfl ?_
                refine and_i (Nat.le_of_ble_eq_true rfl) (cl0 (Nat.le_of_ble_eq_true rfl) (and_i (Nat.le_of_ble_eq_true rfl) ?_))
                refine gs rfl ?_
                refine gs rfl ?_
                refine gs rfl ?_
                refine gs rfl ?_
                refine gs rfl ?_
                refine gs rfl ?_
                refine and_2 rfl (vin rfl) ?_
                refine gs rfl ?_
                refine gs rfl ?_
                refine gs rfl ?_
                refine and_i (Nat.le_of_ble_eq_true rfl) (cl0 (Nat.le_of_ble_eq_true rfl) (and_i (Nat.le_of_ble_eq_true rfl) ?_))
                refine gs rfl ?_
                refine gs rfl ?_
                refine gs rfl ?_
                refine ifF ((fun q => absurd ((lt_k (a := (s1).toInt) (b := 0) (by rfl) (by rfl)).mp q) (by omega))) ?_
                refine gs rfl ?_
                refine gs rfl ?_
                refine gs rfl ?_
                refine ifT ((lt_k (a := (-1)) (b := (s1).toInt) (by rfl) (by rfl)).mpr (by omega)) ?_
                refine gs rfl ?_
                refine gs rfl ?_
                refine and_2 rfl (Or.inl rfl) ?_
                refine gs rfl ?_
                refine and_2 rfl (Or.inl rfl) ?_
                refine gs rfl ?_
                refine gs rfl ?_
                refine gs rfl ?_
                refine gs rfl ?_
                refine and_i (Nat.le_of_ble_eq_true rfl) (cl0 (Nat.le_of_ble_eq_true rfl) (and_i (Nat.le_of_ble_eq_true rfl) ?_))
                refine gs rfl ?_
                refine gs rfl ?_
                refine gs rfl ?_
                refine gs rfl ?_
                refine gs rfl ?_
                refine gs rfl ?_
                refine gs rfl ?_
                refine and_2 rfl (vin rfl) ?_
                refine gs rfl ?_
                refine gs rfl ?_
                refine gs rfl ?_
                refine and_3 (Nat.le_of_ble_eq_true rfl) rfl (vin rfl) ?_
                refine gs rfl ?_
                refine gs rfl ?_
                refine and_i rfl ?_
                refine gs rfl ?_
                refine and_i rfl ?_
                refine gs rfl ?_
                refine gs rfl ?_
                refine gs rfl ?_
                refine gs rfl ?_
                refine gs rfl ?_
                refine gs rfl ?_
                refine and_i (Or.inl rfl) ?_
                refine gwst (congrArg (fun z => Value.int z :: _) (alen_k (n := 6) (by rfl))) ?_
                refine gs rfl ?_
                refine gs rfl ?_
                refine gs rfl ?_
                refine gs rfl ?_
                refine gs rfl ?_
                refine and_2 rfl (Or.inr rfl) ?_
                exact rfl
          · have d46 : ¬ ((s2).toInt = 3) := fun q => c45 ((eq_k (by rfl) (by rfl)).mpr q)
            refine gs rfl ?_
            refine gs rfl ?_
            refine gs rfl ?_
            refine gs rfl ?_
            refine gs rfl ?_
            refine and_i (Nat.le_of_ble_eq_true rfl) (cl0 (Nat.le_of_ble_eq_true rfl) (and_i (Nat.le_of_ble_eq_true rfl) ?_))
            refine gs rfl ?_
            refine gs rfl ?_
            refine gs rfl ?_
            refine gs rfl ?_
            refine gs rfl ?_
            refine gs rfl ?_
            refine and_2 rfl (vin rfl) ?_
            refine gs rfl ?_
            refine gs rfl ?_
            refine gs rfl ?_
            refine and_i (Nat.le_of_ble_eq_true rfl) (cl0 (Nat.le_of_ble_eq_true rfl) (and_i (Nat.le_of_ble_eq_true rfl) ?_))
            refine gs rfl ?_
            refine gs rfl ?_
            refine gs rfl ?_
            refine ifF ((fun q => absurd ((lt_k (a := (s1).toInt) (b := 0) (by rfl) (by rfl)).mp q) (by omega))) ?_
            refine gs rfl ?_
            refine gs rfl ?_
            refine gs rfl ?_
            refine ifT ((lt_k (a := (-1)) (b := (s1).toInt) (by rfl) (by rfl)).mpr (by omega)) ?_
            refine gs rfl ?_
            refine gs rfl ?_
            refine and_2 rfl (Or.inl rfl) ?_
            refine gs rfl ?_
            refine and_2 rfl (Or.inl rfl) ?_
            refine gs rfl ?_
            refine gs rfl ?_
            refine gs rfl ?_
            refine gs rfl ?_
            refine and_i (Nat.le_of_ble_eq_true rfl) (cl0 (Nat.le_of_ble_eq_true rfl) (and_i (Nat.le_of_ble_eq_true rfl) ?_))
            refine gs rfl ?_
            refine gs rfl ?_
            refine gs rfl ?_
            refine gs rfl ?_
            refine gs rfl ?_
            refine gs rfl ?_
            refine gs rfl ?_
            refine and_2 rfl (vin rfl) ?_
            refine gs rfl ?_
            refine gs rfl ?_
            refine gs rfl ?_
            refine and_3 (Nat.le_of_ble_eq_true rfl) rfl (vin rfl) ?_
            refine gs rfl ?_
            refine gs rfl ?_
            refine and_i rfl ?_
            refine gs rfl ?_
            refine and_i rfl ?_
            refine gs rfl ?_
            refine gs rfl ?_
            refine gs rfl ?_
            refine gs rfl ?_
            refine gs rfl ?_
            refine gs rfl ?_
            refine and_i (Or.inl rfl) ?_
            refine gwst (congrArg (fun z => Value.int z :: _) (alen_k (n := 6) (by rfl))) ?_
            refine gs rfl ?_
            refine gs rfl ?_
            refine gs rfl ?_
            refine gs rfl ?_
            refine gs rfl ?_
            refine and_2 rfl (Or.inr rfl) ?_
            exact rfl
set_option maxRecDepth 20000 in
set_option maxHeartbeats 40000000 in
theorem lc_6 {s0 s1 s2 s3 s4 s5 : Int32} {d mc ms : Nat} : gw [s0, s1, s2, s3, s4, s5] (WP [s0, s1, s2, s3, s4, s5] (d + 20)) 190 (fun r _ => r = some (.int 1)) 406 [some (.ref 0), some (.ref 32), some (.ref 89), some (.int 0)] [] (hX0 ++ hM0) mc ms := by
  refine gs rfl ?_
  refine gs rfl ?_
  refine gs rfl ?_
  refine gs rfl ?_
  refine gs rfl ?_
  refine gs rfl ?_
  refine and_2 rfl (vin rfl) ?_
  refine gs rfl ?_
  refine gs rfl ?_
  refine gs rfl ?_
  refine gs rfl ?_
  refine gs rfl ?_
  refine and_2 rfl (vin rfl) ?_
  refine gs rfl ?_
  refine and_i (Nat.le_of_ble_eq_true rfl) (cl0 (Nat.le_of_ble_eq_true rfl) (and_i (Nat.le_of_ble_eq_true rfl) ?_))
  refine gs rfl ?_
  refine gs rfl ?_
  refine gs rfl ?_
  refine and_i (Nat.le_of_ble_eq_true rfl) (cl0 (Nat.le_of_ble_eq_true rfl) (and_i (Nat.le_of_ble_eq_true rfl) ?_))
  refine gs rfl ?_
  refine gs rfl ?_
  refine ifs (fun c1 => ?_) (fun c1 => ?_)
  · have d2 : (s1).toInt < 0 := (lt_k (by rfl) (by rfl)).mp c1
    refine gs rfl ?_
    refine gs rfl ?_
    refine and_2 rfl (Or.inl rfl) ?_
    refine gs rfl ?_
    refine gs rfl ?_
    refine gs rfl ?_
    refine gs rfl ?_
    refine and_i (Nat.le_of_ble_eq_true rfl) (cl0 (Nat.le_of_ble_eq_true rfl) (and_i (Nat.le_of_ble_eq_true rfl) ?_))
    refine gs rfl ?_
    refine gs rfl ?_
    refine gs rfl ?_
    refine gs rfl ?_
    refine gs rfl ?_
    refine and_2 rfl (vin rfl) ?_
    refine gs rfl ?_
    refine gs rfl ?_
    refine gs rfl ?_
    refine and_3 (Nat.le_of_ble_eq_true rfl) rfl (vin rfl) ?_
    refine gs rfl ?_
    refine gs rfl ?_
    refine gs rfl ?_
    refine gs rfl ?_
    refine and_i rfl ?_
    refine gs rfl ?_
    refine and_i rfl ?_
    refine FRg rfl (fun f => ?_)
    refine gs rfl ?_
    refine gs rfl ?_
    refine gs rfl ?_
    refine gs rfl ?_
    refine gs rfl ?_
    refine gs rfl ?_
    refine and_2 rfl (vin rfl) ?_
    refine gs rfl ?_
    refine gs rfl ?_
    refine gs rfl ?_
    refine gs rfl ?_
    refine gs rfl ?_
    refine and_2 rfl (vin rfl) ?_
    refine gs rfl ?_
    refine and_i (Nat.le_of_ble_eq_true rfl) (cl0 (Nat.le_of_ble_eq_true rfl) (and_i (Nat.le_of_ble_eq_true rfl) ?_))
    refine gs rfl ?_
    refine gs rfl ?_
    refine gs rfl ?_
    refine and_i (Nat.le_of_ble_eq_true rfl) (cl0 (Nat.le_of_ble_eq_true rfl) (and_i (Nat.le_of_ble_eq_true rfl) ?_))
    refine gs rfl ?_
    refine gs rfl ?_
    refine gs rfl ?_
    refine gs rfl ?_
    refine gs rfl ?_
    refine gs rfl ?_
    refine and_2 rfl (vin rfl) ?_
    refine gs rfl ?_
    refine gs rfl ?_
    refine gs rfl ?_
    refine and_i (Nat.le_of_ble_eq_true rfl) (cl0 (Nat.le_of_ble_eq_true rfl) (and_i (Nat.le_of_ble_eq_true rfl) ?_))
    refine gs rfl ?_
    refine gs rfl ?_
    refine gs rfl ?_
    refine ifT ((lt_k (a := (s1).toInt) (b := 0) (by rfl) (by rfl)).mpr (by omega)) ?_
    refine gs rfl ?_
    refine gs rfl ?_
    refine and_2 rfl (Or.inl rfl) ?_
    refine gs rfl ?_
    refine and_2 rfl (Or.inl rfl) ?_
    refine gs rfl ?_
    refine gs rfl ?_
    refine gs rfl ?_
    refine gs rfl ?_
    refine and_i (Nat.le_of_ble_eq_true rfl) (cl0 (Nat.le_of_ble_eq_true rfl) (and_i (Nat.le_of_ble_eq_true rfl) ?_))
    refine gs rfl ?_
    refine gs rfl ?_
    refine gs rfl ?_
    refine gs rfl ?_
    refine gs rfl ?_
    refine gs rfl ?_
    refine gs rfl ?_
    refine and_2 rfl (vin rfl) ?_
    refine gs rfl ?_
    refine gs rfl ?_
    refine gs rfl ?_
    refine and_3 (Nat.le_of_ble_eq_true rfl) rfl (vin rfl) ?_
    refine gs rfl ?_
    refine gs rfl ?_
    refine and_i rfl ?_
    refine gs rfl ?_
    refine and_i rfl ?_
    refine gs rfl ?_
    refine gs rfl ?_
    refine gs rfl ?_
    refine gs rfl ?_
    refine gs rfl ?_
    refine gs rfl ?_
    refine and_i (Or.inl rfl) ?_
    refine gwst (congrArg (fun z => Value.int z :: _) (alen_k (n := 6) (by rfl))) ?_
    refine gs rfl ?_
    refine gs rfl ?_
    refine gs rfl ?_
    refine gs rfl ?_
    refine gs rfl ?_
    refine and_2 rfl (Or.inr rfl) ?_
    exact rfl
  · have d2 : ¬ ((s1).toInt < 0) := fun q => c1 ((lt_k (by rfl) (by rfl)).mpr q)
    refine gs rfl ?_
    refine gs rfl ?_
    refine gs rfl ?_
    refine gs rfl ?_
    refine gs rfl ?_
    refine ifT ((le_k (a := 0) (b := (s1).toInt) (by rfl) (by rfl)).mpr (by omega)) ?_
    refine gs rfl ?_
    refine gs rfl ?_
    refine and_2 rfl (Or.inl rfl) ?_
    refine gs rfl ?_
    refine gs rfl ?_
    refine gs rfl ?_
    refine gs rfl ?_
    refine and_i (Nat.le_of_ble_eq_true rfl) (cl0 (Nat.le_of_ble_eq_true rfl) (and_i (Nat.le_of_ble_eq_true rfl) ?_))
    refine gs rfl ?_
    refine gs rfl ?_
    refine gs rfl ?_
    refine gs rfl ?_
    refine gs rfl ?_
    refine and_2 rfl (vin rfl) ?_
    refine gs rfl ?_
    refine gs rfl ?_
    refine gs rfl ?_
    refine and_3 (Nat.le_of_ble_eq_true rfl) rfl (vin rfl) ?_
    refine gs rfl ?_
    refine gs rfl ?_
    refine gs rfl ?_
    refine gs rfl ?_
    refine and_i rfl ?_
    refine gs rfl ?_
    refine and_i rfl ?_
    refine FRg rfl (fun f => ?_)
    refine gs rfl ?_
    refine gs rfl ?_
    refine gs rfl ?_
    refine gs rfl ?_
    refine gs rfl ?_
    refine gs rfl ?_
    refine and_2 rfl (vin rfl) ?_
    refine gs rfl ?_
    refine gs rfl ?_
    refine gs rfl ?_
    refine gs rfl ?_
    refine gs rfl ?_
    refine and_2 rfl (vin rfl) ?_
    refine gs rfl ?_
    refine and_i (Nat.le_of_ble_eq_true rfl) (cl0 (Nat.le_of_ble_eq_true rfl) (and_i (Nat.le_of_ble_eq_true rfl) ?_))
    refine gs rfl ?_
    refine gs rfl ?_
    refine gs rfl ?_
    refine and_i (Nat.le_of_ble_eq_true rfl) (cl0 (Nat.le_of_ble_eq_true rfl) (and_i (Nat.le_of_ble_eq_true rfl) ?_))
    refine gs rfl ?_
    refine gs rfl ?_
    refine gs rfl ?_
    refine gs rfl ?_
    refine gs rfl ?_
    refine gs rfl ?_
    refine and_2 rfl (vin rfl) ?_
    refine gs rfl ?_
    refine gs rfl ?_
    refine gs rfl ?_
    refine and_i (Nat.le_of_ble_eq_true rfl) (cl0 (Nat.le_of_ble_eq_true rfl) (and_i (Nat.le_of_ble_eq_true rfl) ?_))
    refine gs rfl ?_
    refine gs rfl ?_
    refine gs rfl ?_
    refine ifF ((fun q => absurd ((lt_k (a := (s1).toInt) (b := 0) (by rfl) (by rfl)).mp q) (by omega))) ?_
    refine gs rfl ?_
    refine gs rfl ?_
    refine gs rfl ?_
    refine ifT ((lt_k (a := (-1)) (b := (s1).toInt) (by rfl) (by rfl)).mpr (by omega)) ?_
    refine gs rfl ?_
    refine gs rfl ?_
    refine and_2 rfl (Or.inl rfl) ?_
    refine gs rfl ?_
    refine and_2 rfl (Or.inl rfl) ?_
    refine gs rfl ?_
    refine gs rfl ?_
    refine gs rfl ?_
    refine gs rfl ?_
    refine and_i (Nat.le_of_ble_eq_true rfl) (cl0 (Nat.le_of_ble_eq_true rfl) (and_i (Nat.le_of_ble_eq_true rfl) ?_))
    refine gs rfl ?_
    refine gs rfl ?_
    refine gs rfl ?_
    refine gs rfl ?_
    refine gs rfl ?_
    refine gs rfl ?_
    refine gs rfl ?_
    refine and_2 rfl (vin rfl) ?_
    refine gs rfl ?_
    refine gs rfl ?_
    refine gs rfl ?_
    refine and_3 (Nat.le_of_ble_eq_true rfl) rfl (vin rfl) ?_
    refine gs rfl ?_
    refine gs rfl ?_
    refine and_i rfl ?_
    refine gs rfl ?_
    refine and_i rfl ?_
    refine gs rfl ?_
    refine gs rfl ?_
    refine gs rfl ?_
    refine gs rfl ?_
    refine gs rfl ?_
    refine gs rfl ?_
    refine and_i (Or.inl rfl) ?_
    refine gwst (congrArg (fun z => Value.int z :: _) (alen_k (n := 6) (by rfl))) ?_
    refine gs rfl ?_
    refine gs rfl ?_
    refine gs rfl ?_
    refine gs rfl ?_
    refine gs rfl ?_
    refine and_2 rfl (Or.inr rfl) ?_
    exact rfl
set_option maxRecDepth 20000 in
set_option maxHeartbeats 40000000 in
theorem lc_7 {s0 s1 s2 s3 s4 s5 : Int32} {d mc ms : Nat} : gw [s0, s1, s2, s3, s4, s5] (WP [s0, s1, s2, s3, s4, s5] (d + 20)) 190 (fun r _ => r = some (.int 1)) 439 [some (.ref 0), some (.ref 32), some (.ref 89), some (.int 0)] [] (hX0 ++ hM0) mc ms := by
  refine gs rfl ?_
  refine gs rfl ?_
  refine gs rfl ?_
  refine gs rfl ?_
  refine gs rfl ?_
  refine gs rfl ?_
  refine and_2 rfl (vin rfl) ?_
  refine gs rfl ?_
  refine gs rfl ?_
  refine gs rfl ?_
  refine gs rfl ?_
  refine gs rfl ?_
  refine and_2 rfl (vin rfl) ?_
  refine gs rfl ?_
  refine and_i (Nat.le_of_ble_eq_true rfl) (cl0 (Nat.le_of_ble_eq_true rfl) (and_i (Nat.le_of_ble_eq_true rfl) ?_))
  refine gs rfl ?_
  refine gs rfl ?_
  refine gs rfl ?_
  refine and_i (Nat.le_of_ble_eq_true rfl) (cl0 (Nat.le_of_ble_eq_true rfl) (and_i (Nat.le_of_ble_eq_true rfl) ?_))
  refine gs rfl ?_
  refine gs rfl ?_
  refine ifs (fun c1 => ?_) (fun c1 => ?_)
  · have d2 : (s1).toInt < 0 := (lt_k (by rfl) (by rfl)).mp c1
    refine gs rfl ?_
    refine gs rfl ?_
    refine and_2 rfl (Or.inl rfl) ?_
    refine gs rfl ?_
    refine gs rfl ?_
    refine gs rfl ?_
    refine gs rfl ?_
    refine and_i (Nat.le_of_ble_eq_true rfl) (cl0 (Nat.le_of_ble_eq_true rfl) (and_i (Nat.le_of_ble_eq_true rfl) ?_))
    refine gs rfl ?_
    refine gs rfl ?_
    refine gs rfl ?_
    refine gs rfl ?_
    refine gs rfl ?_
    refine and_2 rfl (vin rfl) ?_
    refine gs rfl ?_
    refine gs rfl ?_
    refine gs rfl ?_
    refine and_3 (Nat.le_of_ble_eq_true rfl) rfl (vin rfl) ?_
    refine gs rfl ?_
    refine gs rfl ?_
    refine gs rfl ?_
    refine gs rfl ?_
    refine and_i rfl ?_
    refine gs rfl ?_
    refine and_i rfl ?_
    refine FRg rfl (fun f => ?_)
    refine gs rfl ?_
    refine gs rfl ?_
    refine gs rfl ?_
    refine gs rfl ?_
    refine gs rfl ?_
    refine gs rfl ?_
    refine and_2 rfl (vin rfl) ?_
    refine gs rfl ?_
    refine gs rfl ?_
    refine gs rfl ?_
    refine gs rfl ?_
    refine gs rfl ?_
    refine and_2 rfl (vin rfl) ?_
    refine gs rfl ?_
    refine and_i (Nat.le_of_ble_eq_true rfl) (cl0 (Nat.le_of_ble_eq_true rfl) (and_i (Nat.le_of_ble_eq_true rfl) ?_))
    refine gs rfl ?_
    refine gs rfl ?_
    refine gs rfl ?_
    refine and_i (Nat.le_of_ble_eq_true rfl) (cl0 (Nat.le_of_ble_eq_true rfl) (and_i (Nat.le_of_ble_eq_true rfl) ?_))
    refine gs rfl ?_
    refine gs rfl ?_
    refine gs rfl ?_
    refine gs rfl ?_
    refine gs rfl ?_
    refine gs rfl ?_
    refine and_2 rfl (vin rfl) ?_
    refine gs rfl ?_
    refine gs rfl ?_
    refine gs rfl ?_
    refine and_i (Nat.le_of_ble_eq_true rfl) (cl0 (Nat.le_of_ble_eq_true rfl) (and_i (Nat.le_of_ble_eq_true rfl) ?_))
    refine gs rfl ?_
    refine gs rfl ?_
    refine gs rfl ?_
    refine ifT ((lt_k (a := (s1).toInt) (b := 0) (by rfl) (by rfl)).mpr (by omega)) ?_
    refine gs rfl ?_
    refine gs rfl ?_
    refine and_2 rfl (Or.inl rfl) ?_
    refine gs rfl ?_
    refine and_2 rfl (Or.inl rfl) ?_
    refine gs rfl ?_
    refine gs rfl ?_
    refine gs rfl ?_
    refine gs rfl ?_
    refine and_i (Nat.le_of_ble_eq_true rfl) (cl0 (Nat.le_of_ble_eq_true rfl) (and_i (Nat.le_of_ble_eq_true rfl) ?_))
    refine gs rfl ?_
    refine gs rfl ?_
    refine gs rfl ?_
    refine gs rfl ?_
    refine gs rfl ?_
    refine gs rfl ?_
    refine gs rfl ?_
    refine and_2 rfl (vin rfl) ?_
    refine gs rfl ?_
    refine gs rfl ?_
    refine gs rfl ?_
    refine and_3 (Nat.le_of_ble_eq_true rfl) rfl (vin rfl) ?_
    refine gs rfl ?_
    refine gs rfl ?_
    refine and_i rfl ?_
    refine gs rfl ?_
    refine and_i rfl ?_
    refine gs rfl ?_
    refine gs rfl ?_
    refine gs rfl ?_
    refine gs rfl ?_
    refine gs rfl ?_
    refine gs rfl ?_
    refine and_i (Or.inl rfl) ?_
    refine gwst (congrArg (fun z => Value.int z :: _) (alen_k (n := 6) (by rfl))) ?_
    refine gs rfl ?_
    refine gs rfl ?_
    refine gs rfl ?_
    refine gs rfl ?_
    refine gs rfl ?_
    refine and_2 rfl (Or.inr rfl) ?_
    exact rfl
  · have d2 : ¬ ((s1).toInt < 0) := fun q => c1 ((lt_k (by rfl) (by rfl)).mpr q)
    refine gs rfl ?_
    refine gs rfl ?_
    refine gs rfl ?_
    refine gs rfl ?_
    refine gs rfl ?_
    refine ifT ((le_k (a := 0) (b := (s1).toInt) (by rfl) (by rfl)).mpr (by omega)) ?_
    refine gs rfl ?_
    refine gs rfl ?_
    refine and_2 rfl (Or.inl rfl) ?_
    refine gs rfl ?_
    refine gs rfl ?_
    refine gs rfl ?_
    refine gs rfl ?_
    refine and_i (Nat.le_of_ble_eq_true rfl) (cl0 (Nat.le_of_ble_eq_true rfl) (and_i (Nat.le_of_ble_eq_true rfl) ?_))
    refine gs rfl ?_
    refine gs rfl ?_
    refine gs rfl ?_
    refine gs rfl ?_
    refine gs rfl ?_
    refine and_2 rfl (vin rfl) ?_
    refine gs rfl ?_
    refine gs rfl ?_
    refine gs rfl ?_
    refine and_3 (Nat.le_of_ble_eq_true rfl) rfl (vin rfl) ?_
    refine gs rfl ?_
    refine gs rfl ?_
    refine gs rfl ?_
    refine gs rfl ?_
    refine and_i rfl ?_
    refine gs rfl ?_
    refine and_i rfl ?_
    refine FRg rfl (fun f => ?_)
    refine gs rfl ?_
    refine gs rfl ?_
    refine gs rfl ?_
    refine gs rfl ?_
    refine gs rfl ?_
    refine gs rfl ?_
    refine and_2 rfl (vin rfl) ?_
    refine gs rfl ?_
    refine gs rfl ?_
    refine gs rfl ?_
    refine gs rfl ?_
    refine gs rfl ?_
    refine and_2 rfl (vin rfl) ?_
    refine gs rfl ?_
    refine and_i (Nat.le_of_ble_eq_true rfl) (cl0 (Nat.le_of_ble_eq_true rfl) (and_i (Nat.le_of_ble_eq_true rfl) ?_))
    refine gs rfl ?_
    refine gs rfl ?_
    refine gs rfl ?_
    refine and_i (Nat.le_of_ble_eq_true rfl) (cl0 (Nat.le_of_ble_eq_true rfl) (and_i (Nat.le_of_ble_eq_true rfl) ?_))
    refine gs rfl ?_
    refine gs rfl ?_
    refine gs rfl ?_
    refine gs rfl ?_
    refine gs rfl ?_
    refine gs rfl ?_
    refine and_2 rfl (vin rfl) ?_
    refine gs rfl ?_
    refine gs rfl ?_
    refine gs rfl ?_
    refine and_i (Nat.le_of_ble_eq_true rfl) (cl0 (Nat.le_of_ble_eq_true rfl) (and_i (Nat.le_of_ble_eq_true rfl) ?_))
    refine gs rfl ?_
    refine gs rfl ?_
    refine gs rfl ?_
    refine ifF ((fun q => absurd ((lt_k (a := (s1).toInt) (b := 0) (by rfl) (by rfl)).mp q) (by omega))) ?_
    refine gs rfl ?_
    refine gs rfl ?_
    refine gs rfl ?_
    refine ifT ((lt_k (a := (-1)) (b := (s1).toInt) (by rfl) (by rfl)).mpr (by omega)) ?_
    refine gs rfl ?_
    refine gs rfl ?_
    refine and_2 rfl (Or.inl rfl) ?_
    refine gs rfl ?_
    refine and_2 rfl (Or.inl rfl) ?_
    refine gs rfl ?_
    refine gs rfl ?_
    refine gs rfl ?_
    refine gs rfl ?_
    refine and_i (Nat.le_of_ble_eq_true rfl) (cl0 (Nat.le_of_ble_eq_true rfl) (and_i (Nat.le_of_ble_eq_true rfl) ?_))
    refine gs rfl ?_
    refine gs rfl ?_
    refine gs rfl ?_
    refine gs rfl ?_
    refine gs rfl ?_
    refine gs rfl ?_
    refine gs rfl ?_
    refine and_2 rfl (vin rfl) ?_
    refine gs rfl ?_
    refine gs rfl ?_
    refine gs rfl ?_
    refine and_3 (Nat.le_of_ble_eq_true rfl) rfl (vin rfl) ?_
    refine gs rfl ?_
    refine gs rfl ?_
    refine and_i rfl ?_
    refine gs rfl ?_
    refine and_i rfl ?_
    refine gs rfl ?_
    refine gs rfl ?_
    refine gs rfl ?_
    refine gs rfl ?_
    refine gs rfl ?_
    refine gs rfl ?_
    refine and_i (Or.inl rfl) ?_
    refine gwst (congrArg (fun z => Value.int z :: _) (alen_k (n := 6) (by rfl))) ?_
    refine gs rfl ?_
    refine gs rfl ?_
    refine gs rfl ?_
    refine gs rfl ?_
    refine gs rfl ?_
    refine and_2 rfl (Or.inr rfl) ?_
    exact rfl
