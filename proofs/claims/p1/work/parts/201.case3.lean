/-! THE LAW'S CASES 3, 4, over two new objects -/
set_option maxRecDepth 20000 in
set_option maxHeartbeats 40000000 in
theorem lc_3 {s0 s1 s2 s3 s4 s5 : Int32} {d mc ms : Nat} : gw [s0, s1, s2, s3, s4, s5] (WP [s0, s1, s2, s3, s4, s5] (d + 20)) 190 (fun r _ => r = some (.int 1)) 287 [some (.ref 0), some (.ref 32), some (.ref 89), some (.int 0)] [] (hX0 ++ hM0) mc ms := by
  refine gs rfl ?_
  refine gs rfl ?_
  refine gs rfl ?_
  refine gs rfl ?_
  refine gs rfl ?_
  refine gs rfl ?_
  refine and_2 rfl (vin rfl) ?_
  refine gs rfl ?_
  refine gs rfl ?_
  refine gs rfl ?_
  refine gs rfl ?_
  refine gs rfl ?_
  refine and_2 rfl (vin rfl) ?_
  refine gs rfl ?_
  refine gs rfl ?_
  refine gs rfl ?_
  refine gs rfl ?_
  refine gs rfl ?_
  refine and_2 rfl (vin rfl) ?_
  refine gs rfl ?_
  refine and_i (Nat.le_of_ble_eq_true rfl) (cl0 (Nat.le_of_ble_eq_true rfl) (and_i (Nat.le_of_ble_eq_true rfl) ?_))
  refine gs rfl ?_
  refine gs rfl ?_
  refine gs rfl ?_
  refine and_i (Nat.le_of_ble_eq_true rfl) (cl0 (Nat.le_of_ble_eq_true rfl) (and_i (Nat.le_of_ble_eq_true rfl) ?_))
  refine gs rfl ?_
  refine gs rfl ?_
  refine ifs (fun c1 => ?_) (fun c1 => ?_)
  · have d2 : (s1).toInt < 0 := (lt_k (by rfl) (by rfl)).mp c1
    refine gs rfl ?_
    refine gs rfl ?_
    refine and_2 rfl (Or.inl rfl) ?_
    refine gs rfl ?_
    refine gs rfl ?_
    refine gs rfl ?_
    refine gs rfl ?_
    refine and_i (Nat.le_of_ble_eq_true rfl) (cl0 (Nat.le_of_ble_eq_true rfl) (and_i (Nat.le_of_ble_eq_true rfl) ?_))
    refine gs rfl ?_
    refine gs rfl ?_
    refine gs rfl ?_
    refine gs rfl ?_
    refine gs rfl ?_
    refine and_2 rfl (vin rfl) ?_
    refine gs rfl ?_
    refine gs rfl ?_
    refine gs rfl ?_
    refine and_3 (Nat.le_of_ble_eq_true rfl) rfl (vin rfl) ?_
    refine gs rfl ?_
    refine gs rfl ?_
    refine gs rfl ?_
    refine gs rfl ?_
    refine and_i rfl ?_
    refine gs rfl ?_
    refine and_i rfl ?_
    refine FRg rfl (fun f => ?_)
    refine gs rfl ?_
    refine gs rfl ?_
    refine gs rfl ?_
    refine gs rfl ?_
    refine gs rfl ?_
    refine gs rfl ?_
    refine and_2 rfl (vin rfl) ?_
    refine gs rfl ?_
    refine gs rfl ?_
    refine gs rfl ?_
    refine gs rfl ?_
    refine gs rfl ?_
    refine and_2 rfl (vin rfl) ?_
    refine gs rfl ?_
    refine gs rfl ?_
    refine gs rfl ?_
    refine gs rfl ?_
    refine gs rfl ?_
    refine and_2 rfl (vin rfl) ?_
    refine gs rfl ?_
    refine and_i (Nat.le_of_ble_eq_true rfl) (cl0 (Nat.le_of_ble_eq_true rfl) (and_i (Nat.le_of_ble_eq_true rfl) ?_))
    refine gs rfl ?_
    refine gs rfl ?_
    refine gs rfl ?_
    refine gs rfl ?_
    refine and_i (Nat.le_of_ble_eq_true rfl) (cl0 (Nat.le_of_ble_eq_true rfl) (and_i (Nat.le_of_ble_eq_true rfl) ?_))
    refine gs rfl ?_
    refine gs rfl ?_
    refine gs rfl ?_
    refine ifT ((lt_k (a := (s1).toInt) (b := 0) (by rfl) (by rfl)).mpr (by omega)) ?_
    refine gs rfl ?_
    refine gs rfl ?_
    refine and_2 rfl (Or.inl rfl) ?_
    refine gs rfl ?_
    refine gs rfl ?_
    refine gs rfl ?_
    refine gs rfl ?_
    refine and_i (Nat.le_of_ble_eq_true rfl) (cl0 (Nat.le_of_ble_eq_true rfl) (and_i (Nat.le_of_ble_eq_true rfl) ?_))
    refine gs rfl ?_
    refine gs rfl ?_
    refine gs rfl ?_
    refine gs rfl ?_
    refine gs rfl ?_
    refine gs rfl ?_
    refine gs rfl ?_
    refine and_2 rfl (vin rfl) ?_
    refine gs rfl ?_
    refine gs rfl ?_
    refine gs rfl ?_
    refine and_3 (Nat.le_of_ble_eq_true rfl) rfl (vin rfl) ?_
    refine gs rfl ?_
    refine gs rfl ?_
    refine and_i rfl ?_
    refine gs rfl ?_
    refine and_i rfl ?_
    refine gs rfl ?_
    refine gs rfl ?_
    refine gs rfl ?_
    refine gs rfl ?_
    refine gs rfl ?_
    refine gs rfl ?_
    refine and_i (Or.inl rfl) ?_
    refine gwst (congrArg (fun z => Value.int z :: _) (alen_k (n := 6) (by rfl))) ?_
    refine gs rfl ?_
    refine gs rfl ?_
    refine gs rfl ?_
    refine gs rfl ?_
    refine gs rfl ?_
    refine and_2 rfl (Or.inr rfl) ?_
    exact rfl
  · have d2 : ¬ ((s1).toInt < 0) := fun q => c1 ((lt_k (by rfl) (by rfl)).mpr q)
    refine gs rfl ?_
    refine gs rfl ?_
    refine gs rfl ?_
    refine ifs (fun c3 => ?_) (fun c3 => ?_)
    · have d4 : 69 < (s1).toInt := (lt_k (by rfl) (by rfl)).mp c3
      refine gs rfl ?_
      refine gs rfl ?_
      refine and_2 rfl (Or.inl rfl) ?_
      refine gs rfl ?_
      refine gs rfl ?_
      refine gs rfl ?_
      refine gs rfl ?_
      refine and_i (Nat.le_of_ble_eq_true rfl) (cl0 (Nat.le_of_ble_eq_true rfl) (and_i (Nat.le_of_ble_eq_true rfl) ?_))
      refine gs rfl ?_
      refine gs rfl ?_
      refine gs rfl ?_
      refine gs rfl ?_
      refine gs rfl ?_
      refine and_2 rfl (vin rfl) ?_
      refine gs rfl ?_
      refine gs rfl ?_
      refine gs rfl ?_
      refine and_3 (Nat.le_of_ble_eq_true rfl) rfl (vin rfl) ?_
      refine gs rfl ?_
      refine gs rfl ?_
      refine gs rfl ?_
      refine gs rfl ?_
      refine and_i rfl ?_
      refine gs rfl ?_
      refine and_i rfl ?_
      refine FRg rfl (fun f => ?_)
      refine gs rfl ?_
      refine gs rfl ?_
      refine gs rfl ?_
      refine gs rfl ?_
      refine gs rfl ?_
      refine gs rfl ?_
      refine and_2 rfl (vin rfl) ?_
      refine gs rfl ?_
      refine gs rfl ?_
      refine gs rfl ?_
      refine gs rfl ?_
      refine gs rfl ?_
      refine and_2 rfl (vin rfl) ?_
      refine gs rfl ?_
      refine gs rfl ?_
      refine gs rfl ?_
      refine gs rfl ?_
      refine gs rfl ?_
      refine and_2 rfl (vin rfl) ?_
      refine gs rfl ?_
      refine and_i (Nat.le_of_ble_eq_true rfl) (cl0 (Nat.le_of_ble_eq_true rfl) (and_i (Nat.le_of_ble_eq_true rfl) ?_))
      refine gs rfl ?_
      refine gs rfl ?_
      refine gs rfl ?_
      refine gs rfl ?_
      refine and_i (Nat.le_of_ble_eq_true rfl) (cl0 (Nat.le_of_ble_eq_true rfl) (and_i (Nat.le_of_ble_eq_true rfl) ?_))
      refine gs rfl ?_
      refine gs rfl ?_
      refine gs rfl ?_
      refine ifF ((fun q => absurd ((lt_k (a := (s1).toInt) (b := 0) (by rfl) (by rfl)).mp q) (by omega))) ?_
      refine gs rfl ?_
      refine gs rfl ?_
      refine gs rfl ?_
      refine ifT ((lt_k (a := 69) (b := (s1).toInt) (by rfl) (by rfl)).mpr (by omega)) ?_
      refine gs rfl ?_
      refine gs rfl ?_
      refine and_2 rfl (Or.inl rfl) ?_
      refine gs rfl ?_
      refine gs rfl ?_
      refine gs rfl ?_
      refine gs rfl ?_
      refine and_i (Nat.le_of_ble_eq_true rfl) (cl0 (Nat.le_of_ble_eq_true rfl) (and_i (Nat.le_of_ble_eq_true rfl) ?_))
      refine gs rfl ?_
      refine gs rfl ?_
      refine gs rfl ?_
      refine gs rfl ?_
      refine gs rfl ?_
      refine gs rfl ?_
      refine gs rfl ?_
      refine and_2 rfl (vin rfl) ?_
      refine gs rfl ?_
      refine gs rfl ?_
      refine gs rfl ?_
      refine and_3 (Nat.le_of_ble_eq_true rfl) rfl (vin rfl) ?_
      refine gs rfl ?_
      refine gs rfl ?_
      refine and_i rfl ?_
      refine gs rfl ?_
      refine and_i rfl ?_
      refine gs rfl ?_
      refine gs rfl ?_
      refine gs rfl ?_
      refine gs rfl ?_
      refine gs rfl ?_
      refine gs rfl ?_
      refine and_i (Or.inl rfl) ?_
      refine gwst (congrArg (fun z => Value.int z :: _) (alen_k (n := 6) (by rfl))) ?_
      refine gs rfl ?_
      refine gs rfl ?_
      refine gs rfl ?_
      refine gs rfl ?_
      refine gs rfl ?_
      refine and_2 rfl (Or.inr rfl) ?_
      exact rfl
    · have d4 : ¬ (69 < (s1).toInt) := fun q => c3 ((lt_k (by rfl) (by rfl)).mpr q)
      refine gs rfl ?_
      refine gs rfl ?_
      refine gs rfl ?_
      refine and_2 rfl (Or.inr rfl) ?_
      refine gs rfl ?_
      refine gs rfl ?_
      refine gs rfl ?_
      refine gs rfl ?_
      refine and_i (Nat.le_of_ble_eq_true rfl) (cl0 (Nat.le_of_ble_eq_true rfl) (and_i (Nat.le_of_ble_eq_true rfl) ?_))
      refine gs rfl ?_
      refine gs rfl ?_
      refine ifs (fun c5 => ?_) (fun c5 => ?_)
      · have d6 : (s2).toInt < 0 := (lt_k (by rfl) (by rfl)).mp c5
        refine gs rfl ?_
        refine gs rfl ?_
        refine and_2 rfl (Or.inl rfl) ?_
        refine gs rfl ?_
        refine gs rfl ?_
        refine gs rfl ?_
        refine gs rfl ?_
        refine and_i (Nat.le_of_ble_eq_true rfl) (cl0 (Nat.le_of_ble_eq_true rfl) (and_i (Nat.le_of_ble_eq_true rfl) ?_))
        refine gs rfl ?_
        refine gs rfl ?_
        refine gs rfl ?_
        refine gs rfl ?_
        refine gs rfl ?_
        refine and_2 rfl (vin rfl) ?_
        refine gs rfl ?_
        refine gs rfl ?_
        refine gs rfl ?_
        refine and_3 (Nat.le_of_ble_eq_true rfl) rfl (vin rfl) ?_
        refine gs rfl ?_
        refine gs rfl ?_
        refine gs rfl ?_
        refine gs rfl ?_
        refine and_i rfl ?_
        refine gs rfl ?_
        refine and_i rfl ?_
        refine FRg rfl (fun f => ?_)
        refine gs rfl ?_
        refine gs rfl ?_
        refine gs rfl ?_
        refine gs rfl ?_
        refine gs rfl ?_
        refine gs rfl ?_
        refine and_2 rfl (vin rfl) ?_
        refine gs rfl ?_
        refine gs rfl ?_
        refine gs rfl ?_
        refine gs rfl ?_
        refine gs rfl ?_
        refine and_2 rfl (vin rfl) ?_
        refine gs rfl ?_
        refine gs rfl ?_
        refine gs rfl ?_
        refine gs rfl ?_
        refine gs rfl ?_
        refine and_2 rfl (vin rfl) ?_
        refine gs rfl ?_
        refine and_i (Nat.le_of_ble_eq_true rfl) (cl0 (Nat.le_of_ble_eq_true rfl) (and_i (Nat.le_of_ble_eq_true rfl) ?_))
        refine gs rfl ?_
        refine gs rfl ?_
        refine gs rfl ?_
        refine gs rfl ?_
        refine and_i (Nat.le_of_ble_eq_true rfl) (cl0 (Nat.le_of_ble_eq_true rfl) (and_i (Nat.le_of_ble_eq_true rfl) ?_))
        refine gs rfl ?_
        refine gs rfl ?_
        refine gs rfl ?_
        refine ifF ((fun q => absurd ((lt_k (a := (s1).toInt) (b := 0) (by rfl) (by rfl)).mp q) (by omega))) ?_
        refine gs rfl ?_
        refine gs rfl ?_
        refine gs rfl ?_
        refine ifF ((fun q => absurd ((lt_k (a := 69) (b := (s1).toInt) (by rfl) (by rfl)).mp q) (by omega))) ?_
        refine gs rfl ?_
        refine gs rfl ?_
        refine gs rfl ?_
        refine and_2 rfl (Or.inr rfl) ?_
        refine gs rfl ?_
        refine gs rfl ?_
        refine gs rfl ?_
        refine gs rfl ?_
        refine gs rfl ?_
        refine and_i (Nat.le_of_ble_eq_true rfl) (cl0 (Nat.le_of_ble_eq_true rfl) (and_i (Nat.le_of_ble_eq_true rfl) ?_))
        refine gs rfl ?_
        refine gs rfl ?_
        refine gs rfl ?_
        refine ifT ((lt_k (a := (s2).toInt) (b := 0) (by rfl) (by rfl)).mpr (by omega)) ?_
        refine gs rfl ?_
        refine gs rfl ?_
        refine and_2 rfl (Or.inl rfl) ?_
        refine gs rfl ?_
        refine gs rfl ?_
        refine gs rfl ?_
        refine gs rfl ?_
        refine and_i (Nat.le_of_ble_eq_true rfl) (cl0 (Nat.le_of_ble_eq_true rfl) (and_i (Nat.le_of_ble_eq_true rfl) ?_))
        refine gs rfl ?_
        refine gs rfl ?_
        refine gs rfl ?_
        refine gs rfl ?_
        refine gs rfl ?_
        refine gs rfl ?_
        refine gs rfl ?_
        refine and_2 rfl (vin rfl) ?_
        refine gs rfl ?_
        refine gs rfl ?_
        refine gs rfl ?_
        refine and_3 (Nat.le_of_ble_eq_true rfl) rfl (vin rfl) ?_
        refine gs rfl ?_
        refine gs rfl ?_
        refine and_i rfl ?_
        refine gs rfl ?_
        refine and_i rfl ?_
        refine gs rfl ?_
        refine gs rfl ?_
        refine gs rfl ?_
        refine gs rfl ?_
        refine gs rfl ?_
        refine gs rfl ?_
        refine and_i (Or.inl rfl) ?_
        refine gwst (congrArg (fun z => Value.int z :: _) (alen_k (n := 6) (by rfl))) ?_
        refine gs rfl ?_
        refine gs rfl ?_
        refine gs rfl ?_
        refine gs rfl ?_
        refine gs rfl ?_
        refine and_2 rfl (Or.inr rfl) ?_
        exact rfl
      · have d6 : ¬ ((s2).toInt < 0) := fun q => c5 ((lt_k (by rfl) (by rfl)).mpr q)
        refine gs rfl ?_
        refine gs rfl ?_
        refine gs rfl ?_
        refine ifs (fun c7 => ?_) (fun c7 => ?_)
        · have d8 : 99 < (s2).toInt := (lt_k (by rfl) (by rfl)).mp c7
          refine gs rfl ?_
          refine gs rfl ?_
          refine and_2 rfl (Or.inl rfl) ?_
          refine gs rfl ?_
          refine gs rfl ?_
          refine gs rfl ?_
          refine gs rfl ?_
          refine and_i (Nat.le_of_ble_eq_true rfl) (cl0 (Nat.le_of_ble_eq_true rfl) (and_i (Nat.le_of_ble_eq_true rfl) ?_))
          refine gs rfl ?_
          refine gs rfl ?_
          refine gs rfl ?_
          refine gs rfl ?_
          refine gs rfl ?_
          refine and_2 rfl (vin rfl) ?_
          refine gs rfl ?_
          refine gs rfl ?_
          refine gs rfl ?_
          refine and_3 (Nat.le_of_ble_eq_true rfl) rfl (vin rfl) ?_
          refine gs rfl ?_
          refine gs rfl ?_
          refine gs rfl ?_
          refine gs rfl ?_
          refine and_i rfl ?_
          refine gs rfl ?_
          refine and_i rfl ?_
          refine FRg rfl (fun f => ?_)
          refine gs rfl ?_
          refine gs rfl ?_
          refine gs rfl ?_
          refine gs rfl ?_
          refine gs rfl ?_
          refine gs rfl ?_
          refine and_2 rfl (vin rfl) ?_
          refine gs rfl ?_
          refine gs rfl ?_
          refine gs rfl ?_
          refine gs rfl ?_
          refine gs rfl ?_
          refine and_2 rfl (vin rfl) ?_
          refine gs rfl ?_
          refine gs rfl ?_
          refine gs rfl ?_
          refine gs rfl ?_
          refine gs rfl ?_
          refine and_2 rfl (vin rfl) ?_
          refine gs rfl ?_
          refine and_i (Nat.le_of_ble_eq_true rfl) (cl0 (Nat.le_of_ble_eq_true rfl) (and_i (Nat.le_of_ble_eq_true rfl) ?_))
          refine gs rfl ?_
          refine gs rfl ?_
          refine gs rfl ?_
          refine gs rfl ?_
          refine and_i (Nat.le_of_ble_eq_true rfl) (cl0 (Nat.le_of_ble_eq_true rfl) (and_i (Nat.le_of_ble_eq_true rfl) ?_))
          refine gs rfl ?_
          refine gs rfl ?_
          refine gs rfl ?_
          refine ifF ((fun q => absurd ((lt_k (a := (s1).toInt) (b := 0) (by rfl) (by rfl)).mp q) (by omega))) ?_
          refine gs rfl ?_
          refine gs rfl ?_
          refine gs rfl ?_
          refine ifF ((fun q => absurd ((lt_k (a := 69) (b := (s1).toInt) (by rfl) (by rfl)).mp q) (by omega))) ?_
          refine gs rfl ?_
          refine gs rfl ?_
          refine gs rfl ?_
          refine and_2 rfl (Or.inr rfl) ?_
          refine gs rfl ?_
          refine gs rfl ?_
          refine gs rfl ?_
          refine gs rfl ?_
          refine gs rfl ?_
          refine and_i (Nat.le_of_ble_eq_true rfl) (cl0 (Nat.le_of_ble_eq_true rfl) (and_i (Nat.le_of_ble_eq_true rfl) ?_))
          refine gs rfl ?_
          refine gs rfl ?_
          refine gs rfl ?_
          refine ifF ((fun q => absurd ((lt_k (a := (s2).toInt) (b := 0) (by rfl) (by rfl)).mp q) (by omega))) ?_
          refine gs rfl ?_
          refine gs rfl ?_
          refine gs rfl ?_
          refine ifT ((lt_k (a := 99) (b := (s2).toInt) (by rfl) (by rfl)).mpr (by omega)) ?_
          refine gs rfl ?_
          refine gs rfl ?_
          refine and_2 rfl (Or.inl rfl) ?_
          refine gs rfl ?_
          refine gs rfl ?_
          refine gs rfl ?_
          refine gs rfl ?_
          refine and_i (Nat.le_of_ble_eq_true rfl) (cl0 (Nat.le_of_ble_eq_true rfl) (and_i (Nat.le_of_ble_eq_true rfl) ?_))
          refine gs rfl ?_
          refine gs rfl ?_
          refine gs rfl ?_
          refine gs rfl ?_
          refine gs rfl ?_
          refine gs rfl ?_
          refine gs rfl ?_
          refine and_2 rfl (vin rfl) ?_
          refine gs rfl ?_
          refine gs rfl ?_
          refine gs rfl ?_
          refine and_3 (Nat.le_of_ble_eq_true rfl) rfl (vin rfl) ?_
          refine gs rfl ?_
          refine gs rfl ?_
          refine and_i rfl ?_
          refine gs rfl ?_
          refine and_i rfl ?_
          refine gs rfl ?_
          refine gs rfl ?_
          refine gs rfl ?_
          refine gs rfl ?_
          refine gs rfl ?_
          refine gs rfl ?_
          refine and_i (Or.inl rfl) ?_
          refine gwst (congrArg (fun z => Value.int z :: _) (alen_k (n := 6) (by rfl))) ?_
          refine gs rfl ?_
          refine gs rfl ?_
          refine gs rfl ?_
          refine gs rfl ?_
          refine gs rfl ?_
          refine and_2 rfl (Or.inr rfl) ?_
          exact rfl
        · have d8 : ¬ (99 < (s2).toInt) := fun q => c7 ((lt_k (by rfl) (by rfl)).mpr q)
          refine gs rfl ?_
          refine gs rfl ?_
          refine gs rfl ?_
          refine and_2 rfl (Or.inr rfl) ?_
          refine gs rfl ?_
          refine gs rfl ?_
          refine gs rfl ?_
          refine gs rfl ?_
          refine and_i (Nat.le_of_ble_eq_true rfl) (cl0 (Nat.le_of_ble_eq_true rfl) (and_i (Nat.le_of_ble_eq_true rfl) ?_))
          refine gs rfl ?_
          refine gs rfl ?_
          refine ifs (fun c9 => ?_) (fun c9 => ?_)
          · have d10 : (s3).toInt < 0 := (lt_k (by rfl) (by rfl)).mp c9
            refine gs rfl ?_
            refine gs rfl ?_
            refine and_2 rfl (Or.inl rfl) ?_
            refine gs rfl ?_
            refine gs rfl ?_
            refine gs rfl ?_
            refine gs rfl ?_
            refine and_i (Nat.le_of_ble_eq_true rfl) (cl0 (Nat.le_of_ble_eq_true rfl) (and_i (Nat.le_of_ble_eq_true rfl) ?_))
            refine gs rfl ?_
            refine gs rfl ?_
            refine gs rfl ?_
            refine gs rfl ?_
            refine gs rfl ?_
            refine and_2 rfl (vin rfl) ?_
            refine gs rfl ?_
            refine gs rfl ?_
            refine gs rfl ?_
            refine and_3 (Nat.le_of_ble_eq_true rfl) rfl (vin rfl) ?_
            refine gs rfl ?_
            refine gs rfl ?_
            refine gs rfl ?_
            refine gs rfl ?_
            refine and_i rfl ?_
            refine gs rfl ?_
            refine and_i rfl ?_
            refine FRg rfl (fun f => ?_)
            refine gs rfl ?_
            refine gs rfl ?_
            refine gs rfl ?_
            refine gs rfl ?_
            refine gs rfl ?_
            refine gs rfl ?_
            refine and_2 rfl (vin rfl) ?_
            refine gs rfl ?_
            refine gs rfl ?_
            refine gs rfl ?_
            refine gs rfl ?_
            refine gs rfl ?_
            refine and_2 rfl (vin rfl) ?_
            refine gs rfl ?_
            refine gs rfl ?_
            refine gs rfl ?_
            refine gs rfl ?_
            refine gs rfl ?_
            refine and_2 rfl (vin rfl) ?_
            refine gs rfl ?_
            refine and_i (Nat.le_of_ble_eq_true rfl) (cl0 (Nat.le_of_ble_eq_true rfl) (and_i (Nat.le_of_ble_eq_true rfl) ?_))
            refine gs rfl ?_
            refine gs rfl ?_
            refine gs rfl ?_
            refine gs rfl ?_
            refine and_i (Nat.le_of_ble_eq_true rfl) (cl0 (Nat.le_of_ble_eq_true rfl) (and_i (Nat.le_of_ble_eq_true rfl) ?_))
            refine gs rfl ?_
            refine gs rfl ?_
            refine gs rfl ?_
            refine ifF ((fun q => absurd ((lt_k (a := (s1).toInt) (b := 0) (by rfl) (by rfl)).mp q) (by omega))) ?_
            refine gs rfl ?_
            refine gs rfl ?_
            refine gs rfl ?_
            refine ifF ((fun q => absurd ((lt_k (a := 69) (b := (s1).toInt) (by rfl) (by rfl)).mp q) (by omega))) ?_
            refine gs rfl ?_
            refine gs rfl ?_
            refine gs rfl ?_
            refine and_2 rfl (Or.inr rfl) ?_
            refine gs rfl ?_
            refine gs rfl ?_
            refine gs rfl ?_
            refine gs rfl ?_
            refine gs rfl ?_
            refine and_i (Nat.le_of_ble_eq_true rfl) (cl0 (Nat.le_of_ble_eq_true rfl) (and_i (Nat.le_of_ble_eq_true rfl) ?_))
            refine gs rfl ?_
            refine gs rfl ?_
            refine gs rfl ?_
            refine ifF ((fun q => absurd ((lt_k (a := (s2).toInt) (b := 0) (by rfl) (by rfl)).mp q) (by omega))) ?_
            refine gs rfl ?_
            refine gs rfl ?_
            refine gs rfl ?_
            refine ifF ((fun q => absurd ((lt_k (a := 99) (b := (s2).toInt) (by rfl) (by rfl)).mp q) (by omega))) ?_
            refine gs rfl ?_
            refine gs rfl ?_
            refine gs rfl ?_
            refine and_2 rfl (Or.inr rfl) ?_
            refine gs rfl ?_
            refine gs rfl ?_
            refine gs rfl ?_
            refine gs rfl ?_
            refine gs rfl ?_
            refine and_i (Nat.le_of_ble_eq_true rfl) (cl0 (Nat.le_of_ble_eq_true rfl) (and_i (Nat.le_of_ble_eq_true rfl) ?_))
            refine gs rfl ?_
            refine gs rfl ?_
            refine gs rfl ?_
            refine ifT ((lt_k (a := (s3).toInt) (b := 0) (by rfl) (by rfl)).mpr (by omega)) ?_
            refine gs rfl ?_
            refine gs rfl ?_
            refine and_2 rfl (Or.inl rfl) ?_
            refine gs rfl ?_
            refine gs rfl ?_
            refine gs rfl ?_
            refine gs rfl ?_
            refine and_i (Nat.le_of_ble_eq_true rfl) (cl0 (Nat.le_of_ble_eq_true rfl) (and_i (Nat.le_of_ble_eq_true rfl) ?_))
            refine gs rfl ?_
            refine gs rfl ?_
            refine gs rfl ?_
            refine gs rfl ?_
            refine gs rfl ?_
            refine gs rfl ?_
            refine gs rfl ?_
            refine and_2 rfl (vin rfl) ?_
            refine gs rfl ?_
            refine gs rfl ?_
            refine gs rfl ?_
            refine and_3 (Nat.le_of_ble_eq_true rfl) rfl (vin rfl) ?_
            refine gs rfl ?_
            refine gs rfl ?_
            refine and_i rfl ?_
            refine gs rfl ?_
            refine and_i rfl ?_
            refine gs rfl ?_
            refine gs rfl ?_
            refine gs rfl ?_
            refine gs rfl ?_
            refine gs rfl ?_
            refine gs rfl ?_
            refine and_i (Or.inl rfl) ?_
            refine gwst (congrArg (fun z => Value.int z :: _) (alen_k (n := 6) (by rfl))) ?_
            refine gs rfl ?_
            refine gs rfl ?_
            refine gs rfl ?_
            refine gs rfl ?_
            refine gs rfl ?_
            refine and_2 rfl (Or.inr rfl) ?_
            exact rfl
          · have d10 : ¬ ((s3).toInt < 0) := fun q => c9 ((lt_k (by rfl) (by rfl)).mpr q)
            refine gs rfl ?_
            refine gs rfl ?_
            refine gs rfl ?_
            refine ifs (fun c11 => ?_) (fun c11 => ?_)
            · have d12 : 9 < (s3).toInt := (lt_k (by rfl) (by rfl)).mp c11
              refine gs rfl ?_
              refine gs rfl ?_
              refine and_2 rfl (Or.inl rfl) ?_
              refine gs rfl ?_
              refine gs rfl ?_
              refine gs rfl ?_
              refine gs rfl ?_
              refine and_i (Nat.le_of_ble_eq_true rfl) (cl0 (Nat.le_of_ble_eq_true rfl) (and_i (Nat.le_of_ble_eq_true rfl) ?_))
              refine gs rfl ?_
              refine gs rfl ?_
              refine gs rfl ?_
              refine gs rfl ?_
              refine gs rfl ?_
              refine and_2 rfl (vin rfl) ?_
              refine gs rfl ?_
              refine gs rfl ?_
              refine gs rfl ?_
              refine and_3 (Nat.le_of_ble_eq_true rfl) rfl (vin rfl) ?_
              refine gs rfl ?_
              refine gs rfl ?_
              refine gs rfl ?_
              refine gs rfl ?_
              refine and_i rfl ?_
              refine gs rfl ?_
              refine and_i rfl ?_
              refine FRg rfl (fun f => ?_)
              refine gs rfl ?_
              refine gs rfl ?_
              refine gs rfl ?_
              refine gs rfl ?_
              refine gs rfl ?_
              refine gs rfl ?_
              refine and_2 rfl (vin rfl) ?_
              refine gs rfl ?_
              refine gs rfl ?_
              refine gs rfl ?_
              refine gs rfl ?_
              refine gs rfl ?_
              refine and_2 rfl (vin rfl) ?_
              refine gs rfl ?_
              refine gs rfl ?_
              refine gs rfl ?_
              refine gs rfl ?_
              refine gs rfl ?_
              refine and_2 rfl (vin rfl) ?_
              refine gs rfl ?_
              refine and_i (Nat.le_of_ble_eq_true rfl) (cl0 (Nat.le_of_ble_eq_true rfl) (and_i (Nat.le_of_ble_eq_true rfl) ?_))
              refine gs rfl ?_
              refine gs rfl ?_
              refine gs rfl ?_
              refine gs rfl ?_
              refine and_i (Nat.le_of_ble_eq_true rfl) (cl0 (Nat.le_of_ble_eq_true rfl) (and_i (Nat.le_of_ble_eq_true rfl) ?_))
              refine gs rfl ?_
              refine gs rfl ?_
              refine gs rfl ?_
              refine ifF ((fun q => absurd ((lt_k (a := (s1).toInt) (b := 0) (by rfl) (by rfl)).mp q) (by omega))) ?_
              refine gs rfl ?_
              refine gs rfl ?_
              refine gs rfl ?_
              refine ifF ((fun q => absurd ((lt_k (a := 69) (b := (s1).toInt) (by rfl) (by rfl)).mp q) (by omega))) ?_
              refine gs rfl ?_
              refine gs rfl ?_
              refine gs rfl ?_
              refine and_2 rfl (Or.inr rfl) ?_
              refine gs rfl ?_
              refine gs rfl ?_
              refine gs rfl ?_
              refine gs rfl ?_
              refine gs rfl ?_
              refine and_i (Nat.le_of_ble_eq_true rfl) (cl0 (Nat.le_of_ble_eq_true rfl) (and_i (Nat.le_of_ble_eq_true rfl) ?_))
              refine gs rfl ?_
              refine gs rfl ?_
              refine gs rfl ?_
              refine ifF ((fun q => absurd ((lt_k (a := (s2).toInt) (b := 0) (by rfl) (by rfl)).mp q) (by omega))) ?_
              refine gs rfl ?_
              refine gs rfl ?_
              refine gs rfl ?_
              refine ifF ((fun q => absurd ((lt_k (a := 99) (b := (s2).toInt) (by rfl) (by rfl)).mp q) (by omega))) ?_
              refine gs rfl ?_
              refine gs rfl ?_
              refine gs rfl ?_
              refine and_2 rfl (Or.inr rfl) ?_
              refine gs rfl ?_
              refine gs rfl ?_
              refine gs rfl ?_
              refine gs rfl ?_
              refine gs rfl ?_
              refine and_i (Nat.le_of_ble_eq_true rfl) (cl0 (Nat.le_of_ble_eq_true rfl) (and_i (Nat.le_of_ble_eq_true rfl) ?_))
              refine gs rfl ?_
              refine gs rfl ?_
              refine gs rfl ?_
              refine ifF ((fun q => absurd ((lt_k (a := (s3).toInt) (b := 0) (by rfl) (by rfl)).mp q) (by omega))) ?_
              refine gs rfl ?_
              refine gs rfl ?_
              refine gs rfl ?_
              refine ifT ((lt_k (a := 9) (b := (s3).toInt) (by rfl) (by rfl)).mpr (by omega)) ?_
              refine gs rfl ?_
              refine gs rfl ?_
              refine and_2 rfl (Or.inl rfl) ?_
              refine gs rfl ?_
              refine gs rfl ?_
              refine gs rfl ?_
              refine gs rfl ?_
              refine and_i (Nat.le_of_ble_eq_true rfl) (cl0 (Nat.le_of_ble_eq_true rfl) (and_i (Nat.le_of_ble_eq_true rfl) ?_))
              refine gs rfl ?_
              refine gs rfl ?_
              refine gs rfl ?_
              refine gs rfl ?_
              refine gs rfl ?_
              refine gs rfl ?_
              refine gs rfl ?_
              refine and_2 rfl (vin rfl) ?_
              refine gs rfl ?_
              refine gs rfl ?_
              refine gs rfl ?_
              refine and_3 (Nat.le_of_ble_eq_true rfl) rfl (vin rfl) ?_
              refine gs rfl ?_
              refine gs rfl ?_
              refine and_i rfl ?_
              refine gs rfl ?_
              refine and_i rfl ?_
              refine gs rfl ?_
              refine gs rfl ?_
              refine gs rfl ?_
              refine gs rfl ?_
              refine gs rfl ?_
              refine gs rfl ?_
              refine and_i (Or.inl rfl) ?_
              refine gwst (congrArg (fun z => Value.int z :: _) (alen_k (n := 6) (by rfl))) ?_
              refine gs rfl ?_
              refine gs rfl ?_
              refine gs rfl ?_
              refine gs rfl ?_
              refine gs rfl ?_
              refine and_2 rfl (Or.inr rfl) ?_
              exact rfl
            · have d12 : ¬ (9 < (s3).toInt) := fun q => c11 ((lt_k (by rfl) (by rfl)).mpr q)
              refine gs rfl ?_
              refine gs rfl ?_
              refine gs rfl ?_
              refine and_2 rfl (Or.inr rfl) ?_
              refine gs rfl ?_
              refine gs rfl ?_
              refine gs rfl ?_
              refine gs rfl ?_
              refine gs rfl ?_
              refine gs rfl ?_
              refine gs rfl ?_
              refine gs rfl ?_
              refine gs rfl ?_
              refine gs rfl ?_
              refine gs rfl ?_
              refine gs rfl ?_
              refine gs rfl ?_
              refine gs rfl ?_
              refine gs rfl ?_
              refine gs rfl ?_
              refine gs rfl ?_
              refine and_i (by decide) ?_
              refine gs rfl ?_
              refine and_3 (Nat.le_of_ble_eq_true rfl) rfl (vin rfl) ?_
              refine gs rfl ?_
              refine gs rfl ?_
              refine gs rfl ?_
              refine gs rfl ?_
              refine gs rfl ?_
              refine gs rfl ?_
              refine gs rfl ?_
              refine and_i (by decide) ?_
              refine gs rfl ?_
              refine and_3 (Nat.le_of_ble_eq_true rfl) rfl (vin rfl) ?_
              refine gs rfl ?_
              refine gs rfl ?_
              refine gs rfl ?_
              refine gs rfl ?_
              refine gs rfl ?_
              refine gs rfl ?_
              refine and_3 (Nat.le_of_ble_eq_true rfl) rfl (vin rfl) ?_
              refine gs rfl ?_
              refine gs rfl ?_
              refine gs rfl ?_
              refine gs rfl ?_
              refine gs rfl ?_
              refine gs rfl ?_
              refine and_3 (Nat.le_of_ble_eq_true rfl) rfl (vin rfl) ?_
              refine gs rfl ?_
              refine gs rfl ?_
              refine gs rfl ?_
              refine gs rfl ?_
              refine gs rfl ?_
              refine gs rfl ?_
              refine and_3 (Nat.le_of_ble_eq_true rfl) rfl (vin rfl) ?_
              refine gs rfl ?_
              refine gs rfl ?_
              refine gs rfl ?_
              refine gs rfl ?_
              refine gs rfl ?_
              refine gs rfl ?_
              refine and_4 (Nat.le_of_ble_eq_true rfl) (Or.inl rfl) rfl (vin rfl) ?_
              refine gs rfl ?_
              refine gs rfl ?_
              refine gs rfl ?_
              refine gs rfl ?_
              refine gs rfl ?_
              refine gs rfl ?_
              refine and_3 (Nat.le_of_ble_eq_true rfl) (Nat.le_of_ble_eq_true rfl) trivial ?_
              refine gs rfl ?_
              refine gs rfl ?_
              refine and_i rfl ?_
              refine FRg rfl (fun f => ?_)
              refine gs rfl ?_
              refine gs rfl ?_
              refine gs rfl ?_
              refine gs rfl ?_
              refine gs rfl ?_
              refine gs rfl ?_
              refine and_2 rfl (vin rfl) ?_
              refine gs rfl ?_
              refine gs rfl ?_
              refine gs rfl ?_
              refine gs rfl ?_
              refine gs rfl ?_
              refine and_2 rfl (vin rfl) ?_
              refine gs rfl ?_
              refine gs rfl ?_
              refine gs rfl ?_
              refine gs rfl ?_
              refine gs rfl ?_
              refine and_2 rfl (vin rfl) ?_
              refine gs rfl ?_
              refine and_i (Nat.le_of_ble_eq_true rfl) (cl0 (Nat.le_of_ble_eq_true rfl) (and_i (Nat.le_of_ble_eq_true rfl) ?_))
              refine gs rfl ?_
              refine gs rfl ?_
              refine gs rfl ?_
              refine gs rfl ?_
              refine and_i (Nat.le_of_ble_eq_true rfl) (cl0 (Nat.le_of_ble_eq_true rfl) (and_i (Nat.le_of_ble_eq_true rfl) ?_))
              refine gs rfl ?_
              refine gs rfl ?_
              refine gs rfl ?_
              refine ifF ((fun q => absurd ((lt_k (a := (s1).toInt) (b := 0) (by rfl) (by rfl)).mp q) (by omega))) ?_
              refine gs rfl ?_
              refine gs rfl ?_
              refine gs rfl ?_
              refine ifF ((fun q => absurd ((lt_k (a := 69) (b := (s1).toInt) (by rfl) (by rfl)).mp q) (by omega))) ?_
              refine gs rfl ?_
              refine gs rfl ?_
              refine gs rfl ?_
              refine and_2 rfl (Or.inr rfl) ?_
              refine gs rfl ?_
              refine gs rfl ?_
              refine gs rfl ?_
              refine gs rfl ?_
              refine gs rfl ?_
              refine and_i (Nat.le_of_ble_eq_true rfl) (cl0 (Nat.le_of_ble_eq_true rfl) (and_i (Nat.le_of_ble_eq_true rfl) ?_))
              refine gs rfl ?_
              refine gs rfl ?_
              refine gs rfl ?_
              refine ifF ((fun q => absurd ((lt_k (a := (s2).toInt) (b := 0) (by rfl) (by rfl)).mp q) (by omega))) ?_
              refine gs rfl ?_
              refine gs rfl ?_
              refine gs rfl ?_
              refine ifF ((fun q => absurd ((lt_k (a := 99) (b := (s2).toInt) (by rfl) (by rfl)).mp q) (by omega))) ?_
              refine gs rfl ?_
              refine gs rfl ?_
              refine gs rfl ?_
              refine and_2 rfl (Or.inr rfl) ?_
              refine gs rfl ?_
              refine gs rfl ?_
              refine gs rfl ?_
              refine gs rfl ?_
              refine gs rfl ?_
              refine and_i (Nat.le_of_ble_eq_true rfl) (cl0 (Nat.le_of_ble_eq_true rfl) (and_i (Nat.le_of_ble_eq_true rfl) ?_))
              refine gs rfl ?_
              refine gs rfl ?_
              refine gs rfl ?_
              refine ifF ((fun q => absurd ((lt_k (a := (s3).toInt) (b := 0) (by rfl) (by rfl)).mp q) (by omega))) ?_
              refine gs rfl ?_
              refine gs rfl ?_
              refine gs rfl ?_
              refine ifF ((fun q => absurd ((lt_k (a := 9) (b := (s3).toInt) (by rfl) (by rfl)).mp q) (by omega))) ?_
              refine gs rfl ?_
              refine gs rfl ?_
              refine gs rfl ?_
              refine and_2 rfl (Or.inr rfl) ?_
              refine gs rfl ?_
              refine gs rfl ?_
              refine gs rfl ?_
              refine gs rfl ?_
              refine gs rfl ?_
              refine and_2 rfl (vin rfl) ?_
              refine gs rfl ?_
              refine gs rfl ?_
              refine gs rfl ?_
              refine gs rfl ?_
              refine gs rfl ?_
              refine gs rfl ?_
              refine and_2 rfl (vin rfl) ?_
              refine gs rfl ?_
              refine gs rfl ?_
              refine gs rfl ?_
              refine gs rfl ?_
              refine gs rfl ?_
              refine gs rfl ?_
              refine gs rfl ?_
              refine and_i (by decide) ?_
              refine gs rfl ?_
              refine and_i (Nat.le_of_ble_eq_true rfl) (cl0 (Nat.le_of_ble_eq_true rfl) (and_i (Nat.le_of_ble_eq_true rfl) ?_))
              refine gs rfl ?_
              refine gs rfl ?_
              refine gs rfl ?_
              refine gs rfl ?_
              refine gs rfl ?_
              refine gs rfl ?_
              refine gs rfl ?_
              refine gs rfl ?_
              refine gs rfl ?_
              refine gs rfl ?_
              refine gs rfl ?_
              refine and_3 (Nat.le_of_ble_eq_true rfl) rfl (vin rfl) ?_
              refine gs rfl ?_
              refine and_i rfl ?_
              refine gs rfl ?_
              refine gs rfl ?_
              refine gs rfl ?_
              refine gs rfl ?_
              refine gs rfl ?_
              refine gs rfl ?_
              refine and_i (by decide) ?_
              refine gs rfl ?_
              refine and_i (Nat.le_of_ble_eq_true rfl) (cl0 (Nat.le_of_ble_eq_true rfl) (and_i (Nat.le_of_ble_eq_true rfl) ?_))
              refine gs rfl ?_
              refine gs rfl ?_
              refine gs rfl ?_
              refine gs rfl ?_
              refine gs rfl ?_
              refine gs rfl ?_
              refine gs rfl ?_
              refine gs rfl ?_
              refine gs rfl ?_
              refine gs rfl ?_
              refine gs rfl ?_
              refine and_3 (Nat.le_of_ble_eq_true rfl) rfl (vin rfl) ?_
              refine gs rfl ?_
              refine and_i rfl ?_
              refine gs rfl ?_
              refine gs rfl ?_
              refine gs rfl ?_
              refine gs rfl ?_
              refine gs rfl ?_
              refine and_i (Nat.le_of_ble_eq_true rfl) (cl0 (Nat.le_of_ble_eq_true rfl) (and_i (Nat.le_of_ble_eq_true rfl) ?_))
              refine gs rfl ?_
              refine gs rfl ?_
              refine gs rfl ?_
              refine gs rfl ?_
              refine gs rfl ?_
              refine gs rfl ?_
              refine gs rfl ?_
              refine gs rfl ?_
              refine gs rfl ?_
              refine gs rfl ?_
              refine gs rfl ?_
              refine and_3 (Nat.le_of_ble_eq_true rfl) rfl (vin rfl) ?_
              refine gs rfl ?_
              refine and_i rfl ?_
              refine gs rfl ?_
              refine gs rfl ?_
              refine gs rfl ?_
              refine gs rfl ?_
              refine gs rfl ?_
              refine and_i (Nat.le_of_ble_eq_true rfl) (cl0 (Nat.le_of_ble_eq_true rfl) (and_i (Nat.le_of_ble_eq_true rfl) ?_))
              refine gs rfl ?_
              refine gs rfl ?_
              refine gs rfl ?_
              refine gs rfl ?_
              refine gs rfl ?_
              refine gs rfl ?_
              refine gs rfl ?_
              refine gs rfl ?_
              refine gs rfl ?_
              refine gs rfl ?_
              refine gs rfl ?_
              refine and_3 (Nat.le_of_ble_eq_true rfl) rfl (vin rfl) ?_
              refine gs rfl ?_
              refine and_i rfl ?_
              refine gs rfl ?_
              refine gs rfl ?_
              refine gs rfl ?_
              refine gs rfl ?_
              refine gs rfl ?_
              refine and_i (Nat.le_of_ble_eq_true rfl) (cl0 (Nat.le_of_ble_eq_true rfl) (and_i (Nat.le_of_ble_eq_true rfl) ?_))
              refine gs rfl ?_
              refine gs rfl ?_
              refine gs rfl ?_
              refine gs rfl ?_
              refine gs rfl ?_
              refine gs rfl ?_
              refine gs rfl ?_
              refine gs rfl ?_
              refine gs rfl ?_
              refine gs rfl ?_
              refine gs rfl ?_
              refine and_3 (Nat.le_of_ble_eq_true rfl) rfl (vin rfl) ?_
              refine gs rfl ?_
              refine and_i rfl ?_
              refine gs rfl ?_
              refine gs rfl ?_
              refine gs rfl ?_
              refine gs rfl ?_
              refine gs rfl ?_
              refine and_i (Nat.le_of_ble_eq_true rfl) (cl0 (Nat.le_of_ble_eq_true rfl) (and_i (Nat.le_of_ble_eq_true rfl) ?_))
              refine gs rfl ?_
              refine gs rfl ?_
              refine gs rfl ?_
              refine gs rfl ?_
              refine gs rfl ?_
              refine gs rfl ?_
              refine gs rfl ?_
              refine gs rfl ?_
              refine gs rfl ?_
              refine gs rfl ?_
              refine gs rfl ?_
              refine and_3 (Nat.le_of_ble_eq_true rfl) rfl (vin rfl) ?_
              refine gs rfl ?_
              refine and_i rfl ?_
              refine gs rfl ?_
              refine gs rfl ?_
              refine gs rfl ?_
              refine gs rfl ?_
              refine gs rfl ?_
              refine and_2 rfl (vin rfl) ?_
              refine gs rfl ?_
              refine gs rfl ?_
              refine gs rfl ?_
              refine and_3 (Nat.le_of_ble_eq_true rfl) rfl (vin rfl) ?_
              refine gs rfl ?_
              refine gs rfl ?_
              refine and_i rfl ?_
              refine gs rfl ?_
              refine gs rfl ?_
              refine gs rfl ?_
              refine gs rfl ?_
              refine gs rfl ?_
              refine gs rfl ?_
              refine and_i (Or.inl rfl) ?_
              refine gwst (congrArg (fun z => Value.int z :: _) (alen_k (n := 6) (by rfl))) ?_
              refine gs rfl ?_
              refine gs rfl ?_
              refine gs rfl ?_
              refine gs rfl ?_
              refine gs rfl ?_
              refine and_2 rfl (Or.inr rfl) ?_
              exact rfl
set_option maxRecDepth 20000 in
set_option maxHeartbeats 40000000 in
theorem lc_4 {s0 s1 s2 s3 s4 s5 : Int32} {d mc ms : Nat} : gw [s0, s1, s2, s3, s4, s5] (WP [s0, s1, s2, s3, s4, s5] (d + 20)) 190 (fun r _ => r = some (.int 1)) 330 [some (.ref 0), some (.ref 32), some (.ref 89), some (.int 0)] [] (hX0 ++ hM0) mc ms := by
  refine gs rfl ?_
  refine gs rfl ?_
  refine gs rfl ?_
  refine gs rfl ?_
  refine gs rfl ?_
  refine gs rfl ?_
  refine and_2 rfl (vin rfl) ?_
  refine gs rfl ?_
  refine gs rfl ?_
  refine gs rfl ?_
  refine gs rfl ?_
  refine gs rfl ?_
  refine and_2 rfl (vin rfl) ?_
  refine gs rfl ?_
  refine and_i (Nat.le_of_ble_eq_true rfl) (cl0 (Nat.le_of_ble_eq_true rfl) (and_i (Nat.le_of_ble_eq_true rfl) ?_))
  refine gs rfl ?_
  refine gs rfl ?_
  refine gs rfl ?_
  refine and_i (Nat.le_of_ble_eq_true rfl) (cl0 (Nat.le_of_ble_eq_true rfl) (and_i (Nat.le_of_ble_eq_true rfl) ?_))
  refine gs rfl ?_
  refine gs rfl ?_
  refine ifs (fun c1 => ?_) (fun c1 => ?_)
  · have d2 : (s1).toInt < 0 := (lt_k (by rfl) (by rfl)).mp c1
    refine gs rfl ?_
    refine gs rfl ?_
    refine and_2 rfl (Or.inl rfl) ?_
    refine gs rfl ?_
    refine gs rfl ?_
    refine gs rfl ?_
    refine gs rfl ?_
    refine and_i (Nat.le_of_ble_eq_true rfl) (cl0 (Nat.le_of_ble_eq_true rfl) (and_i (Nat.le_of_ble_eq_true rfl) ?_))
    refine gs rfl ?_
    refine gs rfl ?_
    refine gs rfl ?_
    refine gs rfl ?_
    refine gs rfl ?_
    refine and_2 rfl (vin rfl) ?_
    refine gs rfl ?_
    refine gs rfl ?_
    refine gs rfl ?_
    refine and_3 (Nat.le_of_ble_eq_true rfl) rfl (vin rfl) ?_
    refine gs rfl ?_
    refine gs rfl ?_
    refine gs rfl ?_
    refine gs rfl ?_
    refine and_i rfl ?_
    refine gs rfl ?_
    refine and_i rfl ?_
    refine FRg rfl (fun f => ?_)
    refine gs rfl ?_
    refine gs rfl ?_
    refine gs rfl ?_
    refine gs rfl ?_
    refine gs rfl ?_
    refine gs rfl ?_
    refine and_2 rfl (vin rfl) ?_
    refine gs rfl ?_
    refine gs rfl ?_
    refine gs rfl ?_
    refine gs rfl ?_
    refine gs rfl ?_
    refine and_2 rfl (vin rfl) ?_
    refine gs rfl ?_
    refine and_i (Nat.le_of_ble_eq_true rfl) (cl0 (Nat.le_of_ble_eq_true rfl) (and_i (Nat.le_of_ble_eq_true rfl) ?_))
    refine gs rfl ?_
    refine gs rfl ?_
    refine gs rfl ?_
    refine and_i (Nat.le_of_ble_eq_true rfl) (cl0 (Nat.le_of_ble_eq_true rfl) (and_i (Nat.le_of_ble_eq_true rfl) ?_))
    refine gs rfl ?_
    refine gs rfl ?_
    refine gs rfl ?_
    refine gs rfl ?_
    refine gs rfl ?_
    refine gs rfl ?_
    refine and_2 rfl (vin rfl) ?_
    refine gs rfl ?_
    refine gs rfl ?_
    refine gs rfl ?_
    refine and_i (Nat.le_of_ble_eq_true rfl) (cl0 (Nat.le_of_ble_eq_true rfl) (and_i (Nat.le_of_ble_eq_true rfl) ?_))
    refine gs rfl ?_
    refine gs rfl ?_
    refine gs rfl ?_
    refine ifT ((lt_k (a := (s1).toInt) (b := 0) (by rfl) (by rfl)).mpr (by omega)) ?_
    refine gs rfl ?_
    refine gs rfl ?_
    refine and_2 rfl (Or.inl rfl) ?_
    refine gs rfl ?_
    refine and_2 rfl (Or.inl rfl) ?_
    refine gs rfl ?_
    refine gs rfl ?_
    refine gs rfl ?_
    refine gs rfl ?_
    refine and_i (Nat.le_of_ble_eq_true rfl) (cl0 (Nat.le_of_ble_eq_true rfl) (and_i (Nat.le_of_ble_eq_true rfl) ?_))
    refine gs rfl ?_
    refine gs rfl ?_
    refine gs rfl ?_
    refine gs rfl ?_
    refine gs rfl ?_
    refine gs rfl ?_
    refine gs rfl ?_
    refine and_2 rfl (vin rfl) ?_
    refine gs rfl ?_
    refine gs rfl ?_
    refine gs rfl ?_
    refine and_3 (Nat.le_of_ble_eq_true rfl) rfl (vin rfl) ?_
    refine gs rfl ?_
    refine gs rfl ?_
    refine and_i rfl ?_
    refine gs rfl ?_
    refine and_i rfl ?_
    refine gs rfl ?_
    refine gs rfl ?_
    refine gs rfl ?_
    refine gs rfl ?_
    refine gs rfl ?_
    refine gs rfl ?_
    refine and_i (Or.inl rfl) ?_
    refine gwst (congrArg (fun z => Value.int z :: _) (alen_k (n := 6) (by rfl))) ?_
    refine gs rfl ?_
    refine gs rfl ?_
    refine gs rfl ?_
    refine gs rfl ?_
    refine gs rfl ?_
    refine and_2 rfl (Or.inr rfl) ?_
    exact rfl
  · have d2 : ¬ ((s1).toInt < 0) := fun q => c1 ((lt_k (by rfl) (by rfl)).mpr q)
    refine gs rfl ?_
    refine gs rfl ?_
    refine gs rfl ?_
    refine gs rfl ?_
    refine gs rfl ?_
    refine ifT ((le_k (a := 0) (b := (s1).toInt) (by rfl) (by rfl)).mpr (by omega)) ?_
    refine gs rfl ?_
    refine gs rfl ?_
    refine and_2 rfl (Or.inl rfl) ?_
    refine gs rfl ?_
    refine gs rfl ?_
    refine gs rfl ?_
    refine gs rfl ?_
    refine and_i (Nat.le_of_ble_eq_true rfl) (cl0 (Nat.le_of_ble_eq_true rfl) (and_i (Nat.le_of_ble_eq_true rfl) ?_))
    refine gs rfl ?_
    refine gs rfl ?_
    refine gs rfl ?_
    refine gs rfl ?_
    refine gs rfl ?_
    refine and_2 rfl (vin rfl) ?_
    refine gs rfl ?_
    refine gs rfl ?_
    refine gs rfl ?_
    refine and_3 (Nat.le_of_ble_eq_true rfl) rfl (vin rfl) ?_
    refine gs rfl ?_
    refine gs rfl ?_
    refine gs rfl ?_
    refine gs rfl ?_
    refine and_i rfl ?_
    refine gs rfl ?_
    refine and_i rfl ?_
    refine FRg rfl (fun f => ?_)
    refine gs rfl ?_
    refine gs rfl ?_
    refine gs rfl ?_
    refine gs rfl ?_
    refine gs rfl ?_
    refine gs rfl ?_
    refine and_2 rfl (vin rfl) ?_
    refine gs rfl ?_
    refine gs rfl ?_
    refine gs rfl ?_
    refine gs rfl ?_
    refine gs rfl ?_
    refine and_2 rfl (vin rfl) ?_
    refine gs rfl ?_
    refine and_i (Nat.le_of_ble_eq_true rfl) (cl0 (Nat.le_of_ble_eq_true rfl) (and_i (Nat.le_of_ble_eq_true rfl) ?_))
    refine gs rfl ?_
    refine gs rfl ?_
    refine gs rfl ?_
    refine and_i (Nat.le_of_ble_eq_true rfl) (cl0 (Nat.le_of_ble_eq_true rfl) (and_i (Nat.le_of_ble_eq_true rfl) ?_))
    refine gs rfl ?_
    refine gs rfl ?_
    refine gs rfl ?_
    refine gs rfl ?_
    refine gs rfl ?_
    refine gs rfl ?_
    refine and_2 rfl (vin rfl) ?_
    refine gs rfl ?_
    refine gs rfl ?_
    refine gs rfl ?_
    refine and_i (Nat.le_of_ble_eq_true rfl) (cl0 (Nat.le_of_ble_eq_true rfl) (and_i (Nat.le_of_ble_eq_true rfl) ?_))
    refine gs rfl ?_
    refine gs rfl ?_
    refine gs rfl ?_
    refine ifF ((fun q => absurd ((lt_k (a := (s1).toInt) (b := 0) (by rfl) (by rfl)).mp q) (by omega))) ?_
    refine gs rfl ?_
    refine gs rfl ?_
    refine gs rfl ?_
    refine ifT ((lt_k (a := (-1)) (b := (s1).toInt) (by rfl) (by rfl)).mpr (by omega)) ?_
    refine gs rfl ?_
    refine gs rfl ?_
    refine and_2 rfl (Or.inl rfl) ?_
    refine gs rfl ?_
    refine and_2 rfl (Or.inl rfl) ?_
    refine gs rfl ?_
    refine gs rfl ?_
    refine gs rfl ?_
    refine gs rfl ?_
    refine and_i (Nat.le_of_ble_eq_true rfl) (cl0 (Nat.le_of_ble_eq_true rfl) (and_i (Nat.le_of_ble_eq_true rfl) ?_))
    refine gs rfl ?_
    refine gs rfl ?_
    refine gs rfl ?_
    refine gs rfl ?_
    refine gs rfl ?_
    refine gs rfl ?_
    refine gs rfl ?_
    refine and_2 rfl (vin rfl) ?_
    refine gs rfl ?_
    refine gs rfl ?_
    refine gs rfl ?_
    refine and_3 (Nat.le_of_ble_eq_true rfl) rfl (vin rfl) ?_
    refine gs rfl ?_
    refine gs rfl ?_
    refine and_i rfl ?_
    refine gs rfl ?_
    refine and_i rfl ?_
    refine gs rfl ?_
    refine gs rfl ?_
    refine gs rfl ?_
    refine gs rfl ?_
    refine gs rfl ?_
    refine gs rfl ?_
    refine and_i (Or.inl rfl) ?_
    refine gwst (congrArg (fun z => Value.int z :: _) (alen_k (n := 6) (by rfl))) ?_
    refine gs rfl ?_
    refine gs rfl ?_
    refine gs rfl ?_
    refine gs rfl ?_
    refine gs rfl ?_
    refine and_2 rfl (Or.inr rfl) ?_
    exact rfl
