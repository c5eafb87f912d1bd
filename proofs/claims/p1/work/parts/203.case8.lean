/-! THE LAW'S CASES 8, over two new objects -/
set_option maxRecDepth 20000 in
set_option maxHeartbeats 40000000 in
theorem lc_8 {s0 s1 s2 s3 s4 s5 : Int32} {d mc ms : Nat} : gw [s0, s1, s2, s3, s4, s5] (WP [s0, s1, s2, s3, s4, s5] (d + 20)) 190 (fun r _ => r = some (.int 1)) 472 [some (.ref 0), some (.ref 32), some (.ref 89), some (.int 0)] [] (hX0 ++ hM0) mc ms := by
  refine gs rfl ?_
  refine gs rfl ?_
  refine gs rfl ?_
  refine gs rfl ?_
  refine gs rfl ?_
  refine gs rfl ?_
  refine and_2 rfl (vin rfl) ?_
  refine gs rfl ?_
  refine gs rfl ?_
  refine gs rfl ?_
  refine gs rfl ?_
  refine gs rfl ?_
  refine gs rfl ?_
  refine gs rfl ?_
  refine gs rfl ?_
  refine and_2 rfl (vin rfl) ?_
  refine gs rfl ?_
  refine gs rfl ?_
  refine gs rfl ?_
  refine gs rfl ?_
  refine gs rfl ?_
  refine gs rfl ?_
  refine gs rfl ?_
  refine gs rfl ?_
  refine gs rfl ?_
  refine and_2 rfl (vin rfl) ?_
  refine gs rfl ?_
  refine and_i (Nat.le_of_ble_eq_true rfl) (cl0 (Nat.le_of_ble_eq_true rfl) (and_i (Nat.le_of_ble_eq_true rfl) ?_))
  refine gs rfl ?_
  refine gs rfl ?_
  refine gs rfl ?_
  refine ifs (fun c1 => ?_) (fun c1 => ?_)
  · have d2 : (s3).toInt < 1 := (lt_k (by rfl) (by rfl)).mp c1
    refine gs rfl ?_
    refine gs rfl ?_
    refine gs rfl ?_
    refine and_i (Nat.le_of_ble_eq_true rfl) (cl0 (Nat.le_of_ble_eq_true rfl) (and_i (Nat.le_of_ble_eq_true rfl) ?_))
    refine gs rfl ?_
    refine gs rfl ?_
    refine gs rfl ?_
    refine gs rfl ?_
    refine gs rfl ?_
    refine and_2 rfl (vin rfl) ?_
    refine gs rfl ?_
    refine gs rfl ?_
    refine gs rfl ?_
    refine and_3 (Nat.le_of_ble_eq_true rfl) rfl (vin rfl) ?_
    refine gs rfl ?_
    refine gs rfl ?_
    refine gs rfl ?_
    refine gs rfl ?_
    refine and_i rfl ?_
    refine gs rfl ?_
    refine and_i rfl ?_
    refine FRg rfl (fun f => ?_)
    refine gs rfl ?_
    refine gs rfl ?_
    refine gs rfl ?_
    refine gs rfl ?_
    refine gs rfl ?_
    refine gs rfl ?_
    refine and_2 rfl (vin rfl) ?_
    refine gs rfl ?_
    refine gs rfl ?_
    refine gs rfl ?_
    refine gs rfl ?_
    refine gs rfl ?_
    refine gs rfl ?_
    refine gs rfl ?_
    refine gs rfl ?_
    refine and_2 rfl (vin rfl) ?_
    refine gs rfl ?_
    refine gs rfl ?_
    refine gs rfl ?_
    refine gs rfl ?_
    refine gs rfl ?_
    refine gs rfl ?_
    refine gs rfl ?_
    refine gs rfl ?_
    refine gs rfl ?_
    refine and_2 rfl (vin rfl) ?_
    refine gs rfl ?_
    refine and_i (Nat.le_of_ble_eq_true rfl) (cl0 (Nat.le_of_ble_eq_true rfl) (and_i (Nat.le_of_ble_eq_true rfl) ?_))
    refine gs rfl ?_
    refine gs rfl ?_
    refine gs rfl ?_
    refine gs rfl ?_
    refine and_i (Nat.le_of_ble_eq_true rfl) (cl0 (Nat.le_of_ble_eq_true rfl) (and_i (Nat.le_of_ble_eq_true rfl) ?_))
    refine gs rfl ?_
    refine gs rfl ?_
    refine gs rfl ?_
    refine ifT ((lt_k (a := (s3).toInt) (b := 1) (by rfl) (by rfl)).mpr (by omega)) ?_
    refine gs rfl ?_
    refine gs rfl ?_
    refine and_2 rfl (Or.inl rfl) ?_
    refine gs rfl ?_
    refine gs rfl ?_
    refine gs rfl ?_
    refine gs rfl ?_
    refine and_i (Nat.le_of_ble_eq_true rfl) (cl0 (Nat.le_of_ble_eq_true rfl) (and_i (Nat.le_of_ble_eq_true rfl) ?_))
    refine gs rfl ?_
    refine gs rfl ?_
    refine gs rfl ?_
    refine gs rfl ?_
    refine gs rfl ?_
    refine gs rfl ?_
    refine gs rfl ?_
    refine and_2 rfl (vin rfl) ?_
    refine gs rfl ?_
    refine gs rfl ?_
    refine gs rfl ?_
    refine and_3 (Nat.le_of_ble_eq_true rfl) rfl (vin rfl) ?_
    refine gs rfl ?_
    refine gs rfl ?_
    refine and_i rfl ?_
    refine gs rfl ?_
    refine and_i rfl ?_
    refine gs rfl ?_
    refine gs rfl ?_
    refine gs rfl ?_
    refine gs rfl ?_
    refine gs rfl ?_
    refine gs rfl ?_
    refine and_i (Or.inl rfl) ?_
    refine gwst (congrArg (fun z => Value.int z :: _) (alen_k (n := 6) (by rfl))) ?_
    refine gs rfl ?_
    refine gs rfl ?_
    refine gs rfl ?_
    refine gs rfl ?_
    refine gs rfl ?_
    refine and_2 rfl (Or.inr rfl) ?_
    exact rfl
  · have d2 : ¬ ((s3).toInt < 1) := fun q => c1 ((lt_k (by rfl) (by rfl)).mpr q)
    refine gs rfl ?_
    refine gs rfl ?_
    refine gs rfl ?_
    refine ifs (fun c3 => ?_) (fun c3 => ?_)
    · have d4 : (s3).toInt ≤ 8 := (le_k (by rfl) (by rfl)).mp c3
      refine gs rfl ?_
      refine gs rfl ?_
      refine gs rfl ?_
      refine gs rfl ?_
      refine gs rfl ?_
      refine gs rfl ?_
      have b5 : (((50 : Int32) - s3)).toInt = (50) - (s3).toInt := sub_k (by rfl) (by rfl) (by omega) (by omega)
      refine gs rfl ?_
      refine ifT ((le_k (a := 0) (b := (((50 : Int32) - s3)).toInt) (by rfl) (by rfl)).mpr (by omega)) ?_
      refine gs rfl ?_
      refine gs rfl ?_
      refine gs rfl ?_
      refine gs rfl ?_
      refine gs rfl ?_
      refine ifF ((fun q => absurd ((le_k (a := (s3).toInt) (b := 0) (by rfl) (by rfl)).mp q) (by omega))) ?_
      refine gs rfl ?_
      refine gs rfl ?_
      refine gs rfl ?_
      refine gs rfl ?_
      refine gs rfl ?_
      refine gs rfl ?_
      refine gs rfl ?_
      refine gs rfl ?_
      refine gs rfl ?_
      refine gs rfl ?_
      refine gs rfl ?_
      refine gs rfl ?_
      refine gs rfl ?_
      refine gs rfl ?_
      refine gs rfl ?_
      refine and_3 (Nat.le_of_ble_eq_true rfl) rfl (vin rfl) ?_
      refine gs rfl ?_
      refine gs rfl ?_
      refine gs rfl ?_
      refine gs rfl ?_
      refine gs rfl ?_
      refine gs rfl ?_
      refine gs rfl ?_
      refine and_3 (Nat.le_of_ble_eq_true rfl) (Nat.le_of_ble_eq_true rfl) trivial ?_
      refine gs rfl ?_
      refine gs rfl ?_
      refine gs rfl ?_
      refine gs rfl ?_
      refine gs rfl ?_
      refine ifs (fun c6 => ?_) (fun c6 => ?_)
      · have d7 : (s3).toInt ≤ 1 := (le_k (by rfl) (by rfl)).mp c6
        refine gs rfl ?_
        refine gs rfl ?_
        refine gs rfl ?_
        refine gs rfl ?_
        refine and_i rfl ?_
        refine FRg rfl (fun f => ?_)
        refine gs rfl ?_
        refine gs rfl ?_
        refine gs rfl ?_
        refine gs rfl ?_
        refine gs rfl ?_
        refine gs rfl ?_
        refine and_2 rfl (vin rfl) ?_
        refine gs rfl ?_
        refine gs rfl ?_
        refine gs rfl ?_
        refine gs rfl ?_
        refine gs rfl ?_
        refine gs rfl ?_
        refine gs rfl ?_
        refine gs rfl ?_
        refine and_2 rfl (vin rfl) ?_
        refine gs rfl ?_
        refine gs rfl ?_
        refine gs rfl ?_
        refine gs rfl ?_
        refine gs rfl ?_
        refine gs rfl ?_
        refine gs rfl ?_
        refine gs rfl ?_
        refine gs rfl ?_
        refine and_2 rfl (vin rfl) ?_
        refine gs rfl ?_
        refine and_i (Nat.le_of_ble_eq_true rfl) (cl0 (Nat.le_of_ble_eq_true rfl) (and_i (Nat.le_of_ble_eq_true rfl) ?_))
        refine gs rfl ?_
        refine gs rfl ?_
        refine gs rfl ?_
        refine gs rfl ?_
        refine and_i (Nat.le_of_ble_eq_true rfl) (cl0 (Nat.le_of_ble_eq_true rfl) (and_i (Nat.le_of_ble_eq_true rfl) ?_))
        refine gs rfl ?_
        refine gs rfl ?_
        refine gs rfl ?_
        refine ifF ((fun q => absurd ((lt_k (a := (s3).toInt) (b := 1) (by rfl) (by rfl)).mp q) (by omega))) ?_
        refine gs rfl ?_
        refine gs rfl ?_
        refine gs rfl ?_
        refine ifF ((fun q => absurd ((lt_k (a := 8) (b := (s3).toInt) (by rfl) (by rfl)).mp q) (by omega))) ?_
        refine gs rfl ?_
        refine gs rfl ?_
        refine gs rfl ?_
        refine and_2 rfl (Or.inr rfl) ?_
        refine gs rfl ?_
        refine gs rfl ?_
        refine gs rfl ?_
        refine gs rfl ?_
        refine gs rfl ?_
        refine and_2 rfl (vin rfl) ?_
        refine gs rfl ?_
        obtain ⟨j8, e9, x10⟩ := nat_of (x := s3) (lo := 1) (hi := 1) (by omega) (by omega)
        obtain rfl : j8 = 1 := by omega
        have x10q : s3 = (1 : Int32) := x10
        clear x10
        subst x10q
        refine gs rfl ?_
        refine gs rfl ?_
        refine gs rfl ?_
        refine gs rfl ?_
        refine gs rfl ?_
        refine gs rfl ?_
        refine gs rfl ?_
        refine gs rfl ?_
        refine gs rfl ?_
        refine gs rfl ?_
        refine gs rfl ?_
        refine gs rfl ?_
        refine gs rfl ?_
        refine gs rfl ?_
        refine gs rfl ?_
        refine and_2 rfl (vin rfl) ?_
        refine gs rfl ?_
        refine gs rfl ?_
        refine gs rfl ?_
        refine gs rfl ?_
        refine gs rfl ?_
        refine gs rfl ?_
        refine gs rfl ?_
        refine gs rfl ?_
        refine gs rfl ?_
        refine gs rfl ?_
        refine and_3 (Nat.le_of_ble_eq_true rfl) rfl (vin rfl) ?_
        refine gs rfl ?_
        refine gs rfl ?_
        refine gs rfl ?_
        refine gs rfl ?_
        refine gs rfl ?_
        refine and_2 rfl (vin rfl) ?_
        refine gs rfl ?_
        refine gs rfl ?_
        refine gs rfl ?_
        refine and_3 (Nat.le_of_ble_eq_true rfl) rfl (vin rfl) ?_
        refine gs rfl ?_
        refine gs rfl ?_
        refine gs rfl ?_
        refine gs rfl ?_
        refine gs rfl ?_
        refine gs rfl ?_
        refine gs rfl ?_
        refine gs rfl ?_
        refine gs rfl ?_
        refine and_2 rfl (vin rfl) ?_
        refine gs rfl ?_
        refine and_i rfl ?_
        refine gs rfl ?_
        refine gs rfl ?_
        refine gs rfl ?_
        refine gs rfl ?_
        refine gs rfl ?_
        refine gs rfl ?_
        refine and_i (Or.inl rfl) ?_
        refine gwst (congrArg (fun z => Value.int z :: _) (alen_k (n := 6) (by rfl))) ?_
        refine gs rfl ?_
        refine gs rfl ?_
        refine gs rfl ?_
        refine gs rfl ?_
        refine gs rfl ?_
        refine and_2 rfl (Or.inr rfl) ?_
        exact rfl
      · have d7 : ¬ ((s3).toInt ≤ 1) := fun q => c6 ((le_k (by rfl) (by rfl)).mpr q)
        refine gs rfl ?_
        refine gs rfl ?_
        refine gs rfl ?_
        refine gs rfl ?_
        refine gs rfl ?_
        refine gs rfl ?_
        refine gs rfl ?_
        refine gs rfl ?_
        refine gs rfl ?_
        refine gs rfl ?_
        refine gs rfl ?_
        refine gs rfl ?_
        refine gs rfl ?_
        refine gs rfl ?_
        refine gs rfl ?_
        refine and_3 (Nat.le_of_ble_eq_true rfl) rfl (vin rfl) ?_
        refine gs rfl ?_
        refine gs rfl ?_
        refine gs rfl ?_
        refine gs rfl ?_
        refine gs rfl ?_
        refine gs rfl ?_
        refine gs rfl ?_
        refine and_3 (Nat.le_of_ble_eq_true rfl) (Nat.le_of_ble_eq_true rfl) trivial ?_
        refine gs rfl ?_
        refine gs rfl ?_
        refine gs rfl ?_
        refine gs rfl ?_
        refine gs rfl ?_
        refine ifs (fun c11 => ?_) (fun c11 => ?_)
        · have d12 : (s3).toInt ≤ 2 := (le_k (by rfl) (by rfl)).mp c11
          refine gs rfl ?_
          refine gs rfl ?_
          refine gs rfl ?_
          refine gs rfl ?_
          refine and_i rfl ?_
          refine FRg rfl (fun f => ?_)
          refine gs rfl ?_
          refine gs rfl ?_
          refine gs rfl ?_
          refine gs rfl ?_
          refine gs rfl ?_
          refine gs rfl ?_
          refine and_2 rfl (vin rfl) ?_
          refine gs rfl ?_
          refine gs rfl ?_
          refine gs rfl ?_
          refine gs rfl ?_
          refine gs rfl ?_
          refine gs rfl ?_
          refine gs rfl ?_
          refine gs rfl ?_
          refine and_2 rfl (vin rfl) ?_
          refine gs rfl ?_
          refine gs rfl ?_
          refine gs rfl ?_
          refine gs rfl ?_
          refine gs rfl ?_
          refine gs rfl ?_
          refine gs rfl ?_
          refine gs rfl ?_
          refine gs rfl ?_
          refine and_2 rfl (vin rfl) ?_
          refine gs rfl ?_
          refine and_i (Nat.le_of_ble_eq_true rfl) (cl0 (Nat.le_of_ble_eq_true rfl) (and_i (Nat.le_of_ble_eq_true rfl) ?_))
          refine gs rfl ?_
          refine gs rfl ?_
          refine gs rfl ?_
          refine gs rfl ?_
          refine and_i (Nat.le_of_ble_eq_true rfl) (cl0 (Nat.le_of_ble_eq_true rfl) (and_i (Nat.le_of_ble_eq_true rfl) ?_))
          refine gs rfl ?_
          refine gs rfl ?_
          refine gs rfl ?_
          refine ifF ((fun q => absurd ((lt_k (a := (s3).toInt) (b := 1) (by rfl) (by rfl)).mp q) (by omega))) ?_
          refine gs rfl ?_
          refine gs rfl ?_
          refine gs rfl ?_
          refine ifF ((fun q => absurd ((lt_k (a := 8) (b := (s3).toInt) (by rfl) (by rfl)).mp q) (by omega))) ?_
          refine gs rfl ?_
          refine gs rfl ?_
          refine gs rfl ?_
          refine and_2 rfl (Or.inr rfl) ?_
          refine gs rfl ?_
          refine gs rfl ?_
          refine gs rfl ?_
          refine gs rfl ?_
          refine gs rfl ?_
          refine and_2 rfl (vin rfl) ?_
          refine gs rfl ?_
          obtain ⟨j13, e14, x15⟩ := nat_of (x := s3) (lo := 2) (hi := 2) (by omega) (by omega)
          obtain rfl : j13 = 2 := by omega
          have x15q : s3 = (2 : Int32) := x15
          clear x15
          subst x15q
          refine gs rfl ?_
          refine gs rfl ?_
          refine gs rfl ?_
          refine gs rfl ?_
          refine gs rfl ?_
          refine gs rfl ?_
          refine gs rfl ?_
          refine gs rfl ?_
          refine gs rfl ?_
          refine gs rfl ?_
          refine gs rfl ?_
          refine gs rfl ?_
          refine gs rfl ?_
          refine gs rfl ?_
          refine gs rfl ?_
          refine and_2 rfl (vin rfl) ?_
          refine gs rfl ?_
          refine gs rfl ?_
          refine gs rfl ?_
          refine gs rfl ?_
          refine gs rfl ?_
          refine gs rfl ?_
          refine gs rfl ?_
          refine gs rfl ?_
          refine gs rfl ?_
          refine gs rfl ?_
          refine and_3 (Nat.le_of_ble_eq_true rfl) rfl (vin rfl) ?_
          refine gs rfl ?_
          refine gs rfl ?_
          refine gs rfl ?_
          refine gs rfl ?_
          refine gs rfl ?_
          refine and_2 rfl (vin rfl) ?_
          refine gs rfl ?_
          refine gs rfl ?_
          refine gs rfl ?_
          refine and_3 (Nat.le_of_ble_eq_true rfl) rfl (vin rfl) ?_
          refine gs rfl ?_
          refine gs rfl ?_
          refine gs rfl ?_
          refine gs rfl ?_
          refine gs rfl ?_
          refine gs rfl ?_
          refine gs rfl ?_
          refine gs rfl ?_
          refine gs rfl ?_
          refine gs rfl ?_
          refine gs rfl ?_
          refine gs rfl ?_
          refine and_2 rfl (vin rfl) ?_
          refine gs rfl ?_
          refine gs rfl ?_
          refine gs rfl ?_
          refine gs rfl ?_
          refine gs rfl ?_
          refine gs rfl ?_
          refine gs rfl ?_
          refine gs rfl ?_
          refine gs rfl ?_
          refine gs rfl ?_
          refine and_3 (Nat.le_of_ble_eq_true rfl) rfl (vin rfl) ?_
          refine gs rfl ?_
          refine gs rfl ?_
          refine gs rfl ?_
          refine gs rfl ?_
          refine gs rfl ?_
          refine and_2 rfl (vin rfl) ?_
          refine gs rfl ?_
          refine gs rfl ?_
          refine gs rfl ?_
          refine and_3 (Nat.le_of_ble_eq_true rfl) rfl (vin rfl) ?_
          refine gs rfl ?_
          refine gs rfl ?_
          refine gs rfl ?_
          refine gs rfl ?_
          refine gs rfl ?_
          refine gs rfl ?_
          refine gs rfl ?_
          refine gs rfl ?_
          refine gs rfl ?_
          refine and_2 rfl (vin rfl) ?_
          refine gs rfl ?_
          refine and_i rfl ?_
          refine gs rfl ?_
          refine gs rfl ?_
          refine gs rfl ?_
          refine gs rfl ?_
          refine gs rfl ?_
          refine gs rfl ?_
          refine and_i (Or.inl rfl) ?_
          refine gwst (congrArg (fun z => Value.int z :: _) (alen_k (n := 6) (by rfl))) ?_
          refine gs rfl ?_
          refine gs rfl ?_
          refine gs rfl ?_
          refine gs rfl ?_
          refine gs rfl ?_
          refine and_2 rfl (Or.inr rfl) ?_
          exact rfl
        · have d12 : ¬ ((s3).toInt ≤ 2) := fun q => c11 ((le_k (by rfl) (by rfl)).mpr q)
          refine gs rfl ?_
          refine gs rfl ?_
          refine gs rfl ?_
          refine gs rfl ?_
          refine gs rfl ?_
          refine gs rfl ?_
          refine gs rfl ?_
          refine gs rfl ?_
          refine gs rfl ?_
          refine gs rfl ?_
          refine gs rfl ?_
          refine gs rfl ?_
          refine gs rfl ?_
          refine gs rfl ?_
          refine gs rfl ?_
          refine and_3 (Nat.le_of_ble_eq_true rfl) rfl (vin rfl) ?_
          refine gs rfl ?_
          refine gs rfl ?_
          refine gs rfl ?_
          refine gs rfl ?_
          refine gs rfl ?_
          refine gs rfl ?_
          refine gs rfl ?_
          refine and_3 (Nat.le_of_ble_eq_true rfl) (Nat.le_of_ble_eq_true rfl) trivial ?_
          refine gs rfl ?_
          refine gs rfl ?_
          refine gs rfl ?_
          refine gs rfl ?_
          refine gs rfl ?_
          refine ifs (fun c16 => ?_) (fun c16 => ?_)
          · have d17 : (s3).toInt ≤ 3 := (le_k (by rfl) (by rfl)).mp c16
            refine gs rfl ?_
            refine gs rfl ?_
            refine gs rfl ?_
            refine gs rfl ?_
            refine and_i rfl ?_
            refine FRg rfl (fun f => ?_)
            refine gs rfl ?_
            refine gs rfl ?_
            refine gs rfl ?_
            refine gs rfl ?_
            refine gs rfl ?_
            refine gs rfl ?_
            refine and_2 rfl (vin rfl) ?_
            refine gs rfl ?_
            refine gs rfl ?_
            refine gs rfl ?_
            refine gs rfl ?_
            refine gs rfl ?_
            refine gs rfl ?_
            refine gs rfl ?_
            refine gs rfl ?_
            refine and_2 rfl (vin rfl) ?_
            refine gs rfl ?_
            refine gs rfl ?_
            refine gs rfl ?_
            refine gs rfl ?_
            refine gs rfl ?_
            refine gs rfl ?_
            refine gs rfl ?_
            refine gs rfl ?_
            refine gs rfl ?_
            refine and_2 rfl (vin rfl) ?_
            refine gs rfl ?_
            refine and_i (Nat.le_of_ble_eq_true rfl) (cl0 (Nat.le_of_ble_eq_true rfl) (and_i (Nat.le_of_ble_eq_true rfl) ?_))
            refine gs rfl ?_
            refine gs rfl ?_
            refine gs rfl ?_
            refine gs rfl ?_
            refine and_i (Nat.le_of_ble_eq_true rfl) (cl0 (Nat.le_of_ble_eq_true rfl) (and_i (Nat.le_of_ble_eq_true rfl) ?_))
            refine gs rfl ?_
            refine gs rfl ?_
            refine gs rfl ?_
            refine ifF ((fun q => absurd ((lt_k (a := (s3).toInt) (b := 1) (by rfl) (by rfl)).mp q) (by omega))) ?_
            refine gs rfl ?_
            refine gs rfl ?_
            refine gs rfl ?_
            refine ifF ((fun q => absurd ((lt_k (a := 8) (b := (s3).toInt) (by rfl) (by rfl)).mp q) (by omega))) ?_
            refine gs rfl ?_
            refine gs rfl ?_
            refine gs rfl ?_
            refine and_2 rfl (Or.inr rfl) ?_
            refine gs rfl ?_
            refine gs rfl ?_
            refine gs rfl ?_
            refine gs rfl ?_
            refine gs rfl ?_
            refine and_2 rfl (vin rfl) ?_
            refine gs rfl ?_
            obtain ⟨j18, e19, x20⟩ := nat_of (x := s3) (lo := 3) (hi := 3) (by omega) (by omega)
            obtain rfl : j18 = 3 := by omega
            have x20q : s3 = (3 : Int32) := x20
            clear x20
            subst x20q
            refine gs rfl ?_
            refine gs rfl ?_
            refine gs rfl ?_
            refine gs rfl ?_
            refine gs rfl ?_
            refine gs rfl ?_
            refine gs rfl ?_
            refine gs rfl ?_
            refine gs rfl ?_
            refine gs rfl ?_
            refine gs rfl ?_
            refine gs rfl ?_
            refine gs rfl ?_
            refine gs rfl ?_
            refine gs rfl ?_
            refine and_2 rfl (vin rfl) ?_
            refine gs rfl ?_
            refine gs rfl ?_
            refine gs rfl ?_
            refine gs rfl ?_
            refine gs rfl ?_
            refine gs rfl ?_
            refine gs rfl ?_
            refine gs rfl ?_
            refine gs rfl ?_
            refine gs rfl ?_
            refine and_3 (Nat.le_of_ble_eq_true rfl) rfl (vin rfl) ?_
            refine gs rfl ?_
            refine gs rfl ?_
            refine gs rfl ?_
            refine gs rfl ?_
            refine gs rfl ?_
            refine and_2 rfl (vin rfl) ?_
            refine gs rfl ?_
            refine gs rfl ?_
            refine gs rfl ?_
            refine and_3 (Nat.le_of_ble_eq_true rfl) rfl (vin rfl) ?_
            refine gs rfl ?_
            refine gs rfl ?_
            refine gs rfl ?_
            refine gs rfl ?_
            refine gs rfl ?_
            refine gs rfl ?_
            refine gs rfl ?_
            refine gs rfl ?_
            refine gs rfl ?_
            refine gs rfl ?_
            refine gs rfl ?_
            refine gs rfl ?_
            refine and_2 rfl (vin rfl) ?_
            refine gs rfl ?_
            refine gs rfl ?_
            refine gs rfl ?_
            refine gs rfl ?_
            refine gs rfl ?_
            refine gs rfl ?_
            refine gs rfl ?_
            refine gs rfl ?_
            refine gs rfl ?_
            refine gs rfl ?_
            refine and_3 (Nat.le_of_ble_eq_true rfl) rfl (vin rfl) ?_
            refine gs rfl ?_
            refine gs rfl ?_
            refine gs rfl ?_
            refine gs rfl ?_
            refine gs rfl ?_
            refine and_2 rfl (vin rfl) ?_
            refine gs rfl ?_
            refine gs rfl ?_
            refine gs rfl ?_
            refine and_3 (Nat.le_of_ble_eq_true rfl) rfl (vin rfl) ?_
            refine gs rfl ?_
            refine gs rfl ?_
            refine gs rfl ?_
            refine gs rfl ?_
            refine gs rfl ?_
            refine gs rfl ?_
            refine gs rfl ?_
            refine gs rfl ?_
            refine gs rfl ?_
            refine gs rfl ?_
            refine gs rfl ?_
            refine gs rfl ?_
            refine and_2 rfl (vin rfl) ?_
            refine gs rfl ?_
            refine gs rfl ?_
            refine gs rfl ?_
            refine gs rfl ?_
            refine gs rfl ?_
            refine gs rfl ?_
            refine gs rfl ?_
            refine gs rfl ?_
            refine gs rfl ?_
            refine gs rfl ?_
            refine and_3 (Nat.le_of_ble_eq_true rfl) rfl (vin rfl) ?_
            refine gs rfl ?_
            refine gs rfl ?_
            refine gs rfl ?_
            refine gs rfl ?_
            refine gs rfl ?_
            refine and_2 rfl (vin rfl) ?_
            refine gs rfl ?_
            refine gs rfl ?_
            refine gs rfl ?_
            refine and_3 (Nat.le_of_ble_eq_true rfl) rfl (vin rfl) ?_
            refine gs rfl ?_
            refine gs rfl ?_
            refine gs rfl ?_
            refine gs rfl ?_
            refine gs rfl ?_
            refine gs rfl ?_
            refine gs rfl ?_
            refine gs rfl ?_
            refine gs rfl ?_
            refine and_2 rfl (vin rfl) ?_
            refine gs rfl ?_
            refine and_i rfl ?_
            refine gs rfl ?_
            refine gs rfl ?_
            refine gs rfl ?_
            refine gs rfl ?_
            refine gs rfl ?_
            refine gs rfl ?_
            refine and_i (Or.inl rfl) ?_
            refine gwst (congrArg (fun z => Value.int z :: _) (alen_k (n := 6) (by rfl))) ?_
            refine gs rfl ?_
            refine gs rfl ?_
            refine gs rfl ?_
            refine gs rfl ?_
            refine gs rfl ?_
            refine and_2 rfl (Or.inr rfl) ?_
            exact rfl
          · have d17 : ¬ ((s3).toInt ≤ 3) := fun q => c16 ((le_k (by rfl) (by rfl)).mpr q)
            refine gs rfl ?_
            refine gs rfl ?_
            refine gs rfl ?_
            refine gs rfl ?_
            refine gs rfl ?_
            refine gs rfl ?_
            refine gs rfl ?_
            refine gs rfl ?_
            refine gs rfl ?_
            refine gs rfl ?_
            refine gs rfl ?_
            refine gs rfl ?_
            refine gs rfl ?_
            refine gs rfl ?_
            refine gs rfl ?_
            refine and_3 (Nat.le_of_ble_eq_true rfl) rfl (vin rfl) ?_
            refine gs rfl ?_
            refine gs rfl ?_
            refine gs rfl ?_
            refine gs rfl ?_
            refine gs rfl ?_
            refine gs rfl ?_
            refine gs rfl ?_
            refine and_3 (Nat.le_of_ble_eq_true rfl) (Nat.le_of_ble_eq_true rfl) trivial ?_
            refine gs rfl ?_
            refine gs rfl ?_
            refine gs rfl ?_
            refine gs rfl ?_
            refine gs rfl ?_
            refine ifs (fun c21 => ?_) (fun c21 => ?_)
            · have d22 : (s3).toInt ≤ 4 := (le_k (by rfl) (by rfl)).mp c21
              refine gs rfl ?_
              refine gs rfl ?_
              refine gs rfl ?_
              refine gs rfl ?_
              refine and_i rfl ?_
              refine FRg rfl (fun f => ?_)
              refine gs rfl ?_
              refine gs rfl ?_
              refine gs rfl ?_
              refine gs rfl ?_
              refine gs rfl ?_
              refine gs rfl ?_
              refine and_2 rfl (vin rfl) ?_
              refine gs rfl ?_
              refine gs rfl ?_
              refine gs rfl ?_
              refine gs rfl ?_
              refine gs rfl ?_
              refine gs rfl ?_
              refine gs rfl ?_
              refine gs rfl ?_
              refine and_2 rfl (vin rfl) ?_
              refine gs rfl ?_
              refine gs rfl ?_
              refine gs rfl ?_
              refine gs rfl ?_
              refine gs rfl ?_
              refine gs rfl ?_
              refine gs rfl ?_
              refine gs rfl ?_
              refine gs rfl ?_
              refine and_2 rfl (vin rfl) ?_
              refine gs rfl ?_
              refine and_i (Nat.le_of_ble_eq_true rfl) (cl0 (Nat.le_of_ble_eq_true rfl) (and_i (Nat.le_of_ble_eq_true rfl) ?_))
              refine gs rfl ?_
              refine gs rfl ?_
              refine gs rfl ?_
              refine gs rfl ?_
              refine and_i (Nat.le_of_ble_eq_true rfl) (cl0 (Nat.le_of_ble_eq_true rfl) (and_i (Nat.le_of_ble_eq_true rfl) ?_))
              refine gs rfl ?_
              refine gs rfl ?_
              refine gs rfl ?_
              refine ifF ((fun q => absurd ((lt_k (a := (s3).toInt) (b := 1) (by rfl) (by rfl)).mp q) (by omega))) ?_
              refine gs rfl ?_
              refine gs rfl ?_
              refine gs rfl ?_
              refine ifF ((fun q => absurd ((lt_k (a := 8) (b := (s3).toInt) (by rfl) (by rfl)).mp q) (by omega))) ?_
              refine gs rfl ?_
              refine gs rfl ?_
              refine gs rfl ?_
              refine and_2 rfl (Or.inr rfl) ?_
              refine gs rfl ?_
              refine gs rfl ?_
              refine gs rfl ?_
              refine gs rfl ?_
              refine gs rfl ?_
              refine and_2 rfl (vin rfl) ?_
              refine gs rfl ?_
              obtain ⟨j23, e24, x25⟩ := nat_of (x := s3) (lo := 4) (hi := 4) (by omega) (by omega)
              obtain rfl : j23 = 4 := by omega
              have x25q : s3 = (4 : Int32) := x25
              clear x25
              subst x25q
              refine gs rfl ?_
              refine gs rfl ?_
              refine gs rfl ?_
              refine gs rfl ?_
              refine gs rfl ?_
              refine gs rfl ?_
              refine gs rfl ?_
              refine gs rfl ?_
              refine gs rfl ?_
              refine gs rfl ?_
              refine gs rfl ?_
              refine gs rfl ?_
              refine gs rfl ?_
              refine gs rfl ?_
              refine gs rfl ?_
              refine and_2 rfl (vin rfl) ?_
              refine gs rfl ?_
              refine gs rfl ?_
              refine gs rfl ?_
              refine gs rfl ?_
              refine gs rfl ?_
              refine gs rfl ?_
              refine gs rfl ?_
              refine gs rfl ?_
              refine gs rfl ?_
              refine gs rfl ?_
              refine and_3 (Nat.le_of_ble_eq_true rfl) rfl (vin rfl) ?_
              refine gs rfl ?_
              refine gs rfl ?_
              refine gs rfl ?_
              refine gs rfl ?_
              refine gs rfl ?_
              refine and_2 rfl (vin rfl) ?_
              refine gs rfl ?_
              refine gs rfl ?_
              refine gs rfl ?_
              refine and_3 (Nat.le_of_ble_eq_true rfl) rfl (vin rfl) ?_
              refine gs rfl ?_
              refine gs rfl ?_
              refine gs rfl ?_
              refine gs rfl ?_
              refine gs rfl ?_
              refine gs rfl ?_
              refine gs rfl ?_
              refine gs rfl ?_
              refine gs rfl ?_
              refine gs rfl ?_
              refine gs rfl ?_
              refine gs rfl ?_
              refine and_2 rfl (vin rfl) ?_
              refine gs rfl ?_
              refine gs rfl ?_
              refine gs rfl ?_
              refine gs rfl ?_
              refine gs rfl ?_
              refine gs rfl ?_
              refine gs rfl ?_
              refine gs rfl ?_
              refine gs rfl ?_
              refine gs rfl ?_
              refine and_3 (Nat.le_of_ble_eq_true rfl) rfl (vin rfl) ?_
              refine gs rfl ?_
              refine gs rfl ?_
              refine gs rfl ?_
              refine gs rfl ?_
              refine gs rfl ?_
              refine and_2 rfl (vin rfl) ?_
              refine gs rfl ?_
              refine gs rfl ?_
              refine gs rfl ?_
              refine and_3 (Nat.le_of_ble_eq_true rfl) rfl (vin rfl) ?_
              refine gs rfl ?_
              refine gs rfl ?_
              refine gs rfl ?_
              refine gs rfl ?_
              refine gs rfl ?_
              refine gs rfl ?_
              refine gs rfl ?_
              refine gs rfl ?_
              refine gs rfl ?_
              refine gs rfl ?_
              refine gs rfl ?_
              refine gs rfl ?_
              refine and_2 rfl (vin rfl) ?_
              refine gs rfl ?_
              refine gs rfl ?_
              refine gs rfl ?_
              refine gs rfl ?_
              refine gs rfl ?_
              refine gs rfl ?_
              refine gs rfl ?_
              refine gs rfl ?_
              refine gs rfl ?_
              refine gs rfl ?_
              refine and_3 (Nat.le_of_ble_eq_true rfl) rfl (vin rfl) ?_
              refine gs rfl ?_
              refine gs rfl ?_
              refine gs rfl ?_
              refine gs rfl ?_
              refine gs rfl ?_
              refine and_2 rfl (vin rfl) ?_
              refine gs rfl ?_
              refine gs rfl ?_
              refine gs rfl ?_
              refine and_3 (Nat.le_of_ble_eq_true rfl) rfl (vin rfl) ?_
              refine gs rfl ?_
              refine gs rfl ?_
              refine gs rfl ?_
              refine gs rfl ?_
              refine gs rfl ?_
              refine gs rfl ?_
              refine gs rfl ?_
              refine gs rfl ?_
              refine gs rfl ?_
              refine gs rfl ?_
              refine gs rfl ?_
              refine gs rfl ?_
              refine and_2 rfl (vin rfl) ?_
              refine gs rfl ?_
              refine gs rfl ?_
              refine gs rfl ?_
              refine gs rfl ?_
              refine gs rfl ?_
              refine gs rfl ?_
              refine gs rfl ?_
              refine gs rfl ?_
              refine gs rfl ?_
              refine gs rfl ?_
              refine and_3 (Nat.le_of_ble_eq_true rfl) rfl (vin rfl) ?_
              refine gs rfl ?_
              refine gs rfl ?_
              refine gs rfl ?_
              refine gs rfl ?_
              refine gs rfl ?_
              refine and_2 rfl (vin rfl) ?_
              refine gs rfl ?_
              refine gs rfl ?_
              refine gs rfl ?_
              refine and_3 (Nat.le_of_ble_eq_true rfl) rfl (vin rfl) ?_
              refine gs rfl ?_
              refine gs rfl ?_
              refine gs rfl ?_
              refine gs rfl ?_
              refine gs rfl ?_
              refine gs rfl ?_
              refine gs rfl ?_
              refine gs rfl ?_
              refine gs rfl ?_
              refine and_2 rfl (vin rfl) ?_
              refine gs rfl ?_
              refine and_i rfl ?_
              refine gs rfl ?_
              refine gs rfl ?_
              refine gs rfl ?_
              refine gs rfl ?_
              refine gs rfl ?_
              refine gs rfl ?_
              refine and_i (Or.inl rfl) ?_
              refine gwst (congrArg (fun z => Value.int z :: _) (alen_k (n := 6) (by rfl))) ?_
              refine gs rfl ?_
              refine gs rfl ?_
              refine gs rfl ?_
              refine gs rfl ?_
              refine gs rfl ?_
              refine and_2 rfl (Or.inr rfl) ?_
              exact rfl
            · have d22 : ¬ ((s3).toInt ≤ 4) := fun q => c21 ((le_k (by rfl) (by rfl)).mpr q)
              refine gs rfl ?_
              refine gs rfl ?_
              refine gs rfl ?_
              refine gs rfl ?_
              refine gs rfl ?_
              refine gs rfl ?_
              refine gs rfl ?_
              refine gs rfl ?_
              refine gs rfl ?_
              refine gs rfl ?_
              refine gs rfl ?_
              refine gs rfl ?_
              refine gs rfl ?_
              refine gs rfl ?_
              refine gs rfl ?_
              refine and_3 (Nat.le_of_ble_eq_true rfl) rfl (vin rfl) ?_
              refine gs rfl ?_
              refine gs rfl ?_
              refine gs rfl ?_
              refine gs rfl ?_
              refine gs rfl ?_
              refine gs rfl ?_
              refine gs rfl ?_
              refine and_3 (Nat.le_of_ble_eq_true rfl) (Nat.le_of_ble_eq_true rfl) trivial ?_
              refine gs rfl ?_
              refine gs rfl ?_
              refine gs rfl ?_
              refine gs rfl ?_
              refine gs rfl ?_
              refine ifs (fun c26 => ?_) (fun c26 => ?_)
              · have d27 : (s3).toInt ≤ 5 := (le_k (by rfl) (by rfl)).mp c26
                refine gs rfl ?_
                refine gs rfl ?_
                refine gs rfl ?_
                refine gs rfl ?_
                refine and_i rfl ?_
                refine FRg rfl (fun f => ?_)
                refine gs rfl ?_
                refine gs rfl ?_
                refine gs rfl ?_
                refine gs rfl ?_
                refine gs rfl ?_
                refine gs rfl ?_
                refine and_2 rfl (vin rfl) ?_
                refine gs rfl ?_
                refine gs rfl ?_
                refine gs rfl ?_
                refine gs rfl ?_
                refine gs rfl ?_
                refine gs rfl ?_
                refine gs rfl ?_
                refine gs rfl ?_
                refine and_2 rfl (vin rfl) ?_
                refine gs rfl ?_
                refine gs rfl ?_
                refine gs rfl ?_
                refine gs rfl ?_
                refine gs rfl ?_
                refine gs rfl ?_
                refine gs rfl ?_
                refine gs rfl ?_
                refine gs rfl ?_
                refine and_2 rfl (vin rfl) ?_
                refine gs rfl ?_
                refine and_i (Nat.le_of_ble_eq_true rfl) (cl0 (Nat.le_of_ble_eq_true rfl) (and_i (Nat.le_of_ble_eq_true rfl) ?_))
                refine gs rfl ?_
                refine gs rfl ?_
                refine gs rfl ?_
                refine gs rfl ?_
                refine and_i (Nat.le_of_ble_eq_true rfl) (cl0 (Nat.le_of_ble_eq_true rfl) (and_i (Nat.le_of_ble_eq_true rfl) ?_))
                refine gs rfl ?_
                refine gs rfl ?_
                refine gs rfl ?_
                refine ifF ((fun q => absurd ((lt_k (a := (s3).toInt) (b := 1) (by rfl) (by rfl)).mp q) (by omega))) ?_
                refine gs rfl ?_
                refine gs rfl ?_
                refine gs rfl ?_
                refine ifF ((fun q => absurd ((lt_k (a := 8) (b := (s3).toInt) (by rfl) (by rfl)).mp q) (by omega))) ?_
                refine gs rfl ?_
                refine gs rfl ?_
                refine gs rfl ?_
                refine and_2 rfl (Or.inr rfl) ?_
                refine gs rfl ?_
                refine gs rfl ?_
                refine gs rfl ?_
                refine gs rfl ?_
                refine gs rfl ?_
                refine and_2 rfl (vin rfl) ?_
                refine gs rfl ?_
                obtain ⟨j28, e29, x30⟩ := nat_of (x := s3) (lo := 5) (hi := 5) (by omega) (by omega)
                obtain rfl : j28 = 5 := by omega
                have x30q : s3 = (5 : Int32) := x30
                clear x30
                subst x30q
                refine gs rfl ?_
                refine gs rfl ?_
                refine gs rfl ?_
                refine gs rfl ?_
                refine gs rfl ?_
                refine gs rfl ?_
                refine gs rfl ?_
                refine gs rfl ?_
                refine gs rfl ?_
                refine gs rfl ?_
                refine gs rfl ?_
                refine gs rfl ?_
                refine gs rfl ?_
                refine gs rfl ?_
                refine gs rfl ?_
                refine and_2 rfl (vin rfl) ?_
                refine gs rfl ?_
                refine gs rfl ?_
                refine gs rfl ?_
                refine gs rfl ?_
                refine gs rfl ?_
                refine gs rfl ?_
                refine gs rfl ?_
                refine gs rfl ?_
                refine gs rfl ?_
                refine gs rfl ?_
                refine and_3 (Nat.le_of_ble_eq_true rfl) rfl (vin rfl) ?_
                refine gs rfl ?_
                refine gs rfl ?_
                refine gs rfl ?_
                refine gs rfl ?_
                refine gs rfl ?_
                refine and_2 rfl (vin rfl) ?_
                refine gs rfl ?_
                refine gs rfl ?_
                refine gs rfl ?_
                refine and_3 (Nat.le_of_ble_eq_true rfl) rfl (vin rfl) ?_
                refine gs rfl ?_
                refine gs rfl ?_
                refine gs rfl ?_
                refine gs rfl ?_
                refine gs rfl ?_
                refine gs rfl ?_
                refine gs rfl ?_
                refine gs rfl ?_
                refine gs rfl ?_
                refine gs rfl ?_
                refine gs rfl ?_
                refine gs rfl ?_
                refine and_2 rfl (vin rfl) ?_
                refine gs rfl ?_
                refine gs rfl ?_
                refine gs rfl ?_
                refine gs rfl ?_
                refine gs rfl ?_
                refine gs rfl ?_
                refine gs rfl ?_
                refine gs rfl ?_
                refine gs rfl ?_
                refine gs rfl ?_
                refine and_3 (Nat.le_of_ble_eq_true rfl) rfl (vin rfl) ?_
                refine gs rfl ?_
                refine gs rfl ?_
                refine gs rfl ?_
                refine gs rfl ?_
                refine gs rfl ?_
                refine and_2 rfl (vin rfl) ?_
                refine gs rfl ?_
                refine gs rfl ?_
                refine gs rfl ?_
                refine and_3 (Nat.le_of_ble_eq_true rfl) rfl (vin rfl) ?_
                refine gs rfl ?_
                refine gs rfl ?_
                refine gs rfl ?_
                refine gs rfl ?_
                refine gs rfl ?_
                refine gs rfl ?_
                refine gs rfl ?_
                refine gs rfl ?_
                refine gs rfl ?_
                refine gs rfl ?_
                refine gs rfl ?_
                refine gs rfl ?_
                refine and_2 rfl (vin rfl) ?_
                refine gs rfl ?_
                refine gs rfl ?_
                refine gs rfl ?_
                refine gs rfl ?_
                refine gs rfl ?_
                refine gs rfl ?_
                refine gs rfl ?_
                refine gs rfl ?_
                refine gs rfl ?_
                refine gs rfl ?_
                refine and_3 (Nat.le_of_ble_eq_true rfl) rfl (vin rfl) ?_
                refine gs rfl ?_
                refine gs rfl ?_
                refine gs rfl ?_
                refine gs rfl ?_
                refine gs rfl ?_
                refine and_2 rfl (vin rfl) ?_
                refine gs rfl ?_
                refine gs rfl ?_
                refine gs rfl ?_
                refine and_3 (Nat.le_of_ble_eq_true rfl) rfl (vin rfl) ?_
                refine gs rfl ?_
                refine gs rfl ?_
                refine gs rfl ?_
                refine gs rfl ?_
                refine gs rfl ?_
                refine gs rfl ?_
                refine gs rfl ?_
                refine gs rfl ?_
                refine gs rfl ?_
                refine gs rfl ?_
                refine gs rfl ?_
                refine gs rfl ?_
                refine and_2 rfl (vin rfl) ?_
                refine gs rfl ?_
                refine gs rfl ?_
                refine gs rfl ?_
                refine gs rfl ?_
                refine gs rfl ?_
                refine gs rfl ?_
                refine gs rfl ?_
                refine gs rfl ?_
                refine gs rfl ?_
                refine gs rfl ?_
                refine and_3 (Nat.le_of_ble_eq_true rfl) rfl (vin rfl) ?_
                refine gs rfl ?_
                refine gs rfl ?_
                refine gs rfl ?_
                refine gs rfl ?_
                refine gs rfl ?_
                refine and_2 rfl (vin rfl) ?_
                refine gs rfl ?_
                refine gs rfl ?_
                refine gs rfl ?_
                refine and_3 (Nat.le_of_ble_eq_true rfl) rfl (vin rfl) ?_
                refine gs rfl ?_
                refine gs rfl ?_
                refine gs rfl ?_
                refine gs rfl ?_
                refine gs rfl ?_
                refine gs rfl ?_
                refine gs rfl ?_
                refine gs rfl ?_
                refine gs rfl ?_
                refine gs rfl ?_
                refine gs rfl ?_
                refine gs rfl ?_
                refine and_2 rfl (vin rfl) ?_
                refine gs rfl ?_
                refine gs rfl ?_
                refine gs rfl ?_
                refine gs rfl ?_
                refine gs rfl ?_
                refine gs rfl ?_
                refine gs rfl ?_
                refine gs rfl ?_
                refine gs rfl ?_
                refine gs rfl ?_
                refine and_3 (Nat.le_of_ble_eq_true rfl) rfl (vin rfl) ?_
                refine gs rfl ?_
                refine gs rfl ?_
                refine gs rfl ?_
                refine gs rfl ?_
                refine gs rfl ?_
                refine and_2 rfl (vin rfl) ?_
                refine gs rfl ?_
                refine gs rfl ?_
                refine gs rfl ?_
                refine and_3 (Nat.le_of_ble_eq_true rfl) rfl (vin rfl) ?_
                refine gs rfl ?_
                refine gs rfl ?_
                refine gs rfl ?_
                refine gs rfl ?_
                refine gs rfl ?_
                refine gs rfl ?_
                refine gs rfl ?_
                refine gs rfl ?_
                refine gs rfl ?_
                refine and_2 rfl (vin rfl) ?_
                refine gs rfl ?_
                refine and_i rfl ?_
                refine gs rfl ?_
                refine gs rfl ?_
                refine gs rfl ?_
                refine gs rfl ?_
                refine gs rfl ?_
                refine gs rfl ?_
                refine and_i (Or.inl rfl) ?_
                refine gwst (congrArg (fun z => Value.int z :: _) (alen_k (n := 6) (by rfl))) ?_
                refine gs rfl ?_
                refine gs rfl ?_
                refine gs rfl ?_
                refine gs rfl ?_
                refine gs rfl ?_
                refine and_2 rfl (Or.inr rfl) ?_
                exact rfl
              · have d27 : ¬ ((s3).toInt ≤ 5) := fun q => c26 ((le_k (by rfl) (by rfl)).mpr q)
                refine gs rfl ?_
                refine gs rfl ?_
                refine gs rfl ?_
                refine gs rfl ?_
                refine gs rfl ?_
                refine gs rfl ?_
                refine gs rfl ?_
                refine gs rfl ?_
                refine gs rfl ?_
                refine gs rfl ?_
                refine gs rfl ?_
                refine gs rfl ?_
                refine gs rfl ?_
                refine gs rfl ?_
                refine gs rfl ?_
                refine and_3 (Nat.le_of_ble_eq_true rfl) rfl (vin rfl) ?_
                refine gs rfl ?_
                refine gs rfl ?_
                refine gs rfl ?_
                refine gs rfl ?_
                refine gs rfl ?_
                refine gs rfl ?_
                refine gs rfl ?_
                refine and_3 (Nat.le_of_ble_eq_true rfl) (Nat.le_of_ble_eq_true rfl) trivial ?_
                refine gs rfl ?_
                refine gs rfl ?_
                refine gs rfl ?_
                refine gs rfl ?_
                refine gs rfl ?_
                refine ifs (fun c31 => ?_) (fun c31 => ?_)
                · have d32 : (s3).toInt ≤ 6 := (le_k (by rfl) (by rfl)).mp c31
                  refine gs rfl ?_
                  refine gs rfl ?_
                  refine gs rfl ?_
                  refine gs rfl ?_
                  refine and_i rfl ?_
                  refine FRg rfl (fun f => ?_)
                  refine gs rfl ?_
                  refine gs rfl ?_
                  refine gs rfl ?_
                  refine gs rfl ?_
                  refine gs rfl ?_
                  refine gs rfl ?_
                  refine and_2 rfl (vin rfl) ?_
                  refine gs rfl ?_
                  refine gs rfl ?_
                  refine gs rfl ?_
                  refine gs rfl ?_
                  refine gs rfl ?_
                  refine gs rfl ?_
                  refine gs rfl ?_
                  refine gs rfl ?_
                  refine and_2 rfl (vin rfl) ?_
                  refine gs rfl ?_
                  refine gs rfl ?_
                  refine gs rfl ?_
                  refine gs rfl ?_
                  refine gs rfl ?_
                  refine gs rfl ?_
                  refine gs rfl ?_
                  refine gs rfl ?_
                  refine gs rfl ?_
                  refine and_2 rfl (vin rfl) ?_
                  refine gs rfl ?_
                  refine and_i (Nat.le_of_ble_eq_true rfl) (cl0 (Nat.le_of_ble_eq_true rfl) (and_i (Nat.le_of_ble_eq_true rfl) ?_))
                  refine gs rfl ?_
                  refine gs rfl ?_
                  refine gs rfl ?_
                  refine gs rfl ?_
                  refine and_i (Nat.le_of_ble_eq_true rfl) (cl0 (Nat.le_of_ble_eq_true rfl) (and_i (Nat.le_of_ble_eq_true rfl) ?_))
                  refine gs rfl ?_
                  refine gs rfl ?_
                  refine gs rfl ?_
                  refine ifF ((fun q => absurd ((lt_k (a := (s3).toInt) (b := 1) (by rfl) (by rfl)).mp q) (by omega))) ?_
                  refine gs rfl ?_
                  refine gs rfl ?_
                  refine gs rfl ?_
                  refine ifF ((fun q => absurd ((lt_k (a := 8) (b := (s3).toInt) (by rfl) (by rfl)).mp q) (by omega))) ?_
                  refine gs rfl ?_
                  refine gs rfl ?_
                  refine gs rfl ?_
                  refine and_2 rfl (Or.inr rfl) ?_
                  refine gs rfl ?_
                  refine gs rfl ?_
                  refine gs rfl ?_
                  refine gs rfl ?_
                  refine gs rfl ?_
                  refine and_2 rfl (vin rfl) ?_
                  refine gs rfl ?_
                  obtain ⟨j33, e34, x35⟩ := nat_of (x := s3) (lo := 6) (hi := 6) (by omega) (by omega)
                  obtain rfl : j33 = 6 := by omega
                  have x35q : s3 = (6 : Int32) := x35
                  clear x35
                  subst x35q
                  refine gs rfl ?_
                  refine gs rfl ?_
                  refine gs rfl ?_
                  refine gs rfl ?_
                  refine gs rfl ?_
                  refine gs rfl ?_
                  refine gs rfl ?_
                  refine gs rfl ?_
                  refine gs rfl ?_
                  refine gs rfl ?_
                  refine gs rfl ?_
                  refine gs rfl ?_
                  refine gs rfl ?_
                  refine gs rfl ?_
                  refine gs rfl ?_
                  refine and_2 rfl (vin rfl) ?_
                  refine gs rfl ?_
                  refine gs rfl ?_
                  refine gs rfl ?_
                  refine gs rfl ?_
                  refine gs rfl ?_
                  refine gs rfl ?_
                  refine gs rfl ?_
                  refine gs rfl ?_
                  refine gs rfl ?_
                  refine gs rfl ?_
                  refine and_3 (Nat.le_of_ble_eq_true rfl) rfl (vin rfl) ?_
                  refine gs rfl ?_
                  refine gs rfl ?_
                  refine gs rfl ?_
                  refine gs rfl ?_
                  refine gs rfl ?_
                  refine and_2 rfl (vin rfl) ?_
                  refine gs rfl ?_
                  refine gs rfl ?_
                  refine gs rfl ?_
                  refine and_3 (Nat.le_of_ble_eq_true rfl) rfl (vin rfl) ?_
                  refine gs rfl ?_
                  refine gs rfl ?_
                  refine gs rfl ?_
                  refine gs rfl ?_
                  refine gs rfl ?_
                  refine gs rfl ?_
                  refine gs rfl ?_
                  refine gs rfl ?_
                  refine gs rfl ?_
                  refine gs rfl ?_
                  refine gs rfl ?_
                  refine gs rfl ?_
                  refine and_2 rfl (vin rfl) ?_
                  refine gs rfl ?_
                  refine gs rfl ?_
                  refine gs rfl ?_
                  refine gs rfl ?_
                  refine gs rfl ?_
                  refine gs rfl ?_
                  refine gs rfl ?_
                  refine gs rfl ?_
                  refine gs rfl ?_
                  refine gs rfl ?_
                  refine and_3 (Nat.le_of_ble_eq_true rfl) rfl (vin rfl) ?_
                  refine gs rfl ?_
                  refine gs rfl ?_
                  refine gs rfl ?_
                  refine gs rfl ?_
                  refine gs rfl ?_
                  refine and_2 rfl (vin rfl) ?_
                  refine gs rfl ?_
                  refine gs rfl ?_
                  refine gs rfl ?_
                  refine and_3 (Nat.le_of_ble_eq_true rfl) rfl (vin rfl) ?_
                  refine gs rfl ?_
                  refine gs rfl ?_
                  refine gs rfl ?_
                  refine gs rfl ?_
                  refine gs rfl ?_
                  refine gs rfl ?_
                  refine gs rfl ?_
                  refine gs rfl ?_
                  refine gs rfl ?_
                  refine gs rfl ?_
                  refine gs rfl ?_
                  refine gs rfl ?_
                  refine and_2 rfl (vin rfl) ?_
                  refine gs rfl ?_
                  refine gs rfl ?_
                  refine gs rfl ?_
                  refine gs rfl ?_
                  refine gs rfl ?_
                  refine gs rfl ?_
                  refine gs rfl ?_
                  refine gs rfl ?_
                  refine gs rfl ?_
                  refine gs rfl ?_
                  refine and_3 (Nat.le_of_ble_eq_true rfl) rfl (vin rfl) ?_
                  refine gs rfl ?_
                  refine gs rfl ?_
                  refine gs rfl ?_
                  refine gs rfl ?_
                  refine gs rfl ?_
                  refine and_2 rfl (vin rfl) ?_
                  refine gs rfl ?_
                  refine gs rfl ?_
                  refine gs rfl ?_
                  refine and_3 (Nat.le_of_ble_eq_true rfl) rfl (vin rfl) ?_
                  refine gs rfl ?_
                  refine gs rfl ?_
                  refine gs rfl ?_
                  refine gs rfl ?_
                  refine gs rfl ?_
                  refine gs rfl ?_
                  refine gs rfl ?_
                  refine gs rfl ?_
                  refine gs rfl ?_
                  refine gs rfl ?_
                  refine gs rfl ?_
                  refine gs rfl ?_
                  refine and_2 rfl (vin rfl) ?_
                  refine gs rfl ?_
                  refine gs rfl ?_
                  refine gs rfl ?_
                  refine gs rfl ?_
                  refine gs rfl ?_
                  refine gs rfl ?_
                  refine gs rfl ?_
                  refine gs rfl ?_
                  refine gs rfl ?_
                  refine gs rfl ?_
                  refine and_3 (Nat.le_of_ble_eq_true rfl) rfl (vin rfl) ?_
                  refine gs rfl ?_
                  refine gs rfl ?_
                  refine gs rfl ?_
                  refine gs rfl ?_
                  refine gs rfl ?_
                  refine and_2 rfl (vin rfl) ?_
                  refine gs rfl ?_
                  refine gs rfl ?_
                  refine gs rfl ?_
                  refine and_3 (Nat.le_of_ble_eq_true rfl) rfl (vin rfl) ?_
                  refine gs rfl ?_
                  refine gs rfl ?_
                  refine gs rfl ?_
                  refine gs rfl ?_
                  refine gs rfl ?_
                  refine gs rfl ?_
                  refine gs rfl ?_
                  refine gs rfl ?_
                  refine gs rfl ?_
                  refine gs rfl ?_
                  refine gs rfl ?_
                  refine gs rfl ?_
                  refine and_2 rfl (vin rfl) ?_
                  refine gs rfl ?_
                  refine gs rfl ?_
                  refine gs rfl ?_
                  refine gs rfl ?_
                  refine gs rfl ?_
                  refine gs rfl ?_
                  refine gs rfl ?_
                  refine gs rfl ?_
                  refine gs rfl ?_
                  refine gs rfl ?_
                  refine and_3 (Nat.le_of_ble_eq_true rfl) rfl (vin rfl) ?_
                  refine gs rfl ?_
                  refine gs rfl ?_
                  refine gs rfl ?_
                  refine gs rfl ?_
                  refine gs rfl ?_
                  refine and_2 rfl (vin rfl) ?_
                  refine gs rfl ?_
                  refine gs rfl ?_
                  refine gs rfl ?_
                  refine and_3 (Nat.le_of_ble_eq_true rfl) rfl (vin rfl) ?_
                  refine gs rfl ?_
                  refine gs rfl ?_
                  refine gs rfl ?_
                  refine gs rfl ?_
                  refine gs rfl ?_
                  refine gs rfl ?_
                  refine gs rfl ?_
                  refine gs rfl ?_
                  refine gs rfl ?_
                  refine gs rfl ?_
                  refine gs rfl ?_
                  refine gs rfl ?_
                  refine and_2 rfl (vin rfl) ?_
                  refine gs rfl ?_
                  refine gs rfl ?_
                  refine gs rfl ?_
                  refine gs rfl ?_
                  refine gs rfl ?_
                  refine gs rfl ?_
                  refine gs rfl ?_
                  refine gs rfl ?_
                  refine gs rfl ?_
                  refine gs rfl ?_
                  refine and_3 (Nat.le_of_ble_eq_true rfl) rfl (vin rfl) ?_
                  refine gs rfl ?_
                  refine gs rfl ?_
                  refine gs rfl ?_
                  refine gs rfl ?_
                  refine gs rfl ?_
                  refine and_2 rfl (vin rfl) ?_
                  refine gs rfl ?_
                  refine gs rfl ?_
                  refine gs rfl ?_
                  refine and_3 (Nat.le_of_ble_eq_true rfl) rfl (vin rfl) ?_
                  refine gs rfl ?_
                  refine gs rfl ?_
                  refine gs rfl ?_
                  refine gs rfl ?_
                  refine gs rfl ?_
                  refine gs rfl ?_
                  refine gs rfl ?_
                  refine gs rfl ?_
                  refine gs rfl ?_
                  refine and_2 rfl (vin rfl) ?_
                  refine gs rfl ?_
                  refine and_i rfl ?_
                  refine gs rfl ?_
                  refine gs rfl ?_
                  refine gs rfl ?_
                  refine gs rfl ?_
                  refine gs rfl ?_
                  refine gs rfl ?_
                  refine and_i (Or.inl rfl) ?_
                  refine gwst (congrArg (fun z => Value.int z :: _) (alen_k (n := 6) (by rfl))) ?_
                  refine gs rfl ?_
                  refine gs rfl ?_
                  refine gs rfl ?_
                  refine gs rfl ?_
                  refine gs rfl ?_
                  refine and_2 rfl (Or.inr rfl) ?_
                  exact rfl
                · have d32 : ¬ ((s3).toInt ≤ 6) := fun q => c31 ((le_k (by rfl) (by rfl)).mpr q)
                  refine gs rfl ?_
                  refine gs rfl ?_
                  refine gs rfl ?_
                  refine gs rfl ?_
                  refine gs rfl ?_
                  refine gs rfl ?_
                  refine gs rfl ?_
                  refine gs rfl ?_
                  refine gs rfl ?_
                  refine gs rfl ?_
                  refine gs rfl ?_
                  refine gs rfl ?_
                  refine gs rfl ?_
                  refine gs rfl ?_
                  refine gs rfl ?_
                  refine and_3 (Nat.le_of_ble_eq_true rfl) rfl (vin rfl) ?_
                  refine gs rfl ?_
                  refine gs rfl ?_
                  refine gs rfl ?_
                  refine gs rfl ?_
                  refine gs rfl ?_
                  refine gs rfl ?_
                  refine gs rfl ?_
                  refine and_3 (Nat.le_of_ble_eq_true rfl) (Nat.le_of_ble_eq_true rfl) trivial ?_
                  refine gs rfl ?_
                  refine gs rfl ?_
                  refine gs rfl ?_
                  refine gs rfl ?_
                  refine gs rfl ?_
                  refine ifs (fun c36 => ?_) (fun c36 => ?_)
                  · have d37 : (s3).toInt ≤ 7 := (le_k (by rfl) (by rfl)).mp c36
                    refine gs rfl ?_
                    refine gs rfl ?_
                    refine gs rfl ?_
                    refine gs rfl ?_
                    refine and_i rfl ?_
                    refine FRg rfl (fun f => ?_)
                    refine gs rfl ?_
                    refine gs rfl ?_
                    refine gs rfl ?_
                    refine gs rfl ?_
                    refine gs rfl ?_
                    refine gs rfl ?_
                    refine and_2 rfl (vin rfl) ?_
                    refine gs rfl ?_
                    refine gs rfl ?_
                    refine gs rfl ?_
                    refine gs rfl ?_
                    refine gs rfl ?_
                    refine gs rfl ?_
                    refine gs rfl ?_
                    refine gs rfl ?_
                    refine and_2 rfl (vin rfl) ?_
                    refine gs rfl ?_
                    refine gs rfl ?_
                    refine gs rfl ?_
                    refine gs rfl ?_
                    refine gs rfl ?_
                    refine gs rfl ?_
                    refine gs rfl ?_
                    refine gs rfl ?_
                    refine gs rfl ?_
                    refine and_2 rfl (vin rfl) ?_
                    refine gs rfl ?_
                    refine and_i (Nat.le_of_ble_eq_true rfl) (cl0 (Nat.le_of_ble_eq_true rfl) (and_i (Nat.le_of_ble_eq_true rfl) ?_))
                    refine gs rfl ?_
                    refine gs rfl ?_
                    refine gs rfl ?_
                    refine gs rfl ?_
                    refine and_i (Nat.le_of_ble_eq_true rfl) (cl0 (Nat.le_of_ble_eq_true rfl) (and_i (Nat.le_of_ble_eq_true rfl) ?_))
                    refine gs rfl ?_
                    refine gs rfl ?_
                    refine gs rfl ?_
                    refine ifF ((fun q => absurd ((lt_k (a := (s3).toInt) (b := 1) (by rfl) (by rfl)).mp q) (by omega))) ?_
                    refine gs rfl ?_
                    refine gs rfl ?_
                    refine gs rfl ?_
                    refine ifF ((fun q => absurd ((lt_k (a := 8) (b := (s3).toInt) (by rfl) (by rfl)).mp q) (by omega))) ?_
                    refine gs rfl ?_
                    refine gs rfl ?_
                    refine gs rfl ?_
                    refine and_2 rfl (Or.inr rfl) ?_
                    refine gs rfl ?_
                    refine gs rfl ?_
                    refine gs rfl ?_
                    refine gs rfl ?_
                    refine gs rfl ?_
                    refine and_2 rfl (vin rfl) ?_
                    refine gs rfl ?_
                    obtain ⟨j38, e39, x40⟩ := nat_of (x := s3) (lo := 7) (hi := 7) (by omega) (by omega)
                    obtain rfl : j38 = 7 := by omega
                    have x40q : s3 = (7 : Int32) := x40
                    clear x40
                    subst x40q
                    refine gs rfl ?_
                    refine gs rfl ?_
                    refine gs rfl ?_
                    refine gs rfl ?_
                    refine gs rfl ?_
                    refine gs rfl ?_
                    refine gs rfl ?_
                    refine gs rfl ?_
                    refine gs rfl ?_
                    refine gs rfl ?_
                    refine gs rfl ?_
                    refine gs rfl ?_
                    refine gs rfl ?_
                    refine gs rfl ?_
                    refine gs rfl ?_
                    refine and_2 rfl (vin rfl) ?_
                    refine gs rfl ?_
                    refine gs rfl ?_
                    refine gs rfl ?_
                    refine gs rfl ?_
                    refine gs rfl ?_
                    refine gs rfl ?_
                    refine gs rfl ?_
                    refine gs rfl ?_
                    refine gs rfl ?_
                    refine gs rfl ?_
                    refine and_3 (Nat.le_of_ble_eq_true rfl) rfl (vin rfl) ?_
                    refine gs rfl ?_
                    refine gs rfl ?_
                    refine gs rfl ?_
                    refine gs rfl ?_
                    refine gs rfl ?_
                    refine and_2 rfl (vin rfl) ?_
                    refine gs rfl ?_
                    refine gs rfl ?_
                    refine gs rfl ?_
                    refine and_3 (Nat.le_of_ble_eq_true rfl) rfl (vin rfl) ?_
                    refine gs rfl ?_
                    refine gs rfl ?_
                    refine gs rfl ?_
                    refine gs rfl ?_
                    refine gs rfl ?_
                    refine gs rfl ?_
                    refine gs rfl ?_
                    refine gs rfl ?_
                    refine gs rfl ?_
                    refine gs rfl ?_
                    refine gs rfl ?_
                    refine gs rfl ?_
                    refine and_2 rfl (vin rfl) ?_
                    refine gs rfl ?_
                    refine gs rfl ?_
                    refine gs rfl ?_
                    refine gs rfl ?_
                    refine gs rfl ?_
                    refine gs rfl ?_
                    refine gs rfl ?_
                    refine gs rfl ?_
                    refine gs rfl ?_
                    refine gs rfl ?_
                    refine and_3 (Nat.le_of_ble_eq_true rfl) rfl (vin rfl) ?_
                    refine gs rfl ?_
                    refine gs rfl ?_
                    refine gs rfl ?_
                    refine gs rfl ?_
                    refine gs rfl ?_
                    refine and_2 rfl (vin rfl) ?_
                    refine gs rfl ?_
                    refine gs rfl ?_
                    refine gs rfl ?_
                    refine and_3 (Nat.le_of_ble_eq_true rfl) rfl (vin rfl) ?_
                    refine gs rfl ?_
                    refine gs rfl ?_
                    refine gs rfl ?_
                    refine gs rfl ?_
                    refine gs rfl ?_
                    refine gs rfl ?_
                    refine gs rfl ?_
                    refine gs rfl ?_
                    refine gs rfl ?_
                    refine gs rfl ?_
                    refine gs rfl ?_
                    refine gs rfl ?_
                    refine and_2 rfl (vin rfl) ?_
                    refine gs rfl ?_
                    refine gs rfl ?_
                    refine gs rfl ?_
                    refine gs rfl ?_
                    refine gs rfl ?_
                    refine gs rfl ?_
                    refine gs rfl ?_
                    refine gs rfl ?_
                    refine gs rfl ?_
                    refine gs rfl ?_
                    refine and_3 (Nat.le_of_ble_eq_true rfl) rfl (vin rfl) ?_
                    refine gs rfl ?_
                    refine gs rfl ?_
                    refine gs rfl ?_
                    refine gs rfl ?_
                    refine gs rfl ?_
                    refine and_2 rfl (vin rfl) ?_
                    refine gs rfl ?_
                    refine gs rfl ?_
                    refine gs rfl ?_
                    refine and_3 (Nat.le_of_ble_eq_true rfl) rfl (vin rfl) ?_
                    refine gs rfl ?_
                    refine gs rfl ?_
                    refine gs rfl ?_
                    refine gs rfl ?_
                    refine gs rfl ?_
                    refine gs rfl ?_
                    refine gs rfl ?_
                    refine gs rfl ?_
                    refine gs rfl ?_
                    refine gs rfl ?_
                    refine gs rfl ?_
                    refine gs rfl ?_
                    refine and_2 rfl (vin rfl) ?_
                    refine gs rfl ?_
                    refine gs rfl ?_
                    refine gs rfl ?_
                    refine gs rfl ?_
                    refine gs rfl ?_
                    refine gs rfl ?_
                    refine gs rfl ?_
                    refine gs rfl ?_
                    refine gs rfl ?_
                    refine gs rfl ?_
                    refine and_3 (Nat.le_of_ble_eq_true rfl) rfl (vin rfl) ?_
                    refine gs rfl ?_
                    refine gs rfl ?_
                    refine gs rfl ?_
                    refine gs rfl ?_
                    refine gs rfl ?_
                    refine and_2 rfl (vin rfl) ?_
                    refine gs rfl ?_
                    refine gs rfl ?_
                    refine gs rfl ?_
                    refine and_3 (Nat.le_of_ble_eq_true rfl) rfl (vin rfl) ?_
                    refine gs rfl ?_
                    refine gs rfl ?_
                    refine gs rfl ?_
                    refine gs rfl ?_
                    refine gs rfl ?_
                    refine gs rfl ?_
                    refine gs rfl ?_
                    refine gs rfl ?_
                    refine gs rfl ?_
                    refine gs rfl ?_
                    refine gs rfl ?_
                    refine gs rfl ?_
                    refine and_2 rfl (vin rfl) ?_
                    refine gs rfl ?_
                    refine gs rfl ?_
                    refine gs rfl ?_
                    refine gs rfl ?_
                    refine gs rfl ?_
                    refine gs rfl ?_
                    refine gs rfl ?_
                    refine gs rfl ?_
                    refine gs rfl ?_
                    refine gs rfl ?_
                    refine and_3 (Nat.le_of_ble_eq_true rfl) rfl (vin rfl) ?_
                    refine gs rfl ?_
                    refine gs rfl ?_
                    refine gs rfl ?_
                    refine gs rfl ?_
                    refine gs rfl ?_
                    refine and_2 rfl (vin rfl) ?_
                    refine gs rfl ?_
                    refine gs rfl ?_
                    refine gs rfl ?_
                    refine and_3 (Nat.le_of_ble_eq_true rfl) rfl (vin rfl) ?_
                    refine gs rfl ?_
                    refine gs rfl ?_
                    refine gs rfl ?_
                    refine gs rfl ?_
                    refine gs rfl ?_
                    refine gs rfl ?_
                    refine gs rfl ?_
                    refine gs rfl ?_
                    refine gs rfl ?_
                    refine gs rfl ?_
                    refine gs rfl ?_
                    refine gs rfl ?_
                    refine and_2 rfl (vin rfl) ?_
                    refine gs rfl ?_
                    refine gs rfl ?_
                    refine gs rfl ?_
                    refine gs rfl ?_
                    refine gs rfl ?_
                    refine gs rfl ?_
                    refine gs rfl ?_
                    refine gs rfl ?_
                    refine gs rfl ?_
                    refine gs rfl ?_
                    refine and_3 (Nat.le_of_ble_eq_true rfl) rfl (vin rfl) ?_
                    refine gs rfl ?_
                    refine gs rfl ?_
                    refine gs rfl ?_
                    refine gs rfl ?_
                    refine gs rfl ?_
                    refine and_2 rfl (vin rfl) ?_
                    refine gs rfl ?_
                    refine gs rfl ?_
                    refine gs rfl ?_
                    refine and_3 (Nat.le_of_ble_eq_true rfl) rfl (vin rfl) ?_
                    refine gs rfl ?_
                    refine gs rfl ?_
                    refine gs rfl ?_
                    refine gs rfl ?_
                    refine gs rfl ?_
                    refine gs rfl ?_
                    refine gs rfl ?_
                    refine gs rfl ?_
                    refine gs rfl ?_
                    refine gs rfl ?_
                    refine gs rfl ?_
                    refine gs rfl ?_
                    refine and_2 rfl (vin rfl) ?_
                    refine gs rfl ?_
                    refine gs rfl ?_
                    refine gs rfl ?_
                    refine gs rfl ?_
                    refine gs rfl ?_
                    refine gs rfl ?_
                    refine gs rfl ?_
                    refine gs rfl ?_
                    refine gs rfl ?_
                    refine gs rfl ?_
                    refine and_3 (Nat.le_of_ble_eq_true rfl) rfl (vin rfl) ?_
                    refine gs rfl ?_
                    refine gs rfl ?_
                    refine gs rfl ?_
                    refine gs rfl ?_
                    refine gs rfl ?_
                    refine and_2 rfl (vin rfl) ?_
                    refine gs rfl ?_
                    refine gs rfl ?_
                    refine gs rfl ?_
                    refine and_3 (Nat.le_of_ble_eq_true rfl) rfl (vin rfl) ?_
                    refine gs rfl ?_
                    refine gs rfl ?_
                    refine gs rfl ?_
                    refine gs rfl ?_
                    refine gs rfl ?_
                    refine gs rfl ?_
                    refine gs rfl ?_
                    refine gs rfl ?_
                    refine gs rfl ?_
                    refine and_2 rfl (vin rfl) ?_
                    refine gs rfl ?_
                    refine and_i rfl ?_
                    refine gs rfl ?_
                    refine gs rfl ?_
                    refine gs rfl ?_
                    refine gs rfl ?_
                    refine gs rfl ?_
                    refine gs rfl ?_
                    refine and_i (Or.inl rfl) ?_
                    refine gwst (congrArg (fun z => Value.int z :: _) (alen_k (n := 6) (by rfl))) ?_
                    refine gs rfl ?_
                    refine gs rfl ?_
                    refine gs rfl ?_
                    refine gs rfl ?_
                    refine gs rfl ?_
                    refine and_2 rfl (Or.inr rfl) ?_
                    exact rfl
                  · have d37 : ¬ ((s3).toInt ≤ 7) := fun q => c36 ((le_k (by rfl) (by rfl)).mpr q)
                    refine gs rfl ?_
                    refine gs rfl ?_
                    refine gs rfl ?_
                    refine gs rfl ?_
                    refine gs rfl ?_
                    refine gs rfl ?_
                    refine gs rfl ?_
                    refine gs rfl ?_
                    refine gs rfl ?_
                    refine gs rfl ?_
                    refine gs rfl ?_
                    refine gs rfl ?_
                    refine gs rfl ?_
                    refine gs rfl ?_
                    refine gs rfl ?_
                    refine and_3 (Nat.le_of_ble_eq_true rfl) rfl (vin rfl) ?_
                    refine gs rfl ?_
                    refine gs rfl ?_
                    refine gs rfl ?_
                    refine gs rfl ?_
                    refine gs rfl ?_
                    refine gs rfl ?_
                    refine gs rfl ?_
                    refine and_3 (Nat.le_of_ble_eq_true rfl) (Nat.le_of_ble_eq_true rfl) trivial ?_
                    refine gs rfl ?_
                    refine gs rfl ?_
                    refine gs rfl ?_
                    refine gs rfl ?_
                    refine gs rfl ?_
                    refine ifT ((le_k (a := (s3).toInt) (b := 8) (by rfl) (by rfl)).mpr (by omega)) ?_
                    refine gs rfl ?_
                    refine gs rfl ?_
                    refine gs rfl ?_
                    refine gs rfl ?_
                    refine and_i rfl ?_
                    refine FRg rfl (fun f => ?_)
                    refine gs rfl ?_
                    refine gs rfl ?_
                    refine gs rfl ?_
                    refine gs rfl ?_
                    refine gs rfl ?_
                    refine gs rfl ?_
                    refine and_2 rfl (vin rfl) ?_
                    refine gs rfl ?_
                    refine gs rfl ?_
                    refine gs rfl ?_
                    refine gs rfl ?_
                    refine gs rfl ?_
                    refine gs rfl ?_
                    refine gs rfl ?_
                    refine gs rfl ?_
                    refine and_2 rfl (vin rfl) ?_
                    refine gs rfl ?_
                    refine gs rfl ?_
                    refine gs rfl ?_
                    refine gs rfl ?_
                    refine gs rfl ?_
                    refine gs rfl ?_
                    refine gs rfl ?_
                    refine gs rfl ?_
                    refine gs rfl ?_
                    refine and_2 rfl (vin rfl) ?_
                    refine gs rfl ?_
                    refine and_i (Nat.le_of_ble_eq_true rfl) (cl0 (Nat.le_of_ble_eq_true rfl) (and_i (Nat.le_of_ble_eq_true rfl) ?_))
                    refine gs rfl ?_
                    refine gs rfl ?_
                    refine gs rfl ?_
                    refine gs rfl ?_
                    refine and_i (Nat.le_of_ble_eq_true rfl) (cl0 (Nat.le_of_ble_eq_true rfl) (and_i (Nat.le_of_ble_eq_true rfl) ?_))
                    refine gs rfl ?_
                    refine gs rfl ?_
                    refine gs rfl ?_
                    refine ifF ((fun q => absurd ((lt_k (a := (s3).toInt) (b := 1) (by rfl) (by rfl)).mp q) (by omega))) ?_
                    refine gs rfl ?_
                    refine gs rfl ?_
                    refine gs rfl ?_
                    refine ifF ((fun q => absurd ((lt_k (a := 8) (b := (s3).toInt) (by rfl) (by rfl)).mp q) (by omega))) ?_
                    refine gs rfl ?_
                    refine gs rfl ?_
                    refine gs rfl ?_
                    refine and_2 rfl (Or.inr rfl) ?_
                    refine gs rfl ?_
                    refine gs rfl ?_
                    refine gs rfl ?_
                    refine gs rfl ?_
                    refine gs rfl ?_
                    refine and_2 rfl (vin rfl) ?_
                    refine gs rfl ?_
                    obtain ⟨j41, e42, x43⟩ := nat_of (x := s3) (lo := 8) (hi := 8) (by omega) (by omega)
                    obtain rfl : j41 = 8 := by omega
                    have x43q : s3 = (8 : Int32) := x43
                    clear x43
                    subst x43q
                    refine gs rfl ?_
                    refine gs rfl ?_
                    refine gs rfl ?_
                    refine gs rfl ?_
                    refine gs rfl ?_
                    refine gs rfl ?_
                    refine gs rfl ?_
                    refine gs rfl ?_
                    refine gs rfl ?_
                    refine gs rfl ?_
                    refine gs rfl ?_
                    refine gs rfl ?_
                    refine gs rfl ?_
                    refine gs rfl ?_
                    refine gs rfl ?_
                    refine and_2 rfl (vin rfl) ?_
                    refine gs rfl ?_
                    refine gs rfl ?_
                    refine gs rfl ?_
                    refine gs rfl ?_
                    refine gs rfl ?_
                    refine gs rfl ?_
                    refine gs rfl ?_
                    refine gs rfl ?_
                    refine gs rfl ?_
                    refine gs rfl ?_
                    refine and_3 (Nat.le_of_ble_eq_true rfl) rfl (vin rfl) ?_
                    refine gs rfl ?_
                    refine gs rfl ?_
                    refine gs rfl ?_
                    refine gs rfl ?_
                    refine gs rfl ?_
                    refine and_2 rfl (vin rfl) ?_
                    refine gs rfl ?_
                    refine gs rfl ?_
                    refine gs rfl ?_
                    refine and_3 (Nat.le_of_ble_eq_true rfl) rfl (vin rfl) ?_
                    refine gs rfl ?_
                    refine gs rfl ?_
                    refine gs rfl ?_
                    refine gs rfl ?_
                    refine gs rfl ?_
                    refine gs rfl ?_
                    refine gs rfl ?_
                    refine gs rfl ?_
                    refine gs rfl ?_
                    refine gs rfl ?_
                    refine gs rfl ?_
                    refine gs rfl ?_
                    refine and_2 rfl (vin rfl) ?_
                    refine gs rfl ?_
                    refine gs rfl ?_
                    refine gs rfl ?_
                    refine gs rfl ?_
                    refine gs rfl ?_
                    refine gs rfl ?_
                    refine gs rfl ?_
                    refine gs rfl ?_
                    refine gs rfl ?_
                    refine gs rfl ?_
                    refine and_3 (Nat.le_of_ble_eq_true rfl) rfl (vin rfl) ?_
                    refine gs rfl ?_
                    refine gs rfl ?_
                    refine gs rfl ?_
                    refine gs rfl ?_
                    refine gs rfl ?_
                    refine and_2 rfl (vin rfl) ?_
                    refine gs rfl ?_
                    refine gs rfl ?_
                    refine gs rfl ?_
                    refine and_3 (Nat.le_of_ble_eq_true rfl) rfl (vin rfl) ?_
                    refine gs rfl ?_
                    refine gs rfl ?_
                    refine gs rfl ?_
                    refine gs rfl ?_
                    refine gs rfl ?_
                    refine gs rfl ?_
                    refine gs rfl ?_
                    refine gs rfl ?_
                    refine gs rfl ?_
                    refine gs rfl ?_
                    refine gs rfl ?_
                    refine gs rfl ?_
                    refine and_2 rfl (vin rfl) ?_
                    refine gs rfl ?_
                    refine gs rfl ?_
                    refine gs rfl ?_
                    refine gs rfl ?_
                    refine gs rfl ?_
                    refine gs rfl ?_
                    refine gs rfl ?_
                    refine gs rfl ?_
                    refine gs rfl ?_
                    refine gs rfl ?_
                    refine and_3 (Nat.le_of_ble_eq_true rfl) rfl (vin rfl) ?_
                    refine gs rfl ?_
                    refine gs rfl ?_
                    refine gs rfl ?_
                    refine gs rfl ?_
                    refine gs rfl ?_
                    refine and_2 rfl (vin rfl) ?_
                    refine gs rfl ?_
                    refine gs rfl ?_
                    refine gs rfl ?_
                    refine and_3 (Nat.le_of_ble_eq_true rfl) rfl (vin rfl) ?_
                    refine gs rfl ?_
                    refine gs rfl ?_
                    refine gs rfl ?_
                    refine gs rfl ?_
                    refine gs rfl ?_
                    refine gs rfl ?_
                    refine gs rfl ?_
                    refine gs rfl ?_
                    refine gs rfl ?_
                    refine gs rfl ?_
                    refine gs rfl ?_
                    refine gs rfl ?_
                    refine and_2 rfl (vin rfl) ?_
                    refine gs rfl ?_
                    refine gs rfl ?_
                    refine gs rfl ?_
                    refine gs rfl ?_
                    refine gs rfl ?_
                    refine gs rfl ?_
                    refine gs rfl ?_
                    refine gs rfl ?_
                    refine gs rfl ?_
                    refine gs rfl ?_
                    refine and_3 (Nat.le_of_ble_eq_true rfl) rfl (vin rfl) ?_
                    refine gs rfl ?_
                    refine gs rfl ?_
                    refine gs rfl ?_
                    refine gs rfl ?_
                    refine gs rfl ?_
                    refine and_2 rfl (vin rfl) ?_
                    refine gs rfl ?_
                    refine gs rfl ?_
                    refine gs rfl ?_
                    refine and_3 (Nat.le_of_ble_eq_true rfl) rfl (vin rfl) ?_
                    refine gs rfl ?_
                    refine gs rfl ?_
                    refine gs rfl ?_
                    refine gs rfl ?_
                    refine gs rfl ?_
                    refine gs rfl ?_
                    refine gs rfl ?_
                    refine gs rfl ?_
                    refine gs rfl ?_
                    refine gs rfl ?_
                    refine gs rfl ?_
                    refine gs rfl ?_
                    refine and_2 rfl (vin rfl) ?_
                    refine gs rfl ?_
                    refine gs rfl ?_
                    refine gs rfl ?_
                    refine gs rfl ?_
                    refine gs rfl ?_
                    refine gs rfl ?_
                    refine gs rfl ?_
                    refine gs rfl ?_
                    refine gs rfl ?_
                    refine gs rfl ?_
                    refine and_3 (Nat.le_of_ble_eq_true rfl) rfl (vin rfl) ?_
                    refine gs rfl ?_
                    refine gs rfl ?_
                    refine gs rfl ?_
                    refine gs rfl ?_
                    refine gs rfl ?_
                    refine and_2 rfl (vin rfl) ?_
                    refine gs rfl ?_
                    refine gs rfl ?_
                    refine gs rfl ?_
                    refine and_3 (Nat.le_of_ble_eq_true rfl) rfl (vin rfl) ?_
                    refine gs rfl ?_
                    refine gs rfl ?_
                    refine gs rfl ?_
                    refine gs rfl ?_
                    refine gs rfl ?_
                    refine gs rfl ?_
                    refine gs rfl ?_
                    refine gs rfl ?_
                    refine gs rfl ?_
                    refine gs rfl ?_
                    refine gs rfl ?_
                    refine gs rfl ?_
                    refine and_2 rfl (vin rfl) ?_
                    refine gs rfl ?_
                    refine gs rfl ?_
                    refine gs rfl ?_
                    refine gs rfl ?_
                    refine gs rfl ?_
                    refine gs rfl ?_
                    refine gs rfl ?_
                    refine gs rfl ?_
                    refine gs rfl ?_
                    refine gs rfl ?_
                    refine and_3 (Nat.le_of_ble_eq_true rfl) rfl (vin rfl) ?_
                    refine gs rfl ?_
                    refine gs rfl ?_
                    refine gs rfl ?_
                    refine gs rfl ?_
                    refine gs rfl ?_
                    refine and_2 rfl (vin rfl) ?_
                    refine gs rfl ?_
                    refine gs rfl ?_
                    refine gs rfl ?_
                    refine and_3 (Nat.le_of_ble_eq_true rfl) rfl (vin rfl) ?_
                    refine gs rfl ?_
                    refine gs rfl ?_
                    refine gs rfl ?_
                    refine gs rfl ?_
                    refine gs rfl ?_
                    refine gs rfl ?_
                    refine gs rfl ?_
                    refine gs rfl ?_
                    refine gs rfl ?_
                    refine gs rfl ?_
                    refine gs rfl ?_
                    refine gs rfl ?_
                    refine and_2 rfl (vin rfl) ?_
                    refine gs rfl ?_
                    refine gs rfl ?_
                    refine gs rfl ?_
                    refine gs rfl ?_
                    refine gs rfl ?_
                    refine gs rfl ?_
                    refine gs rfl ?_
                    refine gs rfl ?_
                    refine gs rfl ?_
                    refine gs rfl ?_
                    refine and_3 (Nat.le_of_ble_eq_true rfl) rfl (vin rfl) ?_
                    refine gs rfl ?_
                    refine gs rfl ?_
                    refine gs rfl ?_
                    refine gs rfl ?_
                    refine gs rfl ?_
                    refine and_2 rfl (vin rfl) ?_
                    refine gs rfl ?_
                    refine gs rfl ?_
                    refine gs rfl ?_
                    refine and_3 (Nat.le_of_ble_eq_true rfl) rfl (vin rfl) ?_
                    refine gs rfl ?_
                    refine gs rfl ?_
                    refine gs rfl ?_
                    refine gs rfl ?_
                    refine gs rfl ?_
                    refine gs rfl ?_
                    refine gs rfl ?_
                    refine gs rfl ?_
                    refine gs rfl ?_
                    refine gs rfl ?_
                    refine gs rfl ?_
                    refine gs rfl ?_
                    refine and_2 rfl (vin rfl) ?_
                    refine gs rfl ?_
                    refine gs rfl ?_
                    refine gs rfl ?_
                    refine gs rfl ?_
                    refine gs rfl ?_
                    refine gs rfl ?_
                    refine gs rfl ?_
                    refine gs rfl ?_
                    refine gs rfl ?_
                    refine gs rfl ?_
                    refine and_3 (Nat.le_of_ble_eq_true rfl) rfl (vin rfl) ?_
                    refine gs rfl ?_
                    refine gs rfl ?_
                    refine gs rfl ?_
                    refine gs rfl ?_
                    refine gs rfl ?_
                    refine and_2 rfl (vin rfl) ?_
                    refine gs rfl ?_
                    refine gs rfl ?_
                    refine gs rfl ?_
                    refine and_3 (Nat.le_of_ble_eq_true rfl) rfl (vin rfl) ?_
                    refine gs rfl ?_
                    refine gs rfl ?_
                    refine gs rfl ?_
                    refine gs rfl ?_
                    refine gs rfl ?_
                    refine gs rfl ?_
                    refine gs rfl ?_
                    refine gs rfl ?_
                    refine gs rfl ?_
                    refine and_2 rfl (vin rfl) ?_
                    refine gs rfl ?_
                    refine and_i rfl ?_
                    refine gs rfl ?_
                    refine gs rfl ?_
                    refine gs rfl ?_
                    refine gs rfl ?_
                    refine gs rfl ?_
                    refine gs rfl ?_
                    refine and_i (Or.inl rfl) ?_
                    refine gwst (congrArg (fun z => Value.int z :: _) (alen_k (n := 6) (by rfl))) ?_
                    refine gs rfl ?_
                    refine gs rfl ?_
                    refine gs rfl ?_
                    refine gs rfl ?_
                    refine gs rfl ?_
                    refine and_2 rfl (Or.inr rfl) ?_
                    exact rfl
    · have d4 : ¬ ((s3).toInt ≤ 8) := fun q => c3 ((le_k (by rfl) (by rfl)).mpr q)
      refine gs rfl ?_
      refine gs rfl ?_
      refine gs rfl ?_
      refine and_i (Nat.le_of_ble_eq_true rfl) (cl0 (Nat.le_of_ble_eq_true rfl) (and_i (Nat.le_of_ble_eq_true rfl) ?_))
      refine gs rfl ?_
      refine gs rfl ?_
      refine gs rfl ?_
      refine gs rfl ?_
      refine gs rfl ?_
      refine and_2 rfl (vin rfl) ?_
      refine gs rfl ?_
      refine gs rfl ?_
      refine gs rfl ?_
      refine and_3 (Nat.le_of_ble_eq_true rfl) rfl (vin rfl) ?_
      refine gs rfl ?_
      refine gs rfl ?_
      refine gs rfl ?_
      refine gs rfl ?_
      refine and_i rfl ?_
      refine gs rfl ?_
      refine and_i rfl ?_
      refine FRg rfl (fun f => ?_)
      refine gs rfl ?_
      refine gs rfl ?_
      refine gs rfl ?_
      refine gs rfl ?_
      refine gs rfl ?_
      refine gs rfl ?_
      refine and_2 rfl (vin rfl) ?_
      refine gs rfl ?_
      refine gs rfl ?_
      refine gs rfl ?_
      refine gs rfl ?_
      refine gs rfl ?_
      refine gs rfl ?_
      refine gs rfl ?_
      refine gs rfl ?_
      refine and_2 rfl (vin rfl) ?_
      refine gs rfl ?_
      refine gs rfl ?_
      refine gs rfl ?_
      refine gs rfl ?_
      refine gs rfl ?_
      refine gs rfl ?_
      refine gs rfl ?_
      refine gs rfl ?_
      refine gs rfl ?_
      refine and_2 rfl (vin rfl) ?_
      refine gs rfl ?_
      refine and_i (Nat.le_of_ble_eq_true rfl) (cl0 (Nat.le_of_ble_eq_true rfl) (and_i (Nat.le_of_ble_eq_true rfl) ?_))
      refine gs rfl ?_
      refine gs rfl ?_
      refine gs rfl ?_
      refine gs rfl ?_
      refine and_i (Nat.le_of_ble_eq_true rfl) (cl0 (Nat.le_of_ble_eq_true rfl) (and_i (Nat.le_of_ble_eq_true rfl) ?_))
      refine gs rfl ?_
      refine gs rfl ?_
      refine gs rfl ?_
      refine ifF ((fun q => absurd ((lt_k (a := (s3).toInt) (b := 1) (by rfl) (by rfl)).mp q) (by omega))) ?_
      refine gs rfl ?_
      refine gs rfl ?_
      refine gs rfl ?_
      refine ifT ((lt_k (a := 8) (b := (s3).toInt) (by rfl) (by rfl)).mpr (by omega)) ?_
      refine gs rfl ?_
      refine gs rfl ?_
      refine and_2 rfl (Or.inl rfl) ?_
      refine gs rfl ?_
      refine gs rfl ?_
      refine gs rfl ?_
      refine gs rfl ?_
      refine and_i (Nat.le_of_ble_eq_true rfl) (cl0 (Nat.le_of_ble_eq_true rfl) (and_i (Nat.le_of_ble_eq_true rfl) ?_))
      refine gs rfl ?_
      refine gs rfl ?_
      refine gs rfl ?_
      refine gs rfl ?_
      refine gs rfl ?_
      refine gs rfl ?_
      refine gs rfl ?_
      refine and_2 rfl (vin rfl) ?_
      refine gs rfl ?_
      refine gs rfl ?_
      refine gs rfl ?_
      refine and_3 (Nat.le_of_ble_eq_true rfl) rfl (vin rfl) ?_
      refine gs rfl ?_
      refine gs rfl ?_
      refine and_i rfl ?_
      refine gs rfl ?_
      refine and_i rfl ?_
      refine gs rfl ?_
      refine gs rfl ?_
      refine gs rfl ?_
      refine gs rfl ?_
      refine gs rfl ?_
      refine gs rfl ?_
      refine and_i (Or.inl rfl) ?_
      refine gwst (congrArg (fun z => Value.int z :: _) (alen_k (n := 6) (by rfl))) ?_
      refine gs rfl ?_
      refine gs rfl ?_
      refine gs rfl ?_
      refine gs rfl ?_
      refine gs rfl ?_
      refine and_2 rfl (Or.inr rfl) ?_
      exact rfl
