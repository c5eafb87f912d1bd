/-! THE LAW'S CASES 5, 6, 7, over two new objects -/
set_option maxRecDepth 20000 in
set_option maxHeartbeats 40000000 in
theorem lc_5 {s0 s1 s2 s3 s4 s5 : Int32} {d mc ms : Nat} : gw [s0, s1, s2, s3, s4, s5] (WP [s0, s1, s2, s3, s4, s5] (d + 20)) 190 (fun r _ => r = some (.int 1)) 363 [some (.ref 0), some (.ref 32), some (.ref 89), some (.int 0)] [] (hX0 ++ hM0) mc ms := by
  refine g_aload_n m190_363 rfl ?_
  refine g_aload_n m190_364 rfl ?_
  refine g_iload_n m190_365 rfl ?_
  refine g_iconst m190_366 ?_
  refine g_iadd (u := (1 : Int32)) m190_367 (by decide) ?_
  refine g_iald (x := s1) m190_368 rfl (vin rfl) rfl ?_
  refine g_aload_n m190_369 rfl ?_
  refine g_iload_n m190_370 rfl ?_
  refine g_iconst m190_371 ?_
  refine g_iadd (u := (2 : Int32)) m190_372 (by decide) ?_
  refine g_iald (x := s2) m190_373 rfl (vin rfl) rfl ?_
  refine g_aload_n m190_374 rfl ?_
  refine g_iload_n m190_375 rfl ?_
  refine g_iconst m190_376 ?_
  refine g_iadd (u := (3 : Int32)) m190_377 (by decide) ?_
  refine g_iald (x := s3) m190_378 rfl (vin rfl) rfl ?_
  refine g_cv (args := [.int _, .int _, .int _]) (rest := []) m190_379 (Nat.le_of_ble_eq_true rfl) rfl rfl rfl (Nat.le_of_ble_eq_true rfl) ?_
  refine wp_in (L := [some (.ref 32), some (.int _), some (.int _), some (.int _), none, none]) (Nat.le_of_ble_eq_true rfl) rfl ?_
  refine g_aload_n m63_0 rfl ?_
  refine g_iload_n m63_1 rfl ?_
  refine g_cv (args := [.int _]) (rest := []) m63_2 (Nat.le_of_ble_eq_true rfl) rfl rfl rfl (Nat.le_of_ble_eq_true rfl) ?_
  refine wp_in (L := [some (.ref 32), some (.int _)]) (Nat.le_of_ble_eq_true rfl) rfl ?_
  refine g_iload_n m60_0 rfl ?_
  refine g_if_lt m60_1 (fun c1 => ?_) (fun c1 => ?_)
  · have d2 : (s1).toInt < 0 := (lt_k (by rfl) (by rfl)).mp c1
    refine g_iconst m60_19 ?_
    refine g_zret m60_20 rfl (Or.inl rfl) ?_
    refine gwst (st' := [.int (0)]) rfl ?_
    refine g_if_eqT m63_5 (by decide) ?_
    refine g_aload_n m63_27 rfl ?_
    refine g_iconst m63_28 ?_
    refine g_cv (args := [.int (1)]) (rest := []) m63_29 (Nat.le_of_ble_eq_true rfl) rfl rfl rfl (Nat.le_of_ble_eq_true rfl) ?_
    refine wp_in (L := [some (.ref 32), some (.int (1))]) (Nat.le_of_ble_eq_true rfl) rfl ?_
    refine g_aload_n m55_0 rfl ?_
    refine g_gf m55_1 rfl rfl ?_
    refine g_iload_n m55_4 rfl ?_
    refine g_dup2 m55_5 rfl rfl ?_
    refine g_iald (x := (0 : Int32)) m55_6 rfl (vin rfl) rfl ?_
    refine g_iconst m55_7 ?_
    refine g_iadd (u := (1 : Int32)) m55_8 (by decide) ?_
    refine g_iast m55_9 (Nat.le_of_ble_eq_true rfl) rfl (vin rfl) rfl rfl rfl ?_
    refine g_ldcw m55_10 ?_
    refine g_iload_n m55_13 rfl ?_
    refine g_isub (u := (-1000000001 : Int32)) m55_14 (by decide) ?_
    refine g_iret m55_15 rfl ?_
    refine gwst (st' := [.int (-1000000001)]) rfl ?_
    refine g_iret m63_32 rfl ?_
    refine gwst (st' := [.int (-1000000001)]) rfl ?_
    refine FRg rfl (fun f => ?_)
    refine g_aload_n m190_382 rfl ?_
    refine g_aload_n m190_383 rfl ?_
    refine g_iload_n m190_384 rfl ?_
    refine g_iconst m190_385 ?_
    refine g_iadd (u := (1 : Int32)) m190_386 (by decide) ?_
    refine g_iald (x := s1) m190_387 rfl (vin rfl) rfl ?_
    refine g_aload_n m190_388 rfl ?_
    refine g_iload_n m190_389 rfl ?_
    refine g_iconst m190_390 ?_
    refine g_iadd (u := (2 : Int32)) m190_391 (by decide) ?_
    refine g_iald (x := s2) m190_392 rfl (vin rfl) rfl ?_
    refine g_aload_n m190_393 rfl ?_
    refine g_iload_n m190_394 rfl ?_
    refine g_iconst m190_395 ?_
    refine g_iadd (u := (3 : Int32)) m190_396 (by decide) ?_
    refine g_iald (x := s3) m190_397 rfl (vin rfl) rfl ?_
    refine g_cv (args := [.int _, .int _, .int _]) (rest := [.int (-1000000001)]) m190_398 (Nat.le_of_ble_eq_true rfl) rfl rfl rfl (Nat.le_of_ble_eq_true rfl) ?_
    refine wp_in (L := [some (.ref 89), some (.int _), some (.int _), some (.int _), none]) (Nat.le_of_ble_eq_true rfl) rfl ?_
    refine g_iload_n m134_0 rfl ?_
    refine g_if_eq m134_1 (fun c3 => ?_) (fun c3 => ?_)
    · have d4 : (s2).toInt = 0 := (eq_k (by rfl) (by rfl)).mp c3
      refine g_iload_n m134_9 rfl ?_
      refine g_iconst m134_10 ?_
      refine g_bipush m134_11 ?_
      refine g_cs (args := [.int _, .int (0), .int (99)]) (rest := []) 0 (Or.inl rfl) m134_13 (Nat.le_of_ble_eq_true rfl) rfl rfl (Nat.le_of_ble_eq_true rfl) ?_
      refine wp_in (L := [some (.int _), some (.int (0)), some (.int (99))]) (Nat.le_of_ble_eq_true rfl) rfl ?_
      refine g_iload_n m107_0 rfl ?_
      refine g_iload_n m107_1 rfl ?_
      refine g_ic_lt m107_2 (fun c5 => ?_) (fun c5 => ?_)
      · have d6 : (s3).toInt < 0 := (lt_k (by rfl) (by rfl)).mp c5
        refine g_iconst m107_14 ?_
        refine g_zret m107_15 rfl (Or.inl rfl) ?_
        refine gwst (st' := [.int (0)]) rfl ?_
        refine g_goto m134_16 ?_
        refine g_istore (L2 := [some (.ref 89), some (.int _), some (.int _), some (.int _), some (.int (0))]) m134_53 rfl rfl ?_
        refine g_aload_n m134_55 rfl ?_
        refine g_iload_n m134_56 rfl ?_
        refine g_cv (args := [.int _]) (rest := []) m134_57 (Nat.le_of_ble_eq_true rfl) rfl rfl rfl (Nat.le_of_ble_eq_true rfl) ?_
        refine wp_in (L := [some (.ref 89), some (.int _)]) (Nat.le_of_ble_eq_true rfl) rfl ?_
        refine g_iload_n m113_0 rfl ?_
        refine g_iconst m113_1 ?_
        refine g_aload_n m113_2 rfl ?_
        refine g_gf m113_3 rfl rfl ?_
        refine g_iconst m113_6 ?_
        refine g_iald (x := (0 : Int32)) m113_7 rfl (vin rfl) rfl ?_
        refine g_iconst m113_8 ?_
        refine g_isub (u := (-1 : Int32)) m113_9 (by decide) ?_
        refine g_cs (args := [.int _, .int (0), .int (-1)]) (rest := []) 0 (Or.inl rfl) m113_10 (Nat.le_of_ble_eq_true rfl) rfl rfl (Nat.le_of_ble_eq_true rfl) ?_
        refine wp_in (L := [some (.int _), some (.int (0)), some (.int (-1))]) (Nat.le_of_ble_eq_true rfl) rfl ?_
        refine g_iload_n m107_0 rfl ?_
        refine g_iload_n m107_1 rfl ?_
        refine g_ic_ltT m107_2 ((lt_k (a := (s1).toInt) (b := 0) (by rfl) (by rfl)).mpr (by omega)) ?_
        refine g_iconst m107_14 ?_
        refine g_zret m107_15 rfl (Or.inl rfl) ?_
        refine gwst (st' := [.int (0)]) rfl ?_
        refine g_zret m113_13 rfl (Or.inl rfl) ?_
        refine gwst (st' := [.int (0)]) rfl ?_
        refine g_if_eqT m134_60 (by decide) ?_
        refine g_aload_n m134_87 rfl ?_
        refine g_ldci m134_88 rfl ?_
        refine g_cv (args := [.int (-1000000001)]) (rest := []) m134_90 (Nat.le_of_ble_eq_true rfl) rfl rfl rfl (Nat.le_of_ble_eq_true rfl) ?_
        refine wp_in (L := [some (.ref 89), some (.int (-1000000001))]) (Nat.le_of_ble_eq_true rfl) rfl ?_
        refine g_aload_n m108_0 rfl ?_
        refine g_gf m108_1 rfl rfl ?_
        refine g_ldci m108_4 rfl ?_
        refine g_iload_n m108_6 rfl ?_
        refine g_isub (u := (1 : Int32)) m108_7 (by decide) ?_
        refine g_dup2 m108_8 rfl rfl ?_
        refine g_iald (x := (0 : Int32)) m108_9 rfl (vin rfl) rfl ?_
        refine g_iconst m108_10 ?_
        refine g_iadd (u := (1 : Int32)) m108_11 (by decide) ?_
        refine g_iast m108_12 (Nat.le_of_ble_eq_true rfl) rfl (vin rfl) rfl rfl rfl ?_
        refine g_iload_n m108_13 rfl ?_
        refine g_iret m108_14 rfl ?_
        refine gwst (st' := [.int (-1000000001)]) rfl ?_
        refine g_iret m134_93 rfl ?_
        refine gwst (st' := [.int (-1000000001), .int (-1000000001)]) rfl ?_
        refine g_ic_eqT m190_401 (by decide) ?_
        refine g_iinc (x2 := (6 : Int32)) (L2 := [some (.ref 0), some (.ref 32), some (.ref 89), some (.int (6))]) m190_1428 rfl (by decide) rfl rfl ?_
        refine g_goto m190_1431 ?_
        refine g_iload_n m190_18 rfl ?_
        refine g_aload_n m190_19 rfl ?_
        refine g_alen (n := 6) m190_20 rfl (Or.inl rfl) rfl ?_
        refine g_bipush m190_21 ?_
        refine g_isub (u := (0 : Int32)) m190_23 (by decide) ?_
        refine g_ic_gtT m190_24 (by decide) ?_
        refine g_iconst m190_1434 ?_
        refine g_zret m190_1435 rfl (Or.inr rfl) ?_
        exact rfl
      · have d6 : ¬ ((s3).toInt < 0) := fun q => c5 ((lt_k (by rfl) (by rfl)).mpr q)
        refine g_iload_n m107_5 rfl ?_
        refine g_iload_n m107_6 rfl ?_
        refine g_ic_gt m107_7 (fun c7 => ?_) (fun c7 => ?_)
        · have d8 : 99 < (s3).toInt := (lt_k (by rfl) (by rfl)).mp c7
          refine g_iconst m107_14 ?_
          refine g_zret m107_15 rfl (Or.inl rfl) ?_
          refine gwst (st' := [.int (0)]) rfl ?_
          refine g_goto m134_16 ?_
          refine g_istore (L2 := [some (.ref 89), some (.int _), some (.int _), some (.int _), some (.int (0))]) m134_53 rfl rfl ?_
          refine g_aload_n m134_55 rfl ?_
          refine g_iload_n m134_56 rfl ?_
          refine g_cv (args := [.int _]) (rest := []) m134_57 (Nat.le_of_ble_eq_true rfl) rfl rfl rfl (Nat.le_of_ble_eq_true rfl) ?_
          refine wp_in (L := [some (.ref 89), some (.int _)]) (Nat.le_of_ble_eq_true rfl) rfl ?_
          refine g_iload_n m113_0 rfl ?_
          refine g_iconst m113_1 ?_
          refine g_aload_n m113_2 rfl ?_
          refine g_gf m113_3 rfl rfl ?_
          refine g_iconst m113_6 ?_
          refine g_iald (x := (0 : Int32)) m113_7 rfl (vin rfl) rfl ?_
          refine g_iconst m113_8 ?_
          refine g_isub (u := (-1 : Int32)) m113_9 (by decide) ?_
          refine g_cs (args := [.int _, .int (0), .int (-1)]) (rest := []) 0 (Or.inl rfl) m113_10 (Nat.le_of_ble_eq_true rfl) rfl rfl (Nat.le_of_ble_eq_true rfl) ?_
          refine wp_in (L := [some (.int _), some (.int (0)), some (.int (-1))]) (Nat.le_of_ble_eq_true rfl) rfl ?_
          refine g_iload_n m107_0 rfl ?_
          refine g_iload_n m107_1 rfl ?_
          refine g_ic_ltT m107_2 ((lt_k (a := (s1).toInt) (b := 0) (by rfl) (by rfl)).mpr (by omega)) ?_
          refine g_iconst m107_14 ?_
          refine g_zret m107_15 rfl (Or.inl rfl) ?_
          refine gwst (st' := [.int (0)]) rfl ?_
          refine g_zret m113_13 rfl (Or.inl rfl) ?_
          refine gwst (st' := [.int (0)]) rfl ?_
          refine g_if_eqT m134_60 (by decide) ?_
          refine g_aload_n m134_87 rfl ?_
          refine g_ldci m134_88 rfl ?_
          refine g_cv (args := [.int (-1000000001)]) (rest := []) m134_90 (Nat.le_of_ble_eq_true rfl) rfl rfl rfl (Nat.le_of_ble_eq_true rfl) ?_
          refine wp_in (L := [some (.ref 89), some (.int (-1000000001))]) (Nat.le_of_ble_eq_true rfl) rfl ?_
          refine g_aload_n m108_0 rfl ?_
          refine g_gf m108_1 rfl rfl ?_
          refine g_ldci m108_4 rfl ?_
          refine g_iload_n m108_6 rfl ?_
          refine g_isub (u := (1 : Int32)) m108_7 (by decide) ?_
          refine g_dup2 m108_8 rfl rfl ?_
          refine g_iald (x := (0 : Int32)) m108_9 rfl (vin rfl) rfl ?_
          refine g_iconst m108_10 ?_
          refine g_iadd (u := (1 : Int32)) m108_11 (by decide) ?_
          refine g_iast m108_12 (Nat.le_of_ble_eq_true rfl) rfl (vin rfl) rfl rfl rfl ?_
          refine g_iload_n m108_13 rfl ?_
          refine g_iret m108_14 rfl ?_
          refine gwst (st' := [.int (-1000000001)]) rfl ?_
          refine g_iret m134_93 rfl ?_
          refine gwst (st' := [.int (-1000000001), .int (-1000000001)]) rfl ?_
          refine g_ic_eqT m190_401 (by decide) ?_
          refine g_iinc (x2 := (6 : Int32)) (L2 := [some (.ref 0), some (.ref 32), some (.ref 89), some (.int (6))]) m190_1428 rfl (by decide) rfl rfl ?_
          refine g_goto m190_1431 ?_
          refine g_iload_n m190_18 rfl ?_
          refine g_aload_n m190_19 rfl ?_
          refine g_alen (n := 6) m190_20 rfl (Or.inl rfl) rfl ?_
          refine g_bipush m190_21 ?_
          refine g_isub (u := (0 : Int32)) m190_23 (by decide) ?_
          refine g_ic_gtT m190_24 (by decide) ?_
          refine g_iconst m190_1434 ?_
          refine g_zret m190_1435 rfl (Or.inr rfl) ?_
          exact rfl
        · have d8 : ¬ (99 < (s3).toInt) := fun q => c7 ((lt_k (by rfl) (by rfl)).mpr q)
          refine g_iconst m107_10 ?_
          refine g_goto m107_11 ?_
          refine g_zret m107_15 rfl (Or.inr rfl) ?_
          refine gwst (st' := [.int (1)]) rfl ?_
          refine g_goto m134_16 ?_
          refine g_istore (L2 := [some (.ref 89), some (.int _), some (.int _), some (.int _), some (.int (1))]) m134_53 rfl rfl ?_
          refine g_aload_n m134_55 rfl ?_
          refine g_iload_n m134_56 rfl ?_
          refine g_cv (args := [.int _]) (rest := []) m134_57 (Nat.le_of_ble_eq_true rfl) rfl rfl rfl (Nat.le_of_ble_eq_true rfl) ?_
          refine wp_in (L := [some (.ref 89), some (.int _)]) (Nat.le_of_ble_eq_true rfl) rfl ?_
          refine g_iload_n m113_0 rfl ?_
          refine g_iconst m113_1 ?_
          refine g_aload_n m113_2 rfl ?_
          refine g_gf m113_3 rfl rfl ?_
          refine g_iconst m113_6 ?_
          refine g_iald (x := (0 : Int32)) m113_7 rfl (vin rfl) rfl ?_
          refine g_iconst m113_8 ?_
          refine g_isub (u := (-1 : Int32)) m113_9 (by decide) ?_
          refine g_cs (args := [.int _, .int (0), .int (-1)]) (rest := []) 0 (Or.inl rfl) m113_10 (Nat.le_of_ble_eq_true rfl) rfl rfl (Nat.le_of_ble_eq_true rfl) ?_
          refine wp_in (L := [some (.int _), some (.int (0)), some (.int (-1))]) (Nat.le_of_ble_eq_true rfl) rfl ?_
          refine g_iload_n m107_0 rfl ?_
          refine g_iload_n m107_1 rfl ?_
          refine g_ic_ltT m107_2 ((lt_k (a := (s1).toInt) (b := 0) (by rfl) (by rfl)).mpr (by omega)) ?_
          refine g_iconst m107_14 ?_
          refine g_zret m107_15 rfl (Or.inl rfl) ?_
          refine gwst (st' := [.int (0)]) rfl ?_
          refine g_zret m113_13 rfl (Or.inl rfl) ?_
          refine gwst (st' := [.int (0)]) rfl ?_
          refine g_if_eqT m134_60 (by decide) ?_
          refine g_aload_n m134_87 rfl ?_
          refine g_ldci m134_88 rfl ?_
          refine g_cv (args := [.int (-1000000001)]) (rest := []) m134_90 (Nat.le_of_ble_eq_true rfl) rfl rfl rfl (Nat.le_of_ble_eq_true rfl) ?_
          refine wp_in (L := [some (.ref 89), some (.int (-1000000001))]) (Nat.le_of_ble_eq_true rfl) rfl ?_
          refine g_aload_n m108_0 rfl ?_
          refine g_gf m108_1 rfl rfl ?_
          refine g_ldci m108_4 rfl ?_
          refine g_iload_n m108_6 rfl ?_
          refine g_isub (u := (1 : Int32)) m108_7 (by decide) ?_
          refine g_dup2 m108_8 rfl rfl ?_
          refine g_iald (x := (0 : Int32)) m108_9 rfl (vin rfl) rfl ?_
          refine g_iconst m108_10 ?_
          refine g_iadd (u := (1 : Int32)) m108_11 (by decide) ?_
          refine g_iast m108_12 (Nat.le_of_ble_eq_true rfl) rfl (vin rfl) rfl rfl rfl ?_
          refine g_iload_n m108_13 rfl ?_
          refine g_iret m108_14 rfl ?_
          refine gwst (st' := [.int (-1000000001)]) rfl ?_
          refine g_iret m134_93 rfl ?_
          refine gwst (st' := [.int (-1000000001), .int (-1000000001)]) rfl ?_
          refine g_ic_eqT m190_401 (by decide) ?_
          refine g_iinc (x2 := (6 : Int32)) (L2 := [some (.ref 0), some (.ref 32), some (.ref 89), some (.int (6))]) m190_1428 rfl (by decide) rfl rfl ?_
          refine g_goto m190_1431 ?_
          refine g_iload_n m190_18 rfl ?_
          refine g_aload_n m190_19 rfl ?_
          refine g_alen (n := 6) m190_20 rfl (Or.inl rfl) rfl ?_
          refine g_bipush m190_21 ?_
          refine g_isub (u := (0 : Int32)) m190_23 (by decide) ?_
          refine g_ic_gtT m190_24 (by decide) ?_
          refine g_iconst m190_1434 ?_
          refine g_zret m190_1435 rfl (Or.inr rfl) ?_
          exact rfl
    · have d4 : ¬ ((s2).toInt = 0) := fun q => c3 ((eq_k (by rfl) (by rfl)).mpr q)
      refine g_iload_n m134_4 rfl ?_
      refine g_iconst m134_5 ?_
      refine g_ic_ne m134_6 (fun c9 => ?_) (fun c9 => ?_)
      · have d10 : (s2).toInt = 2 := (eq_k (by rfl) (by rfl)).mp c9
        refine g_iload_n m134_9 rfl ?_
        refine g_iconst m134_10 ?_
        refine g_bipush m134_11 ?_
        refine g_cs (args := [.int _, .int (0), .int (99)]) (rest := []) 0 (Or.inl rfl) m134_13 (Nat.le_of_ble_eq_true rfl) rfl rfl (Nat.le_of_ble_eq_true rfl) ?_
        refine wp_in (L := [some (.int _), some (.int (0)), some (.int (99))]) (Nat.le_of_ble_eq_true rfl) rfl ?_
        refine g_iload_n m107_0 rfl ?_
        refine g_iload_n m107_1 rfl ?_
        refine g_ic_lt m107_2 (fun c11 => ?_) (fun c11 => ?_)
        · have d12 : (s3).toInt < 0 := (lt_k (by rfl) (by rfl)).mp c11
          refine g_iconst m107_14 ?_
          refine g_zret m107_15 rfl (Or.inl rfl) ?_
          refine gwst (st' := [.int (0)]) rfl ?_
          refine g_goto m134_16 ?_
          refine g_istore (L2 := [some (.ref 89), some (.int _), some (.int _), some (.int _), some (.int (0))]) m134_53 rfl rfl ?_
          refine g_aload_n m134_55 rfl ?_
          refine g_iload_n m134_56 rfl ?_
          refine g_cv (args := [.int _]) (rest := []) m134_57 (Nat.le_of_ble_eq_true rfl) rfl rfl rfl (Nat.le_of_ble_eq_true rfl) ?_
          refine wp_in (L := [some (.ref 89), some (.int _)]) (Nat.le_of_ble_eq_true rfl) rfl ?_
          refine g_iload_n m113_0 rfl ?_
          refine g_iconst m113_1 ?_
          refine g_aload_n m113_2 rfl ?_
          refine g_gf m113_3 rfl rfl ?_
          refine g_iconst m113_6 ?_
          refine g_iald (x := (0 : Int32)) m113_7 rfl (vin rfl) rfl ?_
          refine g_iconst m113_8 ?_
          refine g_isub (u := (-1 : Int32)) m113_9 (by decide) ?_
          refine g_cs (args := [.int _, .int (0), .int (-1)]) (rest := []) 0 (Or.inl rfl) m113_10 (Nat.le_of_ble_eq_true rfl) rfl rfl (Nat.le_of_ble_eq_true rfl) ?_
          refine wp_in (L := [some (.int _), some (.int (0)), some (.int (-1))]) (Nat.le_of_ble_eq_true rfl) rfl ?_
          refine g_iload_n m107_0 rfl ?_
          refine g_iload_n m107_1 rfl ?_
          refine g_ic_ltT m107_2 ((lt_k (a := (s1).toInt) (b := 0) (by rfl) (by rfl)).mpr (by omega)) ?_
          refine g_iconst m107_14 ?_
          refine g_zret m107_15 rfl (Or.inl rfl) ?_
          refine gwst (st' := [.int (0)]) rfl ?_
          refine g_zret m113_13 rfl (Or.inl rfl) ?_
          refine gwst (st' := [.int (0)]) rfl ?_
          refine g_if_eqT m134_60 (by decide) ?_
          refine g_aload_n m134_87 rfl ?_
          refine g_ldci m134_88 rfl ?_
          refine g_cv (args := [.int (-1000000001)]) (rest := []) m134_90 (Nat.le_of_ble_eq_true rfl) rfl rfl rfl (Nat.le_of_ble_eq_true rfl) ?_
          refine wp_in (L := [some (.ref 89), some (.int (-1000000001))]) (Nat.le_of_ble_eq_true rfl) rfl ?_
          refine g_aload_n m108_0 rfl ?_
          refine g_gf m108_1 rfl rfl ?_
          refine g_ldci m108_4 rfl ?_
          refine g_iload_n m108_6 rfl ?_
          refine g_isub (u := (1 : Int32)) m108_7 (by decide) ?_
          refine g_dup2 m108_8 rfl rfl ?_
          refine g_iald (x := (0 : Int32)) m108_9 rfl (vin rfl) rfl ?_
          refine g_iconst m108_10 ?_
          refine g_iadd (u := (1 : Int32)) m108_11 (by decide) ?_
          refine g_iast m108_12 (Nat.le_of_ble_eq_true rfl) rfl (vin rfl) rfl rfl rfl ?_
          refine g_iload_n m108_13 rfl ?_
          refine g_iret m108_14 rfl ?_
          refine gwst (st' := [.int (-1000000001)]) rfl ?_
          refine g_iret m134_93 rfl ?_
          refine gwst (st' := [.int (-1000000001), .int (-1000000001)]) rfl ?_
          refine g_ic_eqT m190_401 (by decide) ?_
          refine g_iinc (x2 := (6 : Int32)) (L2 := [some (.ref 0), some (.ref 32), some (.ref 89), some (.int (6))]) m190_1428 rfl (by decide) rfl rfl ?_
          refine g_goto m190_1431 ?_
          refine g_iload_n m190_18 rfl ?_
          refine g_aload_n m190_19 rfl ?_
          refine g_alen (n := 6) m190_20 rfl (Or.inl rfl) rfl ?_
          refine g_bipush m190_21 ?_
          refine g_isub (u := (0 : Int32)) m190_23 (by decide) ?_
          refine g_ic_gtT m190_24 (by decide) ?_
          refine g_iconst m190_1434 ?_
          refine g_zret m190_1435 rfl (Or.inr rfl) ?_
          exact rfl
        · have d12 : ¬ ((s3).toInt < 0) := fun q => c11 ((lt_k (by rfl) (by rfl)).mpr q)
          refine g_iload_n m107_5 rfl ?_
          refine g_iload_n m107_6 rfl ?_
          refine g_ic_gt m107_7 (fun c13 => ?_) (fun c13 => ?_)
          · have d14 : 99 < (s3).toInt := (lt_k (by rfl) (by rfl)).mp c13
            refine g_iconst m107_14 ?_
            refine g_zret m107_15 rfl (Or.inl rfl) ?_
            refine gwst (st' := [.int (0)]) rfl ?_
            refine g_goto m134_16 ?_
            refine g_istore (L2 := [some (.ref 89), some (.int _), some (.int _), some (.int _), some (.int (0))]) m134_53 rfl rfl ?_
            refine g_aload_n m134_55 rfl ?_
            refine g_iload_n m134_56 rfl ?_
            refine g_cv (args := [.int _]) (rest := []) m134_57 (Nat.le_of_ble_eq_true rfl) rfl rfl rfl (Nat.le_of_ble_eq_true rfl) ?_
            refine wp_in (L := [some (.ref 89), some (.int _)]) (Nat.le_of_ble_eq_true rfl) rfl ?_
            refine g_iload_n m113_0 rfl ?_
            refine g_iconst m113_1 ?_
            refine g_aload_n m113_2 rfl ?_
            refine g_gf m113_3 rfl rfl ?_
            refine g_iconst m113_6 ?_
            refine g_iald (x := (0 : Int32)) m113_7 rfl (vin rfl) rfl ?_
            refine g_iconst m113_8 ?_
            refine g_isub (u := (-1 : Int32)) m113_9 (by decide) ?_
            refine g_cs (args := [.int _, .int (0), .int (-1)]) (rest := []) 0 (Or.inl rfl) m113_10 (Nat.le_of_ble_eq_true rfl) rfl rfl (Nat.le_of_ble_eq_true rfl) ?_
            refine wp_in (L := [some (.int _), some (.int (0)), some (.int (-1))]) (Nat.le_of_ble_eq_true rfl) rfl ?_
            refine g_iload_n m107_0 rfl ?_
            refine g_iload_n m107_1 rfl ?_
            refine g_ic_ltT m107_2 ((lt_k (a := (s1).toInt) (b := 0) (by rfl) (by rfl)).mpr (by omega)) ?_
            refine g_iconst m107_14 ?_
            refine g_zret m107_15 rfl (Or.inl rfl) ?_
            refine gwst (st' := [.int (0)]) rfl ?_
            refine g_zret m113_13 rfl (Or.inl rfl) ?_
            refine gwst (st' := [.int (0)]) rfl ?_
            refine g_if_eqT m134_60 (by decide) ?_
            refine g_aload_n m134_87 rfl ?_
            refine g_ldci m134_88 rfl ?_
            refine g_cv (args := [.int (-1000000001)]) (rest := []) m134_90 (Nat.le_of_ble_eq_true rfl) rfl rfl rfl (Nat.le_of_ble_eq_true rfl) ?_
            refine wp_in (L := [some (.ref 89), some (.int (-1000000001))]) (Nat.le_of_ble_eq_true rfl) rfl ?_
            refine g_aload_n m108_0 rfl ?_
            refine g_gf m108_1 rfl rfl ?_
            refine g_ldci m108_4 rfl ?_
            refine g_iload_n m108_6 rfl ?_
            refine g_isub (u := (1 : Int32)) m108_7 (by decide) ?_
            refine g_dup2 m108_8 rfl rfl ?_
            refine g_iald (x := (0 : Int32)) m108_9 rfl (vin rfl) rfl ?_
            refine g_iconst m108_10 ?_
            refine g_iadd (u := (1 : Int32)) m108_11 (by decide) ?_
            refine g_iast m108_12 (Nat.le_of_ble_eq_true rfl) rfl (vin rfl) rfl rfl rfl ?_
            refine g_iload_n m108_13 rfl ?_
            refine g_iret m108_14 rfl ?_
            refine gwst (st' := [.int (-1000000001)]) rfl ?_
            refine g_iret m134_93 rfl ?_
            refine gwst (st' := [.int (-1000000001), .int (-1000000001)]) rfl ?_
            refine g_ic_eqT m190_401 (by decide) ?_
            refine g_iinc (x2 := (6 : Int32)) (L2 := [some (.ref 0), some (.ref 32), some (.ref 89), some (.int (6))]) m190_1428 rfl (by decide) rfl rfl ?_
            refine g_goto m190_1431 ?_
            refine g_iload_n m190_18 rfl ?_
            refine g_aload_n m190_19 rfl ?_
            refine g_alen (n := 6) m190_20 rfl (Or.inl rfl) rfl ?_
            refine g_bipush m190_21 ?_
            refine g_isub (u := (0 : Int32)) m190_23 (by decide) ?_
            refine g_ic_gtT m190_24 (by decide) ?_
            refine g_iconst m190_1434 ?_
            refine g_zret m190_1435 rfl (Or.inr rfl) ?_
            exact rfl
          · have d14 : ¬ (99 < (s3).toInt) := fun q => c13 ((lt_k (by rfl) (by rfl)).mpr q)
            refine g_iconst m107_10 ?_
            refine g_goto m107_11 ?_
            refine g_zret m107_15 rfl (Or.inr rfl) ?_
            refine gwst (st' := [.int (1)]) rfl ?_
            refine g_goto m134_16 ?_
            refine g_istore (L2 := [some (.ref 89), some (.int _), some (.int _), some (.int _), some (.int (1))]) m134_53 rfl rfl ?_
            refine g_aload_n m134_55 rfl ?_
            refine g_iload_n m134_56 rfl ?_
            refine g_cv (args := [.int _]) (rest := []) m134_57 (Nat.le_of_ble_eq_true rfl) rfl rfl rfl (Nat.le_of_ble_eq_true rfl) ?_
            refine wp_in (L := [some (.ref 89), some (.int _)]) (Nat.le_of_ble_eq_true rfl) rfl ?_
            refine g_iload_n m113_0 rfl ?_
            refine g_iconst m113_1 ?_
            refine g_aload_n m113_2 rfl ?_
            refine g_gf m113_3 rfl rfl ?_
            refine g_iconst m113_6 ?_
            refine g_iald (x := (0 : Int32)) m113_7 rfl (vin rfl) rfl ?_
            refine g_iconst m113_8 ?_
            refine g_isub (u := (-1 : Int32)) m113_9 (by decide) ?_
            refine g_cs (args := [.int _, .int (0), .int (-1)]) (rest := []) 0 (Or.inl rfl) m113_10 (Nat.le_of_ble_eq_true rfl) rfl rfl (Nat.le_of_ble_eq_true rfl) ?_
            refine wp_in (L := [some (.int _), some (.int (0)), some (.int (-1))]) (Nat.le_of_ble_eq_true rfl) rfl ?_
            refine g_iload_n m107_0 rfl ?_
            refine g_iload_n m107_1 rfl ?_
            refine g_ic_ltT m107_2 ((lt_k (a := (s1).toInt) (b := 0) (by rfl) (by rfl)).mpr (by omega)) ?_
            refine g_iconst m107_14 ?_
            refine g_zret m107_15 rfl (Or.inl rfl) ?_
            refine gwst (st' := [.int (0)]) rfl ?_
            refine g_zret m113_13 rfl (Or.inl rfl) ?_
            refine gwst (st' := [.int (0)]) rfl ?_
            refine g_if_eqT m134_60 (by decide) ?_
            refine g_aload_n m134_87 rfl ?_
            refine g_ldci m134_88 rfl ?_
            refine g_cv (args := [.int (-1000000001)]) (rest := []) m134_90 (Nat.le_of_ble_eq_true rfl) rfl rfl rfl (Nat.le_of_ble_eq_true rfl) ?_
            refine wp_in (L := [some (.ref 89), some (.int (-1000000001))]) (Nat.le_of_ble_eq_true rfl) rfl ?_
            refine g_aload_n m108_0 rfl ?_
            refine g_gf m108_1 rfl rfl ?_
            refine g_ldci m108_4 rfl ?_
            refine g_iload_n m108_6 rfl ?_
            refine g_isub (u := (1 : Int32)) m108_7 (by decide) ?_
            refine g_dup2 m108_8 rfl rfl ?_
            refine g_iald (x := (0 : Int32)) m108_9 rfl (vin rfl) rfl ?_
            refine g_iconst m108_10 ?_
            refine g_iadd (u := (1 : Int32)) m108_11 (by decide) ?_
            refine g_iast m108_12 (Nat.le_of_ble_eq_true rfl) rfl (vin rfl) rfl rfl rfl ?_
            refine g_iload_n m108_13 rfl ?_
            refine g_iret m108_14 rfl ?_
            refine gwst (st' := [.int (-1000000001)]) rfl ?_
            refine g_iret m134_93 rfl ?_
            refine gwst (st' := [.int (-1000000001), .int (-1000000001)]) rfl ?_
            refine g_ic_eqT m190_401 (by decide) ?_
            refine g_iinc (x2 := (6 : Int32)) (L2 := [some (.ref 0), some (.ref 32), some (.ref 89), some (.int (6))]) m190_1428 rfl (by decide) rfl rfl ?_
            refine g_goto m190_1431 ?_
            refine g_iload_n m190_18 rfl ?_
            refine g_aload_n m190_19 rfl ?_
            refine g_alen (n := 6) m190_20 rfl (Or.inl rfl) rfl ?_
            refine g_bipush m190_21 ?_
            refine g_isub (u := (0 : Int32)) m190_23 (by decide) ?_
            refine g_ic_gtT m190_24 (by decide) ?_
            refine g_iconst m190_1434 ?_
            refine g_zret m190_1435 rfl (Or.inr rfl) ?_
            exact rfl
      · have d10 : ¬ ((s2).toInt = 2) := fun q => c9 ((eq_k (by rfl) (by rfl)).mpr q)
        refine g_iload_n m134_19 rfl ?_
        refine g_iconst m134_20 ?_
        refine g_ic_ne m134_21 (fun c15 => ?_) (fun c15 => ?_)
        · have d16 : (s2).toInt = 1 := (eq_k (by rfl) (by rfl)).mp c15
          refine g_iload_n m134_24 rfl ?_
          refine g_iconst m134_25 ?_
          refine g_bipush m134_26 ?_
          refine g_cs (args := [.int _, .int (0), .int (9)]) (rest := []) 0 (Or.inl rfl) m134_28 (Nat.le_of_ble_eq_true rfl) rfl rfl (Nat.le_of_ble_eq_true rfl) ?_
          refine wp_in (L := [some (.int _), some (.int (0)), some (.int (9))]) (Nat.le_of_ble_eq_true rfl) rfl ?_
          refine g_iload_n m107_0 rfl ?_
          refine g_iload_n m107_1 rfl ?_
          refine g_ic_lt m107_2 (fun c17 => ?_) (fun c17 => ?_)
          · have d18 : (s3).toInt < 0 := (lt_k (by rfl) (by rfl)).mp c17
            refine g_iconst m107_14 ?_
            refine g_zret m107_15 rfl (Or.inl rfl) ?_
            refine gwst (st' := [.int (0)]) rfl ?_
            refine g_goto m134_31 ?_
            refine g_istore (L2 := [some (.ref 89), some (.int _), some (.int _), some (.int _), some (.int (0))]) m134_53 rfl rfl ?_
            refine g_aload_n m134_55 rfl ?_
            refine g_iload_n m134_56 rfl ?_
            refine g_cv (args := [.int _]) (rest := []) m134_57 (Nat.le_of_ble_eq_true rfl) rfl rfl rfl (Nat.le_of_ble_eq_true rfl) ?_
            refine wp_in (L := [some (.ref 89), some (.int _)]) (Nat.le_of_ble_eq_true rfl) rfl ?_
            refine g_iload_n m113_0 rfl ?_
            refine g_iconst m113_1 ?_
            refine g_aload_n m113_2 rfl ?_
            refine g_gf m113_3 rfl rfl ?_
            refine g_iconst m113_6 ?_
            refine g_iald (x := (0 : Int32)) m113_7 rfl (vin rfl) rfl ?_
            refine g_iconst m113_8 ?_
            refine g_isub (u := (-1 : Int32)) m113_9 (by decide) ?_
            refine g_cs (args := [.int _, .int (0), .int (-1)]) (rest := []) 0 (Or.inl rfl) m113_10 (Nat.le_of_ble_eq_true rfl) rfl rfl (Nat.le_of_ble_eq_true rfl) ?_
            refine wp_in (L := [some (.int _), some (.int (0)), some (.int (-1))]) (Nat.le_of_ble_eq_true rfl) rfl ?_
            refine g_iload_n m107_0 rfl ?_
            refine g_iload_n m107_1 rfl ?_
            refine g_ic_ltT m107_2 ((lt_k (a := (s1).toInt) (b := 0) (by rfl) (by rfl)).mpr (by omega)) ?_
            refine g_iconst m107_14 ?_
            refine g_zret m107_15 rfl (Or.inl rfl) ?_
            refine gwst (st' := [.int (0)]) rfl ?_
            refine g_zret m113_13 rfl (Or.inl rfl) ?_
            refine gwst (st' := [.int (0)]) rfl ?_
            refine g_if_eqT m134_60 (by decide) ?_
            refine g_aload_n m134_87 rfl ?_
            refine g_ldci m134_88 rfl ?_
            refine g_cv (args := [.int (-1000000001)]) (rest := []) m134_90 (Nat.le_of_ble_eq_true rfl) rfl rfl rfl (Nat.le_of_ble_eq_true rfl) ?_
            refine wp_in (L := [some (.ref 89), some (.int (-1000000001))]) (Nat.le_of_ble_eq_true rfl) rfl ?_
            refine g_aload_n m108_0 rfl ?_
            refine g_gf m108_1 rfl rfl ?_
            refine g_ldci m108_4 rfl ?_
            refine g_iload_n m108_6 rfl ?_
            refine g_isub (u := (1 : Int32)) m108_7 (by decide) ?_
            refine g_dup2 m108_8 rfl rfl ?_
            refine g_iald (x := (0 : Int32)) m108_9 rfl (vin rfl) rfl ?_
            refine g_iconst m108_10 ?_
            refine g_iadd (u := (1 : Int32)) m108_11 (by decide) ?_
            refine g_iast m108_12 (Nat.le_of_ble_eq_true rfl) rfl (vin rfl) rfl rfl rfl ?_
            refine g_iload_n m108_13 rfl ?_
            refine g_iret m108_14 rfl ?_
            refine gwst (st' := [.int (-1000000001)]) rfl ?_
            refine g_iret m134_93 rfl ?_
            refine gwst (st' := [.int (-1000000001), .int (-1000000001)]) rfl ?_
            refine g_ic_eqT m190_401 (by decide) ?_
            refine g_iinc (x2 := (6 : Int32)) (L2 := [some (.ref 0), some (.ref 32), some (.ref 89), some (.int (6))]) m190_1428 rfl (by decide) rfl rfl ?_
            refine g_goto m190_1431 ?_
            refine g_iload_n m190_18 rfl ?_
            refine g_aload_n m190_19 rfl ?_
            refine g_alen (n := 6) m190_20 rfl (Or.inl rfl) rfl ?_
            refine g_bipush m190_21 ?_
            refine g_isub (u := (0 : Int32)) m190_23 (by decide) ?_
            refine g_ic_gtT m190_24 (by decide) ?_
            refine g_iconst m190_1434 ?_
            refine g_zret m190_1435 rfl (Or.inr rfl) ?_
            exact rfl
          · have d18 : ¬ ((s3).toInt < 0) := fun q => c17 ((lt_k (by rfl) (by rfl)).mpr q)
            refine g_iload_n m107_5 rfl ?_
            refine g_iload_n m107_6 rfl ?_
            refine g_ic_gt m107_7 (fun c19 => ?_) (fun c19 => ?_)
            · have d20 : 9 < (s3).toInt := (lt_k (by rfl) (by rfl)).mp c19
              refine g_iconst m107_14 ?_
              refine g_zret m107_15 rfl (Or.inl rfl) ?_
              refine gwst (st' := [.int (0)]) rfl ?_
              refine g_goto m134_31 ?_
              refine g_istore (L2 := [some (.ref 89), some (.int _), some (.int _), some (.int _), some (.int (0))]) m134_53 rfl rfl ?_
              refine g_aload_n m134_55 rfl ?_
              refine g_iload_n m134_56 rfl ?_
              refine g_cv (args := [.int _]) (rest := []) m134_57 (Nat.le_of_ble_eq_true rfl) rfl rfl rfl (Nat.le_of_ble_eq_true rfl) ?_
              refine wp_in (L := [some (.ref 89), some (.int _)]) (Nat.le_of_ble_eq_true rfl) rfl ?_
              refine g_iload_n m113_0 rfl ?_
              refine g_iconst m113_1 ?_
              refine g_aload_n m113_2 rfl ?_
              refine g_gf m113_3 rfl rfl ?_
              refine g_iconst m113_6 ?_
              refine g_iald (x := (0 : Int32)) m113_7 rfl (vin rfl) rfl ?_
              refine g_iconst m113_8 ?_
              refine g_isub (u := (-1 : Int32)) m113_9 (by decide) ?_
              refine g_cs (args := [.int _, .int (0), .int (-1)]) (rest := []) 0 (Or.inl rfl) m113_10 (Nat.le_of_ble_eq_true rfl) rfl rfl (Nat.le_of_ble_eq_true rfl) ?_
              refine wp_in (L := [some (.int _), some (.int (0)), some (.int (-1))]) (Nat.le_of_ble_eq_true rfl) rfl ?_
              refine g_iload_n m107_0 rfl ?_
              refine g_iload_n m107_1 rfl ?_
              refine g_ic_ltT m107_2 ((lt_k (a := (s1).toInt) (b := 0) (by rfl) (by rfl)).mpr (by omega)) ?_
              refine g_iconst m107_14 ?_
              refine g_zret m107_15 rfl (Or.inl rfl) ?_
              refine gwst (st' := [.int (0)]) rfl ?_
              refine g_zret m113_13 rfl (Or.inl rfl) ?_
              refine gwst (st' := [.int (0)]) rfl ?_
              refine g_if_eqT m134_60 (by decide) ?_
              refine g_aload_n m134_87 rfl ?_
              refine g_ldci m134_88 rfl ?_
              refine g_cv (args := [.int (-1000000001)]) (rest := []) m134_90 (Nat.le_of_ble_eq_true rfl) rfl rfl rfl (Nat.le_of_ble_eq_true rfl) ?_
              refine wp_in (L := [some (.ref 89), some (.int (-1000000001))]) (Nat.le_of_ble_eq_true rfl) rfl ?_
              refine g_aload_n m108_0 rfl ?_
              refine g_gf m108_1 rfl rfl ?_
              refine g_ldci m108_4 rfl ?_
              refine g_iload_n m108_6 rfl ?_
              refine g_isub (u := (1 : Int32)) m108_7 (by decide) ?_
              refine g_dup2 m108_8 rfl rfl ?_
              refine g_iald (x := (0 : Int32)) m108_9 rfl (vin rfl) rfl ?_
              refine g_iconst m108_10 ?_
              refine g_iadd (u := (1 : Int32)) m108_11 (by decide) ?_
              refine g_iast m108_12 (Nat.le_of_ble_eq_true rfl) rfl (vin rfl) rfl rfl rfl ?_
              refine g_iload_n m108_13 rfl ?_
              refine g_iret m108_14 rfl ?_
              refine gwst (st' := [.int (-1000000001)]) rfl ?_
              refine g_iret m134_93 rfl ?_
              refine gwst (st' := [.int (-1000000001), .int (-1000000001)]) rfl ?_
              refine g_ic_eqT m190_401 (by decide) ?_
              refine g_iinc (x2 := (6 : Int32)) (L2 := [some (.ref 0), some (.ref 32), some (.ref 89), some (.int (6))]) m190_1428 rfl (by decide) rfl rfl ?_
              refine g_goto m190_1431 ?_
              refine g_iload_n m190_18 rfl ?_
              refine g_aload_n m190_19 rfl ?_
              refine g_alen (n := 6) m190_20 rfl (Or.inl rfl) rfl ?_
              refine g_bipush m190_21 ?_
              refine g_isub (u := (0 : Int32)) m190_23 (by decide) ?_
              refine g_ic_gtT m190_24 (by decide) ?_
              refine g_iconst m190_1434 ?_
              refine g_zret m190_1435 rfl (Or.inr rfl) ?_
              exact rfl
            · have d20 : ¬ (9 < (s3).toInt) := fun q => c19 ((lt_k (by rfl) (by rfl)).mpr q)
              refine g_iconst m107_10 ?_
              refine g_goto m107_11 ?_
              refine g_zret m107_15 rfl (Or.inr rfl) ?_
              refine gwst (st' := [.int (1)]) rfl ?_
              refine g_goto m134_31 ?_
              refine g_istore (L2 := [some (.ref 89), some (.int _), some (.int _), some (.int _), some (.int (1))]) m134_53 rfl rfl ?_
              refine g_aload_n m134_55 rfl ?_
              refine g_iload_n m134_56 rfl ?_
              refine g_cv (args := [.int _]) (rest := []) m134_57 (Nat.le_of_ble_eq_true rfl) rfl rfl rfl (Nat.le_of_ble_eq_true rfl) ?_
              refine wp_in (L := [some (.ref 89), some (.int _)]) (Nat.le_of_ble_eq_true rfl) rfl ?_
              refine g_iload_n m113_0 rfl ?_
              refine g_iconst m113_1 ?_
              refine g_aload_n m113_2 rfl ?_
              refine g_gf m113_3 rfl rfl ?_
              refine g_iconst m113_6 ?_
              refine g_iald (x := (0 : Int32)) m113_7 rfl (vin rfl) rfl ?_
              refine g_iconst m113_8 ?_
              refine g_isub (u := (-1 : Int32)) m113_9 (by decide) ?_
              refine g_cs (args := [.int _, .int (0), .int (-1)]) (rest := []) 0 (Or.inl rfl) m113_10 (Nat.le_of_ble_eq_true rfl) rfl rfl (Nat.le_of_ble_eq_true rfl) ?_
              refine wp_in (L := [some (.int _), some (.int (0)), some (.int (-1))]) (Nat.le_of_ble_eq_true rfl) rfl ?_
              refine g_iload_n m107_0 rfl ?_
              refine g_iload_n m107_1 rfl ?_
              refine g_ic_ltT m107_2 ((lt_k (a := (s1).toInt) (b := 0) (by rfl) (by rfl)).mpr (by omega)) ?_
              refine g_iconst m107_14 ?_
              refine g_zret m107_15 rfl (Or.inl rfl) ?_
              refine gwst (st' := [.int (0)]) rfl ?_
              refine g_zret m113_13 rfl (Or.inl rfl) ?_
              refine gwst (st' := [.int (0)]) rfl ?_
              refine g_if_eqT m134_60 (by decide) ?_
              refine g_aload_n m134_87 rfl ?_
              refine g_ldci m134_88 rfl ?_
              refine g_cv (args := [.int (-1000000001)]) (rest := []) m134_90 (Nat.le_of_ble_eq_true rfl) rfl rfl rfl (Nat.le_of_ble_eq_true rfl) ?_
              refine wp_in (L := [some (.ref 89), some (.int (-1000000001))]) (Nat.le_of_ble_eq_true rfl) rfl ?_
              refine g_aload_n m108_0 rfl ?_
              refine g_gf m108_1 rfl rfl ?_
              refine g_ldci m108_4 rfl ?_
              refine g_iload_n m108_6 rfl ?_
              refine g_isub (u := (1 : Int32)) m108_7 (by decide) ?_
              refine g_dup2 m108_8 rfl rfl ?_
              refine g_iald (x := (0 : Int32)) m108_9 rfl (vin rfl) rfl ?_
              refine g_iconst m108_10 ?_
              refine g_iadd (u := (1 : Int32)) m108_11 (by decide) ?_
              refine g_iast m108_12 (Nat.le_of_ble_eq_true rfl) rfl (vin rfl) rfl rfl rfl ?_
              refine g_iload_n m108_13 rfl ?_
              refine g_iret m108_14 rfl ?_
              refine gwst (st' := [.int (-1000000001)]) rfl ?_
              refine g_iret m134_93 rfl ?_
              refine gwst (st' := [.int (-1000000001), .int (-1000000001)]) rfl ?_
              refine g_ic_eqT m190_401 (by decide) ?_
              refine g_iinc (x2 := (6 : Int32)) (L2 := [some (.ref 0), some (.ref 32), some (.ref 89), some (.int (6))]) m190_1428 rfl (by decide) rfl rfl ?_
              refine g_goto m190_1431 ?_
              refine g_iload_n m190_18 rfl ?_
              refine g_aload_n m190_19 rfl ?_
              refine g_alen (n := 6) m190_20 rfl (Or.inl rfl) rfl ?_
              refine g_bipush m190_21 ?_
              refine g_isub (u := (0 : Int32)) m190_23 (by decide) ?_
              refine g_ic_gtT m190_24 (by decide) ?_
              refine g_iconst m190_1434 ?_
              refine g_zret m190_1435 rfl (Or.inr rfl) ?_
              exact rfl
        · have d16 : ¬ ((s2).toInt = 1) := fun q => c15 ((eq_k (by rfl) (by rfl)).mpr q)
          refine g_iload_n m134_34 rfl ?_
          refine g_iconst m134_35 ?_
          refine g_ic_ne m134_36 (fun c21 => ?_) (fun c21 => ?_)
          · have d22 : (s2).toInt = 3 := (eq_k (by rfl) (by rfl)).mp c21
            refine g_iload_n m134_39 rfl ?_
            refine g_iconst m134_40 ?_
            refine g_iconst m134_41 ?_
            refine g_cs (args := [.int _, .int (0), .int (1)]) (rest := []) 0 (Or.inl rfl) m134_42 (Nat.le_of_ble_eq_true rfl) rfl rfl (Nat.le_of_ble_eq_true rfl) ?_
            refine wp_in (L := [some (.int _), some (.int (0)), some (.int (1))]) (Nat.le_of_ble_eq_true rfl) rfl ?_
            refine g_iload_n m107_0 rfl ?_
            refine g_iload_n m107_1 rfl ?_
            refine g_ic_lt m107_2 (fun c23 => ?_) (fun c23 => ?_)
            · have d24 : (s3).toInt < 0 := (lt_k (by rfl) (by rfl)).mp c23
              refine g_iconst m107_14 ?_
              refine g_zret m107_15 rfl (Or.inl rfl) ?_
              refine gwst (st' := [.int (0)]) rfl ?_
              refine g_if_eqT m134_45 (by decide) ?_
              refine g_iconst m134_52 ?_
              refine g_istore (L2 := [some (.ref 89), some (.int _), some (.int _), some (.int _), some (.int (0))]) m134_53 rfl rfl ?_
              refine g_aload_n m134_55 rfl ?_
              refine g_iload_n m134_56 rfl ?_
              refine g_cv (args := [.int _]) (rest := []) m134_57 (Nat.le_of_ble_eq_true rfl) rfl rfl rfl (Nat.le_of_ble_eq_true rfl) ?_
              refine wp_in (L := [some (.ref 89), some (.int _)]) (Nat.le_of_ble_eq_true rfl) rfl ?_
              refine g_iload_n m113_0 rfl ?_
              refine g_iconst m113_1 ?_
              refine g_aload_n m113_2 rfl ?_
              refine g_gf m113_3 rfl rfl ?_
              refine g_iconst m113_6 ?_
              refine g_iald (x := (0 : Int32)) m113_7 rfl (vin rfl) rfl ?_
              refine g_iconst m113_8 ?_
              refine g_isub (u := (-1 : Int32)) m113_9 (by decide) ?_
              refine g_cs (args := [.int _, .int (0), .int (-1)]) (rest := []) 0 (Or.inl rfl) m113_10 (Nat.le_of_ble_eq_true rfl) rfl rfl (Nat.le_of_ble_eq_true rfl) ?_
              refine wp_in (L := [some (.int _), some (.int (0)), some (.int (-1))]) (Nat.le_of_ble_eq_true rfl) rfl ?_
              refine g_iload_n m107_0 rfl ?_
              refine g_iload_n m107_1 rfl ?_
              refine g_ic_ltT m107_2 ((lt_k (a := (s1).toInt) (b := 0) (by rfl) (by rfl)).mpr (by omega)) ?_
              refine g_iconst m107_14 ?_
              refine g_zret m107_15 rfl (Or.inl rfl) ?_
              refine gwst (st' := [.int (0)]) rfl ?_
              refine g_zret m113_13 rfl (Or.inl rfl) ?_
              refine gwst (st' := [.int (0)]) rfl ?_
              refine g_if_eqT m134_60 (by decide) ?_
              refine g_aload_n m134_87 rfl ?_
              refine g_ldci m134_88 rfl ?_
              refine g_cv (args := [.int (-1000000001)]) (rest := []) m134_90 (Nat.le_of_ble_eq_true rfl) rfl rfl rfl (Nat.le_of_ble_eq_true rfl) ?_
              refine wp_in (L := [some (.ref 89), some (.int (-1000000001))]) (Nat.le_of_ble_eq_true rfl) rfl ?_
              refine g_aload_n m108_0 rfl ?_
              refine g_gf m108_1 rfl rfl ?_
              refine g_ldci m108_4 rfl ?_
              refine g_iload_n m108_6 rfl ?_
              refine g_isub (u := (1 : Int32)) m108_7 (by decide) ?_
              refine g_dup2 m108_8 rfl rfl ?_
              refine g_iald (x := (0 : Int32)) m108_9 rfl (vin rfl) rfl ?_
              refine g_iconst m108_10 ?_
              refine g_iadd (u := (1 : Int32)) m108_11 (by decide) ?_
              refine g_iast m108_12 (Nat.le_of_ble_eq_true rfl) rfl (vin rfl) rfl rfl rfl ?_
              refine g_iload_n m108_13 rfl ?_
              refine g_iret m108_14 rfl ?_
              refine gwst (st' := [.int (-1000000001)]) rfl ?_
              refine g_iret m134_93 rfl ?_
              refine gwst (st' := [.int (-1000000001), .int (-1000000001)]) rfl ?_
              refine g_ic_eqT m190_401 (by decide) ?_
              refine g_iinc (x2 := (6 : Int32)) (L2 := [some (.ref 0), some (.ref 32), some (.ref 89), some (.int (6))]) m190_1428 rfl (by decide) rfl rfl ?_
              refine g_goto m190_1431 ?_
              refine g_iload_n m190_18 rfl ?_
              refine g_aload_n m190_19 rfl ?_
              refine g_alen (n := 6) m190_20 rfl (Or.inl rfl) rfl ?_
              refine g_bipush m190_21 ?_
              refine g_isub (u := (0 : Int32)) m190_23 (by decide) ?_
              refine g_ic_gtT m190_24 (by decide) ?_
              refine g_iconst m190_1434 ?_
              refine g_zret m190_1435 rfl (Or.inr rfl) ?_
              exact rfl
            · have d24 : ¬ ((s3).toInt < 0) := fun q => c23 ((lt_k (by rfl) (by rfl)).mpr q)
              refine g_iload_n m107_5 rfl ?_
              refine g_iload_n m107_6 rfl ?_
              refine g_ic_gt m107_7 (fun c25 => ?_) (fun c25 => ?_)
              · have d26 : 1 < (s3).toInt := (lt_k (by rfl) (by rfl)).mp c25
                refine g_iconst m107_14 ?_
                refine g_zret m107_15 rfl (Or.inl rfl) ?_
                refine gwst (st' := [.int (0)]) rfl ?_
                refine g_if_eqT m134_45 (by decide) ?_
                refine g_iconst m134_52 ?_
                refine g_istore (L2 := [some (.ref 89), some (.int _), some (.int _), some (.int _), some (.int (0))]) m134_53 rfl rfl ?_
                refine g_aload_n m134_55 rfl ?_
                refine g_iload_n m134_56 rfl ?_
                refine g_cv (args := [.int _]) (rest := []) m134_57 (Nat.le_of_ble_eq_true rfl) rfl rfl rfl (Nat.le_of_ble_eq_true rfl) ?_
                refine wp_in (L := [some (.ref 89), some (.int _)]) (Nat.le_of_ble_eq_true rfl) rfl ?_
                refine g_iload_n m113_0 rfl ?_
                refine g_iconst m113_1 ?_
                refine g_aload_n m113_2 rfl ?_
                refine g_gf m113_3 rfl rfl ?_
                refine g_iconst m113_6 ?_
                refine g_iald (x := (0 : Int32)) m113_7 rfl (vin rfl) rfl ?_
                refine g_iconst m113_8 ?_
                refine g_isub (u := (-1 : Int32)) m113_9 (by decide) ?_
                refine g_cs (args := [.int _, .int (0), .int (-1)]) (rest := []) 0 (Or.inl rfl) m113_10 (Nat.le_of_ble_eq_true rfl) rfl rfl (Nat.le_of_ble_eq_true rfl) ?_
                refine wp_in (L := [some (.int _), some (.int (0)), some (.int (-1))]) (Nat.le_of_ble_eq_true rfl) rfl ?_
                refine g_iload_n m107_0 rfl ?_
                refine g_iload_n m107_1 rfl ?_
                refine g_ic_ltT m107_2 ((lt_k (a := (s1).toInt) (b := 0) (by rfl) (by rfl)).mpr (by omega)) ?_
                refine g_iconst m107_14 ?_
                refine g_zret m107_15 rfl (Or.inl rfl) ?_
                refine gwst (st' := [.int (0)]) rfl ?_
                refine g_zret m113_13 rfl (Or.inl rfl) ?_
                refine gwst (st' := [.int (0)]) rfl ?_
                refine g_if_eqT m134_60 (by decide) ?_
                refine g_aload_n m134_87 rfl ?_
                refine g_ldci m134_88 rfl ?_
                refine g_cv (args := [.int (-1000000001)]) (rest := []) m134_90 (Nat.le_of_ble_eq_true rfl) rfl rfl rfl (Nat.le_of_ble_eq_true rfl) ?_
                refine wp_in (L := [some (.ref 89), some (.int (-1000000001))]) (Nat.le_of_ble_eq_true rfl) rfl ?_
                refine g_aload_n m108_0 rfl ?_
                refine g_gf m108_1 rfl rfl ?_
                refine g_ldci m108_4 rfl ?_
                refine g_iload_n m108_6 rfl ?_
                refine g_isub (u := (1 : Int32)) m108_7 (by decide) ?_
                refine g_dup2 m108_8 rfl rfl ?_
                refine g_iald (x := (0 : Int32)) m108_9 rfl (vin rfl) rfl ?_
                refine g_iconst m108_10 ?_
                refine g_iadd (u := (1 : Int32)) m108_11 (by decide) ?_
                refine g_iast m108_12 (Nat.le_of_ble_eq_true rfl) rfl (vin rfl) rfl rfl rfl ?_
                refine g_iload_n m108_13 rfl ?_
                refine g_iret m108_14 rfl ?_
                refine gwst (st' := [.int (-1000000001)]) rfl ?_
                refine g_iret m134_93 rfl ?_
                refine gwst (st' := [.int (-1000000001), .int (-1000000001)]) rfl ?_
                refine g_ic_eqT m190_401 (by decide) ?_
                refine g_iinc (x2 := (6 : Int32)) (L2 := [some (.ref 0), some (.ref 32), some (.ref 89), some (.int (6))]) m190_1428 rfl (by decide) rfl rfl ?_
                refine g_goto m190_1431 ?_
                refine g_iload_n m190_18 rfl ?_
                refine g_aload_n m190_19 rfl ?_
                refine g_alen (n := 6) m190_20 rfl (Or.inl rfl) rfl ?_
                refine g_bipush m190_21 ?_
                refine g_isub (u := (0 : Int32)) m190_23 (by decide) ?_
                refine g_ic_gtT m190_24 (by decide) ?_
                refine g_iconst m190_1434 ?_
                refine g_zret m190_1435 rfl (Or.inr rfl) ?_
                exact rfl
              · have d26 : ¬ (1 < (s3).toInt) := fun q => c25 ((lt_k (by rfl) (by rfl)).mpr q)
                refine g_iconst m107_10 ?_
                refine g_goto m107_11 ?_
                refine g_zret m107_15 rfl (Or.inr rfl) ?_
                refine gwst (st' := [.int (1)]) rfl ?_
                refine g_if_eqF m134_45 (by decide) ?_
                refine g_iconst m134_48 ?_
                refine g_goto m134_49 ?_
                refine g_istore (L2 := [some (.ref 89), some (.int _), some (.int _), some (.int _), some (.int (1))]) m134_53 rfl rfl ?_
                refine g_aload_n m134_55 rfl ?_
                refine g_iload_n m134_56 rfl ?_
                refine g_cv (args := [.int _]) (rest := []) m134_57 (Nat.le_of_ble_eq_true rfl) rfl rfl rfl (Nat.le_of_ble_eq_true rfl) ?_
                refine wp_in (L := [some (.ref 89), some (.int _)]) (Nat.le_of_ble_eq_true rfl) rfl ?_
                refine g_iload_n m113_0 rfl ?_
                refine g_iconst m113_1 ?_
                refine g_aload_n m113_2 rfl ?_
                refine g_gf m113_3 rfl rfl ?_
                refine g_iconst m113_6 ?_
                refine g_iald (x := (0 : Int32)) m113_7 rfl (vin rfl) rfl ?_
                refine g_iconst m113_8 ?_
                refine g_isub (u := (-1 : Int32)) m113_9 (by decide) ?_
                refine g_cs (args := [.int _, .int (0), .int (-1)]) (rest := []) 0 (Or.inl rfl) m113_10 (Nat.le_of_ble_eq_true rfl) rfl rfl (Nat.le_of_ble_eq_true rfl) ?_
                refine wp_in (L := [some (.int _), some (.int (0)), some (.int (-1))]) (Nat.le_of_ble_eq_true rfl) rfl ?_
                refine g_iload_n m107_0 rfl ?_
                refine g_iload_n m107_1 rfl ?_
                refine g_ic_ltT m107_2 ((lt_k (a := (s1).toInt) (b := 0) (by rfl) (by rfl)).mpr (by omega)) ?_
                refine g_iconst m107_14 ?_
                refine g_zret m107_15 rfl (Or.inl rfl) ?_
                refine gwst (st' := [.int (0)]) rfl ?_
                refine g_zret m113_13 rfl (Or.inl rfl) ?_
                refine gwst (st' := [.int (0)]) rfl ?_
                refine g_if_eqT m134_60 (by decide) ?_
                refine g_aload_n m134_87 rfl ?_
                refine g_ldci m134_88 rfl ?_
                refine g_cv (args := [.int (-1000000001)]) (rest := []) m134_90 (Nat.le_of_ble_eq_true rfl) rfl rfl rfl (Nat.le_of_ble_eq_true rfl) ?_
                refine wp_in (L := [some (.ref 89), some (.int (-1000000001))]) (Nat.le_of_ble_eq_true rfl) rfl ?_
                refine g_aload_n m108_0 rfl ?_
                refine g_gf m108_1 rfl rfl ?_
                refine g_ldci m108_4 rfl ?_
                refine g_iload_n m108_6 rfl ?_
                refine g_isub (u := (1 : Int32)) m108_7 (by decide) ?_
                refine g_dup2 m108_8 rfl rfl ?_
                refine g_iald (x := (0 : Int32)) m108_9 rfl (vin rfl) rfl ?_
                refine g_iconst m108_10 ?_
                refine g_iadd (u := (1 : Int32)) m108_11 (by decide) ?_
                refine g_iast m108_12 (Nat.le_of_ble_eq_true rfl) rfl (vin rfl) rfl rfl rfl ?_
                refine g_iload_n m108_13 rfl ?_
                refine g_iret m108_14 rfl ?_
                refine gwst (st' := [.int (-1000000001)]) rfl ?_
                refine g_iret m134_93 rfl ?_
                refine gwst (st' := [.int (-1000000001), .int (-1000000001)]) rfl ?_
                refine g_ic_eqT m190_401 (by decide) ?_
                refine g_iinc (x2 := (6 : Int32)) (L2 := [some (.ref 0), some (.ref 32), some (.ref 89), some (.int (6))]) m190_1428 rfl (by decide) rfl rfl ?_
                refine g_goto m190_1431 ?_
                refine g_iload_n m190_18 rfl ?_
                refine g_aload_n m190_19 rfl ?_
                refine g_alen (n := 6) m190_20 rfl (Or.inl rfl) rfl ?_
                refine g_bipush m190_21 ?_
                refine g_isub (u := (0 : Int32)) m190_23 (by decide) ?_
                refine g_ic_gtT m190_24 (by decide) ?_
                refine g_iconst m190_1434 ?_
                refine g_zret m190_1435 rfl (Or.inr rfl) ?_
                exact rfl
          · have d22 : ¬ ((s2).toInt = 3) := fun q => c21 ((eq_k (by rfl) (by rfl)).mpr q)
            refine g_iconst m134_52 ?_
            refine g_istore (L2 := [some (.ref 89), some (.int _), some (.int _), some (.int _), some (.int (0))]) m134_53 rfl rfl ?_
            refine g_aload_n m134_55 rfl ?_
            refine g_iload_n m134_56 rfl ?_
            refine g_cv (args := [.int _]) (rest := []) m134_57 (Nat.le_of_ble_eq_true rfl) rfl rfl rfl (Nat.le_of_ble_eq_true rfl) ?_
            refine wp_in (L := [some (.ref 89), some (.int _)]) (Nat.le_of_ble_eq_true rfl) rfl ?_
            refine g_iload_n m113_0 rfl ?_
            refine g_iconst m113_1 ?_
            refine g_aload_n m113_2 rfl ?_
            refine g_gf m113_3 rfl rfl ?_
            refine g_iconst m113_6 ?_
            refine g_iald (x := (0 : Int32)) m113_7 rfl (vin rfl) rfl ?_
            refine g_iconst m113_8 ?_
            refine g_isub (u := (-1 : Int32)) m113_9 (by decide) ?_
            refine g_cs (args := [.int _, .int (0), .int (-1)]) (rest := []) 0 (Or.inl rfl) m113_10 (Nat.le_of_ble_eq_true rfl) rfl rfl (Nat.le_of_ble_eq_true rfl) ?_
            refine wp_in (L := [some (.int _), some (.int (0)), some (.int (-1))]) (Nat.le_of_ble_eq_true rfl) rfl ?_
            refine g_iload_n m107_0 rfl ?_
            refine g_iload_n m107_1 rfl ?_
            refine g_ic_ltT m107_2 ((lt_k (a := (s1).toInt) (b := 0) (by rfl) (by rfl)).mpr (by omega)) ?_
            refine g_iconst m107_14 ?_
            refine g_zret m107_15 rfl (Or.inl rfl) ?_
            refine gwst (st' := [.int (0)]) rfl ?_
            refine g_zret m113_13 rfl (Or.inl rfl) ?_
            refine gwst (st' := [.int (0)]) rfl ?_
            refine g_if_eqT m134_60 (by decide) ?_
            refine g_aload_n m134_87 rfl ?_
            refine g_ldci m134_88 rfl ?_
            refine g_cv (args := [.int (-1000000001)]) (rest := []) m134_90 (Nat.le_of_ble_eq_true rfl) rfl rfl rfl (Nat.le_of_ble_eq_true rfl) ?_
            refine wp_in (L := [some (.ref 89), some (.int (-1000000001))]) (Nat.le_of_ble_eq_true rfl) rfl ?_
            refine g_aload_n m108_0 rfl ?_
            refine g_gf m108_1 rfl rfl ?_
            refine g_ldci m108_4 rfl ?_
            refine g_iload_n m108_6 rfl ?_
            refine g_isub (u := (1 : Int32)) m108_7 (by decide) ?_
            refine g_dup2 m108_8 rfl rfl ?_
            refine g_iald (x := (0 : Int32)) m108_9 rfl (vin rfl) rfl ?_
            refine g_iconst m108_10 ?_
            refine g_iadd (u := (1 : Int32)) m108_11 (by decide) ?_
            refine g_iast m108_12 (Nat.le_of_ble_eq_true rfl) rfl (vin rfl) rfl rfl rfl ?_
            refine g_iload_n m108_13 rfl ?_
            refine g_iret m108_14 rfl ?_
            refine gwst (st' := [.int (-1000000001)]) rfl ?_
            refine g_iret m134_93 rfl ?_
            refine gwst (st' := [.int (-1000000001), .int (-1000000001)]) rfl ?_
            refine g_ic_eqT m190_401 (by decide) ?_
            refine g_iinc (x2 := (6 : Int32)) (L2 := [some (.ref 0), some (.ref 32), some (.ref 89), some (.int (6))]) m190_1428 rfl (by decide) rfl rfl ?_
            refine g_goto m190_1431 ?_
            refine g_iload_n m190_18 rfl ?_
            refine g_aload_n m190_19 rfl ?_
            refine g_alen (n := 6) m190_20 rfl (Or.inl rfl) rfl ?_
            refine g_bipush m190_21 ?_
            refine g_isub (u := (0 : Int32)) m190_23 (by decide) ?_
            refine g_ic_gtT m190_24 (by decide) ?_
            refine g_iconst m190_1434 ?_
            refine g_zret m190_1435 rfl (Or.inr rfl) ?_
            exact rfl
  · have d2 : ¬ ((s1).toInt < 0) := fun q => c1 ((lt_k (by rfl) (by rfl)).mpr q)
    refine g_iload_n m60_4 rfl ?_
    refine g_aload_n m60_5 rfl ?_
    refine g_gf m60_6 rfl rfl ?_
    refine g_gf m60_9 rfl rfl ?_
    refine g_ic_geT m60_12 ((le_k (a := 0) (b := (s1).toInt) (by rfl) (by rfl)).mpr (by omega)) ?_
    refine g_iconst m60_19 ?_
    refine g_zret m60_20 rfl (Or.inl rfl) ?_
    refine gwst (st' := [.int (0)]) rfl ?_
    refine g_if_eqT m63_5 (by decide) ?_
    refine g_aload_n m63_27 rfl ?_
    refine g_iconst m63_28 ?_
    refine g_cv (args := [.int (1)]) (rest := []) m63_29 (Nat.le_of_ble_eq_true rfl) rfl rfl rfl (Nat.le_of_ble_eq_true rfl) ?_
    refine wp_in (L := [some (.ref 32), some (.int (1))]) (Nat.le_of_ble_eq_true rfl) rfl ?_
    refine g_aload_n m55_0 rfl ?_
    refine g_gf m55_1 rfl rfl ?_
    refine g_iload_n m55_4 rfl ?_
    refine g_dup2 m55_5 rfl rfl ?_
    refine g_iald (x := (0 : Int32)) m55_6 rfl (vin rfl) rfl ?_
    refine g_iconst m55_7 ?_
    refine g_iadd (u := (1 : Int32)) m55_8 (by decide) ?_
    refine g_iast m55_9 (Nat.le_of_ble_eq_true rfl) rfl (vin rfl) rfl rfl rfl ?_
    refine g_ldcw m55_10 ?_
    refine g_iload_n m55_13 rfl ?_
    refine g_isub (u := (-1000000001 : Int32)) m55_14 (by decide) ?_
    refine g_iret m55_15 rfl ?_
    refine gwst (st' := [.int (-1000000001)]) rfl ?_
    refine g_iret m63_32 rfl ?_
    refine gwst (st' := [.int (-1000000001)]) rfl ?_
    refine FRg rfl (fun f => ?_)
    refine g_aload_n m190_382 rfl ?_
    refine g_aload_n m190_383 rfl ?_
    refine g_iload_n m190_384 rfl ?_
    refine g_iconst m190_385 ?_
    refine g_iadd (u := (1 : Int32)) m190_386 (by decide) ?_
    refine g_iald (x := s1) m190_387 rfl (vin rfl) rfl ?_
    refine g_aload_n m190_388 rfl ?_
    refine g_iload_n m190_389 rfl ?_
    refine g_iconst m190_390 ?_
    refine g_iadd (u := (2 : Int32)) m190_391 (by decide) ?_
    refine g_iald (x := s2) m190_392 rfl (vin rfl) rfl ?_
    refine g_aload_n m190_393 rfl ?_
    refine g_iload_n m190_394 rfl ?_
    refine g_iconst m190_395 ?_
    refine g_iadd (u := (3 : Int32)) m190_396 (by decide) ?_
    refine g_iald (x := s3) m190_397 rfl (vin rfl) rfl ?_
    refine g_cv (args := [.int _, .int _, .int _]) (rest := [.int (-1000000001)]) m190_398 (Nat.le_of_ble_eq_true rfl) rfl rfl rfl (Nat.le_of_ble_eq_true rfl) ?_
    refine wp_in (L := [some (.ref 89), some (.int _), some (.int _), some (.int _), none]) (Nat.le_of_ble_eq_true rfl) rfl ?_
    refine g_iload_n m134_0 rfl ?_
    refine g_if_eq m134_1 (fun c27 => ?_) (fun c27 => ?_)
    · have d28 : (s2).toInt = 0 := (eq_k (by rfl) (by rfl)).mp c27
      refine g_iload_n m134_9 rfl ?_
      refine g_iconst m134_10 ?_
      refine g_bipush m134_11 ?_
      refine g_cs (args := [.int _, .int (0), .int (99)]) (rest := []) 0 (Or.inl rfl) m134_13 (Nat.le_of_ble_eq_true rfl) rfl rfl (Nat.le_of_ble_eq_true rfl) ?_
      refine wp_in (L := [some (.int _), some (.int (0)), some (.int (99))]) (Nat.le_of_ble_eq_true rfl) rfl ?_
      refine g_iload_n m107_0 rfl ?_
      refine g_iload_n m107_1 rfl ?_
      refine g_ic_lt m107_2 (fun c29 => ?_) (fun c29 => ?_)
      · have d30 : (s3).toInt < 0 := (lt_k (by rfl) (by rfl)).mp c29
        refine g_iconst m107_14 ?_
        refine g_zret m107_15 rfl (Or.inl rfl) ?_
        refine gwst (st' := [.int (0)]) rfl ?_
        refine g_goto m134_16 ?_
        refine g_istore (L2 := [some (.ref 89), some (.int _), some (.int _), some (.int _), some (.int (0))]) m134_53 rfl rfl ?_
        refine g_aload_n m134_55 rfl ?_
        refine g_iload_n m134_56 rfl ?_
        refine g_cv (args := [.int _]) (rest := []) m134_57 (Nat.le_of_ble_eq_true rfl) rfl rfl rfl (Nat.le_of_ble_eq_true rfl) ?_
        refine wp_in (L := [some (.ref 89), some (.int _)]) (Nat.le_of_ble_eq_true rfl) rfl ?_
        refine g_iload_n m113_0 rfl ?_
        refine g_iconst m113_1 ?_
        refine g_aload_n m113_2 rfl ?_
        refine g_gf m113_3 rfl rfl ?_
        refine g_iconst m113_6 ?_
        refine g_iald (x := (0 : Int32)) m113_7 rfl (vin rfl) rfl ?_
        refine g_iconst m113_8 ?_
        refine g_isub (u := (-1 : Int32)) m113_9 (by decide) ?_
        refine g_cs (args := [.int _, .int (0), .int (-1)]) (rest := []) 0 (Or.inl rfl) m113_10 (Nat.le_of_ble_eq_true rfl) rfl rfl (Nat.le_of_ble_eq_true rfl) ?_
        refine wp_in (L := [some (.int _), some (.int (0)), some (.int (-1))]) (Nat.le_of_ble_eq_true rfl) rfl ?_
        refine g_iload_n m107_0 rfl ?_
        refine g_iload_n m107_1 rfl ?_
        refine g_ic_ltF m107_2 (fun q => absurd ((lt_k (a := (s1).toInt) (b := 0) (by rfl) (by rfl)).mp q) (by omega)) ?_
        refine g_iload_n m107_5 rfl ?_
        refine g_iload_n m107_6 rfl ?_
        refine g_ic_gtT m107_7 ((lt_k (a := (-1)) (b := (s1).toInt) (by rfl) (by rfl)).mpr (by omega)) ?_
        refine g_iconst m107_14 ?_
        refine g_zret m107_15 rfl (Or.inl rfl) ?_
        refine gwst (st' := [.int (0)]) rfl ?_
        refine g_zret m113_13 rfl (Or.inl rfl) ?_
        refine gwst (st' := [.int (0)]) rfl ?_
        refine g_if_eqT m134_60 (by decide) ?_
        refine g_aload_n m134_87 rfl ?_
        refine g_ldci m134_88 rfl ?_
        refine g_cv (args := [.int (-1000000001)]) (rest := []) m134_90 (Nat.le_of_ble_eq_true rfl) rfl rfl rfl (Nat.le_of_ble_eq_true rfl) ?_
        refine wp_in (L := [some (.ref 89), some (.int (-1000000001))]) (Nat.le_of_ble_eq_true rfl) rfl ?_
        refine g_aload_n m108_0 rfl ?_
        refine g_gf m108_1 rfl rfl ?_
        refine g_ldci m108_4 rfl ?_
        refine g_iload_n m108_6 rfl ?_
        refine g_isub (u := (1 : Int32)) m108_7 (by decide) ?_
        refine g_dup2 m108_8 rfl rfl ?_
        refine g_iald (x := (0 : Int32)) m108_9 rfl (vin rfl) rfl ?_
        refine g_iconst m108_10 ?_
        refine g_iadd (u := (1 : Int32)) m108_11 (by decide) ?_
        refine g_iast m108_12 (Nat.le_of_ble_eq_true rfl) rfl (vin rfl) rfl rfl rfl ?_
        refine g_iload_n m108_13 rfl ?_
        refine g_iret m108_14 rfl ?_
        refine gwst (st' := [.int (-1000000001)]) rfl ?_
        refine g_iret m134_93 rfl ?_
        refine gwst (st' := [.int (-1000000001), .int (-1000000001)]) rfl ?_
        refine g_ic_eqT m190_401 (by decide) ?_
        refine g_iinc (x2 := (6 : Int32)) (L2 := [some (.ref 0), some (.ref 32), some (.ref 89), some (.int (6))]) m190_1428 rfl (by decide) rfl rfl ?_
        refine g_goto m190_1431 ?_
        refine g_iload_n m190_18 rfl ?_
        refine g_aload_n m190_19 rfl ?_
        refine g_alen (n := 6) m190_20 rfl (Or.inl rfl) rfl ?_
        refine g_bipush m190_21 ?_
        refine g_isub (u := (0 : Int32)) m190_23 (by decide) ?_
        refine g_ic_gtT m190_24 (by decide) ?_
        refine g_iconst m190_1434 ?_
        refine g_zret m190_1435 rfl (Or.inr rfl) ?_
        exact rfl
      · have d30 : ¬ ((s3).toInt < 0) := fun q => c29 ((lt_k (by rfl) (by rfl)).mpr q)
        refine g_iload_n m107_5 rfl ?_
        refine g_iload_n m107_6 rfl ?_
        refine g_ic_gt m107_7 (fun c31 => ?_) (fun c31 => ?_)
        · have d32 : 99 < (s3).toInt := (lt_k (by rfl) (by rfl)).mp c31
          refine g_iconst m107_14 ?_
          refine g_zret m107_15 rfl (Or.inl rfl) ?_
          refine gwst (st' := [.int (0)]) rfl ?_
          refine g_goto m134_16 ?_
          refine g_istore (L2 := [some (.ref 89), some (.int _), some (.int _), some (.int _), some (.int (0))]) m134_53 rfl rfl ?_
          refine g_aload_n m134_55 rfl ?_
          refine g_iload_n m134_56 rfl ?_
          refine g_cv (args := [.int _]) (rest := []) m134_57 (Nat.le_of_ble_eq_true rfl) rfl rfl rfl (Nat.le_of_ble_eq_true rfl) ?_
          refine wp_in (L := [some (.ref 89), some (.int _)]) (Nat.le_of_ble_eq_true rfl) rfl ?_
          refine g_iload_n m113_0 rfl ?_
          refine g_iconst m113_1 ?_
          refine g_aload_n m113_2 rfl ?_
          refine g_gf m113_3 rfl rfl ?_
          refine g_iconst m113_6 ?_
          refine g_iald (x := (0 : Int32)) m113_7 rfl (vin rfl) rfl ?_
          refine g_iconst m113_8 ?_
          refine g_isub (u := (-1 : Int32)) m113_9 (by decide) ?_
          refine g_cs (args := [.int _, .int (0), .int (-1)]) (rest := []) 0 (Or.inl rfl) m113_10 (Nat.le_of_ble_eq_true rfl) rfl rfl (Nat.le_of_ble_eq_true rfl) ?_
          refine wp_in (L := [some (.int _), some (.int (0)), some (.int (-1))]) (Nat.le_of_ble_eq_true rfl) rfl ?_
          refine g_iload_n m107_0 rfl ?_
          refine g_iload_n m107_1 rfl ?_
          refine g_ic_ltF m107_2 (fun q => absurd ((lt_k (a := (s1).toInt) (b := 0) (by rfl) (by rfl)).mp q) (by omega)) ?_
          refine g_iload_n m107_5 rfl ?_
          refine g_iload_n m107_6 rfl ?_
          refine g_ic_gtT m107_7 ((lt_k (a := (-1)) (b := (s1).toInt) (by rfl) (by rfl)).mpr (by omega)) ?_
          refine g_iconst m107_14 ?_
          refine g_zret m107_15 rfl (Or.inl rfl) ?_
          refine gwst (st' := [.int (0)]) rfl ?_
          refine g_zret m113_13 rfl (Or.inl rfl) ?_
          refine gwst (st' := [.int (0)]) rfl ?_
          refine g_if_eqT m134_60 (by decide) ?_
          refine g_aload_n m134_87 rfl ?_
          refine g_ldci m134_88 rfl ?_
          refine g_cv (args := [.int (-1000000001)]) (rest := []) m134_90 (Nat.le_of_ble_eq_true rfl) rfl rfl rfl (Nat.le_of_ble_eq_true rfl) ?_
          refine wp_in (L := [some (.ref 89), some (.int (-1000000001))]) (Nat.le_of_ble_eq_true rfl) rfl ?_
          refine g_aload_n m108_0 rfl ?_
          refine g_gf m108_1 rfl rfl ?_
          refine g_ldci m108_4 rfl ?_
          refine g_iload_n m108_6 rfl ?_
          refine g_isub (u := (1 : Int32)) m108_7 (by decide) ?_
          refine g_dup2 m108_8 rfl rfl ?_
          refine g_iald (x := (0 : Int32)) m108_9 rfl (vin rfl) rfl ?_
          refine g_iconst m108_10 ?_
          refine g_iadd (u := (1 : Int32)) m108_11 (by decide) ?_
          refine g_iast m108_12 (Nat.le_of_ble_eq_true rfl) rfl (vin rfl) rfl rfl rfl ?_
          refine g_iload_n m108_13 rfl ?_
          refine g_iret m108_14 rfl ?_
          refine gwst (st' := [.int (-1000000001)]) rfl ?_
          refine g_iret m134_93 rfl ?_
          refine gwst (st' := [.int (-1000000001), .int (-1000000001)]) rfl ?_
          refine g_ic_eqT m190_401 (by decide) ?_
          refine g_iinc (x2 := (6 : Int32)) (L2 := [some (.ref 0), some (.ref 32), some (.ref 89), some (.int (6))]) m190_1428 rfl (by decide) rfl rfl ?_
          refine g_goto m190_1431 ?_
          refine g_iload_n m190_18 rfl ?_
          refine g_aload_n m190_19 rfl ?_
          refine g_alen (n := 6) m190_20 rfl (Or.inl rfl) rfl ?_
          refine g_bipush m190_21 ?_
          refine g_isub (u := (0 : Int32)) m190_23 (by decide) ?_
          refine g_ic_gtT m190_24 (by decide) ?_
          refine g_iconst m190_1434 ?_
          refine g_zret m190_1435 rfl (Or.inr rfl) ?_
          exact rfl
        · have d32 : ¬ (99 < (s3).toInt) := fun q => c31 ((lt_k (by rfl) (by rfl)).mpr q)
          refine g_iconst m107_10 ?_
          refine g_goto m107_11 ?_
          refine g_zret m107_15 rfl (Or.inr rfl) ?_
          refine gwst (st' := [.int (1)]) rfl ?_
          refine g_goto m134_16 ?_
          refine g_istore (L2 := [some (.ref 89), some (.int _), some (.int _), some (.int _), some (.int (1))]) m134_53 rfl rfl ?_
          refine g_aload_n m134_55 rfl ?_
          refine g_iload_n m134_56 rfl ?_
          refine g_cv (args := [.int _]) (rest := []) m134_57 (Nat.le_of_ble_eq_true rfl) rfl rfl rfl (Nat.le_of_ble_eq_true rfl) ?_
          refine wp_in (L := [some (.ref 89), some (.int _)]) (Nat.le_of_ble_eq_true rfl) rfl ?_
          refine g_iload_n m113_0 rfl ?_
          refine g_iconst m113_1 ?_
          refine g_aload_n m113_2 rfl ?_
          refine g_gf m113_3 rfl rfl ?_
          refine g_iconst m113_6 ?_
          refine g_iald (x := (0 : Int32)) m113_7 rfl (vin rfl) rfl ?_
          refine g_iconst m113_8 ?_
          refine g_isub (u := (-1 : Int32)) m113_9 (by decide) ?_
          refine g_cs (args := [.int _, .int (0), .int (-1)]) (rest := []) 0 (Or.inl rfl) m113_10 (Nat.le_of_ble_eq_true rfl) rfl rfl (Nat.le_of_ble_eq_true rfl) ?_
          refine wp_in (L := [some (.int _), some (.int (0)), some (.int (-1))]) (Nat.le_of_ble_eq_true rfl) rfl ?_
          refine g_iload_n m107_0 rfl ?_
          refine g_iload_n m107_1 rfl ?_
          refine g_ic_ltF m107_2 (fun q => absurd ((lt_k (a := (s1).toInt) (b := 0) (by rfl) (by rfl)).mp q) (by omega)) ?_
          refine g_iload_n m107_5 rfl ?_
          refine g_iload_n m107_6 rfl ?_
          refine g_ic_gtT m107_7 ((lt_k (a := (-1)) (b := (s1).toInt) (by rfl) (by rfl)).mpr (by omega)) ?_
          refine g_iconst m107_14 ?_
          refine g_zret m107_15 rfl (Or.inl rfl) ?_
          refine gwst (st' := [.int (0)]) rfl ?_
          refine g_zret m113_13 rfl (Or.inl rfl) ?_
          refine gwst (st' := [.int (0)]) rfl ?_
          refine g_if_eqT m134_60 (by decide) ?_
          refine g_aload_n m134_87 rfl ?_
          refine g_ldci m134_88 rfl ?_
          refine g_cv (args := [.int (-1000000001)]) (rest := []) m134_90 (Nat.le_of_ble_eq_true rfl) rfl rfl rfl (Nat.le_of_ble_eq_true rfl) ?_
          refine wp_in (L := [some (.ref 89), some (.int (-1000000001))]) (Nat.le_of_ble_eq_true rfl) rfl ?_
          refine g_aload_n m108_0 rfl ?_
          refine g_gf m108_1 rfl rfl ?_
          refine g_ldci m108_4 rfl ?_
          refine g_iload_n m108_6 rfl ?_
          refine g_isub (u := (1 : Int32)) m108_7 (by decide) ?_
          refine g_dup2 m108_8 rfl rfl ?_
          refine g_iald (x := (0 : Int32)) m108_9 rfl (vin rfl) rfl ?_
          refine g_iconst m108_10 ?_
          refine g_iadd (u := (1 : Int32)) m108_11 (by decide) ?_
          refine g_iast m108_12 (Nat.le_of_ble_eq_true rfl) rfl (vin rfl) rfl rfl rfl ?_
          refine g_iload_n m108_13 rfl ?_
          refine g_iret m108_14 rfl ?_
          refine gwst (st' := [.int (-1000000001)]) rfl ?_
          refine g_iret m134_93 rfl ?_
          refine gwst (st' := [.int (-1000000001), .int (-1000000001)]) rfl ?_
          refine g_ic_eqT m190_401 (by decide) ?_
          refine g_iinc (x2 := (6 : Int32)) (L2 := [some (.ref 0), some (.ref 32), some (.ref 89), some (.int (6))]) m190_1428 rfl (by decide) rfl rfl ?_
          refine g_goto m190_1431 ?_
          refine g_iload_n m190_18 rfl ?_
          refine g_aload_n m190_19 rfl ?_
          refine g_alen (n := 6) m190_20 rfl (Or.inl rfl) rfl ?_
          refine g_bipush m190_21 ?_
          refine g_isub (u := (0 : Int32)) m190_23 (by decide) ?_
          refine g_ic_gtT m190_24 (by decide) ?_
          refine g_iconst m190_1434 ?_
          refine g_zret m190_1435 rfl (Or.inr rfl) ?_
          exact rfl
    · have d28 : ¬ ((s2).toInt = 0) := fun q => c27 ((eq_k (by rfl) (by rfl)).mpr q)
      refine g_iload_n m134_4 rfl ?_
      refine g_iconst m134_5 ?_
      refine g_ic_ne m134_6 (fun c33 => ?_) (fun c33 => ?_)
      · have d34 : (s2).toInt = 2 := (eq_k (by rfl) (by rfl)).mp c33
        refine g_iload_n m134_9 rfl ?_
        refine g_iconst m134_10 ?_
        refine g_bipush m134_11 ?_
        refine g_cs (args := [.int _, .int (0), .int (99)]) (rest := []) 0 (Or.inl rfl) m134_13 (Nat.le_of_ble_eq_true rfl) rfl rfl (Nat.le_of_ble_eq_true rfl) ?_
        refine wp_in (L := [some (.int _), some (.int (0)), some (.int (99))]) (Nat.le_of_ble_eq_true rfl) rfl ?_
        refine g_iload_n m107_0 rfl ?_
        refine g_iload_n m107_1 rfl ?_
        refine g_ic_lt m107_2 (fun c35 => ?_) (fun c35 => ?_)
        · have d36 : (s3).toInt < 0 := (lt_k (by rfl) (by rfl)).mp c35
          refine g_iconst m107_14 ?_
          refine g_zret m107_15 rfl (Or.inl rfl) ?_
          refine gwst (st' := [.int (0)]) rfl ?_
          refine g_goto m134_16 ?_
          refine g_istore (L2 := [some (.ref 89), some (.int _), some (.int _), some (.int _), some (.int (0))]) m134_53 rfl rfl ?_
          refine g_aload_n m134_55 rfl ?_
          refine g_iload_n m134_56 rfl ?_
          refine g_cv (args := [.int _]) (rest := []) m134_57 (Nat.le_of_ble_eq_true rfl) rfl rfl rfl (Nat.le_of_ble_eq_true rfl) ?_
          refine wp_in (L := [some (.ref 89), some (.int _)]) (Nat.le_of_ble_eq_true rfl) rfl ?_
          refine g_iload_n m113_0 rfl ?_
          refine g_iconst m113_1 ?_
          refine g_aload_n m113_2 rfl ?_
          refine g_gf m113_3 rfl rfl ?_
          refine g_iconst m113_6 ?_
          refine g_iald (x := (0 : Int32)) m113_7 rfl (vin rfl) rfl ?_
          refine g_iconst m113_8 ?_
          refine g_isub (u := (-1 : Int32)) m113_9 (by decide) ?_
          refine g_cs (args := [.int _, .int (0), .int (-1)]) (rest := []) 0 (Or.inl rfl) m113_10 (Nat.le_of_ble_eq_true rfl) rfl rfl (Nat.le_of_ble_eq_true rfl) ?_
          refine wp_in (L := [some (.int _), some (.int (0)), some (.int (-1))]) (Nat.le_of_ble_eq_true rfl) rfl ?_
          refine g_iload_n m107_0 rfl ?_
          refine g_iload_n m107_1 rfl ?_
          refine g_ic_ltF m107_2 (fun q => absurd ((lt_k (a := (s1).toInt) (b := 0) (by rfl) (by rfl)).mp q) (by omega)) ?_
          refine g_iload_n m107_5 rfl ?_
          refine g_iload_n m107_6 rfl ?_
          refine g_ic_gtT m107_7 ((lt_k (a := (-1)) (b := (s1).toInt) (by rfl) (by rfl)).mpr (by omega)) ?_
          refine g_iconst m107_14 ?_
          refine g_zret m107_15 rfl (Or.inl rfl) ?_
          refine gwst (st' := [.int (0)]) rfl ?_
          refine g_zret m113_13 rfl (Or.inl rfl) ?_
          refine gwst (st' := [.int (0)]) rfl ?_
          refine g_if_eqT m134_60 (by decide) ?_
          refine g_aload_n m134_87 rfl ?_
          refine g_ldci m134_88 rfl ?_
          refine g_cv (args := [.int (-1000000001)]) (rest := []) m134_90 (Nat.le_of_ble_eq_true rfl) rfl rfl rfl (Nat.le_of_ble_eq_true rfl) ?_
          refine wp_in (L := [some (.ref 89), some (.int (-1000000001))]) (Nat.le_of_ble_eq_true rfl) rfl ?_
          refine g_aload_n m108_0 rfl ?_
          refine g_gf m108_1 rfl rfl ?_
          refine g_ldci m108_4 rfl ?_
          refine g_iload_n m108_6 rfl ?_
          refine g_isub (u := (1 : Int32)) m108_7 (by decide) ?_
          refine g_dup2 m108_8 rfl rfl ?_
          refine g_iald (x := (0 : Int32)) m108_9 rfl (vin rfl) rfl ?_
          refine g_iconst m108_10 ?_
          refine g_iadd (u := (1 : Int32)) m108_11 (by decide) ?_
          refine g_iast m108_12 (Nat.le_of_ble_eq_true rfl) rfl (vin rfl) rfl rfl rfl ?_
          refine g_iload_n m108_13 rfl ?_
          refine g_iret m108_14 rfl ?_
          refine gwst (st' := [.int (-1000000001)]) rfl ?_
          refine g_iret m134_93 rfl ?_
          refine gwst (st' := [.int (-1000000001), .int (-1000000001)]) rfl ?_
          refine g_ic_eqT m190_401 (by decide) ?_
          refine g_iinc (x2 := (6 : Int32)) (L2 := [some (.ref 0), some (.ref 32), some (.ref 89), some (.int (6))]) m190_1428 rfl (by decide) rfl rfl ?_
          refine g_goto m190_1431 ?_
          refine g_iload_n m190_18 rfl ?_
          refine g_aload_n m190_19 rfl ?_
          refine g_alen (n := 6) m190_20 rfl (Or.inl rfl) rfl ?_
          refine g_bipush m190_21 ?_
          refine g_isub (u := (0 : Int32)) m190_23 (by decide) ?_
          refine g_ic_gtT m190_24 (by decide) ?_
          refine g_iconst m190_1434 ?_
          refine g_zret m190_1435 rfl (Or.inr rfl) ?_
          exact rfl
        · have d36 : ¬ ((s3).toInt < 0) := fun q => c35 ((lt_k (by rfl) (by rfl)).mpr q)
          refine g_iload_n m107_5 rfl ?_
          refine g_iload_n m107_6 rfl ?_
          refine g_ic_gt m107_7 (fun c37 => ?_) (fun c37 => ?_)
          · have d38 : 99 < (s3).toInt := (lt_k (by rfl) (by rfl)).mp c37
            refine g_iconst m107_14 ?_
            refine g_zret m107_15 rfl (Or.inl rfl) ?_
            refine gwst (st' := [.int (0)]) rfl ?_
            refine g_goto m134_16 ?_
            refine g_istore (L2 := [some (.ref 89), some (.int _), some (.int _), some (.int _), some (.int (0))]) m134_53 rfl rfl ?_
            refine g_aload_n m134_55 rfl ?_
            refine g_iload_n m134_56 rfl ?_
            refine g_cv (args := [.int _]) (rest := []) m134_57 (Nat.le_of_ble_eq_true rfl) rfl rfl rfl (Nat.le_of_ble_eq_true rfl) ?_
            refine wp_in (L := [some (.ref 89), some (.int _)]) (Nat.le_of_ble_eq_true rfl) rfl ?_
            refine g_iload_n m113_0 rfl ?_
            refine g_iconst m113_1 ?_
            refine g_aload_n m113_2 rfl ?_
            refine g_gf m113_3 rfl rfl ?_
            refine g_iconst m113_6 ?_
            refine g_iald (x := (0 : Int32)) m113_7 rfl (vin rfl) rfl ?_
            refine g_iconst m113_8 ?_
            refine g_isub (u := (-1 : Int32)) m113_9 (by decide) ?_
            refine g_cs (args := [.int _, .int (0), .int (-1)]) (rest := []) 0 (Or.inl rfl) m113_10 (Nat.le_of_ble_eq_true rfl) rfl rfl (Nat.le_of_ble_eq_true rfl) ?_
            refine wp_in (L := [some (.int _), some (.int (0)), some (.int (-1))]) (Nat.le_of_ble_eq_true rfl) rfl ?_
            refine g_iload_n m107_0 rfl ?_
            refine g_iload_n m107_1 rfl ?_
            refine g_ic_ltF m107_2 (fun q => absurd ((lt_k (a := (s1).toInt) (b := 0) (by rfl) (by rfl)).mp q) (by omega)) ?_
            refine g_iload_n m107_5 rfl ?_
            refine g_iload_n m107_6 rfl ?_
            refine g_ic_gtT m107_7 ((lt_k (a := (-1)) (b := (s1).toInt) (by rfl) (by rfl)).mpr (by omega)) ?_
            refine g_iconst m107_14 ?_
            refine g_zret m107_15 rfl (Or.inl rfl) ?_
            refine gwst (st' := [.int (0)]) rfl ?_
            refine g_zret m113_13 rfl (Or.inl rfl) ?_
            refine gwst (st' := [.int (0)]) rfl ?_
            refine g_if_eqT m134_60 (by decide) ?_
            refine g_aload_n m134_87 rfl ?_
            refine g_ldci m134_88 rfl ?_
            refine g_cv (args := [.int (-1000000001)]) (rest := []) m134_90 (Nat.le_of_ble_eq_true rfl) rfl rfl rfl (Nat.le_of_ble_eq_true rfl) ?_
            refine wp_in (L := [some (.ref 89), some (.int (-1000000001))]) (Nat.le_of_ble_eq_true rfl) rfl ?_
            refine g_aload_n m108_0 rfl ?_
            refine g_gf m108_1 rfl rfl ?_
            refine g_ldci m108_4 rfl ?_
            refine g_iload_n m108_6 rfl ?_
            refine g_isub (u := (1 : Int32)) m108_7 (by decide) ?_
            refine g_dup2 m108_8 rfl rfl ?_
            refine g_iald (x := (0 : Int32)) m108_9 rfl (vin rfl) rfl ?_
            refine g_iconst m108_10 ?_
            refine g_iadd (u := (1 : Int32)) m108_11 (by decide) ?_
            refine g_iast m108_12 (Nat.le_of_ble_eq_true rfl) rfl (vin rfl) rfl rfl rfl ?_
            refine g_iload_n m108_13 rfl ?_
            refine g_iret m108_14 rfl ?_
            refine gwst (st' := [.int (-1000000001)]) rfl ?_
            refine g_iret m134_93 rfl ?_
            refine gwst (st' := [.int (-1000000001), .int (-1000000001)]) rfl ?_
            refine g_ic_eqT m190_401 (by decide) ?_
            refine g_iinc (x2 := (6 : Int32)) (L2 := [some (.ref 0), some (.ref 32), some (.ref 89), some (.int (6))]) m190_1428 rfl (by decide) rfl rfl ?_
            refine g_goto m190_1431 ?_
            refine g_iload_n m190_18 rfl ?_
            refine g_aload_n m190_19 rfl ?_
            refine g_alen (n := 6) m190_20 rfl (Or.inl rfl) rfl ?_
            refine g_bipush m190_21 ?_
            refine g_isub (u := (0 : Int32)) m190_23 (by decide) ?_
            refine g_ic_gtT m190_24 (by decide) ?_
            refine g_iconst m190_1434 ?_
            refine g_zret m190_1435 rfl (Or.inr rfl) ?_
            exact rfl
          · have d38 : ¬ (99 < (s3).toInt) := fun q => c37 ((lt_k (by rfl) (by rfl)).mpr q)
            refine g_iconst m107_10 ?_
            refine g_goto m107_11 ?_
            refine g_zret m107_15 rfl (Or.inr rfl) ?_
            refine gwst (st' := [.int (1)]) rfl ?_
            refine g_goto m134_16 ?_
            refine g_istore (L2 := [some (.ref 89), some (.int _), some (.int _), some (.int _), some (.int (1))]) m134_53 rfl rfl ?_
            refine g_aload_n m134_55 rfl ?_
            refine g_iload_n m134_56 rfl ?_
            refine g_cv (args := [.int _]) (rest := []) m134_57 (Nat.le_of_ble_eq_true rfl) rfl rfl rfl (Nat.le_of_ble_eq_true rfl) ?_
            refine wp_in (L := [some (.ref 89), some (.int _)]) (Nat.le_of_ble_eq_true rfl) rfl ?_
            refine g_iload_n m113_0 rfl ?_
            refine g_iconst m113_1 ?_
            refine g_aload_n m113_2 rfl ?_
            refine g_gf m113_3 rfl rfl ?_
            refine g_iconst m113_6 ?_
            refine g_iald (x := (0 : Int32)) m113_7 rfl (vin rfl) rfl ?_
            refine g_iconst m113_8 ?_
            refine g_isub (u := (-1 : Int32)) m113_9 (by decide) ?_
            refine g_cs (args := [.int _, .int (0), .int (-1)]) (rest := []) 0 (Or.inl rfl) m113_10 (Nat.le_of_ble_eq_true rfl) rfl rfl (Nat.le_of_ble_eq_true rfl) ?_
            refine wp_in (L := [some (.int _), some (.int (0)), some (.int (-1))]) (Nat.le_of_ble_eq_true rfl) rfl ?_
            refine g_iload_n m107_0 rfl ?_
            refine g_iload_n m107_1 rfl ?_
            refine g_ic_ltF m107_2 (fun q => absurd ((lt_k (a := (s1).toInt) (b := 0) (by rfl) (by rfl)).mp q) (by omega)) ?_
            refine g_iload_n m107_5 rfl ?_
            refine g_iload_n m107_6 rfl ?_
            refine g_ic_gtT m107_7 ((lt_k (a := (-1)) (b := (s1).toInt) (by rfl) (by rfl)).mpr (by omega)) ?_
            refine g_iconst m107_14 ?_
            refine g_zret m107_15 rfl (Or.inl rfl) ?_
            refine gwst (st' := [.int (0)]) rfl ?_
            refine g_zret m113_13 rfl (Or.inl rfl) ?_
            refine gwst (st' := [.int (0)]) rfl ?_
            refine g_if_eqT m134_60 (by decide) ?_
            refine g_aload_n m134_87 rfl ?_
            refine g_ldci m134_88 rfl ?_
            refine g_cv (args := [.int (-1000000001)]) (rest := []) m134_90 (Nat.le_of_ble_eq_true rfl) rfl rfl rfl (Nat.le_of_ble_eq_true rfl) ?_
            refine wp_in (L := [some (.ref 89), some (.int (-1000000001))]) (Nat.le_of_ble_eq_true rfl) rfl ?_
            refine g_aload_n m108_0 rfl ?_
            refine g_gf m108_1 rfl rfl ?_
            refine g_ldci m108_4 rfl ?_
            refine g_iload_n m108_6 rfl ?_
            refine g_isub (u := (1 : Int32)) m108_7 (by decide) ?_
            refine g_dup2 m108_8 rfl rfl ?_
            refine g_iald (x := (0 : Int32)) m108_9 rfl (vin rfl) rfl ?_
            refine g_iconst m108_10 ?_
            refine g_iadd (u := (1 : Int32)) m108_11 (by decide) ?_
            refine g_iast m108_12 (Nat.le_of_ble_eq_true rfl) rfl (vin rfl) rfl rfl rfl ?_
            refine g_iload_n m108_13 rfl ?_
            refine g_iret m108_14 rfl ?_
            refine gwst (st' := [.int (-1000000001)]) rfl ?_
            refine g_iret m134_93 rfl ?_
            refine gwst (st' := [.int (-1000000001), .int (-1000000001)]) rfl ?_
            refine g_ic_eqT m190_401 (by decide) ?_
            refine g_iinc (x2 := (6 : Int32)) (L2 := [some (.ref 0), some (.ref 32), some (.ref 89), some (.int (6))]) m190_1428 rfl (by decide) rfl rfl ?_
            refine g_goto m190_1431 ?_
            refine g_iload_n m190_18 rfl ?_
            refine g_aload_n m190_19 rfl ?_
            refine g_alen (n := 6) m190_20 rfl (Or.inl rfl) rfl ?_
            refine g_bipush m190_21 ?_
            refine g_isub (u := (0 : Int32)) m190_23 (by decide) ?_
            refine g_ic_gtT m190_24 (by decide) ?_
            refine g_iconst m190_1434 ?_
            refine g_zret m190_1435 rfl (Or.inr rfl) ?_
            exact rfl
      · have d34 : ¬ ((s2).toInt = 2) := fun q => c33 ((eq_k (by rfl) (by rfl)).mpr q)
        refine g_iload_n m134_19 rfl ?_
        refine g_iconst m134_20 ?_
        refine g_ic_ne m134_21 (fun c39 => ?_) (fun c39 => ?_)
        · have d40 : (s2).toInt = 1 := (eq_k (by rfl) (by rfl)).mp c39
          refine g_iload_n m134_24 rfl ?_
          refine g_iconst m134_25 ?_
          refine g_bipush m134_26 ?_
          refine g_cs (args := [.int _, .int (0), .int (9)]) (rest := []) 0 (Or.inl rfl) m134_28 (Nat.le_of_ble_eq_true rfl) rfl rfl (Nat.le_of_ble_eq_true rfl) ?_
          refine wp_in (L := [some (.int _), some (.int (0)), some (.int (9))]) (Nat.le_of_ble_eq_true rfl) rfl ?_
          refine g_iload_n m107_0 rfl ?_
          refine g_iload_n m107_1 rfl ?_
          refine g_ic_lt m107_2 (fun c41 => ?_) (fun c41 => ?_)
          · have d42 : (s3).toInt < 0 := (lt_k (by rfl) (by rfl)).mp c41
            refine g_iconst m107_14 ?_
            refine g_zret m107_15 rfl (Or.inl rfl) ?_
            refine gwst (st' := [.int (0)]) rfl ?_
            refine g_goto m134_31 ?_
            refine g_istore (L2 := [some (.ref 89), some (.int _), some (.int _), some (.int _), some (.int (0))]) m134_53 rfl rfl ?_
            refine g_aload_n m134_55 rfl ?_
            refine g_iload_n m134_56 rfl ?_
            refine g_cv (args := [.int _]) (rest := []) m134_57 (Nat.le_of_ble_eq_true rfl) rfl rfl rfl (Nat.le_of_ble_eq_true rfl) ?_
            refine wp_in (L := [some (.ref 89), some (.int _)]) (Nat.le_of_ble_eq_true rfl) rfl ?_
            refine g_iload_n m113_0 rfl ?_
            refine g_iconst m113_1 ?_
            refine g_aload_n m113_2 rfl ?_
            refine g_gf m113_3 rfl rfl ?_
            refine g_iconst m113_6 ?_
            refine g_iald (x := (0 : Int32)) m113_7 rfl (vin rfl) rfl ?_
            refine g_iconst m113_8 ?_
            refine g_isub (u := (-1 : Int32)) m113_9 (by decide) ?_
            refine g_cs (args := [.int _, .int (0), .int (-1)]) (rest := []) 0 (Or.inl rfl) m113_10 (Nat.le_of_ble_eq_true rfl) rfl rfl (Nat.le_of_ble_eq_true rfl) ?_
            refine wp_in (L := [some (.int _), some (.int (0)), some (.int (-1))]) (Nat.le_of_ble_eq_true rfl) rfl ?_
            refine g_iload_n m107_0 rfl ?_
            refine g_iload_n m107_1 rfl ?_
            refine g_ic_ltF m107_2 (fun q => absurd ((lt_k (a := (s1).toInt) (b := 0) (by rfl) (by rfl)).mp q) (by omega)) ?_
            refine g_iload_n m107_5 rfl ?_
            refine g_iload_n m107_6 rfl ?_
            refine g_ic_gtT m107_7 ((lt_k (a := (-1)) (b := (s1).toInt) (by rfl) (by rfl)).mpr (by omega)) ?_
            refine g_iconst m107_14 ?_
            refine g_zret m107_15 rfl (Or.inl rfl) ?_
            refine gwst (st' := [.int (0)]) rfl ?_
            refine g_zret m113_13 rfl (Or.inl rfl) ?_
            refine gwst (st' := [.int (0)]) rfl ?_
            refine g_if_eqT m134_60 (by decide) ?_
            refine g_aload_n m134_87 rfl ?_
            refine g_ldci m134_88 rfl ?_
            refine g_cv (args := [.int (-1000000001)]) (rest := []) m134_90 (Nat.le_of_ble_eq_true rfl) rfl rfl rfl (Nat.le_of_ble_eq_true rfl) ?_
            refine wp_in (L := [some (.ref 89), some (.int (-1000000001))]) (Nat.le_of_ble_eq_true rfl) rfl ?_
            refine g_aload_n m108_0 rfl ?_
            refine g_gf m108_1 rfl rfl ?_
            refine g_ldci m108_4 rfl ?_
            refine g_iload_n m108_6 rfl ?_
            refine g_isub (u := (1 : Int32)) m108_7 (by decide) ?_
            refine g_dup2 m108_8 rfl rfl ?_
            refine g_iald (x := (0 : Int32)) m108_9 rfl (vin rfl) rfl ?_
            refine g_iconst m108_10 ?_
            refine g_iadd (u := (1 : Int32)) m108_11 (by decide) ?_
            refine g_iast m108_12 (Nat.le_of_ble_eq_true rfl) rfl (vin rfl) rfl rfl rfl ?_
            refine g_iload_n m108_13 rfl ?_
            refine g_iret m108_14 rfl ?_
            refine gwst (st' := [.int (-1000000001)]) rfl ?_
            refine g_iret m134_93 rfl ?_
            refine gwst (st' := [.int (-1000000001), .int (-1000000001)]) rfl ?_
            refine g_ic_eqT m190_401 (by decide) ?_
            refine g_iinc (x2 := (6 : Int32)) (L2 := [some (.ref 0), some (.ref 32), some (.ref 89), some (.int (6))]) m190_1428 rfl (by decide) rfl rfl ?_
            refine g_goto m190_1431 ?_
            refine g_iload_n m190_18 rfl ?_
            refine g_aload_n m190_19 rfl ?_
            refine g_alen (n := 6) m190_20 rfl (Or.inl rfl) rfl ?_
            refine g_bipush m190_21 ?_
            refine g_isub (u := (0 : Int32)) m190_23 (by decide) ?_
            refine g_ic_gtT m190_24 (by decide) ?_
            refine g_iconst m190_1434 ?_
            refine g_zret m190_1435 rfl (Or.inr rfl) ?_
            exact rfl
          · have d42 : ¬ ((s3).toInt < 0) := fun q => c41 ((lt_k (by rfl) (by rfl)).mpr q)
            refine g_iload_n m107_5 rfl ?_
            refine g_iload_n m107_6 rfl ?_
            refine g_ic_gt m107_7 (fun c43 => ?_) (fun c43 => ?_)
            · have d44 : 9 < (s3).toInt := (lt_k (by rfl) (by rfl)).mp c43
              refine g_iconst m107_14 ?_
              refine g_zret m107_15 rfl (Or.inl rfl) ?_
              refine gwst (st' := [.int (0)]) rfl ?_
              refine g_goto m134_31 ?_
              refine g_istore (L2 := [some (.ref 89), some (.int _), some (.int _), some (.int _), some (.int (0))]) m134_53 rfl rfl ?_
              refine g_aload_n m134_55 rfl ?_
              refine g_iload_n m134_56 rfl ?_
              refine g_cv (args := [.int _]) (rest := []) m134_57 (Nat.le_of_ble_eq_true rfl) rfl rfl rfl (Nat.le_of_ble_eq_true rfl) ?_
              refine wp_in (L := [some (.ref 89), some (.int _)]) (Nat.le_of_ble_eq_true rfl) rfl ?_
              refine g_iload_n m113_0 rfl ?_
              refine g_iconst m113_1 ?_
              refine g_aload_n m113_2 rfl ?_
              refine g_gf m113_3 rfl rfl ?_
              refine g_iconst m113_6 ?_
              refine g_iald (x := (0 : Int32)) m113_7 rfl (vin rfl) rfl ?_
              refine g_iconst m113_8 ?_
              refine g_isub (u := (-1 : Int32)) m113_9 (by decide) ?_
              refine g_cs (args := [.int _, .int (0), .int (-1)]) (rest := []) 0 (Or.inl rfl) m113_10 (Nat.le_of_ble_eq_true rfl) rfl rfl (Nat.le_of_ble_eq_true rfl) ?_
              refine wp_in (L := [some (.int _), some (.int (0)), some (.int (-1))]) (Nat.le_of_ble_eq_true rfl) rfl ?_
              refine g_iload_n m107_0 rfl ?_
              refine g_iload_n m107_1 rfl ?_
              refine g_ic_ltF m107_2 (fun q => absurd ((lt_k (a := (s1).toInt) (b := 0) (by rfl) (by rfl)).mp q) (by omega)) ?_
              refine g_iload_n m107_5 rfl ?_
              refine g_iload_n m107_6 rfl ?_
              refine g_ic_gtT m107_7 ((lt_k (a := (-1)) (b := (s1).toInt) (by rfl) (by rfl)).mpr (by omega)) ?_
              refine g_iconst m107_14 ?_
              refine g_zret m107_15 rfl (Or.inl rfl) ?_
              refine gwst (st' := [.int (0)]) rfl ?_
              refine g_zret m113_13 rfl (Or.inl rfl) ?_
              refine gwst (st' := [.int (0)]) rfl ?_
              refine g_if_eqT m134_60 (by decide) ?_
              refine g_aload_n m134_87 rfl ?_
              refine g_ldci m134_88 rfl ?_
              refine g_cv (args := [.int (-1000000001)]) (rest := []) m134_90 (Nat.le_of_ble_eq_true rfl) rfl rfl rfl (Nat.le_of_ble_eq_true rfl) ?_
              refine wp_in (L := [some (.ref 89), some (.int (-1000000001))]) (Nat.le_of_ble_eq_true rfl) rfl ?_
              refine g_aload_n m108_0 rfl ?_
              refine g_gf m108_1 rfl rfl ?_
              refine g_ldci m108_4 rfl ?_
              refine g_iload_n m108_6 rfl ?_
              refine g_isub (u := (1 : Int32)) m108_7 (by decide) ?_
              refine g_dup2 m108_8 rfl rfl ?_
              refine g_iald (x := (0 : Int32)) m108_9 rfl (vin rfl) rfl ?_
              refine g_iconst m108_10 ?_
              refine g_iadd (u := (1 : Int32)) m108_11 (by decide) ?_
              refine g_iast m108_12 (Nat.le_of_ble_eq_true rfl) rfl (vin rfl) rfl rfl rfl ?_
              refine g_iload_n m108_13 rfl ?_
              refine g_iret m108_14 rfl ?_
              refine gwst (st' := [.int (-1000000001)]) rfl ?_
              refine g_iret m134_93 rfl ?_
              refine gwst (st' := [.int (-1000000001), .int (-1000000001)]) rfl ?_
              refine g_ic_eqT m190_401 (by decide) ?_
              refine g_iinc (x2 := (6 : Int32)) (L2 := [some (.ref 0), some (.ref 32), some (.ref 89), some (.int (6))]) m190_1428 rfl (by decide) rfl rfl ?_
              refine g_goto m190_1431 ?_
              refine g_iload_n m190_18 rfl ?_
              refine g_aload_n m190_19 rfl ?_
              refine g_alen (n := 6) m190_20 rfl (Or.inl rfl) rfl ?_
              refine g_bipush m190_21 ?_
              refine g_isub (u := (0 : Int32)) m190_23 (by decide) ?_
              refine g_ic_gtT m190_24 (by decide) ?_
              refine g_iconst m190_1434 ?_
              refine g_zret m190_1435 rfl (Or.inr rfl) ?_
              exact rfl
            · have d44 : ¬ (9 < (s3).toInt) := fun q => c43 ((lt_k (by rfl) (by rfl)).mpr q)
              refine g_iconst m107_10 ?_
              refine g_goto m107_11 ?_
              refine g_zret m107_15 rfl (Or.inr rfl) ?_
              refine gwst (st' := [.int (1)]) rfl ?_
              refine g_goto m134_31 ?_
              refine g_istore (L2 := [some (.ref 89), some (.int _), some (.int _), some (.int _), some (.int (1))]) m134_53 rfl rfl ?_
              refine g_aload_n m134_55 rfl ?_
              refine g_iload_n m134_56 rfl ?_
              refine g_cv (args := [.int _]) (rest := []) m134_57 (Nat.le_of_ble_eq_true rfl) rfl rfl rfl (Nat.le_of_ble_eq_true rfl) ?_
              refine wp_in (L := [some (.ref 89), some (.int _)]) (Nat.le_of_ble_eq_true rfl) rfl ?_
              refine g_iload_n m113_0 rfl ?_
              refine g_iconst m113_1 ?_
              refine g_aload_n m113_2 rfl ?_
              refine g_gf m113_3 rfl rfl ?_
              refine g_iconst m113_6 ?_
              refine g_iald (x := (0 : Int32)) m113_7 rfl (vin rfl) rfl ?_
              refine g_iconst m113_8 ?_
              refine g_isub (u := (-1 : Int32)) m113_9 (by decide) ?_
              refine g_cs (args := [.int _, .int (0), .int (-1)]) (rest := []) 0 (Or.inl rfl) m113_10 (Nat.le_of_ble_eq_true rfl) rfl rfl (Nat.le_of_ble_eq_true rfl) ?_
              refine wp_in (L := [some (.int _), some (.int (0)), some (.int (-1))]) (Nat.le_of_ble_eq_true rfl) rfl ?_
              refine g_iload_n m107_0 rfl ?_
              refine g_iload_n m107_1 rfl ?_
              refine g_ic_ltF m107_2 (fun q => absurd ((lt_k (a := (s1).toInt) (b := 0) (by rfl) (by rfl)).mp q) (by omega)) ?_
              refine g_iload_n m107_5 rfl ?_
              refine g_iload_n m107_6 rfl ?_
              refine g_ic_gtT m107_7 ((lt_k (a := (-1)) (b := (s1).toInt) (by rfl) (by rfl)).mpr (by omega)) ?_
              refine g_iconst m107_14 ?_
              refine g_zret m107_15 rfl (Or.inl rfl) ?_
              refine gwst (st' := [.int (0)]) rfl ?_
              refine g_zret m113_13 rfl (Or.inl rfl) ?_
              refine gwst (st' := [.int (0)]) rfl ?_
              refine g_if_eqT m134_60 (by decide) ?_
              refine g_aload_n m134_87 rfl ?_
              refine g_ldci m134_88 rfl ?_
              refine g_cv (args := [.int (-1000000001)]) (rest := []) m134_90 (Nat.le_of_ble_eq_true rfl) rfl rfl rfl (Nat.le_of_ble_eq_true rfl) ?_
              refine wp_in (L := [some (.ref 89), some (.int (-1000000001))]) (Nat.le_of_ble_eq_true rfl) rfl ?_
              refine g_aload_n m108_0 rfl ?_
              refine g_gf m108_1 rfl rfl ?_
              refine g_ldci m108_4 rfl ?_
              refine g_iload_n m108_6 rfl ?_
              refine g_isub (u := (1 : Int32)) m108_7 (by decide) ?_
              refine g_dup2 m108_8 rfl rfl ?_
              refine g_iald (x := (0 : Int32)) m108_9 rfl (vin rfl) rfl ?_
              refine g_iconst m108_10 ?_
              refine g_iadd (u := (1 : Int32)) m108_11 (by decide) ?_
              refine g_iast m108_12 (Nat.le_of_ble_eq_true rfl) rfl (vin rfl) rfl rfl rfl ?_
              refine g_iload_n m108_13 rfl ?_
              refine g_iret m108_14 rfl ?_
              refine gwst (st' := [.int (-1000000001)]) rfl ?_
              refine g_iret m134_93 rfl ?_
              refine gwst (st' := [.int (-1000000001), .int (-1000000001)]) rfl ?_
              refine g_ic_eqT m190_401 (by decide) ?_
              refine g_iinc (x2 := (6 : Int32)) (L2 := [some (.ref 0), some (.ref 32), some (.ref 89), some (.int (6))]) m190_1428 rfl (by decide) rfl rfl ?_
              refine g_goto m190_1431 ?_
              refine g_iload_n m190_18 rfl ?_
              refine g_aload_n m190_19 rfl ?_
              refine g_alen (n := 6) m190_20 rfl (Or.inl rfl) rfl ?_
              refine g_bipush m190_21 ?_
              refine g_isub (u := (0 : Int32)) m190_23 (by decide) ?_
              refine g_ic_gtT m190_24 (by decide) ?_
              refine g_iconst m190_1434 ?_
              refine g_zret m190_1435 rfl (Or.inr rfl) ?_
              exact rfl
        · have d40 : ¬ ((s2).toInt = 1) := fun q => c39 ((eq_k (by rfl) (by rfl)).mpr q)
          refine g_iload_n m134_34 rfl ?_
          refine g_iconst m134_35 ?_
          refine g_ic_ne m134_36 (fun c45 => ?_) (fun c45 => ?_)
          · have d46 : (s2).toInt = 3 := (eq_k (by rfl) (by rfl)).mp c45
            refine g_iload_n m134_39 rfl ?_
            refine g_iconst m134_40 ?_
            refine g_iconst m134_41 ?_
            refine g_cs (args := [.int _, .int (0), .int (1)]) (rest := []) 0 (Or.inl rfl) m134_42 (Nat.le_of_ble_eq_true rfl) rfl rfl (Nat.le_of_ble_eq_true rfl) ?_
            refine wp_in (L := [some (.int _), some (.int (0)), some (.int (1))]) (Nat.le_of_ble_eq_true rfl) rfl ?_
            refine g_iload_n m107_0 rfl ?_
            refine g_iload_n m107_1 rfl ?_
            refine g_ic_lt m107_2 (fun c47 => ?_) (fun c47 => ?_)
            · have d48 : (s3).toInt < 0 := (lt_k (by rfl) (by rfl)).mp c47
              refine g_iconst m107_14 ?_
              refine g_zret m107_15 rfl (Or.inl rfl) ?_
              refine gwst (st' := [.int (0)]) rfl ?_
              refine g_if_eqT m134_45 (by decide) ?_
              refine g_iconst m134_52 ?_
              refine g_istore (L2 := [some (.ref 89), some (.int _), some (.int _), some (.int _), some (.int (0))]) m134_53 rfl rfl ?_
              refine g_aload_n m134_55 rfl ?_
              refine g_iload_n m134_56 rfl ?_
              refine g_cv (args := [.int _]) (rest := []) m134_57 (Nat.le_of_ble_eq_true rfl) rfl rfl rfl (Nat.le_of_ble_eq_true rfl) ?_
              refine wp_in (L := [some (.ref 89), some (.int _)]) (Nat.le_of_ble_eq_true rfl) rfl ?_
              refine g_iload_n m113_0 rfl ?_
              refine g_iconst m113_1 ?_
              refine g_aload_n m113_2 rfl ?_
              refine g_gf m113_3 rfl rfl ?_
              refine g_iconst m113_6 ?_
              refine g_iald (x := (0 : Int32)) m113_7 rfl (vin rfl) rfl ?_
              refine g_iconst m113_8 ?_
              refine g_isub (u := (-1 : Int32)) m113_9 (by decide) ?_
              refine g_cs (args := [.int _, .int (0), .int (-1)]) (rest := []) 0 (Or.inl rfl) m113_10 (Nat.le_of_ble_eq_true rfl) rfl rfl (Nat.le_of_ble_eq_true rfl) ?_
              refine wp_in (L := [some (.int _), some (.int (0)), some (.int (-1))]) (Nat.le_of_ble_eq_true rfl) rfl ?_
              refine g_iload_n m107_0 rfl ?_
              refine g_iload_n m107_1 rfl ?_
              refine g_ic_ltF m107_2 (fun q => absurd ((lt_k (a := (s1).toInt) (b := 0) (by rfl) (by rfl)).mp q) (by omega)) ?_
              refine g_iload_n m107_5 rfl ?_
              refine g_iload_n m107_6 rfl ?_
              refine g_ic_gtT m107_7 ((lt_k (a := (-1)) (b := (s1).toInt) (by rfl) (by rfl)).mpr (by omega)) ?_
              refine g_iconst m107_14 ?_
              refine g_zret m107_15 rfl (Or.inl rfl) ?_
              refine gwst (st' := [.int (0)]) rfl ?_
              refine g_zret m113_13 rfl (Or.inl rfl) ?_
              refine gwst (st' := [.int (0)]) rfl ?_
              refine g_if_eqT m134_60 (by decide) ?_
              refine g_aload_n m134_87 rfl ?_
              refine g_ldci m134_88 rfl ?_
              refine g_cv (args := [.int (-1000000001)]) (rest := []) m134_90 (Nat.le_of_ble_eq_true rfl) rfl rfl rfl (Nat.le_of_ble_eq_true rfl) ?_
              refine wp_in (L := [some (.ref 89), some (.int (-1000000001))]) (Nat.le_of_ble_eq_true rfl) rfl ?_
              refine g_aload_n m108_0 rfl ?_
              refine g_gf m108_1 rfl rfl ?_
              refine g_ldci m108_4 rfl ?_
              refine g_iload_n m108_6 rfl ?_
              refine g_isub (u := (1 : Int32)) m108_7 (by decide) ?_
              refine g_dup2 m108_8 rfl rfl ?_
              refine g_iald (x := (0 : Int32)) m108_9 rfl (vin rfl) rfl ?_
              refine g_iconst m108_10 ?_
              refine g_iadd (u := (1 : Int32)) m108_11 (by decide) ?_
              refine g_iast m108_12 (Nat.le_of_ble_eq_true rfl) rfl (vin rfl) rfl rfl rfl ?_
              refine g_iload_n m108_13 rfl ?_
              refine g_iret m108_14 rfl ?_
              refine gwst (st' := [.int (-1000000001)]) rfl ?_
              refine g_iret m134_93 rfl ?_
              refine gwst (st' := [.int (-1000000001), .int (-1000000001)]) rfl ?_
              refine g_ic_eqT m190_401 (by decide) ?_
              refine g_iinc (x2 := (6 : Int32)) (L2 := [some (.ref 0), some (.ref 32), some (.ref 89), some (.int (6))]) m190_1428 rfl (by decide) rfl rfl ?_
              refine g_goto m190_1431 ?_
              refine g_iload_n m190_18 rfl ?_
              refine g_aload_n m190_19 rfl ?_
              refine g_alen (n := 6) m190_20 rfl (Or.inl rfl) rfl ?_
              refine g_bipush m190_21 ?_
              refine g_isub (u := (0 : Int32)) m190_23 (by decide) ?_
              refine g_ic_gtT m190_24 (by decide) ?_
              refine g_iconst m190_1434 ?_
              refine g_zret m190_1435 rfl (Or.inr rfl) ?_
              exact rfl
            · have d48 : ¬ ((s3).toInt < 0) := fun q => c47 ((lt_k (by rfl) (by rfl)).mpr q)
              refine g_iload_n m107_5 rfl ?_
              refine g_iload_n m107_6 rfl ?_
              refine g_ic_gt m107_7 (fun c49 => ?_) (fun c49 => ?_)
              · have d50 : 1 < (s3).toInt := (lt_k (by rfl) (by rfl)).mp c49
                refine g_iconst m107_14 ?_
                refine g_zret m107_15 rfl (Or.inl rfl) ?_
                refine gwst (st' := [.int (0)]) rfl ?_
                refine g_if_eqT m134_45 (by decide) ?_
                refine g_iconst m134_52 ?_
                refine g_istore (L2 := [some (.ref 89), some (.int _), some (.int _), some (.int _), some (.int (0))]) m134_53 rfl rfl ?_
                refine g_aload_n m134_55 rfl ?_
                refine g_iload_n m134_56 rfl ?_
                refine g_cv (args := [.int _]) (rest := []) m134_57 (Nat.le_of_ble_eq_true rfl) rfl rfl rfl (Nat.le_of_ble_eq_true rfl) ?_
                refine wp_in (L := [some (.ref 89), some (.int _)]) (Nat.le_of_ble_eq_true rfl) rfl ?_
                refine g_iload_n m113_0 rfl ?_
                refine g_iconst m113_1 ?_
                refine g_aload_n m113_2 rfl ?_
                refine g_gf m113_3 rfl rfl ?_
                refine g_iconst m113_6 ?_
                refine g_iald (x := (0 : Int32)) m113_7 rfl (vin rfl) rfl ?_
                refine g_iconst m113_8 ?_
                refine g_isub (u := (-1 : Int32)) m113_9 (by decide) ?_
                refine g_cs (args := [.int _, .int (0), .int (-1)]) (rest := []) 0 (Or.inl rfl) m113_10 (Nat.le_of_ble_eq_true rfl) rfl rfl (Nat.le_of_ble_eq_true rfl) ?_
                refine wp_in (L := [some (.int _), some (.int (0)), some (.int (-1))]) (Nat.le_of_ble_eq_true rfl) rfl ?_
                refine g_iload_n m107_0 rfl ?_
                refine g_iload_n m107_1 rfl ?_
                refine g_ic_ltF m107_2 (fun q => absurd ((lt_k (a := (s1).toInt) (b := 0) (by rfl) (by rfl)).mp q) (by omega)) ?_
                refine g_iload_n m107_5 rfl ?_
                refine g_iload_n m107_6 rfl ?_
                refine g_ic_gtT m107_7 ((lt_k (a := (-1)) (b := (s1).toInt) (by rfl) (by rfl)).mpr (by omega)) ?_
                refine g_iconst m107_14 ?_
                refine g_zret m107_15 rfl (Or.inl rfl) ?_
                refine gwst (st' := [.int (0)]) rfl ?_
                refine g_zret m113_13 rfl (Or.inl rfl) ?_
                refine gwst (st' := [.int (0)]) rfl ?_
                refine g_if_eqT m134_60 (by decide) ?_
                refine g_aload_n m134_87 rfl ?_
                refine g_ldci m134_88 rfl ?_
                refine g_cv (args := [.int (-1000000001)]) (rest := []) m134_90 (Nat.le_of_ble_eq_true rfl) rfl rfl rfl (Nat.le_of_ble_eq_true rfl) ?_
                refine wp_in (L := [some (.ref 89), some (.int (-1000000001))]) (Nat.le_of_ble_eq_true rfl) rfl ?_
                refine g_aload_n m108_0 rfl ?_
                refine g_gf m108_1 rfl rfl ?_
                refine g_ldci m108_4 rfl ?_
                refine g_iload_n m108_6 rfl ?_
                refine g_isub (u := (1 : Int32)) m108_7 (by decide) ?_
                refine g_dup2 m108_8 rfl rfl ?_
                refine g_iald (x := (0 : Int32)) m108_9 rfl (vin rfl) rfl ?_
                refine g_iconst m108_10 ?_
                refine g_iadd (u := (1 : Int32)) m108_11 (by decide) ?_
                refine g_iast m108_12 (Nat.le_of_ble_eq_true rfl) rfl (vin rfl) rfl rfl rfl ?_
                refine g_iload_n m108_13 rfl ?_
                refine g_iret m108_14 rfl ?_
                refine gwst (st' := [.int (-1000000001)]) rfl ?_
                refine g_iret m134_93 rfl ?_
                refine gwst (st' := [.int (-1000000001), .int (-1000000001)]) rfl ?_
                refine g_ic_eqT m190_401 (by decide) ?_
                refine g_iinc (x2 := (6 : Int32)) (L2 := [some (.ref 0), some (.ref 32), some (.ref 89), some (.int (6))]) m190_1428 rfl (by decide) rfl rfl ?_
                refine g_goto m190_1431 ?_
                refine g_iload_n m190_18 rfl ?_
                refine g_aload_n m190_19 rfl ?_
                refine g_alen (n := 6) m190_20 rfl (Or.inl rfl) rfl ?_
                refine g_bipush m190_21 ?_
                refine g_isub (u := (0 : Int32)) m190_23 (by decide) ?_
                refine g_ic_gtT m190_24 (by decide) ?_
                refine g_iconst m190_1434 ?_
                refine g_zret m190_1435 rfl (Or.inr rfl) ?_
                exact rfl
              · have d50 : ¬ (1 < (s3).toInt) := fun q => c49 ((lt_k (by rfl) (by rfl)).mpr q)
                refine g_iconst m107_10 ?_
                refine g_goto m107_11 ?_
                refine g_zret m107_15 rfl (Or.inr rfl) ?_
                refine gwst (st' := [.int (1)]) rfl ?_
                refine g_if_eqF m134_45 (by decide) ?_
                refine g_iconst m134_48 ?_
                refine g_goto m134_49 ?_
                refine g_istore (L2 := [some (.ref 89), some (.int _), some (.int _), some (.int _), some (.int (1))]) m134_53 rfl rfl ?_
                refine g_aload_n m134_55 rfl ?_
                refine g_iload_n m134_56 rfl ?_
                refine g_cv (args := [.int _]) (rest := []) m134_57 (Nat.le_of_ble_eq_true rfl) rfl rfl rfl (Nat.le_of_ble_eq_true rfl) ?_
                refine wp_in (L := [some (.ref 89), some (.int _)]) (Nat.le_of_ble_eq_true rfl) rfl ?_
                refine g_iload_n m113_0 rfl ?_
                refine g_iconst m113_1 ?_
                refine g_aload_n m113_2 rfl ?_
                refine g_gf m113_3 rfl rfl ?_
                refine g_iconst m113_6 ?_
                refine g_iald (x := (0 : Int32)) m113_7 rfl (vin rfl) rfl ?_
                refine g_iconst m113_8 ?_
                refine g_isub (u := (-1 : Int32)) m113_9 (by decide) ?_
                refine g_cs (args := [.int _, .int (0), .int (-1)]) (rest := []) 0 (Or.inl rfl) m113_10 (Nat.le_of_ble_eq_true rfl) rfl rfl (Nat.le_of_ble_eq_true rfl) ?_
                refine wp_in (L := [some (.int _), some (.int (0)), some (.int (-1))]) (Nat.le_of_ble_eq_true rfl) rfl ?_
                refine g_iload_n m107_0 rfl ?_
                refine g_iload_n m107_1 rfl ?_
                refine g_ic_ltF m107_2 (fun q => absurd ((lt_k (a := (s1).toInt) (b := 0) (by rfl) (by rfl)).mp q) (by omega)) ?_
                refine g_iload_n m107_5 rfl ?_
                refine g_iload_n m107_6 rfl ?_
                refine g_ic_gtT m107_7 ((lt_k (a := (-1)) (b := (s1).toInt) (by rfl) (by rfl)).mpr (by omega)) ?_
                refine g_iconst m107_14 ?_
                refine g_zret m107_15 rfl (Or.inl rfl) ?_
                refine gwst (st' := [.int (0)]) rfl ?_
                refine g_zret m113_13 rfl (Or.inl rfl) ?_
                refine gwst (st' := [.int (0)]) rfl ?_
                refine g_if_eqT m134_60 (by decide) ?_
                refine g_aload_n m134_87 rfl ?_
                refine g_ldci m134_88 rfl ?_
                refine g_cv (args := [.int (-1000000001)]) (rest := []) m134_90 (Nat.le_of_ble_eq_true rfl) rfl rfl rfl (Nat.le_of_ble_eq_true rfl) ?_
                refine wp_in (L := [some (.ref 89), some (.int (-1000000001))]) (Nat.le_of_ble_eq_true rfl) rfl ?_
                refine g_aload_n m108_0 rfl ?_
                refine g_gf m108_1 rfl rfl ?_
                refine g_ldci m108_4 rfl ?_
                refine g_iload_n m108_6 rfl ?_
                refine g_isub (u := (1 : Int32)) m108_7 (by decide) ?_
                refine g_dup2 m108_8 rfl rfl ?_
                refine g_iald (x := (0 : Int32)) m108_9 rfl (vin rfl) rfl ?_
                refine g_iconst m108_10 ?_
                refine g_iadd (u := (1 : Int32)) m108_11 (by decide) ?_
                refine g_iast m108_12 (Nat.le_of_ble_eq_true rfl) rfl (vin rfl) rfl rfl rfl ?_
                refine g_iload_n m108_13 rfl ?_
                refine g_iret m108_14 rfl ?_
                refine gwst (st' := [.int (-1000000001)]) rfl ?_
                refine g_iret m134_93 rfl ?_
                refine gwst (st' := [.int (-1000000001), .int (-1000000001)]) rfl ?_
                refine g_ic_eqT m190_401 (by decide) ?_
                refine g_iinc (x2 := (6 : Int32)) (L2 := [some (.ref 0), some (.ref 32), some (.ref 89), some (.int (6))]) m190_1428 rfl (by decide) rfl rfl ?_
                refine g_goto m190_1431 ?_
                refine g_iload_n m190_18 rfl ?_
                refine g_aload_n m190_19 rfl ?_
                refine g_alen (n := 6) m190_20 rfl (Or.inl rfl) rfl ?_
                refine g_bipush m190_21 ?_
                refine g_isub (u := (0 : Int32)) m190_23 (by decide) ?_
                refine g_ic_gtT m190_24 (by decide) ?_
                refine g_iconst m190_1434 ?_
                refine g_zret m190_1435 rfl (Or.inr rfl) ?_
                exact rfl
          · have d46 : ¬ ((s2).toInt = 3) := fun q => c45 ((eq_k (by rfl) (by rfl)).mpr q)
            refine g_iconst m134_52 ?_
            refine g_istore (L2 := [some (.ref 89), some (.int _), some (.int _), some (.int _), some (.int (0))]) m134_53 rfl rfl ?_
            refine g_aload_n m134_55 rfl ?_
            refine g_iload_n m134_56 rfl ?_
            refine g_cv (args := [.int _]) (rest := []) m134_57 (Nat.le_of_ble_eq_true rfl) rfl rfl rfl (Nat.le_of_ble_eq_true rfl) ?_
            refine wp_in (L := [some (.ref 89), some (.int _)]) (Nat.le_of_ble_eq_true rfl) rfl ?_
            refine g_iload_n m113_0 rfl ?_
            refine g_iconst m113_1 ?_
            refine g_aload_n m113_2 rfl ?_
            refine g_gf m113_3 rfl rfl ?_
            refine g_iconst m113_6 ?_
            refine g_iald (x := (0 : Int32)) m113_7 rfl (vin rfl) rfl ?_
            refine g_iconst m113_8 ?_
            refine g_isub (u := (-1 : Int32)) m113_9 (by decide) ?_
            refine g_cs (args := [.int _, .int (0), .int (-1)]) (rest := []) 0 (Or.inl rfl) m113_10 (Nat.le_of_ble_eq_true rfl) rfl rfl (Nat.le_of_ble_eq_true rfl) ?_
            refine wp_in (L := [some (.int _), some (.int (0)), some (.int (-1))]) (Nat.le_of_ble_eq_true rfl) rfl ?_
            refine g_iload_n m107_0 rfl ?_
            refine g_iload_n m107_1 rfl ?_
            refine g_ic_ltF m107_2 (fun q => absurd ((lt_k (a := (s1).toInt) (b := 0) (by rfl) (by rfl)).mp q) (by omega)) ?_
            refine g_iload_n m107_5 rfl ?_
            refine g_iload_n m107_6 rfl ?_
            refine g_ic_gtT m107_7 ((lt_k (a := (-1)) (b := (s1).toInt) (by rfl) (by rfl)).mpr (by omega)) ?_
            refine g_iconst m107_14 ?_
            refine g_zret m107_15 rfl (Or.inl rfl) ?_
            refine gwst (st' := [.int (0)]) rfl ?_
            refine g_zret m113_13 rfl (Or.inl rfl) ?_
            refine gwst (st' := [.int (0)]) rfl ?_
            refine g_if_eqT m134_60 (by decide) ?_
            refine g_aload_n m134_87 rfl ?_
            refine g_ldci m134_88 rfl ?_
            refine g_cv (args := [.int (-1000000001)]) (rest := []) m134_90 (Nat.le_of_ble_eq_true rfl) rfl rfl rfl (Nat.le_of_ble_eq_true rfl) ?_
            refine wp_in (L := [some (.ref 89), some (.int (-1000000001))]) (Nat.le_of_ble_eq_true rfl) rfl ?_
            refine g_aload_n m108_0 rfl ?_
            refine g_gf m108_1 rfl rfl ?_
            refine g_ldci m108_4 rfl ?_
            refine g_iload_n m108_6 rfl ?_
            refine g_isub (u := (1 : Int32)) m108_7 (by decide) ?_
            refine g_dup2 m108_8 rfl rfl ?_
            refine g_iald (x := (0 : Int32)) m108_9 rfl (vin rfl) rfl ?_
            refine g_iconst m108_10 ?_
            refine g_iadd (u := (1 : Int32)) m108_11 (by decide) ?_
            refine g_iast m108_12 (Nat.le_of_ble_eq_true rfl) rfl (vin rfl) rfl rfl rfl ?_
            refine g_iload_n m108_13 rfl ?_
            refine g_iret m108_14 rfl ?_
            refine gwst (st' := [.int (-1000000001)]) rfl ?_
            refine g_iret m134_93 rfl ?_
            refine gwst (st' := [.int (-1000000001), .int (-1000000001)]) rfl ?_
            refine g_ic_eqT m190_401 (by decide) ?_
            refine g_iinc (x2 := (6 : Int32)) (L2 := [some (.ref 0), some (.ref 32), some (.ref 89), some (.int (6))]) m190_1428 rfl (by decide) rfl rfl ?_
            refine g_goto m190_1431 ?_
            refine g_iload_n m190_18 rfl ?_
            refine g_aload_n m190_19 rfl ?_
            refine g_alen (n := 6) m190_20 rfl (Or.inl rfl) rfl ?_
            refine g_bipush m190_21 ?_
            refine g_isub (u := (0 : Int32)) m190_23 (by decide) ?_
            refine g_ic_gtT m190_24 (by decide) ?_
            refine g_iconst m190_1434 ?_
            refine g_zret m190_1435 rfl (Or.inr rfl) ?_
            exact rfl
set_option maxRecDepth 20000 in
set_option maxHeartbeats 40000000 in
theorem lc_6 {s0 s1 s2 s3 s4 s5 : Int32} {d mc ms : Nat} : gw [s0, s1, s2, s3, s4, s5] (WP [s0, s1, s2, s3, s4, s5] (d + 20)) 190 (fun r _ => r = some (.int 1)) 406 [some (.ref 0), some (.ref 32), some (.ref 89), some (.int 0)] [] (hX0 ++ hM0) mc ms := by
  refine g_aload_n m190_406 rfl ?_
  refine g_aload_n m190_407 rfl ?_
  refine g_iload_n m190_408 rfl ?_
  refine g_iconst m190_409 ?_
  refine g_iadd (u := (1 : Int32)) m190_410 (by decide) ?_
  refine g_iald (x := s1) m190_411 rfl (vin rfl) rfl ?_
  refine g_aload_n m190_412 rfl ?_
  refine g_iload_n m190_413 rfl ?_
  refine g_iconst m190_414 ?_
  refine g_iadd (u := (2 : Int32)) m190_415 (by decide) ?_
  refine g_iald (x := s2) m190_416 rfl (vin rfl) rfl ?_
  refine g_cv (args := [.int _, .int _]) (rest := []) m190_417 (Nat.le_of_ble_eq_true rfl) rfl rfl rfl (Nat.le_of_ble_eq_true rfl) ?_
  refine wp_in (L := [some (.ref 32), some (.int _), some (.int _), none]) (Nat.le_of_ble_eq_true rfl) rfl ?_
  refine g_aload_n m64_0 rfl ?_
  refine g_iload_n m64_1 rfl ?_
  refine g_cv (args := [.int _]) (rest := []) m64_2 (Nat.le_of_ble_eq_true rfl) rfl rfl rfl (Nat.le_of_ble_eq_true rfl) ?_
  refine wp_in (L := [some (.ref 32), some (.int _)]) (Nat.le_of_ble_eq_true rfl) rfl ?_
  refine g_iload_n m60_0 rfl ?_
  refine g_if_lt m60_1 (fun c1 => ?_) (fun c1 => ?_)
  · have d2 : (s1).toInt < 0 := (lt_k (by rfl) (by rfl)).mp c1
    refine g_iconst m60_19 ?_
    refine g_zret m60_20 rfl (Or.inl rfl) ?_
    refine gwst (st' := [.int (0)]) rfl ?_
    refine g_if_eqT m64_5 (by decide) ?_
    refine g_aload_n m64_17 rfl ?_
    refine g_iconst m64_18 ?_
    refine g_cv (args := [.int (1)]) (rest := []) m64_19 (Nat.le_of_ble_eq_true rfl) rfl rfl rfl (Nat.le_of_ble_eq_true rfl) ?_
    refine wp_in (L := [some (.ref 32), some (.int (1))]) (Nat.le_of_ble_eq_true rfl) rfl ?_
    refine g_aload_n m55_0 rfl ?_
    refine g_gf m55_1 rfl rfl ?_
    refine g_iload_n m55_4 rfl ?_
    refine g_dup2 m55_5 rfl rfl ?_
    refine g_iald (x := (0 : Int32)) m55_6 rfl (vin rfl) rfl ?_
    refine g_iconst m55_7 ?_
    refine g_iadd (u := (1 : Int32)) m55_8 (by decide) ?_
    refine g_iast m55_9 (Nat.le_of_ble_eq_true rfl) rfl (vin rfl) rfl rfl rfl ?_
    refine g_ldcw m55_10 ?_
    refine g_iload_n m55_13 rfl ?_
    refine g_isub (u := (-1000000001 : Int32)) m55_14 (by decide) ?_
    refine g_iret m55_15 rfl ?_
    refine gwst (st' := [.int (-1000000001)]) rfl ?_
    refine g_iret m64_22 rfl ?_
    refine gwst (st' := [.int (-1000000001)]) rfl ?_
    refine FRg rfl (fun f => ?_)
    refine g_aload_n m190_420 rfl ?_
    refine g_aload_n m190_421 rfl ?_
    refine g_iload_n m190_422 rfl ?_
    refine g_iconst m190_423 ?_
    refine g_iadd (u := (1 : Int32)) m190_424 (by decide) ?_
    refine g_iald (x := s1) m190_425 rfl (vin rfl) rfl ?_
    refine g_aload_n m190_426 rfl ?_
    refine g_iload_n m190_427 rfl ?_
    refine g_iconst m190_428 ?_
    refine g_iadd (u := (2 : Int32)) m190_429 (by decide) ?_
    refine g_iald (x := s2) m190_430 rfl (vin rfl) rfl ?_
    refine g_cv (args := [.int _, .int _]) (rest := [.int (-1000000001)]) m190_431 (Nat.le_of_ble_eq_true rfl) rfl rfl rfl (Nat.le_of_ble_eq_true rfl) ?_
    refine wp_in (L := [some (.ref 89), some (.int _), some (.int _)]) (Nat.le_of_ble_eq_true rfl) rfl ?_
    refine g_aload_n m135_0 rfl ?_
    refine g_iload_n m135_1 rfl ?_
    refine g_cv (args := [.int _]) (rest := []) m135_2 (Nat.le_of_ble_eq_true rfl) rfl rfl rfl (Nat.le_of_ble_eq_true rfl) ?_
    refine wp_in (L := [some (.ref 89), some (.int _)]) (Nat.le_of_ble_eq_true rfl) rfl ?_
    refine g_iload_n m113_0 rfl ?_
    refine g_iconst m113_1 ?_
    refine g_aload_n m113_2 rfl ?_
    refine g_gf m113_3 rfl rfl ?_
    refine g_iconst m113_6 ?_
    refine g_iald (x := (0 : Int32)) m113_7 rfl (vin rfl) rfl ?_
    refine g_iconst m113_8 ?_
    refine g_isub (u := (-1 : Int32)) m113_9 (by decide) ?_
    refine g_cs (args := [.int _, .int (0), .int (-1)]) (rest := []) 0 (Or.inl rfl) m113_10 (Nat.le_of_ble_eq_true rfl) rfl rfl (Nat.le_of_ble_eq_true rfl) ?_
    refine wp_in (L := [some (.int _), some (.int (0)), some (.int (-1))]) (Nat.le_of_ble_eq_true rfl) rfl ?_
    refine g_iload_n m107_0 rfl ?_
    refine g_iload_n m107_1 rfl ?_
    refine g_ic_ltT m107_2 ((lt_k (a := (s1).toInt) (b := 0) (by rfl) (by rfl)).mpr (by omega)) ?_
    refine g_iconst m107_14 ?_
    refine g_zret m107_15 rfl (Or.inl rfl) ?_
    refine gwst (st' := [.int (0)]) rfl ?_
    refine g_zret m113_13 rfl (Or.inl rfl) ?_
    refine gwst (st' := [.int (0)]) rfl ?_
    refine g_if_eqT m135_5 (by decide) ?_
    refine g_aload_n m135_18 rfl ?_
    refine g_ldci m135_19 rfl ?_
    refine g_cv (args := [.int (-1000000001)]) (rest := []) m135_21 (Nat.le_of_ble_eq_true rfl) rfl rfl rfl (Nat.le_of_ble_eq_true rfl) ?_
    refine wp_in (L := [some (.ref 89), some (.int (-1000000001))]) (Nat.le_of_ble_eq_true rfl) rfl ?_
    refine g_aload_n m108_0 rfl ?_
    refine g_gf m108_1 rfl rfl ?_
    refine g_ldci m108_4 rfl ?_
    refine g_iload_n m108_6 rfl ?_
    refine g_isub (u := (1 : Int32)) m108_7 (by decide) ?_
    refine g_dup2 m108_8 rfl rfl ?_
    refine g_iald (x := (0 : Int32)) m108_9 rfl (vin rfl) rfl ?_
    refine g_iconst m108_10 ?_
    refine g_iadd (u := (1 : Int32)) m108_11 (by decide) ?_
    refine g_iast m108_12 (Nat.le_of_ble_eq_true rfl) rfl (vin rfl) rfl rfl rfl ?_
    refine g_iload_n m108_13 rfl ?_
    refine g_iret m108_14 rfl ?_
    refine gwst (st' := [.int (-1000000001)]) rfl ?_
    refine g_iret m135_24 rfl ?_
    refine gwst (st' := [.int (-1000000001), .int (-1000000001)]) rfl ?_
    refine g_ic_eqT m190_434 (by decide) ?_
    refine g_iinc (x2 := (6 : Int32)) (L2 := [some (.ref 0), some (.ref 32), some (.ref 89), some (.int (6))]) m190_1428 rfl (by decide) rfl rfl ?_
    refine g_goto m190_1431 ?_
    refine g_iload_n m190_18 rfl ?_
    refine g_aload_n m190_19 rfl ?_
    refine g_alen (n := 6) m190_20 rfl (Or.inl rfl) rfl ?_
    refine g_bipush m190_21 ?_
    refine g_isub (u := (0 : Int32)) m190_23 (by decide) ?_
    refine g_ic_gtT m190_24 (by decide) ?_
    refine g_iconst m190_1434 ?_
    refine g_zret m190_1435 rfl (Or.inr rfl) ?_
    exact rfl
  · have d2 : ¬ ((s1).toInt < 0) := fun q => c1 ((lt_k (by rfl) (by rfl)).mpr q)
    refine g_iload_n m60_4 rfl ?_
    refine g_aload_n m60_5 rfl ?_
    refine g_gf m60_6 rfl rfl ?_
    refine g_gf m60_9 rfl rfl ?_
    refine g_ic_geT m60_12 ((le_k (a := 0) (b := (s1).toInt) (by rfl) (by rfl)).mpr (by omega)) ?_
    refine g_iconst m60_19 ?_
    refine g_zret m60_20 rfl (Or.inl rfl) ?_
    refine gwst (st' := [.int (0)]) rfl ?_
    refine g_if_eqT m64_5 (by decide) ?_
    refine g_aload_n m64_17 rfl ?_
    refine g_iconst m64_18 ?_
    refine g_cv (args := [.int (1)]) (rest := []) m64_19 (Nat.le_of_ble_eq_true rfl) rfl rfl rfl (Nat.le_of_ble_eq_true rfl) ?_
    refine wp_in (L := [some (.ref 32), some (.int (1))]) (Nat.le_of_ble_eq_true rfl) rfl ?_
    refine g_aload_n m55_0 rfl ?_
    refine g_gf m55_1 rfl rfl ?_
    refine g_iload_n m55_4 rfl ?_
    refine g_dup2 m55_5 rfl rfl ?_
    refine g_iald (x := (0 : Int32)) m55_6 rfl (vin rfl) rfl ?_
    refine g_iconst m55_7 ?_
    refine g_iadd (u := (1 : Int32)) m55_8 (by decide) ?_
    refine g_iast m55_9 (Nat.le_of_ble_eq_true rfl) rfl (vin rfl) rfl rfl rfl ?_
    refine g_ldcw m55_10 ?_
    refine g_iload_n m55_13 rfl ?_
    refine g_isub (u := (-1000000001 : Int32)) m55_14 (by decide) ?_
    refine g_iret m55_15 rfl ?_
    refine gwst (st' := [.int (-1000000001)]) rfl ?_
    refine g_iret m64_22 rfl ?_
    refine gwst (st' := [.int (-1000000001)]) rfl ?_
    refine FRg rfl (fun f => ?_)
    refine g_aload_n m190_420 rfl ?_
    refine g_aload_n m190_421 rfl ?_
    refine g_iload_n m190_422 rfl ?_
    refine g_iconst m190_423 ?_
    refine g_iadd (u := (1 : Int32)) m190_424 (by decide) ?_
    refine g_iald (x := s1) m190_425 rfl (vin rfl) rfl ?_
    refine g_aload_n m190_426 rfl ?_
    refine g_iload_n m190_427 rfl ?_
    refine g_iconst m190_428 ?_
    refine g_iadd (u := (2 : Int32)) m190_429 (by decide) ?_
    refine g_iald (x := s2) m190_430 rfl (vin rfl) rfl ?_
    refine g_cv (args := [.int _, .int _]) (rest := [.int (-1000000001)]) m190_431 (Nat.le_of_ble_eq_true rfl) rfl rfl rfl (Nat.le_of_ble_eq_true rfl) ?_
    refine wp_in (L := [some (.ref 89), some (.int _), some (.int _)]) (Nat.le_of_ble_eq_true rfl) rfl ?_
    refine g_aload_n m135_0 rfl ?_
    refine g_iload_n m135_1 rfl ?_
    refine g_cv (args := [.int _]) (rest := []) m135_2 (Nat.le_of_ble_eq_true rfl) rfl rfl rfl (Nat.le_of_ble_eq_true rfl) ?_
    refine wp_in (L := [some (.ref 89), some (.int _)]) (Nat.le_of_ble_eq_true rfl) rfl ?_
    refine g_iload_n m113_0 rfl ?_
    refine g_iconst m113_1 ?_
    refine g_aload_n m113_2 rfl ?_
    refine g_gf m113_3 rfl rfl ?_
    refine g_iconst m113_6 ?_
    refine g_iald (x := (0 : Int32)) m113_7 rfl (vin rfl) rfl ?_
    refine g_iconst m113_8 ?_
    refine g_isub (u := (-1 : Int32)) m113_9 (by decide) ?_
    refine g_cs (args := [.int _, .int (0), .int (-1)]) (rest := []) 0 (Or.inl rfl) m113_10 (Nat.le_of_ble_eq_true rfl) rfl rfl (Nat.le_of_ble_eq_true rfl) ?_
    refine wp_in (L := [some (.int _), some (.int (0)), some (.int (-1))]) (Nat.le_of_ble_eq_true rfl) rfl ?_
    refine g_iload_n m107_0 rfl ?_
    refine g_iload_n m107_1 rfl ?_
    refine g_ic_ltF m107_2 (fun q => absurd ((lt_k (a := (s1).toInt) (b := 0) (by rfl) (by rfl)).mp q) (by omega)) ?_
    refine g_iload_n m107_5 rfl ?_
    refine g_iload_n m107_6 rfl ?_
    refine g_ic_gtT m107_7 ((lt_k (a := (-1)) (b := (s1).toInt) (by rfl) (by rfl)).mpr (by omega)) ?_
    refine g_iconst m107_14 ?_
    refine g_zret m107_15 rfl (Or.inl rfl) ?_
    refine gwst (st' := [.int (0)]) rfl ?_
    refine g_zret m113_13 rfl (Or.inl rfl) ?_
    refine gwst (st' := [.int (0)]) rfl ?_
    refine g_if_eqT m135_5 (by decide) ?_
    refine g_aload_n m135_18 rfl ?_
    refine g_ldci m135_19 rfl ?_
    refine g_cv (args := [.int (-1000000001)]) (rest := []) m135_21 (Nat.le_of_ble_eq_true rfl) rfl rfl rfl (Nat.le_of_ble_eq_true rfl) ?_
    refine wp_in (L := [some (.ref 89), some (.int (-1000000001))]) (Nat.le_of_ble_eq_true rfl) rfl ?_
    refine g_aload_n m108_0 rfl ?_
    refine g_gf m108_1 rfl rfl ?_
    refine g_ldci m108_4 rfl ?_
    refine g_iload_n m108_6 rfl ?_
    refine g_isub (u := (1 : Int32)) m108_7 (by decide) ?_
    refine g_dup2 m108_8 rfl rfl ?_
    refine g_iald (x := (0 : Int32)) m108_9 rfl (vin rfl) rfl ?_
    refine g_iconst m108_10 ?_
    refine g_iadd (u := (1 : Int32)) m108_11 (by decide) ?_
    refine g_iast m108_12 (Nat.le_of_ble_eq_true rfl) rfl (vin rfl) rfl rfl rfl ?_
    refine g_iload_n m108_13 rfl ?_
    refine g_iret m108_14 rfl ?_
    refine gwst (st' := [.int (-1000000001)]) rfl ?_
    refine g_iret m135_24 rfl ?_
    refine gwst (st' := [.int (-1000000001), .int (-1000000001)]) rfl ?_
    refine g_ic_eqT m190_434 (by decide) ?_
    refine g_iinc (x2 := (6 : Int32)) (L2 := [some (.ref 0), some (.ref 32), some (.ref 89), some (.int (6))]) m190_1428 rfl (by decide) rfl rfl ?_
    refine g_goto m190_1431 ?_
    refine g_iload_n m190_18 rfl ?_
    refine g_aload_n m190_19 rfl ?_
    refine g_alen (n := 6) m190_20 rfl (Or.inl rfl) rfl ?_
    refine g_bipush m190_21 ?_
    refine g_isub (u := (0 : Int32)) m190_23 (by decide) ?_
    refine g_ic_gtT m190_24 (by decide) ?_
    refine g_iconst m190_1434 ?_
    refine g_zret m190_1435 rfl (Or.inr rfl) ?_
    exact rfl
set_option maxRecDepth 20000 in
set_option maxHeartbeats 40000000 in
theorem lc_7 {s0 s1 s2 s3 s4 s5 : Int32} {d mc ms : Nat} : gw [s0, s1, s2, s3, s4, s5] (WP [s0, s1, s2, s3, s4, s5] (d + 20)) 190 (fun r _ => r = some (.int 1)) 439 [some (.ref 0), some (.ref 32), some (.ref 89), some (.int 0)] [] (hX0 ++ hM0) mc ms := by
  refine g_aload_n m190_439 rfl ?_
  refine g_aload_n m190_440 rfl ?_
  refine g_iload_n m190_441 rfl ?_
  refine g_iconst m190_442 ?_
  refine g_iadd (u := (1 : Int32)) m190_443 (by decide) ?_
  refine g_iald (x := s1) m190_444 rfl (vin rfl) rfl ?_
  refine g_aload_n m190_445 rfl ?_
  refine g_iload_n m190_446 rfl ?_
  refine g_iconst m190_447 ?_
  refine g_iadd (u := (2 : Int32)) m190_448 (by decide) ?_
  refine g_iald (x := s2) m190_449 rfl (vin rfl) rfl ?_
  refine g_cv (args := [.int _, .int _]) (rest := []) m190_450 (Nat.le_of_ble_eq_true rfl) rfl rfl rfl (Nat.le_of_ble_eq_true rfl) ?_
  refine wp_in (L := [some (.ref 32), some (.int _), some (.int _)]) (Nat.le_of_ble_eq_true rfl) rfl ?_
  refine g_aload_n m66_0 rfl ?_
  refine g_iload_n m66_1 rfl ?_
  refine g_cv (args := [.int _]) (rest := []) m66_2 (Nat.le_of_ble_eq_true rfl) rfl rfl rfl (Nat.le_of_ble_eq_true rfl) ?_
  refine wp_in (L := [some (.ref 32), some (.int _)]) (Nat.le_of_ble_eq_true rfl) rfl ?_
  refine g_iload_n m60_0 rfl ?_
  refine g_if_lt m60_1 (fun c1 => ?_) (fun c1 => ?_)
  · have d2 : (s1).toInt < 0 := (lt_k (by rfl) (by rfl)).mp c1
    refine g_iconst m60_19 ?_
    refine g_zret m60_20 rfl (Or.inl rfl) ?_
    refine gwst (st' := [.int (0)]) rfl ?_
    refine g_if_eqT m66_5 (by decide) ?_
    refine g_aload_n m66_17 rfl ?_
    refine g_iconst m66_18 ?_
    refine g_cv (args := [.int (1)]) (rest := []) m66_19 (Nat.le_of_ble_eq_true rfl) rfl rfl rfl (Nat.le_of_ble_eq_true rfl) ?_
    refine wp_in (L := [some (.ref 32), some (.int (1))]) (Nat.le_of_ble_eq_true rfl) rfl ?_
    refine g_aload_n m55_0 rfl ?_
    refine g_gf m55_1 rfl rfl ?_
    refine g_iload_n m55_4 rfl ?_
    refine g_dup2 m55_5 rfl rfl ?_
    refine g_iald (x := (0 : Int32)) m55_6 rfl (vin rfl) rfl ?_
    refine g_iconst m55_7 ?_
    refine g_iadd (u := (1 : Int32)) m55_8 (by decide) ?_
    refine g_iast m55_9 (Nat.le_of_ble_eq_true rfl) rfl (vin rfl) rfl rfl rfl ?_
    refine g_ldcw m55_10 ?_
    refine g_iload_n m55_13 rfl ?_
    refine g_isub (u := (-1000000001 : Int32)) m55_14 (by decide) ?_
    refine g_iret m55_15 rfl ?_
    refine gwst (st' := [.int (-1000000001)]) rfl ?_
    refine g_iret m66_22 rfl ?_
    refine gwst (st' := [.int (-1000000001)]) rfl ?_
    refine FRg rfl (fun f => ?_)
    refine g_aload_n m190_453 rfl ?_
    refine g_aload_n m190_454 rfl ?_
    refine g_iload_n m190_455 rfl ?_
    refine g_iconst m190_456 ?_
    refine g_iadd (u := (1 : Int32)) m190_457 (by decide) ?_
    refine g_iald (x := s1) m190_458 rfl (vin rfl) rfl ?_
    refine g_aload_n m190_459 rfl ?_
    refine g_iload_n m190_460 rfl ?_
    refine g_iconst m190_461 ?_
    refine g_iadd (u := (2 : Int32)) m190_462 (by decide) ?_
    refine g_iald (x := s2) m190_463 rfl (vin rfl) rfl ?_
    refine g_cv (args := [.int _, .int _]) (rest := [.int (-1000000001)]) m190_464 (Nat.le_of_ble_eq_true rfl) rfl rfl rfl (Nat.le_of_ble_eq_true rfl) ?_
    refine wp_in (L := [some (.ref 89), some (.int _), some (.int _), none]) (Nat.le_of_ble_eq_true rfl) rfl ?_
    refine g_aload_n m137_0 rfl ?_
    refine g_iload_n m137_1 rfl ?_
    refine g_cv (args := [.int _]) (rest := []) m137_2 (Nat.le_of_ble_eq_true rfl) rfl rfl rfl (Nat.le_of_ble_eq_true rfl) ?_
    refine wp_in (L := [some (.ref 89), some (.int _)]) (Nat.le_of_ble_eq_true rfl) rfl ?_
    refine g_iload_n m113_0 rfl ?_
    refine g_iconst m113_1 ?_
    refine g_aload_n m113_2 rfl ?_
    refine g_gf m113_3 rfl rfl ?_
    refine g_iconst m113_6 ?_
    refine g_iald (x := (0 : Int32)) m113_7 rfl (vin rfl) rfl ?_
    refine g_iconst m113_8 ?_
    refine g_isub (u := (-1 : Int32)) m113_9 (by decide) ?_
    refine g_cs (args := [.int _, .int (0), .int (-1)]) (rest := []) 0 (Or.inl rfl) m113_10 (Nat.le_of_ble_eq_true rfl) rfl rfl (Nat.le_of_ble_eq_true rfl) ?_
    refine wp_in (L := [some (.int _), some (.int (0)), some (.int (-1))]) (Nat.le_of_ble_eq_true rfl) rfl ?_
    refine g_iload_n m107_0 rfl ?_
    refine g_iload_n m107_1 rfl ?_
    refine g_ic_ltT m107_2 ((lt_k (a := (s1).toInt) (b := 0) (by rfl) (by rfl)).mpr (by omega)) ?_
    refine g_iconst m107_14 ?_
    refine g_zret m107_15 rfl (Or.inl rfl) ?_
    refine gwst (st' := [.int (0)]) rfl ?_
    refine g_zret m113_13 rfl (Or.inl rfl) ?_
    refine gwst (st' := [.int (0)]) rfl ?_
    refine g_if_eqT m137_5 (by decide) ?_
    refine g_aload_n m137_18 rfl ?_
    refine g_ldci m137_19 rfl ?_
    refine g_cv (args := [.int (-1000000001)]) (rest := []) m137_21 (Nat.le_of_ble_eq_true rfl) rfl rfl rfl (Nat.le_of_ble_eq_true rfl) ?_
    refine wp_in (L := [some (.ref 89), some (.int (-1000000001))]) (Nat.le_of_ble_eq_true rfl) rfl ?_
    refine g_aload_n m108_0 rfl ?_
    refine g_gf m108_1 rfl rfl ?_
    refine g_ldci m108_4 rfl ?_
    refine g_iload_n m108_6 rfl ?_
    refine g_isub (u := (1 : Int32)) m108_7 (by decide) ?_
    refine g_dup2 m108_8 rfl rfl ?_
    refine g_iald (x := (0 : Int32)) m108_9 rfl (vin rfl) rfl ?_
    refine g_iconst m108_10 ?_
    refine g_iadd (u := (1 : Int32)) m108_11 (by decide) ?_
    refine g_iast m108_12 (Nat.le_of_ble_eq_true rfl) rfl (vin rfl) rfl rfl rfl ?_
    refine g_iload_n m108_13 rfl ?_
    refine g_iret m108_14 rfl ?_
    refine gwst (st' := [.int (-1000000001)]) rfl ?_
    refine g_iret m137_24 rfl ?_
    refine gwst (st' := [.int (-1000000001), .int (-1000000001)]) rfl ?_
    refine g_ic_eqT m190_467 (by decide) ?_
    refine g_iinc (x2 := (6 : Int32)) (L2 := [some (.ref 0), some (.ref 32), some (.ref 89), some (.int (6))]) m190_1428 rfl (by decide) rfl rfl ?_
    refine g_goto m190_1431 ?_
    refine g_iload_n m190_18 rfl ?_
    refine g_aload_n m190_19 rfl ?_
    refine g_alen (n := 6) m190_20 rfl (Or.inl rfl) rfl ?_
    refine g_bipush m190_21 ?_
    refine g_isub (u := (0 : Int32)) m190_23 (by decide) ?_
    refine g_ic_gtT m190_24 (by decide) ?_
    refine g_iconst m190_1434 ?_
    refine g_zret m190_1435 rfl (Or.inr rfl) ?_
    exact rfl
  · have d2 : ¬ ((s1).toInt < 0) := fun q => c1 ((lt_k (by rfl) (by rfl)).mpr q)
    refine g_iload_n m60_4 rfl ?_
    refine g_aload_n m60_5 rfl ?_
    refine g_gf m60_6 rfl rfl ?_
    refine g_gf m60_9 rfl rfl ?_
    refine g_ic_geT m60_12 ((le_k (a := 0) (b := (s1).toInt) (by rfl) (by rfl)).mpr (by omega)) ?_
    refine g_iconst m60_19 ?_
    refine g_zret m60_20 rfl (Or.inl rfl) ?_
    refine gwst (st' := [.int (0)]) rfl ?_
    refine g_if_eqT m66_5 (by decide) ?_
    refine g_aload_n m66_17 rfl ?_
    refine g_iconst m66_18 ?_
    refine g_cv (args := [.int (1)]) (rest := []) m66_19 (Nat.le_of_ble_eq_true rfl) rfl rfl rfl (Nat.le_of_ble_eq_true rfl) ?_
    refine wp_in (L := [some (.ref 32), some (.int (1))]) (Nat.le_of_ble_eq_true rfl) rfl ?_
    refine g_aload_n m55_0 rfl ?_
    refine g_gf m55_1 rfl rfl ?_
    refine g_iload_n m55_4 rfl ?_
    refine g_dup2 m55_5 rfl rfl ?_
    refine g_iald (x := (0 : Int32)) m55_6 rfl (vin rfl) rfl ?_
    refine g_iconst m55_7 ?_
    refine g_iadd (u := (1 : Int32)) m55_8 (by decide) ?_
    refine g_iast m55_9 (Nat.le_of_ble_eq_true rfl) rfl (vin rfl) rfl rfl rfl ?_
    refine g_ldcw m55_10 ?_
    refine g_iload_n m55_13 rfl ?_
    refine g_isub (u := (-1000000001 : Int32)) m55_14 (by decide) ?_
    refine g_iret m55_15 rfl ?_
    refine gwst (st' := [.int (-1000000001)]) rfl ?_
    refine g_iret m66_22 rfl ?_
    refine gwst (st' := [.int (-1000000001)]) rfl ?_
    refine FRg rfl (fun f => ?_)
    refine g_aload_n m190_453 rfl ?_
    refine g_aload_n m190_454 rfl ?_
    refine g_iload_n m190_455 rfl ?_
    refine g_iconst m190_456 ?_
    refine g_iadd (u := (1 : Int32)) m190_457 (by decide) ?_
    refine g_iald (x := s1) m190_458 rfl (vin rfl) rfl ?_
    refine g_aload_n m190_459 rfl ?_
    refine g_iload_n m190_460 rfl ?_
    refine g_iconst m190_461 ?_
    refine g_iadd (u := (2 : Int32)) m190_462 (by decide) ?_
    refine g_iald (x := s2) m190_463 rfl (vin rfl) rfl ?_
    refine g_cv (args := [.int _, .int _]) (rest := [.int (-1000000001)]) m190_464 (Nat.le_of_ble_eq_true rfl) rfl rfl rfl (Nat.le_of_ble_eq_true rfl) ?_
    refine wp_in (L := [some (.ref 89), some (.int _), some (.int _), none]) (Nat.le_of_ble_eq_true rfl) rfl ?_
    refine g_aload_n m137_0 rfl ?_
    refine g_iload_n m137_1 rfl ?_
    refine g_cv (args := [.int _]) (rest := []) m137_2 (Nat.le_of_ble_eq_true rfl) rfl rfl rfl (Nat.le_of_ble_eq_true rfl) ?_
    refine wp_in (L := [some (.ref 89), some (.int _)]) (Nat.le_of_ble_eq_true rfl) rfl ?_
    refine g_iload_n m113_0 rfl ?_
    refine g_iconst m113_1 ?_
    refine g_aload_n m113_2 rfl ?_
    refine g_gf m113_3 rfl rfl ?_
    refine g_iconst m113_6 ?_
    refine g_iald (x := (0 : Int32)) m113_7 rfl (vin rfl) rfl ?_
    refine g_iconst m113_8 ?_
    refine g_isub (u := (-1 : Int32)) m113_9 (by decide) ?_
    refine g_cs (args := [.int _, .int (0), .int (-1)]) (rest := []) 0 (Or.inl rfl) m113_10 (Nat.le_of_ble_eq_true rfl) rfl rfl (Nat.le_of_ble_eq_true rfl) ?_
    refine wp_in (L := [some (.int _), some (.int (0)), some (.int (-1))]) (Nat.le_of_ble_eq_true rfl) rfl ?_
    refine g_iload_n m107_0 rfl ?_
    refine g_iload_n m107_1 rfl ?_
    refine g_ic_ltF m107_2 (fun q => absurd ((lt_k (a := (s1).toInt) (b := 0) (by rfl) (by rfl)).mp q) (by omega)) ?_
    refine g_iload_n m107_5 rfl ?_
    refine g_iload_n m107_6 rfl ?_
    refine g_ic_gtT m107_7 ((lt_k (a := (-1)) (b := (s1).toInt) (by rfl) (by rfl)).mpr (by omega)) ?_
    refine g_iconst m107_14 ?_
    refine g_zret m107_15 rfl (Or.inl rfl) ?_
    refine gwst (st' := [.int (0)]) rfl ?_
    refine g_zret m113_13 rfl (Or.inl rfl) ?_
    refine gwst (st' := [.int (0)]) rfl ?_
    refine g_if_eqT m137_5 (by decide) ?_
    refine g_aload_n m137_18 rfl ?_
    refine g_ldci m137_19 rfl ?_
    refine g_cv (args := [.int (-1000000001)]) (rest := []) m137_21 (Nat.le_of_ble_eq_true rfl) rfl rfl rfl (Nat.le_of_ble_eq_true rfl) ?_
    refine wp_in (L := [some (.ref 89), some (.int (-1000000001))]) (Nat.le_of_ble_eq_true rfl) rfl ?_
    refine g_aload_n m108_0 rfl ?_
    refine g_gf m108_1 rfl rfl ?_
    refine g_ldci m108_4 rfl ?_
    refine g_iload_n m108_6 rfl ?_
    refine g_isub (u := (1 : Int32)) m108_7 (by decide) ?_
    refine g_dup2 m108_8 rfl rfl ?_
    refine g_iald (x := (0 : Int32)) m108_9 rfl (vin rfl) rfl ?_
    refine g_iconst m108_10 ?_
    refine g_iadd (u := (1 : Int32)) m108_11 (by decide) ?_
    refine g_iast m108_12 (Nat.le_of_ble_eq_true rfl) rfl (vin rfl) rfl rfl rfl ?_
    refine g_iload_n m108_13 rfl ?_
    refine g_iret m108_14 rfl ?_
    refine gwst (st' := [.int (-1000000001)]) rfl ?_
    refine g_iret m137_24 rfl ?_
    refine gwst (st' := [.int (-1000000001), .int (-1000000001)]) rfl ?_
    refine g_ic_eqT m190_467 (by decide) ?_
    refine g_iinc (x2 := (6 : Int32)) (L2 := [some (.ref 0), some (.ref 32), some (.ref 89), some (.int (6))]) m190_1428 rfl (by decide) rfl rfl ?_
    refine g_goto m190_1431 ?_
    refine g_iload_n m190_18 rfl ?_
    refine g_aload_n m190_19 rfl ?_
    refine g_alen (n := 6) m190_20 rfl (Or.inl rfl) rfl ?_
    refine g_bipush m190_21 ?_
    refine g_isub (u := (0 : Int32)) m190_23 (by decide) ?_
    refine g_ic_gtT m190_24 (by decide) ?_
    refine g_iconst m190_1434 ?_
    refine g_zret m190_1435 rfl (Or.inr rfl) ?_
    exact rfl
