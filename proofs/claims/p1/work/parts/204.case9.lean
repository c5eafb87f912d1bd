/-! THE LAW'S CASES 9, over two new objects -/
set_option maxRecDepth 20000 in
set_option maxHeartbeats 40000000 in
theorem lc_9 {s0 s1 s2 s3 s4 s5 : Int32} {d mc ms : Nat} : gw [s0, s1, s2, s3, s4, s5] (WP [s0, s1, s2, s3, s4, s5] (d + 20)) 190 (fun r _ => r = some (.int 1)) 535 [some (.ref 0), some (.ref 32), some (.ref 89), some (.int 0)] [] (hX0 ++ hM0) mc ms := by
  refine g_aload_n m190_535 rfl ?_
  refine g_aload_n m190_536 rfl ?_
  refine g_iload_n m190_537 rfl ?_
  refine g_iconst m190_538 ?_
  refine g_iadd (u := (1 : Int32)) m190_539 (by decide) ?_
  refine g_iald (x := s1) m190_540 rfl (vin rfl) rfl ?_
  refine g_cv (args := [.int _]) (rest := []) m190_541 (Nat.le_of_ble_eq_true rfl) rfl rfl rfl (Nat.le_of_ble_eq_true rfl) ?_
  refine wp_in (L := [some (.ref 32), some (.int _), none, none]) (Nat.le_of_ble_eq_true rfl) rfl ?_
  refine g_iload_n m68_0 rfl ?_
  refine g_iconst m68_1 ?_
  refine g_cs (args := [.int _, .int (1)]) (rest := []) 0 (Or.inl rfl) m68_2 (Nat.le_of_ble_eq_true rfl) rfl rfl (Nat.le_of_ble_eq_true rfl) ?_
  refine wp_in (L := [some (.int _), some (.int (1))]) (Nat.le_of_ble_eq_true rfl) rfl ?_
  refine g_iload_n m54_0 rfl ?_
  refine g_if_lt m54_1 (fun c1 => ?_) (fun c1 => ?_)
  · have d2 : (s1).toInt < 0 := (lt_k (by rfl) (by rfl)).mp c1
    refine g_iconst m54_13 ?_
    refine g_zret m54_14 rfl (Or.inl rfl) ?_
    refine gwst (st' := [.int (0)]) rfl ?_
    refine g_if_neT m68_5 (by decide) ?_
    refine g_aload_n m68_8 rfl ?_
    refine g_iconst m68_9 ?_
    refine g_cv (args := [.int (1)]) (rest := []) m68_10 (Nat.le_of_ble_eq_true rfl) rfl rfl rfl (Nat.le_of_ble_eq_true rfl) ?_
    refine wp_in (L := [some (.ref 32), some (.int (1))]) (Nat.le_of_ble_eq_true rfl) rfl ?_
    refine g_aload_n m55_0 rfl ?_
    refine g_gf m55_1 rfl rfl ?_
    refine g_iload_n m55_4 rfl ?_
    refine g_dup2 m55_5 rfl rfl ?_
    refine g_iald (x := (0 : Int32)) m55_6 rfl (vin rfl) rfl ?_
    refine g_iconst m55_7 ?_
    refine g_iadd (u := (1 : Int32)) m55_8 (by decide) ?_
    refine g_iast m55_9 (Nat.le_of_ble_eq_true rfl) rfl (vin rfl) rfl rfl rfl ?_
    refine g_ldcw m55_10 ?_
    refine g_iload_n m55_13 rfl ?_
    refine g_isub (u := (-1000000001 : Int32)) m55_14 (by decide) ?_
    refine g_iret m55_15 rfl ?_
    refine gwst (st' := [.int (-1000000001)]) rfl ?_
    refine g_iret m68_13 rfl ?_
    refine gwst (st' := [.int (-1000000001)]) rfl ?_
    refine FRg rfl (fun f => ?_)
    refine g_aload_n m190_544 rfl ?_
    refine g_aload_n m190_545 rfl ?_
    refine g_iload_n m190_546 rfl ?_
    refine g_iconst m190_547 ?_
    refine g_iadd (u := (1 : Int32)) m190_548 (by decide) ?_
    refine g_iald (x := s1) m190_549 rfl (vin rfl) rfl ?_
    refine g_cv (args := [.int _]) (rest := [.int (-1000000001)]) m190_550 (Nat.le_of_ble_eq_true rfl) rfl rfl rfl (Nat.le_of_ble_eq_true rfl) ?_
    refine wp_in (L := [some (.ref 89), some (.int _), none, none, none]) (Nat.le_of_ble_eq_true rfl) rfl ?_
    refine g_iload_n m140_0 rfl ?_
    refine g_iconst m140_1 ?_
    refine g_iconst m140_2 ?_
    refine g_cs (args := [.int _, .int (0), .int (1)]) (rest := []) 0 (Or.inl rfl) m140_3 (Nat.le_of_ble_eq_true rfl) rfl rfl (Nat.le_of_ble_eq_true rfl) ?_
    refine wp_in (L := [some (.int _), some (.int (0)), some (.int (1))]) (Nat.le_of_ble_eq_true rfl) rfl ?_
    refine g_iload_n m107_0 rfl ?_
    refine g_iload_n m107_1 rfl ?_
    refine g_ic_ltT m107_2 ((lt_k (a := (s1).toInt) (b := 0) (by rfl) (by rfl)).mpr (by omega)) ?_
    refine g_iconst m107_14 ?_
    refine g_zret m107_15 rfl (Or.inl rfl) ?_
    refine gwst (st' := [.int (0)]) rfl ?_
    refine g_if_neT m140_6 (by decide) ?_
    refine g_aload_n m140_9 rfl ?_
    refine g_ldci m140_10 rfl ?_
    refine g_cv (args := [.int (-1000000001)]) (rest := []) m140_12 (Nat.le_of_ble_eq_true rfl) rfl rfl rfl (Nat.le_of_ble_eq_true rfl) ?_
    refine wp_in (L := [some (.ref 89), some (.int (-1000000001))]) (Nat.le_of_ble_eq_true rfl) rfl ?_
    refine g_aload_n m108_0 rfl ?_
    refine g_gf m108_1 rfl rfl ?_
    refine g_ldci m108_4 rfl ?_
    refine g_iload_n m108_6 rfl ?_
    refine g_isub (u := (1 : Int32)) m108_7 (by decide) ?_
    refine g_dup2 m108_8 rfl rfl ?_
    refine g_iald (x := (0 : Int32)) m108_9 rfl (vin rfl) rfl ?_
    refine g_iconst m108_10 ?_
    refine g_iadd (u := (1 : Int32)) m108_11 (by decide) ?_
    refine g_iast m108_12 (Nat.le_of_ble_eq_true rfl) rfl (vin rfl) rfl rfl rfl ?_
    refine g_iload_n m108_13 rfl ?_
    refine g_iret m108_14 rfl ?_
    refine gwst (st' := [.int (-1000000001)]) rfl ?_
    refine g_iret m140_15 rfl ?_
    refine gwst (st' := [.int (-1000000001), .int (-1000000001)]) rfl ?_
    refine g_ic_eqT m190_553 (by decide) ?_
    refine g_iinc (x2 := (6 : Int32)) (L2 := [some (.ref 0), some (.ref 32), some (.ref 89), some (.int (6))]) m190_1428 rfl (by decide) rfl rfl ?_
    refine g_goto m190_1431 ?_
    refine g_iload_n m190_18 rfl ?_
    refine g_aload_n m190_19 rfl ?_
    refine g_alen (n := 6) m190_20 rfl (Or.inl rfl) rfl ?_
    refine g_bipush m190_21 ?_
    refine g_isub (u := (0 : Int32)) m190_23 (by decide) ?_
    refine g_ic_gtT m190_24 (by decide) ?_
    refine g_iconst m190_1434 ?_
    refine g_zret m190_1435 rfl (Or.inr rfl) ?_
    exact rfl
  · have d2 : ¬ ((s1).toInt < 0) := fun q => c1 ((lt_k (by rfl) (by rfl)).mpr q)
    refine g_iload_n m54_4 rfl ?_
    refine g_iload_n m54_5 rfl ?_
    refine g_ic_gt m54_6 (fun c3 => ?_) (fun c3 => ?_)
    · have d4 : 1 < (s1).toInt := (lt_k (by rfl) (by rfl)).mp c3
      refine g_iconst m54_13 ?_
      refine g_zret m54_14 rfl (Or.inl rfl) ?_
      refine gwst (st' := [.int (0)]) rfl ?_
      refine g_if_neT m68_5 (by decide) ?_
      refine g_aload_n m68_8 rfl ?_
      refine g_iconst m68_9 ?_
      refine g_cv (args := [.int (1)]) (rest := []) m68_10 (Nat.le_of_ble_eq_true rfl) rfl rfl rfl (Nat.le_of_ble_eq_true rfl) ?_
      refine wp_in (L := [some (.ref 32), some (.int (1))]) (Nat.le_of_ble_eq_true rfl) rfl ?_
      refine g_aload_n m55_0 rfl ?_
      refine g_gf m55_1 rfl rfl ?_
      refine g_iload_n m55_4 rfl ?_
      refine g_dup2 m55_5 rfl rfl ?_
      refine g_iald (x := (0 : Int32)) m55_6 rfl (vin rfl) rfl ?_
      refine g_iconst m55_7 ?_
      refine g_iadd (u := (1 : Int32)) m55_8 (by decide) ?_
      refine g_iast m55_9 (Nat.le_of_ble_eq_true rfl) rfl (vin rfl) rfl rfl rfl ?_
      refine g_ldcw m55_10 ?_
      refine g_iload_n m55_13 rfl ?_
      refine g_isub (u := (-1000000001 : Int32)) m55_14 (by decide) ?_
      refine g_iret m55_15 rfl ?_
      refine gwst (st' := [.int (-1000000001)]) rfl ?_
      refine g_iret m68_13 rfl ?_
      refine gwst (st' := [.int (-1000000001)]) rfl ?_
      refine FRg rfl (fun f => ?_)
      refine g_aload_n m190_544 rfl ?_
      refine g_aload_n m190_545 rfl ?_
      refine g_iload_n m190_546 rfl ?_
      refine g_iconst m190_547 ?_
      refine g_iadd (u := (1 : Int32)) m190_548 (by decide) ?_
      refine g_iald (x := s1) m190_549 rfl (vin rfl) rfl ?_
      refine g_cv (args := [.int _]) (rest := [.int (-1000000001)]) m190_550 (Nat.le_of_ble_eq_true rfl) rfl rfl rfl (Nat.le_of_ble_eq_true rfl) ?_
      refine wp_in (L := [some (.ref 89), some (.int _), none, none, none]) (Nat.le_of_ble_eq_true rfl) rfl ?_
      refine g_iload_n m140_0 rfl ?_
      refine g_iconst m140_1 ?_
      refine g_iconst m140_2 ?_
      refine g_cs (args := [.int _, .int (0), .int (1)]) (rest := []) 0 (Or.inl rfl) m140_3 (Nat.le_of_ble_eq_true rfl) rfl rfl (Nat.le_of_ble_eq_true rfl) ?_
      refine wp_in (L := [some (.int _), some (.int (0)), some (.int (1))]) (Nat.le_of_ble_eq_true rfl) rfl ?_
      refine g_iload_n m107_0 rfl ?_
      refine g_iload_n m107_1 rfl ?_
      refine g_ic_ltF m107_2 (fun q => absurd ((lt_k (a := (s1).toInt) (b := 0) (by rfl) (by rfl)).mp q) (by omega)) ?_
      refine g_iload_n m107_5 rfl ?_
      refine g_iload_n m107_6 rfl ?_
      refine g_ic_gtT m107_7 ((lt_k (a := 1) (b := (s1).toInt) (by rfl) (by rfl)).mpr (by omega)) ?_
      refine g_iconst m107_14 ?_
      refine g_zret m107_15 rfl (Or.inl rfl) ?_
      refine gwst (st' := [.int (0)]) rfl ?_
      refine g_if_neT m140_6 (by decide) ?_
      refine g_aload_n m140_9 rfl ?_
      refine g_ldci m140_10 rfl ?_
      refine g_cv (args := [.int (-1000000001)]) (rest := []) m140_12 (Nat.le_of_ble_eq_true rfl) rfl rfl rfl (Nat.le_of_ble_eq_true rfl) ?_
      refine wp_in (L := [some (.ref 89), some (.int (-1000000001))]) (Nat.le_of_ble_eq_true rfl) rfl ?_
      refine g_aload_n m108_0 rfl ?_
      refine g_gf m108_1 rfl rfl ?_
      refine g_ldci m108_4 rfl ?_
      refine g_iload_n m108_6 rfl ?_
      refine g_isub (u := (1 : Int32)) m108_7 (by decide) ?_
      refine g_dup2 m108_8 rfl rfl ?_
      refine g_iald (x := (0 : Int32)) m108_9 rfl (vin rfl) rfl ?_
      refine g_iconst m108_10 ?_
      refine g_iadd (u := (1 : Int32)) m108_11 (by decide) ?_
      refine g_iast m108_12 (Nat.le_of_ble_eq_true rfl) rfl (vin rfl) rfl rfl rfl ?_
      refine g_iload_n m108_13 rfl ?_
      refine g_iret m108_14 rfl ?_
      refine gwst (st' := [.int (-1000000001)]) rfl ?_
      refine g_iret m140_15 rfl ?_
      refine gwst (st' := [.int (-1000000001), .int (-1000000001)]) rfl ?_
      refine g_ic_eqT m190_553 (by decide) ?_
      refine g_iinc (x2 := (6 : Int32)) (L2 := [some (.ref 0), some (.ref 32), some (.ref 89), some (.int (6))]) m190_1428 rfl (by decide) rfl rfl ?_
      refine g_goto m190_1431 ?_
      refine g_iload_n m190_18 rfl ?_
      refine g_aload_n m190_19 rfl ?_
      refine g_alen (n := 6) m190_20 rfl (Or.inl rfl) rfl ?_
      refine g_bipush m190_21 ?_
      refine g_isub (u := (0 : Int32)) m190_23 (by decide) ?_
      refine g_ic_gtT m190_24 (by decide) ?_
      refine g_iconst m190_1434 ?_
      refine g_zret m190_1435 rfl (Or.inr rfl) ?_
      exact rfl
    · have d4 : ¬ (1 < (s1).toInt) := fun q => c3 ((lt_k (by rfl) (by rfl)).mpr q)
      refine g_iconst m54_9 ?_
      refine g_goto m54_10 ?_
      refine g_zret m54_14 rfl (Or.inr rfl) ?_
      refine gwst (st' := [.int (1)]) rfl ?_
      refine g_if_neF m68_5 (by decide) ?_
      refine g_aload_n m68_14 rfl ?_
      refine g_gf m68_15 rfl rfl ?_
      refine g_aload_n m68_18 rfl ?_
      refine g_gf m68_19 rfl rfl ?_
      refine g_gf m68_22 rfl rfl ?_
      refine g_iload_n m68_25 rfl ?_
      refine g_if_ne m68_26 (fun c5 => ?_) (fun c5 => ?_)
      · have d6 : (s1).toInt = 0 := (eq_k (by rfl) (by rfl)).mp c5
        refine g_ldcs m68_29 (by decide) ?_
        refine g_goto m68_31 ?_
        refine g_cv (args := [.int (0), .ref 3]) (rest := []) m68_36 (Nat.le_of_ble_eq_true rfl) rfl rfl rfl (Nat.le_of_ble_eq_true rfl) ?_
        refine wp_in (L := [some (.ref 75), some (.int (0)), some (.ref 3)]) (Nat.le_of_ble_eq_true rfl) rfl ?_
        refine g_aload_n m25_0 rfl ?_
        refine g_iload_n m25_1 rfl ?_
        refine g_aload_n m25_2 rfl ?_
        refine g_gf m25_3 rfl rfl ?_
        refine g_alen (n := 50) m25_6 rfl (Or.inl rfl) rfl ?_
        refine g_min (u := (0 : Int32)) m25_7 (Nat.le_of_ble_eq_true rfl) (by decide) ?_
        refine g_pf (fs2 := [.ref 76, .int (0), .ref 70, .int (0), .ref 3, .int (0), .int (-1)]) m25_10 rfl (Nat.le_of_ble_eq_true rfl) rfl (Nat.le_of_ble_eq_true rfl) trivial rfl rfl rfl ?_
        refine g_aload_n m25_13 rfl ?_
        refine g_aload_n m25_14 rfl ?_
        refine g_pf (fs2 := [.ref 76, .int (0), .ref 70, .int (0), .ref 3, .int (0), .int (-1)]) m25_15 rfl (Nat.le_of_ble_eq_true rfl) rfl (Nat.le_of_ble_eq_true rfl) trivial rfl rfl (set_n0 rfl) ?_
        refine g_aload_n m25_18 rfl ?_
        refine g_iconst m25_19 ?_
        refine g_pf (fs2 := [.ref 76, .int (0), .ref 70, .int (0), .ref 3, .int (0), .int (-1)]) m25_20 rfl (Nat.le_of_ble_eq_true rfl) rfl (Nat.le_of_ble_eq_true rfl) trivial rfl rfl (set_n0 rfl) ?_
        refine g_aload_n m25_23 rfl ?_
        refine g_iconst m25_24 ?_
        refine g_pf (fs2 := [.ref 76, .int (0), .ref 70, .int (0), .ref 3, .int (0), .int (-1)]) m25_25 rfl (Nat.le_of_ble_eq_true rfl) rfl (Nat.le_of_ble_eq_true rfl) trivial rfl rfl (set_n0 rfl) ?_
        refine g_aload_n m25_28 rfl ?_
        refine g_iconst m25_29 ?_
        refine g_pf (fs2 := [.ref 76, .int (0), .ref 70, .int (0), .ref 3, .int (0), .int (-1)]) m25_30 rfl (Nat.le_of_ble_eq_true rfl) rfl (Nat.le_of_ble_eq_true rfl) trivial rfl rfl (set_n0 rfl) ?_
        refine g_aload_n m25_33 rfl ?_
        refine g_iconst m25_34 ?_
        refine g_iconst m25_35 ?_
        refine g_cv (args := [.int (0), .int (0)]) (rest := []) m25_36 (Nat.le_of_ble_eq_true rfl) rfl rfl rfl (Nat.le_of_ble_eq_true rfl) ?_
        refine wp_in (L := [some (.ref 75), some (.int (0)), some (.int (0)), none, none, none]) (Nat.le_of_ble_eq_true rfl) rfl ?_
        refine g_iload_n m24_0 rfl ?_
        refine g_iconst m24_1 ?_
        refine g_ic_ltT m24_2 (by decide) ?_
        refine g_aload_n m24_11 rfl ?_
        refine g_iload_n m24_12 rfl ?_
        refine g_iconst m24_13 ?_
        refine g_iadd (u := (1 : Int32)) m24_14 (by decide) ?_
        refine g_iload_n m24_15 rfl ?_
        refine g_cv (args := [.int (1), .int (0)]) (rest := []) m24_16 (Nat.le_of_ble_eq_true rfl) rfl rfl rfl (Nat.le_of_ble_eq_true rfl) ?_
        refine wp_in (L := [some (.ref 75), some (.int (1)), some (.int (0)), none, none, none]) (Nat.le_of_ble_eq_true rfl) rfl ?_
        refine g_iload_n m24_0 rfl ?_
        refine g_iconst m24_1 ?_
        refine g_ic_ltT m24_2 (by decide) ?_
        refine g_aload_n m24_11 rfl ?_
        refine g_iload_n m24_12 rfl ?_
        refine g_iconst m24_13 ?_
        refine g_iadd (u := (2 : Int32)) m24_14 (by decide) ?_
        refine g_iload_n m24_15 rfl ?_
        refine g_cv (args := [.int (2), .int (0)]) (rest := []) m24_16 (Nat.le_of_ble_eq_true rfl) rfl rfl rfl (Nat.le_of_ble_eq_true rfl) ?_
        refine wp_in (L := [some (.ref 75), some (.int (2)), some (.int (0)), none, none, none]) (Nat.le_of_ble_eq_true rfl) rfl ?_
        refine g_iload_n m24_0 rfl ?_
        refine g_iconst m24_1 ?_
        refine g_ic_ltT m24_2 (by decide) ?_
        refine g_aload_n m24_11 rfl ?_
        refine g_iload_n m24_12 rfl ?_
        refine g_iconst m24_13 ?_
        refine g_iadd (u := (3 : Int32)) m24_14 (by decide) ?_
        refine g_iload_n m24_15 rfl ?_
        refine g_cv (args := [.int (3), .int (0)]) (rest := []) m24_16 (Nat.le_of_ble_eq_true rfl) rfl rfl rfl (Nat.le_of_ble_eq_true rfl) ?_
        refine wp_in (L := [some (.ref 75), some (.int (3)), some (.int (0)), none, none, none]) (Nat.le_of_ble_eq_true rfl) rfl ?_
        refine g_iload_n m24_0 rfl ?_
        refine g_iconst m24_1 ?_
        refine g_ic_ltT m24_2 (by decide) ?_
        refine g_aload_n m24_11 rfl ?_
        refine g_iload_n m24_12 rfl ?_
        refine g_iconst m24_13 ?_
        refine g_iadd (u := (4 : Int32)) m24_14 (by decide) ?_
        refine g_iload_n m24_15 rfl ?_
        refine g_cv (args := [.int (4), .int (0)]) (rest := []) m24_16 (Nat.le_of_ble_eq_true rfl) rfl rfl rfl (Nat.le_of_ble_eq_true rfl) ?_
        refine wp_in (L := [some (.ref 75), some (.int (4)), some (.int (0)), none, none, none]) (Nat.le_of_ble_eq_true rfl) rfl ?_
        refine g_iload_n m24_0 rfl ?_
        refine g_iconst m24_1 ?_
        refine g_ic_ltT m24_2 (by decide) ?_
        refine g_aload_n m24_11 rfl ?_
        refine g_iload_n m24_12 rfl ?_
        refine g_iconst m24_13 ?_
        refine g_iadd (u := (5 : Int32)) m24_14 (by decide) ?_
        refine g_iload_n m24_15 rfl ?_
        refine g_cv (args := [.int (5), .int (0)]) (rest := []) m24_16 (Nat.le_of_ble_eq_true rfl) rfl rfl rfl (Nat.le_of_ble_eq_true rfl) ?_
        refine wp_in (L := [some (.ref 75), some (.int (5)), some (.int (0)), none, none, none]) (Nat.le_of_ble_eq_true rfl) rfl ?_
        refine g_iload_n m24_0 rfl ?_
        refine g_iconst m24_1 ?_
        refine g_ic_ltF m24_2 (by decide) ?_
        refine g_aload_n m24_5 rfl ?_
        refine g_iload_n m24_6 rfl ?_
        refine g_cv (args := [.int (0)]) (rest := []) m24_7 (Nat.le_of_ble_eq_true rfl) rfl rfl rfl (Nat.le_of_ble_eq_true rfl) ?_
        refine wp_in (L := [some (.ref 75), some (.int (0)), none, none]) (Nat.le_of_ble_eq_true rfl) rfl ?_
        refine g_aload_n m23_0 rfl ?_
        refine g_cv (args := []) (rest := []) m23_1 (Nat.le_of_ble_eq_true rfl) rfl rfl rfl (Nat.le_of_ble_eq_true rfl) ?_
        refine wp_in (L := [some (.ref 75)]) (Nat.le_of_ble_eq_true rfl) rfl ?_
        refine g_aload_n m17_0 rfl ?_
        refine g_gf m17_1 rfl rfl ?_
        refine g_if_geF m17_4 (by decide) ?_
        refine g_aload_n m17_7 rfl ?_
        refine g_gf m17_8 rfl rfl ?_
        refine g_aload_n m17_11 rfl ?_
        refine g_gf m17_12 rfl rfl ?_
        refine g_ic_geT m17_15 (by decide) ?_
        refine g_iconst m17_30 ?_
        refine g_iret m17_31 rfl ?_
        refine gwst (st' := [.int (-1)]) rfl ?_
        refine g_istore_n (L2 := [some (.ref 75), some (.int (0)), some (.int (-1)), none]) m23_4 rfl rfl ?_
        refine g_iload_n m23_5 rfl ?_
        refine g_if_geF m23_6 (by decide) ?_
        refine g_iconst m23_9 ?_
        refine g_goto m23_10 ?_
        refine g_istore_n (L2 := [some (.ref 75), some (.int (0)), some (.int (-1)), some (.int (-1))]) m23_22 rfl rfl ?_
        refine g_iload_n m23_23 rfl ?_
        refine g_cs (args := [.int (-1)]) (rest := []) 0 (Or.inl rfl) m23_24 (Nat.le_of_ble_eq_true rfl) rfl rfl (Nat.le_of_ble_eq_true rfl) ?_
        refine wp_in (L := [some (.int (-1))]) (Nat.le_of_ble_eq_true rfl) rfl ?_
        refine g_iload_n m20_0 rfl ?_
        refine g_bipush m20_1 ?_
        refine g_ic_ltT m20_3 (by decide) ?_
        refine g_iconst m20_16 ?_
        refine g_zret m20_17 rfl (Or.inl rfl) ?_
        refine gwst (st' := [.int (0)]) rfl ?_
        refine g_if_eqT m23_27 (by decide) ?_
        refine g_iload_n m23_37 rfl ?_
        refine g_if_ltT m23_38 (by decide) ?_
        refine g_iload_n m23_59 rfl ?_
        refine g_bipush m23_60 ?_
        refine g_ic_neF m23_62 (by decide) ?_
        refine g_iload_n m23_96 rfl ?_
        refine g_bipush m23_97 ?_
        refine g_ic_neF m23_99 (by decide) ?_
        refine g_aload_n m23_141 rfl ?_
        refine g_cv (args := []) (rest := []) m23_142 (Nat.le_of_ble_eq_true rfl) rfl rfl rfl (Nat.le_of_ble_eq_true rfl) ?_
        refine wp_in (L := [some (.ref 75)]) (Nat.le_of_ble_eq_true rfl) rfl ?_
        refine g_aload_n m22_0 rfl ?_
        refine g_gf m22_1 rfl rfl ?_
        refine g_if_geF m22_4 (by decide) ?_
        refine g_aload_n m22_7 rfl ?_
        refine g_aload_n m22_8 rfl ?_
        refine g_gf m22_9 rfl rfl ?_
        refine g_pf (fs2 := [.ref 76, .int (0), .ref 70, .int (0), .ref 3, .int (0), .int (0)]) m22_12 rfl (Nat.le_of_ble_eq_true rfl) rfl (Nat.le_of_ble_eq_true rfl) trivial rfl rfl (set_n0 rfl) ?_
        refine g_vret m22_15 ?_
        refine gwst (st' := []) rfl ?_
        refine g_vret m23_145 ?_
        refine gwst (st' := []) rfl ?_
        refine g_vret m24_10 ?_
        refine gwst (st' := []) rfl ?_
        refine g_iload_n m24_19 rfl ?_
        refine g_iconst m24_20 ?_
        refine g_ic_neF m24_21 (by decide) ?_
        refine g_bipush m24_28 ?_
        refine g_istore_n (L2 := [some (.ref 75), some (.int (4)), some (.int (0)), some (.int (50)), none, none]) m24_30 rfl rfl ?_
        refine g_iconst m24_31 ?_
        refine g_istore (L2 := [some (.ref 75), some (.int (4)), some (.int (0)), some (.int (50)), some (.int (0)), none]) m24_32 rfl rfl ?_
        refine g_iload m24_34 rfl ?_
        refine g_iload_n m24_36 rfl ?_
        refine g_ic_geF m24_37 (by decide) ?_
        refine g_aload_n m24_40 rfl ?_
        refine g_iload_n m24_41 rfl ?_
        refine g_cs (args := [.int (4)]) (rest := [.ref 75]) 0 (Or.inl rfl) m24_42 (Nat.le_of_ble_eq_true rfl) rfl rfl (Nat.le_of_ble_eq_true rfl) ?_
        refine wp_in (L := [some (.int (4))]) (Nat.le_of_ble_eq_true rfl) rfl ?_
        refine g_iload_n m16_0 rfl ?_
        refine gs m16_1 ?_
        refine gwpc (pc' := 44) rfl ?_
        refine g_ldcs m16_44 (by decide) ?_
        refine g_aret m16_46 ?_
        refine gwst (st' := [.ref 10, .ref 75]) rfl ?_
        refine g_cv (args := [.ref 10]) (rest := []) m24_45 (Nat.le_of_ble_eq_true rfl) rfl rfl rfl (Nat.le_of_ble_eq_true rfl) ?_
        refine wp_in (L := [some (.ref 75), some (.ref 10), none]) (Nat.le_of_ble_eq_true rfl) rfl ?_
        refine g_aload_n m18_0 rfl ?_
        refine g_cv (args := []) (rest := []) m18_1 (Nat.le_of_ble_eq_true rfl) rfl rfl rfl (Nat.le_of_ble_eq_true rfl) ?_
        refine wp_in (L := [some (.ref 75)]) (Nat.le_of_ble_eq_true rfl) rfl ?_
        refine g_aload_n m17_0 rfl ?_
        refine g_gf m17_1 rfl rfl ?_
        refine g_if_geT m17_4 (by decide) ?_
        refine g_iconst m17_30 ?_
        refine g_iret m17_31 rfl ?_
        refine gwst (st' := [.int (-1)]) rfl ?_
        refine g_istore_n (L2 := [some (.ref 75), some (.ref 10), some (.int (-1))]) m18_4 rfl rfl ?_
        refine g_iload_n m18_5 rfl ?_
        refine g_if_ltT m18_6 (by decide) ?_
        refine g_iconst m18_18 ?_
        refine g_iret m18_19 rfl ?_
        refine gwst (st' := [.int (0)]) rfl ?_
        refine g_istore (L2 := [some (.ref 75), some (.int (4)), some (.int (0)), some (.int (50)), some (.int (0)), some (.int (0))]) m24_48 rfl rfl ?_
        refine g_iload m24_50 rfl ?_
        refine g_if_neT m24_52 (by decide) ?_
        refine g_vret m24_55 ?_
        refine gwst (st' := []) rfl ?_
        refine g_iload_n m24_19 rfl ?_
        refine g_iconst m24_20 ?_
        refine g_ic_neF m24_21 (by decide) ?_
        refine g_bipush m24_28 ?_
        refine g_istore_n (L2 := [some (.ref 75), some (.int (3)), some (.int (0)), some (.int (50)), none, none]) m24_30 rfl rfl ?_
        refine g_iconst m24_31 ?_
        refine g_istore (L2 := [some (.ref 75), some (.int (3)), some (.int (0)), some (.int (50)), some (.int (0)), none]) m24_32 rfl rfl ?_
        refine g_iload m24_34 rfl ?_
        refine g_iload_n m24_36 rfl ?_
        refine g_ic_geF m24_37 (by decide) ?_
        refine g_aload_n m24_40 rfl ?_
        refine g_iload_n m24_41 rfl ?_
        refine g_cs (args := [.int (3)]) (rest := [.ref 75]) 0 (Or.inl rfl) m24_42 (Nat.le_of_ble_eq_true rfl) rfl rfl (Nat.le_of_ble_eq_true rfl) ?_
        refine wp_in (L := [some (.int (3))]) (Nat.le_of_ble_eq_true rfl) rfl ?_
        refine g_iload_n m16_0 rfl ?_
        refine gs m16_1 ?_
        refine gwpc (pc' := 41) rfl ?_
        refine g_ldcs m16_41 (by decide) ?_
        refine g_aret m16_43 ?_
        refine gwst (st' := [.ref 9, .ref 75]) rfl ?_
        refine g_cv (args := [.ref 9]) (rest := []) m24_45 (Nat.le_of_ble_eq_true rfl) rfl rfl rfl (Nat.le_of_ble_eq_true rfl) ?_
        refine wp_in (L := [some (.ref 75), some (.ref 9), none]) (Nat.le_of_ble_eq_true rfl) rfl ?_
        refine g_aload_n m18_0 rfl ?_
        refine g_cv (args := []) (rest := []) m18_1 (Nat.le_of_ble_eq_true rfl) rfl rfl rfl (Nat.le_of_ble_eq_true rfl) ?_
        refine wp_in (L := [some (.ref 75)]) (Nat.le_of_ble_eq_true rfl) rfl ?_
        refine g_aload_n m17_0 rfl ?_
        refine g_gf m17_1 rfl rfl ?_
        refine g_if_geT m17_4 (by decide) ?_
        refine g_iconst m17_30 ?_
        refine g_iret m17_31 rfl ?_
        refine gwst (st' := [.int (-1)]) rfl ?_
        refine g_istore_n (L2 := [some (.ref 75), some (.ref 9), some (.int (-1))]) m18_4 rfl rfl ?_
        refine g_iload_n m18_5 rfl ?_
        refine g_if_ltT m18_6 (by decide) ?_
        refine g_iconst m18_18 ?_
        refine g_iret m18_19 rfl ?_
        refine gwst (st' := [.int (0)]) rfl ?_
        refine g_istore (L2 := [some (.ref 75), some (.int (3)), some (.int (0)), some (.int (50)), some (.int (0)), some (.int (0))]) m24_48 rfl rfl ?_
        refine g_iload m24_50 rfl ?_
        refine g_if_neT m24_52 (by decide) ?_
        refine g_vret m24_55 ?_
        refine gwst (st' := []) rfl ?_
        refine g_iload_n m24_19 rfl ?_
        refine g_iconst m24_20 ?_
        refine g_ic_neT m24_21 (by decide) ?_
        refine g_iconst m24_24 ?_
        refine g_goto m24_25 ?_
        refine g_istore_n (L2 := [some (.ref 75), some (.int (2)), some (.int (0)), some (.int (1)), none, none]) m24_30 rfl rfl ?_
        refine g_iconst m24_31 ?_
        refine g_istore (L2 := [some (.ref 75), some (.int (2)), some (.int (0)), some (.int (1)), some (.int (0)), none]) m24_32 rfl rfl ?_
        refine g_iload m24_34 rfl ?_
        refine g_iload_n m24_36 rfl ?_
        refine g_ic_geF m24_37 (by decide) ?_
        refine g_aload_n m24_40 rfl ?_
        refine g_iload_n m24_41 rfl ?_
        refine g_cs (args := [.int (2)]) (rest := [.ref 75]) 0 (Or.inl rfl) m24_42 (Nat.le_of_ble_eq_true rfl) rfl rfl (Nat.le_of_ble_eq_true rfl) ?_
        refine wp_in (L := [some (.int (2))]) (Nat.le_of_ble_eq_true rfl) rfl ?_
        refine g_iload_n m16_0 rfl ?_
        refine gs m16_1 ?_
        refine gwpc (pc' := 38) rfl ?_
        refine g_ldcs m16_38 (by decide) ?_
        refine g_aret m16_40 ?_
        refine gwst (st' := [.ref 8, .ref 75]) rfl ?_
        refine g_cv (args := [.ref 8]) (rest := []) m24_45 (Nat.le_of_ble_eq_true rfl) rfl rfl rfl (Nat.le_of_ble_eq_true rfl) ?_
        refine wp_in (L := [some (.ref 75), some (.ref 8), none]) (Nat.le_of_ble_eq_true rfl) rfl ?_
        refine g_aload_n m18_0 rfl ?_
        refine g_cv (args := []) (rest := []) m18_1 (Nat.le_of_ble_eq_true rfl) rfl rfl rfl (Nat.le_of_ble_eq_true rfl) ?_
        refine wp_in (L := [some (.ref 75)]) (Nat.le_of_ble_eq_true rfl) rfl ?_
        refine g_aload_n m17_0 rfl ?_
        refine g_gf m17_1 rfl rfl ?_
        refine g_if_geT m17_4 (by decide) ?_
        refine g_iconst m17_30 ?_
        refine g_iret m17_31 rfl ?_
        refine gwst (st' := [.int (-1)]) rfl ?_
        refine g_istore_n (L2 := [some (.ref 75), some (.ref 8), some (.int (-1))]) m18_4 rfl rfl ?_
        refine g_iload_n m18_5 rfl ?_
        refine g_if_ltT m18_6 (by decide) ?_
        refine g_iconst m18_18 ?_
        refine g_iret m18_19 rfl ?_
        refine gwst (st' := [.int (0)]) rfl ?_
        refine g_istore (L2 := [some (.ref 75), some (.int (2)), some (.int (0)), some (.int (1)), some (.int (0)), some (.int (0))]) m24_48 rfl rfl ?_
        refine g_iload m24_50 rfl ?_
        refine g_if_neT m24_52 (by decide) ?_
        refine g_vret m24_55 ?_
        refine gwst (st' := []) rfl ?_
        refine g_iload_n m24_19 rfl ?_
        refine g_iconst m24_20 ?_
        refine g_ic_neF m24_21 (by decide) ?_
        refine g_bipush m24_28 ?_
        refine g_istore_n (L2 := [some (.ref 75), some (.int (1)), some (.int (0)), some (.int (50)), none, none]) m24_30 rfl rfl ?_
        refine g_iconst m24_31 ?_
        refine g_istore (L2 := [some (.ref 75), some (.int (1)), some (.int (0)), some (.int (50)), some (.int (0)), none]) m24_32 rfl rfl ?_
        refine g_iload m24_34 rfl ?_
        refine g_iload_n m24_36 rfl ?_
        refine g_ic_geF m24_37 (by decide) ?_
        refine g_aload_n m24_40 rfl ?_
        refine g_iload_n m24_41 rfl ?_
        refine g_cs (args := [.int (1)]) (rest := [.ref 75]) 0 (Or.inl rfl) m24_42 (Nat.le_of_ble_eq_true rfl) rfl rfl (Nat.le_of_ble_eq_true rfl) ?_
        refine wp_in (L := [some (.int (1))]) (Nat.le_of_ble_eq_true rfl) rfl ?_
        refine g_iload_n m16_0 rfl ?_
        refine gs m16_1 ?_
        refine gwpc (pc' := 35) rfl ?_
        refine g_ldcs m16_35 (by decide) ?_
        refine g_aret m16_37 ?_
        refine gwst (st' := [.ref 7, .ref 75]) rfl ?_
        refine g_cv (args := [.ref 7]) (rest := []) m24_45 (Nat.le_of_ble_eq_true rfl) rfl rfl rfl (Nat.le_of_ble_eq_true rfl) ?_
        refine wp_in (L := [some (.ref 75), some (.ref 7), none]) (Nat.le_of_ble_eq_true rfl) rfl ?_
        refine g_aload_n m18_0 rfl ?_
        refine g_cv (args := []) (rest := []) m18_1 (Nat.le_of_ble_eq_true rfl) rfl rfl rfl (Nat.le_of_ble_eq_true rfl) ?_
        refine wp_in (L := [some (.ref 75)]) (Nat.le_of_ble_eq_true rfl) rfl ?_
        refine g_aload_n m17_0 rfl ?_
        refine g_gf m17_1 rfl rfl ?_
        refine g_if_geT m17_4 (by decide) ?_
        refine g_iconst m17_30 ?_
        refine g_iret m17_31 rfl ?_
        refine gwst (st' := [.int (-1)]) rfl ?_
        refine g_istore_n (L2 := [some (.ref 75), some (.ref 7), some (.int (-1))]) m18_4 rfl rfl ?_
        refine g_iload_n m18_5 rfl ?_
        refine g_if_ltT m18_6 (by decide) ?_
        refine g_iconst m18_18 ?_
        refine g_iret m18_19 rfl ?_
        refine gwst (st' := [.int (0)]) rfl ?_
        refine g_istore (L2 := [some (.ref 75), some (.int (1)), some (.int (0)), some (.int (50)), some (.int (0)), some (.int (0))]) m24_48 rfl rfl ?_
        refine g_iload m24_50 rfl ?_
        refine g_if_neT m24_52 (by decide) ?_
        refine g_vret m24_55 ?_
        refine gwst (st' := []) rfl ?_
        refine g_iload_n m24_19 rfl ?_
        refine g_iconst m24_20 ?_
        refine g_ic_neF m24_21 (by decide) ?_
        refine g_bipush m24_28 ?_
        refine g_istore_n (L2 := [some (.ref 75), some (.int (0)), some (.int (0)), some (.int (50)), none, none]) m24_30 rfl rfl ?_
        refine g_iconst m24_31 ?_
        refine g_istore (L2 := [some (.ref 75), some (.int (0)), some (.int (0)), some (.int (50)), some (.int (0)), none]) m24_32 rfl rfl ?_
        refine g_iload m24_34 rfl ?_
        refine g_iload_n m24_36 rfl ?_
        refine g_ic_geF m24_37 (by decide) ?_
        refine g_aload_n m24_40 rfl ?_
        refine g_iload_n m24_41 rfl ?_
        refine g_cs (args := [.int (0)]) (rest := [.ref 75]) 0 (Or.inl rfl) m24_42 (Nat.le_of_ble_eq_true rfl) rfl rfl (Nat.le_of_ble_eq_true rfl) ?_
        refine wp_in (L := [some (.int (0))]) (Nat.le_of_ble_eq_true rfl) rfl ?_
        refine g_iload_n m16_0 rfl ?_
        refine gs m16_1 ?_
        refine gwpc (pc' := 32) rfl ?_
        refine g_ldcs m16_32 (by decide) ?_
        refine g_aret m16_34 ?_
        refine gwst (st' := [.ref 6, .ref 75]) rfl ?_
        refine g_cv (args := [.ref 6]) (rest := []) m24_45 (Nat.le_of_ble_eq_true rfl) rfl rfl rfl (Nat.le_of_ble_eq_true rfl) ?_
        refine wp_in (L := [some (.ref 75), some (.ref 6), none]) (Nat.le_of_ble_eq_true rfl) rfl ?_
        refine g_aload_n m18_0 rfl ?_
        refine g_cv (args := []) (rest := []) m18_1 (Nat.le_of_ble_eq_true rfl) rfl rfl rfl (Nat.le_of_ble_eq_true rfl) ?_
        refine wp_in (L := [some (.ref 75)]) (Nat.le_of_ble_eq_true rfl) rfl ?_
        refine g_aload_n m17_0 rfl ?_
        refine g_gf m17_1 rfl rfl ?_
        refine g_if_geT m17_4 (by decide) ?_
        refine g_iconst m17_30 ?_
        refine g_iret m17_31 rfl ?_
        refine gwst (st' := [.int (-1)]) rfl ?_
        refine g_istore_n (L2 := [some (.ref 75), some (.ref 6), some (.int (-1))]) m18_4 rfl rfl ?_
        refine g_iload_n m18_5 rfl ?_
        refine g_if_ltT m18_6 (by decide) ?_
        refine g_iconst m18_18 ?_
        refine g_iret m18_19 rfl ?_
        refine gwst (st' := [.int (0)]) rfl ?_
        refine g_istore (L2 := [some (.ref 75), some (.int (0)), some (.int (0)), some (.int (50)), some (.int (0)), some (.int (0))]) m24_48 rfl rfl ?_
        refine g_iload m24_50 rfl ?_
        refine g_if_neT m24_52 (by decide) ?_
        refine g_vret m24_55 ?_
        refine gwst (st' := []) rfl ?_
        refine g_aload_n m25_39 rfl ?_
        refine g_gf m25_40 rfl rfl ?_
        refine g_aload_n m25_43 rfl ?_
        refine g_gf m25_44 rfl rfl ?_
        refine g_ic_geT m25_47 (by decide) ?_
        refine g_aload_n m25_54 rfl ?_
        refine g_gf m25_55 rfl rfl ?_
        refine g_iret m25_58 rfl ?_
        refine gwst (st' := [.int (0)]) rfl ?_
        refine g_istore_n (L2 := [some (.ref 32), some (.int _), some (.int (0)), none]) m68_39 rfl rfl ?_
        refine g_aload_n m68_40 rfl ?_
        refine g_gf m68_41 rfl rfl ?_
        refine g_iconst m68_44 ?_
        refine g_pf (fs2 := [.int (1), .ref 70, .int (0), .ref 71, .int (0)]) m68_45 rfl (Nat.le_of_ble_eq_true rfl) rfl (Nat.le_of_ble_eq_true rfl) trivial rfl rfl rfl ?_
        refine g_iload_n m68_48 rfl ?_
        refine g_if_ltF m68_49 (by decide) ?_
        refine g_bipush m68_52 ?_
        refine g_iload_n m68_54 rfl ?_
        refine g_isub (u := (-10 : Int32)) m68_55 (by decide) ?_
        refine g_iret m68_56 rfl ?_
        refine gwst (st' := [.int (-10)]) rfl ?_
        refine FRg rfl (fun f => ?_)
        refine g_aload_n m190_544 rfl ?_
        refine g_aload_n m190_545 rfl ?_
        refine g_iload_n m190_546 rfl ?_
        refine g_iconst m190_547 ?_
        refine g_iadd (u := (1 : Int32)) m190_548 (by decide) ?_
        refine g_iald (x := s1) m190_549 rfl (vin rfl) rfl ?_
        refine g_cv (args := [.int _]) (rest := [.int (-10)]) m190_550 (Nat.le_of_ble_eq_true rfl) rfl rfl rfl (Nat.le_of_ble_eq_true rfl) ?_
        refine wp_in (L := [some (.ref 89), some (.int _), none, none, none]) (Nat.le_of_ble_eq_true rfl) rfl ?_
        refine g_iload_n m140_0 rfl ?_
        refine g_iconst m140_1 ?_
        refine g_iconst m140_2 ?_
        refine g_cs (args := [.int _, .int (0), .int (1)]) (rest := []) 0 (Or.inl rfl) m140_3 (Nat.le_of_ble_eq_true rfl) rfl rfl (Nat.le_of_ble_eq_true rfl) ?_
        refine wp_in (L := [some (.int _), some (.int (0)), some (.int (1))]) (Nat.le_of_ble_eq_true rfl) rfl ?_
        refine g_iload_n m107_0 rfl ?_
        refine g_iload_n m107_1 rfl ?_
        refine g_ic_ltF m107_2 (fun q => absurd ((lt_k (a := (s1).toInt) (b := 0) (by rfl) (by rfl)).mp q) (by omega)) ?_
        refine g_iload_n m107_5 rfl ?_
        refine g_iload_n m107_6 rfl ?_
        refine g_ic_gtF m107_7 (fun q => absurd ((lt_k (a := 1) (b := (s1).toInt) (by rfl) (by rfl)).mp q) (by omega)) ?_
        refine g_iconst m107_10 ?_
        refine g_goto m107_11 ?_
        refine g_zret m107_15 rfl (Or.inr rfl) ?_
        refine gwst (st' := [.int (1)]) rfl ?_
        refine g_if_neF m140_6 (by decide) ?_
        refine g_aload_n m140_16 rfl ?_
        refine g_aload_n m140_17 rfl ?_
        refine g_gf m140_18 rfl rfl ?_
        refine g_aload_n m140_21 rfl ?_
        refine g_gf m140_22 rfl rfl ?_
        refine g_cv (args := [.ref 90, .ref 93]) (rest := []) m140_25 (Nat.le_of_ble_eq_true rfl) rfl rfl rfl (Nat.le_of_ble_eq_true rfl) ?_
        refine c_moveAll rfl (Nat.le_of_ble_eq_true rfl) rfl (by rfl) (by rfl) (by decide) ?_
        refine gwst (st' := []) rfl ?_
        refine g_iconst m140_28 ?_
        refine g_istore_n (L2 := [some (.ref 89), some (.int _), some (.int (0)), none, none]) m140_29 rfl rfl ?_
        refine g_iload_n m140_30 rfl ?_
        refine g_bipush m140_31 ?_
        refine g_ic_geF m140_33 (by decide) ?_
        refine g_aload_n m140_36 rfl ?_
        refine g_gf m140_37 rfl rfl ?_
        refine g_sipush m140_40 ?_
        refine g_bipush m140_43 ?_
        refine g_iload_n m140_45 rfl ?_
        obtain ⟨j7, e8, x9⟩ := nat_of (x := s1) (lo := 0) (hi := 0) (by omega) (by omega)
        obtain rfl : j7 = 0 := by omega
        have x9q : s1 = (0 : Int32) := x9
        clear x9
        subst x9q
        refine g_imul (u := (0 : Int32)) m140_46 (by decide) ?_
        refine g_iadd (u := (134 : Int32)) m140_47 (by decide) ?_
        refine g_iload_n m140_48 rfl ?_
        refine g_iadd (u := (134 : Int32)) m140_49 (by decide) ?_
        refine g_aload_n m140_50 rfl ?_
        refine g_gf m140_51 rfl rfl ?_
        refine g_bipush m140_54 ?_
        refine g_iload_n m140_56 rfl ?_
        refine g_iadd (u := (64 : Int32)) m140_57 (by decide) ?_
        refine g_iald (x := (0 : Int32)) m140_58 rfl (vin rfl) rfl ?_
        refine g_iast m140_59 (Nat.le_of_ble_eq_true rfl) rfl (vin rfl) rfl rfl (set_idem rfl (by decide +kernel)) ?_
        refine g_iinc (x2 := (1 : Int32)) (L2 := [some (.ref 89), some (.int (0)), some (.int (1)), none, none]) m140_60 rfl (by decide) rfl rfl ?_
        refine g_goto m140_63 ?_
        refine g_iload_n m140_30 rfl ?_
        refine g_bipush m140_31 ?_
        refine g_ic_geF m140_33 (by decide) ?_
        refine g_aload_n m140_36 rfl ?_
        refine g_gf m140_37 rfl rfl ?_
        refine g_sipush m140_40 ?_
        refine g_bipush m140_43 ?_
        refine g_iload_n m140_45 rfl ?_
        refine g_imul (u := (0 : Int32)) m140_46 (by decide) ?_
        refine g_iadd (u := (134 : Int32)) m140_47 (by decide) ?_
        refine g_iload_n m140_48 rfl ?_
        refine g_iadd (u := (135 : Int32)) m140_49 (by decide) ?_
        refine g_aload_n m140_50 rfl ?_
        refine g_gf m140_51 rfl rfl ?_
        refine g_bipush m140_54 ?_
        refine g_iload_n m140_56 rfl ?_
        refine g_iadd (u := (65 : Int32)) m140_57 (by decide) ?_
        refine g_iald (x := (0 : Int32)) m140_58 rfl (vin rfl) rfl ?_
        refine g_iast m140_59 (Nat.le_of_ble_eq_true rfl) rfl (vin rfl) rfl rfl (set_idem rfl (by decide +kernel)) ?_
        refine g_iinc (x2 := (2 : Int32)) (L2 := [some (.ref 89), some (.int (0)), some (.int (2)), none, none]) m140_60 rfl (by decide) rfl rfl ?_
        refine g_goto m140_63 ?_
        refine g_iload_n m140_30 rfl ?_
        refine g_bipush m140_31 ?_
        refine g_ic_geF m140_33 (by decide) ?_
        refine g_aload_n m140_36 rfl ?_
        refine g_gf m140_37 rfl rfl ?_
        refine g_sipush m140_40 ?_
        refine g_bipush m140_43 ?_
        refine g_iload_n m140_45 rfl ?_
        refine g_imul (u := (0 : Int32)) m140_46 (by decide) ?_
        refine g_iadd (u := (134 : Int32)) m140_47 (by decide) ?_
        refine g_iload_n m140_48 rfl ?_
        refine g_iadd (u := (136 : Int32)) m140_49 (by decide) ?_
        refine g_aload_n m140_50 rfl ?_
        refine g_gf m140_51 rfl rfl ?_
        refine g_bipush m140_54 ?_
        refine g_iload_n m140_56 rfl ?_
        refine g_iadd (u := (66 : Int32)) m140_57 (by decide) ?_
        refine g_iald (x := (0 : Int32)) m140_58 rfl (vin rfl) rfl ?_
        refine g_iast m140_59 (Nat.le_of_ble_eq_true rfl) rfl (vin rfl) rfl rfl (set_idem rfl (by decide +kernel)) ?_
        refine g_iinc (x2 := (3 : Int32)) (L2 := [some (.ref 89), some (.int (0)), some (.int (3)), none, none]) m140_60 rfl (by decide) rfl rfl ?_
        refine g_goto m140_63 ?_
        refine g_iload_n m140_30 rfl ?_
        refine g_bipush m140_31 ?_
        refine g_ic_geF m140_33 (by decide) ?_
        refine g_aload_n m140_36 rfl ?_
        refine g_gf m140_37 rfl rfl ?_
        refine g_sipush m140_40 ?_
        refine g_bipush m140_43 ?_
        refine g_iload_n m140_45 rfl ?_
        refine g_imul (u := (0 : Int32)) m140_46 (by decide) ?_
        refine g_iadd (u := (134 : Int32)) m140_47 (by decide) ?_
        refine g_iload_n m140_48 rfl ?_
        refine g_iadd (u := (137 : Int32)) m140_49 (by decide) ?_
        refine g_aload_n m140_50 rfl ?_
        refine g_gf m140_51 rfl rfl ?_
        refine g_bipush m140_54 ?_
        refine g_iload_n m140_56 rfl ?_
        refine g_iadd (u := (67 : Int32)) m140_57 (by decide) ?_
        refine g_iald (x := (0 : Int32)) m140_58 rfl (vin rfl) rfl ?_
        refine g_iast m140_59 (Nat.le_of_ble_eq_true rfl) rfl (vin rfl) rfl rfl (set_idem rfl (by decide +kernel)) ?_
        refine g_iinc (x2 := (4 : Int32)) (L2 := [some (.ref 89), some (.int (0)), some (.int (4)), none, none]) m140_60 rfl (by decide) rfl rfl ?_
        refine g_goto m140_63 ?_
        refine g_iload_n m140_30 rfl ?_
        refine g_bipush m140_31 ?_
        refine g_ic_geF m140_33 (by decide) ?_
        refine g_aload_n m140_36 rfl ?_
        refine g_gf m140_37 rfl rfl ?_
        refine g_sipush m140_40 ?_
        refine g_bipush m140_43 ?_
        refine g_iload_n m140_45 rfl ?_
        refine g_imul (u := (0 : Int32)) m140_46 (by decide) ?_
        refine g_iadd (u := (134 : Int32)) m140_47 (by decide) ?_
        refine g_iload_n m140_48 rfl ?_
        refine g_iadd (u := (138 : Int32)) m140_49 (by decide) ?_
        refine g_aload_n m140_50 rfl ?_
        refine g_gf m140_51 rfl rfl ?_
        refine g_bipush m140_54 ?_
        refine g_iload_n m140_56 rfl ?_
        refine g_iadd (u := (68 : Int32)) m140_57 (by decide) ?_
        refine g_iald (x := (0 : Int32)) m140_58 rfl (vin rfl) rfl ?_
        refine g_iast m140_59 (Nat.le_of_ble_eq_true rfl) rfl (vin rfl) rfl rfl (set_idem rfl (by decide +kernel)) ?_
        refine g_iinc (x2 := (5 : Int32)) (L2 := [some (.ref 89), some (.int (0)), some (.int (5)), none, none]) m140_60 rfl (by decide) rfl rfl ?_
        refine g_goto m140_63 ?_
        refine g_iload_n m140_30 rfl ?_
        refine g_bipush m140_31 ?_
        refine g_ic_geF m140_33 (by decide) ?_
        refine g_aload_n m140_36 rfl ?_
        refine g_gf m140_37 rfl rfl ?_
        refine g_sipush m140_40 ?_
        refine g_bipush m140_43 ?_
        refine g_iload_n m140_45 rfl ?_
        refine g_imul (u := (0 : Int32)) m140_46 (by decide) ?_
        refine g_iadd (u := (134 : Int32)) m140_47 (by decide) ?_
        refine g_iload_n m140_48 rfl ?_
        refine g_iadd (u := (139 : Int32)) m140_49 (by decide) ?_
        refine g_aload_n m140_50 rfl ?_
        refine g_gf m140_51 rfl rfl ?_
        refine g_bipush m140_54 ?_
        refine g_iload_n m140_56 rfl ?_
        refine g_iadd (u := (69 : Int32)) m140_57 (by decide) ?_
        refine g_iald (x := (0 : Int32)) m140_58 rfl (vin rfl) rfl ?_
        refine g_iast m140_59 (Nat.le_of_ble_eq_true rfl) rfl (vin rfl) rfl rfl (set_idem rfl (by decide +kernel)) ?_
        refine g_iinc (x2 := (6 : Int32)) (L2 := [some (.ref 89), some (.int (0)), some (.int (6)), none, none]) m140_60 rfl (by decide) rfl rfl ?_
        refine g_goto m140_63 ?_
        refine g_iload_n m140_30 rfl ?_
        refine g_bipush m140_31 ?_
        refine g_ic_geF m140_33 (by decide) ?_
        refine g_aload_n m140_36 rfl ?_
        refine g_gf m140_37 rfl rfl ?_
        refine g_sipush m140_40 ?_
        refine g_bipush m140_43 ?_
        refine g_iload_n m140_45 rfl ?_
        refine g_imul (u := (0 : Int32)) m140_46 (by decide) ?_
        refine g_iadd (u := (134 : Int32)) m140_47 (by decide) ?_
        refine g_iload_n m140_48 rfl ?_
        refine g_iadd (u := (140 : Int32)) m140_49 (by decide) ?_
        refine g_aload_n m140_50 rfl ?_
        refine g_gf m140_51 rfl rfl ?_
        refine g_bipush m140_54 ?_
        refine g_iload_n m140_56 rfl ?_
        refine g_iadd (u := (70 : Int32)) m140_57 (by decide) ?_
        refine g_iald (x := (0 : Int32)) m140_58 rfl (vin rfl) rfl ?_
        refine g_iast m140_59 (Nat.le_of_ble_eq_true rfl) rfl (vin rfl) rfl rfl (set_idem rfl (by decide +kernel)) ?_
        refine g_iinc (x2 := (7 : Int32)) (L2 := [some (.ref 89), some (.int (0)), some (.int (7)), none, none]) m140_60 rfl (by decide) rfl rfl ?_
        refine g_goto m140_63 ?_
        refine g_iload_n m140_30 rfl ?_
        refine g_bipush m140_31 ?_
        refine g_ic_geF m140_33 (by decide) ?_
        refine g_aload_n m140_36 rfl ?_
        refine g_gf m140_37 rfl rfl ?_
        refine g_sipush m140_40 ?_
        refine g_bipush m140_43 ?_
        refine g_iload_n m140_45 rfl ?_
        refine g_imul (u := (0 : Int32)) m140_46 (by decide) ?_
        refine g_iadd (u := (134 : Int32)) m140_47 (by decide) ?_
        refine g_iload_n m140_48 rfl ?_
        refine g_iadd (u := (141 : Int32)) m140_49 (by decide) ?_
        refine g_aload_n m140_50 rfl ?_
        refine g_gf m140_51 rfl rfl ?_
        refine g_bipush m140_54 ?_
        refine g_iload_n m140_56 rfl ?_
        refine g_iadd (u := (71 : Int32)) m140_57 (by decide) ?_
        refine g_iald (x := (0 : Int32)) m140_58 rfl (vin rfl) rfl ?_
        refine g_iast m140_59 (Nat.le_of_ble_eq_true rfl) rfl (vin rfl) rfl rfl (set_idem rfl (by decide +kernel)) ?_
        refine g_iinc (x2 := (8 : Int32)) (L2 := [some (.ref 89), some (.int (0)), some (.int (8)), none, none]) m140_60 rfl (by decide) rfl rfl ?_
        refine g_goto m140_63 ?_
        refine g_iload_n m140_30 rfl ?_
        refine g_bipush m140_31 ?_
        refine g_ic_geF m140_33 (by decide) ?_
        refine g_aload_n m140_36 rfl ?_
        refine g_gf m140_37 rfl rfl ?_
        refine g_sipush m140_40 ?_
        refine g_bipush m140_43 ?_
        refine g_iload_n m140_45 rfl ?_
        refine g_imul (u := (0 : Int32)) m140_46 (by decide) ?_
        refine g_iadd (u := (134 : Int32)) m140_47 (by decide) ?_
        refine g_iload_n m140_48 rfl ?_
        refine g_iadd (u := (142 : Int32)) m140_49 (by decide) ?_
        refine g_aload_n m140_50 rfl ?_
        refine g_gf m140_51 rfl rfl ?_
        refine g_bipush m140_54 ?_
        refine g_iload_n m140_56 rfl ?_
        refine g_iadd (u := (72 : Int32)) m140_57 (by decide) ?_
        refine g_iald (x := (0 : Int32)) m140_58 rfl (vin rfl) rfl ?_
        refine g_iast m140_59 (Nat.le_of_ble_eq_true rfl) rfl (vin rfl) rfl rfl (set_idem rfl (by decide +kernel)) ?_
        refine g_iinc (x2 := (9 : Int32)) (L2 := [some (.ref 89), some (.int (0)), some (.int (9)), none, none]) m140_60 rfl (by decide) rfl rfl ?_
        refine g_goto m140_63 ?_
        refine g_iload_n m140_30 rfl ?_
        refine g_bipush m140_31 ?_
        refine g_ic_geF m140_33 (by decide) ?_
        refine g_aload_n m140_36 rfl ?_
        refine g_gf m140_37 rfl rfl ?_
        refine g_sipush m140_40 ?_
        refine g_bipush m140_43 ?_
        refine g_iload_n m140_45 rfl ?_
        refine g_imul (u := (0 : Int32)) m140_46 (by decide) ?_
        refine g_iadd (u := (134 : Int32)) m140_47 (by decide) ?_
        refine g_iload_n m140_48 rfl ?_
        refine g_iadd (u := (143 : Int32)) m140_49 (by decide) ?_
        refine g_aload_n m140_50 rfl ?_
        refine g_gf m140_51 rfl rfl ?_
        refine g_bipush m140_54 ?_
        refine g_iload_n m140_56 rfl ?_
        refine g_iadd (u := (73 : Int32)) m140_57 (by decide) ?_
        refine g_iald (x := (0 : Int32)) m140_58 rfl (vin rfl) rfl ?_
        refine g_iast m140_59 (Nat.le_of_ble_eq_true rfl) rfl (vin rfl) rfl rfl (set_idem rfl (by decide +kernel)) ?_
        refine g_iinc (x2 := (10 : Int32)) (L2 := [some (.ref 89), some (.int (0)), some (.int (10)), none, none]) m140_60 rfl (by decide) rfl rfl ?_
        refine g_goto m140_63 ?_
        refine g_iload_n m140_30 rfl ?_
        refine g_bipush m140_31 ?_
        refine g_ic_geF m140_33 (by decide) ?_
        refine g_aload_n m140_36 rfl ?_
        refine g_gf m140_37 rfl rfl ?_
        refine g_sipush m140_40 ?_
        refine g_bipush m140_43 ?_
        refine g_iload_n m140_45 rfl ?_
        refine g_imul (u := (0 : Int32)) m140_46 (by decide) ?_
        refine g_iadd (u := (134 : Int32)) m140_47 (by decide) ?_
        refine g_iload_n m140_48 rfl ?_
        refine g_iadd (u := (144 : Int32)) m140_49 (by decide) ?_
        refine g_aload_n m140_50 rfl ?_
        refine g_gf m140_51 rfl rfl ?_
        refine g_bipush m140_54 ?_
        refine g_iload_n m140_56 rfl ?_
        refine g_iadd (u := (74 : Int32)) m140_57 (by decide) ?_
        refine g_iald (x := (0 : Int32)) m140_58 rfl (vin rfl) rfl ?_
        refine g_iast m140_59 (Nat.le_of_ble_eq_true rfl) rfl (vin rfl) rfl rfl (set_idem rfl (by decide +kernel)) ?_
        refine g_iinc (x2 := (11 : Int32)) (L2 := [some (.ref 89), some (.int (0)), some (.int (11)), none, none]) m140_60 rfl (by decide) rfl rfl ?_
        refine g_goto m140_63 ?_
        refine g_iload_n m140_30 rfl ?_
        refine g_bipush m140_31 ?_
        refine g_ic_geF m140_33 (by decide) ?_
        refine g_aload_n m140_36 rfl ?_
        refine g_gf m140_37 rfl rfl ?_
        refine g_sipush m140_40 ?_
        refine g_bipush m140_43 ?_
        refine g_iload_n m140_45 rfl ?_
        refine g_imul (u := (0 : Int32)) m140_46 (by decide) ?_
        refine g_iadd (u := (134 : Int32)) m140_47 (by decide) ?_
        refine g_iload_n m140_48 rfl ?_
        refine g_iadd (u := (145 : Int32)) m140_49 (by decide) ?_
        refine g_aload_n m140_50 rfl ?_
        refine g_gf m140_51 rfl rfl ?_
        refine g_bipush m140_54 ?_
        refine g_iload_n m140_56 rfl ?_
        refine g_iadd (u := (75 : Int32)) m140_57 (by decide) ?_
        refine g_iald (x := (0 : Int32)) m140_58 rfl (vin rfl) rfl ?_
        refine g_iast m140_59 (Nat.le_of_ble_eq_true rfl) rfl (vin rfl) rfl rfl (set_idem rfl (by decide +kernel)) ?_
        refine g_iinc (x2 := (12 : Int32)) (L2 := [some (.ref 89), some (.int (0)), some (.int (12)), none, none]) m140_60 rfl (by decide) rfl rfl ?_
        refine g_goto m140_63 ?_
        refine g_iload_n m140_30 rfl ?_
        refine g_bipush m140_31 ?_
        refine g_ic_geF m140_33 (by decide) ?_
        refine g_aload_n m140_36 rfl ?_
        refine g_gf m140_37 rfl rfl ?_
        refine g_sipush m140_40 ?_
        refine g_bipush m140_43 ?_
        refine g_iload_n m140_45 rfl ?_
        refine g_imul (u := (0 : Int32)) m140_46 (by decide) ?_
        refine g_iadd (u := (134 : Int32)) m140_47 (by decide) ?_
        refine g_iload_n m140_48 rfl ?_
        refine g_iadd (u := (146 : Int32)) m140_49 (by decide) ?_
        refine g_aload_n m140_50 rfl ?_
        refine g_gf m140_51 rfl rfl ?_
        refine g_bipush m140_54 ?_
        refine g_iload_n m140_56 rfl ?_
        refine g_iadd (u := (76 : Int32)) m140_57 (by decide) ?_
        refine g_iald (x := (0 : Int32)) m140_58 rfl (vin rfl) rfl ?_
        refine g_iast m140_59 (Nat.le_of_ble_eq_true rfl) rfl (vin rfl) rfl rfl (set_idem rfl (by decide +kernel)) ?_
        refine g_iinc (x2 := (13 : Int32)) (L2 := [some (.ref 89), some (.int (0)), some (.int (13)), none, none]) m140_60 rfl (by decide) rfl rfl ?_
        refine g_goto m140_63 ?_
        refine g_iload_n m140_30 rfl ?_
        refine g_bipush m140_31 ?_
        refine g_ic_geF m140_33 (by decide) ?_
        refine g_aload_n m140_36 rfl ?_
        refine g_gf m140_37 rfl rfl ?_
        refine g_sipush m140_40 ?_
        refine g_bipush m140_43 ?_
        refine g_iload_n m140_45 rfl ?_
        refine g_imul (u := (0 : Int32)) m140_46 (by decide) ?_
        refine g_iadd (u := (134 : Int32)) m140_47 (by decide) ?_
        refine g_iload_n m140_48 rfl ?_
        refine g_iadd (u := (147 : Int32)) m140_49 (by decide) ?_
        refine g_aload_n m140_50 rfl ?_
        refine g_gf m140_51 rfl rfl ?_
        refine g_bipush m140_54 ?_
        refine g_iload_n m140_56 rfl ?_
        refine g_iadd (u := (77 : Int32)) m140_57 (by decide) ?_
        refine g_iald (x := (0 : Int32)) m140_58 rfl (vin rfl) rfl ?_
        refine g_iast m140_59 (Nat.le_of_ble_eq_true rfl) rfl (vin rfl) rfl rfl (set_idem rfl (by decide +kernel)) ?_
        refine g_iinc (x2 := (14 : Int32)) (L2 := [some (.ref 89), some (.int (0)), some (.int (14)), none, none]) m140_60 rfl (by decide) rfl rfl ?_
        refine g_goto m140_63 ?_
        refine g_iload_n m140_30 rfl ?_
        refine g_bipush m140_31 ?_
        refine g_ic_geF m140_33 (by decide) ?_
        refine g_aload_n m140_36 rfl ?_
        refine g_gf m140_37 rfl rfl ?_
        refine g_sipush m140_40 ?_
        refine g_bipush m140_43 ?_
        refine g_iload_n m140_45 rfl ?_
        refine g_imul (u := (0 : Int32)) m140_46 (by decide) ?_
        refine g_iadd (u := (134 : Int32)) m140_47 (by decide) ?_
        refine g_iload_n m140_48 rfl ?_
        refine g_iadd (u := (148 : Int32)) m140_49 (by decide) ?_
        refine g_aload_n m140_50 rfl ?_
        refine g_gf m140_51 rfl rfl ?_
        refine g_bipush m140_54 ?_
        refine g_iload_n m140_56 rfl ?_
        refine g_iadd (u := (78 : Int32)) m140_57 (by decide) ?_
        refine g_iald (x := (0 : Int32)) m140_58 rfl (vin rfl) rfl ?_
        refine g_iast m140_59 (Nat.le_of_ble_eq_true rfl) rfl (vin rfl) rfl rfl (set_idem rfl (by decide +kernel)) ?_
        refine g_iinc (x2 := (15 : Int32)) (L2 := [some (.ref 89), some (.int (0)), some (.int (15)), none, none]) m140_60 rfl (by decide) rfl rfl ?_
        refine g_goto m140_63 ?_
        refine g_iload_n m140_30 rfl ?_
        refine g_bipush m140_31 ?_
        refine g_ic_geF m140_33 (by decide) ?_
        refine g_aload_n m140_36 rfl ?_
        refine g_gf m140_37 rfl rfl ?_
        refine g_sipush m140_40 ?_
        refine g_bipush m140_43 ?_
        refine g_iload_n m140_45 rfl ?_
        refine g_imul (u := (0 : Int32)) m140_46 (by decide) ?_
        refine g_iadd (u := (134 : Int32)) m140_47 (by decide) ?_
        refine g_iload_n m140_48 rfl ?_
        refine g_iadd (u := (149 : Int32)) m140_49 (by decide) ?_
        refine g_aload_n m140_50 rfl ?_
        refine g_gf m140_51 rfl rfl ?_
        refine g_bipush m140_54 ?_
        refine g_iload_n m140_56 rfl ?_
        refine g_iadd (u := (79 : Int32)) m140_57 (by decide) ?_
        refine g_iald (x := (0 : Int32)) m140_58 rfl (vin rfl) rfl ?_
        refine g_iast m140_59 (Nat.le_of_ble_eq_true rfl) rfl (vin rfl) rfl rfl (set_idem rfl (by decide +kernel)) ?_
        refine g_iinc (x2 := (16 : Int32)) (L2 := [some (.ref 89), some (.int (0)), some (.int (16)), none, none]) m140_60 rfl (by decide) rfl rfl ?_
        refine g_goto m140_63 ?_
        refine g_iload_n m140_30 rfl ?_
        refine g_bipush m140_31 ?_
        refine g_ic_geF m140_33 (by decide) ?_
        refine g_aload_n m140_36 rfl ?_
        refine g_gf m140_37 rfl rfl ?_
        refine g_sipush m140_40 ?_
        refine g_bipush m140_43 ?_
        refine g_iload_n m140_45 rfl ?_
        refine g_imul (u := (0 : Int32)) m140_46 (by decide) ?_
        refine g_iadd (u := (134 : Int32)) m140_47 (by decide) ?_
        refine g_iload_n m140_48 rfl ?_
        refine g_iadd (u := (150 : Int32)) m140_49 (by decide) ?_
        refine g_aload_n m140_50 rfl ?_
        refine g_gf m140_51 rfl rfl ?_
        refine g_bipush m140_54 ?_
        refine g_iload_n m140_56 rfl ?_
        refine g_iadd (u := (80 : Int32)) m140_57 (by decide) ?_
        refine g_iald (x := (0 : Int32)) m140_58 rfl (vin rfl) rfl ?_
        refine g_iast m140_59 (Nat.le_of_ble_eq_true rfl) rfl (vin rfl) rfl rfl (set_idem rfl (by decide +kernel)) ?_
        refine g_iinc (x2 := (17 : Int32)) (L2 := [some (.ref 89), some (.int (0)), some (.int (17)), none, none]) m140_60 rfl (by decide) rfl rfl ?_
        refine g_goto m140_63 ?_
        refine g_iload_n m140_30 rfl ?_
        refine g_bipush m140_31 ?_
        refine g_ic_geF m140_33 (by decide) ?_
        refine g_aload_n m140_36 rfl ?_
        refine g_gf m140_37 rfl rfl ?_
        refine g_sipush m140_40 ?_
        refine g_bipush m140_43 ?_
        refine g_iload_n m140_45 rfl ?_
        refine g_imul (u := (0 : Int32)) m140_46 (by decide) ?_
        refine g_iadd (u := (134 : Int32)) m140_47 (by decide) ?_
        refine g_iload_n m140_48 rfl ?_
        refine g_iadd (u := (151 : Int32)) m140_49 (by decide) ?_
        refine g_aload_n m140_50 rfl ?_
        refine g_gf m140_51 rfl rfl ?_
        refine g_bipush m140_54 ?_
        refine g_iload_n m140_56 rfl ?_
        refine g_iadd (u := (81 : Int32)) m140_57 (by decide) ?_
        refine g_iald (x := (0 : Int32)) m140_58 rfl (vin rfl) rfl ?_
        refine g_iast m140_59 (Nat.le_of_ble_eq_true rfl) rfl (vin rfl) rfl rfl (set_idem rfl (by decide +kernel)) ?_
        refine g_iinc (x2 := (18 : Int32)) (L2 := [some (.ref 89), some (.int (0)), some (.int (18)), none, none]) m140_60 rfl (by decide) rfl rfl ?_
        refine g_goto m140_63 ?_
        refine g_iload_n m140_30 rfl ?_
        refine g_bipush m140_31 ?_
        refine g_ic_geF m140_33 (by decide) ?_
        refine g_aload_n m140_36 rfl ?_
        refine g_gf m140_37 rfl rfl ?_
        refine g_sipush m140_40 ?_
        refine g_bipush m140_43 ?_
        refine g_iload_n m140_45 rfl ?_
        refine g_imul (u := (0 : Int32)) m140_46 (by decide) ?_
        refine g_iadd (u := (134 : Int32)) m140_47 (by decide) ?_
        refine g_iload_n m140_48 rfl ?_
        refine g_iadd (u := (152 : Int32)) m140_49 (by decide) ?_
        refine g_aload_n m140_50 rfl ?_
        refine g_gf m140_51 rfl rfl ?_
        refine g_bipush m140_54 ?_
        refine g_iload_n m140_56 rfl ?_
        refine g_iadd (u := (82 : Int32)) m140_57 (by decide) ?_
        refine g_iald (x := (0 : Int32)) m140_58 rfl (vin rfl) rfl ?_
        refine g_iast m140_59 (Nat.le_of_ble_eq_true rfl) rfl (vin rfl) rfl rfl (set_idem rfl (by decide +kernel)) ?_
        refine g_iinc (x2 := (19 : Int32)) (L2 := [some (.ref 89), some (.int (0)), some (.int (19)), none, none]) m140_60 rfl (by decide) rfl rfl ?_
        refine g_goto m140_63 ?_
        refine g_iload_n m140_30 rfl ?_
        refine g_bipush m140_31 ?_
        refine g_ic_geF m140_33 (by decide) ?_
        refine g_aload_n m140_36 rfl ?_
        refine g_gf m140_37 rfl rfl ?_
        refine g_sipush m140_40 ?_
        refine g_bipush m140_43 ?_
        refine g_iload_n m140_45 rfl ?_
        refine g_imul (u := (0 : Int32)) m140_46 (by decide) ?_
        refine g_iadd (u := (134 : Int32)) m140_47 (by decide) ?_
        refine g_iload_n m140_48 rfl ?_
        refine g_iadd (u := (153 : Int32)) m140_49 (by decide) ?_
        refine g_aload_n m140_50 rfl ?_
        refine g_gf m140_51 rfl rfl ?_
        refine g_bipush m140_54 ?_
        refine g_iload_n m140_56 rfl ?_
        refine g_iadd (u := (83 : Int32)) m140_57 (by decide) ?_
        refine g_iald (x := (0 : Int32)) m140_58 rfl (vin rfl) rfl ?_
        refine g_iast m140_59 (Nat.le_of_ble_eq_true rfl) rfl (vin rfl) rfl rfl (set_idem rfl (by decide +kernel)) ?_
        refine g_iinc (x2 := (20 : Int32)) (L2 := [some (.ref 89), some (.int (0)), some (.int (20)), none, none]) m140_60 rfl (by decide) rfl rfl ?_
        refine g_goto m140_63 ?_
        refine g_iload_n m140_30 rfl ?_
        refine g_bipush m140_31 ?_
        refine g_ic_geF m140_33 (by decide) ?_
        refine g_aload_n m140_36 rfl ?_
        refine g_gf m140_37 rfl rfl ?_
        refine g_sipush m140_40 ?_
        refine g_bipush m140_43 ?_
        refine g_iload_n m140_45 rfl ?_
        refine g_imul (u := (0 : Int32)) m140_46 (by decide) ?_
        refine g_iadd (u := (134 : Int32)) m140_47 (by decide) ?_
        refine g_iload_n m140_48 rfl ?_
        refine g_iadd (u := (154 : Int32)) m140_49 (by decide) ?_
        refine g_aload_n m140_50 rfl ?_
        refine g_gf m140_51 rfl rfl ?_
        refine g_bipush m140_54 ?_
        refine g_iload_n m140_56 rfl ?_
        refine g_iadd (u := (84 : Int32)) m140_57 (by decide) ?_
        refine g_iald (x := (0 : Int32)) m140_58 rfl (vin rfl) rfl ?_
        refine g_iast m140_59 (Nat.le_of_ble_eq_true rfl) rfl (vin rfl) rfl rfl (set_idem rfl (by decide +kernel)) ?_
        refine g_iinc (x2 := (21 : Int32)) (L2 := [some (.ref 89), some (.int (0)), some (.int (21)), none, none]) m140_60 rfl (by decide) rfl rfl ?_
        refine g_goto m140_63 ?_
        refine g_iload_n m140_30 rfl ?_
        refine g_bipush m140_31 ?_
        refine g_ic_geF m140_33 (by decide) ?_
        refine g_aload_n m140_36 rfl ?_
        refine g_gf m140_37 rfl rfl ?_
        refine g_sipush m140_40 ?_
        refine g_bipush m140_43 ?_
        refine g_iload_n m140_45 rfl ?_
        refine g_imul (u := (0 : Int32)) m140_46 (by decide) ?_
        refine g_iadd (u := (134 : Int32)) m140_47 (by decide) ?_
        refine g_iload_n m140_48 rfl ?_
        refine g_iadd (u := (155 : Int32)) m140_49 (by decide) ?_
        refine g_aload_n m140_50 rfl ?_
        refine g_gf m140_51 rfl rfl ?_
        refine g_bipush m140_54 ?_
        refine g_iload_n m140_56 rfl ?_
        refine g_iadd (u := (85 : Int32)) m140_57 (by decide) ?_
        refine g_iald (x := (0 : Int32)) m140_58 rfl (vin rfl) rfl ?_
        refine g_iast m140_59 (Nat.le_of_ble_eq_true rfl) rfl (vin rfl) rfl rfl (set_idem rfl (by decide +kernel)) ?_
        refine g_iinc (x2 := (22 : Int32)) (L2 := [some (.ref 89), some (.int (0)), some (.int (22)), none, none]) m140_60 rfl (by decide) rfl rfl ?_
        refine g_goto m140_63 ?_
        refine g_iload_n m140_30 rfl ?_
        refine g_bipush m140_31 ?_
        refine g_ic_geF m140_33 (by decide) ?_
        refine g_aload_n m140_36 rfl ?_
        refine g_gf m140_37 rfl rfl ?_
        refine g_sipush m140_40 ?_
        refine g_bipush m140_43 ?_
        refine g_iload_n m140_45 rfl ?_
        refine g_imul (u := (0 : Int32)) m140_46 (by decide) ?_
        refine g_iadd (u := (134 : Int32)) m140_47 (by decide) ?_
        refine g_iload_n m140_48 rfl ?_
        refine g_iadd (u := (156 : Int32)) m140_49 (by decide) ?_
        refine g_aload_n m140_50 rfl ?_
        refine g_gf m140_51 rfl rfl ?_
        refine g_bipush m140_54 ?_
        refine g_iload_n m140_56 rfl ?_
        refine g_iadd (u := (86 : Int32)) m140_57 (by decide) ?_
        refine g_iald (x := (0 : Int32)) m140_58 rfl (vin rfl) rfl ?_
        refine g_iast m140_59 (Nat.le_of_ble_eq_true rfl) rfl (vin rfl) rfl rfl (set_idem rfl (by decide +kernel)) ?_
        refine g_iinc (x2 := (23 : Int32)) (L2 := [some (.ref 89), some (.int (0)), some (.int (23)), none, none]) m140_60 rfl (by decide) rfl rfl ?_
        refine g_goto m140_63 ?_
        refine g_iload_n m140_30 rfl ?_
        refine g_bipush m140_31 ?_
        refine g_ic_geF m140_33 (by decide) ?_
        refine g_aload_n m140_36 rfl ?_
        refine g_gf m140_37 rfl rfl ?_
        refine g_sipush m140_40 ?_
        refine g_bipush m140_43 ?_
        refine g_iload_n m140_45 rfl ?_
        refine g_imul (u := (0 : Int32)) m140_46 (by decide) ?_
        refine g_iadd (u := (134 : Int32)) m140_47 (by decide) ?_
        refine g_iload_n m140_48 rfl ?_
        refine g_iadd (u := (157 : Int32)) m140_49 (by decide) ?_
        refine g_aload_n m140_50 rfl ?_
        refine g_gf m140_51 rfl rfl ?_
        refine g_bipush m140_54 ?_
        refine g_iload_n m140_56 rfl ?_
        refine g_iadd (u := (87 : Int32)) m140_57 (by decide) ?_
        refine g_iald (x := (0 : Int32)) m140_58 rfl (vin rfl) rfl ?_
        refine g_iast m140_59 (Nat.le_of_ble_eq_true rfl) rfl (vin rfl) rfl rfl (set_idem rfl (by decide +kernel)) ?_
        refine g_iinc (x2 := (24 : Int32)) (L2 := [some (.ref 89), some (.int (0)), some (.int (24)), none, none]) m140_60 rfl (by decide) rfl rfl ?_
        refine g_goto m140_63 ?_
        refine g_iload_n m140_30 rfl ?_
        refine g_bipush m140_31 ?_
        refine g_ic_geF m140_33 (by decide) ?_
        refine g_aload_n m140_36 rfl ?_
        refine g_gf m140_37 rfl rfl ?_
        refine g_sipush m140_40 ?_
        refine g_bipush m140_43 ?_
        refine g_iload_n m140_45 rfl ?_
        refine g_imul (u := (0 : Int32)) m140_46 (by decide) ?_
        refine g_iadd (u := (134 : Int32)) m140_47 (by decide) ?_
        refine g_iload_n m140_48 rfl ?_
        refine g_iadd (u := (158 : Int32)) m140_49 (by decide) ?_
        refine g_aload_n m140_50 rfl ?_
        refine g_gf m140_51 rfl rfl ?_
        refine g_bipush m140_54 ?_
        refine g_iload_n m140_56 rfl ?_
        refine g_iadd (u := (88 : Int32)) m140_57 (by decide) ?_
        refine g_iald (x := (0 : Int32)) m140_58 rfl (vin rfl) rfl ?_
        refine g_iast m140_59 (Nat.le_of_ble_eq_true rfl) rfl (vin rfl) rfl rfl (set_idem rfl (by decide +kernel)) ?_
        refine g_iinc (x2 := (25 : Int32)) (L2 := [some (.ref 89), some (.int (0)), some (.int (25)), none, none]) m140_60 rfl (by decide) rfl rfl ?_
        refine g_goto m140_63 ?_
        refine g_iload_n m140_30 rfl ?_
        refine g_bipush m140_31 ?_
        refine g_ic_geF m140_33 (by decide) ?_
        refine g_aload_n m140_36 rfl ?_
        refine g_gf m140_37 rfl rfl ?_
        refine g_sipush m140_40 ?_
        refine g_bipush m140_43 ?_
        refine g_iload_n m140_45 rfl ?_
        refine g_imul (u := (0 : Int32)) m140_46 (by decide) ?_
        refine g_iadd (u := (134 : Int32)) m140_47 (by decide) ?_
        refine g_iload_n m140_48 rfl ?_
        refine g_iadd (u := (159 : Int32)) m140_49 (by decide) ?_
        refine g_aload_n m140_50 rfl ?_
        refine g_gf m140_51 rfl rfl ?_
        refine g_bipush m140_54 ?_
        refine g_iload_n m140_56 rfl ?_
        refine g_iadd (u := (89 : Int32)) m140_57 (by decide) ?_
        refine g_iald (x := (0 : Int32)) m140_58 rfl (vin rfl) rfl ?_
        refine g_iast m140_59 (Nat.le_of_ble_eq_true rfl) rfl (vin rfl) rfl rfl (set_idem rfl (by decide +kernel)) ?_
        refine g_iinc (x2 := (26 : Int32)) (L2 := [some (.ref 89), some (.int (0)), some (.int (26)), none, none]) m140_60 rfl (by decide) rfl rfl ?_
        refine g_goto m140_63 ?_
        refine g_iload_n m140_30 rfl ?_
        refine g_bipush m140_31 ?_
        refine g_ic_geF m140_33 (by decide) ?_
        refine g_aload_n m140_36 rfl ?_
        refine g_gf m140_37 rfl rfl ?_
        refine g_sipush m140_40 ?_
        refine g_bipush m140_43 ?_
        refine g_iload_n m140_45 rfl ?_
        refine g_imul (u := (0 : Int32)) m140_46 (by decide) ?_
        refine g_iadd (u := (134 : Int32)) m140_47 (by decide) ?_
        refine g_iload_n m140_48 rfl ?_
        refine g_iadd (u := (160 : Int32)) m140_49 (by decide) ?_
        refine g_aload_n m140_50 rfl ?_
        refine g_gf m140_51 rfl rfl ?_
        refine g_bipush m140_54 ?_
        refine g_iload_n m140_56 rfl ?_
        refine g_iadd (u := (90 : Int32)) m140_57 (by decide) ?_
        refine g_iald (x := (0 : Int32)) m140_58 rfl (vin rfl) rfl ?_
        refine g_iast m140_59 (Nat.le_of_ble_eq_true rfl) rfl (vin rfl) rfl rfl (set_idem rfl (by decide +kernel)) ?_
        refine g_iinc (x2 := (27 : Int32)) (L2 := [some (.ref 89), some (.int (0)), some (.int (27)), none, none]) m140_60 rfl (by decide) rfl rfl ?_
        refine g_goto m140_63 ?_
        refine g_iload_n m140_30 rfl ?_
        refine g_bipush m140_31 ?_
        refine g_ic_geF m140_33 (by decide) ?_
        refine g_aload_n m140_36 rfl ?_
        refine g_gf m140_37 rfl rfl ?_
        refine g_sipush m140_40 ?_
        refine g_bipush m140_43 ?_
        refine g_iload_n m140_45 rfl ?_
        refine g_imul (u := (0 : Int32)) m140_46 (by decide) ?_
        refine g_iadd (u := (134 : Int32)) m140_47 (by decide) ?_
        refine g_iload_n m140_48 rfl ?_
        refine g_iadd (u := (161 : Int32)) m140_49 (by decide) ?_
        refine g_aload_n m140_50 rfl ?_
        refine g_gf m140_51 rfl rfl ?_
        refine g_bipush m140_54 ?_
        refine g_iload_n m140_56 rfl ?_
        refine g_iadd (u := (91 : Int32)) m140_57 (by decide) ?_
        refine g_iald (x := (0 : Int32)) m140_58 rfl (vin rfl) rfl ?_
        refine g_iast m140_59 (Nat.le_of_ble_eq_true rfl) rfl (vin rfl) rfl rfl (set_idem rfl (by decide +kernel)) ?_
        refine g_iinc (x2 := (28 : Int32)) (L2 := [some (.ref 89), some (.int (0)), some (.int (28)), none, none]) m140_60 rfl (by decide) rfl rfl ?_
        refine g_goto m140_63 ?_
        refine g_iload_n m140_30 rfl ?_
        refine g_bipush m140_31 ?_
        refine g_ic_geF m140_33 (by decide) ?_
        refine g_aload_n m140_36 rfl ?_
        refine g_gf m140_37 rfl rfl ?_
        refine g_sipush m140_40 ?_
        refine g_bipush m140_43 ?_
        refine g_iload_n m140_45 rfl ?_
        refine g_imul (u := (0 : Int32)) m140_46 (by decide) ?_
        refine g_iadd (u := (134 : Int32)) m140_47 (by decide) ?_
        refine g_iload_n m140_48 rfl ?_
        refine g_iadd (u := (162 : Int32)) m140_49 (by decide) ?_
        refine g_aload_n m140_50 rfl ?_
        refine g_gf m140_51 rfl rfl ?_
        refine g_bipush m140_54 ?_
        refine g_iload_n m140_56 rfl ?_
        refine g_iadd (u := (92 : Int32)) m140_57 (by decide) ?_
        refine g_iald (x := (0 : Int32)) m140_58 rfl (vin rfl) rfl ?_
        refine g_iast m140_59 (Nat.le_of_ble_eq_true rfl) rfl (vin rfl) rfl rfl (set_idem rfl (by decide +kernel)) ?_
        refine g_iinc (x2 := (29 : Int32)) (L2 := [some (.ref 89), some (.int (0)), some (.int (29)), none, none]) m140_60 rfl (by decide) rfl rfl ?_
        refine g_goto m140_63 ?_
        refine g_iload_n m140_30 rfl ?_
        refine g_bipush m140_31 ?_
        refine g_ic_geF m140_33 (by decide) ?_
        refine g_aload_n m140_36 rfl ?_
        refine g_gf m140_37 rfl rfl ?_
        refine g_sipush m140_40 ?_
        refine g_bipush m140_43 ?_
        refine g_iload_n m140_45 rfl ?_
        refine g_imul (u := (0 : Int32)) m140_46 (by decide) ?_
        refine g_iadd (u := (134 : Int32)) m140_47 (by decide) ?_
        refine g_iload_n m140_48 rfl ?_
        refine g_iadd (u := (163 : Int32)) m140_49 (by decide) ?_
        refine g_aload_n m140_50 rfl ?_
        refine g_gf m140_51 rfl rfl ?_
        refine g_bipush m140_54 ?_
        refine g_iload_n m140_56 rfl ?_
        refine g_iadd (u := (93 : Int32)) m140_57 (by decide) ?_
        refine g_iald (x := (0 : Int32)) m140_58 rfl (vin rfl) rfl ?_
        refine g_iast m140_59 (Nat.le_of_ble_eq_true rfl) rfl (vin rfl) rfl rfl (set_idem rfl (by decide +kernel)) ?_
        refine g_iinc (x2 := (30 : Int32)) (L2 := [some (.ref 89), some (.int (0)), some (.int (30)), none, none]) m140_60 rfl (by decide) rfl rfl ?_
        refine g_goto m140_63 ?_
        refine g_iload_n m140_30 rfl ?_
        refine g_bipush m140_31 ?_
        refine g_ic_geF m140_33 (by decide) ?_
        refine g_aload_n m140_36 rfl ?_
        refine g_gf m140_37 rfl rfl ?_
        refine g_sipush m140_40 ?_
        refine g_bipush m140_43 ?_
        refine g_iload_n m140_45 rfl ?_
        refine g_imul (u := (0 : Int32)) m140_46 (by decide) ?_
        refine g_iadd (u := (134 : Int32)) m140_47 (by decide) ?_
        refine g_iload_n m140_48 rfl ?_
        refine g_iadd (u := (164 : Int32)) m140_49 (by decide) ?_
        refine g_aload_n m140_50 rfl ?_
        refine g_gf m140_51 rfl rfl ?_
        refine g_bipush m140_54 ?_
        refine g_iload_n m140_56 rfl ?_
        refine g_iadd (u := (94 : Int32)) m140_57 (by decide) ?_
        refine g_iald (x := (0 : Int32)) m140_58 rfl (vin rfl) rfl ?_
        refine g_iast m140_59 (Nat.le_of_ble_eq_true rfl) rfl (vin rfl) rfl rfl (set_idem rfl (by decide +kernel)) ?_
        refine g_iinc (x2 := (31 : Int32)) (L2 := [some (.ref 89), some (.int (0)), some (.int (31)), none, none]) m140_60 rfl (by decide) rfl rfl ?_
        refine g_goto m140_63 ?_
        refine g_iload_n m140_30 rfl ?_
        refine g_bipush m140_31 ?_
        refine g_ic_geF m140_33 (by decide) ?_
        refine g_aload_n m140_36 rfl ?_
        refine g_gf m140_37 rfl rfl ?_
        refine g_sipush m140_40 ?_
        refine g_bipush m140_43 ?_
        refine g_iload_n m140_45 rfl ?_
        refine g_imul (u := (0 : Int32)) m140_46 (by decide) ?_
        refine g_iadd (u := (134 : Int32)) m140_47 (by decide) ?_
        refine g_iload_n m140_48 rfl ?_
        refine g_iadd (u := (165 : Int32)) m140_49 (by decide) ?_
        refine g_aload_n m140_50 rfl ?_
        refine g_gf m140_51 rfl rfl ?_
        refine g_bipush m140_54 ?_
        refine g_iload_n m140_56 rfl ?_
        refine g_iadd (u := (95 : Int32)) m140_57 (by decide) ?_
        refine g_iald (x := (0 : Int32)) m140_58 rfl (vin rfl) rfl ?_
        refine g_iast m140_59 (Nat.le_of_ble_eq_true rfl) rfl (vin rfl) rfl rfl (set_idem rfl (by decide +kernel)) ?_
        refine g_iinc (x2 := (32 : Int32)) (L2 := [some (.ref 89), some (.int (0)), some (.int (32)), none, none]) m140_60 rfl (by decide) rfl rfl ?_
        refine g_goto m140_63 ?_
        refine g_iload_n m140_30 rfl ?_
        refine g_bipush m140_31 ?_
        refine g_ic_geF m140_33 (by decide) ?_
        refine g_aload_n m140_36 rfl ?_
        refine g_gf m140_37 rfl rfl ?_
        refine g_sipush m140_40 ?_
        refine g_bipush m140_43 ?_
        refine g_iload_n m140_45 rfl ?_
        refine g_imul (u := (0 : Int32)) m140_46 (by decide) ?_
        refine g_iadd (u := (134 : Int32)) m140_47 (by decide) ?_
        refine g_iload_n m140_48 rfl ?_
        refine g_iadd (u := (166 : Int32)) m140_49 (by decide) ?_
        refine g_aload_n m140_50 rfl ?_
        refine g_gf m140_51 rfl rfl ?_
        refine g_bipush m140_54 ?_
        refine g_iload_n m140_56 rfl ?_
        refine g_iadd (u := (96 : Int32)) m140_57 (by decide) ?_
        refine g_iald (x := (0 : Int32)) m140_58 rfl (vin rfl) rfl ?_
        refine g_iast m140_59 (Nat.le_of_ble_eq_true rfl) rfl (vin rfl) rfl rfl (set_idem rfl (by decide +kernel)) ?_
        refine g_iinc (x2 := (33 : Int32)) (L2 := [some (.ref 89), some (.int (0)), some (.int (33)), none, none]) m140_60 rfl (by decide) rfl rfl ?_
        refine g_goto m140_63 ?_
        refine g_iload_n m140_30 rfl ?_
        refine g_bipush m140_31 ?_
        refine g_ic_geF m140_33 (by decide) ?_
        refine g_aload_n m140_36 rfl ?_
        refine g_gf m140_37 rfl rfl ?_
        refine g_sipush m140_40 ?_
        refine g_bipush m140_43 ?_
        refine g_iload_n m140_45 rfl ?_
        refine g_imul (u := (0 : Int32)) m140_46 (by decide) ?_
        refine g_iadd (u := (134 : Int32)) m140_47 (by decide) ?_
        refine g_iload_n m140_48 rfl ?_
        refine g_iadd (u := (167 : Int32)) m140_49 (by decide) ?_
        refine g_aload_n m140_50 rfl ?_
        refine g_gf m140_51 rfl rfl ?_
        refine g_bipush m140_54 ?_
        refine g_iload_n m140_56 rfl ?_
        refine g_iadd (u := (97 : Int32)) m140_57 (by decide) ?_
        refine g_iald (x := (0 : Int32)) m140_58 rfl (vin rfl) rfl ?_
        refine g_iast m140_59 (Nat.le_of_ble_eq_true rfl) rfl (vin rfl) rfl rfl (set_idem rfl (by decide +kernel)) ?_
        refine g_iinc (x2 := (34 : Int32)) (L2 := [some (.ref 89), some (.int (0)), some (.int (34)), none, none]) m140_60 rfl (by decide) rfl rfl ?_
        refine g_goto m140_63 ?_
        refine g_iload_n m140_30 rfl ?_
        refine g_bipush m140_31 ?_
        refine g_ic_geF m140_33 (by decide) ?_
        refine g_aload_n m140_36 rfl ?_
        refine g_gf m140_37 rfl rfl ?_
        refine g_sipush m140_40 ?_
        refine g_bipush m140_43 ?_
        refine g_iload_n m140_45 rfl ?_
        refine g_imul (u := (0 : Int32)) m140_46 (by decide) ?_
        refine g_iadd (u := (134 : Int32)) m140_47 (by decide) ?_
        refine g_iload_n m140_48 rfl ?_
        refine g_iadd (u := (168 : Int32)) m140_49 (by decide) ?_
        refine g_aload_n m140_50 rfl ?_
        refine g_gf m140_51 rfl rfl ?_
        refine g_bipush m140_54 ?_
        refine g_iload_n m140_56 rfl ?_
        refine g_iadd (u := (98 : Int32)) m140_57 (by decide) ?_
        refine g_iald (x := (0 : Int32)) m140_58 rfl (vin rfl) rfl ?_
        refine g_iast m140_59 (Nat.le_of_ble_eq_true rfl) rfl (vin rfl) rfl rfl (set_idem rfl (by decide +kernel)) ?_
        refine g_iinc (x2 := (35 : Int32)) (L2 := [some (.ref 89), some (.int (0)), some (.int (35)), none, none]) m140_60 rfl (by decide) rfl rfl ?_
        refine g_goto m140_63 ?_
        refine g_iload_n m140_30 rfl ?_
        refine g_bipush m140_31 ?_
        refine g_ic_geF m140_33 (by decide) ?_
        refine g_aload_n m140_36 rfl ?_
        refine g_gf m140_37 rfl rfl ?_
        refine g_sipush m140_40 ?_
        refine g_bipush m140_43 ?_
        refine g_iload_n m140_45 rfl ?_
        refine g_imul (u := (0 : Int32)) m140_46 (by decide) ?_
        refine g_iadd (u := (134 : Int32)) m140_47 (by decide) ?_
        refine g_iload_n m140_48 rfl ?_
        refine g_iadd (u := (169 : Int32)) m140_49 (by decide) ?_
        refine g_aload_n m140_50 rfl ?_
        refine g_gf m140_51 rfl rfl ?_
        refine g_bipush m140_54 ?_
        refine g_iload_n m140_56 rfl ?_
        refine g_iadd (u := (99 : Int32)) m140_57 (by decide) ?_
        refine g_iald (x := (0 : Int32)) m140_58 rfl (vin rfl) rfl ?_
        refine g_iast m140_59 (Nat.le_of_ble_eq_true rfl) rfl (vin rfl) rfl rfl (set_idem rfl (by decide +kernel)) ?_
        refine g_iinc (x2 := (36 : Int32)) (L2 := [some (.ref 89), some (.int (0)), some (.int (36)), none, none]) m140_60 rfl (by decide) rfl rfl ?_
        refine g_goto m140_63 ?_
        refine g_iload_n m140_30 rfl ?_
        refine g_bipush m140_31 ?_
        refine g_ic_geF m140_33 (by decide) ?_
        refine g_aload_n m140_36 rfl ?_
        refine g_gf m140_37 rfl rfl ?_
        refine g_sipush m140_40 ?_
        refine g_bipush m140_43 ?_
        refine g_iload_n m140_45 rfl ?_
        refine g_imul (u := (0 : Int32)) m140_46 (by decide) ?_
        refine g_iadd (u := (134 : Int32)) m140_47 (by decide) ?_
        refine g_iload_n m140_48 rfl ?_
        refine g_iadd (u := (170 : Int32)) m140_49 (by decide) ?_
        refine g_aload_n m140_50 rfl ?_
        refine g_gf m140_51 rfl rfl ?_
        refine g_bipush m140_54 ?_
        refine g_iload_n m140_56 rfl ?_
        refine g_iadd (u := (100 : Int32)) m140_57 (by decide) ?_
        refine g_iald (x := (0 : Int32)) m140_58 rfl (vin rfl) rfl ?_
        refine g_iast m140_59 (Nat.le_of_ble_eq_true rfl) rfl (vin rfl) rfl rfl (set_idem rfl (by decide +kernel)) ?_
        refine g_iinc (x2 := (37 : Int32)) (L2 := [some (.ref 89), some (.int (0)), some (.int (37)), none, none]) m140_60 rfl (by decide) rfl rfl ?_
        refine g_goto m140_63 ?_
        refine g_iload_n m140_30 rfl ?_
        refine g_bipush m140_31 ?_
        refine g_ic_geF m140_33 (by decide) ?_
        refine g_aload_n m140_36 rfl ?_
        refine g_gf m140_37 rfl rfl ?_
        refine g_sipush m140_40 ?_
        refine g_bipush m140_43 ?_
        refine g_iload_n m140_45 rfl ?_
        refine g_imul (u := (0 : Int32)) m140_46 (by decide) ?_
        refine g_iadd (u := (134 : Int32)) m140_47 (by decide) ?_
        refine g_iload_n m140_48 rfl ?_
        refine g_iadd (u := (171 : Int32)) m140_49 (by decide) ?_
        refine g_aload_n m140_50 rfl ?_
        refine g_gf m140_51 rfl rfl ?_
        refine g_bipush m140_54 ?_
        refine g_iload_n m140_56 rfl ?_
        refine g_iadd (u := (101 : Int32)) m140_57 (by decide) ?_
        refine g_iald (x := (0 : Int32)) m140_58 rfl (vin rfl) rfl ?_
        refine g_iast m140_59 (Nat.le_of_ble_eq_true rfl) rfl (vin rfl) rfl rfl (set_idem rfl (by decide +kernel)) ?_
        refine g_iinc (x2 := (38 : Int32)) (L2 := [some (.ref 89), some (.int (0)), some (.int (38)), none, none]) m140_60 rfl (by decide) rfl rfl ?_
        refine g_goto m140_63 ?_
        refine g_iload_n m140_30 rfl ?_
        refine g_bipush m140_31 ?_
        refine g_ic_geF m140_33 (by decide) ?_
        refine g_aload_n m140_36 rfl ?_
        refine g_gf m140_37 rfl rfl ?_
        refine g_sipush m140_40 ?_
        refine g_bipush m140_43 ?_
        refine g_iload_n m140_45 rfl ?_
        refine g_imul (u := (0 : Int32)) m140_46 (by decide) ?_
        refine g_iadd (u := (134 : Int32)) m140_47 (by decide) ?_
        refine g_iload_n m140_48 rfl ?_
        refine g_iadd (u := (172 : Int32)) m140_49 (by decide) ?_
        refine g_aload_n m140_50 rfl ?_
        refine g_gf m140_51 rfl rfl ?_
        refine g_bipush m140_54 ?_
        refine g_iload_n m140_56 rfl ?_
        refine g_iadd (u := (102 : Int32)) m140_57 (by decide) ?_
        refine g_iald (x := (0 : Int32)) m140_58 rfl (vin rfl) rfl ?_
        refine g_iast m140_59 (Nat.le_of_ble_eq_true rfl) rfl (vin rfl) rfl rfl (set_idem rfl (by decide +kernel)) ?_
        refine g_iinc (x2 := (39 : Int32)) (L2 := [some (.ref 89), some (.int (0)), some (.int (39)), none, none]) m140_60 rfl (by decide) rfl rfl ?_
        refine g_goto m140_63 ?_
        refine g_iload_n m140_30 rfl ?_
        refine g_bipush m140_31 ?_
        refine g_ic_geF m140_33 (by decide) ?_
        refine g_aload_n m140_36 rfl ?_
        refine g_gf m140_37 rfl rfl ?_
        refine g_sipush m140_40 ?_
        refine g_bipush m140_43 ?_
        refine g_iload_n m140_45 rfl ?_
        refine g_imul (u := (0 : Int32)) m140_46 (by decide) ?_
        refine g_iadd (u := (134 : Int32)) m140_47 (by decide) ?_
        refine g_iload_n m140_48 rfl ?_
        refine g_iadd (u := (173 : Int32)) m140_49 (by decide) ?_
        refine g_aload_n m140_50 rfl ?_
        refine g_gf m140_51 rfl rfl ?_
        refine g_bipush m140_54 ?_
        refine g_iload_n m140_56 rfl ?_
        refine g_iadd (u := (103 : Int32)) m140_57 (by decide) ?_
        refine g_iald (x := (0 : Int32)) m140_58 rfl (vin rfl) rfl ?_
        refine g_iast m140_59 (Nat.le_of_ble_eq_true rfl) rfl (vin rfl) rfl rfl (set_idem rfl (by decide +kernel)) ?_
        refine g_iinc (x2 := (40 : Int32)) (L2 := [some (.ref 89), some (.int (0)), some (.int (40)), none, none]) m140_60 rfl (by decide) rfl rfl ?_
        refine g_goto m140_63 ?_
        refine g_iload_n m140_30 rfl ?_
        refine g_bipush m140_31 ?_
        refine g_ic_geF m140_33 (by decide) ?_
        refine g_aload_n m140_36 rfl ?_
        refine g_gf m140_37 rfl rfl ?_
        refine g_sipush m140_40 ?_
        refine g_bipush m140_43 ?_
        refine g_iload_n m140_45 rfl ?_
        refine g_imul (u := (0 : Int32)) m140_46 (by decide) ?_
        refine g_iadd (u := (134 : Int32)) m140_47 (by decide) ?_
        refine g_iload_n m140_48 rfl ?_
        refine g_iadd (u := (174 : Int32)) m140_49 (by decide) ?_
        refine g_aload_n m140_50 rfl ?_
        refine g_gf m140_51 rfl rfl ?_
        refine g_bipush m140_54 ?_
        refine g_iload_n m140_56 rfl ?_
        refine g_iadd (u := (104 : Int32)) m140_57 (by decide) ?_
        refine g_iald (x := (0 : Int32)) m140_58 rfl (vin rfl) rfl ?_
        refine g_iast m140_59 (Nat.le_of_ble_eq_true rfl) rfl (vin rfl) rfl rfl (set_idem rfl (by decide +kernel)) ?_
        refine g_iinc (x2 := (41 : Int32)) (L2 := [some (.ref 89), some (.int (0)), some (.int (41)), none, none]) m140_60 rfl (by decide) rfl rfl ?_
        refine g_goto m140_63 ?_
        refine g_iload_n m140_30 rfl ?_
        refine g_bipush m140_31 ?_
        refine g_ic_geF m140_33 (by decide) ?_
        refine g_aload_n m140_36 rfl ?_
        refine g_gf m140_37 rfl rfl ?_
        refine g_sipush m140_40 ?_
        refine g_bipush m140_43 ?_
        refine g_iload_n m140_45 rfl ?_
        refine g_imul (u := (0 : Int32)) m140_46 (by decide) ?_
        refine g_iadd (u := (134 : Int32)) m140_47 (by decide) ?_
        refine g_iload_n m140_48 rfl ?_
        refine g_iadd (u := (175 : Int32)) m140_49 (by decide) ?_
        refine g_aload_n m140_50 rfl ?_
        refine g_gf m140_51 rfl rfl ?_
        refine g_bipush m140_54 ?_
        refine g_iload_n m140_56 rfl ?_
        refine g_iadd (u := (105 : Int32)) m140_57 (by decide) ?_
        refine g_iald (x := (0 : Int32)) m140_58 rfl (vin rfl) rfl ?_
        refine g_iast m140_59 (Nat.le_of_ble_eq_true rfl) rfl (vin rfl) rfl rfl (set_idem rfl (by decide +kernel)) ?_
        refine g_iinc (x2 := (42 : Int32)) (L2 := [some (.ref 89), some (.int (0)), some (.int (42)), none, none]) m140_60 rfl (by decide) rfl rfl ?_
        refine g_goto m140_63 ?_
        refine g_iload_n m140_30 rfl ?_
        refine g_bipush m140_31 ?_
        refine g_ic_geF m140_33 (by decide) ?_
        refine g_aload_n m140_36 rfl ?_
        refine g_gf m140_37 rfl rfl ?_
        refine g_sipush m140_40 ?_
        refine g_bipush m140_43 ?_
        refine g_iload_n m140_45 rfl ?_
        refine g_imul (u := (0 : Int32)) m140_46 (by decide) ?_
        refine g_iadd (u := (134 : Int32)) m140_47 (by decide) ?_
        refine g_iload_n m140_48 rfl ?_
        refine g_iadd (u := (176 : Int32)) m140_49 (by decide) ?_
        refine g_aload_n m140_50 rfl ?_
        refine g_gf m140_51 rfl rfl ?_
        refine g_bipush m140_54 ?_
        refine g_iload_n m140_56 rfl ?_
        refine g_iadd (u := (106 : Int32)) m140_57 (by decide) ?_
        refine g_iald (x := (0 : Int32)) m140_58 rfl (vin rfl) rfl ?_
        refine g_iast m140_59 (Nat.le_of_ble_eq_true rfl) rfl (vin rfl) rfl rfl (set_idem rfl (by decide +kernel)) ?_
        refine g_iinc (x2 := (43 : Int32)) (L2 := [some (.ref 89), some (.int (0)), some (.int (43)), none, none]) m140_60 rfl (by decide) rfl rfl ?_
        refine g_goto m140_63 ?_
        refine g_iload_n m140_30 rfl ?_
        refine g_bipush m140_31 ?_
        refine g_ic_geF m140_33 (by decide) ?_
        refine g_aload_n m140_36 rfl ?_
        refine g_gf m140_37 rfl rfl ?_
        refine g_sipush m140_40 ?_
        refine g_bipush m140_43 ?_
        refine g_iload_n m140_45 rfl ?_
        refine g_imul (u := (0 : Int32)) m140_46 (by decide) ?_
        refine g_iadd (u := (134 : Int32)) m140_47 (by decide) ?_
        refine g_iload_n m140_48 rfl ?_
        refine g_iadd (u := (177 : Int32)) m140_49 (by decide) ?_
        refine g_aload_n m140_50 rfl ?_
        refine g_gf m140_51 rfl rfl ?_
        refine g_bipush m140_54 ?_
        refine g_iload_n m140_56 rfl ?_
        refine g_iadd (u := (107 : Int32)) m140_57 (by decide) ?_
        refine g_iald (x := (0 : Int32)) m140_58 rfl (vin rfl) rfl ?_
        refine g_iast m140_59 (Nat.le_of_ble_eq_true rfl) rfl (vin rfl) rfl rfl (set_idem rfl (by decide +kernel)) ?_
        refine g_iinc (x2 := (44 : Int32)) (L2 := [some (.ref 89), some (.int (0)), some (.int (44)), none, none]) m140_60 rfl (by decide) rfl rfl ?_
        refine g_goto m140_63 ?_
        refine g_iload_n m140_30 rfl ?_
        refine g_bipush m140_31 ?_
        refine g_ic_geF m140_33 (by decide) ?_
        refine g_aload_n m140_36 rfl ?_
        refine g_gf m140_37 rfl rfl ?_
        refine g_sipush m140_40 ?_
        refine g_bipush m140_43 ?_
        refine g_iload_n m140_45 rfl ?_
        refine g_imul (u := (0 : Int32)) m140_46 (by decide) ?_
        refine g_iadd (u := (134 : Int32)) m140_47 (by decide) ?_
        refine g_iload_n m140_48 rfl ?_
        refine g_iadd (u := (178 : Int32)) m140_49 (by decide) ?_
        refine g_aload_n m140_50 rfl ?_
        refine g_gf m140_51 rfl rfl ?_
        refine g_bipush m140_54 ?_
        refine g_iload_n m140_56 rfl ?_
        refine g_iadd (u := (108 : Int32)) m140_57 (by decide) ?_
        refine g_iald (x := (0 : Int32)) m140_58 rfl (vin rfl) rfl ?_
        refine g_iast m140_59 (Nat.le_of_ble_eq_true rfl) rfl (vin rfl) rfl rfl (set_idem rfl (by decide +kernel)) ?_
        refine g_iinc (x2 := (45 : Int32)) (L2 := [some (.ref 89), some (.int (0)), some (.int (45)), none, none]) m140_60 rfl (by decide) rfl rfl ?_
        refine g_goto m140_63 ?_
        refine g_iload_n m140_30 rfl ?_
        refine g_bipush m140_31 ?_
        refine g_ic_geF m140_33 (by decide) ?_
        refine g_aload_n m140_36 rfl ?_
        refine g_gf m140_37 rfl rfl ?_
        refine g_sipush m140_40 ?_
        refine g_bipush m140_43 ?_
        refine g_iload_n m140_45 rfl ?_
        refine g_imul (u := (0 : Int32)) m140_46 (by decide) ?_
        refine g_iadd (u := (134 : Int32)) m140_47 (by decide) ?_
        refine g_iload_n m140_48 rfl ?_
        refine g_iadd (u := (179 : Int32)) m140_49 (by decide) ?_
        refine g_aload_n m140_50 rfl ?_
        refine g_gf m140_51 rfl rfl ?_
        refine g_bipush m140_54 ?_
        refine g_iload_n m140_56 rfl ?_
        refine g_iadd (u := (109 : Int32)) m140_57 (by decide) ?_
        refine g_iald (x := (0 : Int32)) m140_58 rfl (vin rfl) rfl ?_
        refine g_iast m140_59 (Nat.le_of_ble_eq_true rfl) rfl (vin rfl) rfl rfl (set_idem rfl (by decide +kernel)) ?_
        refine g_iinc (x2 := (46 : Int32)) (L2 := [some (.ref 89), some (.int (0)), some (.int (46)), none, none]) m140_60 rfl (by decide) rfl rfl ?_
        refine g_goto m140_63 ?_
        refine g_iload_n m140_30 rfl ?_
        refine g_bipush m140_31 ?_
        refine g_ic_geF m140_33 (by decide) ?_
        refine g_aload_n m140_36 rfl ?_
        refine g_gf m140_37 rfl rfl ?_
        refine g_sipush m140_40 ?_
        refine g_bipush m140_43 ?_
        refine g_iload_n m140_45 rfl ?_
        refine g_imul (u := (0 : Int32)) m140_46 (by decide) ?_
        refine g_iadd (u := (134 : Int32)) m140_47 (by decide) ?_
        refine g_iload_n m140_48 rfl ?_
        refine g_iadd (u := (180 : Int32)) m140_49 (by decide) ?_
        refine g_aload_n m140_50 rfl ?_
        refine g_gf m140_51 rfl rfl ?_
        refine g_bipush m140_54 ?_
        refine g_iload_n m140_56 rfl ?_
        refine g_iadd (u := (110 : Int32)) m140_57 (by decide) ?_
        refine g_iald (x := (0 : Int32)) m140_58 rfl (vin rfl) rfl ?_
        refine g_iast m140_59 (Nat.le_of_ble_eq_true rfl) rfl (vin rfl) rfl rfl (set_idem rfl (by decide +kernel)) ?_
        refine g_iinc (x2 := (47 : Int32)) (L2 := [some (.ref 89), some (.int (0)), some (.int (47)), none, none]) m140_60 rfl (by decide) rfl rfl ?_
        refine g_goto m140_63 ?_
        refine g_iload_n m140_30 rfl ?_
        refine g_bipush m140_31 ?_
        refine g_ic_geF m140_33 (by decide) ?_
        refine g_aload_n m140_36 rfl ?_
        refine g_gf m140_37 rfl rfl ?_
        refine g_sipush m140_40 ?_
        refine g_bipush m140_43 ?_
        refine g_iload_n m140_45 rfl ?_
        refine g_imul (u := (0 : Int32)) m140_46 (by decide) ?_
        refine g_iadd (u := (134 : Int32)) m140_47 (by decide) ?_
        refine g_iload_n m140_48 rfl ?_
        refine g_iadd (u := (181 : Int32)) m140_49 (by decide) ?_
        refine g_aload_n m140_50 rfl ?_
        refine g_gf m140_51 rfl rfl ?_
        refine g_bipush m140_54 ?_
        refine g_iload_n m140_56 rfl ?_
        refine g_iadd (u := (111 : Int32)) m140_57 (by decide) ?_
        refine g_iald (x := (0 : Int32)) m140_58 rfl (vin rfl) rfl ?_
        refine g_iast m140_59 (Nat.le_of_ble_eq_true rfl) rfl (vin rfl) rfl rfl (set_idem rfl (by decide +kernel)) ?_
        refine g_iinc (x2 := (48 : Int32)) (L2 := [some (.ref 89), some (.int (0)), some (.int (48)), none, none]) m140_60 rfl (by decide) rfl rfl ?_
        refine g_goto m140_63 ?_
        refine g_iload_n m140_30 rfl ?_
        refine g_bipush m140_31 ?_
        refine g_ic_geF m140_33 (by decide) ?_
        refine g_aload_n m140_36 rfl ?_
        refine g_gf m140_37 rfl rfl ?_
        refine g_sipush m140_40 ?_
        refine g_bipush m140_43 ?_
        refine g_iload_n m140_45 rfl ?_
        refine g_imul (u := (0 : Int32)) m140_46 (by decide) ?_
        refine g_iadd (u := (134 : Int32)) m140_47 (by decide) ?_
        refine g_iload_n m140_48 rfl ?_
        refine g_iadd (u := (182 : Int32)) m140_49 (by decide) ?_
        refine g_aload_n m140_50 rfl ?_
        refine g_gf m140_51 rfl rfl ?_
        refine g_bipush m140_54 ?_
        refine g_iload_n m140_56 rfl ?_
        refine g_iadd (u := (112 : Int32)) m140_57 (by decide) ?_
        refine g_iald (x := (0 : Int32)) m140_58 rfl (vin rfl) rfl ?_
        refine g_iast m140_59 (Nat.le_of_ble_eq_true rfl) rfl (vin rfl) rfl rfl (set_idem rfl (by decide +kernel)) ?_
        refine g_iinc (x2 := (49 : Int32)) (L2 := [some (.ref 89), some (.int (0)), some (.int (49)), none, none]) m140_60 rfl (by decide) rfl rfl ?_
        refine g_goto m140_63 ?_
        refine g_iload_n m140_30 rfl ?_
        refine g_bipush m140_31 ?_
        refine g_ic_geF m140_33 (by decide) ?_
        refine g_aload_n m140_36 rfl ?_
        refine g_gf m140_37 rfl rfl ?_
        refine g_sipush m140_40 ?_
        refine g_bipush m140_43 ?_
        refine g_iload_n m140_45 rfl ?_
        refine g_imul (u := (0 : Int32)) m140_46 (by decide) ?_
        refine g_iadd (u := (134 : Int32)) m140_47 (by decide) ?_
        refine g_iload_n m140_48 rfl ?_
        refine g_iadd (u := (183 : Int32)) m140_49 (by decide) ?_
        refine g_aload_n m140_50 rfl ?_
        refine g_gf m140_51 rfl rfl ?_
        refine g_bipush m140_54 ?_
        refine g_iload_n m140_56 rfl ?_
        refine g_iadd (u := (113 : Int32)) m140_57 (by decide) ?_
        refine g_iald (x := (0 : Int32)) m140_58 rfl (vin rfl) rfl ?_
        refine g_iast m140_59 (Nat.le_of_ble_eq_true rfl) rfl (vin rfl) rfl rfl (set_idem rfl (by decide +kernel)) ?_
        refine g_iinc (x2 := (50 : Int32)) (L2 := [some (.ref 89), some (.int (0)), some (.int (50)), none, none]) m140_60 rfl (by decide) rfl rfl ?_
        refine g_goto m140_63 ?_
        refine g_iload_n m140_30 rfl ?_
        refine g_bipush m140_31 ?_
        refine g_ic_geT m140_33 (by decide) ?_
        refine g_aload_n m140_66 rfl ?_
        refine g_gf m140_67 rfl rfl ?_
        refine g_iconst m140_70 ?_
        refine g_iload_n m140_71 rfl ?_
        refine g_iadd (u := (5 : Int32)) m140_72 (by decide) ?_
        refine g_aload_n m140_73 rfl ?_
        refine g_gf m140_74 rfl rfl ?_
        refine g_iconst m140_77 ?_
        refine g_iald (x := (0 : Int32)) m140_78 rfl (vin rfl) rfl ?_
        refine g_iast m140_79 (Nat.le_of_ble_eq_true rfl) rfl (vin rfl) rfl rfl rfl ?_
        refine g_aload_n m140_80 rfl ?_
        refine g_iload_n m140_81 rfl ?_
        refine g_iconst m140_82 ?_
        refine g_iconst m140_83 ?_
        refine g_iconst m140_84 ?_
        refine g_cv (args := [.int (0), .int (1), .int (1), .int (1)]) (rest := []) m140_85 (Nat.le_of_ble_eq_true rfl) rfl rfl rfl (Nat.le_of_ble_eq_true rfl) ?_
        refine wp_in (L := [some (.ref 89), some (.int (0)), some (.int (1)), some (.int (1)), some (.int (1)), none]) (Nat.le_of_ble_eq_true rfl) rfl ?_
        refine g_aload_n m130_0 rfl ?_
        refine g_iload_n m130_1 rfl ?_
        refine g_pf (fs2 := [.ref 90, .ref 91, .ref 92, .ref 93, .int (0), .int (0), .ref 94, .int (0), .int (0), .int (0), .int (0), .int (0), .int (0), .int (0), .int (0), .ref 95, .ref 96, .ref 97, .ref 98, .ref 99, .ref 100, .int (0), .int (0), .int (0), .int (0)]) m130_2 rfl (Nat.le_of_ble_eq_true rfl) rfl (Nat.le_of_ble_eq_true rfl) trivial rfl rfl rfl ?_
        refine g_aload_n m130_5 rfl ?_
        refine g_iconst m130_6 ?_
        refine g_pf (fs2 := [.ref 90, .ref 91, .ref 92, .ref 93, .int (0), .int (0), .ref 94, .int (0), .int (0), .int (0), .int (0), .int (0), .int (0), .int (0), .int (0), .ref 95, .ref 96, .ref 97, .ref 98, .ref 99, .ref 100, .int (0), .int (0), .int (0), .int (0)]) m130_7 rfl (Nat.le_of_ble_eq_true rfl) rfl (Nat.le_of_ble_eq_true rfl) trivial rfl rfl (set_n0 rfl) ?_
        refine g_aload_n m130_10 rfl ?_
        refine g_aload_n m130_11 rfl ?_
        refine g_gf m130_12 rfl rfl ?_
        refine g_iconst m130_15 ?_
        refine g_iload_n m130_16 rfl ?_
        refine g_iadd (u := (5 : Int32)) m130_17 (by decide) ?_
        refine g_iald (x := (0 : Int32)) m130_18 rfl (vin rfl) rfl ?_
        refine g_pf (fs2 := [.ref 90, .ref 91, .ref 92, .ref 93, .int (0), .int (0), .ref 94, .int (0), .int (0), .int (0), .int (0), .int (0), .int (0), .int (0), .int (0), .ref 95, .ref 96, .ref 97, .ref 98, .ref 99, .ref 100, .int (0), .int (0), .int (0), .int (0)]) m130_19 rfl (Nat.le_of_ble_eq_true rfl) rfl (Nat.le_of_ble_eq_true rfl) trivial rfl rfl (set_n0 rfl) ?_
        refine g_aload_n m130_22 rfl ?_
        refine g_iconst m130_23 ?_
        refine g_pf (fs2 := [.ref 90, .ref 91, .ref 92, .ref 93, .int (0), .int (0), .ref 94, .int (0), .int (0), .int (0), .int (0), .int (0), .int (0), .int (0), .int (0), .ref 95, .ref 96, .ref 97, .ref 98, .ref 99, .ref 100, .int (0), .int (0), .int (0), .int (0)]) m130_24 rfl (Nat.le_of_ble_eq_true rfl) rfl (Nat.le_of_ble_eq_true rfl) trivial rfl rfl (set_n0 rfl) ?_
        refine g_aload_n m130_27 rfl ?_
        refine g_iconst m130_28 ?_
        refine g_pf (fs2 := [.ref 90, .ref 91, .ref 92, .ref 93, .int (0), .int (0), .ref 94, .int (0), .int (0), .int (0), .int (0), .int (0), .int (0), .int (0), .int (1), .ref 95, .ref 96, .ref 97, .ref 98, .ref 99, .ref 100, .int (0), .int (0), .int (0), .int (0)]) m130_29 rfl (Nat.le_of_ble_eq_true rfl) rfl (Nat.le_of_ble_eq_true rfl) (Or.inr rfl) rfl rfl (set_n0 rfl) ?_
        refine g_aload_n m130_32 rfl ?_
        refine g_iload_n m130_33 rfl ?_
        refine g_pf (fs2 := [.ref 90, .ref 91, .ref 92, .ref 93, .int (0), .int (0), .ref 94, .int (0), .int (0), .int (0), .int (0), .int (1), .int (0), .int (0), .int (1), .ref 95, .ref 96, .ref 97, .ref 98, .ref 99, .ref 100, .int (0), .int (0), .int (0), .int (0)]) m130_34 rfl (Nat.le_of_ble_eq_true rfl) rfl (Nat.le_of_ble_eq_true rfl) trivial rfl rfl (set_n0 rfl) ?_
        refine g_aload_n m130_37 rfl ?_
        refine g_iload_n m130_38 rfl ?_
        refine g_pf (fs2 := [.ref 90, .ref 91, .ref 92, .ref 93, .int (0), .int (0), .ref 94, .int (0), .int (0), .int (0), .int (0), .int (1), .int (1), .int (0), .int (1), .ref 95, .ref 96, .ref 97, .ref 98, .ref 99, .ref 100, .int (0), .int (0), .int (0), .int (0)]) m130_39 rfl (Nat.le_of_ble_eq_true rfl) rfl (Nat.le_of_ble_eq_true rfl) trivial rfl rfl (set_n0 rfl) ?_
        refine g_aload_n m130_42 rfl ?_
        refine g_iload m130_43 rfl ?_
        refine g_pf (fs2 := [.ref 90, .ref 91, .ref 92, .ref 93, .int (0), .int (0), .ref 94, .int (0), .int (0), .int (0), .int (0), .int (1), .int (1), .int (1), .int (1), .ref 95, .ref 96, .ref 97, .ref 98, .ref 99, .ref 100, .int (0), .int (0), .int (0), .int (0)]) m130_45 rfl (Nat.le_of_ble_eq_true rfl) rfl (Nat.le_of_ble_eq_true rfl) trivial rfl rfl (set_n0 rfl) ?_
        refine g_aload_n m130_48 rfl ?_
        refine g_cv (args := []) (rest := []) m130_49 (Nat.le_of_ble_eq_true rfl) rfl rfl rfl (Nat.le_of_ble_eq_true rfl) ?_
        refine wp_in (L := [some (.ref 89), none, none]) (Nat.le_of_ble_eq_true rfl) rfl ?_
        refine g_aload_n m128_0 rfl ?_
        refine g_cv (args := []) (rest := []) m128_1 (Nat.le_of_ble_eq_true rfl) rfl rfl rfl (Nat.le_of_ble_eq_true rfl) ?_
        refine wp_in (L := [some (.ref 89), none, none]) (Nat.le_of_ble_eq_true rfl) rfl ?_
        refine g_aload_n m129_0 rfl ?_
        refine g_cv (args := []) (rest := []) m129_1 (Nat.le_of_ble_eq_true rfl) rfl rfl rfl (Nat.le_of_ble_eq_true rfl) ?_
        refine wp_in (L := [some (.ref 89), none, none, none, none]) (Nat.le_of_ble_eq_true rfl) rfl ?_
        refine g_aload_n m124_0 rfl ?_
        refine g_cv (args := []) (rest := []) m124_1 (Nat.le_of_ble_eq_true rfl) rfl rfl rfl (Nat.le_of_ble_eq_true rfl) ?_
        refine wp_in (L := [some (.ref 89), none, none, none]) (Nat.le_of_ble_eq_true rfl) rfl ?_
        refine g_aload_n m127_0 rfl ?_
        refine g_cv (args := []) (rest := []) m127_1 (Nat.le_of_ble_eq_true rfl) rfl rfl rfl (Nat.le_of_ble_eq_true rfl) ?_
        refine wp_in (L := [some (.ref 89), none, none, none]) (Nat.le_of_ble_eq_true rfl) rfl ?_
        refine g_aload_n m126_0 rfl ?_
        refine g_cv (args := []) (rest := []) m126_1 (Nat.le_of_ble_eq_true rfl) rfl rfl rfl (Nat.le_of_ble_eq_true rfl) ?_
        refine wp_in (L := [some (.ref 89), none, none]) (Nat.le_of_ble_eq_true rfl) rfl ?_
        refine g_aload_n m125_0 rfl ?_
        refine g_aload_n m125_1 rfl ?_
        refine g_gf m125_2 rfl rfl ?_
        refine g_cv (args := [.int (0)]) (rest := []) m125_5 (Nat.le_of_ble_eq_true rfl) rfl rfl rfl (Nat.le_of_ble_eq_true rfl) ?_
        refine wp_in (L := [some (.ref 89), some (.int (0))]) (Nat.le_of_ble_eq_true rfl) rfl ?_
        refine g_iload_n m119_0 rfl ?_
        refine g_aload_n m119_1 rfl ?_
        refine g_gf m119_2 rfl rfl ?_
        refine g_ic_geT m119_5 (by decide) ?_
        refine g_iconst m119_29 ?_
        refine g_iret m119_30 rfl ?_
        refine gwst (st' := [.int (-1)]) rfl ?_
        refine g_istore_n (L2 := [some (.ref 89), some (.int (-1)), none]) m125_8 rfl rfl ?_
        refine g_iload_n m125_9 rfl ?_
        refine g_cs (args := [.int (-1)]) (rest := []) 0 (Or.inl rfl) m125_10 (Nat.le_of_ble_eq_true rfl) rfl rfl (Nat.le_of_ble_eq_true rfl) ?_
        refine wp_in (L := [some (.int (-1))]) (Nat.le_of_ble_eq_true rfl) rfl ?_
        refine g_iload_n m120_0 rfl ?_
        refine g_bipush m120_1 ?_
        refine g_bipush m120_3 ?_
        refine g_cs (args := [.int (-1), .int (48), .int (57)]) (rest := []) 0 (Or.inl rfl) m120_5 (Nat.le_of_ble_eq_true rfl) rfl rfl (Nat.le_of_ble_eq_true rfl) ?_
        refine wp_in (L := [some (.int (-1)), some (.int (48)), some (.int (57))]) (Nat.le_of_ble_eq_true rfl) rfl ?_
        refine g_iload_n m107_0 rfl ?_
        refine g_iload_n m107_1 rfl ?_
        refine g_ic_ltT m107_2 (by decide) ?_
        refine g_iconst m107_14 ?_
        refine g_zret m107_15 rfl (Or.inl rfl) ?_
        refine gwst (st' := [.int (0)]) rfl ?_
        refine g_zret m120_8 rfl (Or.inl rfl) ?_
        refine gwst (st' := [.int (0)]) rfl ?_
        refine g_if_eqT m125_13 (by decide) ?_
        refine g_iload_n m125_21 rfl ?_
        refine g_bipush m125_22 ?_
        refine g_ic_eqF m125_24 (by decide) ?_
        refine g_iload_n m125_27 rfl ?_
        refine g_bipush m125_28 ?_
        refine g_ic_eqF m125_30 (by decide) ?_
        refine g_aload_n m125_33 rfl ?_
        refine g_iload_n m125_34 rfl ?_
        refine g_cv (args := [.int (-1)]) (rest := []) m125_35 (Nat.le_of_ble_eq_true rfl) rfl rfl rfl (Nat.le_of_ble_eq_true rfl) ?_
        refine wp_in (L := [some (.ref 89), some (.int (-1)), none, none, none]) (Nat.le_of_ble_eq_true rfl) rfl ?_
        refine g_iload_n m123_0 rfl ?_
        refine g_bipush m123_1 ?_
        refine g_ic_neF m123_3 (by decide) ?_
        refine g_iconst m123_10 ?_
        refine g_istore_n (L2 := [some (.ref 89), some (.int (-1)), some (.int (0)), none, none]) m123_11 rfl rfl ?_
        refine g_iload_n m123_12 rfl ?_
        refine g_aload_n m123_13 rfl ?_
        refine g_gf m123_14 rfl rfl ?_
        refine g_if_neT m123_17 (by decide) ?_
        refine g_bipush m123_20 ?_
        refine g_goto m123_22 ?_
        refine g_ic_neF m123_27 (by decide) ?_
        refine g_iconst m123_34 ?_
        refine g_istore_n (L2 := [some (.ref 89), some (.int (-1)), some (.int (0)), some (.int (0)), none]) m123_35 rfl rfl ?_
        refine g_iload_n m123_36 rfl ?_
        refine g_aload_n m123_37 rfl ?_
        refine g_gf m123_38 rfl rfl ?_
        refine g_if_neT m123_41 (by decide) ?_
        refine g_bipush m123_44 ?_
        refine g_goto m123_46 ?_
        refine g_ic_neF m123_51 (by decide) ?_
        refine g_iconst m123_58 ?_
        refine g_istore (L2 := [some (.ref 89), some (.int (-1)), some (.int (0)), some (.int (0)), some (.int (0))]) m123_59 rfl rfl ?_
        refine g_iload_n m123_61 rfl ?_
        refine g_if_neT m123_62 (by decide) ?_
        refine g_iload_n m123_65 rfl ?_
        refine g_if_neT m123_66 (by decide) ?_
        refine g_iload m123_69 rfl ?_
        refine g_if_neT m123_71 (by decide) ?_
        refine g_aload_n m123_74 rfl ?_
        refine g_cv (args := []) (rest := []) m123_75 (Nat.le_of_ble_eq_true rfl) rfl rfl rfl (Nat.le_of_ble_eq_true rfl) ?_
        refine wp_in (L := [some (.ref 89)]) (Nat.le_of_ble_eq_true rfl) rfl ?_
        refine g_aload_n m122_0 rfl ?_
        refine g_iconst m122_1 ?_
        refine g_pf (fs2 := [.ref 90, .ref 91, .ref 92, .ref 93, .int (0), .int (0), .ref 94, .int (0), .int (0), .int (0), .int (0), .int (1), .int (1), .int (1), .int (0), .ref 95, .ref 96, .ref 97, .ref 98, .ref 99, .ref 100, .int (0), .int (0), .int (0), .int (0)]) m122_2 rfl (Nat.le_of_ble_eq_true rfl) rfl (Nat.le_of_ble_eq_true rfl) (Or.inl rfl) rfl rfl (set_n0 rfl) ?_
        refine g_iconst m122_5 ?_
        refine g_iret m122_6 rfl ?_
        refine gwst (st' := [.int (0)]) rfl ?_
        refine g_iret m123_78 rfl ?_
        refine gwst (st' := [.int (0)]) rfl ?_
        refine g_iret m125_38 rfl ?_
        refine gwst (st' := [.int (0)]) rfl ?_
        refine g_istore_n (L2 := [some (.ref 89), some (.int (0)), none, none]) m126_4 rfl rfl ?_
        refine g_aload_n m126_5 rfl ?_
        refine g_gf m126_6 rfl rfl ?_
        refine g_if_eqT m126_9 (by decide) ?_
        refine g_iload_n m126_114 rfl ?_
        refine g_iret m126_115 rfl ?_
        refine gwst (st' := [.int (0)]) rfl ?_
        refine g_istore_n (L2 := [some (.ref 89), some (.int (0)), none, none]) m127_4 rfl rfl ?_
        refine g_aload_n m127_5 rfl ?_
        refine g_gf m127_6 rfl rfl ?_
        refine g_if_eqT m127_9 (by decide) ?_
        refine g_iload_n m127_81 rfl ?_
        refine g_iret m127_82 rfl ?_
        refine gwst (st' := [.int (0)]) rfl ?_
        refine g_istore_n (L2 := [some (.ref 89), some (.int (0)), none, none, none]) m124_4 rfl rfl ?_
        refine g_aload_n m124_5 rfl ?_
        refine g_gf m124_6 rfl rfl ?_
        refine g_if_eqT m124_9 (by decide) ?_
        refine g_iconst m124_23 ?_
        refine g_istore_n (L2 := [some (.ref 89), some (.int (0)), some (.int (-1)), none, none]) m124_24 rfl rfl ?_
        refine g_iload_n m124_25 rfl ?_
        refine g_bipush m124_26 ?_
        refine g_ic_eqF m124_28 (by decide) ?_
        refine g_iload_n m124_31 rfl ?_
        refine g_bipush m124_32 ?_
        refine g_ic_eqF m124_34 (by decide) ?_
        refine g_iload_n m124_37 rfl ?_
        refine g_bipush m124_38 ?_
        refine g_ic_eqF m124_40 (by decide) ?_
        refine g_iload_n m124_43 rfl ?_
        refine g_iret m124_44 rfl ?_
        refine gwst (st' := [.int (0)]) rfl ?_
        refine g_istore_n (L2 := [some (.ref 89), some (.int (0)), none]) m129_4 rfl rfl ?_
        refine g_aload_n m129_5 rfl ?_
        refine g_gf m129_6 rfl rfl ?_
        refine g_if_eqT m129_9 (by decide) ?_
        refine g_iload_n m129_57 rfl ?_
        refine g_iret m129_58 rfl ?_
        refine gwst (st' := [.int (0)]) rfl ?_
        refine g_istore_n (L2 := [some (.ref 89), some (.int (0)), none]) m128_4 rfl rfl ?_
        refine g_aload_n m128_5 rfl ?_
        refine g_gf m128_6 rfl rfl ?_
        refine g_if_eqT m128_9 (by decide) ?_
        refine g_iload_n m128_57 rfl ?_
        refine g_iret m128_58 rfl ?_
        refine gwst (st' := [.int (0)]) rfl ?_
        refine g_istore (L2 := [some (.ref 89), some (.int (0)), some (.int (1)), some (.int (1)), some (.int (1)), some (.int (0))]) m130_52 rfl rfl ?_
        refine g_aload_n m130_54 rfl ?_
        refine g_aload_n m130_55 rfl ?_
        refine g_gf m130_56 rfl rfl ?_
        refine g_if_eqT m130_59 (by decide) ?_
        refine g_iconst m130_77 ?_
        refine g_pf (fs2 := [.ref 90, .ref 91, .ref 92, .ref 93, .int (0), .int (0), .ref 94, .int (0), .int (0), .int (0), .int (0), .int (1), .int (1), .int (1), .int (0), .ref 95, .ref 96, .ref 97, .ref 98, .ref 99, .ref 100, .int (0), .int (0), .int (0), .int (0)]) m130_78 rfl (Nat.le_of_ble_eq_true rfl) rfl (Nat.le_of_ble_eq_true rfl) (Or.inl rfl) rfl rfl (set_n0 rfl) ?_
        refine g_iload m130_81 rfl ?_
        refine g_iret m130_83 rfl ?_
        refine gwst (st' := [.int (0)]) rfl ?_
        refine g_istore_n (L2 := [some (.ref 89), some (.int (0)), some (.int (0)), none, none]) m140_88 rfl rfl ?_
        refine g_aload_n m140_89 rfl ?_
        refine g_gf m140_90 rfl rfl ?_
        refine g_if_eqT m140_93 (by decide) ?_
        refine g_iconst m140_105 ?_
        refine g_istore_n (L2 := [some (.ref 89), some (.int (0)), some (.int (0)), some (.int (0)), none]) m140_106 rfl rfl ?_
        refine g_aload_n m140_107 rfl ?_
        refine g_gf m140_108 rfl rfl ?_
        refine g_istore (L2 := [some (.ref 89), some (.int (0)), some (.int (0)), some (.int (0)), some (.int (0))]) m140_111 rfl rfl ?_
        refine g_iload_n m140_113 rfl ?_
        refine g_if_neT m140_114 (by decide) ?_
        refine g_aload_n m140_117 rfl ?_
        refine g_aload_n m140_118 rfl ?_
        refine g_gf m140_119 rfl rfl ?_
        refine g_aload_n m140_122 rfl ?_
        refine g_gf m140_123 rfl rfl ?_
        refine g_cv (args := [.ref 93, .ref 90]) (rest := []) m140_126 (Nat.le_of_ble_eq_true rfl) rfl rfl rfl (Nat.le_of_ble_eq_true rfl) ?_
        refine c_moveAll rfl (Nat.le_of_ble_eq_true rfl) rfl (by rfl) (by rfl) (by decide) ?_
        refine gwh (set_n1 (by decide)  rfl) ?_
        refine gwst (st' := []) rfl ?_
        refine g_aload_n m140_129 rfl ?_
        refine g_gf m140_130 rfl rfl ?_
        refine g_iconst m140_133 ?_
        refine g_iconst m140_134 ?_
        refine g_iast m140_135 (Nat.le_of_ble_eq_true rfl) rfl (vin rfl) rfl rfl (set_n0 rfl) ?_
        refine g_iload_n m140_136 rfl ?_
        refine g_if_eqT m140_137 (by decide) ?_
        refine g_bipush m140_144 ?_
        refine g_iload m140_146 rfl ?_
        refine g_isub (u := (-10 : Int32)) m140_148 (by decide) ?_
        refine g_iret m140_149 rfl ?_
        refine gwst (st' := [.int (-10), .int (-10)]) rfl ?_
        refine g_ic_eqT m190_553 (by decide) ?_
        refine g_iinc (x2 := (6 : Int32)) (L2 := [some (.ref 0), some (.ref 32), some (.ref 89), some (.int (6))]) m190_1428 rfl (by decide) rfl rfl ?_
        refine g_goto m190_1431 ?_
        refine g_iload_n m190_18 rfl ?_
        refine g_aload_n m190_19 rfl ?_
        refine g_alen (n := 6) m190_20 rfl (Or.inl rfl) rfl ?_
        refine g_bipush m190_21 ?_
        refine g_isub (u := (0 : Int32)) m190_23 (by decide) ?_
        refine g_ic_gtT m190_24 (by decide) ?_
        refine g_iconst m190_1434 ?_
        refine g_zret m190_1435 rfl (Or.inr rfl) ?_
        exact rfl
      · have d6 : ¬ ((s1).toInt = 0) := fun q => c5 ((eq_k (by rfl) (by rfl)).mpr q)
        refine g_ldcs m68_34 (by decide) ?_
        refine g_cv (args := [.int (0), .ref 4]) (rest := []) m68_36 (Nat.le_of_ble_eq_true rfl) rfl rfl rfl (Nat.le_of_ble_eq_true rfl) ?_
        refine wp_in (L := [some (.ref 75), some (.int (0)), some (.ref 4)]) (Nat.le_of_ble_eq_true rfl) rfl ?_
        refine g_aload_n m25_0 rfl ?_
        refine g_iload_n m25_1 rfl ?_
        refine g_aload_n m25_2 rfl ?_
        refine g_gf m25_3 rfl rfl ?_
        refine g_alen (n := 50) m25_6 rfl (Or.inl rfl) rfl ?_
        refine g_min (u := (0 : Int32)) m25_7 (Nat.le_of_ble_eq_true rfl) (by decide) ?_
        refine g_pf (fs2 := [.ref 76, .int (0), .ref 70, .int (0), .ref 3, .int (0), .int (-1)]) m25_10 rfl (Nat.le_of_ble_eq_true rfl) rfl (Nat.le_of_ble_eq_true rfl) trivial rfl rfl rfl ?_
        refine g_aload_n m25_13 rfl ?_
        refine g_aload_n m25_14 rfl ?_
        refine g_pf (fs2 := [.ref 76, .int (0), .ref 70, .int (0), .ref 4, .int (0), .int (-1)]) m25_15 rfl (Nat.le_of_ble_eq_true rfl) rfl (Nat.le_of_ble_eq_true rfl) trivial rfl rfl (set_n0 rfl) ?_
        refine g_aload_n m25_18 rfl ?_
        refine g_iconst m25_19 ?_
        refine g_pf (fs2 := [.ref 76, .int (0), .ref 70, .int (0), .ref 4, .int (0), .int (-1)]) m25_20 rfl (Nat.le_of_ble_eq_true rfl) rfl (Nat.le_of_ble_eq_true rfl) trivial rfl rfl (set_n0 rfl) ?_
        refine g_aload_n m25_23 rfl ?_
        refine g_iconst m25_24 ?_
        refine g_pf (fs2 := [.ref 76, .int (0), .ref 70, .int (0), .ref 4, .int (0), .int (-1)]) m25_25 rfl (Nat.le_of_ble_eq_true rfl) rfl (Nat.le_of_ble_eq_true rfl) trivial rfl rfl (set_n0 rfl) ?_
        refine g_aload_n m25_28 rfl ?_
        refine g_iconst m25_29 ?_
        refine g_pf (fs2 := [.ref 76, .int (0), .ref 70, .int (0), .ref 4, .int (0), .int (-1)]) m25_30 rfl (Nat.le_of_ble_eq_true rfl) rfl (Nat.le_of_ble_eq_true rfl) trivial rfl rfl (set_n0 rfl) ?_
        refine g_aload_n m25_33 rfl ?_
        refine g_iconst m25_34 ?_
        refine g_iconst m25_35 ?_
        refine g_cv (args := [.int (0), .int (0)]) (rest := []) m25_36 (Nat.le_of_ble_eq_true rfl) rfl rfl rfl (Nat.le_of_ble_eq_true rfl) ?_
        refine wp_in (L := [some (.ref 75), some (.int (0)), some (.int (0)), none, none, none]) (Nat.le_of_ble_eq_true rfl) rfl ?_
        refine g_iload_n m24_0 rfl ?_
        refine g_iconst m24_1 ?_
        refine g_ic_ltT m24_2 (by decide) ?_
        refine g_aload_n m24_11 rfl ?_
        refine g_iload_n m24_12 rfl ?_
        refine g_iconst m24_13 ?_
        refine g_iadd (u := (1 : Int32)) m24_14 (by decide) ?_
        refine g_iload_n m24_15 rfl ?_
        refine g_cv (args := [.int (1), .int (0)]) (rest := []) m24_16 (Nat.le_of_ble_eq_true rfl) rfl rfl rfl (Nat.le_of_ble_eq_true rfl) ?_
        refine wp_in (L := [some (.ref 75), some (.int (1)), some (.int (0)), none, none, none]) (Nat.le_of_ble_eq_true rfl) rfl ?_
        refine g_iload_n m24_0 rfl ?_
        refine g_iconst m24_1 ?_
        refine g_ic_ltT m24_2 (by decide) ?_
        refine g_aload_n m24_11 rfl ?_
        refine g_iload_n m24_12 rfl ?_
        refine g_iconst m24_13 ?_
        refine g_iadd (u := (2 : Int32)) m24_14 (by decide) ?_
        refine g_iload_n m24_15 rfl ?_
        refine g_cv (args := [.int (2), .int (0)]) (rest := []) m24_16 (Nat.le_of_ble_eq_true rfl) rfl rfl rfl (Nat.le_of_ble_eq_true rfl) ?_
        refine wp_in (L := [some (.ref 75), some (.int (2)), some (.int (0)), none, none, none]) (Nat.le_of_ble_eq_true rfl) rfl ?_
        refine g_iload_n m24_0 rfl ?_
        refine g_iconst m24_1 ?_
        refine g_ic_ltT m24_2 (by decide) ?_
        refine g_aload_n m24_11 rfl ?_
        refine g_iload_n m24_12 rfl ?_
        refine g_iconst m24_13 ?_
        refine g_iadd (u := (3 : Int32)) m24_14 (by decide) ?_
        refine g_iload_n m24_15 rfl ?_
        refine g_cv (args := [.int (3), .int (0)]) (rest := []) m24_16 (Nat.le_of_ble_eq_true rfl) rfl rfl rfl (Nat.le_of_ble_eq_true rfl) ?_
        refine wp_in (L := [some (.ref 75), some (.int (3)), some (.int (0)), none, none, none]) (Nat.le_of_ble_eq_true rfl) rfl ?_
        refine g_iload_n m24_0 rfl ?_
        refine g_iconst m24_1 ?_
        refine g_ic_ltT m24_2 (by decide) ?_
        refine g_aload_n m24_11 rfl ?_
        refine g_iload_n m24_12 rfl ?_
        refine g_iconst m24_13 ?_
        refine g_iadd (u := (4 : Int32)) m24_14 (by decide) ?_
        refine g_iload_n m24_15 rfl ?_
        refine g_cv (args := [.int (4), .int (0)]) (rest := []) m24_16 (Nat.le_of_ble_eq_true rfl) rfl rfl rfl (Nat.le_of_ble_eq_true rfl) ?_
        refine wp_in (L := [some (.ref 75), some (.int (4)), some (.int (0)), none, none, none]) (Nat.le_of_ble_eq_true rfl) rfl ?_
        refine g_iload_n m24_0 rfl ?_
        refine g_iconst m24_1 ?_
        refine g_ic_ltT m24_2 (by decide) ?_
        refine g_aload_n m24_11 rfl ?_
        refine g_iload_n m24_12 rfl ?_
        refine g_iconst m24_13 ?_
        refine g_iadd (u := (5 : Int32)) m24_14 (by decide) ?_
        refine g_iload_n m24_15 rfl ?_
        refine g_cv (args := [.int (5), .int (0)]) (rest := []) m24_16 (Nat.le_of_ble_eq_true rfl) rfl rfl rfl (Nat.le_of_ble_eq_true rfl) ?_
        refine wp_in (L := [some (.ref 75), some (.int (5)), some (.int (0)), none, none, none]) (Nat.le_of_ble_eq_true rfl) rfl ?_
        refine g_iload_n m24_0 rfl ?_
        refine g_iconst m24_1 ?_
        refine g_ic_ltF m24_2 (by decide) ?_
        refine g_aload_n m24_5 rfl ?_
        refine g_iload_n m24_6 rfl ?_
        refine g_cv (args := [.int (0)]) (rest := []) m24_7 (Nat.le_of_ble_eq_true rfl) rfl rfl rfl (Nat.le_of_ble_eq_true rfl) ?_
        refine wp_in (L := [some (.ref 75), some (.int (0)), none, none]) (Nat.le_of_ble_eq_true rfl) rfl ?_
        refine g_aload_n m23_0 rfl ?_
        refine g_cv (args := []) (rest := []) m23_1 (Nat.le_of_ble_eq_true rfl) rfl rfl rfl (Nat.le_of_ble_eq_true rfl) ?_
        refine wp_in (L := [some (.ref 75)]) (Nat.le_of_ble_eq_true rfl) rfl ?_
        refine g_aload_n m17_0 rfl ?_
        refine g_gf m17_1 rfl rfl ?_
        refine g_if_geF m17_4 (by decide) ?_
        refine g_aload_n m17_7 rfl ?_
        refine g_gf m17_8 rfl rfl ?_
        refine g_aload_n m17_11 rfl ?_
        refine g_gf m17_12 rfl rfl ?_
        refine g_ic_geT m17_15 (by decide) ?_
        refine g_iconst m17_30 ?_
        refine g_iret m17_31 rfl ?_
        refine gwst (st' := [.int (-1)]) rfl ?_
        refine g_istore_n (L2 := [some (.ref 75), some (.int (0)), some (.int (-1)), none]) m23_4 rfl rfl ?_
        refine g_iload_n m23_5 rfl ?_
        refine g_if_geF m23_6 (by decide) ?_
        refine g_iconst m23_9 ?_
        refine g_goto m23_10 ?_
        refine g_istore_n (L2 := [some (.ref 75), some (.int (0)), some (.int (-1)), some (.int (-1))]) m23_22 rfl rfl ?_
        refine g_iload_n m23_23 rfl ?_
        refine g_cs (args := [.int (-1)]) (rest := []) 0 (Or.inl rfl) m23_24 (Nat.le_of_ble_eq_true rfl) rfl rfl (Nat.le_of_ble_eq_true rfl) ?_
        refine wp_in (L := [some (.int (-1))]) (Nat.le_of_ble_eq_true rfl) rfl ?_
        refine g_iload_n m20_0 rfl ?_
        refine g_bipush m20_1 ?_
        refine g_ic_ltT m20_3 (by decide) ?_
        refine g_iconst m20_16 ?_
        refine g_zret m20_17 rfl (Or.inl rfl) ?_
        refine gwst (st' := [.int (0)]) rfl ?_
        refine g_if_eqT m23_27 (by decide) ?_
        refine g_iload_n m23_37 rfl ?_
        refine g_if_ltT m23_38 (by decide) ?_
        refine g_iload_n m23_59 rfl ?_
        refine g_bipush m23_60 ?_
        refine g_ic_neF m23_62 (by decide) ?_
        refine g_iload_n m23_96 rfl ?_
        refine g_bipush m23_97 ?_
        refine g_ic_neF m23_99 (by decide) ?_
        refine g_aload_n m23_141 rfl ?_
        refine g_cv (args := []) (rest := []) m23_142 (Nat.le_of_ble_eq_true rfl) rfl rfl rfl (Nat.le_of_ble_eq_true rfl) ?_
        refine wp_in (L := [some (.ref 75)]) (Nat.le_of_ble_eq_true rfl) rfl ?_
        refine g_aload_n m22_0 rfl ?_
        refine g_gf m22_1 rfl rfl ?_
        refine g_if_geF m22_4 (by decide) ?_
        refine g_aload_n m22_7 rfl ?_
        refine g_aload_n m22_8 rfl ?_
        refine g_gf m22_9 rfl rfl ?_
        refine g_pf (fs2 := [.ref 76, .int (0), .ref 70, .int (0), .ref 4, .int (0), .int (0)]) m22_12 rfl (Nat.le_of_ble_eq_true rfl) rfl (Nat.le_of_ble_eq_true rfl) trivial rfl rfl (set_n0 rfl) ?_
        refine g_vret m22_15 ?_
        refine gwst (st' := []) rfl ?_
        refine g_vret m23_145 ?_
        refine gwst (st' := []) rfl ?_
        refine g_vret m24_10 ?_
        refine gwst (st' := []) rfl ?_
        refine g_iload_n m24_19 rfl ?_
        refine g_iconst m24_20 ?_
        refine g_ic_neF m24_21 (by decide) ?_
        refine g_bipush m24_28 ?_
        refine g_istore_n (L2 := [some (.ref 75), some (.int (4)), some (.int (0)), some (.int (50)), none, none]) m24_30 rfl rfl ?_
        refine g_iconst m24_31 ?_
        refine g_istore (L2 := [some (.ref 75), some (.int (4)), some (.int (0)), some (.int (50)), some (.int (0)), none]) m24_32 rfl rfl ?_
        refine g_iload m24_34 rfl ?_
        refine g_iload_n m24_36 rfl ?_
        refine g_ic_geF m24_37 (by decide) ?_
        refine g_aload_n m24_40 rfl ?_
        refine g_iload_n m24_41 rfl ?_
        refine g_cs (args := [.int (4)]) (rest := [.ref 75]) 0 (Or.inl rfl) m24_42 (Nat.le_of_ble_eq_true rfl) rfl rfl (Nat.le_of_ble_eq_true rfl) ?_
        refine wp_in (L := [some (.int (4))]) (Nat.le_of_ble_eq_true rfl) rfl ?_
        refine g_iload_n m16_0 rfl ?_
        refine gs m16_1 ?_
        refine gwpc (pc' := 44) rfl ?_
        refine g_ldcs m16_44 (by decide) ?_
        refine g_aret m16_46 ?_
        refine gwst (st' := [.ref 10, .ref 75]) rfl ?_
        refine g_cv (args := [.ref 10]) (rest := []) m24_45 (Nat.le_of_ble_eq_true rfl) rfl rfl rfl (Nat.le_of_ble_eq_true rfl) ?_
        refine wp_in (L := [some (.ref 75), some (.ref 10), none]) (Nat.le_of_ble_eq_true rfl) rfl ?_
        refine g_aload_n m18_0 rfl ?_
        refine g_cv (args := []) (rest := []) m18_1 (Nat.le_of_ble_eq_true rfl) rfl rfl rfl (Nat.le_of_ble_eq_true rfl) ?_
        refine wp_in (L := [some (.ref 75)]) (Nat.le_of_ble_eq_true rfl) rfl ?_
        refine g_aload_n m17_0 rfl ?_
        refine g_gf m17_1 rfl rfl ?_
        refine g_if_geT m17_4 (by decide) ?_
        refine g_iconst m17_30 ?_
        refine g_iret m17_31 rfl ?_
        refine gwst (st' := [.int (-1)]) rfl ?_
        refine g_istore_n (L2 := [some (.ref 75), some (.ref 10), some (.int (-1))]) m18_4 rfl rfl ?_
        refine g_iload_n m18_5 rfl ?_
        refine g_if_ltT m18_6 (by decide) ?_
        refine g_iconst m18_18 ?_
        refine g_iret m18_19 rfl ?_
        refine gwst (st' := [.int (0)]) rfl ?_
        refine g_istore (L2 := [some (.ref 75), some (.int (4)), some (.int (0)), some (.int (50)), some (.int (0)), some (.int (0))]) m24_48 rfl rfl ?_
        refine g_iload m24_50 rfl ?_
        refine g_if_neT m24_52 (by decide) ?_
        refine g_vret m24_55 ?_
        refine gwst (st' := []) rfl ?_
        refine g_iload_n m24_19 rfl ?_
        refine g_iconst m24_20 ?_
        refine g_ic_neF m24_21 (by decide) ?_
        refine g_bipush m24_28 ?_
        refine g_istore_n (L2 := [some (.ref 75), some (.int (3)), some (.int (0)), some (.int (50)), none, none]) m24_30 rfl rfl ?_
        refine g_iconst m24_31 ?_
        refine g_istore (L2 := [some (.ref 75), some (.int (3)), some (.int (0)), some (.int (50)), some (.int (0)), none]) m24_32 rfl rfl ?_
        refine g_iload m24_34 rfl ?_
        refine g_iload_n m24_36 rfl ?_
        refine g_ic_geF m24_37 (by decide) ?_
        refine g_aload_n m24_40 rfl ?_
        refine g_iload_n m24_41 rfl ?_
        refine g_cs (args := [.int (3)]) (rest := [.ref 75]) 0 (Or.inl rfl) m24_42 (Nat.le_of_ble_eq_true rfl) rfl rfl (Nat.le_of_ble_eq_true rfl) ?_
        refine wp_in (L := [some (.int (3))]) (Nat.le_of_ble_eq_true rfl) rfl ?_
        refine g_iload_n m16_0 rfl ?_
        refine gs m16_1 ?_
        refine gwpc (pc' := 41) rfl ?_
        refine g_ldcs m16_41 (by decide) ?_
        refine g_aret m16_43 ?_
        refine gwst (st' := [.ref 9, .ref 75]) rfl ?_
        refine g_cv (args := [.ref 9]) (rest := []) m24_45 (Nat.le_of_ble_eq_true rfl) rfl rfl rfl (Nat.le_of_ble_eq_true rfl) ?_
        refine wp_in (L := [some (.ref 75), some (.ref 9), none]) (Nat.le_of_ble_eq_true rfl) rfl ?_
        refine g_aload_n m18_0 rfl ?_
        refine g_cv (args := []) (rest := []) m18_1 (Nat.le_of_ble_eq_true rfl) rfl rfl rfl (Nat.le_of_ble_eq_true rfl) ?_
        refine wp_in (L := [some (.ref 75)]) (Nat.le_of_ble_eq_true rfl) rfl ?_
        refine g_aload_n m17_0 rfl ?_
        refine g_gf m17_1 rfl rfl ?_
        refine g_if_geT m17_4 (by decide) ?_
        refine g_iconst m17_30 ?_
        refine g_iret m17_31 rfl ?_
        refine gwst (st' := [.int (-1)]) rfl ?_
        refine g_istore_n (L2 := [some (.ref 75), some (.ref 9), some (.int (-1))]) m18_4 rfl rfl ?_
        refine g_iload_n m18_5 rfl ?_
        refine g_if_ltT m18_6 (by decide) ?_
        refine g_iconst m18_18 ?_
        refine g_iret m18_19 rfl ?_
        refine gwst (st' := [.int (0)]) rfl ?_
        refine g_istore (L2 := [some (.ref 75), some (.int (3)), some (.int (0)), some (.int (50)), some (.int (0)), some (.int (0))]) m24_48 rfl rfl ?_
        refine g_iload m24_50 rfl ?_
        refine g_if_neT m24_52 (by decide) ?_
        refine g_vret m24_55 ?_
        refine gwst (st' := []) rfl ?_
        refine g_iload_n m24_19 rfl ?_
        refine g_iconst m24_20 ?_
        refine g_ic_neT m24_21 (by decide) ?_
        refine g_iconst m24_24 ?_
        refine g_goto m24_25 ?_
        refine g_istore_n (L2 := [some (.ref 75), some (.int (2)), some (.int (0)), some (.int (1)), none, none]) m24_30 rfl rfl ?_
        refine g_iconst m24_31 ?_
        refine g_istore (L2 := [some (.ref 75), some (.int (2)), some (.int (0)), some (.int (1)), some (.int (0)), none]) m24_32 rfl rfl ?_
        refine g_iload m24_34 rfl ?_
        refine g_iload_n m24_36 rfl ?_
        refine g_ic_geF m24_37 (by decide) ?_
        refine g_aload_n m24_40 rfl ?_
        refine g_iload_n m24_41 rfl ?_
        refine g_cs (args := [.int (2)]) (rest := [.ref 75]) 0 (Or.inl rfl) m24_42 (Nat.le_of_ble_eq_true rfl) rfl rfl (Nat.le_of_ble_eq_true rfl) ?_
        refine wp_in (L := [some (.int (2))]) (Nat.le_of_ble_eq_true rfl) rfl ?_
        refine g_iload_n m16_0 rfl ?_
        refine gs m16_1 ?_
        refine gwpc (pc' := 38) rfl ?_
        refine g_ldcs m16_38 (by decide) ?_
        refine g_aret m16_40 ?_
        refine gwst (st' := [.ref 8, .ref 75]) rfl ?_
        refine g_cv (args := [.ref 8]) (rest := []) m24_45 (Nat.le_of_ble_eq_true rfl) rfl rfl rfl (Nat.le_of_ble_eq_true rfl) ?_
        refine wp_in (L := [some (.ref 75), some (.ref 8), none]) (Nat.le_of_ble_eq_true rfl) rfl ?_
        refine g_aload_n m18_0 rfl ?_
        refine g_cv (args := []) (rest := []) m18_1 (Nat.le_of_ble_eq_true rfl) rfl rfl rfl (Nat.le_of_ble_eq_true rfl) ?_
        refine wp_in (L := [some (.ref 75)]) (Nat.le_of_ble_eq_true rfl) rfl ?_
        refine g_aload_n m17_0 rfl ?_
        refine g_gf m17_1 rfl rfl ?_
        refine g_if_geT m17_4 (by decide) ?_
        refine g_iconst m17_30 ?_
        refine g_iret m17_31 rfl ?_
        refine gwst (st' := [.int (-1)]) rfl ?_
        refine g_istore_n (L2 := [some (.ref 75), some (.ref 8), some (.int (-1))]) m18_4 rfl rfl ?_
        refine g_iload_n m18_5 rfl ?_
        refine g_if_ltT m18_6 (by decide) ?_
        refine g_iconst m18_18 ?_
        refine g_iret m18_19 rfl ?_
        refine gwst (st' := [.int (0)]) rfl ?_
        refine g_istore (L2 := [some (.ref 75), some (.int (2)), some (.int (0)), some (.int (1)), some (.int (0)), some (.int (0))]) m24_48 rfl rfl ?_
        refine g_iload m24_50 rfl ?_
        refine g_if_neT m24_52 (by decide) ?_
        refine g_vret m24_55 ?_
        refine gwst (st' := []) rfl ?_
        refine g_iload_n m24_19 rfl ?_
        refine g_iconst m24_20 ?_
        refine g_ic_neF m24_21 (by decide) ?_
        refine g_bipush m24_28 ?_
        refine g_istore_n (L2 := [some (.ref 75), some (.int (1)), some (.int (0)), some (.int (50)), none, none]) m24_30 rfl rfl ?_
        refine g_iconst m24_31 ?_
        refine g_istore (L2 := [some (.ref 75), some (.int (1)), some (.int (0)), some (.int (50)), some (.int (0)), none]) m24_32 rfl rfl ?_
        refine g_iload m24_34 rfl ?_
        refine g_iload_n m24_36 rfl ?_
        refine g_ic_geF m24_37 (by decide) ?_
        refine g_aload_n m24_40 rfl ?_
        refine g_iload_n m24_41 rfl ?_
        refine g_cs (args := [.int (1)]) (rest := [.ref 75]) 0 (Or.inl rfl) m24_42 (Nat.le_of_ble_eq_true rfl) rfl rfl (Nat.le_of_ble_eq_true rfl) ?_
        refine wp_in (L := [some (.int (1))]) (Nat.le_of_ble_eq_true rfl) rfl ?_
        refine g_iload_n m16_0 rfl ?_
        refine gs m16_1 ?_
        refine gwpc (pc' := 35) rfl ?_
        refine g_ldcs m16_35 (by decide) ?_
        refine g_aret m16_37 ?_
        refine gwst (st' := [.ref 7, .ref 75]) rfl ?_
        refine g_cv (args := [.ref 7]) (rest := []) m24_45 (Nat.le_of_ble_eq_true rfl) rfl rfl rfl (Nat.le_of_ble_eq_true rfl) ?_
        refine wp_in (L := [some (.ref 75), some (.ref 7), none]) (Nat.le_of_ble_eq_true rfl) rfl ?_
        refine g_aload_n m18_0 rfl ?_
        refine g_cv (args := []) (rest := []) m18_1 (Nat.le_of_ble_eq_true rfl) rfl rfl rfl (Nat.le_of_ble_eq_true rfl) ?_
        refine wp_in (L := [some (.ref 75)]) (Nat.le_of_ble_eq_true rfl) rfl ?_
        refine g_aload_n m17_0 rfl ?_
        refine g_gf m17_1 rfl rfl ?_
        refine g_if_geT m17_4 (by decide) ?_
        refine g_iconst m17_30 ?_
        refine g_iret m17_31 rfl ?_
        refine gwst (st' := [.int (-1)]) rfl ?_
        refine g_istore_n (L2 := [some (.ref 75), some (.ref 7), some (.int (-1))]) m18_4 rfl rfl ?_
        refine g_iload_n m18_5 rfl ?_
        refine g_if_ltT m18_6 (by decide) ?_
        refine g_iconst m18_18 ?_
        refine g_iret m18_19 rfl ?_
        refine gwst (st' := [.int (0)]) rfl ?_
        refine g_istore (L2 := [some (.ref 75), some (.int (1)), some (.int (0)), some (.int (50)), some (.int (0)), some (.int (0))]) m24_48 rfl rfl ?_
        refine g_iload m24_50 rfl ?_
        refine g_if_neT m24_52 (by decide) ?_
        refine g_vret m24_55 ?_
        refine gwst (st' := []) rfl ?_
        refine g_iload_n m24_19 rfl ?_
        refine g_iconst m24_20 ?_
        refine g_ic_neF m24_21 (by decide) ?_
        refine g_bipush m24_28 ?_
        refine g_istore_n (L2 := [some (.ref 75), some (.int (0)), some (.int (0)), some (.int (50)), none, none]) m24_30 rfl rfl ?_
        refine g_iconst m24_31 ?_
        refine g_istore (L2 := [some (.ref 75), some (.int (0)), some (.int (0)), some (.int (50)), some (.int (0)), none]) m24_32 rfl rfl ?_
        refine g_iload m24_34 rfl ?_
        refine g_iload_n m24_36 rfl ?_
        refine g_ic_geF m24_37 (by decide) ?_
        refine g_aload_n m24_40 rfl ?_
        refine g_iload_n m24_41 rfl ?_
        refine g_cs (args := [.int (0)]) (rest := [.ref 75]) 0 (Or.inl rfl) m24_42 (Nat.le_of_ble_eq_true rfl) rfl rfl (Nat.le_of_ble_eq_true rfl) ?_
        refine wp_in (L := [some (.int (0))]) (Nat.le_of_ble_eq_true rfl) rfl ?_
        refine g_iload_n m16_0 rfl ?_
        refine gs m16_1 ?_
        refine gwpc (pc' := 32) rfl ?_
        refine g_ldcs m16_32 (by decide) ?_
        refine g_aret m16_34 ?_
        refine gwst (st' := [.ref 6, .ref 75]) rfl ?_
        refine g_cv (args := [.ref 6]) (rest := []) m24_45 (Nat.le_of_ble_eq_true rfl) rfl rfl rfl (Nat.le_of_ble_eq_true rfl) ?_
        refine wp_in (L := [some (.ref 75), some (.ref 6), none]) (Nat.le_of_ble_eq_true rfl) rfl ?_
        refine g_aload_n m18_0 rfl ?_
        refine g_cv (args := []) (rest := []) m18_1 (Nat.le_of_ble_eq_true rfl) rfl rfl rfl (Nat.le_of_ble_eq_true rfl) ?_
        refine wp_in (L := [some (.ref 75)]) (Nat.le_of_ble_eq_true rfl) rfl ?_
        refine g_aload_n m17_0 rfl ?_
        refine g_gf m17_1 rfl rfl ?_
        refine g_if_geT m17_4 (by decide) ?_
        refine g_iconst m17_30 ?_
        refine g_iret m17_31 rfl ?_
        refine gwst (st' := [.int (-1)]) rfl ?_
        refine g_istore_n (L2 := [some (.ref 75), some (.ref 6), some (.int (-1))]) m18_4 rfl rfl ?_
        refine g_iload_n m18_5 rfl ?_
        refine g_if_ltT m18_6 (by decide) ?_
        refine g_iconst m18_18 ?_
        refine g_iret m18_19 rfl ?_
        refine gwst (st' := [.int (0)]) rfl ?_
        refine g_istore (L2 := [some (.ref 75), some (.int (0)), some (.int (0)), some (.int (50)), some (.int (0)), some (.int (0))]) m24_48 rfl rfl ?_
        refine g_iload m24_50 rfl ?_
        refine g_if_neT m24_52 (by decide) ?_
        refine g_vret m24_55 ?_
        refine gwst (st' := []) rfl ?_
        refine g_aload_n m25_39 rfl ?_
        refine g_gf m25_40 rfl rfl ?_
        refine g_aload_n m25_43 rfl ?_
        refine g_gf m25_44 rfl rfl ?_
        refine g_ic_geT m25_47 (by decide) ?_
        refine g_aload_n m25_54 rfl ?_
        refine g_gf m25_55 rfl rfl ?_
        refine g_iret m25_58 rfl ?_
        refine gwst (st' := [.int (0)]) rfl ?_
        refine g_istore_n (L2 := [some (.ref 32), some (.int _), some (.int (0)), none]) m68_39 rfl rfl ?_
        refine g_aload_n m68_40 rfl ?_
        refine g_gf m68_41 rfl rfl ?_
        refine g_iconst m68_44 ?_
        refine g_pf (fs2 := [.int (1), .ref 70, .int (0), .ref 71, .int (0)]) m68_45 rfl (Nat.le_of_ble_eq_true rfl) rfl (Nat.le_of_ble_eq_true rfl) trivial rfl rfl rfl ?_
        refine g_iload_n m68_48 rfl ?_
        refine g_if_ltF m68_49 (by decide) ?_
        refine g_bipush m68_52 ?_
        refine g_iload_n m68_54 rfl ?_
        refine g_isub (u := (-10 : Int32)) m68_55 (by decide) ?_
        refine g_iret m68_56 rfl ?_
        refine gwst (st' := [.int (-10)]) rfl ?_
        refine FRg rfl (fun f => ?_)
        refine g_aload_n m190_544 rfl ?_
        refine g_aload_n m190_545 rfl ?_
        refine g_iload_n m190_546 rfl ?_
        refine g_iconst m190_547 ?_
        refine g_iadd (u := (1 : Int32)) m190_548 (by decide) ?_
        refine g_iald (x := s1) m190_549 rfl (vin rfl) rfl ?_
        refine g_cv (args := [.int _]) (rest := [.int (-10)]) m190_550 (Nat.le_of_ble_eq_true rfl) rfl rfl rfl (Nat.le_of_ble_eq_true rfl) ?_
        refine wp_in (L := [some (.ref 89), some (.int _), none, none, none]) (Nat.le_of_ble_eq_true rfl) rfl ?_
        refine g_iload_n m140_0 rfl ?_
        refine g_iconst m140_1 ?_
        refine g_iconst m140_2 ?_
        refine g_cs (args := [.int _, .int (0), .int (1)]) (rest := []) 0 (Or.inl rfl) m140_3 (Nat.le_of_ble_eq_true rfl) rfl rfl (Nat.le_of_ble_eq_true rfl) ?_
        refine wp_in (L := [some (.int _), some (.int (0)), some (.int (1))]) (Nat.le_of_ble_eq_true rfl) rfl ?_
        refine g_iload_n m107_0 rfl ?_
        refine g_iload_n m107_1 rfl ?_
        refine g_ic_ltF m107_2 (fun q => absurd ((lt_k (a := (s1).toInt) (b := 0) (by rfl) (by rfl)).mp q) (by omega)) ?_
        refine g_iload_n m107_5 rfl ?_
        refine g_iload_n m107_6 rfl ?_
        refine g_ic_gtF m107_7 (fun q => absurd ((lt_k (a := 1) (b := (s1).toInt) (by rfl) (by rfl)).mp q) (by omega)) ?_
        refine g_iconst m107_10 ?_
        refine g_goto m107_11 ?_
        refine g_zret m107_15 rfl (Or.inr rfl) ?_
        refine gwst (st' := [.int (1)]) rfl ?_
        refine g_if_neF m140_6 (by decide) ?_
        refine g_aload_n m140_16 rfl ?_
        refine g_aload_n m140_17 rfl ?_
        refine g_gf m140_18 rfl rfl ?_
        refine g_aload_n m140_21 rfl ?_
        refine g_gf m140_22 rfl rfl ?_
        refine g_cv (args := [.ref 90, .ref 93]) (rest := []) m140_25 (Nat.le_of_ble_eq_true rfl) rfl rfl rfl (Nat.le_of_ble_eq_true rfl) ?_
        refine c_moveAll rfl (Nat.le_of_ble_eq_true rfl) rfl (by rfl) (by rfl) (by decide) ?_
        refine gwst (st' := []) rfl ?_
        refine g_iconst m140_28 ?_
        refine g_istore_n (L2 := [some (.ref 89), some (.int _), some (.int (0)), none, none]) m140_29 rfl rfl ?_
        refine g_iload_n m140_30 rfl ?_
        refine g_bipush m140_31 ?_
        refine g_ic_geF m140_33 (by decide) ?_
        refine g_aload_n m140_36 rfl ?_
        refine g_gf m140_37 rfl rfl ?_
        refine g_sipush m140_40 ?_
        refine g_bipush m140_43 ?_
        refine g_iload_n m140_45 rfl ?_
        obtain ⟨j10, e11, x12⟩ := nat_of (x := s1) (lo := 1) (hi := 1) (by omega) (by omega)
        obtain rfl : j10 = 1 := by omega
        have x12q : s1 = (1 : Int32) := x12
        clear x12
        subst x12q
        refine g_imul (u := (50 : Int32)) m140_46 (by decide) ?_
        refine g_iadd (u := (184 : Int32)) m140_47 (by decide) ?_
        refine g_iload_n m140_48 rfl ?_
        refine g_iadd (u := (184 : Int32)) m140_49 (by decide) ?_
        refine g_aload_n m140_50 rfl ?_
        refine g_gf m140_51 rfl rfl ?_
        refine g_bipush m140_54 ?_
        refine g_iload_n m140_56 rfl ?_
        refine g_iadd (u := (64 : Int32)) m140_57 (by decide) ?_
        refine g_iald (x := (0 : Int32)) m140_58 rfl (vin rfl) rfl ?_
        refine g_iast m140_59 (Nat.le_of_ble_eq_true rfl) rfl (vin rfl) rfl rfl (set_idem rfl (by decide +kernel)) ?_
        refine g_iinc (x2 := (1 : Int32)) (L2 := [some (.ref 89), some (.int (1)), some (.int (1)), none, none]) m140_60 rfl (by decide) rfl rfl ?_
        refine g_goto m140_63 ?_
        refine g_iload_n m140_30 rfl ?_
        refine g_bipush m140_31 ?_
        refine g_ic_geF m140_33 (by decide) ?_
        refine g_aload_n m140_36 rfl ?_
        refine g_gf m140_37 rfl rfl ?_
        refine g_sipush m140_40 ?_
        refine g_bipush m140_43 ?_
        refine g_iload_n m140_45 rfl ?_
        refine g_imul (u := (50 : Int32)) m140_46 (by decide) ?_
        refine g_iadd (u := (184 : Int32)) m140_47 (by decide) ?_
        refine g_iload_n m140_48 rfl ?_
        refine g_iadd (u := (185 : Int32)) m140_49 (by decide) ?_
        refine g_aload_n m140_50 rfl ?_
        refine g_gf m140_51 rfl rfl ?_
        refine g_bipush m140_54 ?_
        refine g_iload_n m140_56 rfl ?_
        refine g_iadd (u := (65 : Int32)) m140_57 (by decide) ?_
        refine g_iald (x := (0 : Int32)) m140_58 rfl (vin rfl) rfl ?_
        refine g_iast m140_59 (Nat.le_of_ble_eq_true rfl) rfl (vin rfl) rfl rfl (set_idem rfl (by decide +kernel)) ?_
        refine g_iinc (x2 := (2 : Int32)) (L2 := [some (.ref 89), some (.int (1)), some (.int (2)), none, none]) m140_60 rfl (by decide) rfl rfl ?_
        refine g_goto m140_63 ?_
        refine g_iload_n m140_30 rfl ?_
        refine g_bipush m140_31 ?_
        refine g_ic_geF m140_33 (by decide) ?_
        refine g_aload_n m140_36 rfl ?_
        refine g_gf m140_37 rfl rfl ?_
        refine g_sipush m140_40 ?_
        refine g_bipush m140_43 ?_
        refine g_iload_n m140_45 rfl ?_
        refine g_imul (u := (50 : Int32)) m140_46 (by decide) ?_
        refine g_iadd (u := (184 : Int32)) m140_47 (by decide) ?_
        refine g_iload_n m140_48 rfl ?_
        refine g_iadd (u := (186 : Int32)) m140_49 (by decide) ?_
        refine g_aload_n m140_50 rfl ?_
        refine g_gf m140_51 rfl rfl ?_
        refine g_bipush m140_54 ?_
        refine g_iload_n m140_56 rfl ?_
        refine g_iadd (u := (66 : Int32)) m140_57 (by decide) ?_
        refine g_iald (x := (0 : Int32)) m140_58 rfl (vin rfl) rfl ?_
        refine g_iast m140_59 (Nat.le_of_ble_eq_true rfl) rfl (vin rfl) rfl rfl (set_idem rfl (by decide +kernel)) ?_
        refine g_iinc (x2 := (3 : Int32)) (L2 := [some (.ref 89), some (.int (1)), some (.int (3)), none, none]) m140_60 rfl (by decide) rfl rfl ?_
        refine g_goto m140_63 ?_
        refine g_iload_n m140_30 rfl ?_
        refine g_bipush m140_31 ?_
        refine g_ic_geF m140_33 (by decide) ?_
        refine g_aload_n m140_36 rfl ?_
        refine g_gf m140_37 rfl rfl ?_
        refine g_sipush m140_40 ?_
        refine g_bipush m140_43 ?_
        refine g_iload_n m140_45 rfl ?_
        refine g_imul (u := (50 : Int32)) m140_46 (by decide) ?_
        refine g_iadd (u := (184 : Int32)) m140_47 (by decide) ?_
        refine g_iload_n m140_48 rfl ?_
        refine g_iadd (u := (187 : Int32)) m140_49 (by decide) ?_
        refine g_aload_n m140_50 rfl ?_
        refine g_gf m140_51 rfl rfl ?_
        refine g_bipush m140_54 ?_
        refine g_iload_n m140_56 rfl ?_
        refine g_iadd (u := (67 : Int32)) m140_57 (by decide) ?_
        refine g_iald (x := (0 : Int32)) m140_58 rfl (vin rfl) rfl ?_
        refine g_iast m140_59 (Nat.le_of_ble_eq_true rfl) rfl (vin rfl) rfl rfl (set_idem rfl (by decide +kernel)) ?_
        refine g_iinc (x2 := (4 : Int32)) (L2 := [some (.ref 89), some (.int (1)), some (.int (4)), none, none]) m140_60 rfl (by decide) rfl rfl ?_
        refine g_goto m140_63 ?_
        refine g_iload_n m140_30 rfl ?_
        refine g_bipush m140_31 ?_
        refine g_ic_geF m140_33 (by decide) ?_
        refine g_aload_n m140_36 rfl ?_
        refine g_gf m140_37 rfl rfl ?_
        refine g_sipush m140_40 ?_
        refine g_bipush m140_43 ?_
        refine g_iload_n m140_45 rfl ?_
        refine g_imul (u := (50 : Int32)) m140_46 (by decide) ?_
        refine g_iadd (u := (184 : Int32)) m140_47 (by decide) ?_
        refine g_iload_n m140_48 rfl ?_
        refine g_iadd (u := (188 : Int32)) m140_49 (by decide) ?_
        refine g_aload_n m140_50 rfl ?_
        refine g_gf m140_51 rfl rfl ?_
        refine g_bipush m140_54 ?_
        refine g_iload_n m140_56 rfl ?_
        refine g_iadd (u := (68 : Int32)) m140_57 (by decide) ?_
        refine g_iald (x := (0 : Int32)) m140_58 rfl (vin rfl) rfl ?_
        refine g_iast m140_59 (Nat.le_of_ble_eq_true rfl) rfl (vin rfl) rfl rfl (set_idem rfl (by decide +kernel)) ?_
        refine g_iinc (x2 := (5 : Int32)) (L2 := [some (.ref 89), some (.int (1)), some (.int (5)), none, none]) m140_60 rfl (by decide) rfl rfl ?_
        refine g_goto m140_63 ?_
        refine g_iload_n m140_30 rfl ?_
        refine g_bipush m140_31 ?_
        refine g_ic_geF m140_33 (by decide) ?_
        refine g_aload_n m140_36 rfl ?_
        refine g_gf m140_37 rfl rfl ?_
        refine g_sipush m140_40 ?_
        refine g_bipush m140_43 ?_
        refine g_iload_n m140_45 rfl ?_
        refine g_imul (u := (50 : Int32)) m140_46 (by decide) ?_
        refine g_iadd (u := (184 : Int32)) m140_47 (by decide) ?_
        refine g_iload_n m140_48 rfl ?_
        refine g_iadd (u := (189 : Int32)) m140_49 (by decide) ?_
        refine g_aload_n m140_50 rfl ?_
        refine g_gf m140_51 rfl rfl ?_
        refine g_bipush m140_54 ?_
        refine g_iload_n m140_56 rfl ?_
        refine g_iadd (u := (69 : Int32)) m140_57 (by decide) ?_
        refine g_iald (x := (0 : Int32)) m140_58 rfl (vin rfl) rfl ?_
        refine g_iast m140_59 (Nat.le_of_ble_eq_true rfl) rfl (vin rfl) rfl rfl (set_idem rfl (by decide +kernel)) ?_
        refine g_iinc (x2 := (6 : Int32)) (L2 := [some (.ref 89), some (.int (1)), some (.int (6)), none, none]) m140_60 rfl (by decide) rfl rfl ?_
        refine g_goto m140_63 ?_
        refine g_iload_n m140_30 rfl ?_
        refine g_bipush m140_31 ?_
        refine g_ic_geF m140_33 (by decide) ?_
        refine g_aload_n m140_36 rfl ?_
        refine g_gf m140_37 rfl rfl ?_
        refine g_sipush m140_40 ?_
        refine g_bipush m140_43 ?_
        refine g_iload_n m140_45 rfl ?_
        refine g_imul (u := (50 : Int32)) m140_46 (by decide) ?_
        refine g_iadd (u := (184 : Int32)) m140_47 (by decide) ?_
        refine g_iload_n m140_48 rfl ?_
        refine g_iadd (u := (190 : Int32)) m140_49 (by decide) ?_
        refine g_aload_n m140_50 rfl ?_
        refine g_gf m140_51 rfl rfl ?_
        refine g_bipush m140_54 ?_
        refine g_iload_n m140_56 rfl ?_
        refine g_iadd (u := (70 : Int32)) m140_57 (by decide) ?_
        refine g_iald (x := (0 : Int32)) m140_58 rfl (vin rfl) rfl ?_
        refine g_iast m140_59 (Nat.le_of_ble_eq_true rfl) rfl (vin rfl) rfl rfl (set_idem rfl (by decide +kernel)) ?_
        refine g_iinc (x2 := (7 : Int32)) (L2 := [some (.ref 89), some (.int (1)), some (.int (7)), none, none]) m140_60 rfl (by decide) rfl rfl ?_
        refine g_goto m140_63 ?_
        refine g_iload_n m140_30 rfl ?_
        refine g_bipush m140_31 ?_
        refine g_ic_geF m140_33 (by decide) ?_
        refine g_aload_n m140_36 rfl ?_
        refine g_gf m140_37 rfl rfl ?_
        refine g_sipush m140_40 ?_
        refine g_bipush m140_43 ?_
        refine g_iload_n m140_45 rfl ?_
        refine g_imul (u := (50 : Int32)) m140_46 (by decide) ?_
        refine g_iadd (u := (184 : Int32)) m140_47 (by decide) ?_
        refine g_iload_n m140_48 rfl ?_
        refine g_iadd (u := (191 : Int32)) m140_49 (by decide) ?_
        refine g_aload_n m140_50 rfl ?_
        refine g_gf m140_51 rfl rfl ?_
        refine g_bipush m140_54 ?_
        refine g_iload_n m140_56 rfl ?_
        refine g_iadd (u := (71 : Int32)) m140_57 (by decide) ?_
        refine g_iald (x := (0 : Int32)) m140_58 rfl (vin rfl) rfl ?_
        refine g_iast m140_59 (Nat.le_of_ble_eq_true rfl) rfl (vin rfl) rfl rfl (set_idem rfl (by decide +kernel)) ?_
        refine g_iinc (x2 := (8 : Int32)) (L2 := [some (.ref 89), some (.int (1)), some (.int (8)), none, none]) m140_60 rfl (by decide) rfl rfl ?_
        refine g_goto m140_63 ?_
        refine g_iload_n m140_30 rfl ?_
        refine g_bipush m140_31 ?_
        refine g_ic_geF m140_33 (by decide) ?_
        refine g_aload_n m140_36 rfl ?_
        refine g_gf m140_37 rfl rfl ?_
        refine g_sipush m140_40 ?_
        refine g_bipush m140_43 ?_
        refine g_iload_n m140_45 rfl ?_
        refine g_imul (u := (50 : Int32)) m140_46 (by decide) ?_
        refine g_iadd (u := (184 : Int32)) m140_47 (by decide) ?_
        refine g_iload_n m140_48 rfl ?_
        refine g_iadd (u := (192 : Int32)) m140_49 (by decide) ?_
        refine g_aload_n m140_50 rfl ?_
        refine g_gf m140_51 rfl rfl ?_
        refine g_bipush m140_54 ?_
        refine g_iload_n m140_56 rfl ?_
        refine g_iadd (u := (72 : Int32)) m140_57 (by decide) ?_
        refine g_iald (x := (0 : Int32)) m140_58 rfl (vin rfl) rfl ?_
        refine g_iast m140_59 (Nat.le_of_ble_eq_true rfl) rfl (vin rfl) rfl rfl (set_idem rfl (by decide +kernel)) ?_
        refine g_iinc (x2 := (9 : Int32)) (L2 := [some (.ref 89), some (.int (1)), some (.int (9)), none, none]) m140_60 rfl (by decide) rfl rfl ?_
        refine g_goto m140_63 ?_
        refine g_iload_n m140_30 rfl ?_
        refine g_bipush m140_31 ?_
        refine g_ic_geF m140_33 (by decide) ?_
        refine g_aload_n m140_36 rfl ?_
        refine g_gf m140_37 rfl rfl ?_
        refine g_sipush m140_40 ?_
        refine g_bipush m140_43 ?_
        refine g_iload_n m140_45 rfl ?_
        refine g_imul (u := (50 : Int32)) m140_46 (by decide) ?_
        refine g_iadd (u := (184 : Int32)) m140_47 (by decide) ?_
        refine g_iload_n m140_48 rfl ?_
        refine g_iadd (u := (193 : Int32)) m140_49 (by decide) ?_
        refine g_aload_n m140_50 rfl ?_
        refine g_gf m140_51 rfl rfl ?_
        refine g_bipush m140_54 ?_
        refine g_iload_n m140_56 rfl ?_
        refine g_iadd (u := (73 : Int32)) m140_57 (by decide) ?_
        refine g_iald (x := (0 : Int32)) m140_58 rfl (vin rfl) rfl ?_
        refine g_iast m140_59 (Nat.le_of_ble_eq_true rfl) rfl (vin rfl) rfl rfl (set_idem rfl (by decide +kernel)) ?_
        refine g_iinc (x2 := (10 : Int32)) (L2 := [some (.ref 89), some (.int (1)), some (.int (10)), none, none]) m140_60 rfl (by decide) rfl rfl ?_
        refine g_goto m140_63 ?_
        refine g_iload_n m140_30 rfl ?_
        refine g_bipush m140_31 ?_
        refine g_ic_geF m140_33 (by decide) ?_
        refine g_aload_n m140_36 rfl ?_
        refine g_gf m140_37 rfl rfl ?_
        refine g_sipush m140_40 ?_
        refine g_bipush m140_43 ?_
        refine g_iload_n m140_45 rfl ?_
        refine g_imul (u := (50 : Int32)) m140_46 (by decide) ?_
        refine g_iadd (u := (184 : Int32)) m140_47 (by decide) ?_
        refine g_iload_n m140_48 rfl ?_
        refine g_iadd (u := (194 : Int32)) m140_49 (by decide) ?_
        refine g_aload_n m140_50 rfl ?_
        refine g_gf m140_51 rfl rfl ?_
        refine g_bipush m140_54 ?_
        refine g_iload_n m140_56 rfl ?_
        refine g_iadd (u := (74 : Int32)) m140_57 (by decide) ?_
        refine g_iald (x := (0 : Int32)) m140_58 rfl (vin rfl) rfl ?_
        refine g_iast m140_59 (Nat.le_of_ble_eq_true rfl) rfl (vin rfl) rfl rfl (set_idem rfl (by decide +kernel)) ?_
        refine g_iinc (x2 := (11 : Int32)) (L2 := [some (.ref 89), some (.int (1)), some (.int (11)), none, none]) m140_60 rfl (by decide) rfl rfl ?_
        refine g_goto m140_63 ?_
        refine g_iload_n m140_30 rfl ?_
        refine g_bipush m140_31 ?_
        refine g_ic_geF m140_33 (by decide) ?_
        refine g_aload_n m140_36 rfl ?_
        refine g_gf m140_37 rfl rfl ?_
        refine g_sipush m140_40 ?_
        refine g_bipush m140_43 ?_
        refine g_iload_n m140_45 rfl ?_
        refine g_imul (u := (50 : Int32)) m140_46 (by decide) ?_
        refine g_iadd (u := (184 : Int32)) m140_47 (by decide) ?_
        refine g_iload_n m140_48 rfl ?_
        refine g_iadd (u := (195 : Int32)) m140_49 (by decide) ?_
        refine g_aload_n m140_50 rfl ?_
        refine g_gf m140_51 rfl rfl ?_
        refine g_bipush m140_54 ?_
        refine g_iload_n m140_56 rfl ?_
        refine g_iadd (u := (75 : Int32)) m140_57 (by decide) ?_
        refine g_iald (x := (0 : Int32)) m140_58 rfl (vin rfl) rfl ?_
        refine g_iast m140_59 (Nat.le_of_ble_eq_true rfl) rfl (vin rfl) rfl rfl (set_idem rfl (by decide +kernel)) ?_
        refine g_iinc (x2 := (12 : Int32)) (L2 := [some (.ref 89), some (.int (1)), some (.int (12)), none, none]) m140_60 rfl (by decide) rfl rfl ?_
        refine g_goto m140_63 ?_
        refine g_iload_n m140_30 rfl ?_
        refine g_bipush m140_31 ?_
        refine g_ic_geF m140_33 (by decide) ?_
        refine g_aload_n m140_36 rfl ?_
        refine g_gf m140_37 rfl rfl ?_
        refine g_sipush m140_40 ?_
        refine g_bipush m140_43 ?_
        refine g_iload_n m140_45 rfl ?_
        refine g_imul (u := (50 : Int32)) m140_46 (by decide) ?_
        refine g_iadd (u := (184 : Int32)) m140_47 (by decide) ?_
        refine g_iload_n m140_48 rfl ?_
        refine g_iadd (u := (196 : Int32)) m140_49 (by decide) ?_
        refine g_aload_n m140_50 rfl ?_
        refine g_gf m140_51 rfl rfl ?_
        refine g_bipush m140_54 ?_
        refine g_iload_n m140_56 rfl ?_
        refine g_iadd (u := (76 : Int32)) m140_57 (by decide) ?_
        refine g_iald (x := (0 : Int32)) m140_58 rfl (vin rfl) rfl ?_
        refine g_iast m140_59 (Nat.le_of_ble_eq_true rfl) rfl (vin rfl) rfl rfl (set_idem rfl (by decide +kernel)) ?_
        refine g_iinc (x2 := (13 : Int32)) (L2 := [some (.ref 89), some (.int (1)), some (.int (13)), none, none]) m140_60 rfl (by decide) rfl rfl ?_
        refine g_goto m140_63 ?_
        refine g_iload_n m140_30 rfl ?_
        refine g_bipush m140_31 ?_
        refine g_ic_geF m140_33 (by decide) ?_
        refine g_aload_n m140_36 rfl ?_
        refine g_gf m140_37 rfl rfl ?_
        refine g_sipush m140_40 ?_
        refine g_bipush m140_43 ?_
        refine g_iload_n m140_45 rfl ?_
        refine g_imul (u := (50 : Int32)) m140_46 (by decide) ?_
        refine g_iadd (u := (184 : Int32)) m140_47 (by decide) ?_
        refine g_iload_n m140_48 rfl ?_
        refine g_iadd (u := (197 : Int32)) m140_49 (by decide) ?_
        refine g_aload_n m140_50 rfl ?_
        refine g_gf m140_51 rfl rfl ?_
        refine g_bipush m140_54 ?_
        refine g_iload_n m140_56 rfl ?_
        refine g_iadd (u := (77 : Int32)) m140_57 (by decide) ?_
        refine g_iald (x := (0 : Int32)) m140_58 rfl (vin rfl) rfl ?_
        refine g_iast m140_59 (Nat.le_of_ble_eq_true rfl) rfl (vin rfl) rfl rfl (set_idem rfl (by decide +kernel)) ?_
        refine g_iinc (x2 := (14 : Int32)) (L2 := [some (.ref 89), some (.int (1)), some (.int (14)), none, none]) m140_60 rfl (by decide) rfl rfl ?_
        refine g_goto m140_63 ?_
        refine g_iload_n m140_30 rfl ?_
        refine g_bipush m140_31 ?_
        refine g_ic_geF m140_33 (by decide) ?_
        refine g_aload_n m140_36 rfl ?_
        refine g_gf m140_37 rfl rfl ?_
        refine g_sipush m140_40 ?_
        refine g_bipush m140_43 ?_
        refine g_iload_n m140_45 rfl ?_
        refine g_imul (u := (50 : Int32)) m140_46 (by decide) ?_
        refine g_iadd (u := (184 : Int32)) m140_47 (by decide) ?_
        refine g_iload_n m140_48 rfl ?_
        refine g_iadd (u := (198 : Int32)) m140_49 (by decide) ?_
        refine g_aload_n m140_50 rfl ?_
        refine g_gf m140_51 rfl rfl ?_
        refine g_bipush m140_54 ?_
        refine g_iload_n m140_56 rfl ?_
        refine g_iadd (u := (78 : Int32)) m140_57 (by decide) ?_
        refine g_iald (x := (0 : Int32)) m140_58 rfl (vin rfl) rfl ?_
        refine g_iast m140_59 (Nat.le_of_ble_eq_true rfl) rfl (vin rfl) rfl rfl (set_idem rfl (by decide +kernel)) ?_
        refine g_iinc (x2 := (15 : Int32)) (L2 := [some (.ref 89), some (.int (1)), some (.int (15)), none, none]) m140_60 rfl (by decide) rfl rfl ?_
        refine g_goto m140_63 ?_
        refine g_iload_n m140_30 rfl ?_
        refine g_bipush m140_31 ?_
        refine g_ic_geF m140_33 (by decide) ?_
        refine g_aload_n m140_36 rfl ?_
        refine g_gf m140_37 rfl rfl ?_
        refine g_sipush m140_40 ?_
        refine g_bipush m140_43 ?_
        refine g_iload_n m140_45 rfl ?_
        refine g_imul (u := (50 : Int32)) m140_46 (by decide) ?_
        refine g_iadd (u := (184 : Int32)) m140_47 (by decide) ?_
        refine g_iload_n m140_48 rfl ?_
        refine g_iadd (u := (199 : Int32)) m140_49 (by decide) ?_
        refine g_aload_n m140_50 rfl ?_
        refine g_gf m140_51 rfl rfl ?_
        refine g_bipush m140_54 ?_
        refine g_iload_n m140_56 rfl ?_
        refine g_iadd (u := (79 : Int32)) m140_57 (by decide) ?_
        refine g_iald (x := (0 : Int32)) m140_58 rfl (vin rfl) rfl ?_
        refine g_iast m140_59 (Nat.le_of_ble_eq_true rfl) rfl (vin rfl) rfl rfl (set_idem rfl (by decide +kernel)) ?_
        refine g_iinc (x2 := (16 : Int32)) (L2 := [some (.ref 89), some (.int (1)), some (.int (16)), none, none]) m140_60 rfl (by decide) rfl rfl ?_
        refine g_goto m140_63 ?_
        refine g_iload_n m140_30 rfl ?_
        refine g_bipush m140_31 ?_
        refine g_ic_geF m140_33 (by decide) ?_
        refine g_aload_n m140_36 rfl ?_
        refine g_gf m140_37 rfl rfl ?_
        refine g_sipush m140_40 ?_
        refine g_bipush m140_43 ?_
        refine g_iload_n m140_45 rfl ?_
        refine g_imul (u := (50 : Int32)) m140_46 (by decide) ?_
        refine g_iadd (u := (184 : Int32)) m140_47 (by decide) ?_
        refine g_iload_n m140_48 rfl ?_
        refine g_iadd (u := (200 : Int32)) m140_49 (by decide) ?_
        refine g_aload_n m140_50 rfl ?_
        refine g_gf m140_51 rfl rfl ?_
        refine g_bipush m140_54 ?_
        refine g_iload_n m140_56 rfl ?_
        refine g_iadd (u := (80 : Int32)) m140_57 (by decide) ?_
        refine g_iald (x := (0 : Int32)) m140_58 rfl (vin rfl) rfl ?_
        refine g_iast m140_59 (Nat.le_of_ble_eq_true rfl) rfl (vin rfl) rfl rfl (set_idem rfl (by decide +kernel)) ?_
        refine g_iinc (x2 := (17 : Int32)) (L2 := [some (.ref 89), some (.int (1)), some (.int (17)), none, none]) m140_60 rfl (by decide) rfl rfl ?_
        refine g_goto m140_63 ?_
        refine g_iload_n m140_30 rfl ?_
        refine g_bipush m140_31 ?_
        refine g_ic_geF m140_33 (by decide) ?_
        refine g_aload_n m140_36 rfl ?_
        refine g_gf m140_37 rfl rfl ?_
        refine g_sipush m140_40 ?_
        refine g_bipush m140_43 ?_
        refine g_iload_n m140_45 rfl ?_
        refine g_imul (u := (50 : Int32)) m140_46 (by decide) ?_
        refine g_iadd (u := (184 : Int32)) m140_47 (by decide) ?_
        refine g_iload_n m140_48 rfl ?_
        refine g_iadd (u := (201 : Int32)) m140_49 (by decide) ?_
        refine g_aload_n m140_50 rfl ?_
        refine g_gf m140_51 rfl rfl ?_
        refine g_bipush m140_54 ?_
        refine g_iload_n m140_56 rfl ?_
        refine g_iadd (u := (81 : Int32)) m140_57 (by decide) ?_
        refine g_iald (x := (0 : Int32)) m140_58 rfl (vin rfl) rfl ?_
        refine g_iast m140_59 (Nat.le_of_ble_eq_true rfl) rfl (vin rfl) rfl rfl (set_idem rfl (by decide +kernel)) ?_
        refine g_iinc (x2 := (18 : Int32)) (L2 := [some (.ref 89), some (.int (1)), some (.int (18)), none, none]) m140_60 rfl (by decide) rfl rfl ?_
        refine g_goto m140_63 ?_
        refine g_iload_n m140_30 rfl ?_
        refine g_bipush m140_31 ?_
        refine g_ic_geF m140_33 (by decide) ?_
        refine g_aload_n m140_36 rfl ?_
        refine g_gf m140_37 rfl rfl ?_
        refine g_sipush m140_40 ?_
        refine g_bipush m140_43 ?_
        refine g_iload_n m140_45 rfl ?_
        refine g_imul (u := (50 : Int32)) m140_46 (by decide) ?_
        refine g_iadd (u := (184 : Int32)) m140_47 (by decide) ?_
        refine g_iload_n m140_48 rfl ?_
        refine g_iadd (u := (202 : Int32)) m140_49 (by decide) ?_
        refine g_aload_n m140_50 rfl ?_
        refine g_gf m140_51 rfl rfl ?_
        refine g_bipush m140_54 ?_
        refine g_iload_n m140_56 rfl ?_
        refine g_iadd (u := (82 : Int32)) m140_57 (by decide) ?_
        refine g_iald (x := (0 : Int32)) m140_58 rfl (vin rfl) rfl ?_
        refine g_iast m140_59 (Nat.le_of_ble_eq_true rfl) rfl (vin rfl) rfl rfl (set_idem rfl (by decide +kernel)) ?_
        refine g_iinc (x2 := (19 : Int32)) (L2 := [some (.ref 89), some (.int (1)), some (.int (19)), none, none]) m140_60 rfl (by decide) rfl rfl ?_
        refine g_goto m140_63 ?_
        refine g_iload_n m140_30 rfl ?_
        refine g_bipush m140_31 ?_
        refine g_ic_geF m140_33 (by decide) ?_
        refine g_aload_n m140_36 rfl ?_
        refine g_gf m140_37 rfl rfl ?_
        refine g_sipush m140_40 ?_
        refine g_bipush m140_43 ?_
        refine g_iload_n m140_45 rfl ?_
        refine g_imul (u := (50 : Int32)) m140_46 (by decide) ?_
        refine g_iadd (u := (184 : Int32)) m140_47 (by decide) ?_
        refine g_iload_n m140_48 rfl ?_
        refine g_iadd (u := (203 : Int32)) m140_49 (by decide) ?_
        refine g_aload_n m140_50 rfl ?_
        refine g_gf m140_51 rfl rfl ?_
        refine g_bipush m140_54 ?_
        refine g_iload_n m140_56 rfl ?_
        refine g_iadd (u := (83 : Int32)) m140_57 (by decide) ?_
        refine g_iald (x := (0 : Int32)) m140_58 rfl (vin rfl) rfl ?_
        refine g_iast m140_59 (Nat.le_of_ble_eq_true rfl) rfl (vin rfl) rfl rfl (set_idem rfl (by decide +kernel)) ?_
        refine g_iinc (x2 := (20 : Int32)) (L2 := [some (.ref 89), some (.int (1)), some (.int (20)), none, none]) m140_60 rfl (by decide) rfl rfl ?_
        refine g_goto m140_63 ?_
        refine g_iload_n m140_30 rfl ?_
        refine g_bipush m140_31 ?_
        refine g_ic_geF m140_33 (by decide) ?_
        refine g_aload_n m140_36 rfl ?_
        refine g_gf m140_37 rfl rfl ?_
        refine g_sipush m140_40 ?_
        refine g_bipush m140_43 ?_
        refine g_iload_n m140_45 rfl ?_
        refine g_imul (u := (50 : Int32)) m140_46 (by decide) ?_
        refine g_iadd (u := (184 : Int32)) m140_47 (by decide) ?_
        refine g_iload_n m140_48 rfl ?_
        refine g_iadd (u := (204 : Int32)) m140_49 (by decide) ?_
        refine g_aload_n m140_50 rfl ?_
        refine g_gf m140_51 rfl rfl ?_
        refine g_bipush m140_54 ?_
        refine g_iload_n m140_56 rfl ?_
        refine g_iadd (u := (84 : Int32)) m140_57 (by decide) ?_
        refine g_iald (x := (0 : Int32)) m140_58 rfl (vin rfl) rfl ?_
        refine g_iast m140_59 (Nat.le_of_ble_eq_true rfl) rfl (vin rfl) rfl rfl (set_idem rfl (by decide +kernel)) ?_
        refine g_iinc (x2 := (21 : Int32)) (L2 := [some (.ref 89), some (.int (1)), some (.int (21)), none, none]) m140_60 rfl (by decide) rfl rfl ?_
        refine g_goto m140_63 ?_
        refine g_iload_n m140_30 rfl ?_
        refine g_bipush m140_31 ?_
        refine g_ic_geF m140_33 (by decide) ?_
        refine g_aload_n m140_36 rfl ?_
        refine g_gf m140_37 rfl rfl ?_
        refine g_sipush m140_40 ?_
        refine g_bipush m140_43 ?_
        refine g_iload_n m140_45 rfl ?_
        refine g_imul (u := (50 : Int32)) m140_46 (by decide) ?_
        refine g_iadd (u := (184 : Int32)) m140_47 (by decide) ?_
        refine g_iload_n m140_48 rfl ?_
        refine g_iadd (u := (205 : Int32)) m140_49 (by decide) ?_
        refine g_aload_n m140_50 rfl ?_
        refine g_gf m140_51 rfl rfl ?_
        refine g_bipush m140_54 ?_
        refine g_iload_n m140_56 rfl ?_
        refine g_iadd (u := (85 : Int32)) m140_57 (by decide) ?_
        refine g_iald (x := (0 : Int32)) m140_58 rfl (vin rfl) rfl ?_
        refine g_iast m140_59 (Nat.le_of_ble_eq_true rfl) rfl (vin rfl) rfl rfl (set_idem rfl (by decide +kernel)) ?_
        refine g_iinc (x2 := (22 : Int32)) (L2 := [some (.ref 89), some (.int (1)), some (.int (22)), none, none]) m140_60 rfl (by decide) rfl rfl ?_
        refine g_goto m140_63 ?_
        refine g_iload_n m140_30 rfl ?_
        refine g_bipush m140_31 ?_
        refine g_ic_geF m140_33 (by decide) ?_
        refine g_aload_n m140_36 rfl ?_
        refine g_gf m140_37 rfl rfl ?_
        refine g_sipush m140_40 ?_
        refine g_bipush m140_43 ?_
        refine g_iload_n m140_45 rfl ?_
        refine g_imul (u := (50 : Int32)) m140_46 (by decide) ?_
        refine g_iadd (u := (184 : Int32)) m140_47 (by decide) ?_
        refine g_iload_n m140_48 rfl ?_
        refine g_iadd (u := (206 : Int32)) m140_49 (by decide) ?_
        refine g_aload_n m140_50 rfl ?_
        refine g_gf m140_51 rfl rfl ?_
        refine g_bipush m140_54 ?_
        refine g_iload_n m140_56 rfl ?_
        refine g_iadd (u := (86 : Int32)) m140_57 (by decide) ?_
        refine g_iald (x := (0 : Int32)) m140_58 rfl (vin rfl) rfl ?_
        refine g_iast m140_59 (Nat.le_of_ble_eq_true rfl) rfl (vin rfl) rfl rfl (set_idem rfl (by decide +kernel)) ?_
        refine g_iinc (x2 := (23 : Int32)) (L2 := [some (.ref 89), some (.int (1)), some (.int (23)), none, none]) m140_60 rfl (by decide) rfl rfl ?_
        refine g_goto m140_63 ?_
        refine g_iload_n m140_30 rfl ?_
        refine g_bipush m140_31 ?_
        refine g_ic_geF m140_33 (by decide) ?_
        refine g_aload_n m140_36 rfl ?_
        refine g_gf m140_37 rfl rfl ?_
        refine g_sipush m140_40 ?_
        refine g_bipush m140_43 ?_
        refine g_iload_n m140_45 rfl ?_
        refine g_imul (u := (50 : Int32)) m140_46 (by decide) ?_
        refine g_iadd (u := (184 : Int32)) m140_47 (by decide) ?_
        refine g_iload_n m140_48 rfl ?_
        refine g_iadd (u := (207 : Int32)) m140_49 (by decide) ?_
        refine g_aload_n m140_50 rfl ?_
        refine g_gf m140_51 rfl rfl ?_
        refine g_bipush m140_54 ?_
        refine g_iload_n m140_56 rfl ?_
        refine g_iadd (u := (87 : Int32)) m140_57 (by decide) ?_
        refine g_iald (x := (0 : Int32)) m140_58 rfl (vin rfl) rfl ?_
        refine g_iast m140_59 (Nat.le_of_ble_eq_true rfl) rfl (vin rfl) rfl rfl (set_idem rfl (by decide +kernel)) ?_
        refine g_iinc (x2 := (24 : Int32)) (L2 := [some (.ref 89), some (.int (1)), some (.int (24)), none, none]) m140_60 rfl (by decide) rfl rfl ?_
        refine g_goto m140_63 ?_
        refine g_iload_n m140_30 rfl ?_
        refine g_bipush m140_31 ?_
        refine g_ic_geF m140_33 (by decide) ?_
        refine g_aload_n m140_36 rfl ?_
        refine g_gf m140_37 rfl rfl ?_
        refine g_sipush m140_40 ?_
        refine g_bipush m140_43 ?_
        refine g_iload_n m140_45 rfl ?_
        refine g_imul (u := (50 : Int32)) m140_46 (by decide) ?_
        refine g_iadd (u := (184 : Int32)) m140_47 (by decide) ?_
        refine g_iload_n m140_48 rfl ?_
        refine g_iadd (u := (208 : Int32)) m140_49 (by decide) ?_
        refine g_aload_n m140_50 rfl ?_
        refine g_gf m140_51 rfl rfl ?_
        refine g_bipush m140_54 ?_
        refine g_iload_n m140_56 rfl ?_
        refine g_iadd (u := (88 : Int32)) m140_57 (by decide) ?_
        refine g_iald (x := (0 : Int32)) m140_58 rfl (vin rfl) rfl ?_
        refine g_iast m140_59 (Nat.le_of_ble_eq_true rfl) rfl (vin rfl) rfl rfl (set_idem rfl (by decide +kernel)) ?_
        refine g_iinc (x2 := (25 : Int32)) (L2 := [some (.ref 89), some (.int (1)), some (.int (25)), none, none]) m140_60 rfl (by decide) rfl rfl ?_
        refine g_goto m140_63 ?_
        refine g_iload_n m140_30 rfl ?_
        refine g_bipush m140_31 ?_
        refine g_ic_geF m140_33 (by decide) ?_
        refine g_aload_n m140_36 rfl ?_
        refine g_gf m140_37 rfl rfl ?_
        refine g_sipush m140_40 ?_
        refine g_bipush m140_43 ?_
        refine g_iload_n m140_45 rfl ?_
        refine g_imul (u := (50 : Int32)) m140_46 (by decide) ?_
        refine g_iadd (u := (184 : Int32)) m140_47 (by decide) ?_
        refine g_iload_n m140_48 rfl ?_
        refine g_iadd (u := (209 : Int32)) m140_49 (by decide) ?_
        refine g_aload_n m140_50 rfl ?_
        refine g_gf m140_51 rfl rfl ?_
        refine g_bipush m140_54 ?_
        refine g_iload_n m140_56 rfl ?_
        refine g_iadd (u := (89 : Int32)) m140_57 (by decide) ?_
        refine g_iald (x := (0 : Int32)) m140_58 rfl (vin rfl) rfl ?_
        refine g_iast m140_59 (Nat.le_of_ble_eq_true rfl) rfl (vin rfl) rfl rfl (set_idem rfl (by decide +kernel)) ?_
        refine g_iinc (x2 := (26 : Int32)) (L2 := [some (.ref 89), some (.int (1)), some (.int (26)), none, none]) m140_60 rfl (by decide) rfl rfl ?_
        refine g_goto m140_63 ?_
        refine g_iload_n m140_30 rfl ?_
        refine g_bipush m140_31 ?_
        refine g_ic_geF m140_33 (by decide) ?_
        refine g_aload_n m140_36 rfl ?_
        refine g_gf m140_37 rfl rfl ?_
        refine g_sipush m140_40 ?_
        refine g_bipush m140_43 ?_
        refine g_iload_n m140_45 rfl ?_
        refine g_imul (u := (50 : Int32)) m140_46 (by decide) ?_
        refine g_iadd (u := (184 : Int32)) m140_47 (by decide) ?_
        refine g_iload_n m140_48 rfl ?_
        refine g_iadd (u := (210 : Int32)) m140_49 (by decide) ?_
        refine g_aload_n m140_50 rfl ?_
        refine g_gf m140_51 rfl rfl ?_
        refine g_bipush m140_54 ?_
        refine g_iload_n m140_56 rfl ?_
        refine g_iadd (u := (90 : Int32)) m140_57 (by decide) ?_
        refine g_iald (x := (0 : Int32)) m140_58 rfl (vin rfl) rfl ?_
        refine g_iast m140_59 (Nat.le_of_ble_eq_true rfl) rfl (vin rfl) rfl rfl (set_idem rfl (by decide +kernel)) ?_
        refine g_iinc (x2 := (27 : Int32)) (L2 := [some (.ref 89), some (.int (1)), some (.int (27)), none, none]) m140_60 rfl (by decide) rfl rfl ?_
        refine g_goto m140_63 ?_
        refine g_iload_n m140_30 rfl ?_
        refine g_bipush m140_31 ?_
        refine g_ic_geF m140_33 (by decide) ?_
        refine g_aload_n m140_36 rfl ?_
        refine g_gf m140_37 rfl rfl ?_
        refine g_sipush m140_40 ?_
        refine g_bipush m140_43 ?_
        refine g_iload_n m140_45 rfl ?_
        refine g_imul (u := (50 : Int32)) m140_46 (by decide) ?_
        refine g_iadd (u := (184 : Int32)) m140_47 (by decide) ?_
        refine g_iload_n m140_48 rfl ?_
        refine g_iadd (u := (211 : Int32)) m140_49 (by decide) ?_
        refine g_aload_n m140_50 rfl ?_
        refine g_gf m140_51 rfl rfl ?_
        refine g_bipush m140_54 ?_
        refine g_iload_n m140_56 rfl ?_
        refine g_iadd (u := (91 : Int32)) m140_57 (by decide) ?_
        refine g_iald (x := (0 : Int32)) m140_58 rfl (vin rfl) rfl ?_
        refine g_iast m140_59 (Nat.le_of_ble_eq_true rfl) rfl (vin rfl) rfl rfl (set_idem rfl (by decide +kernel)) ?_
        refine g_iinc (x2 := (28 : Int32)) (L2 := [some (.ref 89), some (.int (1)), some (.int (28)), none, none]) m140_60 rfl (by decide) rfl rfl ?_
        refine g_goto m140_63 ?_
        refine g_iload_n m140_30 rfl ?_
        refine g_bipush m140_31 ?_
        refine g_ic_geF m140_33 (by decide) ?_
        refine g_aload_n m140_36 rfl ?_
        refine g_gf m140_37 rfl rfl ?_
        refine g_sipush m140_40 ?_
        refine g_bipush m140_43 ?_
        refine g_iload_n m140_45 rfl ?_
        refine g_imul (u := (50 : Int32)) m140_46 (by decide) ?_
        refine g_iadd (u := (184 : Int32)) m140_47 (by decide) ?_
        refine g_iload_n m140_48 rfl ?_
        refine g_iadd (u := (212 : Int32)) m140_49 (by decide) ?_
        refine g_aload_n m140_50 rfl ?_
        refine g_gf m140_51 rfl rfl ?_
        refine g_bipush m140_54 ?_
        refine g_iload_n m140_56 rfl ?_
        refine g_iadd (u := (92 : Int32)) m140_57 (by decide) ?_
        refine g_iald (x := (0 : Int32)) m140_58 rfl (vin rfl) rfl ?_
        refine g_iast m140_59 (Nat.le_of_ble_eq_true rfl) rfl (vin rfl) rfl rfl (set_idem rfl (by decide +kernel)) ?_
        refine g_iinc (x2 := (29 : Int32)) (L2 := [some (.ref 89), some (.int (1)), some (.int (29)), none, none]) m140_60 rfl (by decide) rfl rfl ?_
        refine g_goto m140_63 ?_
        refine g_iload_n m140_30 rfl ?_
        refine g_bipush m140_31 ?_
        refine g_ic_geF m140_33 (by decide) ?_
        refine g_aload_n m140_36 rfl ?_
        refine g_gf m140_37 rfl rfl ?_
        refine g_sipush m140_40 ?_
        refine g_bipush m140_43 ?_
        refine g_iload_n m140_45 rfl ?_
        refine g_imul (u := (50 : Int32)) m140_46 (by decide) ?_
        refine g_iadd (u := (184 : Int32)) m140_47 (by decide) ?_
        refine g_iload_n m140_48 rfl ?_
        refine g_iadd (u := (213 : Int32)) m140_49 (by decide) ?_
        refine g_aload_n m140_50 rfl ?_
        refine g_gf m140_51 rfl rfl ?_
        refine g_bipush m140_54 ?_
        refine g_iload_n m140_56 rfl ?_
        refine g_iadd (u := (93 : Int32)) m140_57 (by decide) ?_
        refine g_iald (x := (0 : Int32)) m140_58 rfl (vin rfl) rfl ?_
        refine g_iast m140_59 (Nat.le_of_ble_eq_true rfl) rfl (vin rfl) rfl rfl (set_idem rfl (by decide +kernel)) ?_
        refine g_iinc (x2 := (30 : Int32)) (L2 := [some (.ref 89), some (.int (1)), some (.int (30)), none, none]) m140_60 rfl (by decide) rfl rfl ?_
        refine g_goto m140_63 ?_
        refine g_iload_n m140_30 rfl ?_
        refine g_bipush m140_31 ?_
        refine g_ic_geF m140_33 (by decide) ?_
        refine g_aload_n m140_36 rfl ?_
        refine g_gf m140_37 rfl rfl ?_
        refine g_sipush m140_40 ?_
        refine g_bipush m140_43 ?_
        refine g_iload_n m140_45 rfl ?_
        refine g_imul (u := (50 : Int32)) m140_46 (by decide) ?_
        refine g_iadd (u := (184 : Int32)) m140_47 (by decide) ?_
        refine g_iload_n m140_48 rfl ?_
        refine g_iadd (u := (214 : Int32)) m140_49 (by decide) ?_
        refine g_aload_n m140_50 rfl ?_
        refine g_gf m140_51 rfl rfl ?_
        refine g_bipush m140_54 ?_
        refine g_iload_n m140_56 rfl ?_
        refine g_iadd (u := (94 : Int32)) m140_57 (by decide) ?_
        refine g_iald (x := (0 : Int32)) m140_58 rfl (vin rfl) rfl ?_
        refine g_iast m140_59 (Nat.le_of_ble_eq_true rfl) rfl (vin rfl) rfl rfl (set_idem rfl (by decide +kernel)) ?_
        refine g_iinc (x2 := (31 : Int32)) (L2 := [some (.ref 89), some (.int (1)), some (.int (31)), none, none]) m140_60 rfl (by decide) rfl rfl ?_
        refine g_goto m140_63 ?_
        refine g_iload_n m140_30 rfl ?_
        refine g_bipush m140_31 ?_
        refine g_ic_geF m140_33 (by decide) ?_
        refine g_aload_n m140_36 rfl ?_
        refine g_gf m140_37 rfl rfl ?_
        refine g_sipush m140_40 ?_
        refine g_bipush m140_43 ?_
        refine g_iload_n m140_45 rfl ?_
        refine g_imul (u := (50 : Int32)) m140_46 (by decide) ?_
        refine g_iadd (u := (184 : Int32)) m140_47 (by decide) ?_
        refine g_iload_n m140_48 rfl ?_
        refine g_iadd (u := (215 : Int32)) m140_49 (by decide) ?_
        refine g_aload_n m140_50 rfl ?_
        refine g_gf m140_51 rfl rfl ?_
        refine g_bipush m140_54 ?_
        refine g_iload_n m140_56 rfl ?_
        refine g_iadd (u := (95 : Int32)) m140_57 (by decide) ?_
        refine g_iald (x := (0 : Int32)) m140_58 rfl (vin rfl) rfl ?_
        refine g_iast m140_59 (Nat.le_of_ble_eq_true rfl) rfl (vin rfl) rfl rfl (set_idem rfl (by decide +kernel)) ?_
        refine g_iinc (x2 := (32 : Int32)) (L2 := [some (.ref 89), some (.int (1)), some (.int (32)), none, none]) m140_60 rfl (by decide) rfl rfl ?_
        refine g_goto m140_63 ?_
        refine g_iload_n m140_30 rfl ?_
        refine g_bipush m140_31 ?_
        refine g_ic_geF m140_33 (by decide) ?_
        refine g_aload_n m140_36 rfl ?_
        refine g_gf m140_37 rfl rfl ?_
        refine g_sipush m140_40 ?_
        refine g_bipush m140_43 ?_
        refine g_iload_n m140_45 rfl ?_
        refine g_imul (u := (50 : Int32)) m140_46 (by decide) ?_
        refine g_iadd (u := (184 : Int32)) m140_47 (by decide) ?_
        refine g_iload_n m140_48 rfl ?_
        refine g_iadd (u := (216 : Int32)) m140_49 (by decide) ?_
        refine g_aload_n m140_50 rfl ?_
        refine g_gf m140_51 rfl rfl ?_
        refine g_bipush m140_54 ?_
        refine g_iload_n m140_56 rfl ?_
        refine g_iadd (u := (96 : Int32)) m140_57 (by decide) ?_
        refine g_iald (x := (0 : Int32)) m140_58 rfl (vin rfl) rfl ?_
        refine g_iast m140_59 (Nat.le_of_ble_eq_true rfl) rfl (vin rfl) rfl rfl (set_idem rfl (by decide +kernel)) ?_
        refine g_iinc (x2 := (33 : Int32)) (L2 := [some (.ref 89), some (.int (1)), some (.int (33)), none, none]) m140_60 rfl (by decide) rfl rfl ?_
        refine g_goto m140_63 ?_
        refine g_iload_n m140_30 rfl ?_
        refine g_bipush m140_31 ?_
        refine g_ic_geF m140_33 (by decide) ?_
        refine g_aload_n m140_36 rfl ?_
        refine g_gf m140_37 rfl rfl ?_
        refine g_sipush m140_40 ?_
        refine g_bipush m140_43 ?_
        refine g_iload_n m140_45 rfl ?_
        refine g_imul (u := (50 : Int32)) m140_46 (by decide) ?_
        refine g_iadd (u := (184 : Int32)) m140_47 (by decide) ?_
        refine g_iload_n m140_48 rfl ?_
        refine g_iadd (u := (217 : Int32)) m140_49 (by decide) ?_
        refine g_aload_n m140_50 rfl ?_
        refine g_gf m140_51 rfl rfl ?_
        refine g_bipush m140_54 ?_
        refine g_iload_n m140_56 rfl ?_
        refine g_iadd (u := (97 : Int32)) m140_57 (by decide) ?_
        refine g_iald (x := (0 : Int32)) m140_58 rfl (vin rfl) rfl ?_
        refine g_iast m140_59 (Nat.le_of_ble_eq_true rfl) rfl (vin rfl) rfl rfl (set_idem rfl (by decide +kernel)) ?_
        refine g_iinc (x2 := (34 : Int32)) (L2 := [some (.ref 89), some (.int (1)), some (.int (34)), none, none]) m140_60 rfl (by decide) rfl rfl ?_
        refine g_goto m140_63 ?_
        refine g_iload_n m140_30 rfl ?_
        refine g_bipush m140_31 ?_
        refine g_ic_geF m140_33 (by decide) ?_
        refine g_aload_n m140_36 rfl ?_
        refine g_gf m140_37 rfl rfl ?_
        refine g_sipush m140_40 ?_
        refine g_bipush m140_43 ?_
        refine g_iload_n m140_45 rfl ?_
        refine g_imul (u := (50 : Int32)) m140_46 (by decide) ?_
        refine g_iadd (u := (184 : Int32)) m140_47 (by decide) ?_
        refine g_iload_n m140_48 rfl ?_
        refine g_iadd (u := (218 : Int32)) m140_49 (by decide) ?_
        refine g_aload_n m140_50 rfl ?_
        refine g_gf m140_51 rfl rfl ?_
        refine g_bipush m140_54 ?_
        refine g_iload_n m140_56 rfl ?_
        refine g_iadd (u := (98 : Int32)) m140_57 (by decide) ?_
        refine g_iald (x := (0 : Int32)) m140_58 rfl (vin rfl) rfl ?_
        refine g_iast m140_59 (Nat.le_of_ble_eq_true rfl) rfl (vin rfl) rfl rfl (set_idem rfl (by decide +kernel)) ?_
        refine g_iinc (x2 := (35 : Int32)) (L2 := [some (.ref 89), some (.int (1)), some (.int (35)), none, none]) m140_60 rfl (by decide) rfl rfl ?_
        refine g_goto m140_63 ?_
        refine g_iload_n m140_30 rfl ?_
        refine g_bipush m140_31 ?_
        refine g_ic_geF m140_33 (by decide) ?_
        refine g_aload_n m140_36 rfl ?_
        refine g_gf m140_37 rfl rfl ?_
        refine g_sipush m140_40 ?_
        refine g_bipush m140_43 ?_
        refine g_iload_n m140_45 rfl ?_
        refine g_imul (u := (50 : Int32)) m140_46 (by decide) ?_
        refine g_iadd (u := (184 : Int32)) m140_47 (by decide) ?_
        refine g_iload_n m140_48 rfl ?_
        refine g_iadd (u := (219 : Int32)) m140_49 (by decide) ?_
        refine g_aload_n m140_50 rfl ?_
        refine g_gf m140_51 rfl rfl ?_
        refine g_bipush m140_54 ?_
        refine g_iload_n m140_56 rfl ?_
        refine g_iadd (u := (99 : Int32)) m140_57 (by decide) ?_
        refine g_iald (x := (0 : Int32)) m140_58 rfl (vin rfl) rfl ?_
        refine g_iast m140_59 (Nat.le_of_ble_eq_true rfl) rfl (vin rfl) rfl rfl (set_idem rfl (by decide +kernel)) ?_
        refine g_iinc (x2 := (36 : Int32)) (L2 := [some (.ref 89), some (.int (1)), some (.int (36)), none, none]) m140_60 rfl (by decide) rfl rfl ?_
        refine g_goto m140_63 ?_
        refine g_iload_n m140_30 rfl ?_
        refine g_bipush m140_31 ?_
        refine g_ic_geF m140_33 (by decide) ?_
        refine g_aload_n m140_36 rfl ?_
        refine g_gf m140_37 rfl rfl ?_
        refine g_sipush m140_40 ?_
        refine g_bipush m140_43 ?_
        refine g_iload_n m140_45 rfl ?_
        refine g_imul (u := (50 : Int32)) m140_46 (by decide) ?_
        refine g_iadd (u := (184 : Int32)) m140_47 (by decide) ?_
        refine g_iload_n m140_48 rfl ?_
        refine g_iadd (u := (220 : Int32)) m140_49 (by decide) ?_
        refine g_aload_n m140_50 rfl ?_
        refine g_gf m140_51 rfl rfl ?_
        refine g_bipush m140_54 ?_
        refine g_iload_n m140_56 rfl ?_
        refine g_iadd (u := (100 : Int32)) m140_57 (by decide) ?_
        refine g_iald (x := (0 : Int32)) m140_58 rfl (vin rfl) rfl ?_
        refine g_iast m140_59 (Nat.le_of_ble_eq_true rfl) rfl (vin rfl) rfl rfl (set_idem rfl (by decide +kernel)) ?_
        refine g_iinc (x2 := (37 : Int32)) (L2 := [some (.ref 89), some (.int (1)), some (.int (37)), none, none]) m140_60 rfl (by decide) rfl rfl ?_
        refine g_goto m140_63 ?_
        refine g_iload_n m140_30 rfl ?_
        refine g_bipush m140_31 ?_
        refine g_ic_geF m140_33 (by decide) ?_
        refine g_aload_n m140_36 rfl ?_
        refine g_gf m140_37 rfl rfl ?_
        refine g_sipush m140_40 ?_
        refine g_bipush m140_43 ?_
        refine g_iload_n m140_45 rfl ?_
        refine g_imul (u := (50 : Int32)) m140_46 (by decide) ?_
        refine g_iadd (u := (184 : Int32)) m140_47 (by decide) ?_
        refine g_iload_n m140_48 rfl ?_
        refine g_iadd (u := (221 : Int32)) m140_49 (by decide) ?_
        refine g_aload_n m140_50 rfl ?_
        refine g_gf m140_51 rfl rfl ?_
        refine g_bipush m140_54 ?_
        refine g_iload_n m140_56 rfl ?_
        refine g_iadd (u := (101 : Int32)) m140_57 (by decide) ?_
        refine g_iald (x := (0 : Int32)) m140_58 rfl (vin rfl) rfl ?_
        refine g_iast m140_59 (Nat.le_of_ble_eq_true rfl) rfl (vin rfl) rfl rfl (set_idem rfl (by decide +kernel)) ?_
        refine g_iinc (x2 := (38 : Int32)) (L2 := [some (.ref 89), some (.int (1)), some (.int (38)), none, none]) m140_60 rfl (by decide) rfl rfl ?_
        refine g_goto m140_63 ?_
        refine g_iload_n m140_30 rfl ?_
        refine g_bipush m140_31 ?_
        refine g_ic_geF m140_33 (by decide) ?_
        refine g_aload_n m140_36 rfl ?_
        refine g_gf m140_37 rfl rfl ?_
        refine g_sipush m140_40 ?_
        refine g_bipush m140_43 ?_
        refine g_iload_n m140_45 rfl ?_
        refine g_imul (u := (50 : Int32)) m140_46 (by decide) ?_
        refine g_iadd (u := (184 : Int32)) m140_47 (by decide) ?_
        refine g_iload_n m140_48 rfl ?_
        refine g_iadd (u := (222 : Int32)) m140_49 (by decide) ?_
        refine g_aload_n m140_50 rfl ?_
        refine g_gf m140_51 rfl rfl ?_
        refine g_bipush m140_54 ?_
        refine g_iload_n m140_56 rfl ?_
        refine g_iadd (u := (102 : Int32)) m140_57 (by decide) ?_
        refine g_iald (x := (0 : Int32)) m140_58 rfl (vin rfl) rfl ?_
        refine g_iast m140_59 (Nat.le_of_ble_eq_true rfl) rfl (vin rfl) rfl rfl (set_idem rfl (by decide +kernel)) ?_
        refine g_iinc (x2 := (39 : Int32)) (L2 := [some (.ref 89), some (.int (1)), some (.int (39)), none, none]) m140_60 rfl (by decide) rfl rfl ?_
        refine g_goto m140_63 ?_
        refine g_iload_n m140_30 rfl ?_
        refine g_bipush m140_31 ?_
        refine g_ic_geF m140_33 (by decide) ?_
        refine g_aload_n m140_36 rfl ?_
        refine g_gf m140_37 rfl rfl ?_
        refine g_sipush m140_40 ?_
        refine g_bipush m140_43 ?_
        refine g_iload_n m140_45 rfl ?_
        refine g_imul (u := (50 : Int32)) m140_46 (by decide) ?_
        refine g_iadd (u := (184 : Int32)) m140_47 (by decide) ?_
        refine g_iload_n m140_48 rfl ?_
        refine g_iadd (u := (223 : Int32)) m140_49 (by decide) ?_
        refine g_aload_n m140_50 rfl ?_
        refine g_gf m140_51 rfl rfl ?_
        refine g_bipush m140_54 ?_
        refine g_iload_n m140_56 rfl ?_
        refine g_iadd (u := (103 : Int32)) m140_57 (by decide) ?_
        refine g_iald (x := (0 : Int32)) m140_58 rfl (vin rfl) rfl ?_
        refine g_iast m140_59 (Nat.le_of_ble_eq_true rfl) rfl (vin rfl) rfl rfl (set_idem rfl (by decide +kernel)) ?_
        refine g_iinc (x2 := (40 : Int32)) (L2 := [some (.ref 89), some (.int (1)), some (.int (40)), none, none]) m140_60 rfl (by decide) rfl rfl ?_
        refine g_goto m140_63 ?_
        refine g_iload_n m140_30 rfl ?_
        refine g_bipush m140_31 ?_
        refine g_ic_geF m140_33 (by decide) ?_
        refine g_aload_n m140_36 rfl ?_
        refine g_gf m140_37 rfl rfl ?_
        refine g_sipush m140_40 ?_
        refine g_bipush m140_43 ?_
        refine g_iload_n m140_45 rfl ?_
        refine g_imul (u := (50 : Int32)) m140_46 (by decide) ?_
        refine g_iadd (u := (184 : Int32)) m140_47 (by decide) ?_
        refine g_iload_n m140_48 rfl ?_
        refine g_iadd (u := (224 : Int32)) m140_49 (by decide) ?_
        refine g_aload_n m140_50 rfl ?_
        refine g_gf m140_51 rfl rfl ?_
        refine g_bipush m140_54 ?_
        refine g_iload_n m140_56 rfl ?_
        refine g_iadd (u := (104 : Int32)) m140_57 (by decide) ?_
        refine g_iald (x := (0 : Int32)) m140_58 rfl (vin rfl) rfl ?_
        refine g_iast m140_59 (Nat.le_of_ble_eq_true rfl) rfl (vin rfl) rfl rfl (set_idem rfl (by decide +kernel)) ?_
        refine g_iinc (x2 := (41 : Int32)) (L2 := [some (.ref 89), some (.int (1)), some (.int (41)), none, none]) m140_60 rfl (by decide) rfl rfl ?_
        refine g_goto m140_63 ?_
        refine g_iload_n m140_30 rfl ?_
        refine g_bipush m140_31 ?_
        refine g_ic_geF m140_33 (by decide) ?_
        refine g_aload_n m140_36 rfl ?_
        refine g_gf m140_37 rfl rfl ?_
        refine g_sipush m140_40 ?_
        refine g_bipush m140_43 ?_
        refine g_iload_n m140_45 rfl ?_
        refine g_imul (u := (50 : Int32)) m140_46 (by decide) ?_
        refine g_iadd (u := (184 : Int32)) m140_47 (by decide) ?_
        refine g_iload_n m140_48 rfl ?_
        refine g_iadd (u := (225 : Int32)) m140_49 (by decide) ?_
        refine g_aload_n m140_50 rfl ?_
        refine g_gf m140_51 rfl rfl ?_
        refine g_bipush m140_54 ?_
        refine g_iload_n m140_56 rfl ?_
        refine g_iadd (u := (105 : Int32)) m140_57 (by decide) ?_
        refine g_iald (x := (0 : Int32)) m140_58 rfl (vin rfl) rfl ?_
        refine g_iast m140_59 (Nat.le_of_ble_eq_true rfl) rfl (vin rfl) rfl rfl (set_idem rfl (by decide +kernel)) ?_
        refine g_iinc (x2 := (42 : Int32)) (L2 := [some (.ref 89), some (.int (1)), some (.int (42)), none, none]) m140_60 rfl (by decide) rfl rfl ?_
        refine g_goto m140_63 ?_
        refine g_iload_n m140_30 rfl ?_
        refine g_bipush m140_31 ?_
        refine g_ic_geF m140_33 (by decide) ?_
        refine g_aload_n m140_36 rfl ?_
        refine g_gf m140_37 rfl rfl ?_
        refine g_sipush m140_40 ?_
        refine g_bipush m140_43 ?_
        refine g_iload_n m140_45 rfl ?_
        refine g_imul (u := (50 : Int32)) m140_46 (by decide) ?_
        refine g_iadd (u := (184 : Int32)) m140_47 (by decide) ?_
        refine g_iload_n m140_48 rfl ?_
        refine g_iadd (u := (226 : Int32)) m140_49 (by decide) ?_
        refine g_aload_n m140_50 rfl ?_
        refine g_gf m140_51 rfl rfl ?_
        refine g_bipush m140_54 ?_
        refine g_iload_n m140_56 rfl ?_
        refine g_iadd (u := (106 : Int32)) m140_57 (by decide) ?_
        refine g_iald (x := (0 : Int32)) m140_58 rfl (vin rfl) rfl ?_
        refine g_iast m140_59 (Nat.le_of_ble_eq_true rfl) rfl (vin rfl) rfl rfl (set_idem rfl (by decide +kernel)) ?_
        refine g_iinc (x2 := (43 : Int32)) (L2 := [some (.ref 89), some (.int (1)), some (.int (43)), none, none]) m140_60 rfl (by decide) rfl rfl ?_
        refine g_goto m140_63 ?_
        refine g_iload_n m140_30 rfl ?_
        refine g_bipush m140_31 ?_
        refine g_ic_geF m140_33 (by decide) ?_
        refine g_aload_n m140_36 rfl ?_
        refine g_gf m140_37 rfl rfl ?_
        refine g_sipush m140_40 ?_
        refine g_bipush m140_43 ?_
        refine g_iload_n m140_45 rfl ?_
        refine g_imul (u := (50 : Int32)) m140_46 (by decide) ?_
        refine g_iadd (u := (184 : Int32)) m140_47 (by decide) ?_
        refine g_iload_n m140_48 rfl ?_
        refine g_iadd (u := (227 : Int32)) m140_49 (by decide) ?_
        refine g_aload_n m140_50 rfl ?_
        refine g_gf m140_51 rfl rfl ?_
        refine g_bipush m140_54 ?_
        refine g_iload_n m140_56 rfl ?_
        refine g_iadd (u := (107 : Int32)) m140_57 (by decide) ?_
        refine g_iald (x := (0 : Int32)) m140_58 rfl (vin rfl) rfl ?_
        refine g_iast m140_59 (Nat.le_of_ble_eq_true rfl) rfl (vin rfl) rfl rfl (set_idem rfl (by decide +kernel)) ?_
        refine g_iinc (x2 := (44 : Int32)) (L2 := [some (.ref 89), some (.int (1)), some (.int (44)), none, none]) m140_60 rfl (by decide) rfl rfl ?_
        refine g_goto m140_63 ?_
        refine g_iload_n m140_30 rfl ?_
        refine g_bipush m140_31 ?_
        refine g_ic_geF m140_33 (by decide) ?_
        refine g_aload_n m140_36 rfl ?_
        refine g_gf m140_37 rfl rfl ?_
        refine g_sipush m140_40 ?_
        refine g_bipush m140_43 ?_
        refine g_iload_n m140_45 rfl ?_
        refine g_imul (u := (50 : Int32)) m140_46 (by decide) ?_
        refine g_iadd (u := (184 : Int32)) m140_47 (by decide) ?_
        refine g_iload_n m140_48 rfl ?_
        refine g_iadd (u := (228 : Int32)) m140_49 (by decide) ?_
        refine g_aload_n m140_50 rfl ?_
        refine g_gf m140_51 rfl rfl ?_
        refine g_bipush m140_54 ?_
        refine g_iload_n m140_56 rfl ?_
        refine g_iadd (u := (108 : Int32)) m140_57 (by decide) ?_
        refine g_iald (x := (0 : Int32)) m140_58 rfl (vin rfl) rfl ?_
        refine g_iast m140_59 (Nat.le_of_ble_eq_true rfl) rfl (vin rfl) rfl rfl (set_idem rfl (by decide +kernel)) ?_
        refine g_iinc (x2 := (45 : Int32)) (L2 := [some (.ref 89), some (.int (1)), some (.int (45)), none, none]) m140_60 rfl (by decide) rfl rfl ?_
        refine g_goto m140_63 ?_
        refine g_iload_n m140_30 rfl ?_
        refine g_bipush m140_31 ?_
        refine g_ic_geF m140_33 (by decide) ?_
        refine g_aload_n m140_36 rfl ?_
        refine g_gf m140_37 rfl rfl ?_
        refine g_sipush m140_40 ?_
        refine g_bipush m140_43 ?_
        refine g_iload_n m140_45 rfl ?_
        refine g_imul (u := (50 : Int32)) m140_46 (by decide) ?_
        refine g_iadd (u := (184 : Int32)) m140_47 (by decide) ?_
        refine g_iload_n m140_48 rfl ?_
        refine g_iadd (u := (229 : Int32)) m140_49 (by decide) ?_
        refine g_aload_n m140_50 rfl ?_
        refine g_gf m140_51 rfl rfl ?_
        refine g_bipush m140_54 ?_
        refine g_iload_n m140_56 rfl ?_
        refine g_iadd (u := (109 : Int32)) m140_57 (by decide) ?_
        refine g_iald (x := (0 : Int32)) m140_58 rfl (vin rfl) rfl ?_
        refine g_iast m140_59 (Nat.le_of_ble_eq_true rfl) rfl (vin rfl) rfl rfl (set_idem rfl (by decide +kernel)) ?_
        refine g_iinc (x2 := (46 : Int32)) (L2 := [some (.ref 89), some (.int (1)), some (.int (46)), none, none]) m140_60 rfl (by decide) rfl rfl ?_
        refine g_goto m140_63 ?_
        refine g_iload_n m140_30 rfl ?_
        refine g_bipush m140_31 ?_
        refine g_ic_geF m140_33 (by decide) ?_
        refine g_aload_n m140_36 rfl ?_
        refine g_gf m140_37 rfl rfl ?_
        refine g_sipush m140_40 ?_
        refine g_bipush m140_43 ?_
        refine g_iload_n m140_45 rfl ?_
        refine g_imul (u := (50 : Int32)) m140_46 (by decide) ?_
        refine g_iadd (u := (184 : Int32)) m140_47 (by decide) ?_
        refine g_iload_n m140_48 rfl ?_
        refine g_iadd (u := (230 : Int32)) m140_49 (by decide) ?_
        refine g_aload_n m140_50 rfl ?_
        refine g_gf m140_51 rfl rfl ?_
        refine g_bipush m140_54 ?_
        refine g_iload_n m140_56 rfl ?_
        refine g_iadd (u := (110 : Int32)) m140_57 (by decide) ?_
        refine g_iald (x := (0 : Int32)) m140_58 rfl (vin rfl) rfl ?_
        refine g_iast m140_59 (Nat.le_of_ble_eq_true rfl) rfl (vin rfl) rfl rfl (set_idem rfl (by decide +kernel)) ?_
        refine g_iinc (x2 := (47 : Int32)) (L2 := [some (.ref 89), some (.int (1)), some (.int (47)), none, none]) m140_60 rfl (by decide) rfl rfl ?_
        refine g_goto m140_63 ?_
        refine g_iload_n m140_30 rfl ?_
        refine g_bipush m140_31 ?_
        refine g_ic_geF m140_33 (by decide) ?_
        refine g_aload_n m140_36 rfl ?_
        refine g_gf m140_37 rfl rfl ?_
        refine g_sipush m140_40 ?_
        refine g_bipush m140_43 ?_
        refine g_iload_n m140_45 rfl ?_
        refine g_imul (u := (50 : Int32)) m140_46 (by decide) ?_
        refine g_iadd (u := (184 : Int32)) m140_47 (by decide) ?_
        refine g_iload_n m140_48 rfl ?_
        refine g_iadd (u := (231 : Int32)) m140_49 (by decide) ?_
        refine g_aload_n m140_50 rfl ?_
        refine g_gf m140_51 rfl rfl ?_
        refine g_bipush m140_54 ?_
        refine g_iload_n m140_56 rfl ?_
        refine g_iadd (u := (111 : Int32)) m140_57 (by decide) ?_
        refine g_iald (x := (0 : Int32)) m140_58 rfl (vin rfl) rfl ?_
        refine g_iast m140_59 (Nat.le_of_ble_eq_true rfl) rfl (vin rfl) rfl rfl (set_idem rfl (by decide +kernel)) ?_
        refine g_iinc (x2 := (48 : Int32)) (L2 := [some (.ref 89), some (.int (1)), some (.int (48)), none, none]) m140_60 rfl (by decide) rfl rfl ?_
        refine g_goto m140_63 ?_
        refine g_iload_n m140_30 rfl ?_
        refine g_bipush m140_31 ?_
        refine g_ic_geF m140_33 (by decide) ?_
        refine g_aload_n m140_36 rfl ?_
        refine g_gf m140_37 rfl rfl ?_
        refine g_sipush m140_40 ?_
        refine g_bipush m140_43 ?_
        refine g_iload_n m140_45 rfl ?_
        refine g_imul (u := (50 : Int32)) m140_46 (by decide) ?_
        refine g_iadd (u := (184 : Int32)) m140_47 (by decide) ?_
        refine g_iload_n m140_48 rfl ?_
        refine g_iadd (u := (232 : Int32)) m140_49 (by decide) ?_
        refine g_aload_n m140_50 rfl ?_
        refine g_gf m140_51 rfl rfl ?_
        refine g_bipush m140_54 ?_
        refine g_iload_n m140_56 rfl ?_
        refine g_iadd (u := (112 : Int32)) m140_57 (by decide) ?_
        refine g_iald (x := (0 : Int32)) m140_58 rfl (vin rfl) rfl ?_
        refine g_iast m140_59 (Nat.le_of_ble_eq_true rfl) rfl (vin rfl) rfl rfl (set_idem rfl (by decide +kernel)) ?_
        refine g_iinc (x2 := (49 : Int32)) (L2 := [some (.ref 89), some (.int (1)), some (.int (49)), none, none]) m140_60 rfl (by decide) rfl rfl ?_
        refine g_goto m140_63 ?_
        refine g_iload_n m140_30 rfl ?_
        refine g_bipush m140_31 ?_
        refine g_ic_geF m140_33 (by decide) ?_
        refine g_aload_n m140_36 rfl ?_
        refine g_gf m140_37 rfl rfl ?_
        refine g_sipush m140_40 ?_
        refine g_bipush m140_43 ?_
        refine g_iload_n m140_45 rfl ?_
        refine g_imul (u := (50 : Int32)) m140_46 (by decide) ?_
        refine g_iadd (u := (184 : Int32)) m140_47 (by decide) ?_
        refine g_iload_n m140_48 rfl ?_
        refine g_iadd (u := (233 : Int32)) m140_49 (by decide) ?_
        refine g_aload_n m140_50 rfl ?_
        refine g_gf m140_51 rfl rfl ?_
        refine g_bipush m140_54 ?_
        refine g_iload_n m140_56 rfl ?_
        refine g_iadd (u := (113 : Int32)) m140_57 (by decide) ?_
        refine g_iald (x := (0 : Int32)) m140_58 rfl (vin rfl) rfl ?_
        refine g_iast m140_59 (Nat.le_of_ble_eq_true rfl) rfl (vin rfl) rfl rfl (set_idem rfl (by decide +kernel)) ?_
        refine g_iinc (x2 := (50 : Int32)) (L2 := [some (.ref 89), some (.int (1)), some (.int (50)), none, none]) m140_60 rfl (by decide) rfl rfl ?_
        refine g_goto m140_63 ?_
        refine g_iload_n m140_30 rfl ?_
        refine g_bipush m140_31 ?_
        refine g_ic_geT m140_33 (by decide) ?_
        refine g_aload_n m140_66 rfl ?_
        refine g_gf m140_67 rfl rfl ?_
        refine g_iconst m140_70 ?_
        refine g_iload_n m140_71 rfl ?_
        refine g_iadd (u := (6 : Int32)) m140_72 (by decide) ?_
        refine g_aload_n m140_73 rfl ?_
        refine g_gf m140_74 rfl rfl ?_
        refine g_iconst m140_77 ?_
        refine g_iald (x := (0 : Int32)) m140_78 rfl (vin rfl) rfl ?_
        refine g_iast m140_79 (Nat.le_of_ble_eq_true rfl) rfl (vin rfl) rfl rfl rfl ?_
        refine g_aload_n m140_80 rfl ?_
        refine g_iload_n m140_81 rfl ?_
        refine g_iconst m140_82 ?_
        refine g_iconst m140_83 ?_
        refine g_iconst m140_84 ?_
        refine g_cv (args := [.int (1), .int (1), .int (1), .int (1)]) (rest := []) m140_85 (Nat.le_of_ble_eq_true rfl) rfl rfl rfl (Nat.le_of_ble_eq_true rfl) ?_
        refine wp_in (L := [some (.ref 89), some (.int (1)), some (.int (1)), some (.int (1)), some (.int (1)), none]) (Nat.le_of_ble_eq_true rfl) rfl ?_
        refine g_aload_n m130_0 rfl ?_
        refine g_iload_n m130_1 rfl ?_
        refine g_pf (fs2 := [.ref 90, .ref 91, .ref 92, .ref 93, .int (0), .int (0), .ref 94, .int (1), .int (0), .int (0), .int (0), .int (0), .int (0), .int (0), .int (0), .ref 95, .ref 96, .ref 97, .ref 98, .ref 99, .ref 100, .int (0), .int (0), .int (0), .int (0)]) m130_2 rfl (Nat.le_of_ble_eq_true rfl) rfl (Nat.le_of_ble_eq_true rfl) trivial rfl rfl rfl ?_
        refine g_aload_n m130_5 rfl ?_
        refine g_iconst m130_6 ?_
        refine g_pf (fs2 := [.ref 90, .ref 91, .ref 92, .ref 93, .int (0), .int (0), .ref 94, .int (1), .int (0), .int (0), .int (0), .int (0), .int (0), .int (0), .int (0), .ref 95, .ref 96, .ref 97, .ref 98, .ref 99, .ref 100, .int (0), .int (0), .int (0), .int (0)]) m130_7 rfl (Nat.le_of_ble_eq_true rfl) rfl (Nat.le_of_ble_eq_true rfl) trivial rfl rfl (set_n0 rfl) ?_
        refine g_aload_n m130_10 rfl ?_
        refine g_aload_n m130_11 rfl ?_
        refine g_gf m130_12 rfl rfl ?_
        refine g_iconst m130_15 ?_
        refine g_iload_n m130_16 rfl ?_
        refine g_iadd (u := (6 : Int32)) m130_17 (by decide) ?_
        refine g_iald (x := (0 : Int32)) m130_18 rfl (vin rfl) rfl ?_
        refine g_pf (fs2 := [.ref 90, .ref 91, .ref 92, .ref 93, .int (0), .int (0), .ref 94, .int (1), .int (0), .int (0), .int (0), .int (0), .int (0), .int (0), .int (0), .ref 95, .ref 96, .ref 97, .ref 98, .ref 99, .ref 100, .int (0), .int (0), .int (0), .int (0)]) m130_19 rfl (Nat.le_of_ble_eq_true rfl) rfl (Nat.le_of_ble_eq_true rfl) trivial rfl rfl (set_n0 rfl) ?_
        refine g_aload_n m130_22 rfl ?_
        refine g_iconst m130_23 ?_
        refine g_pf (fs2 := [.ref 90, .ref 91, .ref 92, .ref 93, .int (0), .int (0), .ref 94, .int (1), .int (0), .int (0), .int (0), .int (0), .int (0), .int (0), .int (0), .ref 95, .ref 96, .ref 97, .ref 98, .ref 99, .ref 100, .int (0), .int (0), .int (0), .int (0)]) m130_24 rfl (Nat.le_of_ble_eq_true rfl) rfl (Nat.le_of_ble_eq_true rfl) trivial rfl rfl (set_n0 rfl) ?_
        refine g_aload_n m130_27 rfl ?_
        refine g_iconst m130_28 ?_
        refine g_pf (fs2 := [.ref 90, .ref 91, .ref 92, .ref 93, .int (0), .int (0), .ref 94, .int (1), .int (0), .int (0), .int (0), .int (0), .int (0), .int (0), .int (1), .ref 95, .ref 96, .ref 97, .ref 98, .ref 99, .ref 100, .int (0), .int (0), .int (0), .int (0)]) m130_29 rfl (Nat.le_of_ble_eq_true rfl) rfl (Nat.le_of_ble_eq_true rfl) (Or.inr rfl) rfl rfl (set_n0 rfl) ?_
        refine g_aload_n m130_32 rfl ?_
        refine g_iload_n m130_33 rfl ?_
        refine g_pf (fs2 := [.ref 90, .ref 91, .ref 92, .ref 93, .int (0), .int (0), .ref 94, .int (1), .int (0), .int (0), .int (0), .int (1), .int (0), .int (0), .int (1), .ref 95, .ref 96, .ref 97, .ref 98, .ref 99, .ref 100, .int (0), .int (0), .int (0), .int (0)]) m130_34 rfl (Nat.le_of_ble_eq_true rfl) rfl (Nat.le_of_ble_eq_true rfl) trivial rfl rfl (set_n0 rfl) ?_
        refine g_aload_n m130_37 rfl ?_
        refine g_iload_n m130_38 rfl ?_
        refine g_pf (fs2 := [.ref 90, .ref 91, .ref 92, .ref 93, .int (0), .int (0), .ref 94, .int (1), .int (0), .int (0), .int (0), .int (1), .int (1), .int (0), .int (1), .ref 95, .ref 96, .ref 97, .ref 98, .ref 99, .ref 100, .int (0), .int (0), .int (0), .int (0)]) m130_39 rfl (Nat.le_of_ble_eq_true rfl) rfl (Nat.le_of_ble_eq_true rfl) trivial rfl rfl (set_n0 rfl) ?_
        refine g_aload_n m130_42 rfl ?_
        refine g_iload m130_43 rfl ?_
        refine g_pf (fs2 := [.ref 90, .ref 91, .ref 92, .ref 93, .int (0), .int (0), .ref 94, .int (1), .int (0), .int (0), .int (0), .int (1), .int (1), .int (1), .int (1), .ref 95, .ref 96, .ref 97, .ref 98, .ref 99, .ref 100, .int (0), .int (0), .int (0), .int (0)]) m130_45 rfl (Nat.le_of_ble_eq_true rfl) rfl (Nat.le_of_ble_eq_true rfl) trivial rfl rfl (set_n0 rfl) ?_
        refine g_aload_n m130_48 rfl ?_
        refine g_cv (args := []) (rest := []) m130_49 (Nat.le_of_ble_eq_true rfl) rfl rfl rfl (Nat.le_of_ble_eq_true rfl) ?_
        refine wp_in (L := [some (.ref 89), none, none]) (Nat.le_of_ble_eq_true rfl) rfl ?_
        refine g_aload_n m128_0 rfl ?_
        refine g_cv (args := []) (rest := []) m128_1 (Nat.le_of_ble_eq_true rfl) rfl rfl rfl (Nat.le_of_ble_eq_true rfl) ?_
        refine wp_in (L := [some (.ref 89), none, none]) (Nat.le_of_ble_eq_true rfl) rfl ?_
        refine g_aload_n m129_0 rfl ?_
        refine g_cv (args := []) (rest := []) m129_1 (Nat.le_of_ble_eq_true rfl) rfl rfl rfl (Nat.le_of_ble_eq_true rfl) ?_
        refine wp_in (L := [some (.ref 89), none, none, none, none]) (Nat.le_of_ble_eq_true rfl) rfl ?_
        refine g_aload_n m124_0 rfl ?_
        refine g_cv (args := []) (rest := []) m124_1 (Nat.le_of_ble_eq_true rfl) rfl rfl rfl (Nat.le_of_ble_eq_true rfl) ?_
        refine wp_in (L := [some (.ref 89), none, none, none]) (Nat.le_of_ble_eq_true rfl) rfl ?_
        refine g_aload_n m127_0 rfl ?_
        refine g_cv (args := []) (rest := []) m127_1 (Nat.le_of_ble_eq_true rfl) rfl rfl rfl (Nat.le_of_ble_eq_true rfl) ?_
        refine wp_in (L := [some (.ref 89), none, none, none]) (Nat.le_of_ble_eq_true rfl) rfl ?_
        refine g_aload_n m126_0 rfl ?_
        refine g_cv (args := []) (rest := []) m126_1 (Nat.le_of_ble_eq_true rfl) rfl rfl rfl (Nat.le_of_ble_eq_true rfl) ?_
        refine wp_in (L := [some (.ref 89), none, none]) (Nat.le_of_ble_eq_true rfl) rfl ?_
        refine g_aload_n m125_0 rfl ?_
        refine g_aload_n m125_1 rfl ?_
        refine g_gf m125_2 rfl rfl ?_
        refine g_cv (args := [.int (0)]) (rest := []) m125_5 (Nat.le_of_ble_eq_true rfl) rfl rfl rfl (Nat.le_of_ble_eq_true rfl) ?_
        refine wp_in (L := [some (.ref 89), some (.int (0))]) (Nat.le_of_ble_eq_true rfl) rfl ?_
        refine g_iload_n m119_0 rfl ?_
        refine g_aload_n m119_1 rfl ?_
        refine g_gf m119_2 rfl rfl ?_
        refine g_ic_geT m119_5 (by decide) ?_
        refine g_iconst m119_29 ?_
        refine g_iret m119_30 rfl ?_
        refine gwst (st' := [.int (-1)]) rfl ?_
        refine g_istore_n (L2 := [some (.ref 89), some (.int (-1)), none]) m125_8 rfl rfl ?_
        refine g_iload_n m125_9 rfl ?_
        refine g_cs (args := [.int (-1)]) (rest := []) 0 (Or.inl rfl) m125_10 (Nat.le_of_ble_eq_true rfl) rfl rfl (Nat.le_of_ble_eq_true rfl) ?_
        refine wp_in (L := [some (.int (-1))]) (Nat.le_of_ble_eq_true rfl) rfl ?_
        refine g_iload_n m120_0 rfl ?_
        refine g_bipush m120_1 ?_
        refine g_bipush m120_3 ?_
        refine g_cs (args := [.int (-1), .int (48), .int (57)]) (rest := []) 0 (Or.inl rfl) m120_5 (Nat.le_of_ble_eq_true rfl) rfl rfl (Nat.le_of_ble_eq_true rfl) ?_
        refine wp_in (L := [some (.int (-1)), some (.int (48)), some (.int (57))]) (Nat.le_of_ble_eq_true rfl) rfl ?_
        refine g_iload_n m107_0 rfl ?_
        refine g_iload_n m107_1 rfl ?_
        refine g_ic_ltT m107_2 (by decide) ?_
        refine g_iconst m107_14 ?_
        refine g_zret m107_15 rfl (Or.inl rfl) ?_
        refine gwst (st' := [.int (0)]) rfl ?_
        refine g_zret m120_8 rfl (Or.inl rfl) ?_
        refine gwst (st' := [.int (0)]) rfl ?_
        refine g_if_eqT m125_13 (by decide) ?_
        refine g_iload_n m125_21 rfl ?_
        refine g_bipush m125_22 ?_
        refine g_ic_eqF m125_24 (by decide) ?_
        refine g_iload_n m125_27 rfl ?_
        refine g_bipush m125_28 ?_
        refine g_ic_eqF m125_30 (by decide) ?_
        refine g_aload_n m125_33 rfl ?_
        refine g_iload_n m125_34 rfl ?_
        refine g_cv (args := [.int (-1)]) (rest := []) m125_35 (Nat.le_of_ble_eq_true rfl) rfl rfl rfl (Nat.le_of_ble_eq_true rfl) ?_
        refine wp_in (L := [some (.ref 89), some (.int (-1)), none, none, none]) (Nat.le_of_ble_eq_true rfl) rfl ?_
        refine g_iload_n m123_0 rfl ?_
        refine g_bipush m123_1 ?_
        refine g_ic_neF m123_3 (by decide) ?_
        refine g_iconst m123_10 ?_
        refine g_istore_n (L2 := [some (.ref 89), some (.int (-1)), some (.int (0)), none, none]) m123_11 rfl rfl ?_
        refine g_iload_n m123_12 rfl ?_
        refine g_aload_n m123_13 rfl ?_
        refine g_gf m123_14 rfl rfl ?_
        refine g_if_neF m123_17 (by decide) ?_
        refine g_bipush m123_25 ?_
        refine g_ic_neF m123_27 (by decide) ?_
        refine g_iconst m123_34 ?_
        refine g_istore_n (L2 := [some (.ref 89), some (.int (-1)), some (.int (0)), some (.int (0)), none]) m123_35 rfl rfl ?_
        refine g_iload_n m123_36 rfl ?_
        refine g_aload_n m123_37 rfl ?_
        refine g_gf m123_38 rfl rfl ?_
        refine g_if_neF m123_41 (by decide) ?_
        refine g_bipush m123_49 ?_
        refine g_ic_neF m123_51 (by decide) ?_
        refine g_iconst m123_58 ?_
        refine g_istore (L2 := [some (.ref 89), some (.int (-1)), some (.int (0)), some (.int (0)), some (.int (0))]) m123_59 rfl rfl ?_
        refine g_iload_n m123_61 rfl ?_
        refine g_if_neT m123_62 (by decide) ?_
        refine g_iload_n m123_65 rfl ?_
        refine g_if_neT m123_66 (by decide) ?_
        refine g_iload m123_69 rfl ?_
        refine g_if_neT m123_71 (by decide) ?_
        refine g_aload_n m123_74 rfl ?_
        refine g_cv (args := []) (rest := []) m123_75 (Nat.le_of_ble_eq_true rfl) rfl rfl rfl (Nat.le_of_ble_eq_true rfl) ?_
        refine wp_in (L := [some (.ref 89)]) (Nat.le_of_ble_eq_true rfl) rfl ?_
        refine g_aload_n m122_0 rfl ?_
        refine g_iconst m122_1 ?_
        refine g_pf (fs2 := [.ref 90, .ref 91, .ref 92, .ref 93, .int (0), .int (0), .ref 94, .int (1), .int (0), .int (0), .int (0), .int (1), .int (1), .int (1), .int (0), .ref 95, .ref 96, .ref 97, .ref 98, .ref 99, .ref 100, .int (0), .int (0), .int (0), .int (0)]) m122_2 rfl (Nat.le_of_ble_eq_true rfl) rfl (Nat.le_of_ble_eq_true rfl) (Or.inl rfl) rfl rfl (set_n0 rfl) ?_
        refine g_iconst m122_5 ?_
        refine g_iret m122_6 rfl ?_
        refine gwst (st' := [.int (0)]) rfl ?_
        refine g_iret m123_78 rfl ?_
        refine gwst (st' := [.int (0)]) rfl ?_
        refine g_iret m125_38 rfl ?_
        refine gwst (st' := [.int (0)]) rfl ?_
        refine g_istore_n (L2 := [some (.ref 89), some (.int (0)), none, none]) m126_4 rfl rfl ?_
        refine g_aload_n m126_5 rfl ?_
        refine g_gf m126_6 rfl rfl ?_
        refine g_if_eqT m126_9 (by decide) ?_
        refine g_iload_n m126_114 rfl ?_
        refine g_iret m126_115 rfl ?_
        refine gwst (st' := [.int (0)]) rfl ?_
        refine g_istore_n (L2 := [some (.ref 89), some (.int (0)), none, none]) m127_4 rfl rfl ?_
        refine g_aload_n m127_5 rfl ?_
        refine g_gf m127_6 rfl rfl ?_
        refine g_if_eqT m127_9 (by decide) ?_
        refine g_iload_n m127_81 rfl ?_
        refine g_iret m127_82 rfl ?_
        refine gwst (st' := [.int (0)]) rfl ?_
        refine g_istore_n (L2 := [some (.ref 89), some (.int (0)), none, none, none]) m124_4 rfl rfl ?_
        refine g_aload_n m124_5 rfl ?_
        refine g_gf m124_6 rfl rfl ?_
        refine g_if_eqT m124_9 (by decide) ?_
        refine g_iconst m124_23 ?_
        refine g_istore_n (L2 := [some (.ref 89), some (.int (0)), some (.int (-1)), none, none]) m124_24 rfl rfl ?_
        refine g_iload_n m124_25 rfl ?_
        refine g_bipush m124_26 ?_
        refine g_ic_eqF m124_28 (by decide) ?_
        refine g_iload_n m124_31 rfl ?_
        refine g_bipush m124_32 ?_
        refine g_ic_eqF m124_34 (by decide) ?_
        refine g_iload_n m124_37 rfl ?_
        refine g_bipush m124_38 ?_
        refine g_ic_eqF m124_40 (by decide) ?_
        refine g_iload_n m124_43 rfl ?_
        refine g_iret m124_44 rfl ?_
        refine gwst (st' := [.int (0)]) rfl ?_
        refine g_istore_n (L2 := [some (.ref 89), some (.int (0)), none]) m129_4 rfl rfl ?_
        refine g_aload_n m129_5 rfl ?_
        refine g_gf m129_6 rfl rfl ?_
        refine g_if_eqT m129_9 (by decide) ?_
        refine g_iload_n m129_57 rfl ?_
        refine g_iret m129_58 rfl ?_
        refine gwst (st' := [.int (0)]) rfl ?_
        refine g_istore_n (L2 := [some (.ref 89), some (.int (0)), none]) m128_4 rfl rfl ?_
        refine g_aload_n m128_5 rfl ?_
        refine g_gf m128_6 rfl rfl ?_
        refine g_if_eqT m128_9 (by decide) ?_
        refine g_iload_n m128_57 rfl ?_
        refine g_iret m128_58 rfl ?_
        refine gwst (st' := [.int (0)]) rfl ?_
        refine g_istore (L2 := [some (.ref 89), some (.int (1)), some (.int (1)), some (.int (1)), some (.int (1)), some (.int (0))]) m130_52 rfl rfl ?_
        refine g_aload_n m130_54 rfl ?_
        refine g_aload_n m130_55 rfl ?_
        refine g_gf m130_56 rfl rfl ?_
        refine g_if_eqT m130_59 (by decide) ?_
        refine g_iconst m130_77 ?_
        refine g_pf (fs2 := [.ref 90, .ref 91, .ref 92, .ref 93, .int (0), .int (0), .ref 94, .int (1), .int (0), .int (0), .int (0), .int (1), .int (1), .int (1), .int (0), .ref 95, .ref 96, .ref 97, .ref 98, .ref 99, .ref 100, .int (0), .int (0), .int (0), .int (0)]) m130_78 rfl (Nat.le_of_ble_eq_true rfl) rfl (Nat.le_of_ble_eq_true rfl) (Or.inl rfl) rfl rfl (set_n0 rfl) ?_
        refine g_iload m130_81 rfl ?_
        refine g_iret m130_83 rfl ?_
        refine gwst (st' := [.int (0)]) rfl ?_
        refine g_istore_n (L2 := [some (.ref 89), some (.int (1)), some (.int (0)), none, none]) m140_88 rfl rfl ?_
        refine g_aload_n m140_89 rfl ?_
        refine g_gf m140_90 rfl rfl ?_
        refine g_if_eqT m140_93 (by decide) ?_
        refine g_iconst m140_105 ?_
        refine g_istore_n (L2 := [some (.ref 89), some (.int (1)), some (.int (0)), some (.int (0)), none]) m140_106 rfl rfl ?_
        refine g_aload_n m140_107 rfl ?_
        refine g_gf m140_108 rfl rfl ?_
        refine g_istore (L2 := [some (.ref 89), some (.int (1)), some (.int (0)), some (.int (0)), some (.int (0))]) m140_111 rfl rfl ?_
        refine g_iload_n m140_113 rfl ?_
        refine g_if_neT m140_114 (by decide) ?_
        refine g_aload_n m140_117 rfl ?_
        refine g_aload_n m140_118 rfl ?_
        refine g_gf m140_119 rfl rfl ?_
        refine g_aload_n m140_122 rfl ?_
        refine g_gf m140_123 rfl rfl ?_
        refine g_cv (args := [.ref 93, .ref 90]) (rest := []) m140_126 (Nat.le_of_ble_eq_true rfl) rfl rfl rfl (Nat.le_of_ble_eq_true rfl) ?_
        refine c_moveAll rfl (Nat.le_of_ble_eq_true rfl) rfl (by rfl) (by rfl) (by decide) ?_
        refine gwh (set_n1 (by decide)  rfl) ?_
        refine gwst (st' := []) rfl ?_
        refine g_aload_n m140_129 rfl ?_
        refine g_gf m140_130 rfl rfl ?_
        refine g_iconst m140_133 ?_
        refine g_iconst m140_134 ?_
        refine g_iast m140_135 (Nat.le_of_ble_eq_true rfl) rfl (vin rfl) rfl rfl (set_n0 rfl) ?_
        refine g_iload_n m140_136 rfl ?_
        refine g_if_eqT m140_137 (by decide) ?_
        refine g_bipush m140_144 ?_
        refine g_iload m140_146 rfl ?_
        refine g_isub (u := (-10 : Int32)) m140_148 (by decide) ?_
        refine g_iret m140_149 rfl ?_
        refine gwst (st' := [.int (-10), .int (-10)]) rfl ?_
        refine g_ic_eqT m190_553 (by decide) ?_
        refine g_iinc (x2 := (6 : Int32)) (L2 := [some (.ref 0), some (.ref 32), some (.ref 89), some (.int (6))]) m190_1428 rfl (by decide) rfl rfl ?_
        refine g_goto m190_1431 ?_
        refine g_iload_n m190_18 rfl ?_
        refine g_aload_n m190_19 rfl ?_
        refine g_alen (n := 6) m190_20 rfl (Or.inl rfl) rfl ?_
        refine g_bipush m190_21 ?_
        refine g_isub (u := (0 : Int32)) m190_23 (by decide) ?_
        refine g_ic_gtT m190_24 (by decide) ?_
        refine g_iconst m190_1434 ?_
        refine g_zret m190_1435 rfl (Or.inr rfl) ?_
        exact rfl
