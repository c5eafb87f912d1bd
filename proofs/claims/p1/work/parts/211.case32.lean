/-! THE LAW'S CASES 32, 33, 34, 35, 36, 37, 38, 39, over two new objects -/
set_option maxRecDepth 20000 in
set_option maxHeartbeats 40000000 in
theorem lc_32 {s0 s1 s2 s3 s4 s5 : Int32} {d mc ms : Nat} : gw [s0, s1, s2, s3, s4, s5] (WP [s0, s1, s2, s3, s4, s5] (d + 20)) 190 (fun r _ => r = some (.int 1)) 1274 [some (.ref 0), some (.ref 32), some (.ref 89), some (.int 0)] [] (hX0 ++ hM0) mc ms := by
  refine g_aload_n m190_1274 rfl ?_
  refine g_aload_n m190_1275 rfl ?_
  refine g_iload_n m190_1276 rfl ?_
  refine g_iconst m190_1277 ?_
  refine g_iadd (u := (1 : Int32)) m190_1278 (by decide) ?_
  refine g_iald (x := s1) m190_1279 rfl (vin rfl) rfl ?_
  refine g_cv (args := [.int _]) (rest := []) m190_1280 (Nat.le_of_ble_eq_true rfl) rfl rfl rfl (Nat.le_of_ble_eq_true rfl) ?_
  refine wp_in (L := [some (.ref 32), some (.int _), none, none, none]) (Nat.le_of_ble_eq_true rfl) rfl ?_
  refine g_iload_n m98_0 rfl ?_
  refine g_iconst m98_1 ?_
  refine g_cs (args := [.int _, .int (3)]) (rest := []) 0 (Or.inl rfl) m98_2 (Nat.le_of_ble_eq_true rfl) rfl rfl (Nat.le_of_ble_eq_true rfl) ?_
  refine wp_in (L := [some (.int _), some (.int (3))]) (Nat.le_of_ble_eq_true rfl) rfl ?_
  refine g_iload_n m54_0 rfl ?_
  refine g_if_lt m54_1 (fun c1 => ?_) (fun c1 => ?_)
  · have d2 : (s1).toInt < 0 := (lt_k (by rfl) (by rfl)).mp c1
    refine g_iconst m54_13 ?_
    refine g_zret m54_14 rfl (Or.inl rfl) ?_
    refine gwst (st' := [.int (0)]) rfl ?_
    refine g_if_neT m98_5 (by decide) ?_
    refine g_aload_n m98_8 rfl ?_
    refine g_iconst m98_9 ?_
    refine g_cv (args := [.int (1)]) (rest := []) m98_10 (Nat.le_of_ble_eq_true rfl) rfl rfl rfl (Nat.le_of_ble_eq_true rfl) ?_
    refine wp_in (L := [some (.ref 32), some (.int (1))]) (Nat.le_of_ble_eq_true rfl) rfl ?_
    refine g_aload_n m55_0 rfl ?_
    refine g_gf m55_1 rfl rfl ?_
    refine g_iload_n m55_4 rfl ?_
    refine g_dup2 m55_5 rfl rfl ?_
    refine g_iald (x := (0 : Int32)) m55_6 rfl (vin rfl) rfl ?_
    refine g_iconst m55_7 ?_
    refine g_iadd (u := (1 : Int32)) m55_8 (by decide) ?_
    refine g_iast m55_9 (Nat.le_of_ble_eq_true rfl) rfl (vin rfl) rfl rfl rfl ?_
    refine g_ldcw m55_10 ?_
    refine g_iload_n m55_13 rfl ?_
    refine g_isub (u := (-1000000001 : Int32)) m55_14 (by decide) ?_
    refine g_iret m55_15 rfl ?_
    refine gwst (st' := [.int (-1000000001)]) rfl ?_
    refine g_iret m98_13 rfl ?_
    refine gwst (st' := [.int (-1000000001)]) rfl ?_
    refine FRg rfl (fun f => ?_)
    refine g_aload_n m190_1283 rfl ?_
    refine g_aload_n m190_1284 rfl ?_
    refine g_iload_n m190_1285 rfl ?_
    refine g_iconst m190_1286 ?_
    refine g_iadd (u := (1 : Int32)) m190_1287 (by decide) ?_
    refine g_iald (x := s1) m190_1288 rfl (vin rfl) rfl ?_
    refine g_cv (args := [.int _]) (rest := [.int (-1000000001)]) m190_1289 (Nat.le_of_ble_eq_true rfl) rfl rfl rfl (Nat.le_of_ble_eq_true rfl) ?_
    refine wp_in (L := [some (.ref 89), some (.int _), none]) (Nat.le_of_ble_eq_true rfl) rfl ?_
    refine g_iload_n m182_0 rfl ?_
    refine g_cs (args := [.int _]) (rest := []) 0 (Or.inl rfl) m182_1 (Nat.le_of_ble_eq_true rfl) rfl rfl (Nat.le_of_ble_eq_true rfl) ?_
    refine wp_in (L := [some (.int _)]) (Nat.le_of_ble_eq_true rfl) rfl ?_
    refine g_iload_n m160_0 rfl ?_
    refine g_iconst m160_1 ?_
    refine g_iconst m160_2 ?_
    refine g_cs (args := [.int _, .int (0), .int (3)]) (rest := []) 0 (Or.inl rfl) m160_3 (Nat.le_of_ble_eq_true rfl) rfl rfl (Nat.le_of_ble_eq_true rfl) ?_
    refine wp_in (L := [some (.int _), some (.int (0)), some (.int (3))]) (Nat.le_of_ble_eq_true rfl) rfl ?_
    refine g_iload_n m107_0 rfl ?_
    refine g_iload_n m107_1 rfl ?_
    refine g_ic_ltT m107_2 ((lt_k (a := (s1).toInt) (b := 0) (by rfl) (by rfl)).mpr (by omega)) ?_
    refine g_iconst m107_14 ?_
    refine g_zret m107_15 rfl (Or.inl rfl) ?_
    refine gwst (st' := [.int (0)]) rfl ?_
    refine g_zret m160_6 rfl (Or.inl rfl) ?_
    refine gwst (st' := [.int (0)]) rfl ?_
    refine g_if_neT m182_4 (by decide) ?_
    refine g_aload_n m182_7 rfl ?_
    refine g_ldci m182_8 rfl ?_
    refine g_cv (args := [.int (-1000000001)]) (rest := []) m182_10 (Nat.le_of_ble_eq_true rfl) rfl rfl rfl (Nat.le_of_ble_eq_true rfl) ?_
    refine wp_in (L := [some (.ref 89), some (.int (-1000000001))]) (Nat.le_of_ble_eq_true rfl) rfl ?_
    refine g_aload_n m108_0 rfl ?_
    refine g_gf m108_1 rfl rfl ?_
    refine g_ldci m108_4 rfl ?_
    refine g_iload_n m108_6 rfl ?_
    refine g_isub (u := (1 : Int32)) m108_7 (by decide) ?_
    refine g_dup2 m108_8 rfl rfl ?_
    refine g_iald (x := (0 : Int32)) m108_9 rfl (vin rfl) rfl ?_
    refine g_iconst m108_10 ?_
    refine g_iadd (u := (1 : Int32)) m108_11 (by decide) ?_
    refine g_iast m108_12 (Nat.le_of_ble_eq_true rfl) rfl (vin rfl) rfl rfl rfl ?_
    refine g_iload_n m108_13 rfl ?_
    refine g_iret m108_14 rfl ?_
    refine gwst (st' := [.int (-1000000001)]) rfl ?_
    refine g_iret m182_13 rfl ?_
    refine gwst (st' := [.int (-1000000001), .int (-1000000001)]) rfl ?_
    refine g_ic_eqT m190_1292 (by decide) ?_
    refine g_iinc (x2 := (6 : Int32)) (L2 := [some (.ref 0), some (.ref 32), some (.ref 89), some (.int (6))]) m190_1428 rfl (by decide) rfl rfl ?_
    refine g_goto m190_1431 ?_
    refine g_iload_n m190_18 rfl ?_
    refine g_aload_n m190_19 rfl ?_
    refine g_alen (n := 6) m190_20 rfl (Or.inl rfl) rfl ?_
    refine g_bipush m190_21 ?_
    refine g_isub (u := (0 : Int32)) m190_23 (by decide) ?_
    refine g_ic_gtT m190_24 (by decide) ?_
    refine g_iconst m190_1434 ?_
    refine g_zret m190_1435 rfl (Or.inr rfl) ?_
    exact rfl
  · have d2 : ¬ ((s1).toInt < 0) := fun q => c1 ((lt_k (by rfl) (by rfl)).mpr q)
    refine g_iload_n m54_4 rfl ?_
    refine g_iload_n m54_5 rfl ?_
    refine g_ic_gt m54_6 (fun c3 => ?_) (fun c3 => ?_)
    · have d4 : 3 < (s1).toInt := (lt_k (by rfl) (by rfl)).mp c3
      refine g_iconst m54_13 ?_
      refine g_zret m54_14 rfl (Or.inl rfl) ?_
      refine gwst (st' := [.int (0)]) rfl ?_
      refine g_if_neT m98_5 (by decide) ?_
      refine g_aload_n m98_8 rfl ?_
      refine g_iconst m98_9 ?_
      refine g_cv (args := [.int (1)]) (rest := []) m98_10 (Nat.le_of_ble_eq_true rfl) rfl rfl rfl (Nat.le_of_ble_eq_true rfl) ?_
      refine wp_in (L := [some (.ref 32), some (.int (1))]) (Nat.le_of_ble_eq_true rfl) rfl ?_
      refine g_aload_n m55_0 rfl ?_
      refine g_gf m55_1 rfl rfl ?_
      refine g_iload_n m55_4 rfl ?_
      refine g_dup2 m55_5 rfl rfl ?_
      refine g_iald (x := (0 : Int32)) m55_6 rfl (vin rfl) rfl ?_
      refine g_iconst m55_7 ?_
      refine g_iadd (u := (1 : Int32)) m55_8 (by decide) ?_
      refine g_iast m55_9 (Nat.le_of_ble_eq_true rfl) rfl (vin rfl) rfl rfl rfl ?_
      refine g_ldcw m55_10 ?_
      refine g_iload_n m55_13 rfl ?_
      refine g_isub (u := (-1000000001 : Int32)) m55_14 (by decide) ?_
      refine g_iret m55_15 rfl ?_
      refine gwst (st' := [.int (-1000000001)]) rfl ?_
      refine g_iret m98_13 rfl ?_
      refine gwst (st' := [.int (-1000000001)]) rfl ?_
      refine FRg rfl (fun f => ?_)
      refine g_aload_n m190_1283 rfl ?_
      refine g_aload_n m190_1284 rfl ?_
      refine g_iload_n m190_1285 rfl ?_
      refine g_iconst m190_1286 ?_
      refine g_iadd (u := (1 : Int32)) m190_1287 (by decide) ?_
      refine g_iald (x := s1) m190_1288 rfl (vin rfl) rfl ?_
      refine g_cv (args := [.int _]) (rest := [.int (-1000000001)]) m190_1289 (Nat.le_of_ble_eq_true rfl) rfl rfl rfl (Nat.le_of_ble_eq_true rfl) ?_
      refine wp_in (L := [some (.ref 89), some (.int _), none]) (Nat.le_of_ble_eq_true rfl) rfl ?_
      refine g_iload_n m182_0 rfl ?_
      refine g_cs (args := [.int _]) (rest := []) 0 (Or.inl rfl) m182_1 (Nat.le_of_ble_eq_true rfl) rfl rfl (Nat.le_of_ble_eq_true rfl) ?_
      refine wp_in (L := [some (.int _)]) (Nat.le_of_ble_eq_true rfl) rfl ?_
      refine g_iload_n m160_0 rfl ?_
      refine g_iconst m160_1 ?_
      refine g_iconst m160_2 ?_
      refine g_cs (args := [.int _, .int (0), .int (3)]) (rest := []) 0 (Or.inl rfl) m160_3 (Nat.le_of_ble_eq_true rfl) rfl rfl (Nat.le_of_ble_eq_true rfl) ?_
      refine wp_in (L := [some (.int _), some (.int (0)), some (.int (3))]) (Nat.le_of_ble_eq_true rfl) rfl ?_
      refine g_iload_n m107_0 rfl ?_
      refine g_iload_n m107_1 rfl ?_
      refine g_ic_ltF m107_2 (fun q => absurd ((lt_k (a := (s1).toInt) (b := 0) (by rfl) (by rfl)).mp q) (by omega)) ?_
      refine g_iload_n m107_5 rfl ?_
      refine g_iload_n m107_6 rfl ?_
      refine g_ic_gtT m107_7 ((lt_k (a := 3) (b := (s1).toInt) (by rfl) (by rfl)).mpr (by omega)) ?_
      refine g_iconst m107_14 ?_
      refine g_zret m107_15 rfl (Or.inl rfl) ?_
      refine gwst (st' := [.int (0)]) rfl ?_
      refine g_zret m160_6 rfl (Or.inl rfl) ?_
      refine gwst (st' := [.int (0)]) rfl ?_
      refine g_if_neT m182_4 (by decide) ?_
      refine g_aload_n m182_7 rfl ?_
      refine g_ldci m182_8 rfl ?_
      refine g_cv (args := [.int (-1000000001)]) (rest := []) m182_10 (Nat.le_of_ble_eq_true rfl) rfl rfl rfl (Nat.le_of_ble_eq_true rfl) ?_
      refine wp_in (L := [some (.ref 89), some (.int (-1000000001))]) (Nat.le_of_ble_eq_true rfl) rfl ?_
      refine g_aload_n m108_0 rfl ?_
      refine g_gf m108_1 rfl rfl ?_
      refine g_ldci m108_4 rfl ?_
      refine g_iload_n m108_6 rfl ?_
      refine g_isub (u := (1 : Int32)) m108_7 (by decide) ?_
      refine g_dup2 m108_8 rfl rfl ?_
      refine g_iald (x := (0 : Int32)) m108_9 rfl (vin rfl) rfl ?_
      refine g_iconst m108_10 ?_
      refine g_iadd (u := (1 : Int32)) m108_11 (by decide) ?_
      refine g_iast m108_12 (Nat.le_of_ble_eq_true rfl) rfl (vin rfl) rfl rfl rfl ?_
      refine g_iload_n m108_13 rfl ?_
      refine g_iret m108_14 rfl ?_
      refine gwst (st' := [.int (-1000000001)]) rfl ?_
      refine g_iret m182_13 rfl ?_
      refine gwst (st' := [.int (-1000000001), .int (-1000000001)]) rfl ?_
      refine g_ic_eqT m190_1292 (by decide) ?_
      refine g_iinc (x2 := (6 : Int32)) (L2 := [some (.ref 0), some (.ref 32), some (.ref 89), some (.int (6))]) m190_1428 rfl (by decide) rfl rfl ?_
      refine g_goto m190_1431 ?_
      refine g_iload_n m190_18 rfl ?_
      refine g_aload_n m190_19 rfl ?_
      refine g_alen (n := 6) m190_20 rfl (Or.inl rfl) rfl ?_
      refine g_bipush m190_21 ?_
      refine g_isub (u := (0 : Int32)) m190_23 (by decide) ?_
      refine g_ic_gtT m190_24 (by decide) ?_
      refine g_iconst m190_1434 ?_
      refine g_zret m190_1435 rfl (Or.inr rfl) ?_
      exact rfl
    · have d4 : ¬ (3 < (s1).toInt) := fun q => c3 ((lt_k (by rfl) (by rfl)).mpr q)
      refine g_iconst m54_9 ?_
      refine g_goto m54_10 ?_
      refine g_zret m54_14 rfl (Or.inr rfl) ?_
      refine gwst (st' := [.int (1)]) rfl ?_
      refine g_if_neF m98_5 (by decide) ?_
      refine g_aload_n m98_14 rfl ?_
      refine g_gf m98_15 rfl rfl ?_
      refine g_iload_n m98_18 rfl ?_
      obtain ⟨j5, e6, x7⟩ := nat_of (x := s1) (lo := 0) (hi := 3) (by omega) (by omega)
      rcases (show j5 = 0 ∨ j5 = 1 ∨ j5 = 2 ∨ j5 = 3 by omega) with rfl | rfl | rfl | rfl
      · have x7q : s1 = (0 : Int32) := x7
        clear x7
        subst x7q
        refine g_aald m98_19 (Nat.le_of_ble_eq_true rfl) rfl (vin rfl) rfl ?_
        refine g_astore_n (L2 := [some (.ref 32), some (.int (0)), some (.ref 80), none, none]) m98_20 rfl rfl ?_
        refine g_aload_n m98_21 rfl ?_
        refine g_gf m98_22 rfl rfl ?_
        refine g_if_neT m98_25 (by decide) ?_
        refine g_aload_n m98_28 rfl ?_
        refine g_iconst m98_29 ?_
        refine g_cv (args := [.int (2)]) (rest := []) m98_30 (Nat.le_of_ble_eq_true rfl) rfl rfl rfl (Nat.le_of_ble_eq_true rfl) ?_
        refine wp_in (L := [some (.ref 32), some (.int (2))]) (Nat.le_of_ble_eq_true rfl) rfl ?_
        refine g_aload_n m55_0 rfl ?_
        refine g_gf m55_1 rfl rfl ?_
        refine g_iload_n m55_4 rfl ?_
        refine g_dup2 m55_5 rfl rfl ?_
        refine g_iald (x := (0 : Int32)) m55_6 rfl (vin rfl) rfl ?_
        refine g_iconst m55_7 ?_
        refine g_iadd (u := (1 : Int32)) m55_8 (by decide) ?_
        refine g_iast m55_9 (Nat.le_of_ble_eq_true rfl) rfl (vin rfl) rfl rfl rfl ?_
        refine g_ldcw m55_10 ?_
        refine g_iload_n m55_13 rfl ?_
        refine g_isub (u := (-1000000002 : Int32)) m55_14 (by decide) ?_
        refine g_iret m55_15 rfl ?_
        refine gwst (st' := [.int (-1000000002)]) rfl ?_
        refine g_iret m98_33 rfl ?_
        refine gwst (st' := [.int (-1000000002)]) rfl ?_
        refine FRg rfl (fun f => ?_)
        refine g_aload_n m190_1283 rfl ?_
        refine g_aload_n m190_1284 rfl ?_
        refine g_iload_n m190_1285 rfl ?_
        refine g_iconst m190_1286 ?_
        refine g_iadd (u := (1 : Int32)) m190_1287 (by decide) ?_
        refine g_iald (x := (0 : Int32)) m190_1288 rfl (vin rfl) rfl ?_
        refine g_cv (args := [.int (0)]) (rest := [.int (-1000000002)]) m190_1289 (Nat.le_of_ble_eq_true rfl) rfl rfl rfl (Nat.le_of_ble_eq_true rfl) ?_
        refine wp_in (L := [some (.ref 89), some (.int (0)), none]) (Nat.le_of_ble_eq_true rfl) rfl ?_
        refine g_iload_n m182_0 rfl ?_
        refine g_cs (args := [.int (0)]) (rest := []) 0 (Or.inl rfl) m182_1 (Nat.le_of_ble_eq_true rfl) rfl rfl (Nat.le_of_ble_eq_true rfl) ?_
        refine wp_in (L := [some (.int (0))]) (Nat.le_of_ble_eq_true rfl) rfl ?_
        refine g_iload_n m160_0 rfl ?_
        refine g_iconst m160_1 ?_
        refine g_iconst m160_2 ?_
        refine g_cs (args := [.int (0), .int (0), .int (3)]) (rest := []) 0 (Or.inl rfl) m160_3 (Nat.le_of_ble_eq_true rfl) rfl rfl (Nat.le_of_ble_eq_true rfl) ?_
        refine wp_in (L := [some (.int (0)), some (.int (0)), some (.int (3))]) (Nat.le_of_ble_eq_true rfl) rfl ?_
        refine g_iload_n m107_0 rfl ?_
        refine g_iload_n m107_1 rfl ?_
        refine g_ic_ltF m107_2 (by decide) ?_
        refine g_iload_n m107_5 rfl ?_
        refine g_iload_n m107_6 rfl ?_
        refine g_ic_gtF m107_7 (by decide) ?_
        refine g_iconst m107_10 ?_
        refine g_goto m107_11 ?_
        refine g_zret m107_15 rfl (Or.inr rfl) ?_
        refine gwst (st' := [.int (1)]) rfl ?_
        refine g_zret m160_6 rfl (Or.inr rfl) ?_
        refine gwst (st' := [.int (1)]) rfl ?_
        refine g_if_neF m182_4 (by decide) ?_
        refine g_aload_n m182_14 rfl ?_
        refine g_gf m182_15 rfl rfl ?_
        refine g_iload_n m182_18 rfl ?_
        refine g_iald (x := (0 : Int32)) m182_19 rfl (vin rfl) rfl ?_
        refine g_if_neT m182_20 (by decide) ?_
        refine g_aload_n m182_23 rfl ?_
        refine g_ldci m182_24 rfl ?_
        refine g_cv (args := [.int (-1000000002)]) (rest := []) m182_26 (Nat.le_of_ble_eq_true rfl) rfl rfl rfl (Nat.le_of_ble_eq_true rfl) ?_
        refine wp_in (L := [some (.ref 89), some (.int (-1000000002))]) (Nat.le_of_ble_eq_true rfl) rfl ?_
        refine g_aload_n m108_0 rfl ?_
        refine g_gf m108_1 rfl rfl ?_
        refine g_ldci m108_4 rfl ?_
        refine g_iload_n m108_6 rfl ?_
        refine g_isub (u := (2 : Int32)) m108_7 (by decide) ?_
        refine g_dup2 m108_8 rfl rfl ?_
        refine g_iald (x := (0 : Int32)) m108_9 rfl (vin rfl) rfl ?_
        refine g_iconst m108_10 ?_
        refine g_iadd (u := (1 : Int32)) m108_11 (by decide) ?_
        refine g_iast m108_12 (Nat.le_of_ble_eq_true rfl) rfl (vin rfl) rfl rfl rfl ?_
        refine g_iload_n m108_13 rfl ?_
        refine g_iret m108_14 rfl ?_
        refine gwst (st' := [.int (-1000000002)]) rfl ?_
        refine g_iret m182_29 rfl ?_
        refine gwst (st' := [.int (-1000000002), .int (-1000000002)]) rfl ?_
        refine g_ic_eqT m190_1292 (by decide) ?_
        refine g_iinc (x2 := (6 : Int32)) (L2 := [some (.ref 0), some (.ref 32), some (.ref 89), some (.int (6))]) m190_1428 rfl (by decide) rfl rfl ?_
        refine g_goto m190_1431 ?_
        refine g_iload_n m190_18 rfl ?_
        refine g_aload_n m190_19 rfl ?_
        refine g_alen (n := 6) m190_20 rfl (Or.inl rfl) rfl ?_
        refine g_bipush m190_21 ?_
        refine g_isub (u := (0 : Int32)) m190_23 (by decide) ?_
        refine g_ic_gtT m190_24 (by decide) ?_
        refine g_iconst m190_1434 ?_
        refine g_zret m190_1435 rfl (Or.inr rfl) ?_
        exact rfl
      · have x7q : s1 = (1 : Int32) := x7
        clear x7
        subst x7q
        refine g_aald m98_19 (Nat.le_of_ble_eq_true rfl) rfl (vin rfl) rfl ?_
        refine g_astore_n (L2 := [some (.ref 32), some (.int (1)), some (.ref 82), none, none]) m98_20 rfl rfl ?_
        refine g_aload_n m98_21 rfl ?_
        refine g_gf m98_22 rfl rfl ?_
        refine g_if_neT m98_25 (by decide) ?_
        refine g_aload_n m98_28 rfl ?_
        refine g_iconst m98_29 ?_
        refine g_cv (args := [.int (2)]) (rest := []) m98_30 (Nat.le_of_ble_eq_true rfl) rfl rfl rfl (Nat.le_of_ble_eq_true rfl) ?_
        refine wp_in (L := [some (.ref 32), some (.int (2))]) (Nat.le_of_ble_eq_true rfl) rfl ?_
        refine g_aload_n m55_0 rfl ?_
        refine g_gf m55_1 rfl rfl ?_
        refine g_iload_n m55_4 rfl ?_
        refine g_dup2 m55_5 rfl rfl ?_
        refine g_iald (x := (0 : Int32)) m55_6 rfl (vin rfl) rfl ?_
        refine g_iconst m55_7 ?_
        refine g_iadd (u := (1 : Int32)) m55_8 (by decide) ?_
        refine g_iast m55_9 (Nat.le_of_ble_eq_true rfl) rfl (vin rfl) rfl rfl rfl ?_
        refine g_ldcw m55_10 ?_
        refine g_iload_n m55_13 rfl ?_
        refine g_isub (u := (-1000000002 : Int32)) m55_14 (by decide) ?_
        refine g_iret m55_15 rfl ?_
        refine gwst (st' := [.int (-1000000002)]) rfl ?_
        refine g_iret m98_33 rfl ?_
        refine gwst (st' := [.int (-1000000002)]) rfl ?_
        refine FRg rfl (fun f => ?_)
        refine g_aload_n m190_1283 rfl ?_
        refine g_aload_n m190_1284 rfl ?_
        refine g_iload_n m190_1285 rfl ?_
        refine g_iconst m190_1286 ?_
        refine g_iadd (u := (1 : Int32)) m190_1287 (by decide) ?_
        refine g_iald (x := (1 : Int32)) m190_1288 rfl (vin rfl) rfl ?_
        refine g_cv (args := [.int (1)]) (rest := [.int (-1000000002)]) m190_1289 (Nat.le_of_ble_eq_true rfl) rfl rfl rfl (Nat.le_of_ble_eq_true rfl) ?_
        refine wp_in (L := [some (.ref 89), some (.int (1)), none]) (Nat.le_of_ble_eq_true rfl) rfl ?_
        refine g_iload_n m182_0 rfl ?_
        refine g_cs (args := [.int (1)]) (rest := []) 0 (Or.inl rfl) m182_1 (Nat.le_of_ble_eq_true rfl) rfl rfl (Nat.le_of_ble_eq_true rfl) ?_
        refine wp_in (L := [some (.int (1))]) (Nat.le_of_ble_eq_true rfl) rfl ?_
        refine g_iload_n m160_0 rfl ?_
        refine g_iconst m160_1 ?_
        refine g_iconst m160_2 ?_
        refine g_cs (args := [.int (1), .int (0), .int (3)]) (rest := []) 0 (Or.inl rfl) m160_3 (Nat.le_of_ble_eq_true rfl) rfl rfl (Nat.le_of_ble_eq_true rfl) ?_
        refine wp_in (L := [some (.int (1)), some (.int (0)), some (.int (3))]) (Nat.le_of_ble_eq_true rfl) rfl ?_
        refine g_iload_n m107_0 rfl ?_
        refine g_iload_n m107_1 rfl ?_
        refine g_ic_ltF m107_2 (by decide) ?_
        refine g_iload_n m107_5 rfl ?_
        refine g_iload_n m107_6 rfl ?_
        refine g_ic_gtF m107_7 (by decide) ?_
        refine g_iconst m107_10 ?_
        refine g_goto m107_11 ?_
        refine g_zret m107_15 rfl (Or.inr rfl) ?_
        refine gwst (st' := [.int (1)]) rfl ?_
        refine g_zret m160_6 rfl (Or.inr rfl) ?_
        refine gwst (st' := [.int (1)]) rfl ?_
        refine g_if_neF m182_4 (by decide) ?_
        refine g_aload_n m182_14 rfl ?_
        refine g_gf m182_15 rfl rfl ?_
        refine g_iload_n m182_18 rfl ?_
        refine g_iald (x := (0 : Int32)) m182_19 rfl (vin rfl) rfl ?_
        refine g_if_neT m182_20 (by decide) ?_
        refine g_aload_n m182_23 rfl ?_
        refine g_ldci m182_24 rfl ?_
        refine g_cv (args := [.int (-1000000002)]) (rest := []) m182_26 (Nat.le_of_ble_eq_true rfl) rfl rfl rfl (Nat.le_of_ble_eq_true rfl) ?_
        refine wp_in (L := [some (.ref 89), some (.int (-1000000002))]) (Nat.le_of_ble_eq_true rfl) rfl ?_
        refine g_aload_n m108_0 rfl ?_
        refine g_gf m108_1 rfl rfl ?_
        refine g_ldci m108_4 rfl ?_
        refine g_iload_n m108_6 rfl ?_
        refine g_isub (u := (2 : Int32)) m108_7 (by decide) ?_
        refine g_dup2 m108_8 rfl rfl ?_
        refine g_iald (x := (0 : Int32)) m108_9 rfl (vin rfl) rfl ?_
        refine g_iconst m108_10 ?_
        refine g_iadd (u := (1 : Int32)) m108_11 (by decide) ?_
        refine g_iast m108_12 (Nat.le_of_ble_eq_true rfl) rfl (vin rfl) rfl rfl rfl ?_
        refine g_iload_n m108_13 rfl ?_
        refine g_iret m108_14 rfl ?_
        refine gwst (st' := [.int (-1000000002)]) rfl ?_
        refine g_iret m182_29 rfl ?_
        refine gwst (st' := [.int (-1000000002), .int (-1000000002)]) rfl ?_
        refine g_ic_eqT m190_1292 (by decide) ?_
        refine g_iinc (x2 := (6 : Int32)) (L2 := [some (.ref 0), some (.ref 32), some (.ref 89), some (.int (6))]) m190_1428 rfl (by decide) rfl rfl ?_
        refine g_goto m190_1431 ?_
        refine g_iload_n m190_18 rfl ?_
        refine g_aload_n m190_19 rfl ?_
        refine g_alen (n := 6) m190_20 rfl (Or.inl rfl) rfl ?_
        refine g_bipush m190_21 ?_
        refine g_isub (u := (0 : Int32)) m190_23 (by decide) ?_
        refine g_ic_gtT m190_24 (by decide) ?_
        refine g_iconst m190_1434 ?_
        refine g_zret m190_1435 rfl (Or.inr rfl) ?_
        exact rfl
      · have x7q : s1 = (2 : Int32) := x7
        clear x7
        subst x7q
        refine g_aald m98_19 (Nat.le_of_ble_eq_true rfl) rfl (vin rfl) rfl ?_
        refine g_astore_n (L2 := [some (.ref 32), some (.int (2)), some (.ref 84), none, none]) m98_20 rfl rfl ?_
        refine g_aload_n m98_21 rfl ?_
        refine g_gf m98_22 rfl rfl ?_
        refine g_if_neT m98_25 (by decide) ?_
        refine g_aload_n m98_28 rfl ?_
        refine g_iconst m98_29 ?_
        refine g_cv (args := [.int (2)]) (rest := []) m98_30 (Nat.le_of_ble_eq_true rfl) rfl rfl rfl (Nat.le_of_ble_eq_true rfl) ?_
        refine wp_in (L := [some (.ref 32), some (.int (2))]) (Nat.le_of_ble_eq_true rfl) rfl ?_
        refine g_aload_n m55_0 rfl ?_
        refine g_gf m55_1 rfl rfl ?_
        refine g_iload_n m55_4 rfl ?_
        refine g_dup2 m55_5 rfl rfl ?_
        refine g_iald (x := (0 : Int32)) m55_6 rfl (vin rfl) rfl ?_
        refine g_iconst m55_7 ?_
        refine g_iadd (u := (1 : Int32)) m55_8 (by decide) ?_
        refine g_iast m55_9 (Nat.le_of_ble_eq_true rfl) rfl (vin rfl) rfl rfl rfl ?_
        refine g_ldcw m55_10 ?_
        refine g_iload_n m55_13 rfl ?_
        refine g_isub (u := (-1000000002 : Int32)) m55_14 (by decide) ?_
        refine g_iret m55_15 rfl ?_
        refine gwst (st' := [.int (-1000000002)]) rfl ?_
        refine g_iret m98_33 rfl ?_
        refine gwst (st' := [.int (-1000000002)]) rfl ?_
        refine FRg rfl (fun f => ?_)
        refine g_aload_n m190_1283 rfl ?_
        refine g_aload_n m190_1284 rfl ?_
        refine g_iload_n m190_1285 rfl ?_
        refine g_iconst m190_1286 ?_
        refine g_iadd (u := (1 : Int32)) m190_1287 (by decide) ?_
        refine g_iald (x := (2 : Int32)) m190_1288 rfl (vin rfl) rfl ?_
        refine g_cv (args := [.int (2)]) (rest := [.int (-1000000002)]) m190_1289 (Nat.le_of_ble_eq_true rfl) rfl rfl rfl (Nat.le_of_ble_eq_true rfl) ?_
        refine wp_in (L := [some (.ref 89), some (.int (2)), none]) (Nat.le_of_ble_eq_true rfl) rfl ?_
        refine g_iload_n m182_0 rfl ?_
        refine g_cs (args := [.int (2)]) (rest := []) 0 (Or.inl rfl) m182_1 (Nat.le_of_ble_eq_true rfl) rfl rfl (Nat.le_of_ble_eq_true rfl) ?_
        refine wp_in (L := [some (.int (2))]) (Nat.le_of_ble_eq_true rfl) rfl ?_
        refine g_iload_n m160_0 rfl ?_
        refine g_iconst m160_1 ?_
        refine g_iconst m160_2 ?_
        refine g_cs (args := [.int (2), .int (0), .int (3)]) (rest := []) 0 (Or.inl rfl) m160_3 (Nat.le_of_ble_eq_true rfl) rfl rfl (Nat.le_of_ble_eq_true rfl) ?_
        refine wp_in (L := [some (.int (2)), some (.int (0)), some (.int (3))]) (Nat.le_of_ble_eq_true rfl) rfl ?_
        refine g_iload_n m107_0 rfl ?_
        refine g_iload_n m107_1 rfl ?_
        refine g_ic_ltF m107_2 (by decide) ?_
        refine g_iload_n m107_5 rfl ?_
        refine g_iload_n m107_6 rfl ?_
        refine g_ic_gtF m107_7 (by decide) ?_
        refine g_iconst m107_10 ?_
        refine g_goto m107_11 ?_
        refine g_zret m107_15 rfl (Or.inr rfl) ?_
        refine gwst (st' := [.int (1)]) rfl ?_
        refine g_zret m160_6 rfl (Or.inr rfl) ?_
        refine gwst (st' := [.int (1)]) rfl ?_
        refine g_if_neF m182_4 (by decide) ?_
        refine g_aload_n m182_14 rfl ?_
        refine g_gf m182_15 rfl rfl ?_
        refine g_iload_n m182_18 rfl ?_
        refine g_iald (x := (0 : Int32)) m182_19 rfl (vin rfl) rfl ?_
        refine g_if_neT m182_20 (by decide) ?_
        refine g_aload_n m182_23 rfl ?_
        refine g_ldci m182_24 rfl ?_
        refine g_cv (args := [.int (-1000000002)]) (rest := []) m182_26 (Nat.le_of_ble_eq_true rfl) rfl rfl rfl (Nat.le_of_ble_eq_true rfl) ?_
        refine wp_in (L := [some (.ref 89), some (.int (-1000000002))]) (Nat.le_of_ble_eq_true rfl) rfl ?_
        refine g_aload_n m108_0 rfl ?_
        refine g_gf m108_1 rfl rfl ?_
        refine g_ldci m108_4 rfl ?_
        refine g_iload_n m108_6 rfl ?_
        refine g_isub (u := (2 : Int32)) m108_7 (by decide) ?_
        refine g_dup2 m108_8 rfl rfl ?_
        refine g_iald (x := (0 : Int32)) m108_9 rfl (vin rfl) rfl ?_
        refine g_iconst m108_10 ?_
        refine g_iadd (u := (1 : Int32)) m108_11 (by decide) ?_
        refine g_iast m108_12 (Nat.le_of_ble_eq_true rfl) rfl (vin rfl) rfl rfl rfl ?_
        refine g_iload_n m108_13 rfl ?_
        refine g_iret m108_14 rfl ?_
        refine gwst (st' := [.int (-1000000002)]) rfl ?_
        refine g_iret m182_29 rfl ?_
        refine gwst (st' := [.int (-1000000002), .int (-1000000002)]) rfl ?_
        refine g_ic_eqT m190_1292 (by decide) ?_
        refine g_iinc (x2 := (6 : Int32)) (L2 := [some (.ref 0), some (.ref 32), some (.ref 89), some (.int (6))]) m190_1428 rfl (by decide) rfl rfl ?_
        refine g_goto m190_1431 ?_
        refine g_iload_n m190_18 rfl ?_
        refine g_aload_n m190_19 rfl ?_
        refine g_alen (n := 6) m190_20 rfl (Or.inl rfl) rfl ?_
        refine g_bipush m190_21 ?_
        refine g_isub (u := (0 : Int32)) m190_23 (by decide) ?_
        refine g_ic_gtT m190_24 (by decide) ?_
        refine g_iconst m190_1434 ?_
        refine g_zret m190_1435 rfl (Or.inr rfl) ?_
        exact rfl
      · have x7q : s1 = (3 : Int32) := x7
        clear x7
        subst x7q
        refine g_aald m98_19 (Nat.le_of_ble_eq_true rfl) rfl (vin rfl) rfl ?_
        refine g_astore_n (L2 := [some (.ref 32), some (.int (3)), some (.ref 86), none, none]) m98_20 rfl rfl ?_
        refine g_aload_n m98_21 rfl ?_
        refine g_gf m98_22 rfl rfl ?_
        refine g_if_neT m98_25 (by decide) ?_
        refine g_aload_n m98_28 rfl ?_
        refine g_iconst m98_29 ?_
        refine g_cv (args := [.int (2)]) (rest := []) m98_30 (Nat.le_of_ble_eq_true rfl) rfl rfl rfl (Nat.le_of_ble_eq_true rfl) ?_
        refine wp_in (L := [some (.ref 32), some (.int (2))]) (Nat.le_of_ble_eq_true rfl) rfl ?_
        refine g_aload_n m55_0 rfl ?_
        refine g_gf m55_1 rfl rfl ?_
        refine g_iload_n m55_4 rfl ?_
        refine g_dup2 m55_5 rfl rfl ?_
        refine g_iald (x := (0 : Int32)) m55_6 rfl (vin rfl) rfl ?_
        refine g_iconst m55_7 ?_
        refine g_iadd (u := (1 : Int32)) m55_8 (by decide) ?_
        refine g_iast m55_9 (Nat.le_of_ble_eq_true rfl) rfl (vin rfl) rfl rfl rfl ?_
        refine g_ldcw m55_10 ?_
        refine g_iload_n m55_13 rfl ?_
        refine g_isub (u := (-1000000002 : Int32)) m55_14 (by decide) ?_
        refine g_iret m55_15 rfl ?_
        refine gwst (st' := [.int (-1000000002)]) rfl ?_
        refine g_iret m98_33 rfl ?_
        refine gwst (st' := [.int (-1000000002)]) rfl ?_
        refine FRg rfl (fun f => ?_)
        refine g_aload_n m190_1283 rfl ?_
        refine g_aload_n m190_1284 rfl ?_
        refine g_iload_n m190_1285 rfl ?_
        refine g_iconst m190_1286 ?_
        refine g_iadd (u := (1 : Int32)) m190_1287 (by decide) ?_
        refine g_iald (x := (3 : Int32)) m190_1288 rfl (vin rfl) rfl ?_
        refine g_cv (args := [.int (3)]) (rest := [.int (-1000000002)]) m190_1289 (Nat.le_of_ble_eq_true rfl) rfl rfl rfl (Nat.le_of_ble_eq_true rfl) ?_
        refine wp_in (L := [some (.ref 89), some (.int (3)), none]) (Nat.le_of_ble_eq_true rfl) rfl ?_
        refine g_iload_n m182_0 rfl ?_
        refine g_cs (args := [.int (3)]) (rest := []) 0 (Or.inl rfl) m182_1 (Nat.le_of_ble_eq_true rfl) rfl rfl (Nat.le_of_ble_eq_true rfl) ?_
        refine wp_in (L := [some (.int (3))]) (Nat.le_of_ble_eq_true rfl) rfl ?_
        refine g_iload_n m160_0 rfl ?_
        refine g_iconst m160_1 ?_
        refine g_iconst m160_2 ?_
        refine g_cs (args := [.int (3), .int (0), .int (3)]) (rest := []) 0 (Or.inl rfl) m160_3 (Nat.le_of_ble_eq_true rfl) rfl rfl (Nat.le_of_ble_eq_true rfl) ?_
        refine wp_in (L := [some (.int (3)), some (.int (0)), some (.int (3))]) (Nat.le_of_ble_eq_true rfl) rfl ?_
        refine g_iload_n m107_0 rfl ?_
        refine g_iload_n m107_1 rfl ?_
        refine g_ic_ltF m107_2 (by decide) ?_
        refine g_iload_n m107_5 rfl ?_
        refine g_iload_n m107_6 rfl ?_
        refine g_ic_gtF m107_7 (by decide) ?_
        refine g_iconst m107_10 ?_
        refine g_goto m107_11 ?_
        refine g_zret m107_15 rfl (Or.inr rfl) ?_
        refine gwst (st' := [.int (1)]) rfl ?_
        refine g_zret m160_6 rfl (Or.inr rfl) ?_
        refine gwst (st' := [.int (1)]) rfl ?_
        refine g_if_neF m182_4 (by decide) ?_
        refine g_aload_n m182_14 rfl ?_
        refine g_gf m182_15 rfl rfl ?_
        refine g_iload_n m182_18 rfl ?_
        refine g_iald (x := (0 : Int32)) m182_19 rfl (vin rfl) rfl ?_
        refine g_if_neT m182_20 (by decide) ?_
        refine g_aload_n m182_23 rfl ?_
        refine g_ldci m182_24 rfl ?_
        refine g_cv (args := [.int (-1000000002)]) (rest := []) m182_26 (Nat.le_of_ble_eq_true rfl) rfl rfl rfl (Nat.le_of_ble_eq_true rfl) ?_
        refine wp_in (L := [some (.ref 89), some (.int (-1000000002))]) (Nat.le_of_ble_eq_true rfl) rfl ?_
        refine g_aload_n m108_0 rfl ?_
        refine g_gf m108_1 rfl rfl ?_
        refine g_ldci m108_4 rfl ?_
        refine g_iload_n m108_6 rfl ?_
        refine g_isub (u := (2 : Int32)) m108_7 (by decide) ?_
        refine g_dup2 m108_8 rfl rfl ?_
        refine g_iald (x := (0 : Int32)) m108_9 rfl (vin rfl) rfl ?_
        refine g_iconst m108_10 ?_
        refine g_iadd (u := (1 : Int32)) m108_11 (by decide) ?_
        refine g_iast m108_12 (Nat.le_of_ble_eq_true rfl) rfl (vin rfl) rfl rfl rfl ?_
        refine g_iload_n m108_13 rfl ?_
        refine g_iret m108_14 rfl ?_
        refine gwst (st' := [.int (-1000000002)]) rfl ?_
        refine g_iret m182_29 rfl ?_
        refine gwst (st' := [.int (-1000000002), .int (-1000000002)]) rfl ?_
        refine g_ic_eqT m190_1292 (by decide) ?_
        refine g_iinc (x2 := (6 : Int32)) (L2 := [some (.ref 0), some (.ref 32), some (.ref 89), some (.int (6))]) m190_1428 rfl (by decide) rfl rfl ?_
        refine g_goto m190_1431 ?_
        refine g_iload_n m190_18 rfl ?_
        refine g_aload_n m190_19 rfl ?_
        refine g_alen (n := 6) m190_20 rfl (Or.inl rfl) rfl ?_
        refine g_bipush m190_21 ?_
        refine g_isub (u := (0 : Int32)) m190_23 (by decide) ?_
        refine g_ic_gtT m190_24 (by decide) ?_
        refine g_iconst m190_1434 ?_
        refine g_zret m190_1435 rfl (Or.inr rfl) ?_
        exact rfl
set_option maxRecDepth 20000 in
set_option maxHeartbeats 40000000 in
theorem lc_33 {s0 s1 s2 s3 s4 s5 : Int32} {d mc ms : Nat} : gw [s0, s1, s2, s3, s4, s5] (WP [s0, s1, s2, s3, s4, s5] (d + 20)) 190 (fun r _ => r = some (.int 1)) 1297 [some (.ref 0), some (.ref 32), some (.ref 89), some (.int 0)] [] (hX0 ++ hM0) mc ms := by
  refine g_aload_n m190_1297 rfl ?_
  refine g_aload_n m190_1298 rfl ?_
  refine g_iload_n m190_1299 rfl ?_
  refine g_iconst m190_1300 ?_
  refine g_iadd (u := (1 : Int32)) m190_1301 (by decide) ?_
  refine g_iald (x := s1) m190_1302 rfl (vin rfl) rfl ?_
  refine g_cv (args := [.int _]) (rest := []) m190_1303 (Nat.le_of_ble_eq_true rfl) rfl rfl rfl (Nat.le_of_ble_eq_true rfl) ?_
  refine wp_in (L := [some (.ref 32), some (.int _), none, none, none]) (Nat.le_of_ble_eq_true rfl) rfl ?_
  refine g_iload_n m99_0 rfl ?_
  refine g_iconst m99_1 ?_
  refine g_cs (args := [.int _, .int (3)]) (rest := []) 0 (Or.inl rfl) m99_2 (Nat.le_of_ble_eq_true rfl) rfl rfl (Nat.le_of_ble_eq_true rfl) ?_
  refine wp_in (L := [some (.int _), some (.int (3))]) (Nat.le_of_ble_eq_true rfl) rfl ?_
  refine g_iload_n m54_0 rfl ?_
  refine g_if_lt m54_1 (fun c1 => ?_) (fun c1 => ?_)
  · have d2 : (s1).toInt < 0 := (lt_k (by rfl) (by rfl)).mp c1
    refine g_iconst m54_13 ?_
    refine g_zret m54_14 rfl (Or.inl rfl) ?_
    refine gwst (st' := [.int (0)]) rfl ?_
    refine g_if_neT m99_5 (by decide) ?_
    refine g_aload_n m99_8 rfl ?_
    refine g_iconst m99_9 ?_
    refine g_cv (args := [.int (1)]) (rest := []) m99_10 (Nat.le_of_ble_eq_true rfl) rfl rfl rfl (Nat.le_of_ble_eq_true rfl) ?_
    refine wp_in (L := [some (.ref 32), some (.int (1))]) (Nat.le_of_ble_eq_true rfl) rfl ?_
    refine g_aload_n m55_0 rfl ?_
    refine g_gf m55_1 rfl rfl ?_
    refine g_iload_n m55_4 rfl ?_
    refine g_dup2 m55_5 rfl rfl ?_
    refine g_iald (x := (0 : Int32)) m55_6 rfl (vin rfl) rfl ?_
    refine g_iconst m55_7 ?_
    refine g_iadd (u := (1 : Int32)) m55_8 (by decide) ?_
    refine g_iast m55_9 (Nat.le_of_ble_eq_true rfl) rfl (vin rfl) rfl rfl rfl ?_
    refine g_ldcw m55_10 ?_
    refine g_iload_n m55_13 rfl ?_
    refine g_isub (u := (-1000000001 : Int32)) m55_14 (by decide) ?_
    refine g_iret m55_15 rfl ?_
    refine gwst (st' := [.int (-1000000001)]) rfl ?_
    refine g_iret m99_13 rfl ?_
    refine gwst (st' := [.int (-1000000001)]) rfl ?_
    refine FRg rfl (fun f => ?_)
    refine g_aload_n m190_1306 rfl ?_
    refine g_aload_n m190_1307 rfl ?_
    refine g_iload_n m190_1308 rfl ?_
    refine g_iconst m190_1309 ?_
    refine g_iadd (u := (1 : Int32)) m190_1310 (by decide) ?_
    refine g_iald (x := s1) m190_1311 rfl (vin rfl) rfl ?_
    refine g_cv (args := [.int _]) (rest := [.int (-1000000001)]) m190_1312 (Nat.le_of_ble_eq_true rfl) rfl rfl rfl (Nat.le_of_ble_eq_true rfl) ?_
    refine wp_in (L := [some (.ref 89), some (.int _), none]) (Nat.le_of_ble_eq_true rfl) rfl ?_
    refine g_iload_n m183_0 rfl ?_
    refine g_cs (args := [.int _]) (rest := []) 0 (Or.inl rfl) m183_1 (Nat.le_of_ble_eq_true rfl) rfl rfl (Nat.le_of_ble_eq_true rfl) ?_
    refine wp_in (L := [some (.int _)]) (Nat.le_of_ble_eq_true rfl) rfl ?_
    refine g_iload_n m160_0 rfl ?_
    refine g_iconst m160_1 ?_
    refine g_iconst m160_2 ?_
    refine g_cs (args := [.int _, .int (0), .int (3)]) (rest := []) 0 (Or.inl rfl) m160_3 (Nat.le_of_ble_eq_true rfl) rfl rfl (Nat.le_of_ble_eq_true rfl) ?_
    refine wp_in (L := [some (.int _), some (.int (0)), some (.int (3))]) (Nat.le_of_ble_eq_true rfl) rfl ?_
    refine g_iload_n m107_0 rfl ?_
    refine g_iload_n m107_1 rfl ?_
    refine g_ic_ltT m107_2 ((lt_k (a := (s1).toInt) (b := 0) (by rfl) (by rfl)).mpr (by omega)) ?_
    refine g_iconst m107_14 ?_
    refine g_zret m107_15 rfl (Or.inl rfl) ?_
    refine gwst (st' := [.int (0)]) rfl ?_
    refine g_zret m160_6 rfl (Or.inl rfl) ?_
    refine gwst (st' := [.int (0)]) rfl ?_
    refine g_if_neT m183_4 (by decide) ?_
    refine g_aload_n m183_7 rfl ?_
    refine g_ldci m183_8 rfl ?_
    refine g_cv (args := [.int (-1000000001)]) (rest := []) m183_10 (Nat.le_of_ble_eq_true rfl) rfl rfl rfl (Nat.le_of_ble_eq_true rfl) ?_
    refine wp_in (L := [some (.ref 89), some (.int (-1000000001))]) (Nat.le_of_ble_eq_true rfl) rfl ?_
    refine g_aload_n m108_0 rfl ?_
    refine g_gf m108_1 rfl rfl ?_
    refine g_ldci m108_4 rfl ?_
    refine g_iload_n m108_6 rfl ?_
    refine g_isub (u := (1 : Int32)) m108_7 (by decide) ?_
    refine g_dup2 m108_8 rfl rfl ?_
    refine g_iald (x := (0 : Int32)) m108_9 rfl (vin rfl) rfl ?_
    refine g_iconst m108_10 ?_
    refine g_iadd (u := (1 : Int32)) m108_11 (by decide) ?_
    refine g_iast m108_12 (Nat.le_of_ble_eq_true rfl) rfl (vin rfl) rfl rfl rfl ?_
    refine g_iload_n m108_13 rfl ?_
    refine g_iret m108_14 rfl ?_
    refine gwst (st' := [.int (-1000000001)]) rfl ?_
    refine g_iret m183_13 rfl ?_
    refine gwst (st' := [.int (-1000000001), .int (-1000000001)]) rfl ?_
    refine g_ic_eqT m190_1315 (by decide) ?_
    refine g_iinc (x2 := (6 : Int32)) (L2 := [some (.ref 0), some (.ref 32), some (.ref 89), some (.int (6))]) m190_1428 rfl (by decide) rfl rfl ?_
    refine g_goto m190_1431 ?_
    refine g_iload_n m190_18 rfl ?_
    refine g_aload_n m190_19 rfl ?_
    refine g_alen (n := 6) m190_20 rfl (Or.inl rfl) rfl ?_
    refine g_bipush m190_21 ?_
    refine g_isub (u := (0 : Int32)) m190_23 (by decide) ?_
    refine g_ic_gtT m190_24 (by decide) ?_
    refine g_iconst m190_1434 ?_
    refine g_zret m190_1435 rfl (Or.inr rfl) ?_
    exact rfl
  · have d2 : ¬ ((s1).toInt < 0) := fun q => c1 ((lt_k (by rfl) (by rfl)).mpr q)
    refine g_iload_n m54_4 rfl ?_
    refine g_iload_n m54_5 rfl ?_
    refine g_ic_gt m54_6 (fun c3 => ?_) (fun c3 => ?_)
    · have d4 : 3 < (s1).toInt := (lt_k (by rfl) (by rfl)).mp c3
      refine g_iconst m54_13 ?_
      refine g_zret m54_14 rfl (Or.inl rfl) ?_
      refine gwst (st' := [.int (0)]) rfl ?_
      refine g_if_neT m99_5 (by decide) ?_
      refine g_aload_n m99_8 rfl ?_
      refine g_iconst m99_9 ?_
      refine g_cv (args := [.int (1)]) (rest := []) m99_10 (Nat.le_of_ble_eq_true rfl) rfl rfl rfl (Nat.le_of_ble_eq_true rfl) ?_
      refine wp_in (L := [some (.ref 32), some (.int (1))]) (Nat.le_of_ble_eq_true rfl) rfl ?_
      refine g_aload_n m55_0 rfl ?_
      refine g_gf m55_1 rfl rfl ?_
      refine g_iload_n m55_4 rfl ?_
      refine g_dup2 m55_5 rfl rfl ?_
      refine g_iald (x := (0 : Int32)) m55_6 rfl (vin rfl) rfl ?_
      refine g_iconst m55_7 ?_
      refine g_iadd (u := (1 : Int32)) m55_8 (by decide) ?_
      refine g_iast m55_9 (Nat.le_of_ble_eq_true rfl) rfl (vin rfl) rfl rfl rfl ?_
      refine g_ldcw m55_10 ?_
      refine g_iload_n m55_13 rfl ?_
      refine g_isub (u := (-1000000001 : Int32)) m55_14 (by decide) ?_
      refine g_iret m55_15 rfl ?_
      refine gwst (st' := [.int (-1000000001)]) rfl ?_
      refine g_iret m99_13 rfl ?_
      refine gwst (st' := [.int (-1000000001)]) rfl ?_
      refine FRg rfl (fun f => ?_)
      refine g_aload_n m190_1306 rfl ?_
      refine g_aload_n m190_1307 rfl ?_
      refine g_iload_n m190_1308 rfl ?_
      refine g_iconst m190_1309 ?_
      refine g_iadd (u := (1 : Int32)) m190_1310 (by decide) ?_
      refine g_iald (x := s1) m190_1311 rfl (vin rfl) rfl ?_
      refine g_cv (args := [.int _]) (rest := [.int (-1000000001)]) m190_1312 (Nat.le_of_ble_eq_true rfl) rfl rfl rfl (Nat.le_of_ble_eq_true rfl) ?_
      refine wp_in (L := [some (.ref 89), some (.int _), none]) (Nat.le_of_ble_eq_true rfl) rfl ?_
      refine g_iload_n m183_0 rfl ?_
      refine g_cs (args := [.int _]) (rest := []) 0 (Or.inl rfl) m183_1 (Nat.le_of_ble_eq_true rfl) rfl rfl (Nat.le_of_ble_eq_true rfl) ?_
      refine wp_in (L := [some (.int _)]) (Nat.le_of_ble_eq_true rfl) rfl ?_
      refine g_iload_n m160_0 rfl ?_
      refine g_iconst m160_1 ?_
      refine g_iconst m160_2 ?_
      refine g_cs (args := [.int _, .int (0), .int (3)]) (rest := []) 0 (Or.inl rfl) m160_3 (Nat.le_of_ble_eq_true rfl) rfl rfl (Nat.le_of_ble_eq_true rfl) ?_
      refine wp_in (L := [some (.int _), some (.int (0)), some (.int (3))]) (Nat.le_of_ble_eq_true rfl) rfl ?_
      refine g_iload_n m107_0 rfl ?_
      refine g_iload_n m107_1 rfl ?_
      refine g_ic_ltF m107_2 (fun q => absurd ((lt_k (a := (s1).toInt) (b := 0) (by rfl) (by rfl)).mp q) (by omega)) ?_
      refine g_iload_n m107_5 rfl ?_
      refine g_iload_n m107_6 rfl ?_
      refine g_ic_gtT m107_7 ((lt_k (a := 3) (b := (s1).toInt) (by rfl) (by rfl)).mpr (by omega)) ?_
      refine g_iconst m107_14 ?_
      refine g_zret m107_15 rfl (Or.inl rfl) ?_
      refine gwst (st' := [.int (0)]) rfl ?_
      refine g_zret m160_6 rfl (Or.inl rfl) ?_
      refine gwst (st' := [.int (0)]) rfl ?_
      refine g_if_neT m183_4 (by decide) ?_
      refine g_aload_n m183_7 rfl ?_
      refine g_ldci m183_8 rfl ?_
      refine g_cv (args := [.int (-1000000001)]) (rest := []) m183_10 (Nat.le_of_ble_eq_true rfl) rfl rfl rfl (Nat.le_of_ble_eq_true rfl) ?_
      refine wp_in (L := [some (.ref 89), some (.int (-1000000001))]) (Nat.le_of_ble_eq_true rfl) rfl ?_
      refine g_aload_n m108_0 rfl ?_
      refine g_gf m108_1 rfl rfl ?_
      refine g_ldci m108_4 rfl ?_
      refine g_iload_n m108_6 rfl ?_
      refine g_isub (u := (1 : Int32)) m108_7 (by decide) ?_
      refine g_dup2 m108_8 rfl rfl ?_
      refine g_iald (x := (0 : Int32)) m108_9 rfl (vin rfl) rfl ?_
      refine g_iconst m108_10 ?_
      refine g_iadd (u := (1 : Int32)) m108_11 (by decide) ?_
      refine g_iast m108_12 (Nat.le_of_ble_eq_true rfl) rfl (vin rfl) rfl rfl rfl ?_
      refine g_iload_n m108_13 rfl ?_
      refine g_iret m108_14 rfl ?_
      refine gwst (st' := [.int (-1000000001)]) rfl ?_
      refine g_iret m183_13 rfl ?_
      refine gwst (st' := [.int (-1000000001), .int (-1000000001)]) rfl ?_
      refine g_ic_eqT m190_1315 (by decide) ?_
      refine g_iinc (x2 := (6 : Int32)) (L2 := [some (.ref 0), some (.ref 32), some (.ref 89), some (.int (6))]) m190_1428 rfl (by decide) rfl rfl ?_
      refine g_goto m190_1431 ?_
      refine g_iload_n m190_18 rfl ?_
      refine g_aload_n m190_19 rfl ?_
      refine g_alen (n := 6) m190_20 rfl (Or.inl rfl) rfl ?_
      refine g_bipush m190_21 ?_
      refine g_isub (u := (0 : Int32)) m190_23 (by decide) ?_
      refine g_ic_gtT m190_24 (by decide) ?_
      refine g_iconst m190_1434 ?_
      refine g_zret m190_1435 rfl (Or.inr rfl) ?_
      exact rfl
    · have d4 : ¬ (3 < (s1).toInt) := fun q => c3 ((lt_k (by rfl) (by rfl)).mpr q)
      refine g_iconst m54_9 ?_
      refine g_goto m54_10 ?_
      refine g_zret m54_14 rfl (Or.inr rfl) ?_
      refine gwst (st' := [.int (1)]) rfl ?_
      refine g_if_neF m99_5 (by decide) ?_
      refine g_aload_n m99_14 rfl ?_
      refine g_gf m99_15 rfl rfl ?_
      refine g_iload_n m99_18 rfl ?_
      obtain ⟨j5, e6, x7⟩ := nat_of (x := s1) (lo := 0) (hi := 3) (by omega) (by omega)
      rcases (show j5 = 0 ∨ j5 = 1 ∨ j5 = 2 ∨ j5 = 3 by omega) with rfl | rfl | rfl | rfl
      · have x7q : s1 = (0 : Int32) := x7
        clear x7
        subst x7q
        refine g_aald m99_19 (Nat.le_of_ble_eq_true rfl) rfl (vin rfl) rfl ?_
        refine g_astore_n (L2 := [some (.ref 32), some (.int (0)), some (.ref 80), none, none]) m99_20 rfl rfl ?_
        refine g_aload_n m99_21 rfl ?_
        refine g_gf m99_22 rfl rfl ?_
        refine g_if_neT m99_25 (by decide) ?_
        refine g_aload_n m99_28 rfl ?_
        refine g_iconst m99_29 ?_
        refine g_cv (args := [.int (2)]) (rest := []) m99_30 (Nat.le_of_ble_eq_true rfl) rfl rfl rfl (Nat.le_of_ble_eq_true rfl) ?_
        refine wp_in (L := [some (.ref 32), some (.int (2))]) (Nat.le_of_ble_eq_true rfl) rfl ?_
        refine g_aload_n m55_0 rfl ?_
        refine g_gf m55_1 rfl rfl ?_
        refine g_iload_n m55_4 rfl ?_
        refine g_dup2 m55_5 rfl rfl ?_
        refine g_iald (x := (0 : Int32)) m55_6 rfl (vin rfl) rfl ?_
        refine g_iconst m55_7 ?_
        refine g_iadd (u := (1 : Int32)) m55_8 (by decide) ?_
        refine g_iast m55_9 (Nat.le_of_ble_eq_true rfl) rfl (vin rfl) rfl rfl rfl ?_
        refine g_ldcw m55_10 ?_
        refine g_iload_n m55_13 rfl ?_
        refine g_isub (u := (-1000000002 : Int32)) m55_14 (by decide) ?_
        refine g_iret m55_15 rfl ?_
        refine gwst (st' := [.int (-1000000002)]) rfl ?_
        refine g_iret m99_33 rfl ?_
        refine gwst (st' := [.int (-1000000002)]) rfl ?_
        refine FRg rfl (fun f => ?_)
        refine g_aload_n m190_1306 rfl ?_
        refine g_aload_n m190_1307 rfl ?_
        refine g_iload_n m190_1308 rfl ?_
        refine g_iconst m190_1309 ?_
        refine g_iadd (u := (1 : Int32)) m190_1310 (by decide) ?_
        refine g_iald (x := (0 : Int32)) m190_1311 rfl (vin rfl) rfl ?_
        refine g_cv (args := [.int (0)]) (rest := [.int (-1000000002)]) m190_1312 (Nat.le_of_ble_eq_true rfl) rfl rfl rfl (Nat.le_of_ble_eq_true rfl) ?_
        refine wp_in (L := [some (.ref 89), some (.int (0)), none]) (Nat.le_of_ble_eq_true rfl) rfl ?_
        refine g_iload_n m183_0 rfl ?_
        refine g_cs (args := [.int (0)]) (rest := []) 0 (Or.inl rfl) m183_1 (Nat.le_of_ble_eq_true rfl) rfl rfl (Nat.le_of_ble_eq_true rfl) ?_
        refine wp_in (L := [some (.int (0))]) (Nat.le_of_ble_eq_true rfl) rfl ?_
        refine g_iload_n m160_0 rfl ?_
        refine g_iconst m160_1 ?_
        refine g_iconst m160_2 ?_
        refine g_cs (args := [.int (0), .int (0), .int (3)]) (rest := []) 0 (Or.inl rfl) m160_3 (Nat.le_of_ble_eq_true rfl) rfl rfl (Nat.le_of_ble_eq_true rfl) ?_
        refine wp_in (L := [some (.int (0)), some (.int (0)), some (.int (3))]) (Nat.le_of_ble_eq_true rfl) rfl ?_
        refine g_iload_n m107_0 rfl ?_
        refine g_iload_n m107_1 rfl ?_
        refine g_ic_ltF m107_2 (by decide) ?_
        refine g_iload_n m107_5 rfl ?_
        refine g_iload_n m107_6 rfl ?_
        refine g_ic_gtF m107_7 (by decide) ?_
        refine g_iconst m107_10 ?_
        refine g_goto m107_11 ?_
        refine g_zret m107_15 rfl (Or.inr rfl) ?_
        refine gwst (st' := [.int (1)]) rfl ?_
        refine g_zret m160_6 rfl (Or.inr rfl) ?_
        refine gwst (st' := [.int (1)]) rfl ?_
        refine g_if_neF m183_4 (by decide) ?_
        refine g_aload_n m183_14 rfl ?_
        refine g_gf m183_15 rfl rfl ?_
        refine g_iload_n m183_18 rfl ?_
        refine g_iald (x := (0 : Int32)) m183_19 rfl (vin rfl) rfl ?_
        refine g_if_neT m183_20 (by decide) ?_
        refine g_aload_n m183_23 rfl ?_
        refine g_ldci m183_24 rfl ?_
        refine g_cv (args := [.int (-1000000002)]) (rest := []) m183_26 (Nat.le_of_ble_eq_true rfl) rfl rfl rfl (Nat.le_of_ble_eq_true rfl) ?_
        refine wp_in (L := [some (.ref 89), some (.int (-1000000002))]) (Nat.le_of_ble_eq_true rfl) rfl ?_
        refine g_aload_n m108_0 rfl ?_
        refine g_gf m108_1 rfl rfl ?_
        refine g_ldci m108_4 rfl ?_
        refine g_iload_n m108_6 rfl ?_
        refine g_isub (u := (2 : Int32)) m108_7 (by decide) ?_
        refine g_dup2 m108_8 rfl rfl ?_
        refine g_iald (x := (0 : Int32)) m108_9 rfl (vin rfl) rfl ?_
        refine g_iconst m108_10 ?_
        refine g_iadd (u := (1 : Int32)) m108_11 (by decide) ?_
        refine g_iast m108_12 (Nat.le_of_ble_eq_true rfl) rfl (vin rfl) rfl rfl rfl ?_
        refine g_iload_n m108_13 rfl ?_
        refine g_iret m108_14 rfl ?_
        refine gwst (st' := [.int (-1000000002)]) rfl ?_
        refine g_iret m183_29 rfl ?_
        refine gwst (st' := [.int (-1000000002), .int (-1000000002)]) rfl ?_
        refine g_ic_eqT m190_1315 (by decide) ?_
        refine g_iinc (x2 := (6 : Int32)) (L2 := [some (.ref 0), some (.ref 32), some (.ref 89), some (.int (6))]) m190_1428 rfl (by decide) rfl rfl ?_
        refine g_goto m190_1431 ?_
        refine g_iload_n m190_18 rfl ?_
        refine g_aload_n m190_19 rfl ?_
        refine g_alen (n := 6) m190_20 rfl (Or.inl rfl) rfl ?_
        refine g_bipush m190_21 ?_
        refine g_isub (u := (0 : Int32)) m190_23 (by decide) ?_
        refine g_ic_gtT m190_24 (by decide) ?_
        refine g_iconst m190_1434 ?_
        refine g_zret m190_1435 rfl (Or.inr rfl) ?_
        exact rfl
      · have x7q : s1 = (1 : Int32) := x7
        clear x7
        subst x7q
        refine g_aald m99_19 (Nat.le_of_ble_eq_true rfl) rfl (vin rfl) rfl ?_
        refine g_astore_n (L2 := [some (.ref 32), some (.int (1)), some (.ref 82), none, none]) m99_20 rfl rfl ?_
        refine g_aload_n m99_21 rfl ?_
        refine g_gf m99_22 rfl rfl ?_
        refine g_if_neT m99_25 (by decide) ?_
        refine g_aload_n m99_28 rfl ?_
        refine g_iconst m99_29 ?_
        refine g_cv (args := [.int (2)]) (rest := []) m99_30 (Nat.le_of_ble_eq_true rfl) rfl rfl rfl (Nat.le_of_ble_eq_true rfl) ?_
        refine wp_in (L := [some (.ref 32), some (.int (2))]) (Nat.le_of_ble_eq_true rfl) rfl ?_
        refine g_aload_n m55_0 rfl ?_
        refine g_gf m55_1 rfl rfl ?_
        refine g_iload_n m55_4 rfl ?_
        refine g_dup2 m55_5 rfl rfl ?_
        refine g_iald (x := (0 : Int32)) m55_6 rfl (vin rfl) rfl ?_
        refine g_iconst m55_7 ?_
        refine g_iadd (u := (1 : Int32)) m55_8 (by decide) ?_
        refine g_iast m55_9 (Nat.le_of_ble_eq_true rfl) rfl (vin rfl) rfl rfl rfl ?_
        refine g_ldcw m55_10 ?_
        refine g_iload_n m55_13 rfl ?_
        refine g_isub (u := (-1000000002 : Int32)) m55_14 (by decide) ?_
        refine g_iret m55_15 rfl ?_
        refine gwst (st' := [.int (-1000000002)]) rfl ?_
        refine g_iret m99_33 rfl ?_
        refine gwst (st' := [.int (-1000000002)]) rfl ?_
        refine FRg rfl (fun f => ?_)
        refine g_aload_n m190_1306 rfl ?_
        refine g_aload_n m190_1307 rfl ?_
        refine g_iload_n m190_1308 rfl ?_
        refine g_iconst m190_1309 ?_
        refine g_iadd (u := (1 : Int32)) m190_1310 (by decide) ?_
        refine g_iald (x := (1 : Int32)) m190_1311 rfl (vin rfl) rfl ?_
        refine g_cv (args := [.int (1)]) (rest := [.int (-1000000002)]) m190_1312 (Nat.le_of_ble_eq_true rfl) rfl rfl rfl (Nat.le_of_ble_eq_true rfl) ?_
        refine wp_in (L := [some (.ref 89), some (.int (1)), none]) (Nat.le_of_ble_eq_true rfl) rfl ?_
        refine g_iload_n m183_0 rfl ?_
        refine g_cs (args := [.int (1)]) (rest := []) 0 (Or.inl rfl) m183_1 (Nat.le_of_ble_eq_true rfl) rfl rfl (Nat.le_of_ble_eq_true rfl) ?_
        refine wp_in (L := [some (.int (1))]) (Nat.le_of_ble_eq_true rfl) rfl ?_
        refine g_iload_n m160_0 rfl ?_
        refine g_iconst m160_1 ?_
        refine g_iconst m160_2 ?_
        refine g_cs (args := [.int (1), .int (0), .int (3)]) (rest := []) 0 (Or.inl rfl) m160_3 (Nat.le_of_ble_eq_true rfl) rfl rfl (Nat.le_of_ble_eq_true rfl) ?_
        refine wp_in (L := [some (.int (1)), some (.int (0)), some (.int (3))]) (Nat.le_of_ble_eq_true rfl) rfl ?_
        refine g_iload_n m107_0 rfl ?_
        refine g_iload_n m107_1 rfl ?_
        refine g_ic_ltF m107_2 (by decide) ?_
        refine g_iload_n m107_5 rfl ?_
        refine g_iload_n m107_6 rfl ?_
        refine g_ic_gtF m107_7 (by decide) ?_
        refine g_iconst m107_10 ?_
        refine g_goto m107_11 ?_
        refine g_zret m107_15 rfl (Or.inr rfl) ?_
        refine gwst (st' := [.int (1)]) rfl ?_
        refine g_zret m160_6 rfl (Or.inr rfl) ?_
        refine gwst (st' := [.int (1)]) rfl ?_
        refine g_if_neF m183_4 (by decide) ?_
        refine g_aload_n m183_14 rfl ?_
        refine g_gf m183_15 rfl rfl ?_
        refine g_iload_n m183_18 rfl ?_
        refine g_iald (x := (0 : Int32)) m183_19 rfl (vin rfl) rfl ?_
        refine g_if_neT m183_20 (by decide) ?_
        refine g_aload_n m183_23 rfl ?_
        refine g_ldci m183_24 rfl ?_
        refine g_cv (args := [.int (-1000000002)]) (rest := []) m183_26 (Nat.le_of_ble_eq_true rfl) rfl rfl rfl (Nat.le_of_ble_eq_true rfl) ?_
        refine wp_in (L := [some (.ref 89), some (.int (-1000000002))]) (Nat.le_of_ble_eq_true rfl) rfl ?_
        refine g_aload_n m108_0 rfl ?_
        refine g_gf m108_1 rfl rfl ?_
        refine g_ldci m108_4 rfl ?_
        refine g_iload_n m108_6 rfl ?_
        refine g_isub (u := (2 : Int32)) m108_7 (by decide) ?_
        refine g_dup2 m108_8 rfl rfl ?_
        refine g_iald (x := (0 : Int32)) m108_9 rfl (vin rfl) rfl ?_
        refine g_iconst m108_10 ?_
        refine g_iadd (u := (1 : Int32)) m108_11 (by decide) ?_
        refine g_iast m108_12 (Nat.le_of_ble_eq_true rfl) rfl (vin rfl) rfl rfl rfl ?_
        refine g_iload_n m108_13 rfl ?_
        refine g_iret m108_14 rfl ?_
        refine gwst (st' := [.int (-1000000002)]) rfl ?_
        refine g_iret m183_29 rfl ?_
        refine gwst (st' := [.int (-1000000002), .int (-1000000002)]) rfl ?_
        refine g_ic_eqT m190_1315 (by decide) ?_
        refine g_iinc (x2 := (6 : Int32)) (L2 := [some (.ref 0), some (.ref 32), some (.ref 89), some (.int (6))]) m190_1428 rfl (by decide) rfl rfl ?_
        refine g_goto m190_1431 ?_
        refine g_iload_n m190_18 rfl ?_
        refine g_aload_n m190_19 rfl ?_
        refine g_alen (n := 6) m190_20 rfl (Or.inl rfl) rfl ?_
        refine g_bipush m190_21 ?_
        refine g_isub (u := (0 : Int32)) m190_23 (by decide) ?_
        refine g_ic_gtT m190_24 (by decide) ?_
        refine g_iconst m190_1434 ?_
        refine g_zret m190_1435 rfl (Or.inr rfl) ?_
        exact rfl
      · have x7q : s1 = (2 : Int32) := x7
        clear x7
        subst x7q
        refine g_aald m99_19 (Nat.le_of_ble_eq_true rfl) rfl (vin rfl) rfl ?_
        refine g_astore_n (L2 := [some (.ref 32), some (.int (2)), some (.ref 84), none, none]) m99_20 rfl rfl ?_
        refine g_aload_n m99_21 rfl ?_
        refine g_gf m99_22 rfl rfl ?_
        refine g_if_neT m99_25 (by decide) ?_
        refine g_aload_n m99_28 rfl ?_
        refine g_iconst m99_29 ?_
        refine g_cv (args := [.int (2)]) (rest := []) m99_30 (Nat.le_of_ble_eq_true rfl) rfl rfl rfl (Nat.le_of_ble_eq_true rfl) ?_
        refine wp_in (L := [some (.ref 32), some (.int (2))]) (Nat.le_of_ble_eq_true rfl) rfl ?_
        refine g_aload_n m55_0 rfl ?_
        refine g_gf m55_1 rfl rfl ?_
        refine g_iload_n m55_4 rfl ?_
        refine g_dup2 m55_5 rfl rfl ?_
        refine g_iald (x := (0 : Int32)) m55_6 rfl (vin rfl) rfl ?_
        refine g_iconst m55_7 ?_
        refine g_iadd (u := (1 : Int32)) m55_8 (by decide) ?_
        refine g_iast m55_9 (Nat.le_of_ble_eq_true rfl) rfl (vin rfl) rfl rfl rfl ?_
        refine g_ldcw m55_10 ?_
        refine g_iload_n m55_13 rfl ?_
        refine g_isub (u := (-1000000002 : Int32)) m55_14 (by decide) ?_
        refine g_iret m55_15 rfl ?_
        refine gwst (st' := [.int (-1000000002)]) rfl ?_
        refine g_iret m99_33 rfl ?_
        refine gwst (st' := [.int (-1000000002)]) rfl ?_
        refine FRg rfl (fun f => ?_)
        refine g_aload_n m190_1306 rfl ?_
        refine g_aload_n m190_1307 rfl ?_
        refine g_iload_n m190_1308 rfl ?_
        refine g_iconst m190_1309 ?_
        refine g_iadd (u := (1 : Int32)) m190_1310 (by decide) ?_
        refine g_iald (x := (2 : Int32)) m190_1311 rfl (vin rfl) rfl ?_
        refine g_cv (args := [.int (2)]) (rest := [.int (-1000000002)]) m190_1312 (Nat.le_of_ble_eq_true rfl) rfl rfl rfl (Nat.le_of_ble_eq_true rfl) ?_
        refine wp_in (L := [some (.ref 89), some (.int (2)), none]) (Nat.le_of_ble_eq_true rfl) rfl ?_
        refine g_iload_n m183_0 rfl ?_
        refine g_cs (args := [.int (2)]) (rest := []) 0 (Or.inl rfl) m183_1 (Nat.le_of_ble_eq_true rfl) rfl rfl (Nat.le_of_ble_eq_true rfl) ?_
        refine wp_in (L := [some (.int (2))]) (Nat.le_of_ble_eq_true rfl) rfl ?_
        refine g_iload_n m160_0 rfl ?_
        refine g_iconst m160_1 ?_
        refine g_iconst m160_2 ?_
        refine g_cs (args := [.int (2), .int (0), .int (3)]) (rest := []) 0 (Or.inl rfl) m160_3 (Nat.le_of_ble_eq_true rfl) rfl rfl (Nat.le_of_ble_eq_true rfl) ?_
        refine wp_in (L := [some (.int (2)), some (.int (0)), some (.int (3))]) (Nat.le_of_ble_eq_true rfl) rfl ?_
        refine g_iload_n m107_0 rfl ?_
        refine g_iload_n m107_1 rfl ?_
        refine g_ic_ltF m107_2 (by decide) ?_
        refine g_iload_n m107_5 rfl ?_
        refine g_iload_n m107_6 rfl ?_
        refine g_ic_gtF m107_7 (by decide) ?_
        refine g_iconst m107_10 ?_
        refine g_goto m107_11 ?_
        refine g_zret m107_15 rfl (Or.inr rfl) ?_
        refine gwst (st' := [.int (1)]) rfl ?_
        refine g_zret m160_6 rfl (Or.inr rfl) ?_
        refine gwst (st' := [.int (1)]) rfl ?_
        refine g_if_neF m183_4 (by decide) ?_
        refine g_aload_n m183_14 rfl ?_
        refine g_gf m183_15 rfl rfl ?_
        refine g_iload_n m183_18 rfl ?_
        refine g_iald (x := (0 : Int32)) m183_19 rfl (vin rfl) rfl ?_
        refine g_if_neT m183_20 (by decide) ?_
        refine g_aload_n m183_23 rfl ?_
        refine g_ldci m183_24 rfl ?_
        refine g_cv (args := [.int (-1000000002)]) (rest := []) m183_26 (Nat.le_of_ble_eq_true rfl) rfl rfl rfl (Nat.le_of_ble_eq_true rfl) ?_
        refine wp_in (L := [some (.ref 89), some (.int (-1000000002))]) (Nat.le_of_ble_eq_true rfl) rfl ?_
        refine g_aload_n m108_0 rfl ?_
        refine g_gf m108_1 rfl rfl ?_
        refine g_ldci m108_4 rfl ?_
        refine g_iload_n m108_6 rfl ?_
        refine g_isub (u := (2 : Int32)) m108_7 (by decide) ?_
        refine g_dup2 m108_8 rfl rfl ?_
        refine g_iald (x := (0 : Int32)) m108_9 rfl (vin rfl) rfl ?_
        refine g_iconst m108_10 ?_
        refine g_iadd (u := (1 : Int32)) m108_11 (by decide) ?_
        refine g_iast m108_12 (Nat.le_of_ble_eq_true rfl) rfl (vin rfl) rfl rfl rfl ?_
        refine g_iload_n m108_13 rfl ?_
        refine g_iret m108_14 rfl ?_
        refine gwst (st' := [.int (-1000000002)]) rfl ?_
        refine g_iret m183_29 rfl ?_
        refine gwst (st' := [.int (-1000000002), .int (-1000000002)]) rfl ?_
        refine g_ic_eqT m190_1315 (by decide) ?_
        refine g_iinc (x2 := (6 : Int32)) (L2 := [some (.ref 0), some (.ref 32), some (.ref 89), some (.int (6))]) m190_1428 rfl (by decide) rfl rfl ?_
        refine g_goto m190_1431 ?_
        refine g_iload_n m190_18 rfl ?_
        refine g_aload_n m190_19 rfl ?_
        refine g_alen (n := 6) m190_20 rfl (Or.inl rfl) rfl ?_
        refine g_bipush m190_21 ?_
        refine g_isub (u := (0 : Int32)) m190_23 (by decide) ?_
        refine g_ic_gtT m190_24 (by decide) ?_
        refine g_iconst m190_1434 ?_
        refine g_zret m190_1435 rfl (Or.inr rfl) ?_
        exact rfl
      · have x7q : s1 = (3 : Int32) := x7
        clear x7
        subst x7q
        refine g_aald m99_19 (Nat.le_of_ble_eq_true rfl) rfl (vin rfl) rfl ?_
        refine g_astore_n (L2 := [some (.ref 32), some (.int (3)), some (.ref 86), none, none]) m99_20 rfl rfl ?_
        refine g_aload_n m99_21 rfl ?_
        refine g_gf m99_22 rfl rfl ?_
        refine g_if_neT m99_25 (by decide) ?_
        refine g_aload_n m99_28 rfl ?_
        refine g_iconst m99_29 ?_
        refine g_cv (args := [.int (2)]) (rest := []) m99_30 (Nat.le_of_ble_eq_true rfl) rfl rfl rfl (Nat.le_of_ble_eq_true rfl) ?_
        refine wp_in (L := [some (.ref 32), some (.int (2))]) (Nat.le_of_ble_eq_true rfl) rfl ?_
        refine g_aload_n m55_0 rfl ?_
        refine g_gf m55_1 rfl rfl ?_
        refine g_iload_n m55_4 rfl ?_
        refine g_dup2 m55_5 rfl rfl ?_
        refine g_iald (x := (0 : Int32)) m55_6 rfl (vin rfl) rfl ?_
        refine g_iconst m55_7 ?_
        refine g_iadd (u := (1 : Int32)) m55_8 (by decide) ?_
        refine g_iast m55_9 (Nat.le_of_ble_eq_true rfl) rfl (vin rfl) rfl rfl rfl ?_
        refine g_ldcw m55_10 ?_
        refine g_iload_n m55_13 rfl ?_
        refine g_isub (u := (-1000000002 : Int32)) m55_14 (by decide) ?_
        refine g_iret m55_15 rfl ?_
        refine gwst (st' := [.int (-1000000002)]) rfl ?_
        refine g_iret m99_33 rfl ?_
        refine gwst (st' := [.int (-1000000002)]) rfl ?_
        refine FRg rfl (fun f => ?_)
        refine g_aload_n m190_1306 rfl ?_
        refine g_aload_n m190_1307 rfl ?_
        refine g_iload_n m190_1308 rfl ?_
        refine g_iconst m190_1309 ?_
        refine g_iadd (u := (1 : Int32)) m190_1310 (by decide) ?_
        refine g_iald (x := (3 : Int32)) m190_1311 rfl (vin rfl) rfl ?_
        refine g_cv (args := [.int (3)]) (rest := [.int (-1000000002)]) m190_1312 (Nat.le_of_ble_eq_true rfl) rfl rfl rfl (Nat.le_of_ble_eq_true rfl) ?_
        refine wp_in (L := [some (.ref 89), some (.int (3)), none]) (Nat.le_of_ble_eq_true rfl) rfl ?_
        refine g_iload_n m183_0 rfl ?_
        refine g_cs (args := [.int (3)]) (rest := []) 0 (Or.inl rfl) m183_1 (Nat.le_of_ble_eq_true rfl) rfl rfl (Nat.le_of_ble_eq_true rfl) ?_
        refine wp_in (L := [some (.int (3))]) (Nat.le_of_ble_eq_true rfl) rfl ?_
        refine g_iload_n m160_0 rfl ?_
        refine g_iconst m160_1 ?_
        refine g_iconst m160_2 ?_
        refine g_cs (args := [.int (3), .int (0), .int (3)]) (rest := []) 0 (Or.inl rfl) m160_3 (Nat.le_of_ble_eq_true rfl) rfl rfl (Nat.le_of_ble_eq_true rfl) ?_
        refine wp_in (L := [some (.int (3)), some (.int (0)), some (.int (3))]) (Nat.le_of_ble_eq_true rfl) rfl ?_
        refine g_iload_n m107_0 rfl ?_
        refine g_iload_n m107_1 rfl ?_
        refine g_ic_ltF m107_2 (by decide) ?_
        refine g_iload_n m107_5 rfl ?_
        refine g_iload_n m107_6 rfl ?_
        refine g_ic_gtF m107_7 (by decide) ?_
        refine g_iconst m107_10 ?_
        refine g_goto m107_11 ?_
        refine g_zret m107_15 rfl (Or.inr rfl) ?_
        refine gwst (st' := [.int (1)]) rfl ?_
        refine g_zret m160_6 rfl (Or.inr rfl) ?_
        refine gwst (st' := [.int (1)]) rfl ?_
        refine g_if_neF m183_4 (by decide) ?_
        refine g_aload_n m183_14 rfl ?_
        refine g_gf m183_15 rfl rfl ?_
        refine g_iload_n m183_18 rfl ?_
        refine g_iald (x := (0 : Int32)) m183_19 rfl (vin rfl) rfl ?_
        refine g_if_neT m183_20 (by decide) ?_
        refine g_aload_n m183_23 rfl ?_
        refine g_ldci m183_24 rfl ?_
        refine g_cv (args := [.int (-1000000002)]) (rest := []) m183_26 (Nat.le_of_ble_eq_true rfl) rfl rfl rfl (Nat.le_of_ble_eq_true rfl) ?_
        refine wp_in (L := [some (.ref 89), some (.int (-1000000002))]) (Nat.le_of_ble_eq_true rfl) rfl ?_
        refine g_aload_n m108_0 rfl ?_
        refine g_gf m108_1 rfl rfl ?_
        refine g_ldci m108_4 rfl ?_
        refine g_iload_n m108_6 rfl ?_
        refine g_isub (u := (2 : Int32)) m108_7 (by decide) ?_
        refine g_dup2 m108_8 rfl rfl ?_
        refine g_iald (x := (0 : Int32)) m108_9 rfl (vin rfl) rfl ?_
        refine g_iconst m108_10 ?_
        refine g_iadd (u := (1 : Int32)) m108_11 (by decide) ?_
        refine g_iast m108_12 (Nat.le_of_ble_eq_true rfl) rfl (vin rfl) rfl rfl rfl ?_
        refine g_iload_n m108_13 rfl ?_
        refine g_iret m108_14 rfl ?_
        refine gwst (st' := [.int (-1000000002)]) rfl ?_
        refine g_iret m183_29 rfl ?_
        refine gwst (st' := [.int (-1000000002), .int (-1000000002)]) rfl ?_
        refine g_ic_eqT m190_1315 (by decide) ?_
        refine g_iinc (x2 := (6 : Int32)) (L2 := [some (.ref 0), some (.ref 32), some (.ref 89), some (.int (6))]) m190_1428 rfl (by decide) rfl rfl ?_
        refine g_goto m190_1431 ?_
        refine g_iload_n m190_18 rfl ?_
        refine g_aload_n m190_19 rfl ?_
        refine g_alen (n := 6) m190_20 rfl (Or.inl rfl) rfl ?_
        refine g_bipush m190_21 ?_
        refine g_isub (u := (0 : Int32)) m190_23 (by decide) ?_
        refine g_ic_gtT m190_24 (by decide) ?_
        refine g_iconst m190_1434 ?_
        refine g_zret m190_1435 rfl (Or.inr rfl) ?_
        exact rfl
set_option maxRecDepth 20000 in
set_option maxHeartbeats 40000000 in
theorem lc_34 {s0 s1 s2 s3 s4 s5 : Int32} {d mc ms : Nat} : gw [s0, s1, s2, s3, s4, s5] (WP [s0, s1, s2, s3, s4, s5] (d + 20)) 190 (fun r _ => r = some (.int 1)) 1320 [some (.ref 0), some (.ref 32), some (.ref 89), some (.int 0)] [] (hX0 ++ hM0) mc ms := by
  refine g_aload_n m190_1320 rfl ?_
  refine g_cv (args := []) (rest := []) m190_1321 (Nat.le_of_ble_eq_true rfl) rfl rfl rfl (Nat.le_of_ble_eq_true rfl) ?_
  refine wp_in (L := [some (.ref 32)]) (Nat.le_of_ble_eq_true rfl) rfl ?_
  refine g_aload_n m100_0 rfl ?_
  refine g_gf m100_1 rfl rfl ?_
  refine g_aload_n m100_4 rfl ?_
  refine g_gf m100_5 rfl rfl ?_
  refine g_cv (args := [.ref 33]) (rest := []) m100_8 (Nat.le_of_ble_eq_true rfl) rfl rfl rfl (Nat.le_of_ble_eq_true rfl) ?_
  refine wp_in (L := [some (.ref 60), some (.ref 33)]) (Nat.le_of_ble_eq_true rfl) rfl ?_
  refine g_aload_n m31_0 rfl ?_
  refine g_gf m31_1 rfl rfl ?_
  refine g_iconst m31_4 ?_
  refine g_aload_n m31_5 rfl ?_
  refine g_gf m31_6 rfl rfl ?_
  refine g_iconst m31_9 ?_
  refine g_bipush m31_10 ?_
  refine gs m31_12 ?_
  refine and_3 (Nat.le_of_ble_eq_true rfl) (Nat.le_of_ble_eq_true rfl) (Nat.le_of_ble_eq_true rfl) ?_
  refine and_4 rfl (Or.inl rfl) (by decide) (by decide) ?_
  refine and_4 (by decide) (Nat.le_of_ble_eq_true rfl) (Nat.le_of_ble_eq_true rfl) (fun q => by cases q) ?_
  refine g_aload_n m31_15 rfl ?_
  refine g_gf m31_16 rfl rfl ?_
  refine g_iconst m31_19 ?_
  refine g_aload_n m31_20 rfl ?_
  refine g_gf m31_21 rfl rfl ?_
  refine g_iconst m31_24 ?_
  refine g_bipush m31_25 ?_
  refine gs m31_27 ?_
  refine and_3 (Nat.le_of_ble_eq_true rfl) (Nat.le_of_ble_eq_true rfl) (Nat.le_of_ble_eq_true rfl) ?_
  refine and_4 rfl (Or.inl rfl) (by decide) (by decide) ?_
  refine and_4 (by decide) (Nat.le_of_ble_eq_true rfl) (Nat.le_of_ble_eq_true rfl) (fun q => by cases q) ?_
  refine g_aload_n m31_30 rfl ?_
  refine g_gf m31_31 rfl rfl ?_
  refine g_iconst m31_34 ?_
  refine g_aload_n m31_35 rfl ?_
  refine g_gf m31_36 rfl rfl ?_
  refine g_iconst m31_39 ?_
  refine g_bipush m31_40 ?_
  refine gs m31_42 ?_
  refine and_3 (Nat.le_of_ble_eq_true rfl) (Nat.le_of_ble_eq_true rfl) (Nat.le_of_ble_eq_true rfl) ?_
  refine and_4 rfl (Or.inl rfl) (by decide) (by decide) ?_
  refine and_4 (by decide) (Nat.le_of_ble_eq_true rfl) (Nat.le_of_ble_eq_true rfl) (fun q => by cases q) ?_
  refine g_aload_n m31_45 rfl ?_
  refine g_gf m31_46 rfl rfl ?_
  refine g_iconst m31_49 ?_
  refine g_aload_n m31_50 rfl ?_
  refine g_gf m31_51 rfl rfl ?_
  refine g_iconst m31_54 ?_
  refine g_bipush m31_55 ?_
  refine gs m31_57 ?_
  refine and_3 (Nat.le_of_ble_eq_true rfl) (Nat.le_of_ble_eq_true rfl) (Nat.le_of_ble_eq_true rfl) ?_
  refine and_4 rfl (Or.inl rfl) (by decide) (by decide) ?_
  refine and_4 (by decide) (Nat.le_of_ble_eq_true rfl) (Nat.le_of_ble_eq_true rfl) (fun q => by cases q) ?_
  refine g_aload_n m31_60 rfl ?_
  refine g_gf m31_61 rfl rfl ?_
  refine g_iconst m31_64 ?_
  refine g_aload_n m31_65 rfl ?_
  refine g_gf m31_66 rfl rfl ?_
  refine g_iconst m31_69 ?_
  refine g_bipush m31_70 ?_
  refine gs m31_72 ?_
  refine and_3 (Nat.le_of_ble_eq_true rfl) (Nat.le_of_ble_eq_true rfl) (Nat.le_of_ble_eq_true rfl) ?_
  refine and_4 rfl (Or.inl rfl) (by decide) (by decide) ?_
  refine and_4 (by decide) (Nat.le_of_ble_eq_true rfl) (Nat.le_of_ble_eq_true rfl) (fun q => by cases q) ?_
  refine g_aload_n m31_75 rfl ?_
  refine g_gf m31_76 rfl rfl ?_
  refine g_iconst m31_79 ?_
  refine g_aload_n m31_80 rfl ?_
  refine g_gf m31_81 rfl rfl ?_
  refine g_iconst m31_84 ?_
  refine g_bipush m31_85 ?_
  refine gs m31_87 ?_
  refine and_3 (Nat.le_of_ble_eq_true rfl) (Nat.le_of_ble_eq_true rfl) (Nat.le_of_ble_eq_true rfl) ?_
  refine and_4 rfl (Or.inl rfl) (by decide) (by decide) ?_
  refine and_4 (by decide) (Nat.le_of_ble_eq_true rfl) (Nat.le_of_ble_eq_true rfl) (fun q => by cases q) ?_
  refine g_aload_n m31_90 rfl ?_
  refine g_gf m31_91 rfl rfl ?_
  refine g_iconst m31_94 ?_
  refine g_aload_n m31_95 rfl ?_
  refine g_gf m31_96 rfl rfl ?_
  refine g_iconst m31_99 ?_
  refine g_bipush m31_100 ?_
  refine gs m31_102 ?_
  refine and_3 (Nat.le_of_ble_eq_true rfl) (Nat.le_of_ble_eq_true rfl) (Nat.le_of_ble_eq_true rfl) ?_
  refine and_4 rfl (Or.inr rfl) (by decide) (by decide) ?_
  refine and_4 (by decide) (Nat.le_of_ble_eq_true rfl) (Nat.le_of_ble_eq_true rfl) (fun _ => by decide) ?_
  refine g_aload_n m31_105 rfl ?_
  refine g_aload_n m31_106 rfl ?_
  refine g_gf m31_107 rfl rfl ?_
  refine g_pf (fs2 := [.ref 61, .ref 62, .ref 63, .ref 64, .ref 65, .ref 66, .ref 67, .ref 68, .int (1), .int (0), .int (0), .null, .null]) m31_110 rfl (Nat.le_of_ble_eq_true rfl) rfl (Nat.le_of_ble_eq_true rfl) trivial rfl rfl rfl ?_
  refine g_aload_n m31_113 rfl ?_
  refine g_aload_n m31_114 rfl ?_
  refine g_gf m31_115 rfl rfl ?_
  refine g_pf (fs2 := [.ref 61, .ref 62, .ref 63, .ref 64, .ref 65, .ref 66, .ref 67, .ref 68, .int (1), .int (0), .int (0), .null, .null]) m31_118 rfl (Nat.le_of_ble_eq_true rfl) rfl (Nat.le_of_ble_eq_true rfl) trivial rfl rfl (set_n0 rfl) ?_
  refine g_aload_n m31_121 rfl ?_
  refine g_aload_n m31_122 rfl ?_
  refine g_gf m31_123 rfl rfl ?_
  refine g_pf (fs2 := [.ref 61, .ref 62, .ref 63, .ref 64, .ref 65, .ref 66, .ref 67, .ref 68, .int (1), .int (0), .int (0), .null, .null]) m31_126 rfl (Nat.le_of_ble_eq_true rfl) rfl (Nat.le_of_ble_eq_true rfl) trivial rfl rfl (set_n0 rfl) ?_
  refine g_aload_n m31_129 rfl ?_
  refine g_aload_n m31_130 rfl ?_
  refine g_gf m31_131 rfl rfl ?_
  refine g_pf (fs2 := [.ref 61, .ref 62, .ref 63, .ref 64, .ref 65, .ref 66, .ref 67, .ref 68, .int (1), .int (0), .int (0), .null, .null]) m31_134 rfl (Nat.le_of_ble_eq_true rfl) rfl (Nat.le_of_ble_eq_true rfl) trivial rfl rfl (set_n0 rfl) ?_
  refine g_aload_n m31_137 rfl ?_
  refine g_aload_n m31_138 rfl ?_
  refine g_gf m31_139 rfl rfl ?_
  refine g_pf (fs2 := [.ref 61, .ref 62, .ref 63, .ref 64, .ref 65, .ref 66, .ref 67, .ref 68, .int (1), .int (0), .int (0), .null, .null]) m31_142 rfl (Nat.le_of_ble_eq_true rfl) rfl (Nat.le_of_ble_eq_true rfl) trivial rfl rfl (set_n0 rfl) ?_
  refine g_vret m31_145 ?_
  refine gwst (st' := []) rfl ?_
  refine g_aload_n m100_11 rfl ?_
  refine g_gf m100_12 rfl rfl ?_
  refine g_aload_n m100_15 rfl ?_
  refine g_gf m100_16 rfl rfl ?_
  refine g_cv (args := [.ref 69]) (rest := []) m100_19 (Nat.le_of_ble_eq_true rfl) rfl rfl rfl (Nat.le_of_ble_eq_true rfl) ?_
  refine wp_in (L := [some (.ref 72), some (.ref 69)]) (Nat.le_of_ble_eq_true rfl) rfl ?_
  refine g_aload_n m11_0 rfl ?_
  refine g_aload_n m11_1 rfl ?_
  refine g_gf m11_2 rfl rfl ?_
  refine g_pf (fs2 := [.int (1), .ref 73, .int (0), .ref 74, .int (0)]) m11_5 rfl (Nat.le_of_ble_eq_true rfl) rfl (Nat.le_of_ble_eq_true rfl) trivial rfl rfl rfl ?_
  refine g_aload_n m11_8 rfl ?_
  refine g_gf m11_9 rfl rfl ?_
  refine g_iconst m11_12 ?_
  refine g_aload_n m11_13 rfl ?_
  refine g_gf m11_14 rfl rfl ?_
  refine g_iconst m11_17 ?_
  refine g_bipush m11_18 ?_
  refine gs m11_20 ?_
  refine and_3 (Nat.le_of_ble_eq_true rfl) (Nat.le_of_ble_eq_true rfl) (Nat.le_of_ble_eq_true rfl) ?_
  refine and_4 rfl (Or.inl rfl) (by decide) (by decide) ?_
  refine and_4 (by decide) (Nat.le_of_ble_eq_true rfl) (Nat.le_of_ble_eq_true rfl) (fun q => by cases q) ?_
  refine g_aload_n m11_23 rfl ?_
  refine g_aload_n m11_24 rfl ?_
  refine g_gf m11_25 rfl rfl ?_
  refine g_pf (fs2 := [.int (1), .ref 73, .int (0), .ref 74, .int (0)]) m11_28 rfl (Nat.le_of_ble_eq_true rfl) rfl (Nat.le_of_ble_eq_true rfl) trivial rfl rfl (set_n1 (by decide) rfl) ?_
  refine g_aload_n m11_31 rfl ?_
  refine g_gf m11_32 rfl rfl ?_
  refine g_iconst m11_35 ?_
  refine g_aload_n m11_36 rfl ?_
  refine g_gf m11_37 rfl rfl ?_
  refine g_iconst m11_40 ?_
  refine g_bipush m11_41 ?_
  refine gs m11_43 ?_
  refine and_3 (Nat.le_of_ble_eq_true rfl) (Nat.le_of_ble_eq_true rfl) (Nat.le_of_ble_eq_true rfl) ?_
  refine and_4 rfl (Or.inl rfl) (by decide) (by decide) ?_
  refine and_4 (by decide) (Nat.le_of_ble_eq_true rfl) (Nat.le_of_ble_eq_true rfl) (fun q => by cases q) ?_
  refine g_aload_n m11_46 rfl ?_
  refine g_aload_n m11_47 rfl ?_
  refine g_gf m11_48 rfl rfl ?_
  refine g_pf (fs2 := [.int (1), .ref 73, .int (0), .ref 74, .int (0)]) m11_51 rfl (Nat.le_of_ble_eq_true rfl) rfl (Nat.le_of_ble_eq_true rfl) trivial rfl rfl (set_n1 (by decide) rfl) ?_
  refine g_vret m11_54 ?_
  refine gwst (st' := []) rfl ?_
  refine g_aload_n m100_22 rfl ?_
  refine g_dup m100_23 rfl ?_
  refine g_gf m100_24 rfl rfl ?_
  refine g_iconst m100_27 ?_
  refine g_iadd (u := (1 : Int32)) m100_28 (by decide) ?_
  refine g_pf (fs2 := [.ref 33, .ref 42, .ref 51, .ref 60, .ref 69, .ref 72, .int (1), .ref 75, .ref 77, .ref 79, .ref 88]) m100_29 rfl (Nat.le_of_ble_eq_true rfl) rfl (Nat.le_of_ble_eq_true rfl) trivial rfl rfl rfl ?_
  refine g_aload_n m100_32 rfl ?_
  refine g_gf m100_33 rfl rfl ?_
  refine g_iret m100_36 rfl ?_
  refine gwst (st' := [.int (1)]) rfl ?_
  refine FRg rfl (fun f => ?_)
  refine g_aload_n m190_1324 rfl ?_
  refine g_cv (args := []) (rest := [.int (1)]) m190_1325 (Nat.le_of_ble_eq_true rfl) rfl rfl rfl (Nat.le_of_ble_eq_true rfl) ?_
  refine wp_in (L := [some (.ref 89)]) (Nat.le_of_ble_eq_true rfl) rfl ?_
  refine g_aload_n m184_0 rfl ?_
  refine g_aload_n m184_1 rfl ?_
  refine g_gf m184_2 rfl rfl ?_
  refine g_aload_n m184_5 rfl ?_
  refine g_gf m184_6 rfl rfl ?_
  refine g_cv (args := [.ref 90, .ref 91]) (rest := []) m184_9 (Nat.le_of_ble_eq_true rfl) rfl rfl rfl (Nat.le_of_ble_eq_true rfl) ?_
  refine c_moveAll rfl (Nat.le_of_ble_eq_true rfl) rfl (by rfl) (by rfl) (by decide) ?_
  refine gwst (st' := []) rfl ?_
  refine g_aload_n m184_12 rfl ?_
  refine g_iconst m184_13 ?_
  refine g_pf (fs2 := [.ref 90, .ref 91, .ref 92, .ref 93, .int (1), .int (0), .ref 94, .int (0), .int (0), .int (0), .int (0), .int (0), .int (0), .int (0), .int (0), .ref 95, .ref 96, .ref 97, .ref 98, .ref 99, .ref 100, .int (0), .int (0), .int (0), .int (0)]) m184_14 rfl (Nat.le_of_ble_eq_true rfl) rfl (Nat.le_of_ble_eq_true rfl) (Or.inr rfl) rfl rfl rfl ?_
  refine g_aload_n m184_17 rfl ?_
  refine g_dup m184_18 rfl ?_
  refine g_gf m184_19 rfl rfl ?_
  refine g_iconst m184_22 ?_
  refine g_iadd (u := (1 : Int32)) m184_23 (by decide) ?_
  refine g_pf (fs2 := [.ref 90, .ref 91, .ref 92, .ref 93, .int (1), .int (1), .ref 94, .int (0), .int (0), .int (0), .int (0), .int (0), .int (0), .int (0), .int (0), .ref 95, .ref 96, .ref 97, .ref 98, .ref 99, .ref 100, .int (0), .int (0), .int (0), .int (0)]) m184_24 rfl (Nat.le_of_ble_eq_true rfl) rfl (Nat.le_of_ble_eq_true rfl) trivial rfl rfl (set_n0 rfl) ?_
  refine g_aload_n m184_27 rfl ?_
  refine g_gf m184_28 rfl rfl ?_
  refine g_iret m184_31 rfl ?_
  refine gwst (st' := [.int (1), .int (1)]) rfl ?_
  refine g_ic_eqT m190_1328 (by decide) ?_
  refine g_iinc (x2 := (6 : Int32)) (L2 := [some (.ref 0), some (.ref 32), some (.ref 89), some (.int (6))]) m190_1428 rfl (by decide) rfl rfl ?_
  refine g_goto m190_1431 ?_
  refine g_iload_n m190_18 rfl ?_
  refine g_aload_n m190_19 rfl ?_
  refine g_alen (n := 6) m190_20 rfl (Or.inl rfl) rfl ?_
  refine g_bipush m190_21 ?_
  refine g_isub (u := (0 : Int32)) m190_23 (by decide) ?_
  refine g_ic_gtT m190_24 (by decide) ?_
  refine g_iconst m190_1434 ?_
  refine g_zret m190_1435 rfl (Or.inr rfl) ?_
  exact rfl
set_option maxRecDepth 20000 in
set_option maxHeartbeats 40000000 in
theorem lc_35 {s0 s1 s2 s3 s4 s5 : Int32} {d mc ms : Nat} : gw [s0, s1, s2, s3, s4, s5] (WP [s0, s1, s2, s3, s4, s5] (d + 20)) 190 (fun r _ => r = some (.int 1)) 1333 [some (.ref 0), some (.ref 32), some (.ref 89), some (.int 0)] [] (hX0 ++ hM0) mc ms := by
  refine g_aload_n m190_1333 rfl ?_
  refine g_cv (args := []) (rest := []) m190_1334 (Nat.le_of_ble_eq_true rfl) rfl rfl rfl (Nat.le_of_ble_eq_true rfl) ?_
  refine wp_in (L := [some (.ref 32)]) (Nat.le_of_ble_eq_true rfl) rfl ?_
  refine g_aload_n m101_0 rfl ?_
  refine g_gf m101_1 rfl rfl ?_
  refine g_if_neT m101_4 (by decide) ?_
  refine g_aload_n m101_7 rfl ?_
  refine g_iconst m101_8 ?_
  refine g_cv (args := [.int (2)]) (rest := []) m101_9 (Nat.le_of_ble_eq_true rfl) rfl rfl rfl (Nat.le_of_ble_eq_true rfl) ?_
  refine wp_in (L := [some (.ref 32), some (.int (2))]) (Nat.le_of_ble_eq_true rfl) rfl ?_
  refine g_aload_n m55_0 rfl ?_
  refine g_gf m55_1 rfl rfl ?_
  refine g_iload_n m55_4 rfl ?_
  refine g_dup2 m55_5 rfl rfl ?_
  refine g_iald (x := (0 : Int32)) m55_6 rfl (vin rfl) rfl ?_
  refine g_iconst m55_7 ?_
  refine g_iadd (u := (1 : Int32)) m55_8 (by decide) ?_
  refine g_iast m55_9 (Nat.le_of_ble_eq_true rfl) rfl (vin rfl) rfl rfl rfl ?_
  refine g_ldcw m55_10 ?_
  refine g_iload_n m55_13 rfl ?_
  refine g_isub (u := (-1000000002 : Int32)) m55_14 (by decide) ?_
  refine g_iret m55_15 rfl ?_
  refine gwst (st' := [.int (-1000000002)]) rfl ?_
  refine g_iret m101_12 rfl ?_
  refine gwst (st' := [.int (-1000000002)]) rfl ?_
  refine FRg rfl (fun f => ?_)
  refine g_aload_n m190_1337 rfl ?_
  refine g_cv (args := []) (rest := [.int (-1000000002)]) m190_1338 (Nat.le_of_ble_eq_true rfl) rfl rfl rfl (Nat.le_of_ble_eq_true rfl) ?_
  refine wp_in (L := [some (.ref 89)]) (Nat.le_of_ble_eq_true rfl) rfl ?_
  refine g_aload_n m185_0 rfl ?_
  refine g_gf m185_1 rfl rfl ?_
  refine g_if_neT m185_4 (by decide) ?_
  refine g_aload_n m185_7 rfl ?_
  refine g_ldci m185_8 rfl ?_
  refine g_cv (args := [.int (-1000000002)]) (rest := []) m185_10 (Nat.le_of_ble_eq_true rfl) rfl rfl rfl (Nat.le_of_ble_eq_true rfl) ?_
  refine wp_in (L := [some (.ref 89), some (.int (-1000000002))]) (Nat.le_of_ble_eq_true rfl) rfl ?_
  refine g_aload_n m108_0 rfl ?_
  refine g_gf m108_1 rfl rfl ?_
  refine g_ldci m108_4 rfl ?_
  refine g_iload_n m108_6 rfl ?_
  refine g_isub (u := (2 : Int32)) m108_7 (by decide) ?_
  refine g_dup2 m108_8 rfl rfl ?_
  refine g_iald (x := (0 : Int32)) m108_9 rfl (vin rfl) rfl ?_
  refine g_iconst m108_10 ?_
  refine g_iadd (u := (1 : Int32)) m108_11 (by decide) ?_
  refine g_iast m108_12 (Nat.le_of_ble_eq_true rfl) rfl (vin rfl) rfl rfl rfl ?_
  refine g_iload_n m108_13 rfl ?_
  refine g_iret m108_14 rfl ?_
  refine gwst (st' := [.int (-1000000002)]) rfl ?_
  refine g_iret m185_13 rfl ?_
  refine gwst (st' := [.int (-1000000002), .int (-1000000002)]) rfl ?_
  refine g_ic_eqT m190_1341 (by decide) ?_
  refine g_iinc (x2 := (6 : Int32)) (L2 := [some (.ref 0), some (.ref 32), some (.ref 89), some (.int (6))]) m190_1428 rfl (by decide) rfl rfl ?_
  refine g_goto m190_1431 ?_
  refine g_iload_n m190_18 rfl ?_
  refine g_aload_n m190_19 rfl ?_
  refine g_alen (n := 6) m190_20 rfl (Or.inl rfl) rfl ?_
  refine g_bipush m190_21 ?_
  refine g_isub (u := (0 : Int32)) m190_23 (by decide) ?_
  refine g_ic_gtT m190_24 (by decide) ?_
  refine g_iconst m190_1434 ?_
  refine g_zret m190_1435 rfl (Or.inr rfl) ?_
  exact rfl
set_option maxRecDepth 20000 in
set_option maxHeartbeats 40000000 in
theorem lc_36 {s0 s1 s2 s3 s4 s5 : Int32} {d mc ms : Nat} : gw [s0, s1, s2, s3, s4, s5] (WP [s0, s1, s2, s3, s4, s5] (d + 20)) 190 (fun r _ => r = some (.int 1)) 1346 [some (.ref 0), some (.ref 32), some (.ref 89), some (.int 0)] [] (hX0 ++ hM0) mc ms := by
  refine g_aload_n m190_1346 rfl ?_
  refine g_aload_n m190_1347 rfl ?_
  refine g_iload_n m190_1348 rfl ?_
  refine g_iconst m190_1349 ?_
  refine g_iadd (u := (1 : Int32)) m190_1350 (by decide) ?_
  refine g_iald (x := s1) m190_1351 rfl (vin rfl) rfl ?_
  refine g_cv (args := [.int _]) (rest := []) m190_1352 (Nat.le_of_ble_eq_true rfl) rfl rfl rfl (Nat.le_of_ble_eq_true rfl) ?_
  refine wp_in (L := [some (.ref 32), some (.int _)]) (Nat.le_of_ble_eq_true rfl) rfl ?_
  refine g_aload_n m102_0 rfl ?_
  refine g_gf m102_1 rfl rfl ?_
  refine g_gf m102_4 rfl rfl ?_
  refine g_bipush m102_7 ?_
  refine g_ic_ltT m102_9 (by decide) ?_
  refine g_aload_n m102_18 rfl ?_
  refine g_gf m102_19 rfl rfl ?_
  refine g_gf m102_22 rfl rfl ?_
  refine g_aload_n m102_25 rfl ?_
  refine g_gf m102_26 rfl rfl ?_
  refine g_gf m102_29 rfl rfl ?_
  refine g_iload_n m102_32 rfl ?_
  refine g_iast m102_33 (Nat.le_of_ble_eq_true rfl) rfl (vin rfl) rfl rfl rfl ?_
  refine g_aload_n m102_34 rfl ?_
  refine g_gf m102_35 rfl rfl ?_
  refine g_dup m102_38 rfl ?_
  refine g_gf m102_39 rfl rfl ?_
  refine g_iconst m102_42 ?_
  refine g_iadd (u := (1 : Int32)) m102_43 (by decide) ?_
  refine g_pf (fs2 := [.int (1), .ref 70, .int (0), .ref 71, .int (1)]) m102_44 rfl (Nat.le_of_ble_eq_true rfl) rfl (Nat.le_of_ble_eq_true rfl) trivial rfl rfl rfl ?_
  refine g_aload_n m102_47 rfl ?_
  refine g_gf m102_48 rfl rfl ?_
  refine g_gf m102_51 rfl rfl ?_
  refine g_iret m102_54 rfl ?_
  refine gwst (st' := [.int (1)]) rfl ?_
  refine FRg rfl (fun f => ?_)
  refine g_aload_n m190_1355 rfl ?_
  refine g_aload_n m190_1356 rfl ?_
  refine g_iload_n m190_1357 rfl ?_
  refine g_iconst m190_1358 ?_
  refine g_iadd (u := (1 : Int32)) m190_1359 (by decide) ?_
  refine g_iald (x := s1) m190_1360 rfl (vin rfl) rfl ?_
  refine g_cv (args := [.int _]) (rest := [.int (1)]) m190_1361 (Nat.le_of_ble_eq_true rfl) rfl rfl rfl (Nat.le_of_ble_eq_true rfl) ?_
  refine wp_in (L := [some (.ref 89), some (.int _)]) (Nat.le_of_ble_eq_true rfl) rfl ?_
  refine g_aload_n m186_0 rfl ?_
  refine g_gf m186_1 rfl rfl ?_
  refine g_iconst m186_4 ?_
  refine g_iald (x := (0 : Int32)) m186_5 rfl (vin rfl) rfl ?_
  refine g_bipush m186_6 ?_
  refine g_ic_neF m186_8 (by decide) ?_
  refine g_aload_n m186_18 rfl ?_
  refine g_gf m186_19 rfl rfl ?_
  refine g_bipush m186_22 ?_
  refine g_aload_n m186_24 rfl ?_
  refine g_gf m186_25 rfl rfl ?_
  refine g_iconst m186_28 ?_
  refine g_iald (x := (0 : Int32)) m186_29 rfl (vin rfl) rfl ?_
  refine g_iadd (u := (114 : Int32)) m186_30 (by decide) ?_
  refine g_iload_n m186_31 rfl ?_
  refine g_iast m186_32 (Nat.le_of_ble_eq_true rfl) rfl (vin rfl) rfl rfl rfl ?_
  refine g_aload_n m186_33 rfl ?_
  refine g_gf m186_34 rfl rfl ?_
  refine g_iconst m186_37 ?_
  refine g_dup2 m186_38 rfl rfl ?_
  refine g_iald (x := (0 : Int32)) m186_39 rfl (vin rfl) rfl ?_
  refine g_iconst m186_40 ?_
  refine g_iadd (u := (1 : Int32)) m186_41 (by decide) ?_
  refine g_iast m186_42 (Nat.le_of_ble_eq_true rfl) rfl (vin rfl) rfl rfl (set_n0 rfl) ?_
  refine g_aload_n m186_43 rfl ?_
  refine g_gf m186_44 rfl rfl ?_
  refine g_iconst m186_47 ?_
  refine g_iald (x := (1 : Int32)) m186_48 rfl (vin rfl) rfl ?_
  refine g_iret m186_49 rfl ?_
  refine gwst (st' := [.int (1), .int (1)]) rfl ?_
  refine g_ic_eqT m190_1364 (by decide) ?_
  refine g_iinc (x2 := (6 : Int32)) (L2 := [some (.ref 0), some (.ref 32), some (.ref 89), some (.int (6))]) m190_1428 rfl (by decide) rfl rfl ?_
  refine g_goto m190_1431 ?_
  refine g_iload_n m190_18 rfl ?_
  refine g_aload_n m190_19 rfl ?_
  refine g_alen (n := 6) m190_20 rfl (Or.inl rfl) rfl ?_
  refine g_bipush m190_21 ?_
  refine g_isub (u := (0 : Int32)) m190_23 (by decide) ?_
  refine g_ic_gtT m190_24 (by decide) ?_
  refine g_iconst m190_1434 ?_
  refine g_zret m190_1435 rfl (Or.inr rfl) ?_
  exact rfl
set_option maxRecDepth 20000 in
set_option maxHeartbeats 40000000 in
theorem lc_37 {s0 s1 s2 s3 s4 s5 : Int32} {d mc ms : Nat} : gw [s0, s1, s2, s3, s4, s5] (WP [s0, s1, s2, s3, s4, s5] (d + 20)) 190 (fun r _ => r = some (.int 1)) 1369 [some (.ref 0), some (.ref 32), some (.ref 89), some (.int 0)] [] (hX0 ++ hM0) mc ms := by
  refine g_aload_n m190_1369 rfl ?_
  refine g_cv (args := []) (rest := []) m190_1370 (Nat.le_of_ble_eq_true rfl) rfl rfl rfl (Nat.le_of_ble_eq_true rfl) ?_
  refine wp_in (L := [some (.ref 32), none, none, none]) (Nat.le_of_ble_eq_true rfl) rfl ?_
  refine g_aload_n m103_0 rfl ?_
  refine g_gf m103_1 rfl rfl ?_
  refine g_gf m103_4 rfl rfl ?_
  refine g_istore_n (L2 := [some (.ref 32), some (.int (0)), none, none]) m103_7 rfl rfl ?_
  refine g_aload_n m103_8 rfl ?_
  refine g_gf m103_9 rfl rfl ?_
  refine g_iconst m103_12 ?_
  refine g_pf (fs2 := [.int (1), .ref 70, .int (0), .ref 71, .int (0)]) m103_13 rfl (Nat.le_of_ble_eq_true rfl) rfl (Nat.le_of_ble_eq_true rfl) trivial rfl rfl rfl ?_
  refine g_aload_n m103_16 rfl ?_
  refine g_cv (args := []) (rest := []) m103_17 (Nat.le_of_ble_eq_true rfl) rfl rfl rfl (Nat.le_of_ble_eq_true rfl) ?_
  refine WPh (h' := hF 0 0 1 ++ hM0) (by decide +kernel) (c_think ?_)
  refine gwst (st' := [.ref 42]) rfl ?_
  refine g_astore_n (L2 := [some (.ref 32), some (.int (0)), some (.ref 42), none]) m103_20 rfl rfl ?_
  refine g_iconst m103_21 ?_
  refine g_istore_n (L2 := [some (.ref 32), some (.int (0)), some (.ref 42), some (.int (0))]) m103_22 rfl rfl ?_
  refine g_iload_n m103_23 rfl ?_
  refine g_iload_n m103_24 rfl ?_
  refine g_ic_geT m103_25 (by decide) ?_
  refine g_iconst m103_59 ?_
  refine g_iret m103_60 rfl ?_
  refine gwst (st' := [.int (0)]) rfl ?_
  refine FRg rfl (fun f => ?_)
  refine g_aload_n m190_1373 rfl ?_
  refine g_cv (args := []) (rest := [.int (0)]) m190_1374 (Nat.le_of_ble_eq_true rfl) rfl rfl rfl (Nat.le_of_ble_eq_true rfl) ?_
  refine wp_in (L := [some (.ref 89), none, none, none]) (Nat.le_of_ble_eq_true rfl) rfl ?_
  refine g_aload_n m187_0 rfl ?_
  refine g_gf m187_1 rfl rfl ?_
  refine g_iconst m187_4 ?_
  refine g_iald (x := (0 : Int32)) m187_5 rfl (vin rfl) rfl ?_
  refine g_istore_n (L2 := [some (.ref 89), some (.int (0)), none, none]) m187_6 rfl rfl ?_
  refine g_aload_n m187_7 rfl ?_
  refine g_gf m187_8 rfl rfl ?_
  refine g_iconst m187_11 ?_
  refine g_iconst m187_12 ?_
  refine g_iast m187_13 (Nat.le_of_ble_eq_true rfl) rfl (vin rfl) rfl rfl (set_idem rfl (by decide +kernel)) ?_
  refine g_aload_n m187_14 rfl ?_
  refine g_aload_n m187_15 rfl ?_
  refine g_gf m187_16 rfl rfl ?_
  refine g_aload_n m187_19 rfl ?_
  refine g_gf m187_20 rfl rfl ?_
  refine g_cv (args := [.ref 90, .ref 92]) (rest := []) m187_23 (Nat.le_of_ble_eq_true rfl) rfl rfl rfl (Nat.le_of_ble_eq_true rfl) ?_
  refine c_moveAll rfl (Nat.le_of_ble_eq_true rfl) rfl (by rfl) (by rfl) (by decide) ?_
  refine gwst (st' := []) rfl ?_
  refine g_iconst m187_26 ?_
  refine g_istore_n (L2 := [some (.ref 89), some (.int (0)), some (.int (0)), none]) m187_27 rfl rfl ?_
  refine g_iconst m187_28 ?_
  refine g_istore_n (L2 := [some (.ref 89), some (.int (0)), some (.int (0)), some (.int (1))]) m187_29 rfl rfl ?_
  refine g_iload_n m187_30 rfl ?_
  refine g_iload_n m187_31 rfl ?_
  refine g_ic_geT m187_32 (by decide) ?_
  refine g_aload_n m187_81 rfl ?_
  refine g_aload_n m187_82 rfl ?_
  refine g_gf m187_83 rfl rfl ?_
  refine g_aload_n m187_86 rfl ?_
  refine g_gf m187_87 rfl rfl ?_
  refine g_cv (args := [.ref 92, .ref 90]) (rest := []) m187_90 (Nat.le_of_ble_eq_true rfl) rfl rfl rfl (Nat.le_of_ble_eq_true rfl) ?_
  refine c_moveAll rfl (Nat.le_of_ble_eq_true rfl) rfl (by rfl) (by rfl) (by decide) ?_
  refine gwst (st' := []) rfl ?_
  refine g_iload_n m187_93 rfl ?_
  refine g_if_eqF m187_94 (by decide) ?_
  refine g_iconst m187_97 ?_
  refine g_goto m187_98 ?_
  refine g_iret m187_104 rfl ?_
  refine gwst (st' := [.int (0), .int (0)]) rfl ?_
  refine g_ic_eqT m190_1377 (by decide) ?_
  refine g_iinc (x2 := (6 : Int32)) (L2 := [some (.ref 0), some (.ref 32), some (.ref 89), some (.int (6))]) m190_1428 rfl (by decide) rfl rfl ?_
  refine g_goto m190_1431 ?_
  refine g_iload_n m190_18 rfl ?_
  refine g_aload_n m190_19 rfl ?_
  refine g_alen (n := 6) m190_20 rfl (Or.inl rfl) rfl ?_
  refine g_bipush m190_21 ?_
  refine g_isub (u := (0 : Int32)) m190_23 (by decide) ?_
  refine g_ic_gtT m190_24 (by decide) ?_
  refine g_iconst m190_1434 ?_
  refine g_zret m190_1435 rfl (Or.inr rfl) ?_
  exact rfl
set_option maxRecDepth 20000 in
set_option maxHeartbeats 40000000 in
theorem lc_38 {s0 s1 s2 s3 s4 s5 : Int32} {d mc ms : Nat} : gw [s0, s1, s2, s3, s4, s5] (WP [s0, s1, s2, s3, s4, s5] (d + 20)) 190 (fun r _ => r = some (.int 1)) 1382 [some (.ref 0), some (.ref 32), some (.ref 89), some (.int 0)] [] (hX0 ++ hM0) mc ms := by
  refine g_aload_n m190_1382 rfl ?_
  refine g_aload_n m190_1383 rfl ?_
  refine g_iload_n m190_1384 rfl ?_
  refine g_iconst m190_1385 ?_
  refine g_iadd (u := (1 : Int32)) m190_1386 (by decide) ?_
  refine g_iald (x := s1) m190_1387 rfl (vin rfl) rfl ?_
  refine g_cv (args := [.int _]) (rest := []) m190_1388 (Nat.le_of_ble_eq_true rfl) rfl rfl rfl (Nat.le_of_ble_eq_true rfl) ?_
  refine wp_in (L := [some (.ref 32), some (.int _)]) (Nat.le_of_ble_eq_true rfl) rfl ?_
  refine g_iload_n m104_0 rfl ?_
  refine gs m104_1 ?_
  refine ifs (fun c1 => ?_) (fun c1 => ?_)
  · have c1o : (s1).toInt < 0 ∨ 9 < (s1).toInt := c1
    refine gwpc (pc' := 136) rfl ?_
    refine g_aload_n m104_136 rfl ?_
    refine g_iconst m104_137 ?_
    refine g_cv (args := [.int (1)]) (rest := []) m104_138 (Nat.le_of_ble_eq_true rfl) rfl rfl rfl (Nat.le_of_ble_eq_true rfl) ?_
    refine wp_in (L := [some (.ref 32), some (.int (1))]) (Nat.le_of_ble_eq_true rfl) rfl ?_
    refine g_aload_n m55_0 rfl ?_
    refine g_gf m55_1 rfl rfl ?_
    refine g_iload_n m55_4 rfl ?_
    refine g_dup2 m55_5 rfl rfl ?_
    refine g_iald (x := (0 : Int32)) m55_6 rfl (vin rfl) rfl ?_
    refine g_iconst m55_7 ?_
    refine g_iadd (u := (1 : Int32)) m55_8 (by decide) ?_
    refine g_iast m55_9 (Nat.le_of_ble_eq_true rfl) rfl (vin rfl) rfl rfl rfl ?_
    refine g_ldcw m55_10 ?_
    refine g_iload_n m55_13 rfl ?_
    refine g_isub (u := (-1000000001 : Int32)) m55_14 (by decide) ?_
    refine g_iret m55_15 rfl ?_
    refine gwst (st' := [.int (-1000000001)]) rfl ?_
    refine g_iret m104_141 rfl ?_
    refine gwst (st' := [.int (-1000000001)]) rfl ?_
    refine FRg rfl (fun f => ?_)
    refine g_aload_n m190_1391 rfl ?_
    refine g_aload_n m190_1392 rfl ?_
    refine g_iload_n m190_1393 rfl ?_
    refine g_iconst m190_1394 ?_
    refine g_iadd (u := (1 : Int32)) m190_1395 (by decide) ?_
    refine g_iald (x := s1) m190_1396 rfl (vin rfl) rfl ?_
    refine g_cv (args := [.int _]) (rest := [.int (-1000000001)]) m190_1397 (Nat.le_of_ble_eq_true rfl) rfl rfl rfl (Nat.le_of_ble_eq_true rfl) ?_
    refine wp_in (L := [some (.ref 89), some (.int _)]) (Nat.le_of_ble_eq_true rfl) rfl ?_
    refine g_iload_n m188_0 rfl ?_
    refine gs m188_1 ?_
    refine ifT (by show (s1).toInt < 0 ∨ 9 < (s1).toInt; omega) ?_
    refine gwpc (pc' := 122) rfl ?_
    refine g_aload_n m188_122 rfl ?_
    refine g_ldci m188_123 rfl ?_
    refine g_cv (args := [.int (-1000000001)]) (rest := []) m188_125 (Nat.le_of_ble_eq_true rfl) rfl rfl rfl (Nat.le_of_ble_eq_true rfl) ?_
    refine wp_in (L := [some (.ref 89), some (.int (-1000000001))]) (Nat.le_of_ble_eq_true rfl) rfl ?_
    refine g_aload_n m108_0 rfl ?_
    refine g_gf m108_1 rfl rfl ?_
    refine g_ldci m108_4 rfl ?_
    refine g_iload_n m108_6 rfl ?_
    refine g_isub (u := (1 : Int32)) m108_7 (by decide) ?_
    refine g_dup2 m108_8 rfl rfl ?_
    refine g_iald (x := (0 : Int32)) m108_9 rfl (vin rfl) rfl ?_
    refine g_iconst m108_10 ?_
    refine g_iadd (u := (1 : Int32)) m108_11 (by decide) ?_
    refine g_iast m108_12 (Nat.le_of_ble_eq_true rfl) rfl (vin rfl) rfl rfl rfl ?_
    refine g_iload_n m108_13 rfl ?_
    refine g_iret m108_14 rfl ?_
    refine gwst (st' := [.int (-1000000001)]) rfl ?_
    refine g_iret m188_128 rfl ?_
    refine gwst (st' := [.int (-1000000001), .int (-1000000001)]) rfl ?_
    refine g_ic_eqT m190_1400 (by decide) ?_
    refine g_iinc (x2 := (6 : Int32)) (L2 := [some (.ref 0), some (.ref 32), some (.ref 89), some (.int (6))]) m190_1428 rfl (by decide) rfl rfl ?_
    refine g_goto m190_1431 ?_
    refine g_iload_n m190_18 rfl ?_
    refine g_aload_n m190_19 rfl ?_
    refine g_alen (n := 6) m190_20 rfl (Or.inl rfl) rfl ?_
    refine g_bipush m190_21 ?_
    refine g_isub (u := (0 : Int32)) m190_23 (by decide) ?_
    refine g_ic_gtT m190_24 (by decide) ?_
    refine g_iconst m190_1434 ?_
    refine g_zret m190_1435 rfl (Or.inr rfl) ?_
    exact rfl
  · have c1n : ¬ ((s1).toInt < 0 ∨ 9 < (s1).toInt) := c1
    have c1L : 0 ≤ (s1).toInt := by omega
    have c1H : (s1).toInt ≤ 9 := by omega
    obtain ⟨j2, e3, x4⟩ := nat_of (x := s1) (lo := 0) (hi := 9) (by omega) (by omega)
    rcases (show j2 = 0 ∨ j2 = 1 ∨ j2 = 2 ∨ j2 = 3 ∨ j2 = 4 ∨ j2 = 5 ∨ j2 = 6 ∨ j2 = 7 ∨ j2 = 8 ∨ j2 = 9 by omega) with rfl | rfl | rfl | rfl | rfl | rfl | rfl | rfl | rfl | rfl
    · have x4q : s1 = (0 : Int32) := x4
      clear x4
      subst x4q
      refine gwpc (pc' := 56) rfl ?_
      refine g_aload_n m104_56 rfl ?_
      refine g_gf m104_57 rfl rfl ?_
      refine g_gf m104_60 rfl rfl ?_
      refine g_iret m104_63 rfl ?_
      refine gwst (st' := [.int (0)]) rfl ?_
      refine FRg rfl (fun f => ?_)
      refine g_aload_n m190_1391 rfl ?_
      refine g_aload_n m190_1392 rfl ?_
      refine g_iload_n m190_1393 rfl ?_
      refine g_iconst m190_1394 ?_
      refine g_iadd (u := (1 : Int32)) m190_1395 (by decide) ?_
      refine g_iald (x := (0 : Int32)) m190_1396 rfl (vin rfl) rfl ?_
      refine g_cv (args := [.int (0)]) (rest := [.int (0)]) m190_1397 (Nat.le_of_ble_eq_true rfl) rfl rfl rfl (Nat.le_of_ble_eq_true rfl) ?_
      refine wp_in (L := [some (.ref 89), some (.int (0))]) (Nat.le_of_ble_eq_true rfl) rfl ?_
      refine g_iload_n m188_0 rfl ?_
      refine gs m188_1 ?_
      refine gwpc (pc' := 56) rfl ?_
      refine g_aload_n m188_56 rfl ?_
      refine g_gf m188_57 rfl rfl ?_
      refine g_iconst m188_60 ?_
      refine g_iald (x := (0 : Int32)) m188_61 rfl (vin rfl) rfl ?_
      refine g_iret m188_62 rfl ?_
      refine gwst (st' := [.int (0), .int (0)]) rfl ?_
      refine g_ic_eqT m190_1400 (by decide) ?_
      refine g_iinc (x2 := (6 : Int32)) (L2 := [some (.ref 0), some (.ref 32), some (.ref 89), some (.int (6))]) m190_1428 rfl (by decide) rfl rfl ?_
      refine g_goto m190_1431 ?_
      refine g_iload_n m190_18 rfl ?_
      refine g_aload_n m190_19 rfl ?_
      refine g_alen (n := 6) m190_20 rfl (Or.inl rfl) rfl ?_
      refine g_bipush m190_21 ?_
      refine g_isub (u := (0 : Int32)) m190_23 (by decide) ?_
      refine g_ic_gtT m190_24 (by decide) ?_
      refine g_iconst m190_1434 ?_
      refine g_zret m190_1435 rfl (Or.inr rfl) ?_
      exact rfl
    · have x4q : s1 = (1 : Int32) := x4
      clear x4
      subst x4q
      refine gwpc (pc' := 64) rfl ?_
      refine g_aload_n m104_64 rfl ?_
      refine g_gf m104_65 rfl rfl ?_
      refine g_gf m104_68 rfl rfl ?_
      refine g_iret m104_71 rfl ?_
      refine gwst (st' := [.int (1)]) rfl ?_
      refine FRg rfl (fun f => ?_)
      refine g_aload_n m190_1391 rfl ?_
      refine g_aload_n m190_1392 rfl ?_
      refine g_iload_n m190_1393 rfl ?_
      refine g_iconst m190_1394 ?_
      refine g_iadd (u := (1 : Int32)) m190_1395 (by decide) ?_
      refine g_iald (x := (1 : Int32)) m190_1396 rfl (vin rfl) rfl ?_
      refine g_cv (args := [.int (1)]) (rest := [.int (1)]) m190_1397 (Nat.le_of_ble_eq_true rfl) rfl rfl rfl (Nat.le_of_ble_eq_true rfl) ?_
      refine wp_in (L := [some (.ref 89), some (.int (1))]) (Nat.le_of_ble_eq_true rfl) rfl ?_
      refine g_iload_n m188_0 rfl ?_
      refine gs m188_1 ?_
      refine gwpc (pc' := 63) rfl ?_
      refine g_aload_n m188_63 rfl ?_
      refine g_gf m188_64 rfl rfl ?_
      refine g_bipush m188_67 ?_
      refine g_iald (x := (1 : Int32)) m188_69 rfl (vin rfl) rfl ?_
      refine g_iret m188_70 rfl ?_
      refine gwst (st' := [.int (1), .int (1)]) rfl ?_
      refine g_ic_eqT m190_1400 (by decide) ?_
      refine g_iinc (x2 := (6 : Int32)) (L2 := [some (.ref 0), some (.ref 32), some (.ref 89), some (.int (6))]) m190_1428 rfl (by decide) rfl rfl ?_
      refine g_goto m190_1431 ?_
      refine g_iload_n m190_18 rfl ?_
      refine g_aload_n m190_19 rfl ?_
      refine g_alen (n := 6) m190_20 rfl (Or.inl rfl) rfl ?_
      refine g_bipush m190_21 ?_
      refine g_isub (u := (0 : Int32)) m190_23 (by decide) ?_
      refine g_ic_gtT m190_24 (by decide) ?_
      refine g_iconst m190_1434 ?_
      refine g_zret m190_1435 rfl (Or.inr rfl) ?_
      exact rfl
    · have x4q : s1 = (2 : Int32) := x4
      clear x4
      subst x4q
      refine gwpc (pc' := 72) rfl ?_
      refine g_aload_n m104_72 rfl ?_
      refine g_gf m104_73 rfl rfl ?_
      refine g_gf m104_76 rfl rfl ?_
      refine g_iret m104_79 rfl ?_
      refine gwst (st' := [.int (0)]) rfl ?_
      refine FRg rfl (fun f => ?_)
      refine g_aload_n m190_1391 rfl ?_
      refine g_aload_n m190_1392 rfl ?_
      refine g_iload_n m190_1393 rfl ?_
      refine g_iconst m190_1394 ?_
      refine g_iadd (u := (1 : Int32)) m190_1395 (by decide) ?_
      refine g_iald (x := (2 : Int32)) m190_1396 rfl (vin rfl) rfl ?_
      refine g_cv (args := [.int (2)]) (rest := [.int (0)]) m190_1397 (Nat.le_of_ble_eq_true rfl) rfl rfl rfl (Nat.le_of_ble_eq_true rfl) ?_
      refine wp_in (L := [some (.ref 89), some (.int (2))]) (Nat.le_of_ble_eq_true rfl) rfl ?_
      refine g_iload_n m188_0 rfl ?_
      refine gs m188_1 ?_
      refine gwpc (pc' := 71) rfl ?_
      refine g_aload_n m188_71 rfl ?_
      refine g_gf m188_72 rfl rfl ?_
      refine g_iconst m188_75 ?_
      refine g_iald (x := (0 : Int32)) m188_76 rfl (vin rfl) rfl ?_
      refine g_iret m188_77 rfl ?_
      refine gwst (st' := [.int (0), .int (0)]) rfl ?_
      refine g_ic_eqT m190_1400 (by decide) ?_
      refine g_iinc (x2 := (6 : Int32)) (L2 := [some (.ref 0), some (.ref 32), some (.ref 89), some (.int (6))]) m190_1428 rfl (by decide) rfl rfl ?_
      refine g_goto m190_1431 ?_
      refine g_iload_n m190_18 rfl ?_
      refine g_aload_n m190_19 rfl ?_
      refine g_alen (n := 6) m190_20 rfl (Or.inl rfl) rfl ?_
      refine g_bipush m190_21 ?_
      refine g_isub (u := (0 : Int32)) m190_23 (by decide) ?_
      refine g_ic_gtT m190_24 (by decide) ?_
      refine g_iconst m190_1434 ?_
      refine g_zret m190_1435 rfl (Or.inr rfl) ?_
      exact rfl
    · have x4q : s1 = (3 : Int32) := x4
      clear x4
      subst x4q
      refine gwpc (pc' := 80) rfl ?_
      refine g_aload_n m104_80 rfl ?_
      refine g_gf m104_81 rfl rfl ?_
      refine g_cv (args := []) (rest := []) m104_84 (Nat.le_of_ble_eq_true rfl) rfl rfl rfl (Nat.le_of_ble_eq_true rfl) ?_
      refine wp_in (L := [some (.ref 33), none, none]) (Nat.le_of_ble_eq_true rfl) rfl ?_
      refine g_iconst m45_0 ?_
      refine g_istore_n (L2 := [some (.ref 33), some (.int (0)), none]) m45_1 rfl rfl ?_
      refine g_iconst m45_2 ?_
      refine g_istore_n (L2 := [some (.ref 33), some (.int (0)), some (.int (0))]) m45_3 rfl rfl ?_
      refine g_iload_n m45_4 rfl ?_
      refine g_aload_n m45_5 rfl ?_
      refine g_gf m45_6 rfl rfl ?_
      refine g_ic_geT m45_9 (by decide) ?_
      refine g_iload_n m45_27 rfl ?_
      refine g_iret m45_28 rfl ?_
      refine gwst (st' := [.int (0)]) rfl ?_
      refine g_iret m104_87 rfl ?_
      refine gwst (st' := [.int (0)]) rfl ?_
      refine FRg rfl (fun f => ?_)
      refine g_aload_n m190_1391 rfl ?_
      refine g_aload_n m190_1392 rfl ?_
      refine g_iload_n m190_1393 rfl ?_
      refine g_iconst m190_1394 ?_
      refine g_iadd (u := (1 : Int32)) m190_1395 (by decide) ?_
      refine g_iald (x := (3 : Int32)) m190_1396 rfl (vin rfl) rfl ?_
      refine g_cv (args := [.int (3)]) (rest := [.int (0)]) m190_1397 (Nat.le_of_ble_eq_true rfl) rfl rfl rfl (Nat.le_of_ble_eq_true rfl) ?_
      refine wp_in (L := [some (.ref 89), some (.int (3))]) (Nat.le_of_ble_eq_true rfl) rfl ?_
      refine g_iload_n m188_0 rfl ?_
      refine gs m188_1 ?_
      refine gwpc (pc' := 78) rfl ?_
      refine g_aload_n m188_78 rfl ?_
      refine g_iconst m188_79 ?_
      refine g_cv (args := [.int (2)]) (rest := []) m188_80 (Nat.le_of_ble_eq_true rfl) rfl rfl rfl (Nat.le_of_ble_eq_true rfl) ?_
      refine wp_in (L := [some (.ref 89), some (.int (2)), none, none]) (Nat.le_of_ble_eq_true rfl) rfl ?_
      refine g_iconst m147_0 ?_
      refine g_istore_n (L2 := [some (.ref 89), some (.int (2)), some (.int (0)), none]) m147_1 rfl rfl ?_
      refine g_iconst m147_2 ?_
      refine g_istore_n (L2 := [some (.ref 89), some (.int (2)), some (.int (0)), some (.int (0))]) m147_3 rfl rfl ?_
      refine g_iload_n m147_4 rfl ?_
      refine g_aload_n m147_5 rfl ?_
      refine g_gf m147_6 rfl rfl ?_
      refine g_iconst m147_9 ?_
      refine g_iald (x := (0 : Int32)) m147_10 rfl (vin rfl) rfl ?_
      refine g_ic_geT m147_11 (by decide) ?_
      refine g_iload_n m147_29 rfl ?_
      refine g_iret m147_30 rfl ?_
      refine gwst (st' := [.int (0)]) rfl ?_
      refine g_iret m188_83 rfl ?_
      refine gwst (st' := [.int (0), .int (0)]) rfl ?_
      refine g_ic_eqT m190_1400 (by decide) ?_
      refine g_iinc (x2 := (6 : Int32)) (L2 := [some (.ref 0), some (.ref 32), some (.ref 89), some (.int (6))]) m190_1428 rfl (by decide) rfl rfl ?_
      refine g_goto m190_1431 ?_
      refine g_iload_n m190_18 rfl ?_
      refine g_aload_n m190_19 rfl ?_
      refine g_alen (n := 6) m190_20 rfl (Or.inl rfl) rfl ?_
      refine g_bipush m190_21 ?_
      refine g_isub (u := (0 : Int32)) m190_23 (by decide) ?_
      refine g_ic_gtT m190_24 (by decide) ?_
      refine g_iconst m190_1434 ?_
      refine g_zret m190_1435 rfl (Or.inr rfl) ?_
      exact rfl
    · have x4q : s1 = (4 : Int32) := x4
      clear x4
      subst x4q
      refine gwpc (pc' := 88) rfl ?_
      refine g_aload_n m104_88 rfl ?_
      refine g_gf m104_89 rfl rfl ?_
      refine g_cv (args := []) (rest := []) m104_92 (Nat.le_of_ble_eq_true rfl) rfl rfl rfl (Nat.le_of_ble_eq_true rfl) ?_
      refine wp_in (L := [some (.ref 33), none, none]) (Nat.le_of_ble_eq_true rfl) rfl ?_
      refine g_iconst m47_0 ?_
      refine g_istore_n (L2 := [some (.ref 33), some (.int (0)), none]) m47_1 rfl rfl ?_
      refine g_iconst m47_2 ?_
      refine g_istore_n (L2 := [some (.ref 33), some (.int (0)), some (.int (0))]) m47_3 rfl rfl ?_
      refine g_iload_n m47_4 rfl ?_
      refine g_aload_n m47_5 rfl ?_
      refine g_gf m47_6 rfl rfl ?_
      refine g_ic_geT m47_9 (by decide) ?_
      refine g_iload_n m47_27 rfl ?_
      refine g_iret m47_28 rfl ?_
      refine gwst (st' := [.int (0)]) rfl ?_
      refine g_iret m104_95 rfl ?_
      refine gwst (st' := [.int (0)]) rfl ?_
      refine FRg rfl (fun f => ?_)
      refine g_aload_n m190_1391 rfl ?_
      refine g_aload_n m190_1392 rfl ?_
      refine g_iload_n m190_1393 rfl ?_
      refine g_iconst m190_1394 ?_
      refine g_iadd (u := (1 : Int32)) m190_1395 (by decide) ?_
      refine g_iald (x := (4 : Int32)) m190_1396 rfl (vin rfl) rfl ?_
      refine g_cv (args := [.int (4)]) (rest := [.int (0)]) m190_1397 (Nat.le_of_ble_eq_true rfl) rfl rfl rfl (Nat.le_of_ble_eq_true rfl) ?_
      refine wp_in (L := [some (.ref 89), some (.int (4))]) (Nat.le_of_ble_eq_true rfl) rfl ?_
      refine g_iload_n m188_0 rfl ?_
      refine gs m188_1 ?_
      refine gwpc (pc' := 84) rfl ?_
      refine g_aload_n m188_84 rfl ?_
      refine g_iconst m188_85 ?_
      refine g_cv (args := [.int (4)]) (rest := []) m188_86 (Nat.le_of_ble_eq_true rfl) rfl rfl rfl (Nat.le_of_ble_eq_true rfl) ?_
      refine wp_in (L := [some (.ref 89), some (.int (4)), none, none]) (Nat.le_of_ble_eq_true rfl) rfl ?_
      refine g_iconst m147_0 ?_
      refine g_istore_n (L2 := [some (.ref 89), some (.int (4)), some (.int (0)), none]) m147_1 rfl rfl ?_
      refine g_iconst m147_2 ?_
      refine g_istore_n (L2 := [some (.ref 89), some (.int (4)), some (.int (0)), some (.int (0))]) m147_3 rfl rfl ?_
      refine g_iload_n m147_4 rfl ?_
      refine g_aload_n m147_5 rfl ?_
      refine g_gf m147_6 rfl rfl ?_
      refine g_iconst m147_9 ?_
      refine g_iald (x := (0 : Int32)) m147_10 rfl (vin rfl) rfl ?_
      refine g_ic_geT m147_11 (by decide) ?_
      refine g_iload_n m147_29 rfl ?_
      refine g_iret m147_30 rfl ?_
      refine gwst (st' := [.int (0)]) rfl ?_
      refine g_iret m188_89 rfl ?_
      refine gwst (st' := [.int (0), .int (0)]) rfl ?_
      refine g_ic_eqT m190_1400 (by decide) ?_
      refine g_iinc (x2 := (6 : Int32)) (L2 := [some (.ref 0), some (.ref 32), some (.ref 89), some (.int (6))]) m190_1428 rfl (by decide) rfl rfl ?_
      refine g_goto m190_1431 ?_
      refine g_iload_n m190_18 rfl ?_
      refine g_aload_n m190_19 rfl ?_
      refine g_alen (n := 6) m190_20 rfl (Or.inl rfl) rfl ?_
      refine g_bipush m190_21 ?_
      refine g_isub (u := (0 : Int32)) m190_23 (by decide) ?_
      refine g_ic_gtT m190_24 (by decide) ?_
      refine g_iconst m190_1434 ?_
      refine g_zret m190_1435 rfl (Or.inr rfl) ?_
      exact rfl
    · have x4q : s1 = (5 : Int32) := x4
      clear x4
      subst x4q
      refine gwpc (pc' := 96) rfl ?_
      refine g_aload_n m104_96 rfl ?_
      refine g_gf m104_97 rfl rfl ?_
      refine g_cv (args := []) (rest := []) m104_100 (Nat.le_of_ble_eq_true rfl) rfl rfl rfl (Nat.le_of_ble_eq_true rfl) ?_
      refine wp_in (L := [some (.ref 33), none, none]) (Nat.le_of_ble_eq_true rfl) rfl ?_
      refine g_iconst m48_0 ?_
      refine g_istore_n (L2 := [some (.ref 33), some (.int (0)), none]) m48_1 rfl rfl ?_
      refine g_iconst m48_2 ?_
      refine g_istore_n (L2 := [some (.ref 33), some (.int (0)), some (.int (0))]) m48_3 rfl rfl ?_
      refine g_iload_n m48_4 rfl ?_
      refine g_aload_n m48_5 rfl ?_
      refine g_gf m48_6 rfl rfl ?_
      refine g_ic_geT m48_9 (by decide) ?_
      refine g_iload_n m48_30 rfl ?_
      refine g_iret m48_31 rfl ?_
      refine gwst (st' := [.int (0)]) rfl ?_
      refine g_iret m104_103 rfl ?_
      refine gwst (st' := [.int (0)]) rfl ?_
      refine FRg rfl (fun f => ?_)
      refine g_aload_n m190_1391 rfl ?_
      refine g_aload_n m190_1392 rfl ?_
      refine g_iload_n m190_1393 rfl ?_
      refine g_iconst m190_1394 ?_
      refine g_iadd (u := (1 : Int32)) m190_1395 (by decide) ?_
      refine g_iald (x := (5 : Int32)) m190_1396 rfl (vin rfl) rfl ?_
      refine g_cv (args := [.int (5)]) (rest := [.int (0)]) m190_1397 (Nat.le_of_ble_eq_true rfl) rfl rfl rfl (Nat.le_of_ble_eq_true rfl) ?_
      refine wp_in (L := [some (.ref 89), some (.int (5))]) (Nat.le_of_ble_eq_true rfl) rfl ?_
      refine g_iload_n m188_0 rfl ?_
      refine gs m188_1 ?_
      refine gwpc (pc' := 90) rfl ?_
      refine g_aload_n m188_90 rfl ?_
      refine g_iconst m188_91 ?_
      refine g_cv (args := [.int (5)]) (rest := []) m188_92 (Nat.le_of_ble_eq_true rfl) rfl rfl rfl (Nat.le_of_ble_eq_true rfl) ?_
      refine wp_in (L := [some (.ref 89), some (.int (5)), none, none]) (Nat.le_of_ble_eq_true rfl) rfl ?_
      refine g_iconst m147_0 ?_
      refine g_istore_n (L2 := [some (.ref 89), some (.int (5)), some (.int (0)), none]) m147_1 rfl rfl ?_
      refine g_iconst m147_2 ?_
      refine g_istore_n (L2 := [some (.ref 89), some (.int (5)), some (.int (0)), some (.int (0))]) m147_3 rfl rfl ?_
      refine g_iload_n m147_4 rfl ?_
      refine g_aload_n m147_5 rfl ?_
      refine g_gf m147_6 rfl rfl ?_
      refine g_iconst m147_9 ?_
      refine g_iald (x := (0 : Int32)) m147_10 rfl (vin rfl) rfl ?_
      refine g_ic_geT m147_11 (by decide) ?_
      refine g_iload_n m147_29 rfl ?_
      refine g_iret m147_30 rfl ?_
      refine gwst (st' := [.int (0)]) rfl ?_
      refine g_iret m188_95 rfl ?_
      refine gwst (st' := [.int (0), .int (0)]) rfl ?_
      refine g_ic_eqT m190_1400 (by decide) ?_
      refine g_iinc (x2 := (6 : Int32)) (L2 := [some (.ref 0), some (.ref 32), some (.ref 89), some (.int (6))]) m190_1428 rfl (by decide) rfl rfl ?_
      refine g_goto m190_1431 ?_
      refine g_iload_n m190_18 rfl ?_
      refine g_aload_n m190_19 rfl ?_
      refine g_alen (n := 6) m190_20 rfl (Or.inl rfl) rfl ?_
      refine g_bipush m190_21 ?_
      refine g_isub (u := (0 : Int32)) m190_23 (by decide) ?_
      refine g_ic_gtT m190_24 (by decide) ?_
      refine g_iconst m190_1434 ?_
      refine g_zret m190_1435 rfl (Or.inr rfl) ?_
      exact rfl
    · have x4q : s1 = (6 : Int32) := x4
      clear x4
      subst x4q
      refine gwpc (pc' := 104) rfl ?_
      refine g_aload_n m104_104 rfl ?_
      refine g_gf m104_105 rfl rfl ?_
      refine g_gf m104_108 rfl rfl ?_
      refine g_iret m104_111 rfl ?_
      refine gwst (st' := [.int (0)]) rfl ?_
      refine FRg rfl (fun f => ?_)
      refine g_aload_n m190_1391 rfl ?_
      refine g_aload_n m190_1392 rfl ?_
      refine g_iload_n m190_1393 rfl ?_
      refine g_iconst m190_1394 ?_
      refine g_iadd (u := (1 : Int32)) m190_1395 (by decide) ?_
      refine g_iald (x := (6 : Int32)) m190_1396 rfl (vin rfl) rfl ?_
      refine g_cv (args := [.int (6)]) (rest := [.int (0)]) m190_1397 (Nat.le_of_ble_eq_true rfl) rfl rfl rfl (Nat.le_of_ble_eq_true rfl) ?_
      refine wp_in (L := [some (.ref 89), some (.int (6))]) (Nat.le_of_ble_eq_true rfl) rfl ?_
      refine g_iload_n m188_0 rfl ?_
      refine gs m188_1 ?_
      refine gwpc (pc' := 96) rfl ?_
      refine g_aload_n m188_96 rfl ?_
      refine g_gf m188_97 rfl rfl ?_
      refine g_iconst m188_100 ?_
      refine g_iald (x := (0 : Int32)) m188_101 rfl (vin rfl) rfl ?_
      refine g_iret m188_102 rfl ?_
      refine gwst (st' := [.int (0), .int (0)]) rfl ?_
      refine g_ic_eqT m190_1400 (by decide) ?_
      refine g_iinc (x2 := (6 : Int32)) (L2 := [some (.ref 0), some (.ref 32), some (.ref 89), some (.int (6))]) m190_1428 rfl (by decide) rfl rfl ?_
      refine g_goto m190_1431 ?_
      refine g_iload_n m190_18 rfl ?_
      refine g_aload_n m190_19 rfl ?_
      refine g_alen (n := 6) m190_20 rfl (Or.inl rfl) rfl ?_
      refine g_bipush m190_21 ?_
      refine g_isub (u := (0 : Int32)) m190_23 (by decide) ?_
      refine g_ic_gtT m190_24 (by decide) ?_
      refine g_iconst m190_1434 ?_
      refine g_zret m190_1435 rfl (Or.inr rfl) ?_
      exact rfl
    · have x4q : s1 = (7 : Int32) := x4
      clear x4
      subst x4q
      refine gwpc (pc' := 112) rfl ?_
      refine g_aload_n m104_112 rfl ?_
      refine g_gf m104_113 rfl rfl ?_
      refine g_gf m104_116 rfl rfl ?_
      refine g_iret m104_119 rfl ?_
      refine gwst (st' := [.int (0)]) rfl ?_
      refine FRg rfl (fun f => ?_)
      refine g_aload_n m190_1391 rfl ?_
      refine g_aload_n m190_1392 rfl ?_
      refine g_iload_n m190_1393 rfl ?_
      refine g_iconst m190_1394 ?_
      refine g_iadd (u := (1 : Int32)) m190_1395 (by decide) ?_
      refine g_iald (x := (7 : Int32)) m190_1396 rfl (vin rfl) rfl ?_
      refine g_cv (args := [.int (7)]) (rest := [.int (0)]) m190_1397 (Nat.le_of_ble_eq_true rfl) rfl rfl rfl (Nat.le_of_ble_eq_true rfl) ?_
      refine wp_in (L := [some (.ref 89), some (.int (7))]) (Nat.le_of_ble_eq_true rfl) rfl ?_
      refine g_iload_n m188_0 rfl ?_
      refine gs m188_1 ?_
      refine gwpc (pc' := 103) rfl ?_
      refine g_aload_n m188_103 rfl ?_
      refine g_gf m188_104 rfl rfl ?_
      refine g_iconst m188_107 ?_
      refine g_iald (x := (0 : Int32)) m188_108 rfl (vin rfl) rfl ?_
      refine g_iret m188_109 rfl ?_
      refine gwst (st' := [.int (0), .int (0)]) rfl ?_
      refine g_ic_eqT m190_1400 (by decide) ?_
      refine g_iinc (x2 := (6 : Int32)) (L2 := [some (.ref 0), some (.ref 32), some (.ref 89), some (.int (6))]) m190_1428 rfl (by decide) rfl rfl ?_
      refine g_goto m190_1431 ?_
      refine g_iload_n m190_18 rfl ?_
      refine g_aload_n m190_19 rfl ?_
      refine g_alen (n := 6) m190_20 rfl (Or.inl rfl) rfl ?_
      refine g_bipush m190_21 ?_
      refine g_isub (u := (0 : Int32)) m190_23 (by decide) ?_
      refine g_ic_gtT m190_24 (by decide) ?_
      refine g_iconst m190_1434 ?_
      refine g_zret m190_1435 rfl (Or.inr rfl) ?_
      exact rfl
    · have x4q : s1 = (8 : Int32) := x4
      clear x4
      subst x4q
      refine gwpc (pc' := 120) rfl ?_
      refine g_aload_n m104_120 rfl ?_
      refine g_gf m104_121 rfl rfl ?_
      refine g_gf m104_124 rfl rfl ?_
      refine g_iret m104_127 rfl ?_
      refine gwst (st' := [.int (0)]) rfl ?_
      refine FRg rfl (fun f => ?_)
      refine g_aload_n m190_1391 rfl ?_
      refine g_aload_n m190_1392 rfl ?_
      refine g_iload_n m190_1393 rfl ?_
      refine g_iconst m190_1394 ?_
      refine g_iadd (u := (1 : Int32)) m190_1395 (by decide) ?_
      refine g_iald (x := (8 : Int32)) m190_1396 rfl (vin rfl) rfl ?_
      refine g_cv (args := [.int (8)]) (rest := [.int (0)]) m190_1397 (Nat.le_of_ble_eq_true rfl) rfl rfl rfl (Nat.le_of_ble_eq_true rfl) ?_
      refine wp_in (L := [some (.ref 89), some (.int (8))]) (Nat.le_of_ble_eq_true rfl) rfl ?_
      refine g_iload_n m188_0 rfl ?_
      refine gs m188_1 ?_
      refine gwpc (pc' := 110) rfl ?_
      refine g_aload_n m188_110 rfl ?_
      refine g_gf m188_111 rfl rfl ?_
      refine g_iret m188_114 rfl ?_
      refine gwst (st' := [.int (0), .int (0)]) rfl ?_
      refine g_ic_eqT m190_1400 (by decide) ?_
      refine g_iinc (x2 := (6 : Int32)) (L2 := [some (.ref 0), some (.ref 32), some (.ref 89), some (.int (6))]) m190_1428 rfl (by decide) rfl rfl ?_
      refine g_goto m190_1431 ?_
      refine g_iload_n m190_18 rfl ?_
      refine g_aload_n m190_19 rfl ?_
      refine g_alen (n := 6) m190_20 rfl (Or.inl rfl) rfl ?_
      refine g_bipush m190_21 ?_
      refine g_isub (u := (0 : Int32)) m190_23 (by decide) ?_
      refine g_ic_gtT m190_24 (by decide) ?_
      refine g_iconst m190_1434 ?_
      refine g_zret m190_1435 rfl (Or.inr rfl) ?_
      exact rfl
    · have x4q : s1 = (9 : Int32) := x4
      clear x4
      subst x4q
      refine gwpc (pc' := 128) rfl ?_
      refine g_aload_n m104_128 rfl ?_
      refine g_gf m104_129 rfl rfl ?_
      refine g_gf m104_132 rfl rfl ?_
      refine g_iret m104_135 rfl ?_
      refine gwst (st' := [.int (1)]) rfl ?_
      refine FRg rfl (fun f => ?_)
      refine g_aload_n m190_1391 rfl ?_
      refine g_aload_n m190_1392 rfl ?_
      refine g_iload_n m190_1393 rfl ?_
      refine g_iconst m190_1394 ?_
      refine g_iadd (u := (1 : Int32)) m190_1395 (by decide) ?_
      refine g_iald (x := (9 : Int32)) m190_1396 rfl (vin rfl) rfl ?_
      refine g_cv (args := [.int (9)]) (rest := [.int (1)]) m190_1397 (Nat.le_of_ble_eq_true rfl) rfl rfl rfl (Nat.le_of_ble_eq_true rfl) ?_
      refine wp_in (L := [some (.ref 89), some (.int (9))]) (Nat.le_of_ble_eq_true rfl) rfl ?_
      refine g_iload_n m188_0 rfl ?_
      refine gs m188_1 ?_
      refine gwpc (pc' := 115) rfl ?_
      refine g_aload_n m188_115 rfl ?_
      refine g_gf m188_116 rfl rfl ?_
      refine g_iconst m188_119 ?_
      refine g_iald (x := (1 : Int32)) m188_120 rfl (vin rfl) rfl ?_
      refine g_iret m188_121 rfl ?_
      refine gwst (st' := [.int (1), .int (1)]) rfl ?_
      refine g_ic_eqT m190_1400 (by decide) ?_
      refine g_iinc (x2 := (6 : Int32)) (L2 := [some (.ref 0), some (.ref 32), some (.ref 89), some (.int (6))]) m190_1428 rfl (by decide) rfl rfl ?_
      refine g_goto m190_1431 ?_
      refine g_iload_n m190_18 rfl ?_
      refine g_aload_n m190_19 rfl ?_
      refine g_alen (n := 6) m190_20 rfl (Or.inl rfl) rfl ?_
      refine g_bipush m190_21 ?_
      refine g_isub (u := (0 : Int32)) m190_23 (by decide) ?_
      refine g_ic_gtT m190_24 (by decide) ?_
      refine g_iconst m190_1434 ?_
      refine g_zret m190_1435 rfl (Or.inr rfl) ?_
      exact rfl
set_option maxRecDepth 20000 in
set_option maxHeartbeats 40000000 in
theorem lc_39 {s0 s1 s2 s3 s4 s5 : Int32} {d mc ms : Nat} : gw [s0, s1, s2, s3, s4, s5] (WP [s0, s1, s2, s3, s4, s5] (d + 20)) 190 (fun r _ => r = some (.int 1)) 1405 [some (.ref 0), some (.ref 32), some (.ref 89), some (.int 0)] [] (hX0 ++ hM0) mc ms := by
  refine g_aload_n m190_1405 rfl ?_
  refine g_aload_n m190_1406 rfl ?_
  refine g_iload_n m190_1407 rfl ?_
  refine g_iconst m190_1408 ?_
  refine g_iadd (u := (1 : Int32)) m190_1409 (by decide) ?_
  refine g_iald (x := s1) m190_1410 rfl (vin rfl) rfl ?_
  refine g_cv (args := [.int _]) (rest := []) m190_1411 (Nat.le_of_ble_eq_true rfl) rfl rfl rfl (Nat.le_of_ble_eq_true rfl) ?_
  refine wp_in (L := [some (.ref 32), some (.int _)]) (Nat.le_of_ble_eq_true rfl) rfl ?_
  refine g_iload_n m105_0 rfl ?_
  refine g_iconst m105_1 ?_
  refine g_ic_lt m105_2 (fun c1 => ?_) (fun c1 => ?_)
  · have d2 : (s1).toInt < 1 := (lt_k (by rfl) (by rfl)).mp c1
    refine g_aload_n m105_10 rfl ?_
    refine g_iconst m105_11 ?_
    refine g_cv (args := [.int (1)]) (rest := []) m105_12 (Nat.le_of_ble_eq_true rfl) rfl rfl rfl (Nat.le_of_ble_eq_true rfl) ?_
    refine wp_in (L := [some (.ref 32), some (.int (1))]) (Nat.le_of_ble_eq_true rfl) rfl ?_
    refine g_aload_n m55_0 rfl ?_
    refine g_gf m55_1 rfl rfl ?_
    refine g_iload_n m55_4 rfl ?_
    refine g_dup2 m55_5 rfl rfl ?_
    refine g_iald (x := (0 : Int32)) m55_6 rfl (vin rfl) rfl ?_
    refine g_iconst m55_7 ?_
    refine g_iadd (u := (1 : Int32)) m55_8 (by decide) ?_
    refine g_iast m55_9 (Nat.le_of_ble_eq_true rfl) rfl (vin rfl) rfl rfl rfl ?_
    refine g_ldcw m55_10 ?_
    refine g_iload_n m55_13 rfl ?_
    refine g_isub (u := (-1000000001 : Int32)) m55_14 (by decide) ?_
    refine g_iret m55_15 rfl ?_
    refine gwst (st' := [.int (-1000000001)]) rfl ?_
    refine g_iret m105_15 rfl ?_
    refine gwst (st' := [.int (-1000000001)]) rfl ?_
    refine FRg rfl (fun f => ?_)
    refine g_aload_n m190_1414 rfl ?_
    refine g_aload_n m190_1415 rfl ?_
    refine g_iload_n m190_1416 rfl ?_
    refine g_iconst m190_1417 ?_
    refine g_iadd (u := (1 : Int32)) m190_1418 (by decide) ?_
    refine g_iald (x := s1) m190_1419 rfl (vin rfl) rfl ?_
    refine g_cv (args := [.int _]) (rest := [.int (-1000000001)]) m190_1420 (Nat.le_of_ble_eq_true rfl) rfl rfl rfl (Nat.le_of_ble_eq_true rfl) ?_
    refine wp_in (L := [some (.ref 89), some (.int _)]) (Nat.le_of_ble_eq_true rfl) rfl ?_
    refine g_iload_n m189_0 rfl ?_
    refine g_iconst m189_1 ?_
    refine g_iconst m189_2 ?_
    refine g_cs (args := [.int _, .int (1), .int (5)]) (rest := []) 0 (Or.inl rfl) m189_3 (Nat.le_of_ble_eq_true rfl) rfl rfl (Nat.le_of_ble_eq_true rfl) ?_
    refine wp_in (L := [some (.int _), some (.int (1)), some (.int (5))]) (Nat.le_of_ble_eq_true rfl) rfl ?_
    refine g_iload_n m107_0 rfl ?_
    refine g_iload_n m107_1 rfl ?_
    refine g_ic_ltT m107_2 ((lt_k (a := (s1).toInt) (b := 1) (by rfl) (by rfl)).mpr (by omega)) ?_
    refine g_iconst m107_14 ?_
    refine g_zret m107_15 rfl (Or.inl rfl) ?_
    refine gwst (st' := [.int (0)]) rfl ?_
    refine g_if_eqT m189_6 (by decide) ?_
    refine g_aload_n m189_18 rfl ?_
    refine g_ldci m189_19 rfl ?_
    refine g_cv (args := [.int (-1000000001)]) (rest := []) m189_21 (Nat.le_of_ble_eq_true rfl) rfl rfl rfl (Nat.le_of_ble_eq_true rfl) ?_
    refine wp_in (L := [some (.ref 89), some (.int (-1000000001))]) (Nat.le_of_ble_eq_true rfl) rfl ?_
    refine g_aload_n m108_0 rfl ?_
    refine g_gf m108_1 rfl rfl ?_
    refine g_ldci m108_4 rfl ?_
    refine g_iload_n m108_6 rfl ?_
    refine g_isub (u := (1 : Int32)) m108_7 (by decide) ?_
    refine g_dup2 m108_8 rfl rfl ?_
    refine g_iald (x := (0 : Int32)) m108_9 rfl (vin rfl) rfl ?_
    refine g_iconst m108_10 ?_
    refine g_iadd (u := (1 : Int32)) m108_11 (by decide) ?_
    refine g_iast m108_12 (Nat.le_of_ble_eq_true rfl) rfl (vin rfl) rfl rfl rfl ?_
    refine g_iload_n m108_13 rfl ?_
    refine g_iret m108_14 rfl ?_
    refine gwst (st' := [.int (-1000000001)]) rfl ?_
    refine g_iret m189_24 rfl ?_
    refine gwst (st' := [.int (-1000000001), .int (-1000000001)]) rfl ?_
    refine g_ic_eqT m190_1423 (by decide) ?_
    refine g_iinc (x2 := (6 : Int32)) (L2 := [some (.ref 0), some (.ref 32), some (.ref 89), some (.int (6))]) m190_1428 rfl (by decide) rfl rfl ?_
    refine g_goto m190_1431 ?_
    refine g_iload_n m190_18 rfl ?_
    refine g_aload_n m190_19 rfl ?_
    refine g_alen (n := 6) m190_20 rfl (Or.inl rfl) rfl ?_
    refine g_bipush m190_21 ?_
    refine g_isub (u := (0 : Int32)) m190_23 (by decide) ?_
    refine g_ic_gtT m190_24 (by decide) ?_
    refine g_iconst m190_1434 ?_
    refine g_zret m190_1435 rfl (Or.inr rfl) ?_
    exact rfl
  · have d2 : ¬ ((s1).toInt < 1) := fun q => c1 ((lt_k (by rfl) (by rfl)).mpr q)
    refine g_iload_n m105_5 rfl ?_
    refine g_iconst m105_6 ?_
    refine g_ic_le m105_7 (fun c3 => ?_) (fun c3 => ?_)
    · have d4 : (s1).toInt ≤ 5 := (le_k (by rfl) (by rfl)).mp c3
      refine g_aload_n m105_16 rfl ?_
      refine g_gf m105_17 rfl rfl ?_
      refine g_iload_n m105_20 rfl ?_
      obtain ⟨j5, e6, x7⟩ := nat_of (x := s1) (lo := 1) (hi := 5) (by omega) (by omega)
      rcases (show j5 = 1 ∨ j5 = 2 ∨ j5 = 3 ∨ j5 = 4 ∨ j5 = 5 by omega) with rfl | rfl | rfl | rfl | rfl
      · have x7q : s1 = (1 : Int32) := x7
        clear x7
        subst x7q
        refine g_iald (x := (0 : Int32)) m105_21 rfl (vin rfl) rfl ?_
        refine g_iret m105_22 rfl ?_
        refine gwst (st' := [.int (0)]) rfl ?_
        refine FRg rfl (fun f => ?_)
        refine g_aload_n m190_1414 rfl ?_
        refine g_aload_n m190_1415 rfl ?_
        refine g_iload_n m190_1416 rfl ?_
        refine g_iconst m190_1417 ?_
        refine g_iadd (u := (1 : Int32)) m190_1418 (by decide) ?_
        refine g_iald (x := (1 : Int32)) m190_1419 rfl (vin rfl) rfl ?_
        refine g_cv (args := [.int (1)]) (rest := [.int (0)]) m190_1420 (Nat.le_of_ble_eq_true rfl) rfl rfl rfl (Nat.le_of_ble_eq_true rfl) ?_
        refine wp_in (L := [some (.ref 89), some (.int (1))]) (Nat.le_of_ble_eq_true rfl) rfl ?_
        refine g_iload_n m189_0 rfl ?_
        refine g_iconst m189_1 ?_
        refine g_iconst m189_2 ?_
        refine g_cs (args := [.int (1), .int (1), .int (5)]) (rest := []) 0 (Or.inl rfl) m189_3 (Nat.le_of_ble_eq_true rfl) rfl rfl (Nat.le_of_ble_eq_true rfl) ?_
        refine wp_in (L := [some (.int (1)), some (.int (1)), some (.int (5))]) (Nat.le_of_ble_eq_true rfl) rfl ?_
        refine g_iload_n m107_0 rfl ?_
        refine g_iload_n m107_1 rfl ?_
        refine g_ic_ltF m107_2 (by decide) ?_
        refine g_iload_n m107_5 rfl ?_
        refine g_iload_n m107_6 rfl ?_
        refine g_ic_gtF m107_7 (by decide) ?_
        refine g_iconst m107_10 ?_
        refine g_goto m107_11 ?_
        refine g_zret m107_15 rfl (Or.inr rfl) ?_
        refine gwst (st' := [.int (1)]) rfl ?_
        refine g_if_eqF m189_6 (by decide) ?_
        refine g_aload_n m189_9 rfl ?_
        refine g_gf m189_10 rfl rfl ?_
        refine g_iload_n m189_13 rfl ?_
        refine g_iald (x := (0 : Int32)) m189_14 rfl (vin rfl) rfl ?_
        refine g_goto m189_15 ?_
        refine g_iret m189_24 rfl ?_
        refine gwst (st' := [.int (0), .int (0)]) rfl ?_
        refine g_ic_eqT m190_1423 (by decide) ?_
        refine g_iinc (x2 := (6 : Int32)) (L2 := [some (.ref 0), some (.ref 32), some (.ref 89), some (.int (6))]) m190_1428 rfl (by decide) rfl rfl ?_
        refine g_goto m190_1431 ?_
        refine g_iload_n m190_18 rfl ?_
        refine g_aload_n m190_19 rfl ?_
        refine g_alen (n := 6) m190_20 rfl (Or.inl rfl) rfl ?_
        refine g_bipush m190_21 ?_
        refine g_isub (u := (0 : Int32)) m190_23 (by decide) ?_
        refine g_ic_gtT m190_24 (by decide) ?_
        refine g_iconst m190_1434 ?_
        refine g_zret m190_1435 rfl (Or.inr rfl) ?_
        exact rfl
      · have x7q : s1 = (2 : Int32) := x7
        clear x7
        subst x7q
        refine g_iald (x := (0 : Int32)) m105_21 rfl (vin rfl) rfl ?_
        refine g_iret m105_22 rfl ?_
        refine gwst (st' := [.int (0)]) rfl ?_
        refine FRg rfl (fun f => ?_)
        refine g_aload_n m190_1414 rfl ?_
        refine g_aload_n m190_1415 rfl ?_
        refine g_iload_n m190_1416 rfl ?_
        refine g_iconst m190_1417 ?_
        refine g_iadd (u := (1 : Int32)) m190_1418 (by decide) ?_
        refine g_iald (x := (2 : Int32)) m190_1419 rfl (vin rfl) rfl ?_
        refine g_cv (args := [.int (2)]) (rest := [.int (0)]) m190_1420 (Nat.le_of_ble_eq_true rfl) rfl rfl rfl (Nat.le_of_ble_eq_true rfl) ?_
        refine wp_in (L := [some (.ref 89), some (.int (2))]) (Nat.le_of_ble_eq_true rfl) rfl ?_
        refine g_iload_n m189_0 rfl ?_
        refine g_iconst m189_1 ?_
        refine g_iconst m189_2 ?_
        refine g_cs (args := [.int (2), .int (1), .int (5)]) (rest := []) 0 (Or.inl rfl) m189_3 (Nat.le_of_ble_eq_true rfl) rfl rfl (Nat.le_of_ble_eq_true rfl) ?_
        refine wp_in (L := [some (.int (2)), some (.int (1)), some (.int (5))]) (Nat.le_of_ble_eq_true rfl) rfl ?_
        refine g_iload_n m107_0 rfl ?_
        refine g_iload_n m107_1 rfl ?_
        refine g_ic_ltF m107_2 (by decide) ?_
        refine g_iload_n m107_5 rfl ?_
        refine g_iload_n m107_6 rfl ?_
        refine g_ic_gtF m107_7 (by decide) ?_
        refine g_iconst m107_10 ?_
        refine g_goto m107_11 ?_
        refine g_zret m107_15 rfl (Or.inr rfl) ?_
        refine gwst (st' := [.int (1)]) rfl ?_
        refine g_if_eqF m189_6 (by decide) ?_
        refine g_aload_n m189_9 rfl ?_
        refine g_gf m189_10 rfl rfl ?_
        refine g_iload_n m189_13 rfl ?_
        refine g_iald (x := (0 : Int32)) m189_14 rfl (vin rfl) rfl ?_
        refine g_goto m189_15 ?_
        refine g_iret m189_24 rfl ?_
        refine gwst (st' := [.int (0), .int (0)]) rfl ?_
        refine g_ic_eqT m190_1423 (by decide) ?_
        refine g_iinc (x2 := (6 : Int32)) (L2 := [some (.ref 0), some (.ref 32), some (.ref 89), some (.int (6))]) m190_1428 rfl (by decide) rfl rfl ?_
        refine g_goto m190_1431 ?_
        refine g_iload_n m190_18 rfl ?_
        refine g_aload_n m190_19 rfl ?_
        refine g_alen (n := 6) m190_20 rfl (Or.inl rfl) rfl ?_
        refine g_bipush m190_21 ?_
        refine g_isub (u := (0 : Int32)) m190_23 (by decide) ?_
        refine g_ic_gtT m190_24 (by decide) ?_
        refine g_iconst m190_1434 ?_
        refine g_zret m190_1435 rfl (Or.inr rfl) ?_
        exact rfl
      · have x7q : s1 = (3 : Int32) := x7
        clear x7
        subst x7q
        refine g_iald (x := (0 : Int32)) m105_21 rfl (vin rfl) rfl ?_
        refine g_iret m105_22 rfl ?_
        refine gwst (st' := [.int (0)]) rfl ?_
        refine FRg rfl (fun f => ?_)
        refine g_aload_n m190_1414 rfl ?_
        refine g_aload_n m190_1415 rfl ?_
        refine g_iload_n m190_1416 rfl ?_
        refine g_iconst m190_1417 ?_
        refine g_iadd (u := (1 : Int32)) m190_1418 (by decide) ?_
        refine g_iald (x := (3 : Int32)) m190_1419 rfl (vin rfl) rfl ?_
        refine g_cv (args := [.int (3)]) (rest := [.int (0)]) m190_1420 (Nat.le_of_ble_eq_true rfl) rfl rfl rfl (Nat.le_of_ble_eq_true rfl) ?_
        refine wp_in (L := [some (.ref 89), some (.int (3))]) (Nat.le_of_ble_eq_true rfl) rfl ?_
        refine g_iload_n m189_0 rfl ?_
        refine g_iconst m189_1 ?_
        refine g_iconst m189_2 ?_
        refine g_cs (args := [.int (3), .int (1), .int (5)]) (rest := []) 0 (Or.inl rfl) m189_3 (Nat.le_of_ble_eq_true rfl) rfl rfl (Nat.le_of_ble_eq_true rfl) ?_
        refine wp_in (L := [some (.int (3)), some (.int (1)), some (.int (5))]) (Nat.le_of_ble_eq_true rfl) rfl ?_
        refine g_iload_n m107_0 rfl ?_
        refine g_iload_n m107_1 rfl ?_
        refine g_ic_ltF m107_2 (by decide) ?_
        refine g_iload_n m107_5 rfl ?_
        refine g_iload_n m107_6 rfl ?_
        refine g_ic_gtF m107_7 (by decide) ?_
        refine g_iconst m107_10 ?_
        refine g_goto m107_11 ?_
        refine g_zret m107_15 rfl (Or.inr rfl) ?_
        refine gwst (st' := [.int (1)]) rfl ?_
        refine g_if_eqF m189_6 (by decide) ?_
        refine g_aload_n m189_9 rfl ?_
        refine g_gf m189_10 rfl rfl ?_
        refine g_iload_n m189_13 rfl ?_
        refine g_iald (x := (0 : Int32)) m189_14 rfl (vin rfl) rfl ?_
        refine g_goto m189_15 ?_
        refine g_iret m189_24 rfl ?_
        refine gwst (st' := [.int (0), .int (0)]) rfl ?_
        refine g_ic_eqT m190_1423 (by decide) ?_
        refine g_iinc (x2 := (6 : Int32)) (L2 := [some (.ref 0), some (.ref 32), some (.ref 89), some (.int (6))]) m190_1428 rfl (by decide) rfl rfl ?_
        refine g_goto m190_1431 ?_
        refine g_iload_n m190_18 rfl ?_
        refine g_aload_n m190_19 rfl ?_
        refine g_alen (n := 6) m190_20 rfl (Or.inl rfl) rfl ?_
        refine g_bipush m190_21 ?_
        refine g_isub (u := (0 : Int32)) m190_23 (by decide) ?_
        refine g_ic_gtT m190_24 (by decide) ?_
        refine g_iconst m190_1434 ?_
        refine g_zret m190_1435 rfl (Or.inr rfl) ?_
        exact rfl
      · have x7q : s1 = (4 : Int32) := x7
        clear x7
        subst x7q
        refine g_iald (x := (0 : Int32)) m105_21 rfl (vin rfl) rfl ?_
        refine g_iret m105_22 rfl ?_
        refine gwst (st' := [.int (0)]) rfl ?_
        refine FRg rfl (fun f => ?_)
        refine g_aload_n m190_1414 rfl ?_
        refine g_aload_n m190_1415 rfl ?_
        refine g_iload_n m190_1416 rfl ?_
        refine g_iconst m190_1417 ?_
        refine g_iadd (u := (1 : Int32)) m190_1418 (by decide) ?_
        refine g_iald (x := (4 : Int32)) m190_1419 rfl (vin rfl) rfl ?_
        refine g_cv (args := [.int (4)]) (rest := [.int (0)]) m190_1420 (Nat.le_of_ble_eq_true rfl) rfl rfl rfl (Nat.le_of_ble_eq_true rfl) ?_
        refine wp_in (L := [some (.ref 89), some (.int (4))]) (Nat.le_of_ble_eq_true rfl) rfl ?_
        refine g_iload_n m189_0 rfl ?_
        refine g_iconst m189_1 ?_
        refine g_iconst m189_2 ?_
        refine g_cs (args := [.int (4), .int (1), .int (5)]) (rest := []) 0 (Or.inl rfl) m189_3 (Nat.le_of_ble_eq_true rfl) rfl rfl (Nat.le_of_ble_eq_true rfl) ?_
        refine wp_in (L := [some (.int (4)), some (.int (1)), some (.int (5))]) (Nat.le_of_ble_eq_true rfl) rfl ?_
        refine g_iload_n m107_0 rfl ?_
        refine g_iload_n m107_1 rfl ?_
        refine g_ic_ltF m107_2 (by decide) ?_
        refine g_iload_n m107_5 rfl ?_
        refine g_iload_n m107_6 rfl ?_
        refine g_ic_gtF m107_7 (by decide) ?_
        refine g_iconst m107_10 ?_
        refine g_goto m107_11 ?_
        refine g_zret m107_15 rfl (Or.inr rfl) ?_
        refine gwst (st' := [.int (1)]) rfl ?_
        refine g_if_eqF m189_6 (by decide) ?_
        refine g_aload_n m189_9 rfl ?_
        refine g_gf m189_10 rfl rfl ?_
        refine g_iload_n m189_13 rfl ?_
        refine g_iald (x := (0 : Int32)) m189_14 rfl (vin rfl) rfl ?_
        refine g_goto m189_15 ?_
        refine g_iret m189_24 rfl ?_
        refine gwst (st' := [.int (0), .int (0)]) rfl ?_
        refine g_ic_eqT m190_1423 (by decide) ?_
        refine g_iinc (x2 := (6 : Int32)) (L2 := [some (.ref 0), some (.ref 32), some (.ref 89), some (.int (6))]) m190_1428 rfl (by decide) rfl rfl ?_
        refine g_goto m190_1431 ?_
        refine g_iload_n m190_18 rfl ?_
        refine g_aload_n m190_19 rfl ?_
        refine g_alen (n := 6) m190_20 rfl (Or.inl rfl) rfl ?_
        refine g_bipush m190_21 ?_
        refine g_isub (u := (0 : Int32)) m190_23 (by decide) ?_
        refine g_ic_gtT m190_24 (by decide) ?_
        refine g_iconst m190_1434 ?_
        refine g_zret m190_1435 rfl (Or.inr rfl) ?_
        exact rfl
      · have x7q : s1 = (5 : Int32) := x7
        clear x7
        subst x7q
        refine g_iald (x := (0 : Int32)) m105_21 rfl (vin rfl) rfl ?_
        refine g_iret m105_22 rfl ?_
        refine gwst (st' := [.int (0)]) rfl ?_
        refine FRg rfl (fun f => ?_)
        refine g_aload_n m190_1414 rfl ?_
        refine g_aload_n m190_1415 rfl ?_
        refine g_iload_n m190_1416 rfl ?_
        refine g_iconst m190_1417 ?_
        refine g_iadd (u := (1 : Int32)) m190_1418 (by decide) ?_
        refine g_iald (x := (5 : Int32)) m190_1419 rfl (vin rfl) rfl ?_
        refine g_cv (args := [.int (5)]) (rest := [.int (0)]) m190_1420 (Nat.le_of_ble_eq_true rfl) rfl rfl rfl (Nat.le_of_ble_eq_true rfl) ?_
        refine wp_in (L := [some (.ref 89), some (.int (5))]) (Nat.le_of_ble_eq_true rfl) rfl ?_
        refine g_iload_n m189_0 rfl ?_
        refine g_iconst m189_1 ?_
        refine g_iconst m189_2 ?_
        refine g_cs (args := [.int (5), .int (1), .int (5)]) (rest := []) 0 (Or.inl rfl) m189_3 (Nat.le_of_ble_eq_true rfl) rfl rfl (Nat.le_of_ble_eq_true rfl) ?_
        refine wp_in (L := [some (.int (5)), some (.int (1)), some (.int (5))]) (Nat.le_of_ble_eq_true rfl) rfl ?_
        refine g_iload_n m107_0 rfl ?_
        refine g_iload_n m107_1 rfl ?_
        refine g_ic_ltF m107_2 (by decide) ?_
        refine g_iload_n m107_5 rfl ?_
        refine g_iload_n m107_6 rfl ?_
        refine g_ic_gtF m107_7 (by decide) ?_
        refine g_iconst m107_10 ?_
        refine g_goto m107_11 ?_
        refine g_zret m107_15 rfl (Or.inr rfl) ?_
        refine gwst (st' := [.int (1)]) rfl ?_
        refine g_if_eqF m189_6 (by decide) ?_
        refine g_aload_n m189_9 rfl ?_
        refine g_gf m189_10 rfl rfl ?_
        refine g_iload_n m189_13 rfl ?_
        refine g_iald (x := (0 : Int32)) m189_14 rfl (vin rfl) rfl ?_
        refine g_goto m189_15 ?_
        refine g_iret m189_24 rfl ?_
        refine gwst (st' := [.int (0), .int (0)]) rfl ?_
        refine g_ic_eqT m190_1423 (by decide) ?_
        refine g_iinc (x2 := (6 : Int32)) (L2 := [some (.ref 0), some (.ref 32), some (.ref 89), some (.int (6))]) m190_1428 rfl (by decide) rfl rfl ?_
        refine g_goto m190_1431 ?_
        refine g_iload_n m190_18 rfl ?_
        refine g_aload_n m190_19 rfl ?_
        refine g_alen (n := 6) m190_20 rfl (Or.inl rfl) rfl ?_
        refine g_bipush m190_21 ?_
        refine g_isub (u := (0 : Int32)) m190_23 (by decide) ?_
        refine g_ic_gtT m190_24 (by decide) ?_
        refine g_iconst m190_1434 ?_
        refine g_zret m190_1435 rfl (Or.inr rfl) ?_
        exact rfl
    · have d4 : ¬ ((s1).toInt ≤ 5) := fun q => c3 ((le_k (by rfl) (by rfl)).mpr q)
      refine g_aload_n m105_10 rfl ?_
      refine g_iconst m105_11 ?_
      refine g_cv (args := [.int (1)]) (rest := []) m105_12 (Nat.le_of_ble_eq_true rfl) rfl rfl rfl (Nat.le_of_ble_eq_true rfl) ?_
      refine wp_in (L := [some (.ref 32), some (.int (1))]) (Nat.le_of_ble_eq_true rfl) rfl ?_
      refine g_aload_n m55_0 rfl ?_
      refine g_gf m55_1 rfl rfl ?_
      refine g_iload_n m55_4 rfl ?_
      refine g_dup2 m55_5 rfl rfl ?_
      refine g_iald (x := (0 : Int32)) m55_6 rfl (vin rfl) rfl ?_
      refine g_iconst m55_7 ?_
      refine g_iadd (u := (1 : Int32)) m55_8 (by decide) ?_
      refine g_iast m55_9 (Nat.le_of_ble_eq_true rfl) rfl (vin rfl) rfl rfl rfl ?_
      refine g_ldcw m55_10 ?_
      refine g_iload_n m55_13 rfl ?_
      refine g_isub (u := (-1000000001 : Int32)) m55_14 (by decide) ?_
      refine g_iret m55_15 rfl ?_
      refine gwst (st' := [.int (-1000000001)]) rfl ?_
      refine g_iret m105_15 rfl ?_
      refine gwst (st' := [.int (-1000000001)]) rfl ?_
      refine FRg rfl (fun f => ?_)
      refine g_aload_n m190_1414 rfl ?_
      refine g_aload_n m190_1415 rfl ?_
      refine g_iload_n m190_1416 rfl ?_
      refine g_iconst m190_1417 ?_
      refine g_iadd (u := (1 : Int32)) m190_1418 (by decide) ?_
      refine g_iald (x := s1) m190_1419 rfl (vin rfl) rfl ?_
      refine g_cv (args := [.int _]) (rest := [.int (-1000000001)]) m190_1420 (Nat.le_of_ble_eq_true rfl) rfl rfl rfl (Nat.le_of_ble_eq_true rfl) ?_
      refine wp_in (L := [some (.ref 89), some (.int _)]) (Nat.le_of_ble_eq_true rfl) rfl ?_
      refine g_iload_n m189_0 rfl ?_
      refine g_iconst m189_1 ?_
      refine g_iconst m189_2 ?_
      refine g_cs (args := [.int _, .int (1), .int (5)]) (rest := []) 0 (Or.inl rfl) m189_3 (Nat.le_of_ble_eq_true rfl) rfl rfl (Nat.le_of_ble_eq_true rfl) ?_
      refine wp_in (L := [some (.int _), some (.int (1)), some (.int (5))]) (Nat.le_of_ble_eq_true rfl) rfl ?_
      refine g_iload_n m107_0 rfl ?_
      refine g_iload_n m107_1 rfl ?_
      refine g_ic_ltF m107_2 (fun q => absurd ((lt_k (a := (s1).toInt) (b := 1) (by rfl) (by rfl)).mp q) (by omega)) ?_
      refine g_iload_n m107_5 rfl ?_
      refine g_iload_n m107_6 rfl ?_
      refine g_ic_gtT m107_7 ((lt_k (a := 5) (b := (s1).toInt) (by rfl) (by rfl)).mpr (by omega)) ?_
      refine g_iconst m107_14 ?_
      refine g_zret m107_15 rfl (Or.inl rfl) ?_
      refine gwst (st' := [.int (0)]) rfl ?_
      refine g_if_eqT m189_6 (by decide) ?_
      refine g_aload_n m189_18 rfl ?_
      refine g_ldci m189_19 rfl ?_
      refine g_cv (args := [.int (-1000000001)]) (rest := []) m189_21 (Nat.le_of_ble_eq_true rfl) rfl rfl rfl (Nat.le_of_ble_eq_true rfl) ?_
      refine wp_in (L := [some (.ref 89), some (.int (-1000000001))]) (Nat.le_of_ble_eq_true rfl) rfl ?_
      refine g_aload_n m108_0 rfl ?_
      refine g_gf m108_1 rfl rfl ?_
      refine g_ldci m108_4 rfl ?_
      refine g_iload_n m108_6 rfl ?_
      refine g_isub (u := (1 : Int32)) m108_7 (by decide) ?_
      refine g_dup2 m108_8 rfl rfl ?_
      refine g_iald (x := (0 : Int32)) m108_9 rfl (vin rfl) rfl ?_
      refine g_iconst m108_10 ?_
      refine g_iadd (u := (1 : Int32)) m108_11 (by decide) ?_
      refine g_iast m108_12 (Nat.le_of_ble_eq_true rfl) rfl (vin rfl) rfl rfl rfl ?_
      refine g_iload_n m108_13 rfl ?_
      refine g_iret m108_14 rfl ?_
      refine gwst (st' := [.int (-1000000001)]) rfl ?_
      refine g_iret m189_24 rfl ?_
      refine gwst (st' := [.int (-1000000001), .int (-1000000001)]) rfl ?_
      refine g_ic_eqT m190_1423 (by decide) ?_
      refine g_iinc (x2 := (6 : Int32)) (L2 := [some (.ref 0), some (.ref 32), some (.ref 89), some (.int (6))]) m190_1428 rfl (by decide) rfl rfl ?_
      refine g_goto m190_1431 ?_
      refine g_iload_n m190_18 rfl ?_
      refine g_aload_n m190_19 rfl ?_
      refine g_alen (n := 6) m190_20 rfl (Or.inl rfl) rfl ?_
      refine g_bipush m190_21 ?_
      refine g_isub (u := (0 : Int32)) m190_23 (by decide) ?_
      refine g_ic_gtT m190_24 (by decide) ?_
      refine g_iconst m190_1434 ?_
      refine g_zret m190_1435 rfl (Or.inr rfl) ?_
      exact rfl
