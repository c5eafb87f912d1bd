/-! THE LAW'S CASES 3, 4, over two new objects -/
set_option maxRecDepth 20000 in
set_option maxHeartbeats 40000000 in
theorem lc_3 {s0 s1 s2 s3 s4 s5 : Int32} {d mc ms : Nat} : gw [s0, s1, s2, s3, s4, s5] (WP [s0, s1, s2, s3, s4, s5] (d + 20)) 190 (fun r _ => r = some (.int 1)) 287 [some (.ref 0), some (.ref 32), some (.ref 89), some (.int 0)] [] (hX0 ++ hM0) mc ms := by
  refine g_aload_n m190_287 rfl ?_
  refine g_aload_n m190_288 rfl ?_
  refine g_iload_n m190_289 rfl ?_
  refine g_iconst m190_290 ?_
  refine g_iadd (u := (1 : Int32)) m190_291 (by decide) ?_
  refine g_iald (x := s1) m190_292 rfl (vin rfl) rfl ?_
  refine g_aload_n m190_293 rfl ?_
  refine g_iload_n m190_294 rfl ?_
  refine g_iconst m190_295 ?_
  refine g_iadd (u := (2 : Int32)) m190_296 (by decide) ?_
  refine g_iald (x := s2) m190_297 rfl (vin rfl) rfl ?_
  refine g_aload_n m190_298 rfl ?_
  refine g_iload_n m190_299 rfl ?_
  refine g_iconst m190_300 ?_
  refine g_iadd (u := (3 : Int32)) m190_301 (by decide) ?_
  refine g_iald (x := s3) m190_302 rfl (vin rfl) rfl ?_
  refine g_cv (args := [.int _, .int _, .int _]) (rest := []) m190_303 (Nat.le_of_ble_eq_true rfl) rfl rfl rfl (Nat.le_of_ble_eq_true rfl) ?_
  refine wp_in (L := [some (.ref 32), some (.int _), some (.int _), some (.int _), none]) (Nat.le_of_ble_eq_true rfl) rfl ?_
  refine g_iload_n m59_0 rfl ?_
  refine g_bipush m59_1 ?_
  refine g_cs (args := [.int _, .int (69)]) (rest := []) 0 (Or.inl rfl) m59_3 (Nat.le_of_ble_eq_true rfl) rfl rfl (Nat.le_of_ble_eq_true rfl) ?_
  refine wp_in (L := [some (.int _), some (.int (69))]) (Nat.le_of_ble_eq_true rfl) rfl ?_
  refine g_iload_n m54_0 rfl ?_
  refine g_if_lt m54_1 (fun c1 => ?_) (fun c1 => ?_)
  · have d2 : (s1).toInt < 0 := (lt_k (by rfl) (by rfl)).mp c1
    refine g_iconst m54_13 ?_
    refine g_zret m54_14 rfl (Or.inl rfl) ?_
    refine gwst (st' := [.int (0)]) rfl ?_
    refine g_if_eqT m59_6 (by decide) ?_
    refine g_aload_n m59_27 rfl ?_
    refine g_iconst m59_28 ?_
    refine g_cv (args := [.int (1)]) (rest := []) m59_29 (Nat.le_of_ble_eq_true rfl) rfl rfl rfl (Nat.le_of_ble_eq_true rfl) ?_
    refine wp_in (L := [some (.ref 32), some (.int (1))]) (Nat.le_of_ble_eq_true rfl) rfl ?_
    refine g_aload_n m55_0 rfl ?_
    refine g_gf m55_1 rfl rfl ?_
    refine g_iload_n m55_4 rfl ?_
    refine g_dup2 m55_5 rfl rfl ?_
    refine g_iald (x := (0 : Int32)) m55_6 rfl (vin rfl) rfl ?_
    refine g_iconst m55_7 ?_
    refine g_iadd (u := (1 : Int32)) m55_8 (by decide) ?_
    refine g_iast m55_9 (Nat.le_of_ble_eq_true rfl) rfl (vin rfl) rfl rfl rfl ?_
    refine g_ldcw m55_10 ?_
    refine g_iload_n m55_13 rfl ?_
    refine g_isub (u := (-1000000001 : Int32)) m55_14 (by decide) ?_
    refine g_iret m55_15 rfl ?_
    refine gwst (st' := [.int (-1000000001)]) rfl ?_
    refine g_iret m59_32 rfl ?_
    refine gwst (st' := [.int (-1000000001)]) rfl ?_
    refine FRg rfl (fun f => ?_)
    refine g_aload_n m190_306 rfl ?_
    refine g_aload_n m190_307 rfl ?_
    refine g_iload_n m190_308 rfl ?_
    refine g_iconst m190_309 ?_
    refine g_iadd (u := (1 : Int32)) m190_310 (by decide) ?_
    refine g_iald (x := s1) m190_311 rfl (vin rfl) rfl ?_
    refine g_aload_n m190_312 rfl ?_
    refine g_iload_n m190_313 rfl ?_
    refine g_iconst m190_314 ?_
    refine g_iadd (u := (2 : Int32)) m190_315 (by decide) ?_
    refine g_iald (x := s2) m190_316 rfl (vin rfl) rfl ?_
    refine g_aload_n m190_317 rfl ?_
    refine g_iload_n m190_318 rfl ?_
    refine g_iconst m190_319 ?_
    refine g_iadd (u := (3 : Int32)) m190_320 (by decide) ?_
    refine g_iald (x := s3) m190_321 rfl (vin rfl) rfl ?_
    refine g_cv (args := [.int _, .int _, .int _]) (rest := [.int (-1000000001)]) m190_322 (Nat.le_of_ble_eq_true rfl) rfl rfl rfl (Nat.le_of_ble_eq_true rfl) ?_
    refine wp_in (L := [some (.ref 89), some (.int _), some (.int _), some (.int _), none]) (Nat.le_of_ble_eq_true rfl) rfl ?_
    refine g_iload_n m118_0 rfl ?_
    refine g_iconst m118_1 ?_
    refine g_bipush m118_2 ?_
    refine g_cs (args := [.int _, .int (0), .int (69)]) (rest := []) 0 (Or.inl rfl) m118_4 (Nat.le_of_ble_eq_true rfl) rfl rfl (Nat.le_of_ble_eq_true rfl) ?_
    refine wp_in (L := [some (.int _), some (.int (0)), some (.int (69))]) (Nat.le_of_ble_eq_true rfl) rfl ?_
    refine g_iload_n m107_0 rfl ?_
    refine g_iload_n m107_1 rfl ?_
    refine g_ic_ltT m107_2 ((lt_k (a := (s1).toInt) (b := 0) (by rfl) (by rfl)).mpr (by omega)) ?_
    refine g_iconst m107_14 ?_
    refine g_zret m107_15 rfl (Or.inl rfl) ?_
    refine gwst (st' := [.int (0)]) rfl ?_
    refine g_if_eqT m118_7 (by decide) ?_
    refine g_aload_n m118_30 rfl ?_
    refine g_ldci m118_31 rfl ?_
    refine g_cv (args := [.int (-1000000001)]) (rest := []) m118_33 (Nat.le_of_ble_eq_true rfl) rfl rfl rfl (Nat.le_of_ble_eq_true rfl) ?_
    refine wp_in (L := [some (.ref 89), some (.int (-1000000001))]) (Nat.le_of_ble_eq_true rfl) rfl ?_
    refine g_aload_n m108_0 rfl ?_
    refine g_gf m108_1 rfl rfl ?_
    refine g_ldci m108_4 rfl ?_
    refine g_iload_n m108_6 rfl ?_
    refine g_isub (u := (1 : Int32)) m108_7 (by decide) ?_
    refine g_dup2 m108_8 rfl rfl ?_
    refine g_iald (x := (0 : Int32)) m108_9 rfl (vin rfl) rfl ?_
    refine g_iconst m108_10 ?_
    refine g_iadd (u := (1 : Int32)) m108_11 (by decide) ?_
    refine g_iast m108_12 (Nat.le_of_ble_eq_true rfl) rfl (vin rfl) rfl rfl rfl ?_
    refine g_iload_n m108_13 rfl ?_
    refine g_iret m108_14 rfl ?_
    refine gwst (st' := [.int (-1000000001)]) rfl ?_
    refine g_iret m118_36 rfl ?_
    refine gwst (st' := [.int (-1000000001), .int (-1000000001)]) rfl ?_
    refine g_ic_eqT m190_325 (by decide) ?_
    refine g_iinc (x2 := (6 : Int32)) (L2 := [some (.ref 0), some (.ref 32), some (.ref 89), some (.int (6))]) m190_1428 rfl (by decide) rfl rfl ?_
    refine g_goto m190_1431 ?_
    refine g_iload_n m190_18 rfl ?_
    refine g_aload_n m190_19 rfl ?_
    refine g_alen (n := 6) m190_20 rfl (Or.inl rfl) rfl ?_
    refine g_bipush m190_21 ?_
    refine g_isub (u := (0 : Int32)) m190_23 (by decide) ?_
    refine g_ic_gtT m190_24 (by decide) ?_
    refine g_iconst m190_1434 ?_
    refine g_zret m190_1435 rfl (Or.inr rfl) ?_
    exact rfl
  · have d2 : ¬ ((s1).toInt < 0) := fun q => c1 ((lt_k (by rfl) (by rfl)).mpr q)
    refine g_iload_n m54_4 rfl ?_
    refine g_iload_n m54_5 rfl ?_
    refine g_ic_gt m54_6 (fun c3 => ?_) (fun c3 => ?_)
    · have d4 : 69 < (s1).toInt := (lt_k (by rfl) (by rfl)).mp c3
      refine g_iconst m54_13 ?_
      refine g_zret m54_14 rfl (Or.inl rfl) ?_
      refine gwst (st' := [.int (0)]) rfl ?_
      refine g_if_eqT m59_6 (by decide) ?_
      refine g_aload_n m59_27 rfl ?_
      refine g_iconst m59_28 ?_
      refine g_cv (args := [.int (1)]) (rest := []) m59_29 (Nat.le_of_ble_eq_true rfl) rfl rfl rfl (Nat.le_of_ble_eq_true rfl) ?_
      refine wp_in (L := [some (.ref 32), some (.int (1))]) (Nat.le_of_ble_eq_true rfl) rfl ?_
      refine g_aload_n m55_0 rfl ?_
      refine g_gf m55_1 rfl rfl ?_
      refine g_iload_n m55_4 rfl ?_
      refine g_dup2 m55_5 rfl rfl ?_
      refine g_iald (x := (0 : Int32)) m55_6 rfl (vin rfl) rfl ?_
      refine g_iconst m55_7 ?_
      refine g_iadd (u := (1 : Int32)) m55_8 (by decide) ?_
      refine g_iast m55_9 (Nat.le_of_ble_eq_true rfl) rfl (vin rfl) rfl rfl rfl ?_
      refine g_ldcw m55_10 ?_
      refine g_iload_n m55_13 rfl ?_
      refine g_isub (u := (-1000000001 : Int32)) m55_14 (by decide) ?_
      refine g_iret m55_15 rfl ?_
      refine gwst (st' := [.int (-1000000001)]) rfl ?_
      refine g_iret m59_32 rfl ?_
      refine gwst (st' := [.int (-1000000001)]) rfl ?_
      refine FRg rfl (fun f => ?_)
      refine g_aload_n m190_306 rfl ?_
      refine g_aload_n m190_307 rfl ?_
      refine g_iload_n m190_308 rfl ?_
      refine g_iconst m190_309 ?_
      refine g_iadd (u := (1 : Int32)) m190_310 (by decide) ?_
      refine g_iald (x := s1) m190_311 rfl (vin rfl) rfl ?_
      refine g_aload_n m190_312 rfl ?_
      refine g_iload_n m190_313 rfl ?_
      refine g_iconst m190_314 ?_
      refine g_iadd (u := (2 : Int32)) m190_315 (by decide) ?_
      refine g_iald (x := s2) m190_316 rfl (vin rfl) rfl ?_
      refine g_aload_n m190_317 rfl ?_
      refine g_iload_n m190_318 rfl ?_
      refine g_iconst m190_319 ?_
      refine g_iadd (u := (3 : Int32)) m190_320 (by decide) ?_
      refine g_iald (x := s3) m190_321 rfl (vin rfl) rfl ?_
      refine g_cv (args := [.int _, .int _, .int _]) (rest := [.int (-1000000001)]) m190_322 (Nat.le_of_ble_eq_true rfl) rfl rfl rfl (Nat.le_of_ble_eq_true rfl) ?_
      refine wp_in (L := [some (.ref 89), some (.int _), some (.int _), some (.int _), none]) (Nat.le_of_ble_eq_true rfl) rfl ?_
      refine g_iload_n m118_0 rfl ?_
      refine g_iconst m118_1 ?_
      refine g_bipush m118_2 ?_
      refine g_cs (args := [.int _, .int (0), .int (69)]) (rest := []) 0 (Or.inl rfl) m118_4 (Nat.le_of_ble_eq_true rfl) rfl rfl (Nat.le_of_ble_eq_true rfl) ?_
      refine wp_in (L := [some (.int _), some (.int (0)), some (.int (69))]) (Nat.le_of_ble_eq_true rfl) rfl ?_
      refine g_iload_n m107_0 rfl ?_
      refine g_iload_n m107_1 rfl ?_
      refine g_ic_ltF m107_2 (fun q => absurd ((lt_k (a := (s1).toInt) (b := 0) (by rfl) (by rfl)).mp q) (by omega)) ?_
      refine g_iload_n m107_5 rfl ?_
      refine g_iload_n m107_6 rfl ?_
      refine g_ic_gtT m107_7 ((lt_k (a := 69) (b := (s1).toInt) (by rfl) (by rfl)).mpr (by omega)) ?_
      refine g_iconst m107_14 ?_
      refine g_zret m107_15 rfl (Or.inl rfl) ?_
      refine gwst (st' := [.int (0)]) rfl ?_
      refine g_if_eqT m118_7 (by decide) ?_
      refine g_aload_n m118_30 rfl ?_
      refine g_ldci m118_31 rfl ?_
      refine g_cv (args := [.int (-1000000001)]) (rest := []) m118_33 (Nat.le_of_ble_eq_true rfl) rfl rfl rfl (Nat.le_of_ble_eq_true rfl) ?_
      refine wp_in (L := [some (.ref 89), some (.int (-1000000001))]) (Nat.le_of_ble_eq_true rfl) rfl ?_
      refine g_aload_n m108_0 rfl ?_
      refine g_gf m108_1 rfl rfl ?_
      refine g_ldci m108_4 rfl ?_
      refine g_iload_n m108_6 rfl ?_
      refine g_isub (u := (1 : Int32)) m108_7 (by decide) ?_
      refine g_dup2 m108_8 rfl rfl ?_
      refine g_iald (x := (0 : Int32)) m108_9 rfl (vin rfl) rfl ?_
      refine g_iconst m108_10 ?_
      refine g_iadd (u := (1 : Int32)) m108_11 (by decide) ?_
      refine g_iast m108_12 (Nat.le_of_ble_eq_true rfl) rfl (vin rfl) rfl rfl rfl ?_
      refine g_iload_n m108_13 rfl ?_
      refine g_iret m108_14 rfl ?_
      refine gwst (st' := [.int (-1000000001)]) rfl ?_
      refine g_iret m118_36 rfl ?_
      refine gwst (st' := [.int (-1000000001), .int (-1000000001)]) rfl ?_
      refine g_ic_eqT m190_325 (by decide) ?_
      refine g_iinc (x2 := (6 : Int32)) (L2 := [some (.ref 0), some (.ref 32), some (.ref 89), some (.int (6))]) m190_1428 rfl (by decide) rfl rfl ?_
      refine g_goto m190_1431 ?_
      refine g_iload_n m190_18 rfl ?_
      refine g_aload_n m190_19 rfl ?_
      refine g_alen (n := 6) m190_20 rfl (Or.inl rfl) rfl ?_
      refine g_bipush m190_21 ?_
      refine g_isub (u := (0 : Int32)) m190_23 (by decide) ?_
      refine g_ic_gtT m190_24 (by decide) ?_
      refine g_iconst m190_1434 ?_
      refine g_zret m190_1435 rfl (Or.inr rfl) ?_
      exact rfl
    · have d4 : ¬ (69 < (s1).toInt) := fun q => c3 ((lt_k (by rfl) (by rfl)).mpr q)
      refine g_iconst m54_9 ?_
      refine g_goto m54_10 ?_
      refine g_zret m54_14 rfl (Or.inr rfl) ?_
      refine gwst (st' := [.int (1)]) rfl ?_
      refine g_if_eqF m59_6 (by decide) ?_
      refine g_iload_n m59_9 rfl ?_
      refine g_bipush m59_10 ?_
      refine g_cs (args := [.int _, .int (99)]) (rest := []) 0 (Or.inl rfl) m59_12 (Nat.le_of_ble_eq_true rfl) rfl rfl (Nat.le_of_ble_eq_true rfl) ?_
      refine wp_in (L := [some (.int _), some (.int (99))]) (Nat.le_of_ble_eq_true rfl) rfl ?_
      refine g_iload_n m54_0 rfl ?_
      refine g_if_lt m54_1 (fun c5 => ?_) (fun c5 => ?_)
      · have d6 : (s2).toInt < 0 := (lt_k (by rfl) (by rfl)).mp c5
        refine g_iconst m54_13 ?_
        refine g_zret m54_14 rfl (Or.inl rfl) ?_
        refine gwst (st' := [.int (0)]) rfl ?_
        refine g_if_eqT m59_15 (by decide) ?_
        refine g_aload_n m59_27 rfl ?_
        refine g_iconst m59_28 ?_
        refine g_cv (args := [.int (1)]) (rest := []) m59_29 (Nat.le_of_ble_eq_true rfl) rfl rfl rfl (Nat.le_of_ble_eq_true rfl) ?_
        refine wp_in (L := [some (.ref 32), some (.int (1))]) (Nat.le_of_ble_eq_true rfl) rfl ?_
        refine g_aload_n m55_0 rfl ?_
        refine g_gf m55_1 rfl rfl ?_
        refine g_iload_n m55_4 rfl ?_
        refine g_dup2 m55_5 rfl rfl ?_
        refine g_iald (x := (0 : Int32)) m55_6 rfl (vin rfl) rfl ?_
        refine g_iconst m55_7 ?_
        refine g_iadd (u := (1 : Int32)) m55_8 (by decide) ?_
        refine g_iast m55_9 (Nat.le_of_ble_eq_true rfl) rfl (vin rfl) rfl rfl rfl ?_
        refine g_ldcw m55_10 ?_
        refine g_iload_n m55_13 rfl ?_
        refine g_isub (u := (-1000000001 : Int32)) m55_14 (by decide) ?_
        refine g_iret m55_15 rfl ?_
        refine gwst (st' := [.int (-1000000001)]) rfl ?_
        refine g_iret m59_32 rfl ?_
        refine gwst (st' := [.int (-1000000001)]) rfl ?_
        refine FRg rfl (fun f => ?_)
        refine g_aload_n m190_306 rfl ?_
        refine g_aload_n m190_307 rfl ?_
        refine g_iload_n m190_308 rfl ?_
        refine g_iconst m190_309 ?_
        refine g_iadd (u := (1 : Int32)) m190_310 (by decide) ?_
        refine g_iald (x := s1) m190_311 rfl (vin rfl) rfl ?_
        refine g_aload_n m190_312 rfl ?_
        refine g_iload_n m190_313 rfl ?_
        refine g_iconst m190_314 ?_
        refine g_iadd (u := (2 : Int32)) m190_315 (by decide) ?_
        refine g_iald (x := s2) m190_316 rfl (vin rfl) rfl ?_
        refine g_aload_n m190_317 rfl ?_
        refine g_iload_n m190_318 rfl ?_
        refine g_iconst m190_319 ?_
        refine g_iadd (u := (3 : Int32)) m190_320 (by decide) ?_
        refine g_iald (x := s3) m190_321 rfl (vin rfl) rfl ?_
        refine g_cv (args := [.int _, .int _, .int _]) (rest := [.int (-1000000001)]) m190_322 (Nat.le_of_ble_eq_true rfl) rfl rfl rfl (Nat.le_of_ble_eq_true rfl) ?_
        refine wp_in (L := [some (.ref 89), some (.int _), some (.int _), some (.int _), none]) (Nat.le_of_ble_eq_true rfl) rfl ?_
        refine g_iload_n m118_0 rfl ?_
        refine g_iconst m118_1 ?_
        refine g_bipush m118_2 ?_
        refine g_cs (args := [.int _, .int (0), .int (69)]) (rest := []) 0 (Or.inl rfl) m118_4 (Nat.le_of_ble_eq_true rfl) rfl rfl (Nat.le_of_ble_eq_true rfl) ?_
        refine wp_in (L := [some (.int _), some (.int (0)), some (.int (69))]) (Nat.le_of_ble_eq_true rfl) rfl ?_
        refine g_iload_n m107_0 rfl ?_
        refine g_iload_n m107_1 rfl ?_
        refine g_ic_ltF m107_2 (fun q => absurd ((lt_k (a := (s1).toInt) (b := 0) (by rfl) (by rfl)).mp q) (by omega)) ?_
        refine g_iload_n m107_5 rfl ?_
        refine g_iload_n m107_6 rfl ?_
        refine g_ic_gtF m107_7 (fun q => absurd ((lt_k (a := 69) (b := (s1).toInt) (by rfl) (by rfl)).mp q) (by omega)) ?_
        refine g_iconst m107_10 ?_
        refine g_goto m107_11 ?_
        refine g_zret m107_15 rfl (Or.inr rfl) ?_
        refine gwst (st' := [.int (1)]) rfl ?_
        refine g_if_eqF m118_7 (by decide) ?_
        refine g_iload_n m118_10 rfl ?_
        refine g_iconst m118_11 ?_
        refine g_bipush m118_12 ?_
        refine g_cs (args := [.int _, .int (0), .int (99)]) (rest := []) 0 (Or.inl rfl) m118_14 (Nat.le_of_ble_eq_true rfl) rfl rfl (Nat.le_of_ble_eq_true rfl) ?_
        refine wp_in (L := [some (.int _), some (.int (0)), some (.int (99))]) (Nat.le_of_ble_eq_true rfl) rfl ?_
        refine g_iload_n m107_0 rfl ?_
        refine g_iload_n m107_1 rfl ?_
        refine g_ic_ltT m107_2 ((lt_k (a := (s2).toInt) (b := 0) (by rfl) (by rfl)).mpr (by omega)) ?_
        refine g_iconst m107_14 ?_
        refine g_zret m107_15 rfl (Or.inl rfl) ?_
        refine gwst (st' := [.int (0)]) rfl ?_
        refine g_if_eqT m118_17 (by decide) ?_
        refine g_aload_n m118_30 rfl ?_
        refine g_ldci m118_31 rfl ?_
        refine g_cv (args := [.int (-1000000001)]) (rest := []) m118_33 (Nat.le_of_ble_eq_true rfl) rfl rfl rfl (Nat.le_of_ble_eq_true rfl) ?_
        refine wp_in (L := [some (.ref 89), some (.int (-1000000001))]) (Nat.le_of_ble_eq_true rfl) rfl ?_
        refine g_aload_n m108_0 rfl ?_
        refine g_gf m108_1 rfl rfl ?_
        refine g_ldci m108_4 rfl ?_
        refine g_iload_n m108_6 rfl ?_
        refine g_isub (u := (1 : Int32)) m108_7 (by decide) ?_
        refine g_dup2 m108_8 rfl rfl ?_
        refine g_iald (x := (0 : Int32)) m108_9 rfl (vin rfl) rfl ?_
        refine g_iconst m108_10 ?_
        refine g_iadd (u := (1 : Int32)) m108_11 (by decide) ?_
        refine g_iast m108_12 (Nat.le_of_ble_eq_true rfl) rfl (vin rfl) rfl rfl rfl ?_
        refine g_iload_n m108_13 rfl ?_
        refine g_iret m108_14 rfl ?_
        refine gwst (st' := [.int (-1000000001)]) rfl ?_
        refine g_iret m118_36 rfl ?_
        refine gwst (st' := [.int (-1000000001), .int (-1000000001)]) rfl ?_
        refine g_ic_eqT m190_325 (by decide) ?_
        refine g_iinc (x2 := (6 : Int32)) (L2 := [some (.ref 0), some (.ref 32), some (.ref 89), some (.int (6))]) m190_1428 rfl (by decide) rfl rfl ?_
        refine g_goto m190_1431 ?_
        refine g_iload_n m190_18 rfl ?_
        refine g_aload_n m190_19 rfl ?_
        refine g_alen (n := 6) m190_20 rfl (Or.inl rfl) rfl ?_
        refine g_bipush m190_21 ?_
        refine g_isub (u := (0 : Int32)) m190_23 (by decide) ?_
        refine g_ic_gtT m190_24 (by decide) ?_
        refine g_iconst m190_1434 ?_
        refine g_zret m190_1435 rfl (Or.inr rfl) ?_
        exact rfl
      · have d6 : ¬ ((s2).toInt < 0) := fun q => c5 ((lt_k (by rfl) (by rfl)).mpr q)
        refine g_iload_n m54_4 rfl ?_
        refine g_iload_n m54_5 rfl ?_
        refine g_ic_gt m54_6 (fun c7 => ?_) (fun c7 => ?_)
        · have d8 : 99 < (s2).toInt := (lt_k (by rfl) (by rfl)).mp c7
          refine g_iconst m54_13 ?_
          refine g_zret m54_14 rfl (Or.inl rfl) ?_
          refine gwst (st' := [.int (0)]) rfl ?_
          refine g_if_eqT m59_15 (by decide) ?_
          refine g_aload_n m59_27 rfl ?_
          refine g_iconst m59_28 ?_
          refine g_cv (args := [.int (1)]) (rest := []) m59_29 (Nat.le_of_ble_eq_true rfl) rfl rfl rfl (Nat.le_of_ble_eq_true rfl) ?_
          refine wp_in (L := [some (.ref 32), some (.int (1))]) (Nat.le_of_ble_eq_true rfl) rfl ?_
          refine g_aload_n m55_0 rfl ?_
          refine g_gf m55_1 rfl rfl ?_
          refine g_iload_n m55_4 rfl ?_
          refine g_dup2 m55_5 rfl rfl ?_
          refine g_iald (x := (0 : Int32)) m55_6 rfl (vin rfl) rfl ?_
          refine g_iconst m55_7 ?_
          refine g_iadd (u := (1 : Int32)) m55_8 (by decide) ?_
          refine g_iast m55_9 (Nat.le_of_ble_eq_true rfl) rfl (vin rfl) rfl rfl rfl ?_
          refine g_ldcw m55_10 ?_
          refine g_iload_n m55_13 rfl ?_
          refine g_isub (u := (-1000000001 : Int32)) m55_14 (by decide) ?_
          refine g_iret m55_15 rfl ?_
          refine gwst (st' := [.int (-1000000001)]) rfl ?_
          refine g_iret m59_32 rfl ?_
          refine gwst (st' := [.int (-1000000001)]) rfl ?_
          refine FRg rfl (fun f => ?_)
          refine g_aload_n m190_306 rfl ?_
          refine g_aload_n m190_307 rfl ?_
          refine g_iload_n m190_308 rfl ?_
          refine g_iconst m190_309 ?_
          refine g_iadd (u := (1 : Int32)) m190_310 (by decide) ?_
          refine g_iald (x := s1) m190_311 rfl (vin rfl) rfl ?_
          refine g_aload_n m190_312 rfl ?_
          refine g_iload_n m190_313 rfl ?_
          refine g_iconst m190_314 ?_
          refine g_iadd (u := (2 : Int32)) m190_315 (by decide) ?_
          refine g_iald (x := s2) m190_316 rfl (vin rfl) rfl ?_
          refine g_aload_n m190_317 rfl ?_
          refine g_iload_n m190_318 rfl ?_
          refine g_iconst m190_319 ?_
          refine g_iadd (u := (3 : Int32)) m190_320 (by decide) ?_
          refine g_iald (x := s3) m190_321 rfl (vin rfl) rfl ?_
          refine g_cv (args := [.int _, .int _, .int _]) (rest := [.int (-1000000001)]) m190_322 (Nat.le_of_ble_eq_true rfl) rfl rfl rfl (Nat.le_of_ble_eq_true rfl) ?_
          refine wp_in (L := [some (.ref 89), some (.int _), some (.int _), some (.int _), none]) (Nat.le_of_ble_eq_true rfl) rfl ?_
          refine g_iload_n m118_0 rfl ?_
          refine g_iconst m118_1 ?_
          refine g_bipush m118_2 ?_
          refine g_cs (args := [.int _, .int (0), .int (69)]) (rest := []) 0 (Or.inl rfl) m118_4 (Nat.le_of_ble_eq_true rfl) rfl rfl (Nat.le_of_ble_eq_true rfl) ?_
          refine wp_in (L := [some (.int _), some (.int (0)), some (.int (69))]) (Nat.le_of_ble_eq_true rfl) rfl ?_
          refine g_iload_n m107_0 rfl ?_
          refine g_iload_n m107_1 rfl ?_
          refine g_ic_ltF m107_2 (fun q => absurd ((lt_k (a := (s1).toInt) (b := 0) (by rfl) (by rfl)).mp q) (by omega)) ?_
          refine g_iload_n m107_5 rfl ?_
          refine g_iload_n m107_6 rfl ?_
          refine g_ic_gtF m107_7 (fun q => absurd ((lt_k (a := 69) (b := (s1).toInt) (by rfl) (by rfl)).mp q) (by omega)) ?_
          refine g_iconst m107_10 ?_
          refine g_goto m107_11 ?_
          refine g_zret m107_15 rfl (Or.inr rfl) ?_
          refine gwst (st' := [.int (1)]) rfl ?_
          refine g_if_eqF m118_7 (by decide) ?_
          refine g_iload_n m118_10 rfl ?_
          refine g_iconst m118_11 ?_
          refine g_bipush m118_12 ?_
          refine g_cs (args := [.int _, .int (0), .int (99)]) (rest := []) 0 (Or.inl rfl) m118_14 (Nat.le_of_ble_eq_true rfl) rfl rfl (Nat.le_of_ble_eq_true rfl) ?_
          refine wp_in (L := [some (.int _), some (.int (0)), some (.int (99))]) (Nat.le_of_ble_eq_true rfl) rfl ?_
          refine g_iload_n m107_0 rfl ?_
          refine g_iload_n m107_1 rfl ?_
          refine g_ic_ltF m107_2 (fun q => absurd ((lt_k (a := (s2).toInt) (b := 0) (by rfl) (by rfl)).mp q) (by omega)) ?_
          refine g_iload_n m107_5 rfl ?_
          refine g_iload_n m107_6 rfl ?_
          refine g_ic_gtT m107_7 ((lt_k (a := 99) (b := (s2).toInt) (by rfl) (by rfl)).mpr (by omega)) ?_
          refine g_iconst m107_14 ?_
          refine g_zret m107_15 rfl (Or.inl rfl) ?_
          refine gwst (st' := [.int (0)]) rfl ?_
          refine g_if_eqT m118_17 (by decide) ?_
          refine g_aload_n m118_30 rfl ?_
          refine g_ldci m118_31 rfl ?_
          refine g_cv (args := [.int (-1000000001)]) (rest := []) m118_33 (Nat.le_of_ble_eq_true rfl) rfl rfl rfl (Nat.le_of_ble_eq_true rfl) ?_
          refine wp_in (L := [some (.ref 89), some (.int (-1000000001))]) (Nat.le_of_ble_eq_true rfl) rfl ?_
          refine g_aload_n m108_0 rfl ?_
          refine g_gf m108_1 rfl rfl ?_
          refine g_ldci m108_4 rfl ?_
          refine g_iload_n m108_6 rfl ?_
          refine g_isub (u := (1 : Int32)) m108_7 (by decide) ?_
          refine g_dup2 m108_8 rfl rfl ?_
          refine g_iald (x := (0 : Int32)) m108_9 rfl (vin rfl) rfl ?_
          refine g_iconst m108_10 ?_
          refine g_iadd (u := (1 : Int32)) m108_11 (by decide) ?_
          refine g_iast m108_12 (Nat.le_of_ble_eq_true rfl) rfl (vin rfl) rfl rfl rfl ?_
          refine g_iload_n m108_13 rfl ?_
          refine g_iret m108_14 rfl ?_
          refine gwst (st' := [.int (-1000000001)]) rfl ?_
          refine g_iret m118_36 rfl ?_
          refine gwst (st' := [.int (-1000000001), .int (-1000000001)]) rfl ?_
          refine g_ic_eqT m190_325 (by decide) ?_
          refine g_iinc (x2 := (6 : Int32)) (L2 := [some (.ref 0), some (.ref 32), some (.ref 89), some (.int (6))]) m190_1428 rfl (by decide) rfl rfl ?_
          refine g_goto m190_1431 ?_
          refine g_iload_n m190_18 rfl ?_
          refine g_aload_n m190_19 rfl ?_
          refine g_alen (n := 6) m190_20 rfl (Or.inl rfl) rfl ?_
          refine g_bipush m190_21 ?_
          refine g_isub (u := (0 : Int32)) m190_23 (by decide) ?_
          refine g_ic_gtT m190_24 (by decide) ?_
          refine g_iconst m190_1434 ?_
          refine g_zret m190_1435 rfl (Or.inr rfl) ?_
          exact rfl
        · have d8 : ¬ (99 < (s2).toInt) := fun q => c7 ((lt_k (by rfl) (by rfl)).mpr q)
          refine g_iconst m54_9 ?_
          refine g_goto m54_10 ?_
          refine g_zret m54_14 rfl (Or.inr rfl) ?_
          refine gwst (st' := [.int (1)]) rfl ?_
          refine g_if_eqF m59_15 (by decide) ?_
          refine g_iload_n m59_18 rfl ?_
          refine g_bipush m59_19 ?_
          refine g_cs (args := [.int _, .int (9)]) (rest := []) 0 (Or.inl rfl) m59_21 (Nat.le_of_ble_eq_true rfl) rfl rfl (Nat.le_of_ble_eq_true rfl) ?_
          refine wp_in (L := [some (.int _), some (.int (9))]) (Nat.le_of_ble_eq_true rfl) rfl ?_
          refine g_iload_n m54_0 rfl ?_
          refine g_if_lt m54_1 (fun c9 => ?_) (fun c9 => ?_)
          · have d10 : (s3).toInt < 0 := (lt_k (by rfl) (by rfl)).mp c9
            refine g_iconst m54_13 ?_
            refine g_zret m54_14 rfl (Or.inl rfl) ?_
            refine gwst (st' := [.int (0)]) rfl ?_
            refine g_if_neT m59_24 (by decide) ?_
            refine g_aload_n m59_27 rfl ?_
            refine g_iconst m59_28 ?_
            refine g_cv (args := [.int (1)]) (rest := []) m59_29 (Nat.le_of_ble_eq_true rfl) rfl rfl rfl (Nat.le_of_ble_eq_true rfl) ?_
            refine wp_in (L := [some (.ref 32), some (.int (1))]) (Nat.le_of_ble_eq_true rfl) rfl ?_
            refine g_aload_n m55_0 rfl ?_
            refine g_gf m55_1 rfl rfl ?_
            refine g_iload_n m55_4 rfl ?_
            refine g_dup2 m55_5 rfl rfl ?_
            refine g_iald (x := (0 : Int32)) m55_6 rfl (vin rfl) rfl ?_
            refine g_iconst m55_7 ?_
            refine g_iadd (u := (1 : Int32)) m55_8 (by decide) ?_
            refine g_iast m55_9 (Nat.le_of_ble_eq_true rfl) rfl (vin rfl) rfl rfl rfl ?_
            refine g_ldcw m55_10 ?_
            refine g_iload_n m55_13 rfl ?_
            refine g_isub (u := (-1000000001 : Int32)) m55_14 (by decide) ?_
            refine g_iret m55_15 rfl ?_
            refine gwst (st' := [.int (-1000000001)]) rfl ?_
            refine g_iret m59_32 rfl ?_
            refine gwst (st' := [.int (-1000000001)]) rfl ?_
            refine FRg rfl (fun f => ?_)
            refine g_aload_n m190_306 rfl ?_
            refine g_aload_n m190_307 rfl ?_
            refine g_iload_n m190_308 rfl ?_
            refine g_iconst m190_309 ?_
            refine g_iadd (u := (1 : Int32)) m190_310 (by decide) ?_
            refine g_iald (x := s1) m190_311 rfl (vin rfl) rfl ?_
            refine g_aload_n m190_312 rfl ?_
            refine g_iload_n m190_313 rfl ?_
            refine g_iconst m190_314 ?_
            refine g_iadd (u := (2 : Int32)) m190_315 (by decide) ?_
            refine g_iald (x := s2) m190_316 rfl (vin rfl) rfl ?_
            refine g_aload_n m190_317 rfl ?_
            refine g_iload_n m190_318 rfl ?_
            refine g_iconst m190_319 ?_
            refine g_iadd (u := (3 : Int32)) m190_320 (by decide) ?_
            refine g_iald (x := s3) m190_321 rfl (vin rfl) rfl ?_
            refine g_cv (args := [.int _, .int _, .int _]) (rest := [.int (-1000000001)]) m190_322 (Nat.le_of_ble_eq_true rfl) rfl rfl rfl (Nat.le_of_ble_eq_true rfl) ?_
            refine wp_in (L := [some (.ref 89), some (.int _), some (.int _), some (.int _), none]) (Nat.le_of_ble_eq_true rfl) rfl ?_
            refine g_iload_n m118_0 rfl ?_
            refine g_iconst m118_1 ?_
            refine g_bipush m118_2 ?_
            refine g_cs (args := [.int _, .int (0), .int (69)]) (rest := []) 0 (Or.inl rfl) m118_4 (Nat.le_of_ble_eq_true rfl) rfl rfl (Nat.le_of_ble_eq_true rfl) ?_
            refine wp_in (L := [some (.int _), some (.int (0)), some (.int (69))]) (Nat.le_of_ble_eq_true rfl) rfl ?_
            refine g_iload_n m107_0 rfl ?_
            refine g_iload_n m107_1 rfl ?_
            refine g_ic_ltF m107_2 (fun q => absurd ((lt_k (a := (s1).toInt) (b := 0) (by rfl) (by rfl)).mp q) (by omega)) ?_
            refine g_iload_n m107_5 rfl ?_
            refine g_iload_n m107_6 rfl ?_
            refine g_ic_gtF m107_7 (fun q => absurd ((lt_k (a := 69) (b := (s1).toInt) (by rfl) (by rfl)).mp q) (by omega)) ?_
            refine g_iconst m107_10 ?_
            refine g_goto m107_11 ?_
            refine g_zret m107_15 rfl (Or.inr rfl) ?_
            refine gwst (st' := [.int (1)]) rfl ?_
            refine g_if_eqF m118_7 (by decide) ?_
            refine g_iload_n m118_10 rfl ?_
            refine g_iconst m118_11 ?_
            refine g_bipush m118_12 ?_
            refine g_cs (args := [.int _, .int (0), .int (99)]) (rest := []) 0 (Or.inl rfl) m118_14 (Nat.le_of_ble_eq_true rfl) rfl rfl (Nat.le_of_ble_eq_true rfl) ?_
            refine wp_in (L := [some (.int _), some (.int (0)), some (.int (99))]) (Nat.le_of_ble_eq_true rfl) rfl ?_
            refine g_iload_n m107_0 rfl ?_
            refine g_iload_n m107_1 rfl ?_
            refine g_ic_ltF m107_2 (fun q => absurd ((lt_k (a := (s2).toInt) (b := 0) (by rfl) (by rfl)).mp q) (by omega)) ?_
            refine g_iload_n m107_5 rfl ?_
            refine g_iload_n m107_6 rfl ?_
            refine g_ic_gtF m107_7 (fun q => absurd ((lt_k (a := 99) (b := (s2).toInt) (by rfl) (by rfl)).mp q) (by omega)) ?_
            refine g_iconst m107_10 ?_
            refine g_goto m107_11 ?_
            refine g_zret m107_15 rfl (Or.inr rfl) ?_
            refine gwst (st' := [.int (1)]) rfl ?_
            refine g_if_eqF m118_17 (by decide) ?_
            refine g_iload_n m118_20 rfl ?_
            refine g_iconst m118_21 ?_
            refine g_bipush m118_22 ?_
            refine g_cs (args := [.int _, .int (0), .int (9)]) (rest := []) 0 (Or.inl rfl) m118_24 (Nat.le_of_ble_eq_true rfl) rfl rfl (Nat.le_of_ble_eq_true rfl) ?_
            refine wp_in (L := [some (.int _), some (.int (0)), some (.int (9))]) (Nat.le_of_ble_eq_true rfl) rfl ?_
            refine g_iload_n m107_0 rfl ?_
            refine g_iload_n m107_1 rfl ?_
            refine g_ic_ltT m107_2 ((lt_k (a := (s3).toInt) (b := 0) (by rfl) (by rfl)).mpr (by omega)) ?_
            refine g_iconst m107_14 ?_
            refine g_zret m107_15 rfl (Or.inl rfl) ?_
            refine gwst (st' := [.int (0)]) rfl ?_
            refine g_if_neT m118_27 (by decide) ?_
            refine g_aload_n m118_30 rfl ?_
            refine g_ldci m118_31 rfl ?_
            refine g_cv (args := [.int (-1000000001)]) (rest := []) m118_33 (Nat.le_of_ble_eq_true rfl) rfl rfl rfl (Nat.le_of_ble_eq_true rfl) ?_
            refine wp_in (L := [some (.ref 89), some (.int (-1000000001))]) (Nat.le_of_ble_eq_true rfl) rfl ?_
            refine g_aload_n m108_0 rfl ?_
            refine g_gf m108_1 rfl rfl ?_
            refine g_ldci m108_4 rfl ?_
            refine g_iload_n m108_6 rfl ?_
            refine g_isub (u := (1 : Int32)) m108_7 (by decide) ?_
            refine g_dup2 m108_8 rfl rfl ?_
            refine g_iald (x := (0 : Int32)) m108_9 rfl (vin rfl) rfl ?_
            refine g_iconst m108_10 ?_
            refine g_iadd (u := (1 : Int32)) m108_11 (by decide) ?_
            refine g_iast m108_12 (Nat.le_of_ble_eq_true rfl) rfl (vin rfl) rfl rfl rfl ?_
            refine g_iload_n m108_13 rfl ?_
            refine g_iret m108_14 rfl ?_
            refine gwst (st' := [.int (-1000000001)]) rfl ?_
            refine g_iret m118_36 rfl ?_
            refine gwst (st' := [.int (-1000000001), .int (-1000000001)]) rfl ?_
            refine g_ic_eqT m190_325 (by decide) ?_
            refine g_iinc (x2 := (6 : Int32)) (L2 := [some (.ref 0), some (.ref 32), some (.ref 89), some (.int (6))]) m190_1428 rfl (by decide) rfl rfl ?_
            refine g_goto m190_1431 ?_
            refine g_iload_n m190_18 rfl ?_
            refine g_aload_n m190_19 rfl ?_
            refine g_alen (n := 6) m190_20 rfl (Or.inl rfl) rfl ?_
            refine g_bipush m190_21 ?_
            refine g_isub (u := (0 : Int32)) m190_23 (by decide) ?_
            refine g_ic_gtT m190_24 (by decide) ?_
            refine g_iconst m190_1434 ?_
            refine g_zret m190_1435 rfl (Or.inr rfl) ?_
            exact rfl
          · have d10 : ¬ ((s3).toInt < 0) := fun q => c9 ((lt_k (by rfl) (by rfl)).mpr q)
            refine g_iload_n m54_4 rfl ?_
            refine g_iload_n m54_5 rfl ?_
            refine g_ic_gt m54_6 (fun c11 => ?_) (fun c11 => ?_)
            · have d12 : 9 < (s3).toInt := (lt_k (by rfl) (by rfl)).mp c11
              refine g_iconst m54_13 ?_
              refine g_zret m54_14 rfl (Or.inl rfl) ?_
              refine gwst (st' := [.int (0)]) rfl ?_
              refine g_if_neT m59_24 (by decide) ?_
              refine g_aload_n m59_27 rfl ?_
              refine g_iconst m59_28 ?_
              refine g_cv (args := [.int (1)]) (rest := []) m59_29 (Nat.le_of_ble_eq_true rfl) rfl rfl rfl (Nat.le_of_ble_eq_true rfl) ?_
              refine wp_in (L := [some (.ref 32), some (.int (1))]) (Nat.le_of_ble_eq_true rfl) rfl ?_
              refine g_aload_n m55_0 rfl ?_
              refine g_gf m55_1 rfl rfl ?_
              refine g_iload_n m55_4 rfl ?_
              refine g_dup2 m55_5 rfl rfl ?_
              refine g_iald (x := (0 : Int32)) m55_6 rfl (vin rfl) rfl ?_
              refine g_iconst m55_7 ?_
              refine g_iadd (u := (1 : Int32)) m55_8 (by decide) ?_
              refine g_iast m55_9 (Nat.le_of_ble_eq_true rfl) rfl (vin rfl) rfl rfl rfl ?_
              refine g_ldcw m55_10 ?_
              refine g_iload_n m55_13 rfl ?_
              refine g_isub (u := (-1000000001 : Int32)) m55_14 (by decide) ?_
              refine g_iret m55_15 rfl ?_
              refine gwst (st' := [.int (-1000000001)]) rfl ?_
              refine g_iret m59_32 rfl ?_
              refine gwst (st' := [.int (-1000000001)]) rfl ?_
              refine FRg rfl (fun f => ?_)
              refine g_aload_n m190_306 rfl ?_
              refine g_aload_n m190_307 rfl ?_
              refine g_iload_n m190_308 rfl ?_
              refine g_iconst m190_309 ?_
              refine g_iadd (u := (1 : Int32)) m190_310 (by decide) ?_
              refine g_iald (x := s1) m190_311 rfl (vin rfl) rfl ?_
              refine g_aload_n m190_312 rfl ?_
              refine g_iload_n m190_313 rfl ?_
              refine g_iconst m190_314 ?_
              refine g_iadd (u := (2 : Int32)) m190_315 (by decide) ?_
              refine g_iald (x := s2) m190_316 rfl (vin rfl) rfl ?_
              refine g_aload_n m190_317 rfl ?_
              refine g_iload_n m190_318 rfl ?_
              refine g_iconst m190_319 ?_
              refine g_iadd (u := (3 : Int32)) m190_320 (by decide) ?_
              refine g_iald (x := s3) m190_321 rfl (vin rfl) rfl ?_
              refine g_cv (args := [.int _, .int _, .int _]) (rest := [.int (-1000000001)]) m190_322 (Nat.le_of_ble_eq_true rfl) rfl rfl rfl (Nat.le_of_ble_eq_true rfl) ?_
              refine wp_in (L := [some (.ref 89), some (.int _), some (.int _), some (.int _), none]) (Nat.le_of_ble_eq_true rfl) rfl ?_
              refine g_iload_n m118_0 rfl ?_
              refine g_iconst m118_1 ?_
              refine g_bipush m118_2 ?_
              refine g_cs (args := [.int _, .int (0), .int (69)]) (rest := []) 0 (Or.inl rfl) m118_4 (Nat.le_of_ble_eq_true rfl) rfl rfl (Nat.le_of_ble_eq_true rfl) ?_
              refine wp_in (L := [some (.int _), some (.int (0)), some (.int (69))]) (Nat.le_of_ble_eq_true rfl) rfl ?_
              refine g_iload_n m107_0 rfl ?_
              refine g_iload_n m107_1 rfl ?_
              refine g_ic_ltF m107_2 (fun q => absurd ((lt_k (a := (s1).toInt) (b := 0) (by rfl) (by rfl)).mp q) (by omega)) ?_
              refine g_iload_n m107_5 rfl ?_
              refine g_iload_n m107_6 rfl ?_
              refine g_ic_gtF m107_7 (fun q => absurd ((lt_k (a := 69) (b := (s1).toInt) (by rfl) (by rfl)).mp q) (by omega)) ?_
              refine g_iconst m107_10 ?_
              refine g_goto m107_11 ?_
              refine g_zret m107_15 rfl (Or.inr rfl) ?_
              refine gwst (st' := [.int (1)]) rfl ?_
              refine g_if_eqF m118_7 (by decide) ?_
              refine g_iload_n m118_10 rfl ?_
              refine g_iconst m118_11 ?_
              refine g_bipush m118_12 ?_
              refine g_cs (args := [.int _, .int (0), .int (99)]) (rest := []) 0 (Or.inl rfl) m118_14 (Nat.le_of_ble_eq_true rfl) rfl rfl (Nat.le_of_ble_eq_true rfl) ?_
              refine wp_in (L := [some (.int _), some (.int (0)), some (.int (99))]) (Nat.le_of_ble_eq_true rfl) rfl ?_
              refine g_iload_n m107_0 rfl ?_
              refine g_iload_n m107_1 rfl ?_
              refine g_ic_ltF m107_2 (fun q => absurd ((lt_k (a := (s2).toInt) (b := 0) (by rfl) (by rfl)).mp q) (by omega)) ?_
              refine g_iload_n m107_5 rfl ?_
              refine g_iload_n m107_6 rfl ?_
              refine g_ic_gtF m107_7 (fun q => absurd ((lt_k (a := 99) (b := (s2).toInt) (by rfl) (by rfl)).mp q) (by omega)) ?_
              refine g_iconst m107_10 ?_
              refine g_goto m107_11 ?_
              refine g_zret m107_15 rfl (Or.inr rfl) ?_
              refine gwst (st' := [.int (1)]) rfl ?_
              refine g_if_eqF m118_17 (by decide) ?_
              refine g_iload_n m118_20 rfl ?_
              refine g_iconst m118_21 ?_
              refine g_bipush m118_22 ?_
              refine g_cs (args := [.int _, .int (0), .int (9)]) (rest := []) 0 (Or.inl rfl) m118_24 (Nat.le_of_ble_eq_true rfl) rfl rfl (Nat.le_of_ble_eq_true rfl) ?_
              refine wp_in (L := [some (.int _), some (.int (0)), some (.int (9))]) (Nat.le_of_ble_eq_true rfl) rfl ?_
              refine g_iload_n m107_0 rfl ?_
              refine g_iload_n m107_1 rfl ?_
              refine g_ic_ltF m107_2 (fun q => absurd ((lt_k (a := (s3).toInt) (b := 0) (by rfl) (by rfl)).mp q) (by omega)) ?_
              refine g_iload_n m107_5 rfl ?_
              refine g_iload_n m107_6 rfl ?_
              refine g_ic_gtT m107_7 ((lt_k (a := 9) (b := (s3).toInt) (by rfl) (by rfl)).mpr (by omega)) ?_
              refine g_iconst m107_14 ?_
              refine g_zret m107_15 rfl (Or.inl rfl) ?_
              refine gwst (st' := [.int (0)]) rfl ?_
              refine g_if_neT m118_27 (by decide) ?_
              refine g_aload_n m118_30 rfl ?_
              refine g_ldci m118_31 rfl ?_
              refine g_cv (args := [.int (-1000000001)]) (rest := []) m118_33 (Nat.le_of_ble_eq_true rfl) rfl rfl rfl (Nat.le_of_ble_eq_true rfl) ?_
              refine wp_in (L := [some (.ref 89), some (.int (-1000000001))]) (Nat.le_of_ble_eq_true rfl) rfl ?_
              refine g_aload_n m108_0 rfl ?_
              refine g_gf m108_1 rfl rfl ?_
              refine g_ldci m108_4 rfl ?_
              refine g_iload_n m108_6 rfl ?_
              refine g_isub (u := (1 : Int32)) m108_7 (by decide) ?_
              refine g_dup2 m108_8 rfl rfl ?_
              refine g_iald (x := (0 : Int32)) m108_9 rfl (vin rfl) rfl ?_
              refine g_iconst m108_10 ?_
              refine g_iadd (u := (1 : Int32)) m108_11 (by decide) ?_
              refine g_iast m108_12 (Nat.le_of_ble_eq_true rfl) rfl (vin rfl) rfl rfl rfl ?_
              refine g_iload_n m108_13 rfl ?_
              refine g_iret m108_14 rfl ?_
              refine gwst (st' := [.int (-1000000001)]) rfl ?_
              refine g_iret m118_36 rfl ?_
              refine gwst (st' := [.int (-1000000001), .int (-1000000001)]) rfl ?_
              refine g_ic_eqT m190_325 (by decide) ?_
              refine g_iinc (x2 := (6 : Int32)) (L2 := [some (.ref 0), some (.ref 32), some (.ref 89), some (.int (6))]) m190_1428 rfl (by decide) rfl rfl ?_
              refine g_goto m190_1431 ?_
              refine g_iload_n m190_18 rfl ?_
              refine g_aload_n m190_19 rfl ?_
              refine g_alen (n := 6) m190_20 rfl (Or.inl rfl) rfl ?_
              refine g_bipush m190_21 ?_
              refine g_isub (u := (0 : Int32)) m190_23 (by decide) ?_
              refine g_ic_gtT m190_24 (by decide) ?_
              refine g_iconst m190_1434 ?_
              refine g_zret m190_1435 rfl (Or.inr rfl) ?_
              exact rfl
            · have d12 : ¬ (9 < (s3).toInt) := fun q => c11 ((lt_k (by rfl) (by rfl)).mpr q)
              refine g_iconst m54_9 ?_
              refine g_goto m54_10 ?_
              refine g_zret m54_14 rfl (Or.inr rfl) ?_
              refine gwst (st' := [.int (1)]) rfl ?_
              refine g_if_neF m59_24 (by decide) ?_
              refine g_aload_n m59_33 rfl ?_
              refine g_gf m59_34 rfl rfl ?_
              refine g_gf m59_37 rfl rfl ?_
              refine g_bipush m59_40 ?_
              refine g_ic_ltT m59_42 (by decide) ?_
              refine g_aload_n m59_51 rfl ?_
              refine g_gf m59_52 rfl rfl ?_
              refine g_gf m59_55 rfl rfl ?_
              refine g_istore (L2 := [some (.ref 32), some (.int _), some (.int _), some (.int _), some (.int (0))]) m59_58 rfl rfl ?_
              refine g_aload_n m59_60 rfl ?_
              refine g_gf m59_61 rfl rfl ?_
              refine g_gf m59_64 rfl rfl ?_
              refine g_iload m59_67 rfl ?_
              refine g_iload_n m59_69 rfl ?_
              refine g_bipush m59_70 ?_
              refine g_idiv m59_72 (by decide) rfl ?_
              refine g_iast m59_73 (Nat.le_of_ble_eq_true rfl) rfl (vin rfl) rfl rfl rfl ?_
              refine g_aload_n m59_74 rfl ?_
              refine g_gf m59_75 rfl rfl ?_
              refine g_gf m59_78 rfl rfl ?_
              refine g_iload m59_81 rfl ?_
              refine g_iload_n m59_83 rfl ?_
              refine g_bipush m59_84 ?_
              refine g_irem m59_86 (by decide) rfl ?_
              refine g_iast m59_87 (Nat.le_of_ble_eq_true rfl) rfl (vin rfl) rfl rfl rfl ?_
              refine g_aload_n m59_88 rfl ?_
              refine g_gf m59_89 rfl rfl ?_
              refine g_gf m59_92 rfl rfl ?_
              refine g_iload m59_95 rfl ?_
              refine g_iload_n m59_97 rfl ?_
              refine g_iast m59_98 (Nat.le_of_ble_eq_true rfl) rfl (vin rfl) rfl rfl rfl ?_
              refine g_aload_n m59_99 rfl ?_
              refine g_gf m59_100 rfl rfl ?_
              refine g_gf m59_103 rfl rfl ?_
              refine g_iload m59_106 rfl ?_
              refine g_iload_n m59_108 rfl ?_
              refine g_iast m59_109 (Nat.le_of_ble_eq_true rfl) rfl (vin rfl) rfl rfl rfl ?_
              refine g_aload_n m59_110 rfl ?_
              refine g_gf m59_111 rfl rfl ?_
              refine g_gf m59_114 rfl rfl ?_
              refine g_iload m59_117 rfl ?_
              refine g_iconst m59_119 ?_
              refine g_iast m59_120 (Nat.le_of_ble_eq_true rfl) rfl (vin rfl) rfl rfl (set_idem rfl (by decide +kernel)) ?_
              refine g_aload_n m59_121 rfl ?_
              refine g_gf m59_122 rfl rfl ?_
              refine g_gf m59_125 rfl rfl ?_
              refine g_iload m59_128 rfl ?_
              refine g_iconst m59_130 ?_
              refine g_bast m59_131 (Nat.le_of_ble_eq_true rfl) (Or.inl rfl) rfl (vin rfl) rfl rfl rfl ?_
              refine g_aload_n m59_132 rfl ?_
              refine g_gf m59_133 rfl rfl ?_
              refine g_iload m59_136 rfl ?_
              refine g_iconst m59_138 ?_
              refine g_iadd (u := (1 : Int32)) m59_139 (by decide) ?_
              refine g_pf (fs2 := [.ref 34, .ref 35, .ref 36, .ref 37, .ref 38, .ref 39, .ref 40, .ref 41, .int (1), .int (0), .int (1), .null, .null]) m59_140 rfl (Nat.le_of_ble_eq_true rfl) rfl (Nat.le_of_ble_eq_true rfl) trivial rfl rfl rfl ?_
              refine g_iload m59_143 rfl ?_
              refine g_iret m59_145 rfl ?_
              refine gwst (st' := [.int (0)]) rfl ?_
              refine FRg rfl (fun f => ?_)
              refine g_aload_n m190_306 rfl ?_
              refine g_aload_n m190_307 rfl ?_
              refine g_iload_n m190_308 rfl ?_
              refine g_iconst m190_309 ?_
              refine g_iadd (u := (1 : Int32)) m190_310 (by decide) ?_
              refine g_iald (x := s1) m190_311 rfl (vin rfl) rfl ?_
              refine g_aload_n m190_312 rfl ?_
              refine g_iload_n m190_313 rfl ?_
              refine g_iconst m190_314 ?_
              refine g_iadd (u := (2 : Int32)) m190_315 (by decide) ?_
              refine g_iald (x := s2) m190_316 rfl (vin rfl) rfl ?_
              refine g_aload_n m190_317 rfl ?_
              refine g_iload_n m190_318 rfl ?_
              refine g_iconst m190_319 ?_
              refine g_iadd (u := (3 : Int32)) m190_320 (by decide) ?_
              refine g_iald (x := s3) m190_321 rfl (vin rfl) rfl ?_
              refine g_cv (args := [.int _, .int _, .int _]) (rest := [.int (0)]) m190_322 (Nat.le_of_ble_eq_true rfl) rfl rfl rfl (Nat.le_of_ble_eq_true rfl) ?_
              refine wp_in (L := [some (.ref 89), some (.int _), some (.int _), some (.int _), none]) (Nat.le_of_ble_eq_true rfl) rfl ?_
              refine g_iload_n m118_0 rfl ?_
              refine g_iconst m118_1 ?_
              refine g_bipush m118_2 ?_
              refine g_cs (args := [.int _, .int (0), .int (69)]) (rest := []) 0 (Or.inl rfl) m118_4 (Nat.le_of_ble_eq_true rfl) rfl rfl (Nat.le_of_ble_eq_true rfl) ?_
              refine wp_in (L := [some (.int _), some (.int (0)), some (.int (69))]) (Nat.le_of_ble_eq_true rfl) rfl ?_
              refine g_iload_n m107_0 rfl ?_
              refine g_iload_n m107_1 rfl ?_
              refine g_ic_ltF m107_2 (fun q => absurd ((lt_k (a := (s1).toInt) (b := 0) (by rfl) (by rfl)).mp q) (by omega)) ?_
              refine g_iload_n m107_5 rfl ?_
              refine g_iload_n m107_6 rfl ?_
              refine g_ic_gtF m107_7 (fun q => absurd ((lt_k (a := 69) (b := (s1).toInt) (by rfl) (by rfl)).mp q) (by omega)) ?_
              refine g_iconst m107_10 ?_
              refine g_goto m107_11 ?_
              refine g_zret m107_15 rfl (Or.inr rfl) ?_
              refine gwst (st' := [.int (1)]) rfl ?_
              refine g_if_eqF m118_7 (by decide) ?_
              refine g_iload_n m118_10 rfl ?_
              refine g_iconst m118_11 ?_
              refine g_bipush m118_12 ?_
              refine g_cs (args := [.int _, .int (0), .int (99)]) (rest := []) 0 (Or.inl rfl) m118_14 (Nat.le_of_ble_eq_true rfl) rfl rfl (Nat.le_of_ble_eq_true rfl) ?_
              refine wp_in (L := [some (.int _), some (.int (0)), some (.int (99))]) (Nat.le_of_ble_eq_true rfl) rfl ?_
              refine g_iload_n m107_0 rfl ?_
              refine g_iload_n m107_1 rfl ?_
              refine g_ic_ltF m107_2 (fun q => absurd ((lt_k (a := (s2).toInt) (b := 0) (by rfl) (by rfl)).mp q) (by omega)) ?_
              refine g_iload_n m107_5 rfl ?_
              refine g_iload_n m107_6 rfl ?_
              refine g_ic_gtF m107_7 (fun q => absurd ((lt_k (a := 99) (b := (s2).toInt) (by rfl) (by rfl)).mp q) (by omega)) ?_
              refine g_iconst m107_10 ?_
              refine g_goto m107_11 ?_
              refine g_zret m107_15 rfl (Or.inr rfl) ?_
              refine gwst (st' := [.int (1)]) rfl ?_
              refine g_if_eqF m118_17 (by decide) ?_
              refine g_iload_n m118_20 rfl ?_
              refine g_iconst m118_21 ?_
              refine g_bipush m118_22 ?_
              refine g_cs (args := [.int _, .int (0), .int (9)]) (rest := []) 0 (Or.inl rfl) m118_24 (Nat.le_of_ble_eq_true rfl) rfl rfl (Nat.le_of_ble_eq_true rfl) ?_
              refine wp_in (L := [some (.int _), some (.int (0)), some (.int (9))]) (Nat.le_of_ble_eq_true rfl) rfl ?_
              refine g_iload_n m107_0 rfl ?_
              refine g_iload_n m107_1 rfl ?_
              refine g_ic_ltF m107_2 (fun q => absurd ((lt_k (a := (s3).toInt) (b := 0) (by rfl) (by rfl)).mp q) (by omega)) ?_
              refine g_iload_n m107_5 rfl ?_
              refine g_iload_n m107_6 rfl ?_
              refine g_ic_gtF m107_7 (fun q => absurd ((lt_k (a := 9) (b := (s3).toInt) (by rfl) (by rfl)).mp q) (by omega)) ?_
              refine g_iconst m107_10 ?_
              refine g_goto m107_11 ?_
              refine g_zret m107_15 rfl (Or.inr rfl) ?_
              refine gwst (st' := [.int (1)]) rfl ?_
              refine g_if_neF m118_27 (by decide) ?_
              refine g_aload_n m118_37 rfl ?_
              refine g_gf m118_38 rfl rfl ?_
              refine g_iconst m118_41 ?_
              refine g_iald (x := (0 : Int32)) m118_42 rfl (vin rfl) rfl ?_
              refine g_bipush m118_43 ?_
              refine g_ic_neF m118_45 (by decide) ?_
              refine g_aload_n m118_55 rfl ?_
              refine g_gf m118_56 rfl rfl ?_
              refine g_iconst m118_59 ?_
              refine g_iald (x := (0 : Int32)) m118_60 rfl (vin rfl) rfl ?_
              refine g_istore (L2 := [some (.ref 89), some (.int _), some (.int _), some (.int _), some (.int (0))]) m118_61 rfl rfl ?_
              refine g_aload_n m118_63 rfl ?_
              refine g_iload m118_64 rfl ?_
              refine g_iconst m118_66 ?_
              refine g_iload_n m118_67 rfl ?_
              refine g_bipush m118_68 ?_
              refine g_idiv m118_70 (by decide) rfl ?_
              refine g_cv (args := [.int (0), .int (0), .int _]) (rest := []) m118_71 (Nat.le_of_ble_eq_true rfl) rfl rfl rfl (Nat.le_of_ble_eq_true rfl) ?_
              refine wp_in (L := [some (.ref 89), some (.int (0)), some (.int (0)), some (.int _)]) (Nat.le_of_ble_eq_true rfl) rfl ?_
              refine g_aload_n m112_0 rfl ?_
              refine g_gf m112_1 rfl rfl ?_
              refine g_bipush m112_4 ?_
              refine g_bipush m112_6 ?_
              refine g_iload_n m112_8 rfl ?_
              refine g_imul (u := (0 : Int32)) m112_9 (by decide) ?_
              refine g_iadd (u := (16 : Int32)) m112_10 (by decide) ?_
              refine g_iload_n m112_11 rfl ?_
              refine g_iadd (u := (16 : Int32)) m112_12 (by decide) ?_
              refine g_iload_n m112_13 rfl ?_
              refine g_iast m112_14 (Nat.le_of_ble_eq_true rfl) rfl (vin rfl) rfl rfl rfl ?_
              refine g_vret m112_15 ?_
              refine gwst (st' := []) rfl ?_
              refine g_aload_n m118_74 rfl ?_
              refine g_iload m118_75 rfl ?_
              refine g_iconst m118_77 ?_
              refine g_iload_n m118_78 rfl ?_
              refine g_bipush m118_79 ?_
              refine g_irem m118_81 (by decide) rfl ?_
              refine g_cv (args := [.int (0), .int (1), .int _]) (rest := []) m118_82 (Nat.le_of_ble_eq_true rfl) rfl rfl rfl (Nat.le_of_ble_eq_true rfl) ?_
              refine wp_in (L := [some (.ref 89), some (.int (0)), some (.int (1)), some (.int _)]) (Nat.le_of_ble_eq_true rfl) rfl ?_
              refine g_aload_n m112_0 rfl ?_
              refine g_gf m112_1 rfl rfl ?_
              refine g_bipush m112_4 ?_
              refine g_bipush m112_6 ?_
              refine g_iload_n m112_8 rfl ?_
              refine g_imul (u := (0 : Int32)) m112_9 (by decide) ?_
              refine g_iadd (u := (16 : Int32)) m112_10 (by decide) ?_
              refine g_iload_n m112_11 rfl ?_
              refine g_iadd (u := (17 : Int32)) m112_12 (by decide) ?_
              refine g_iload_n m112_13 rfl ?_
              refine g_iast m112_14 (Nat.le_of_ble_eq_true rfl) rfl (vin rfl) rfl rfl (set_n0 rfl) ?_
              refine g_vret m112_15 ?_
              refine gwst (st' := []) rfl ?_
              refine g_aload_n m118_85 rfl ?_
              refine g_iload m118_86 rfl ?_
              refine g_iconst m118_88 ?_
              refine g_iload_n m118_89 rfl ?_
              refine g_cv (args := [.int (0), .int (2), .int _]) (rest := []) m118_90 (Nat.le_of_ble_eq_true rfl) rfl rfl rfl (Nat.le_of_ble_eq_true rfl) ?_
              refine wp_in (L := [some (.ref 89), some (.int (0)), some (.int (2)), some (.int _)]) (Nat.le_of_ble_eq_true rfl) rfl ?_
              refine g_aload_n m112_0 rfl ?_
              refine g_gf m112_1 rfl rfl ?_
              refine g_bipush m112_4 ?_
              refine g_bipush m112_6 ?_
              refine g_iload_n m112_8 rfl ?_
              refine g_imul (u := (0 : Int32)) m112_9 (by decide) ?_
              refine g_iadd (u := (16 : Int32)) m112_10 (by decide) ?_
              refine g_iload_n m112_11 rfl ?_
              refine g_iadd (u := (18 : Int32)) m112_12 (by decide) ?_
              refine g_iload_n m112_13 rfl ?_
              refine g_iast m112_14 (Nat.le_of_ble_eq_true rfl) rfl (vin rfl) rfl rfl (set_n0 rfl) ?_
              refine g_vret m112_15 ?_
              refine gwst (st' := []) rfl ?_
              refine g_aload_n m118_93 rfl ?_
              refine g_iload m118_94 rfl ?_
              refine g_iconst m118_96 ?_
              refine g_iload_n m118_97 rfl ?_
              refine g_cv (args := [.int (0), .int (3), .int _]) (rest := []) m118_98 (Nat.le_of_ble_eq_true rfl) rfl rfl rfl (Nat.le_of_ble_eq_true rfl) ?_
              refine wp_in (L := [some (.ref 89), some (.int (0)), some (.int (3)), some (.int _)]) (Nat.le_of_ble_eq_true rfl) rfl ?_
              refine g_aload_n m112_0 rfl ?_
              refine g_gf m112_1 rfl rfl ?_
              refine g_bipush m112_4 ?_
              refine g_bipush m112_6 ?_
              refine g_iload_n m112_8 rfl ?_
              refine g_imul (u := (0 : Int32)) m112_9 (by decide) ?_
              refine g_iadd (u := (16 : Int32)) m112_10 (by decide) ?_
              refine g_iload_n m112_11 rfl ?_
              refine g_iadd (u := (19 : Int32)) m112_12 (by decide) ?_
              refine g_iload_n m112_13 rfl ?_
              refine g_iast m112_14 (Nat.le_of_ble_eq_true rfl) rfl (vin rfl) rfl rfl (set_n0 rfl) ?_
              refine g_vret m112_15 ?_
              refine gwst (st' := []) rfl ?_
              refine g_aload_n m118_101 rfl ?_
              refine g_iload m118_102 rfl ?_
              refine g_iconst m118_104 ?_
              refine g_iconst m118_105 ?_
              refine g_cv (args := [.int (0), .int (4), .int (0)]) (rest := []) m118_106 (Nat.le_of_ble_eq_true rfl) rfl rfl rfl (Nat.le_of_ble_eq_true rfl) ?_
              refine wp_in (L := [some (.ref 89), some (.int (0)), some (.int (4)), some (.int (0))]) (Nat.le_of_ble_eq_true rfl) rfl ?_
              refine g_aload_n m112_0 rfl ?_
              refine g_gf m112_1 rfl rfl ?_
              refine g_bipush m112_4 ?_
              refine g_bipush m112_6 ?_
              refine g_iload_n m112_8 rfl ?_
              refine g_imul (u := (0 : Int32)) m112_9 (by decide) ?_
              refine g_iadd (u := (16 : Int32)) m112_10 (by decide) ?_
              refine g_iload_n m112_11 rfl ?_
              refine g_iadd (u := (20 : Int32)) m112_12 (by decide) ?_
              refine g_iload_n m112_13 rfl ?_
              refine g_iast m112_14 (Nat.le_of_ble_eq_true rfl) rfl (vin rfl) rfl rfl (set_n0 rfl) ?_
              refine g_vret m112_15 ?_
              refine gwst (st' := []) rfl ?_
              refine g_aload_n m118_109 rfl ?_
              refine g_iload m118_110 rfl ?_
              refine g_iconst m118_112 ?_
              refine g_iconst m118_113 ?_
              refine g_cv (args := [.int (0), .int (5), .int (0)]) (rest := []) m118_114 (Nat.le_of_ble_eq_true rfl) rfl rfl rfl (Nat.le_of_ble_eq_true rfl) ?_
              refine wp_in (L := [some (.ref 89), some (.int (0)), some (.int (5)), some (.int (0))]) (Nat.le_of_ble_eq_true rfl) rfl ?_
              refine g_aload_n m112_0 rfl ?_
              refine g_gf m112_1 rfl rfl ?_
              refine g_bipush m112_4 ?_
              refine g_bipush m112_6 ?_
              refine g_iload_n m112_8 rfl ?_
              refine g_imul (u := (0 : Int32)) m112_9 (by decide) ?_
              refine g_iadd (u := (16 : Int32)) m112_10 (by decide) ?_
              refine g_iload_n m112_11 rfl ?_
              refine g_iadd (u := (21 : Int32)) m112_12 (by decide) ?_
              refine g_iload_n m112_13 rfl ?_
              refine g_iast m112_14 (Nat.le_of_ble_eq_true rfl) rfl (vin rfl) rfl rfl (set_n0 rfl) ?_
              refine g_vret m112_15 ?_
              refine gwst (st' := []) rfl ?_
              refine g_aload_n m118_117 rfl ?_
              refine g_gf m118_118 rfl rfl ?_
              refine g_iconst m118_121 ?_
              refine g_dup2 m118_122 rfl rfl ?_
              refine g_iald (x := (0 : Int32)) m118_123 rfl (vin rfl) rfl ?_
              refine g_iconst m118_124 ?_
              refine g_iadd (u := (1 : Int32)) m118_125 (by decide) ?_
              refine g_iast m118_126 (Nat.le_of_ble_eq_true rfl) rfl (vin rfl) rfl rfl (set_n0 rfl) ?_
              refine g_iload m118_127 rfl ?_
              refine g_iret m118_129 rfl ?_
              refine gwst (st' := [.int (0), .int (0)]) rfl ?_
              refine g_ic_eqT m190_325 (by decide) ?_
              refine g_iinc (x2 := (6 : Int32)) (L2 := [some (.ref 0), some (.ref 32), some (.ref 89), some (.int (6))]) m190_1428 rfl (by decide) rfl rfl ?_
              refine g_goto m190_1431 ?_
              refine g_iload_n m190_18 rfl ?_
              refine g_aload_n m190_19 rfl ?_
              refine g_alen (n := 6) m190_20 rfl (Or.inl rfl) rfl ?_
              refine g_bipush m190_21 ?_
              refine g_isub (u := (0 : Int32)) m190_23 (by decide) ?_
              refine g_ic_gtT m190_24 (by decide) ?_
              refine g_iconst m190_1434 ?_
              refine g_zret m190_1435 rfl (Or.inr rfl) ?_
              exact rfl
set_option maxRecDepth 20000 in
set_option maxHeartbeats 40000000 in
theorem lc_4 {s0 s1 s2 s3 s4 s5 : Int32} {d mc ms : Nat} : gw [s0, s1, s2, s3, s4, s5] (WP [s0, s1, s2, s3, s4, s5] (d + 20)) 190 (fun r _ => r = some (.int 1)) 330 [some (.ref 0), some (.ref 32), some (.ref 89), some (.int 0)] [] (hX0 ++ hM0) mc ms := by
  refine g_aload_n m190_330 rfl ?_
  refine g_aload_n m190_331 rfl ?_
  refine g_iload_n m190_332 rfl ?_
  refine g_iconst m190_333 ?_
  refine g_iadd (u := (1 : Int32)) m190_334 (by decide) ?_
  refine g_iald (x := s1) m190_335 rfl (vin rfl) rfl ?_
  refine g_aload_n m190_336 rfl ?_
  refine g_iload_n m190_337 rfl ?_
  refine g_iconst m190_338 ?_
  refine g_iadd (u := (2 : Int32)) m190_339 (by decide) ?_
  refine g_iald (x := s2) m190_340 rfl (vin rfl) rfl ?_
  refine g_cv (args := [.int _, .int _]) (rest := []) m190_341 (Nat.le_of_ble_eq_true rfl) rfl rfl rfl (Nat.le_of_ble_eq_true rfl) ?_
  refine wp_in (L := [some (.ref 32), some (.int _), some (.int _)]) (Nat.le_of_ble_eq_true rfl) rfl ?_
  refine g_aload_n m61_0 rfl ?_
  refine g_iload_n m61_1 rfl ?_
  refine g_cv (args := [.int _]) (rest := []) m61_2 (Nat.le_of_ble_eq_true rfl) rfl rfl rfl (Nat.le_of_ble_eq_true rfl) ?_
  refine wp_in (L := [some (.ref 32), some (.int _)]) (Nat.le_of_ble_eq_true rfl) rfl ?_
  refine g_iload_n m60_0 rfl ?_
  refine g_if_lt m60_1 (fun c1 => ?_) (fun c1 => ?_)
  · have d2 : (s1).toInt < 0 := (lt_k (by rfl) (by rfl)).mp c1
    refine g_iconst m60_19 ?_
    refine g_zret m60_20 rfl (Or.inl rfl) ?_
    refine gwst (st' := [.int (0)]) rfl ?_
    refine g_if_neT m61_5 (by decide) ?_
    refine g_aload_n m61_8 rfl ?_
    refine g_iconst m61_9 ?_
    refine g_cv (args := [.int (1)]) (rest := []) m61_10 (Nat.le_of_ble_eq_true rfl) rfl rfl rfl (Nat.le_of_ble_eq_true rfl) ?_
    refine wp_in (L := [some (.ref 32), some (.int (1))]) (Nat.le_of_ble_eq_true rfl) rfl ?_
    refine g_aload_n m55_0 rfl ?_
    refine g_gf m55_1 rfl rfl ?_
    refine g_iload_n m55_4 rfl ?_
    refine g_dup2 m55_5 rfl rfl ?_
    refine g_iald (x := (0 : Int32)) m55_6 rfl (vin rfl) rfl ?_
    refine g_iconst m55_7 ?_
    refine g_iadd (u := (1 : Int32)) m55_8 (by decide) ?_
    refine g_iast m55_9 (Nat.le_of_ble_eq_true rfl) rfl (vin rfl) rfl rfl rfl ?_
    refine g_ldcw m55_10 ?_
    refine g_iload_n m55_13 rfl ?_
    refine g_isub (u := (-1000000001 : Int32)) m55_14 (by decide) ?_
    refine g_iret m55_15 rfl ?_
    refine gwst (st' := [.int (-1000000001)]) rfl ?_
    refine g_iret m61_13 rfl ?_
    refine gwst (st' := [.int (-1000000001)]) rfl ?_
    refine FRg rfl (fun f => ?_)
    refine g_aload_n m190_344 rfl ?_
    refine g_aload_n m190_345 rfl ?_
    refine g_iload_n m190_346 rfl ?_
    refine g_iconst m190_347 ?_
    refine g_iadd (u := (1 : Int32)) m190_348 (by decide) ?_
    refine g_iald (x := s1) m190_349 rfl (vin rfl) rfl ?_
    refine g_aload_n m190_350 rfl ?_
    refine g_iload_n m190_351 rfl ?_
    refine g_iconst m190_352 ?_
    refine g_iadd (u := (2 : Int32)) m190_353 (by decide) ?_
    refine g_iald (x := s2) m190_354 rfl (vin rfl) rfl ?_
    refine g_cv (args := [.int _, .int _]) (rest := [.int (-1000000001)]) m190_355 (Nat.le_of_ble_eq_true rfl) rfl rfl rfl (Nat.le_of_ble_eq_true rfl) ?_
    refine wp_in (L := [some (.ref 89), some (.int _), some (.int _)]) (Nat.le_of_ble_eq_true rfl) rfl ?_
    refine g_aload_n m133_0 rfl ?_
    refine g_iload_n m133_1 rfl ?_
    refine g_cv (args := [.int _]) (rest := []) m133_2 (Nat.le_of_ble_eq_true rfl) rfl rfl rfl (Nat.le_of_ble_eq_true rfl) ?_
    refine wp_in (L := [some (.ref 89), some (.int _)]) (Nat.le_of_ble_eq_true rfl) rfl ?_
    refine g_iload_n m113_0 rfl ?_
    refine g_iconst m113_1 ?_
    refine g_aload_n m113_2 rfl ?_
    refine g_gf m113_3 rfl rfl ?_
    refine g_iconst m113_6 ?_
    refine g_iald (x := (0 : Int32)) m113_7 rfl (vin rfl) rfl ?_
    refine g_iconst m113_8 ?_
    refine g_isub (u := (-1 : Int32)) m113_9 (by decide) ?_
    refine g_cs (args := [.int _, .int (0), .int (-1)]) (rest := []) 0 (Or.inl rfl) m113_10 (Nat.le_of_ble_eq_true rfl) rfl rfl (Nat.le_of_ble_eq_true rfl) ?_
    refine wp_in (L := [some (.int _), some (.int (0)), some (.int (-1))]) (Nat.le_of_ble_eq_true rfl) rfl ?_
    refine g_iload_n m107_0 rfl ?_
    refine g_iload_n m107_1 rfl ?_
    refine g_ic_ltT m107_2 ((lt_k (a := (s1).toInt) (b := 0) (by rfl) (by rfl)).mpr (by omega)) ?_
    refine g_iconst m107_14 ?_
    refine g_zret m107_15 rfl (Or.inl rfl) ?_
    refine gwst (st' := [.int (0)]) rfl ?_
    refine g_zret m113_13 rfl (Or.inl rfl) ?_
    refine gwst (st' := [.int (0)]) rfl ?_
    refine g_if_eqT m133_5 (by decide) ?_
    refine g_aload_n m133_18 rfl ?_
    refine g_ldci m133_19 rfl ?_
    refine g_cv (args := [.int (-1000000001)]) (rest := []) m133_21 (Nat.le_of_ble_eq_true rfl) rfl rfl rfl (Nat.le_of_ble_eq_true rfl) ?_
    refine wp_in (L := [some (.ref 89), some (.int (-1000000001))]) (Nat.le_of_ble_eq_true rfl) rfl ?_
    refine g_aload_n m108_0 rfl ?_
    refine g_gf m108_1 rfl rfl ?_
    refine g_ldci m108_4 rfl ?_
    refine g_iload_n m108_6 rfl ?_
    refine g_isub (u := (1 : Int32)) m108_7 (by decide) ?_
    refine g_dup2 m108_8 rfl rfl ?_
    refine g_iald (x := (0 : Int32)) m108_9 rfl (vin rfl) rfl ?_
    refine g_iconst m108_10 ?_
    refine g_iadd (u := (1 : Int32)) m108_11 (by decide) ?_
    refine g_iast m108_12 (Nat.le_of_ble_eq_true rfl) rfl (vin rfl) rfl rfl rfl ?_
    refine g_iload_n m108_13 rfl ?_
    refine g_iret m108_14 rfl ?_
    refine gwst (st' := [.int (-1000000001)]) rfl ?_
    refine g_iret m133_24 rfl ?_
    refine gwst (st' := [.int (-1000000001), .int (-1000000001)]) rfl ?_
    refine g_ic_eqT m190_358 (by decide) ?_
    refine g_iinc (x2 := (6 : Int32)) (L2 := [some (.ref 0), some (.ref 32), some (.ref 89), some (.int (6))]) m190_1428 rfl (by decide) rfl rfl ?_
    refine g_goto m190_1431 ?_
    refine g_iload_n m190_18 rfl ?_
    refine g_aload_n m190_19 rfl ?_
    refine g_alen (n := 6) m190_20 rfl (Or.inl rfl) rfl ?_
    refine g_bipush m190_21 ?_
    refine g_isub (u := (0 : Int32)) m190_23 (by decide) ?_
    refine g_ic_gtT m190_24 (by decide) ?_
    refine g_iconst m190_1434 ?_
    refine g_zret m190_1435 rfl (Or.inr rfl) ?_
    exact rfl
  · have d2 : ¬ ((s1).toInt < 0) := fun q => c1 ((lt_k (by rfl) (by rfl)).mpr q)
    refine g_iload_n m60_4 rfl ?_
    refine g_aload_n m60_5 rfl ?_
    refine g_gf m60_6 rfl rfl ?_
    refine g_gf m60_9 rfl rfl ?_
    refine g_ic_geT m60_12 ((le_k (a := 0) (b := (s1).toInt) (by rfl) (by rfl)).mpr (by omega)) ?_
    refine g_iconst m60_19 ?_
    refine g_zret m60_20 rfl (Or.inl rfl) ?_
    refine gwst (st' := [.int (0)]) rfl ?_
    refine g_if_neT m61_5 (by decide) ?_
    refine g_aload_n m61_8 rfl ?_
    refine g_iconst m61_9 ?_
    refine g_cv (args := [.int (1)]) (rest := []) m61_10 (Nat.le_of_ble_eq_true rfl) rfl rfl rfl (Nat.le_of_ble_eq_true rfl) ?_
    refine wp_in (L := [some (.ref 32), some (.int (1))]) (Nat.le_of_ble_eq_true rfl) rfl ?_
    refine g_aload_n m55_0 rfl ?_
    refine g_gf m55_1 rfl rfl ?_
    refine g_iload_n m55_4 rfl ?_
    refine g_dup2 m55_5 rfl rfl ?_
    refine g_iald (x := (0 : Int32)) m55_6 rfl (vin rfl) rfl ?_
    refine g_iconst m55_7 ?_
    refine g_iadd (u := (1 : Int32)) m55_8 (by decide) ?_
    refine g_iast m55_9 (Nat.le_of_ble_eq_true rfl) rfl (vin rfl) rfl rfl rfl ?_
    refine g_ldcw m55_10 ?_
    refine g_iload_n m55_13 rfl ?_
    refine g_isub (u := (-1000000001 : Int32)) m55_14 (by decide) ?_
    refine g_iret m55_15 rfl ?_
    refine gwst (st' := [.int (-1000000001)]) rfl ?_
    refine g_iret m61_13 rfl ?_
    refine gwst (st' := [.int (-1000000001)]) rfl ?_
    refine FRg rfl (fun f => ?_)
    refine g_aload_n m190_344 rfl ?_
    refine g_aload_n m190_345 rfl ?_
    refine g_iload_n m190_346 rfl ?_
    refine g_iconst m190_347 ?_
    refine g_iadd (u := (1 : Int32)) m190_348 (by decide) ?_
    refine g_iald (x := s1) m190_349 rfl (vin rfl) rfl ?_
    refine g_aload_n m190_350 rfl ?_
    refine g_iload_n m190_351 rfl ?_
    refine g_iconst m190_352 ?_
    refine g_iadd (u := (2 : Int32)) m190_353 (by decide) ?_
    refine g_iald (x := s2) m190_354 rfl (vin rfl) rfl ?_
    refine g_cv (args := [.int _, .int _]) (rest := [.int (-1000000001)]) m190_355 (Nat.le_of_ble_eq_true rfl) rfl rfl rfl (Nat.le_of_ble_eq_true rfl) ?_
    refine wp_in (L := [some (.ref 89), some (.int _), some (.int _)]) (Nat.le_of_ble_eq_true rfl) rfl ?_
    refine g_aload_n m133_0 rfl ?_
    refine g_iload_n m133_1 rfl ?_
    refine g_cv (args := [.int _]) (rest := []) m133_2 (Nat.le_of_ble_eq_true rfl) rfl rfl rfl (Nat.le_of_ble_eq_true rfl) ?_
    refine wp_in (L := [some (.ref 89), some (.int _)]) (Nat.le_of_ble_eq_true rfl) rfl ?_
    refine g_iload_n m113_0 rfl ?_
    refine g_iconst m113_1 ?_
    refine g_aload_n m113_2 rfl ?_
    refine g_gf m113_3 rfl rfl ?_
    refine g_iconst m113_6 ?_
    refine g_iald (x := (0 : Int32)) m113_7 rfl (vin rfl) rfl ?_
    refine g_iconst m113_8 ?_
    refine g_isub (u := (-1 : Int32)) m113_9 (by decide) ?_
    refine g_cs (args := [.int _, .int (0), .int (-1)]) (rest := []) 0 (Or.inl rfl) m113_10 (Nat.le_of_ble_eq_true rfl) rfl rfl (Nat.le_of_ble_eq_true rfl) ?_
    refine wp_in (L := [some (.int _), some (.int (0)), some (.int (-1))]) (Nat.le_of_ble_eq_true rfl) rfl ?_
    refine g_iload_n m107_0 rfl ?_
    refine g_iload_n m107_1 rfl ?_
    refine g_ic_ltF m107_2 (fun q => absurd ((lt_k (a := (s1).toInt) (b := 0) (by rfl) (by rfl)).mp q) (by omega)) ?_
    refine g_iload_n m107_5 rfl ?_
    refine g_iload_n m107_6 rfl ?_
    refine g_ic_gtT m107_7 ((lt_k (a := (-1)) (b := (s1).toInt) (by rfl) (by rfl)).mpr (by omega)) ?_
    refine g_iconst m107_14 ?_
    refine g_zret m107_15 rfl (Or.inl rfl) ?_
    refine gwst (st' := [.int (0)]) rfl ?_
    refine g_zret m113_13 rfl (Or.inl rfl) ?_
    refine gwst (st' := [.int (0)]) rfl ?_
    refine g_if_eqT m133_5 (by decide) ?_
    refine g_aload_n m133_18 rfl ?_
    refine g_ldci m133_19 rfl ?_
    refine g_cv (args := [.int (-1000000001)]) (rest := []) m133_21 (Nat.le_of_ble_eq_true rfl) rfl rfl rfl (Nat.le_of_ble_eq_true rfl) ?_
    refine wp_in (L := [some (.ref 89), some (.int (-1000000001))]) (Nat.le_of_ble_eq_true rfl) rfl ?_
    refine g_aload_n m108_0 rfl ?_
    refine g_gf m108_1 rfl rfl ?_
    refine g_ldci m108_4 rfl ?_
    refine g_iload_n m108_6 rfl ?_
    refine g_isub (u := (1 : Int32)) m108_7 (by decide) ?_
    refine g_dup2 m108_8 rfl rfl ?_
    refine g_iald (x := (0 : Int32)) m108_9 rfl (vin rfl) rfl ?_
    refine g_iconst m108_10 ?_
    refine g_iadd (u := (1 : Int32)) m108_11 (by decide) ?_
    refine g_iast m108_12 (Nat.le_of_ble_eq_true rfl) rfl (vin rfl) rfl rfl rfl ?_
    refine g_iload_n m108_13 rfl ?_
    refine g_iret m108_14 rfl ?_
    refine gwst (st' := [.int (-1000000001)]) rfl ?_
    refine g_iret m133_24 rfl ?_
    refine gwst (st' := [.int (-1000000001), .int (-1000000001)]) rfl ?_
    refine g_ic_eqT m190_358 (by decide) ?_
    refine g_iinc (x2 := (6 : Int32)) (L2 := [some (.ref 0), some (.ref 32), some (.ref 89), some (.int (6))]) m190_1428 rfl (by decide) rfl rfl ?_
    refine g_goto m190_1431 ?_
    refine g_iload_n m190_18 rfl ?_
    refine g_aload_n m190_19 rfl ?_
    refine g_alen (n := 6) m190_20 rfl (Or.inl rfl) rfl ?_
    refine g_bipush m190_21 ?_
    refine g_isub (u := (0 : Int32)) m190_23 (by decide) ?_
    refine g_ic_gtT m190_24 (by decide) ?_
    refine g_iconst m190_1434 ?_
    refine g_zret m190_1435 rfl (Or.inr rfl) ?_
    exact rfl
