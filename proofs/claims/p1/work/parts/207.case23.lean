/-! THE LAW'S CASES 23, 24, 25, 26, 27, 28, over two new objects -/
set_option maxRecDepth 20000 in
set_option maxHeartbeats 40000000 in
theorem lc_23 {s0 s1 s2 s3 s4 s5 : Int32} {d mc ms : Nat} : gw [s0, s1, s2, s3, s4, s5] (WP [s0, s1, s2, s3, s4, s5] (d + 20)) 190 (fun r _ => r = some (.int 1)) 937 [some (.ref 0), some (.ref 32), some (.ref 89), some (.int 0)] [] (hX0 ++ hM0) mc ms := by
  refine g_aload_n m190_937 rfl ?_
  refine g_aload_n m190_938 rfl ?_
  refine g_iload_n m190_939 rfl ?_
  refine g_iconst m190_940 ?_
  refine g_iadd (u := (1 : Int32)) m190_941 (by decide) ?_
  refine g_iald (x := s1) m190_942 rfl (vin rfl) rfl ?_
  refine g_aload_n m190_943 rfl ?_
  refine g_iload_n m190_944 rfl ?_
  refine g_iconst m190_945 ?_
  refine g_iadd (u := (2 : Int32)) m190_946 (by decide) ?_
  refine g_iald (x := s2) m190_947 rfl (vin rfl) rfl ?_
  refine g_cv (args := [.int _, .int _]) (rest := []) m190_948 (Nat.le_of_ble_eq_true rfl) rfl rfl rfl (Nat.le_of_ble_eq_true rfl) ?_
  refine wp_in (L := [some (.ref 32), some (.int _), some (.int _), none, none]) (Nat.le_of_ble_eq_true rfl) rfl ?_
  refine g_iload_n m86_0 rfl ?_
  refine g_iconst m86_1 ?_
  refine g_ic_lt m86_2 (fun c1 => ?_) (fun c1 => ?_)
  · have d2 : (s1).toInt < 1 := (lt_k (by rfl) (by rfl)).mp c1
    refine g_aload_n m86_20 rfl ?_
    refine g_iconst m86_21 ?_
    refine g_cv (args := [.int (1)]) (rest := []) m86_22 (Nat.le_of_ble_eq_true rfl) rfl rfl rfl (Nat.le_of_ble_eq_true rfl) ?_
    refine wp_in (L := [some (.ref 32), some (.int (1))]) (Nat.le_of_ble_eq_true rfl) rfl ?_
    refine g_aload_n m55_0 rfl ?_
    refine g_gf m55_1 rfl rfl ?_
    refine g_iload_n m55_4 rfl ?_
    refine g_dup2 m55_5 rfl rfl ?_
    refine g_iald (x := (0 : Int32)) m55_6 rfl (vin rfl) rfl ?_
    refine g_iconst m55_7 ?_
    refine g_iadd (u := (1 : Int32)) m55_8 (by decide) ?_
    refine g_iast m55_9 (Nat.le_of_ble_eq_true rfl) rfl (vin rfl) rfl rfl rfl ?_
    refine g_ldcw m55_10 ?_
    refine g_iload_n m55_13 rfl ?_
    refine g_isub (u := (-1000000001 : Int32)) m55_14 (by decide) ?_
    refine g_iret m55_15 rfl ?_
    refine gwst (st' := [.int (-1000000001)]) rfl ?_
    refine g_iret m86_25 rfl ?_
    refine gwst (st' := [.int (-1000000001)]) rfl ?_
    refine FRg rfl (fun f => ?_)
    refine g_aload_n m190_951 rfl ?_
    refine g_aload_n m190_952 rfl ?_
    refine g_iload_n m190_953 rfl ?_
    refine g_iconst m190_954 ?_
    refine g_iadd (u := (1 : Int32)) m190_955 (by decide) ?_
    refine g_iald (x := s1) m190_956 rfl (vin rfl) rfl ?_
    refine g_aload_n m190_957 rfl ?_
    refine g_iload_n m190_958 rfl ?_
    refine g_iconst m190_959 ?_
    refine g_iadd (u := (2 : Int32)) m190_960 (by decide) ?_
    refine g_iald (x := s2) m190_961 rfl (vin rfl) rfl ?_
    refine g_cv (args := [.int _, .int _]) (rest := [.int (-1000000001)]) m190_962 (Nat.le_of_ble_eq_true rfl) rfl rfl rfl (Nat.le_of_ble_eq_true rfl) ?_
    refine wp_in (L := [some (.ref 89), some (.int _), some (.int _), none, none, none]) (Nat.le_of_ble_eq_true rfl) rfl ?_
    refine g_iload_n m166_0 rfl ?_
    refine g_iconst m166_1 ?_
    refine g_bipush m166_2 ?_
    refine g_cs (args := [.int _, .int (1), .int (99)]) (rest := []) 0 (Or.inl rfl) m166_4 (Nat.le_of_ble_eq_true rfl) rfl rfl (Nat.le_of_ble_eq_true rfl) ?_
    refine wp_in (L := [some (.int _), some (.int (1)), some (.int (99))]) (Nat.le_of_ble_eq_true rfl) rfl ?_
    refine g_iload_n m107_0 rfl ?_
    refine g_iload_n m107_1 rfl ?_
    refine g_ic_ltT m107_2 ((lt_k (a := (s1).toInt) (b := 1) (by rfl) (by rfl)).mpr (by omega)) ?_
    refine g_iconst m107_14 ?_
    refine g_zret m107_15 rfl (Or.inl rfl) ?_
    refine gwst (st' := [.int (0)]) rfl ?_
    refine g_if_eqT m166_7 (by decide) ?_
    refine g_aload_n m166_20 rfl ?_
    refine g_ldci m166_21 rfl ?_
    refine g_cv (args := [.int (-1000000001)]) (rest := []) m166_23 (Nat.le_of_ble_eq_true rfl) rfl rfl rfl (Nat.le_of_ble_eq_true rfl) ?_
    refine wp_in (L := [some (.ref 89), some (.int (-1000000001))]) (Nat.le_of_ble_eq_true rfl) rfl ?_
    refine g_aload_n m108_0 rfl ?_
    refine g_gf m108_1 rfl rfl ?_
    refine g_ldci m108_4 rfl ?_
    refine g_iload_n m108_6 rfl ?_
    refine g_isub (u := (1 : Int32)) m108_7 (by decide) ?_
    refine g_dup2 m108_8 rfl rfl ?_
    refine g_iald (x := (0 : Int32)) m108_9 rfl (vin rfl) rfl ?_
    refine g_iconst m108_10 ?_
    refine g_iadd (u := (1 : Int32)) m108_11 (by decide) ?_
    refine g_iast m108_12 (Nat.le_of_ble_eq_true rfl) rfl (vin rfl) rfl rfl rfl ?_
    refine g_iload_n m108_13 rfl ?_
    refine g_iret m108_14 rfl ?_
    refine gwst (st' := [.int (-1000000001)]) rfl ?_
    refine g_iret m166_26 rfl ?_
    refine gwst (st' := [.int (-1000000001), .int (-1000000001)]) rfl ?_
    refine g_ic_eqT m190_965 (by decide) ?_
    refine g_iinc (x2 := (6 : Int32)) (L2 := [some (.ref 0), some (.ref 32), some (.ref 89), some (.int (6))]) m190_1428 rfl (by decide) rfl rfl ?_
    refine g_goto m190_1431 ?_
    refine g_iload_n m190_18 rfl ?_
    refine g_aload_n m190_19 rfl ?_
    refine g_alen (n := 6) m190_20 rfl (Or.inl rfl) rfl ?_
    refine g_bipush m190_21 ?_
    refine g_isub (u := (0 : Int32)) m190_23 (by decide) ?_
    refine g_ic_gtT m190_24 (by decide) ?_
    refine g_iconst m190_1434 ?_
    refine g_zret m190_1435 rfl (Or.inr rfl) ?_
    exact rfl
  · have d2 : ¬ ((s1).toInt < 1) := fun q => c1 ((lt_k (by rfl) (by rfl)).mpr q)
    refine g_iload_n m86_5 rfl ?_
    refine g_bipush m86_6 ?_
    refine g_ic_gt m86_8 (fun c3 => ?_) (fun c3 => ?_)
    · have d4 : 99 < (s1).toInt := (lt_k (by rfl) (by rfl)).mp c3
      refine g_aload_n m86_20 rfl ?_
      refine g_iconst m86_21 ?_
      refine g_cv (args := [.int (1)]) (rest := []) m86_22 (Nat.le_of_ble_eq_true rfl) rfl rfl rfl (Nat.le_of_ble_eq_true rfl) ?_
      refine wp_in (L := [some (.ref 32), some (.int (1))]) (Nat.le_of_ble_eq_true rfl) rfl ?_
      refine g_aload_n m55_0 rfl ?_
      refine g_gf m55_1 rfl rfl ?_
      refine g_iload_n m55_4 rfl ?_
      refine g_dup2 m55_5 rfl rfl ?_
      refine g_iald (x := (0 : Int32)) m55_6 rfl (vin rfl) rfl ?_
      refine g_iconst m55_7 ?_
      refine g_iadd (u := (1 : Int32)) m55_8 (by decide) ?_
      refine g_iast m55_9 (Nat.le_of_ble_eq_true rfl) rfl (vin rfl) rfl rfl rfl ?_
      refine g_ldcw m55_10 ?_
      refine g_iload_n m55_13 rfl ?_
      refine g_isub (u := (-1000000001 : Int32)) m55_14 (by decide) ?_
      refine g_iret m55_15 rfl ?_
      refine gwst (st' := [.int (-1000000001)]) rfl ?_
      refine g_iret m86_25 rfl ?_
      refine gwst (st' := [.int (-1000000001)]) rfl ?_
      refine FRg rfl (fun f => ?_)
      refine g_aload_n m190_951 rfl ?_
      refine g_aload_n m190_952 rfl ?_
      refine g_iload_n m190_953 rfl ?_
      refine g_iconst m190_954 ?_
      refine g_iadd (u := (1 : Int32)) m190_955 (by decide) ?_
      refine g_iald (x := s1) m190_956 rfl (vin rfl) rfl ?_
      refine g_aload_n m190_957 rfl ?_
      refine g_iload_n m190_958 rfl ?_
      refine g_iconst m190_959 ?_
      refine g_iadd (u := (2 : Int32)) m190_960 (by decide) ?_
      refine g_iald (x := s2) m190_961 rfl (vin rfl) rfl ?_
      refine g_cv (args := [.int _, .int _]) (rest := [.int (-1000000001)]) m190_962 (Nat.le_of_ble_eq_true rfl) rfl rfl rfl (Nat.le_of_ble_eq_true rfl) ?_
      refine wp_in (L := [some (.ref 89), some (.int _), some (.int _), none, none, none]) (Nat.le_of_ble_eq_true rfl) rfl ?_
      refine g_iload_n m166_0 rfl ?_
      refine g_iconst m166_1 ?_
      refine g_bipush m166_2 ?_
      refine g_cs (args := [.int _, .int (1), .int (99)]) (rest := []) 0 (Or.inl rfl) m166_4 (Nat.le_of_ble_eq_true rfl) rfl rfl (Nat.le_of_ble_eq_true rfl) ?_
      refine wp_in (L := [some (.int _), some (.int (1)), some (.int (99))]) (Nat.le_of_ble_eq_true rfl) rfl ?_
      refine g_iload_n m107_0 rfl ?_
      refine g_iload_n m107_1 rfl ?_
      refine g_ic_ltF m107_2 (fun q => absurd ((lt_k (a := (s1).toInt) (b := 1) (by rfl) (by rfl)).mp q) (by omega)) ?_
      refine g_iload_n m107_5 rfl ?_
      refine g_iload_n m107_6 rfl ?_
      refine g_ic_gtT m107_7 ((lt_k (a := 99) (b := (s1).toInt) (by rfl) (by rfl)).mpr (by omega)) ?_
      refine g_iconst m107_14 ?_
      refine g_zret m107_15 rfl (Or.inl rfl) ?_
      refine gwst (st' := [.int (0)]) rfl ?_
      refine g_if_eqT m166_7 (by decide) ?_
      refine g_aload_n m166_20 rfl ?_
      refine g_ldci m166_21 rfl ?_
      refine g_cv (args := [.int (-1000000001)]) (rest := []) m166_23 (Nat.le_of_ble_eq_true rfl) rfl rfl rfl (Nat.le_of_ble_eq_true rfl) ?_
      refine wp_in (L := [some (.ref 89), some (.int (-1000000001))]) (Nat.le_of_ble_eq_true rfl) rfl ?_
      refine g_aload_n m108_0 rfl ?_
      refine g_gf m108_1 rfl rfl ?_
      refine g_ldci m108_4 rfl ?_
      refine g_iload_n m108_6 rfl ?_
      refine g_isub (u := (1 : Int32)) m108_7 (by decide) ?_
      refine g_dup2 m108_8 rfl rfl ?_
      refine g_iald (x := (0 : Int32)) m108_9 rfl (vin rfl) rfl ?_
      refine g_iconst m108_10 ?_
      refine g_iadd (u := (1 : Int32)) m108_11 (by decide) ?_
      refine g_iast m108_12 (Nat.le_of_ble_eq_true rfl) rfl (vin rfl) rfl rfl rfl ?_
      refine g_iload_n m108_13 rfl ?_
      refine g_iret m108_14 rfl ?_
      refine gwst (st' := [.int (-1000000001)]) rfl ?_
      refine g_iret m166_26 rfl ?_
      refine gwst (st' := [.int (-1000000001), .int (-1000000001)]) rfl ?_
      refine g_ic_eqT m190_965 (by decide) ?_
      refine g_iinc (x2 := (6 : Int32)) (L2 := [some (.ref 0), some (.ref 32), some (.ref 89), some (.int (6))]) m190_1428 rfl (by decide) rfl rfl ?_
      refine g_goto m190_1431 ?_
      refine g_iload_n m190_18 rfl ?_
      refine g_aload_n m190_19 rfl ?_
      refine g_alen (n := 6) m190_20 rfl (Or.inl rfl) rfl ?_
      refine g_bipush m190_21 ?_
      refine g_isub (u := (0 : Int32)) m190_23 (by decide) ?_
      refine g_ic_gtT m190_24 (by decide) ?_
      refine g_iconst m190_1434 ?_
      refine g_zret m190_1435 rfl (Or.inr rfl) ?_
      exact rfl
    · have d4 : ¬ (99 < (s1).toInt) := fun q => c3 ((lt_k (by rfl) (by rfl)).mpr q)
      refine g_iload_n m86_11 rfl ?_
      refine g_bipush m86_12 ?_
      refine g_cs (args := [.int _, .int (60)]) (rest := []) 0 (Or.inl rfl) m86_14 (Nat.le_of_ble_eq_true rfl) rfl rfl (Nat.le_of_ble_eq_true rfl) ?_
      refine wp_in (L := [some (.int _), some (.int (60))]) (Nat.le_of_ble_eq_true rfl) rfl ?_
      refine g_iload_n m54_0 rfl ?_
      refine g_if_lt m54_1 (fun c5 => ?_) (fun c5 => ?_)
      · have d6 : (s2).toInt < 0 := (lt_k (by rfl) (by rfl)).mp c5
        refine g_iconst m54_13 ?_
        refine g_zret m54_14 rfl (Or.inl rfl) ?_
        refine gwst (st' := [.int (0)]) rfl ?_
        refine g_if_neT m86_17 (by decide) ?_
        refine g_aload_n m86_20 rfl ?_
        refine g_iconst m86_21 ?_
        refine g_cv (args := [.int (1)]) (rest := []) m86_22 (Nat.le_of_ble_eq_true rfl) rfl rfl rfl (Nat.le_of_ble_eq_true rfl) ?_
        refine wp_in (L := [some (.ref 32), some (.int (1))]) (Nat.le_of_ble_eq_true rfl) rfl ?_
        refine g_aload_n m55_0 rfl ?_
        refine g_gf m55_1 rfl rfl ?_
        refine g_iload_n m55_4 rfl ?_
        refine g_dup2 m55_5 rfl rfl ?_
        refine g_iald (x := (0 : Int32)) m55_6 rfl (vin rfl) rfl ?_
        refine g_iconst m55_7 ?_
        refine g_iadd (u := (1 : Int32)) m55_8 (by decide) ?_
        refine g_iast m55_9 (Nat.le_of_ble_eq_true rfl) rfl (vin rfl) rfl rfl rfl ?_
        refine g_ldcw m55_10 ?_
        refine g_iload_n m55_13 rfl ?_
        refine g_isub (u := (-1000000001 : Int32)) m55_14 (by decide) ?_
        refine g_iret m55_15 rfl ?_
        refine gwst (st' := [.int (-1000000001)]) rfl ?_
        refine g_iret m86_25 rfl ?_
        refine gwst (st' := [.int (-1000000001)]) rfl ?_
        refine FRg rfl (fun f => ?_)
        refine g_aload_n m190_951 rfl ?_
        refine g_aload_n m190_952 rfl ?_
        refine g_iload_n m190_953 rfl ?_
        refine g_iconst m190_954 ?_
        refine g_iadd (u := (1 : Int32)) m190_955 (by decide) ?_
        refine g_iald (x := s1) m190_956 rfl (vin rfl) rfl ?_
        refine g_aload_n m190_957 rfl ?_
        refine g_iload_n m190_958 rfl ?_
        refine g_iconst m190_959 ?_
        refine g_iadd (u := (2 : Int32)) m190_960 (by decide) ?_
        refine g_iald (x := s2) m190_961 rfl (vin rfl) rfl ?_
        refine g_cv (args := [.int _, .int _]) (rest := [.int (-1000000001)]) m190_962 (Nat.le_of_ble_eq_true rfl) rfl rfl rfl (Nat.le_of_ble_eq_true rfl) ?_
        refine wp_in (L := [some (.ref 89), some (.int _), some (.int _), none, none, none]) (Nat.le_of_ble_eq_true rfl) rfl ?_
        refine g_iload_n m166_0 rfl ?_
        refine g_iconst m166_1 ?_
        refine g_bipush m166_2 ?_
        refine g_cs (args := [.int _, .int (1), .int (99)]) (rest := []) 0 (Or.inl rfl) m166_4 (Nat.le_of_ble_eq_true rfl) rfl rfl (Nat.le_of_ble_eq_true rfl) ?_
        refine wp_in (L := [some (.int _), some (.int (1)), some (.int (99))]) (Nat.le_of_ble_eq_true rfl) rfl ?_
        refine g_iload_n m107_0 rfl ?_
        refine g_iload_n m107_1 rfl ?_
        refine g_ic_ltF m107_2 (fun q => absurd ((lt_k (a := (s1).toInt) (b := 1) (by rfl) (by rfl)).mp q) (by omega)) ?_
        refine g_iload_n m107_5 rfl ?_
        refine g_iload_n m107_6 rfl ?_
        refine g_ic_gtF m107_7 (fun q => absurd ((lt_k (a := 99) (b := (s1).toInt) (by rfl) (by rfl)).mp q) (by omega)) ?_
        refine g_iconst m107_10 ?_
        refine g_goto m107_11 ?_
        refine g_zret m107_15 rfl (Or.inr rfl) ?_
        refine gwst (st' := [.int (1)]) rfl ?_
        refine g_if_eqF m166_7 (by decide) ?_
        refine g_iload_n m166_10 rfl ?_
        refine g_iconst m166_11 ?_
        refine g_bipush m166_12 ?_
        refine g_cs (args := [.int _, .int (0), .int (60)]) (rest := []) 0 (Or.inl rfl) m166_14 (Nat.le_of_ble_eq_true rfl) rfl rfl (Nat.le_of_ble_eq_true rfl) ?_
        refine wp_in (L := [some (.int _), some (.int (0)), some (.int (60))]) (Nat.le_of_ble_eq_true rfl) rfl ?_
        refine g_iload_n m107_0 rfl ?_
        refine g_iload_n m107_1 rfl ?_
        refine g_ic_ltT m107_2 ((lt_k (a := (s2).toInt) (b := 0) (by rfl) (by rfl)).mpr (by omega)) ?_
        refine g_iconst m107_14 ?_
        refine g_zret m107_15 rfl (Or.inl rfl) ?_
        refine gwst (st' := [.int (0)]) rfl ?_
        refine g_if_neT m166_17 (by decide) ?_
        refine g_aload_n m166_20 rfl ?_
        refine g_ldci m166_21 rfl ?_
        refine g_cv (args := [.int (-1000000001)]) (rest := []) m166_23 (Nat.le_of_ble_eq_true rfl) rfl rfl rfl (Nat.le_of_ble_eq_true rfl) ?_
        refine wp_in (L := [some (.ref 89), some (.int (-1000000001))]) (Nat.le_of_ble_eq_true rfl) rfl ?_
        refine g_aload_n m108_0 rfl ?_
        refine g_gf m108_1 rfl rfl ?_
        refine g_ldci m108_4 rfl ?_
        refine g_iload_n m108_6 rfl ?_
        refine g_isub (u := (1 : Int32)) m108_7 (by decide) ?_
        refine g_dup2 m108_8 rfl rfl ?_
        refine g_iald (x := (0 : Int32)) m108_9 rfl (vin rfl) rfl ?_
        refine g_iconst m108_10 ?_
        refine g_iadd (u := (1 : Int32)) m108_11 (by decide) ?_
        refine g_iast m108_12 (Nat.le_of_ble_eq_true rfl) rfl (vin rfl) rfl rfl rfl ?_
        refine g_iload_n m108_13 rfl ?_
        refine g_iret m108_14 rfl ?_
        refine gwst (st' := [.int (-1000000001)]) rfl ?_
        refine g_iret m166_26 rfl ?_
        refine gwst (st' := [.int (-1000000001), .int (-1000000001)]) rfl ?_
        refine g_ic_eqT m190_965 (by decide) ?_
        refine g_iinc (x2 := (6 : Int32)) (L2 := [some (.ref 0), some (.ref 32), some (.ref 89), some (.int (6))]) m190_1428 rfl (by decide) rfl rfl ?_
        refine g_goto m190_1431 ?_
        refine g_iload_n m190_18 rfl ?_
        refine g_aload_n m190_19 rfl ?_
        refine g_alen (n := 6) m190_20 rfl (Or.inl rfl) rfl ?_
        refine g_bipush m190_21 ?_
        refine g_isub (u := (0 : Int32)) m190_23 (by decide) ?_
        refine g_ic_gtT m190_24 (by decide) ?_
        refine g_iconst m190_1434 ?_
        refine g_zret m190_1435 rfl (Or.inr rfl) ?_
        exact rfl
      · have d6 : ¬ ((s2).toInt < 0) := fun q => c5 ((lt_k (by rfl) (by rfl)).mpr q)
        refine g_iload_n m54_4 rfl ?_
        refine g_iload_n m54_5 rfl ?_
        refine g_ic_gt m54_6 (fun c7 => ?_) (fun c7 => ?_)
        · have d8 : 60 < (s2).toInt := (lt_k (by rfl) (by rfl)).mp c7
          refine g_iconst m54_13 ?_
          refine g_zret m54_14 rfl (Or.inl rfl) ?_
          refine gwst (st' := [.int (0)]) rfl ?_
          refine g_if_neT m86_17 (by decide) ?_
          refine g_aload_n m86_20 rfl ?_
          refine g_iconst m86_21 ?_
          refine g_cv (args := [.int (1)]) (rest := []) m86_22 (Nat.le_of_ble_eq_true rfl) rfl rfl rfl (Nat.le_of_ble_eq_true rfl) ?_
          refine wp_in (L := [some (.ref 32), some (.int (1))]) (Nat.le_of_ble_eq_true rfl) rfl ?_
          refine g_aload_n m55_0 rfl ?_
          refine g_gf m55_1 rfl rfl ?_
          refine g_iload_n m55_4 rfl ?_
          refine g_dup2 m55_5 rfl rfl ?_
          refine g_iald (x := (0 : Int32)) m55_6 rfl (vin rfl) rfl ?_
          refine g_iconst m55_7 ?_
          refine g_iadd (u := (1 : Int32)) m55_8 (by decide) ?_
          refine g_iast m55_9 (Nat.le_of_ble_eq_true rfl) rfl (vin rfl) rfl rfl rfl ?_
          refine g_ldcw m55_10 ?_
          refine g_iload_n m55_13 rfl ?_
          refine g_isub (u := (-1000000001 : Int32)) m55_14 (by decide) ?_
          refine g_iret m55_15 rfl ?_
          refine gwst (st' := [.int (-1000000001)]) rfl ?_
          refine g_iret m86_25 rfl ?_
          refine gwst (st' := [.int (-1000000001)]) rfl ?_
          refine FRg rfl (fun f => ?_)
          refine g_aload_n m190_951 rfl ?_
          refine g_aload_n m190_952 rfl ?_
          refine g_iload_n m190_953 rfl ?_
          refine g_iconst m190_954 ?_
          refine g_iadd (u := (1 : Int32)) m190_955 (by decide) ?_
          refine g_iald (x := s1) m190_956 rfl (vin rfl) rfl ?_
          refine g_aload_n m190_957 rfl ?_
          refine g_iload_n m190_958 rfl ?_
          refine g_iconst m190_959 ?_
          refine g_iadd (u := (2 : Int32)) m190_960 (by decide) ?_
          refine g_iald (x := s2) m190_961 rfl (vin rfl) rfl ?_
          refine g_cv (args := [.int _, .int _]) (rest := [.int (-1000000001)]) m190_962 (Nat.le_of_ble_eq_true rfl) rfl rfl rfl (Nat.le_of_ble_eq_true rfl) ?_
          refine wp_in (L := [some (.ref 89), some (.int _), some (.int _), none, none, none]) (Nat.le_of_ble_eq_true rfl) rfl ?_
          refine g_iload_n m166_0 rfl ?_
          refine g_iconst m166_1 ?_
          refine g_bipush m166_2 ?_
          refine g_cs (args := [.int _, .int (1), .int (99)]) (rest := []) 0 (Or.inl rfl) m166_4 (Nat.le_of_ble_eq_true rfl) rfl rfl (Nat.le_of_ble_eq_true rfl) ?_
          refine wp_in (L := [some (.int _), some (.int (1)), some (.int (99))]) (Nat.le_of_ble_eq_true rfl) rfl ?_
          refine g_iload_n m107_0 rfl ?_
          refine g_iload_n m107_1 rfl ?_
          refine g_ic_ltF m107_2 (fun q => absurd ((lt_k (a := (s1).toInt) (b := 1) (by rfl) (by rfl)).mp q) (by omega)) ?_
          refine g_iload_n m107_5 rfl ?_
          refine g_iload_n m107_6 rfl ?_
          refine g_ic_gtF m107_7 (fun q => absurd ((lt_k (a := 99) (b := (s1).toInt) (by rfl) (by rfl)).mp q) (by omega)) ?_
          refine g_iconst m107_10 ?_
          refine g_goto m107_11 ?_
          refine g_zret m107_15 rfl (Or.inr rfl) ?_
          refine gwst (st' := [.int (1)]) rfl ?_
          refine g_if_eqF m166_7 (by decide) ?_
          refine g_iload_n m166_10 rfl ?_
          refine g_iconst m166_11 ?_
          refine g_bipush m166_12 ?_
          refine g_cs (args := [.int _, .int (0), .int (60)]) (rest := []) 0 (Or.inl rfl) m166_14 (Nat.le_of_ble_eq_true rfl) rfl rfl (Nat.le_of_ble_eq_true rfl) ?_
          refine wp_in (L := [some (.int _), some (.int (0)), some (.int (60))]) (Nat.le_of_ble_eq_true rfl) rfl ?_
          refine g_iload_n m107_0 rfl ?_
          refine g_iload_n m107_1 rfl ?_
          refine g_ic_ltF m107_2 (fun q => absurd ((lt_k (a := (s2).toInt) (b := 0) (by rfl) (by rfl)).mp q) (by omega)) ?_
          refine g_iload_n m107_5 rfl ?_
          refine g_iload_n m107_6 rfl ?_
          refine g_ic_gtT m107_7 ((lt_k (a := 60) (b := (s2).toInt) (by rfl) (by rfl)).mpr (by omega)) ?_
          refine g_iconst m107_14 ?_
          refine g_zret m107_15 rfl (Or.inl rfl) ?_
          refine gwst (st' := [.int (0)]) rfl ?_
          refine g_if_neT m166_17 (by decide) ?_
          refine g_aload_n m166_20 rfl ?_
          refine g_ldci m166_21 rfl ?_
          refine g_cv (args := [.int (-1000000001)]) (rest := []) m166_23 (Nat.le_of_ble_eq_true rfl) rfl rfl rfl (Nat.le_of_ble_eq_true rfl) ?_
          refine wp_in (L := [some (.ref 89), some (.int (-1000000001))]) (Nat.le_of_ble_eq_true rfl) rfl ?_
          refine g_aload_n m108_0 rfl ?_
          refine g_gf m108_1 rfl rfl ?_
          refine g_ldci m108_4 rfl ?_
          refine g_iload_n m108_6 rfl ?_
          refine g_isub (u := (1 : Int32)) m108_7 (by decide) ?_
          refine g_dup2 m108_8 rfl rfl ?_
          refine g_iald (x := (0 : Int32)) m108_9 rfl (vin rfl) rfl ?_
          refine g_iconst m108_10 ?_
          refine g_iadd (u := (1 : Int32)) m108_11 (by decide) ?_
          refine g_iast m108_12 (Nat.le_of_ble_eq_true rfl) rfl (vin rfl) rfl rfl rfl ?_
          refine g_iload_n m108_13 rfl ?_
          refine g_iret m108_14 rfl ?_
          refine gwst (st' := [.int (-1000000001)]) rfl ?_
          refine g_iret m166_26 rfl ?_
          refine gwst (st' := [.int (-1000000001), .int (-1000000001)]) rfl ?_
          refine g_ic_eqT m190_965 (by decide) ?_
          refine g_iinc (x2 := (6 : Int32)) (L2 := [some (.ref 0), some (.ref 32), some (.ref 89), some (.int (6))]) m190_1428 rfl (by decide) rfl rfl ?_
          refine g_goto m190_1431 ?_
          refine g_iload_n m190_18 rfl ?_
          refine g_aload_n m190_19 rfl ?_
          refine g_alen (n := 6) m190_20 rfl (Or.inl rfl) rfl ?_
          refine g_bipush m190_21 ?_
          refine g_isub (u := (0 : Int32)) m190_23 (by decide) ?_
          refine g_ic_gtT m190_24 (by decide) ?_
          refine g_iconst m190_1434 ?_
          refine g_zret m190_1435 rfl (Or.inr rfl) ?_
          exact rfl
        · have d8 : ¬ (60 < (s2).toInt) := fun q => c7 ((lt_k (by rfl) (by rfl)).mpr q)
          refine g_iconst m54_9 ?_
          refine g_goto m54_10 ?_
          refine g_zret m54_14 rfl (Or.inr rfl) ?_
          refine gwst (st' := [.int (1)]) rfl ?_
          refine g_if_neF m86_17 (by decide) ?_
          refine g_iconst m86_26 ?_
          refine g_istore_n (L2 := [some (.ref 32), some (.int _), some (.int _), some (.int (1)), none]) m86_27 rfl rfl ?_
          refine g_iload_n m86_28 rfl ?_
          refine g_iconst m86_29 ?_
          refine g_ic_gtF m86_30 (by decide) ?_
          refine g_aload_n m86_33 rfl ?_
          refine g_cv (args := []) (rest := []) m86_34 (Nat.le_of_ble_eq_true rfl) rfl rfl rfl (Nat.le_of_ble_eq_true rfl) ?_
          refine WPh (h' := hF 0 0 1 ++ hM0) (by decide +kernel) (c_think ?_)
          refine gwst (st' := [.ref 42]) rfl ?_
          refine g_astore (L2 := [some (.ref 32), some (.int _), some (.int _), some (.int (1)), some (.ref 42)]) m86_37 rfl rfl ?_
          refine g_aload m86_39 rfl ?_
          refine g_iload_n m86_41 rfl ?_
          refine g_pf (fs2 := [.ref 43, .ref 44, .ref 45, .ref 46, .ref 47, .ref 48, .ref 49, .ref 50, .int (1), .int (0), .int (0), .null, .null]) m86_42 rfl (Nat.le_of_ble_eq_true rfl) rfl (Nat.le_of_ble_eq_true rfl) trivial rfl rfl rfl ?_
          refine g_aload m86_45 rfl ?_
          refine g_iload_n m86_47 rfl ?_
          refine g_cv (args := [.int _]) (rest := []) m86_48 (Nat.le_of_ble_eq_true rfl) rfl rfl rfl (Nat.le_of_ble_eq_true rfl) ?_
          refine WPh (h' := hF 0 0 1 ++ hM0) (by decide +kernel) (c_goOn42 (by omega) (by omega) ?_)
          refine gwst (st' := []) rfl ?_
          refine g_aload m86_51 rfl ?_
          refine g_cv (args := []) (rest := []) m86_53 (Nat.le_of_ble_eq_true rfl) rfl rfl rfl (Nat.le_of_ble_eq_true rfl) ?_
          refine wp_in (L := [some (.ref 42), none, none]) (Nat.le_of_ble_eq_true rfl) rfl ?_
          refine g_iconst m46_0 ?_
          refine g_istore_n (L2 := [some (.ref 42), some (.int (0)), none]) m46_1 rfl rfl ?_
          refine g_iconst m46_2 ?_
          refine g_istore_n (L2 := [some (.ref 42), some (.int (0)), some (.int (0))]) m46_3 rfl rfl ?_
          refine g_iload_n m46_4 rfl ?_
          refine g_aload_n m46_5 rfl ?_
          refine g_gf m46_6 rfl rfl ?_
          refine g_ic_geT m46_9 (by decide) ?_
          refine g_iload_n m46_29 rfl ?_
          refine g_iret m46_30 rfl ?_
          refine gwst (st' := [.int (0)]) rfl ?_
          refine g_iload_n m86_56 rfl ?_
          refine g_ic_geF m86_57 (fun q => absurd ((le_k (a := (s1).toInt) (b := 0) (by rfl) (by rfl)).mp q) (by omega)) ?_
          refine g_iload_n m86_60 rfl ?_
          refine g_iret m86_61 rfl ?_
          refine gwst (st' := [.int (1)]) rfl ?_
          refine FRg rfl (fun f => ?_)
          refine g_aload_n m190_951 rfl ?_
          refine g_aload_n m190_952 rfl ?_
          refine g_iload_n m190_953 rfl ?_
          refine g_iconst m190_954 ?_
          refine g_iadd (u := (1 : Int32)) m190_955 (by decide) ?_
          refine g_iald (x := s1) m190_956 rfl (vin rfl) rfl ?_
          refine g_aload_n m190_957 rfl ?_
          refine g_iload_n m190_958 rfl ?_
          refine g_iconst m190_959 ?_
          refine g_iadd (u := (2 : Int32)) m190_960 (by decide) ?_
          refine g_iald (x := s2) m190_961 rfl (vin rfl) rfl ?_
          refine g_cv (args := [.int _, .int _]) (rest := [.int (1)]) m190_962 (Nat.le_of_ble_eq_true rfl) rfl rfl rfl (Nat.le_of_ble_eq_true rfl) ?_
          refine wp_in (L := [some (.ref 89), some (.int _), some (.int _), none, none, none]) (Nat.le_of_ble_eq_true rfl) rfl ?_
          refine g_iload_n m166_0 rfl ?_
          refine g_iconst m166_1 ?_
          refine g_bipush m166_2 ?_
          refine g_cs (args := [.int _, .int (1), .int (99)]) (rest := []) 0 (Or.inl rfl) m166_4 (Nat.le_of_ble_eq_true rfl) rfl rfl (Nat.le_of_ble_eq_true rfl) ?_
          refine wp_in (L := [some (.int _), some (.int (1)), some (.int (99))]) (Nat.le_of_ble_eq_true rfl) rfl ?_
          refine g_iload_n m107_0 rfl ?_
          refine g_iload_n m107_1 rfl ?_
          refine g_ic_ltF m107_2 (fun q => absurd ((lt_k (a := (s1).toInt) (b := 1) (by rfl) (by rfl)).mp q) (by omega)) ?_
          refine g_iload_n m107_5 rfl ?_
          refine g_iload_n m107_6 rfl ?_
          refine g_ic_gtF m107_7 (fun q => absurd ((lt_k (a := 99) (b := (s1).toInt) (by rfl) (by rfl)).mp q) (by omega)) ?_
          refine g_iconst m107_10 ?_
          refine g_goto m107_11 ?_
          refine g_zret m107_15 rfl (Or.inr rfl) ?_
          refine gwst (st' := [.int (1)]) rfl ?_
          refine g_if_eqF m166_7 (by decide) ?_
          refine g_iload_n m166_10 rfl ?_
          refine g_iconst m166_11 ?_
          refine g_bipush m166_12 ?_
          refine g_cs (args := [.int _, .int (0), .int (60)]) (rest := []) 0 (Or.inl rfl) m166_14 (Nat.le_of_ble_eq_true rfl) rfl rfl (Nat.le_of_ble_eq_true rfl) ?_
          refine wp_in (L := [some (.int _), some (.int (0)), some (.int (60))]) (Nat.le_of_ble_eq_true rfl) rfl ?_
          refine g_iload_n m107_0 rfl ?_
          refine g_iload_n m107_1 rfl ?_
          refine g_ic_ltF m107_2 (fun q => absurd ((lt_k (a := (s2).toInt) (b := 0) (by rfl) (by rfl)).mp q) (by omega)) ?_
          refine g_iload_n m107_5 rfl ?_
          refine g_iload_n m107_6 rfl ?_
          refine g_ic_gtF m107_7 (fun q => absurd ((lt_k (a := 60) (b := (s2).toInt) (by rfl) (by rfl)).mp q) (by omega)) ?_
          refine g_iconst m107_10 ?_
          refine g_goto m107_11 ?_
          refine g_zret m107_15 rfl (Or.inr rfl) ?_
          refine gwst (st' := [.int (1)]) rfl ?_
          refine g_if_neF m166_17 (by decide) ?_
          refine g_iconst m166_27 ?_
          refine g_istore_n (L2 := [some (.ref 89), some (.int _), some (.int _), some (.int (0)), none, none]) m166_28 rfl rfl ?_
          refine g_iconst m166_29 ?_
          refine g_istore (L2 := [some (.ref 89), some (.int _), some (.int _), some (.int (0)), some (.int (0)), none]) m166_30 rfl rfl ?_
          refine g_aload_n m166_32 rfl ?_
          refine g_aload_n m166_33 rfl ?_
          refine g_gf m166_34 rfl rfl ?_
          refine g_aload_n m166_37 rfl ?_
          refine g_gf m166_38 rfl rfl ?_
          refine g_cv (args := [.ref 90, .ref 92]) (rest := []) m166_41 (Nat.le_of_ble_eq_true rfl) rfl rfl rfl (Nat.le_of_ble_eq_true rfl) ?_
          refine c_moveAll rfl (Nat.le_of_ble_eq_true rfl) rfl (by rfl) (by rfl) (by decide) ?_
          refine gwst (st' := []) rfl ?_
          refine g_iload_n m166_44 rfl ?_
          refine g_iconst m166_45 ?_
          refine g_ic_geF m166_46 (by decide) ?_
          refine g_iload m166_49 rfl ?_
          refine g_if_neT m166_51 (by decide) ?_
          refine g_iinc (x2 := (1 : Int32)) (L2 := [some (.ref 89), some (.int _), some (.int _), some (.int (1)), some (.int (0)), none]) m166_54 rfl (by decide) rfl rfl ?_
          refine g_aload_n m166_57 rfl ?_
          refine g_gf m166_58 rfl rfl ?_
          refine g_bipush m166_61 ?_
          refine g_iload_n m166_63 rfl ?_
          refine g_iast m166_64 (Nat.le_of_ble_eq_true rfl) rfl (vin rfl) rfl rfl (set_idem rfl (by decide +kernel)) ?_
          refine g_aload_n m166_65 rfl ?_
          refine g_iload_n m166_66 rfl ?_
          refine g_cv (args := [.int _]) (rest := []) m166_67 (Nat.le_of_ble_eq_true rfl) rfl rfl rfl (Nat.le_of_ble_eq_true rfl) ?_
          refine WPh (h' := pad f ++ hG 0 1 (.inl (0, [0, 1, 0, 0, 0, -1, -1, 1, 5, 5, 5, 5, 5, 5, 5, 5, 0, 0, 0, 0, 0, 0, 0, 0, 0, 0, 0, 0, 0, 0, 0, 0, 0, 0, 0, 0, 0, 0, 0, 0, 0, 0, 0, 0, 0, 0, 0, 0, 0, 0, 0, 0, 0, 0, 0, 0, 0, 0, 0, 0, 0, 0, 0, 0, 0, 0, 0, 0, 0, 0, 0, 0, 0, 0, 0, 0, 0, 0, 0, 0, 0, 0, 0, 0, 0, 0, 0, 0, 0, 0, 0, 0, 0, 0, 0, 0, 0, 0, 0, 0, 0, 0, 0, 0, 0, 0, 0, 0, 0, 0, 0, 0, 0, 0, 0, 0, 0, 0, 0, 0, 0, 0, 0, 0, 0, 0, 0, 0, 0, 0, 0, 0, 0, 0, 0, 0, 0, 0, 0, 0, 0, 0, 0, 0, 0, 0, 0, 0, 0, 0, 0, 0, 0, 0, 0, 0, 0, 0, 0, 0, 0, 0, 0, 0, 0, 0, 0, 0, 0, 0, 0, 0, 0, 0, 0, 0, 0, 0, 0, 0, 0, 0, 0, 0, 0, 0, 0, 0, 0, 0, 0, 0, 0, 0, 0, 0, 0, 0, 0, 0, 0, 0, 0, 0, 0, 0, 0, 0, 0, 0, 0, 0, 0, 0, 0, 0, 0, 0, 0, 0, 0, 0, 0, 0, 0, 0, 0, 0, 0, 0, 0, 0, 0, 0])) (.inl (0, List.replicate 234 0))) rfl (c_passes (by omega) (by omega) ?_)
          refine gwst (st' := []) rfl ?_
          refine g_iconst m166_70 ?_
          refine g_istore (L2 := [some (.ref 89), some (.int _), some (.int _), some (.int (1)), some (.int (1)), none]) m166_71 rfl rfl ?_
          refine g_iconst m166_73 ?_
          refine g_istore (L2 := [some (.ref 89), some (.int _), some (.int _), some (.int (1)), some (.int (1)), some (.int (0))]) m166_74 rfl rfl ?_
          refine g_iload m166_76 rfl ?_
          refine g_aload_n m166_78 rfl ?_
          refine g_gf m166_79 rfl rfl ?_
          refine g_iconst m166_82 ?_
          refine g_iald (x := (0 : Int32)) m166_83 rfl (vin rfl) rfl ?_
          refine g_ic_geT m166_84 (by decide) ?_
          refine g_aload_n m166_116 rfl ?_
          refine g_aload_n m166_117 rfl ?_
          refine g_gf m166_118 rfl rfl ?_
          refine g_aload_n m166_121 rfl ?_
          refine g_gf m166_122 rfl rfl ?_
          refine g_cv (args := [.ref 92, .ref 90]) (rest := []) m166_125 (Nat.le_of_ble_eq_true rfl) rfl rfl rfl (Nat.le_of_ble_eq_true rfl) ?_
          refine c_moveAll rfl (Nat.le_of_ble_eq_true rfl) rfl (by rfl) (by rfl) (by decide) ?_
          refine gwst (st' := []) rfl ?_
          refine g_goto m166_128 ?_
          refine g_iload_n m166_44 rfl ?_
          refine g_iconst m166_45 ?_
          refine g_ic_geF m166_46 (by decide) ?_
          refine g_iload m166_49 rfl ?_
          refine g_if_neF m166_51 (by decide) ?_
          refine g_iload m166_131 rfl ?_
          refine g_if_eqF m166_133 (by decide) ?_
          refine g_iload_n m166_136 rfl ?_
          refine g_goto m166_137 ?_
          refine g_iret m166_146 rfl ?_
          refine gwst (st' := [.int (1), .int (1)]) rfl ?_
          refine g_ic_eqT m190_965 (by decide) ?_
          refine g_iinc (x2 := (6 : Int32)) (L2 := [some (.ref 0), some (.ref 32), some (.ref 89), some (.int (6))]) m190_1428 rfl (by decide) rfl rfl ?_
          refine g_goto m190_1431 ?_
          refine g_iload_n m190_18 rfl ?_
          refine g_aload_n m190_19 rfl ?_
          refine g_alen (n := 6) m190_20 rfl (Or.inl rfl) rfl ?_
          refine g_bipush m190_21 ?_
          refine g_isub (u := (0 : Int32)) m190_23 (by decide) ?_
          refine g_ic_gtT m190_24 (by decide) ?_
          refine g_iconst m190_1434 ?_
          refine g_zret m190_1435 rfl (Or.inr rfl) ?_
          exact rfl
set_option maxRecDepth 20000 in
set_option maxHeartbeats 40000000 in
theorem lc_24 {s0 s1 s2 s3 s4 s5 : Int32} {d mc ms : Nat} : gw [s0, s1, s2, s3, s4, s5] (WP [s0, s1, s2, s3, s4, s5] (d + 20)) 190 (fun r _ => r = some (.int 1)) 970 [some (.ref 0), some (.ref 32), some (.ref 89), some (.int 0)] [] (hX0 ++ hM0) mc ms := by
  refine g_aload_n m190_970 rfl ?_
  refine g_aload_n m190_971 rfl ?_
  refine g_iload_n m190_972 rfl ?_
  refine g_iconst m190_973 ?_
  refine g_iadd (u := (1 : Int32)) m190_974 (by decide) ?_
  refine g_iald (x := s1) m190_975 rfl (vin rfl) rfl ?_
  refine g_cv (args := [.int _]) (rest := []) m190_976 (Nat.le_of_ble_eq_true rfl) rfl rfl rfl (Nat.le_of_ble_eq_true rfl) ?_
  refine wp_in (L := [some (.ref 32), some (.int _), none]) (Nat.le_of_ble_eq_true rfl) rfl ?_
  refine g_iload_n m87_0 rfl ?_
  refine g_bipush m87_1 ?_
  refine g_cs (args := [.int _, .int (60)]) (rest := []) 0 (Or.inl rfl) m87_3 (Nat.le_of_ble_eq_true rfl) rfl rfl (Nat.le_of_ble_eq_true rfl) ?_
  refine wp_in (L := [some (.int _), some (.int (60))]) (Nat.le_of_ble_eq_true rfl) rfl ?_
  refine g_iload_n m54_0 rfl ?_
  refine g_if_lt m54_1 (fun c1 => ?_) (fun c1 => ?_)
  · have d2 : (s1).toInt < 0 := (lt_k (by rfl) (by rfl)).mp c1
    refine g_iconst m54_13 ?_
    refine g_zret m54_14 rfl (Or.inl rfl) ?_
    refine gwst (st' := [.int (0)]) rfl ?_
    refine g_if_neT m87_6 (by decide) ?_
    refine g_aload_n m87_9 rfl ?_
    refine g_iconst m87_10 ?_
    refine g_cv (args := [.int (1)]) (rest := []) m87_11 (Nat.le_of_ble_eq_true rfl) rfl rfl rfl (Nat.le_of_ble_eq_true rfl) ?_
    refine wp_in (L := [some (.ref 32), some (.int (1))]) (Nat.le_of_ble_eq_true rfl) rfl ?_
    refine g_aload_n m55_0 rfl ?_
    refine g_gf m55_1 rfl rfl ?_
    refine g_iload_n m55_4 rfl ?_
    refine g_dup2 m55_5 rfl rfl ?_
    refine g_iald (x := (0 : Int32)) m55_6 rfl (vin rfl) rfl ?_
    refine g_iconst m55_7 ?_
    refine g_iadd (u := (1 : Int32)) m55_8 (by decide) ?_
    refine g_iast m55_9 (Nat.le_of_ble_eq_true rfl) rfl (vin rfl) rfl rfl rfl ?_
    refine g_ldcw m55_10 ?_
    refine g_iload_n m55_13 rfl ?_
    refine g_isub (u := (-1000000001 : Int32)) m55_14 (by decide) ?_
    refine g_iret m55_15 rfl ?_
    refine gwst (st' := [.int (-1000000001)]) rfl ?_
    refine g_iret m87_14 rfl ?_
    refine gwst (st' := [.int (-1000000001)]) rfl ?_
    refine FRg rfl (fun f => ?_)
    refine g_aload_n m190_979 rfl ?_
    refine g_aload_n m190_980 rfl ?_
    refine g_iload_n m190_981 rfl ?_
    refine g_iconst m190_982 ?_
    refine g_iadd (u := (1 : Int32)) m190_983 (by decide) ?_
    refine g_iald (x := s1) m190_984 rfl (vin rfl) rfl ?_
    refine g_cv (args := [.int _]) (rest := [.int (-1000000001)]) m190_985 (Nat.le_of_ble_eq_true rfl) rfl rfl rfl (Nat.le_of_ble_eq_true rfl) ?_
    refine wp_in (L := [some (.ref 89), some (.int _), none, none]) (Nat.le_of_ble_eq_true rfl) rfl ?_
    refine g_iload_n m167_0 rfl ?_
    refine g_iconst m167_1 ?_
    refine g_bipush m167_2 ?_
    refine g_cs (args := [.int _, .int (0), .int (60)]) (rest := []) 0 (Or.inl rfl) m167_4 (Nat.le_of_ble_eq_true rfl) rfl rfl (Nat.le_of_ble_eq_true rfl) ?_
    refine wp_in (L := [some (.int _), some (.int (0)), some (.int (60))]) (Nat.le_of_ble_eq_true rfl) rfl ?_
    refine g_iload_n m107_0 rfl ?_
    refine g_iload_n m107_1 rfl ?_
    refine g_ic_ltT m107_2 ((lt_k (a := (s1).toInt) (b := 0) (by rfl) (by rfl)).mpr (by omega)) ?_
    refine g_iconst m107_14 ?_
    refine g_zret m107_15 rfl (Or.inl rfl) ?_
    refine gwst (st' := [.int (0)]) rfl ?_
    refine g_if_neT m167_7 (by decide) ?_
    refine g_aload_n m167_10 rfl ?_
    refine g_ldci m167_11 rfl ?_
    refine g_cv (args := [.int (-1000000001)]) (rest := []) m167_13 (Nat.le_of_ble_eq_true rfl) rfl rfl rfl (Nat.le_of_ble_eq_true rfl) ?_
    refine wp_in (L := [some (.ref 89), some (.int (-1000000001))]) (Nat.le_of_ble_eq_true rfl) rfl ?_
    refine g_aload_n m108_0 rfl ?_
    refine g_gf m108_1 rfl rfl ?_
    refine g_ldci m108_4 rfl ?_
    refine g_iload_n m108_6 rfl ?_
    refine g_isub (u := (1 : Int32)) m108_7 (by decide) ?_
    refine g_dup2 m108_8 rfl rfl ?_
    refine g_iald (x := (0 : Int32)) m108_9 rfl (vin rfl) rfl ?_
    refine g_iconst m108_10 ?_
    refine g_iadd (u := (1 : Int32)) m108_11 (by decide) ?_
    refine g_iast m108_12 (Nat.le_of_ble_eq_true rfl) rfl (vin rfl) rfl rfl rfl ?_
    refine g_iload_n m108_13 rfl ?_
    refine g_iret m108_14 rfl ?_
    refine gwst (st' := [.int (-1000000001)]) rfl ?_
    refine g_iret m167_16 rfl ?_
    refine gwst (st' := [.int (-1000000001), .int (-1000000001)]) rfl ?_
    refine g_ic_eqT m190_988 (by decide) ?_
    refine g_iinc (x2 := (6 : Int32)) (L2 := [some (.ref 0), some (.ref 32), some (.ref 89), some (.int (6))]) m190_1428 rfl (by decide) rfl rfl ?_
    refine g_goto m190_1431 ?_
    refine g_iload_n m190_18 rfl ?_
    refine g_aload_n m190_19 rfl ?_
    refine g_alen (n := 6) m190_20 rfl (Or.inl rfl) rfl ?_
    refine g_bipush m190_21 ?_
    refine g_isub (u := (0 : Int32)) m190_23 (by decide) ?_
    refine g_ic_gtT m190_24 (by decide) ?_
    refine g_iconst m190_1434 ?_
    refine g_zret m190_1435 rfl (Or.inr rfl) ?_
    exact rfl
  · have d2 : ¬ ((s1).toInt < 0) := fun q => c1 ((lt_k (by rfl) (by rfl)).mpr q)
    refine g_iload_n m54_4 rfl ?_
    refine g_iload_n m54_5 rfl ?_
    refine g_ic_gt m54_6 (fun c3 => ?_) (fun c3 => ?_)
    · have d4 : 60 < (s1).toInt := (lt_k (by rfl) (by rfl)).mp c3
      refine g_iconst m54_13 ?_
      refine g_zret m54_14 rfl (Or.inl rfl) ?_
      refine gwst (st' := [.int (0)]) rfl ?_
      refine g_if_neT m87_6 (by decide) ?_
      refine g_aload_n m87_9 rfl ?_
      refine g_iconst m87_10 ?_
      refine g_cv (args := [.int (1)]) (rest := []) m87_11 (Nat.le_of_ble_eq_true rfl) rfl rfl rfl (Nat.le_of_ble_eq_true rfl) ?_
      refine wp_in (L := [some (.ref 32), some (.int (1))]) (Nat.le_of_ble_eq_true rfl) rfl ?_
      refine g_aload_n m55_0 rfl ?_
      refine g_gf m55_1 rfl rfl ?_
      refine g_iload_n m55_4 rfl ?_
      refine g_dup2 m55_5 rfl rfl ?_
      refine g_iald (x := (0 : Int32)) m55_6 rfl (vin rfl) rfl ?_
      refine g_iconst m55_7 ?_
      refine g_iadd (u := (1 : Int32)) m55_8 (by decide) ?_
      refine g_iast m55_9 (Nat.le_of_ble_eq_true rfl) rfl (vin rfl) rfl rfl rfl ?_
      refine g_ldcw m55_10 ?_
      refine g_iload_n m55_13 rfl ?_
      refine g_isub (u := (-1000000001 : Int32)) m55_14 (by decide) ?_
      refine g_iret m55_15 rfl ?_
      refine gwst (st' := [.int (-1000000001)]) rfl ?_
      refine g_iret m87_14 rfl ?_
      refine gwst (st' := [.int (-1000000001)]) rfl ?_
      refine FRg rfl (fun f => ?_)
      refine g_aload_n m190_979 rfl ?_
      refine g_aload_n m190_980 rfl ?_
      refine g_iload_n m190_981 rfl ?_
      refine g_iconst m190_982 ?_
      refine g_iadd (u := (1 : Int32)) m190_983 (by decide) ?_
      refine g_iald (x := s1) m190_984 rfl (vin rfl) rfl ?_
      refine g_cv (args := [.int _]) (rest := [.int (-1000000001)]) m190_985 (Nat.le_of_ble_eq_true rfl) rfl rfl rfl (Nat.le_of_ble_eq_true rfl) ?_
      refine wp_in (L := [some (.ref 89), some (.int _), none, none]) (Nat.le_of_ble_eq_true rfl) rfl ?_
      refine g_iload_n m167_0 rfl ?_
      refine g_iconst m167_1 ?_
      refine g_bipush m167_2 ?_
      refine g_cs (args := [.int _, .int (0), .int (60)]) (rest := []) 0 (Or.inl rfl) m167_4 (Nat.le_of_ble_eq_true rfl) rfl rfl (Nat.le_of_ble_eq_true rfl) ?_
      refine wp_in (L := [some (.int _), some (.int (0)), some (.int (60))]) (Nat.le_of_ble_eq_true rfl) rfl ?_
      refine g_iload_n m107_0 rfl ?_
      refine g_iload_n m107_1 rfl ?_
      refine g_ic_ltF m107_2 (fun q => absurd ((lt_k (a := (s1).toInt) (b := 0) (by rfl) (by rfl)).mp q) (by omega)) ?_
      refine g_iload_n m107_5 rfl ?_
      refine g_iload_n m107_6 rfl ?_
      refine g_ic_gtT m107_7 ((lt_k (a := 60) (b := (s1).toInt) (by rfl) (by rfl)).mpr (by omega)) ?_
      refine g_iconst m107_14 ?_
      refine g_zret m107_15 rfl (Or.inl rfl) ?_
      refine gwst (st' := [.int (0)]) rfl ?_
      refine g_if_neT m167_7 (by decide) ?_
      refine g_aload_n m167_10 rfl ?_
      refine g_ldci m167_11 rfl ?_
      refine g_cv (args := [.int (-1000000001)]) (rest := []) m167_13 (Nat.le_of_ble_eq_true rfl) rfl rfl rfl (Nat.le_of_ble_eq_true rfl) ?_
      refine wp_in (L := [some (.ref 89), some (.int (-1000000001))]) (Nat.le_of_ble_eq_true rfl) rfl ?_
      refine g_aload_n m108_0 rfl ?_
      refine g_gf m108_1 rfl rfl ?_
      refine g_ldci m108_4 rfl ?_
      refine g_iload_n m108_6 rfl ?_
      refine g_isub (u := (1 : Int32)) m108_7 (by decide) ?_
      refine g_dup2 m108_8 rfl rfl ?_
      refine g_iald (x := (0 : Int32)) m108_9 rfl (vin rfl) rfl ?_
      refine g_iconst m108_10 ?_
      refine g_iadd (u := (1 : Int32)) m108_11 (by decide) ?_
      refine g_iast m108_12 (Nat.le_of_ble_eq_true rfl) rfl (vin rfl) rfl rfl rfl ?_
      refine g_iload_n m108_13 rfl ?_
      refine g_iret m108_14 rfl ?_
      refine gwst (st' := [.int (-1000000001)]) rfl ?_
      refine g_iret m167_16 rfl ?_
      refine gwst (st' := [.int (-1000000001), .int (-1000000001)]) rfl ?_
      refine g_ic_eqT m190_988 (by decide) ?_
      refine g_iinc (x2 := (6 : Int32)) (L2 := [some (.ref 0), some (.ref 32), some (.ref 89), some (.int (6))]) m190_1428 rfl (by decide) rfl rfl ?_
      refine g_goto m190_1431 ?_
      refine g_iload_n m190_18 rfl ?_
      refine g_aload_n m190_19 rfl ?_
      refine g_alen (n := 6) m190_20 rfl (Or.inl rfl) rfl ?_
      refine g_bipush m190_21 ?_
      refine g_isub (u := (0 : Int32)) m190_23 (by decide) ?_
      refine g_ic_gtT m190_24 (by decide) ?_
      refine g_iconst m190_1434 ?_
      refine g_zret m190_1435 rfl (Or.inr rfl) ?_
      exact rfl
    · have d4 : ¬ (60 < (s1).toInt) := fun q => c3 ((lt_k (by rfl) (by rfl)).mpr q)
      refine g_iconst m54_9 ?_
      refine g_goto m54_10 ?_
      refine g_zret m54_14 rfl (Or.inr rfl) ?_
      refine gwst (st' := [.int (1)]) rfl ?_
      refine g_if_neF m87_6 (by decide) ?_
      refine g_aload_n m87_15 rfl ?_
      refine g_cv (args := []) (rest := []) m87_16 (Nat.le_of_ble_eq_true rfl) rfl rfl rfl (Nat.le_of_ble_eq_true rfl) ?_
      refine WPh (h' := hF 0 0 1 ++ hM0) (by decide +kernel) (c_think ?_)
      refine gwst (st' := [.ref 42]) rfl ?_
      refine g_astore_n (L2 := [some (.ref 32), some (.int _), some (.ref 42)]) m87_19 rfl rfl ?_
      refine g_aload_n m87_20 rfl ?_
      refine g_iload_n m87_21 rfl ?_
      refine g_cv (args := [.int _]) (rest := []) m87_22 (Nat.le_of_ble_eq_true rfl) rfl rfl rfl (Nat.le_of_ble_eq_true rfl) ?_
      refine WPh (h' := hF 0 0 1 ++ hM0) (by decide +kernel) (c_goOn42 (by omega) (by omega) ?_)
      refine gwst (st' := []) rfl ?_
      refine g_aload_n m87_25 rfl ?_
      refine g_cv (args := []) (rest := []) m87_26 (Nat.le_of_ble_eq_true rfl) rfl rfl rfl (Nat.le_of_ble_eq_true rfl) ?_
      refine wp_in (L := [some (.ref 42), none, none]) (Nat.le_of_ble_eq_true rfl) rfl ?_
      refine g_iconst m47_0 ?_
      refine g_istore_n (L2 := [some (.ref 42), some (.int (0)), none]) m47_1 rfl rfl ?_
      refine g_iconst m47_2 ?_
      refine g_istore_n (L2 := [some (.ref 42), some (.int (0)), some (.int (0))]) m47_3 rfl rfl ?_
      refine g_iload_n m47_4 rfl ?_
      refine g_aload_n m47_5 rfl ?_
      refine g_gf m47_6 rfl rfl ?_
      refine g_ic_geT m47_9 (by decide) ?_
      refine g_iload_n m47_27 rfl ?_
      refine g_iret m47_28 rfl ?_
      refine gwst (st' := [.int (0)]) rfl ?_
      refine g_aload_n m87_29 rfl ?_
      refine g_gf m87_30 rfl rfl ?_
      refine g_cv (args := []) (rest := [.int (0)]) m87_33 (Nat.le_of_ble_eq_true rfl) rfl rfl rfl (Nat.le_of_ble_eq_true rfl) ?_
      refine wp_in (L := [some (.ref 33), none, none]) (Nat.le_of_ble_eq_true rfl) rfl ?_
      refine g_iconst m47_0 ?_
      refine g_istore_n (L2 := [some (.ref 33), some (.int (0)), none]) m47_1 rfl rfl ?_
      refine g_iconst m47_2 ?_
      refine g_istore_n (L2 := [some (.ref 33), some (.int (0)), some (.int (0))]) m47_3 rfl rfl ?_
      refine g_iload_n m47_4 rfl ?_
      refine g_aload_n m47_5 rfl ?_
      refine g_gf m47_6 rfl rfl ?_
      refine g_ic_geT m47_9 (by decide) ?_
      refine g_iload_n m47_27 rfl ?_
      refine g_iret m47_28 rfl ?_
      refine gwst (st' := [.int (0), .int (0)]) rfl ?_
      refine g_isub (u := (0 : Int32)) m87_36 (by decide) ?_
      refine g_iret m87_37 rfl ?_
      refine gwst (st' := [.int (0)]) rfl ?_
      refine FRg rfl (fun f => ?_)
      refine g_aload_n m190_979 rfl ?_
      refine g_aload_n m190_980 rfl ?_
      refine g_iload_n m190_981 rfl ?_
      refine g_iconst m190_982 ?_
      refine g_iadd (u := (1 : Int32)) m190_983 (by decide) ?_
      refine g_iald (x := s1) m190_984 rfl (vin rfl) rfl ?_
      refine g_cv (args := [.int _]) (rest := [.int (0)]) m190_985 (Nat.le_of_ble_eq_true rfl) rfl rfl rfl (Nat.le_of_ble_eq_true rfl) ?_
      refine wp_in (L := [some (.ref 89), some (.int _), none, none]) (Nat.le_of_ble_eq_true rfl) rfl ?_
      refine g_iload_n m167_0 rfl ?_
      refine g_iconst m167_1 ?_
      refine g_bipush m167_2 ?_
      refine g_cs (args := [.int _, .int (0), .int (60)]) (rest := []) 0 (Or.inl rfl) m167_4 (Nat.le_of_ble_eq_true rfl) rfl rfl (Nat.le_of_ble_eq_true rfl) ?_
      refine wp_in (L := [some (.int _), some (.int (0)), some (.int (60))]) (Nat.le_of_ble_eq_true rfl) rfl ?_
      refine g_iload_n m107_0 rfl ?_
      refine g_iload_n m107_1 rfl ?_
      refine g_ic_ltF m107_2 (fun q => absurd ((lt_k (a := (s1).toInt) (b := 0) (by rfl) (by rfl)).mp q) (by omega)) ?_
      refine g_iload_n m107_5 rfl ?_
      refine g_iload_n m107_6 rfl ?_
      refine g_ic_gtF m107_7 (fun q => absurd ((lt_k (a := 60) (b := (s1).toInt) (by rfl) (by rfl)).mp q) (by omega)) ?_
      refine g_iconst m107_10 ?_
      refine g_goto m107_11 ?_
      refine g_zret m107_15 rfl (Or.inr rfl) ?_
      refine gwst (st' := [.int (1)]) rfl ?_
      refine g_if_neF m167_7 (by decide) ?_
      refine g_aload_n m167_17 rfl ?_
      refine g_iconst m167_18 ?_
      refine g_cv (args := [.int (4)]) (rest := []) m167_19 (Nat.le_of_ble_eq_true rfl) rfl rfl rfl (Nat.le_of_ble_eq_true rfl) ?_
      refine wp_in (L := [some (.ref 89), some (.int (4)), none, none]) (Nat.le_of_ble_eq_true rfl) rfl ?_
      refine g_iconst m147_0 ?_
      refine g_istore_n (L2 := [some (.ref 89), some (.int (4)), some (.int (0)), none]) m147_1 rfl rfl ?_
      refine g_iconst m147_2 ?_
      refine g_istore_n (L2 := [some (.ref 89), some (.int (4)), some (.int (0)), some (.int (0))]) m147_3 rfl rfl ?_
      refine g_iload_n m147_4 rfl ?_
      refine g_aload_n m147_5 rfl ?_
      refine g_gf m147_6 rfl rfl ?_
      refine g_iconst m147_9 ?_
      refine g_iald (x := (0 : Int32)) m147_10 rfl (vin rfl) rfl ?_
      refine g_ic_geT m147_11 (by decide) ?_
      refine g_iload_n m147_29 rfl ?_
      refine g_iret m147_30 rfl ?_
      refine gwst (st' := [.int (0)]) rfl ?_
      refine g_istore_n (L2 := [some (.ref 89), some (.int _), some (.int (0)), none]) m167_22 rfl rfl ?_
      refine g_aload_n m167_23 rfl ?_
      refine g_aload_n m167_24 rfl ?_
      refine g_gf m167_25 rfl rfl ?_
      refine g_aload_n m167_28 rfl ?_
      refine g_gf m167_29 rfl rfl ?_
      refine g_cv (args := [.ref 90, .ref 92]) (rest := []) m167_32 (Nat.le_of_ble_eq_true rfl) rfl rfl rfl (Nat.le_of_ble_eq_true rfl) ?_
      refine c_moveAll rfl (Nat.le_of_ble_eq_true rfl) rfl (by rfl) (by rfl) (by decide) ?_
      refine gwst (st' := []) rfl ?_
      refine g_aload_n m167_35 rfl ?_
      refine g_iload_n m167_36 rfl ?_
      refine g_cv (args := [.int _]) (rest := []) m167_37 (Nat.le_of_ble_eq_true rfl) rfl rfl rfl (Nat.le_of_ble_eq_true rfl) ?_
      refine WPh (h' := pad f ++ hG 0 1 (.inl (0, [0, 1, 0, 0, 0, -1, -1, 1, 5, 5, 5, 5, 5, 5, 5, 5, 0, 0, 0, 0, 0, 0, 0, 0, 0, 0, 0, 0, 0, 0, 0, 0, 0, 0, 0, 0, 0, 0, 0, 0, 0, 0, 0, 0, 0, 0, 0, 0, 0, 0, 0, 0, 0, 0, 0, 0, 0, 0, 0, 0, 0, 0, 0, 0, 0, 0, 0, 0, 0, 0, 0, 0, 0, 0, 0, 0, 0, 0, 0, 0, 0, 0, 0, 0, 0, 0, 0, 0, 0, 0, 0, 0, 0, 0, 0, 0, 0, 0, 0, 0, 0, 0, 0, 0, 0, 0, 0, 0, 0, 0, 0, 0, 0, 0, 0, 0, 0, 0, 0, 0, 0, 0, 0, 0, 0, 0, 0, 0, 0, 0, 0, 0, 0, 0, 0, 0, 0, 0, 0, 0, 0, 0, 0, 0, 0, 0, 0, 0, 0, 0, 0, 0, 0, 0, 0, 0, 0, 0, 0, 0, 0, 0, 0, 0, 0, 0, 0, 0, 0, 0, 0, 0, 0, 0, 0, 0, 0, 0, 0, 0, 0, 0, 0, 0, 0, 0, 0, 0, 0, 0, 0, 0, 0, 0, 0, 0, 0, 0, 0, 0, 0, 0, 0, 0, 0, 0, 0, 0, 0, 0, 0, 0, 0, 0, 0, 0, 0, 0, 0, 0, 0, 0, 0, 0, 0, 0, 0, 0, 0, 0, 0, 0, 0, 0])) (.inl (0, List.replicate 234 0))) rfl (c_passes (by omega) (by omega) ?_)
      refine gwst (st' := []) rfl ?_
      refine g_aload_n m167_40 rfl ?_
      refine g_iconst m167_41 ?_
      refine g_cv (args := [.int (4)]) (rest := []) m167_42 (Nat.le_of_ble_eq_true rfl) rfl rfl rfl (Nat.le_of_ble_eq_true rfl) ?_
      refine wp_in (L := [some (.ref 89), some (.int (4)), none, none]) (Nat.le_of_ble_eq_true rfl) rfl ?_
      refine g_iconst m147_0 ?_
      refine g_istore_n (L2 := [some (.ref 89), some (.int (4)), some (.int (0)), none]) m147_1 rfl rfl ?_
      refine g_iconst m147_2 ?_
      refine g_istore_n (L2 := [some (.ref 89), some (.int (4)), some (.int (0)), some (.int (0))]) m147_3 rfl rfl ?_
      refine g_iload_n m147_4 rfl ?_
      refine g_aload_n m147_5 rfl ?_
      refine g_gf m147_6 rfl rfl ?_
      refine g_iconst m147_9 ?_
      refine g_iald (x := (0 : Int32)) m147_10 rfl (vin rfl) rfl ?_
      refine g_ic_geT m147_11 (by decide) ?_
      refine g_iload_n m147_29 rfl ?_
      refine g_iret m147_30 rfl ?_
      refine gwst (st' := [.int (0)]) rfl ?_
      refine g_istore_n (L2 := [some (.ref 89), some (.int _), some (.int (0)), some (.int (0))]) m167_45 rfl rfl ?_
      refine g_aload_n m167_46 rfl ?_
      refine g_aload_n m167_47 rfl ?_
      refine g_gf m167_48 rfl rfl ?_
      refine g_aload_n m167_51 rfl ?_
      refine g_gf m167_52 rfl rfl ?_
      refine g_cv (args := [.ref 92, .ref 90]) (rest := []) m167_55 (Nat.le_of_ble_eq_true rfl) rfl rfl rfl (Nat.le_of_ble_eq_true rfl) ?_
      refine c_moveAll rfl (Nat.le_of_ble_eq_true rfl) rfl (by rfl) (by rfl) (by decide) ?_
      refine gwst (st' := []) rfl ?_
      refine g_iload_n m167_58 rfl ?_
      refine g_iload_n m167_59 rfl ?_
      refine g_isub (u := (0 : Int32)) m167_60 (by decide) ?_
      refine g_iret m167_61 rfl ?_
      refine gwst (st' := [.int (0), .int (0)]) rfl ?_
      refine g_ic_eqT m190_988 (by decide) ?_
      refine g_iinc (x2 := (6 : Int32)) (L2 := [some (.ref 0), some (.ref 32), some (.ref 89), some (.int (6))]) m190_1428 rfl (by decide) rfl rfl ?_
      refine g_goto m190_1431 ?_
      refine g_iload_n m190_18 rfl ?_
      refine g_aload_n m190_19 rfl ?_
      refine g_alen (n := 6) m190_20 rfl (Or.inl rfl) rfl ?_
      refine g_bipush m190_21 ?_
      refine g_isub (u := (0 : Int32)) m190_23 (by decide) ?_
      refine g_ic_gtT m190_24 (by decide) ?_
      refine g_iconst m190_1434 ?_
      refine g_zret m190_1435 rfl (Or.inr rfl) ?_
      exact rfl
set_option maxRecDepth 20000 in
set_option maxHeartbeats 40000000 in
theorem lc_25 {s0 s1 s2 s3 s4 s5 : Int32} {d mc ms : Nat} : gw [s0, s1, s2, s3, s4, s5] (WP [s0, s1, s2, s3, s4, s5] (d + 20)) 190 (fun r _ => r = some (.int 1)) 993 [some (.ref 0), some (.ref 32), some (.ref 89), some (.int 0)] [] (hX0 ++ hM0) mc ms := by
  refine g_aload_n m190_993 rfl ?_
  refine g_aload_n m190_994 rfl ?_
  refine g_iload_n m190_995 rfl ?_
  refine g_iconst m190_996 ?_
  refine g_iadd (u := (1 : Int32)) m190_997 (by decide) ?_
  refine g_iald (x := s1) m190_998 rfl (vin rfl) rfl ?_
  refine g_aload_n m190_999 rfl ?_
  refine g_iload_n m190_1000 rfl ?_
  refine g_iconst m190_1001 ?_
  refine g_iadd (u := (2 : Int32)) m190_1002 (by decide) ?_
  refine g_iald (x := s2) m190_1003 rfl (vin rfl) rfl ?_
  refine g_aload_n m190_1004 rfl ?_
  refine g_iload_n m190_1005 rfl ?_
  refine g_iconst m190_1006 ?_
  refine g_iadd (u := (3 : Int32)) m190_1007 (by decide) ?_
  refine g_iald (x := s3) m190_1008 rfl (vin rfl) rfl ?_
  refine g_cv (args := [.int _, .int _, .int _]) (rest := []) m190_1009 (Nat.le_of_ble_eq_true rfl) rfl rfl rfl (Nat.le_of_ble_eq_true rfl) ?_
  refine wp_in (L := [some (.ref 32), some (.int _), some (.int _), some (.int _), none, none]) (Nat.le_of_ble_eq_true rfl) rfl ?_
  refine g_aload_n m89_0 rfl ?_
  refine g_iload_n m89_1 rfl ?_
  refine g_cv (args := [.int _]) (rest := []) m89_2 (Nat.le_of_ble_eq_true rfl) rfl rfl rfl (Nat.le_of_ble_eq_true rfl) ?_
  refine wp_in (L := [some (.ref 32), some (.int _)]) (Nat.le_of_ble_eq_true rfl) rfl ?_
  refine g_iload_n m60_0 rfl ?_
  refine g_if_lt m60_1 (fun c1 => ?_) (fun c1 => ?_)
  · have d2 : (s1).toInt < 0 := (lt_k (by rfl) (by rfl)).mp c1
    refine g_iconst m60_19 ?_
    refine g_zret m60_20 rfl (Or.inl rfl) ?_
    refine gwst (st' := [.int (0)]) rfl ?_
    refine g_if_eqT m89_5 (by decide) ?_
    refine g_aload_n m89_25 rfl ?_
    refine g_iconst m89_26 ?_
    refine g_cv (args := [.int (1)]) (rest := []) m89_27 (Nat.le_of_ble_eq_true rfl) rfl rfl rfl (Nat.le_of_ble_eq_true rfl) ?_
    refine wp_in (L := [some (.ref 32), some (.int (1))]) (Nat.le_of_ble_eq_true rfl) rfl ?_
    refine g_aload_n m55_0 rfl ?_
    refine g_gf m55_1 rfl rfl ?_
    refine g_iload_n m55_4 rfl ?_
    refine g_dup2 m55_5 rfl rfl ?_
    refine g_iald (x := (0 : Int32)) m55_6 rfl (vin rfl) rfl ?_
    refine g_iconst m55_7 ?_
    refine g_iadd (u := (1 : Int32)) m55_8 (by decide) ?_
    refine g_iast m55_9 (Nat.le_of_ble_eq_true rfl) rfl (vin rfl) rfl rfl rfl ?_
    refine g_ldcw m55_10 ?_
    refine g_iload_n m55_13 rfl ?_
    refine g_isub (u := (-1000000001 : Int32)) m55_14 (by decide) ?_
    refine g_iret m55_15 rfl ?_
    refine gwst (st' := [.int (-1000000001)]) rfl ?_
    refine g_iret m89_30 rfl ?_
    refine gwst (st' := [.int (-1000000001)]) rfl ?_
    refine FRg rfl (fun f => ?_)
    refine g_aload_n m190_1012 rfl ?_
    refine g_aload_n m190_1013 rfl ?_
    refine g_iload_n m190_1014 rfl ?_
    refine g_iconst m190_1015 ?_
    refine g_iadd (u := (1 : Int32)) m190_1016 (by decide) ?_
    refine g_iald (x := s1) m190_1017 rfl (vin rfl) rfl ?_
    refine g_aload_n m190_1018 rfl ?_
    refine g_iload_n m190_1019 rfl ?_
    refine g_iconst m190_1020 ?_
    refine g_iadd (u := (2 : Int32)) m190_1021 (by decide) ?_
    refine g_iald (x := s2) m190_1022 rfl (vin rfl) rfl ?_
    refine g_aload_n m190_1023 rfl ?_
    refine g_iload_n m190_1024 rfl ?_
    refine g_iconst m190_1025 ?_
    refine g_iadd (u := (3 : Int32)) m190_1026 (by decide) ?_
    refine g_iald (x := s3) m190_1027 rfl (vin rfl) rfl ?_
    refine g_cv (args := [.int _, .int _, .int _]) (rest := [.int (-1000000001)]) m190_1028 (Nat.le_of_ble_eq_true rfl) rfl rfl rfl (Nat.le_of_ble_eq_true rfl) ?_
    refine wp_in (L := [some (.ref 89), some (.int _), some (.int _), some (.int _), none, none]) (Nat.le_of_ble_eq_true rfl) rfl ?_
    refine g_aload_n m169_0 rfl ?_
    refine g_iload_n m169_1 rfl ?_
    refine g_cv (args := [.int _]) (rest := []) m169_2 (Nat.le_of_ble_eq_true rfl) rfl rfl rfl (Nat.le_of_ble_eq_true rfl) ?_
    refine wp_in (L := [some (.ref 89), some (.int _)]) (Nat.le_of_ble_eq_true rfl) rfl ?_
    refine g_iload_n m113_0 rfl ?_
    refine g_iconst m113_1 ?_
    refine g_aload_n m113_2 rfl ?_
    refine g_gf m113_3 rfl rfl ?_
    refine g_iconst m113_6 ?_
    refine g_iald (x := (0 : Int32)) m113_7 rfl (vin rfl) rfl ?_
    refine g_iconst m113_8 ?_
    refine g_isub (u := (-1 : Int32)) m113_9 (by decide) ?_
    refine g_cs (args := [.int _, .int (0), .int (-1)]) (rest := []) 0 (Or.inl rfl) m113_10 (Nat.le_of_ble_eq_true rfl) rfl rfl (Nat.le_of_ble_eq_true rfl) ?_
    refine wp_in (L := [some (.int _), some (.int (0)), some (.int (-1))]) (Nat.le_of_ble_eq_true rfl) rfl ?_
    refine g_iload_n m107_0 rfl ?_
    refine g_iload_n m107_1 rfl ?_
    refine g_ic_ltT m107_2 ((lt_k (a := (s1).toInt) (b := 0) (by rfl) (by rfl)).mpr (by omega)) ?_
    refine g_iconst m107_14 ?_
    refine g_zret m107_15 rfl (Or.inl rfl) ?_
    refine gwst (st' := [.int (0)]) rfl ?_
    refine g_zret m113_13 rfl (Or.inl rfl) ?_
    refine gwst (st' := [.int (0)]) rfl ?_
    refine g_if_eqT m169_5 (by decide) ?_
    refine g_aload_n m169_27 rfl ?_
    refine g_ldci m169_28 rfl ?_
    refine g_cv (args := [.int (-1000000001)]) (rest := []) m169_30 (Nat.le_of_ble_eq_true rfl) rfl rfl rfl (Nat.le_of_ble_eq_true rfl) ?_
    refine wp_in (L := [some (.ref 89), some (.int (-1000000001))]) (Nat.le_of_ble_eq_true rfl) rfl ?_
    refine g_aload_n m108_0 rfl ?_
    refine g_gf m108_1 rfl rfl ?_
    refine g_ldci m108_4 rfl ?_
    refine g_iload_n m108_6 rfl ?_
    refine g_isub (u := (1 : Int32)) m108_7 (by decide) ?_
    refine g_dup2 m108_8 rfl rfl ?_
    refine g_iald (x := (0 : Int32)) m108_9 rfl (vin rfl) rfl ?_
    refine g_iconst m108_10 ?_
    refine g_iadd (u := (1 : Int32)) m108_11 (by decide) ?_
    refine g_iast m108_12 (Nat.le_of_ble_eq_true rfl) rfl (vin rfl) rfl rfl rfl ?_
    refine g_iload_n m108_13 rfl ?_
    refine g_iret m108_14 rfl ?_
    refine gwst (st' := [.int (-1000000001)]) rfl ?_
    refine g_iret m169_33 rfl ?_
    refine gwst (st' := [.int (-1000000001), .int (-1000000001)]) rfl ?_
    refine g_ic_eqT m190_1031 (by decide) ?_
    refine g_iinc (x2 := (6 : Int32)) (L2 := [some (.ref 0), some (.ref 32), some (.ref 89), some (.int (6))]) m190_1428 rfl (by decide) rfl rfl ?_
    refine g_goto m190_1431 ?_
    refine g_iload_n m190_18 rfl ?_
    refine g_aload_n m190_19 rfl ?_
    refine g_alen (n := 6) m190_20 rfl (Or.inl rfl) rfl ?_
    refine g_bipush m190_21 ?_
    refine g_isub (u := (0 : Int32)) m190_23 (by decide) ?_
    refine g_ic_gtT m190_24 (by decide) ?_
    refine g_iconst m190_1434 ?_
    refine g_zret m190_1435 rfl (Or.inr rfl) ?_
    exact rfl
  · have d2 : ¬ ((s1).toInt < 0) := fun q => c1 ((lt_k (by rfl) (by rfl)).mpr q)
    refine g_iload_n m60_4 rfl ?_
    refine g_aload_n m60_5 rfl ?_
    refine g_gf m60_6 rfl rfl ?_
    refine g_gf m60_9 rfl rfl ?_
    refine g_ic_geT m60_12 ((le_k (a := 0) (b := (s1).toInt) (by rfl) (by rfl)).mpr (by omega)) ?_
    refine g_iconst m60_19 ?_
    refine g_zret m60_20 rfl (Or.inl rfl) ?_
    refine gwst (st' := [.int (0)]) rfl ?_
    refine g_if_eqT m89_5 (by decide) ?_
    refine g_aload_n m89_25 rfl ?_
    refine g_iconst m89_26 ?_
    refine g_cv (args := [.int (1)]) (rest := []) m89_27 (Nat.le_of_ble_eq_true rfl) rfl rfl rfl (Nat.le_of_ble_eq_true rfl) ?_
    refine wp_in (L := [some (.ref 32), some (.int (1))]) (Nat.le_of_ble_eq_true rfl) rfl ?_
    refine g_aload_n m55_0 rfl ?_
    refine g_gf m55_1 rfl rfl ?_
    refine g_iload_n m55_4 rfl ?_
    refine g_dup2 m55_5 rfl rfl ?_
    refine g_iald (x := (0 : Int32)) m55_6 rfl (vin rfl) rfl ?_
    refine g_iconst m55_7 ?_
    refine g_iadd (u := (1 : Int32)) m55_8 (by decide) ?_
    refine g_iast m55_9 (Nat.le_of_ble_eq_true rfl) rfl (vin rfl) rfl rfl rfl ?_
    refine g_ldcw m55_10 ?_
    refine g_iload_n m55_13 rfl ?_
    refine g_isub (u := (-1000000001 : Int32)) m55_14 (by decide) ?_
    refine g_iret m55_15 rfl ?_
    refine gwst (st' := [.int (-1000000001)]) rfl ?_
    refine g_iret m89_30 rfl ?_
    refine gwst (st' := [.int (-1000000001)]) rfl ?_
    refine FRg rfl (fun f => ?_)
    refine g_aload_n m190_1012 rfl ?_
    refine g_aload_n m190_1013 rfl ?_
    refine g_iload_n m190_1014 rfl ?_
    refine g_iconst m190_1015 ?_
    refine g_iadd (u := (1 : Int32)) m190_1016 (by decide) ?_
    refine g_iald (x := s1) m190_1017 rfl (vin rfl) rfl ?_
    refine g_aload_n m190_1018 rfl ?_
    refine g_iload_n m190_1019 rfl ?_
    refine g_iconst m190_1020 ?_
    refine g_iadd (u := (2 : Int32)) m190_1021 (by decide) ?_
    refine g_iald (x := s2) m190_1022 rfl (vin rfl) rfl ?_
    refine g_aload_n m190_1023 rfl ?_
    refine g_iload_n m190_1024 rfl ?_
    refine g_iconst m190_1025 ?_
    refine g_iadd (u := (3 : Int32)) m190_1026 (by decide) ?_
    refine g_iald (x := s3) m190_1027 rfl (vin rfl) rfl ?_
    refine g_cv (args := [.int _, .int _, .int _]) (rest := [.int (-1000000001)]) m190_1028 (Nat.le_of_ble_eq_true rfl) rfl rfl rfl (Nat.le_of_ble_eq_true rfl) ?_
    refine wp_in (L := [some (.ref 89), some (.int _), some (.int _), some (.int _), none, none]) (Nat.le_of_ble_eq_true rfl) rfl ?_
    refine g_aload_n m169_0 rfl ?_
    refine g_iload_n m169_1 rfl ?_
    refine g_cv (args := [.int _]) (rest := []) m169_2 (Nat.le_of_ble_eq_true rfl) rfl rfl rfl (Nat.le_of_ble_eq_true rfl) ?_
    refine wp_in (L := [some (.ref 89), some (.int _)]) (Nat.le_of_ble_eq_true rfl) rfl ?_
    refine g_iload_n m113_0 rfl ?_
    refine g_iconst m113_1 ?_
    refine g_aload_n m113_2 rfl ?_
    refine g_gf m113_3 rfl rfl ?_
    refine g_iconst m113_6 ?_
    refine g_iald (x := (0 : Int32)) m113_7 rfl (vin rfl) rfl ?_
    refine g_iconst m113_8 ?_
    refine g_isub (u := (-1 : Int32)) m113_9 (by decide) ?_
    refine g_cs (args := [.int _, .int (0), .int (-1)]) (rest := []) 0 (Or.inl rfl) m113_10 (Nat.le_of_ble_eq_true rfl) rfl rfl (Nat.le_of_ble_eq_true rfl) ?_
    refine wp_in (L := [some (.int _), some (.int (0)), some (.int (-1))]) (Nat.le_of_ble_eq_true rfl) rfl ?_
    refine g_iload_n m107_0 rfl ?_
    refine g_iload_n m107_1 rfl ?_
    refine g_ic_ltF m107_2 (fun q => absurd ((lt_k (a := (s1).toInt) (b := 0) (by rfl) (by rfl)).mp q) (by omega)) ?_
    refine g_iload_n m107_5 rfl ?_
    refine g_iload_n m107_6 rfl ?_
    refine g_ic_gtT m107_7 ((lt_k (a := (-1)) (b := (s1).toInt) (by rfl) (by rfl)).mpr (by omega)) ?_
    refine g_iconst m107_14 ?_
    refine g_zret m107_15 rfl (Or.inl rfl) ?_
    refine gwst (st' := [.int (0)]) rfl ?_
    refine g_zret m113_13 rfl (Or.inl rfl) ?_
    refine gwst (st' := [.int (0)]) rfl ?_
    refine g_if_eqT m169_5 (by decide) ?_
    refine g_aload_n m169_27 rfl ?_
    refine g_ldci m169_28 rfl ?_
    refine g_cv (args := [.int (-1000000001)]) (rest := []) m169_30 (Nat.le_of_ble_eq_true rfl) rfl rfl rfl (Nat.le_of_ble_eq_true rfl) ?_
    refine wp_in (L := [some (.ref 89), some (.int (-1000000001))]) (Nat.le_of_ble_eq_true rfl) rfl ?_
    refine g_aload_n m108_0 rfl ?_
    refine g_gf m108_1 rfl rfl ?_
    refine g_ldci m108_4 rfl ?_
    refine g_iload_n m108_6 rfl ?_
    refine g_isub (u := (1 : Int32)) m108_7 (by decide) ?_
    refine g_dup2 m108_8 rfl rfl ?_
    refine g_iald (x := (0 : Int32)) m108_9 rfl (vin rfl) rfl ?_
    refine g_iconst m108_10 ?_
    refine g_iadd (u := (1 : Int32)) m108_11 (by decide) ?_
    refine g_iast m108_12 (Nat.le_of_ble_eq_true rfl) rfl (vin rfl) rfl rfl rfl ?_
    refine g_iload_n m108_13 rfl ?_
    refine g_iret m108_14 rfl ?_
    refine gwst (st' := [.int (-1000000001)]) rfl ?_
    refine g_iret m169_33 rfl ?_
    refine gwst (st' := [.int (-1000000001), .int (-1000000001)]) rfl ?_
    refine g_ic_eqT m190_1031 (by decide) ?_
    refine g_iinc (x2 := (6 : Int32)) (L2 := [some (.ref 0), some (.ref 32), some (.ref 89), some (.int (6))]) m190_1428 rfl (by decide) rfl rfl ?_
    refine g_goto m190_1431 ?_
    refine g_iload_n m190_18 rfl ?_
    refine g_aload_n m190_19 rfl ?_
    refine g_alen (n := 6) m190_20 rfl (Or.inl rfl) rfl ?_
    refine g_bipush m190_21 ?_
    refine g_isub (u := (0 : Int32)) m190_23 (by decide) ?_
    refine g_ic_gtT m190_24 (by decide) ?_
    refine g_iconst m190_1434 ?_
    refine g_zret m190_1435 rfl (Or.inr rfl) ?_
    exact rfl
set_option maxRecDepth 20000 in
set_option maxHeartbeats 40000000 in
theorem lc_26 {s0 s1 s2 s3 s4 s5 : Int32} {d mc ms : Nat} : gw [s0, s1, s2, s3, s4, s5] (WP [s0, s1, s2, s3, s4, s5] (d + 20)) 190 (fun r _ => r = some (.int 1)) 1036 [some (.ref 0), some (.ref 32), some (.ref 89), some (.int 0)] [] (hX0 ++ hM0) mc ms := by
  refine g_aload_n m190_1036 rfl ?_
  refine g_aload_n m190_1037 rfl ?_
  refine g_iload_n m190_1038 rfl ?_
  refine g_iconst m190_1039 ?_
  refine g_iadd (u := (1 : Int32)) m190_1040 (by decide) ?_
  refine g_iald (x := s1) m190_1041 rfl (vin rfl) rfl ?_
  refine g_cv (args := [.int _]) (rest := []) m190_1042 (Nat.le_of_ble_eq_true rfl) rfl rfl rfl (Nat.le_of_ble_eq_true rfl) ?_
  refine wp_in (L := [some (.ref 32), some (.int _), none]) (Nat.le_of_ble_eq_true rfl) rfl ?_
  refine g_aload_n m90_0 rfl ?_
  refine g_gf m90_1 rfl rfl ?_
  refine g_gf m90_4 rfl rfl ?_
  refine g_istore_n (L2 := [some (.ref 32), some (.int _), some (.int (1))]) m90_7 rfl rfl ?_
  refine g_aload_n m90_8 rfl ?_
  refine g_gf m90_9 rfl rfl ?_
  refine g_iload_n m90_12 rfl ?_
  refine g_pf (fs2 := [.int _, .ref 70, .int (0), .ref 71, .int (0)]) m90_13 rfl (Nat.le_of_ble_eq_true rfl) rfl (Nat.le_of_ble_eq_true rfl) trivial rfl rfl rfl ?_
  refine g_iload_n m90_16 rfl ?_
  refine g_iret m90_17 rfl ?_
  refine gwst (st' := [.int (1)]) rfl ?_
  refine FRg rfl (fun f => ?_)
  refine g_aload_n m190_1045 rfl ?_
  refine g_aload_n m190_1046 rfl ?_
  refine g_iload_n m190_1047 rfl ?_
  refine g_iconst m190_1048 ?_
  refine g_iadd (u := (1 : Int32)) m190_1049 (by decide) ?_
  refine g_iald (x := s1) m190_1050 rfl (vin rfl) rfl ?_
  refine g_cv (args := [.int _]) (rest := [.int (1)]) m190_1051 (Nat.le_of_ble_eq_true rfl) rfl rfl rfl (Nat.le_of_ble_eq_true rfl) ?_
  refine wp_in (L := [some (.ref 89), some (.int _), none]) (Nat.le_of_ble_eq_true rfl) rfl ?_
  refine g_aload_n m170_0 rfl ?_
  refine g_gf m170_1 rfl rfl ?_
  refine g_iconst m170_4 ?_
  refine g_iald (x := (1 : Int32)) m170_5 rfl (vin rfl) rfl ?_
  refine g_istore_n (L2 := [some (.ref 89), some (.int _), some (.int (1))]) m170_6 rfl rfl ?_
  refine g_aload_n m170_7 rfl ?_
  refine g_gf m170_8 rfl rfl ?_
  refine g_iconst m170_11 ?_
  refine g_iload_n m170_12 rfl ?_
  refine g_iast m170_13 (Nat.le_of_ble_eq_true rfl) rfl (vin rfl) rfl rfl rfl ?_
  refine g_iload_n m170_14 rfl ?_
  refine g_iret m170_15 rfl ?_
  refine gwst (st' := [.int (1), .int (1)]) rfl ?_
  refine g_ic_eqT m190_1054 (by decide) ?_
  refine g_iinc (x2 := (6 : Int32)) (L2 := [some (.ref 0), some (.ref 32), some (.ref 89), some (.int (6))]) m190_1428 rfl (by decide) rfl rfl ?_
  refine g_goto m190_1431 ?_
  refine g_iload_n m190_18 rfl ?_
  refine g_aload_n m190_19 rfl ?_
  refine g_alen (n := 6) m190_20 rfl (Or.inl rfl) rfl ?_
  refine g_bipush m190_21 ?_
  refine g_isub (u := (0 : Int32)) m190_23 (by decide) ?_
  refine g_ic_gtT m190_24 (by decide) ?_
  refine g_iconst m190_1434 ?_
  refine g_zret m190_1435 rfl (Or.inr rfl) ?_
  exact rfl
set_option maxRecDepth 20000 in
set_option maxHeartbeats 40000000 in
theorem lc_27 {s0 s1 s2 s3 s4 s5 : Int32} {d mc ms : Nat} : gw [s0, s1, s2, s3, s4, s5] (WP [s0, s1, s2, s3, s4, s5] (d + 20)) 190 (fun r _ => r = some (.int 1)) 1059 [some (.ref 0), some (.ref 32), some (.ref 89), some (.int 0)] [] (hX0 ++ hM0) mc ms := by
  refine g_aload_n m190_1059 rfl ?_
  refine g_aload_n m190_1060 rfl ?_
  refine g_iload_n m190_1061 rfl ?_
  refine g_iconst m190_1062 ?_
  refine g_iadd (u := (1 : Int32)) m190_1063 (by decide) ?_
  refine g_iald (x := s1) m190_1064 rfl (vin rfl) rfl ?_
  refine g_aload_n m190_1065 rfl ?_
  refine g_iload_n m190_1066 rfl ?_
  refine g_iconst m190_1067 ?_
  refine g_iadd (u := (2 : Int32)) m190_1068 (by decide) ?_
  refine g_iald (x := s2) m190_1069 rfl (vin rfl) rfl ?_
  refine g_aload_n m190_1070 rfl ?_
  refine g_iload_n m190_1071 rfl ?_
  refine g_iconst m190_1072 ?_
  refine g_iadd (u := (3 : Int32)) m190_1073 (by decide) ?_
  refine g_iald (x := s3) m190_1074 rfl (vin rfl) rfl ?_
  refine g_cv (args := [.int _, .int _, .int _]) (rest := []) m190_1075 (Nat.le_of_ble_eq_true rfl) rfl rfl rfl (Nat.le_of_ble_eq_true rfl) ?_
  refine wp_in (L := [some (.ref 32), some (.int _), some (.int _), some (.int _)]) (Nat.le_of_ble_eq_true rfl) rfl ?_
  refine g_aload_n m93_0 rfl ?_
  refine g_iload_n m93_1 rfl ?_
  refine g_cv (args := [.int _]) (rest := []) m93_2 (Nat.le_of_ble_eq_true rfl) rfl rfl rfl (Nat.le_of_ble_eq_true rfl) ?_
  refine wp_in (L := [some (.ref 32), some (.int _)]) (Nat.le_of_ble_eq_true rfl) rfl ?_
  refine g_iload_n m60_0 rfl ?_
  refine g_if_lt m60_1 (fun c1 => ?_) (fun c1 => ?_)
  · have d2 : (s1).toInt < 0 := (lt_k (by rfl) (by rfl)).mp c1
    refine g_iconst m60_19 ?_
    refine g_zret m60_20 rfl (Or.inl rfl) ?_
    refine gwst (st' := [.int (0)]) rfl ?_
    refine g_if_eqT m93_5 (by decide) ?_
    refine g_aload_n m93_16 rfl ?_
    refine g_iconst m93_17 ?_
    refine g_cv (args := [.int (1)]) (rest := []) m93_18 (Nat.le_of_ble_eq_true rfl) rfl rfl rfl (Nat.le_of_ble_eq_true rfl) ?_
    refine wp_in (L := [some (.ref 32), some (.int (1))]) (Nat.le_of_ble_eq_true rfl) rfl ?_
    refine g_aload_n m55_0 rfl ?_
    refine g_gf m55_1 rfl rfl ?_
    refine g_iload_n m55_4 rfl ?_
    refine g_dup2 m55_5 rfl rfl ?_
    refine g_iald (x := (0 : Int32)) m55_6 rfl (vin rfl) rfl ?_
    refine g_iconst m55_7 ?_
    refine g_iadd (u := (1 : Int32)) m55_8 (by decide) ?_
    refine g_iast m55_9 (Nat.le_of_ble_eq_true rfl) rfl (vin rfl) rfl rfl rfl ?_
    refine g_ldcw m55_10 ?_
    refine g_iload_n m55_13 rfl ?_
    refine g_isub (u := (-1000000001 : Int32)) m55_14 (by decide) ?_
    refine g_iret m55_15 rfl ?_
    refine gwst (st' := [.int (-1000000001)]) rfl ?_
    refine g_iret m93_21 rfl ?_
    refine gwst (st' := [.int (-1000000001)]) rfl ?_
    refine FRg rfl (fun f => ?_)
    refine g_aload_n m190_1078 rfl ?_
    refine g_aload_n m190_1079 rfl ?_
    refine g_iload_n m190_1080 rfl ?_
    refine g_iconst m190_1081 ?_
    refine g_iadd (u := (1 : Int32)) m190_1082 (by decide) ?_
    refine g_iald (x := s1) m190_1083 rfl (vin rfl) rfl ?_
    refine g_aload_n m190_1084 rfl ?_
    refine g_iload_n m190_1085 rfl ?_
    refine g_iconst m190_1086 ?_
    refine g_iadd (u := (2 : Int32)) m190_1087 (by decide) ?_
    refine g_iald (x := s2) m190_1088 rfl (vin rfl) rfl ?_
    refine g_aload_n m190_1089 rfl ?_
    refine g_iload_n m190_1090 rfl ?_
    refine g_iconst m190_1091 ?_
    refine g_iadd (u := (3 : Int32)) m190_1092 (by decide) ?_
    refine g_iald (x := s3) m190_1093 rfl (vin rfl) rfl ?_
    refine g_cv (args := [.int _, .int _, .int _]) (rest := [.int (-1000000001)]) m190_1094 (Nat.le_of_ble_eq_true rfl) rfl rfl rfl (Nat.le_of_ble_eq_true rfl) ?_
    refine wp_in (L := [some (.ref 89), some (.int _), some (.int _), some (.int _)]) (Nat.le_of_ble_eq_true rfl) rfl ?_
    refine g_aload_n m176_0 rfl ?_
    refine g_iload_n m176_1 rfl ?_
    refine g_cv (args := [.int _]) (rest := []) m176_2 (Nat.le_of_ble_eq_true rfl) rfl rfl rfl (Nat.le_of_ble_eq_true rfl) ?_
    refine wp_in (L := [some (.ref 89), some (.int _)]) (Nat.le_of_ble_eq_true rfl) rfl ?_
    refine g_iload_n m113_0 rfl ?_
    refine g_iconst m113_1 ?_
    refine g_aload_n m113_2 rfl ?_
    refine g_gf m113_3 rfl rfl ?_
    refine g_iconst m113_6 ?_
    refine g_iald (x := (0 : Int32)) m113_7 rfl (vin rfl) rfl ?_
    refine g_iconst m113_8 ?_
    refine g_isub (u := (-1 : Int32)) m113_9 (by decide) ?_
    refine g_cs (args := [.int _, .int (0), .int (-1)]) (rest := []) 0 (Or.inl rfl) m113_10 (Nat.le_of_ble_eq_true rfl) rfl rfl (Nat.le_of_ble_eq_true rfl) ?_
    refine wp_in (L := [some (.int _), some (.int (0)), some (.int (-1))]) (Nat.le_of_ble_eq_true rfl) rfl ?_
    refine g_iload_n m107_0 rfl ?_
    refine g_iload_n m107_1 rfl ?_
    refine g_ic_ltT m107_2 ((lt_k (a := (s1).toInt) (b := 0) (by rfl) (by rfl)).mpr (by omega)) ?_
    refine g_iconst m107_14 ?_
    refine g_zret m107_15 rfl (Or.inl rfl) ?_
    refine gwst (st' := [.int (0)]) rfl ?_
    refine g_zret m113_13 rfl (Or.inl rfl) ?_
    refine gwst (st' := [.int (0)]) rfl ?_
    refine g_if_eqT m176_5 (by decide) ?_
    refine g_aload_n m176_17 rfl ?_
    refine g_ldci m176_18 rfl ?_
    refine g_cv (args := [.int (-1000000001)]) (rest := []) m176_20 (Nat.le_of_ble_eq_true rfl) rfl rfl rfl (Nat.le_of_ble_eq_true rfl) ?_
    refine wp_in (L := [some (.ref 89), some (.int (-1000000001))]) (Nat.le_of_ble_eq_true rfl) rfl ?_
    refine g_aload_n m108_0 rfl ?_
    refine g_gf m108_1 rfl rfl ?_
    refine g_ldci m108_4 rfl ?_
    refine g_iload_n m108_6 rfl ?_
    refine g_isub (u := (1 : Int32)) m108_7 (by decide) ?_
    refine g_dup2 m108_8 rfl rfl ?_
    refine g_iald (x := (0 : Int32)) m108_9 rfl (vin rfl) rfl ?_
    refine g_iconst m108_10 ?_
    refine g_iadd (u := (1 : Int32)) m108_11 (by decide) ?_
    refine g_iast m108_12 (Nat.le_of_ble_eq_true rfl) rfl (vin rfl) rfl rfl rfl ?_
    refine g_iload_n m108_13 rfl ?_
    refine g_iret m108_14 rfl ?_
    refine gwst (st' := [.int (-1000000001)]) rfl ?_
    refine g_iret m176_23 rfl ?_
    refine gwst (st' := [.int (-1000000001), .int (-1000000001)]) rfl ?_
    refine g_ic_eqT m190_1097 (by decide) ?_
    refine g_iinc (x2 := (6 : Int32)) (L2 := [some (.ref 0), some (.ref 32), some (.ref 89), some (.int (6))]) m190_1428 rfl (by decide) rfl rfl ?_
    refine g_goto m190_1431 ?_
    refine g_iload_n m190_18 rfl ?_
    refine g_aload_n m190_19 rfl ?_
    refine g_alen (n := 6) m190_20 rfl (Or.inl rfl) rfl ?_
    refine g_bipush m190_21 ?_
    refine g_isub (u := (0 : Int32)) m190_23 (by decide) ?_
    refine g_ic_gtT m190_24 (by decide) ?_
    refine g_iconst m190_1434 ?_
    refine g_zret m190_1435 rfl (Or.inr rfl) ?_
    exact rfl
  · have d2 : ¬ ((s1).toInt < 0) := fun q => c1 ((lt_k (by rfl) (by rfl)).mpr q)
    refine g_iload_n m60_4 rfl ?_
    refine g_aload_n m60_5 rfl ?_
    refine g_gf m60_6 rfl rfl ?_
    refine g_gf m60_9 rfl rfl ?_
    refine g_ic_geT m60_12 ((le_k (a := 0) (b := (s1).toInt) (by rfl) (by rfl)).mpr (by omega)) ?_
    refine g_iconst m60_19 ?_
    refine g_zret m60_20 rfl (Or.inl rfl) ?_
    refine gwst (st' := [.int (0)]) rfl ?_
    refine g_if_eqT m93_5 (by decide) ?_
    refine g_aload_n m93_16 rfl ?_
    refine g_iconst m93_17 ?_
    refine g_cv (args := [.int (1)]) (rest := []) m93_18 (Nat.le_of_ble_eq_true rfl) rfl rfl rfl (Nat.le_of_ble_eq_true rfl) ?_
    refine wp_in (L := [some (.ref 32), some (.int (1))]) (Nat.le_of_ble_eq_true rfl) rfl ?_
    refine g_aload_n m55_0 rfl ?_
    refine g_gf m55_1 rfl rfl ?_
    refine g_iload_n m55_4 rfl ?_
    refine g_dup2 m55_5 rfl rfl ?_
    refine g_iald (x := (0 : Int32)) m55_6 rfl (vin rfl) rfl ?_
    refine g_iconst m55_7 ?_
    refine g_iadd (u := (1 : Int32)) m55_8 (by decide) ?_
    refine g_iast m55_9 (Nat.le_of_ble_eq_true rfl) rfl (vin rfl) rfl rfl rfl ?_
    refine g_ldcw m55_10 ?_
    refine g_iload_n m55_13 rfl ?_
    refine g_isub (u := (-1000000001 : Int32)) m55_14 (by decide) ?_
    refine g_iret m55_15 rfl ?_
    refine gwst (st' := [.int (-1000000001)]) rfl ?_
    refine g_iret m93_21 rfl ?_
    refine gwst (st' := [.int (-1000000001)]) rfl ?_
    refine FRg rfl (fun f => ?_)
    refine g_aload_n m190_1078 rfl ?_
    refine g_aload_n m190_1079 rfl ?_
    refine g_iload_n m190_1080 rfl ?_
    refine g_iconst m190_1081 ?_
    refine g_iadd (u := (1 : Int32)) m190_1082 (by decide) ?_
    refine g_iald (x := s1) m190_1083 rfl (vin rfl) rfl ?_
    refine g_aload_n m190_1084 rfl ?_
    refine g_iload_n m190_1085 rfl ?_
    refine g_iconst m190_1086 ?_
    refine g_iadd (u := (2 : Int32)) m190_1087 (by decide) ?_
    refine g_iald (x := s2) m190_1088 rfl (vin rfl) rfl ?_
    refine g_aload_n m190_1089 rfl ?_
    refine g_iload_n m190_1090 rfl ?_
    refine g_iconst m190_1091 ?_
    refine g_iadd (u := (3 : Int32)) m190_1092 (by decide) ?_
    refine g_iald (x := s3) m190_1093 rfl (vin rfl) rfl ?_
    refine g_cv (args := [.int _, .int _, .int _]) (rest := [.int (-1000000001)]) m190_1094 (Nat.le_of_ble_eq_true rfl) rfl rfl rfl (Nat.le_of_ble_eq_true rfl) ?_
    refine wp_in (L := [some (.ref 89), some (.int _), some (.int _), some (.int _)]) (Nat.le_of_ble_eq_true rfl) rfl ?_
    refine g_aload_n m176_0 rfl ?_
    refine g_iload_n m176_1 rfl ?_
    refine g_cv (args := [.int _]) (rest := []) m176_2 (Nat.le_of_ble_eq_true rfl) rfl rfl rfl (Nat.le_of_ble_eq_true rfl) ?_
    refine wp_in (L := [some (.ref 89), some (.int _)]) (Nat.le_of_ble_eq_true rfl) rfl ?_
    refine g_iload_n m113_0 rfl ?_
    refine g_iconst m113_1 ?_
    refine g_aload_n m113_2 rfl ?_
    refine g_gf m113_3 rfl rfl ?_
    refine g_iconst m113_6 ?_
    refine g_iald (x := (0 : Int32)) m113_7 rfl (vin rfl) rfl ?_
    refine g_iconst m113_8 ?_
    refine g_isub (u := (-1 : Int32)) m113_9 (by decide) ?_
    refine g_cs (args := [.int _, .int (0), .int (-1)]) (rest := []) 0 (Or.inl rfl) m113_10 (Nat.le_of_ble_eq_true rfl) rfl rfl (Nat.le_of_ble_eq_true rfl) ?_
    refine wp_in (L := [some (.int _), some (.int (0)), some (.int (-1))]) (Nat.le_of_ble_eq_true rfl) rfl ?_
    refine g_iload_n m107_0 rfl ?_
    refine g_iload_n m107_1 rfl ?_
    refine g_ic_ltF m107_2 (fun q => absurd ((lt_k (a := (s1).toInt) (b := 0) (by rfl) (by rfl)).mp q) (by omega)) ?_
    refine g_iload_n m107_5 rfl ?_
    refine g_iload_n m107_6 rfl ?_
    refine g_ic_gtT m107_7 ((lt_k (a := (-1)) (b := (s1).toInt) (by rfl) (by rfl)).mpr (by omega)) ?_
    refine g_iconst m107_14 ?_
    refine g_zret m107_15 rfl (Or.inl rfl) ?_
    refine gwst (st' := [.int (0)]) rfl ?_
    refine g_zret m113_13 rfl (Or.inl rfl) ?_
    refine gwst (st' := [.int (0)]) rfl ?_
    refine g_if_eqT m176_5 (by decide) ?_
    refine g_aload_n m176_17 rfl ?_
    refine g_ldci m176_18 rfl ?_
    refine g_cv (args := [.int (-1000000001)]) (rest := []) m176_20 (Nat.le_of_ble_eq_true rfl) rfl rfl rfl (Nat.le_of_ble_eq_true rfl) ?_
    refine wp_in (L := [some (.ref 89), some (.int (-1000000001))]) (Nat.le_of_ble_eq_true rfl) rfl ?_
    refine g_aload_n m108_0 rfl ?_
    refine g_gf m108_1 rfl rfl ?_
    refine g_ldci m108_4 rfl ?_
    refine g_iload_n m108_6 rfl ?_
    refine g_isub (u := (1 : Int32)) m108_7 (by decide) ?_
    refine g_dup2 m108_8 rfl rfl ?_
    refine g_iald (x := (0 : Int32)) m108_9 rfl (vin rfl) rfl ?_
    refine g_iconst m108_10 ?_
    refine g_iadd (u := (1 : Int32)) m108_11 (by decide) ?_
    refine g_iast m108_12 (Nat.le_of_ble_eq_true rfl) rfl (vin rfl) rfl rfl rfl ?_
    refine g_iload_n m108_13 rfl ?_
    refine g_iret m108_14 rfl ?_
    refine gwst (st' := [.int (-1000000001)]) rfl ?_
    refine g_iret m176_23 rfl ?_
    refine gwst (st' := [.int (-1000000001), .int (-1000000001)]) rfl ?_
    refine g_ic_eqT m190_1097 (by decide) ?_
    refine g_iinc (x2 := (6 : Int32)) (L2 := [some (.ref 0), some (.ref 32), some (.ref 89), some (.int (6))]) m190_1428 rfl (by decide) rfl rfl ?_
    refine g_goto m190_1431 ?_
    refine g_iload_n m190_18 rfl ?_
    refine g_aload_n m190_19 rfl ?_
    refine g_alen (n := 6) m190_20 rfl (Or.inl rfl) rfl ?_
    refine g_bipush m190_21 ?_
    refine g_isub (u := (0 : Int32)) m190_23 (by decide) ?_
    refine g_ic_gtT m190_24 (by decide) ?_
    refine g_iconst m190_1434 ?_
    refine g_zret m190_1435 rfl (Or.inr rfl) ?_
    exact rfl
set_option maxRecDepth 20000 in
set_option maxHeartbeats 40000000 in
theorem lc_28 {s0 s1 s2 s3 s4 s5 : Int32} {d mc ms : Nat} : gw [s0, s1, s2, s3, s4, s5] (WP [s0, s1, s2, s3, s4, s5] (d + 20)) 190 (fun r _ => r = some (.int 1)) 1102 [some (.ref 0), some (.ref 32), some (.ref 89), some (.int 0)] [] (hX0 ++ hM0) mc ms := by
  refine g_aload_n m190_1102 rfl ?_
  refine g_aload_n m190_1103 rfl ?_
  refine g_iload_n m190_1104 rfl ?_
  refine g_iconst m190_1105 ?_
  refine g_iadd (u := (1 : Int32)) m190_1106 (by decide) ?_
  refine g_iald (x := s1) m190_1107 rfl (vin rfl) rfl ?_
  refine g_cv (args := [.int _]) (rest := []) m190_1108 (Nat.le_of_ble_eq_true rfl) rfl rfl rfl (Nat.le_of_ble_eq_true rfl) ?_
  refine wp_in (L := [some (.ref 32), some (.int _)]) (Nat.le_of_ble_eq_true rfl) rfl ?_
  refine g_iload_n m94_0 rfl ?_
  refine g_if_lt m94_1 (fun c1 => ?_) (fun c1 => ?_)
  · have d2 : (s1).toInt < 0 := (lt_k (by rfl) (by rfl)).mp c1
    refine g_aload_n m94_15 rfl ?_
    refine g_iconst m94_16 ?_
    refine g_cv (args := [.int (2)]) (rest := []) m94_17 (Nat.le_of_ble_eq_true rfl) rfl rfl rfl (Nat.le_of_ble_eq_true rfl) ?_
    refine wp_in (L := [some (.ref 32), some (.int (2))]) (Nat.le_of_ble_eq_true rfl) rfl ?_
    refine g_aload_n m55_0 rfl ?_
    refine g_gf m55_1 rfl rfl ?_
    refine g_iload_n m55_4 rfl ?_
    refine g_dup2 m55_5 rfl rfl ?_
    refine g_iald (x := (0 : Int32)) m55_6 rfl (vin rfl) rfl ?_
    refine g_iconst m55_7 ?_
    refine g_iadd (u := (1 : Int32)) m55_8 (by decide) ?_
    refine g_iast m55_9 (Nat.le_of_ble_eq_true rfl) rfl (vin rfl) rfl rfl rfl ?_
    refine g_ldcw m55_10 ?_
    refine g_iload_n m55_13 rfl ?_
    refine g_isub (u := (-1000000002 : Int32)) m55_14 (by decide) ?_
    refine g_iret m55_15 rfl ?_
    refine gwst (st' := [.int (-1000000002)]) rfl ?_
    refine g_iret m94_20 rfl ?_
    refine gwst (st' := [.int (-1000000002)]) rfl ?_
    refine FRg rfl (fun f => ?_)
    refine g_aload_n m190_1111 rfl ?_
    refine g_aload_n m190_1112 rfl ?_
    refine g_iload_n m190_1113 rfl ?_
    refine g_iconst m190_1114 ?_
    refine g_iadd (u := (1 : Int32)) m190_1115 (by decide) ?_
    refine g_iald (x := s1) m190_1116 rfl (vin rfl) rfl ?_
    refine g_cv (args := [.int _]) (rest := [.int (-1000000002)]) m190_1117 (Nat.le_of_ble_eq_true rfl) rfl rfl rfl (Nat.le_of_ble_eq_true rfl) ?_
    refine wp_in (L := [some (.ref 89), some (.int _)]) (Nat.le_of_ble_eq_true rfl) rfl ?_
    refine g_iload_n m177_0 rfl ?_
    refine g_iconst m177_1 ?_
    refine g_aload_n m177_2 rfl ?_
    refine g_gf m177_3 rfl rfl ?_
    refine g_iconst m177_6 ?_
    refine g_isub (u := (-1 : Int32)) m177_7 (by decide) ?_
    refine g_cs (args := [.int _, .int (0), .int (-1)]) (rest := []) 0 (Or.inl rfl) m177_8 (Nat.le_of_ble_eq_true rfl) rfl rfl (Nat.le_of_ble_eq_true rfl) ?_
    refine wp_in (L := [some (.int _), some (.int (0)), some (.int (-1))]) (Nat.le_of_ble_eq_true rfl) rfl ?_
    refine g_iload_n m107_0 rfl ?_
    refine g_iload_n m107_1 rfl ?_
    refine g_ic_ltT m107_2 ((lt_k (a := (s1).toInt) (b := 0) (by rfl) (by rfl)).mpr (by omega)) ?_
    refine g_iconst m107_14 ?_
    refine g_zret m107_15 rfl (Or.inl rfl) ?_
    refine gwst (st' := [.int (0)]) rfl ?_
    refine g_if_eqT m177_11 (by decide) ?_
    refine g_aload_n m177_23 rfl ?_
    refine g_ldci m177_24 rfl ?_
    refine g_cv (args := [.int (-1000000002)]) (rest := []) m177_26 (Nat.le_of_ble_eq_true rfl) rfl rfl rfl (Nat.le_of_ble_eq_true rfl) ?_
    refine wp_in (L := [some (.ref 89), some (.int (-1000000002))]) (Nat.le_of_ble_eq_true rfl) rfl ?_
    refine g_aload_n m108_0 rfl ?_
    refine g_gf m108_1 rfl rfl ?_
    refine g_ldci m108_4 rfl ?_
    refine g_iload_n m108_6 rfl ?_
    refine g_isub (u := (2 : Int32)) m108_7 (by decide) ?_
    refine g_dup2 m108_8 rfl rfl ?_
    refine g_iald (x := (0 : Int32)) m108_9 rfl (vin rfl) rfl ?_
    refine g_iconst m108_10 ?_
    refine g_iadd (u := (1 : Int32)) m108_11 (by decide) ?_
    refine g_iast m108_12 (Nat.le_of_ble_eq_true rfl) rfl (vin rfl) rfl rfl rfl ?_
    refine g_iload_n m108_13 rfl ?_
    refine g_iret m108_14 rfl ?_
    refine gwst (st' := [.int (-1000000002)]) rfl ?_
    refine g_iret m177_29 rfl ?_
    refine gwst (st' := [.int (-1000000002), .int (-1000000002)]) rfl ?_
    refine g_ic_eqT m190_1120 (by decide) ?_
    refine g_iinc (x2 := (6 : Int32)) (L2 := [some (.ref 0), some (.ref 32), some (.ref 89), some (.int (6))]) m190_1428 rfl (by decide) rfl rfl ?_
    refine g_goto m190_1431 ?_
    refine g_iload_n m190_18 rfl ?_
    refine g_aload_n m190_19 rfl ?_
    refine g_alen (n := 6) m190_20 rfl (Or.inl rfl) rfl ?_
    refine g_bipush m190_21 ?_
    refine g_isub (u := (0 : Int32)) m190_23 (by decide) ?_
    refine g_ic_gtT m190_24 (by decide) ?_
    refine g_iconst m190_1434 ?_
    refine g_zret m190_1435 rfl (Or.inr rfl) ?_
    exact rfl
  · have d2 : ¬ ((s1).toInt < 0) := fun q => c1 ((lt_k (by rfl) (by rfl)).mpr q)
    refine g_iload_n m94_4 rfl ?_
    refine g_aload_n m94_5 rfl ?_
    refine g_gf m94_6 rfl rfl ?_
    refine g_gf m94_9 rfl rfl ?_
    refine g_ic_ltF m94_12 (fun q => absurd ((lt_k (a := (s1).toInt) (b := 0) (by rfl) (by rfl)).mp q) (by omega)) ?_
    refine g_aload_n m94_15 rfl ?_
    refine g_iconst m94_16 ?_
    refine g_cv (args := [.int (2)]) (rest := []) m94_17 (Nat.le_of_ble_eq_true rfl) rfl rfl rfl (Nat.le_of_ble_eq_true rfl) ?_
    refine wp_in (L := [some (.ref 32), some (.int (2))]) (Nat.le_of_ble_eq_true rfl) rfl ?_
    refine g_aload_n m55_0 rfl ?_
    refine g_gf m55_1 rfl rfl ?_
    refine g_iload_n m55_4 rfl ?_
    refine g_dup2 m55_5 rfl rfl ?_
    refine g_iald (x := (0 : Int32)) m55_6 rfl (vin rfl) rfl ?_
    refine g_iconst m55_7 ?_
    refine g_iadd (u := (1 : Int32)) m55_8 (by decide) ?_
    refine g_iast m55_9 (Nat.le_of_ble_eq_true rfl) rfl (vin rfl) rfl rfl rfl ?_
    refine g_ldcw m55_10 ?_
    refine g_iload_n m55_13 rfl ?_
    refine g_isub (u := (-1000000002 : Int32)) m55_14 (by decide) ?_
    refine g_iret m55_15 rfl ?_
    refine gwst (st' := [.int (-1000000002)]) rfl ?_
    refine g_iret m94_20 rfl ?_
    refine gwst (st' := [.int (-1000000002)]) rfl ?_
    refine FRg rfl (fun f => ?_)
    refine g_aload_n m190_1111 rfl ?_
    refine g_aload_n m190_1112 rfl ?_
    refine g_iload_n m190_1113 rfl ?_
    refine g_iconst m190_1114 ?_
    refine g_iadd (u := (1 : Int32)) m190_1115 (by decide) ?_
    refine g_iald (x := s1) m190_1116 rfl (vin rfl) rfl ?_
    refine g_cv (args := [.int _]) (rest := [.int (-1000000002)]) m190_1117 (Nat.le_of_ble_eq_true rfl) rfl rfl rfl (Nat.le_of_ble_eq_true rfl) ?_
    refine wp_in (L := [some (.ref 89), some (.int _)]) (Nat.le_of_ble_eq_true rfl) rfl ?_
    refine g_iload_n m177_0 rfl ?_
    refine g_iconst m177_1 ?_
    refine g_aload_n m177_2 rfl ?_
    refine g_gf m177_3 rfl rfl ?_
    refine g_iconst m177_6 ?_
    refine g_isub (u := (-1 : Int32)) m177_7 (by decide) ?_
    refine g_cs (args := [.int _, .int (0), .int (-1)]) (rest := []) 0 (Or.inl rfl) m177_8 (Nat.le_of_ble_eq_true rfl) rfl rfl (Nat.le_of_ble_eq_true rfl) ?_
    refine wp_in (L := [some (.int _), some (.int (0)), some (.int (-1))]) (Nat.le_of_ble_eq_true rfl) rfl ?_
    refine g_iload_n m107_0 rfl ?_
    refine g_iload_n m107_1 rfl ?_
    refine g_ic_ltF m107_2 (fun q => absurd ((lt_k (a := (s1).toInt) (b := 0) (by rfl) (by rfl)).mp q) (by omega)) ?_
    refine g_iload_n m107_5 rfl ?_
    refine g_iload_n m107_6 rfl ?_
    refine g_ic_gtT m107_7 ((lt_k (a := (-1)) (b := (s1).toInt) (by rfl) (by rfl)).mpr (by omega)) ?_
    refine g_iconst m107_14 ?_
    refine g_zret m107_15 rfl (Or.inl rfl) ?_
    refine gwst (st' := [.int (0)]) rfl ?_
    refine g_if_eqT m177_11 (by decide) ?_
    refine g_aload_n m177_23 rfl ?_
    refine g_ldci m177_24 rfl ?_
    refine g_cv (args := [.int (-1000000002)]) (rest := []) m177_26 (Nat.le_of_ble_eq_true rfl) rfl rfl rfl (Nat.le_of_ble_eq_true rfl) ?_
    refine wp_in (L := [some (.ref 89), some (.int (-1000000002))]) (Nat.le_of_ble_eq_true rfl) rfl ?_
    refine g_aload_n m108_0 rfl ?_
    refine g_gf m108_1 rfl rfl ?_
    refine g_ldci m108_4 rfl ?_
    refine g_iload_n m108_6 rfl ?_
    refine g_isub (u := (2 : Int32)) m108_7 (by decide) ?_
    refine g_dup2 m108_8 rfl rfl ?_
    refine g_iald (x := (0 : Int32)) m108_9 rfl (vin rfl) rfl ?_
    refine g_iconst m108_10 ?_
    refine g_iadd (u := (1 : Int32)) m108_11 (by decide) ?_
    refine g_iast m108_12 (Nat.le_of_ble_eq_true rfl) rfl (vin rfl) rfl rfl rfl ?_
    refine g_iload_n m108_13 rfl ?_
    refine g_iret m108_14 rfl ?_
    refine gwst (st' := [.int (-1000000002)]) rfl ?_
    refine g_iret m177_29 rfl ?_
    refine gwst (st' := [.int (-1000000002), .int (-1000000002)]) rfl ?_
    refine g_ic_eqT m190_1120 (by decide) ?_
    refine g_iinc (x2 := (6 : Int32)) (L2 := [some (.ref 0), some (.ref 32), some (.ref 89), some (.int (6))]) m190_1428 rfl (by decide) rfl rfl ?_
    refine g_goto m190_1431 ?_
    refine g_iload_n m190_18 rfl ?_
    refine g_aload_n m190_19 rfl ?_
    refine g_alen (n := 6) m190_20 rfl (Or.inl rfl) rfl ?_
    refine g_bipush m190_21 ?_
    refine g_isub (u := (0 : Int32)) m190_23 (by decide) ?_
    refine g_ic_gtT m190_24 (by decide) ?_
    refine g_iconst m190_1434 ?_
    refine g_zret m190_1435 rfl (Or.inr rfl) ?_
    exact rfl
