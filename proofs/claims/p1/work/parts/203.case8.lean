/-! THE LAW'S CASES 8, over two new objects -/
set_option maxRecDepth 20000 in
set_option maxHeartbeats 40000000 in
theorem lc_8 {s0 s1 s2 s3 s4 s5 : Int32} {d mc ms : Nat} : gw [s0, s1, s2, s3, s4, s5] (WP [s0, s1, s2, s3, s4, s5] (d + 20)) 190 (fun r _ => r = some (.int 1)) 472 [some (.ref 0), some (.ref 32), some (.ref 89), some (.int 0)] [] (hX0 ++ hM0) mc ms := by
  refine g_aload_n m190_472 rfl ?_
  refine g_aload_n m190_473 rfl ?_
  refine g_iload_n m190_474 rfl ?_
  refine g_iconst m190_475 ?_
  refine g_iadd (u := (1 : Int32)) m190_476 (by decide) ?_
  refine g_iald (x := s1) m190_477 rfl (vin rfl) rfl ?_
  refine g_i2l m190_478 ?_
  refine g_bipush m190_479 ?_
  refine g_lshl m190_481 ?_
  refine g_aload_n m190_482 rfl ?_
  refine g_iload_n m190_483 rfl ?_
  refine g_iconst m190_484 ?_
  refine g_iadd (u := (2 : Int32)) m190_485 (by decide) ?_
  refine g_iald (x := s2) m190_486 rfl (vin rfl) rfl ?_
  refine g_i2l m190_487 ?_
  refine g_ldc2 m190_488 ?_
  refine g_land m190_491 ?_
  refine g_lor m190_492 ?_
  refine g_aload_n m190_493 rfl ?_
  refine g_iload_n m190_494 rfl ?_
  refine g_iconst m190_495 ?_
  refine g_iadd (u := (3 : Int32)) m190_496 (by decide) ?_
  refine g_iald (x := s3) m190_497 rfl (vin rfl) rfl ?_
  refine g_cv (args := [.long _, .int _]) (rest := []) m190_498 (Nat.le_of_ble_eq_true rfl) rfl rfl rfl (Nat.le_of_ble_eq_true rfl) ?_
  refine wp_in (L := [some (.ref 32), some (.long _), none, some (.int _), none]) (Nat.le_of_ble_eq_true rfl) rfl ?_
  refine g_iload_n m67_0 rfl ?_
  refine g_iconst m67_1 ?_
  refine g_ic_lt m67_2 (fun c1 => ?_) (fun c1 => ?_)
  · have d2 : (s3).toInt < 1 := (lt_k (by rfl) (by rfl)).mp c1
    refine g_aload_n m67_11 rfl ?_
    refine g_iconst m67_12 ?_
    refine g_cv (args := [.int (1)]) (rest := []) m67_13 (Nat.le_of_ble_eq_true rfl) rfl rfl rfl (Nat.le_of_ble_eq_true rfl) ?_
    refine wp_in (L := [some (.ref 32), some (.int (1))]) (Nat.le_of_ble_eq_true rfl) rfl ?_
    refine g_aload_n m55_0 rfl ?_
    refine g_gf m55_1 rfl rfl ?_
    refine g_iload_n m55_4 rfl ?_
    refine g_dup2 m55_5 rfl rfl ?_
    refine g_iald (x := (0 : Int32)) m55_6 rfl (vin rfl) rfl ?_
    refine g_iconst m55_7 ?_
    refine g_iadd (u := (1 : Int32)) m55_8 (by decide) ?_
    refine g_iast m55_9 (Nat.le_of_ble_eq_true rfl) rfl (vin rfl) rfl rfl rfl ?_
    refine g_ldcw m55_10 ?_
    refine g_iload_n m55_13 rfl ?_
    refine g_isub (u := (-1000000001 : Int32)) m55_14 (by decide) ?_
    refine g_iret m55_15 rfl ?_
    refine gwst (st' := [.int (-1000000001)]) rfl ?_
    refine g_iret m67_16 rfl ?_
    refine gwst (st' := [.int (-1000000001)]) rfl ?_
    refine FRg rfl (fun f => ?_)
    refine g_aload_n m190_501 rfl ?_
    refine g_aload_n m190_502 rfl ?_
    refine g_iload_n m190_503 rfl ?_
    refine g_iconst m190_504 ?_
    refine g_iadd (u := (1 : Int32)) m190_505 (by decide) ?_
    refine g_iald (x := s1) m190_506 rfl (vin rfl) rfl ?_
    refine g_i2l m190_507 ?_
    refine g_bipush m190_508 ?_
    refine g_lshl m190_510 ?_
    refine g_aload_n m190_511 rfl ?_
    refine g_iload_n m190_512 rfl ?_
    refine g_iconst m190_513 ?_
    refine g_iadd (u := (2 : Int32)) m190_514 (by decide) ?_
    refine g_iald (x := s2) m190_515 rfl (vin rfl) rfl ?_
    refine g_i2l m190_516 ?_
    refine g_ldc2 m190_517 ?_
    refine g_land m190_520 ?_
    refine g_lor m190_521 ?_
    refine g_aload_n m190_522 rfl ?_
    refine g_iload_n m190_523 rfl ?_
    refine g_iconst m190_524 ?_
    refine g_iadd (u := (3 : Int32)) m190_525 (by decide) ?_
    refine g_iald (x := s3) m190_526 rfl (vin rfl) rfl ?_
    refine g_cv (args := [.long _, .int _]) (rest := [.int (-1000000001)]) m190_527 (Nat.le_of_ble_eq_true rfl) rfl rfl rfl (Nat.le_of_ble_eq_true rfl) ?_
    refine wp_in (L := [some (.ref 89), some (.long _), none, some (.int _), none]) (Nat.le_of_ble_eq_true rfl) rfl ?_
    refine g_iload_n m139_0 rfl ?_
    refine g_iconst m139_1 ?_
    refine g_bipush m139_2 ?_
    refine g_cs (args := [.int _, .int (1), .int (8)]) (rest := []) 0 (Or.inl rfl) m139_4 (Nat.le_of_ble_eq_true rfl) rfl rfl (Nat.le_of_ble_eq_true rfl) ?_
    refine wp_in (L := [some (.int _), some (.int (1)), some (.int (8))]) (Nat.le_of_ble_eq_true rfl) rfl ?_
    refine g_iload_n m107_0 rfl ?_
    refine g_iload_n m107_1 rfl ?_
    refine g_ic_ltT m107_2 ((lt_k (a := (s3).toInt) (b := 1) (by rfl) (by rfl)).mpr (by omega)) ?_
    refine g_iconst m107_14 ?_
    refine g_zret m107_15 rfl (Or.inl rfl) ?_
    refine gwst (st' := [.int (0)]) rfl ?_
    refine g_if_neT m139_7 (by decide) ?_
    refine g_aload_n m139_10 rfl ?_
    refine g_ldci m139_11 rfl ?_
    refine g_cv (args := [.int (-1000000001)]) (rest := []) m139_13 (Nat.le_of_ble_eq_true rfl) rfl rfl rfl (Nat.le_of_ble_eq_true rfl) ?_
    refine wp_in (L := [some (.ref 89), some (.int (-1000000001))]) (Nat.le_of_ble_eq_true rfl) rfl ?_
    refine g_aload_n m108_0 rfl ?_
    refine g_gf m108_1 rfl rfl ?_
    refine g_ldci m108_4 rfl ?_
    refine g_iload_n m108_6 rfl ?_
    refine g_isub (u := (1 : Int32)) m108_7 (by decide) ?_
    refine g_dup2 m108_8 rfl rfl ?_
    refine g_iald (x := (0 : Int32)) m108_9 rfl (vin rfl) rfl ?_
    refine g_iconst m108_10 ?_
    refine g_iadd (u := (1 : Int32)) m108_11 (by decide) ?_
    refine g_iast m108_12 (Nat.le_of_ble_eq_true rfl) rfl (vin rfl) rfl rfl rfl ?_
    refine g_iload_n m108_13 rfl ?_
    refine g_iret m108_14 rfl ?_
    refine gwst (st' := [.int (-1000000001)]) rfl ?_
    refine g_iret m139_16 rfl ?_
    refine gwst (st' := [.int (-1000000001), .int (-1000000001)]) rfl ?_
    refine g_ic_eqT m190_530 (by decide) ?_
    refine g_iinc (x2 := (6 : Int32)) (L2 := [some (.ref 0), some (.ref 32), some (.ref 89), some (.int (6))]) m190_1428 rfl (by decide) rfl rfl ?_
    refine g_goto m190_1431 ?_
    refine g_iload_n m190_18 rfl ?_
    refine g_aload_n m190_19 rfl ?_
    refine g_alen (n := 6) m190_20 rfl (Or.inl rfl) rfl ?_
    refine g_bipush m190_21 ?_
    refine g_isub (u := (0 : Int32)) m190_23 (by decide) ?_
    refine g_ic_gtT m190_24 (by decide) ?_
    refine g_iconst m190_1434 ?_
    refine g_zret m190_1435 rfl (Or.inr rfl) ?_
    exact rfl
  · have d2 : ¬ ((s3).toInt < 1) := fun q => c1 ((lt_k (by rfl) (by rfl)).mpr q)
    refine g_iload_n m67_5 rfl ?_
    refine g_bipush m67_6 ?_
    refine g_ic_le m67_8 (fun c3 => ?_) (fun c3 => ?_)
    · have d4 : (s3).toInt ≤ 8 := (le_k (by rfl) (by rfl)).mp c3
      refine g_aload_n m67_17 rfl ?_
      refine g_gf m67_18 rfl rfl ?_
      refine g_gf m67_21 rfl rfl ?_
      refine g_bipush m67_24 ?_
      refine g_iload_n m67_26 rfl ?_
      refine g_isub m67_27 rfl ?_
      have b5 : (((50 : Int32) - s3)).toInt = (50) - (s3).toInt := sub_k (by rfl) (by rfl) (by omega) (by omega)
      refine g_ic_leT m67_28 ((le_k (a := 0) (b := (((50 : Int32) - s3)).toInt) (by rfl) (by rfl)).mpr (by omega)) ?_
      refine g_iconst m67_37 ?_
      refine g_istore (L2 := [some (.ref 32), some (.long _), none, some (.int _), some (.int (0))]) m67_38 rfl rfl ?_
      refine g_iload m67_40 rfl ?_
      refine g_iload_n m67_42 rfl ?_
      refine g_ic_geF m67_43 (fun q => absurd ((le_k (a := (s3).toInt) (b := 0) (by rfl) (by rfl)).mp q) (by omega)) ?_
      refine g_aload_n m67_46 rfl ?_
      refine g_gf m67_47 rfl rfl ?_
      refine g_gf m67_50 rfl rfl ?_
      refine g_aload_n m67_53 rfl ?_
      refine g_gf m67_54 rfl rfl ?_
      refine g_gf m67_57 rfl rfl ?_
      refine g_lload_n m67_60 rfl ?_
      refine g_bipush m67_61 ?_
      refine g_iload m67_63 rfl ?_
      refine g_imul (u := (0 : Int32)) m67_65 (by decide) ?_
      refine g_lushr m67_66 ?_
      refine g_l2i m67_67 ?_
      refine g_sipush m67_68 ?_
      refine g_iand m67_71 rfl ?_
      refine g_iast m67_72 (Nat.le_of_ble_eq_true rfl) rfl (vin rfl) rfl rfl rfl ?_
      refine g_aload_n m67_73 rfl ?_
      refine g_gf m67_74 rfl rfl ?_
      refine g_dup m67_77 rfl ?_
      refine g_gf m67_78 rfl rfl ?_
      refine g_iconst m67_81 ?_
      refine g_iadd (u := (1 : Int32)) m67_82 (by decide) ?_
      refine g_pf (fs2 := [.int (1), .ref 70, .int (1), .ref 71, .int (0)]) m67_83 rfl (Nat.le_of_ble_eq_true rfl) rfl (Nat.le_of_ble_eq_true rfl) trivial rfl rfl rfl ?_
      refine g_iinc (x2 := (1 : Int32)) (L2 := [some (.ref 32), some (.long _), none, some (.int _), some (.int (1))]) m67_86 rfl (by decide) rfl rfl ?_
      refine g_goto m67_89 ?_
      refine g_iload m67_40 rfl ?_
      refine g_iload_n m67_42 rfl ?_
      refine g_ic_ge m67_43 (fun c6 => ?_) (fun c6 => ?_)
      · have d7 : (s3).toInt ≤ 1 := (le_k (by rfl) (by rfl)).mp c6
        refine g_aload_n m67_92 rfl ?_
        refine g_gf m67_93 rfl rfl ?_
        refine g_gf m67_96 rfl rfl ?_
        refine g_iret m67_99 rfl ?_
        refine gwst (st' := [.int (1)]) rfl ?_
        refine FRg rfl (fun f => ?_)
        refine g_aload_n m190_501 rfl ?_
        refine g_aload_n m190_502 rfl ?_
        refine g_iload_n m190_503 rfl ?_
        refine g_iconst m190_504 ?_
        refine g_iadd (u := (1 : Int32)) m190_505 (by decide) ?_
        refine g_iald (x := s1) m190_506 rfl (vin rfl) rfl ?_
        refine g_i2l m190_507 ?_
        refine g_bipush m190_508 ?_
        refine g_lshl m190_510 ?_
        refine g_aload_n m190_511 rfl ?_
        refine g_iload_n m190_512 rfl ?_
        refine g_iconst m190_513 ?_
        refine g_iadd (u := (2 : Int32)) m190_514 (by decide) ?_
        refine g_iald (x := s2) m190_515 rfl (vin rfl) rfl ?_
        refine g_i2l m190_516 ?_
        refine g_ldc2 m190_517 ?_
        refine g_land m190_520 ?_
        refine g_lor m190_521 ?_
        refine g_aload_n m190_522 rfl ?_
        refine g_iload_n m190_523 rfl ?_
        refine g_iconst m190_524 ?_
        refine g_iadd (u := (3 : Int32)) m190_525 (by decide) ?_
        refine g_iald (x := s3) m190_526 rfl (vin rfl) rfl ?_
        refine g_cv (args := [.long _, .int _]) (rest := [.int (1)]) m190_527 (Nat.le_of_ble_eq_true rfl) rfl rfl rfl (Nat.le_of_ble_eq_true rfl) ?_
        refine wp_in (L := [some (.ref 89), some (.long _), none, some (.int _), none]) (Nat.le_of_ble_eq_true rfl) rfl ?_
        refine g_iload_n m139_0 rfl ?_
        refine g_iconst m139_1 ?_
        refine g_bipush m139_2 ?_
        refine g_cs (args := [.int _, .int (1), .int (8)]) (rest := []) 0 (Or.inl rfl) m139_4 (Nat.le_of_ble_eq_true rfl) rfl rfl (Nat.le_of_ble_eq_true rfl) ?_
        refine wp_in (L := [some (.int _), some (.int (1)), some (.int (8))]) (Nat.le_of_ble_eq_true rfl) rfl ?_
        refine g_iload_n m107_0 rfl ?_
        refine g_iload_n m107_1 rfl ?_
        refine g_ic_ltF m107_2 (fun q => absurd ((lt_k (a := (s3).toInt) (b := 1) (by rfl) (by rfl)).mp q) (by omega)) ?_
        refine g_iload_n m107_5 rfl ?_
        refine g_iload_n m107_6 rfl ?_
        refine g_ic_gtF m107_7 (fun q => absurd ((lt_k (a := 8) (b := (s3).toInt) (by rfl) (by rfl)).mp q) (by omega)) ?_
        refine g_iconst m107_10 ?_
        refine g_goto m107_11 ?_
        refine g_zret m107_15 rfl (Or.inr rfl) ?_
        refine gwst (st' := [.int (1)]) rfl ?_
        refine g_if_neF m139_7 (by decide) ?_
        refine g_aload_n m139_17 rfl ?_
        refine g_gf m139_18 rfl rfl ?_
        refine g_iconst m139_21 ?_
        refine g_iald (x := (0 : Int32)) m139_22 rfl (vin rfl) rfl ?_
        refine g_iload_n m139_23 rfl ?_
        obtain ⟨j8, e9, x10⟩ := nat_of (x := s3) (lo := 1) (hi := 1) (by omega) (by omega)
        obtain rfl : j8 = 1 := by omega
        have x10q : s3 = (1 : Int32) := x10
        clear x10
        subst x10q
        refine g_iadd (u := (1 : Int32)) m139_24 (by decide) ?_
        refine g_bipush m139_25 ?_
        refine g_ic_leT m139_27 (by decide) ?_
        refine g_iconst m139_37 ?_
        refine g_istore (L2 := [some (.ref 89), some (.long _), none, some (.int (1)), some (.int (0))]) m139_38 rfl rfl ?_
        refine g_iload m139_40 rfl ?_
        refine g_iload_n m139_42 rfl ?_
        refine g_ic_geF m139_43 (by decide) ?_
        refine g_aload_n m139_46 rfl ?_
        refine g_gf m139_47 rfl rfl ?_
        refine g_bipush m139_50 ?_
        refine g_aload_n m139_52 rfl ?_
        refine g_gf m139_53 rfl rfl ?_
        refine g_iconst m139_56 ?_
        refine g_iald (x := (0 : Int32)) m139_57 rfl (vin rfl) rfl ?_
        refine g_iadd (u := (64 : Int32)) m139_58 (by decide) ?_
        refine g_lload_n m139_59 rfl ?_
        refine g_bipush m139_60 ?_
        refine g_iload m139_62 rfl ?_
        refine g_imul (u := (0 : Int32)) m139_64 (by decide) ?_
        refine g_lshr m139_65 ?_
        refine g_ldc2 m139_66 ?_
        refine g_land m139_69 ?_
        refine g_l2i m139_70 ?_
        refine g_iast m139_71 (Nat.le_of_ble_eq_true rfl) rfl (vin rfl) rfl rfl rfl ?_
        refine g_aload_n m139_72 rfl ?_
        refine g_gf m139_73 rfl rfl ?_
        refine g_iconst m139_76 ?_
        refine g_dup2 m139_77 rfl rfl ?_
        refine g_iald (x := (0 : Int32)) m139_78 rfl (vin rfl) rfl ?_
        refine g_iconst m139_79 ?_
        refine g_iadd (u := (1 : Int32)) m139_80 (by decide) ?_
        refine g_iast m139_81 (Nat.le_of_ble_eq_true rfl) rfl (vin rfl) rfl rfl (set_n0 rfl) ?_
        refine g_iinc (x2 := (1 : Int32)) (L2 := [some (.ref 89), some (.long _), none, some (.int (1)), some (.int (1))]) m139_82 rfl (by decide) rfl rfl ?_
        refine g_goto m139_85 ?_
        refine g_iload m139_40 rfl ?_
        refine g_iload_n m139_42 rfl ?_
        refine g_ic_geT m139_43 (by decide) ?_
        refine g_aload_n m139_88 rfl ?_
        refine g_gf m139_89 rfl rfl ?_
        refine g_iconst m139_92 ?_
        refine g_iald (x := (1 : Int32)) m139_93 rfl (vin rfl) rfl ?_
        refine g_iret m139_94 rfl ?_
        refine gwst (st' := [.int (1), .int (1)]) rfl ?_
        refine g_ic_eqT m190_530 (by decide) ?_
        refine g_iinc (x2 := (6 : Int32)) (L2 := [some (.ref 0), some (.ref 32), some (.ref 89), some (.int (6))]) m190_1428 rfl (by decide) rfl rfl ?_
        refine g_goto m190_1431 ?_
        refine g_iload_n m190_18 rfl ?_
        refine g_aload_n m190_19 rfl ?_
        refine g_alen (n := 6) m190_20 rfl (Or.inl rfl) rfl ?_
        refine g_bipush m190_21 ?_
        refine g_isub (u := (0 : Int32)) m190_23 (by decide) ?_
        refine g_ic_gtT m190_24 (by decide) ?_
        refine g_iconst m190_1434 ?_
        refine g_zret m190_1435 rfl (Or.inr rfl) ?_
        exact rfl
      · have d7 : ¬ ((s3).toInt ≤ 1) := fun q => c6 ((le_k (by rfl) (by rfl)).mpr q)
        refine g_aload_n m67_46 rfl ?_
        refine g_gf m67_47 rfl rfl ?_
        refine g_gf m67_50 rfl rfl ?_
        refine g_aload_n m67_53 rfl ?_
        refine g_gf m67_54 rfl rfl ?_
        refine g_gf m67_57 rfl rfl ?_
        refine g_lload_n m67_60 rfl ?_
        refine g_bipush m67_61 ?_
        refine g_iload m67_63 rfl ?_
        refine g_imul (u := (8 : Int32)) m67_65 (by decide) ?_
        refine g_lushr m67_66 ?_
        refine g_l2i m67_67 ?_
        refine g_sipush m67_68 ?_
        refine g_iand m67_71 rfl ?_
        refine g_iast m67_72 (Nat.le_of_ble_eq_true rfl) rfl (vin rfl) rfl rfl (set_n1 (by decide) rfl) ?_
        refine g_aload_n m67_73 rfl ?_
        refine g_gf m67_74 rfl rfl ?_
        refine g_dup m67_77 rfl ?_
        refine g_gf m67_78 rfl rfl ?_
        refine g_iconst m67_81 ?_
        refine g_iadd (u := (2 : Int32)) m67_82 (by decide) ?_
        refine g_pf (fs2 := [.int (1), .ref 70, .int (2), .ref 71, .int (0)]) m67_83 rfl (Nat.le_of_ble_eq_true rfl) rfl (Nat.le_of_ble_eq_true rfl) trivial rfl rfl (set_n1 (by decide) rfl) ?_
        refine g_iinc (x2 := (2 : Int32)) (L2 := [some (.ref 32), some (.long _), none, some (.int _), some (.int (2))]) m67_86 rfl (by decide) rfl rfl ?_
        refine g_goto m67_89 ?_
        refine g_iload m67_40 rfl ?_
        refine g_iload_n m67_42 rfl ?_
        refine g_ic_ge m67_43 (fun c11 => ?_) (fun c11 => ?_)
        · have d12 : (s3).toInt ≤ 2 := (le_k (by rfl) (by rfl)).mp c11
          refine g_aload_n m67_92 rfl ?_
          refine g_gf m67_93 rfl rfl ?_
          refine g_gf m67_96 rfl rfl ?_
          refine g_iret m67_99 rfl ?_
          refine gwst (st' := [.int (2)]) rfl ?_
          refine FRg rfl (fun f => ?_)
          refine g_aload_n m190_501 rfl ?_
          refine g_aload_n m190_502 rfl ?_
          refine g_iload_n m190_503 rfl ?_
          refine g_iconst m190_504 ?_
          refine g_iadd (u := (1 : Int32)) m190_505 (by decide) ?_
          refine g_iald (x := s1) m190_506 rfl (vin rfl) rfl ?_
          refine g_i2l m190_507 ?_
          refine g_bipush m190_508 ?_
          refine g_lshl m190_510 ?_
          refine g_aload_n m190_511 rfl ?_
          refine g_iload_n m190_512 rfl ?_
          refine g_iconst m190_513 ?_
          refine g_iadd (u := (2 : Int32)) m190_514 (by decide) ?_
          refine g_iald (x := s2) m190_515 rfl (vin rfl) rfl ?_
          refine g_i2l m190_516 ?_
          refine g_ldc2 m190_517 ?_
          refine g_land m190_520 ?_
          refine g_lor m190_521 ?_
          refine g_aload_n m190_522 rfl ?_
          refine g_iload_n m190_523 rfl ?_
          refine g_iconst m190_524 ?_
          refine g_iadd (u := (3 : Int32)) m190_525 (by decide) ?_
          refine g_iald (x := s3) m190_526 rfl (vin rfl) rfl ?_
          refine g_cv (args := [.long _, .int _]) (rest := [.int (2)]) m190_527 (Nat.le_of_ble_eq_true rfl) rfl rfl rfl (Nat.le_of_ble_eq_true rfl) ?_
          refine wp_in (L := [some (.ref 89), some (.long _), none, some (.int _), none]) (Nat.le_of_ble_eq_true rfl) rfl ?_
          refine g_iload_n m139_0 rfl ?_
          refine g_iconst m139_1 ?_
          refine g_bipush m139_2 ?_
          refine g_cs (args := [.int _, .int (1), .int (8)]) (rest := []) 0 (Or.inl rfl) m139_4 (Nat.le_of_ble_eq_true rfl) rfl rfl (Nat.le_of_ble_eq_true rfl) ?_
          refine wp_in (L := [some (.int _), some (.int (1)), some (.int (8))]) (Nat.le_of_ble_eq_true rfl) rfl ?_
          refine g_iload_n m107_0 rfl ?_
          refine g_iload_n m107_1 rfl ?_
          refine g_ic_ltF m107_2 (fun q => absurd ((lt_k (a := (s3).toInt) (b := 1) (by rfl) (by rfl)).mp q) (by omega)) ?_
          refine g_iload_n m107_5 rfl ?_
          refine g_iload_n m107_6 rfl ?_
          refine g_ic_gtF m107_7 (fun q => absurd ((lt_k (a := 8) (b := (s3).toInt) (by rfl) (by rfl)).mp q) (by omega)) ?_
          refine g_iconst m107_10 ?_
          refine g_goto m107_11 ?_
          refine g_zret m107_15 rfl (Or.inr rfl) ?_
          refine gwst (st' := [.int (1)]) rfl ?_
          refine g_if_neF m139_7 (by decide) ?_
          refine g_aload_n m139_17 rfl ?_
          refine g_gf m139_18 rfl rfl ?_
          refine g_iconst m139_21 ?_
          refine g_iald (x := (0 : Int32)) m139_22 rfl (vin rfl) rfl ?_
          refine g_iload_n m139_23 rfl ?_
          obtain ⟨j13, e14, x15⟩ := nat_of (x := s3) (lo := 2) (hi := 2) (by omega) (by omega)
          obtain rfl : j13 = 2 := by omega
          have x15q : s3 = (2 : Int32) := x15
          clear x15
          subst x15q
          refine g_iadd (u := (2 : Int32)) m139_24 (by decide) ?_
          refine g_bipush m139_25 ?_
          refine g_ic_leT m139_27 (by decide) ?_
          refine g_iconst m139_37 ?_
          refine g_istore (L2 := [some (.ref 89), some (.long _), none, some (.int (2)), some (.int (0))]) m139_38 rfl rfl ?_
          refine g_iload m139_40 rfl ?_
          refine g_iload_n m139_42 rfl ?_
          refine g_ic_geF m139_43 (by decide) ?_
          refine g_aload_n m139_46 rfl ?_
          refine g_gf m139_47 rfl rfl ?_
          refine g_bipush m139_50 ?_
          refine g_aload_n m139_52 rfl ?_
          refine g_gf m139_53 rfl rfl ?_
          refine g_iconst m139_56 ?_
          refine g_iald (x := (0 : Int32)) m139_57 rfl (vin rfl) rfl ?_
          refine g_iadd (u := (64 : Int32)) m139_58 (by decide) ?_
          refine g_lload_n m139_59 rfl ?_
          refine g_bipush m139_60 ?_
          refine g_iload m139_62 rfl ?_
          refine g_imul (u := (0 : Int32)) m139_64 (by decide) ?_
          refine g_lshr m139_65 ?_
          refine g_ldc2 m139_66 ?_
          refine g_land m139_69 ?_
          refine g_l2i m139_70 ?_
          refine g_iast m139_71 (Nat.le_of_ble_eq_true rfl) rfl (vin rfl) rfl rfl rfl ?_
          refine g_aload_n m139_72 rfl ?_
          refine g_gf m139_73 rfl rfl ?_
          refine g_iconst m139_76 ?_
          refine g_dup2 m139_77 rfl rfl ?_
          refine g_iald (x := (0 : Int32)) m139_78 rfl (vin rfl) rfl ?_
          refine g_iconst m139_79 ?_
          refine g_iadd (u := (1 : Int32)) m139_80 (by decide) ?_
          refine g_iast m139_81 (Nat.le_of_ble_eq_true rfl) rfl (vin rfl) rfl rfl (set_n0 rfl) ?_
          refine g_iinc (x2 := (1 : Int32)) (L2 := [some (.ref 89), some (.long _), none, some (.int (2)), some (.int (1))]) m139_82 rfl (by decide) rfl rfl ?_
          refine g_goto m139_85 ?_
          refine g_iload m139_40 rfl ?_
          refine g_iload_n m139_42 rfl ?_
          refine g_ic_geF m139_43 (by decide) ?_
          refine g_aload_n m139_46 rfl ?_
          refine g_gf m139_47 rfl rfl ?_
          refine g_bipush m139_50 ?_
          refine g_aload_n m139_52 rfl ?_
          refine g_gf m139_53 rfl rfl ?_
          refine g_iconst m139_56 ?_
          refine g_iald (x := (1 : Int32)) m139_57 rfl (vin rfl) rfl ?_
          refine g_iadd (u := (65 : Int32)) m139_58 (by decide) ?_
          refine g_lload_n m139_59 rfl ?_
          refine g_bipush m139_60 ?_
          refine g_iload m139_62 rfl ?_
          refine g_imul (u := (8 : Int32)) m139_64 (by decide) ?_
          refine g_lshr m139_65 ?_
          refine g_ldc2 m139_66 ?_
          refine g_land m139_69 ?_
          refine g_l2i m139_70 ?_
          refine g_iast m139_71 (Nat.le_of_ble_eq_true rfl) rfl (vin rfl) rfl rfl (set_n0 rfl) ?_
          refine g_aload_n m139_72 rfl ?_
          refine g_gf m139_73 rfl rfl ?_
          refine g_iconst m139_76 ?_
          refine g_dup2 m139_77 rfl rfl ?_
          refine g_iald (x := (1 : Int32)) m139_78 rfl (vin rfl) rfl ?_
          refine g_iconst m139_79 ?_
          refine g_iadd (u := (2 : Int32)) m139_80 (by decide) ?_
          refine g_iast m139_81 (Nat.le_of_ble_eq_true rfl) rfl (vin rfl) rfl rfl (set_n0 rfl) ?_
          refine g_iinc (x2 := (2 : Int32)) (L2 := [some (.ref 89), some (.long _), none, some (.int (2)), some (.int (2))]) m139_82 rfl (by decide) rfl rfl ?_
          refine g_goto m139_85 ?_
          refine g_iload m139_40 rfl ?_
          refine g_iload_n m139_42 rfl ?_
          refine g_ic_geT m139_43 (by decide) ?_
          refine g_aload_n m139_88 rfl ?_
          refine g_gf m139_89 rfl rfl ?_
          refine g_iconst m139_92 ?_
          refine g_iald (x := (2 : Int32)) m139_93 rfl (vin rfl) rfl ?_
          refine g_iret m139_94 rfl ?_
          refine gwst (st' := [.int (2), .int (2)]) rfl ?_
          refine g_ic_eqT m190_530 (by decide) ?_
          refine g_iinc (x2 := (6 : Int32)) (L2 := [some (.ref 0), some (.ref 32), some (.ref 89), some (.int (6))]) m190_1428 rfl (by decide) rfl rfl ?_
          refine g_goto m190_1431 ?_
          refine g_iload_n m190_18 rfl ?_
          refine g_aload_n m190_19 rfl ?_
          refine g_alen (n := 6) m190_20 rfl (Or.inl rfl) rfl ?_
          refine g_bipush m190_21 ?_
          refine g_isub (u := (0 : Int32)) m190_23 (by decide) ?_
          refine g_ic_gtT m190_24 (by decide) ?_
          refine g_iconst m190_1434 ?_
          refine g_zret m190_1435 rfl (Or.inr rfl) ?_
          exact rfl
        · have d12 : ¬ ((s3).toInt ≤ 2) := fun q => c11 ((le_k (by rfl) (by rfl)).mpr q)
          refine g_aload_n m67_46 rfl ?_
          refine g_gf m67_47 rfl rfl ?_
          refine g_gf m67_50 rfl rfl ?_
          refine g_aload_n m67_53 rfl ?_
          refine g_gf m67_54 rfl rfl ?_
          refine g_gf m67_57 rfl rfl ?_
          refine g_lload_n m67_60 rfl ?_
          refine g_bipush m67_61 ?_
          refine g_iload m67_63 rfl ?_
          refine g_imul (u := (16 : Int32)) m67_65 (by decide) ?_
          refine g_lushr m67_66 ?_
          refine g_l2i m67_67 ?_
          refine g_sipush m67_68 ?_
          refine g_iand m67_71 rfl ?_
          refine g_iast m67_72 (Nat.le_of_ble_eq_true rfl) rfl (vin rfl) rfl rfl (set_n1 (by decide) rfl) ?_
          refine g_aload_n m67_73 rfl ?_
          refine g_gf m67_74 rfl rfl ?_
          refine g_dup m67_77 rfl ?_
          refine g_gf m67_78 rfl rfl ?_
          refine g_iconst m67_81 ?_
          refine g_iadd (u := (3 : Int32)) m67_82 (by decide) ?_
          refine g_pf (fs2 := [.int (1), .ref 70, .int (3), .ref 71, .int (0)]) m67_83 rfl (Nat.le_of_ble_eq_true rfl) rfl (Nat.le_of_ble_eq_true rfl) trivial rfl rfl (set_n1 (by decide) rfl) ?_
          refine g_iinc (x2 := (3 : Int32)) (L2 := [some (.ref 32), some (.long _), none, some (.int _), some (.int (3))]) m67_86 rfl (by decide) rfl rfl ?_
          refine g_goto m67_89 ?_
          refine g_iload m67_40 rfl ?_
          refine g_iload_n m67_42 rfl ?_
          refine g_ic_ge m67_43 (fun c16 => ?_) (fun c16 => ?_)
          · have d17 : (s3).toInt ≤ 3 := (le_k (by rfl) (by rfl)).mp c16
            refine g_aload_n m67_92 rfl ?_
            refine g_gf m67_93 rfl rfl ?_
            refine g_gf m67_96 rfl rfl ?_
            refine g_iret m67_99 rfl ?_
            refine gwst (st' := [.int (3)]) rfl ?_
            refine FRg rfl (fun f => ?_)
            refine g_aload_n m190_501 rfl ?_
            refine g_aload_n m190_502 rfl ?_
            refine g_iload_n m190_503 rfl ?_
            refine g_iconst m190_504 ?_
            refine g_iadd (u := (1 : Int32)) m190_505 (by decide) ?_
            refine g_iald (x := s1) m190_506 rfl (vin rfl) rfl ?_
            refine g_i2l m190_507 ?_
            refine g_bipush m190_508 ?_
            refine g_lshl m190_510 ?_
            refine g_aload_n m190_511 rfl ?_
            refine g_iload_n m190_512 rfl ?_
            refine g_iconst m190_513 ?_
            refine g_iadd (u := (2 : Int32)) m190_514 (by decide) ?_
            refine g_iald (x := s2) m190_515 rfl (vin rfl) rfl ?_
            refine g_i2l m190_516 ?_
            refine g_ldc2 m190_517 ?_
            refine g_land m190_520 ?_
            refine g_lor m190_521 ?_
            refine g_aload_n m190_522 rfl ?_
            refine g_iload_n m190_523 rfl ?_
            refine g_iconst m190_524 ?_
            refine g_iadd (u := (3 : Int32)) m190_525 (by decide) ?_
            refine g_iald (x := s3) m190_526 rfl (vin rfl) rfl ?_
            refine g_cv (args := [.long _, .int _]) (rest := [.int (3)]) m190_527 (Nat.le_of_ble_eq_true rfl) rfl rfl rfl (Nat.le_of_ble_eq_true rfl) ?_
            refine wp_in (L := [some (.ref 89), some (.long _), none, some (.int _), none]) (Nat.le_of_ble_eq_true rfl) rfl ?_
            refine g_iload_n m139_0 rfl ?_
            refine g_iconst m139_1 ?_
            refine g_bipush m139_2 ?_
            refine g_cs (args := [.int _, .int (1), .int (8)]) (rest := []) 0 (Or.inl rfl) m139_4 (Nat.le_of_ble_eq_true rfl) rfl rfl (Nat.le_of_ble_eq_true rfl) ?_
            refine wp_in (L := [some (.int _), some (.int (1)), some (.int (8))]) (Nat.le_of_ble_eq_true rfl) rfl ?_
            refine g_iload_n m107_0 rfl ?_
            refine g_iload_n m107_1 rfl ?_
            refine g_ic_ltF m107_2 (fun q => absurd ((lt_k (a := (s3).toInt) (b := 1) (by rfl) (by rfl)).mp q) (by omega)) ?_
            refine g_iload_n m107_5 rfl ?_
            refine g_iload_n m107_6 rfl ?_
            refine g_ic_gtF m107_7 (fun q => absurd ((lt_k (a := 8) (b := (s3).toInt) (by rfl) (by rfl)).mp q) (by omega)) ?_
            refine g_iconst m107_10 ?_
            refine g_goto m107_11 ?_
            refine g_zret m107_15 rfl (Or.inr rfl) ?_
            refine gwst (st' := [.int (1)]) rfl ?_
            refine g_if_neF m139_7 (by decide) ?_
            refine g_aload_n m139_17 rfl ?_
            refine g_gf m139_18 rfl rfl ?_
            refine g_iconst m139_21 ?_
            refine g_iald (x := (0 : Int32)) m139_22 rfl (vin rfl) rfl ?_
            refine g_iload_n m139_23 rfl ?_
            obtain ⟨j18, e19, x20⟩ := nat_of (x := s3) (lo := 3) (hi := 3) (by omega) (by omega)
            obtain rfl : j18 = 3 := by omega
            have x20q : s3 = (3 : Int32) := x20
            clear x20
            subst x20q
            refine g_iadd (u := (3 : Int32)) m139_24 (by decide) ?_
            refine g_bipush m139_25 ?_
            refine g_ic_leT m139_27 (by decide) ?_
            refine g_iconst m139_37 ?_
            refine g_istore (L2 := [some (.ref 89), some (.long _), none, some (.int (3)), some (.int (0))]) m139_38 rfl rfl ?_
            refine g_iload m139_40 rfl ?_
            refine g_iload_n m139_42 rfl ?_
            refine g_ic_geF m139_43 (by decide) ?_
            refine g_aload_n m139_46 rfl ?_
            refine g_gf m139_47 rfl rfl ?_
            refine g_bipush m139_50 ?_
            refine g_aload_n m139_52 rfl ?_
            refine g_gf m139_53 rfl rfl ?_
            refine g_iconst m139_56 ?_
            refine g_iald (x := (0 : Int32)) m139_57 rfl (vin rfl) rfl ?_
            refine g_iadd (u := (64 : Int32)) m139_58 (by decide) ?_
            refine g_lload_n m139_59 rfl ?_
            refine g_bipush m139_60 ?_
            refine g_iload m139_62 rfl ?_
            refine g_imul (u := (0 : Int32)) m139_64 (by decide) ?_
            refine g_lshr m139_65 ?_
            refine g_ldc2 m139_66 ?_
            refine g_land m139_69 ?_
            refine g_l2i m139_70 ?_
            refine g_iast m139_71 (Nat.le_of_ble_eq_true rfl) rfl (vin rfl) rfl rfl rfl ?_
            refine g_aload_n m139_72 rfl ?_
            refine g_gf m139_73 rfl rfl ?_
            refine g_iconst m139_76 ?_
            refine g_dup2 m139_77 rfl rfl ?_
            refine g_iald (x := (0 : Int32)) m139_78 rfl (vin rfl) rfl ?_
            refine g_iconst m139_79 ?_
            refine g_iadd (u := (1 : Int32)) m139_80 (by decide) ?_
            refine g_iast m139_81 (Nat.le_of_ble_eq_true rfl) rfl (vin rfl) rfl rfl (set_n0 rfl) ?_
            refine g_iinc (x2 := (1 : Int32)) (L2 := [some (.ref 89), some (.long _), none, some (.int (3)), some (.int (1))]) m139_82 rfl (by decide) rfl rfl ?_
            refine g_goto m139_85 ?_
            refine g_iload m139_40 rfl ?_
            refine g_iload_n m139_42 rfl ?_
            refine g_ic_geF m139_43 (by decide) ?_
            refine g_aload_n m139_46 rfl ?_
            refine g_gf m139_47 rfl rfl ?_
            refine g_bipush m139_50 ?_
            refine g_aload_n m139_52 rfl ?_
            refine g_gf m139_53 rfl rfl ?_
            refine g_iconst m139_56 ?_
            refine g_iald (x := (1 : Int32)) m139_57 rfl (vin rfl) rfl ?_
            refine g_iadd (u := (65 : Int32)) m139_58 (by decide) ?_
            refine g_lload_n m139_59 rfl ?_
            refine g_bipush m139_60 ?_
            refine g_iload m139_62 rfl ?_
            refine g_imul (u := (8 : Int32)) m139_64 (by decide) ?_
            refine g_lshr m139_65 ?_
            refine g_ldc2 m139_66 ?_
            refine g_land m139_69 ?_
            refine g_l2i m139_70 ?_
            refine g_iast m139_71 (Nat.le_of_ble_eq_true rfl) rfl (vin rfl) rfl rfl (set_n0 rfl) ?_
            refine g_aload_n m139_72 rfl ?_
            refine g_gf m139_73 rfl rfl ?_
            refine g_iconst m139_76 ?_
            refine g_dup2 m139_77 rfl rfl ?_
            refine g_iald (x := (1 : Int32)) m139_78 rfl (vin rfl) rfl ?_
            refine g_iconst m139_79 ?_
            refine g_iadd (u := (2 : Int32)) m139_80 (by decide) ?_
            refine g_iast m139_81 (Nat.le_of_ble_eq_true rfl) rfl (vin rfl) rfl rfl (set_n0 rfl) ?_
            refine g_iinc (x2 := (2 : Int32)) (L2 := [some (.ref 89), some (.long _), none, some (.int (3)), some (.int (2))]) m139_82 rfl (by decide) rfl rfl ?_
            refine g_goto m139_85 ?_
            refine g_iload m139_40 rfl ?_
            refine g_iload_n m139_42 rfl ?_
            refine g_ic_geF m139_43 (by decide) ?_
            refine g_aload_n m139_46 rfl ?_
            refine g_gf m139_47 rfl rfl ?_
            refine g_bipush m139_50 ?_
            refine g_aload_n m139_52 rfl ?_
            refine g_gf m139_53 rfl rfl ?_
            refine g_iconst m139_56 ?_
            refine g_iald (x := (2 : Int32)) m139_57 rfl (vin rfl) rfl ?_
            refine g_iadd (u := (66 : Int32)) m139_58 (by decide) ?_
            refine g_lload_n m139_59 rfl ?_
            refine g_bipush m139_60 ?_
            refine g_iload m139_62 rfl ?_
            refine g_imul (u := (16 : Int32)) m139_64 (by decide) ?_
            refine g_lshr m139_65 ?_
            refine g_ldc2 m139_66 ?_
            refine g_land m139_69 ?_
            refine g_l2i m139_70 ?_
            refine g_iast m139_71 (Nat.le_of_ble_eq_true rfl) rfl (vin rfl) rfl rfl (set_n0 rfl) ?_
            refine g_aload_n m139_72 rfl ?_
            refine g_gf m139_73 rfl rfl ?_
            refine g_iconst m139_76 ?_
            refine g_dup2 m139_77 rfl rfl ?_
            refine g_iald (x := (2 : Int32)) m139_78 rfl (vin rfl) rfl ?_
            refine g_iconst m139_79 ?_
            refine g_iadd (u := (3 : Int32)) m139_80 (by decide) ?_
            refine g_iast m139_81 (Nat.le_of_ble_eq_true rfl) rfl (vin rfl) rfl rfl (set_n0 rfl) ?_
            refine g_iinc (x2 := (3 : Int32)) (L2 := [some (.ref 89), some (.long _), none, some (.int (3)), some (.int (3))]) m139_82 rfl (by decide) rfl rfl ?_
            refine g_goto m139_85 ?_
            refine g_iload m139_40 rfl ?_
            refine g_iload_n m139_42 rfl ?_
            refine g_ic_geT m139_43 (by decide) ?_
            refine g_aload_n m139_88 rfl ?_
            refine g_gf m139_89 rfl rfl ?_
            refine g_iconst m139_92 ?_
            refine g_iald (x := (3 : Int32)) m139_93 rfl (vin rfl) rfl ?_
            refine g_iret m139_94 rfl ?_
            refine gwst (st' := [.int (3), .int (3)]) rfl ?_
            refine g_ic_eqT m190_530 (by decide) ?_
            refine g_iinc (x2 := (6 : Int32)) (L2 := [some (.ref 0), some (.ref 32), some (.ref 89), some (.int (6))]) m190_1428 rfl (by decide) rfl rfl ?_
            refine g_goto m190_1431 ?_
            refine g_iload_n m190_18 rfl ?_
            refine g_aload_n m190_19 rfl ?_
            refine g_alen (n := 6) m190_20 rfl (Or.inl rfl) rfl ?_
            refine g_bipush m190_21 ?_
            refine g_isub (u := (0 : Int32)) m190_23 (by decide) ?_
            refine g_ic_gtT m190_24 (by decide) ?_
            refine g_iconst m190_1434 ?_
            refine g_zret m190_1435 rfl (Or.inr rfl) ?_
            exact rfl
          · have d17 : ¬ ((s3).toInt ≤ 3) := fun q => c16 ((le_k (by rfl) (by rfl)).mpr q)
            refine g_aload_n m67_46 rfl ?_
            refine g_gf m67_47 rfl rfl ?_
            refine g_gf m67_50 rfl rfl ?_
            refine g_aload_n m67_53 rfl ?_
            refine g_gf m67_54 rfl rfl ?_
            refine g_gf m67_57 rfl rfl ?_
            refine g_lload_n m67_60 rfl ?_
            refine g_bipush m67_61 ?_
            refine g_iload m67_63 rfl ?_
            refine g_imul (u := (24 : Int32)) m67_65 (by decide) ?_
            refine g_lushr m67_66 ?_
            refine g_l2i m67_67 ?_
            refine g_sipush m67_68 ?_
            refine g_iand m67_71 rfl ?_
            refine g_iast m67_72 (Nat.le_of_ble_eq_true rfl) rfl (vin rfl) rfl rfl (set_n1 (by decide) rfl) ?_
            refine g_aload_n m67_73 rfl ?_
            refine g_gf m67_74 rfl rfl ?_
            refine g_dup m67_77 rfl ?_
            refine g_gf m67_78 rfl rfl ?_
            refine g_iconst m67_81 ?_
            refine g_iadd (u := (4 : Int32)) m67_82 (by decide) ?_
            refine g_pf (fs2 := [.int (1), .ref 70, .int (4), .ref 71, .int (0)]) m67_83 rfl (Nat.le_of_ble_eq_true rfl) rfl (Nat.le_of_ble_eq_true rfl) trivial rfl rfl (set_n1 (by decide) rfl) ?_
            refine g_iinc (x2 := (4 : Int32)) (L2 := [some (.ref 32), some (.long _), none, some (.int _), some (.int (4))]) m67_86 rfl (by decide) rfl rfl ?_
            refine g_goto m67_89 ?_
            refine g_iload m67_40 rfl ?_
            refine g_iload_n m67_42 rfl ?_
            refine g_ic_ge m67_43 (fun c21 => ?_) (fun c21 => ?_)
            · have d22 : (s3).toInt ≤ 4 := (le_k (by rfl) (by rfl)).mp c21
              refine g_aload_n m67_92 rfl ?_
              refine g_gf m67_93 rfl rfl ?_
              refine g_gf m67_96 rfl rfl ?_
              refine g_iret m67_99 rfl ?_
              refine gwst (st' := [.int (4)]) rfl ?_
              refine FRg rfl (fun f => ?_)
              refine g_aload_n m190_501 rfl ?_
              refine g_aload_n m190_502 rfl ?_
              refine g_iload_n m190_503 rfl ?_
              refine g_iconst m190_504 ?_
              refine g_iadd (u := (1 : Int32)) m190_505 (by decide) ?_
              refine g_iald (x := s1) m190_506 rfl (vin rfl) rfl ?_
              refine g_i2l m190_507 ?_
              refine g_bipush m190_508 ?_
              refine g_lshl m190_510 ?_
              refine g_aload_n m190_511 rfl ?_
              refine g_iload_n m190_512 rfl ?_
              refine g_iconst m190_513 ?_
              refine g_iadd (u := (2 : Int32)) m190_514 (by decide) ?_
              refine g_iald (x := s2) m190_515 rfl (vin rfl) rfl ?_
              refine g_i2l m190_516 ?_
              refine g_ldc2 m190_517 ?_
              refine g_land m190_520 ?_
              refine g_lor m190_521 ?_
              refine g_aload_n m190_522 rfl ?_
              refine g_iload_n m190_523 rfl ?_
              refine g_iconst m190_524 ?_
              refine g_iadd (u := (3 : Int32)) m190_525 (by decide) ?_
              refine g_iald (x := s3) m190_526 rfl (vin rfl) rfl ?_
              refine g_cv (args := [.long _, .int _]) (rest := [.int (4)]) m190_527 (Nat.le_of_ble_eq_true rfl) rfl rfl rfl (Nat.le_of_ble_eq_true rfl) ?_
              refine wp_in (L := [some (.ref 89), some (.long _), none, some (.int _), none]) (Nat.le_of_ble_eq_true rfl) rfl ?_
              refine g_iload_n m139_0 rfl ?_
              refine g_iconst m139_1 ?_
              refine g_bipush m139_2 ?_
              refine g_cs (args := [.int _, .int (1), .int (8)]) (rest := []) 0 (Or.inl rfl) m139_4 (Nat.le_of_ble_eq_true rfl) rfl rfl (Nat.le_of_ble_eq_true rfl) ?_
              refine wp_in (L := [some (.int _), some (.int (1)), some (.int (8))]) (Nat.le_of_ble_eq_true rfl) rfl ?_
              refine g_iload_n m107_0 rfl ?_
              refine g_iload_n m107_1 rfl ?_
              refine g_ic_ltF m107_2 (fun q => absurd ((lt_k (a := (s3).toInt) (b := 1) (by rfl) (by rfl)).mp q) (by omega)) ?_
              refine g_iload_n m107_5 rfl ?_
              refine g_iload_n m107_6 rfl ?_
              refine g_ic_gtF m107_7 (fun q => absurd ((lt_k (a := 8) (b := (s3).toInt) (by rfl) (by rfl)).mp q) (by omega)) ?_
              refine g_iconst m107_10 ?_
              refine g_goto m107_11 ?_
              refine g_zret m107_15 rfl (Or.inr rfl) ?_
              refine gwst (st' := [.int (1)]) rfl ?_
              refine g_if_neF m139_7 (by decide) ?_
              refine g_aload_n m139_17 rfl ?_
              refine g_gf m139_18 rfl rfl ?_
              refine g_iconst m139_21 ?_
              refine g_iald (x := (0 : Int32)) m139_22 rfl (vin rfl) rfl ?_
              refine g_iload_n m139_23 rfl ?_
              obtain ⟨j23, e24, x25⟩ := nat_of (x := s3) (lo := 4) (hi := 4) (by omega) (by omega)
              obtain rfl : j23 = 4 := by omega
              have x25q : s3 = (4 : Int32) := x25
              clear x25
              subst x25q
              refine g_iadd (u := (4 : Int32)) m139_24 (by decide) ?_
              refine g_bipush m139_25 ?_
              refine g_ic_leT m139_27 (by decide) ?_
              refine g_iconst m139_37 ?_
              refine g_istore (L2 := [some (.ref 89), some (.long _), none, some (.int (4)), some (.int (0))]) m139_38 rfl rfl ?_
              refine g_iload m139_40 rfl ?_
              refine g_iload_n m139_42 rfl ?_
              refine g_ic_geF m139_43 (by decide) ?_
              refine g_aload_n m139_46 rfl ?_
              refine g_gf m139_47 rfl rfl ?_
              refine g_bipush m139_50 ?_
              refine g_aload_n m139_52 rfl ?_
              refine g_gf m139_53 rfl rfl ?_
              refine g_iconst m139_56 ?_
              refine g_iald (x := (0 : Int32)) m139_57 rfl (vin rfl) rfl ?_
              refine g_iadd (u := (64 : Int32)) m139_58 (by decide) ?_
              refine g_lload_n m139_59 rfl ?_
              refine g_bipush m139_60 ?_
              refine g_iload m139_62 rfl ?_
              refine g_imul (u := (0 : Int32)) m139_64 (by decide) ?_
              refine g_lshr m139_65 ?_
              refine g_ldc2 m139_66 ?_
              refine g_land m139_69 ?_
              refine g_l2i m139_70 ?_
              refine g_iast m139_71 (Nat.le_of_ble_eq_true rfl) rfl (vin rfl) rfl rfl rfl ?_
              refine g_aload_n m139_72 rfl ?_
              refine g_gf m139_73 rfl rfl ?_
              refine g_iconst m139_76 ?_
              refine g_dup2 m139_77 rfl rfl ?_
              refine g_iald (x := (0 : Int32)) m139_78 rfl (vin rfl) rfl ?_
              refine g_iconst m139_79 ?_
              refine g_iadd (u := (1 : Int32)) m139_80 (by decide) ?_
              refine g_iast m139_81 (Nat.le_of_ble_eq_true rfl) rfl (vin rfl) rfl rfl (set_n0 rfl) ?_
              refine g_iinc (x2 := (1 : Int32)) (L2 := [some (.ref 89), some (.long _), none, some (.int (4)), some (.int (1))]) m139_82 rfl (by decide) rfl rfl ?_
              refine g_goto m139_85 ?_
              refine g_iload m139_40 rfl ?_
              refine g_iload_n m139_42 rfl ?_
              refine g_ic_geF m139_43 (by decide) ?_
              refine g_aload_n m139_46 rfl ?_
              refine g_gf m139_47 rfl rfl ?_
              refine g_bipush m139_50 ?_
              refine g_aload_n m139_52 rfl ?_
              refine g_gf m139_53 rfl rfl ?_
              refine g_iconst m139_56 ?_
              refine g_iald (x := (1 : Int32)) m139_57 rfl (vin rfl) rfl ?_
              refine g_iadd (u := (65 : Int32)) m139_58 (by decide) ?_
              refine g_lload_n m139_59 rfl ?_
              refine g_bipush m139_60 ?_
              refine g_iload m139_62 rfl ?_
              refine g_imul (u := (8 : Int32)) m139_64 (by decide) ?_
              refine g_lshr m139_65 ?_
              refine g_ldc2 m139_66 ?_
              refine g_land m139_69 ?_
              refine g_l2i m139_70 ?_
              refine g_iast m139_71 (Nat.le_of_ble_eq_true rfl) rfl (vin rfl) rfl rfl (set_n0 rfl) ?_
              refine g_aload_n m139_72 rfl ?_
              refine g_gf m139_73 rfl rfl ?_
              refine g_iconst m139_76 ?_
              refine g_dup2 m139_77 rfl rfl ?_
              refine g_iald (x := (1 : Int32)) m139_78 rfl (vin rfl) rfl ?_
              refine g_iconst m139_79 ?_
              refine g_iadd (u := (2 : Int32)) m139_80 (by decide) ?_
              refine g_iast m139_81 (Nat.le_of_ble_eq_true rfl) rfl (vin rfl) rfl rfl (set_n0 rfl) ?_
              refine g_iinc (x2 := (2 : Int32)) (L2 := [some (.ref 89), some (.long _), none, some (.int (4)), some (.int (2))]) m139_82 rfl (by decide) rfl rfl ?_
              refine g_goto m139_85 ?_
              refine g_iload m139_40 rfl ?_
              refine g_iload_n m139_42 rfl ?_
              refine g_ic_geF m139_43 (by decide) ?_
              refine g_aload_n m139_46 rfl ?_
              refine g_gf m139_47 rfl rfl ?_
              refine g_bipush m139_50 ?_
              refine g_aload_n m139_52 rfl ?_
              refine g_gf m139_53 rfl rfl ?_
              refine g_iconst m139_56 ?_
              refine g_iald (x := (2 : Int32)) m139_57 rfl (vin rfl) rfl ?_
              refine g_iadd (u := (66 : Int32)) m139_58 (by decide) ?_
              refine g_lload_n m139_59 rfl ?_
              refine g_bipush m139_60 ?_
              refine g_iload m139_62 rfl ?_
              refine g_imul (u := (16 : Int32)) m139_64 (by decide) ?_
              refine g_lshr m139_65 ?_
              refine g_ldc2 m139_66 ?_
              refine g_land m139_69 ?_
              refine g_l2i m139_70 ?_
              refine g_iast m139_71 (Nat.le_of_ble_eq_true rfl) rfl (vin rfl) rfl rfl (set_n0 rfl) ?_
              refine g_aload_n m139_72 rfl ?_
              refine g_gf m139_73 rfl rfl ?_
              refine g_iconst m139_76 ?_
              refine g_dup2 m139_77 rfl rfl ?_
              refine g_iald (x := (2 : Int32)) m139_78 rfl (vin rfl) rfl ?_
              refine g_iconst m139_79 ?_
              refine g_iadd (u := (3 : Int32)) m139_80 (by decide) ?_
              refine g_iast m139_81 (Nat.le_of_ble_eq_true rfl) rfl (vin rfl) rfl rfl (set_n0 rfl) ?_
              refine g_iinc (x2 := (3 : Int32)) (L2 := [some (.ref 89), some (.long _), none, some (.int (4)), some (.int (3))]) m139_82 rfl (by decide) rfl rfl ?_
              refine g_goto m139_85 ?_
              refine g_iload m139_40 rfl ?_
              refine g_iload_n m139_42 rfl ?_
              refine g_ic_geF m139_43 (by decide) ?_
              refine g_aload_n m139_46 rfl ?_
              refine g_gf m139_47 rfl rfl ?_
              refine g_bipush m139_50 ?_
              refine g_aload_n m139_52 rfl ?_
              refine g_gf m139_53 rfl rfl ?_
              refine g_iconst m139_56 ?_
              refine g_iald (x := (3 : Int32)) m139_57 rfl (vin rfl) rfl ?_
              refine g_iadd (u := (67 : Int32)) m139_58 (by decide) ?_
              refine g_lload_n m139_59 rfl ?_
              refine g_bipush m139_60 ?_
              refine g_iload m139_62 rfl ?_
              refine g_imul (u := (24 : Int32)) m139_64 (by decide) ?_
              refine g_lshr m139_65 ?_
              refine g_ldc2 m139_66 ?_
              refine g_land m139_69 ?_
              refine g_l2i m139_70 ?_
              refine g_iast m139_71 (Nat.le_of_ble_eq_true rfl) rfl (vin rfl) rfl rfl (set_n0 rfl) ?_
              refine g_aload_n m139_72 rfl ?_
              refine g_gf m139_73 rfl rfl ?_
              refine g_iconst m139_76 ?_
              refine g_dup2 m139_77 rfl rfl ?_
              refine g_iald (x := (3 : Int32)) m139_78 rfl (vin rfl) rfl ?_
              refine g_iconst m139_79 ?_
              refine g_iadd (u := (4 : Int32)) m139_80 (by decide) ?_
              refine g_iast m139_81 (Nat.le_of_ble_eq_true rfl) rfl (vin rfl) rfl rfl (set_n0 rfl) ?_
              refine g_iinc (x2 := (4 : Int32)) (L2 := [some (.ref 89), some (.long _), none, some (.int (4)), some (.int (4))]) m139_82 rfl (by decide) rfl rfl ?_
              refine g_goto m139_85 ?_
              refine g_iload m139_40 rfl ?_
              refine g_iload_n m139_42 rfl ?_
              refine g_ic_geT m139_43 (by decide) ?_
              refine g_aload_n m139_88 rfl ?_
              refine g_gf m139_89 rfl rfl ?_
              refine g_iconst m139_92 ?_
              refine g_iald (x := (4 : Int32)) m139_93 rfl (vin rfl) rfl ?_
              refine g_iret m139_94 rfl ?_
              refine gwst (st' := [.int (4), .int (4)]) rfl ?_
              refine g_ic_eqT m190_530 (by decide) ?_
              refine g_iinc (x2 := (6 : Int32)) (L2 := [some (.ref 0), some (.ref 32), some (.ref 89), some (.int (6))]) m190_1428 rfl (by decide) rfl rfl ?_
              refine g_goto m190_1431 ?_
              refine g_iload_n m190_18 rfl ?_
              refine g_aload_n m190_19 rfl ?_
              refine g_alen (n := 6) m190_20 rfl (Or.inl rfl) rfl ?_
              refine g_bipush m190_21 ?_
              refine g_isub (u := (0 : Int32)) m190_23 (by decide) ?_
              refine g_ic_gtT m190_24 (by decide) ?_
              refine g_iconst m190_1434 ?_
              refine g_zret m190_1435 rfl (Or.inr rfl) ?_
              exact rfl
            · have d22 : ¬ ((s3).toInt ≤ 4) := fun q => c21 ((le_k (by rfl) (by rfl)).mpr q)
              refine g_aload_n m67_46 rfl ?_
              refine g_gf m67_47 rfl rfl ?_
              refine g_gf m67_50 rfl rfl ?_
              refine g_aload_n m67_53 rfl ?_
              refine g_gf m67_54 rfl rfl ?_
              refine g_gf m67_57 rfl rfl ?_
              refine g_lload_n m67_60 rfl ?_
              refine g_bipush m67_61 ?_
              refine g_iload m67_63 rfl ?_
              refine g_imul (u := (32 : Int32)) m67_65 (by decide) ?_
              refine g_lushr m67_66 ?_
              refine g_l2i m67_67 ?_
              refine g_sipush m67_68 ?_
              refine g_iand m67_71 rfl ?_
              refine g_iast m67_72 (Nat.le_of_ble_eq_true rfl) rfl (vin rfl) rfl rfl (set_n1 (by decide) rfl) ?_
              refine g_aload_n m67_73 rfl ?_
              refine g_gf m67_74 rfl rfl ?_
              refine g_dup m67_77 rfl ?_
              refine g_gf m67_78 rfl rfl ?_
              refine g_iconst m67_81 ?_
              refine g_iadd (u := (5 : Int32)) m67_82 (by decide) ?_
              refine g_pf (fs2 := [.int (1), .ref 70, .int (5), .ref 71, .int (0)]) m67_83 rfl (Nat.le_of_ble_eq_true rfl) rfl (Nat.le_of_ble_eq_true rfl) trivial rfl rfl (set_n1 (by decide) rfl) ?_
              refine g_iinc (x2 := (5 : Int32)) (L2 := [some (.ref 32), some (.long _), none, some (.int _), some (.int (5))]) m67_86 rfl (by decide) rfl rfl ?_
              refine g_goto m67_89 ?_
              refine g_iload m67_40 rfl ?_
              refine g_iload_n m67_42 rfl ?_
              refine g_ic_ge m67_43 (fun c26 => ?_) (fun c26 => ?_)
              · have d27 : (s3).toInt ≤ 5 := (le_k (by rfl) (by rfl)).mp c26
                refine g_aload_n m67_92 rfl ?_
                refine g_gf m67_93 rfl rfl ?_
                refine g_gf m67_96 rfl rfl ?_
                refine g_iret m67_99 rfl ?_
                refine gwst (st' := [.int (5)]) rfl ?_
                refine FRg rfl (fun f => ?_)
                refine g_aload_n m190_501 rfl ?_
                refine g_aload_n m190_502 rfl ?_
                refine g_iload_n m190_503 rfl ?_
                refine g_iconst m190_504 ?_
                refine g_iadd (u := (1 : Int32)) m190_505 (by decide) ?_
                refine g_iald (x := s1) m190_506 rfl (vin rfl) rfl ?_
                refine g_i2l m190_507 ?_
                refine g_bipush m190_508 ?_
                refine g_lshl m190_510 ?_
                refine g_aload_n m190_511 rfl ?_
                refine g_iload_n m190_512 rfl ?_
                refine g_iconst m190_513 ?_
                refine g_iadd (u := (2 : Int32)) m190_514 (by decide) ?_
                refine g_iald (x := s2) m190_515 rfl (vin rfl) rfl ?_
                refine g_i2l m190_516 ?_
                refine g_ldc2 m190_517 ?_
                refine g_land m190_520 ?_
                refine g_lor m190_521 ?_
                refine g_aload_n m190_522 rfl ?_
                refine g_iload_n m190_523 rfl ?_
                refine g_iconst m190_524 ?_
                refine g_iadd (u := (3 : Int32)) m190_525 (by decide) ?_
                refine g_iald (x := s3) m190_526 rfl (vin rfl) rfl ?_
                refine g_cv (args := [.long _, .int _]) (rest := [.int (5)]) m190_527 (Nat.le_of_ble_eq_true rfl) rfl rfl rfl (Nat.le_of_ble_eq_true rfl) ?_
                refine wp_in (L := [some (.ref 89), some (.long _), none, some (.int _), none]) (Nat.le_of_ble_eq_true rfl) rfl ?_
                refine g_iload_n m139_0 rfl ?_
                refine g_iconst m139_1 ?_
                refine g_bipush m139_2 ?_
                refine g_cs (args := [.int _, .int (1), .int (8)]) (rest := []) 0 (Or.inl rfl) m139_4 (Nat.le_of_ble_eq_true rfl) rfl rfl (Nat.le_of_ble_eq_true rfl) ?_
                refine wp_in (L := [some (.int _), some (.int (1)), some (.int (8))]) (Nat.le_of_ble_eq_true rfl) rfl ?_
                refine g_iload_n m107_0 rfl ?_
                refine g_iload_n m107_1 rfl ?_
                refine g_ic_ltF m107_2 (fun q => absurd ((lt_k (a := (s3).toInt) (b := 1) (by rfl) (by rfl)).mp q) (by omega)) ?_
                refine g_iload_n m107_5 rfl ?_
                refine g_iload_n m107_6 rfl ?_
                refine g_ic_gtF m107_7 (fun q => absurd ((lt_k (a := 8) (b := (s3).toInt) (by rfl) (by rfl)).mp q) (by omega)) ?_
                refine g_iconst m107_10 ?_
                refine g_goto m107_11 ?_
                refine g_zret m107_15 rfl (Or.inr rfl) ?_
                refine gwst (st' := [.int (1)]) rfl ?_
                refine g_if_neF m139_7 (by decide) ?_
                refine g_aload_n m139_17 rfl ?_
                refine g_gf m139_18 rfl rfl ?_
                refine g_iconst m139_21 ?_
                refine g_iald (x := (0 : Int32)) m139_22 rfl (vin rfl) rfl ?_
                refine g_iload_n m139_23 rfl ?_
                obtain ⟨j28, e29, x30⟩ := nat_of (x := s3) (lo := 5) (hi := 5) (by omega) (by omega)
                obtain rfl : j28 = 5 := by omega
                have x30q : s3 = (5 : Int32) := x30
                clear x30
                subst x30q
                refine g_iadd (u := (5 : Int32)) m139_24 (by decide) ?_
                refine g_bipush m139_25 ?_
                refine g_ic_leT m139_27 (by decide) ?_
                refine g_iconst m139_37 ?_
                refine g_istore (L2 := [some (.ref 89), some (.long _), none, some (.int (5)), some (.int (0))]) m139_38 rfl rfl ?_
                refine g_iload m139_40 rfl ?_
                refine g_iload_n m139_42 rfl ?_
                refine g_ic_geF m139_43 (by decide) ?_
                refine g_aload_n m139_46 rfl ?_
                refine g_gf m139_47 rfl rfl ?_
                refine g_bipush m139_50 ?_
                refine g_aload_n m139_52 rfl ?_
                refine g_gf m139_53 rfl rfl ?_
                refine g_iconst m139_56 ?_
                refine g_iald (x := (0 : Int32)) m139_57 rfl (vin rfl) rfl ?_
                refine g_iadd (u := (64 : Int32)) m139_58 (by decide) ?_
                refine g_lload_n m139_59 rfl ?_
                refine g_bipush m139_60 ?_
                refine g_iload m139_62 rfl ?_
                refine g_imul (u := (0 : Int32)) m139_64 (by decide) ?_
                refine g_lshr m139_65 ?_
                refine g_ldc2 m139_66 ?_
                refine g_land m139_69 ?_
                refine g_l2i m139_70 ?_
                refine g_iast m139_71 (Nat.le_of_ble_eq_true rfl) rfl (vin rfl) rfl rfl rfl ?_
                refine g_aload_n m139_72 rfl ?_
                refine g_gf m139_73 rfl rfl ?_
                refine g_iconst m139_76 ?_
                refine g_dup2 m139_77 rfl rfl ?_
                refine g_iald (x := (0 : Int32)) m139_78 rfl (vin rfl) rfl ?_
                refine g_iconst m139_79 ?_
                refine g_iadd (u := (1 : Int32)) m139_80 (by decide) ?_
                refine g_iast m139_81 (Nat.le_of_ble_eq_true rfl) rfl (vin rfl) rfl rfl (set_n0 rfl) ?_
                refine g_iinc (x2 := (1 : Int32)) (L2 := [some (.ref 89), some (.long _), none, some (.int (5)), some (.int (1))]) m139_82 rfl (by decide) rfl rfl ?_
                refine g_goto m139_85 ?_
                refine g_iload m139_40 rfl ?_
                refine g_iload_n m139_42 rfl ?_
                refine g_ic_geF m139_43 (by decide) ?_
                refine g_aload_n m139_46 rfl ?_
                refine g_gf m139_47 rfl rfl ?_
                refine g_bipush m139_50 ?_
                refine g_aload_n m139_52 rfl ?_
                refine g_gf m139_53 rfl rfl ?_
                refine g_iconst m139_56 ?_
                refine g_iald (x := (1 : Int32)) m139_57 rfl (vin rfl) rfl ?_
                refine g_iadd (u := (65 : Int32)) m139_58 (by decide) ?_
                refine g_lload_n m139_59 rfl ?_
                refine g_bipush m139_60 ?_
                refine g_iload m139_62 rfl ?_
                refine g_imul (u := (8 : Int32)) m139_64 (by decide) ?_
                refine g_lshr m139_65 ?_
                refine g_ldc2 m139_66 ?_
                refine g_land m139_69 ?_
                refine g_l2i m139_70 ?_
                refine g_iast m139_71 (Nat.le_of_ble_eq_true rfl) rfl (vin rfl) rfl rfl (set_n0 rfl) ?_
                refine g_aload_n m139_72 rfl ?_
                refine g_gf m139_73 rfl rfl ?_
                refine g_iconst m139_76 ?_
                refine g_dup2 m139_77 rfl rfl ?_
                refine g_iald (x := (1 : Int32)) m139_78 rfl (vin rfl) rfl ?_
                refine g_iconst m139_79 ?_
                refine g_iadd (u := (2 : Int32)) m139_80 (by decide) ?_
                refine g_iast m139_81 (Nat.le_of_ble_eq_true rfl) rfl (vin rfl) rfl rfl (set_n0 rfl) ?_
                refine g_iinc (x2 := (2 : Int32)) (L2 := [some (.ref 89), some (.long _), none, some (.int (5)), some (.int (2))]) m139_82 rfl (by decide) rfl rfl ?_
                refine g_goto m139_85 ?_
                refine g_iload m139_40 rfl ?_
                refine g_iload_n m139_42 rfl ?_
                refine g_ic_geF m139_43 (by decide) ?_
                refine g_aload_n m139_46 rfl ?_
                refine g_gf m139_47 rfl rfl ?_
                refine g_bipush m139_50 ?_
                refine g_aload_n m139_52 rfl ?_
                refine g_gf m139_53 rfl rfl ?_
                refine g_iconst m139_56 ?_
                refine g_iald (x := (2 : Int32)) m139_57 rfl (vin rfl) rfl ?_
                refine g_iadd (u := (66 : Int32)) m139_58 (by decide) ?_
                refine g_lload_n m139_59 rfl ?_
                refine g_bipush m139_60 ?_
                refine g_iload m139_62 rfl ?_
                refine g_imul (u := (16 : Int32)) m139_64 (by decide) ?_
                refine g_lshr m139_65 ?_
                refine g_ldc2 m139_66 ?_
                refine g_land m139_69 ?_
                refine g_l2i m139_70 ?_
                refine g_iast m139_71 (Nat.le_of_ble_eq_true rfl) rfl (vin rfl) rfl rfl (set_n0 rfl) ?_
                refine g_aload_n m139_72 rfl ?_
                refine g_gf m139_73 rfl rfl ?_
                refine g_iconst m139_76 ?_
                refine g_dup2 m139_77 rfl rfl ?_
                refine g_iald (x := (2 : Int32)) m139_78 rfl (vin rfl) rfl ?_
                refine g_iconst m139_79 ?_
                refine g_iadd (u := (3 : Int32)) m139_80 (by decide) ?_
                refine g_iast m139_81 (Nat.le_of_ble_eq_true rfl) rfl (vin rfl) rfl rfl (set_n0 rfl) ?_
                refine g_iinc (x2 := (3 : Int32)) (L2 := [some (.ref 89), some (.long _), none, some (.int (5)), some (.int (3))]) m139_82 rfl (by decide) rfl rfl ?_
                refine g_goto m139_85 ?_
                refine g_iload m139_40 rfl ?_
                refine g_iload_n m139_42 rfl ?_
                refine g_ic_geF m139_43 (by decide) ?_
                refine g_aload_n m139_46 rfl ?_
                refine g_gf m139_47 rfl rfl ?_
                refine g_bipush m139_50 ?_
                refine g_aload_n m139_52 rfl ?_
                refine g_gf m139_53 rfl rfl ?_
                refine g_iconst m139_56 ?_
                refine g_iald (x := (3 : Int32)) m139_57 rfl (vin rfl) rfl ?_
                refine g_iadd (u := (67 : Int32)) m139_58 (by decide) ?_
                refine g_lload_n m139_59 rfl ?_
                refine g_bipush m139_60 ?_
                refine g_iload m139_62 rfl ?_
                refine g_imul (u := (24 : Int32)) m139_64 (by decide) ?_
                refine g_lshr m139_65 ?_
                refine g_ldc2 m139_66 ?_
                refine g_land m139_69 ?_
                refine g_l2i m139_70 ?_
                refine g_iast m139_71 (Nat.le_of_ble_eq_true rfl) rfl (vin rfl) rfl rfl (set_n0 rfl) ?_
                refine g_aload_n m139_72 rfl ?_
                refine g_gf m139_73 rfl rfl ?_
                refine g_iconst m139_76 ?_
                refine g_dup2 m139_77 rfl rfl ?_
                refine g_iald (x := (3 : Int32)) m139_78 rfl (vin rfl) rfl ?_
                refine g_iconst m139_79 ?_
                refine g_iadd (u := (4 : Int32)) m139_80 (by decide) ?_
                refine g_iast m139_81 (Nat.le_of_ble_eq_true rfl) rfl (vin rfl) rfl rfl (set_n0 rfl) ?_
                refine g_iinc (x2 := (4 : Int32)) (L2 := [some (.ref 89), some (.long _), none, some (.int (5)), some (.int (4))]) m139_82 rfl (by decide) rfl rfl ?_
                refine g_goto m139_85 ?_
                refine g_iload m139_40 rfl ?_
                refine g_iload_n m139_42 rfl ?_
                refine g_ic_geF m139_43 (by decide) ?_
                refine g_aload_n m139_46 rfl ?_
                refine g_gf m139_47 rfl rfl ?_
                refine g_bipush m139_50 ?_
                refine g_aload_n m139_52 rfl ?_
                refine g_gf m139_53 rfl rfl ?_
                refine g_iconst m139_56 ?_
                refine g_iald (x := (4 : Int32)) m139_57 rfl (vin rfl) rfl ?_
                refine g_iadd (u := (68 : Int32)) m139_58 (by decide) ?_
                refine g_lload_n m139_59 rfl ?_
                refine g_bipush m139_60 ?_
                refine g_iload m139_62 rfl ?_
                refine g_imul (u := (32 : Int32)) m139_64 (by decide) ?_
                refine g_lshr m139_65 ?_
                refine g_ldc2 m139_66 ?_
                refine g_land m139_69 ?_
                refine g_l2i m139_70 ?_
                refine g_iast m139_71 (Nat.le_of_ble_eq_true rfl) rfl (vin rfl) rfl rfl (set_n0 rfl) ?_
                refine g_aload_n m139_72 rfl ?_
                refine g_gf m139_73 rfl rfl ?_
                refine g_iconst m139_76 ?_
                refine g_dup2 m139_77 rfl rfl ?_
                refine g_iald (x := (4 : Int32)) m139_78 rfl (vin rfl) rfl ?_
                refine g_iconst m139_79 ?_
                refine g_iadd (u := (5 : Int32)) m139_80 (by decide) ?_
                refine g_iast m139_81 (Nat.le_of_ble_eq_true rfl) rfl (vin rfl) rfl rfl (set_n0 rfl) ?_
                refine g_iinc (x2 := (5 : Int32)) (L2 := [some (.ref 89), some (.long _), none, some (.int (5)), some (.int (5))]) m139_82 rfl (by decide) rfl rfl ?_
                refine g_goto m139_85 ?_
                refine g_iload m139_40 rfl ?_
                refine g_iload_n m139_42 rfl ?_
                refine g_ic_geT m139_43 (by decide) ?_
                refine g_aload_n m139_88 rfl ?_
                refine g_gf m139_89 rfl rfl ?_
                refine g_iconst m139_92 ?_
                refine g_iald (x := (5 : Int32)) m139_93 rfl (vin rfl) rfl ?_
                refine g_iret m139_94 rfl ?_
                refine gwst (st' := [.int (5), .int (5)]) rfl ?_
                refine g_ic_eqT m190_530 (by decide) ?_
                refine g_iinc (x2 := (6 : Int32)) (L2 := [some (.ref 0), some (.ref 32), some (.ref 89), some (.int (6))]) m190_1428 rfl (by decide) rfl rfl ?_
                refine g_goto m190_1431 ?_
                refine g_iload_n m190_18 rfl ?_
                refine g_aload_n m190_19 rfl ?_
                refine g_alen (n := 6) m190_20 rfl (Or.inl rfl) rfl ?_
                refine g_bipush m190_21 ?_
                refine g_isub (u := (0 : Int32)) m190_23 (by decide) ?_
                refine g_ic_gtT m190_24 (by decide) ?_
                refine g_iconst m190_1434 ?_
                refine g_zret m190_1435 rfl (Or.inr rfl) ?_
                exact rfl
              · have d27 : ¬ ((s3).toInt ≤ 5) := fun q => c26 ((le_k (by rfl) (by rfl)).mpr q)
                refine g_aload_n m67_46 rfl ?_
                refine g_gf m67_47 rfl rfl ?_
                refine g_gf m67_50 rfl rfl ?_
                refine g_aload_n m67_53 rfl ?_
                refine g_gf m67_54 rfl rfl ?_
                refine g_gf m67_57 rfl rfl ?_
                refine g_lload_n m67_60 rfl ?_
                refine g_bipush m67_61 ?_
                refine g_iload m67_63 rfl ?_
                refine g_imul (u := (40 : Int32)) m67_65 (by decide) ?_
                refine g_lushr m67_66 ?_
                refine g_l2i m67_67 ?_
                refine g_sipush m67_68 ?_
                refine g_iand m67_71 rfl ?_
                refine g_iast m67_72 (Nat.le_of_ble_eq_true rfl) rfl (vin rfl) rfl rfl (set_n1 (by decide) rfl) ?_
                refine g_aload_n m67_73 rfl ?_
                refine g_gf m67_74 rfl rfl ?_
                refine g_dup m67_77 rfl ?_
                refine g_gf m67_78 rfl rfl ?_
                refine g_iconst m67_81 ?_
                refine g_iadd (u := (6 : Int32)) m67_82 (by decide) ?_
                refine g_pf (fs2 := [.int (1), .ref 70, .int (6), .ref 71, .int (0)]) m67_83 rfl (Nat.le_of_ble_eq_true rfl) rfl (Nat.le_of_ble_eq_true rfl) trivial rfl rfl (set_n1 (by decide) rfl) ?_
                refine g_iinc (x2 := (6 : Int32)) (L2 := [some (.ref 32), some (.long _), none, some (.int _), some (.int (6))]) m67_86 rfl (by decide) rfl rfl ?_
                refine g_goto m67_89 ?_
                refine g_iload m67_40 rfl ?_
                refine g_iload_n m67_42 rfl ?_
                refine g_ic_ge m67_43 (fun c31 => ?_) (fun c31 => ?_)
                · have d32 : (s3).toInt ≤ 6 := (le_k (by rfl) (by rfl)).mp c31
                  refine g_aload_n m67_92 rfl ?_
                  refine g_gf m67_93 rfl rfl ?_
                  refine g_gf m67_96 rfl rfl ?_
                  refine g_iret m67_99 rfl ?_
                  refine gwst (st' := [.int (6)]) rfl ?_
                  refine FRg rfl (fun f => ?_)
                  refine g_aload_n m190_501 rfl ?_
                  refine g_aload_n m190_502 rfl ?_
                  refine g_iload_n m190_503 rfl ?_
                  refine g_iconst m190_504 ?_
                  refine g_iadd (u := (1 : Int32)) m190_505 (by decide) ?_
                  refine g_iald (x := s1) m190_506 rfl (vin rfl) rfl ?_
                  refine g_i2l m190_507 ?_
                  refine g_bipush m190_508 ?_
                  refine g_lshl m190_510 ?_
                  refine g_aload_n m190_511 rfl ?_
                  refine g_iload_n m190_512 rfl ?_
                  refine g_iconst m190_513 ?_
                  refine g_iadd (u := (2 : Int32)) m190_514 (by decide) ?_
                  refine g_iald (x := s2) m190_515 rfl (vin rfl) rfl ?_
                  refine g_i2l m190_516 ?_
                  refine g_ldc2 m190_517 ?_
                  refine g_land m190_520 ?_
                  refine g_lor m190_521 ?_
                  refine g_aload_n m190_522 rfl ?_
                  refine g_iload_n m190_523 rfl ?_
                  refine g_iconst m190_524 ?_
                  refine g_iadd (u := (3 : Int32)) m190_525 (by decide) ?_
                  refine g_iald (x := s3) m190_526 rfl (vin rfl) rfl ?_
                  refine g_cv (args := [.long _, .int _]) (rest := [.int (6)]) m190_527 (Nat.le_of_ble_eq_true rfl) rfl rfl rfl (Nat.le_of_ble_eq_true rfl) ?_
                  refine wp_in (L := [some (.ref 89), some (.long _), none, some (.int _), none]) (Nat.le_of_ble_eq_true rfl) rfl ?_
                  refine g_iload_n m139_0 rfl ?_
                  refine g_iconst m139_1 ?_
                  refine g_bipush m139_2 ?_
                  refine g_cs (args := [.int _, .int (1), .int (8)]) (rest := []) 0 (Or.inl rfl) m139_4 (Nat.le_of_ble_eq_true rfl) rfl rfl (Nat.le_of_ble_eq_true rfl) ?_
                  refine wp_in (L := [some (.int _), some (.int (1)), some (.int (8))]) (Nat.le_of_ble_eq_true rfl) rfl ?_
                  refine g_iload_n m107_0 rfl ?_
                  refine g_iload_n m107_1 rfl ?_
                  refine g_ic_ltF m107_2 (fun q => absurd ((lt_k (a := (s3).toInt) (b := 1) (by rfl) (by rfl)).mp q) (by omega)) ?_
                  refine g_iload_n m107_5 rfl ?_
                  refine g_iload_n m107_6 rfl ?_
                  refine g_ic_gtF m107_7 (fun q => absurd ((lt_k (a := 8) (b := (s3).toInt) (by rfl) (by rfl)).mp q) (by omega)) ?_
                  refine g_iconst m107_10 ?_
                  refine g_goto m107_11 ?_
                  refine g_zret m107_15 rfl (Or.inr rfl) ?_
                  refine gwst (st' := [.int (1)]) rfl ?_
                  refine g_if_neF m139_7 (by decide) ?_
                  refine g_aload_n m139_17 rfl ?_
                  refine g_gf m139_18 rfl rfl ?_
                  refine g_iconst m139_21 ?_
                  refine g_iald (x := (0 : Int32)) m139_22 rfl (vin rfl) rfl ?_
                  refine g_iload_n m139_23 rfl ?_
                  obtain ⟨j33, e34, x35⟩ := nat_of (x := s3) (lo := 6) (hi := 6) (by omega) (by omega)
                  obtain rfl : j33 = 6 := by omega
                  have x35q : s3 = (6 : Int32) := x35
                  clear x35
                  subst x35q
                  refine g_iadd (u := (6 : Int32)) m139_24 (by decide) ?_
                  refine g_bipush m139_25 ?_
                  refine g_ic_leT m139_27 (by decide) ?_
                  refine g_iconst m139_37 ?_
                  refine g_istore (L2 := [some (.ref 89), some (.long _), none, some (.int (6)), some (.int (0))]) m139_38 rfl rfl ?_
                  refine g_iload m139_40 rfl ?_
                  refine g_iload_n m139_42 rfl ?_
                  refine g_ic_geF m139_43 (by decide) ?_
                  refine g_aload_n m139_46 rfl ?_
                  refine g_gf m139_47 rfl rfl ?_
                  refine g_bipush m139_50 ?_
                  refine g_aload_n m139_52 rfl ?_
                  refine g_gf m139_53 rfl rfl ?_
                  refine g_iconst m139_56 ?_
                  refine g_iald (x := (0 : Int32)) m139_57 rfl (vin rfl) rfl ?_
                  refine g_iadd (u := (64 : Int32)) m139_58 (by decide) ?_
                  refine g_lload_n m139_59 rfl ?_
                  refine g_bipush m139_60 ?_
                  refine g_iload m139_62 rfl ?_
                  refine g_imul (u := (0 : Int32)) m139_64 (by decide) ?_
                  refine g_lshr m139_65 ?_
                  refine g_ldc2 m139_66 ?_
                  refine g_land m139_69 ?_
                  refine g_l2i m139_70 ?_
                  refine g_iast m139_71 (Nat.le_of_ble_eq_true rfl) rfl (vin rfl) rfl rfl rfl ?_
                  refine g_aload_n m139_72 rfl ?_
                  refine g_gf m139_73 rfl rfl ?_
                  refine g_iconst m139_76 ?_
                  refine g_dup2 m139_77 rfl rfl ?_
                  refine g_iald (x := (0 : Int32)) m139_78 rfl (vin rfl) rfl ?_
                  refine g_iconst m139_79 ?_
                  refine g_iadd (u := (1 : Int32)) m139_80 (by decide) ?_
                  refine g_iast m139_81 (Nat.le_of_ble_eq_true rfl) rfl (vin rfl) rfl rfl (set_n0 rfl) ?_
                  refine g_iinc (x2 := (1 : Int32)) (L2 := [some (.ref 89), some (.long _), none, some (.int (6)), some (.int (1))]) m139_82 rfl (by decide) rfl rfl ?_
                  refine g_goto m139_85 ?_
                  refine g_iload m139_40 rfl ?_
                  refine g_iload_n m139_42 rfl ?_
                  refine g_ic_geF m139_43 (by decide) ?_
                  refine g_aload_n m139_46 rfl ?_
                  refine g_gf m139_47 rfl rfl ?_
                  refine g_bipush m139_50 ?_
                  refine g_aload_n m139_52 rfl ?_
                  refine g_gf m139_53 rfl rfl ?_
                  refine g_iconst m139_56 ?_
                  refine g_iald (x := (1 : Int32)) m139_57 rfl (vin rfl) rfl ?_
                  refine g_iadd (u := (65 : Int32)) m139_58 (by decide) ?_
                  refine g_lload_n m139_59 rfl ?_
                  refine g_bipush m139_60 ?_
                  refine g_iload m139_62 rfl ?_
                  refine g_imul (u := (8 : Int32)) m139_64 (by decide) ?_
                  refine g_lshr m139_65 ?_
                  refine g_ldc2 m139_66 ?_
                  refine g_land m139_69 ?_
                  refine g_l2i m139_70 ?_
                  refine g_iast m139_71 (Nat.le_of_ble_eq_true rfl) rfl (vin rfl) rfl rfl (set_n0 rfl) ?_
                  refine g_aload_n m139_72 rfl ?_
                  refine g_gf m139_73 rfl rfl ?_
                  refine g_iconst m139_76 ?_
                  refine g_dup2 m139_77 rfl rfl ?_
                  refine g_iald (x := (1 : Int32)) m139_78 rfl (vin rfl) rfl ?_
                  refine g_iconst m139_79 ?_
                  refine g_iadd (u := (2 : Int32)) m139_80 (by decide) ?_
                  refine g_iast m139_81 (Nat.le_of_ble_eq_true rfl) rfl (vin rfl) rfl rfl (set_n0 rfl) ?_
                  refine g_iinc (x2 := (2 : Int32)) (L2 := [some (.ref 89), some (.long _), none, some (.int (6)), some (.int (2))]) m139_82 rfl (by decide) rfl rfl ?_
                  refine g_goto m139_85 ?_
                  refine g_iload m139_40 rfl ?_
                  refine g_iload_n m139_42 rfl ?_
                  refine g_ic_geF m139_43 (by decide) ?_
                  refine g_aload_n m139_46 rfl ?_
                  refine g_gf m139_47 rfl rfl ?_
                  refine g_bipush m139_50 ?_
                  refine g_aload_n m139_52 rfl ?_
                  refine g_gf m139_53 rfl rfl ?_
                  refine g_iconst m139_56 ?_
                  refine g_iald (x := (2 : Int32)) m139_57 rfl (vin rfl) rfl ?_
                  refine g_iadd (u := (66 : Int32)) m139_58 (by decide) ?_
                  refine g_lload_n m139_59 rfl ?_
                  refine g_bipush m139_60 ?_
                  refine g_iload m139_62 rfl ?_
                  refine g_imul (u := (16 : Int32)) m139_64 (by decide) ?_
                  refine g_lshr m139_65 ?_
                  refine g_ldc2 m139_66 ?_
                  refine g_land m139_69 ?_
                  refine g_l2i m139_70 ?_
                  refine g_iast m139_71 (Nat.le_of_ble_eq_true rfl) rfl (vin rfl) rfl rfl (set_n0 rfl) ?_
                  refine g_aload_n m139_72 rfl ?_
                  refine g_gf m139_73 rfl rfl ?_
                  refine g_iconst m139_76 ?_
                  refine g_dup2 m139_77 rfl rfl ?_
                  refine g_iald (x := (2 : Int32)) m139_78 rfl (vin rfl) rfl ?_
                  refine g_iconst m139_79 ?_
                  refine g_iadd (u := (3 : Int32)) m139_80 (by decide) ?_
                  refine g_iast m139_81 (Nat.le_of_ble_eq_true rfl) rfl (vin rfl) rfl rfl (set_n0 rfl) ?_
                  refine g_iinc (x2 := (3 : Int32)) (L2 := [some (.ref 89), some (.long _), none, some (.int (6)), some (.int (3))]) m139_82 rfl (by decide) rfl rfl ?_
                  refine g_goto m139_85 ?_
                  refine g_iload m139_40 rfl ?_
                  refine g_iload_n m139_42 rfl ?_
                  refine g_ic_geF m139_43 (by decide) ?_
                  refine g_aload_n m139_46 rfl ?_
                  refine g_gf m139_47 rfl rfl ?_
                  refine g_bipush m139_50 ?_
                  refine g_aload_n m139_52 rfl ?_
                  refine g_gf m139_53 rfl rfl ?_
                  refine g_iconst m139_56 ?_
                  refine g_iald (x := (3 : Int32)) m139_57 rfl (vin rfl) rfl ?_
                  refine g_iadd (u := (67 : Int32)) m139_58 (by decide) ?_
                  refine g_lload_n m139_59 rfl ?_
                  refine g_bipush m139_60 ?_
                  refine g_iload m139_62 rfl ?_
                  refine g_imul (u := (24 : Int32)) m139_64 (by decide) ?_
                  refine g_lshr m139_65 ?_
                  refine g_ldc2 m139_66 ?_
                  refine g_land m139_69 ?_
                  refine g_l2i m139_70 ?_
                  refine g_iast m139_71 (Nat.le_of_ble_eq_true rfl) rfl (vin rfl) rfl rfl (set_n0 rfl) ?_
                  refine g_aload_n m139_72 rfl ?_
                  refine g_gf m139_73 rfl rfl ?_
                  refine g_iconst m139_76 ?_
                  refine g_dup2 m139_77 rfl rfl ?_
                  refine g_iald (x := (3 : Int32)) m139_78 rfl (vin rfl) rfl ?_
                  refine g_iconst m139_79 ?_
                  refine g_iadd (u := (4 : Int32)) m139_80 (by decide) ?_
                  refine g_iast m139_81 (Nat.le_of_ble_eq_true rfl) rfl (vin rfl) rfl rfl (set_n0 rfl) ?_
                  refine g_iinc (x2 := (4 : Int32)) (L2 := [some (.ref 89), some (.long _), none, some (.int (6)), some (.int (4))]) m139_82 rfl (by decide) rfl rfl ?_
                  refine g_goto m139_85 ?_
                  refine g_iload m139_40 rfl ?_
                  refine g_iload_n m139_42 rfl ?_
                  refine g_ic_geF m139_43 (by decide) ?_
                  refine g_aload_n m139_46 rfl ?_
                  refine g_gf m139_47 rfl rfl ?_
                  refine g_bipush m139_50 ?_
                  refine g_aload_n m139_52 rfl ?_
                  refine g_gf m139_53 rfl rfl ?_
                  refine g_iconst m139_56 ?_
                  refine g_iald (x := (4 : Int32)) m139_57 rfl (vin rfl) rfl ?_
                  refine g_iadd (u := (68 : Int32)) m139_58 (by decide) ?_
                  refine g_lload_n m139_59 rfl ?_
                  refine g_bipush m139_60 ?_
                  refine g_iload m139_62 rfl ?_
                  refine g_imul (u := (32 : Int32)) m139_64 (by decide) ?_
                  refine g_lshr m139_65 ?_
                  refine g_ldc2 m139_66 ?_
                  refine g_land m139_69 ?_
                  refine g_l2i m139_70 ?_
                  refine g_iast m139_71 (Nat.le_of_ble_eq_true rfl) rfl (vin rfl) rfl rfl (set_n0 rfl) ?_
                  refine g_aload_n m139_72 rfl ?_
                  refine g_gf m139_73 rfl rfl ?_
                  refine g_iconst m139_76 ?_
                  refine g_dup2 m139_77 rfl rfl ?_
                  refine g_iald (x := (4 : Int32)) m139_78 rfl (vin rfl) rfl ?_
                  refine g_iconst m139_79 ?_
                  refine g_iadd (u := (5 : Int32)) m139_80 (by decide) ?_
                  refine g_iast m139_81 (Nat.le_of_ble_eq_true rfl) rfl (vin rfl) rfl rfl (set_n0 rfl) ?_
                  refine g_iinc (x2 := (5 : Int32)) (L2 := [some (.ref 89), some (.long _), none, some (.int (6)), some (.int (5))]) m139_82 rfl (by decide) rfl rfl ?_
                  refine g_goto m139_85 ?_
                  refine g_iload m139_40 rfl ?_
                  refine g_iload_n m139_42 rfl ?_
                  refine g_ic_geF m139_43 (by decide) ?_
                  refine g_aload_n m139_46 rfl ?_
                  refine g_gf m139_47 rfl rfl ?_
                  refine g_bipush m139_50 ?_
                  refine g_aload_n m139_52 rfl ?_
                  refine g_gf m139_53 rfl rfl ?_
                  refine g_iconst m139_56 ?_
                  refine g_iald (x := (5 : Int32)) m139_57 rfl (vin rfl) rfl ?_
                  refine g_iadd (u := (69 : Int32)) m139_58 (by decide) ?_
                  refine g_lload_n m139_59 rfl ?_
                  refine g_bipush m139_60 ?_
                  refine g_iload m139_62 rfl ?_
                  refine g_imul (u := (40 : Int32)) m139_64 (by decide) ?_
                  refine g_lshr m139_65 ?_
                  refine g_ldc2 m139_66 ?_
                  refine g_land m139_69 ?_
                  refine g_l2i m139_70 ?_
                  refine g_iast m139_71 (Nat.le_of_ble_eq_true rfl) rfl (vin rfl) rfl rfl (set_n0 rfl) ?_
                  refine g_aload_n m139_72 rfl ?_
                  refine g_gf m139_73 rfl rfl ?_
                  refine g_iconst m139_76 ?_
                  refine g_dup2 m139_77 rfl rfl ?_
                  refine g_iald (x := (5 : Int32)) m139_78 rfl (vin rfl) rfl ?_
                  refine g_iconst m139_79 ?_
                  refine g_iadd (u := (6 : Int32)) m139_80 (by decide) ?_
                  refine g_iast m139_81 (Nat.le_of_ble_eq_true rfl) rfl (vin rfl) rfl rfl (set_n0 rfl) ?_
                  refine g_iinc (x2 := (6 : Int32)) (L2 := [some (.ref 89), some (.long _), none, some (.int (6)), some (.int (6))]) m139_82 rfl (by decide) rfl rfl ?_
                  refine g_goto m139_85 ?_
                  refine g_iload m139_40 rfl ?_
                  refine g_iload_n m139_42 rfl ?_
                  refine g_ic_geT m139_43 (by decide) ?_
                  refine g_aload_n m139_88 rfl ?_
                  refine g_gf m139_89 rfl rfl ?_
                  refine g_iconst m139_92 ?_
                  refine g_iald (x := (6 : Int32)) m139_93 rfl (vin rfl) rfl ?_
                  refine g_iret m139_94 rfl ?_
                  refine gwst (st' := [.int (6), .int (6)]) rfl ?_
                  refine g_ic_eqT m190_530 (by decide) ?_
                  refine g_iinc (x2 := (6 : Int32)) (L2 := [some (.ref 0), some (.ref 32), some (.ref 89), some (.int (6))]) m190_1428 rfl (by decide) rfl rfl ?_
                  refine g_goto m190_1431 ?_
                  refine g_iload_n m190_18 rfl ?_
                  refine g_aload_n m190_19 rfl ?_
                  refine g_alen (n := 6) m190_20 rfl (Or.inl rfl) rfl ?_
                  refine g_bipush m190_21 ?_
                  refine g_isub (u := (0 : Int32)) m190_23 (by decide) ?_
                  refine g_ic_gtT m190_24 (by decide) ?_
                  refine g_iconst m190_1434 ?_
                  refine g_zret m190_1435 rfl (Or.inr rfl) ?_
                  exact rfl
                · have d32 : ¬ ((s3).toInt ≤ 6) := fun q => c31 ((le_k (by rfl) (by rfl)).mpr q)
                  refine g_aload_n m67_46 rfl ?_
                  refine g_gf m67_47 rfl rfl ?_
                  refine g_gf m67_50 rfl rfl ?_
                  refine g_aload_n m67_53 rfl ?_
                  refine g_gf m67_54 rfl rfl ?_
                  refine g_gf m67_57 rfl rfl ?_
                  refine g_lload_n m67_60 rfl ?_
                  refine g_bipush m67_61 ?_
                  refine g_iload m67_63 rfl ?_
                  refine g_imul (u := (48 : Int32)) m67_65 (by decide) ?_
                  refine g_lushr m67_66 ?_
                  refine g_l2i m67_67 ?_
                  refine g_sipush m67_68 ?_
                  refine g_iand m67_71 rfl ?_
                  refine g_iast m67_72 (Nat.le_of_ble_eq_true rfl) rfl (vin rfl) rfl rfl (set_n1 (by decide) rfl) ?_
                  refine g_aload_n m67_73 rfl ?_
                  refine g_gf m67_74 rfl rfl ?_
                  refine g_dup m67_77 rfl ?_
                  refine g_gf m67_78 rfl rfl ?_
                  refine g_iconst m67_81 ?_
                  refine g_iadd (u := (7 : Int32)) m67_82 (by decide) ?_
                  refine g_pf (fs2 := [.int (1), .ref 70, .int (7), .ref 71, .int (0)]) m67_83 rfl (Nat.le_of_ble_eq_true rfl) rfl (Nat.le_of_ble_eq_true rfl) trivial rfl rfl (set_n1 (by decide) rfl) ?_
                  refine g_iinc (x2 := (7 : Int32)) (L2 := [some (.ref 32), some (.long _), none, some (.int _), some (.int (7))]) m67_86 rfl (by decide) rfl rfl ?_
                  refine g_goto m67_89 ?_
                  refine g_iload m67_40 rfl ?_
                  refine g_iload_n m67_42 rfl ?_
                  refine g_ic_ge m67_43 (fun c36 => ?_) (fun c36 => ?_)
                  · have d37 : (s3).toInt ≤ 7 := (le_k (by rfl) (by rfl)).mp c36
                    refine g_aload_n m67_92 rfl ?_
                    refine g_gf m67_93 rfl rfl ?_
                    refine g_gf m67_96 rfl rfl ?_
                    refine g_iret m67_99 rfl ?_
                    refine gwst (st' := [.int (7)]) rfl ?_
                    refine FRg rfl (fun f => ?_)
                    refine g_aload_n m190_501 rfl ?_
                    refine g_aload_n m190_502 rfl ?_
                    refine g_iload_n m190_503 rfl ?_
                    refine g_iconst m190_504 ?_
                    refine g_iadd (u := (1 : Int32)) m190_505 (by decide) ?_
                    refine g_iald (x := s1) m190_506 rfl (vin rfl) rfl ?_
                    refine g_i2l m190_507 ?_
                    refine g_bipush m190_508 ?_
                    refine g_lshl m190_510 ?_
                    refine g_aload_n m190_511 rfl ?_
                    refine g_iload_n m190_512 rfl ?_
                    refine g_iconst m190_513 ?_
                    refine g_iadd (u := (2 : Int32)) m190_514 (by decide) ?_
                    refine g_iald (x := s2) m190_515 rfl (vin rfl) rfl ?_
                    refine g_i2l m190_516 ?_
                    refine g_ldc2 m190_517 ?_
                    refine g_land m190_520 ?_
                    refine g_lor m190_521 ?_
                    refine g_aload_n m190_522 rfl ?_
                    refine g_iload_n m190_523 rfl ?_
                    refine g_iconst m190_524 ?_
                    refine g_iadd (u := (3 : Int32)) m190_525 (by decide) ?_
                    refine g_iald (x := s3) m190_526 rfl (vin rfl) rfl ?_
                    refine g_cv (args := [.long _, .int _]) (rest := [.int (7)]) m190_527 (Nat.le_of_ble_eq_true rfl) rfl rfl rfl (Nat.le_of_ble_eq_true rfl) ?_
                    refine wp_in (L := [some (.ref 89), some (.long _), none, some (.int _), none]) (Nat.le_of_ble_eq_true rfl) rfl ?_
                    refine g_iload_n m139_0 rfl ?_
                    refine g_iconst m139_1 ?_
                    refine g_bipush m139_2 ?_
                    refine g_cs (args := [.int _, .int (1), .int (8)]) (rest := []) 0 (Or.inl rfl) m139_4 (Nat.le_of_ble_eq_true rfl) rfl rfl (Nat.le_of_ble_eq_true rfl) ?_
                    refine wp_in (L := [some (.int _), some (.int (1)), some (.int (8))]) (Nat.le_of_ble_eq_true rfl) rfl ?_
                    refine g_iload_n m107_0 rfl ?_
                    refine g_iload_n m107_1 rfl ?_
                    refine g_ic_ltF m107_2 (fun q => absurd ((lt_k (a := (s3).toInt) (b := 1) (by rfl) (by rfl)).mp q) (by omega)) ?_
                    refine g_iload_n m107_5 rfl ?_
                    refine g_iload_n m107_6 rfl ?_
                    refine g_ic_gtF m107_7 (fun q => absurd ((lt_k (a := 8) (b := (s3).toInt) (by rfl) (by rfl)).mp q) (by omega)) ?_
                    refine g_iconst m107_10 ?_
                    refine g_goto m107_11 ?_
                    refine g_zret m107_15 rfl (Or.inr rfl) ?_
                    refine gwst (st' := [.int (1)]) rfl ?_
                    refine g_if_neF m139_7 (by decide) ?_
                    refine g_aload_n m139_17 rfl ?_
                    refine g_gf m139_18 rfl rfl ?_
                    refine g_iconst m139_21 ?_
                    refine g_iald (x := (0 : Int32)) m139_22 rfl (vin rfl) rfl ?_
                    refine g_iload_n m139_23 rfl ?_
                    obtain ⟨j38, e39, x40⟩ := nat_of (x := s3) (lo := 7) (hi := 7) (by omega) (by omega)
                    obtain rfl : j38 = 7 := by omega
                    have x40q : s3 = (7 : Int32) := x40
                    clear x40
                    subst x40q
                    refine g_iadd (u := (7 : Int32)) m139_24 (by decide) ?_
                    refine g_bipush m139_25 ?_
                    refine g_ic_leT m139_27 (by decide) ?_
                    refine g_iconst m139_37 ?_
                    refine g_istore (L2 := [some (.ref 89), some (.long _), none, some (.int (7)), some (.int (0))]) m139_38 rfl rfl ?_
                    refine g_iload m139_40 rfl ?_
                    refine g_iload_n m139_42 rfl ?_
                    refine g_ic_geF m139_43 (by decide) ?_
                    refine g_aload_n m139_46 rfl ?_
                    refine g_gf m139_47 rfl rfl ?_
                    refine g_bipush m139_50 ?_
                    refine g_aload_n m139_52 rfl ?_
                    refine g_gf m139_53 rfl rfl ?_
                    refine g_iconst m139_56 ?_
                    refine g_iald (x := (0 : Int32)) m139_57 rfl (vin rfl) rfl ?_
                    refine g_iadd (u := (64 : Int32)) m139_58 (by decide) ?_
                    refine g_lload_n m139_59 rfl ?_
                    refine g_bipush m139_60 ?_
                    refine g_iload m139_62 rfl ?_
                    refine g_imul (u := (0 : Int32)) m139_64 (by decide) ?_
                    refine g_lshr m139_65 ?_
                    refine g_ldc2 m139_66 ?_
                    refine g_land m139_69 ?_
                    refine g_l2i m139_70 ?_
                    refine g_iast m139_71 (Nat.le_of_ble_eq_true rfl) rfl (vin rfl) rfl rfl rfl ?_
                    refine g_aload_n m139_72 rfl ?_
                    refine g_gf m139_73 rfl rfl ?_
                    refine g_iconst m139_76 ?_
                    refine g_dup2 m139_77 rfl rfl ?_
                    refine g_iald (x := (0 : Int32)) m139_78 rfl (vin rfl) rfl ?_
                    refine g_iconst m139_79 ?_
                    refine g_iadd (u := (1 : Int32)) m139_80 (by decide) ?_
                    refine g_iast m139_81 (Nat.le_of_ble_eq_true rfl) rfl (vin rfl) rfl rfl (set_n0 rfl) ?_
                    refine g_iinc (x2 := (1 : Int32)) (L2 := [some (.ref 89), some (.long _), none, some (.int (7)), some (.int (1))]) m139_82 rfl (by decide) rfl rfl ?_
                    refine g_goto m139_85 ?_
                    refine g_iload m139_40 rfl ?_
                    refine g_iload_n m139_42 rfl ?_
                    refine g_ic_geF m139_43 (by decide) ?_
                    refine g_aload_n m139_46 rfl ?_
                    refine g_gf m139_47 rfl rfl ?_
                    refine g_bipush m139_50 ?_
                    refine g_aload_n m139_52 rfl ?_
                    refine g_gf m139_53 rfl rfl ?_
                    refine g_iconst m139_56 ?_
                    refine g_iald (x := (1 : Int32)) m139_57 rfl (vin rfl) rfl ?_
                    refine g_iadd (u := (65 : Int32)) m139_58 (by decide) ?_
                    refine g_lload_n m139_59 rfl ?_
                    refine g_bipush m139_60 ?_
                    refine g_iload m139_62 rfl ?_
                    refine g_imul (u := (8 : Int32)) m139_64 (by decide) ?_
                    refine g_lshr m139_65 ?_
                    refine g_ldc2 m139_66 ?_
                    refine g_land m139_69 ?_
                    refine g_l2i m139_70 ?_
                    refine g_iast m139_71 (Nat.le_of_ble_eq_true rfl) rfl (vin rfl) rfl rfl (set_n0 rfl) ?_
                    refine g_aload_n m139_72 rfl ?_
                    refine g_gf m139_73 rfl rfl ?_
                    refine g_iconst m139_76 ?_
                    refine g_dup2 m139_77 rfl rfl ?_
                    refine g_iald (x := (1 : Int32)) m139_78 rfl (vin rfl) rfl ?_
                    refine g_iconst m139_79 ?_
                    refine g_iadd (u := (2 : Int32)) m139_80 (by decide) ?_
                    refine g_iast m139_81 (Nat.le_of_ble_eq_true rfl) rfl (vin rfl) rfl rfl (set_n0 rfl) ?_
                    refine g_iinc (x2 := (2 : Int32)) (L2 := [some (.ref 89), some (.long _), none, some (.int (7)), some (.int (2))]) m139_82 rfl (by decide) rfl rfl ?_
                    refine g_goto m139_85 ?_
                    refine g_iload m139_40 rfl ?_
                    refine g_iload_n m139_42 rfl ?_
                    refine g_ic_geF m139_43 (by decide) ?_
                    refine g_aload_n m139_46 rfl ?_
                    refine g_gf m139_47 rfl rfl ?_
                    refine g_bipush m139_50 ?_
                    refine g_aload_n m139_52 rfl ?_
                    refine g_gf m139_53 rfl rfl ?_
                    refine g_iconst m139_56 ?_
                    refine g_iald (x := (2 : Int32)) m139_57 rfl (vin rfl) rfl ?_
                    refine g_iadd (u := (66 : Int32)) m139_58 (by decide) ?_
                    refine g_lload_n m139_59 rfl ?_
                    refine g_bipush m139_60 ?_
                    refine g_iload m139_62 rfl ?_
                    refine g_imul (u := (16 : Int32)) m139_64 (by decide) ?_
                    refine g_lshr m139_65 ?_
                    refine g_ldc2 m139_66 ?_
                    refine g_land m139_69 ?_
                    refine g_l2i m139_70 ?_
                    refine g_iast m139_71 (Nat.le_of_ble_eq_true rfl) rfl (vin rfl) rfl rfl (set_n0 rfl) ?_
                    refine g_aload_n m139_72 rfl ?_
                    refine g_gf m139_73 rfl rfl ?_
                    refine g_iconst m139_76 ?_
                    refine g_dup2 m139_77 rfl rfl ?_
                    refine g_iald (x := (2 : Int32)) m139_78 rfl (vin rfl) rfl ?_
                    refine g_iconst m139_79 ?_
                    refine g_iadd (u := (3 : Int32)) m139_80 (by decide) ?_
                    refine g_iast m139_81 (Nat.le_of_ble_eq_true rfl) rfl (vin rfl) rfl rfl (set_n0 rfl) ?_
                    refine g_iinc (x2 := (3 : Int32)) (L2 := [some (.ref 89), some (.long _), none, some (.int (7)), some (.int (3))]) m139_82 rfl (by decide) rfl rfl ?_
                    refine g_goto m139_85 ?_
                    refine g_iload m139_40 rfl ?_
                    refine g_iload_n m139_42 rfl ?_
                    refine g_ic_geF m139_43 (by decide) ?_
                    refine g_aload_n m139_46 rfl ?_
                    refine g_gf m139_47 rfl rfl ?_
                    refine g_bipush m139_50 ?_
                    refine g_aload_n m139_52 rfl ?_
                    refine g_gf m139_53 rfl rfl ?_
                    refine g_iconst m139_56 ?_
                    refine g_iald (x := (3 : Int32)) m139_57 rfl (vin rfl) rfl ?_
                    refine g_iadd (u := (67 : Int32)) m139_58 (by decide) ?_
                    refine g_lload_n m139_59 rfl ?_
                    refine g_bipush m139_60 ?_
                    refine g_iload m139_62 rfl ?_
                    refine g_imul (u := (24 : Int32)) m139_64 (by decide) ?_
                    refine g_lshr m139_65 ?_
                    refine g_ldc2 m139_66 ?_
                    refine g_land m139_69 ?_
                    refine g_l2i m139_70 ?_
                    refine g_iast m139_71 (Nat.le_of_ble_eq_true rfl) rfl (vin rfl) rfl rfl (set_n0 rfl) ?_
                    refine g_aload_n m139_72 rfl ?_
                    refine g_gf m139_73 rfl rfl ?_
                    refine g_iconst m139_76 ?_
                    refine g_dup2 m139_77 rfl rfl ?_
                    refine g_iald (x := (3 : Int32)) m139_78 rfl (vin rfl) rfl ?_
                    refine g_iconst m139_79 ?_
                    refine g_iadd (u := (4 : Int32)) m139_80 (by decide) ?_
                    refine g_iast m139_81 (Nat.le_of_ble_eq_true rfl) rfl (vin rfl) rfl rfl (set_n0 rfl) ?_
                    refine g_iinc (x2 := (4 : Int32)) (L2 := [some (.ref 89), some (.long _), none, some (.int (7)), some (.int (4))]) m139_82 rfl (by decide) rfl rfl ?_
                    refine g_goto m139_85 ?_
                    refine g_iload m139_40 rfl ?_
                    refine g_iload_n m139_42 rfl ?_
                    refine g_ic_geF m139_43 (by decide) ?_
                    refine g_aload_n m139_46 rfl ?_
                    refine g_gf m139_47 rfl rfl ?_
                    refine g_bipush m139_50 ?_
                    refine g_aload_n m139_52 rfl ?_
                    refine g_gf m139_53 rfl rfl ?_
                    refine g_iconst m139_56 ?_
                    refine g_iald (x := (4 : Int32)) m139_57 rfl (vin rfl) rfl ?_
                    refine g_iadd (u := (68 : Int32)) m139_58 (by decide) ?_
                    refine g_lload_n m139_59 rfl ?_
                    refine g_bipush m139_60 ?_
                    refine g_iload m139_62 rfl ?_
                    refine g_imul (u := (32 : Int32)) m139_64 (by decide) ?_
                    refine g_lshr m139_65 ?_
                    refine g_ldc2 m139_66 ?_
                    refine g_land m139_69 ?_
                    refine g_l2i m139_70 ?_
                    refine g_iast m139_71 (Nat.le_of_ble_eq_true rfl) rfl (vin rfl) rfl rfl (set_n0 rfl) ?_
                    refine g_aload_n m139_72 rfl ?_
                    refine g_gf m139_73 rfl rfl ?_
                    refine g_iconst m139_76 ?_
                    refine g_dup2 m139_77 rfl rfl ?_
                    refine g_iald (x := (4 : Int32)) m139_78 rfl (vin rfl) rfl ?_
                    refine g_iconst m139_79 ?_
                    refine g_iadd (u := (5 : Int32)) m139_80 (by decide) ?_
                    refine g_iast m139_81 (Nat.le_of_ble_eq_true rfl) rfl (vin rfl) rfl rfl (set_n0 rfl) ?_
                    refine g_iinc (x2 := (5 : Int32)) (L2 := [some (.ref 89), some (.long _), none, some (.int (7)), some (.int (5))]) m139_82 rfl (by decide) rfl rfl ?_
                    refine g_goto m139_85 ?_
                    refine g_iload m139_40 rfl ?_
                    refine g_iload_n m139_42 rfl ?_
                    refine g_ic_geF m139_43 (by decide) ?_
                    refine g_aload_n m139_46 rfl ?_
                    refine g_gf m139_47 rfl rfl ?_
                    refine g_bipush m139_50 ?_
                    refine g_aload_n m139_52 rfl ?_
                    refine g_gf m139_53 rfl rfl ?_
                    refine g_iconst m139_56 ?_
                    refine g_iald (x := (5 : Int32)) m139_57 rfl (vin rfl) rfl ?_
                    refine g_iadd (u := (69 : Int32)) m139_58 (by decide) ?_
                    refine g_lload_n m139_59 rfl ?_
                    refine g_bipush m139_60 ?_
                    refine g_iload m139_62 rfl ?_
                    refine g_imul (u := (40 : Int32)) m139_64 (by decide) ?_
                    refine g_lshr m139_65 ?_
                    refine g_ldc2 m139_66 ?_
                    refine g_land m139_69 ?_
                    refine g_l2i m139_70 ?_
                    refine g_iast m139_71 (Nat.le_of_ble_eq_true rfl) rfl (vin rfl) rfl rfl (set_n0 rfl) ?_
                    refine g_aload_n m139_72 rfl ?_
                    refine g_gf m139_73 rfl rfl ?_
                    refine g_iconst m139_76 ?_
                    refine g_dup2 m139_77 rfl rfl ?_
                    refine g_iald (x := (5 : Int32)) m139_78 rfl (vin rfl) rfl ?_
                    refine g_iconst m139_79 ?_
                    refine g_iadd (u := (6 : Int32)) m139_80 (by decide) ?_
                    refine g_iast m139_81 (Nat.le_of_ble_eq_true rfl) rfl (vin rfl) rfl rfl (set_n0 rfl) ?_
                    refine g_iinc (x2 := (6 : Int32)) (L2 := [some (.ref 89), some (.long _), none, some (.int (7)), some (.int (6))]) m139_82 rfl (by decide) rfl rfl ?_
                    refine g_goto m139_85 ?_
                    refine g_iload m139_40 rfl ?_
                    refine g_iload_n m139_42 rfl ?_
                    refine g_ic_geF m139_43 (by decide) ?_
                    refine g_aload_n m139_46 rfl ?_
                    refine g_gf m139_47 rfl rfl ?_
                    refine g_bipush m139_50 ?_
                    refine g_aload_n m139_52 rfl ?_
                    refine g_gf m139_53 rfl rfl ?_
                    refine g_iconst m139_56 ?_
                    refine g_iald (x := (6 : Int32)) m139_57 rfl (vin rfl) rfl ?_
                    refine g_iadd (u := (70 : Int32)) m139_58 (by decide) ?_
                    refine g_lload_n m139_59 rfl ?_
                    refine g_bipush m139_60 ?_
                    refine g_iload m139_62 rfl ?_
                    refine g_imul (u := (48 : Int32)) m139_64 (by decide) ?_
                    refine g_lshr m139_65 ?_
                    refine g_ldc2 m139_66 ?_
                    refine g_land m139_69 ?_
                    refine g_l2i m139_70 ?_
                    refine g_iast m139_71 (Nat.le_of_ble_eq_true rfl) rfl (vin rfl) rfl rfl (set_n0 rfl) ?_
                    refine g_aload_n m139_72 rfl ?_
                    refine g_gf m139_73 rfl rfl ?_
                    refine g_iconst m139_76 ?_
                    refine g_dup2 m139_77 rfl rfl ?_
                    refine g_iald (x := (6 : Int32)) m139_78 rfl (vin rfl) rfl ?_
                    refine g_iconst m139_79 ?_
                    refine g_iadd (u := (7 : Int32)) m139_80 (by decide) ?_
                    refine g_iast m139_81 (Nat.le_of_ble_eq_true rfl) rfl (vin rfl) rfl rfl (set_n0 rfl) ?_
                    refine g_iinc (x2 := (7 : Int32)) (L2 := [some (.ref 89), some (.long _), none, some (.int (7)), some (.int (7))]) m139_82 rfl (by decide) rfl rfl ?_
                    refine g_goto m139_85 ?_
                    refine g_iload m139_40 rfl ?_
                    refine g_iload_n m139_42 rfl ?_
                    refine g_ic_geT m139_43 (by decide) ?_
                    refine g_aload_n m139_88 rfl ?_
                    refine g_gf m139_89 rfl rfl ?_
                    refine g_iconst m139_92 ?_
                    refine g_iald (x := (7 : Int32)) m139_93 rfl (vin rfl) rfl ?_
                    refine g_iret m139_94 rfl ?_
                    refine gwst (st' := [.int (7), .int (7)]) rfl ?_
                    refine g_ic_eqT m190_530 (by decide) ?_
                    refine g_iinc (x2 := (6 : Int32)) (L2 := [some (.ref 0), some (.ref 32), some (.ref 89), some (.int (6))]) m190_1428 rfl (by decide) rfl rfl ?_
                    refine g_goto m190_1431 ?_
                    refine g_iload_n m190_18 rfl ?_
                    refine g_aload_n m190_19 rfl ?_
                    refine g_alen (n := 6) m190_20 rfl (Or.inl rfl) rfl ?_
                    refine g_bipush m190_21 ?_
                    refine g_isub (u := (0 : Int32)) m190_23 (by decide) ?_
                    refine g_ic_gtT m190_24 (by decide) ?_
                    refine g_iconst m190_1434 ?_
                    refine g_zret m190_1435 rfl (Or.inr rfl) ?_
                    exact rfl
                  · have d37 : ¬ ((s3).toInt ≤ 7) := fun q => c36 ((le_k (by rfl) (by rfl)).mpr q)
                    refine g_aload_n m67_46 rfl ?_
                    refine g_gf m67_47 rfl rfl ?_
                    refine g_gf m67_50 rfl rfl ?_
                    refine g_aload_n m67_53 rfl ?_
                    refine g_gf m67_54 rfl rfl ?_
                    refine g_gf m67_57 rfl rfl ?_
                    refine g_lload_n m67_60 rfl ?_
                    refine g_bipush m67_61 ?_
                    refine g_iload m67_63 rfl ?_
                    refine g_imul (u := (56 : Int32)) m67_65 (by decide) ?_
                    refine g_lushr m67_66 ?_
                    refine g_l2i m67_67 ?_
                    refine g_sipush m67_68 ?_
                    refine g_iand m67_71 rfl ?_
                    refine g_iast m67_72 (Nat.le_of_ble_eq_true rfl) rfl (vin rfl) rfl rfl (set_n1 (by decide) rfl) ?_
                    refine g_aload_n m67_73 rfl ?_
                    refine g_gf m67_74 rfl rfl ?_
                    refine g_dup m67_77 rfl ?_
                    refine g_gf m67_78 rfl rfl ?_
                    refine g_iconst m67_81 ?_
                    refine g_iadd (u := (8 : Int32)) m67_82 (by decide) ?_
                    refine g_pf (fs2 := [.int (1), .ref 70, .int (8), .ref 71, .int (0)]) m67_83 rfl (Nat.le_of_ble_eq_true rfl) rfl (Nat.le_of_ble_eq_true rfl) trivial rfl rfl (set_n1 (by decide) rfl) ?_
                    refine g_iinc (x2 := (8 : Int32)) (L2 := [some (.ref 32), some (.long _), none, some (.int _), some (.int (8))]) m67_86 rfl (by decide) rfl rfl ?_
                    refine g_goto m67_89 ?_
                    refine g_iload m67_40 rfl ?_
                    refine g_iload_n m67_42 rfl ?_
                    refine g_ic_geT m67_43 ((le_k (a := (s3).toInt) (b := 8) (by rfl) (by rfl)).mpr (by omega)) ?_
                    refine g_aload_n m67_92 rfl ?_
                    refine g_gf m67_93 rfl rfl ?_
                    refine g_gf m67_96 rfl rfl ?_
                    refine g_iret m67_99 rfl ?_
                    refine gwst (st' := [.int (8)]) rfl ?_
                    refine FRg rfl (fun f => ?_)
                    refine g_aload_n m190_501 rfl ?_
                    refine g_aload_n m190_502 rfl ?_
                    refine g_iload_n m190_503 rfl ?_
                    refine g_iconst m190_504 ?_
                    refine g_iadd (u := (1 : Int32)) m190_505 (by decide) ?_
                    refine g_iald (x := s1) m190_506 rfl (vin rfl) rfl ?_
                    refine g_i2l m190_507 ?_
                    refine g_bipush m190_508 ?_
                    refine g_lshl m190_510 ?_
                    refine g_aload_n m190_511 rfl ?_
                    refine g_iload_n m190_512 rfl ?_
                    refine g_iconst m190_513 ?_
                    refine g_iadd (u := (2 : Int32)) m190_514 (by decide) ?_
                    refine g_iald (x := s2) m190_515 rfl (vin rfl) rfl ?_
                    refine g_i2l m190_516 ?_
                    refine g_ldc2 m190_517 ?_
                    refine g_land m190_520 ?_
                    refine g_lor m190_521 ?_
                    refine g_aload_n m190_522 rfl ?_
                    refine g_iload_n m190_523 rfl ?_
                    refine g_iconst m190_524 ?_
                    refine g_iadd (u := (3 : Int32)) m190_525 (by decide) ?_
                    refine g_iald (x := s3) m190_526 rfl (vin rfl) rfl ?_
                    refine g_cv (args := [.long _, .int _]) (rest := [.int (8)]) m190_527 (Nat.le_of_ble_eq_true rfl) rfl rfl rfl (Nat.le_of_ble_eq_true rfl) ?_
                    refine wp_in (L := [some (.ref 89), some (.long _), none, some (.int _), none]) (Nat.le_of_ble_eq_true rfl) rfl ?_
                    refine g_iload_n m139_0 rfl ?_
                    refine g_iconst m139_1 ?_
                    refine g_bipush m139_2 ?_
                    refine g_cs (args := [.int _, .int (1), .int (8)]) (rest := []) 0 (Or.inl rfl) m139_4 (Nat.le_of_ble_eq_true rfl) rfl rfl (Nat.le_of_ble_eq_true rfl) ?_
                    refine wp_in (L := [some (.int _), some (.int (1)), some (.int (8))]) (Nat.le_of_ble_eq_true rfl) rfl ?_
                    refine g_iload_n m107_0 rfl ?_
                    refine g_iload_n m107_1 rfl ?_
                    refine g_ic_ltF m107_2 (fun q => absurd ((lt_k (a := (s3).toInt) (b := 1) (by rfl) (by rfl)).mp q) (by omega)) ?_
                    refine g_iload_n m107_5 rfl ?_
                    refine g_iload_n m107_6 rfl ?_
                    refine g_ic_gtF m107_7 (fun q => absurd ((lt_k (a := 8) (b := (s3).toInt) (by rfl) (by rfl)).mp q) (by omega)) ?_
                    refine g_iconst m107_10 ?_
                    refine g_goto m107_11 ?_
                    refine g_zret m107_15 rfl (Or.inr rfl) ?_
                    refine gwst (st' := [.int (1)]) rfl ?_
                    refine g_if_neF m139_7 (by decide) ?_
                    refine g_aload_n m139_17 rfl ?_
                    refine g_gf m139_18 rfl rfl ?_
                    refine g_iconst m139_21 ?_
                    refine g_iald (x := (0 : Int32)) m139_22 rfl (vin rfl) rfl ?_
                    refine g_iload_n m139_23 rfl ?_
                    obtain ⟨j41, e42, x43⟩ := nat_of (x := s3) (lo := 8) (hi := 8) (by omega) (by omega)
                    obtain rfl : j41 = 8 := by omega
                    have x43q : s3 = (8 : Int32) := x43
                    clear x43
                    subst x43q
                    refine g_iadd (u := (8 : Int32)) m139_24 (by decide) ?_
                    refine g_bipush m139_25 ?_
                    refine g_ic_leT m139_27 (by decide) ?_
                    refine g_iconst m139_37 ?_
                    refine g_istore (L2 := [some (.ref 89), some (.long _), none, some (.int (8)), some (.int (0))]) m139_38 rfl rfl ?_
                    refine g_iload m139_40 rfl ?_
                    refine g_iload_n m139_42 rfl ?_
                    refine g_ic_geF m139_43 (by decide) ?_
                    refine g_aload_n m139_46 rfl ?_
                    refine g_gf m139_47 rfl rfl ?_
                    refine g_bipush m139_50 ?_
                    refine g_aload_n m139_52 rfl ?_
                    refine g_gf m139_53 rfl rfl ?_
                    refine g_iconst m139_56 ?_
                    refine g_iald (x := (0 : Int32)) m139_57 rfl (vin rfl) rfl ?_
                    refine g_iadd (u := (64 : Int32)) m139_58 (by decide) ?_
                    refine g_lload_n m139_59 rfl ?_
                    refine g_bipush m139_60 ?_
                    refine g_iload m139_62 rfl ?_
                    refine g_imul (u := (0 : Int32)) m139_64 (by decide) ?_
                    refine g_lshr m139_65 ?_
                    refine g_ldc2 m139_66 ?_
                    refine g_land m139_69 ?_
                    refine g_l2i m139_70 ?_
                    refine g_iast m139_71 (Nat.le_of_ble_eq_true rfl) rfl (vin rfl) rfl rfl rfl ?_
                    refine g_aload_n m139_72 rfl ?_
                    refine g_gf m139_73 rfl rfl ?_
                    refine g_iconst m139_76 ?_
                    refine g_dup2 m139_77 rfl rfl ?_
                    refine g_iald (x := (0 : Int32)) m139_78 rfl (vin rfl) rfl ?_
                    refine g_iconst m139_79 ?_
                    refine g_iadd (u := (1 : Int32)) m139_80 (by decide) ?_
                    refine g_iast m139_81 (Nat.le_of_ble_eq_true rfl) rfl (vin rfl) rfl rfl (set_n0 rfl) ?_
                    refine g_iinc (x2 := (1 : Int32)) (L2 := [some (.ref 89), some (.long _), none, some (.int (8)), some (.int (1))]) m139_82 rfl (by decide) rfl rfl ?_
                    refine g_goto m139_85 ?_
                    refine g_iload m139_40 rfl ?_
                    refine g_iload_n m139_42 rfl ?_
                    refine g_ic_geF m139_43 (by decide) ?_
                    refine g_aload_n m139_46 rfl ?_
                    refine g_gf m139_47 rfl rfl ?_
                    refine g_bipush m139_50 ?_
                    refine g_aload_n m139_52 rfl ?_
                    refine g_gf m139_53 rfl rfl ?_
                    refine g_iconst m139_56 ?_
                    refine g_iald (x := (1 : Int32)) m139_57 rfl (vin rfl) rfl ?_
                    refine g_iadd (u := (65 : Int32)) m139_58 (by decide) ?_
                    refine g_lload_n m139_59 rfl ?_
                    refine g_bipush m139_60 ?_
                    refine g_iload m139_62 rfl ?_
                    refine g_imul (u := (8 : Int32)) m139_64 (by decide) ?_
                    refine g_lshr m139_65 ?_
                    refine g_ldc2 m139_66 ?_
                    refine g_land m139_69 ?_
                    refine g_l2i m139_70 ?_
                    refine g_iast m139_71 (Nat.le_of_ble_eq_true rfl) rfl (vin rfl) rfl rfl (set_n0 rfl) ?_
                    refine g_aload_n m139_72 rfl ?_
                    refine g_gf m139_73 rfl rfl ?_
                    refine g_iconst m139_76 ?_
                    refine g_dup2 m139_77 rfl rfl ?_
                    refine g_iald (x := (1 : Int32)) m139_78 rfl (vin rfl) rfl ?_
                    refine g_iconst m139_79 ?_
                    refine g_iadd (u := (2 : Int32)) m139_80 (by decide) ?_
                    refine g_iast m139_81 (Nat.le_of_ble_eq_true rfl) rfl (vin rfl) rfl rfl (set_n0 rfl) ?_
                    refine g_iinc (x2 := (2 : Int32)) (L2 := [some (.ref 89), some (.long _), none, some (.int (8)), some (.int (2))]) m139_82 rfl (by decide) rfl rfl ?_
                    refine g_goto m139_85 ?_
                    refine g_iload m139_40 rfl ?_
                    refine g_iload_n m139_42 rfl ?_
                    refine g_ic_geF m139_43 (by decide) ?_
                    refine g_aload_n m139_46 rfl ?_
                    refine g_gf m139_47 rfl rfl ?_
                    refine g_bipush m139_50 ?_
                    refine g_aload_n m139_52 rfl ?_
                    refine g_gf m139_53 rfl rfl ?_
                    refine g_iconst m139_56 ?_
                    refine g_iald (x := (2 : Int32)) m139_57 rfl (vin rfl) rfl ?_
                    refine g_iadd (u := (66 : Int32)) m139_58 (by decide) ?_
                    refine g_lload_n m139_59 rfl ?_
                    refine g_bipush m139_60 ?_
                    refine g_iload m139_62 rfl ?_
                    refine g_imul (u := (16 : Int32)) m139_64 (by decide) ?_
                    refine g_lshr m139_65 ?_
                    refine g_ldc2 m139_66 ?_
                    refine g_land m139_69 ?_
                    refine g_l2i m139_70 ?_
                    refine g_iast m139_71 (Nat.le_of_ble_eq_true rfl) rfl (vin rfl) rfl rfl (set_n0 rfl) ?_
                    refine g_aload_n m139_72 rfl ?_
                    refine g_gf m139_73 rfl rfl ?_
                    refine g_iconst m139_76 ?_
                    refine g_dup2 m139_77 rfl rfl ?_
                    refine g_iald (x := (2 : Int32)) m139_78 rfl (vin rfl) rfl ?_
                    refine g_iconst m139_79 ?_
                    refine g_iadd (u := (3 : Int32)) m139_80 (by decide) ?_
                    refine g_iast m139_81 (Nat.le_of_ble_eq_true rfl) rfl (vin rfl) rfl rfl (set_n0 rfl) ?_
                    refine g_iinc (x2 := (3 : Int32)) (L2 := [some (.ref 89), some (.long _), none, some (.int (8)), some (.int (3))]) m139_82 rfl (by decide) rfl rfl ?_
                    refine g_goto m139_85 ?_
                    refine g_iload m139_40 rfl ?_
                    refine g_iload_n m139_42 rfl ?_
                    refine g_ic_geF m139_43 (by decide) ?_
                    refine g_aload_n m139_46 rfl ?_
                    refine g_gf m139_47 rfl rfl ?_
                    refine g_bipush m139_50 ?_
                    refine g_aload_n m139_52 rfl ?_
                    refine g_gf m139_53 rfl rfl ?_
                    refine g_iconst m139_56 ?_
                    refine g_iald (x := (3 : Int32)) m139_57 rfl (vin rfl) rfl ?_
                    refine g_iadd (u := (67 : Int32)) m139_58 (by decide) ?_
                    refine g_lload_n m139_59 rfl ?_
                    refine g_bipush m139_60 ?_
                    refine g_iload m139_62 rfl ?_
                    refine g_imul (u := (24 : Int32)) m139_64 (by decide) ?_
                    refine g_lshr m139_65 ?_
                    refine g_ldc2 m139_66 ?_
                    refine g_land m139_69 ?_
                    refine g_l2i m139_70 ?_
                    refine g_iast m139_71 (Nat.le_of_ble_eq_true rfl) rfl (vin rfl) rfl rfl (set_n0 rfl) ?_
                    refine g_aload_n m139_72 rfl ?_
                    refine g_gf m139_73 rfl rfl ?_
                    refine g_iconst m139_76 ?_
                    refine g_dup2 m139_77 rfl rfl ?_
                    refine g_iald (x := (3 : Int32)) m139_78 rfl (vin rfl) rfl ?_
                    refine g_iconst m139_79 ?_
                    refine g_iadd (u := (4 : Int32)) m139_80 (by decide) ?_
                    refine g_iast m139_81 (Nat.le_of_ble_eq_true rfl) rfl (vin rfl) rfl rfl (set_n0 rfl) ?_
                    refine g_iinc (x2 := (4 : Int32)) (L2 := [some (.ref 89), some (.long _), none, some (.int (8)), some (.int (4))]) m139_82 rfl (by decide) rfl rfl ?_
                    refine g_goto m139_85 ?_
                    refine g_iload m139_40 rfl ?_
                    refine g_iload_n m139_42 rfl ?_
                    refine g_ic_geF m139_43 (by decide) ?_
                    refine g_aload_n m139_46 rfl ?_
                    refine g_gf m139_47 rfl rfl ?_
                    refine g_bipush m139_50 ?_
                    refine g_aload_n m139_52 rfl ?_
                    refine g_gf m139_53 rfl rfl ?_
                    refine g_iconst m139_56 ?_
                    refine g_iald (x := (4 : Int32)) m139_57 rfl (vin rfl) rfl ?_
                    refine g_iadd (u := (68 : Int32)) m139_58 (by decide) ?_
                    refine g_lload_n m139_59 rfl ?_
                    refine g_bipush m139_60 ?_
                    refine g_iload m139_62 rfl ?_
                    refine g_imul (u := (32 : Int32)) m139_64 (by decide) ?_
                    refine g_lshr m139_65 ?_
                    refine g_ldc2 m139_66 ?_
                    refine g_land m139_69 ?_
                    refine g_l2i m139_70 ?_
                    refine g_iast m139_71 (Nat.le_of_ble_eq_true rfl) rfl (vin rfl) rfl rfl (set_n0 rfl) ?_
                    refine g_aload_n m139_72 rfl ?_
                    refine g_gf m139_73 rfl rfl ?_
                    refine g_iconst m139_76 ?_
                    refine g_dup2 m139_77 rfl rfl ?_
                    refine g_iald (x := (4 : Int32)) m139_78 rfl (vin rfl) rfl ?_
                    refine g_iconst m139_79 ?_
                    refine g_iadd (u := (5 : Int32)) m139_80 (by decide) ?_
                    refine g_iast m139_81 (Nat.le_of_ble_eq_true rfl) rfl (vin rfl) rfl rfl (set_n0 rfl) ?_
                    refine g_iinc (x2 := (5 : Int32)) (L2 := [some (.ref 89), some (.long _), none, some (.int (8)), some (.int (5))]) m139_82 rfl (by decide) rfl rfl ?_
                    refine g_goto m139_85 ?_
                    refine g_iload m139_40 rfl ?_
                    refine g_iload_n m139_42 rfl ?_
                    refine g_ic_geF m139_43 (by decide) ?_
                    refine g_aload_n m139_46 rfl ?_
                    refine g_gf m139_47 rfl rfl ?_
                    refine g_bipush m139_50 ?_
                    refine g_aload_n m139_52 rfl ?_
                    refine g_gf m139_53 rfl rfl ?_
                    refine g_iconst m139_56 ?_
                    refine g_iald (x := (5 : Int32)) m139_57 rfl (vin rfl) rfl ?_
                    refine g_iadd (u := (69 : Int32)) m139_58 (by decide) ?_
                    refine g_lload_n m139_59 rfl ?_
                    refine g_bipush m139_60 ?_
                    refine g_iload m139_62 rfl ?_
                    refine g_imul (u := (40 : Int32)) m139_64 (by decide) ?_
                    refine g_lshr m139_65 ?_
                    refine g_ldc2 m139_66 ?_
                    refine g_land m139_69 ?_
                    refine g_l2i m139_70 ?_
                    refine g_iast m139_71 (Nat.le_of_ble_eq_true rfl) rfl (vin rfl) rfl rfl (set_n0 rfl) ?_
                    refine g_aload_n m139_72 rfl ?_
                    refine g_gf m139_73 rfl rfl ?_
                    refine g_iconst m139_76 ?_
                    refine g_dup2 m139_77 rfl rfl ?_
                    refine g_iald (x := (5 : Int32)) m139_78 rfl (vin rfl) rfl ?_
                    refine g_iconst m139_79 ?_
                    refine g_iadd (u := (6 : Int32)) m139_80 (by decide) ?_
                    refine g_iast m139_81 (Nat.le_of_ble_eq_true rfl) rfl (vin rfl) rfl rfl (set_n0 rfl) ?_
                    refine g_iinc (x2 := (6 : Int32)) (L2 := [some (.ref 89), some (.long _), none, some (.int (8)), some (.int (6))]) m139_82 rfl (by decide) rfl rfl ?_
                    refine g_goto m139_85 ?_
                    refine g_iload m139_40 rfl ?_
                    refine g_iload_n m139_42 rfl ?_
                    refine g_ic_geF m139_43 (by decide) ?_
                    refine g_aload_n m139_46 rfl ?_
                    refine g_gf m139_47 rfl rfl ?_
                    refine g_bipush m139_50 ?_
                    refine g_aload_n m139_52 rfl ?_
                    refine g_gf m139_53 rfl rfl ?_
                    refine g_iconst m139_56 ?_
                    refine g_iald (x := (6 : Int32)) m139_57 rfl (vin rfl) rfl ?_
                    refine g_iadd (u := (70 : Int32)) m139_58 (by decide) ?_
                    refine g_lload_n m139_59 rfl ?_
                    refine g_bipush m139_60 ?_
                    refine g_iload m139_62 rfl ?_
                    refine g_imul (u := (48 : Int32)) m139_64 (by decide) ?_
                    refine g_lshr m139_65 ?_
                    refine g_ldc2 m139_66 ?_
                    refine g_land m139_69 ?_
                    refine g_l2i m139_70 ?_
                    refine g_iast m139_71 (Nat.le_of_ble_eq_true rfl) rfl (vin rfl) rfl rfl (set_n0 rfl) ?_
                    refine g_aload_n m139_72 rfl ?_
                    refine g_gf m139_73 rfl rfl ?_
                    refine g_iconst m139_76 ?_
                    refine g_dup2 m139_77 rfl rfl ?_
                    refine g_iald (x := (6 : Int32)) m139_78 rfl (vin rfl) rfl ?_
                    refine g_iconst m139_79 ?_
                    refine g_iadd (u := (7 : Int32)) m139_80 (by decide) ?_
                    refine g_iast m139_81 (Nat.le_of_ble_eq_true rfl) rfl (vin rfl) rfl rfl (set_n0 rfl) ?_
                    refine g_iinc (x2 := (7 : Int32)) (L2 := [some (.ref 89), some (.long _), none, some (.int (8)), some (.int (7))]) m139_82 rfl (by decide) rfl rfl ?_
                    refine g_goto m139_85 ?_
                    refine g_iload m139_40 rfl ?_
                    refine g_iload_n m139_42 rfl ?_
                    refine g_ic_geF m139_43 (by decide) ?_
                    refine g_aload_n m139_46 rfl ?_
                    refine g_gf m139_47 rfl rfl ?_
                    refine g_bipush m139_50 ?_
                    refine g_aload_n m139_52 rfl ?_
                    refine g_gf m139_53 rfl rfl ?_
                    refine g_iconst m139_56 ?_
                    refine g_iald (x := (7 : Int32)) m139_57 rfl (vin rfl) rfl ?_
                    refine g_iadd (u := (71 : Int32)) m139_58 (by decide) ?_
                    refine g_lload_n m139_59 rfl ?_
                    refine g_bipush m139_60 ?_
                    refine g_iload m139_62 rfl ?_
                    refine g_imul (u := (56 : Int32)) m139_64 (by decide) ?_
                    refine g_lshr m139_65 ?_
                    refine g_ldc2 m139_66 ?_
                    refine g_land m139_69 ?_
                    refine g_l2i m139_70 ?_
                    refine g_iast m139_71 (Nat.le_of_ble_eq_true rfl) rfl (vin rfl) rfl rfl (set_n0 rfl) ?_
                    refine g_aload_n m139_72 rfl ?_
                    refine g_gf m139_73 rfl rfl ?_
                    refine g_iconst m139_76 ?_
                    refine g_dup2 m139_77 rfl rfl ?_
                    refine g_iald (x := (7 : Int32)) m139_78 rfl (vin rfl) rfl ?_
                    refine g_iconst m139_79 ?_
                    refine g_iadd (u := (8 : Int32)) m139_80 (by decide) ?_
                    refine g_iast m139_81 (Nat.le_of_ble_eq_true rfl) rfl (vin rfl) rfl rfl (set_n0 rfl) ?_
                    refine g_iinc (x2 := (8 : Int32)) (L2 := [some (.ref 89), some (.long _), none, some (.int (8)), some (.int (8))]) m139_82 rfl (by decide) rfl rfl ?_
                    refine g_goto m139_85 ?_
                    refine g_iload m139_40 rfl ?_
                    refine g_iload_n m139_42 rfl ?_
                    refine g_ic_geT m139_43 (by decide) ?_
                    refine g_aload_n m139_88 rfl ?_
                    refine g_gf m139_89 rfl rfl ?_
                    refine g_iconst m139_92 ?_
                    refine g_iald (x := (8 : Int32)) m139_93 rfl (vin rfl) rfl ?_
                    refine g_iret m139_94 rfl ?_
                    refine gwst (st' := [.int (8), .int (8)]) rfl ?_
                    refine g_ic_eqT m190_530 (by decide) ?_
                    refine g_iinc (x2 := (6 : Int32)) (L2 := [some (.ref 0), some (.ref 32), some (.ref 89), some (.int (6))]) m190_1428 rfl (by decide) rfl rfl ?_
                    refine g_goto m190_1431 ?_
                    refine g_iload_n m190_18 rfl ?_
                    refine g_aload_n m190_19 rfl ?_
                    refine g_alen (n := 6) m190_20 rfl (Or.inl rfl) rfl ?_
                    refine g_bipush m190_21 ?_
                    refine g_isub (u := (0 : Int32)) m190_23 (by decide) ?_
                    refine g_ic_gtT m190_24 (by decide) ?_
                    refine g_iconst m190_1434 ?_
                    refine g_zret m190_1435 rfl (Or.inr rfl) ?_
                    exact rfl
    · have d4 : ¬ ((s3).toInt ≤ 8) := fun q => c3 ((le_k (by rfl) (by rfl)).mpr q)
      refine g_aload_n m67_11 rfl ?_
      refine g_iconst m67_12 ?_
      refine g_cv (args := [.int (1)]) (rest := []) m67_13 (Nat.le_of_ble_eq_true rfl) rfl rfl rfl (Nat.le_of_ble_eq_true rfl) ?_
      refine wp_in (L := [some (.ref 32), some (.int (1))]) (Nat.le_of_ble_eq_true rfl) rfl ?_
      refine g_aload_n m55_0 rfl ?_
      refine g_gf m55_1 rfl rfl ?_
      refine g_iload_n m55_4 rfl ?_
      refine g_dup2 m55_5 rfl rfl ?_
      refine g_iald (x := (0 : Int32)) m55_6 rfl (vin rfl) rfl ?_
      refine g_iconst m55_7 ?_
      refine g_iadd (u := (1 : Int32)) m55_8 (by decide) ?_
      refine g_iast m55_9 (Nat.le_of_ble_eq_true rfl) rfl (vin rfl) rfl rfl rfl ?_
      refine g_ldcw m55_10 ?_
      refine g_iload_n m55_13 rfl ?_
      refine g_isub (u := (-1000000001 : Int32)) m55_14 (by decide) ?_
      refine g_iret m55_15 rfl ?_
      refine gwst (st' := [.int (-1000000001)]) rfl ?_
      refine g_iret m67_16 rfl ?_
      refine gwst (st' := [.int (-1000000001)]) rfl ?_
      refine FRg rfl (fun f => ?_)
      refine g_aload_n m190_501 rfl ?_
      refine g_aload_n m190_502 rfl ?_
      refine g_iload_n m190_503 rfl ?_
      refine g_iconst m190_504 ?_
      refine g_iadd (u := (1 : Int32)) m190_505 (by decide) ?_
      refine g_iald (x := s1) m190_506 rfl (vin rfl) rfl ?_
      refine g_i2l m190_507 ?_
      refine g_bipush m190_508 ?_
      refine g_lshl m190_510 ?_
      refine g_aload_n m190_511 rfl ?_
      refine g_iload_n m190_512 rfl ?_
      refine g_iconst m190_513 ?_
      refine g_iadd (u := (2 : Int32)) m190_514 (by decide) ?_
      refine g_iald (x := s2) m190_515 rfl (vin rfl) rfl ?_
      refine g_i2l m190_516 ?_
      refine g_ldc2 m190_517 ?_
      refine g_land m190_520 ?_
      refine g_lor m190_521 ?_
      refine g_aload_n m190_522 rfl ?_
      refine g_iload_n m190_523 rfl ?_
      refine g_iconst m190_524 ?_
      refine g_iadd (u := (3 : Int32)) m190_525 (by decide) ?_
      refine g_iald (x := s3) m190_526 rfl (vin rfl) rfl ?_
      refine g_cv (args := [.long _, .int _]) (rest := [.int (-1000000001)]) m190_527 (Nat.le_of_ble_eq_true rfl) rfl rfl rfl (Nat.le_of_ble_eq_true rfl) ?_
      refine wp_in (L := [some (.ref 89), some (.long _), none, some (.int _), none]) (Nat.le_of_ble_eq_true rfl) rfl ?_
      refine g_iload_n m139_0 rfl ?_
      refine g_iconst m139_1 ?_
      refine g_bipush m139_2 ?_
      refine g_cs (args := [.int _, .int (1), .int (8)]) (rest := []) 0 (Or.inl rfl) m139_4 (Nat.le_of_ble_eq_true rfl) rfl rfl (Nat.le_of_ble_eq_true rfl) ?_
      refine wp_in (L := [some (.int _), some (.int (1)), some (.int (8))]) (Nat.le_of_ble_eq_true rfl) rfl ?_
      refine g_iload_n m107_0 rfl ?_
      refine g_iload_n m107_1 rfl ?_
      refine g_ic_ltF m107_2 (fun q => absurd ((lt_k (a := (s3).toInt) (b := 1) (by rfl) (by rfl)).mp q) (by omega)) ?_
      refine g_iload_n m107_5 rfl ?_
      refine g_iload_n m107_6 rfl ?_
      refine g_ic_gtT m107_7 ((lt_k (a := 8) (b := (s3).toInt) (by rfl) (by rfl)).mpr (by omega)) ?_
      refine g_iconst m107_14 ?_
      refine g_zret m107_15 rfl (Or.inl rfl) ?_
      refine gwst (st' := [.int (0)]) rfl ?_
      refine g_if_neT m139_7 (by decide) ?_
      refine g_aload_n m139_10 rfl ?_
      refine g_ldci m139_11 rfl ?_
      refine g_cv (args := [.int (-1000000001)]) (rest := []) m139_13 (Nat.le_of_ble_eq_true rfl) rfl rfl rfl (Nat.le_of_ble_eq_true rfl) ?_
      refine wp_in (L := [some (.ref 89), some (.int (-1000000001))]) (Nat.le_of_ble_eq_true rfl) rfl ?_
      refine g_aload_n m108_0 rfl ?_
      refine g_gf m108_1 rfl rfl ?_
      refine g_ldci m108_4 rfl ?_
      refine g_iload_n m108_6 rfl ?_
      refine g_isub (u := (1 : Int32)) m108_7 (by decide) ?_
      refine g_dup2 m108_8 rfl rfl ?_
      refine g_iald (x := (0 : Int32)) m108_9 rfl (vin rfl) rfl ?_
      refine g_iconst m108_10 ?_
      refine g_iadd (u := (1 : Int32)) m108_11 (by decide) ?_
      refine g_iast m108_12 (Nat.le_of_ble_eq_true rfl) rfl (vin rfl) rfl rfl rfl ?_
      refine g_iload_n m108_13 rfl ?_
      refine g_iret m108_14 rfl ?_
      refine gwst (st' := [.int (-1000000001)]) rfl ?_
      refine g_iret m139_16 rfl ?_
      refine gwst (st' := [.int (-1000000001), .int (-1000000001)]) rfl ?_
      refine g_ic_eqT m190_530 (by decide) ?_
      refine g_iinc (x2 := (6 : Int32)) (L2 := [some (.ref 0), some (.ref 32), some (.ref 89), some (.int (6))]) m190_1428 rfl (by decide) rfl rfl ?_
      refine g_goto m190_1431 ?_
      refine g_iload_n m190_18 rfl ?_
      refine g_aload_n m190_19 rfl ?_
      refine g_alen (n := 6) m190_20 rfl (Or.inl rfl) rfl ?_
      refine g_bipush m190_21 ?_
      refine g_isub (u := (0 : Int32)) m190_23 (by decide) ?_
      refine g_ic_gtT m190_24 (by decide) ?_
      refine g_iconst m190_1434 ?_
      refine g_zret m190_1435 rfl (Or.inr rfl) ?_
      exact rfl
