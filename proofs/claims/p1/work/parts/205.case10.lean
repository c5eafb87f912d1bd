/-! THE LAW'S CASES 10, 11, 12, 13, 14, 15, 16, 17, over two new objects -/
set_option maxRecDepth 20000 in
set_option maxHeartbeats 40000000 in
theorem lc_10 {s0 s1 s2 s3 s4 s5 : Int32} {d mc ms : Nat} : gw [s0, s1, s2, s3, s4, s5] (WP [s0, s1, s2, s3, s4, s5] (d + 20)) 190 (fun r _ => r = some (.int 1)) 558 [some (.ref 0), some (.ref 32), some (.ref 89), some (.int 0)] [] (hX0 ++ hM0) mc ms := by
  refine g_aload_n m190_558 rfl ?_
  refine g_aload_n m190_559 rfl ?_
  refine g_iload_n m190_560 rfl ?_
  refine g_iconst m190_561 ?_
  refine g_iadd (u := (1 : Int32)) m190_562 (by decide) ?_
  refine g_iald (x := s1) m190_563 rfl (vin rfl) rfl ?_
  refine g_aload_n m190_564 rfl ?_
  refine g_iload_n m190_565 rfl ?_
  refine g_iconst m190_566 ?_
  refine g_iadd (u := (2 : Int32)) m190_567 (by decide) ?_
  refine g_iald (x := s2) m190_568 rfl (vin rfl) rfl ?_
  refine g_aload_n m190_569 rfl ?_
  refine g_iload_n m190_570 rfl ?_
  refine g_iconst m190_571 ?_
  refine g_iadd (u := (3 : Int32)) m190_572 (by decide) ?_
  refine g_iald (x := s3) m190_573 rfl (vin rfl) rfl ?_
  refine g_aload_n m190_574 rfl ?_
  refine g_iload_n m190_575 rfl ?_
  refine g_iconst m190_576 ?_
  refine g_iadd (u := (4 : Int32)) m190_577 (by decide) ?_
  refine g_iald (x := s4) m190_578 rfl (vin rfl) rfl ?_
  refine g_cv (args := [.int _, .int _, .int _, .int _]) (rest := []) m190_579 (Nat.le_of_ble_eq_true rfl) rfl rfl rfl (Nat.le_of_ble_eq_true rfl) ?_
  refine wp_in (L := [some (.ref 32), some (.int _), some (.int _), some (.int _), some (.int _)]) (Nat.le_of_ble_eq_true rfl) rfl ?_
  refine g_iload_n m69_0 rfl ?_
  refine g_iconst m69_1 ?_
  refine g_cs (args := [.int _, .int (1)]) (rest := []) 0 (Or.inl rfl) m69_2 (Nat.le_of_ble_eq_true rfl) rfl rfl (Nat.le_of_ble_eq_true rfl) ?_
  refine wp_in (L := [some (.int _), some (.int (1))]) (Nat.le_of_ble_eq_true rfl) rfl ?_
  refine g_iload_n m54_0 rfl ?_
  refine g_if_lt m54_1 (fun c1 => ?_) (fun c1 => ?_)
  · have d2 : (s1).toInt < 0 := (lt_k (by rfl) (by rfl)).mp c1
    refine g_iconst m54_13 ?_
    refine g_zret m54_14 rfl (Or.inl rfl) ?_
    refine gwst (st' := [.int (0)]) rfl ?_
    refine g_if_neT m69_5 (by decide) ?_
    refine g_aload_n m69_8 rfl ?_
    refine g_iconst m69_9 ?_
    refine g_cv (args := [.int (1)]) (rest := []) m69_10 (Nat.le_of_ble_eq_true rfl) rfl rfl rfl (Nat.le_of_ble_eq_true rfl) ?_
    refine wp_in (L := [some (.ref 32), some (.int (1))]) (Nat.le_of_ble_eq_true rfl) rfl ?_
    refine g_aload_n m55_0 rfl ?_
    refine g_gf m55_1 rfl rfl ?_
    refine g_iload_n m55_4 rfl ?_
    refine g_dup2 m55_5 rfl rfl ?_
    refine g_iald (x := (0 : Int32)) m55_6 rfl (vin rfl) rfl ?_
    refine g_iconst m55_7 ?_
    refine g_iadd (u := (1 : Int32)) m55_8 (by decide) ?_
    refine g_iast m55_9 (Nat.le_of_ble_eq_true rfl) rfl (vin rfl) rfl rfl rfl ?_
    refine g_ldcw m55_10 ?_
    refine g_iload_n m55_13 rfl ?_
    refine g_isub (u := (-1000000001 : Int32)) m55_14 (by decide) ?_
    refine g_iret m55_15 rfl ?_
    refine gwst (st' := [.int (-1000000001)]) rfl ?_
    refine g_iret m69_13 rfl ?_
    refine gwst (st' := [.int (-1000000001)]) rfl ?_
    refine FRg rfl (fun f => ?_)
    refine g_aload_n m190_582 rfl ?_
    refine g_aload_n m190_583 rfl ?_
    refine g_iload_n m190_584 rfl ?_
    refine g_iconst m190_585 ?_
    refine g_iadd (u := (1 : Int32)) m190_586 (by decide) ?_
    refine g_iald (x := s1) m190_587 rfl (vin rfl) rfl ?_
    refine g_aload_n m190_588 rfl ?_
    refine g_iload_n m190_589 rfl ?_
    refine g_iconst m190_590 ?_
    refine g_iadd (u := (2 : Int32)) m190_591 (by decide) ?_
    refine g_iald (x := s2) m190_592 rfl (vin rfl) rfl ?_
    refine g_aload_n m190_593 rfl ?_
    refine g_iload_n m190_594 rfl ?_
    refine g_iconst m190_595 ?_
    refine g_iadd (u := (3 : Int32)) m190_596 (by decide) ?_
    refine g_iald (x := s3) m190_597 rfl (vin rfl) rfl ?_
    refine g_aload_n m190_598 rfl ?_
    refine g_iload_n m190_599 rfl ?_
    refine g_iconst m190_600 ?_
    refine g_iadd (u := (4 : Int32)) m190_601 (by decide) ?_
    refine g_iald (x := s4) m190_602 rfl (vin rfl) rfl ?_
    refine g_cv (args := [.int _, .int _, .int _, .int _]) (rest := [.int (-1000000001)]) m190_603 (Nat.le_of_ble_eq_true rfl) rfl rfl rfl (Nat.le_of_ble_eq_true rfl) ?_
    refine wp_in (L := [some (.ref 89), some (.int _), some (.int _), some (.int _), some (.int _)]) (Nat.le_of_ble_eq_true rfl) rfl ?_
    refine g_iload_n m138_0 rfl ?_
    refine g_iconst m138_1 ?_
    refine g_iconst m138_2 ?_
    refine g_cs (args := [.int _, .int (0), .int (1)]) (rest := []) 0 (Or.inl rfl) m138_3 (Nat.le_of_ble_eq_true rfl) rfl rfl (Nat.le_of_ble_eq_true rfl) ?_
    refine wp_in (L := [some (.int _), some (.int (0)), some (.int (1))]) (Nat.le_of_ble_eq_true rfl) rfl ?_
    refine g_iload_n m107_0 rfl ?_
    refine g_iload_n m107_1 rfl ?_
    refine g_ic_ltT m107_2 ((lt_k (a := (s1).toInt) (b := 0) (by rfl) (by rfl)).mpr (by omega)) ?_
    refine g_iconst m107_14 ?_
    refine g_zret m107_15 rfl (Or.inl rfl) ?_
    refine gwst (st' := [.int (0)]) rfl ?_
    refine g_if_eqT m138_6 (by decide) ?_
    refine g_aload_n m138_21 rfl ?_
    refine g_ldci m138_22 rfl ?_
    refine g_cv (args := [.int (-1000000001)]) (rest := []) m138_24 (Nat.le_of_ble_eq_true rfl) rfl rfl rfl (Nat.le_of_ble_eq_true rfl) ?_
    refine wp_in (L := [some (.ref 89), some (.int (-1000000001))]) (Nat.le_of_ble_eq_true rfl) rfl ?_
    refine g_aload_n m108_0 rfl ?_
    refine g_gf m108_1 rfl rfl ?_
    refine g_ldci m108_4 rfl ?_
    refine g_iload_n m108_6 rfl ?_
    refine g_isub (u := (1 : Int32)) m108_7 (by decide) ?_
    refine g_dup2 m108_8 rfl rfl ?_
    refine g_iald (x := (0 : Int32)) m108_9 rfl (vin rfl) rfl ?_
    refine g_iconst m108_10 ?_
    refine g_iadd (u := (1 : Int32)) m108_11 (by decide) ?_
    refine g_iast m108_12 (Nat.le_of_ble_eq_true rfl) rfl (vin rfl) rfl rfl rfl ?_
    refine g_iload_n m108_13 rfl ?_
    refine g_iret m108_14 rfl ?_
    refine gwst (st' := [.int (-1000000001)]) rfl ?_
    refine g_iret m138_27 rfl ?_
    refine gwst (st' := [.int (-1000000001), .int (-1000000001)]) rfl ?_
    refine g_ic_eqT m190_606 (by decide) ?_
    refine g_iinc (x2 := (6 : Int32)) (L2 := [some (.ref 0), some (.ref 32), some (.ref 89), some (.int (6))]) m190_1428 rfl (by decide) rfl rfl ?_
    refine g_goto m190_1431 ?_
    refine g_iload_n m190_18 rfl ?_
    refine g_aload_n m190_19 rfl ?_
    refine g_alen (n := 6) m190_20 rfl (Or.inl rfl) rfl ?_
    refine g_bipush m190_21 ?_
    refine g_isub (u := (0 : Int32)) m190_23 (by decide) ?_
    refine g_ic_gtT m190_24 (by decide) ?_
    refine g_iconst m190_1434 ?_
    refine g_zret m190_1435 rfl (Or.inr rfl) ?_
    exact rfl
  · have d2 : ¬ ((s1).toInt < 0) := fun q => c1 ((lt_k (by rfl) (by rfl)).mpr q)
    refine g_iload_n m54_4 rfl ?_
    refine g_iload_n m54_5 rfl ?_
    refine g_ic_gt m54_6 (fun c3 => ?_) (fun c3 => ?_)
    · have d4 : 1 < (s1).toInt := (lt_k (by rfl) (by rfl)).mp c3
      refine g_iconst m54_13 ?_
      refine g_zret m54_14 rfl (Or.inl rfl) ?_
      refine gwst (st' := [.int (0)]) rfl ?_
      refine g_if_neT m69_5 (by decide) ?_
      refine g_aload_n m69_8 rfl ?_
      refine g_iconst m69_9 ?_
      refine g_cv (args := [.int (1)]) (rest := []) m69_10 (Nat.le_of_ble_eq_true rfl) rfl rfl rfl (Nat.le_of_ble_eq_true rfl) ?_
      refine wp_in (L := [some (.ref 32), some (.int (1))]) (Nat.le_of_ble_eq_true rfl) rfl ?_
      refine g_aload_n m55_0 rfl ?_
      refine g_gf m55_1 rfl rfl ?_
      refine g_iload_n m55_4 rfl ?_
      refine g_dup2 m55_5 rfl rfl ?_
      refine g_iald (x := (0 : Int32)) m55_6 rfl (vin rfl) rfl ?_
      refine g_iconst m55_7 ?_
      refine g_iadd (u := (1 : Int32)) m55_8 (by decide) ?_
      refine g_iast m55_9 (Nat.le_of_ble_eq_true rfl) rfl (vin rfl) rfl rfl rfl ?_
      refine g_ldcw m55_10 ?_
      refine g_iload_n m55_13 rfl ?_
      refine g_isub (u := (-1000000001 : Int32)) m55_14 (by decide) ?_
      refine g_iret m55_15 rfl ?_
      refine gwst (st' := [.int (-1000000001)]) rfl ?_
      refine g_iret m69_13 rfl ?_
      refine gwst (st' := [.int (-1000000001)]) rfl ?_
      refine FRg rfl (fun f => ?_)
      refine g_aload_n m190_582 rfl ?_
      refine g_aload_n m190_583 rfl ?_
      refine g_iload_n m190_584 rfl ?_
      refine g_iconst m190_585 ?_
      refine g_iadd (u := (1 : Int32)) m190_586 (by decide) ?_
      refine g_iald (x := s1) m190_587 rfl (vin rfl) rfl ?_
      refine g_aload_n m190_588 rfl ?_
      refine g_iload_n m190_589 rfl ?_
      refine g_iconst m190_590 ?_
      refine g_iadd (u := (2 : Int32)) m190_591 (by decide) ?_
      refine g_iald (x := s2) m190_592 rfl (vin rfl) rfl ?_
      refine g_aload_n m190_593 rfl ?_
      refine g_iload_n m190_594 rfl ?_
      refine g_iconst m190_595 ?_
      refine g_iadd (u := (3 : Int32)) m190_596 (by decide) ?_
      refine g_iald (x := s3) m190_597 rfl (vin rfl) rfl ?_
      refine g_aload_n m190_598 rfl ?_
      refine g_iload_n m190_599 rfl ?_
      refine g_iconst m190_600 ?_
      refine g_iadd (u := (4 : Int32)) m190_601 (by decide) ?_
      refine g_iald (x := s4) m190_602 rfl (vin rfl) rfl ?_
      refine g_cv (args := [.int _, .int _, .int _, .int _]) (rest := [.int (-1000000001)]) m190_603 (Nat.le_of_ble_eq_true rfl) rfl rfl rfl (Nat.le_of_ble_eq_true rfl) ?_
      refine wp_in (L := [some (.ref 89), some (.int _), some (.int _), some (.int _), some (.int _)]) (Nat.le_of_ble_eq_true rfl) rfl ?_
      refine g_iload_n m138_0 rfl ?_
      refine g_iconst m138_1 ?_
      refine g_iconst m138_2 ?_
      refine g_cs (args := [.int _, .int (0), .int (1)]) (rest := []) 0 (Or.inl rfl) m138_3 (Nat.le_of_ble_eq_true rfl) rfl rfl (Nat.le_of_ble_eq_true rfl) ?_
      refine wp_in (L := [some (.int _), some (.int (0)), some (.int (1))]) (Nat.le_of_ble_eq_true rfl) rfl ?_
      refine g_iload_n m107_0 rfl ?_
      refine g_iload_n m107_1 rfl ?_
      refine g_ic_ltF m107_2 (fun q => absurd ((lt_k (a := (s1).toInt) (b := 0) (by rfl) (by rfl)).mp q) (by omega)) ?_
      refine g_iload_n m107_5 rfl ?_
      refine g_iload_n m107_6 rfl ?_
      refine g_ic_gtT m107_7 ((lt_k (a := 1) (b := (s1).toInt) (by rfl) (by rfl)).mpr (by omega)) ?_
      refine g_iconst m107_14 ?_
      refine g_zret m107_15 rfl (Or.inl rfl) ?_
      refine gwst (st' := [.int (0)]) rfl ?_
      refine g_if_eqT m138_6 (by decide) ?_
      refine g_aload_n m138_21 rfl ?_
      refine g_ldci m138_22 rfl ?_
      refine g_cv (args := [.int (-1000000001)]) (rest := []) m138_24 (Nat.le_of_ble_eq_true rfl) rfl rfl rfl (Nat.le_of_ble_eq_true rfl) ?_
      refine wp_in (L := [some (.ref 89), some (.int (-1000000001))]) (Nat.le_of_ble_eq_true rfl) rfl ?_
      refine g_aload_n m108_0 rfl ?_
      refine g_gf m108_1 rfl rfl ?_
      refine g_ldci m108_4 rfl ?_
      refine g_iload_n m108_6 rfl ?_
      refine g_isub (u := (1 : Int32)) m108_7 (by decide) ?_
      refine g_dup2 m108_8 rfl rfl ?_
      refine g_iald (x := (0 : Int32)) m108_9 rfl (vin rfl) rfl ?_
      refine g_iconst m108_10 ?_
      refine g_iadd (u := (1 : Int32)) m108_11 (by decide) ?_
      refine g_iast m108_12 (Nat.le_of_ble_eq_true rfl) rfl (vin rfl) rfl rfl rfl ?_
      refine g_iload_n m108_13 rfl ?_
      refine g_iret m108_14 rfl ?_
      refine gwst (st' := [.int (-1000000001)]) rfl ?_
      refine g_iret m138_27 rfl ?_
      refine gwst (st' := [.int (-1000000001), .int (-1000000001)]) rfl ?_
      refine g_ic_eqT m190_606 (by decide) ?_
      refine g_iinc (x2 := (6 : Int32)) (L2 := [some (.ref 0), some (.ref 32), some (.ref 89), some (.int (6))]) m190_1428 rfl (by decide) rfl rfl ?_
      refine g_goto m190_1431 ?_
      refine g_iload_n m190_18 rfl ?_
      refine g_aload_n m190_19 rfl ?_
      refine g_alen (n := 6) m190_20 rfl (Or.inl rfl) rfl ?_
      refine g_bipush m190_21 ?_
      refine g_isub (u := (0 : Int32)) m190_23 (by decide) ?_
      refine g_ic_gtT m190_24 (by decide) ?_
      refine g_iconst m190_1434 ?_
      refine g_zret m190_1435 rfl (Or.inr rfl) ?_
      exact rfl
    · have d4 : ¬ (1 < (s1).toInt) := fun q => c3 ((lt_k (by rfl) (by rfl)).mpr q)
      refine g_iconst m54_9 ?_
      refine g_goto m54_10 ?_
      refine g_zret m54_14 rfl (Or.inr rfl) ?_
      refine gwst (st' := [.int (1)]) rfl ?_
      refine g_if_neF m69_5 (by decide) ?_
      refine g_iload_n m69_14 rfl ?_
      refine g_if_ne m69_15 (fun c5 => ?_) (fun c5 => ?_)
      · have d6 : (s1).toInt = 0 := (eq_k (by rfl) (by rfl)).mp c5
        refine g_aload_n m69_18 rfl ?_
        refine g_gf m69_19 rfl rfl ?_
        refine g_iload_n m69_22 rfl ?_
        refine g_iload_n m69_23 rfl ?_
        refine g_iload m69_24 rfl ?_
        refine g_cv (args := [.int _, .int _, .int _]) (rest := []) m69_26 (Nat.le_of_ble_eq_true rfl) rfl rfl rfl (Nat.le_of_ble_eq_true rfl) ?_
        refine wp_in (L := [some (.ref 33), some (.int _), some (.int _), some (.int _)]) (Nat.le_of_ble_eq_true rfl) rfl ?_
        refine g_aload_n m32_0 rfl ?_
        refine g_gf m32_1 rfl rfl ?_
        refine g_ifnonnullN m32_4 ?_
        refine g_iload_n m32_7 rfl ?_
        refine g_bipush m32_8 ?_
        refine g_iadd m32_10 rfl ?_
        refine g_iload_n m32_11 rfl ?_
        refine g_bipush m32_12 ?_
        refine g_idiv m32_14 (by decide) rfl ?_
        refine g_isub m32_15 rfl ?_
        refine g_goto m32_16 ?_
        refine g_bipush m32_29 ?_
        refine g_cs (args := [.int _, .int (99)]) (rest := []) 1 (Or.inr rfl) m32_31 (Nat.le_of_ble_eq_true rfl) rfl rfl (Nat.le_of_ble_eq_true rfl) ?_
        refine wp_in (L := [some (.int _), some (.int (99))]) (Nat.le_of_ble_eq_true rfl) rfl ?_
        refine g_iload_n m51_0 rfl ?_
        refine g_if_ge m51_1 (fun c7 => ?_) (fun c7 => ?_)
        · have d8 : 0 ≤ (((s3 + (9 : Int32)) - (s2 / (9 : Int32)))).toInt := (le_k (by rfl) (by rfl)).mp c7
          refine g_iload_n m51_8 rfl ?_
          refine g_iload_n m51_9 rfl ?_
          refine g_ic_le m51_10 (fun c9 => ?_) (fun c9 => ?_)
          · have d10 : (((s3 + (9 : Int32)) - (s2 / (9 : Int32)))).toInt ≤ 99 := (le_k (by rfl) (by rfl)).mp c9
            refine g_iload_n m51_17 rfl ?_
            refine g_iret m51_18 rfl ?_
            refine gwst (st' := [.int _]) rfl ?_
            refine g_iret m32_34 rfl ?_
            refine gwst (st' := [.int _]) rfl ?_
            refine g_goto m69_29 ?_
            refine g_iret m69_43 rfl ?_
            refine gwst (st' := [.int _]) rfl ?_
            refine FRg rfl (fun f => ?_)
            refine g_aload_n m190_582 rfl ?_
            refine g_aload_n m190_583 rfl ?_
            refine g_iload_n m190_584 rfl ?_
            refine g_iconst m190_585 ?_
            refine g_iadd (u := (1 : Int32)) m190_586 (by decide) ?_
            refine g_iald (x := s1) m190_587 rfl (vin rfl) rfl ?_
            refine g_aload_n m190_588 rfl ?_
            refine g_iload_n m190_589 rfl ?_
            refine g_iconst m190_590 ?_
            refine g_iadd (u := (2 : Int32)) m190_591 (by decide) ?_
            refine g_iald (x := s2) m190_592 rfl (vin rfl) rfl ?_
            refine g_aload_n m190_593 rfl ?_
            refine g_iload_n m190_594 rfl ?_
            refine g_iconst m190_595 ?_
            refine g_iadd (u := (3 : Int32)) m190_596 (by decide) ?_
            refine g_iald (x := s3) m190_597 rfl (vin rfl) rfl ?_
            refine g_aload_n m190_598 rfl ?_
            refine g_iload_n m190_599 rfl ?_
            refine g_iconst m190_600 ?_
            refine g_iadd (u := (4 : Int32)) m190_601 (by decide) ?_
            refine g_iald (x := s4) m190_602 rfl (vin rfl) rfl ?_
            refine g_cv (args := [.int _, .int _, .int _, .int _]) (rest := [.int _]) m190_603 (Nat.le_of_ble_eq_true rfl) rfl rfl rfl (Nat.le_of_ble_eq_true rfl) ?_
            refine wp_in (L := [some (.ref 89), some (.int _), some (.int _), some (.int _), some (.int _)]) (Nat.le_of_ble_eq_true rfl) rfl ?_
            refine g_iload_n m138_0 rfl ?_
            refine g_iconst m138_1 ?_
            refine g_iconst m138_2 ?_
            refine g_cs (args := [.int _, .int (0), .int (1)]) (rest := []) 0 (Or.inl rfl) m138_3 (Nat.le_of_ble_eq_true rfl) rfl rfl (Nat.le_of_ble_eq_true rfl) ?_
            refine wp_in (L := [some (.int _), some (.int (0)), some (.int (1))]) (Nat.le_of_ble_eq_true rfl) rfl ?_
            refine g_iload_n m107_0 rfl ?_
            refine g_iload_n m107_1 rfl ?_
            refine g_ic_ltF m107_2 (fun q => absurd ((lt_k (a := (s1).toInt) (b := 0) (by rfl) (by rfl)).mp q) (by omega)) ?_
            refine g_iload_n m107_5 rfl ?_
            refine g_iload_n m107_6 rfl ?_
            refine g_ic_gtF m107_7 (fun q => absurd ((lt_k (a := 1) (b := (s1).toInt) (by rfl) (by rfl)).mp q) (by omega)) ?_
            refine g_iconst m107_10 ?_
            refine g_goto m107_11 ?_
            refine g_zret m107_15 rfl (Or.inr rfl) ?_
            refine gwst (st' := [.int (1)]) rfl ?_
            refine g_if_eqF m138_6 (by decide) ?_
            refine g_aload_n m138_9 rfl ?_
            refine g_iload_n m138_10 rfl ?_
            refine g_iload_n m138_11 rfl ?_
            refine g_iload_n m138_12 rfl ?_
            refine g_iload m138_13 rfl ?_
            refine g_cv (args := [.int _, .int _, .int _, .int _]) (rest := []) m138_15 (Nat.le_of_ble_eq_true rfl) rfl rfl rfl (Nat.le_of_ble_eq_true rfl) ?_
            refine wp_in (L := [some (.ref 89), some (.int _), some (.int _), some (.int _), some (.int _), none]) (Nat.le_of_ble_eq_true rfl) rfl ?_
            refine g_iload_n m131_0 rfl ?_
            refine g_if_neT m131_1 ((eq_k (a := (s1).toInt) (b := 0) (by rfl) (by rfl)).mpr (by omega)) ?_
            refine g_bipush m131_4 ?_
            refine g_goto m131_6 ?_
            refine g_istore (L2 := [some (.ref 89), some (.int _), some (.int _), some (.int _), some (.int _), some (.int (99))]) m131_10 rfl rfl ?_
            refine g_aload_n m131_12 rfl ?_
            refine g_gf m131_13 rfl rfl ?_
            refine g_iconst m131_16 ?_
            refine g_iload_n m131_17 rfl ?_
            obtain ⟨j11, e12, x13⟩ := nat_of (x := s1) (lo := 0) (hi := 0) (by omega) (by omega)
            obtain rfl : j11 = 0 := by omega
            have x13q : s1 = (0 : Int32) := x13
            clear x13
            subst x13q
            refine g_iadd (u := (5 : Int32)) m131_18 (by decide) ?_
            refine g_iald (x := (-1 : Int32)) m131_19 rfl (vin rfl) rfl ?_
            refine g_if_ltT m131_20 (by decide) ?_
            refine g_iload_n m131_39 rfl ?_
            refine g_if_neT m131_40 (by decide) ?_
            refine g_iload_n m131_43 rfl ?_
            refine g_bipush m131_44 ?_
            refine g_iadd m131_46 rfl ?_
            refine g_iload_n m131_47 rfl ?_
            refine g_bipush m131_48 ?_
            refine g_idiv m131_50 (by decide) rfl ?_
            refine g_isub m131_51 rfl ?_
            refine g_iconst m131_52 ?_
            refine g_iload m131_53 rfl ?_
            refine g_cs (args := [.int _, .int (0), .int (99)]) (rest := []) 0 (Or.inl rfl) m131_55 (Nat.le_of_ble_eq_true rfl) rfl rfl (Nat.le_of_ble_eq_true rfl) ?_
            refine wp_in (L := [some (.int _), some (.int (0)), some (.int (99))]) (Nat.le_of_ble_eq_true rfl) rfl ?_
            refine g_iload_n m109_0 rfl ?_
            refine g_iload_n m109_1 rfl ?_
            refine g_ic_geT m109_2 ((le_k (a := 0) (b := (((s3 + (9 : Int32)) - (s2 / (9 : Int32)))).toInt) (by rfl) (by rfl)).mpr (by omega)) ?_
            refine g_iload_n m109_9 rfl ?_
            refine g_iload_n m109_10 rfl ?_
            refine g_ic_leT m109_11 ((le_k (a := (((s3 + (9 : Int32)) - (s2 / (9 : Int32)))).toInt) (b := 99) (by rfl) (by rfl)).mpr (by omega)) ?_
            refine g_iload_n m109_18 rfl ?_
            refine g_iret m109_19 rfl ?_
            refine gwst (st' := [.int _]) rfl ?_
            refine g_goto m131_58 ?_
            refine g_iret m131_62 rfl ?_
            refine gwst (st' := [.int _]) rfl ?_
            refine g_goto m138_18 ?_
            refine g_iret m138_27 rfl ?_
            refine gwst (st' := [.int _, .int _]) rfl ?_
            refine g_ic_eqT m190_606 rfl ?_
            refine g_iinc (x2 := (6 : Int32)) (L2 := [some (.ref 0), some (.ref 32), some (.ref 89), some (.int (6))]) m190_1428 rfl (by decide) rfl rfl ?_
            refine g_goto m190_1431 ?_
            refine g_iload_n m190_18 rfl ?_
            refine g_aload_n m190_19 rfl ?_
            refine g_alen (n := 6) m190_20 rfl (Or.inl rfl) rfl ?_
            refine g_bipush m190_21 ?_
            refine g_isub (u := (0 : Int32)) m190_23 (by decide) ?_
            refine g_ic_gtT m190_24 (by decide) ?_
            refine g_iconst m190_1434 ?_
            refine g_zret m190_1435 rfl (Or.inr rfl) ?_
            exact rfl
          · have d10 : ¬ ((((s3 + (9 : Int32)) - (s2 / (9 : Int32)))).toInt ≤ 99) := fun q => c9 ((le_k (by rfl) (by rfl)).mpr q)
            refine g_iload_n m51_13 rfl ?_
            refine g_goto m51_14 ?_
            refine g_iret m51_18 rfl ?_
            refine gwst (st' := [.int (99)]) rfl ?_
            refine g_iret m32_34 rfl ?_
            refine gwst (st' := [.int (99)]) rfl ?_
            refine g_goto m69_29 ?_
            refine g_iret m69_43 rfl ?_
            refine gwst (st' := [.int (99)]) rfl ?_
            refine FRg rfl (fun f => ?_)
            refine g_aload_n m190_582 rfl ?_
            refine g_aload_n m190_583 rfl ?_
            refine g_iload_n m190_584 rfl ?_
            refine g_iconst m190_585 ?_
            refine g_iadd (u := (1 : Int32)) m190_586 (by decide) ?_
            refine g_iald (x := s1) m190_587 rfl (vin rfl) rfl ?_
            refine g_aload_n m190_588 rfl ?_
            refine g_iload_n m190_589 rfl ?_
            refine g_iconst m190_590 ?_
            refine g_iadd (u := (2 : Int32)) m190_591 (by decide) ?_
            refine g_iald (x := s2) m190_592 rfl (vin rfl) rfl ?_
            refine g_aload_n m190_593 rfl ?_
            refine g_iload_n m190_594 rfl ?_
            refine g_iconst m190_595 ?_
            refine g_iadd (u := (3 : Int32)) m190_596 (by decide) ?_
            refine g_iald (x := s3) m190_597 rfl (vin rfl) rfl ?_
            refine g_aload_n m190_598 rfl ?_
            refine g_iload_n m190_599 rfl ?_
            refine g_iconst m190_600 ?_
            refine g_iadd (u := (4 : Int32)) m190_601 (by decide) ?_
            refine g_iald (x := s4) m190_602 rfl (vin rfl) rfl ?_
            refine g_cv (args := [.int _, .int _, .int _, .int _]) (rest := [.int (99)]) m190_603 (Nat.le_of_ble_eq_true rfl) rfl rfl rfl (Nat.le_of_ble_eq_true rfl) ?_
            refine wp_in (L := [some (.ref 89), some (.int _), some (.int _), some (.int _), some (.int _)]) (Nat.le_of_ble_eq_true rfl) rfl ?_
            refine g_iload_n m138_0 rfl ?_
            refine g_iconst m138_1 ?_
            refine g_iconst m138_2 ?_
            refine g_cs (args := [.int _, .int (0), .int (1)]) (rest := []) 0 (Or.inl rfl) m138_3 (Nat.le_of_ble_eq_true rfl) rfl rfl (Nat.le_of_ble_eq_true rfl) ?_
            refine wp_in (L := [some (.int _), some (.int (0)), some (.int (1))]) (Nat.le_of_ble_eq_true rfl) rfl ?_
            refine g_iload_n m107_0 rfl ?_
            refine g_iload_n m107_1 rfl ?_
            refine g_ic_ltF m107_2 (fun q => absurd ((lt_k (a := (s1).toInt) (b := 0) (by rfl) (by rfl)).mp q) (by omega)) ?_
            refine g_iload_n m107_5 rfl ?_
            refine g_iload_n m107_6 rfl ?_
            refine g_ic_gtF m107_7 (fun q => absurd ((lt_k (a := 1) (b := (s1).toInt) (by rfl) (by rfl)).mp q) (by omega)) ?_
            refine g_iconst m107_10 ?_
            refine g_goto m107_11 ?_
            refine g_zret m107_15 rfl (Or.inr rfl) ?_
            refine gwst (st' := [.int (1)]) rfl ?_
            refine g_if_eqF m138_6 (by decide) ?_
            refine g_aload_n m138_9 rfl ?_
            refine g_iload_n m138_10 rfl ?_
            refine g_iload_n m138_11 rfl ?_
            refine g_iload_n m138_12 rfl ?_
            refine g_iload m138_13 rfl ?_
            refine g_cv (args := [.int _, .int _, .int _, .int _]) (rest := []) m138_15 (Nat.le_of_ble_eq_true rfl) rfl rfl rfl (Nat.le_of_ble_eq_true rfl) ?_
            refine wp_in (L := [some (.ref 89), some (.int _), some (.int _), some (.int _), some (.int _), none]) (Nat.le_of_ble_eq_true rfl) rfl ?_
            refine g_iload_n m131_0 rfl ?_
            refine g_if_neT m131_1 ((eq_k (a := (s1).toInt) (b := 0) (by rfl) (by rfl)).mpr (by omega)) ?_
            refine g_bipush m131_4 ?_
            refine g_goto m131_6 ?_
            refine g_istore (L2 := [some (.ref 89), some (.int _), some (.int _), some (.int _), some (.int _), some (.int (99))]) m131_10 rfl rfl ?_
            refine g_aload_n m131_12 rfl ?_
            refine g_gf m131_13 rfl rfl ?_
            refine g_iconst m131_16 ?_
            refine g_iload_n m131_17 rfl ?_
            obtain ⟨j14, e15, x16⟩ := nat_of (x := s1) (lo := 0) (hi := 0) (by omega) (by omega)
            obtain rfl : j14 = 0 := by omega
            have x16q : s1 = (0 : Int32) := x16
            clear x16
            subst x16q
            refine g_iadd (u := (5 : Int32)) m131_18 (by decide) ?_
            refine g_iald (x := (-1 : Int32)) m131_19 rfl (vin rfl) rfl ?_
            refine g_if_ltT m131_20 (by decide) ?_
            refine g_iload_n m131_39 rfl ?_
            refine g_if_neT m131_40 (by decide) ?_
            refine g_iload_n m131_43 rfl ?_
            refine g_bipush m131_44 ?_
            refine g_iadd m131_46 rfl ?_
            refine g_iload_n m131_47 rfl ?_
            refine g_bipush m131_48 ?_
            refine g_idiv m131_50 (by decide) rfl ?_
            refine g_isub m131_51 rfl ?_
            refine g_iconst m131_52 ?_
            refine g_iload m131_53 rfl ?_
            refine g_cs (args := [.int _, .int (0), .int (99)]) (rest := []) 0 (Or.inl rfl) m131_55 (Nat.le_of_ble_eq_true rfl) rfl rfl (Nat.le_of_ble_eq_true rfl) ?_
            refine wp_in (L := [some (.int _), some (.int (0)), some (.int (99))]) (Nat.le_of_ble_eq_true rfl) rfl ?_
            refine g_iload_n m109_0 rfl ?_
            refine g_iload_n m109_1 rfl ?_
            refine g_ic_geT m109_2 ((le_k (a := 0) (b := (((s3 + (9 : Int32)) - (s2 / (9 : Int32)))).toInt) (by rfl) (by rfl)).mpr (by omega)) ?_
            refine g_iload_n m109_9 rfl ?_
            refine g_iload_n m109_10 rfl ?_
            refine g_ic_leF m109_11 (fun q => absurd ((le_k (a := (((s3 + (9 : Int32)) - (s2 / (9 : Int32)))).toInt) (b := 99) (by rfl) (by rfl)).mp q) (by omega)) ?_
            refine g_iload_n m109_14 rfl ?_
            refine g_goto m109_15 ?_
            refine g_iret m109_19 rfl ?_
            refine gwst (st' := [.int (99)]) rfl ?_
            refine g_goto m131_58 ?_
            refine g_iret m131_62 rfl ?_
            refine gwst (st' := [.int (99)]) rfl ?_
            refine g_goto m138_18 ?_
            refine g_iret m138_27 rfl ?_
            refine gwst (st' := [.int (99), .int (99)]) rfl ?_
            refine g_ic_eqT m190_606 (by decide) ?_
            refine g_iinc (x2 := (6 : Int32)) (L2 := [some (.ref 0), some (.ref 32), some (.ref 89), some (.int (6))]) m190_1428 rfl (by decide) rfl rfl ?_
            refine g_goto m190_1431 ?_
            refine g_iload_n m190_18 rfl ?_
            refine g_aload_n m190_19 rfl ?_
            refine g_alen (n := 6) m190_20 rfl (Or.inl rfl) rfl ?_
            refine g_bipush m190_21 ?_
            refine g_isub (u := (0 : Int32)) m190_23 (by decide) ?_
            refine g_ic_gtT m190_24 (by decide) ?_
            refine g_iconst m190_1434 ?_
            refine g_zret m190_1435 rfl (Or.inr rfl) ?_
            exact rfl
        · have d8 : ¬ (0 ≤ (((s3 + (9 : Int32)) - (s2 / (9 : Int32)))).toInt) := fun q => c7 ((le_k (by rfl) (by rfl)).mpr q)
          refine g_iconst m51_4 ?_
          refine g_goto m51_5 ?_
          refine g_iret m51_18 rfl ?_
          refine gwst (st' := [.int (0)]) rfl ?_
          refine g_iret m32_34 rfl ?_
          refine gwst (st' := [.int (0)]) rfl ?_
          refine g_goto m69_29 ?_
          refine g_iret m69_43 rfl ?_
          refine gwst (st' := [.int (0)]) rfl ?_
          refine FRg rfl (fun f => ?_)
          refine g_aload_n m190_582 rfl ?_
          refine g_aload_n m190_583 rfl ?_
          refine g_iload_n m190_584 rfl ?_
          refine g_iconst m190_585 ?_
          refine g_iadd (u := (1 : Int32)) m190_586 (by decide) ?_
          refine g_iald (x := s1) m190_587 rfl (vin rfl) rfl ?_
          refine g_aload_n m190_588 rfl ?_
          refine g_iload_n m190_589 rfl ?_
          refine g_iconst m190_590 ?_
          refine g_iadd (u := (2 : Int32)) m190_591 (by decide) ?_
          refine g_iald (x := s2) m190_592 rfl (vin rfl) rfl ?_
          refine g_aload_n m190_593 rfl ?_
          refine g_iload_n m190_594 rfl ?_
          refine g_iconst m190_595 ?_
          refine g_iadd (u := (3 : Int32)) m190_596 (by decide) ?_
          refine g_iald (x := s3) m190_597 rfl (vin rfl) rfl ?_
          refine g_aload_n m190_598 rfl ?_
          refine g_iload_n m190_599 rfl ?_
          refine g_iconst m190_600 ?_
          refine g_iadd (u := (4 : Int32)) m190_601 (by decide) ?_
          refine g_iald (x := s4) m190_602 rfl (vin rfl) rfl ?_
          refine g_cv (args := [.int _, .int _, .int _, .int _]) (rest := [.int (0)]) m190_603 (Nat.le_of_ble_eq_true rfl) rfl rfl rfl (Nat.le_of_ble_eq_true rfl) ?_
          refine wp_in (L := [some (.ref 89), some (.int _), some (.int _), some (.int _), some (.int _)]) (Nat.le_of_ble_eq_true rfl) rfl ?_
          refine g_iload_n m138_0 rfl ?_
          refine g_iconst m138_1 ?_
          refine g_iconst m138_2 ?_
          refine g_cs (args := [.int _, .int (0), .int (1)]) (rest := []) 0 (Or.inl rfl) m138_3 (Nat.le_of_ble_eq_true rfl) rfl rfl (Nat.le_of_ble_eq_true rfl) ?_
          refine wp_in (L := [some (.int _), some (.int (0)), some (.int (1))]) (Nat.le_of_ble_eq_true rfl) rfl ?_
          refine g_iload_n m107_0 rfl ?_
          refine g_iload_n m107_1 rfl ?_
          refine g_ic_ltF m107_2 (fun q => absurd ((lt_k (a := (s1).toInt) (b := 0) (by rfl) (by rfl)).mp q) (by omega)) ?_
          refine g_iload_n m107_5 rfl ?_
          refine g_iload_n m107_6 rfl ?_
          refine g_ic_gtF m107_7 (fun q => absurd ((lt_k (a := 1) (b := (s1).toInt) (by rfl) (by rfl)).mp q) (by omega)) ?_
          refine g_iconst m107_10 ?_
          refine g_goto m107_11 ?_
          refine g_zret m107_15 rfl (Or.inr rfl) ?_
          refine gwst (st' := [.int (1)]) rfl ?_
          refine g_if_eqF m138_6 (by decide) ?_
          refine g_aload_n m138_9 rfl ?_
          refine g_iload_n m138_10 rfl ?_
          refine g_iload_n m138_11 rfl ?_
          refine g_iload_n m138_12 rfl ?_
          refine g_iload m138_13 rfl ?_
          refine g_cv (args := [.int _, .int _, .int _, .int _]) (rest := []) m138_15 (Nat.le_of_ble_eq_true rfl) rfl rfl rfl (Nat.le_of_ble_eq_true rfl) ?_
          refine wp_in (L := [some (.ref 89), some (.int _), some (.int _), some (.int _), some (.int _), none]) (Nat.le_of_ble_eq_true rfl) rfl ?_
          refine g_iload_n m131_0 rfl ?_
          refine g_if_neT m131_1 ((eq_k (a := (s1).toInt) (b := 0) (by rfl) (by rfl)).mpr (by omega)) ?_
          refine g_bipush m131_4 ?_
          refine g_goto m131_6 ?_
          refine g_istore (L2 := [some (.ref 89), some (.int _), some (.int _), some (.int _), some (.int _), some (.int (99))]) m131_10 rfl rfl ?_
          refine g_aload_n m131_12 rfl ?_
          refine g_gf m131_13 rfl rfl ?_
          refine g_iconst m131_16 ?_
          refine g_iload_n m131_17 rfl ?_
          obtain ⟨j17, e18, x19⟩ := nat_of (x := s1) (lo := 0) (hi := 0) (by omega) (by omega)
          obtain rfl : j17 = 0 := by omega
          have x19q : s1 = (0 : Int32) := x19
          clear x19
          subst x19q
          refine g_iadd (u := (5 : Int32)) m131_18 (by decide) ?_
          refine g_iald (x := (-1 : Int32)) m131_19 rfl (vin rfl) rfl ?_
          refine g_if_ltT m131_20 (by decide) ?_
          refine g_iload_n m131_39 rfl ?_
          refine g_if_neT m131_40 (by decide) ?_
          refine g_iload_n m131_43 rfl ?_
          refine g_bipush m131_44 ?_
          refine g_iadd m131_46 rfl ?_
          refine g_iload_n m131_47 rfl ?_
          refine g_bipush m131_48 ?_
          refine g_idiv m131_50 (by decide) rfl ?_
          refine g_isub m131_51 rfl ?_
          refine g_iconst m131_52 ?_
          refine g_iload m131_53 rfl ?_
          refine g_cs (args := [.int _, .int (0), .int (99)]) (rest := []) 0 (Or.inl rfl) m131_55 (Nat.le_of_ble_eq_true rfl) rfl rfl (Nat.le_of_ble_eq_true rfl) ?_
          refine wp_in (L := [some (.int _), some (.int (0)), some (.int (99))]) (Nat.le_of_ble_eq_true rfl) rfl ?_
          refine g_iload_n m109_0 rfl ?_
          refine g_iload_n m109_1 rfl ?_
          refine g_ic_geF m109_2 (fun q => absurd ((le_k (a := 0) (b := (((s3 + (9 : Int32)) - (s2 / (9 : Int32)))).toInt) (by rfl) (by rfl)).mp q) (by omega)) ?_
          refine g_iload_n m109_5 rfl ?_
          refine g_goto m109_6 ?_
          refine g_iret m109_19 rfl ?_
          refine gwst (st' := [.int (0)]) rfl ?_
          refine g_goto m131_58 ?_
          refine g_iret m131_62 rfl ?_
          refine gwst (st' := [.int (0)]) rfl ?_
          refine g_goto m138_18 ?_
          refine g_iret m138_27 rfl ?_
          refine gwst (st' := [.int (0), .int (0)]) rfl ?_
          refine g_ic_eqT m190_606 (by decide) ?_
          refine g_iinc (x2 := (6 : Int32)) (L2 := [some (.ref 0), some (.ref 32), some (.ref 89), some (.int (6))]) m190_1428 rfl (by decide) rfl rfl ?_
          refine g_goto m190_1431 ?_
          refine g_iload_n m190_18 rfl ?_
          refine g_aload_n m190_19 rfl ?_
          refine g_alen (n := 6) m190_20 rfl (Or.inl rfl) rfl ?_
          refine g_bipush m190_21 ?_
          refine g_isub (u := (0 : Int32)) m190_23 (by decide) ?_
          refine g_ic_gtT m190_24 (by decide) ?_
          refine g_iconst m190_1434 ?_
          refine g_zret m190_1435 rfl (Or.inr rfl) ?_
          exact rfl
      · have d6 : ¬ ((s1).toInt = 0) := fun q => c5 ((eq_k (by rfl) (by rfl)).mpr q)
        refine g_aload_n m69_32 rfl ?_
        refine g_gf m69_33 rfl rfl ?_
        refine g_iload_n m69_36 rfl ?_
        refine g_iload_n m69_37 rfl ?_
        refine g_iload m69_38 rfl ?_
        refine g_cv (args := [.int _, .int _, .int _]) (rest := []) m69_40 (Nat.le_of_ble_eq_true rfl) rfl rfl rfl (Nat.le_of_ble_eq_true rfl) ?_
        refine wp_in (L := [some (.ref 33), some (.int _), some (.int _), some (.int _)]) (Nat.le_of_ble_eq_true rfl) rfl ?_
        refine g_aload_n m33_0 rfl ?_
        refine g_gf m33_1 rfl rfl ?_
        refine g_ifnonnullN m33_4 ?_
        refine g_iconst m33_7 ?_
        refine g_goto m33_8 ?_
        refine g_iret m33_25 rfl ?_
        refine gwst (st' := [.int (0)]) rfl ?_
        refine g_iret m69_43 rfl ?_
        refine gwst (st' := [.int (0)]) rfl ?_
        refine FRg rfl (fun f => ?_)
        refine g_aload_n m190_582 rfl ?_
        refine g_aload_n m190_583 rfl ?_
        refine g_iload_n m190_584 rfl ?_
        refine g_iconst m190_585 ?_
        refine g_iadd (u := (1 : Int32)) m190_586 (by decide) ?_
        refine g_iald (x := s1) m190_587 rfl (vin rfl) rfl ?_
        refine g_aload_n m190_588 rfl ?_
        refine g_iload_n m190_589 rfl ?_
        refine g_iconst m190_590 ?_
        refine g_iadd (u := (2 : Int32)) m190_591 (by decide) ?_
        refine g_iald (x := s2) m190_592 rfl (vin rfl) rfl ?_
        refine g_aload_n m190_593 rfl ?_
        refine g_iload_n m190_594 rfl ?_
        refine g_iconst m190_595 ?_
        refine g_iadd (u := (3 : Int32)) m190_596 (by decide) ?_
        refine g_iald (x := s3) m190_597 rfl (vin rfl) rfl ?_
        refine g_aload_n m190_598 rfl ?_
        refine g_iload_n m190_599 rfl ?_
        refine g_iconst m190_600 ?_
        refine g_iadd (u := (4 : Int32)) m190_601 (by decide) ?_
        refine g_iald (x := s4) m190_602 rfl (vin rfl) rfl ?_
        refine g_cv (args := [.int _, .int _, .int _, .int _]) (rest := [.int (0)]) m190_603 (Nat.le_of_ble_eq_true rfl) rfl rfl rfl (Nat.le_of_ble_eq_true rfl) ?_
        refine wp_in (L := [some (.ref 89), some (.int _), some (.int _), some (.int _), some (.int _)]) (Nat.le_of_ble_eq_true rfl) rfl ?_
        refine g_iload_n m138_0 rfl ?_
        refine g_iconst m138_1 ?_
        refine g_iconst m138_2 ?_
        refine g_cs (args := [.int _, .int (0), .int (1)]) (rest := []) 0 (Or.inl rfl) m138_3 (Nat.le_of_ble_eq_true rfl) rfl rfl (Nat.le_of_ble_eq_true rfl) ?_
        refine wp_in (L := [some (.int _), some (.int (0)), some (.int (1))]) (Nat.le_of_ble_eq_true rfl) rfl ?_
        refine g_iload_n m107_0 rfl ?_
        refine g_iload_n m107_1 rfl ?_
        refine g_ic_ltF m107_2 (fun q => absurd ((lt_k (a := (s1).toInt) (b := 0) (by rfl) (by rfl)).mp q) (by omega)) ?_
        refine g_iload_n m107_5 rfl ?_
        refine g_iload_n m107_6 rfl ?_
        refine g_ic_gtF m107_7 (fun q => absurd ((lt_k (a := 1) (b := (s1).toInt) (by rfl) (by rfl)).mp q) (by omega)) ?_
        refine g_iconst m107_10 ?_
        refine g_goto m107_11 ?_
        refine g_zret m107_15 rfl (Or.inr rfl) ?_
        refine gwst (st' := [.int (1)]) rfl ?_
        refine g_if_eqF m138_6 (by decide) ?_
        refine g_aload_n m138_9 rfl ?_
        refine g_iload_n m138_10 rfl ?_
        refine g_iload_n m138_11 rfl ?_
        refine g_iload_n m138_12 rfl ?_
        refine g_iload m138_13 rfl ?_
        refine g_cv (args := [.int _, .int _, .int _, .int _]) (rest := []) m138_15 (Nat.le_of_ble_eq_true rfl) rfl rfl rfl (Nat.le_of_ble_eq_true rfl) ?_
        refine wp_in (L := [some (.ref 89), some (.int _), some (.int _), some (.int _), some (.int _), none]) (Nat.le_of_ble_eq_true rfl) rfl ?_
        refine g_iload_n m131_0 rfl ?_
        refine g_if_neF m131_1 (fun q => absurd ((eq_k (a := (s1).toInt) (b := 0) (by rfl) (by rfl)).mp q) (by omega)) ?_
        refine g_iconst m131_9 ?_
        refine g_istore (L2 := [some (.ref 89), some (.int _), some (.int _), some (.int _), some (.int _), some (.int (1))]) m131_10 rfl rfl ?_
        refine g_aload_n m131_12 rfl ?_
        refine g_gf m131_13 rfl rfl ?_
        refine g_iconst m131_16 ?_
        refine g_iload_n m131_17 rfl ?_
        obtain ⟨j20, e21, x22⟩ := nat_of (x := s1) (lo := 1) (hi := 1) (by omega) (by omega)
        obtain rfl : j20 = 1 := by omega
        have x22q : s1 = (1 : Int32) := x22
        clear x22
        subst x22q
        refine g_iadd (u := (6 : Int32)) m131_18 (by decide) ?_
        refine g_iald (x := (-1 : Int32)) m131_19 rfl (vin rfl) rfl ?_
        refine g_if_ltT m131_20 (by decide) ?_
        refine g_iload_n m131_39 rfl ?_
        refine g_if_neF m131_40 (by decide) ?_
        refine g_iconst m131_61 ?_
        refine g_iret m131_62 rfl ?_
        refine gwst (st' := [.int (0)]) rfl ?_
        refine g_goto m138_18 ?_
        refine g_iret m138_27 rfl ?_
        refine gwst (st' := [.int (0), .int (0)]) rfl ?_
        refine g_ic_eqT m190_606 (by decide) ?_
        refine g_iinc (x2 := (6 : Int32)) (L2 := [some (.ref 0), some (.ref 32), some (.ref 89), some (.int (6))]) m190_1428 rfl (by decide) rfl rfl ?_
        refine g_goto m190_1431 ?_
        refine g_iload_n m190_18 rfl ?_
        refine g_aload_n m190_19 rfl ?_
        refine g_alen (n := 6) m190_20 rfl (Or.inl rfl) rfl ?_
        refine g_bipush m190_21 ?_
        refine g_isub (u := (0 : Int32)) m190_23 (by decide) ?_
        refine g_ic_gtT m190_24 (by decide) ?_
        refine g_iconst m190_1434 ?_
        refine g_zret m190_1435 rfl (Or.inr rfl) ?_
        exact rfl
set_option maxRecDepth 20000 in
set_option maxHeartbeats 40000000 in
theorem lc_11 {s0 s1 s2 s3 s4 s5 : Int32} {d mc ms : Nat} : gw [s0, s1, s2, s3, s4, s5] (WP [s0, s1, s2, s3, s4, s5] (d + 20)) 190 (fun r _ => r = some (.int 1)) 611 [some (.ref 0), some (.ref 32), some (.ref 89), some (.int 0)] [] (hX0 ++ hM0) mc ms := by
  refine g_aload_n m190_611 rfl ?_
  refine g_aload_n m190_612 rfl ?_
  refine g_iload_n m190_613 rfl ?_
  refine g_iconst m190_614 ?_
  refine g_iadd (u := (1 : Int32)) m190_615 (by decide) ?_
  refine g_iald (x := s1) m190_616 rfl (vin rfl) rfl ?_
  refine g_cv (args := [.int _]) (rest := []) m190_617 (Nat.le_of_ble_eq_true rfl) rfl rfl rfl (Nat.le_of_ble_eq_true rfl) ?_
  refine wp_in (L := [some (.ref 32), some (.int _)]) (Nat.le_of_ble_eq_true rfl) rfl ?_
  refine g_iload_n m70_0 rfl ?_
  refine g_iconst m70_1 ?_
  refine g_ic_lt m70_2 (fun c1 => ?_) (fun c1 => ?_)
  · have d2 : (s1).toInt < 1 := (lt_k (by rfl) (by rfl)).mp c1
    refine g_aload_n m70_11 rfl ?_
    refine g_iconst m70_12 ?_
    refine g_cv (args := [.int (1)]) (rest := []) m70_13 (Nat.le_of_ble_eq_true rfl) rfl rfl rfl (Nat.le_of_ble_eq_true rfl) ?_
    refine wp_in (L := [some (.ref 32), some (.int (1))]) (Nat.le_of_ble_eq_true rfl) rfl ?_
    refine g_aload_n m55_0 rfl ?_
    refine g_gf m55_1 rfl rfl ?_
    refine g_iload_n m55_4 rfl ?_
    refine g_dup2 m55_5 rfl rfl ?_
    refine g_iald (x := (0 : Int32)) m55_6 rfl (vin rfl) rfl ?_
    refine g_iconst m55_7 ?_
    refine g_iadd (u := (1 : Int32)) m55_8 (by decide) ?_
    refine g_iast m55_9 (Nat.le_of_ble_eq_true rfl) rfl (vin rfl) rfl rfl rfl ?_
    refine g_ldcw m55_10 ?_
    refine g_iload_n m55_13 rfl ?_
    refine g_isub (u := (-1000000001 : Int32)) m55_14 (by decide) ?_
    refine g_iret m55_15 rfl ?_
    refine gwst (st' := [.int (-1000000001)]) rfl ?_
    refine g_iret m70_16 rfl ?_
    refine gwst (st' := [.int (-1000000001)]) rfl ?_
    refine FRg rfl (fun f => ?_)
    refine g_aload_n m190_620 rfl ?_
    refine g_aload_n m190_621 rfl ?_
    refine g_iload_n m190_622 rfl ?_
    refine g_iconst m190_623 ?_
    refine g_iadd (u := (1 : Int32)) m190_624 (by decide) ?_
    refine g_iald (x := s1) m190_625 rfl (vin rfl) rfl ?_
    refine g_cv (args := [.int _]) (rest := [.int (-1000000001)]) m190_626 (Nat.le_of_ble_eq_true rfl) rfl rfl rfl (Nat.le_of_ble_eq_true rfl) ?_
    refine wp_in (L := [some (.ref 89), some (.int _)]) (Nat.le_of_ble_eq_true rfl) rfl ?_
    refine g_iload_n m148_0 rfl ?_
    refine g_iconst m148_1 ?_
    refine g_bipush m148_2 ?_
    refine g_cs (args := [.int _, .int (1), .int (60)]) (rest := []) 0 (Or.inl rfl) m148_4 (Nat.le_of_ble_eq_true rfl) rfl rfl (Nat.le_of_ble_eq_true rfl) ?_
    refine wp_in (L := [some (.int _), some (.int (1)), some (.int (60))]) (Nat.le_of_ble_eq_true rfl) rfl ?_
    refine g_iload_n m107_0 rfl ?_
    refine g_iload_n m107_1 rfl ?_
    refine g_ic_ltT m107_2 ((lt_k (a := (s1).toInt) (b := 1) (by rfl) (by rfl)).mpr (by omega)) ?_
    refine g_iconst m107_14 ?_
    refine g_zret m107_15 rfl (Or.inl rfl) ?_
    refine gwst (st' := [.int (0)]) rfl ?_
    refine g_if_neT m148_7 (by decide) ?_
    refine g_aload_n m148_10 rfl ?_
    refine g_ldci m148_11 rfl ?_
    refine g_cv (args := [.int (-1000000001)]) (rest := []) m148_13 (Nat.le_of_ble_eq_true rfl) rfl rfl rfl (Nat.le_of_ble_eq_true rfl) ?_
    refine wp_in (L := [some (.ref 89), some (.int (-1000000001))]) (Nat.le_of_ble_eq_true rfl) rfl ?_
    refine g_aload_n m108_0 rfl ?_
    refine g_gf m108_1 rfl rfl ?_
    refine g_ldci m108_4 rfl ?_
    refine g_iload_n m108_6 rfl ?_
    refine g_isub (u := (1 : Int32)) m108_7 (by decide) ?_
    refine g_dup2 m108_8 rfl rfl ?_
    refine g_iald (x := (0 : Int32)) m108_9 rfl (vin rfl) rfl ?_
    refine g_iconst m108_10 ?_
    refine g_iadd (u := (1 : Int32)) m108_11 (by decide) ?_
    refine g_iast m108_12 (Nat.le_of_ble_eq_true rfl) rfl (vin rfl) rfl rfl rfl ?_
    refine g_iload_n m108_13 rfl ?_
    refine g_iret m108_14 rfl ?_
    refine gwst (st' := [.int (-1000000001)]) rfl ?_
    refine g_iret m148_16 rfl ?_
    refine gwst (st' := [.int (-1000000001), .int (-1000000001)]) rfl ?_
    refine g_ic_eqT m190_629 (by decide) ?_
    refine g_iinc (x2 := (6 : Int32)) (L2 := [some (.ref 0), some (.ref 32), some (.ref 89), some (.int (6))]) m190_1428 rfl (by decide) rfl rfl ?_
    refine g_goto m190_1431 ?_
    refine g_iload_n m190_18 rfl ?_
    refine g_aload_n m190_19 rfl ?_
    refine g_alen (n := 6) m190_20 rfl (Or.inl rfl) rfl ?_
    refine g_bipush m190_21 ?_
    refine g_isub (u := (0 : Int32)) m190_23 (by decide) ?_
    refine g_ic_gtT m190_24 (by decide) ?_
    refine g_iconst m190_1434 ?_
    refine g_zret m190_1435 rfl (Or.inr rfl) ?_
    exact rfl
  · have d2 : ¬ ((s1).toInt < 1) := fun q => c1 ((lt_k (by rfl) (by rfl)).mpr q)
    refine g_iload_n m70_5 rfl ?_
    refine g_bipush m70_6 ?_
    refine g_ic_le m70_8 (fun c3 => ?_) (fun c3 => ?_)
    · have d4 : (s1).toInt ≤ 60 := (le_k (by rfl) (by rfl)).mp c3
      refine g_aload_n m70_17 rfl ?_
      refine g_gf m70_18 rfl rfl ?_
      refine g_gf m70_21 rfl rfl ?_
      refine g_sipush m70_24 ?_
      refine g_iload_n m70_27 rfl ?_
      refine g_isub m70_28 rfl ?_
      have b5 : (((9999 : Int32) - s1)).toInt = (9999) - (s1).toInt := sub_k (by rfl) (by rfl) (by omega) (by omega)
      refine g_ic_leT m70_29 ((le_k (a := 0) (b := (((9999 : Int32) - s1)).toInt) (by rfl) (by rfl)).mpr (by omega)) ?_
      refine g_aload_n m70_38 rfl ?_
      refine g_gf m70_39 rfl rfl ?_
      refine g_iload_n m70_42 rfl ?_
      refine g_cv (args := [.int _]) (rest := []) m70_43 (Nat.le_of_ble_eq_true rfl) rfl rfl rfl (Nat.le_of_ble_eq_true rfl) ?_
      refine WPh (h' := hF 0 0 1 ++ hM0) (by decide +kernel) (c_goOn33 (by omega) (by omega) ?_)
      refine gwst (st' := []) rfl ?_
      refine g_aload_n m70_46 rfl ?_
      refine g_gf m70_47 rfl rfl ?_
      refine g_cv (args := []) (rest := []) m70_50 (Nat.le_of_ble_eq_true rfl) rfl rfl rfl (Nat.le_of_ble_eq_true rfl) ?_
      refine wp_in (L := [some (.ref 33), none, none]) (Nat.le_of_ble_eq_true rfl) rfl ?_
      refine g_iconst m45_0 ?_
      refine g_istore_n (L2 := [some (.ref 33), some (.int (0)), none]) m45_1 rfl rfl ?_
      refine g_iconst m45_2 ?_
      refine g_istore_n (L2 := [some (.ref 33), some (.int (0)), some (.int (0))]) m45_3 rfl rfl ?_
      refine g_iload_n m45_4 rfl ?_
      refine g_aload_n m45_5 rfl ?_
      refine g_gf m45_6 rfl rfl ?_
      refine g_ic_geT m45_9 (by decide) ?_
      refine g_iload_n m45_27 rfl ?_
      refine g_iret m45_28 rfl ?_
      refine gwst (st' := [.int (0)]) rfl ?_
      refine g_iret m70_53 rfl ?_
      refine gwst (st' := [.int (0)]) rfl ?_
      refine FRg rfl (fun f => ?_)
      refine g_aload_n m190_620 rfl ?_
      refine g_aload_n m190_621 rfl ?_
      refine g_iload_n m190_622 rfl ?_
      refine g_iconst m190_623 ?_
      refine g_iadd (u := (1 : Int32)) m190_624 (by decide) ?_
      refine g_iald (x := s1) m190_625 rfl (vin rfl) rfl ?_
      refine g_cv (args := [.int _]) (rest := [.int (0)]) m190_626 (Nat.le_of_ble_eq_true rfl) rfl rfl rfl (Nat.le_of_ble_eq_true rfl) ?_
      refine wp_in (L := [some (.ref 89), some (.int _)]) (Nat.le_of_ble_eq_true rfl) rfl ?_
      refine g_iload_n m148_0 rfl ?_
      refine g_iconst m148_1 ?_
      refine g_bipush m148_2 ?_
      refine g_cs (args := [.int _, .int (1), .int (60)]) (rest := []) 0 (Or.inl rfl) m148_4 (Nat.le_of_ble_eq_true rfl) rfl rfl (Nat.le_of_ble_eq_true rfl) ?_
      refine wp_in (L := [some (.int _), some (.int (1)), some (.int (60))]) (Nat.le_of_ble_eq_true rfl) rfl ?_
      refine g_iload_n m107_0 rfl ?_
      refine g_iload_n m107_1 rfl ?_
      refine g_ic_ltF m107_2 (fun q => absurd ((lt_k (a := (s1).toInt) (b := 1) (by rfl) (by rfl)).mp q) (by omega)) ?_
      refine g_iload_n m107_5 rfl ?_
      refine g_iload_n m107_6 rfl ?_
      refine g_ic_gtF m107_7 (fun q => absurd ((lt_k (a := 60) (b := (s1).toInt) (by rfl) (by rfl)).mp q) (by omega)) ?_
      refine g_iconst m107_10 ?_
      refine g_goto m107_11 ?_
      refine g_zret m107_15 rfl (Or.inr rfl) ?_
      refine gwst (st' := [.int (1)]) rfl ?_
      refine g_if_neF m148_7 (by decide) ?_
      refine g_aload_n m148_17 rfl ?_
      refine g_gf m148_18 rfl rfl ?_
      refine g_iconst m148_21 ?_
      refine g_iald (x := (0 : Int32)) m148_22 rfl (vin rfl) rfl ?_
      refine g_iload_n m148_23 rfl ?_
      refine g_iadd m148_24 rfl ?_
      have b6 : (((0 : Int32) + s1)).toInt = (0) + (s1).toInt := add_k (by rfl) (by rfl) (by omega) (by omega)
      refine g_sipush m148_25 ?_
      refine g_ic_leT m148_28 ((le_k (a := (((0 : Int32) + s1)).toInt) (b := 9999) (by rfl) (by rfl)).mpr (by omega)) ?_
      refine g_aload_n m148_38 rfl ?_
      refine g_iload_n m148_39 rfl ?_
      refine g_cv (args := [.int _]) (rest := []) m148_40 (Nat.le_of_ble_eq_true rfl) rfl rfl rfl (Nat.le_of_ble_eq_true rfl) ?_
      refine WPh (h' := pad f ++ hG 0 1 (.inl (0, List.replicate 234 0)) (.inl (0, List.replicate 234 0))) rfl (c_passes (by omega) (by omega) ?_)
      refine gwst (st' := []) rfl ?_
      refine g_aload_n m148_43 rfl ?_
      refine g_iconst m148_44 ?_
      refine g_cv (args := [.int (2)]) (rest := []) m148_45 (Nat.le_of_ble_eq_true rfl) rfl rfl rfl (Nat.le_of_ble_eq_true rfl) ?_
      refine wp_in (L := [some (.ref 89), some (.int (2)), none, none]) (Nat.le_of_ble_eq_true rfl) rfl ?_
      refine g_iconst m147_0 ?_
      refine g_istore_n (L2 := [some (.ref 89), some (.int (2)), some (.int (0)), none]) m147_1 rfl rfl ?_
      refine g_iconst m147_2 ?_
      refine g_istore_n (L2 := [some (.ref 89), some (.int (2)), some (.int (0)), some (.int (0))]) m147_3 rfl rfl ?_
      refine g_iload_n m147_4 rfl ?_
      refine g_aload_n m147_5 rfl ?_
      refine g_gf m147_6 rfl rfl ?_
      refine g_iconst m147_9 ?_
      refine g_iald (x := (0 : Int32)) m147_10 rfl (vin rfl) rfl ?_
      refine g_ic_geT m147_11 (by decide) ?_
      refine g_iload_n m147_29 rfl ?_
      refine g_iret m147_30 rfl ?_
      refine gwst (st' := [.int (0)]) rfl ?_
      refine g_iret m148_48 rfl ?_
      refine gwst (st' := [.int (0), .int (0)]) rfl ?_
      refine g_ic_eqT m190_629 (by decide) ?_
      refine g_iinc (x2 := (6 : Int32)) (L2 := [some (.ref 0), some (.ref 32), some (.ref 89), some (.int (6))]) m190_1428 rfl (by decide) rfl rfl ?_
      refine g_goto m190_1431 ?_
      refine g_iload_n m190_18 rfl ?_
      refine g_aload_n m190_19 rfl ?_
      refine g_alen (n := 6) m190_20 rfl (Or.inl rfl) rfl ?_
      refine g_bipush m190_21 ?_
      refine g_isub (u := (0 : Int32)) m190_23 (by decide) ?_
      refine g_ic_gtT m190_24 (by decide) ?_
      refine g_iconst m190_1434 ?_
      refine g_zret m190_1435 rfl (Or.inr rfl) ?_
      exact rfl
    · have d4 : ¬ ((s1).toInt ≤ 60) := fun q => c3 ((le_k (by rfl) (by rfl)).mpr q)
      refine g_aload_n m70_11 rfl ?_
      refine g_iconst m70_12 ?_
      refine g_cv (args := [.int (1)]) (rest := []) m70_13 (Nat.le_of_ble_eq_true rfl) rfl rfl rfl (Nat.le_of_ble_eq_true rfl) ?_
      refine wp_in (L := [some (.ref 32), some (.int (1))]) (Nat.le_of_ble_eq_true rfl) rfl ?_
      refine g_aload_n m55_0 rfl ?_
      refine g_gf m55_1 rfl rfl ?_
      refine g_iload_n m55_4 rfl ?_
      refine g_dup2 m55_5 rfl rfl ?_
      refine g_iald (x := (0 : Int32)) m55_6 rfl (vin rfl) rfl ?_
      refine g_iconst m55_7 ?_
      refine g_iadd (u := (1 : Int32)) m55_8 (by decide) ?_
      refine g_iast m55_9 (Nat.le_of_ble_eq_true rfl) rfl (vin rfl) rfl rfl rfl ?_
      refine g_ldcw m55_10 ?_
      refine g_iload_n m55_13 rfl ?_
      refine g_isub (u := (-1000000001 : Int32)) m55_14 (by decide) ?_
      refine g_iret m55_15 rfl ?_
      refine gwst (st' := [.int (-1000000001)]) rfl ?_
      refine g_iret m70_16 rfl ?_
      refine gwst (st' := [.int (-1000000001)]) rfl ?_
      refine FRg rfl (fun f => ?_)
      refine g_aload_n m190_620 rfl ?_
      refine g_aload_n m190_621 rfl ?_
      refine g_iload_n m190_622 rfl ?_
      refine g_iconst m190_623 ?_
      refine g_iadd (u := (1 : Int32)) m190_624 (by decide) ?_
      refine g_iald (x := s1) m190_625 rfl (vin rfl) rfl ?_
      refine g_cv (args := [.int _]) (rest := [.int (-1000000001)]) m190_626 (Nat.le_of_ble_eq_true rfl) rfl rfl rfl (Nat.le_of_ble_eq_true rfl) ?_
      refine wp_in (L := [some (.ref 89), some (.int _)]) (Nat.le_of_ble_eq_true rfl) rfl ?_
      refine g_iload_n m148_0 rfl ?_
      refine g_iconst m148_1 ?_
      refine g_bipush m148_2 ?_
      refine g_cs (args := [.int _, .int (1), .int (60)]) (rest := []) 0 (Or.inl rfl) m148_4 (Nat.le_of_ble_eq_true rfl) rfl rfl (Nat.le_of_ble_eq_true rfl) ?_
      refine wp_in (L := [some (.int _), some (.int (1)), some (.int (60))]) (Nat.le_of_ble_eq_true rfl) rfl ?_
      refine g_iload_n m107_0 rfl ?_
      refine g_iload_n m107_1 rfl ?_
      refine g_ic_ltF m107_2 (fun q => absurd ((lt_k (a := (s1).toInt) (b := 1) (by rfl) (by rfl)).mp q) (by omega)) ?_
      refine g_iload_n m107_5 rfl ?_
      refine g_iload_n m107_6 rfl ?_
      refine g_ic_gtT m107_7 ((lt_k (a := 60) (b := (s1).toInt) (by rfl) (by rfl)).mpr (by omega)) ?_
      refine g_iconst m107_14 ?_
      refine g_zret m107_15 rfl (Or.inl rfl) ?_
      refine gwst (st' := [.int (0)]) rfl ?_
      refine g_if_neT m148_7 (by decide) ?_
      refine g_aload_n m148_10 rfl ?_
      refine g_ldci m148_11 rfl ?_
      refine g_cv (args := [.int (-1000000001)]) (rest := []) m148_13 (Nat.le_of_ble_eq_true rfl) rfl rfl rfl (Nat.le_of_ble_eq_true rfl) ?_
      refine wp_in (L := [some (.ref 89), some (.int (-1000000001))]) (Nat.le_of_ble_eq_true rfl) rfl ?_
      refine g_aload_n m108_0 rfl ?_
      refine g_gf m108_1 rfl rfl ?_
      refine g_ldci m108_4 rfl ?_
      refine g_iload_n m108_6 rfl ?_
      refine g_isub (u := (1 : Int32)) m108_7 (by decide) ?_
      refine g_dup2 m108_8 rfl rfl ?_
      refine g_iald (x := (0 : Int32)) m108_9 rfl (vin rfl) rfl ?_
      refine g_iconst m108_10 ?_
      refine g_iadd (u := (1 : Int32)) m108_11 (by decide) ?_
      refine g_iast m108_12 (Nat.le_of_ble_eq_true rfl) rfl (vin rfl) rfl rfl rfl ?_
      refine g_iload_n m108_13 rfl ?_
      refine g_iret m108_14 rfl ?_
      refine gwst (st' := [.int (-1000000001)]) rfl ?_
      refine g_iret m148_16 rfl ?_
      refine gwst (st' := [.int (-1000000001), .int (-1000000001)]) rfl ?_
      refine g_ic_eqT m190_629 (by decide) ?_
      refine g_iinc (x2 := (6 : Int32)) (L2 := [some (.ref 0), some (.ref 32), some (.ref 89), some (.int (6))]) m190_1428 rfl (by decide) rfl rfl ?_
      refine g_goto m190_1431 ?_
      refine g_iload_n m190_18 rfl ?_
      refine g_aload_n m190_19 rfl ?_
      refine g_alen (n := 6) m190_20 rfl (Or.inl rfl) rfl ?_
      refine g_bipush m190_21 ?_
      refine g_isub (u := (0 : Int32)) m190_23 (by decide) ?_
      refine g_ic_gtT m190_24 (by decide) ?_
      refine g_iconst m190_1434 ?_
      refine g_zret m190_1435 rfl (Or.inr rfl) ?_
      exact rfl
set_option maxRecDepth 20000 in
set_option maxHeartbeats 40000000 in
theorem lc_12 {s0 s1 s2 s3 s4 s5 : Int32} {d mc ms : Nat} : gw [s0, s1, s2, s3, s4, s5] (WP [s0, s1, s2, s3, s4, s5] (d + 20)) 190 (fun r _ => r = some (.int 1)) 634 [some (.ref 0), some (.ref 32), some (.ref 89), some (.int 0)] [] (hX0 ++ hM0) mc ms := by
  refine g_aload_n m190_634 rfl ?_
  refine g_aload_n m190_635 rfl ?_
  refine g_iload_n m190_636 rfl ?_
  refine g_iconst m190_637 ?_
  refine g_iadd (u := (1 : Int32)) m190_638 (by decide) ?_
  refine g_iald (x := s1) m190_639 rfl (vin rfl) rfl ?_
  refine g_cv (args := [.int _]) (rest := []) m190_640 (Nat.le_of_ble_eq_true rfl) rfl rfl rfl (Nat.le_of_ble_eq_true rfl) ?_
  refine wp_in (L := [some (.ref 32), some (.int _), none]) (Nat.le_of_ble_eq_true rfl) rfl ?_
  refine g_iload_n m72_0 rfl ?_
  refine g_iconst m72_1 ?_
  refine g_ic_lt m72_2 (fun c1 => ?_) (fun c1 => ?_)
  · have d2 : (s1).toInt < 1 := (lt_k (by rfl) (by rfl)).mp c1
    refine g_aload_n m72_11 rfl ?_
    refine g_iconst m72_12 ?_
    refine g_cv (args := [.int (1)]) (rest := []) m72_13 (Nat.le_of_ble_eq_true rfl) rfl rfl rfl (Nat.le_of_ble_eq_true rfl) ?_
    refine wp_in (L := [some (.ref 32), some (.int (1))]) (Nat.le_of_ble_eq_true rfl) rfl ?_
    refine g_aload_n m55_0 rfl ?_
    refine g_gf m55_1 rfl rfl ?_
    refine g_iload_n m55_4 rfl ?_
    refine g_dup2 m55_5 rfl rfl ?_
    refine g_iald (x := (0 : Int32)) m55_6 rfl (vin rfl) rfl ?_
    refine g_iconst m55_7 ?_
    refine g_iadd (u := (1 : Int32)) m55_8 (by decide) ?_
    refine g_iast m55_9 (Nat.le_of_ble_eq_true rfl) rfl (vin rfl) rfl rfl rfl ?_
    refine g_ldcw m55_10 ?_
    refine g_iload_n m55_13 rfl ?_
    refine g_isub (u := (-1000000001 : Int32)) m55_14 (by decide) ?_
    refine g_iret m55_15 rfl ?_
    refine gwst (st' := [.int (-1000000001)]) rfl ?_
    refine g_iret m72_16 rfl ?_
    refine gwst (st' := [.int (-1000000001)]) rfl ?_
    refine FRg rfl (fun f => ?_)
    refine g_aload_n m190_643 rfl ?_
    refine g_aload_n m190_644 rfl ?_
    refine g_iload_n m190_645 rfl ?_
    refine g_iconst m190_646 ?_
    refine g_iadd (u := (1 : Int32)) m190_647 (by decide) ?_
    refine g_iald (x := s1) m190_648 rfl (vin rfl) rfl ?_
    refine g_cv (args := [.int _]) (rest := [.int (-1000000001)]) m190_649 (Nat.le_of_ble_eq_true rfl) rfl rfl rfl (Nat.le_of_ble_eq_true rfl) ?_
    refine wp_in (L := [some (.ref 89), some (.int _), none, none]) (Nat.le_of_ble_eq_true rfl) rfl ?_
    refine g_iload_n m150_0 rfl ?_
    refine g_iconst m150_1 ?_
    refine g_bipush m150_2 ?_
    refine g_cs (args := [.int _, .int (1), .int (40)]) (rest := []) 0 (Or.inl rfl) m150_4 (Nat.le_of_ble_eq_true rfl) rfl rfl (Nat.le_of_ble_eq_true rfl) ?_
    refine wp_in (L := [some (.int _), some (.int (1)), some (.int (40))]) (Nat.le_of_ble_eq_true rfl) rfl ?_
    refine g_iload_n m107_0 rfl ?_
    refine g_iload_n m107_1 rfl ?_
    refine g_ic_ltT m107_2 ((lt_k (a := (s1).toInt) (b := 1) (by rfl) (by rfl)).mpr (by omega)) ?_
    refine g_iconst m107_14 ?_
    refine g_zret m107_15 rfl (Or.inl rfl) ?_
    refine gwst (st' := [.int (0)]) rfl ?_
    refine g_if_neT m150_7 (by decide) ?_
    refine g_aload_n m150_10 rfl ?_
    refine g_ldci m150_11 rfl ?_
    refine g_cv (args := [.int (-1000000001)]) (rest := []) m150_13 (Nat.le_of_ble_eq_true rfl) rfl rfl rfl (Nat.le_of_ble_eq_true rfl) ?_
    refine wp_in (L := [some (.ref 89), some (.int (-1000000001))]) (Nat.le_of_ble_eq_true rfl) rfl ?_
    refine g_aload_n m108_0 rfl ?_
    refine g_gf m108_1 rfl rfl ?_
    refine g_ldci m108_4 rfl ?_
    refine g_iload_n m108_6 rfl ?_
    refine g_isub (u := (1 : Int32)) m108_7 (by decide) ?_
    refine g_dup2 m108_8 rfl rfl ?_
    refine g_iald (x := (0 : Int32)) m108_9 rfl (vin rfl) rfl ?_
    refine g_iconst m108_10 ?_
    refine g_iadd (u := (1 : Int32)) m108_11 (by decide) ?_
    refine g_iast m108_12 (Nat.le_of_ble_eq_true rfl) rfl (vin rfl) rfl rfl rfl ?_
    refine g_iload_n m108_13 rfl ?_
    refine g_iret m108_14 rfl ?_
    refine gwst (st' := [.int (-1000000001)]) rfl ?_
    refine g_iret m150_16 rfl ?_
    refine gwst (st' := [.int (-1000000001), .int (-1000000001)]) rfl ?_
    refine g_ic_eqT m190_652 (by decide) ?_
    refine g_iinc (x2 := (6 : Int32)) (L2 := [some (.ref 0), some (.ref 32), some (.ref 89), some (.int (6))]) m190_1428 rfl (by decide) rfl rfl ?_
    refine g_goto m190_1431 ?_
    refine g_iload_n m190_18 rfl ?_
    refine g_aload_n m190_19 rfl ?_
    refine g_alen (n := 6) m190_20 rfl (Or.inl rfl) rfl ?_
    refine g_bipush m190_21 ?_
    refine g_isub (u := (0 : Int32)) m190_23 (by decide) ?_
    refine g_ic_gtT m190_24 (by decide) ?_
    refine g_iconst m190_1434 ?_
    refine g_zret m190_1435 rfl (Or.inr rfl) ?_
    exact rfl
  · have d2 : ¬ ((s1).toInt < 1) := fun q => c1 ((lt_k (by rfl) (by rfl)).mpr q)
    refine g_iload_n m72_5 rfl ?_
    refine g_bipush m72_6 ?_
    refine g_ic_le m72_8 (fun c3 => ?_) (fun c3 => ?_)
    · have d4 : (s1).toInt ≤ 40 := (le_k (by rfl) (by rfl)).mp c3
      refine g_aload_n m72_17 rfl ?_
      refine g_gf m72_18 rfl rfl ?_
      refine g_gf m72_21 rfl rfl ?_
      refine g_sipush m72_24 ?_
      refine g_iload_n m72_27 rfl ?_
      refine g_isub m72_28 rfl ?_
      have b5 : (((9999 : Int32) - s1)).toInt = (9999) - (s1).toInt := sub_k (by rfl) (by rfl) (by omega) (by omega)
      refine g_ic_leT m72_29 ((le_k (a := 0) (b := (((9999 : Int32) - s1)).toInt) (by rfl) (by rfl)).mpr (by omega)) ?_
      refine g_iconst m72_38 ?_
      refine g_istore_n (L2 := [some (.ref 32), some (.int _), some (.int (0))]) m72_39 rfl rfl ?_
      refine gwh (h' := hF 0 0 1 ++ hM0) (by decide +kernel) ?_
      refine g_loose (by omega) (by omega) (fun z6 => ?_)
      refine g_aload_n m72_63 rfl ?_
      refine g_gf m72_64 rfl rfl ?_
      refine g_cv (args := []) (rest := []) m72_67 (Nat.le_of_ble_eq_true rfl) rfl rfl rfl (Nat.le_of_ble_eq_true rfl) ?_
      refine wp_in (L := [some (.ref 33), none, none]) (Nat.le_of_ble_eq_true rfl) rfl ?_
      refine g_iconst m45_0 ?_
      refine g_istore_n (L2 := [some (.ref 33), some (.int (0)), none]) m45_1 rfl rfl ?_
      refine g_iconst m45_2 ?_
      refine g_istore_n (L2 := [some (.ref 33), some (.int (0)), some (.int (0))]) m45_3 rfl rfl ?_
      refine g_iload_n m45_4 rfl ?_
      refine g_aload_n m45_5 rfl ?_
      refine g_gf m45_6 rfl rfl ?_
      refine g_ic_geT m45_9 (by decide) ?_
      refine g_iload_n m45_27 rfl ?_
      refine g_iret m45_28 rfl ?_
      refine gwst (st' := [.int (0)]) rfl ?_
      refine g_iret m72_70 rfl ?_
      refine gwst (st' := [.int (0)]) rfl ?_
      refine FRg rfl (fun f => ?_)
      refine g_aload_n m190_643 rfl ?_
      refine g_aload_n m190_644 rfl ?_
      refine g_iload_n m190_645 rfl ?_
      refine g_iconst m190_646 ?_
      refine g_iadd (u := (1 : Int32)) m190_647 (by decide) ?_
      refine g_iald (x := s1) m190_648 rfl (vin rfl) rfl ?_
      refine g_cv (args := [.int _]) (rest := [.int (0)]) m190_649 (Nat.le_of_ble_eq_true rfl) rfl rfl rfl (Nat.le_of_ble_eq_true rfl) ?_
      refine wp_in (L := [some (.ref 89), some (.int _), none, none]) (Nat.le_of_ble_eq_true rfl) rfl ?_
      refine g_iload_n m150_0 rfl ?_
      refine g_iconst m150_1 ?_
      refine g_bipush m150_2 ?_
      refine g_cs (args := [.int _, .int (1), .int (40)]) (rest := []) 0 (Or.inl rfl) m150_4 (Nat.le_of_ble_eq_true rfl) rfl rfl (Nat.le_of_ble_eq_true rfl) ?_
      refine wp_in (L := [some (.int _), some (.int (1)), some (.int (40))]) (Nat.le_of_ble_eq_true rfl) rfl ?_
      refine g_iload_n m107_0 rfl ?_
      refine g_iload_n m107_1 rfl ?_
      refine g_ic_ltF m107_2 (fun q => absurd ((lt_k (a := (s1).toInt) (b := 1) (by rfl) (by rfl)).mp q) (by omega)) ?_
      refine g_iload_n m107_5 rfl ?_
      refine g_iload_n m107_6 rfl ?_
      refine g_ic_gtF m107_7 (fun q => absurd ((lt_k (a := 40) (b := (s1).toInt) (by rfl) (by rfl)).mp q) (by omega)) ?_
      refine g_iconst m107_10 ?_
      refine g_goto m107_11 ?_
      refine g_zret m107_15 rfl (Or.inr rfl) ?_
      refine gwst (st' := [.int (1)]) rfl ?_
      refine g_if_neF m150_7 (by decide) ?_
      refine g_aload_n m150_17 rfl ?_
      refine g_gf m150_18 rfl rfl ?_
      refine g_iconst m150_21 ?_
      refine g_iald (x := (0 : Int32)) m150_22 rfl (vin rfl) rfl ?_
      refine g_iload_n m150_23 rfl ?_
      refine g_iadd m150_24 rfl ?_
      have b7 : (((0 : Int32) + s1)).toInt = (0) + (s1).toInt := add_k (by rfl) (by rfl) (by omega) (by omega)
      refine g_sipush m150_25 ?_
      refine g_ic_leT m150_28 ((le_k (a := (((0 : Int32) + s1)).toInt) (b := 9999) (by rfl) (by rfl)).mpr (by omega)) ?_
      refine g_iconst m150_38 ?_
      refine g_istore_n (L2 := [some (.ref 89), some (.int _), some (.int (0)), none]) m150_39 rfl rfl ?_
      refine gwh (h' := pad f ++ hG 0 1 (.inl (0, List.replicate 234 0)) (.inl (0, List.replicate 234 0))) rfl ?_
      refine g_looseM (by omega) (by omega) (fun z8 o9 => ?_)
      refine g_aload_n m150_89 rfl ?_
      refine g_iconst m150_90 ?_
      refine g_cv (args := [.int (2)]) (rest := []) m150_91 (Nat.le_of_ble_eq_true rfl) rfl rfl rfl (Nat.le_of_ble_eq_true rfl) ?_
      refine wp_in (L := [some (.ref 89), some (.int (2)), none, none]) (Nat.le_of_ble_eq_true rfl) rfl ?_
      refine g_iconst m147_0 ?_
      refine g_istore_n (L2 := [some (.ref 89), some (.int (2)), some (.int (0)), none]) m147_1 rfl rfl ?_
      refine g_iconst m147_2 ?_
      refine g_istore_n (L2 := [some (.ref 89), some (.int (2)), some (.int (0)), some (.int (0))]) m147_3 rfl rfl ?_
      refine g_iload_n m147_4 rfl ?_
      refine g_aload_n m147_5 rfl ?_
      refine g_gf m147_6 rfl rfl ?_
      refine g_iconst m147_9 ?_
      refine g_iald (x := (0 : Int32)) m147_10 rfl (vin rfl) rfl ?_
      refine g_ic_geT m147_11 (by decide) ?_
      refine g_iload_n m147_29 rfl ?_
      refine g_iret m147_30 rfl ?_
      refine gwst (st' := [.int (0)]) rfl ?_
      refine g_iret m150_94 rfl ?_
      refine gwst (st' := [.int (0), .int (0)]) rfl ?_
      refine g_ic_eqT m190_652 (by decide) ?_
      refine g_iinc (x2 := (6 : Int32)) (L2 := [some (.ref 0), some (.ref 32), some (.ref 89), some (.int (6))]) m190_1428 rfl (by decide) rfl rfl ?_
      refine g_goto m190_1431 ?_
      refine g_iload_n m190_18 rfl ?_
      refine g_aload_n m190_19 rfl ?_
      refine g_alen (n := 6) m190_20 rfl (Or.inl rfl) rfl ?_
      refine g_bipush m190_21 ?_
      refine g_isub (u := (0 : Int32)) m190_23 (by decide) ?_
      refine g_ic_gtT m190_24 (by decide) ?_
      refine g_iconst m190_1434 ?_
      refine g_zret m190_1435 rfl (Or.inr rfl) ?_
      exact rfl
    · have d4 : ¬ ((s1).toInt ≤ 40) := fun q => c3 ((le_k (by rfl) (by rfl)).mpr q)
      refine g_aload_n m72_11 rfl ?_
      refine g_iconst m72_12 ?_
      refine g_cv (args := [.int (1)]) (rest := []) m72_13 (Nat.le_of_ble_eq_true rfl) rfl rfl rfl (Nat.le_of_ble_eq_true rfl) ?_
      refine wp_in (L := [some (.ref 32), some (.int (1))]) (Nat.le_of_ble_eq_true rfl) rfl ?_
      refine g_aload_n m55_0 rfl ?_
      refine g_gf m55_1 rfl rfl ?_
      refine g_iload_n m55_4 rfl ?_
      refine g_dup2 m55_5 rfl rfl ?_
      refine g_iald (x := (0 : Int32)) m55_6 rfl (vin rfl) rfl ?_
      refine g_iconst m55_7 ?_
      refine g_iadd (u := (1 : Int32)) m55_8 (by decide) ?_
      refine g_iast m55_9 (Nat.le_of_ble_eq_true rfl) rfl (vin rfl) rfl rfl rfl ?_
      refine g_ldcw m55_10 ?_
      refine g_iload_n m55_13 rfl ?_
      refine g_isub (u := (-1000000001 : Int32)) m55_14 (by decide) ?_
      refine g_iret m55_15 rfl ?_
      refine gwst (st' := [.int (-1000000001)]) rfl ?_
      refine g_iret m72_16 rfl ?_
      refine gwst (st' := [.int (-1000000001)]) rfl ?_
      refine FRg rfl (fun f => ?_)
      refine g_aload_n m190_643 rfl ?_
      refine g_aload_n m190_644 rfl ?_
      refine g_iload_n m190_645 rfl ?_
      refine g_iconst m190_646 ?_
      refine g_iadd (u := (1 : Int32)) m190_647 (by decide) ?_
      refine g_iald (x := s1) m190_648 rfl (vin rfl) rfl ?_
      refine g_cv (args := [.int _]) (rest := [.int (-1000000001)]) m190_649 (Nat.le_of_ble_eq_true rfl) rfl rfl rfl (Nat.le_of_ble_eq_true rfl) ?_
      refine wp_in (L := [some (.ref 89), some (.int _), none, none]) (Nat.le_of_ble_eq_true rfl) rfl ?_
      refine g_iload_n m150_0 rfl ?_
      refine g_iconst m150_1 ?_
      refine g_bipush m150_2 ?_
      refine g_cs (args := [.int _, .int (1), .int (40)]) (rest := []) 0 (Or.inl rfl) m150_4 (Nat.le_of_ble_eq_true rfl) rfl rfl (Nat.le_of_ble_eq_true rfl) ?_
      refine wp_in (L := [some (.int _), some (.int (1)), some (.int (40))]) (Nat.le_of_ble_eq_true rfl) rfl ?_
      refine g_iload_n m107_0 rfl ?_
      refine g_iload_n m107_1 rfl ?_
      refine g_ic_ltF m107_2 (fun q => absurd ((lt_k (a := (s1).toInt) (b := 1) (by rfl) (by rfl)).mp q) (by omega)) ?_
      refine g_iload_n m107_5 rfl ?_
      refine g_iload_n m107_6 rfl ?_
      refine g_ic_gtT m107_7 ((lt_k (a := 40) (b := (s1).toInt) (by rfl) (by rfl)).mpr (by omega)) ?_
      refine g_iconst m107_14 ?_
      refine g_zret m107_15 rfl (Or.inl rfl) ?_
      refine gwst (st' := [.int (0)]) rfl ?_
      refine g_if_neT m150_7 (by decide) ?_
      refine g_aload_n m150_10 rfl ?_
      refine g_ldci m150_11 rfl ?_
      refine g_cv (args := [.int (-1000000001)]) (rest := []) m150_13 (Nat.le_of_ble_eq_true rfl) rfl rfl rfl (Nat.le_of_ble_eq_true rfl) ?_
      refine wp_in (L := [some (.ref 89), some (.int (-1000000001))]) (Nat.le_of_ble_eq_true rfl) rfl ?_
      refine g_aload_n m108_0 rfl ?_
      refine g_gf m108_1 rfl rfl ?_
      refine g_ldci m108_4 rfl ?_
      refine g_iload_n m108_6 rfl ?_
      refine g_isub (u := (1 : Int32)) m108_7 (by decide) ?_
      refine g_dup2 m108_8 rfl rfl ?_
      refine g_iald (x := (0 : Int32)) m108_9 rfl (vin rfl) rfl ?_
      refine g_iconst m108_10 ?_
      refine g_iadd (u := (1 : Int32)) m108_11 (by decide) ?_
      refine g_iast m108_12 (Nat.le_of_ble_eq_true rfl) rfl (vin rfl) rfl rfl rfl ?_
      refine g_iload_n m108_13 rfl ?_
      refine g_iret m108_14 rfl ?_
      refine gwst (st' := [.int (-1000000001)]) rfl ?_
      refine g_iret m150_16 rfl ?_
      refine gwst (st' := [.int (-1000000001), .int (-1000000001)]) rfl ?_
      refine g_ic_eqT m190_652 (by decide) ?_
      refine g_iinc (x2 := (6 : Int32)) (L2 := [some (.ref 0), some (.ref 32), some (.ref 89), some (.int (6))]) m190_1428 rfl (by decide) rfl rfl ?_
      refine g_goto m190_1431 ?_
      refine g_iload_n m190_18 rfl ?_
      refine g_aload_n m190_19 rfl ?_
      refine g_alen (n := 6) m190_20 rfl (Or.inl rfl) rfl ?_
      refine g_bipush m190_21 ?_
      refine g_isub (u := (0 : Int32)) m190_23 (by decide) ?_
      refine g_ic_gtT m190_24 (by decide) ?_
      refine g_iconst m190_1434 ?_
      refine g_zret m190_1435 rfl (Or.inr rfl) ?_
      exact rfl
set_option maxRecDepth 20000 in
set_option maxHeartbeats 40000000 in
theorem lc_13 {s0 s1 s2 s3 s4 s5 : Int32} {d mc ms : Nat} : gw [s0, s1, s2, s3, s4, s5] (WP [s0, s1, s2, s3, s4, s5] (d + 20)) 190 (fun r _ => r = some (.int 1)) 657 [some (.ref 0), some (.ref 32), some (.ref 89), some (.int 0)] [] (hX0 ++ hM0) mc ms := by
  refine g_aload_n m190_657 rfl ?_
  refine g_cv (args := []) (rest := []) m190_658 (Nat.le_of_ble_eq_true rfl) rfl rfl rfl (Nat.le_of_ble_eq_true rfl) ?_
  refine wp_in (L := [some (.ref 32)]) (Nat.le_of_ble_eq_true rfl) rfl ?_
  refine g_aload_n m73_0 rfl ?_
  refine g_gf m73_1 rfl rfl ?_
  refine g_cv (args := []) (rest := []) m73_4 (Nat.le_of_ble_eq_true rfl) rfl rfl rfl (Nat.le_of_ble_eq_true rfl) ?_
  refine wp_in (L := [some (.ref 33), none]) (Nat.le_of_ble_eq_true rfl) rfl ?_
  refine g_iconst m36_0 ?_
  refine g_istore_n (L2 := [some (.ref 33), some (.int (0))]) m36_1 rfl rfl ?_
  refine g_iload_n m36_2 rfl ?_
  refine g_aload_n m36_3 rfl ?_
  refine g_gf m36_4 rfl rfl ?_
  refine g_ic_geT m36_7 (by decide) ?_
  refine g_vret m36_27 ?_
  refine gwst (st' := []) rfl ?_
  refine g_aload_n m73_7 rfl ?_
  refine g_gf m73_8 rfl rfl ?_
  refine g_cv (args := []) (rest := []) m73_11 (Nat.le_of_ble_eq_true rfl) rfl rfl rfl (Nat.le_of_ble_eq_true rfl) ?_
  refine wp_in (L := [some (.ref 33), none, none]) (Nat.le_of_ble_eq_true rfl) rfl ?_
  refine g_iconst m38_0 ?_
  refine g_istore_n (L2 := [some (.ref 33), some (.int (0)), none]) m38_1 rfl rfl ?_
  refine g_iconst m38_2 ?_
  refine g_istore_n (L2 := [some (.ref 33), some (.int (0)), some (.int (0))]) m38_3 rfl rfl ?_
  refine g_iload_n m38_4 rfl ?_
  refine g_aload_n m38_5 rfl ?_
  refine g_gf m38_6 rfl rfl ?_
  refine g_ic_geT m38_9 (by decide) ?_
  refine g_iload_n m38_45 rfl ?_
  refine g_iret m38_46 rfl ?_
  refine gwst (st' := [.int (0)]) rfl ?_
  refine g_iret m73_14 rfl ?_
  refine gwst (st' := [.int (0)]) rfl ?_
  refine FRg rfl (fun f => ?_)
  refine g_aload_n m190_661 rfl ?_
  refine g_cv (args := []) (rest := [.int (0)]) m190_662 (Nat.le_of_ble_eq_true rfl) rfl rfl rfl (Nat.le_of_ble_eq_true rfl) ?_
  refine wp_in (L := [some (.ref 89)]) (Nat.le_of_ble_eq_true rfl) rfl ?_
  refine g_aload_n m151_0 rfl ?_
  refine g_cv (args := []) (rest := []) m151_1 (Nat.le_of_ble_eq_true rfl) rfl rfl rfl (Nat.le_of_ble_eq_true rfl) ?_
  refine wp_in (L := [some (.ref 89), none, none]) (Nat.le_of_ble_eq_true rfl) rfl ?_
  refine g_iconst m143_0 ?_
  refine g_istore_n (L2 := [some (.ref 89), some (.int (0)), none]) m143_1 rfl rfl ?_
  refine g_iconst m143_2 ?_
  refine g_istore_n (L2 := [some (.ref 89), some (.int (0)), some (.int (0))]) m143_3 rfl rfl ?_
  refine g_iload_n m143_4 rfl ?_
  refine g_aload_n m143_5 rfl ?_
  refine g_gf m143_6 rfl rfl ?_
  refine g_iconst m143_9 ?_
  refine g_iald (x := (0 : Int32)) m143_10 rfl (vin rfl) rfl ?_
  refine g_ic_geT m143_11 (by decide) ?_
  refine g_iload_n m143_54 rfl ?_
  refine g_iret m143_55 rfl ?_
  refine gwst (st' := [.int (0)]) rfl ?_
  refine g_iret m151_4 rfl ?_
  refine gwst (st' := [.int (0), .int (0)]) rfl ?_
  refine g_ic_eqT m190_665 (by decide) ?_
  refine g_iinc (x2 := (6 : Int32)) (L2 := [some (.ref 0), some (.ref 32), some (.ref 89), some (.int (6))]) m190_1428 rfl (by decide) rfl rfl ?_
  refine g_goto m190_1431 ?_
  refine g_iload_n m190_18 rfl ?_
  refine g_aload_n m190_19 rfl ?_
  refine g_alen (n := 6) m190_20 rfl (Or.inl rfl) rfl ?_
  refine g_bipush m190_21 ?_
  refine g_isub (u := (0 : Int32)) m190_23 (by decide) ?_
  refine g_ic_gtT m190_24 (by decide) ?_
  refine g_iconst m190_1434 ?_
  refine g_zret m190_1435 rfl (Or.inr rfl) ?_
  exact rfl
set_option maxRecDepth 20000 in
set_option maxHeartbeats 40000000 in
theorem lc_14 {s0 s1 s2 s3 s4 s5 : Int32} {d mc ms : Nat} : gw [s0, s1, s2, s3, s4, s5] (WP [s0, s1, s2, s3, s4, s5] (d + 20)) 190 (fun r _ => r = some (.int 1)) 670 [some (.ref 0), some (.ref 32), some (.ref 89), some (.int 0)] [] (hX0 ++ hM0) mc ms := by
  refine g_aload_n m190_670 rfl ?_
  refine g_aload_n m190_671 rfl ?_
  refine g_iload_n m190_672 rfl ?_
  refine g_iconst m190_673 ?_
  refine g_iadd (u := (1 : Int32)) m190_674 (by decide) ?_
  refine g_iald (x := s1) m190_675 rfl (vin rfl) rfl ?_
  refine g_aload_n m190_676 rfl ?_
  refine g_iload_n m190_677 rfl ?_
  refine g_iconst m190_678 ?_
  refine g_iadd (u := (2 : Int32)) m190_679 (by decide) ?_
  refine g_iald (x := s2) m190_680 rfl (vin rfl) rfl ?_
  refine g_aload_n m190_681 rfl ?_
  refine g_iload_n m190_682 rfl ?_
  refine g_iconst m190_683 ?_
  refine g_iadd (u := (3 : Int32)) m190_684 (by decide) ?_
  refine g_iald (x := s3) m190_685 rfl (vin rfl) rfl ?_
  refine g_cv (args := [.int _, .int _, .int _]) (rest := []) m190_686 (Nat.le_of_ble_eq_true rfl) rfl rfl rfl (Nat.le_of_ble_eq_true rfl) ?_
  refine wp_in (L := [some (.ref 32), some (.int _), some (.int _), some (.int _), none]) (Nat.le_of_ble_eq_true rfl) rfl ?_
  refine g_iload_n m75_0 rfl ?_
  refine g_bipush m75_1 ?_
  refine g_cs (args := [.int _, .int (60)]) (rest := []) 0 (Or.inl rfl) m75_3 (Nat.le_of_ble_eq_true rfl) rfl rfl (Nat.le_of_ble_eq_true rfl) ?_
  refine wp_in (L := [some (.int _), some (.int (60))]) (Nat.le_of_ble_eq_true rfl) rfl ?_
  refine g_iload_n m54_0 rfl ?_
  refine g_if_lt m54_1 (fun c1 => ?_) (fun c1 => ?_)
  · have d2 : (s1).toInt < 0 := (lt_k (by rfl) (by rfl)).mp c1
    refine g_iconst m54_13 ?_
    refine g_zret m54_14 rfl (Or.inl rfl) ?_
    refine gwst (st' := [.int (0)]) rfl ?_
    refine g_if_eqT m75_6 (by decide) ?_
    refine g_aload_n m75_25 rfl ?_
    refine g_iconst m75_26 ?_
    refine g_cv (args := [.int (1)]) (rest := []) m75_27 (Nat.le_of_ble_eq_true rfl) rfl rfl rfl (Nat.le_of_ble_eq_true rfl) ?_
    refine wp_in (L := [some (.ref 32), some (.int (1))]) (Nat.le_of_ble_eq_true rfl) rfl ?_
    refine g_aload_n m55_0 rfl ?_
    refine g_gf m55_1 rfl rfl ?_
    refine g_iload_n m55_4 rfl ?_
    refine g_dup2 m55_5 rfl rfl ?_
    refine g_iald (x := (0 : Int32)) m55_6 rfl (vin rfl) rfl ?_
    refine g_iconst m55_7 ?_
    refine g_iadd (u := (1 : Int32)) m55_8 (by decide) ?_
    refine g_iast m55_9 (Nat.le_of_ble_eq_true rfl) rfl (vin rfl) rfl rfl rfl ?_
    refine g_ldcw m55_10 ?_
    refine g_iload_n m55_13 rfl ?_
    refine g_isub (u := (-1000000001 : Int32)) m55_14 (by decide) ?_
    refine g_iret m55_15 rfl ?_
    refine gwst (st' := [.int (-1000000001)]) rfl ?_
    refine g_iret m75_30 rfl ?_
    refine gwst (st' := [.int (-1000000001)]) rfl ?_
    refine FRg rfl (fun f => ?_)
    refine g_aload_n m190_689 rfl ?_
    refine g_aload_n m190_690 rfl ?_
    refine g_iload_n m190_691 rfl ?_
    refine g_iconst m190_692 ?_
    refine g_iadd (u := (1 : Int32)) m190_693 (by decide) ?_
    refine g_iald (x := s1) m190_694 rfl (vin rfl) rfl ?_
    refine g_aload_n m190_695 rfl ?_
    refine g_iload_n m190_696 rfl ?_
    refine g_iconst m190_697 ?_
    refine g_iadd (u := (2 : Int32)) m190_698 (by decide) ?_
    refine g_iald (x := s2) m190_699 rfl (vin rfl) rfl ?_
    refine g_aload_n m190_700 rfl ?_
    refine g_iload_n m190_701 rfl ?_
    refine g_iconst m190_702 ?_
    refine g_iadd (u := (3 : Int32)) m190_703 (by decide) ?_
    refine g_iald (x := s3) m190_704 rfl (vin rfl) rfl ?_
    refine g_cv (args := [.int _, .int _, .int _]) (rest := [.int (-1000000001)]) m190_705 (Nat.le_of_ble_eq_true rfl) rfl rfl rfl (Nat.le_of_ble_eq_true rfl) ?_
    refine wp_in (L := [some (.ref 89), some (.int _), some (.int _), some (.int _), none]) (Nat.le_of_ble_eq_true rfl) rfl ?_
    refine g_iload_n m152_0 rfl ?_
    refine g_iconst m152_1 ?_
    refine g_bipush m152_2 ?_
    refine g_cs (args := [.int _, .int (0), .int (60)]) (rest := []) 0 (Or.inl rfl) m152_4 (Nat.le_of_ble_eq_true rfl) rfl rfl (Nat.le_of_ble_eq_true rfl) ?_
    refine wp_in (L := [some (.int _), some (.int (0)), some (.int (60))]) (Nat.le_of_ble_eq_true rfl) rfl ?_
    refine g_iload_n m107_0 rfl ?_
    refine g_iload_n m107_1 rfl ?_
    refine g_ic_ltT m107_2 ((lt_k (a := (s1).toInt) (b := 0) (by rfl) (by rfl)).mpr (by omega)) ?_
    refine g_iconst m107_14 ?_
    refine g_zret m107_15 rfl (Or.inl rfl) ?_
    refine gwst (st' := [.int (0)]) rfl ?_
    refine g_if_eqT m152_7 (by decide) ?_
    refine g_aload_n m152_27 rfl ?_
    refine g_ldci m152_28 rfl ?_
    refine g_cv (args := [.int (-1000000001)]) (rest := []) m152_30 (Nat.le_of_ble_eq_true rfl) rfl rfl rfl (Nat.le_of_ble_eq_true rfl) ?_
    refine wp_in (L := [some (.ref 89), some (.int (-1000000001))]) (Nat.le_of_ble_eq_true rfl) rfl ?_
    refine g_aload_n m108_0 rfl ?_
    refine g_gf m108_1 rfl rfl ?_
    refine g_ldci m108_4 rfl ?_
    refine g_iload_n m108_6 rfl ?_
    refine g_isub (u := (1 : Int32)) m108_7 (by decide) ?_
    refine g_dup2 m108_8 rfl rfl ?_
    refine g_iald (x := (0 : Int32)) m108_9 rfl (vin rfl) rfl ?_
    refine g_iconst m108_10 ?_
    refine g_iadd (u := (1 : Int32)) m108_11 (by decide) ?_
    refine g_iast m108_12 (Nat.le_of_ble_eq_true rfl) rfl (vin rfl) rfl rfl rfl ?_
    refine g_iload_n m108_13 rfl ?_
    refine g_iret m108_14 rfl ?_
    refine gwst (st' := [.int (-1000000001)]) rfl ?_
    refine g_iret m152_33 rfl ?_
    refine gwst (st' := [.int (-1000000001), .int (-1000000001)]) rfl ?_
    refine g_ic_eqT m190_708 (by decide) ?_
    refine g_iinc (x2 := (6 : Int32)) (L2 := [some (.ref 0), some (.ref 32), some (.ref 89), some (.int (6))]) m190_1428 rfl (by decide) rfl rfl ?_
    refine g_goto m190_1431 ?_
    refine g_iload_n m190_18 rfl ?_
    refine g_aload_n m190_19 rfl ?_
    refine g_alen (n := 6) m190_20 rfl (Or.inl rfl) rfl ?_
    refine g_bipush m190_21 ?_
    refine g_isub (u := (0 : Int32)) m190_23 (by decide) ?_
    refine g_ic_gtT m190_24 (by decide) ?_
    refine g_iconst m190_1434 ?_
    refine g_zret m190_1435 rfl (Or.inr rfl) ?_
    exact rfl
  · have d2 : ¬ ((s1).toInt < 0) := fun q => c1 ((lt_k (by rfl) (by rfl)).mpr q)
    refine g_iload_n m54_4 rfl ?_
    refine g_iload_n m54_5 rfl ?_
    refine g_ic_gt m54_6 (fun c3 => ?_) (fun c3 => ?_)
    · have d4 : 60 < (s1).toInt := (lt_k (by rfl) (by rfl)).mp c3
      refine g_iconst m54_13 ?_
      refine g_zret m54_14 rfl (Or.inl rfl) ?_
      refine gwst (st' := [.int (0)]) rfl ?_
      refine g_if_eqT m75_6 (by decide) ?_
      refine g_aload_n m75_25 rfl ?_
      refine g_iconst m75_26 ?_
      refine g_cv (args := [.int (1)]) (rest := []) m75_27 (Nat.le_of_ble_eq_true rfl) rfl rfl rfl (Nat.le_of_ble_eq_true rfl) ?_
      refine wp_in (L := [some (.ref 32), some (.int (1))]) (Nat.le_of_ble_eq_true rfl) rfl ?_
      refine g_aload_n m55_0 rfl ?_
      refine g_gf m55_1 rfl rfl ?_
      refine g_iload_n m55_4 rfl ?_
      refine g_dup2 m55_5 rfl rfl ?_
      refine g_iald (x := (0 : Int32)) m55_6 rfl (vin rfl) rfl ?_
      refine g_iconst m55_7 ?_
      refine g_iadd (u := (1 : Int32)) m55_8 (by decide) ?_
      refine g_iast m55_9 (Nat.le_of_ble_eq_true rfl) rfl (vin rfl) rfl rfl rfl ?_
      refine g_ldcw m55_10 ?_
      refine g_iload_n m55_13 rfl ?_
      refine g_isub (u := (-1000000001 : Int32)) m55_14 (by decide) ?_
      refine g_iret m55_15 rfl ?_
      refine gwst (st' := [.int (-1000000001)]) rfl ?_
      refine g_iret m75_30 rfl ?_
      refine gwst (st' := [.int (-1000000001)]) rfl ?_
      refine FRg rfl (fun f => ?_)
      refine g_aload_n m190_689 rfl ?_
      refine g_aload_n m190_690 rfl ?_
      refine g_iload_n m190_691 rfl ?_
      refine g_iconst m190_692 ?_
      refine g_iadd (u := (1 : Int32)) m190_693 (by decide) ?_
      refine g_iald (x := s1) m190_694 rfl (vin rfl) rfl ?_
      refine g_aload_n m190_695 rfl ?_
      refine g_iload_n m190_696 rfl ?_
      refine g_iconst m190_697 ?_
      refine g_iadd (u := (2 : Int32)) m190_698 (by decide) ?_
      refine g_iald (x := s2) m190_699 rfl (vin rfl) rfl ?_
      refine g_aload_n m190_700 rfl ?_
      refine g_iload_n m190_701 rfl ?_
      refine g_iconst m190_702 ?_
      refine g_iadd (u := (3 : Int32)) m190_703 (by decide) ?_
      refine g_iald (x := s3) m190_704 rfl (vin rfl) rfl ?_
      refine g_cv (args := [.int _, .int _, .int _]) (rest := [.int (-1000000001)]) m190_705 (Nat.le_of_ble_eq_true rfl) rfl rfl rfl (Nat.le_of_ble_eq_true rfl) ?_
      refine wp_in (L := [some (.ref 89), some (.int _), some (.int _), some (.int _), none]) (Nat.le_of_ble_eq_true rfl) rfl ?_
      refine g_iload_n m152_0 rfl ?_
      refine g_iconst m152_1 ?_
      refine g_bipush m152_2 ?_
      refine g_cs (args := [.int _, .int (0), .int (60)]) (rest := []) 0 (Or.inl rfl) m152_4 (Nat.le_of_ble_eq_true rfl) rfl rfl (Nat.le_of_ble_eq_true rfl) ?_
      refine wp_in (L := [some (.int _), some (.int (0)), some (.int (60))]) (Nat.le_of_ble_eq_true rfl) rfl ?_
      refine g_iload_n m107_0 rfl ?_
      refine g_iload_n m107_1 rfl ?_
      refine g_ic_ltF m107_2 (fun q => absurd ((lt_k (a := (s1).toInt) (b := 0) (by rfl) (by rfl)).mp q) (by omega)) ?_
      refine g_iload_n m107_5 rfl ?_
      refine g_iload_n m107_6 rfl ?_
      refine g_ic_gtT m107_7 ((lt_k (a := 60) (b := (s1).toInt) (by rfl) (by rfl)).mpr (by omega)) ?_
      refine g_iconst m107_14 ?_
      refine g_zret m107_15 rfl (Or.inl rfl) ?_
      refine gwst (st' := [.int (0)]) rfl ?_
      refine g_if_eqT m152_7 (by decide) ?_
      refine g_aload_n m152_27 rfl ?_
      refine g_ldci m152_28 rfl ?_
      refine g_cv (args := [.int (-1000000001)]) (rest := []) m152_30 (Nat.le_of_ble_eq_true rfl) rfl rfl rfl (Nat.le_of_ble_eq_true rfl) ?_
      refine wp_in (L := [some (.ref 89), some (.int (-1000000001))]) (Nat.le_of_ble_eq_true rfl) rfl ?_
      refine g_aload_n m108_0 rfl ?_
      refine g_gf m108_1 rfl rfl ?_
      refine g_ldci m108_4 rfl ?_
      refine g_iload_n m108_6 rfl ?_
      refine g_isub (u := (1 : Int32)) m108_7 (by decide) ?_
      refine g_dup2 m108_8 rfl rfl ?_
      refine g_iald (x := (0 : Int32)) m108_9 rfl (vin rfl) rfl ?_
      refine g_iconst m108_10 ?_
      refine g_iadd (u := (1 : Int32)) m108_11 (by decide) ?_
      refine g_iast m108_12 (Nat.le_of_ble_eq_true rfl) rfl (vin rfl) rfl rfl rfl ?_
      refine g_iload_n m108_13 rfl ?_
      refine g_iret m108_14 rfl ?_
      refine gwst (st' := [.int (-1000000001)]) rfl ?_
      refine g_iret m152_33 rfl ?_
      refine gwst (st' := [.int (-1000000001), .int (-1000000001)]) rfl ?_
      refine g_ic_eqT m190_708 (by decide) ?_
      refine g_iinc (x2 := (6 : Int32)) (L2 := [some (.ref 0), some (.ref 32), some (.ref 89), some (.int (6))]) m190_1428 rfl (by decide) rfl rfl ?_
      refine g_goto m190_1431 ?_
      refine g_iload_n m190_18 rfl ?_
      refine g_aload_n m190_19 rfl ?_
      refine g_alen (n := 6) m190_20 rfl (Or.inl rfl) rfl ?_
      refine g_bipush m190_21 ?_
      refine g_isub (u := (0 : Int32)) m190_23 (by decide) ?_
      refine g_ic_gtT m190_24 (by decide) ?_
      refine g_iconst m190_1434 ?_
      refine g_zret m190_1435 rfl (Or.inr rfl) ?_
      exact rfl
    · have d4 : ¬ (60 < (s1).toInt) := fun q => c3 ((lt_k (by rfl) (by rfl)).mpr q)
      refine g_iconst m54_9 ?_
      refine g_goto m54_10 ?_
      refine g_zret m54_14 rfl (Or.inr rfl) ?_
      refine gwst (st' := [.int (1)]) rfl ?_
      refine g_if_eqF m75_6 (by decide) ?_
      refine g_aload_n m75_9 rfl ?_
      refine g_iload_n m75_10 rfl ?_
      refine g_cv (args := [.int _]) (rest := []) m75_11 (Nat.le_of_ble_eq_true rfl) rfl rfl rfl (Nat.le_of_ble_eq_true rfl) ?_
      refine wp_in (L := [some (.ref 32), some (.int _)]) (Nat.le_of_ble_eq_true rfl) rfl ?_
      refine g_iload_n m60_0 rfl ?_
      refine g_if_lt m60_1 (fun c5 => ?_) (fun c5 => ?_)
      · have d6 : (s2).toInt < 0 := (lt_k (by rfl) (by rfl)).mp c5
        refine g_iconst m60_19 ?_
        refine g_zret m60_20 rfl (Or.inl rfl) ?_
        refine gwst (st' := [.int (0)]) rfl ?_
        refine g_if_eqT m75_14 (by decide) ?_
        refine g_aload_n m75_25 rfl ?_
        refine g_iconst m75_26 ?_
        refine g_cv (args := [.int (1)]) (rest := []) m75_27 (Nat.le_of_ble_eq_true rfl) rfl rfl rfl (Nat.le_of_ble_eq_true rfl) ?_
        refine wp_in (L := [some (.ref 32), some (.int (1))]) (Nat.le_of_ble_eq_true rfl) rfl ?_
        refine g_aload_n m55_0 rfl ?_
        refine g_gf m55_1 rfl rfl ?_
        refine g_iload_n m55_4 rfl ?_
        refine g_dup2 m55_5 rfl rfl ?_
        refine g_iald (x := (0 : Int32)) m55_6 rfl (vin rfl) rfl ?_
        refine g_iconst m55_7 ?_
        refine g_iadd (u := (1 : Int32)) m55_8 (by decide) ?_
        refine g_iast m55_9 (Nat.le_of_ble_eq_true rfl) rfl (vin rfl) rfl rfl rfl ?_
        refine g_ldcw m55_10 ?_
        refine g_iload_n m55_13 rfl ?_
        refine g_isub (u := (-1000000001 : Int32)) m55_14 (by decide) ?_
        refine g_iret m55_15 rfl ?_
        refine gwst (st' := [.int (-1000000001)]) rfl ?_
        refine g_iret m75_30 rfl ?_
        refine gwst (st' := [.int (-1000000001)]) rfl ?_
        refine FRg rfl (fun f => ?_)
        refine g_aload_n m190_689 rfl ?_
        refine g_aload_n m190_690 rfl ?_
        refine g_iload_n m190_691 rfl ?_
        refine g_iconst m190_692 ?_
        refine g_iadd (u := (1 : Int32)) m190_693 (by decide) ?_
        refine g_iald (x := s1) m190_694 rfl (vin rfl) rfl ?_
        refine g_aload_n m190_695 rfl ?_
        refine g_iload_n m190_696 rfl ?_
        refine g_iconst m190_697 ?_
        refine g_iadd (u := (2 : Int32)) m190_698 (by decide) ?_
        refine g_iald (x := s2) m190_699 rfl (vin rfl) rfl ?_
        refine g_aload_n m190_700 rfl ?_
        refine g_iload_n m190_701 rfl ?_
        refine g_iconst m190_702 ?_
        refine g_iadd (u := (3 : Int32)) m190_703 (by decide) ?_
        refine g_iald (x := s3) m190_704 rfl (vin rfl) rfl ?_
        refine g_cv (args := [.int _, .int _, .int _]) (rest := [.int (-1000000001)]) m190_705 (Nat.le_of_ble_eq_true rfl) rfl rfl rfl (Nat.le_of_ble_eq_true rfl) ?_
        refine wp_in (L := [some (.ref 89), some (.int _), some (.int _), some (.int _), none]) (Nat.le_of_ble_eq_true rfl) rfl ?_
        refine g_iload_n m152_0 rfl ?_
        refine g_iconst m152_1 ?_
        refine g_bipush m152_2 ?_
        refine g_cs (args := [.int _, .int (0), .int (60)]) (rest := []) 0 (Or.inl rfl) m152_4 (Nat.le_of_ble_eq_true rfl) rfl rfl (Nat.le_of_ble_eq_true rfl) ?_
        refine wp_in (L := [some (.int _), some (.int (0)), some (.int (60))]) (Nat.le_of_ble_eq_true rfl) rfl ?_
        refine g_iload_n m107_0 rfl ?_
        refine g_iload_n m107_1 rfl ?_
        refine g_ic_ltF m107_2 (fun q => absurd ((lt_k (a := (s1).toInt) (b := 0) (by rfl) (by rfl)).mp q) (by omega)) ?_
        refine g_iload_n m107_5 rfl ?_
        refine g_iload_n m107_6 rfl ?_
        refine g_ic_gtF m107_7 (fun q => absurd ((lt_k (a := 60) (b := (s1).toInt) (by rfl) (by rfl)).mp q) (by omega)) ?_
        refine g_iconst m107_10 ?_
        refine g_goto m107_11 ?_
        refine g_zret m107_15 rfl (Or.inr rfl) ?_
        refine gwst (st' := [.int (1)]) rfl ?_
        refine g_if_eqF m152_7 (by decide) ?_
        refine g_aload_n m152_10 rfl ?_
        refine g_iload_n m152_11 rfl ?_
        refine g_cv (args := [.int _]) (rest := []) m152_12 (Nat.le_of_ble_eq_true rfl) rfl rfl rfl (Nat.le_of_ble_eq_true rfl) ?_
        refine wp_in (L := [some (.ref 89), some (.int _)]) (Nat.le_of_ble_eq_true rfl) rfl ?_
        refine g_iload_n m113_0 rfl ?_
        refine g_iconst m113_1 ?_
        refine g_aload_n m113_2 rfl ?_
        refine g_gf m113_3 rfl rfl ?_
        refine g_iconst m113_6 ?_
        refine g_iald (x := (0 : Int32)) m113_7 rfl (vin rfl) rfl ?_
        refine g_iconst m113_8 ?_
        refine g_isub (u := (-1 : Int32)) m113_9 (by decide) ?_
        refine g_cs (args := [.int _, .int (0), .int (-1)]) (rest := []) 0 (Or.inl rfl) m113_10 (Nat.le_of_ble_eq_true rfl) rfl rfl (Nat.le_of_ble_eq_true rfl) ?_
        refine wp_in (L := [some (.int _), some (.int (0)), some (.int (-1))]) (Nat.le_of_ble_eq_true rfl) rfl ?_
        refine g_iload_n m107_0 rfl ?_
        refine g_iload_n m107_1 rfl ?_
        refine g_ic_ltT m107_2 ((lt_k (a := (s2).toInt) (b := 0) (by rfl) (by rfl)).mpr (by omega)) ?_
        refine g_iconst m107_14 ?_
        refine g_zret m107_15 rfl (Or.inl rfl) ?_
        refine gwst (st' := [.int (0)]) rfl ?_
        refine g_zret m113_13 rfl (Or.inl rfl) ?_
        refine gwst (st' := [.int (0)]) rfl ?_
        refine g_if_eqT m152_15 (by decide) ?_
        refine g_aload_n m152_27 rfl ?_
        refine g_ldci m152_28 rfl ?_
        refine g_cv (args := [.int (-1000000001)]) (rest := []) m152_30 (Nat.le_of_ble_eq_true rfl) rfl rfl rfl (Nat.le_of_ble_eq_true rfl) ?_
        refine wp_in (L := [some (.ref 89), some (.int (-1000000001))]) (Nat.le_of_ble_eq_true rfl) rfl ?_
        refine g_aload_n m108_0 rfl ?_
        refine g_gf m108_1 rfl rfl ?_
        refine g_ldci m108_4 rfl ?_
        refine g_iload_n m108_6 rfl ?_
        refine g_isub (u := (1 : Int32)) m108_7 (by decide) ?_
        refine g_dup2 m108_8 rfl rfl ?_
        refine g_iald (x := (0 : Int32)) m108_9 rfl (vin rfl) rfl ?_
        refine g_iconst m108_10 ?_
        refine g_iadd (u := (1 : Int32)) m108_11 (by decide) ?_
        refine g_iast m108_12 (Nat.le_of_ble_eq_true rfl) rfl (vin rfl) rfl rfl rfl ?_
        refine g_iload_n m108_13 rfl ?_
        refine g_iret m108_14 rfl ?_
        refine gwst (st' := [.int (-1000000001)]) rfl ?_
        refine g_iret m152_33 rfl ?_
        refine gwst (st' := [.int (-1000000001), .int (-1000000001)]) rfl ?_
        refine g_ic_eqT m190_708 (by decide) ?_
        refine g_iinc (x2 := (6 : Int32)) (L2 := [some (.ref 0), some (.ref 32), some (.ref 89), some (.int (6))]) m190_1428 rfl (by decide) rfl rfl ?_
        refine g_goto m190_1431 ?_
        refine g_iload_n m190_18 rfl ?_
        refine g_aload_n m190_19 rfl ?_
        refine g_alen (n := 6) m190_20 rfl (Or.inl rfl) rfl ?_
        refine g_bipush m190_21 ?_
        refine g_isub (u := (0 : Int32)) m190_23 (by decide) ?_
        refine g_ic_gtT m190_24 (by decide) ?_
        refine g_iconst m190_1434 ?_
        refine g_zret m190_1435 rfl (Or.inr rfl) ?_
        exact rfl
      · have d6 : ¬ ((s2).toInt < 0) := fun q => c5 ((lt_k (by rfl) (by rfl)).mpr q)
        refine g_iload_n m60_4 rfl ?_
        refine g_aload_n m60_5 rfl ?_
        refine g_gf m60_6 rfl rfl ?_
        refine g_gf m60_9 rfl rfl ?_
        refine g_ic_geT m60_12 ((le_k (a := 0) (b := (s2).toInt) (by rfl) (by rfl)).mpr (by omega)) ?_
        refine g_iconst m60_19 ?_
        refine g_zret m60_20 rfl (Or.inl rfl) ?_
        refine gwst (st' := [.int (0)]) rfl ?_
        refine g_if_eqT m75_14 (by decide) ?_
        refine g_aload_n m75_25 rfl ?_
        refine g_iconst m75_26 ?_
        refine g_cv (args := [.int (1)]) (rest := []) m75_27 (Nat.le_of_ble_eq_true rfl) rfl rfl rfl (Nat.le_of_ble_eq_true rfl) ?_
        refine wp_in (L := [some (.ref 32), some (.int (1))]) (Nat.le_of_ble_eq_true rfl) rfl ?_
        refine g_aload_n m55_0 rfl ?_
        refine g_gf m55_1 rfl rfl ?_
        refine g_iload_n m55_4 rfl ?_
        refine g_dup2 m55_5 rfl rfl ?_
        refine g_iald (x := (0 : Int32)) m55_6 rfl (vin rfl) rfl ?_
        refine g_iconst m55_7 ?_
        refine g_iadd (u := (1 : Int32)) m55_8 (by decide) ?_
        refine g_iast m55_9 (Nat.le_of_ble_eq_true rfl) rfl (vin rfl) rfl rfl rfl ?_
        refine g_ldcw m55_10 ?_
        refine g_iload_n m55_13 rfl ?_
        refine g_isub (u := (-1000000001 : Int32)) m55_14 (by decide) ?_
        refine g_iret m55_15 rfl ?_
        refine gwst (st' := [.int (-1000000001)]) rfl ?_
        refine g_iret m75_30 rfl ?_
        refine gwst (st' := [.int (-1000000001)]) rfl ?_
        refine FRg rfl (fun f => ?_)
        refine g_aload_n m190_689 rfl ?_
        refine g_aload_n m190_690 rfl ?_
        refine g_iload_n m190_691 rfl ?_
        refine g_iconst m190_692 ?_
        refine g_iadd (u := (1 : Int32)) m190_693 (by decide) ?_
        refine g_iald (x := s1) m190_694 rfl (vin rfl) rfl ?_
        refine g_aload_n m190_695 rfl ?_
        refine g_iload_n m190_696 rfl ?_
        refine g_iconst m190_697 ?_
        refine g_iadd (u := (2 : Int32)) m190_698 (by decide) ?_
        refine g_iald (x := s2) m190_699 rfl (vin rfl) rfl ?_
        refine g_aload_n m190_700 rfl ?_
        refine g_iload_n m190_701 rfl ?_
        refine g_iconst m190_702 ?_
        refine g_iadd (u := (3 : Int32)) m190_703 (by decide) ?_
        refine g_iald (x := s3) m190_704 rfl (vin rfl) rfl ?_
        refine g_cv (args := [.int _, .int _, .int _]) (rest := [.int (-1000000001)]) m190_705 (Nat.le_of_ble_eq_true rfl) rfl rfl rfl (Nat.le_of_ble_eq_true rfl) ?_
        refine wp_in (L := [some (.ref 89), some (.int _), some (.int _), some (.int _), none]) (Nat.le_of_ble_eq_true rfl) rfl ?_
        refine g_iload_n m152_0 rfl ?_
        refine g_iconst m152_1 ?_
        refine g_bipush m152_2 ?_
        refine g_cs (args := [.int _, .int (0), .int (60)]) (rest := []) 0 (Or.inl rfl) m152_4 (Nat.le_of_ble_eq_true rfl) rfl rfl (Nat.le_of_ble_eq_true rfl) ?_
        refine wp_in (L := [some (.int _), some (.int (0)), some (.int (60))]) (Nat.le_of_ble_eq_true rfl) rfl ?_
        refine g_iload_n m107_0 rfl ?_
        refine g_iload_n m107_1 rfl ?_
        refine g_ic_ltF m107_2 (fun q => absurd ((lt_k (a := (s1).toInt) (b := 0) (by rfl) (by rfl)).mp q) (by omega)) ?_
        refine g_iload_n m107_5 rfl ?_
        refine g_iload_n m107_6 rfl ?_
        refine g_ic_gtF m107_7 (fun q => absurd ((lt_k (a := 60) (b := (s1).toInt) (by rfl) (by rfl)).mp q) (by omega)) ?_
        refine g_iconst m107_10 ?_
        refine g_goto m107_11 ?_
        refine g_zret m107_15 rfl (Or.inr rfl) ?_
        refine gwst (st' := [.int (1)]) rfl ?_
        refine g_if_eqF m152_7 (by decide) ?_
        refine g_aload_n m152_10 rfl ?_
        refine g_iload_n m152_11 rfl ?_
        refine g_cv (args := [.int _]) (rest := []) m152_12 (Nat.le_of_ble_eq_true rfl) rfl rfl rfl (Nat.le_of_ble_eq_true rfl) ?_
        refine wp_in (L := [some (.ref 89), some (.int _)]) (Nat.le_of_ble_eq_true rfl) rfl ?_
        refine g_iload_n m113_0 rfl ?_
        refine g_iconst m113_1 ?_
        refine g_aload_n m113_2 rfl ?_
        refine g_gf m113_3 rfl rfl ?_
        refine g_iconst m113_6 ?_
        refine g_iald (x := (0 : Int32)) m113_7 rfl (vin rfl) rfl ?_
        refine g_iconst m113_8 ?_
        refine g_isub (u := (-1 : Int32)) m113_9 (by decide) ?_
        refine g_cs (args := [.int _, .int (0), .int (-1)]) (rest := []) 0 (Or.inl rfl) m113_10 (Nat.le_of_ble_eq_true rfl) rfl rfl (Nat.le_of_ble_eq_true rfl) ?_
        refine wp_in (L := [some (.int _), some (.int (0)), some (.int (-1))]) (Nat.le_of_ble_eq_true rfl) rfl ?_
        refine g_iload_n m107_0 rfl ?_
        refine g_iload_n m107_1 rfl ?_
        refine g_ic_ltF m107_2 (fun q => absurd ((lt_k (a := (s2).toInt) (b := 0) (by rfl) (by rfl)).mp q) (by omega)) ?_
        refine g_iload_n m107_5 rfl ?_
        refine g_iload_n m107_6 rfl ?_
        refine g_ic_gtT m107_7 ((lt_k (a := (-1)) (b := (s2).toInt) (by rfl) (by rfl)).mpr (by omega)) ?_
        refine g_iconst m107_14 ?_
        refine g_zret m107_15 rfl (Or.inl rfl) ?_
        refine gwst (st' := [.int (0)]) rfl ?_
        refine g_zret m113_13 rfl (Or.inl rfl) ?_
        refine gwst (st' := [.int (0)]) rfl ?_
        refine g_if_eqT m152_15 (by decide) ?_
        refine g_aload_n m152_27 rfl ?_
        refine g_ldci m152_28 rfl ?_
        refine g_cv (args := [.int (-1000000001)]) (rest := []) m152_30 (Nat.le_of_ble_eq_true rfl) rfl rfl rfl (Nat.le_of_ble_eq_true rfl) ?_
        refine wp_in (L := [some (.ref 89), some (.int (-1000000001))]) (Nat.le_of_ble_eq_true rfl) rfl ?_
        refine g_aload_n m108_0 rfl ?_
        refine g_gf m108_1 rfl rfl ?_
        refine g_ldci m108_4 rfl ?_
        refine g_iload_n m108_6 rfl ?_
        refine g_isub (u := (1 : Int32)) m108_7 (by decide) ?_
        refine g_dup2 m108_8 rfl rfl ?_
        refine g_iald (x := (0 : Int32)) m108_9 rfl (vin rfl) rfl ?_
        refine g_iconst m108_10 ?_
        refine g_iadd (u := (1 : Int32)) m108_11 (by decide) ?_
        refine g_iast m108_12 (Nat.le_of_ble_eq_true rfl) rfl (vin rfl) rfl rfl rfl ?_
        refine g_iload_n m108_13 rfl ?_
        refine g_iret m108_14 rfl ?_
        refine gwst (st' := [.int (-1000000001)]) rfl ?_
        refine g_iret m152_33 rfl ?_
        refine gwst (st' := [.int (-1000000001), .int (-1000000001)]) rfl ?_
        refine g_ic_eqT m190_708 (by decide) ?_
        refine g_iinc (x2 := (6 : Int32)) (L2 := [some (.ref 0), some (.ref 32), some (.ref 89), some (.int (6))]) m190_1428 rfl (by decide) rfl rfl ?_
        refine g_goto m190_1431 ?_
        refine g_iload_n m190_18 rfl ?_
        refine g_aload_n m190_19 rfl ?_
        refine g_alen (n := 6) m190_20 rfl (Or.inl rfl) rfl ?_
        refine g_bipush m190_21 ?_
        refine g_isub (u := (0 : Int32)) m190_23 (by decide) ?_
        refine g_ic_gtT m190_24 (by decide) ?_
        refine g_iconst m190_1434 ?_
        refine g_zret m190_1435 rfl (Or.inr rfl) ?_
        exact rfl
set_option maxRecDepth 20000 in
set_option maxHeartbeats 40000000 in
theorem lc_15 {s0 s1 s2 s3 s4 s5 : Int32} {d mc ms : Nat} : gw [s0, s1, s2, s3, s4, s5] (WP [s0, s1, s2, s3, s4, s5] (d + 20)) 190 (fun r _ => r = some (.int 1)) 713 [some (.ref 0), some (.ref 32), some (.ref 89), some (.int 0)] [] (hX0 ++ hM0) mc ms := by
  refine g_aload_n m190_713 rfl ?_
  refine g_aload_n m190_714 rfl ?_
  refine g_iload_n m190_715 rfl ?_
  refine g_iconst m190_716 ?_
  refine g_iadd (u := (1 : Int32)) m190_717 (by decide) ?_
  refine g_iald (x := s1) m190_718 rfl (vin rfl) rfl ?_
  refine g_cv (args := [.int _]) (rest := []) m190_719 (Nat.le_of_ble_eq_true rfl) rfl rfl rfl (Nat.le_of_ble_eq_true rfl) ?_
  refine wp_in (L := [some (.ref 32), some (.int _), none]) (Nat.le_of_ble_eq_true rfl) rfl ?_
  refine g_aload_n m76_0 rfl ?_
  refine g_iload_n m76_1 rfl ?_
  refine g_cv (args := [.int _]) (rest := []) m76_2 (Nat.le_of_ble_eq_true rfl) rfl rfl rfl (Nat.le_of_ble_eq_true rfl) ?_
  refine wp_in (L := [some (.ref 32), some (.int _)]) (Nat.le_of_ble_eq_true rfl) rfl ?_
  refine g_iload_n m60_0 rfl ?_
  refine g_if_lt m60_1 (fun c1 => ?_) (fun c1 => ?_)
  · have d2 : (s1).toInt < 0 := (lt_k (by rfl) (by rfl)).mp c1
    refine g_iconst m60_19 ?_
    refine g_zret m60_20 rfl (Or.inl rfl) ?_
    refine gwst (st' := [.int (0)]) rfl ?_
    refine g_if_neT m76_5 (by decide) ?_
    refine g_aload_n m76_8 rfl ?_
    refine g_iconst m76_9 ?_
    refine g_cv (args := [.int (1)]) (rest := []) m76_10 (Nat.le_of_ble_eq_true rfl) rfl rfl rfl (Nat.le_of_ble_eq_true rfl) ?_
    refine wp_in (L := [some (.ref 32), some (.int (1))]) (Nat.le_of_ble_eq_true rfl) rfl ?_
    refine g_aload_n m55_0 rfl ?_
    refine g_gf m55_1 rfl rfl ?_
    refine g_iload_n m55_4 rfl ?_
    refine g_dup2 m55_5 rfl rfl ?_
    refine g_iald (x := (0 : Int32)) m55_6 rfl (vin rfl) rfl ?_
    refine g_iconst m55_7 ?_
    refine g_iadd (u := (1 : Int32)) m55_8 (by decide) ?_
    refine g_iast m55_9 (Nat.le_of_ble_eq_true rfl) rfl (vin rfl) rfl rfl rfl ?_
    refine g_ldcw m55_10 ?_
    refine g_iload_n m55_13 rfl ?_
    refine g_isub (u := (-1000000001 : Int32)) m55_14 (by decide) ?_
    refine g_iret m55_15 rfl ?_
    refine gwst (st' := [.int (-1000000001)]) rfl ?_
    refine g_iret m76_13 rfl ?_
    refine gwst (st' := [.int (-1000000001)]) rfl ?_
    refine FRg rfl (fun f => ?_)
    refine g_aload_n m190_722 rfl ?_
    refine g_aload_n m190_723 rfl ?_
    refine g_iload_n m190_724 rfl ?_
    refine g_iconst m190_725 ?_
    refine g_iadd (u := (1 : Int32)) m190_726 (by decide) ?_
    refine g_iald (x := s1) m190_727 rfl (vin rfl) rfl ?_
    refine g_cv (args := [.int _]) (rest := [.int (-1000000001)]) m190_728 (Nat.le_of_ble_eq_true rfl) rfl rfl rfl (Nat.le_of_ble_eq_true rfl) ?_
    refine wp_in (L := [some (.ref 89), some (.int _), none, none]) (Nat.le_of_ble_eq_true rfl) rfl ?_
    refine g_aload_n m153_0 rfl ?_
    refine g_iload_n m153_1 rfl ?_
    refine g_cv (args := [.int _]) (rest := []) m153_2 (Nat.le_of_ble_eq_true rfl) rfl rfl rfl (Nat.le_of_ble_eq_true rfl) ?_
    refine wp_in (L := [some (.ref 89), some (.int _)]) (Nat.le_of_ble_eq_true rfl) rfl ?_
    refine g_iload_n m113_0 rfl ?_
    refine g_iconst m113_1 ?_
    refine g_aload_n m113_2 rfl ?_
    refine g_gf m113_3 rfl rfl ?_
    refine g_iconst m113_6 ?_
    refine g_iald (x := (0 : Int32)) m113_7 rfl (vin rfl) rfl ?_
    refine g_iconst m113_8 ?_
    refine g_isub (u := (-1 : Int32)) m113_9 (by decide) ?_
    refine g_cs (args := [.int _, .int (0), .int (-1)]) (rest := []) 0 (Or.inl rfl) m113_10 (Nat.le_of_ble_eq_true rfl) rfl rfl (Nat.le_of_ble_eq_true rfl) ?_
    refine wp_in (L := [some (.int _), some (.int (0)), some (.int (-1))]) (Nat.le_of_ble_eq_true rfl) rfl ?_
    refine g_iload_n m107_0 rfl ?_
    refine g_iload_n m107_1 rfl ?_
    refine g_ic_ltT m107_2 ((lt_k (a := (s1).toInt) (b := 0) (by rfl) (by rfl)).mpr (by omega)) ?_
    refine g_iconst m107_14 ?_
    refine g_zret m107_15 rfl (Or.inl rfl) ?_
    refine gwst (st' := [.int (0)]) rfl ?_
    refine g_zret m113_13 rfl (Or.inl rfl) ?_
    refine gwst (st' := [.int (0)]) rfl ?_
    refine g_if_neT m153_5 (by decide) ?_
    refine g_aload_n m153_8 rfl ?_
    refine g_ldci m153_9 rfl ?_
    refine g_cv (args := [.int (-1000000001)]) (rest := []) m153_11 (Nat.le_of_ble_eq_true rfl) rfl rfl rfl (Nat.le_of_ble_eq_true rfl) ?_
    refine wp_in (L := [some (.ref 89), some (.int (-1000000001))]) (Nat.le_of_ble_eq_true rfl) rfl ?_
    refine g_aload_n m108_0 rfl ?_
    refine g_gf m108_1 rfl rfl ?_
    refine g_ldci m108_4 rfl ?_
    refine g_iload_n m108_6 rfl ?_
    refine g_isub (u := (1 : Int32)) m108_7 (by decide) ?_
    refine g_dup2 m108_8 rfl rfl ?_
    refine g_iald (x := (0 : Int32)) m108_9 rfl (vin rfl) rfl ?_
    refine g_iconst m108_10 ?_
    refine g_iadd (u := (1 : Int32)) m108_11 (by decide) ?_
    refine g_iast m108_12 (Nat.le_of_ble_eq_true rfl) rfl (vin rfl) rfl rfl rfl ?_
    refine g_iload_n m108_13 rfl ?_
    refine g_iret m108_14 rfl ?_
    refine gwst (st' := [.int (-1000000001)]) rfl ?_
    refine g_iret m153_14 rfl ?_
    refine gwst (st' := [.int (-1000000001), .int (-1000000001)]) rfl ?_
    refine g_ic_eqT m190_731 (by decide) ?_
    refine g_iinc (x2 := (6 : Int32)) (L2 := [some (.ref 0), some (.ref 32), some (.ref 89), some (.int (6))]) m190_1428 rfl (by decide) rfl rfl ?_
    refine g_goto m190_1431 ?_
    refine g_iload_n m190_18 rfl ?_
    refine g_aload_n m190_19 rfl ?_
    refine g_alen (n := 6) m190_20 rfl (Or.inl rfl) rfl ?_
    refine g_bipush m190_21 ?_
    refine g_isub (u := (0 : Int32)) m190_23 (by decide) ?_
    refine g_ic_gtT m190_24 (by decide) ?_
    refine g_iconst m190_1434 ?_
    refine g_zret m190_1435 rfl (Or.inr rfl) ?_
    exact rfl
  · have d2 : ¬ ((s1).toInt < 0) := fun q => c1 ((lt_k (by rfl) (by rfl)).mpr q)
    refine g_iload_n m60_4 rfl ?_
    refine g_aload_n m60_5 rfl ?_
    refine g_gf m60_6 rfl rfl ?_
    refine g_gf m60_9 rfl rfl ?_
    refine g_ic_geT m60_12 ((le_k (a := 0) (b := (s1).toInt) (by rfl) (by rfl)).mpr (by omega)) ?_
    refine g_iconst m60_19 ?_
    refine g_zret m60_20 rfl (Or.inl rfl) ?_
    refine gwst (st' := [.int (0)]) rfl ?_
    refine g_if_neT m76_5 (by decide) ?_
    refine g_aload_n m76_8 rfl ?_
    refine g_iconst m76_9 ?_
    refine g_cv (args := [.int (1)]) (rest := []) m76_10 (Nat.le_of_ble_eq_true rfl) rfl rfl rfl (Nat.le_of_ble_eq_true rfl) ?_
    refine wp_in (L := [some (.ref 32), some (.int (1))]) (Nat.le_of_ble_eq_true rfl) rfl ?_
    refine g_aload_n m55_0 rfl ?_
    refine g_gf m55_1 rfl rfl ?_
    refine g_iload_n m55_4 rfl ?_
    refine g_dup2 m55_5 rfl rfl ?_
    refine g_iald (x := (0 : Int32)) m55_6 rfl (vin rfl) rfl ?_
    refine g_iconst m55_7 ?_
    refine g_iadd (u := (1 : Int32)) m55_8 (by decide) ?_
    refine g_iast m55_9 (Nat.le_of_ble_eq_true rfl) rfl (vin rfl) rfl rfl rfl ?_
    refine g_ldcw m55_10 ?_
    refine g_iload_n m55_13 rfl ?_
    refine g_isub (u := (-1000000001 : Int32)) m55_14 (by decide) ?_
    refine g_iret m55_15 rfl ?_
    refine gwst (st' := [.int (-1000000001)]) rfl ?_
    refine g_iret m76_13 rfl ?_
    refine gwst (st' := [.int (-1000000001)]) rfl ?_
    refine FRg rfl (fun f => ?_)
    refine g_aload_n m190_722 rfl ?_
    refine g_aload_n m190_723 rfl ?_
    refine g_iload_n m190_724 rfl ?_
    refine g_iconst m190_725 ?_
    refine g_iadd (u := (1 : Int32)) m190_726 (by decide) ?_
    refine g_iald (x := s1) m190_727 rfl (vin rfl) rfl ?_
    refine g_cv (args := [.int _]) (rest := [.int (-1000000001)]) m190_728 (Nat.le_of_ble_eq_true rfl) rfl rfl rfl (Nat.le_of_ble_eq_true rfl) ?_
    refine wp_in (L := [some (.ref 89), some (.int _), none, none]) (Nat.le_of_ble_eq_true rfl) rfl ?_
    refine g_aload_n m153_0 rfl ?_
    refine g_iload_n m153_1 rfl ?_
    refine g_cv (args := [.int _]) (rest := []) m153_2 (Nat.le_of_ble_eq_true rfl) rfl rfl rfl (Nat.le_of_ble_eq_true rfl) ?_
    refine wp_in (L := [some (.ref 89), some (.int _)]) (Nat.le_of_ble_eq_true rfl) rfl ?_
    refine g_iload_n m113_0 rfl ?_
    refine g_iconst m113_1 ?_
    refine g_aload_n m113_2 rfl ?_
    refine g_gf m113_3 rfl rfl ?_
    refine g_iconst m113_6 ?_
    refine g_iald (x := (0 : Int32)) m113_7 rfl (vin rfl) rfl ?_
    refine g_iconst m113_8 ?_
    refine g_isub (u := (-1 : Int32)) m113_9 (by decide) ?_
    refine g_cs (args := [.int _, .int (0), .int (-1)]) (rest := []) 0 (Or.inl rfl) m113_10 (Nat.le_of_ble_eq_true rfl) rfl rfl (Nat.le_of_ble_eq_true rfl) ?_
    refine wp_in (L := [some (.int _), some (.int (0)), some (.int (-1))]) (Nat.le_of_ble_eq_true rfl) rfl ?_
    refine g_iload_n m107_0 rfl ?_
    refine g_iload_n m107_1 rfl ?_
    refine g_ic_ltF m107_2 (fun q => absurd ((lt_k (a := (s1).toInt) (b := 0) (by rfl) (by rfl)).mp q) (by omega)) ?_
    refine g_iload_n m107_5 rfl ?_
    refine g_iload_n m107_6 rfl ?_
    refine g_ic_gtT m107_7 ((lt_k (a := (-1)) (b := (s1).toInt) (by rfl) (by rfl)).mpr (by omega)) ?_
    refine g_iconst m107_14 ?_
    refine g_zret m107_15 rfl (Or.inl rfl) ?_
    refine gwst (st' := [.int (0)]) rfl ?_
    refine g_zret m113_13 rfl (Or.inl rfl) ?_
    refine gwst (st' := [.int (0)]) rfl ?_
    refine g_if_neT m153_5 (by decide) ?_
    refine g_aload_n m153_8 rfl ?_
    refine g_ldci m153_9 rfl ?_
    refine g_cv (args := [.int (-1000000001)]) (rest := []) m153_11 (Nat.le_of_ble_eq_true rfl) rfl rfl rfl (Nat.le_of_ble_eq_true rfl) ?_
    refine wp_in (L := [some (.ref 89), some (.int (-1000000001))]) (Nat.le_of_ble_eq_true rfl) rfl ?_
    refine g_aload_n m108_0 rfl ?_
    refine g_gf m108_1 rfl rfl ?_
    refine g_ldci m108_4 rfl ?_
    refine g_iload_n m108_6 rfl ?_
    refine g_isub (u := (1 : Int32)) m108_7 (by decide) ?_
    refine g_dup2 m108_8 rfl rfl ?_
    refine g_iald (x := (0 : Int32)) m108_9 rfl (vin rfl) rfl ?_
    refine g_iconst m108_10 ?_
    refine g_iadd (u := (1 : Int32)) m108_11 (by decide) ?_
    refine g_iast m108_12 (Nat.le_of_ble_eq_true rfl) rfl (vin rfl) rfl rfl rfl ?_
    refine g_iload_n m108_13 rfl ?_
    refine g_iret m108_14 rfl ?_
    refine gwst (st' := [.int (-1000000001)]) rfl ?_
    refine g_iret m153_14 rfl ?_
    refine gwst (st' := [.int (-1000000001), .int (-1000000001)]) rfl ?_
    refine g_ic_eqT m190_731 (by decide) ?_
    refine g_iinc (x2 := (6 : Int32)) (L2 := [some (.ref 0), some (.ref 32), some (.ref 89), some (.int (6))]) m190_1428 rfl (by decide) rfl rfl ?_
    refine g_goto m190_1431 ?_
    refine g_iload_n m190_18 rfl ?_
    refine g_aload_n m190_19 rfl ?_
    refine g_alen (n := 6) m190_20 rfl (Or.inl rfl) rfl ?_
    refine g_bipush m190_21 ?_
    refine g_isub (u := (0 : Int32)) m190_23 (by decide) ?_
    refine g_ic_gtT m190_24 (by decide) ?_
    refine g_iconst m190_1434 ?_
    refine g_zret m190_1435 rfl (Or.inr rfl) ?_
    exact rfl
set_option maxRecDepth 20000 in
set_option maxHeartbeats 40000000 in
theorem lc_16 {s0 s1 s2 s3 s4 s5 : Int32} {d mc ms : Nat} : gw [s0, s1, s2, s3, s4, s5] (WP [s0, s1, s2, s3, s4, s5] (d + 20)) 190 (fun r _ => r = some (.int 1)) 736 [some (.ref 0), some (.ref 32), some (.ref 89), some (.int 0)] [] (hX0 ++ hM0) mc ms := by
  refine g_aload_n m190_736 rfl ?_
  refine g_cv (args := []) (rest := []) m190_737 (Nat.le_of_ble_eq_true rfl) rfl rfl rfl (Nat.le_of_ble_eq_true rfl) ?_
  refine wp_in (L := [some (.ref 32), none, none, none]) (Nat.le_of_ble_eq_true rfl) rfl ?_
  refine g_aload_n m77_0 rfl ?_
  refine g_cv (args := []) (rest := []) m77_1 (Nat.le_of_ble_eq_true rfl) rfl rfl rfl (Nat.le_of_ble_eq_true rfl) ?_
  refine WPh (h' := hF 0 0 1 ++ hM0) (by decide +kernel) (c_think ?_)
  refine gwst (st' := [.ref 42]) rfl ?_
  refine g_astore_n (L2 := [some (.ref 32), some (.ref 42), none, none]) m77_4 rfl rfl ?_
  refine g_aload_n m77_5 rfl ?_
  refine g_bipush m77_6 ?_
  refine g_cv (args := [.int (60)]) (rest := []) m77_8 (Nat.le_of_ble_eq_true rfl) rfl rfl rfl (Nat.le_of_ble_eq_true rfl) ?_
  refine WPh (h' := hF 0 0 1 ++ hM0) (by decide +kernel) (c_goOn42 (by decide) (by decide) ?_)
  refine gwst (st' := []) rfl ?_
  refine g_iconst m77_11 ?_
  refine g_istore_n (L2 := [some (.ref 32), some (.ref 42), some (.int (0)), none]) m77_12 rfl rfl ?_
  refine g_iconst m77_13 ?_
  refine g_istore_n (L2 := [some (.ref 32), some (.ref 42), some (.int (0)), some (.int (0))]) m77_14 rfl rfl ?_
  refine g_iload_n m77_15 rfl ?_
  refine g_aload_n m77_16 rfl ?_
  refine g_gf m77_17 rfl rfl ?_
  refine g_gf m77_20 rfl rfl ?_
  refine g_ic_geT m77_23 (by decide) ?_
  refine g_iload_n m77_56 rfl ?_
  refine g_iret m77_57 rfl ?_
  refine gwst (st' := [.int (0)]) rfl ?_
  refine FRg rfl (fun f => ?_)
  refine g_aload_n m190_740 rfl ?_
  refine g_cv (args := []) (rest := [.int (0)]) m190_741 (Nat.le_of_ble_eq_true rfl) rfl rfl rfl (Nat.le_of_ble_eq_true rfl) ?_
  refine wp_in (L := [some (.ref 89)]) (Nat.le_of_ble_eq_true rfl) rfl ?_
  refine g_iconst m156_0 ?_
  refine g_aload_n m156_1 rfl ?_
  refine g_gf m156_2 rfl rfl ?_
  refine g_iconst m156_5 ?_
  refine g_iald (x := (0 : Int32)) m156_6 rfl (vin rfl) rfl ?_
  refine g_ishl (u := (1 : Int32)) m156_7 (by decide) ?_
  refine g_iconst m156_8 ?_
  refine g_isub (u := (0 : Int32)) m156_9 (by decide) ?_
  refine g_aload_n m156_10 rfl ?_
  refine g_iconst m156_11 ?_
  refine g_iconst m156_12 ?_
  refine g_bipush m156_13 ?_
  refine g_cv (args := [.int (0), .int (-1), .int (60)]) (rest := [.int (0)]) m156_15 (Nat.le_of_ble_eq_true rfl) rfl rfl rfl (Nat.le_of_ble_eq_true rfl) ?_
  refine wp_in (L := [some (.ref 89), some (.int (0)), some (.int (-1)), some (.int (60)), none]) (Nat.le_of_ble_eq_true rfl) rfl ?_
  refine g_aload_n m155_0 rfl ?_
  refine g_aload_n m155_1 rfl ?_
  refine g_gf m155_2 rfl rfl ?_
  refine g_aload_n m155_5 rfl ?_
  refine g_gf m155_6 rfl rfl ?_
  refine g_cv (args := [.ref 90, .ref 92]) (rest := []) m155_9 (Nat.le_of_ble_eq_true rfl) rfl rfl rfl (Nat.le_of_ble_eq_true rfl) ?_
  refine c_moveAll rfl (Nat.le_of_ble_eq_true rfl) rfl (by rfl) (by rfl) (by decide) ?_
  refine gwst (st' := []) rfl ?_
  refine g_iconst m155_12 ?_
  refine g_istore (L2 := [some (.ref 89), some (.int (0)), some (.int (-1)), some (.int (60)), some (.int (0))]) m155_13 rfl rfl ?_
  refine g_iload m155_15 rfl ?_
  refine g_aload_n m155_17 rfl ?_
  refine g_gf m155_18 rfl rfl ?_
  refine g_iconst m155_21 ?_
  refine g_iald (x := (0 : Int32)) m155_22 rfl (vin rfl) rfl ?_
  refine g_ic_geT m155_23 (by decide) ?_
  refine g_aload_n m155_64 rfl ?_
  refine g_iload_n m155_65 rfl ?_
  refine g_cv (args := [.int (60)]) (rest := []) m155_66 (Nat.le_of_ble_eq_true rfl) rfl rfl rfl (Nat.le_of_ble_eq_true rfl) ?_
  refine WPh (h' := pad f ++ hG 0 1 (.inl (0, [0, 1, 0, 0, 0, -1, -1, 1, 5, 5, 5, 5, 5, 5, 5, 5, 0, 0, 0, 0, 0, 0, 0, 0, 0, 0, 0, 0, 0, 0, 0, 0, 0, 0, 0, 0, 0, 0, 0, 0, 0, 0, 0, 0, 0, 0, 0, 0, 0, 0, 0, 0, 0, 0, 0, 0, 0, 0, 0, 0, 0, 0, 0, 0, 0, 0, 0, 0, 0, 0, 0, 0, 0, 0, 0, 0, 0, 0, 0, 0, 0, 0, 0, 0, 0, 0, 0, 0, 0, 0, 0, 0, 0, 0, 0, 0, 0, 0, 0, 0, 0, 0, 0, 0, 0, 0, 0, 0, 0, 0, 0, 0, 0, 0, 0, 0, 0, 0, 0, 0, 0, 0, 0, 0, 0, 0, 0, 0, 0, 0, 0, 0, 0, 0, 0, 0, 0, 0, 0, 0, 0, 0, 0, 0, 0, 0, 0, 0, 0, 0, 0, 0, 0, 0, 0, 0, 0, 0, 0, 0, 0, 0, 0, 0, 0, 0, 0, 0, 0, 0, 0, 0, 0, 0, 0, 0, 0, 0, 0, 0, 0, 0, 0, 0, 0, 0, 0, 0, 0, 0, 0, 0, 0, 0, 0, 0, 0, 0, 0, 0, 0, 0, 0, 0, 0, 0, 0, 0, 0, 0, 0, 0, 0, 0, 0, 0, 0, 0, 0, 0, 0, 0, 0, 0, 0, 0, 0, 0, 0, 0, 0, 0, 0, 0])) (.inl (0, List.replicate 234 0))) rfl (c_passes (by decide) (by decide) ?_)
  refine gwst (st' := []) rfl ?_
  refine g_aload_n m155_69 rfl ?_
  refine g_aload_n m155_70 rfl ?_
  refine g_gf m155_71 rfl rfl ?_
  refine g_cv (args := [.ref 92]) (rest := []) m155_74 (Nat.le_of_ble_eq_true rfl) rfl rfl rfl (Nat.le_of_ble_eq_true rfl) ?_
  refine wp_in (L := [some (.ref 89), some (.ref 92), none, none]) (Nat.le_of_ble_eq_true rfl) rfl ?_
  refine g_iconst m154_0 ?_
  refine g_istore_n (L2 := [some (.ref 89), some (.ref 92), some (.int (0)), none]) m154_1 rfl rfl ?_
  refine g_iconst m154_2 ?_
  refine g_istore_n (L2 := [some (.ref 89), some (.ref 92), some (.int (0)), some (.int (0))]) m154_3 rfl rfl ?_
  refine g_iload_n m154_4 rfl ?_
  refine g_aload_n m154_5 rfl ?_
  refine g_gf m154_6 rfl rfl ?_
  refine g_iconst m154_9 ?_
  refine g_iald (x := (0 : Int32)) m154_10 rfl (vin rfl) rfl ?_
  refine g_ic_geT m154_11 (by decide) ?_
  refine g_iload_n m154_50 rfl ?_
  refine g_iret m154_51 rfl ?_
  refine gwst (st' := [.int (0)]) rfl ?_
  refine g_istore (L2 := [some (.ref 89), some (.int (0)), some (.int (-1)), some (.int (60)), some (.int (0))]) m155_77 rfl rfl ?_
  refine g_aload_n m155_79 rfl ?_
  refine g_aload_n m155_80 rfl ?_
  refine g_gf m155_81 rfl rfl ?_
  refine g_aload_n m155_84 rfl ?_
  refine g_gf m155_85 rfl rfl ?_
  refine g_cv (args := [.ref 92, .ref 90]) (rest := []) m155_88 (Nat.le_of_ble_eq_true rfl) rfl rfl rfl (Nat.le_of_ble_eq_true rfl) ?_
  refine c_moveAll rfl (Nat.le_of_ble_eq_true rfl) rfl (by rfl) (by rfl) (by decide) ?_
  refine gwst (st' := []) rfl ?_
  refine g_iload m155_91 rfl ?_
  refine g_iret m155_93 rfl ?_
  refine gwst (st' := [.int (0), .int (0)]) rfl ?_
  refine g_iconst m156_18 ?_
  refine g_ixor (u := (-1 : Int32)) m156_19 (by decide) ?_
  refine g_iand (u := (0 : Int32)) m156_20 (by decide) ?_
  refine g_iret m156_21 rfl ?_
  refine gwst (st' := [.int (0), .int (0)]) rfl ?_
  refine g_ic_eqT m190_744 (by decide) ?_
  refine g_iinc (x2 := (6 : Int32)) (L2 := [some (.ref 0), some (.ref 32), some (.ref 89), some (.int (6))]) m190_1428 rfl (by decide) rfl rfl ?_
  refine g_goto m190_1431 ?_
  refine g_iload_n m190_18 rfl ?_
  refine g_aload_n m190_19 rfl ?_
  refine g_alen (n := 6) m190_20 rfl (Or.inl rfl) rfl ?_
  refine g_bipush m190_21 ?_
  refine g_isub (u := (0 : Int32)) m190_23 (by decide) ?_
  refine g_ic_gtT m190_24 (by decide) ?_
  refine g_iconst m190_1434 ?_
  refine g_zret m190_1435 rfl (Or.inr rfl) ?_
  exact rfl
set_option maxRecDepth 20000 in
set_option maxHeartbeats 40000000 in
theorem lc_17 {s0 s1 s2 s3 s4 s5 : Int32} {d mc ms : Nat} : gw [s0, s1, s2, s3, s4, s5] (WP [s0, s1, s2, s3, s4, s5] (d + 20)) 190 (fun r _ => r = some (.int 1)) 749 [some (.ref 0), some (.ref 32), some (.ref 89), some (.int 0)] [] (hX0 ++ hM0) mc ms := by
  refine g_aload_n m190_749 rfl ?_
  refine g_aload_n m190_750 rfl ?_
  refine g_iload_n m190_751 rfl ?_
  refine g_iconst m190_752 ?_
  refine g_iadd (u := (1 : Int32)) m190_753 (by decide) ?_
  refine g_iald (x := s1) m190_754 rfl (vin rfl) rfl ?_
  refine g_aload_n m190_755 rfl ?_
  refine g_iload_n m190_756 rfl ?_
  refine g_iconst m190_757 ?_
  refine g_iadd (u := (2 : Int32)) m190_758 (by decide) ?_
  refine g_iald (x := s2) m190_759 rfl (vin rfl) rfl ?_
  refine g_cv (args := [.int _, .int _]) (rest := []) m190_760 (Nat.le_of_ble_eq_true rfl) rfl rfl rfl (Nat.le_of_ble_eq_true rfl) ?_
  refine wp_in (L := [some (.ref 32), some (.int _), some (.int _), none]) (Nat.le_of_ble_eq_true rfl) rfl ?_
  refine g_aload_n m78_0 rfl ?_
  refine g_iload_n m78_1 rfl ?_
  refine g_cv (args := [.int _]) (rest := []) m78_2 (Nat.le_of_ble_eq_true rfl) rfl rfl rfl (Nat.le_of_ble_eq_true rfl) ?_
  refine wp_in (L := [some (.ref 32), some (.int _)]) (Nat.le_of_ble_eq_true rfl) rfl ?_
  refine g_iload_n m60_0 rfl ?_
  refine g_if_lt m60_1 (fun c1 => ?_) (fun c1 => ?_)
  · have d2 : (s1).toInt < 0 := (lt_k (by rfl) (by rfl)).mp c1
    refine g_iconst m60_19 ?_
    refine g_zret m60_20 rfl (Or.inl rfl) ?_
    refine gwst (st' := [.int (0)]) rfl ?_
    refine g_if_eqT m78_5 (by decide) ?_
    refine g_aload_n m78_19 rfl ?_
    refine g_iconst m78_20 ?_
    refine g_cv (args := [.int (1)]) (rest := []) m78_21 (Nat.le_of_ble_eq_true rfl) rfl rfl rfl (Nat.le_of_ble_eq_true rfl) ?_
    refine wp_in (L := [some (.ref 32), some (.int (1))]) (Nat.le_of_ble_eq_true rfl) rfl ?_
    refine g_aload_n m55_0 rfl ?_
    refine g_gf m55_1 rfl rfl ?_
    refine g_iload_n m55_4 rfl ?_
    refine g_dup2 m55_5 rfl rfl ?_
    refine g_iald (x := (0 : Int32)) m55_6 rfl (vin rfl) rfl ?_
    refine g_iconst m55_7 ?_
    refine g_iadd (u := (1 : Int32)) m55_8 (by decide) ?_
    refine g_iast m55_9 (Nat.le_of_ble_eq_true rfl) rfl (vin rfl) rfl rfl rfl ?_
    refine g_ldcw m55_10 ?_
    refine g_iload_n m55_13 rfl ?_
    refine g_isub (u := (-1000000001 : Int32)) m55_14 (by decide) ?_
    refine g_iret m55_15 rfl ?_
    refine gwst (st' := [.int (-1000000001)]) rfl ?_
    refine g_iret m78_24 rfl ?_
    refine gwst (st' := [.int (-1000000001)]) rfl ?_
    refine FRg rfl (fun f => ?_)
    refine g_aload_n m190_763 rfl ?_
    refine g_aload_n m190_764 rfl ?_
    refine g_iload_n m190_765 rfl ?_
    refine g_iconst m190_766 ?_
    refine g_iadd (u := (1 : Int32)) m190_767 (by decide) ?_
    refine g_iald (x := s1) m190_768 rfl (vin rfl) rfl ?_
    refine g_aload_n m190_769 rfl ?_
    refine g_iload_n m190_770 rfl ?_
    refine g_iconst m190_771 ?_
    refine g_iadd (u := (2 : Int32)) m190_772 (by decide) ?_
    refine g_iald (x := s2) m190_773 rfl (vin rfl) rfl ?_
    refine g_cv (args := [.int _, .int _]) (rest := [.int (-1000000001)]) m190_774 (Nat.le_of_ble_eq_true rfl) rfl rfl rfl (Nat.le_of_ble_eq_true rfl) ?_
    refine wp_in (L := [some (.ref 89), some (.int _), some (.int _), none]) (Nat.le_of_ble_eq_true rfl) rfl ?_
    refine g_aload_n m158_0 rfl ?_
    refine g_iload_n m158_1 rfl ?_
    refine g_cv (args := [.int _]) (rest := []) m158_2 (Nat.le_of_ble_eq_true rfl) rfl rfl rfl (Nat.le_of_ble_eq_true rfl) ?_
    refine wp_in (L := [some (.ref 89), some (.int _)]) (Nat.le_of_ble_eq_true rfl) rfl ?_
    refine g_iload_n m113_0 rfl ?_
    refine g_iconst m113_1 ?_
    refine g_aload_n m113_2 rfl ?_
    refine g_gf m113_3 rfl rfl ?_
    refine g_iconst m113_6 ?_
    refine g_iald (x := (0 : Int32)) m113_7 rfl (vin rfl) rfl ?_
    refine g_iconst m113_8 ?_
    refine g_isub (u := (-1 : Int32)) m113_9 (by decide) ?_
    refine g_cs (args := [.int _, .int (0), .int (-1)]) (rest := []) 0 (Or.inl rfl) m113_10 (Nat.le_of_ble_eq_true rfl) rfl rfl (Nat.le_of_ble_eq_true rfl) ?_
    refine wp_in (L := [some (.int _), some (.int (0)), some (.int (-1))]) (Nat.le_of_ble_eq_true rfl) rfl ?_
    refine g_iload_n m107_0 rfl ?_
    refine g_iload_n m107_1 rfl ?_
    refine g_ic_ltT m107_2 ((lt_k (a := (s1).toInt) (b := 0) (by rfl) (by rfl)).mpr (by omega)) ?_
    refine g_iconst m107_14 ?_
    refine g_zret m107_15 rfl (Or.inl rfl) ?_
    refine gwst (st' := [.int (0)]) rfl ?_
    refine g_zret m113_13 rfl (Or.inl rfl) ?_
    refine gwst (st' := [.int (0)]) rfl ?_
    refine g_if_eqT m158_5 (by decide) ?_
    refine g_aload_n m158_18 rfl ?_
    refine g_ldci m158_19 rfl ?_
    refine g_cv (args := [.int (-1000000001)]) (rest := []) m158_21 (Nat.le_of_ble_eq_true rfl) rfl rfl rfl (Nat.le_of_ble_eq_true rfl) ?_
    refine wp_in (L := [some (.ref 89), some (.int (-1000000001))]) (Nat.le_of_ble_eq_true rfl) rfl ?_
    refine g_aload_n m108_0 rfl ?_
    refine g_gf m108_1 rfl rfl ?_
    refine g_ldci m108_4 rfl ?_
    refine g_iload_n m108_6 rfl ?_
    refine g_isub (u := (1 : Int32)) m108_7 (by decide) ?_
    refine g_dup2 m108_8 rfl rfl ?_
    refine g_iald (x := (0 : Int32)) m108_9 rfl (vin rfl) rfl ?_
    refine g_iconst m108_10 ?_
    refine g_iadd (u := (1 : Int32)) m108_11 (by decide) ?_
    refine g_iast m108_12 (Nat.le_of_ble_eq_true rfl) rfl (vin rfl) rfl rfl rfl ?_
    refine g_iload_n m108_13 rfl ?_
    refine g_iret m108_14 rfl ?_
    refine gwst (st' := [.int (-1000000001)]) rfl ?_
    refine g_iret m158_24 rfl ?_
    refine gwst (st' := [.int (-1000000001), .int (-1000000001)]) rfl ?_
    refine g_ic_eqT m190_777 (by decide) ?_
    refine g_iinc (x2 := (6 : Int32)) (L2 := [some (.ref 0), some (.ref 32), some (.ref 89), some (.int (6))]) m190_1428 rfl (by decide) rfl rfl ?_
    refine g_goto m190_1431 ?_
    refine g_iload_n m190_18 rfl ?_
    refine g_aload_n m190_19 rfl ?_
    refine g_alen (n := 6) m190_20 rfl (Or.inl rfl) rfl ?_
    refine g_bipush m190_21 ?_
    refine g_isub (u := (0 : Int32)) m190_23 (by decide) ?_
    refine g_ic_gtT m190_24 (by decide) ?_
    refine g_iconst m190_1434 ?_
    refine g_zret m190_1435 rfl (Or.inr rfl) ?_
    exact rfl
  · have d2 : ¬ ((s1).toInt < 0) := fun q => c1 ((lt_k (by rfl) (by rfl)).mpr q)
    refine g_iload_n m60_4 rfl ?_
    refine g_aload_n m60_5 rfl ?_
    refine g_gf m60_6 rfl rfl ?_
    refine g_gf m60_9 rfl rfl ?_
    refine g_ic_geT m60_12 ((le_k (a := 0) (b := (s1).toInt) (by rfl) (by rfl)).mpr (by omega)) ?_
    refine g_iconst m60_19 ?_
    refine g_zret m60_20 rfl (Or.inl rfl) ?_
    refine gwst (st' := [.int (0)]) rfl ?_
    refine g_if_eqT m78_5 (by decide) ?_
    refine g_aload_n m78_19 rfl ?_
    refine g_iconst m78_20 ?_
    refine g_cv (args := [.int (1)]) (rest := []) m78_21 (Nat.le_of_ble_eq_true rfl) rfl rfl rfl (Nat.le_of_ble_eq_true rfl) ?_
    refine wp_in (L := [some (.ref 32), some (.int (1))]) (Nat.le_of_ble_eq_true rfl) rfl ?_
    refine g_aload_n m55_0 rfl ?_
    refine g_gf m55_1 rfl rfl ?_
    refine g_iload_n m55_4 rfl ?_
    refine g_dup2 m55_5 rfl rfl ?_
    refine g_iald (x := (0 : Int32)) m55_6 rfl (vin rfl) rfl ?_
    refine g_iconst m55_7 ?_
    refine g_iadd (u := (1 : Int32)) m55_8 (by decide) ?_
    refine g_iast m55_9 (Nat.le_of_ble_eq_true rfl) rfl (vin rfl) rfl rfl rfl ?_
    refine g_ldcw m55_10 ?_
    refine g_iload_n m55_13 rfl ?_
    refine g_isub (u := (-1000000001 : Int32)) m55_14 (by decide) ?_
    refine g_iret m55_15 rfl ?_
    refine gwst (st' := [.int (-1000000001)]) rfl ?_
    refine g_iret m78_24 rfl ?_
    refine gwst (st' := [.int (-1000000001)]) rfl ?_
    refine FRg rfl (fun f => ?_)
    refine g_aload_n m190_763 rfl ?_
    refine g_aload_n m190_764 rfl ?_
    refine g_iload_n m190_765 rfl ?_
    refine g_iconst m190_766 ?_
    refine g_iadd (u := (1 : Int32)) m190_767 (by decide) ?_
    refine g_iald (x := s1) m190_768 rfl (vin rfl) rfl ?_
    refine g_aload_n m190_769 rfl ?_
    refine g_iload_n m190_770 rfl ?_
    refine g_iconst m190_771 ?_
    refine g_iadd (u := (2 : Int32)) m190_772 (by decide) ?_
    refine g_iald (x := s2) m190_773 rfl (vin rfl) rfl ?_
    refine g_cv (args := [.int _, .int _]) (rest := [.int (-1000000001)]) m190_774 (Nat.le_of_ble_eq_true rfl) rfl rfl rfl (Nat.le_of_ble_eq_true rfl) ?_
    refine wp_in (L := [some (.ref 89), some (.int _), some (.int _), none]) (Nat.le_of_ble_eq_true rfl) rfl ?_
    refine g_aload_n m158_0 rfl ?_
    refine g_iload_n m158_1 rfl ?_
    refine g_cv (args := [.int _]) (rest := []) m158_2 (Nat.le_of_ble_eq_true rfl) rfl rfl rfl (Nat.le_of_ble_eq_true rfl) ?_
    refine wp_in (L := [some (.ref 89), some (.int _)]) (Nat.le_of_ble_eq_true rfl) rfl ?_
    refine g_iload_n m113_0 rfl ?_
    refine g_iconst m113_1 ?_
    refine g_aload_n m113_2 rfl ?_
    refine g_gf m113_3 rfl rfl ?_
    refine g_iconst m113_6 ?_
    refine g_iald (x := (0 : Int32)) m113_7 rfl (vin rfl) rfl ?_
    refine g_iconst m113_8 ?_
    refine g_isub (u := (-1 : Int32)) m113_9 (by decide) ?_
    refine g_cs (args := [.int _, .int (0), .int (-1)]) (rest := []) 0 (Or.inl rfl) m113_10 (Nat.le_of_ble_eq_true rfl) rfl rfl (Nat.le_of_ble_eq_true rfl) ?_
    refine wp_in (L := [some (.int _), some (.int (0)), some (.int (-1))]) (Nat.le_of_ble_eq_true rfl) rfl ?_
    refine g_iload_n m107_0 rfl ?_
    refine g_iload_n m107_1 rfl ?_
    refine g_ic_ltF m107_2 (fun q => absurd ((lt_k (a := (s1).toInt) (b := 0) (by rfl) (by rfl)).mp q) (by omega)) ?_
    refine g_iload_n m107_5 rfl ?_
    refine g_iload_n m107_6 rfl ?_
    refine g_ic_gtT m107_7 ((lt_k (a := (-1)) (b := (s1).toInt) (by rfl) (by rfl)).mpr (by omega)) ?_
    refine g_iconst m107_14 ?_
    refine g_zret m107_15 rfl (Or.inl rfl) ?_
    refine gwst (st' := [.int (0)]) rfl ?_
    refine g_zret m113_13 rfl (Or.inl rfl) ?_
    refine gwst (st' := [.int (0)]) rfl ?_
    refine g_if_eqT m158_5 (by decide) ?_
    refine g_aload_n m158_18 rfl ?_
    refine g_ldci m158_19 rfl ?_
    refine g_cv (args := [.int (-1000000001)]) (rest := []) m158_21 (Nat.le_of_ble_eq_true rfl) rfl rfl rfl (Nat.le_of_ble_eq_true rfl) ?_
    refine wp_in (L := [some (.ref 89), some (.int (-1000000001))]) (Nat.le_of_ble_eq_true rfl) rfl ?_
    refine g_aload_n m108_0 rfl ?_
    refine g_gf m108_1 rfl rfl ?_
    refine g_ldci m108_4 rfl ?_
    refine g_iload_n m108_6 rfl ?_
    refine g_isub (u := (1 : Int32)) m108_7 (by decide) ?_
    refine g_dup2 m108_8 rfl rfl ?_
    refine g_iald (x := (0 : Int32)) m108_9 rfl (vin rfl) rfl ?_
    refine g_iconst m108_10 ?_
    refine g_iadd (u := (1 : Int32)) m108_11 (by decide) ?_
    refine g_iast m108_12 (Nat.le_of_ble_eq_true rfl) rfl (vin rfl) rfl rfl rfl ?_
    refine g_iload_n m108_13 rfl ?_
    refine g_iret m108_14 rfl ?_
    refine gwst (st' := [.int (-1000000001)]) rfl ?_
    refine g_iret m158_24 rfl ?_
    refine gwst (st' := [.int (-1000000001), .int (-1000000001)]) rfl ?_
    refine g_ic_eqT m190_777 (by decide) ?_
    refine g_iinc (x2 := (6 : Int32)) (L2 := [some (.ref 0), some (.ref 32), some (.ref 89), some (.int (6))]) m190_1428 rfl (by decide) rfl rfl ?_
    refine g_goto m190_1431 ?_
    refine g_iload_n m190_18 rfl ?_
    refine g_aload_n m190_19 rfl ?_
    refine g_alen (n := 6) m190_20 rfl (Or.inl rfl) rfl ?_
    refine g_bipush m190_21 ?_
    refine g_isub (u := (0 : Int32)) m190_23 (by decide) ?_
    refine g_ic_gtT m190_24 (by decide) ?_
    refine g_iconst m190_1434 ?_
    refine g_zret m190_1435 rfl (Or.inr rfl) ?_
    exact rfl
