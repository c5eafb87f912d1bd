/-! THE LAW'S CASES 18, 19, 20, 21, 22, over two new objects -/
set_option maxRecDepth 20000 in
set_option maxHeartbeats 40000000 in
theorem lc_18 {s0 s1 s2 s3 s4 s5 : Int32} {d mc ms : Nat} : gw [s0, s1, s2, s3, s4, s5] (WP [s0, s1, s2, s3, s4, s5] (d + 20)) 190 (fun r _ => r = some (.int 1)) 782 [some (.ref 0), some (.ref 32), some (.ref 89), some (.int 0)] [] (hX0 ++ hM0) mc ms := by
  refine g_aload_n m190_782 rfl ?_
  refine g_aload_n m190_783 rfl ?_
  refine g_iload_n m190_784 rfl ?_
  refine g_iconst m190_785 ?_
  refine g_iadd (u := (1 : Int32)) m190_786 (by decide) ?_
  refine g_iald (x := s1) m190_787 rfl (vin rfl) rfl ?_
  refine g_aload_n m190_788 rfl ?_
  refine g_iload_n m190_789 rfl ?_
  refine g_iconst m190_790 ?_
  refine g_iadd (u := (2 : Int32)) m190_791 (by decide) ?_
  refine g_iald (x := s2) m190_792 rfl (vin rfl) rfl ?_
  refine g_cv (args := [.int _, .int _]) (rest := []) m190_793 (Nat.le_of_ble_eq_true rfl) rfl rfl rfl (Nat.le_of_ble_eq_true rfl) ?_
  refine wp_in (L := [some (.ref 32), some (.int _), some (.int _), none, none]) (Nat.le_of_ble_eq_true rfl) rfl ?_
  refine g_iload_n m80_0 rfl ?_
  refine g_aload_n m80_1 rfl ?_
  refine g_gf m80_2 rfl rfl ?_
  refine g_gf m80_5 rfl rfl ?_
  refine g_iushr m80_8 (ushr0 _) ?_
  refine g_if_ne m80_9 (fun c1 => ?_) (fun c1 => ?_)
  · have d2 : (s1).toInt = 0 := (eq_k (by rfl) (by rfl)).mp c1
    refine g_iload_n m80_12 rfl ?_
    refine g_iconst m80_13 ?_
    refine g_ic_lt m80_14 (fun c3 => ?_) (fun c3 => ?_)
    · have d4 : (s2).toInt < 1 := (lt_k (by rfl) (by rfl)).mp c3
      refine g_aload_n m80_23 rfl ?_
      refine g_iconst m80_24 ?_
      refine g_cv (args := [.int (1)]) (rest := []) m80_25 (Nat.le_of_ble_eq_true rfl) rfl rfl rfl (Nat.le_of_ble_eq_true rfl) ?_
      refine wp_in (L := [some (.ref 32), some (.int (1))]) (Nat.le_of_ble_eq_true rfl) rfl ?_
      refine g_aload_n m55_0 rfl ?_
      refine g_gf m55_1 rfl rfl ?_
      refine g_iload_n m55_4 rfl ?_
      refine g_dup2 m55_5 rfl rfl ?_
      refine g_iald (x := (0 : Int32)) m55_6 rfl (vin rfl) rfl ?_
      refine g_iconst m55_7 ?_
      refine g_iadd (u := (1 : Int32)) m55_8 (by decide) ?_
      refine g_iast m55_9 (Nat.le_of_ble_eq_true rfl) rfl (vin rfl) rfl rfl rfl ?_
      refine g_ldcw m55_10 ?_
      refine g_iload_n m55_13 rfl ?_
      refine g_isub (u := (-1000000001 : Int32)) m55_14 (by decide) ?_
      refine g_iret m55_15 rfl ?_
      refine gwst (st' := [.int (-1000000001)]) rfl ?_
      refine g_iret m80_28 rfl ?_
      refine gwst (st' := [.int (-1000000001)]) rfl ?_
      refine FRg rfl (fun f => ?_)
      refine g_aload_n m190_796 rfl ?_
      refine g_aload_n m190_797 rfl ?_
      refine g_iload_n m190_798 rfl ?_
      refine g_iconst m190_799 ?_
      refine g_iadd (u := (1 : Int32)) m190_800 (by decide) ?_
      refine g_iald (x := s1) m190_801 rfl (vin rfl) rfl ?_
      refine g_aload_n m190_802 rfl ?_
      refine g_iload_n m190_803 rfl ?_
      refine g_iconst m190_804 ?_
      refine g_iadd (u := (2 : Int32)) m190_805 (by decide) ?_
      refine g_iald (x := s2) m190_806 rfl (vin rfl) rfl ?_
      refine g_cv (args := [.int _, .int _]) (rest := [.int (-1000000001)]) m190_807 (Nat.le_of_ble_eq_true rfl) rfl rfl rfl (Nat.le_of_ble_eq_true rfl) ?_
      refine wp_in (L := [some (.ref 89), some (.int _), some (.int _), none]) (Nat.le_of_ble_eq_true rfl) rfl ?_
      refine g_iload_n m159_0 rfl ?_
      refine g_iconst m159_1 ?_
      refine g_iconst m159_2 ?_
      refine g_aload_n m159_3 rfl ?_
      refine g_gf m159_4 rfl rfl ?_
      refine g_iconst m159_7 ?_
      refine g_iald (x := (0 : Int32)) m159_8 rfl (vin rfl) rfl ?_
      refine g_ishl (u := (1 : Int32)) m159_9 (by decide) ?_
      refine g_iconst m159_10 ?_
      refine g_isub (u := (0 : Int32)) m159_11 (by decide) ?_
      refine g_cs (args := [.int _, .int (0), .int (0)]) (rest := []) 0 (Or.inl rfl) m159_12 (Nat.le_of_ble_eq_true rfl) rfl rfl (Nat.le_of_ble_eq_true rfl) ?_
      refine wp_in (L := [some (.int _), some (.int (0)), some (.int (0))]) (Nat.le_of_ble_eq_true rfl) rfl ?_
      refine g_iload_n m107_0 rfl ?_
      refine g_iload_n m107_1 rfl ?_
      refine g_ic_ltF m107_2 (fun q => absurd ((lt_k (a := (s1).toInt) (b := 0) (by rfl) (by rfl)).mp q) (by omega)) ?_
      refine g_iload_n m107_5 rfl ?_
      refine g_iload_n m107_6 rfl ?_
      refine g_ic_gtF m107_7 (fun q => absurd ((lt_k (a := 0) (b := (s1).toInt) (by rfl) (by rfl)).mp q) (by omega)) ?_
      refine g_iconst m107_10 ?_
      refine g_goto m107_11 ?_
      refine g_zret m107_15 rfl (Or.inr rfl) ?_
      refine gwst (st' := [.int (1)]) rfl ?_
      refine g_if_eqF m159_15 (by decide) ?_
      refine g_iload_n m159_18 rfl ?_
      refine g_iconst m159_19 ?_
      refine g_bipush m159_20 ?_
      refine g_cs (args := [.int _, .int (1), .int (60)]) (rest := []) 0 (Or.inl rfl) m159_22 (Nat.le_of_ble_eq_true rfl) rfl rfl (Nat.le_of_ble_eq_true rfl) ?_
      refine wp_in (L := [some (.int _), some (.int (1)), some (.int (60))]) (Nat.le_of_ble_eq_true rfl) rfl ?_
      refine g_iload_n m107_0 rfl ?_
      refine g_iload_n m107_1 rfl ?_
      refine g_ic_ltT m107_2 ((lt_k (a := (s2).toInt) (b := 1) (by rfl) (by rfl)).mpr (by omega)) ?_
      refine g_iconst m107_14 ?_
      refine g_zret m107_15 rfl (Or.inl rfl) ?_
      refine gwst (st' := [.int (0)]) rfl ?_
      refine g_if_neT m159_25 (by decide) ?_
      refine g_aload_n m159_28 rfl ?_
      refine g_ldci m159_29 rfl ?_
      refine g_cv (args := [.int (-1000000001)]) (rest := []) m159_31 (Nat.le_of_ble_eq_true rfl) rfl rfl rfl (Nat.le_of_ble_eq_true rfl) ?_
      refine wp_in (L := [some (.ref 89), some (.int (-1000000001))]) (Nat.le_of_ble_eq_true rfl) rfl ?_
      refine g_aload_n m108_0 rfl ?_
      refine g_gf m108_1 rfl rfl ?_
      refine g_ldci m108_4 rfl ?_
      refine g_iload_n m108_6 rfl ?_
      refine g_isub (u := (1 : Int32)) m108_7 (by decide) ?_
      refine g_dup2 m108_8 rfl rfl ?_
      refine g_iald (x := (0 : Int32)) m108_9 rfl (vin rfl) rfl ?_
      refine g_iconst m108_10 ?_
      refine g_iadd (u := (1 : Int32)) m108_11 (by decide) ?_
      refine g_iast m108_12 (Nat.le_of_ble_eq_true rfl) rfl (vin rfl) rfl rfl rfl ?_
      refine g_iload_n m108_13 rfl ?_
      refine g_iret m108_14 rfl ?_
      refine gwst (st' := [.int (-1000000001)]) rfl ?_
      refine g_iret m159_34 rfl ?_
      refine gwst (st' := [.int (-1000000001), .int (-1000000001)]) rfl ?_
      refine g_ic_eqT m190_810 (by decide) ?_
      refine g_iinc (x2 := (6 : Int32)) (L2 := [some (.ref 0), some (.ref 32), some (.ref 89), some (.int (6))]) m190_1428 rfl (by decide) rfl rfl ?_
      refine g_goto m190_1431 ?_
      refine g_iload_n m190_18 rfl ?_
      refine g_aload_n m190_19 rfl ?_
      refine g_alen (n := 6) m190_20 rfl (Or.inl rfl) rfl ?_
      refine g_bipush m190_21 ?_
      refine g_isub (u := (0 : Int32)) m190_23 (by decide) ?_
      refine g_ic_gtT m190_24 (by decide) ?_
      refine g_iconst m190_1434 ?_
      refine g_zret m190_1435 rfl (Or.inr rfl) ?_
      exact rfl
    · have d4 : ¬ ((s2).toInt < 1) := fun q => c3 ((lt_k (by rfl) (by rfl)).mpr q)
      refine g_iload_n m80_17 rfl ?_
      refine g_bipush m80_18 ?_
      refine g_ic_le m80_20 (fun c5 => ?_) (fun c5 => ?_)
      · have d6 : (s2).toInt ≤ 60 := (le_k (by rfl) (by rfl)).mp c5
        refine g_iconst m80_29 ?_
        refine g_istore_n (L2 := [some (.ref 32), some (.int _), some (.int _), some (.int (0)), none]) m80_30 rfl rfl ?_
        refine g_iload_n m80_31 rfl ?_
        refine g_bipush m80_32 ?_
        refine g_ic_geF m80_34 (by decide) ?_
        refine g_aload_n m80_37 rfl ?_
        refine g_cv (args := []) (rest := []) m80_38 (Nat.le_of_ble_eq_true rfl) rfl rfl rfl (Nat.le_of_ble_eq_true rfl) ?_
        refine WPh (h' := hF 0 0 1 ++ hM0) (by decide +kernel) (c_think ?_)
        refine gwst (st' := [.ref 42]) rfl ?_
        refine g_astore (L2 := [some (.ref 32), some (.int _), some (.int _), some (.int (0)), some (.ref 42)]) m80_41 rfl rfl ?_
        refine g_aload m80_43 rfl ?_
        refine g_iload_n m80_45 rfl ?_
        refine g_iload_n m80_46 rfl ?_
        refine g_cv (args := [.int _, .int (0)]) (rest := []) m80_47 (Nat.le_of_ble_eq_true rfl) rfl rfl rfl (Nat.le_of_ble_eq_true rfl) ?_
        refine wp_in (L := [some (.ref 42), some (.int _), some (.int (0)), none]) (Nat.le_of_ble_eq_true rfl) rfl ?_
        refine g_iconst m44_0 ?_
        refine g_istore_n (L2 := [some (.ref 42), some (.int _), some (.int (0)), some (.int (0))]) m44_1 rfl rfl ?_
        refine g_iload_n m44_2 rfl ?_
        refine g_aload_n m44_3 rfl ?_
        refine g_gf m44_4 rfl rfl ?_
        refine g_ic_geT m44_7 (by decide) ?_
        refine g_vret m44_31 ?_
        refine gwst (st' := []) rfl ?_
        refine g_aload m80_50 rfl ?_
        refine g_iload_n m80_52 rfl ?_
        refine g_cv (args := [.int _]) (rest := []) m80_53 (Nat.le_of_ble_eq_true rfl) rfl rfl rfl (Nat.le_of_ble_eq_true rfl) ?_
        refine WPh (h' := hF 0 0 1 ++ hM0) (by decide +kernel) (c_goOn42 (by omega) (by omega) ?_)
        refine gwst (st' := []) rfl ?_
        refine g_aload_n m80_56 rfl ?_
        refine g_aload m80_57 rfl ?_
        refine g_iload_n m80_59 rfl ?_
        refine g_cv (args := [.ref 42, .int _]) (rest := []) m80_60 (Nat.le_of_ble_eq_true rfl) rfl rfl rfl (Nat.le_of_ble_eq_true rfl) ?_
        refine wp_in (L := [some (.ref 32), some (.ref 42), some (.int _), none]) (Nat.le_of_ble_eq_true rfl) rfl ?_
        refine g_iconst m79_0 ?_
        refine g_istore_n (L2 := [some (.ref 32), some (.ref 42), some (.int _), some (.int (0))]) m79_1 rfl rfl ?_
        refine g_iload_n m79_2 rfl ?_
        refine g_aload_n m79_3 rfl ?_
        refine g_gf m79_4 rfl rfl ?_
        refine g_gf m79_7 rfl rfl ?_
        refine g_ic_geT m79_10 (by decide) ?_
        refine g_iconst m79_47 ?_
        refine g_zret m79_48 rfl (Or.inr rfl) ?_
        refine gwst (st' := [.int (1)]) rfl ?_
        refine g_if_eqF m80_63 (by decide) ?_
        refine g_iload_n m80_66 rfl ?_
        refine g_iret m80_67 rfl ?_
        refine gwst (st' := [.int (0)]) rfl ?_
        refine FRg rfl (fun f => ?_)
        refine g_aload_n m190_796 rfl ?_
        refine g_aload_n m190_797 rfl ?_
        refine g_iload_n m190_798 rfl ?_
        refine g_iconst m190_799 ?_
        refine g_iadd (u := (1 : Int32)) m190_800 (by decide) ?_
        refine g_iald (x := s1) m190_801 rfl (vin rfl) rfl ?_
        refine g_aload_n m190_802 rfl ?_
        refine g_iload_n m190_803 rfl ?_
        refine g_iconst m190_804 ?_
        refine g_iadd (u := (2 : Int32)) m190_805 (by decide) ?_
        refine g_iald (x := s2) m190_806 rfl (vin rfl) rfl ?_
        refine g_cv (args := [.int _, .int _]) (rest := [.int (0)]) m190_807 (Nat.le_of_ble_eq_true rfl) rfl rfl rfl (Nat.le_of_ble_eq_true rfl) ?_
        refine wp_in (L := [some (.ref 89), some (.int _), some (.int _), none]) (Nat.le_of_ble_eq_true rfl) rfl ?_
        refine g_iload_n m159_0 rfl ?_
        refine g_iconst m159_1 ?_
        refine g_iconst m159_2 ?_
        refine g_aload_n m159_3 rfl ?_
        refine g_gf m159_4 rfl rfl ?_
        refine g_iconst m159_7 ?_
        refine g_iald (x := (0 : Int32)) m159_8 rfl (vin rfl) rfl ?_
        refine g_ishl (u := (1 : Int32)) m159_9 (by decide) ?_
        refine g_iconst m159_10 ?_
        refine g_isub (u := (0 : Int32)) m159_11 (by decide) ?_
        refine g_cs (args := [.int _, .int (0), .int (0)]) (rest := []) 0 (Or.inl rfl) m159_12 (Nat.le_of_ble_eq_true rfl) rfl rfl (Nat.le_of_ble_eq_true rfl) ?_
        refine wp_in (L := [some (.int _), some (.int (0)), some (.int (0))]) (Nat.le_of_ble_eq_true rfl) rfl ?_
        refine g_iload_n m107_0 rfl ?_
        refine g_iload_n m107_1 rfl ?_
        refine g_ic_ltF m107_2 (fun q => absurd ((lt_k (a := (s1).toInt) (b := 0) (by rfl) (by rfl)).mp q) (by omega)) ?_
        refine g_iload_n m107_5 rfl ?_
        refine g_iload_n m107_6 rfl ?_
        refine g_ic_gtF m107_7 (fun q => absurd ((lt_k (a := 0) (b := (s1).toInt) (by rfl) (by rfl)).mp q) (by omega)) ?_
        refine g_iconst m107_10 ?_
        refine g_goto m107_11 ?_
        refine g_zret m107_15 rfl (Or.inr rfl) ?_
        refine gwst (st' := [.int (1)]) rfl ?_
        refine g_if_eqF m159_15 (by decide) ?_
        refine g_iload_n m159_18 rfl ?_
        refine g_iconst m159_19 ?_
        refine g_bipush m159_20 ?_
        refine g_cs (args := [.int _, .int (1), .int (60)]) (rest := []) 0 (Or.inl rfl) m159_22 (Nat.le_of_ble_eq_true rfl) rfl rfl (Nat.le_of_ble_eq_true rfl) ?_
        refine wp_in (L := [some (.int _), some (.int (1)), some (.int (60))]) (Nat.le_of_ble_eq_true rfl) rfl ?_
        refine g_iload_n m107_0 rfl ?_
        refine g_iload_n m107_1 rfl ?_
        refine g_ic_ltF m107_2 (fun q => absurd ((lt_k (a := (s2).toInt) (b := 1) (by rfl) (by rfl)).mp q) (by omega)) ?_
        refine g_iload_n m107_5 rfl ?_
        refine g_iload_n m107_6 rfl ?_
        refine g_ic_gtF m107_7 (fun q => absurd ((lt_k (a := 60) (b := (s2).toInt) (by rfl) (by rfl)).mp q) (by omega)) ?_
        refine g_iconst m107_10 ?_
        refine g_goto m107_11 ?_
        refine g_zret m107_15 rfl (Or.inr rfl) ?_
        refine gwst (st' := [.int (1)]) rfl ?_
        refine g_if_neF m159_25 (by decide) ?_
        refine g_aload_n m159_35 rfl ?_
        refine g_iload_n m159_36 rfl ?_
        refine g_iload_n m159_37 rfl ?_
        refine g_cv (args := [.int _, .int _]) (rest := []) m159_38 (Nat.le_of_ble_eq_true rfl) rfl rfl rfl (Nat.le_of_ble_eq_true rfl) ?_
        refine wp_in (L := [some (.ref 89), some (.int _), some (.int _), none]) (Nat.le_of_ble_eq_true rfl) rfl ?_
        refine g_iconst m157_0 ?_
        refine g_istore_n (L2 := [some (.ref 89), some (.int _), some (.int _), some (.int (0))]) m157_1 rfl rfl ?_
        refine g_iload_n m157_2 rfl ?_
        refine g_bipush m157_3 ?_
        refine g_ic_gtF m157_5 (by decide) ?_
        refine g_iload_n m157_8 rfl ?_
        refine g_aload_n m157_9 rfl ?_
        refine g_iload_n m157_10 rfl ?_
        refine g_iload_n m157_11 rfl ?_
        refine g_iload_n m157_12 rfl ?_
        refine g_cv (args := [.int _, .int (0), .int _]) (rest := [.int _]) m157_13 (Nat.le_of_ble_eq_true rfl) rfl rfl rfl (Nat.le_of_ble_eq_true rfl) ?_
        refine wp_in (L := [some (.ref 89), some (.int _), some (.int (0)), some (.int _), none]) (Nat.le_of_ble_eq_true rfl) rfl ?_
        refine g_aload_n m155_0 rfl ?_
        refine g_aload_n m155_1 rfl ?_
        refine g_gf m155_2 rfl rfl ?_
        refine g_aload_n m155_5 rfl ?_
        refine g_gf m155_6 rfl rfl ?_
        refine g_cv (args := [.ref 90, .ref 92]) (rest := []) m155_9 (Nat.le_of_ble_eq_true rfl) rfl rfl rfl (Nat.le_of_ble_eq_true rfl) ?_
        refine c_moveAll rfl (Nat.le_of_ble_eq_true rfl) rfl (by rfl) (by rfl) (by decide) ?_
        refine gwst (st' := []) rfl ?_
        refine g_iconst m155_12 ?_
        refine g_istore (L2 := [some (.ref 89), some (.int _), some (.int (0)), some (.int _), some (.int (0))]) m155_13 rfl rfl ?_
        refine g_iload m155_15 rfl ?_
        refine g_aload_n m155_17 rfl ?_
        refine g_gf m155_18 rfl rfl ?_
        refine g_iconst m155_21 ?_
        refine g_iald (x := (0 : Int32)) m155_22 rfl (vin rfl) rfl ?_
        refine g_ic_geT m155_23 (by decide) ?_
        refine g_aload_n m155_64 rfl ?_
        refine g_iload_n m155_65 rfl ?_
        refine g_cv (args := [.int _]) (rest := []) m155_66 (Nat.le_of_ble_eq_true rfl) rfl rfl rfl (Nat.le_of_ble_eq_true rfl) ?_
        refine WPh (h' := pad f ++ hG 0 1 (.inl (0, [0, 1, 0, 0, 0, -1, -1, 1, 5, 5, 5, 5, 5, 5, 5, 5, 0, 0, 0, 0, 0, 0, 0, 0, 0, 0, 0, 0, 0, 0, 0, 0, 0, 0, 0, 0, 0, 0, 0, 0, 0, 0, 0, 0, 0, 0, 0, 0, 0, 0, 0, 0, 0, 0, 0, 0, 0, 0, 0, 0, 0, 0, 0, 0, 0, 0, 0, 0, 0, 0, 0, 0, 0, 0, 0, 0, 0, 0, 0, 0, 0, 0, 0, 0, 0, 0, 0, 0, 0, 0, 0, 0, 0, 0, 0, 0, 0, 0, 0, 0, 0, 0, 0, 0, 0, 0, 0, 0, 0, 0, 0, 0, 0, 0, 0, 0, 0, 0, 0, 0, 0, 0, 0, 0, 0, 0, 0, 0, 0, 0, 0, 0, 0, 0, 0, 0, 0, 0, 0, 0, 0, 0, 0, 0, 0, 0, 0, 0, 0, 0, 0, 0, 0, 0, 0, 0, 0, 0, 0, 0, 0, 0, 0, 0, 0, 0, 0, 0, 0, 0, 0, 0, 0, 0, 0, 0, 0, 0, 0, 0, 0, 0, 0, 0, 0, 0, 0, 0, 0, 0, 0, 0, 0, 0, 0, 0, 0, 0, 0, 0, 0, 0, 0, 0, 0, 0, 0, 0, 0, 0, 0, 0, 0, 0, 0, 0, 0, 0, 0, 0, 0, 0, 0, 0, 0, 0, 0, 0, 0, 0, 0, 0, 0, 0])) (.inl (0, List.replicate 234 0))) rfl (c_passes (by omega) (by omega) ?_)
        refine gwst (st' := []) rfl ?_
        refine g_aload_n m155_69 rfl ?_
        refine g_aload_n m155_70 rfl ?_
        refine g_gf m155_71 rfl rfl ?_
        refine g_cv (args := [.ref 92]) (rest := []) m155_74 (Nat.le_of_ble_eq_true rfl) rfl rfl rfl (Nat.le_of_ble_eq_true rfl) ?_
        refine wp_in (L := [some (.ref 89), some (.ref 92), none, none]) (Nat.le_of_ble_eq_true rfl) rfl ?_
        refine g_iconst m154_0 ?_
        refine g_istore_n (L2 := [some (.ref 89), some (.ref 92), some (.int (0)), none]) m154_1 rfl rfl ?_
        refine g_iconst m154_2 ?_
        refine g_istore_n (L2 := [some (.ref 89), some (.ref 92), some (.int (0)), some (.int (0))]) m154_3 rfl rfl ?_
        refine g_iload_n m154_4 rfl ?_
        refine g_aload_n m154_5 rfl ?_
        refine g_gf m154_6 rfl rfl ?_
        refine g_iconst m154_9 ?_
        refine g_iald (x := (0 : Int32)) m154_10 rfl (vin rfl) rfl ?_
        refine g_ic_geT m154_11 (by decide) ?_
        refine g_iload_n m154_50 rfl ?_
        refine g_iret m154_51 rfl ?_
        refine gwst (st' := [.int (0)]) rfl ?_
        refine g_istore (L2 := [some (.ref 89), some (.int _), some (.int (0)), some (.int _), some (.int (0))]) m155_77 rfl rfl ?_
        refine g_aload_n m155_79 rfl ?_
        refine g_aload_n m155_80 rfl ?_
        refine g_gf m155_81 rfl rfl ?_
        refine g_aload_n m155_84 rfl ?_
        refine g_gf m155_85 rfl rfl ?_
        refine g_cv (args := [.ref 92, .ref 90]) (rest := []) m155_88 (Nat.le_of_ble_eq_true rfl) rfl rfl rfl (Nat.le_of_ble_eq_true rfl) ?_
        refine c_moveAll rfl (Nat.le_of_ble_eq_true rfl) rfl (by rfl) (by rfl) (by decide) ?_
        refine gwst (st' := []) rfl ?_
        refine g_iload m155_91 rfl ?_
        refine g_iret m155_93 rfl ?_
        refine gwst (st' := [.int (0), .int _]) rfl ?_
        refine g_iconst m157_16 ?_
        refine g_ixor (u := (-1 : Int32)) m157_17 (by decide) ?_
        obtain ⟨j7, e8, x9⟩ := nat_of (x := s1) (lo := 0) (hi := 0) (by omega) (by omega)
        obtain rfl : j7 = 0 := by omega
        have x9q : s1 = (0 : Int32) := x9
        clear x9
        subst x9q
        refine g_iand (u := (0 : Int32)) m157_18 (by decide) ?_
        refine g_if_eqT m157_19 (by decide) ?_
        refine g_iload_n m157_28 rfl ?_
        refine g_bipush m157_29 ?_
        refine g_ic_leT m157_31 (by decide) ?_
        refine g_iload_n m157_38 rfl ?_
        refine g_iret m157_39 rfl ?_
        refine gwst (st' := [.int (0)]) rfl ?_
        refine g_istore_n (L2 := [some (.ref 89), some (.int (0)), some (.int _), some (.int (0))]) m159_41 rfl rfl ?_
        refine g_iload_n m159_42 rfl ?_
        refine g_if_geT m159_43 (by decide) ?_
        refine g_iload_n m159_55 rfl ?_
        refine g_iret m159_56 rfl ?_
        refine gwst (st' := [.int (0), .int (0)]) rfl ?_
        refine g_ic_eqT m190_810 (by decide) ?_
        refine g_iinc (x2 := (6 : Int32)) (L2 := [some (.ref 0), some (.ref 32), some (.ref 89), some (.int (6))]) m190_1428 rfl (by decide) rfl rfl ?_
        refine g_goto m190_1431 ?_
        refine g_iload_n m190_18 rfl ?_
        refine g_aload_n m190_19 rfl ?_
        refine g_alen (n := 6) m190_20 rfl (Or.inl rfl) rfl ?_
        refine g_bipush m190_21 ?_
        refine g_isub (u := (0 : Int32)) m190_23 (by decide) ?_
        refine g_ic_gtT m190_24 (by decide) ?_
        refine g_iconst m190_1434 ?_
        refine g_zret m190_1435 rfl (Or.inr rfl) ?_
        exact rfl
      · have d6 : ¬ ((s2).toInt ≤ 60) := fun q => c5 ((le_k (by rfl) (by rfl)).mpr q)
        refine g_aload_n m80_23 rfl ?_
        refine g_iconst m80_24 ?_
        refine g_cv (args := [.int (1)]) (rest := []) m80_25 (Nat.le_of_ble_eq_true rfl) rfl rfl rfl (Nat.le_of_ble_eq_true rfl) ?_
        refine wp_in (L := [some (.ref 32), some (.int (1))]) (Nat.le_of_ble_eq_true rfl) rfl ?_
        refine g_aload_n m55_0 rfl ?_
        refine g_gf m55_1 rfl rfl ?_
        refine g_iload_n m55_4 rfl ?_
        refine g_dup2 m55_5 rfl rfl ?_
        refine g_iald (x := (0 : Int32)) m55_6 rfl (vin rfl) rfl ?_
        refine g_iconst m55_7 ?_
        refine g_iadd (u := (1 : Int32)) m55_8 (by decide) ?_
        refine g_iast m55_9 (Nat.le_of_ble_eq_true rfl) rfl (vin rfl) rfl rfl rfl ?_
        refine g_ldcw m55_10 ?_
        refine g_iload_n m55_13 rfl ?_
        refine g_isub (u := (-1000000001 : Int32)) m55_14 (by decide) ?_
        refine g_iret m55_15 rfl ?_
        refine gwst (st' := [.int (-1000000001)]) rfl ?_
        refine g_iret m80_28 rfl ?_
        refine gwst (st' := [.int (-1000000001)]) rfl ?_
        refine FRg rfl (fun f => ?_)
        refine g_aload_n m190_796 rfl ?_
        refine g_aload_n m190_797 rfl ?_
        refine g_iload_n m190_798 rfl ?_
        refine g_iconst m190_799 ?_
        refine g_iadd (u := (1 : Int32)) m190_800 (by decide) ?_
        refine g_iald (x := s1) m190_801 rfl (vin rfl) rfl ?_
        refine g_aload_n m190_802 rfl ?_
        refine g_iload_n m190_803 rfl ?_
        refine g_iconst m190_804 ?_
        refine g_iadd (u := (2 : Int32)) m190_805 (by decide) ?_
        refine g_iald (x := s2) m190_806 rfl (vin rfl) rfl ?_
        refine g_cv (args := [.int _, .int _]) (rest := [.int (-1000000001)]) m190_807 (Nat.le_of_ble_eq_true rfl) rfl rfl rfl (Nat.le_of_ble_eq_true rfl) ?_
        refine wp_in (L := [some (.ref 89), some (.int _), some (.int _), none]) (Nat.le_of_ble_eq_true rfl) rfl ?_
        refine g_iload_n m159_0 rfl ?_
        refine g_iconst m159_1 ?_
        refine g_iconst m159_2 ?_
        refine g_aload_n m159_3 rfl ?_
        refine g_gf m159_4 rfl rfl ?_
        refine g_iconst m159_7 ?_
        refine g_iald (x := (0 : Int32)) m159_8 rfl (vin rfl) rfl ?_
        refine g_ishl (u := (1 : Int32)) m159_9 (by decide) ?_
        refine g_iconst m159_10 ?_
        refine g_isub (u := (0 : Int32)) m159_11 (by decide) ?_
        refine g_cs (args := [.int _, .int (0), .int (0)]) (rest := []) 0 (Or.inl rfl) m159_12 (Nat.le_of_ble_eq_true rfl) rfl rfl (Nat.le_of_ble_eq_true rfl) ?_
        refine wp_in (L := [some (.int _), some (.int (0)), some (.int (0))]) (Nat.le_of_ble_eq_true rfl) rfl ?_
        refine g_iload_n m107_0 rfl ?_
        refine g_iload_n m107_1 rfl ?_
        refine g_ic_ltF m107_2 (fun q => absurd ((lt_k (a := (s1).toInt) (b := 0) (by rfl) (by rfl)).mp q) (by omega)) ?_
        refine g_iload_n m107_5 rfl ?_
        refine g_iload_n m107_6 rfl ?_
        refine g_ic_gtF m107_7 (fun q => absurd ((lt_k (a := 0) (b := (s1).toInt) (by rfl) (by rfl)).mp q) (by omega)) ?_
        refine g_iconst m107_10 ?_
        refine g_goto m107_11 ?_
        refine g_zret m107_15 rfl (Or.inr rfl) ?_
        refine gwst (st' := [.int (1)]) rfl ?_
        refine g_if_eqF m159_15 (by decide) ?_
        refine g_iload_n m159_18 rfl ?_
        refine g_iconst m159_19 ?_
        refine g_bipush m159_20 ?_
        refine g_cs (args := [.int _, .int (1), .int (60)]) (rest := []) 0 (Or.inl rfl) m159_22 (Nat.le_of_ble_eq_true rfl) rfl rfl (Nat.le_of_ble_eq_true rfl) ?_
        refine wp_in (L := [some (.int _), some (.int (1)), some (.int (60))]) (Nat.le_of_ble_eq_true rfl) rfl ?_
        refine g_iload_n m107_0 rfl ?_
        refine g_iload_n m107_1 rfl ?_
        refine g_ic_ltF m107_2 (fun q => absurd ((lt_k (a := (s2).toInt) (b := 1) (by rfl) (by rfl)).mp q) (by omega)) ?_
        refine g_iload_n m107_5 rfl ?_
        refine g_iload_n m107_6 rfl ?_
        refine g_ic_gtT m107_7 ((lt_k (a := 60) (b := (s2).toInt) (by rfl) (by rfl)).mpr (by omega)) ?_
        refine g_iconst m107_14 ?_
        refine g_zret m107_15 rfl (Or.inl rfl) ?_
        refine gwst (st' := [.int (0)]) rfl ?_
        refine g_if_neT m159_25 (by decide) ?_
        refine g_aload_n m159_28 rfl ?_
        refine g_ldci m159_29 rfl ?_
        refine g_cv (args := [.int (-1000000001)]) (rest := []) m159_31 (Nat.le_of_ble_eq_true rfl) rfl rfl rfl (Nat.le_of_ble_eq_true rfl) ?_
        refine wp_in (L := [some (.ref 89), some (.int (-1000000001))]) (Nat.le_of_ble_eq_true rfl) rfl ?_
        refine g_aload_n m108_0 rfl ?_
        refine g_gf m108_1 rfl rfl ?_
        refine g_ldci m108_4 rfl ?_
        refine g_iload_n m108_6 rfl ?_
        refine g_isub (u := (1 : Int32)) m108_7 (by decide) ?_
        refine g_dup2 m108_8 rfl rfl ?_
        refine g_iald (x := (0 : Int32)) m108_9 rfl (vin rfl) rfl ?_
        refine g_iconst m108_10 ?_
        refine g_iadd (u := (1 : Int32)) m108_11 (by decide) ?_
        refine g_iast m108_12 (Nat.le_of_ble_eq_true rfl) rfl (vin rfl) rfl rfl rfl ?_
        refine g_iload_n m108_13 rfl ?_
        refine g_iret m108_14 rfl ?_
        refine gwst (st' := [.int (-1000000001)]) rfl ?_
        refine g_iret m159_34 rfl ?_
        refine gwst (st' := [.int (-1000000001), .int (-1000000001)]) rfl ?_
        refine g_ic_eqT m190_810 (by decide) ?_
        refine g_iinc (x2 := (6 : Int32)) (L2 := [some (.ref 0), some (.ref 32), some (.ref 89), some (.int (6))]) m190_1428 rfl (by decide) rfl rfl ?_
        refine g_goto m190_1431 ?_
        refine g_iload_n m190_18 rfl ?_
        refine g_aload_n m190_19 rfl ?_
        refine g_alen (n := 6) m190_20 rfl (Or.inl rfl) rfl ?_
        refine g_bipush m190_21 ?_
        refine g_isub (u := (0 : Int32)) m190_23 (by decide) ?_
        refine g_ic_gtT m190_24 (by decide) ?_
        refine g_iconst m190_1434 ?_
        refine g_zret m190_1435 rfl (Or.inr rfl) ?_
        exact rfl
  · have d2 : ¬ ((s1).toInt = 0) := fun q => c1 ((eq_k (by rfl) (by rfl)).mpr q)
    refine g_aload_n m80_23 rfl ?_
    refine g_iconst m80_24 ?_
    refine g_cv (args := [.int (1)]) (rest := []) m80_25 (Nat.le_of_ble_eq_true rfl) rfl rfl rfl (Nat.le_of_ble_eq_true rfl) ?_
    refine wp_in (L := [some (.ref 32), some (.int (1))]) (Nat.le_of_ble_eq_true rfl) rfl ?_
    refine g_aload_n m55_0 rfl ?_
    refine g_gf m55_1 rfl rfl ?_
    refine g_iload_n m55_4 rfl ?_
    refine g_dup2 m55_5 rfl rfl ?_
    refine g_iald (x := (0 : Int32)) m55_6 rfl (vin rfl) rfl ?_
    refine g_iconst m55_7 ?_
    refine g_iadd (u := (1 : Int32)) m55_8 (by decide) ?_
    refine g_iast m55_9 (Nat.le_of_ble_eq_true rfl) rfl (vin rfl) rfl rfl rfl ?_
    refine g_ldcw m55_10 ?_
    refine g_iload_n m55_13 rfl ?_
    refine g_isub (u := (-1000000001 : Int32)) m55_14 (by decide) ?_
    refine g_iret m55_15 rfl ?_
    refine gwst (st' := [.int (-1000000001)]) rfl ?_
    refine g_iret m80_28 rfl ?_
    refine gwst (st' := [.int (-1000000001)]) rfl ?_
    refine FRg rfl (fun f => ?_)
    refine g_aload_n m190_796 rfl ?_
    refine g_aload_n m190_797 rfl ?_
    refine g_iload_n m190_798 rfl ?_
    refine g_iconst m190_799 ?_
    refine g_iadd (u := (1 : Int32)) m190_800 (by decide) ?_
    refine g_iald (x := s1) m190_801 rfl (vin rfl) rfl ?_
    refine g_aload_n m190_802 rfl ?_
    refine g_iload_n m190_803 rfl ?_
    refine g_iconst m190_804 ?_
    refine g_iadd (u := (2 : Int32)) m190_805 (by decide) ?_
    refine g_iald (x := s2) m190_806 rfl (vin rfl) rfl ?_
    refine g_cv (args := [.int _, .int _]) (rest := [.int (-1000000001)]) m190_807 (Nat.le_of_ble_eq_true rfl) rfl rfl rfl (Nat.le_of_ble_eq_true rfl) ?_
    refine wp_in (L := [some (.ref 89), some (.int _), some (.int _), none]) (Nat.le_of_ble_eq_true rfl) rfl ?_
    refine g_iload_n m159_0 rfl ?_
    refine g_iconst m159_1 ?_
    refine g_iconst m159_2 ?_
    refine g_aload_n m159_3 rfl ?_
    refine g_gf m159_4 rfl rfl ?_
    refine g_iconst m159_7 ?_
    refine g_iald (x := (0 : Int32)) m159_8 rfl (vin rfl) rfl ?_
    refine g_ishl (u := (1 : Int32)) m159_9 (by decide) ?_
    refine g_iconst m159_10 ?_
    refine g_isub (u := (0 : Int32)) m159_11 (by decide) ?_
    refine g_cs (args := [.int _, .int (0), .int (0)]) (rest := []) 0 (Or.inl rfl) m159_12 (Nat.le_of_ble_eq_true rfl) rfl rfl (Nat.le_of_ble_eq_true rfl) ?_
    refine wp_in (L := [some (.int _), some (.int (0)), some (.int (0))]) (Nat.le_of_ble_eq_true rfl) rfl ?_
    refine g_iload_n m107_0 rfl ?_
    refine g_iload_n m107_1 rfl ?_
    refine g_ic_lt m107_2 (fun c10 => ?_) (fun c10 => ?_)
    · have d11 : (s1).toInt < 0 := (lt_k (by rfl) (by rfl)).mp c10
      refine g_iconst m107_14 ?_
      refine g_zret m107_15 rfl (Or.inl rfl) ?_
      refine gwst (st' := [.int (0)]) rfl ?_
      refine g_if_eqT m159_15 (by decide) ?_
      refine g_aload_n m159_28 rfl ?_
      refine g_ldci m159_29 rfl ?_
      refine g_cv (args := [.int (-1000000001)]) (rest := []) m159_31 (Nat.le_of_ble_eq_true rfl) rfl rfl rfl (Nat.le_of_ble_eq_true rfl) ?_
      refine wp_in (L := [some (.ref 89), some (.int (-1000000001))]) (Nat.le_of_ble_eq_true rfl) rfl ?_
      refine g_aload_n m108_0 rfl ?_
      refine g_gf m108_1 rfl rfl ?_
      refine g_ldci m108_4 rfl ?_
      refine g_iload_n m108_6 rfl ?_
      refine g_isub (u := (1 : Int32)) m108_7 (by decide) ?_
      refine g_dup2 m108_8 rfl rfl ?_
      refine g_iald (x := (0 : Int32)) m108_9 rfl (vin rfl) rfl ?_
      refine g_iconst m108_10 ?_
      refine g_iadd (u := (1 : Int32)) m108_11 (by decide) ?_
      refine g_iast m108_12 (Nat.le_of_ble_eq_true rfl) rfl (vin rfl) rfl rfl rfl ?_
      refine g_iload_n m108_13 rfl ?_
      refine g_iret m108_14 rfl ?_
      refine gwst (st' := [.int (-1000000001)]) rfl ?_
      refine g_iret m159_34 rfl ?_
      refine gwst (st' := [.int (-1000000001), .int (-1000000001)]) rfl ?_
      refine g_ic_eqT m190_810 (by decide) ?_
      refine g_iinc (x2 := (6 : Int32)) (L2 := [some (.ref 0), some (.ref 32), some (.ref 89), some (.int (6))]) m190_1428 rfl (by decide) rfl rfl ?_
      refine g_goto m190_1431 ?_
      refine g_iload_n m190_18 rfl ?_
      refine g_aload_n m190_19 rfl ?_
      refine g_alen (n := 6) m190_20 rfl (Or.inl rfl) rfl ?_
      refine g_bipush m190_21 ?_
      refine g_isub (u := (0 : Int32)) m190_23 (by decide) ?_
      refine g_ic_gtT m190_24 (by decide) ?_
      refine g_iconst m190_1434 ?_
      refine g_zret m190_1435 rfl (Or.inr rfl) ?_
      exact rfl
    · have d11 : ¬ ((s1).toInt < 0) := fun q => c10 ((lt_k (by rfl) (by rfl)).mpr q)
      refine g_iload_n m107_5 rfl ?_
      refine g_iload_n m107_6 rfl ?_
      refine g_ic_gt m107_7 (fun c12 => ?_) (fun c12 => ?_)
      · have d13 : 0 < (s1).toInt := (lt_k (by rfl) (by rfl)).mp c12
        refine g_iconst m107_14 ?_
        refine g_zret m107_15 rfl (Or.inl rfl) ?_
        refine gwst (st' := [.int (0)]) rfl ?_
        refine g_if_eqT m159_15 (by decide) ?_
        refine g_aload_n m159_28 rfl ?_
        refine g_ldci m159_29 rfl ?_
        refine g_cv (args := [.int (-1000000001)]) (rest := []) m159_31 (Nat.le_of_ble_eq_true rfl) rfl rfl rfl (Nat.le_of_ble_eq_true rfl) ?_
        refine wp_in (L := [some (.ref 89), some (.int (-1000000001))]) (Nat.le_of_ble_eq_true rfl) rfl ?_
        refine g_aload_n m108_0 rfl ?_
        refine g_gf m108_1 rfl rfl ?_
        refine g_ldci m108_4 rfl ?_
        refine g_iload_n m108_6 rfl ?_
        refine g_isub (u := (1 : Int32)) m108_7 (by decide) ?_
        refine g_dup2 m108_8 rfl rfl ?_
        refine g_iald (x := (0 : Int32)) m108_9 rfl (vin rfl) rfl ?_
        refine g_iconst m108_10 ?_
        refine g_iadd (u := (1 : Int32)) m108_11 (by decide) ?_
        refine g_iast m108_12 (Nat.le_of_ble_eq_true rfl) rfl (vin rfl) rfl rfl rfl ?_
        refine g_iload_n m108_13 rfl ?_
        refine g_iret m108_14 rfl ?_
        refine gwst (st' := [.int (-1000000001)]) rfl ?_
        refine g_iret m159_34 rfl ?_
        refine gwst (st' := [.int (-1000000001), .int (-1000000001)]) rfl ?_
        refine g_ic_eqT m190_810 (by decide) ?_
        refine g_iinc (x2 := (6 : Int32)) (L2 := [some (.ref 0), some (.ref 32), some (.ref 89), some (.int (6))]) m190_1428 rfl (by decide) rfl rfl ?_
        refine g_goto m190_1431 ?_
        refine g_iload_n m190_18 rfl ?_
        refine g_aload_n m190_19 rfl ?_
        refine g_alen (n := 6) m190_20 rfl (Or.inl rfl) rfl ?_
        refine g_bipush m190_21 ?_
        refine g_isub (u := (0 : Int32)) m190_23 (by decide) ?_
        refine g_ic_gtT m190_24 (by decide) ?_
        refine g_iconst m190_1434 ?_
        refine g_zret m190_1435 rfl (Or.inr rfl) ?_
        exact rfl
      · have d13 : ¬ (0 < (s1).toInt) := fun q => c12 ((lt_k (by rfl) (by rfl)).mpr q)
        exfalso
        omega
set_option maxRecDepth 20000 in
set_option maxHeartbeats 40000000 in
theorem lc_19 {s0 s1 s2 s3 s4 s5 : Int32} {d mc ms : Nat} : gw [s0, s1, s2, s3, s4, s5] (WP [s0, s1, s2, s3, s4, s5] (d + 20)) 190 (fun r _ => r = some (.int 1)) 815 [some (.ref 0), some (.ref 32), some (.ref 89), some (.int 0)] [] (hX0 ++ hM0) mc ms := by
  refine g_aload_n m190_815 rfl ?_
  refine g_aload_n m190_816 rfl ?_
  refine g_iload_n m190_817 rfl ?_
  refine g_iconst m190_818 ?_
  refine g_iadd (u := (1 : Int32)) m190_819 (by decide) ?_
  refine g_iald (x := s1) m190_820 rfl (vin rfl) rfl ?_
  refine g_aload_n m190_821 rfl ?_
  refine g_iload_n m190_822 rfl ?_
  refine g_iconst m190_823 ?_
  refine g_iadd (u := (2 : Int32)) m190_824 (by decide) ?_
  refine g_iald (x := s2) m190_825 rfl (vin rfl) rfl ?_
  refine g_cv (args := [.int _, .int _]) (rest := []) m190_826 (Nat.le_of_ble_eq_true rfl) rfl rfl rfl (Nat.le_of_ble_eq_true rfl) ?_
  refine wp_in (L := [some (.ref 32), some (.int _), some (.int _), none, none, none]) (Nat.le_of_ble_eq_true rfl) rfl ?_
  refine g_iload_n m82_0 rfl ?_
  refine g_iconst m82_1 ?_
  refine g_cs (args := [.int _, .int (3)]) (rest := []) 0 (Or.inl rfl) m82_2 (Nat.le_of_ble_eq_true rfl) rfl rfl (Nat.le_of_ble_eq_true rfl) ?_
  refine wp_in (L := [some (.int _), some (.int (3))]) (Nat.le_of_ble_eq_true rfl) rfl ?_
  refine g_iload_n m54_0 rfl ?_
  refine g_if_lt m54_1 (fun c1 => ?_) (fun c1 => ?_)
  · have d2 : (s1).toInt < 0 := (lt_k (by rfl) (by rfl)).mp c1
    refine g_iconst m54_13 ?_
    refine g_zret m54_14 rfl (Or.inl rfl) ?_
    refine gwst (st' := [.int (0)]) rfl ?_
    refine g_if_eqT m82_5 (by decide) ?_
    refine g_aload_n m82_16 rfl ?_
    refine g_iconst m82_17 ?_
    refine g_cv (args := [.int (1)]) (rest := []) m82_18 (Nat.le_of_ble_eq_true rfl) rfl rfl rfl (Nat.le_of_ble_eq_true rfl) ?_
    refine wp_in (L := [some (.ref 32), some (.int (1))]) (Nat.le_of_ble_eq_true rfl) rfl ?_
    refine g_aload_n m55_0 rfl ?_
    refine g_gf m55_1 rfl rfl ?_
    refine g_iload_n m55_4 rfl ?_
    refine g_dup2 m55_5 rfl rfl ?_
    refine g_iald (x := (0 : Int32)) m55_6 rfl (vin rfl) rfl ?_
    refine g_iconst m55_7 ?_
    refine g_iadd (u := (1 : Int32)) m55_8 (by decide) ?_
    refine g_iast m55_9 (Nat.le_of_ble_eq_true rfl) rfl (vin rfl) rfl rfl rfl ?_
    refine g_ldcw m55_10 ?_
    refine g_iload_n m55_13 rfl ?_
    refine g_isub (u := (-1000000001 : Int32)) m55_14 (by decide) ?_
    refine g_iret m55_15 rfl ?_
    refine gwst (st' := [.int (-1000000001)]) rfl ?_
    refine g_iret m82_21 rfl ?_
    refine gwst (st' := [.int (-1000000001)]) rfl ?_
    refine FRg rfl (fun f => ?_)
    refine g_aload_n m190_829 rfl ?_
    refine g_aload_n m190_830 rfl ?_
    refine g_iload_n m190_831 rfl ?_
    refine g_iconst m190_832 ?_
    refine g_iadd (u := (1 : Int32)) m190_833 (by decide) ?_
    refine g_iald (x := s1) m190_834 rfl (vin rfl) rfl ?_
    refine g_aload_n m190_835 rfl ?_
    refine g_iload_n m190_836 rfl ?_
    refine g_iconst m190_837 ?_
    refine g_iadd (u := (2 : Int32)) m190_838 (by decide) ?_
    refine g_iald (x := s2) m190_839 rfl (vin rfl) rfl ?_
    refine g_cv (args := [.int _, .int _]) (rest := [.int (-1000000001)]) m190_840 (Nat.le_of_ble_eq_true rfl) rfl rfl rfl (Nat.le_of_ble_eq_true rfl) ?_
    refine wp_in (L := [some (.ref 89), some (.int _), some (.int _), none, none, none]) (Nat.le_of_ble_eq_true rfl) rfl ?_
    refine g_iload_n m162_0 rfl ?_
    refine g_cs (args := [.int _]) (rest := []) 0 (Or.inl rfl) m162_1 (Nat.le_of_ble_eq_true rfl) rfl rfl (Nat.le_of_ble_eq_true rfl) ?_
    refine wp_in (L := [some (.int _)]) (Nat.le_of_ble_eq_true rfl) rfl ?_
    refine g_iload_n m160_0 rfl ?_
    refine g_iconst m160_1 ?_
    refine g_iconst m160_2 ?_
    refine g_cs (args := [.int _, .int (0), .int (3)]) (rest := []) 0 (Or.inl rfl) m160_3 (Nat.le_of_ble_eq_true rfl) rfl rfl (Nat.le_of_ble_eq_true rfl) ?_
    refine wp_in (L := [some (.int _), some (.int (0)), some (.int (3))]) (Nat.le_of_ble_eq_true rfl) rfl ?_
    refine g_iload_n m107_0 rfl ?_
    refine g_iload_n m107_1 rfl ?_
    refine g_ic_ltT m107_2 ((lt_k (a := (s1).toInt) (b := 0) (by rfl) (by rfl)).mpr (by omega)) ?_
    refine g_iconst m107_14 ?_
    refine g_zret m107_15 rfl (Or.inl rfl) ?_
    refine gwst (st' := [.int (0)]) rfl ?_
    refine g_zret m160_6 rfl (Or.inl rfl) ?_
    refine gwst (st' := [.int (0)]) rfl ?_
    refine g_if_eqT m162_4 (by decide) ?_
    refine g_aload_n m162_16 rfl ?_
    refine g_ldci m162_17 rfl ?_
    refine g_cv (args := [.int (-1000000001)]) (rest := []) m162_19 (Nat.le_of_ble_eq_true rfl) rfl rfl rfl (Nat.le_of_ble_eq_true rfl) ?_
    refine wp_in (L := [some (.ref 89), some (.int (-1000000001))]) (Nat.le_of_ble_eq_true rfl) rfl ?_
    refine g_aload_n m108_0 rfl ?_
    refine g_gf m108_1 rfl rfl ?_
    refine g_ldci m108_4 rfl ?_
    refine g_iload_n m108_6 rfl ?_
    refine g_isub (u := (1 : Int32)) m108_7 (by decide) ?_
    refine g_dup2 m108_8 rfl rfl ?_
    refine g_iald (x := (0 : Int32)) m108_9 rfl (vin rfl) rfl ?_
    refine g_iconst m108_10 ?_
    refine g_iadd (u := (1 : Int32)) m108_11 (by decide) ?_
    refine g_iast m108_12 (Nat.le_of_ble_eq_true rfl) rfl (vin rfl) rfl rfl rfl ?_
    refine g_iload_n m108_13 rfl ?_
    refine g_iret m108_14 rfl ?_
    refine gwst (st' := [.int (-1000000001)]) rfl ?_
    refine g_iret m162_22 rfl ?_
    refine gwst (st' := [.int (-1000000001), .int (-1000000001)]) rfl ?_
    refine g_ic_eqT m190_843 (by decide) ?_
    refine g_iinc (x2 := (6 : Int32)) (L2 := [some (.ref 0), some (.ref 32), some (.ref 89), some (.int (6))]) m190_1428 rfl (by decide) rfl rfl ?_
    refine g_goto m190_1431 ?_
    refine g_iload_n m190_18 rfl ?_
    refine g_aload_n m190_19 rfl ?_
    refine g_alen (n := 6) m190_20 rfl (Or.inl rfl) rfl ?_
    refine g_bipush m190_21 ?_
    refine g_isub (u := (0 : Int32)) m190_23 (by decide) ?_
    refine g_ic_gtT m190_24 (by decide) ?_
    refine g_iconst m190_1434 ?_
    refine g_zret m190_1435 rfl (Or.inr rfl) ?_
    exact rfl
  · have d2 : ¬ ((s1).toInt < 0) := fun q => c1 ((lt_k (by rfl) (by rfl)).mpr q)
    refine g_iload_n m54_4 rfl ?_
    refine g_iload_n m54_5 rfl ?_
    refine g_ic_gt m54_6 (fun c3 => ?_) (fun c3 => ?_)
    · have d4 : 3 < (s1).toInt := (lt_k (by rfl) (by rfl)).mp c3
      refine g_iconst m54_13 ?_
      refine g_zret m54_14 rfl (Or.inl rfl) ?_
      refine gwst (st' := [.int (0)]) rfl ?_
      refine g_if_eqT m82_5 (by decide) ?_
      refine g_aload_n m82_16 rfl ?_
      refine g_iconst m82_17 ?_
      refine g_cv (args := [.int (1)]) (rest := []) m82_18 (Nat.le_of_ble_eq_true rfl) rfl rfl rfl (Nat.le_of_ble_eq_true rfl) ?_
      refine wp_in (L := [some (.ref 32), some (.int (1))]) (Nat.le_of_ble_eq_true rfl) rfl ?_
      refine g_aload_n m55_0 rfl ?_
      refine g_gf m55_1 rfl rfl ?_
      refine g_iload_n m55_4 rfl ?_
      refine g_dup2 m55_5 rfl rfl ?_
      refine g_iald (x := (0 : Int32)) m55_6 rfl (vin rfl) rfl ?_
      refine g_iconst m55_7 ?_
      refine g_iadd (u := (1 : Int32)) m55_8 (by decide) ?_
      refine g_iast m55_9 (Nat.le_of_ble_eq_true rfl) rfl (vin rfl) rfl rfl rfl ?_
      refine g_ldcw m55_10 ?_
      refine g_iload_n m55_13 rfl ?_
      refine g_isub (u := (-1000000001 : Int32)) m55_14 (by decide) ?_
      refine g_iret m55_15 rfl ?_
      refine gwst (st' := [.int (-1000000001)]) rfl ?_
      refine g_iret m82_21 rfl ?_
      refine gwst (st' := [.int (-1000000001)]) rfl ?_
      refine FRg rfl (fun f => ?_)
      refine g_aload_n m190_829 rfl ?_
      refine g_aload_n m190_830 rfl ?_
      refine g_iload_n m190_831 rfl ?_
      refine g_iconst m190_832 ?_
      refine g_iadd (u := (1 : Int32)) m190_833 (by decide) ?_
      refine g_iald (x := s1) m190_834 rfl (vin rfl) rfl ?_
      refine g_aload_n m190_835 rfl ?_
      refine g_iload_n m190_836 rfl ?_
      refine g_iconst m190_837 ?_
      refine g_iadd (u := (2 : Int32)) m190_838 (by decide) ?_
      refine g_iald (x := s2) m190_839 rfl (vin rfl) rfl ?_
      refine g_cv (args := [.int _, .int _]) (rest := [.int (-1000000001)]) m190_840 (Nat.le_of_ble_eq_true rfl) rfl rfl rfl (Nat.le_of_ble_eq_true rfl) ?_
      refine wp_in (L := [some (.ref 89), some (.int _), some (.int _), none, none, none]) (Nat.le_of_ble_eq_true rfl) rfl ?_
      refine g_iload_n m162_0 rfl ?_
      refine g_cs (args := [.int _]) (rest := []) 0 (Or.inl rfl) m162_1 (Nat.le_of_ble_eq_true rfl) rfl rfl (Nat.le_of_ble_eq_true rfl) ?_
      refine wp_in (L := [some (.int _)]) (Nat.le_of_ble_eq_true rfl) rfl ?_
      refine g_iload_n m160_0 rfl ?_
      refine g_iconst m160_1 ?_
      refine g_iconst m160_2 ?_
      refine g_cs (args := [.int _, .int (0), .int (3)]) (rest := []) 0 (Or.inl rfl) m160_3 (Nat.le_of_ble_eq_true rfl) rfl rfl (Nat.le_of_ble_eq_true rfl) ?_
      refine wp_in (L := [some (.int _), some (.int (0)), some (.int (3))]) (Nat.le_of_ble_eq_true rfl) rfl ?_
      refine g_iload_n m107_0 rfl ?_
      refine g_iload_n m107_1 rfl ?_
      refine g_ic_ltF m107_2 (fun q => absurd ((lt_k (a := (s1).toInt) (b := 0) (by rfl) (by rfl)).mp q) (by omega)) ?_
      refine g_iload_n m107_5 rfl ?_
      refine g_iload_n m107_6 rfl ?_
      refine g_ic_gtT m107_7 ((lt_k (a := 3) (b := (s1).toInt) (by rfl) (by rfl)).mpr (by omega)) ?_
      refine g_iconst m107_14 ?_
      refine g_zret m107_15 rfl (Or.inl rfl) ?_
      refine gwst (st' := [.int (0)]) rfl ?_
      refine g_zret m160_6 rfl (Or.inl rfl) ?_
      refine gwst (st' := [.int (0)]) rfl ?_
      refine g_if_eqT m162_4 (by decide) ?_
      refine g_aload_n m162_16 rfl ?_
      refine g_ldci m162_17 rfl ?_
      refine g_cv (args := [.int (-1000000001)]) (rest := []) m162_19 (Nat.le_of_ble_eq_true rfl) rfl rfl rfl (Nat.le_of_ble_eq_true rfl) ?_
      refine wp_in (L := [some (.ref 89), some (.int (-1000000001))]) (Nat.le_of_ble_eq_true rfl) rfl ?_
      refine g_aload_n m108_0 rfl ?_
      refine g_gf m108_1 rfl rfl ?_
      refine g_ldci m108_4 rfl ?_
      refine g_iload_n m108_6 rfl ?_
      refine g_isub (u := (1 : Int32)) m108_7 (by decide) ?_
      refine g_dup2 m108_8 rfl rfl ?_
      refine g_iald (x := (0 : Int32)) m108_9 rfl (vin rfl) rfl ?_
      refine g_iconst m108_10 ?_
      refine g_iadd (u := (1 : Int32)) m108_11 (by decide) ?_
      refine g_iast m108_12 (Nat.le_of_ble_eq_true rfl) rfl (vin rfl) rfl rfl rfl ?_
      refine g_iload_n m108_13 rfl ?_
      refine g_iret m108_14 rfl ?_
      refine gwst (st' := [.int (-1000000001)]) rfl ?_
      refine g_iret m162_22 rfl ?_
      refine gwst (st' := [.int (-1000000001), .int (-1000000001)]) rfl ?_
      refine g_ic_eqT m190_843 (by decide) ?_
      refine g_iinc (x2 := (6 : Int32)) (L2 := [some (.ref 0), some (.ref 32), some (.ref 89), some (.int (6))]) m190_1428 rfl (by decide) rfl rfl ?_
      refine g_goto m190_1431 ?_
      refine g_iload_n m190_18 rfl ?_
      refine g_aload_n m190_19 rfl ?_
      refine g_alen (n := 6) m190_20 rfl (Or.inl rfl) rfl ?_
      refine g_bipush m190_21 ?_
      refine g_isub (u := (0 : Int32)) m190_23 (by decide) ?_
      refine g_ic_gtT m190_24 (by decide) ?_
      refine g_iconst m190_1434 ?_
      refine g_zret m190_1435 rfl (Or.inr rfl) ?_
      exact rfl
    · have d4 : ¬ (3 < (s1).toInt) := fun q => c3 ((lt_k (by rfl) (by rfl)).mpr q)
      refine g_iconst m54_9 ?_
      refine g_goto m54_10 ?_
      refine g_zret m54_14 rfl (Or.inr rfl) ?_
      refine gwst (st' := [.int (1)]) rfl ?_
      refine g_if_eqF m82_5 (by decide) ?_
      refine g_iload_n m82_8 rfl ?_
      refine g_iconst m82_9 ?_
      refine g_cs (args := [.int _, .int (1)]) (rest := []) 0 (Or.inl rfl) m82_10 (Nat.le_of_ble_eq_true rfl) rfl rfl (Nat.le_of_ble_eq_true rfl) ?_
      refine wp_in (L := [some (.int _), some (.int (1))]) (Nat.le_of_ble_eq_true rfl) rfl ?_
      refine g_iload_n m54_0 rfl ?_
      refine g_if_lt m54_1 (fun c5 => ?_) (fun c5 => ?_)
      · have d6 : (s2).toInt < 0 := (lt_k (by rfl) (by rfl)).mp c5
        refine g_iconst m54_13 ?_
        refine g_zret m54_14 rfl (Or.inl rfl) ?_
        refine gwst (st' := [.int (0)]) rfl ?_
        refine g_if_neT m82_13 (by decide) ?_
        refine g_aload_n m82_16 rfl ?_
        refine g_iconst m82_17 ?_
        refine g_cv (args := [.int (1)]) (rest := []) m82_18 (Nat.le_of_ble_eq_true rfl) rfl rfl rfl (Nat.le_of_ble_eq_true rfl) ?_
        refine wp_in (L := [some (.ref 32), some (.int (1))]) (Nat.le_of_ble_eq_true rfl) rfl ?_
        refine g_aload_n m55_0 rfl ?_
        refine g_gf m55_1 rfl rfl ?_
        refine g_iload_n m55_4 rfl ?_
        refine g_dup2 m55_5 rfl rfl ?_
        refine g_iald (x := (0 : Int32)) m55_6 rfl (vin rfl) rfl ?_
        refine g_iconst m55_7 ?_
        refine g_iadd (u := (1 : Int32)) m55_8 (by decide) ?_
        refine g_iast m55_9 (Nat.le_of_ble_eq_true rfl) rfl (vin rfl) rfl rfl rfl ?_
        refine g_ldcw m55_10 ?_
        refine g_iload_n m55_13 rfl ?_
        refine g_isub (u := (-1000000001 : Int32)) m55_14 (by decide) ?_
        refine g_iret m55_15 rfl ?_
        refine gwst (st' := [.int (-1000000001)]) rfl ?_
        refine g_iret m82_21 rfl ?_
        refine gwst (st' := [.int (-1000000001)]) rfl ?_
        refine FRg rfl (fun f => ?_)
        refine g_aload_n m190_829 rfl ?_
        refine g_aload_n m190_830 rfl ?_
        refine g_iload_n m190_831 rfl ?_
        refine g_iconst m190_832 ?_
        refine g_iadd (u := (1 : Int32)) m190_833 (by decide) ?_
        refine g_iald (x := s1) m190_834 rfl (vin rfl) rfl ?_
        refine g_aload_n m190_835 rfl ?_
        refine g_iload_n m190_836 rfl ?_
        refine g_iconst m190_837 ?_
        refine g_iadd (u := (2 : Int32)) m190_838 (by decide) ?_
        refine g_iald (x := s2) m190_839 rfl (vin rfl) rfl ?_
        refine g_cv (args := [.int _, .int _]) (rest := [.int (-1000000001)]) m190_840 (Nat.le_of_ble_eq_true rfl) rfl rfl rfl (Nat.le_of_ble_eq_true rfl) ?_
        refine wp_in (L := [some (.ref 89), some (.int _), some (.int _), none, none, none]) (Nat.le_of_ble_eq_true rfl) rfl ?_
        refine g_iload_n m162_0 rfl ?_
        refine g_cs (args := [.int _]) (rest := []) 0 (Or.inl rfl) m162_1 (Nat.le_of_ble_eq_true rfl) rfl rfl (Nat.le_of_ble_eq_true rfl) ?_
        refine wp_in (L := [some (.int _)]) (Nat.le_of_ble_eq_true rfl) rfl ?_
        refine g_iload_n m160_0 rfl ?_
        refine g_iconst m160_1 ?_
        refine g_iconst m160_2 ?_
        refine g_cs (args := [.int _, .int (0), .int (3)]) (rest := []) 0 (Or.inl rfl) m160_3 (Nat.le_of_ble_eq_true rfl) rfl rfl (Nat.le_of_ble_eq_true rfl) ?_
        refine wp_in (L := [some (.int _), some (.int (0)), some (.int (3))]) (Nat.le_of_ble_eq_true rfl) rfl ?_
        refine g_iload_n m107_0 rfl ?_
        refine g_iload_n m107_1 rfl ?_
        refine g_ic_ltF m107_2 (fun q => absurd ((lt_k (a := (s1).toInt) (b := 0) (by rfl) (by rfl)).mp q) (by omega)) ?_
        refine g_iload_n m107_5 rfl ?_
        refine g_iload_n m107_6 rfl ?_
        refine g_ic_gtF m107_7 (fun q => absurd ((lt_k (a := 3) (b := (s1).toInt) (by rfl) (by rfl)).mp q) (by omega)) ?_
        refine g_iconst m107_10 ?_
        refine g_goto m107_11 ?_
        refine g_zret m107_15 rfl (Or.inr rfl) ?_
        refine gwst (st' := [.int (1)]) rfl ?_
        refine g_zret m160_6 rfl (Or.inr rfl) ?_
        refine gwst (st' := [.int (1)]) rfl ?_
        refine g_if_eqF m162_4 (by decide) ?_
        refine g_iload_n m162_7 rfl ?_
        refine g_iconst m162_8 ?_
        refine g_iconst m162_9 ?_
        refine g_cs (args := [.int _, .int (0), .int (1)]) (rest := []) 0 (Or.inl rfl) m162_10 (Nat.le_of_ble_eq_true rfl) rfl rfl (Nat.le_of_ble_eq_true rfl) ?_
        refine wp_in (L := [some (.int _), some (.int (0)), some (.int (1))]) (Nat.le_of_ble_eq_true rfl) rfl ?_
        refine g_iload_n m107_0 rfl ?_
        refine g_iload_n m107_1 rfl ?_
        refine g_ic_ltT m107_2 ((lt_k (a := (s2).toInt) (b := 0) (by rfl) (by rfl)).mpr (by omega)) ?_
        refine g_iconst m107_14 ?_
        refine g_zret m107_15 rfl (Or.inl rfl) ?_
        refine gwst (st' := [.int (0)]) rfl ?_
        refine g_if_neT m162_13 (by decide) ?_
        refine g_aload_n m162_16 rfl ?_
        refine g_ldci m162_17 rfl ?_
        refine g_cv (args := [.int (-1000000001)]) (rest := []) m162_19 (Nat.le_of_ble_eq_true rfl) rfl rfl rfl (Nat.le_of_ble_eq_true rfl) ?_
        refine wp_in (L := [some (.ref 89), some (.int (-1000000001))]) (Nat.le_of_ble_eq_true rfl) rfl ?_
        refine g_aload_n m108_0 rfl ?_
        refine g_gf m108_1 rfl rfl ?_
        refine g_ldci m108_4 rfl ?_
        refine g_iload_n m108_6 rfl ?_
        refine g_isub (u := (1 : Int32)) m108_7 (by decide) ?_
        refine g_dup2 m108_8 rfl rfl ?_
        refine g_iald (x := (0 : Int32)) m108_9 rfl (vin rfl) rfl ?_
        refine g_iconst m108_10 ?_
        refine g_iadd (u := (1 : Int32)) m108_11 (by decide) ?_
        refine g_iast m108_12 (Nat.le_of_ble_eq_true rfl) rfl (vin rfl) rfl rfl rfl ?_
        refine g_iload_n m108_13 rfl ?_
        refine g_iret m108_14 rfl ?_
        refine gwst (st' := [.int (-1000000001)]) rfl ?_
        refine g_iret m162_22 rfl ?_
        refine gwst (st' := [.int (-1000000001), .int (-1000000001)]) rfl ?_
        refine g_ic_eqT m190_843 (by decide) ?_
        refine g_iinc (x2 := (6 : Int32)) (L2 := [some (.ref 0), some (.ref 32), some (.ref 89), some (.int (6))]) m190_1428 rfl (by decide) rfl rfl ?_
        refine g_goto m190_1431 ?_
        refine g_iload_n m190_18 rfl ?_
        refine g_aload_n m190_19 rfl ?_
        refine g_alen (n := 6) m190_20 rfl (Or.inl rfl) rfl ?_
        refine g_bipush m190_21 ?_
        refine g_isub (u := (0 : Int32)) m190_23 (by decide) ?_
        refine g_ic_gtT m190_24 (by decide) ?_
        refine g_iconst m190_1434 ?_
        refine g_zret m190_1435 rfl (Or.inr rfl) ?_
        exact rfl
      · have d6 : ¬ ((s2).toInt < 0) := fun q => c5 ((lt_k (by rfl) (by rfl)).mpr q)
        refine g_iload_n m54_4 rfl ?_
        refine g_iload_n m54_5 rfl ?_
        refine g_ic_gt m54_6 (fun c7 => ?_) (fun c7 => ?_)
        · have d8 : 1 < (s2).toInt := (lt_k (by rfl) (by rfl)).mp c7
          refine g_iconst m54_13 ?_
          refine g_zret m54_14 rfl (Or.inl rfl) ?_
          refine gwst (st' := [.int (0)]) rfl ?_
          refine g_if_neT m82_13 (by decide) ?_
          refine g_aload_n m82_16 rfl ?_
          refine g_iconst m82_17 ?_
          refine g_cv (args := [.int (1)]) (rest := []) m82_18 (Nat.le_of_ble_eq_true rfl) rfl rfl rfl (Nat.le_of_ble_eq_true rfl) ?_
          refine wp_in (L := [some (.ref 32), some (.int (1))]) (Nat.le_of_ble_eq_true rfl) rfl ?_
          refine g_aload_n m55_0 rfl ?_
          refine g_gf m55_1 rfl rfl ?_
          refine g_iload_n m55_4 rfl ?_
          refine g_dup2 m55_5 rfl rfl ?_
          refine g_iald (x := (0 : Int32)) m55_6 rfl (vin rfl) rfl ?_
          refine g_iconst m55_7 ?_
          refine g_iadd (u := (1 : Int32)) m55_8 (by decide) ?_
          refine g_iast m55_9 (Nat.le_of_ble_eq_true rfl) rfl (vin rfl) rfl rfl rfl ?_
          refine g_ldcw m55_10 ?_
          refine g_iload_n m55_13 rfl ?_
          refine g_isub (u := (-1000000001 : Int32)) m55_14 (by decide) ?_
          refine g_iret m55_15 rfl ?_
          refine gwst (st' := [.int (-1000000001)]) rfl ?_
          refine g_iret m82_21 rfl ?_
          refine gwst (st' := [.int (-1000000001)]) rfl ?_
          refine FRg rfl (fun f => ?_)
          refine g_aload_n m190_829 rfl ?_
          refine g_aload_n m190_830 rfl ?_
          refine g_iload_n m190_831 rfl ?_
          refine g_iconst m190_832 ?_
          refine g_iadd (u := (1 : Int32)) m190_833 (by decide) ?_
          refine g_iald (x := s1) m190_834 rfl (vin rfl) rfl ?_
          refine g_aload_n m190_835 rfl ?_
          refine g_iload_n m190_836 rfl ?_
          refine g_iconst m190_837 ?_
          refine g_iadd (u := (2 : Int32)) m190_838 (by decide) ?_
          refine g_iald (x := s2) m190_839 rfl (vin rfl) rfl ?_
          refine g_cv (args := [.int _, .int _]) (rest := [.int (-1000000001)]) m190_840 (Nat.le_of_ble_eq_true rfl) rfl rfl rfl (Nat.le_of_ble_eq_true rfl) ?_
          refine wp_in (L := [some (.ref 89), some (.int _), some (.int _), none, none, none]) (Nat.le_of_ble_eq_true rfl) rfl ?_
          refine g_iload_n m162_0 rfl ?_
          refine g_cs (args := [.int _]) (rest := []) 0 (Or.inl rfl) m162_1 (Nat.le_of_ble_eq_true rfl) rfl rfl (Nat.le_of_ble_eq_true rfl) ?_
          refine wp_in (L := [some (.int _)]) (Nat.le_of_ble_eq_true rfl) rfl ?_
          refine g_iload_n m160_0 rfl ?_
          refine g_iconst m160_1 ?_
          refine g_iconst m160_2 ?_
          refine g_cs (args := [.int _, .int (0), .int (3)]) (rest := []) 0 (Or.inl rfl) m160_3 (Nat.le_of_ble_eq_true rfl) rfl rfl (Nat.le_of_ble_eq_true rfl) ?_
          refine wp_in (L := [some (.int _), some (.int (0)), some (.int (3))]) (Nat.le_of_ble_eq_true rfl) rfl ?_
          refine g_iload_n m107_0 rfl ?_
          refine g_iload_n m107_1 rfl ?_
          refine g_ic_ltF m107_2 (fun q => absurd ((lt_k (a := (s1).toInt) (b := 0) (by rfl) (by rfl)).mp q) (by omega)) ?_
          refine g_iload_n m107_5 rfl ?_
          refine g_iload_n m107_6 rfl ?_
          refine g_ic_gtF m107_7 (fun q => absurd ((lt_k (a := 3) (b := (s1).toInt) (by rfl) (by rfl)).mp q) (by omega)) ?_
          refine g_iconst m107_10 ?_
          refine g_goto m107_11 ?_
          refine g_zret m107_15 rfl (Or.inr rfl) ?_
          refine gwst (st' := [.int (1)]) rfl ?_
          refine g_zret m160_6 rfl (Or.inr rfl) ?_
          refine gwst (st' := [.int (1)]) rfl ?_
          refine g_if_eqF m162_4 (by decide) ?_
          refine g_iload_n m162_7 rfl ?_
          refine g_iconst m162_8 ?_
          refine g_iconst m162_9 ?_
          refine g_cs (args := [.int _, .int (0), .int (1)]) (rest := []) 0 (Or.inl rfl) m162_10 (Nat.le_of_ble_eq_true rfl) rfl rfl (Nat.le_of_ble_eq_true rfl) ?_
          refine wp_in (L := [some (.int _), some (.int (0)), some (.int (1))]) (Nat.le_of_ble_eq_true rfl) rfl ?_
          refine g_iload_n m107_0 rfl ?_
          refine g_iload_n m107_1 rfl ?_
          refine g_ic_ltF m107_2 (fun q => absurd ((lt_k (a := (s2).toInt) (b := 0) (by rfl) (by rfl)).mp q) (by omega)) ?_
          refine g_iload_n m107_5 rfl ?_
          refine g_iload_n m107_6 rfl ?_
          refine g_ic_gtT m107_7 ((lt_k (a := 1) (b := (s2).toInt) (by rfl) (by rfl)).mpr (by omega)) ?_
          refine g_iconst m107_14 ?_
          refine g_zret m107_15 rfl (Or.inl rfl) ?_
          refine gwst (st' := [.int (0)]) rfl ?_
          refine g_if_neT m162_13 (by decide) ?_
          refine g_aload_n m162_16 rfl ?_
          refine g_ldci m162_17 rfl ?_
          refine g_cv (args := [.int (-1000000001)]) (rest := []) m162_19 (Nat.le_of_ble_eq_true rfl) rfl rfl rfl (Nat.le_of_ble_eq_true rfl) ?_
          refine wp_in (L := [some (.ref 89), some (.int (-1000000001))]) (Nat.le_of_ble_eq_true rfl) rfl ?_
          refine g_aload_n m108_0 rfl ?_
          refine g_gf m108_1 rfl rfl ?_
          refine g_ldci m108_4 rfl ?_
          refine g_iload_n m108_6 rfl ?_
          refine g_isub (u := (1 : Int32)) m108_7 (by decide) ?_
          refine g_dup2 m108_8 rfl rfl ?_
          refine g_iald (x := (0 : Int32)) m108_9 rfl (vin rfl) rfl ?_
          refine g_iconst m108_10 ?_
          refine g_iadd (u := (1 : Int32)) m108_11 (by decide) ?_
          refine g_iast m108_12 (Nat.le_of_ble_eq_true rfl) rfl (vin rfl) rfl rfl rfl ?_
          refine g_iload_n m108_13 rfl ?_
          refine g_iret m108_14 rfl ?_
          refine gwst (st' := [.int (-1000000001)]) rfl ?_
          refine g_iret m162_22 rfl ?_
          refine gwst (st' := [.int (-1000000001), .int (-1000000001)]) rfl ?_
          refine g_ic_eqT m190_843 (by decide) ?_
          refine g_iinc (x2 := (6 : Int32)) (L2 := [some (.ref 0), some (.ref 32), some (.ref 89), some (.int (6))]) m190_1428 rfl (by decide) rfl rfl ?_
          refine g_goto m190_1431 ?_
          refine g_iload_n m190_18 rfl ?_
          refine g_aload_n m190_19 rfl ?_
          refine g_alen (n := 6) m190_20 rfl (Or.inl rfl) rfl ?_
          refine g_bipush m190_21 ?_
          refine g_isub (u := (0 : Int32)) m190_23 (by decide) ?_
          refine g_ic_gtT m190_24 (by decide) ?_
          refine g_iconst m190_1434 ?_
          refine g_zret m190_1435 rfl (Or.inr rfl) ?_
          exact rfl
        · have d8 : ¬ (1 < (s2).toInt) := fun q => c7 ((lt_k (by rfl) (by rfl)).mpr q)
          refine g_iconst m54_9 ?_
          refine g_goto m54_10 ?_
          refine g_zret m54_14 rfl (Or.inr rfl) ?_
          refine gwst (st' := [.int (1)]) rfl ?_
          refine g_if_neF m82_13 (by decide) ?_
          refine g_aload_n m82_22 rfl ?_
          refine g_gf m82_23 rfl rfl ?_
          refine g_iload_n m82_26 rfl ?_
          obtain ⟨j9, e10, x11⟩ := nat_of (x := s1) (lo := 0) (hi := 3) (by omega) (by omega)
          rcases (show j9 = 0 ∨ j9 = 1 ∨ j9 = 2 ∨ j9 = 3 by omega) with rfl | rfl | rfl | rfl
          · have x11q : s1 = (0 : Int32) := x11
            clear x11
            subst x11q
            refine g_aald m82_27 (Nat.le_of_ble_eq_true rfl) rfl (vin rfl) rfl ?_
            refine g_astore_n (L2 := [some (.ref 32), some (.int (0)), some (.int _), some (.ref 80), none, none]) m82_28 rfl rfl ?_
            refine g_aload_n m82_29 rfl ?_
            refine g_gf m82_30 rfl rfl ?_
            refine g_if_neT m82_33 (by decide) ?_
            refine g_aload_n m82_36 rfl ?_
            refine g_iconst m82_37 ?_
            refine g_cv (args := [.int (2)]) (rest := []) m82_38 (Nat.le_of_ble_eq_true rfl) rfl rfl rfl (Nat.le_of_ble_eq_true rfl) ?_
            refine wp_in (L := [some (.ref 32), some (.int (2))]) (Nat.le_of_ble_eq_true rfl) rfl ?_
            refine g_aload_n m55_0 rfl ?_
            refine g_gf m55_1 rfl rfl ?_
            refine g_iload_n m55_4 rfl ?_
            refine g_dup2 m55_5 rfl rfl ?_
            refine g_iald (x := (0 : Int32)) m55_6 rfl (vin rfl) rfl ?_
            refine g_iconst m55_7 ?_
            refine g_iadd (u := (1 : Int32)) m55_8 (by decide) ?_
            refine g_iast m55_9 (Nat.le_of_ble_eq_true rfl) rfl (vin rfl) rfl rfl rfl ?_
            refine g_ldcw m55_10 ?_
            refine g_iload_n m55_13 rfl ?_
            refine g_isub (u := (-1000000002 : Int32)) m55_14 (by decide) ?_
            refine g_iret m55_15 rfl ?_
            refine gwst (st' := [.int (-1000000002)]) rfl ?_
            refine g_iret m82_41 rfl ?_
            refine gwst (st' := [.int (-1000000002)]) rfl ?_
            refine FRg rfl (fun f => ?_)
            refine g_aload_n m190_829 rfl ?_
            refine g_aload_n m190_830 rfl ?_
            refine g_iload_n m190_831 rfl ?_
            refine g_iconst m190_832 ?_
            refine g_iadd (u := (1 : Int32)) m190_833 (by decide) ?_
            refine g_iald (x := (0 : Int32)) m190_834 rfl (vin rfl) rfl ?_
            refine g_aload_n m190_835 rfl ?_
            refine g_iload_n m190_836 rfl ?_
            refine g_iconst m190_837 ?_
            refine g_iadd (u := (2 : Int32)) m190_838 (by decide) ?_
            refine g_iald (x := s2) m190_839 rfl (vin rfl) rfl ?_
            refine g_cv (args := [.int (0), .int _]) (rest := [.int (-1000000002)]) m190_840 (Nat.le_of_ble_eq_true rfl) rfl rfl rfl (Nat.le_of_ble_eq_true rfl) ?_
            refine wp_in (L := [some (.ref 89), some (.int (0)), some (.int _), none, none, none]) (Nat.le_of_ble_eq_true rfl) rfl ?_
            refine g_iload_n m162_0 rfl ?_
            refine g_cs (args := [.int (0)]) (rest := []) 0 (Or.inl rfl) m162_1 (Nat.le_of_ble_eq_true rfl) rfl rfl (Nat.le_of_ble_eq_true rfl) ?_
            refine wp_in (L := [some (.int (0))]) (Nat.le_of_ble_eq_true rfl) rfl ?_
            refine g_iload_n m160_0 rfl ?_
            refine g_iconst m160_1 ?_
            refine g_iconst m160_2 ?_
            refine g_cs (args := [.int (0), .int (0), .int (3)]) (rest := []) 0 (Or.inl rfl) m160_3 (Nat.le_of_ble_eq_true rfl) rfl rfl (Nat.le_of_ble_eq_true rfl) ?_
            refine wp_in (L := [some (.int (0)), some (.int (0)), some (.int (3))]) (Nat.le_of_ble_eq_true rfl) rfl ?_
            refine g_iload_n m107_0 rfl ?_
            refine g_iload_n m107_1 rfl ?_
            refine g_ic_ltF m107_2 (by decide) ?_
            refine g_iload_n m107_5 rfl ?_
            refine g_iload_n m107_6 rfl ?_
            refine g_ic_gtF m107_7 (by decide) ?_
            refine g_iconst m107_10 ?_
            refine g_goto m107_11 ?_
            refine g_zret m107_15 rfl (Or.inr rfl) ?_
            refine gwst (st' := [.int (1)]) rfl ?_
            refine g_zret m160_6 rfl (Or.inr rfl) ?_
            refine gwst (st' := [.int (1)]) rfl ?_
            refine g_if_eqF m162_4 (by decide) ?_
            refine g_iload_n m162_7 rfl ?_
            refine g_iconst m162_8 ?_
            refine g_iconst m162_9 ?_
            refine g_cs (args := [.int _, .int (0), .int (1)]) (rest := []) 0 (Or.inl rfl) m162_10 (Nat.le_of_ble_eq_true rfl) rfl rfl (Nat.le_of_ble_eq_true rfl) ?_
            refine wp_in (L := [some (.int _), some (.int (0)), some (.int (1))]) (Nat.le_of_ble_eq_true rfl) rfl ?_
            refine g_iload_n m107_0 rfl ?_
            refine g_iload_n m107_1 rfl ?_
            refine g_ic_ltF m107_2 (fun q => absurd ((lt_k (a := (s2).toInt) (b := 0) (by rfl) (by rfl)).mp q) (by omega)) ?_
            refine g_iload_n m107_5 rfl ?_
            refine g_iload_n m107_6 rfl ?_
            refine g_ic_gtF m107_7 (fun q => absurd ((lt_k (a := 1) (b := (s2).toInt) (by rfl) (by rfl)).mp q) (by omega)) ?_
            refine g_iconst m107_10 ?_
            refine g_goto m107_11 ?_
            refine g_zret m107_15 rfl (Or.inr rfl) ?_
            refine gwst (st' := [.int (1)]) rfl ?_
            refine g_if_neF m162_13 (by decide) ?_
            refine g_aload_n m162_23 rfl ?_
            refine g_gf m162_24 rfl rfl ?_
            refine g_iload_n m162_27 rfl ?_
            refine g_iald (x := (0 : Int32)) m162_28 rfl (vin rfl) rfl ?_
            refine g_if_neT m162_29 (by decide) ?_
            refine g_aload_n m162_32 rfl ?_
            refine g_ldci m162_33 rfl ?_
            refine g_cv (args := [.int (-1000000002)]) (rest := []) m162_35 (Nat.le_of_ble_eq_true rfl) rfl rfl rfl (Nat.le_of_ble_eq_true rfl) ?_
            refine wp_in (L := [some (.ref 89), some (.int (-1000000002))]) (Nat.le_of_ble_eq_true rfl) rfl ?_
            refine g_aload_n m108_0 rfl ?_
            refine g_gf m108_1 rfl rfl ?_
            refine g_ldci m108_4 rfl ?_
            refine g_iload_n m108_6 rfl ?_
            refine g_isub (u := (2 : Int32)) m108_7 (by decide) ?_
            refine g_dup2 m108_8 rfl rfl ?_
            refine g_iald (x := (0 : Int32)) m108_9 rfl (vin rfl) rfl ?_
            refine g_iconst m108_10 ?_
            refine g_iadd (u := (1 : Int32)) m108_11 (by decide) ?_
            refine g_iast m108_12 (Nat.le_of_ble_eq_true rfl) rfl (vin rfl) rfl rfl rfl ?_
            refine g_iload_n m108_13 rfl ?_
            refine g_iret m108_14 rfl ?_
            refine gwst (st' := [.int (-1000000002)]) rfl ?_
            refine g_iret m162_38 rfl ?_
            refine gwst (st' := [.int (-1000000002), .int (-1000000002)]) rfl ?_
            refine g_ic_eqT m190_843 (by decide) ?_
            refine g_iinc (x2 := (6 : Int32)) (L2 := [some (.ref 0), some (.ref 32), some (.ref 89), some (.int (6))]) m190_1428 rfl (by decide) rfl rfl ?_
            refine g_goto m190_1431 ?_
            refine g_iload_n m190_18 rfl ?_
            refine g_aload_n m190_19 rfl ?_
            refine g_alen (n := 6) m190_20 rfl (Or.inl rfl) rfl ?_
            refine g_bipush m190_21 ?_
            refine g_isub (u := (0 : Int32)) m190_23 (by decide) ?_
            refine g_ic_gtT m190_24 (by decide) ?_
            refine g_iconst m190_1434 ?_
            refine g_zret m190_1435 rfl (Or.inr rfl) ?_
            exact rfl
          · have x11q : s1 = (1 : Int32) := x11
            clear x11
            subst x11q
            refine g_aald m82_27 (Nat.le_of_ble_eq_true rfl) rfl (vin rfl) rfl ?_
            refine g_astore_n (L2 := [some (.ref 32), some (.int (1)), some (.int _), some (.ref 82), none, none]) m82_28 rfl rfl ?_
            refine g_aload_n m82_29 rfl ?_
            refine g_gf m82_30 rfl rfl ?_
            refine g_if_neT m82_33 (by decide) ?_
            refine g_aload_n m82_36 rfl ?_
            refine g_iconst m82_37 ?_
            refine g_cv (args := [.int (2)]) (rest := []) m82_38 (Nat.le_of_ble_eq_true rfl) rfl rfl rfl (Nat.le_of_ble_eq_true rfl) ?_
            refine wp_in (L := [some (.ref 32), some (.int (2))]) (Nat.le_of_ble_eq_true rfl) rfl ?_
            refine g_aload_n m55_0 rfl ?_
            refine g_gf m55_1 rfl rfl ?_
            refine g_iload_n m55_4 rfl ?_
            refine g_dup2 m55_5 rfl rfl ?_
            refine g_iald (x := (0 : Int32)) m55_6 rfl (vin rfl) rfl ?_
            refine g_iconst m55_7 ?_
            refine g_iadd (u := (1 : Int32)) m55_8 (by decide) ?_
            refine g_iast m55_9 (Nat.le_of_ble_eq_true rfl) rfl (vin rfl) rfl rfl rfl ?_
            refine g_ldcw m55_10 ?_
            refine g_iload_n m55_13 rfl ?_
            refine g_isub (u := (-1000000002 : Int32)) m55_14 (by decide) ?_
            refine g_iret m55_15 rfl ?_
            refine gwst (st' := [.int (-1000000002)]) rfl ?_
            refine g_iret m82_41 rfl ?_
            refine gwst (st' := [.int (-1000000002)]) rfl ?_
            refine FRg rfl (fun f => ?_)
            refine g_aload_n m190_829 rfl ?_
            refine g_aload_n m190_830 rfl ?_
            refine g_iload_n m190_831 rfl ?_
            refine g_iconst m190_832 ?_
            refine g_iadd (u := (1 : Int32)) m190_833 (by decide) ?_
            refine g_iald (x := (1 : Int32)) m190_834 rfl (vin rfl) rfl ?_
            refine g_aload_n m190_835 rfl ?_
            refine g_iload_n m190_836 rfl ?_
            refine g_iconst m190_837 ?_
            refine g_iadd (u := (2 : Int32)) m190_838 (by decide) ?_
            refine g_iald (x := s2) m190_839 rfl (vin rfl) rfl ?_
            refine g_cv (args := [.int (1), .int _]) (rest := [.int (-1000000002)]) m190_840 (Nat.le_of_ble_eq_true rfl) rfl rfl rfl (Nat.le_of_ble_eq_true rfl) ?_
            refine wp_in (L := [some (.ref 89), some (.int (1)), some (.int _), none, none, none]) (Nat.le_of_ble_eq_true rfl) rfl ?_
            refine g_iload_n m162_0 rfl ?_
            refine g_cs (args := [.int (1)]) (rest := []) 0 (Or.inl rfl) m162_1 (Nat.le_of_ble_eq_true rfl) rfl rfl (Nat.le_of_ble_eq_true rfl) ?_
            refine wp_in (L := [some (.int (1))]) (Nat.le_of_ble_eq_true rfl) rfl ?_
            refine g_iload_n m160_0 rfl ?_
            refine g_iconst m160_1 ?_
            refine g_iconst m160_2 ?_
            refine g_cs (args := [.int (1), .int (0), .int (3)]) (rest := []) 0 (Or.inl rfl) m160_3 (Nat.le_of_ble_eq_true rfl) rfl rfl (Nat.le_of_ble_eq_true rfl) ?_
            refine wp_in (L := [some (.int (1)), some (.int (0)), some (.int (3))]) (Nat.le_of_ble_eq_true rfl) rfl ?_
            refine g_iload_n m107_0 rfl ?_
            refine g_iload_n m107_1 rfl ?_
            refine g_ic_ltF m107_2 (by decide) ?_
            refine g_iload_n m107_5 rfl ?_
            refine g_iload_n m107_6 rfl ?_
            refine g_ic_gtF m107_7 (by decide) ?_
            refine g_iconst m107_10 ?_
            refine g_goto m107_11 ?_
            refine g_zret m107_15 rfl (Or.inr rfl) ?_
            refine gwst (st' := [.int (1)]) rfl ?_
            refine g_zret m160_6 rfl (Or.inr rfl) ?_
            refine gwst (st' := [.int (1)]) rfl ?_
            refine g_if_eqF m162_4 (by decide) ?_
            refine g_iload_n m162_7 rfl ?_
            refine g_iconst m162_8 ?_
            refine g_iconst m162_9 ?_
            refine g_cs (args := [.int _, .int (0), .int (1)]) (rest := []) 0 (Or.inl rfl) m162_10 (Nat.le_of_ble_eq_true rfl) rfl rfl (Nat.le_of_ble_eq_true rfl) ?_
            refine wp_in (L := [some (.int _), some (.int (0)), some (.int (1))]) (Nat.le_of_ble_eq_true rfl) rfl ?_
            refine g_iload_n m107_0 rfl ?_
            refine g_iload_n m107_1 rfl ?_
            refine g_ic_ltF m107_2 (fun q => absurd ((lt_k (a := (s2).toInt) (b := 0) (by rfl) (by rfl)).mp q) (by omega)) ?_
            refine g_iload_n m107_5 rfl ?_
            refine g_iload_n m107_6 rfl ?_
            refine g_ic_gtF m107_7 (fun q => absurd ((lt_k (a := 1) (b := (s2).toInt) (by rfl) (by rfl)).mp q) (by omega)) ?_
            refine g_iconst m107_10 ?_
            refine g_goto m107_11 ?_
            refine g_zret m107_15 rfl (Or.inr rfl) ?_
            refine gwst (st' := [.int (1)]) rfl ?_
            refine g_if_neF m162_13 (by decide) ?_
            refine g_aload_n m162_23 rfl ?_
            refine g_gf m162_24 rfl rfl ?_
            refine g_iload_n m162_27 rfl ?_
            refine g_iald (x := (0 : Int32)) m162_28 rfl (vin rfl) rfl ?_
            refine g_if_neT m162_29 (by decide) ?_
            refine g_aload_n m162_32 rfl ?_
            refine g_ldci m162_33 rfl ?_
            refine g_cv (args := [.int (-1000000002)]) (rest := []) m162_35 (Nat.le_of_ble_eq_true rfl) rfl rfl rfl (Nat.le_of_ble_eq_true rfl) ?_
            refine wp_in (L := [some (.ref 89), some (.int (-1000000002))]) (Nat.le_of_ble_eq_true rfl) rfl ?_
            refine g_aload_n m108_0 rfl ?_
            refine g_gf m108_1 rfl rfl ?_
            refine g_ldci m108_4 rfl ?_
            refine g_iload_n m108_6 rfl ?_
            refine g_isub (u := (2 : Int32)) m108_7 (by decide) ?_
            refine g_dup2 m108_8 rfl rfl ?_
            refine g_iald (x := (0 : Int32)) m108_9 rfl (vin rfl) rfl ?_
            refine g_iconst m108_10 ?_
            refine g_iadd (u := (1 : Int32)) m108_11 (by decide) ?_
            refine g_iast m108_12 (Nat.le_of_ble_eq_true rfl) rfl (vin rfl) rfl rfl rfl ?_
            refine g_iload_n m108_13 rfl ?_
            refine g_iret m108_14 rfl ?_
            refine gwst (st' := [.int (-1000000002)]) rfl ?_
            refine g_iret m162_38 rfl ?_
            refine gwst (st' := [.int (-1000000002), .int (-1000000002)]) rfl ?_
            refine g_ic_eqT m190_843 (by decide) ?_
            refine g_iinc (x2 := (6 : Int32)) (L2 := [some (.ref 0), some (.ref 32), some (.ref 89), some (.int (6))]) m190_1428 rfl (by decide) rfl rfl ?_
            refine g_goto m190_1431 ?_
            refine g_iload_n m190_18 rfl ?_
            refine g_aload_n m190_19 rfl ?_
            refine g_alen (n := 6) m190_20 rfl (Or.inl rfl) rfl ?_
            refine g_bipush m190_21 ?_
            refine g_isub (u := (0 : Int32)) m190_23 (by decide) ?_
            refine g_ic_gtT m190_24 (by decide) ?_
            refine g_iconst m190_1434 ?_
            refine g_zret m190_1435 rfl (Or.inr rfl) ?_
            exact rfl
          · have x11q : s1 = (2 : Int32) := x11
            clear x11
            subst x11q
            refine g_aald m82_27 (Nat.le_of_ble_eq_true rfl) rfl (vin rfl) rfl ?_
            refine g_astore_n (L2 := [some (.ref 32), some (.int (2)), some (.int _), some (.ref 84), none, none]) m82_28 rfl rfl ?_
            refine g_aload_n m82_29 rfl ?_
            refine g_gf m82_30 rfl rfl ?_
            refine g_if_neT m82_33 (by decide) ?_
            refine g_aload_n m82_36 rfl ?_
            refine g_iconst m82_37 ?_
            refine g_cv (args := [.int (2)]) (rest := []) m82_38 (Nat.le_of_ble_eq_true rfl) rfl rfl rfl (Nat.le_of_ble_eq_true rfl) ?_
            refine wp_in (L := [some (.ref 32), some (.int (2))]) (Nat.le_of_ble_eq_true rfl) rfl ?_
            refine g_aload_n m55_0 rfl ?_
            refine g_gf m55_1 rfl rfl ?_
            refine g_iload_n m55_4 rfl ?_
            refine g_dup2 m55_5 rfl rfl ?_
            refine g_iald (x := (0 : Int32)) m55_6 rfl (vin rfl) rfl ?_
            refine g_iconst m55_7 ?_
            refine g_iadd (u := (1 : Int32)) m55_8 (by decide) ?_
            refine g_iast m55_9 (Nat.le_of_ble_eq_true rfl) rfl (vin rfl) rfl rfl rfl ?_
            refine g_ldcw m55_10 ?_
            refine g_iload_n m55_13 rfl ?_
            refine g_isub (u := (-1000000002 : Int32)) m55_14 (by decide) ?_
            refine g_iret m55_15 rfl ?_
            refine gwst (st' := [.int (-1000000002)]) rfl ?_
            refine g_iret m82_41 rfl ?_
            refine gwst (st' := [.int (-1000000002)]) rfl ?_
            refine FRg rfl (fun f => ?_)
            refine g_aload_n m190_829 rfl ?_
            refine g_aload_n m190_830 rfl ?_
            refine g_iload_n m190_831 rfl ?_
            refine g_iconst m190_832 ?_
            refine g_iadd (u := (1 : Int32)) m190_833 (by decide) ?_
            refine g_iald (x := (2 : Int32)) m190_834 rfl (vin rfl) rfl ?_
            refine g_aload_n m190_835 rfl ?_
            refine g_iload_n m190_836 rfl ?_
            refine g_iconst m190_837 ?_
            refine g_iadd (u := (2 : Int32)) m190_838 (by decide) ?_
            refine g_iald (x := s2) m190_839 rfl (vin rfl) rfl ?_
            refine g_cv (args := [.int (2), .int _]) (rest := [.int (-1000000002)]) m190_840 (Nat.le_of_ble_eq_true rfl) rfl rfl rfl (Nat.le_of_ble_eq_true rfl) ?_
            refine wp_in (L := [some (.ref 89), some (.int (2)), some (.int _), none, none, none]) (Nat.le_of_ble_eq_true rfl) rfl ?_
            refine g_iload_n m162_0 rfl ?_
            refine g_cs (args := [.int (2)]) (rest := []) 0 (Or.inl rfl) m162_1 (Nat.le_of_ble_eq_true rfl) rfl rfl (Nat.le_of_ble_eq_true rfl) ?_
            refine wp_in (L := [some (.int (2))]) (Nat.le_of_ble_eq_true rfl) rfl ?_
            refine g_iload_n m160_0 rfl ?_
            refine g_iconst m160_1 ?_
            refine g_iconst m160_2 ?_
            refine g_cs (args := [.int (2), .int (0), .int (3)]) (rest := []) 0 (Or.inl rfl) m160_3 (Nat.le_of_ble_eq_true rfl) rfl rfl (Nat.le_of_ble_eq_true rfl) ?_
            refine wp_in (L := [some (.int (2)), some (.int (0)), some (.int (3))]) (Nat.le_of_ble_eq_true rfl) rfl ?_
            refine g_iload_n m107_0 rfl ?_
            refine g_iload_n m107_1 rfl ?_
            refine g_ic_ltF m107_2 (by decide) ?_
            refine g_iload_n m107_5 rfl ?_
            refine g_iload_n m107_6 rfl ?_
            refine g_ic_gtF m107_7 (by decide) ?_
            refine g_iconst m107_10 ?_
            refine g_goto m107_11 ?_
            refine g_zret m107_15 rfl (Or.inr rfl) ?_
            refine gwst (st' := [.int (1)]) rfl ?_
            refine g_zret m160_6 rfl (Or.inr rfl) ?_
            refine gwst (st' := [.int (1)]) rfl ?_
            refine g_if_eqF m162_4 (by decide) ?_
            refine g_iload_n m162_7 rfl ?_
            refine g_iconst m162_8 ?_
            refine g_iconst m162_9 ?_
            refine g_cs (args := [.int _, .int (0), .int (1)]) (rest := []) 0 (Or.inl rfl) m162_10 (Nat.le_of_ble_eq_true rfl) rfl rfl (Nat.le_of_ble_eq_true rfl) ?_
            refine wp_in (L := [some (.int _), some (.int (0)), some (.int (1))]) (Nat.le_of_ble_eq_true rfl) rfl ?_
            refine g_iload_n m107_0 rfl ?_
            refine g_iload_n m107_1 rfl ?_
            refine g_ic_ltF m107_2 (fun q => absurd ((lt_k (a := (s2).toInt) (b := 0) (by rfl) (by rfl)).mp q) (by omega)) ?_
            refine g_iload_n m107_5 rfl ?_
            refine g_iload_n m107_6 rfl ?_
            refine g_ic_gtF m107_7 (fun q => absurd ((lt_k (a := 1) (b := (s2).toInt) (by rfl) (by rfl)).mp q) (by omega)) ?_
            refine g_iconst m107_10 ?_
            refine g_goto m107_11 ?_
            refine g_zret m107_15 rfl (Or.inr rfl) ?_
            refine gwst (st' := [.int (1)]) rfl ?_
            refine g_if_neF m162_13 (by decide) ?_
            refine g_aload_n m162_23 rfl ?_
            refine g_gf m162_24 rfl rfl ?_
            refine g_iload_n m162_27 rfl ?_
            refine g_iald (x := (0 : Int32)) m162_28 rfl (vin rfl) rfl ?_
            refine g_if_neT m162_29 (by decide) ?_
            refine g_aload_n m162_32 rfl ?_
            refine g_ldci m162_33 rfl ?_
            refine g_cv (args := [.int (-1000000002)]) (rest := []) m162_35 (Nat.le_of_ble_eq_true rfl) rfl rfl rfl (Nat.le_of_ble_eq_true rfl) ?_
            refine wp_in (L := [some (.ref 89), some (.int (-1000000002))]) (Nat.le_of_ble_eq_true rfl) rfl ?_
            refine g_aload_n m108_0 rfl ?_
            refine g_gf m108_1 rfl rfl ?_
            refine g_ldci m108_4 rfl ?_
            refine g_iload_n m108_6 rfl ?_
            refine g_isub (u := (2 : Int32)) m108_7 (by decide) ?_
            refine g_dup2 m108_8 rfl rfl ?_
            refine g_iald (x := (0 : Int32)) m108_9 rfl (vin rfl) rfl ?_
            refine g_iconst m108_10 ?_
            refine g_iadd (u := (1 : Int32)) m108_11 (by decide) ?_
            refine g_iast m108_12 (Nat.le_of_ble_eq_true rfl) rfl (vin rfl) rfl rfl rfl ?_
            refine g_iload_n m108_13 rfl ?_
            refine g_iret m108_14 rfl ?_
            refine gwst (st' := [.int (-1000000002)]) rfl ?_
            refine g_iret m162_38 rfl ?_
            refine gwst (st' := [.int (-1000000002), .int (-1000000002)]) rfl ?_
            refine g_ic_eqT m190_843 (by decide) ?_
            refine g_iinc (x2 := (6 : Int32)) (L2 := [some (.ref 0), some (.ref 32), some (.ref 89), some (.int (6))]) m190_1428 rfl (by decide) rfl rfl ?_
            refine g_goto m190_1431 ?_
            refine g_iload_n m190_18 rfl ?_
            refine g_aload_n m190_19 rfl ?_
            refine g_alen (n := 6) m190_20 rfl (Or.inl rfl) rfl ?_
            refine g_bipush m190_21 ?_
            refine g_isub (u := (0 : Int32)) m190_23 (by decide) ?_
            refine g_ic_gtT m190_24 (by decide) ?_
            refine g_iconst m190_1434 ?_
            refine g_zret m190_1435 rfl (Or.inr rfl) ?_
            exact rfl
          · have x11q : s1 = (3 : Int32) := x11
            clear x11
            subst x11q
            refine g_aald m82_27 (Nat.le_of_ble_eq_true rfl) rfl (vin rfl) rfl ?_
            refine g_astore_n (L2 := [some (.ref 32), some (.int (3)), some (.int _), some (.ref 86), none, none]) m82_28 rfl rfl ?_
            refine g_aload_n m82_29 rfl ?_
            refine g_gf m82_30 rfl rfl ?_
            refine g_if_neT m82_33 (by decide) ?_
            refine g_aload_n m82_36 rfl ?_
            refine g_iconst m82_37 ?_
            refine g_cv (args := [.int (2)]) (rest := []) m82_38 (Nat.le_of_ble_eq_true rfl) rfl rfl rfl (Nat.le_of_ble_eq_true rfl) ?_
            refine wp_in (L := [some (.ref 32), some (.int (2))]) (Nat.le_of_ble_eq_true rfl) rfl ?_
            refine g_aload_n m55_0 rfl ?_
            refine g_gf m55_1 rfl rfl ?_
            refine g_iload_n m55_4 rfl ?_
            refine g_dup2 m55_5 rfl rfl ?_
            refine g_iald (x := (0 : Int32)) m55_6 rfl (vin rfl) rfl ?_
            refine g_iconst m55_7 ?_
            refine g_iadd (u := (1 : Int32)) m55_8 (by decide) ?_
            refine g_iast m55_9 (Nat.le_of_ble_eq_true rfl) rfl (vin rfl) rfl rfl rfl ?_
            refine g_ldcw m55_10 ?_
            refine g_iload_n m55_13 rfl ?_
            refine g_isub (u := (-1000000002 : Int32)) m55_14 (by decide) ?_
            refine g_iret m55_15 rfl ?_
            refine gwst (st' := [.int (-1000000002)]) rfl ?_
            refine g_iret m82_41 rfl ?_
            refine gwst (st' := [.int (-1000000002)]) rfl ?_
            refine FRg rfl (fun f => ?_)
            refine g_aload_n m190_829 rfl ?_
            refine g_aload_n m190_830 rfl ?_
            refine g_iload_n m190_831 rfl ?_
            refine g_iconst m190_832 ?_
            refine g_iadd (u := (1 : Int32)) m190_833 (by decide) ?_
            refine g_iald (x := (3 : Int32)) m190_834 rfl (vin rfl) rfl ?_
            refine g_aload_n m190_835 rfl ?_
            refine g_iload_n m190_836 rfl ?_
            refine g_iconst m190_837 ?_
            refine g_iadd (u := (2 : Int32)) m190_838 (by decide) ?_
            refine g_iald (x := s2) m190_839 rfl (vin rfl) rfl ?_
            refine g_cv (args := [.int (3), .int _]) (rest := [.int (-1000000002)]) m190_840 (Nat.le_of_ble_eq_true rfl) rfl rfl rfl (Nat.le_of_ble_eq_true rfl) ?_
            refine wp_in (L := [some (.ref 89), some (.int (3)), some (.int _), none, none, none]) (Nat.le_of_ble_eq_true rfl) rfl ?_
            refine g_iload_n m162_0 rfl ?_
            refine g_cs (args := [.int (3)]) (rest := []) 0 (Or.inl rfl) m162_1 (Nat.le_of_ble_eq_true rfl) rfl rfl (Nat.le_of_ble_eq_true rfl) ?_
            refine wp_in (L := [some (.int (3))]) (Nat.le_of_ble_eq_true rfl) rfl ?_
            refine g_iload_n m160_0 rfl ?_
            refine g_iconst m160_1 ?_
            refine g_iconst m160_2 ?_
            refine g_cs (args := [.int (3), .int (0), .int (3)]) (rest := []) 0 (Or.inl rfl) m160_3 (Nat.le_of_ble_eq_true rfl) rfl rfl (Nat.le_of_ble_eq_true rfl) ?_
            refine wp_in (L := [some (.int (3)), some (.int (0)), some (.int (3))]) (Nat.le_of_ble_eq_true rfl) rfl ?_
            refine g_iload_n m107_0 rfl ?_
            refine g_iload_n m107_1 rfl ?_
            refine g_ic_ltF m107_2 (by decide) ?_
            refine g_iload_n m107_5 rfl ?_
            refine g_iload_n m107_6 rfl ?_
            refine g_ic_gtF m107_7 (by decide) ?_
            refine g_iconst m107_10 ?_
            refine g_goto m107_11 ?_
            refine g_zret m107_15 rfl (Or.inr rfl) ?_
            refine gwst (st' := [.int (1)]) rfl ?_
            refine g_zret m160_6 rfl (Or.inr rfl) ?_
            refine gwst (st' := [.int (1)]) rfl ?_
            refine g_if_eqF m162_4 (by decide) ?_
            refine g_iload_n m162_7 rfl ?_
            refine g_iconst m162_8 ?_
            refine g_iconst m162_9 ?_
            refine g_cs (args := [.int _, .int (0), .int (1)]) (rest := []) 0 (Or.inl rfl) m162_10 (Nat.le_of_ble_eq_true rfl) rfl rfl (Nat.le_of_ble_eq_true rfl) ?_
            refine wp_in (L := [some (.int _), some (.int (0)), some (.int (1))]) (Nat.le_of_ble_eq_true rfl) rfl ?_
            refine g_iload_n m107_0 rfl ?_
            refine g_iload_n m107_1 rfl ?_
            refine g_ic_ltF m107_2 (fun q => absurd ((lt_k (a := (s2).toInt) (b := 0) (by rfl) (by rfl)).mp q) (by omega)) ?_
            refine g_iload_n m107_5 rfl ?_
            refine g_iload_n m107_6 rfl ?_
            refine g_ic_gtF m107_7 (fun q => absurd ((lt_k (a := 1) (b := (s2).toInt) (by rfl) (by rfl)).mp q) (by omega)) ?_
            refine g_iconst m107_10 ?_
            refine g_goto m107_11 ?_
            refine g_zret m107_15 rfl (Or.inr rfl) ?_
            refine gwst (st' := [.int (1)]) rfl ?_
            refine g_if_neF m162_13 (by decide) ?_
            refine g_aload_n m162_23 rfl ?_
            refine g_gf m162_24 rfl rfl ?_
            refine g_iload_n m162_27 rfl ?_
            refine g_iald (x := (0 : Int32)) m162_28 rfl (vin rfl) rfl ?_
            refine g_if_neT m162_29 (by decide) ?_
            refine g_aload_n m162_32 rfl ?_
            refine g_ldci m162_33 rfl ?_
            refine g_cv (args := [.int (-1000000002)]) (rest := []) m162_35 (Nat.le_of_ble_eq_true rfl) rfl rfl rfl (Nat.le_of_ble_eq_true rfl) ?_
            refine wp_in (L := [some (.ref 89), some (.int (-1000000002))]) (Nat.le_of_ble_eq_true rfl) rfl ?_
            refine g_aload_n m108_0 rfl ?_
            refine g_gf m108_1 rfl rfl ?_
            refine g_ldci m108_4 rfl ?_
            refine g_iload_n m108_6 rfl ?_
            refine g_isub (u := (2 : Int32)) m108_7 (by decide) ?_
            refine g_dup2 m108_8 rfl rfl ?_
            refine g_iald (x := (0 : Int32)) m108_9 rfl (vin rfl) rfl ?_
            refine g_iconst m108_10 ?_
            refine g_iadd (u := (1 : Int32)) m108_11 (by decide) ?_
            refine g_iast m108_12 (Nat.le_of_ble_eq_true rfl) rfl (vin rfl) rfl rfl rfl ?_
            refine g_iload_n m108_13 rfl ?_
            refine g_iret m108_14 rfl ?_
            refine gwst (st' := [.int (-1000000002)]) rfl ?_
            refine g_iret m162_38 rfl ?_
            refine gwst (st' := [.int (-1000000002), .int (-1000000002)]) rfl ?_
            refine g_ic_eqT m190_843 (by decide) ?_
            refine g_iinc (x2 := (6 : Int32)) (L2 := [some (.ref 0), some (.ref 32), some (.ref 89), some (.int (6))]) m190_1428 rfl (by decide) rfl rfl ?_
            refine g_goto m190_1431 ?_
            refine g_iload_n m190_18 rfl ?_
            refine g_aload_n m190_19 rfl ?_
            refine g_alen (n := 6) m190_20 rfl (Or.inl rfl) rfl ?_
            refine g_bipush m190_21 ?_
            refine g_isub (u := (0 : Int32)) m190_23 (by decide) ?_
            refine g_ic_gtT m190_24 (by decide) ?_
            refine g_iconst m190_1434 ?_
            refine g_zret m190_1435 rfl (Or.inr rfl) ?_
            exact rfl
set_option maxRecDepth 20000 in
set_option maxHeartbeats 40000000 in
theorem lc_20 {s0 s1 s2 s3 s4 s5 : Int32} {d mc ms : Nat} : gw [s0, s1, s2, s3, s4, s5] (WP [s0, s1, s2, s3, s4, s5] (d + 20)) 190 (fun r _ => r = some (.int 1)) 848 [some (.ref 0), some (.ref 32), some (.ref 89), some (.int 0)] [] (hX0 ++ hM0) mc ms := by
  refine g_aload_n m190_848 rfl ?_
  refine g_aload_n m190_849 rfl ?_
  refine g_iload_n m190_850 rfl ?_
  refine g_iconst m190_851 ?_
  refine g_iadd (u := (1 : Int32)) m190_852 (by decide) ?_
  refine g_iald (x := s1) m190_853 rfl (vin rfl) rfl ?_
  refine g_cv (args := [.int _]) (rest := []) m190_854 (Nat.le_of_ble_eq_true rfl) rfl rfl rfl (Nat.le_of_ble_eq_true rfl) ?_
  refine wp_in (L := [some (.ref 32), some (.int _)]) (Nat.le_of_ble_eq_true rfl) rfl ?_
  refine g_aload_n m83_0 rfl ?_
  refine g_iload_n m83_1 rfl ?_
  refine g_cv (args := [.int _]) (rest := []) m83_2 (Nat.le_of_ble_eq_true rfl) rfl rfl rfl (Nat.le_of_ble_eq_true rfl) ?_
  refine wp_in (L := [some (.ref 32), some (.int _)]) (Nat.le_of_ble_eq_true rfl) rfl ?_
  refine g_iload_n m60_0 rfl ?_
  refine g_if_lt m60_1 (fun c1 => ?_) (fun c1 => ?_)
  · have d2 : (s1).toInt < 0 := (lt_k (by rfl) (by rfl)).mp c1
    refine g_iconst m60_19 ?_
    refine g_zret m60_20 rfl (Or.inl rfl) ?_
    refine gwst (st' := [.int (0)]) rfl ?_
    refine g_if_neT m83_5 (by decide) ?_
    refine g_aload_n m83_8 rfl ?_
    refine g_iconst m83_9 ?_
    refine g_cv (args := [.int (1)]) (rest := []) m83_10 (Nat.le_of_ble_eq_true rfl) rfl rfl rfl (Nat.le_of_ble_eq_true rfl) ?_
    refine wp_in (L := [some (.ref 32), some (.int (1))]) (Nat.le_of_ble_eq_true rfl) rfl ?_
    refine g_aload_n m55_0 rfl ?_
    refine g_gf m55_1 rfl rfl ?_
    refine g_iload_n m55_4 rfl ?_
    refine g_dup2 m55_5 rfl rfl ?_
    refine g_iald (x := (0 : Int32)) m55_6 rfl (vin rfl) rfl ?_
    refine g_iconst m55_7 ?_
    refine g_iadd (u := (1 : Int32)) m55_8 (by decide) ?_
    refine g_iast m55_9 (Nat.le_of_ble_eq_true rfl) rfl (vin rfl) rfl rfl rfl ?_
    refine g_ldcw m55_10 ?_
    refine g_iload_n m55_13 rfl ?_
    refine g_isub (u := (-1000000001 : Int32)) m55_14 (by decide) ?_
    refine g_iret m55_15 rfl ?_
    refine gwst (st' := [.int (-1000000001)]) rfl ?_
    refine g_iret m83_13 rfl ?_
    refine gwst (st' := [.int (-1000000001)]) rfl ?_
    refine FRg rfl (fun f => ?_)
    refine g_aload_n m190_857 rfl ?_
    refine g_aload_n m190_858 rfl ?_
    refine g_iload_n m190_859 rfl ?_
    refine g_iconst m190_860 ?_
    refine g_iadd (u := (1 : Int32)) m190_861 (by decide) ?_
    refine g_iald (x := s1) m190_862 rfl (vin rfl) rfl ?_
    refine g_cv (args := [.int _]) (rest := [.int (-1000000001)]) m190_863 (Nat.le_of_ble_eq_true rfl) rfl rfl rfl (Nat.le_of_ble_eq_true rfl) ?_
    refine wp_in (L := [some (.ref 89), some (.int _)]) (Nat.le_of_ble_eq_true rfl) rfl ?_
    refine g_aload_n m163_0 rfl ?_
    refine g_iload_n m163_1 rfl ?_
    refine g_cv (args := [.int _]) (rest := []) m163_2 (Nat.le_of_ble_eq_true rfl) rfl rfl rfl (Nat.le_of_ble_eq_true rfl) ?_
    refine wp_in (L := [some (.ref 89), some (.int _)]) (Nat.le_of_ble_eq_true rfl) rfl ?_
    refine g_iload_n m113_0 rfl ?_
    refine g_iconst m113_1 ?_
    refine g_aload_n m113_2 rfl ?_
    refine g_gf m113_3 rfl rfl ?_
    refine g_iconst m113_6 ?_
    refine g_iald (x := (0 : Int32)) m113_7 rfl (vin rfl) rfl ?_
    refine g_iconst m113_8 ?_
    refine g_isub (u := (-1 : Int32)) m113_9 (by decide) ?_
    refine g_cs (args := [.int _, .int (0), .int (-1)]) (rest := []) 0 (Or.inl rfl) m113_10 (Nat.le_of_ble_eq_true rfl) rfl rfl (Nat.le_of_ble_eq_true rfl) ?_
    refine wp_in (L := [some (.int _), some (.int (0)), some (.int (-1))]) (Nat.le_of_ble_eq_true rfl) rfl ?_
    refine g_iload_n m107_0 rfl ?_
    refine g_iload_n m107_1 rfl ?_
    refine g_ic_ltT m107_2 ((lt_k (a := (s1).toInt) (b := 0) (by rfl) (by rfl)).mpr (by omega)) ?_
    refine g_iconst m107_14 ?_
    refine g_zret m107_15 rfl (Or.inl rfl) ?_
    refine gwst (st' := [.int (0)]) rfl ?_
    refine g_zret m113_13 rfl (Or.inl rfl) ?_
    refine gwst (st' := [.int (0)]) rfl ?_
    refine g_if_neT m163_5 (by decide) ?_
    refine g_aload_n m163_8 rfl ?_
    refine g_ldci m163_9 rfl ?_
    refine g_cv (args := [.int (-1000000001)]) (rest := []) m163_11 (Nat.le_of_ble_eq_true rfl) rfl rfl rfl (Nat.le_of_ble_eq_true rfl) ?_
    refine wp_in (L := [some (.ref 89), some (.int (-1000000001))]) (Nat.le_of_ble_eq_true rfl) rfl ?_
    refine g_aload_n m108_0 rfl ?_
    refine g_gf m108_1 rfl rfl ?_
    refine g_ldci m108_4 rfl ?_
    refine g_iload_n m108_6 rfl ?_
    refine g_isub (u := (1 : Int32)) m108_7 (by decide) ?_
    refine g_dup2 m108_8 rfl rfl ?_
    refine g_iald (x := (0 : Int32)) m108_9 rfl (vin rfl) rfl ?_
    refine g_iconst m108_10 ?_
    refine g_iadd (u := (1 : Int32)) m108_11 (by decide) ?_
    refine g_iast m108_12 (Nat.le_of_ble_eq_true rfl) rfl (vin rfl) rfl rfl rfl ?_
    refine g_iload_n m108_13 rfl ?_
    refine g_iret m108_14 rfl ?_
    refine gwst (st' := [.int (-1000000001)]) rfl ?_
    refine g_iret m163_14 rfl ?_
    refine gwst (st' := [.int (-1000000001), .int (-1000000001)]) rfl ?_
    refine g_ic_eqT m190_866 (by decide) ?_
    refine g_iinc (x2 := (6 : Int32)) (L2 := [some (.ref 0), some (.ref 32), some (.ref 89), some (.int (6))]) m190_1428 rfl (by decide) rfl rfl ?_
    refine g_goto m190_1431 ?_
    refine g_iload_n m190_18 rfl ?_
    refine g_aload_n m190_19 rfl ?_
    refine g_alen (n := 6) m190_20 rfl (Or.inl rfl) rfl ?_
    refine g_bipush m190_21 ?_
    refine g_isub (u := (0 : Int32)) m190_23 (by decide) ?_
    refine g_ic_gtT m190_24 (by decide) ?_
    refine g_iconst m190_1434 ?_
    refine g_zret m190_1435 rfl (Or.inr rfl) ?_
    exact rfl
  · have d2 : ¬ ((s1).toInt < 0) := fun q => c1 ((lt_k (by rfl) (by rfl)).mpr q)
    refine g_iload_n m60_4 rfl ?_
    refine g_aload_n m60_5 rfl ?_
    refine g_gf m60_6 rfl rfl ?_
    refine g_gf m60_9 rfl rfl ?_
    refine g_ic_geT m60_12 ((le_k (a := 0) (b := (s1).toInt) (by rfl) (by rfl)).mpr (by omega)) ?_
    refine g_iconst m60_19 ?_
    refine g_zret m60_20 rfl (Or.inl rfl) ?_
    refine gwst (st' := [.int (0)]) rfl ?_
    refine g_if_neT m83_5 (by decide) ?_
    refine g_aload_n m83_8 rfl ?_
    refine g_iconst m83_9 ?_
    refine g_cv (args := [.int (1)]) (rest := []) m83_10 (Nat.le_of_ble_eq_true rfl) rfl rfl rfl (Nat.le_of_ble_eq_true rfl) ?_
    refine wp_in (L := [some (.ref 32), some (.int (1))]) (Nat.le_of_ble_eq_true rfl) rfl ?_
    refine g_aload_n m55_0 rfl ?_
    refine g_gf m55_1 rfl rfl ?_
    refine g_iload_n m55_4 rfl ?_
    refine g_dup2 m55_5 rfl rfl ?_
    refine g_iald (x := (0 : Int32)) m55_6 rfl (vin rfl) rfl ?_
    refine g_iconst m55_7 ?_
    refine g_iadd (u := (1 : Int32)) m55_8 (by decide) ?_
    refine g_iast m55_9 (Nat.le_of_ble_eq_true rfl) rfl (vin rfl) rfl rfl rfl ?_
    refine g_ldcw m55_10 ?_
    refine g_iload_n m55_13 rfl ?_
    refine g_isub (u := (-1000000001 : Int32)) m55_14 (by decide) ?_
    refine g_iret m55_15 rfl ?_
    refine gwst (st' := [.int (-1000000001)]) rfl ?_
    refine g_iret m83_13 rfl ?_
    refine gwst (st' := [.int (-1000000001)]) rfl ?_
    refine FRg rfl (fun f => ?_)
    refine g_aload_n m190_857 rfl ?_
    refine g_aload_n m190_858 rfl ?_
    refine g_iload_n m190_859 rfl ?_
    refine g_iconst m190_860 ?_
    refine g_iadd (u := (1 : Int32)) m190_861 (by decide) ?_
    refine g_iald (x := s1) m190_862 rfl (vin rfl) rfl ?_
    refine g_cv (args := [.int _]) (rest := [.int (-1000000001)]) m190_863 (Nat.le_of_ble_eq_true rfl) rfl rfl rfl (Nat.le_of_ble_eq_true rfl) ?_
    refine wp_in (L := [some (.ref 89), some (.int _)]) (Nat.le_of_ble_eq_true rfl) rfl ?_
    refine g_aload_n m163_0 rfl ?_
    refine g_iload_n m163_1 rfl ?_
    refine g_cv (args := [.int _]) (rest := []) m163_2 (Nat.le_of_ble_eq_true rfl) rfl rfl rfl (Nat.le_of_ble_eq_true rfl) ?_
    refine wp_in (L := [some (.ref 89), some (.int _)]) (Nat.le_of_ble_eq_true rfl) rfl ?_
    refine g_iload_n m113_0 rfl ?_
    refine g_iconst m113_1 ?_
    refine g_aload_n m113_2 rfl ?_
    refine g_gf m113_3 rfl rfl ?_
    refine g_iconst m113_6 ?_
    refine g_iald (x := (0 : Int32)) m113_7 rfl (vin rfl) rfl ?_
    refine g_iconst m113_8 ?_
    refine g_isub (u := (-1 : Int32)) m113_9 (by decide) ?_
    refine g_cs (args := [.int _, .int (0), .int (-1)]) (rest := []) 0 (Or.inl rfl) m113_10 (Nat.le_of_ble_eq_true rfl) rfl rfl (Nat.le_of_ble_eq_true rfl) ?_
    refine wp_in (L := [some (.int _), some (.int (0)), some (.int (-1))]) (Nat.le_of_ble_eq_true rfl) rfl ?_
    refine g_iload_n m107_0 rfl ?_
    refine g_iload_n m107_1 rfl ?_
    refine g_ic_ltF m107_2 (fun q => absurd ((lt_k (a := (s1).toInt) (b := 0) (by rfl) (by rfl)).mp q) (by omega)) ?_
    refine g_iload_n m107_5 rfl ?_
    refine g_iload_n m107_6 rfl ?_
    refine g_ic_gtT m107_7 ((lt_k (a := (-1)) (b := (s1).toInt) (by rfl) (by rfl)).mpr (by omega)) ?_
    refine g_iconst m107_14 ?_
    refine g_zret m107_15 rfl (Or.inl rfl) ?_
    refine gwst (st' := [.int (0)]) rfl ?_
    refine g_zret m113_13 rfl (Or.inl rfl) ?_
    refine gwst (st' := [.int (0)]) rfl ?_
    refine g_if_neT m163_5 (by decide) ?_
    refine g_aload_n m163_8 rfl ?_
    refine g_ldci m163_9 rfl ?_
    refine g_cv (args := [.int (-1000000001)]) (rest := []) m163_11 (Nat.le_of_ble_eq_true rfl) rfl rfl rfl (Nat.le_of_ble_eq_true rfl) ?_
    refine wp_in (L := [some (.ref 89), some (.int (-1000000001))]) (Nat.le_of_ble_eq_true rfl) rfl ?_
    refine g_aload_n m108_0 rfl ?_
    refine g_gf m108_1 rfl rfl ?_
    refine g_ldci m108_4 rfl ?_
    refine g_iload_n m108_6 rfl ?_
    refine g_isub (u := (1 : Int32)) m108_7 (by decide) ?_
    refine g_dup2 m108_8 rfl rfl ?_
    refine g_iald (x := (0 : Int32)) m108_9 rfl (vin rfl) rfl ?_
    refine g_iconst m108_10 ?_
    refine g_iadd (u := (1 : Int32)) m108_11 (by decide) ?_
    refine g_iast m108_12 (Nat.le_of_ble_eq_true rfl) rfl (vin rfl) rfl rfl rfl ?_
    refine g_iload_n m108_13 rfl ?_
    refine g_iret m108_14 rfl ?_
    refine gwst (st' := [.int (-1000000001)]) rfl ?_
    refine g_iret m163_14 rfl ?_
    refine gwst (st' := [.int (-1000000001), .int (-1000000001)]) rfl ?_
    refine g_ic_eqT m190_866 (by decide) ?_
    refine g_iinc (x2 := (6 : Int32)) (L2 := [some (.ref 0), some (.ref 32), some (.ref 89), some (.int (6))]) m190_1428 rfl (by decide) rfl rfl ?_
    refine g_goto m190_1431 ?_
    refine g_iload_n m190_18 rfl ?_
    refine g_aload_n m190_19 rfl ?_
    refine g_alen (n := 6) m190_20 rfl (Or.inl rfl) rfl ?_
    refine g_bipush m190_21 ?_
    refine g_isub (u := (0 : Int32)) m190_23 (by decide) ?_
    refine g_ic_gtT m190_24 (by decide) ?_
    refine g_iconst m190_1434 ?_
    refine g_zret m190_1435 rfl (Or.inr rfl) ?_
    exact rfl
set_option maxRecDepth 20000 in
set_option maxHeartbeats 40000000 in
theorem lc_21 {s0 s1 s2 s3 s4 s5 : Int32} {d mc ms : Nat} : gw [s0, s1, s2, s3, s4, s5] (WP [s0, s1, s2, s3, s4, s5] (d + 20)) 190 (fun r _ => r = some (.int 1)) 871 [some (.ref 0), some (.ref 32), some (.ref 89), some (.int 0)] [] (hX0 ++ hM0) mc ms := by
  refine g_aload_n m190_871 rfl ?_
  refine g_aload_n m190_872 rfl ?_
  refine g_iload_n m190_873 rfl ?_
  refine g_iconst m190_874 ?_
  refine g_iadd (u := (1 : Int32)) m190_875 (by decide) ?_
  refine g_iald (x := s1) m190_876 rfl (vin rfl) rfl ?_
  refine g_aload_n m190_877 rfl ?_
  refine g_iload_n m190_878 rfl ?_
  refine g_iconst m190_879 ?_
  refine g_iadd (u := (2 : Int32)) m190_880 (by decide) ?_
  refine g_iald (x := s2) m190_881 rfl (vin rfl) rfl ?_
  refine g_cv (args := [.int _, .int _]) (rest := []) m190_882 (Nat.le_of_ble_eq_true rfl) rfl rfl rfl (Nat.le_of_ble_eq_true rfl) ?_
  refine wp_in (L := [some (.ref 32), some (.int _), some (.int _), none, none, none]) (Nat.le_of_ble_eq_true rfl) rfl ?_
  refine g_aload_n m84_0 rfl ?_
  refine g_iload_n m84_1 rfl ?_
  refine g_cv (args := [.int _]) (rest := []) m84_2 (Nat.le_of_ble_eq_true rfl) rfl rfl rfl (Nat.le_of_ble_eq_true rfl) ?_
  refine wp_in (L := [some (.ref 32), some (.int _)]) (Nat.le_of_ble_eq_true rfl) rfl ?_
  refine g_iload_n m60_0 rfl ?_
  refine g_if_lt m60_1 (fun c1 => ?_) (fun c1 => ?_)
  · have d2 : (s1).toInt < 0 := (lt_k (by rfl) (by rfl)).mp c1
    refine g_iconst m60_19 ?_
    refine g_zret m60_20 rfl (Or.inl rfl) ?_
    refine gwst (st' := [.int (0)]) rfl ?_
    refine g_if_eqT m84_5 (by decide) ?_
    refine g_aload_n m84_17 rfl ?_
    refine g_iconst m84_18 ?_
    refine g_cv (args := [.int (1)]) (rest := []) m84_19 (Nat.le_of_ble_eq_true rfl) rfl rfl rfl (Nat.le_of_ble_eq_true rfl) ?_
    refine wp_in (L := [some (.ref 32), some (.int (1))]) (Nat.le_of_ble_eq_true rfl) rfl ?_
    refine g_aload_n m55_0 rfl ?_
    refine g_gf m55_1 rfl rfl ?_
    refine g_iload_n m55_4 rfl ?_
    refine g_dup2 m55_5 rfl rfl ?_
    refine g_iald (x := (0 : Int32)) m55_6 rfl (vin rfl) rfl ?_
    refine g_iconst m55_7 ?_
    refine g_iadd (u := (1 : Int32)) m55_8 (by decide) ?_
    refine g_iast m55_9 (Nat.le_of_ble_eq_true rfl) rfl (vin rfl) rfl rfl rfl ?_
    refine g_ldcw m55_10 ?_
    refine g_iload_n m55_13 rfl ?_
    refine g_isub (u := (-1000000001 : Int32)) m55_14 (by decide) ?_
    refine g_iret m55_15 rfl ?_
    refine gwst (st' := [.int (-1000000001)]) rfl ?_
    refine g_iret m84_22 rfl ?_
    refine gwst (st' := [.int (-1000000001)]) rfl ?_
    refine FRg rfl (fun f => ?_)
    refine g_aload_n m190_885 rfl ?_
    refine g_aload_n m190_886 rfl ?_
    refine g_iload_n m190_887 rfl ?_
    refine g_iconst m190_888 ?_
    refine g_iadd (u := (1 : Int32)) m190_889 (by decide) ?_
    refine g_iald (x := s1) m190_890 rfl (vin rfl) rfl ?_
    refine g_aload_n m190_891 rfl ?_
    refine g_iload_n m190_892 rfl ?_
    refine g_iconst m190_893 ?_
    refine g_iadd (u := (2 : Int32)) m190_894 (by decide) ?_
    refine g_iald (x := s2) m190_895 rfl (vin rfl) rfl ?_
    refine g_cv (args := [.int _, .int _]) (rest := [.int (-1000000001)]) m190_896 (Nat.le_of_ble_eq_true rfl) rfl rfl rfl (Nat.le_of_ble_eq_true rfl) ?_
    refine wp_in (L := [some (.ref 89), some (.int _), some (.int _), none, none]) (Nat.le_of_ble_eq_true rfl) rfl ?_
    refine g_aload_n m164_0 rfl ?_
    refine g_iload_n m164_1 rfl ?_
    refine g_cv (args := [.int _]) (rest := []) m164_2 (Nat.le_of_ble_eq_true rfl) rfl rfl rfl (Nat.le_of_ble_eq_true rfl) ?_
    refine wp_in (L := [some (.ref 89), some (.int _)]) (Nat.le_of_ble_eq_true rfl) rfl ?_
    refine g_iload_n m113_0 rfl ?_
    refine g_iconst m113_1 ?_
    refine g_aload_n m113_2 rfl ?_
    refine g_gf m113_3 rfl rfl ?_
    refine g_iconst m113_6 ?_
    refine g_iald (x := (0 : Int32)) m113_7 rfl (vin rfl) rfl ?_
    refine g_iconst m113_8 ?_
    refine g_isub (u := (-1 : Int32)) m113_9 (by decide) ?_
    refine g_cs (args := [.int _, .int (0), .int (-1)]) (rest := []) 0 (Or.inl rfl) m113_10 (Nat.le_of_ble_eq_true rfl) rfl rfl (Nat.le_of_ble_eq_true rfl) ?_
    refine wp_in (L := [some (.int _), some (.int (0)), some (.int (-1))]) (Nat.le_of_ble_eq_true rfl) rfl ?_
    refine g_iload_n m107_0 rfl ?_
    refine g_iload_n m107_1 rfl ?_
    refine g_ic_ltT m107_2 ((lt_k (a := (s1).toInt) (b := 0) (by rfl) (by rfl)).mpr (by omega)) ?_
    refine g_iconst m107_14 ?_
    refine g_zret m107_15 rfl (Or.inl rfl) ?_
    refine gwst (st' := [.int (0)]) rfl ?_
    refine g_zret m113_13 rfl (Or.inl rfl) ?_
    refine gwst (st' := [.int (0)]) rfl ?_
    refine g_if_eqT m164_5 (by decide) ?_
    refine g_aload_n m164_18 rfl ?_
    refine g_ldci m164_19 rfl ?_
    refine g_cv (args := [.int (-1000000001)]) (rest := []) m164_21 (Nat.le_of_ble_eq_true rfl) rfl rfl rfl (Nat.le_of_ble_eq_true rfl) ?_
    refine wp_in (L := [some (.ref 89), some (.int (-1000000001))]) (Nat.le_of_ble_eq_true rfl) rfl ?_
    refine g_aload_n m108_0 rfl ?_
    refine g_gf m108_1 rfl rfl ?_
    refine g_ldci m108_4 rfl ?_
    refine g_iload_n m108_6 rfl ?_
    refine g_isub (u := (1 : Int32)) m108_7 (by decide) ?_
    refine g_dup2 m108_8 rfl rfl ?_
    refine g_iald (x := (0 : Int32)) m108_9 rfl (vin rfl) rfl ?_
    refine g_iconst m108_10 ?_
    refine g_iadd (u := (1 : Int32)) m108_11 (by decide) ?_
    refine g_iast m108_12 (Nat.le_of_ble_eq_true rfl) rfl (vin rfl) rfl rfl rfl ?_
    refine g_iload_n m108_13 rfl ?_
    refine g_iret m108_14 rfl ?_
    refine gwst (st' := [.int (-1000000001)]) rfl ?_
    refine g_iret m164_24 rfl ?_
    refine gwst (st' := [.int (-1000000001), .int (-1000000001)]) rfl ?_
    refine g_ic_eqT m190_899 (by decide) ?_
    refine g_iinc (x2 := (6 : Int32)) (L2 := [some (.ref 0), some (.ref 32), some (.ref 89), some (.int (6))]) m190_1428 rfl (by decide) rfl rfl ?_
    refine g_goto m190_1431 ?_
    refine g_iload_n m190_18 rfl ?_
    refine g_aload_n m190_19 rfl ?_
    refine g_alen (n := 6) m190_20 rfl (Or.inl rfl) rfl ?_
    refine g_bipush m190_21 ?_
    refine g_isub (u := (0 : Int32)) m190_23 (by decide) ?_
    refine g_ic_gtT m190_24 (by decide) ?_
    refine g_iconst m190_1434 ?_
    refine g_zret m190_1435 rfl (Or.inr rfl) ?_
    exact rfl
  · have d2 : ¬ ((s1).toInt < 0) := fun q => c1 ((lt_k (by rfl) (by rfl)).mpr q)
    refine g_iload_n m60_4 rfl ?_
    refine g_aload_n m60_5 rfl ?_
    refine g_gf m60_6 rfl rfl ?_
    refine g_gf m60_9 rfl rfl ?_
    refine g_ic_geT m60_12 ((le_k (a := 0) (b := (s1).toInt) (by rfl) (by rfl)).mpr (by omega)) ?_
    refine g_iconst m60_19 ?_
    refine g_zret m60_20 rfl (Or.inl rfl) ?_
    refine gwst (st' := [.int (0)]) rfl ?_
    refine g_if_eqT m84_5 (by decide) ?_
    refine g_aload_n m84_17 rfl ?_
    refine g_iconst m84_18 ?_
    refine g_cv (args := [.int (1)]) (rest := []) m84_19 (Nat.le_of_ble_eq_true rfl) rfl rfl rfl (Nat.le_of_ble_eq_true rfl) ?_
    refine wp_in (L := [some (.ref 32), some (.int (1))]) (Nat.le_of_ble_eq_true rfl) rfl ?_
    refine g_aload_n m55_0 rfl ?_
    refine g_gf m55_1 rfl rfl ?_
    refine g_iload_n m55_4 rfl ?_
    refine g_dup2 m55_5 rfl rfl ?_
    refine g_iald (x := (0 : Int32)) m55_6 rfl (vin rfl) rfl ?_
    refine g_iconst m55_7 ?_
    refine g_iadd (u := (1 : Int32)) m55_8 (by decide) ?_
    refine g_iast m55_9 (Nat.le_of_ble_eq_true rfl) rfl (vin rfl) rfl rfl rfl ?_
    refine g_ldcw m55_10 ?_
    refine g_iload_n m55_13 rfl ?_
    refine g_isub (u := (-1000000001 : Int32)) m55_14 (by decide) ?_
    refine g_iret m55_15 rfl ?_
    refine gwst (st' := [.int (-1000000001)]) rfl ?_
    refine g_iret m84_22 rfl ?_
    refine gwst (st' := [.int (-1000000001)]) rfl ?_
    refine FRg rfl (fun f => ?_)
    refine g_aload_n m190_885 rfl ?_
    refine g_aload_n m190_886 rfl ?_
    refine g_iload_n m190_887 rfl ?_
    refine g_iconst m190_888 ?_
    refine g_iadd (u := (1 : Int32)) m190_889 (by decide) ?_
    refine g_iald (x := s1) m190_890 rfl (vin rfl) rfl ?_
    refine g_aload_n m190_891 rfl ?_
    refine g_iload_n m190_892 rfl ?_
    refine g_iconst m190_893 ?_
    refine g_iadd (u := (2 : Int32)) m190_894 (by decide) ?_
    refine g_iald (x := s2) m190_895 rfl (vin rfl) rfl ?_
    refine g_cv (args := [.int _, .int _]) (rest := [.int (-1000000001)]) m190_896 (Nat.le_of_ble_eq_true rfl) rfl rfl rfl (Nat.le_of_ble_eq_true rfl) ?_
    refine wp_in (L := [some (.ref 89), some (.int _), some (.int _), none, none]) (Nat.le_of_ble_eq_true rfl) rfl ?_
    refine g_aload_n m164_0 rfl ?_
    refine g_iload_n m164_1 rfl ?_
    refine g_cv (args := [.int _]) (rest := []) m164_2 (Nat.le_of_ble_eq_true rfl) rfl rfl rfl (Nat.le_of_ble_eq_true rfl) ?_
    refine wp_in (L := [some (.ref 89), some (.int _)]) (Nat.le_of_ble_eq_true rfl) rfl ?_
    refine g_iload_n m113_0 rfl ?_
    refine g_iconst m113_1 ?_
    refine g_aload_n m113_2 rfl ?_
    refine g_gf m113_3 rfl rfl ?_
    refine g_iconst m113_6 ?_
    refine g_iald (x := (0 : Int32)) m113_7 rfl (vin rfl) rfl ?_
    refine g_iconst m113_8 ?_
    refine g_isub (u := (-1 : Int32)) m113_9 (by decide) ?_
    refine g_cs (args := [.int _, .int (0), .int (-1)]) (rest := []) 0 (Or.inl rfl) m113_10 (Nat.le_of_ble_eq_true rfl) rfl rfl (Nat.le_of_ble_eq_true rfl) ?_
    refine wp_in (L := [some (.int _), some (.int (0)), some (.int (-1))]) (Nat.le_of_ble_eq_true rfl) rfl ?_
    refine g_iload_n m107_0 rfl ?_
    refine g_iload_n m107_1 rfl ?_
    refine g_ic_ltF m107_2 (fun q => absurd ((lt_k (a := (s1).toInt) (b := 0) (by rfl) (by rfl)).mp q) (by omega)) ?_
    refine g_iload_n m107_5 rfl ?_
    refine g_iload_n m107_6 rfl ?_
    refine g_ic_gtT m107_7 ((lt_k (a := (-1)) (b := (s1).toInt) (by rfl) (by rfl)).mpr (by omega)) ?_
    refine g_iconst m107_14 ?_
    refine g_zret m107_15 rfl (Or.inl rfl) ?_
    refine gwst (st' := [.int (0)]) rfl ?_
    refine g_zret m113_13 rfl (Or.inl rfl) ?_
    refine gwst (st' := [.int (0)]) rfl ?_
    refine g_if_eqT m164_5 (by decide) ?_
    refine g_aload_n m164_18 rfl ?_
    refine g_ldci m164_19 rfl ?_
    refine g_cv (args := [.int (-1000000001)]) (rest := []) m164_21 (Nat.le_of_ble_eq_true rfl) rfl rfl rfl (Nat.le_of_ble_eq_true rfl) ?_
    refine wp_in (L := [some (.ref 89), some (.int (-1000000001))]) (Nat.le_of_ble_eq_true rfl) rfl ?_
    refine g_aload_n m108_0 rfl ?_
    refine g_gf m108_1 rfl rfl ?_
    refine g_ldci m108_4 rfl ?_
    refine g_iload_n m108_6 rfl ?_
    refine g_isub (u := (1 : Int32)) m108_7 (by decide) ?_
    refine g_dup2 m108_8 rfl rfl ?_
    refine g_iald (x := (0 : Int32)) m108_9 rfl (vin rfl) rfl ?_
    refine g_iconst m108_10 ?_
    refine g_iadd (u := (1 : Int32)) m108_11 (by decide) ?_
    refine g_iast m108_12 (Nat.le_of_ble_eq_true rfl) rfl (vin rfl) rfl rfl rfl ?_
    refine g_iload_n m108_13 rfl ?_
    refine g_iret m108_14 rfl ?_
    refine gwst (st' := [.int (-1000000001)]) rfl ?_
    refine g_iret m164_24 rfl ?_
    refine gwst (st' := [.int (-1000000001), .int (-1000000001)]) rfl ?_
    refine g_ic_eqT m190_899 (by decide) ?_
    refine g_iinc (x2 := (6 : Int32)) (L2 := [some (.ref 0), some (.ref 32), some (.ref 89), some (.int (6))]) m190_1428 rfl (by decide) rfl rfl ?_
    refine g_goto m190_1431 ?_
    refine g_iload_n m190_18 rfl ?_
    refine g_aload_n m190_19 rfl ?_
    refine g_alen (n := 6) m190_20 rfl (Or.inl rfl) rfl ?_
    refine g_bipush m190_21 ?_
    refine g_isub (u := (0 : Int32)) m190_23 (by decide) ?_
    refine g_ic_gtT m190_24 (by decide) ?_
    refine g_iconst m190_1434 ?_
    refine g_zret m190_1435 rfl (Or.inr rfl) ?_
    exact rfl
set_option maxRecDepth 20000 in
set_option maxHeartbeats 40000000 in
theorem lc_22 {s0 s1 s2 s3 s4 s5 : Int32} {d mc ms : Nat} : gw [s0, s1, s2, s3, s4, s5] (WP [s0, s1, s2, s3, s4, s5] (d + 20)) 190 (fun r _ => r = some (.int 1)) 904 [some (.ref 0), some (.ref 32), some (.ref 89), some (.int 0)] [] (hX0 ++ hM0) mc ms := by
  refine g_aload_n m190_904 rfl ?_
  refine g_aload_n m190_905 rfl ?_
  refine g_iload_n m190_906 rfl ?_
  refine g_iconst m190_907 ?_
  refine g_iadd (u := (1 : Int32)) m190_908 (by decide) ?_
  refine g_iald (x := s1) m190_909 rfl (vin rfl) rfl ?_
  refine g_aload_n m190_910 rfl ?_
  refine g_iload_n m190_911 rfl ?_
  refine g_iconst m190_912 ?_
  refine g_iadd (u := (2 : Int32)) m190_913 (by decide) ?_
  refine g_iald (x := s2) m190_914 rfl (vin rfl) rfl ?_
  refine g_cv (args := [.int _, .int _]) (rest := []) m190_915 (Nat.le_of_ble_eq_true rfl) rfl rfl rfl (Nat.le_of_ble_eq_true rfl) ?_
  refine wp_in (L := [some (.ref 32), some (.int _), some (.int _), none, none, none]) (Nat.le_of_ble_eq_true rfl) rfl ?_
  refine g_aload_n m85_0 rfl ?_
  refine g_iload_n m85_1 rfl ?_
  refine g_cv (args := [.int _]) (rest := []) m85_2 (Nat.le_of_ble_eq_true rfl) rfl rfl rfl (Nat.le_of_ble_eq_true rfl) ?_
  refine wp_in (L := [some (.ref 32), some (.int _)]) (Nat.le_of_ble_eq_true rfl) rfl ?_
  refine g_iload_n m60_0 rfl ?_
  refine g_if_lt m60_1 (fun c1 => ?_) (fun c1 => ?_)
  · have d2 : (s1).toInt < 0 := (lt_k (by rfl) (by rfl)).mp c1
    refine g_iconst m60_19 ?_
    refine g_zret m60_20 rfl (Or.inl rfl) ?_
    refine gwst (st' := [.int (0)]) rfl ?_
    refine g_if_eqT m85_5 (by decide) ?_
    refine g_aload_n m85_17 rfl ?_
    refine g_iconst m85_18 ?_
    refine g_cv (args := [.int (1)]) (rest := []) m85_19 (Nat.le_of_ble_eq_true rfl) rfl rfl rfl (Nat.le_of_ble_eq_true rfl) ?_
    refine wp_in (L := [some (.ref 32), some (.int (1))]) (Nat.le_of_ble_eq_true rfl) rfl ?_
    refine g_aload_n m55_0 rfl ?_
    refine g_gf m55_1 rfl rfl ?_
    refine g_iload_n m55_4 rfl ?_
    refine g_dup2 m55_5 rfl rfl ?_
    refine g_iald (x := (0 : Int32)) m55_6 rfl (vin rfl) rfl ?_
    refine g_iconst m55_7 ?_
    refine g_iadd (u := (1 : Int32)) m55_8 (by decide) ?_
    refine g_iast m55_9 (Nat.le_of_ble_eq_true rfl) rfl (vin rfl) rfl rfl rfl ?_
    refine g_ldcw m55_10 ?_
    refine g_iload_n m55_13 rfl ?_
    refine g_isub (u := (-1000000001 : Int32)) m55_14 (by decide) ?_
    refine g_iret m55_15 rfl ?_
    refine gwst (st' := [.int (-1000000001)]) rfl ?_
    refine g_iret m85_22 rfl ?_
    refine gwst (st' := [.int (-1000000001)]) rfl ?_
    refine FRg rfl (fun f => ?_)
    refine g_aload_n m190_918 rfl ?_
    refine g_aload_n m190_919 rfl ?_
    refine g_iload_n m190_920 rfl ?_
    refine g_iconst m190_921 ?_
    refine g_iadd (u := (1 : Int32)) m190_922 (by decide) ?_
    refine g_iald (x := s1) m190_923 rfl (vin rfl) rfl ?_
    refine g_aload_n m190_924 rfl ?_
    refine g_iload_n m190_925 rfl ?_
    refine g_iconst m190_926 ?_
    refine g_iadd (u := (2 : Int32)) m190_927 (by decide) ?_
    refine g_iald (x := s2) m190_928 rfl (vin rfl) rfl ?_
    refine g_cv (args := [.int _, .int _]) (rest := [.int (-1000000001)]) m190_929 (Nat.le_of_ble_eq_true rfl) rfl rfl rfl (Nat.le_of_ble_eq_true rfl) ?_
    refine wp_in (L := [some (.ref 89), some (.int _), some (.int _), none, none]) (Nat.le_of_ble_eq_true rfl) rfl ?_
    refine g_aload_n m165_0 rfl ?_
    refine g_iload_n m165_1 rfl ?_
    refine g_cv (args := [.int _]) (rest := []) m165_2 (Nat.le_of_ble_eq_true rfl) rfl rfl rfl (Nat.le_of_ble_eq_true rfl) ?_
    refine wp_in (L := [some (.ref 89), some (.int _)]) (Nat.le_of_ble_eq_true rfl) rfl ?_
    refine g_iload_n m113_0 rfl ?_
    refine g_iconst m113_1 ?_
    refine g_aload_n m113_2 rfl ?_
    refine g_gf m113_3 rfl rfl ?_
    refine g_iconst m113_6 ?_
    refine g_iald (x := (0 : Int32)) m113_7 rfl (vin rfl) rfl ?_
    refine g_iconst m113_8 ?_
    refine g_isub (u := (-1 : Int32)) m113_9 (by decide) ?_
    refine g_cs (args := [.int _, .int (0), .int (-1)]) (rest := []) 0 (Or.inl rfl) m113_10 (Nat.le_of_ble_eq_true rfl) rfl rfl (Nat.le_of_ble_eq_true rfl) ?_
    refine wp_in (L := [some (.int _), some (.int (0)), some (.int (-1))]) (Nat.le_of_ble_eq_true rfl) rfl ?_
    refine g_iload_n m107_0 rfl ?_
    refine g_iload_n m107_1 rfl ?_
    refine g_ic_ltT m107_2 ((lt_k (a := (s1).toInt) (b := 0) (by rfl) (by rfl)).mpr (by omega)) ?_
    refine g_iconst m107_14 ?_
    refine g_zret m107_15 rfl (Or.inl rfl) ?_
    refine gwst (st' := [.int (0)]) rfl ?_
    refine g_zret m113_13 rfl (Or.inl rfl) ?_
    refine gwst (st' := [.int (0)]) rfl ?_
    refine g_if_eqT m165_5 (by decide) ?_
    refine g_aload_n m165_18 rfl ?_
    refine g_ldci m165_19 rfl ?_
    refine g_cv (args := [.int (-1000000001)]) (rest := []) m165_21 (Nat.le_of_ble_eq_true rfl) rfl rfl rfl (Nat.le_of_ble_eq_true rfl) ?_
    refine wp_in (L := [some (.ref 89), some (.int (-1000000001))]) (Nat.le_of_ble_eq_true rfl) rfl ?_
    refine g_aload_n m108_0 rfl ?_
    refine g_gf m108_1 rfl rfl ?_
    refine g_ldci m108_4 rfl ?_
    refine g_iload_n m108_6 rfl ?_
    refine g_isub (u := (1 : Int32)) m108_7 (by decide) ?_
    refine g_dup2 m108_8 rfl rfl ?_
    refine g_iald (x := (0 : Int32)) m108_9 rfl (vin rfl) rfl ?_
    refine g_iconst m108_10 ?_
    refine g_iadd (u := (1 : Int32)) m108_11 (by decide) ?_
    refine g_iast m108_12 (Nat.le_of_ble_eq_true rfl) rfl (vin rfl) rfl rfl rfl ?_
    refine g_iload_n m108_13 rfl ?_
    refine g_iret m108_14 rfl ?_
    refine gwst (st' := [.int (-1000000001)]) rfl ?_
    refine g_iret m165_24 rfl ?_
    refine gwst (st' := [.int (-1000000001), .int (-1000000001)]) rfl ?_
    refine g_ic_eqT m190_932 (by decide) ?_
    refine g_iinc (x2 := (6 : Int32)) (L2 := [some (.ref 0), some (.ref 32), some (.ref 89), some (.int (6))]) m190_1428 rfl (by decide) rfl rfl ?_
    refine g_goto m190_1431 ?_
    refine g_iload_n m190_18 rfl ?_
    refine g_aload_n m190_19 rfl ?_
    refine g_alen (n := 6) m190_20 rfl (Or.inl rfl) rfl ?_
    refine g_bipush m190_21 ?_
    refine g_isub (u := (0 : Int32)) m190_23 (by decide) ?_
    refine g_ic_gtT m190_24 (by decide) ?_
    refine g_iconst m190_1434 ?_
    refine g_zret m190_1435 rfl (Or.inr rfl) ?_
    exact rfl
  · have d2 : ¬ ((s1).toInt < 0) := fun q => c1 ((lt_k (by rfl) (by rfl)).mpr q)
    refine g_iload_n m60_4 rfl ?_
    refine g_aload_n m60_5 rfl ?_
    refine g_gf m60_6 rfl rfl ?_
    refine g_gf m60_9 rfl rfl ?_
    refine g_ic_geT m60_12 ((le_k (a := 0) (b := (s1).toInt) (by rfl) (by rfl)).mpr (by omega)) ?_
    refine g_iconst m60_19 ?_
    refine g_zret m60_20 rfl (Or.inl rfl) ?_
    refine gwst (st' := [.int (0)]) rfl ?_
    refine g_if_eqT m85_5 (by decide) ?_
    refine g_aload_n m85_17 rfl ?_
    refine g_iconst m85_18 ?_
    refine g_cv (args := [.int (1)]) (rest := []) m85_19 (Nat.le_of_ble_eq_true rfl) rfl rfl rfl (Nat.le_of_ble_eq_true rfl) ?_
    refine wp_in (L := [some (.ref 32), some (.int (1))]) (Nat.le_of_ble_eq_true rfl) rfl ?_
    refine g_aload_n m55_0 rfl ?_
    refine g_gf m55_1 rfl rfl ?_
    refine g_iload_n m55_4 rfl ?_
    refine g_dup2 m55_5 rfl rfl ?_
    refine g_iald (x := (0 : Int32)) m55_6 rfl (vin rfl) rfl ?_
    refine g_iconst m55_7 ?_
    refine g_iadd (u := (1 : Int32)) m55_8 (by decide) ?_
    refine g_iast m55_9 (Nat.le_of_ble_eq_true rfl) rfl (vin rfl) rfl rfl rfl ?_
    refine g_ldcw m55_10 ?_
    refine g_iload_n m55_13 rfl ?_
    refine g_isub (u := (-1000000001 : Int32)) m55_14 (by decide) ?_
    refine g_iret m55_15 rfl ?_
    refine gwst (st' := [.int (-1000000001)]) rfl ?_
    refine g_iret m85_22 rfl ?_
    refine gwst (st' := [.int (-1000000001)]) rfl ?_
    refine FRg rfl (fun f => ?_)
    refine g_aload_n m190_918 rfl ?_
    refine g_aload_n m190_919 rfl ?_
    refine g_iload_n m190_920 rfl ?_
    refine g_iconst m190_921 ?_
    refine g_iadd (u := (1 : Int32)) m190_922 (by decide) ?_
    refine g_iald (x := s1) m190_923 rfl (vin rfl) rfl ?_
    refine g_aload_n m190_924 rfl ?_
    refine g_iload_n m190_925 rfl ?_
    refine g_iconst m190_926 ?_
    refine g_iadd (u := (2 : Int32)) m190_927 (by decide) ?_
    refine g_iald (x := s2) m190_928 rfl (vin rfl) rfl ?_
    refine g_cv (args := [.int _, .int _]) (rest := [.int (-1000000001)]) m190_929 (Nat.le_of_ble_eq_true rfl) rfl rfl rfl (Nat.le_of_ble_eq_true rfl) ?_
    refine wp_in (L := [some (.ref 89), some (.int _), some (.int _), none, none]) (Nat.le_of_ble_eq_true rfl) rfl ?_
    refine g_aload_n m165_0 rfl ?_
    refine g_iload_n m165_1 rfl ?_
    refine g_cv (args := [.int _]) (rest := []) m165_2 (Nat.le_of_ble_eq_true rfl) rfl rfl rfl (Nat.le_of_ble_eq_true rfl) ?_
    refine wp_in (L := [some (.ref 89), some (.int _)]) (Nat.le_of_ble_eq_true rfl) rfl ?_
    refine g_iload_n m113_0 rfl ?_
    refine g_iconst m113_1 ?_
    refine g_aload_n m113_2 rfl ?_
    refine g_gf m113_3 rfl rfl ?_
    refine g_iconst m113_6 ?_
    refine g_iald (x := (0 : Int32)) m113_7 rfl (vin rfl) rfl ?_
    refine g_iconst m113_8 ?_
    refine g_isub (u := (-1 : Int32)) m113_9 (by decide) ?_
    refine g_cs (args := [.int _, .int (0), .int (-1)]) (rest := []) 0 (Or.inl rfl) m113_10 (Nat.le_of_ble_eq_true rfl) rfl rfl (Nat.le_of_ble_eq_true rfl) ?_
    refine wp_in (L := [some (.int _), some (.int (0)), some (.int (-1))]) (Nat.le_of_ble_eq_true rfl) rfl ?_
    refine g_iload_n m107_0 rfl ?_
    refine g_iload_n m107_1 rfl ?_
    refine g_ic_ltF m107_2 (fun q => absurd ((lt_k (a := (s1).toInt) (b := 0) (by rfl) (by rfl)).mp q) (by omega)) ?_
    refine g_iload_n m107_5 rfl ?_
    refine g_iload_n m107_6 rfl ?_
    refine g_ic_gtT m107_7 ((lt_k (a := (-1)) (b := (s1).toInt) (by rfl) (by rfl)).mpr (by omega)) ?_
    refine g_iconst m107_14 ?_
    refine g_zret m107_15 rfl (Or.inl rfl) ?_
    refine gwst (st' := [.int (0)]) rfl ?_
    refine g_zret m113_13 rfl (Or.inl rfl) ?_
    refine gwst (st' := [.int (0)]) rfl ?_
    refine g_if_eqT m165_5 (by decide) ?_
    refine g_aload_n m165_18 rfl ?_
    refine g_ldci m165_19 rfl ?_
    refine g_cv (args := [.int (-1000000001)]) (rest := []) m165_21 (Nat.le_of_ble_eq_true rfl) rfl rfl rfl (Nat.le_of_ble_eq_true rfl) ?_
    refine wp_in (L := [some (.ref 89), some (.int (-1000000001))]) (Nat.le_of_ble_eq_true rfl) rfl ?_
    refine g_aload_n m108_0 rfl ?_
    refine g_gf m108_1 rfl rfl ?_
    refine g_ldci m108_4 rfl ?_
    refine g_iload_n m108_6 rfl ?_
    refine g_isub (u := (1 : Int32)) m108_7 (by decide) ?_
    refine g_dup2 m108_8 rfl rfl ?_
    refine g_iald (x := (0 : Int32)) m108_9 rfl (vin rfl) rfl ?_
    refine g_iconst m108_10 ?_
    refine g_iadd (u := (1 : Int32)) m108_11 (by decide) ?_
    refine g_iast m108_12 (Nat.le_of_ble_eq_true rfl) rfl (vin rfl) rfl rfl rfl ?_
    refine g_iload_n m108_13 rfl ?_
    refine g_iret m108_14 rfl ?_
    refine gwst (st' := [.int (-1000000001)]) rfl ?_
    refine g_iret m165_24 rfl ?_
    refine gwst (st' := [.int (-1000000001), .int (-1000000001)]) rfl ?_
    refine g_ic_eqT m190_932 (by decide) ?_
    refine g_iinc (x2 := (6 : Int32)) (L2 := [some (.ref 0), some (.ref 32), some (.ref 89), some (.int (6))]) m190_1428 rfl (by decide) rfl rfl ?_
    refine g_goto m190_1431 ?_
    refine g_iload_n m190_18 rfl ?_
    refine g_aload_n m190_19 rfl ?_
    refine g_alen (n := 6) m190_20 rfl (Or.inl rfl) rfl ?_
    refine g_bipush m190_21 ?_
    refine g_isub (u := (0 : Int32)) m190_23 (by decide) ?_
    refine g_ic_gtT m190_24 (by decide) ?_
    refine g_iconst m190_1434 ?_
    refine g_zret m190_1435 rfl (Or.inr rfl) ?_
    exact rfl
