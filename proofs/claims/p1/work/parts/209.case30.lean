/-! THE LAW'S CASES 30, over two new objects -/
set_option maxRecDepth 20000 in
set_option maxHeartbeats 40000000 in
theorem lc_30 {s0 s1 s2 s3 s4 s5 : Int32} {d mc ms : Nat} : gw [s0, s1, s2, s3, s4, s5] (WP [s0, s1, s2, s3, s4, s5] (d + 20)) 190 (fun r _ => r = some (.int 1)) 1168 [some (.ref 0), some (.ref 32), some (.ref 89), some (.int 0)] [] (hX0 ++ hM0) mc ms := by
  refine g_aload_n m190_1168 rfl ?_
  refine g_aload_n m190_1169 rfl ?_
  refine g_iload_n m190_1170 rfl ?_
  refine g_iconst m190_1171 ?_
  refine g_iadd (u := (1 : Int32)) m190_1172 (by decide) ?_
  refine g_iald (x := s1) m190_1173 rfl (vin rfl) rfl ?_
  refine g_aload_n m190_1174 rfl ?_
  refine g_iload_n m190_1175 rfl ?_
  refine g_iconst m190_1176 ?_
  refine g_iadd (u := (2 : Int32)) m190_1177 (by decide) ?_
  refine g_iald (x := s2) m190_1178 rfl (vin rfl) rfl ?_
  refine g_aload_n m190_1179 rfl ?_
  refine g_iload_n m190_1180 rfl ?_
  refine g_iconst m190_1181 ?_
  refine g_iadd (u := (3 : Int32)) m190_1182 (by decide) ?_
  refine g_iald (x := s3) m190_1183 rfl (vin rfl) rfl ?_
  refine g_cv (args := [.int _, .int _, .int _]) (rest := []) m190_1184 (Nat.le_of_ble_eq_true rfl) rfl rfl rfl (Nat.le_of_ble_eq_true rfl) ?_
  refine wp_in (L := [some (.ref 32), some (.int _), some (.int _), some (.int _), none]) (Nat.le_of_ble_eq_true rfl) rfl ?_
  refine g_iload_n m96_0 rfl ?_
  refine g_iconst m96_1 ?_
  refine g_cs (args := [.int _, .int (3)]) (rest := []) 0 (Or.inl rfl) m96_2 (Nat.le_of_ble_eq_true rfl) rfl rfl (Nat.le_of_ble_eq_true rfl) ?_
  refine wp_in (L := [some (.int _), some (.int (3))]) (Nat.le_of_ble_eq_true rfl) rfl ?_
  refine g_iload_n m54_0 rfl ?_
  refine g_if_lt m54_1 (fun c1 => ?_) (fun c1 => ?_)
  · have d2 : (s1).toInt < 0 := (lt_k (by rfl) (by rfl)).mp c1
    refine g_iconst m54_13 ?_
    refine g_zret m54_14 rfl (Or.inl rfl) ?_
    refine gwst (st' := [.int (0)]) rfl ?_
    refine g_if_neT m96_5 (by decide) ?_
    refine g_aload_n m96_8 rfl ?_
    refine g_iconst m96_9 ?_
    refine g_cv (args := [.int (1)]) (rest := []) m96_10 (Nat.le_of_ble_eq_true rfl) rfl rfl rfl (Nat.le_of_ble_eq_true rfl) ?_
    refine wp_in (L := [some (.ref 32), some (.int (1))]) (Nat.le_of_ble_eq_true rfl) rfl ?_
    refine g_aload_n m55_0 rfl ?_
    refine g_gf m55_1 rfl rfl ?_
    refine g_iload_n m55_4 rfl ?_
    refine g_dup2 m55_5 rfl rfl ?_
    refine g_iald (x := (0 : Int32)) m55_6 rfl (vin rfl) rfl ?_
    refine g_iconst m55_7 ?_
    refine g_iadd (u := (1 : Int32)) m55_8 (by decide) ?_
    refine g_iast m55_9 (Nat.le_of_ble_eq_true rfl) rfl (vin rfl) rfl rfl rfl ?_
    refine g_ldcw m55_10 ?_
    refine g_iload_n m55_13 rfl ?_
    refine g_isub (u := (-1000000001 : Int32)) m55_14 (by decide) ?_
    refine g_iret m55_15 rfl ?_
    refine gwst (st' := [.int (-1000000001)]) rfl ?_
    refine g_iret m96_13 rfl ?_
    refine gwst (st' := [.int (-1000000001)]) rfl ?_
    refine FRg rfl (fun f => ?_)
    refine g_aload_n m190_1187 rfl ?_
    refine g_aload_n m190_1188 rfl ?_
    refine g_iload_n m190_1189 rfl ?_
    refine g_iconst m190_1190 ?_
    refine g_iadd (u := (1 : Int32)) m190_1191 (by decide) ?_
    refine g_iald (x := s1) m190_1192 rfl (vin rfl) rfl ?_
    refine g_aload_n m190_1193 rfl ?_
    refine g_iload_n m190_1194 rfl ?_
    refine g_iconst m190_1195 ?_
    refine g_iadd (u := (2 : Int32)) m190_1196 (by decide) ?_
    refine g_iald (x := s2) m190_1197 rfl (vin rfl) rfl ?_
    refine g_aload_n m190_1198 rfl ?_
    refine g_iload_n m190_1199 rfl ?_
    refine g_iconst m190_1200 ?_
    refine g_iadd (u := (3 : Int32)) m190_1201 (by decide) ?_
    refine g_iald (x := s3) m190_1202 rfl (vin rfl) rfl ?_
    refine g_cv (args := [.int _, .int _, .int _]) (rest := [.int (-1000000001)]) m190_1203 (Nat.le_of_ble_eq_true rfl) rfl rfl rfl (Nat.le_of_ble_eq_true rfl) ?_
    refine wp_in (L := [some (.ref 89), some (.int _), some (.int _), some (.int _)]) (Nat.le_of_ble_eq_true rfl) rfl ?_
    refine g_iload_n m180_0 rfl ?_
    refine g_cs (args := [.int _]) (rest := []) 0 (Or.inl rfl) m180_1 (Nat.le_of_ble_eq_true rfl) rfl rfl (Nat.le_of_ble_eq_true rfl) ?_
    refine wp_in (L := [some (.int _)]) (Nat.le_of_ble_eq_true rfl) rfl ?_
    refine g_iload_n m160_0 rfl ?_
    refine g_iconst m160_1 ?_
    refine g_iconst m160_2 ?_
    refine g_cs (args := [.int _, .int (0), .int (3)]) (rest := []) 0 (Or.inl rfl) m160_3 (Nat.le_of_ble_eq_true rfl) rfl rfl (Nat.le_of_ble_eq_true rfl) ?_
    refine wp_in (L := [some (.int _), some (.int (0)), some (.int (3))]) (Nat.le_of_ble_eq_true rfl) rfl ?_
    refine g_iload_n m107_0 rfl ?_
    refine g_iload_n m107_1 rfl ?_
    refine g_ic_ltT m107_2 ((lt_k (a := (s1).toInt) (b := 0) (by rfl) (by rfl)).mpr (by omega)) ?_
    refine g_iconst m107_14 ?_
    refine g_zret m107_15 rfl (Or.inl rfl) ?_
    refine gwst (st' := [.int (0)]) rfl ?_
    refine g_zret m160_6 rfl (Or.inl rfl) ?_
    refine gwst (st' := [.int (0)]) rfl ?_
    refine g_if_neT m180_4 (by decide) ?_
    refine g_aload_n m180_7 rfl ?_
    refine g_ldci m180_8 rfl ?_
    refine g_cv (args := [.int (-1000000001)]) (rest := []) m180_10 (Nat.le_of_ble_eq_true rfl) rfl rfl rfl (Nat.le_of_ble_eq_true rfl) ?_
    refine wp_in (L := [some (.ref 89), some (.int (-1000000001))]) (Nat.le_of_ble_eq_true rfl) rfl ?_
    refine g_aload_n m108_0 rfl ?_
    refine g_gf m108_1 rfl rfl ?_
    refine g_ldci m108_4 rfl ?_
    refine g_iload_n m108_6 rfl ?_
    refine g_isub (u := (1 : Int32)) m108_7 (by decide) ?_
    refine g_dup2 m108_8 rfl rfl ?_
    refine g_iald (x := (0 : Int32)) m108_9 rfl (vin rfl) rfl ?_
    refine g_iconst m108_10 ?_
    refine g_iadd (u := (1 : Int32)) m108_11 (by decide) ?_
    refine g_iast m108_12 (Nat.le_of_ble_eq_true rfl) rfl (vin rfl) rfl rfl rfl ?_
    refine g_iload_n m108_13 rfl ?_
    refine g_iret m108_14 rfl ?_
    refine gwst (st' := [.int (-1000000001)]) rfl ?_
    refine g_iret m180_13 rfl ?_
    refine gwst (st' := [.int (-1000000001), .int (-1000000001)]) rfl ?_
    refine g_ic_eqT m190_1206 (by decide) ?_
    refine g_iinc (x2 := (6 : Int32)) (L2 := [some (.ref 0), some (.ref 32), some (.ref 89), some (.int (6))]) m190_1428 rfl (by decide) rfl rfl ?_
    refine g_goto m190_1431 ?_
    refine g_iload_n m190_18 rfl ?_
    refine g_aload_n m190_19 rfl ?_
    refine g_alen (n := 6) m190_20 rfl (Or.inl rfl) rfl ?_
    refine g_bipush m190_21 ?_
    refine g_isub (u := (0 : Int32)) m190_23 (by decide) ?_
    refine g_ic_gtT m190_24 (by decide) ?_
    refine g_iconst m190_1434 ?_
    refine g_zret m190_1435 rfl (Or.inr rfl) ?_
    exact rfl
  · have d2 : ¬ ((s1).toInt < 0) := fun q => c1 ((lt_k (by rfl) (by rfl)).mpr q)
    refine g_iload_n m54_4 rfl ?_
    refine g_iload_n m54_5 rfl ?_
    refine g_ic_gt m54_6 (fun c3 => ?_) (fun c3 => ?_)
    · have d4 : 3 < (s1).toInt := (lt_k (by rfl) (by rfl)).mp c3
      refine g_iconst m54_13 ?_
      refine g_zret m54_14 rfl (Or.inl rfl) ?_
      refine gwst (st' := [.int (0)]) rfl ?_
      refine g_if_neT m96_5 (by decide) ?_
      refine g_aload_n m96_8 rfl ?_
      refine g_iconst m96_9 ?_
      refine g_cv (args := [.int (1)]) (rest := []) m96_10 (Nat.le_of_ble_eq_true rfl) rfl rfl rfl (Nat.le_of_ble_eq_true rfl) ?_
      refine wp_in (L := [some (.ref 32), some (.int (1))]) (Nat.le_of_ble_eq_true rfl) rfl ?_
      refine g_aload_n m55_0 rfl ?_
      refine g_gf m55_1 rfl rfl ?_
      refine g_iload_n m55_4 rfl ?_
      refine g_dup2 m55_5 rfl rfl ?_
      refine g_iald (x := (0 : Int32)) m55_6 rfl (vin rfl) rfl ?_
      refine g_iconst m55_7 ?_
      refine g_iadd (u := (1 : Int32)) m55_8 (by decide) ?_
      refine g_iast m55_9 (Nat.le_of_ble_eq_true rfl) rfl (vin rfl) rfl rfl rfl ?_
      refine g_ldcw m55_10 ?_
      refine g_iload_n m55_13 rfl ?_
      refine g_isub (u := (-1000000001 : Int32)) m55_14 (by decide) ?_
      refine g_iret m55_15 rfl ?_
      refine gwst (st' := [.int (-1000000001)]) rfl ?_
      refine g_iret m96_13 rfl ?_
      refine gwst (st' := [.int (-1000000001)]) rfl ?_
      refine FRg rfl (fun f => ?_)
      refine g_aload_n m190_1187 rfl ?_
      refine g_aload_n m190_1188 rfl ?_
      refine g_iload_n m190_1189 rfl ?_
      refine g_iconst m190_1190 ?_
      refine g_iadd (u := (1 : Int32)) m190_1191 (by decide) ?_
      refine g_iald (x := s1) m190_1192 rfl (vin rfl) rfl ?_
      refine g_aload_n m190_1193 rfl ?_
      refine g_iload_n m190_1194 rfl ?_
      refine g_iconst m190_1195 ?_
      refine g_iadd (u := (2 : Int32)) m190_1196 (by decide) ?_
      refine g_iald (x := s2) m190_1197 rfl (vin rfl) rfl ?_
      refine g_aload_n m190_1198 rfl ?_
      refine g_iload_n m190_1199 rfl ?_
      refine g_iconst m190_1200 ?_
      refine g_iadd (u := (3 : Int32)) m190_1201 (by decide) ?_
      refine g_iald (x := s3) m190_1202 rfl (vin rfl) rfl ?_
      refine g_cv (args := [.int _, .int _, .int _]) (rest := [.int (-1000000001)]) m190_1203 (Nat.le_of_ble_eq_true rfl) rfl rfl rfl (Nat.le_of_ble_eq_true rfl) ?_
      refine wp_in (L := [some (.ref 89), some (.int _), some (.int _), some (.int _)]) (Nat.le_of_ble_eq_true rfl) rfl ?_
      refine g_iload_n m180_0 rfl ?_
      refine g_cs (args := [.int _]) (rest := []) 0 (Or.inl rfl) m180_1 (Nat.le_of_ble_eq_true rfl) rfl rfl (Nat.le_of_ble_eq_true rfl) ?_
      refine wp_in (L := [some (.int _)]) (Nat.le_of_ble_eq_true rfl) rfl ?_
      refine g_iload_n m160_0 rfl ?_
      refine g_iconst m160_1 ?_
      refine g_iconst m160_2 ?_
      refine g_cs (args := [.int _, .int (0), .int (3)]) (rest := []) 0 (Or.inl rfl) m160_3 (Nat.le_of_ble_eq_true rfl) rfl rfl (Nat.le_of_ble_eq_true rfl) ?_
      refine wp_in (L := [some (.int _), some (.int (0)), some (.int (3))]) (Nat.le_of_ble_eq_true rfl) rfl ?_
      refine g_iload_n m107_0 rfl ?_
      refine g_iload_n m107_1 rfl ?_
      refine g_ic_ltF m107_2 (fun q => absurd ((lt_k (a := (s1).toInt) (b := 0) (by rfl) (by rfl)).mp q) (by omega)) ?_
      refine g_iload_n m107_5 rfl ?_
      refine g_iload_n m107_6 rfl ?_
      refine g_ic_gtT m107_7 ((lt_k (a := 3) (b := (s1).toInt) (by rfl) (by rfl)).mpr (by omega)) ?_
      refine g_iconst m107_14 ?_
      refine g_zret m107_15 rfl (Or.inl rfl) ?_
      refine gwst (st' := [.int (0)]) rfl ?_
      refine g_zret m160_6 rfl (Or.inl rfl) ?_
      refine gwst (st' := [.int (0)]) rfl ?_
      refine g_if_neT m180_4 (by decide) ?_
      refine g_aload_n m180_7 rfl ?_
      refine g_ldci m180_8 rfl ?_
      refine g_cv (args := [.int (-1000000001)]) (rest := []) m180_10 (Nat.le_of_ble_eq_true rfl) rfl rfl rfl (Nat.le_of_ble_eq_true rfl) ?_
      refine wp_in (L := [some (.ref 89), some (.int (-1000000001))]) (Nat.le_of_ble_eq_true rfl) rfl ?_
      refine g_aload_n m108_0 rfl ?_
      refine g_gf m108_1 rfl rfl ?_
      refine g_ldci m108_4 rfl ?_
      refine g_iload_n m108_6 rfl ?_
      refine g_isub (u := (1 : Int32)) m108_7 (by decide) ?_
      refine g_dup2 m108_8 rfl rfl ?_
      refine g_iald (x := (0 : Int32)) m108_9 rfl (vin rfl) rfl ?_
      refine g_iconst m108_10 ?_
      refine g_iadd (u := (1 : Int32)) m108_11 (by decide) ?_
      refine g_iast m108_12 (Nat.le_of_ble_eq_true rfl) rfl (vin rfl) rfl rfl rfl ?_
      refine g_iload_n m108_13 rfl ?_
      refine g_iret m108_14 rfl ?_
      refine gwst (st' := [.int (-1000000001)]) rfl ?_
      refine g_iret m180_13 rfl ?_
      refine gwst (st' := [.int (-1000000001), .int (-1000000001)]) rfl ?_
      refine g_ic_eqT m190_1206 (by decide) ?_
      refine g_iinc (x2 := (6 : Int32)) (L2 := [some (.ref 0), some (.ref 32), some (.ref 89), some (.int (6))]) m190_1428 rfl (by decide) rfl rfl ?_
      refine g_goto m190_1431 ?_
      refine g_iload_n m190_18 rfl ?_
      refine g_aload_n m190_19 rfl ?_
      refine g_alen (n := 6) m190_20 rfl (Or.inl rfl) rfl ?_
      refine g_bipush m190_21 ?_
      refine g_isub (u := (0 : Int32)) m190_23 (by decide) ?_
      refine g_ic_gtT m190_24 (by decide) ?_
      refine g_iconst m190_1434 ?_
      refine g_zret m190_1435 rfl (Or.inr rfl) ?_
      exact rfl
    · have d4 : ¬ (3 < (s1).toInt) := fun q => c3 ((lt_k (by rfl) (by rfl)).mpr q)
      refine g_iconst m54_9 ?_
      refine g_goto m54_10 ?_
      refine g_zret m54_14 rfl (Or.inr rfl) ?_
      refine gwst (st' := [.int (1)]) rfl ?_
      refine g_if_neF m96_5 (by decide) ?_
      refine g_aload_n m96_14 rfl ?_
      refine g_gf m96_15 rfl rfl ?_
      refine g_iload_n m96_18 rfl ?_
      obtain ⟨j5, e6, x7⟩ := nat_of (x := s1) (lo := 0) (hi := 3) (by omega) (by omega)
      rcases (show j5 = 0 ∨ j5 = 1 ∨ j5 = 2 ∨ j5 = 3 by omega) with rfl | rfl | rfl | rfl
      · have x7q : s1 = (0 : Int32) := x7
        clear x7
        subst x7q
        refine g_aald m96_19 (Nat.le_of_ble_eq_true rfl) rfl (vin rfl) rfl ?_
        refine g_astore (L2 := [some (.ref 32), some (.int (0)), some (.int _), some (.int _), some (.ref 80)]) m96_20 rfl rfl ?_
        refine g_aload m96_22 rfl ?_
        refine g_gf m96_24 rfl rfl ?_
        refine g_if_neT m96_27 (by decide) ?_
        refine g_aload_n m96_30 rfl ?_
        refine g_iconst m96_31 ?_
        refine g_cv (args := [.int (2)]) (rest := []) m96_32 (Nat.le_of_ble_eq_true rfl) rfl rfl rfl (Nat.le_of_ble_eq_true rfl) ?_
        refine wp_in (L := [some (.ref 32), some (.int (2))]) (Nat.le_of_ble_eq_true rfl) rfl ?_
        refine g_aload_n m55_0 rfl ?_
        refine g_gf m55_1 rfl rfl ?_
        refine g_iload_n m55_4 rfl ?_
        refine g_dup2 m55_5 rfl rfl ?_
        refine g_iald (x := (0 : Int32)) m55_6 rfl (vin rfl) rfl ?_
        refine g_iconst m55_7 ?_
        refine g_iadd (u := (1 : Int32)) m55_8 (by decide) ?_
        refine g_iast m55_9 (Nat.le_of_ble_eq_true rfl) rfl (vin rfl) rfl rfl rfl ?_
        refine g_ldcw m55_10 ?_
        refine g_iload_n m55_13 rfl ?_
        refine g_isub (u := (-1000000002 : Int32)) m55_14 (by decide) ?_
        refine g_iret m55_15 rfl ?_
        refine gwst (st' := [.int (-1000000002)]) rfl ?_
        refine g_iret m96_35 rfl ?_
        refine gwst (st' := [.int (-1000000002)]) rfl ?_
        refine FRg rfl (fun f => ?_)
        refine g_aload_n m190_1187 rfl ?_
        refine g_aload_n m190_1188 rfl ?_
        refine g_iload_n m190_1189 rfl ?_
        refine g_iconst m190_1190 ?_
        refine g_iadd (u := (1 : Int32)) m190_1191 (by decide) ?_
        refine g_iald (x := (0 : Int32)) m190_1192 rfl (vin rfl) rfl ?_
        refine g_aload_n m190_1193 rfl ?_
        refine g_iload_n m190_1194 rfl ?_
        refine g_iconst m190_1195 ?_
        refine g_iadd (u := (2 : Int32)) m190_1196 (by decide) ?_
        refine g_iald (x := s2) m190_1197 rfl (vin rfl) rfl ?_
        refine g_aload_n m190_1198 rfl ?_
        refine g_iload_n m190_1199 rfl ?_
        refine g_iconst m190_1200 ?_
        refine g_iadd (u := (3 : Int32)) m190_1201 (by decide) ?_
        refine g_iald (x := s3) m190_1202 rfl (vin rfl) rfl ?_
        refine g_cv (args := [.int (0), .int _, .int _]) (rest := [.int (-1000000002)]) m190_1203 (Nat.le_of_ble_eq_true rfl) rfl rfl rfl (Nat.le_of_ble_eq_true rfl) ?_
        refine wp_in (L := [some (.ref 89), some (.int (0)), some (.int _), some (.int _)]) (Nat.le_of_ble_eq_true rfl) rfl ?_
        refine g_iload_n m180_0 rfl ?_
        refine g_cs (args := [.int (0)]) (rest := []) 0 (Or.inl rfl) m180_1 (Nat.le_of_ble_eq_true rfl) rfl rfl (Nat.le_of_ble_eq_true rfl) ?_
        refine wp_in (L := [some (.int (0))]) (Nat.le_of_ble_eq_true rfl) rfl ?_
        refine g_iload_n m160_0 rfl ?_
        refine g_iconst m160_1 ?_
        refine g_iconst m160_2 ?_
        refine g_cs (args := [.int (0), .int (0), .int (3)]) (rest := []) 0 (Or.inl rfl) m160_3 (Nat.le_of_ble_eq_true rfl) rfl rfl (Nat.le_of_ble_eq_true rfl) ?_
        refine wp_in (L := [some (.int (0)), some (.int (0)), some (.int (3))]) (Nat.le_of_ble_eq_true rfl) rfl ?_
        refine g_iload_n m107_0 rfl ?_
        refine g_iload_n m107_1 rfl ?_
        refine g_ic_ltF m107_2 (by decide) ?_
        refine g_iload_n m107_5 rfl ?_
        refine g_iload_n m107_6 rfl ?_
        refine g_ic_gtF m107_7 (by decide) ?_
        refine g_iconst m107_10 ?_
        refine g_goto m107_11 ?_
        refine g_zret m107_15 rfl (Or.inr rfl) ?_
        refine gwst (st' := [.int (1)]) rfl ?_
        refine g_zret m160_6 rfl (Or.inr rfl) ?_
        refine gwst (st' := [.int (1)]) rfl ?_
        refine g_if_neF m180_4 (by decide) ?_
        refine g_aload_n m180_14 rfl ?_
        refine g_gf m180_15 rfl rfl ?_
        refine g_iload_n m180_18 rfl ?_
        refine g_iald (x := (0 : Int32)) m180_19 rfl (vin rfl) rfl ?_
        refine g_if_neT m180_20 (by decide) ?_
        refine g_aload_n m180_23 rfl ?_
        refine g_ldci m180_24 rfl ?_
        refine g_cv (args := [.int (-1000000002)]) (rest := []) m180_26 (Nat.le_of_ble_eq_true rfl) rfl rfl rfl (Nat.le_of_ble_eq_true rfl) ?_
        refine wp_in (L := [some (.ref 89), some (.int (-1000000002))]) (Nat.le_of_ble_eq_true rfl) rfl ?_
        refine g_aload_n m108_0 rfl ?_
        refine g_gf m108_1 rfl rfl ?_
        refine g_ldci m108_4 rfl ?_
        refine g_iload_n m108_6 rfl ?_
        refine g_isub (u := (2 : Int32)) m108_7 (by decide) ?_
        refine g_dup2 m108_8 rfl rfl ?_
        refine g_iald (x := (0 : Int32)) m108_9 rfl (vin rfl) rfl ?_
        refine g_iconst m108_10 ?_
        refine g_iadd (u := (1 : Int32)) m108_11 (by decide) ?_
        refine g_iast m108_12 (Nat.le_of_ble_eq_true rfl) rfl (vin rfl) rfl rfl rfl ?_
        refine g_iload_n m108_13 rfl ?_
        refine g_iret m108_14 rfl ?_
        refine gwst (st' := [.int (-1000000002)]) rfl ?_
        refine g_iret m180_29 rfl ?_
        refine gwst (st' := [.int (-1000000002), .int (-1000000002)]) rfl ?_
        refine g_ic_eqT m190_1206 (by decide) ?_
        refine g_iinc (x2 := (6 : Int32)) (L2 := [some (.ref 0), some (.ref 32), some (.ref 89), some (.int (6))]) m190_1428 rfl (by decide) rfl rfl ?_
        refine g_goto m190_1431 ?_
        refine g_iload_n m190_18 rfl ?_
        refine g_aload_n m190_19 rfl ?_
        refine g_alen (n := 6) m190_20 rfl (Or.inl rfl) rfl ?_
        refine g_bipush m190_21 ?_
        refine g_isub (u := (0 : Int32)) m190_23 (by decide) ?_
        refine g_ic_gtT m190_24 (by decide) ?_
        refine g_iconst m190_1434 ?_
        refine g_zret m190_1435 rfl (Or.inr rfl) ?_
        exact rfl
      · have x7q : s1 = (1 : Int32) := x7
        clear x7
        subst x7q
        refine g_aald m96_19 (Nat.le_of_ble_eq_true rfl) rfl (vin rfl) rfl ?_
        refine g_astore (L2 := [some (.ref 32), some (.int (1)), some (.int _), some (.int _), some (.ref 82)]) m96_20 rfl rfl ?_
        refine g_aload m96_22 rfl ?_
        refine g_gf m96_24 rfl rfl ?_
        refine g_if_neT m96_27 (by decide) ?_
        refine g_aload_n m96_30 rfl ?_
        refine g_iconst m96_31 ?_
        refine g_cv (args := [.int (2)]) (rest := []) m96_32 (Nat.le_of_ble_eq_true rfl) rfl rfl rfl (Nat.le_of_ble_eq_true rfl) ?_
        refine wp_in (L := [some (.ref 32), some (.int (2))]) (Nat.le_of_ble_eq_true rfl) rfl ?_
        refine g_aload_n m55_0 rfl ?_
        refine g_gf m55_1 rfl rfl ?_
        refine g_iload_n m55_4 rfl ?_
        refine g_dup2 m55_5 rfl rfl ?_
        refine g_iald (x := (0 : Int32)) m55_6 rfl (vin rfl) rfl ?_
        refine g_iconst m55_7 ?_
        refine g_iadd (u := (1 : Int32)) m55_8 (by decide) ?_
        refine g_iast m55_9 (Nat.le_of_ble_eq_true rfl) rfl (vin rfl) rfl rfl rfl ?_
        refine g_ldcw m55_10 ?_
        refine g_iload_n m55_13 rfl ?_
        refine g_isub (u := (-1000000002 : Int32)) m55_14 (by decide) ?_
        refine g_iret m55_15 rfl ?_
        refine gwst (st' := [.int (-1000000002)]) rfl ?_
        refine g_iret m96_35 rfl ?_
        refine gwst (st' := [.int (-1000000002)]) rfl ?_
        refine FRg rfl (fun f => ?_)
        refine g_aload_n m190_1187 rfl ?_
        refine g_aload_n m190_1188 rfl ?_
        refine g_iload_n m190_1189 rfl ?_
        refine g_iconst m190_1190 ?_
        refine g_iadd (u := (1 : Int32)) m190_1191 (by decide) ?_
        refine g_iald (x := (1 : Int32)) m190_1192 rfl (vin rfl) rfl ?_
        refine g_aload_n m190_1193 rfl ?_
        refine g_iload_n m190_1194 rfl ?_
        refine g_iconst m190_1195 ?_
        refine g_iadd (u := (2 : Int32)) m190_1196 (by decide) ?_
        refine g_iald (x := s2) m190_1197 rfl (vin rfl) rfl ?_
        refine g_aload_n m190_1198 rfl ?_
        refine g_iload_n m190_1199 rfl ?_
        refine g_iconst m190_1200 ?_
        refine g_iadd (u := (3 : Int32)) m190_1201 (by decide) ?_
        refine g_iald (x := s3) m190_1202 rfl (vin rfl) rfl ?_
        refine g_cv (args := [.int (1), .int _, .int _]) (rest := [.int (-1000000002)]) m190_1203 (Nat.le_of_ble_eq_true rfl) rfl rfl rfl (Nat.le_of_ble_eq_true rfl) ?_
        refine wp_in (L := [some (.ref 89), some (.int (1)), some (.int _), some (.int _)]) (Nat.le_of_ble_eq_true rfl) rfl ?_
        refine g_iload_n m180_0 rfl ?_
        refine g_cs (args := [.int (1)]) (rest := []) 0 (Or.inl rfl) m180_1 (Nat.le_of_ble_eq_true rfl) rfl rfl (Nat.le_of_ble_eq_true rfl) ?_
        refine wp_in (L := [some (.int (1))]) (Nat.le_of_ble_eq_true rfl) rfl ?_
        refine g_iload_n m160_0 rfl ?_
        refine g_iconst m160_1 ?_
        refine g_iconst m160_2 ?_
        refine g_cs (args := [.int (1), .int (0), .int (3)]) (rest := []) 0 (Or.inl rfl) m160_3 (Nat.le_of_ble_eq_true rfl) rfl rfl (Nat.le_of_ble_eq_true rfl) ?_
        refine wp_in (L := [some (.int (1)), some (.int (0)), some (.int (3))]) (Nat.le_of_ble_eq_true rfl) rfl ?_
        refine g_iload_n m107_0 rfl ?_
        refine g_iload_n m107_1 rfl ?_
        refine g_ic_ltF m107_2 (by decide) ?_
        refine g_iload_n m107_5 rfl ?_
        refine g_iload_n m107_6 rfl ?_
        refine g_ic_gtF m107_7 (by decide) ?_
        refine g_iconst m107_10 ?_
        refine g_goto m107_11 ?_
        refine g_zret m107_15 rfl (Or.inr rfl) ?_
        refine gwst (st' := [.int (1)]) rfl ?_
        refine g_zret m160_6 rfl (Or.inr rfl) ?_
        refine gwst (st' := [.int (1)]) rfl ?_
        refine g_if_neF m180_4 (by decide) ?_
        refine g_aload_n m180_14 rfl ?_
        refine g_gf m180_15 rfl rfl ?_
        refine g_iload_n m180_18 rfl ?_
        refine g_iald (x := (0 : Int32)) m180_19 rfl (vin rfl) rfl ?_
        refine g_if_neT m180_20 (by decide) ?_
        refine g_aload_n m180_23 rfl ?_
        refine g_ldci m180_24 rfl ?_
        refine g_cv (args := [.int (-1000000002)]) (rest := []) m180_26 (Nat.le_of_ble_eq_true rfl) rfl rfl rfl (Nat.le_of_ble_eq_true rfl) ?_
        refine wp_in (L := [some (.ref 89), some (.int (-1000000002))]) (Nat.le_of_ble_eq_true rfl) rfl ?_
        refine g_aload_n m108_0 rfl ?_
        refine g_gf m108_1 rfl rfl ?_
        refine g_ldci m108_4 rfl ?_
        refine g_iload_n m108_6 rfl ?_
        refine g_isub (u := (2 : Int32)) m108_7 (by decide) ?_
        refine g_dup2 m108_8 rfl rfl ?_
        refine g_iald (x := (0 : Int32)) m108_9 rfl (vin rfl) rfl ?_
        refine g_iconst m108_10 ?_
        refine g_iadd (u := (1 : Int32)) m108_11 (by decide) ?_
        refine g_iast m108_12 (Nat.le_of_ble_eq_true rfl) rfl (vin rfl) rfl rfl rfl ?_
        refine g_iload_n m108_13 rfl ?_
        refine g_iret m108_14 rfl ?_
        refine gwst (st' := [.int (-1000000002)]) rfl ?_
        refine g_iret m180_29 rfl ?_
        refine gwst (st' := [.int (-1000000002), .int (-1000000002)]) rfl ?_
        refine g_ic_eqT m190_1206 (by decide) ?_
        refine g_iinc (x2 := (6 : Int32)) (L2 := [some (.ref 0), some (.ref 32), some (.ref 89), some (.int (6))]) m190_1428 rfl (by decide) rfl rfl ?_
        refine g_goto m190_1431 ?_
        refine g_iload_n m190_18 rfl ?_
        refine g_aload_n m190_19 rfl ?_
        refine g_alen (n := 6) m190_20 rfl (Or.inl rfl) rfl ?_
        refine g_bipush m190_21 ?_
        refine g_isub (u := (0 : Int32)) m190_23 (by decide) ?_
        refine g_ic_gtT m190_24 (by decide) ?_
        refine g_iconst m190_1434 ?_
        refine g_zret m190_1435 rfl (Or.inr rfl) ?_
        exact rfl
      · have x7q : s1 = (2 : Int32) := x7
        clear x7
        subst x7q
        refine g_aald m96_19 (Nat.le_of_ble_eq_true rfl) rfl (vin rfl) rfl ?_
        refine g_astore (L2 := [some (.ref 32), some (.int (2)), some (.int _), some (.int _), some (.ref 84)]) m96_20 rfl rfl ?_
        refine g_aload m96_22 rfl ?_
        refine g_gf m96_24 rfl rfl ?_
        refine g_if_neT m96_27 (by decide) ?_
        refine g_aload_n m96_30 rfl ?_
        refine g_iconst m96_31 ?_
        refine g_cv (args := [.int (2)]) (rest := []) m96_32 (Nat.le_of_ble_eq_true rfl) rfl rfl rfl (Nat.le_of_ble_eq_true rfl) ?_
        refine wp_in (L := [some (.ref 32), some (.int (2))]) (Nat.le_of_ble_eq_true rfl) rfl ?_
        refine g_aload_n m55_0 rfl ?_
        refine g_gf m55_1 rfl rfl ?_
        refine g_iload_n m55_4 rfl ?_
        refine g_dup2 m55_5 rfl rfl ?_
        refine g_iald (x := (0 : Int32)) m55_6 rfl (vin rfl) rfl ?_
        refine g_iconst m55_7 ?_
        refine g_iadd (u := (1 : Int32)) m55_8 (by decide) ?_
        refine g_iast m55_9 (Nat.le_of_ble_eq_true rfl) rfl (vin rfl) rfl rfl rfl ?_
        refine g_ldcw m55_10 ?_
        refine g_iload_n m55_13 rfl ?_
        refine g_isub (u := (-1000000002 : Int32)) m55_14 (by decide) ?_
        refine g_iret m55_15 rfl ?_
        refine gwst (st' := [.int (-1000000002)]) rfl ?_
        refine g_iret m96_35 rfl ?_
        refine gwst (st' := [.int (-1000000002)]) rfl ?_
        refine FRg rfl (fun f => ?_)
        refine g_aload_n m190_1187 rfl ?_
        refine g_aload_n m190_1188 rfl ?_
        refine g_iload_n m190_1189 rfl ?_
        refine g_iconst m190_1190 ?_
        refine g_iadd (u := (1 : Int32)) m190_1191 (by decide) ?_
        refine g_iald (x := (2 : Int32)) m190_1192 rfl (vin rfl) rfl ?_
        refine g_aload_n m190_1193 rfl ?_
        refine g_iload_n m190_1194 rfl ?_
        refine g_iconst m190_1195 ?_
        refine g_iadd (u := (2 : Int32)) m190_1196 (by decide) ?_
        refine g_iald (x := s2) m190_1197 rfl (vin rfl) rfl ?_
        refine g_aload_n m190_1198 rfl ?_
        refine g_iload_n m190_1199 rfl ?_
        refine g_iconst m190_1200 ?_
        refine g_iadd (u := (3 : Int32)) m190_1201 (by decide) ?_
        refine g_iald (x := s3) m190_1202 rfl (vin rfl) rfl ?_
        refine g_cv (args := [.int (2), .int _, .int _]) (rest := [.int (-1000000002)]) m190_1203 (Nat.le_of_ble_eq_true rfl) rfl rfl rfl (Nat.le_of_ble_eq_true rfl) ?_
        refine wp_in (L := [some (.ref 89), some (.int (2)), some (.int _), some (.int _)]) (Nat.le_of_ble_eq_true rfl) rfl ?_
        refine g_iload_n m180_0 rfl ?_
        refine g_cs (args := [.int (2)]) (rest := []) 0 (Or.inl rfl) m180_1 (Nat.le_of_ble_eq_true rfl) rfl rfl (Nat.le_of_ble_eq_true rfl) ?_
        refine wp_in (L := [some (.int (2))]) (Nat.le_of_ble_eq_true rfl) rfl ?_
        refine g_iload_n m160_0 rfl ?_
        refine g_iconst m160_1 ?_
        refine g_iconst m160_2 ?_
        refine g_cs (args := [.int (2), .int (0), .int (3)]) (rest := []) 0 (Or.inl rfl) m160_3 (Nat.le_of_ble_eq_true rfl) rfl rfl (Nat.le_of_ble_eq_true rfl) ?_
        refine wp_in (L := [some (.int (2)), some (.int (0)), some (.int (3))]) (Nat.le_of_ble_eq_true rfl) rfl ?_
        refine g_iload_n m107_0 rfl ?_
        refine g_iload_n m107_1 rfl ?_
        refine g_ic_ltF m107_2 (by decide) ?_
        refine g_iload_n m107_5 rfl ?_
        refine g_iload_n m107_6 rfl ?_
        refine g_ic_gtF m107_7 (by decide) ?_
        refine g_iconst m107_10 ?_
        refine g_goto m107_11 ?_
        refine g_zret m107_15 rfl (Or.inr rfl) ?_
        refine gwst (st' := [.int (1)]) rfl ?_
        refine g_zret m160_6 rfl (Or.inr rfl) ?_
        refine gwst (st' := [.int (1)]) rfl ?_
        refine g_if_neF m180_4 (by decide) ?_
        refine g_aload_n m180_14 rfl ?_
        refine g_gf m180_15 rfl rfl ?_
        refine g_iload_n m180_18 rfl ?_
        refine g_iald (x := (0 : Int32)) m180_19 rfl (vin rfl) rfl ?_
        refine g_if_neT m180_20 (by decide) ?_
        refine g_aload_n m180_23 rfl ?_
        refine g_ldci m180_24 rfl ?_
        refine g_cv (args := [.int (-1000000002)]) (rest := []) m180_26 (Nat.le_of_ble_eq_true rfl) rfl rfl rfl (Nat.le_of_ble_eq_true rfl) ?_
        refine wp_in (L := [some (.ref 89), some (.int (-1000000002))]) (Nat.le_of_ble_eq_true rfl) rfl ?_
        refine g_aload_n m108_0 rfl ?_
        refine g_gf m108_1 rfl rfl ?_
        refine g_ldci m108_4 rfl ?_
        refine g_iload_n m108_6 rfl ?_
        refine g_isub (u := (2 : Int32)) m108_7 (by decide) ?_
        refine g_dup2 m108_8 rfl rfl ?_
        refine g_iald (x := (0 : Int32)) m108_9 rfl (vin rfl) rfl ?_
        refine g_iconst m108_10 ?_
        refine g_iadd (u := (1 : Int32)) m108_11 (by decide) ?_
        refine g_iast m108_12 (Nat.le_of_ble_eq_true rfl) rfl (vin rfl) rfl rfl rfl ?_
        refine g_iload_n m108_13 rfl ?_
        refine g_iret m108_14 rfl ?_
        refine gwst (st' := [.int (-1000000002)]) rfl ?_
        refine g_iret m180_29 rfl ?_
        refine gwst (st' := [.int (-1000000002), .int (-1000000002)]) rfl ?_
        refine g_ic_eqT m190_1206 (by decide) ?_
        refine g_iinc (x2 := (6 : Int32)) (L2 := [some (.ref 0), some (.ref 32), some (.ref 89), some (.int (6))]) m190_1428 rfl (by decide) rfl rfl ?_
        refine g_goto m190_1431 ?_
        refine g_iload_n m190_18 rfl ?_
        refine g_aload_n m190_19 rfl ?_
        refine g_alen (n := 6) m190_20 rfl (Or.inl rfl) rfl ?_
        refine g_bipush m190_21 ?_
        refine g_isub (u := (0 : Int32)) m190_23 (by decide) ?_
        refine g_ic_gtT m190_24 (by decide) ?_
        refine g_iconst m190_1434 ?_
        refine g_zret m190_1435 rfl (Or.inr rfl) ?_
        exact rfl
      · have x7q : s1 = (3 : Int32) := x7
        clear x7
        subst x7q
        refine g_aald m96_19 (Nat.le_of_ble_eq_true rfl) rfl (vin rfl) rfl ?_
        refine g_astore (L2 := [some (.ref 32), some (.int (3)), some (.int _), some (.int _), some (.ref 86)]) m96_20 rfl rfl ?_
        refine g_aload m96_22 rfl ?_
        refine g_gf m96_24 rfl rfl ?_
        refine g_if_neT m96_27 (by decide) ?_
        refine g_aload_n m96_30 rfl ?_
        refine g_iconst m96_31 ?_
        refine g_cv (args := [.int (2)]) (rest := []) m96_32 (Nat.le_of_ble_eq_true rfl) rfl rfl rfl (Nat.le_of_ble_eq_true rfl) ?_
        refine wp_in (L := [some (.ref 32), some (.int (2))]) (Nat.le_of_ble_eq_true rfl) rfl ?_
        refine g_aload_n m55_0 rfl ?_
        refine g_gf m55_1 rfl rfl ?_
        refine g_iload_n m55_4 rfl ?_
        refine g_dup2 m55_5 rfl rfl ?_
        refine g_iald (x := (0 : Int32)) m55_6 rfl (vin rfl) rfl ?_
        refine g_iconst m55_7 ?_
        refine g_iadd (u := (1 : Int32)) m55_8 (by decide) ?_
        refine g_iast m55_9 (Nat.le_of_ble_eq_true rfl) rfl (vin rfl) rfl rfl rfl ?_
        refine g_ldcw m55_10 ?_
        refine g_iload_n m55_13 rfl ?_
        refine g_isub (u := (-1000000002 : Int32)) m55_14 (by decide) ?_
        refine g_iret m55_15 rfl ?_
        refine gwst (st' := [.int (-1000000002)]) rfl ?_
        refine g_iret m96_35 rfl ?_
        refine gwst (st' := [.int (-1000000002)]) rfl ?_
        refine FRg rfl (fun f => ?_)
        refine g_aload_n m190_1187 rfl ?_
        refine g_aload_n m190_1188 rfl ?_
        refine g_iload_n m190_1189 rfl ?_
        refine g_iconst m190_1190 ?_
        refine g_iadd (u := (1 : Int32)) m190_1191 (by decide) ?_
        refine g_iald (x := (3 : Int32)) m190_1192 rfl (vin rfl) rfl ?_
        refine g_aload_n m190_1193 rfl ?_
        refine g_iload_n m190_1194 rfl ?_
        refine g_iconst m190_1195 ?_
        refine g_iadd (u := (2 : Int32)) m190_1196 (by decide) ?_
        refine g_iald (x := s2) m190_1197 rfl (vin rfl) rfl ?_
        refine g_aload_n m190_1198 rfl ?_
        refine g_iload_n m190_1199 rfl ?_
        refine g_iconst m190_1200 ?_
        refine g_iadd (u := (3 : Int32)) m190_1201 (by decide) ?_
        refine g_iald (x := s3) m190_1202 rfl (vin rfl) rfl ?_
        refine g_cv (args := [.int (3), .int _, .int _]) (rest := [.int (-1000000002)]) m190_1203 (Nat.le_of_ble_eq_true rfl) rfl rfl rfl (Nat.le_of_ble_eq_true rfl) ?_
        refine wp_in (L := [some (.ref 89), some (.int (3)), some (.int _), some (.int _)]) (Nat.le_of_ble_eq_true rfl) rfl ?_
        refine g_iload_n m180_0 rfl ?_
        refine g_cs (args := [.int (3)]) (rest := []) 0 (Or.inl rfl) m180_1 (Nat.le_of_ble_eq_true rfl) rfl rfl (Nat.le_of_ble_eq_true rfl) ?_
        refine wp_in (L := [some (.int (3))]) (Nat.le_of_ble_eq_true rfl) rfl ?_
        refine g_iload_n m160_0 rfl ?_
        refine g_iconst m160_1 ?_
        refine g_iconst m160_2 ?_
        refine g_cs (args := [.int (3), .int (0), .int (3)]) (rest := []) 0 (Or.inl rfl) m160_3 (Nat.le_of_ble_eq_true rfl) rfl rfl (Nat.le_of_ble_eq_true rfl) ?_
        refine wp_in (L := [some (.int (3)), some (.int (0)), some (.int (3))]) (Nat.le_of_ble_eq_true rfl) rfl ?_
        refine g_iload_n m107_0 rfl ?_
        refine g_iload_n m107_1 rfl ?_
        refine g_ic_ltF m107_2 (by decide) ?_
        refine g_iload_n m107_5 rfl ?_
        refine g_iload_n m107_6 rfl ?_
        refine g_ic_gtF m107_7 (by decide) ?_
        refine g_iconst m107_10 ?_
        refine g_goto m107_11 ?_
        refine g_zret m107_15 rfl (Or.inr rfl) ?_
        refine gwst (st' := [.int (1)]) rfl ?_
        refine g_zret m160_6 rfl (Or.inr rfl) ?_
        refine gwst (st' := [.int (1)]) rfl ?_
        refine g_if_neF m180_4 (by decide) ?_
        refine g_aload_n m180_14 rfl ?_
        refine g_gf m180_15 rfl rfl ?_
        refine g_iload_n m180_18 rfl ?_
        refine g_iald (x := (0 : Int32)) m180_19 rfl (vin rfl) rfl ?_
        refine g_if_neT m180_20 (by decide) ?_
        refine g_aload_n m180_23 rfl ?_
        refine g_ldci m180_24 rfl ?_
        refine g_cv (args := [.int (-1000000002)]) (rest := []) m180_26 (Nat.le_of_ble_eq_true rfl) rfl rfl rfl (Nat.le_of_ble_eq_true rfl) ?_
        refine wp_in (L := [some (.ref 89), some (.int (-1000000002))]) (Nat.le_of_ble_eq_true rfl) rfl ?_
        refine g_aload_n m108_0 rfl ?_
        refine g_gf m108_1 rfl rfl ?_
        refine g_ldci m108_4 rfl ?_
        refine g_iload_n m108_6 rfl ?_
        refine g_isub (u := (2 : Int32)) m108_7 (by decide) ?_
        refine g_dup2 m108_8 rfl rfl ?_
        refine g_iald (x := (0 : Int32)) m108_9 rfl (vin rfl) rfl ?_
        refine g_iconst m108_10 ?_
        refine g_iadd (u := (1 : Int32)) m108_11 (by decide) ?_
        refine g_iast m108_12 (Nat.le_of_ble_eq_true rfl) rfl (vin rfl) rfl rfl rfl ?_
        refine g_iload_n m108_13 rfl ?_
        refine g_iret m108_14 rfl ?_
        refine gwst (st' := [.int (-1000000002)]) rfl ?_
        refine g_iret m180_29 rfl ?_
        refine gwst (st' := [.int (-1000000002), .int (-1000000002)]) rfl ?_
        refine g_ic_eqT m190_1206 (by decide) ?_
        refine g_iinc (x2 := (6 : Int32)) (L2 := [some (.ref 0), some (.ref 32), some (.ref 89), some (.int (6))]) m190_1428 rfl (by decide) rfl rfl ?_
        refine g_goto m190_1431 ?_
        refine g_iload_n m190_18 rfl ?_
        refine g_aload_n m190_19 rfl ?_
        refine g_alen (n := 6) m190_20 rfl (Or.inl rfl) rfl ?_
        refine g_bipush m190_21 ?_
        refine g_isub (u := (0 : Int32)) m190_23 (by decide) ?_
        refine g_ic_gtT m190_24 (by decide) ?_
        refine g_iconst m190_1434 ?_
        refine g_zret m190_1435 rfl (Or.inr rfl) ?_
        exact rfl
