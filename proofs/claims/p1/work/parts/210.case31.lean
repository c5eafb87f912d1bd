/-! THE LAW'S CASES 31, over two new objects -/
set_option maxRecDepth 20000 in
set_option maxHeartbeats 40000000 in
theorem lc_31 {s0 s1 s2 s3 s4 s5 : Int32} {d mc ms : Nat} : gw [s0, s1, s2, s3, s4, s5] (WP [s0, s1, s2, s3, s4, s5] (d + 20)) 190 (fun r _ => r = some (.int 1)) 1211 [some (.ref 0), some (.ref 32), some (.ref 89), some (.int 0)] [] (hX0 ++ hM0) mc ms := by
  refine g_aload_n m190_1211 rfl ?_
  refine g_aload_n m190_1212 rfl ?_
  refine g_iload_n m190_1213 rfl ?_
  refine g_iconst m190_1214 ?_
  refine g_iadd (u := (1 : Int32)) m190_1215 (by decide) ?_
  refine g_iald (x := s1) m190_1216 rfl (vin rfl) rfl ?_
  refine g_aload_n m190_1217 rfl ?_
  refine g_iload_n m190_1218 rfl ?_
  refine g_iconst m190_1219 ?_
  refine g_iadd (u := (2 : Int32)) m190_1220 (by decide) ?_
  refine g_iald (x := s2) m190_1221 rfl (vin rfl) rfl ?_
  refine g_aload_n m190_1222 rfl ?_
  refine g_iload_n m190_1223 rfl ?_
  refine g_iconst m190_1224 ?_
  refine g_iadd (u := (3 : Int32)) m190_1225 (by decide) ?_
  refine g_iald (x := s3) m190_1226 rfl (vin rfl) rfl ?_
  refine g_aload_n m190_1227 rfl ?_
  refine g_iload_n m190_1228 rfl ?_
  refine g_iconst m190_1229 ?_
  refine g_iadd (u := (4 : Int32)) m190_1230 (by decide) ?_
  refine g_iald (x := s4) m190_1231 rfl (vin rfl) rfl ?_
  refine g_aload_n m190_1232 rfl ?_
  refine g_iload_n m190_1233 rfl ?_
  refine g_iconst m190_1234 ?_
  refine g_iadd (u := (5 : Int32)) m190_1235 (by decide) ?_
  refine g_iald (x := s5) m190_1236 rfl (vin rfl) rfl ?_
  refine g_cv (args := [.int _, .int _, .int _, .int _, .int _]) (rest := []) m190_1237 (Nat.le_of_ble_eq_true rfl) rfl rfl rfl (Nat.le_of_ble_eq_true rfl) ?_
  refine wp_in (L := [some (.ref 32), some (.int _), some (.int _), some (.int _), some (.int _), some (.int _), none, none]) (Nat.le_of_ble_eq_true rfl) rfl ?_
  refine g_iload_n m97_0 rfl ?_
  refine g_iconst m97_1 ?_
  refine g_cs (args := [.int _, .int (3)]) (rest := []) 0 (Or.inl rfl) m97_2 (Nat.le_of_ble_eq_true rfl) rfl rfl (Nat.le_of_ble_eq_true rfl) ?_
  refine wp_in (L := [some (.int _), some (.int (3))]) (Nat.le_of_ble_eq_true rfl) rfl ?_
  refine g_iload_n m54_0 rfl ?_
  refine g_if_lt m54_1 (fun c1 => ?_) (fun c1 => ?_)
  · have d2 : (s1).toInt < 0 := (lt_k (by rfl) (by rfl)).mp c1
    refine g_iconst m54_13 ?_
    refine g_zret m54_14 rfl (Or.inl rfl) ?_
    refine gwst (st' := [.int (0)]) rfl ?_
    refine g_if_eqT m97_5 (by decide) ?_
    refine g_aload_n m97_16 rfl ?_
    refine g_iconst m97_17 ?_
    refine g_cv (args := [.int (1)]) (rest := []) m97_18 (Nat.le_of_ble_eq_true rfl) rfl rfl rfl (Nat.le_of_ble_eq_true rfl) ?_
    refine wp_in (L := [some (.ref 32), some (.int (1))]) (Nat.le_of_ble_eq_true rfl) rfl ?_
    refine g_aload_n m55_0 rfl ?_
    refine g_gf m55_1 rfl rfl ?_
    refine g_iload_n m55_4 rfl ?_
    refine g_dup2 m55_5 rfl rfl ?_
    refine g_iald (x := (0 : Int32)) m55_6 rfl (vin rfl) rfl ?_
    refine g_iconst m55_7 ?_
    refine g_iadd (u := (1 : Int32)) m55_8 (by decide) ?_
    refine g_iast m55_9 (Nat.le_of_ble_eq_true rfl) rfl (vin rfl) rfl rfl rfl ?_
    refine g_ldcw m55_10 ?_
    refine g_iload_n m55_13 rfl ?_
    refine g_isub (u := (-1000000001 : Int32)) m55_14 (by decide) ?_
    refine g_iret m55_15 rfl ?_
    refine gwst (st' := [.int (-1000000001)]) rfl ?_
    refine g_iret m97_21 rfl ?_
    refine gwst (st' := [.int (-1000000001)]) rfl ?_
    refine FRg rfl (fun f => ?_)
    refine g_aload_n m190_1240 rfl ?_
    refine g_aload_n m190_1241 rfl ?_
    refine g_iload_n m190_1242 rfl ?_
    refine g_iconst m190_1243 ?_
    refine g_iadd (u := (1 : Int32)) m190_1244 (by decide) ?_
    refine g_iald (x := s1) m190_1245 rfl (vin rfl) rfl ?_
    refine g_aload_n m190_1246 rfl ?_
    refine g_iload_n m190_1247 rfl ?_
    refine g_iconst m190_1248 ?_
    refine g_iadd (u := (2 : Int32)) m190_1249 (by decide) ?_
    refine g_iald (x := s2) m190_1250 rfl (vin rfl) rfl ?_
    refine g_aload_n m190_1251 rfl ?_
    refine g_iload_n m190_1252 rfl ?_
    refine g_iconst m190_1253 ?_
    refine g_iadd (u := (3 : Int32)) m190_1254 (by decide) ?_
    refine g_iald (x := s3) m190_1255 rfl (vin rfl) rfl ?_
    refine g_aload_n m190_1256 rfl ?_
    refine g_iload_n m190_1257 rfl ?_
    refine g_iconst m190_1258 ?_
    refine g_iadd (u := (4 : Int32)) m190_1259 (by decide) ?_
    refine g_iald (x := s4) m190_1260 rfl (vin rfl) rfl ?_
    refine g_aload_n m190_1261 rfl ?_
    refine g_iload_n m190_1262 rfl ?_
    refine g_iconst m190_1263 ?_
    refine g_iadd (u := (5 : Int32)) m190_1264 (by decide) ?_
    refine g_iald (x := s5) m190_1265 rfl (vin rfl) rfl ?_
    refine g_cv (args := [.int _, .int _, .int _, .int _, .int _]) (rest := [.int (-1000000001)]) m190_1266 (Nat.le_of_ble_eq_true rfl) rfl rfl rfl (Nat.le_of_ble_eq_true rfl) ?_
    refine wp_in (L := [some (.ref 89), some (.int _), some (.int _), some (.int _), some (.int _), some (.int _), none]) (Nat.le_of_ble_eq_true rfl) rfl ?_
    refine g_iload_n m181_0 rfl ?_
    refine g_cs (args := [.int _]) (rest := []) 0 (Or.inl rfl) m181_1 (Nat.le_of_ble_eq_true rfl) rfl rfl (Nat.le_of_ble_eq_true rfl) ?_
    refine wp_in (L := [some (.int _)]) (Nat.le_of_ble_eq_true rfl) rfl ?_
    refine g_iload_n m160_0 rfl ?_
    refine g_iconst m160_1 ?_
    refine g_iconst m160_2 ?_
    refine g_cs (args := [.int _, .int (0), .int (3)]) (rest := []) 0 (Or.inl rfl) m160_3 (Nat.le_of_ble_eq_true rfl) rfl rfl (Nat.le_of_ble_eq_true rfl) ?_
    refine wp_in (L := [some (.int _), some (.int (0)), some (.int (3))]) (Nat.le_of_ble_eq_true rfl) rfl ?_
    refine g_iload_n m107_0 rfl ?_
    refine g_iload_n m107_1 rfl ?_
    refine g_ic_ltT m107_2 ((lt_k (a := (s1).toInt) (b := 0) (by rfl) (by rfl)).mpr (by omega)) ?_
    refine g_iconst m107_14 ?_
    refine g_zret m107_15 rfl (Or.inl rfl) ?_
    refine gwst (st' := [.int (0)]) rfl ?_
    refine g_zret m160_6 rfl (Or.inl rfl) ?_
    refine gwst (st' := [.int (0)]) rfl ?_
    refine g_if_eqT m181_4 (by decide) ?_
    refine g_aload_n m181_14 rfl ?_
    refine g_ldci m181_15 rfl ?_
    refine g_cv (args := [.int (-1000000001)]) (rest := []) m181_17 (Nat.le_of_ble_eq_true rfl) rfl rfl rfl (Nat.le_of_ble_eq_true rfl) ?_
    refine wp_in (L := [some (.ref 89), some (.int (-1000000001))]) (Nat.le_of_ble_eq_true rfl) rfl ?_
    refine g_aload_n m108_0 rfl ?_
    refine g_gf m108_1 rfl rfl ?_
    refine g_ldci m108_4 rfl ?_
    refine g_iload_n m108_6 rfl ?_
    refine g_isub (u := (1 : Int32)) m108_7 (by decide) ?_
    refine g_dup2 m108_8 rfl rfl ?_
    refine g_iald (x := (0 : Int32)) m108_9 rfl (vin rfl) rfl ?_
    refine g_iconst m108_10 ?_
    refine g_iadd (u := (1 : Int32)) m108_11 (by decide) ?_
    refine g_iast m108_12 (Nat.le_of_ble_eq_true rfl) rfl (vin rfl) rfl rfl rfl ?_
    refine g_iload_n m108_13 rfl ?_
    refine g_iret m108_14 rfl ?_
    refine gwst (st' := [.int (-1000000001)]) rfl ?_
    refine g_iret m181_20 rfl ?_
    refine gwst (st' := [.int (-1000000001), .int (-1000000001)]) rfl ?_
    refine g_ic_eqT m190_1269 (by decide) ?_
    refine g_iinc (x2 := (6 : Int32)) (L2 := [some (.ref 0), some (.ref 32), some (.ref 89), some (.int (6))]) m190_1428 rfl (by decide) rfl rfl ?_
    refine g_goto m190_1431 ?_
    refine g_iload_n m190_18 rfl ?_
    refine g_aload_n m190_19 rfl ?_
    refine g_alen (n := 6) m190_20 rfl (Or.inl rfl) rfl ?_
    refine g_bipush m190_21 ?_
    refine g_isub (u := (0 : Int32)) m190_23 (by decide) ?_
    refine g_ic_gtT m190_24 (by decide) ?_
    refine g_iconst m190_1434 ?_
    refine g_zret m190_1435 rfl (Or.inr rfl) ?_
    exact rfl
  · have d2 : ¬ ((s1).toInt < 0) := fun q => c1 ((lt_k (by rfl) (by rfl)).mpr q)
    refine g_iload_n m54_4 rfl ?_
    refine g_iload_n m54_5 rfl ?_
    refine g_ic_gt m54_6 (fun c3 => ?_) (fun c3 => ?_)
    · have d4 : 3 < (s1).toInt := (lt_k (by rfl) (by rfl)).mp c3
      refine g_iconst m54_13 ?_
      refine g_zret m54_14 rfl (Or.inl rfl) ?_
      refine gwst (st' := [.int (0)]) rfl ?_
      refine g_if_eqT m97_5 (by decide) ?_
      refine g_aload_n m97_16 rfl ?_
      refine g_iconst m97_17 ?_
      refine g_cv (args := [.int (1)]) (rest := []) m97_18 (Nat.le_of_ble_eq_true rfl) rfl rfl rfl (Nat.le_of_ble_eq_true rfl) ?_
      refine wp_in (L := [some (.ref 32), some (.int (1))]) (Nat.le_of_ble_eq_true rfl) rfl ?_
      refine g_aload_n m55_0 rfl ?_
      refine g_gf m55_1 rfl rfl ?_
      refine g_iload_n m55_4 rfl ?_
      refine g_dup2 m55_5 rfl rfl ?_
      refine g_iald (x := (0 : Int32)) m55_6 rfl (vin rfl) rfl ?_
      refine g_iconst m55_7 ?_
      refine g_iadd (u := (1 : Int32)) m55_8 (by decide) ?_
      refine g_iast m55_9 (Nat.le_of_ble_eq_true rfl) rfl (vin rfl) rfl rfl rfl ?_
      refine g_ldcw m55_10 ?_
      refine g_iload_n m55_13 rfl ?_
      refine g_isub (u := (-1000000001 : Int32)) m55_14 (by decide) ?_
      refine g_iret m55_15 rfl ?_
      refine gwst (st' := [.int (-1000000001)]) rfl ?_
      refine g_iret m97_21 rfl ?_
      refine gwst (st' := [.int (-1000000001)]) rfl ?_
      refine FRg rfl (fun f => ?_)
      refine g_aload_n m190_1240 rfl ?_
      refine g_aload_n m190_1241 rfl ?_
      refine g_iload_n m190_1242 rfl ?_
      refine g_iconst m190_1243 ?_
      refine g_iadd (u := (1 : Int32)) m190_1244 (by decide) ?_
      refine g_iald (x := s1) m190_1245 rfl (vin rfl) rfl ?_
      refine g_aload_n m190_1246 rfl ?_
      refine g_iload_n m190_1247 rfl ?_
      refine g_iconst m190_1248 ?_
      refine g_iadd (u := (2 : Int32)) m190_1249 (by decide) ?_
      refine g_iald (x := s2) m190_1250 rfl (vin rfl) rfl ?_
      refine g_aload_n m190_1251 rfl ?_
      refine g_iload_n m190_1252 rfl ?_
      refine g_iconst m190_1253 ?_
      refine g_iadd (u := (3 : Int32)) m190_1254 (by decide) ?_
      refine g_iald (x := s3) m190_1255 rfl (vin rfl) rfl ?_
      refine g_aload_n m190_1256 rfl ?_
      refine g_iload_n m190_1257 rfl ?_
      refine g_iconst m190_1258 ?_
      refine g_iadd (u := (4 : Int32)) m190_1259 (by decide) ?_
      refine g_iald (x := s4) m190_1260 rfl (vin rfl) rfl ?_
      refine g_aload_n m190_1261 rfl ?_
      refine g_iload_n m190_1262 rfl ?_
      refine g_iconst m190_1263 ?_
      refine g_iadd (u := (5 : Int32)) m190_1264 (by decide) ?_
      refine g_iald (x := s5) m190_1265 rfl (vin rfl) rfl ?_
      refine g_cv (args := [.int _, .int _, .int _, .int _, .int _]) (rest := [.int (-1000000001)]) m190_1266 (Nat.le_of_ble_eq_true rfl) rfl rfl rfl (Nat.le_of_ble_eq_true rfl) ?_
      refine wp_in (L := [some (.ref 89), some (.int _), some (.int _), some (.int _), some (.int _), some (.int _), none]) (Nat.le_of_ble_eq_true rfl) rfl ?_
      refine g_iload_n m181_0 rfl ?_
      refine g_cs (args := [.int _]) (rest := []) 0 (Or.inl rfl) m181_1 (Nat.le_of_ble_eq_true rfl) rfl rfl (Nat.le_of_ble_eq_true rfl) ?_
      refine wp_in (L := [some (.int _)]) (Nat.le_of_ble_eq_true rfl) rfl ?_
      refine g_iload_n m160_0 rfl ?_
      refine g_iconst m160_1 ?_
      refine g_iconst m160_2 ?_
      refine g_cs (args := [.int _, .int (0), .int (3)]) (rest := []) 0 (Or.inl rfl) m160_3 (Nat.le_of_ble_eq_true rfl) rfl rfl (Nat.le_of_ble_eq_true rfl) ?_
      refine wp_in (L := [some (.int _), some (.int (0)), some (.int (3))]) (Nat.le_of_ble_eq_true rfl) rfl ?_
      refine g_iload_n m107_0 rfl ?_
      refine g_iload_n m107_1 rfl ?_
      refine g_ic_ltF m107_2 (fun q => absurd ((lt_k (a := (s1).toInt) (b := 0) (by rfl) (by rfl)).mp q) (by omega)) ?_
      refine g_iload_n m107_5 rfl ?_
      refine g_iload_n m107_6 rfl ?_
      refine g_ic_gtT m107_7 ((lt_k (a := 3) (b := (s1).toInt) (by rfl) (by rfl)).mpr (by omega)) ?_
      refine g_iconst m107_14 ?_
      refine g_zret m107_15 rfl (Or.inl rfl) ?_
      refine gwst (st' := [.int (0)]) rfl ?_
      refine g_zret m160_6 rfl (Or.inl rfl) ?_
      refine gwst (st' := [.int (0)]) rfl ?_
      refine g_if_eqT m181_4 (by decide) ?_
      refine g_aload_n m181_14 rfl ?_
      refine g_ldci m181_15 rfl ?_
      refine g_cv (args := [.int (-1000000001)]) (rest := []) m181_17 (Nat.le_of_ble_eq_true rfl) rfl rfl rfl (Nat.le_of_ble_eq_true rfl) ?_
      refine wp_in (L := [some (.ref 89), some (.int (-1000000001))]) (Nat.le_of_ble_eq_true rfl) rfl ?_
      refine g_aload_n m108_0 rfl ?_
      refine g_gf m108_1 rfl rfl ?_
      refine g_ldci m108_4 rfl ?_
      refine g_iload_n m108_6 rfl ?_
      refine g_isub (u := (1 : Int32)) m108_7 (by decide) ?_
      refine g_dup2 m108_8 rfl rfl ?_
      refine g_iald (x := (0 : Int32)) m108_9 rfl (vin rfl) rfl ?_
      refine g_iconst m108_10 ?_
      refine g_iadd (u := (1 : Int32)) m108_11 (by decide) ?_
      refine g_iast m108_12 (Nat.le_of_ble_eq_true rfl) rfl (vin rfl) rfl rfl rfl ?_
      refine g_iload_n m108_13 rfl ?_
      refine g_iret m108_14 rfl ?_
      refine gwst (st' := [.int (-1000000001)]) rfl ?_
      refine g_iret m181_20 rfl ?_
      refine gwst (st' := [.int (-1000000001), .int (-1000000001)]) rfl ?_
      refine g_ic_eqT m190_1269 (by decide) ?_
      refine g_iinc (x2 := (6 : Int32)) (L2 := [some (.ref 0), some (.ref 32), some (.ref 89), some (.int (6))]) m190_1428 rfl (by decide) rfl rfl ?_
      refine g_goto m190_1431 ?_
      refine g_iload_n m190_18 rfl ?_
      refine g_aload_n m190_19 rfl ?_
      refine g_alen (n := 6) m190_20 rfl (Or.inl rfl) rfl ?_
      refine g_bipush m190_21 ?_
      refine g_isub (u := (0 : Int32)) m190_23 (by decide) ?_
      refine g_ic_gtT m190_24 (by decide) ?_
      refine g_iconst m190_1434 ?_
      refine g_zret m190_1435 rfl (Or.inr rfl) ?_
      exact rfl
    · have d4 : ¬ (3 < (s1).toInt) := fun q => c3 ((lt_k (by rfl) (by rfl)).mpr q)
      refine g_iconst m54_9 ?_
      refine g_goto m54_10 ?_
      refine g_zret m54_14 rfl (Or.inr rfl) ?_
      refine gwst (st' := [.int (1)]) rfl ?_
      refine g_if_eqF m97_5 (by decide) ?_
      refine g_iload_n m97_8 rfl ?_
      refine g_iconst m97_9 ?_
      refine g_cs (args := [.int _, .int (3)]) (rest := []) 0 (Or.inl rfl) m97_10 (Nat.le_of_ble_eq_true rfl) rfl rfl (Nat.le_of_ble_eq_true rfl) ?_
      refine wp_in (L := [some (.int _), some (.int (3))]) (Nat.le_of_ble_eq_true rfl) rfl ?_
      refine g_iload_n m54_0 rfl ?_
      refine g_if_lt m54_1 (fun c5 => ?_) (fun c5 => ?_)
      · have d6 : (s3).toInt < 0 := (lt_k (by rfl) (by rfl)).mp c5
        refine g_iconst m54_13 ?_
        refine g_zret m54_14 rfl (Or.inl rfl) ?_
        refine gwst (st' := [.int (0)]) rfl ?_
        refine g_if_neT m97_13 (by decide) ?_
        refine g_aload_n m97_16 rfl ?_
        refine g_iconst m97_17 ?_
        refine g_cv (args := [.int (1)]) (rest := []) m97_18 (Nat.le_of_ble_eq_true rfl) rfl rfl rfl (Nat.le_of_ble_eq_true rfl) ?_
        refine wp_in (L := [some (.ref 32), some (.int (1))]) (Nat.le_of_ble_eq_true rfl) rfl ?_
        refine g_aload_n m55_0 rfl ?_
        refine g_gf m55_1 rfl rfl ?_
        refine g_iload_n m55_4 rfl ?_
        refine g_dup2 m55_5 rfl rfl ?_
        refine g_iald (x := (0 : Int32)) m55_6 rfl (vin rfl) rfl ?_
        refine g_iconst m55_7 ?_
        refine g_iadd (u := (1 : Int32)) m55_8 (by decide) ?_
        refine g_iast m55_9 (Nat.le_of_ble_eq_true rfl) rfl (vin rfl) rfl rfl rfl ?_
        refine g_ldcw m55_10 ?_
        refine g_iload_n m55_13 rfl ?_
        refine g_isub (u := (-1000000001 : Int32)) m55_14 (by decide) ?_
        refine g_iret m55_15 rfl ?_
        refine gwst (st' := [.int (-1000000001)]) rfl ?_
        refine g_iret m97_21 rfl ?_
        refine gwst (st' := [.int (-1000000001)]) rfl ?_
        refine FRg rfl (fun f => ?_)
        refine g_aload_n m190_1240 rfl ?_
        refine g_aload_n m190_1241 rfl ?_
        refine g_iload_n m190_1242 rfl ?_
        refine g_iconst m190_1243 ?_
        refine g_iadd (u := (1 : Int32)) m190_1244 (by decide) ?_
        refine g_iald (x := s1) m190_1245 rfl (vin rfl) rfl ?_
        refine g_aload_n m190_1246 rfl ?_
        refine g_iload_n m190_1247 rfl ?_
        refine g_iconst m190_1248 ?_
        refine g_iadd (u := (2 : Int32)) m190_1249 (by decide) ?_
        refine g_iald (x := s2) m190_1250 rfl (vin rfl) rfl ?_
        refine g_aload_n m190_1251 rfl ?_
        refine g_iload_n m190_1252 rfl ?_
        refine g_iconst m190_1253 ?_
        refine g_iadd (u := (3 : Int32)) m190_1254 (by decide) ?_
        refine g_iald (x := s3) m190_1255 rfl (vin rfl) rfl ?_
        refine g_aload_n m190_1256 rfl ?_
        refine g_iload_n m190_1257 rfl ?_
        refine g_iconst m190_1258 ?_
        refine g_iadd (u := (4 : Int32)) m190_1259 (by decide) ?_
        refine g_iald (x := s4) m190_1260 rfl (vin rfl) rfl ?_
        refine g_aload_n m190_1261 rfl ?_
        refine g_iload_n m190_1262 rfl ?_
        refine g_iconst m190_1263 ?_
        refine g_iadd (u := (5 : Int32)) m190_1264 (by decide) ?_
        refine g_iald (x := s5) m190_1265 rfl (vin rfl) rfl ?_
        refine g_cv (args := [.int _, .int _, .int _, .int _, .int _]) (rest := [.int (-1000000001)]) m190_1266 (Nat.le_of_ble_eq_true rfl) rfl rfl rfl (Nat.le_of_ble_eq_true rfl) ?_
        refine wp_in (L := [some (.ref 89), some (.int _), some (.int _), some (.int _), some (.int _), some (.int _), none]) (Nat.le_of_ble_eq_true rfl) rfl ?_
        refine g_iload_n m181_0 rfl ?_
        refine g_cs (args := [.int _]) (rest := []) 0 (Or.inl rfl) m181_1 (Nat.le_of_ble_eq_true rfl) rfl rfl (Nat.le_of_ble_eq_true rfl) ?_
        refine wp_in (L := [some (.int _)]) (Nat.le_of_ble_eq_true rfl) rfl ?_
        refine g_iload_n m160_0 rfl ?_
        refine g_iconst m160_1 ?_
        refine g_iconst m160_2 ?_
        refine g_cs (args := [.int _, .int (0), .int (3)]) (rest := []) 0 (Or.inl rfl) m160_3 (Nat.le_of_ble_eq_true rfl) rfl rfl (Nat.le_of_ble_eq_true rfl) ?_
        refine wp_in (L := [some (.int _), some (.int (0)), some (.int (3))]) (Nat.le_of_ble_eq_true rfl) rfl ?_
        refine g_iload_n m107_0 rfl ?_
        refine g_iload_n m107_1 rfl ?_
        refine g_ic_ltF m107_2 (fun q => absurd ((lt_k (a := (s1).toInt) (b := 0) (by rfl) (by rfl)).mp q) (by omega)) ?_
        refine g_iload_n m107_5 rfl ?_
        refine g_iload_n m107_6 rfl ?_
        refine g_ic_gtF m107_7 (fun q => absurd ((lt_k (a := 3) (b := (s1).toInt) (by rfl) (by rfl)).mp q) (by omega)) ?_
        refine g_iconst m107_10 ?_
        refine g_goto m107_11 ?_
        refine g_zret m107_15 rfl (Or.inr rfl) ?_
        refine gwst (st' := [.int (1)]) rfl ?_
        refine g_zret m160_6 rfl (Or.inr rfl) ?_
        refine gwst (st' := [.int (1)]) rfl ?_
        refine g_if_eqF m181_4 (by decide) ?_
        refine g_iload_n m181_7 rfl ?_
        refine g_cs (args := [.int _]) (rest := []) 0 (Or.inl rfl) m181_8 (Nat.le_of_ble_eq_true rfl) rfl rfl (Nat.le_of_ble_eq_true rfl) ?_
        refine wp_in (L := [some (.int _)]) (Nat.le_of_ble_eq_true rfl) rfl ?_
        refine g_iload_n m160_0 rfl ?_
        refine g_iconst m160_1 ?_
        refine g_iconst m160_2 ?_
        refine g_cs (args := [.int _, .int (0), .int (3)]) (rest := []) 0 (Or.inl rfl) m160_3 (Nat.le_of_ble_eq_true rfl) rfl rfl (Nat.le_of_ble_eq_true rfl) ?_
        refine wp_in (L := [some (.int _), some (.int (0)), some (.int (3))]) (Nat.le_of_ble_eq_true rfl) rfl ?_
        refine g_iload_n m107_0 rfl ?_
        refine g_iload_n m107_1 rfl ?_
        refine g_ic_ltT m107_2 ((lt_k (a := (s3).toInt) (b := 0) (by rfl) (by rfl)).mpr (by omega)) ?_
        refine g_iconst m107_14 ?_
        refine g_zret m107_15 rfl (Or.inl rfl) ?_
        refine gwst (st' := [.int (0)]) rfl ?_
        refine g_zret m160_6 rfl (Or.inl rfl) ?_
        refine gwst (st' := [.int (0)]) rfl ?_
        refine g_if_neT m181_11 (by decide) ?_
        refine g_aload_n m181_14 rfl ?_
        refine g_ldci m181_15 rfl ?_
        refine g_cv (args := [.int (-1000000001)]) (rest := []) m181_17 (Nat.le_of_ble_eq_true rfl) rfl rfl rfl (Nat.le_of_ble_eq_true rfl) ?_
        refine wp_in (L := [some (.ref 89), some (.int (-1000000001))]) (Nat.le_of_ble_eq_true rfl) rfl ?_
        refine g_aload_n m108_0 rfl ?_
        refine g_gf m108_1 rfl rfl ?_
        refine g_ldci m108_4 rfl ?_
        refine g_iload_n m108_6 rfl ?_
        refine g_isub (u := (1 : Int32)) m108_7 (by decide) ?_
        refine g_dup2 m108_8 rfl rfl ?_
        refine g_iald (x := (0 : Int32)) m108_9 rfl (vin rfl) rfl ?_
        refine g_iconst m108_10 ?_
        refine g_iadd (u := (1 : Int32)) m108_11 (by decide) ?_
        refine g_iast m108_12 (Nat.le_of_ble_eq_true rfl) rfl (vin rfl) rfl rfl rfl ?_
        refine g_iload_n m108_13 rfl ?_
        refine g_iret m108_14 rfl ?_
        refine gwst (st' := [.int (-1000000001)]) rfl ?_
        refine g_iret m181_20 rfl ?_
        refine gwst (st' := [.int (-1000000001), .int (-1000000001)]) rfl ?_
        refine g_ic_eqT m190_1269 (by decide) ?_
        refine g_iinc (x2 := (6 : Int32)) (L2 := [some (.ref 0), some (.ref 32), some (.ref 89), some (.int (6))]) m190_1428 rfl (by decide) rfl rfl ?_
        refine g_goto m190_1431 ?_
        refine g_iload_n m190_18 rfl ?_
        refine g_aload_n m190_19 rfl ?_
        refine g_alen (n := 6) m190_20 rfl (Or.inl rfl) rfl ?_
        refine g_bipush m190_21 ?_
        refine g_isub (u := (0 : Int32)) m190_23 (by decide) ?_
        refine g_ic_gtT m190_24 (by decide) ?_
        refine g_iconst m190_1434 ?_
        refine g_zret m190_1435 rfl (Or.inr rfl) ?_
        exact rfl
      · have d6 : ¬ ((s3).toInt < 0) := fun q => c5 ((lt_k (by rfl) (by rfl)).mpr q)
        refine g_iload_n m54_4 rfl ?_
        refine g_iload_n m54_5 rfl ?_
        refine g_ic_gt m54_6 (fun c7 => ?_) (fun c7 => ?_)
        · have d8 : 3 < (s3).toInt := (lt_k (by rfl) (by rfl)).mp c7
          refine g_iconst m54_13 ?_
          refine g_zret m54_14 rfl (Or.inl rfl) ?_
          refine gwst (st' := [.int (0)]) rfl ?_
          refine g_if_neT m97_13 (by decide) ?_
          refine g_aload_n m97_16 rfl ?_
          refine g_iconst m97_17 ?_
          refine g_cv (args := [.int (1)]) (rest := []) m97_18 (Nat.le_of_ble_eq_true rfl) rfl rfl rfl (Nat.le_of_ble_eq_true rfl) ?_
          refine wp_in (L := [some (.ref 32), some (.int (1))]) (Nat.le_of_ble_eq_true rfl) rfl ?_
          refine g_aload_n m55_0 rfl ?_
          refine g_gf m55_1 rfl rfl ?_
          refine g_iload_n m55_4 rfl ?_
          refine g_dup2 m55_5 rfl rfl ?_
          refine g_iald (x := (0 : Int32)) m55_6 rfl (vin rfl) rfl ?_
          refine g_iconst m55_7 ?_
          refine g_iadd (u := (1 : Int32)) m55_8 (by decide) ?_
          refine g_iast m55_9 (Nat.le_of_ble_eq_true rfl) rfl (vin rfl) rfl rfl rfl ?_
          refine g_ldcw m55_10 ?_
          refine g_iload_n m55_13 rfl ?_
          refine g_isub (u := (-1000000001 : Int32)) m55_14 (by decide) ?_
          refine g_iret m55_15 rfl ?_
          refine gwst (st' := [.int (-1000000001)]) rfl ?_
          refine g_iret m97_21 rfl ?_
          refine gwst (st' := [.int (-1000000001)]) rfl ?_
          refine FRg rfl (fun f => ?_)
          refine g_aload_n m190_1240 rfl ?_
          refine g_aload_n m190_1241 rfl ?_
          refine g_iload_n m190_1242 rfl ?_
          refine g_iconst m190_1243 ?_
          refine g_iadd (u := (1 : Int32)) m190_1244 (by decide) ?_
          refine g_iald (x := s1) m190_1245 rfl (vin rfl) rfl ?_
          refine g_aload_n m190_1246 rfl ?_
          refine g_iload_n m190_1247 rfl ?_
          refine g_iconst m190_1248 ?_
          refine g_iadd (u := (2 : Int32)) m190_1249 (by decide) ?_
          refine g_iald (x := s2) m190_1250 rfl (vin rfl) rfl ?_
          refine g_aload_n m190_1251 rfl ?_
          refine g_iload_n m190_1252 rfl ?_
          refine g_iconst m190_1253 ?_
          refine g_iadd (u := (3 : Int32)) m190_1254 (by decide) ?_
          refine g_iald (x := s3) m190_1255 rfl (vin rfl) rfl ?_
          refine g_aload_n m190_1256 rfl ?_
          refine g_iload_n m190_1257 rfl ?_
          refine g_iconst m190_1258 ?_
          refine g_iadd (u := (4 : Int32)) m190_1259 (by decide) ?_
          refine g_iald (x := s4) m190_1260 rfl (vin rfl) rfl ?_
          refine g_aload_n m190_1261 rfl ?_
          refine g_iload_n m190_1262 rfl ?_
          refine g_iconst m190_1263 ?_
          refine g_iadd (u := (5 : Int32)) m190_1264 (by decide) ?_
          refine g_iald (x := s5) m190_1265 rfl (vin rfl) rfl ?_
          refine g_cv (args := [.int _, .int _, .int _, .int _, .int _]) (rest := [.int (-1000000001)]) m190_1266 (Nat.le_of_ble_eq_true rfl) rfl rfl rfl (Nat.le_of_ble_eq_true rfl) ?_
          refine wp_in (L := [some (.ref 89), some (.int _), some (.int _), some (.int _), some (.int _), some (.int _), none]) (Nat.le_of_ble_eq_true rfl) rfl ?_
          refine g_iload_n m181_0 rfl ?_
          refine g_cs (args := [.int _]) (rest := []) 0 (Or.inl rfl) m181_1 (Nat.le_of_ble_eq_true rfl) rfl rfl (Nat.le_of_ble_eq_true rfl) ?_
          refine wp_in (L := [some (.int _)]) (Nat.le_of_ble_eq_true rfl) rfl ?_
          refine g_iload_n m160_0 rfl ?_
          refine g_iconst m160_1 ?_
          refine g_iconst m160_2 ?_
          refine g_cs (args := [.int _, .int (0), .int (3)]) (rest := []) 0 (Or.inl rfl) m160_3 (Nat.le_of_ble_eq_true rfl) rfl rfl (Nat.le_of_ble_eq_true rfl) ?_
          refine wp_in (L := [some (.int _), some (.int (0)), some (.int (3))]) (Nat.le_of_ble_eq_true rfl) rfl ?_
          refine g_iload_n m107_0 rfl ?_
          refine g_iload_n m107_1 rfl ?_
          refine g_ic_ltF m107_2 (fun q => absurd ((lt_k (a := (s1).toInt) (b := 0) (by rfl) (by rfl)).mp q) (by omega)) ?_
          refine g_iload_n m107_5 rfl ?_
          refine g_iload_n m107_6 rfl ?_
          refine g_ic_gtF m107_7 (fun q => absurd ((lt_k (a := 3) (b := (s1).toInt) (by rfl) (by rfl)).mp q) (by omega)) ?_
          refine g_iconst m107_10 ?_
          refine g_goto m107_11 ?_
          refine g_zret m107_15 rfl (Or.inr rfl) ?_
          refine gwst (st' := [.int (1)]) rfl ?_
          refine g_zret m160_6 rfl (Or.inr rfl) ?_
          refine gwst (st' := [.int (1)]) rfl ?_
          refine g_if_eqF m181_4 (by decide) ?_
          refine g_iload_n m181_7 rfl ?_
          refine g_cs (args := [.int _]) (rest := []) 0 (Or.inl rfl) m181_8 (Nat.le_of_ble_eq_true rfl) rfl rfl (Nat.le_of_ble_eq_true rfl) ?_
          refine wp_in (L := [some (.int _)]) (Nat.le_of_ble_eq_true rfl) rfl ?_
          refine g_iload_n m160_0 rfl ?_
          refine g_iconst m160_1 ?_
          refine g_iconst m160_2 ?_
          refine g_cs (args := [.int _, .int (0), .int (3)]) (rest := []) 0 (Or.inl rfl) m160_3 (Nat.le_of_ble_eq_true rfl) rfl rfl (Nat.le_of_ble_eq_true rfl) ?_
          refine wp_in (L := [some (.int _), some (.int (0)), some (.int (3))]) (Nat.le_of_ble_eq_true rfl) rfl ?_
          refine g_iload_n m107_0 rfl ?_
          refine g_iload_n m107_1 rfl ?_
          refine g_ic_ltF m107_2 (fun q => absurd ((lt_k (a := (s3).toInt) (b := 0) (by rfl) (by rfl)).mp q) (by omega)) ?_
          refine g_iload_n m107_5 rfl ?_
          refine g_iload_n m107_6 rfl ?_
          refine g_ic_gtT m107_7 ((lt_k (a := 3) (b := (s3).toInt) (by rfl) (by rfl)).mpr (by omega)) ?_
          refine g_iconst m107_14 ?_
          refine g_zret m107_15 rfl (Or.inl rfl) ?_
          refine gwst (st' := [.int (0)]) rfl ?_
          refine g_zret m160_6 rfl (Or.inl rfl) ?_
          refine gwst (st' := [.int (0)]) rfl ?_
          refine g_if_neT m181_11 (by decide) ?_
          refine g_aload_n m181_14 rfl ?_
          refine g_ldci m181_15 rfl ?_
          refine g_cv (args := [.int (-1000000001)]) (rest := []) m181_17 (Nat.le_of_ble_eq_true rfl) rfl rfl rfl (Nat.le_of_ble_eq_true rfl) ?_
          refine wp_in (L := [some (.ref 89), some (.int (-1000000001))]) (Nat.le_of_ble_eq_true rfl) rfl ?_
          refine g_aload_n m108_0 rfl ?_
          refine g_gf m108_1 rfl rfl ?_
          refine g_ldci m108_4 rfl ?_
          refine g_iload_n m108_6 rfl ?_
          refine g_isub (u := (1 : Int32)) m108_7 (by decide) ?_
          refine g_dup2 m108_8 rfl rfl ?_
          refine g_iald (x := (0 : Int32)) m108_9 rfl (vin rfl) rfl ?_
          refine g_iconst m108_10 ?_
          refine g_iadd (u := (1 : Int32)) m108_11 (by decide) ?_
          refine g_iast m108_12 (Nat.le_of_ble_eq_true rfl) rfl (vin rfl) rfl rfl rfl ?_
          refine g_iload_n m108_13 rfl ?_
          refine g_iret m108_14 rfl ?_
          refine gwst (st' := [.int (-1000000001)]) rfl ?_
          refine g_iret m181_20 rfl ?_
          refine gwst (st' := [.int (-1000000001), .int (-1000000001)]) rfl ?_
          refine g_ic_eqT m190_1269 (by decide) ?_
          refine g_iinc (x2 := (6 : Int32)) (L2 := [some (.ref 0), some (.ref 32), some (.ref 89), some (.int (6))]) m190_1428 rfl (by decide) rfl rfl ?_
          refine g_goto m190_1431 ?_
          refine g_iload_n m190_18 rfl ?_
          refine g_aload_n m190_19 rfl ?_
          refine g_alen (n := 6) m190_20 rfl (Or.inl rfl) rfl ?_
          refine g_bipush m190_21 ?_
          refine g_isub (u := (0 : Int32)) m190_23 (by decide) ?_
          refine g_ic_gtT m190_24 (by decide) ?_
          refine g_iconst m190_1434 ?_
          refine g_zret m190_1435 rfl (Or.inr rfl) ?_
          exact rfl
        · have d8 : ¬ (3 < (s3).toInt) := fun q => c7 ((lt_k (by rfl) (by rfl)).mpr q)
          refine g_iconst m54_9 ?_
          refine g_goto m54_10 ?_
          refine g_zret m54_14 rfl (Or.inr rfl) ?_
          refine gwst (st' := [.int (1)]) rfl ?_
          refine g_if_neF m97_13 (by decide) ?_
          refine g_aload_n m97_22 rfl ?_
          refine g_gf m97_23 rfl rfl ?_
          refine g_iload_n m97_26 rfl ?_
          obtain ⟨j9, e10, x11⟩ := nat_of (x := s1) (lo := 0) (hi := 3) (by omega) (by omega)
          rcases (show j9 = 0 ∨ j9 = 1 ∨ j9 = 2 ∨ j9 = 3 by omega) with rfl | rfl | rfl | rfl
          · have x11q : s1 = (0 : Int32) := x11
            clear x11
            subst x11q
            refine g_aald m97_27 (Nat.le_of_ble_eq_true rfl) rfl (vin rfl) rfl ?_
            refine g_astore (L2 := [some (.ref 32), some (.int (0)), some (.int _), some (.int _), some (.int _), some (.int _), some (.ref 80), none]) m97_28 rfl rfl ?_
            refine g_aload_n m97_30 rfl ?_
            refine g_gf m97_31 rfl rfl ?_
            refine g_iload_n m97_34 rfl ?_
            obtain ⟨j12, e13, x14⟩ := nat_of (x := s3) (lo := 0) (hi := 3) (by omega) (by omega)
            rcases (show j12 = 0 ∨ j12 = 1 ∨ j12 = 2 ∨ j12 = 3 by omega) with rfl | rfl | rfl | rfl
            · have x14q : s3 = (0 : Int32) := x14
              clear x14
              subst x14q
              refine g_aald m97_35 (Nat.le_of_ble_eq_true rfl) rfl (vin rfl) rfl ?_
              refine g_astore (L2 := [some (.ref 32), some (.int (0)), some (.int _), some (.int (0)), some (.int _), some (.int _), some (.ref 80), some (.ref 80)]) m97_36 rfl rfl ?_
              refine g_aload m97_38 rfl ?_
              refine g_gf m97_40 rfl rfl ?_
              refine g_if_eqT m97_43 (by decide) ?_
              refine g_aload_n m97_54 rfl ?_
              refine g_iconst m97_55 ?_
              refine g_cv (args := [.int (2)]) (rest := []) m97_56 (Nat.le_of_ble_eq_true rfl) rfl rfl rfl (Nat.le_of_ble_eq_true rfl) ?_
              refine wp_in (L := [some (.ref 32), some (.int (2))]) (Nat.le_of_ble_eq_true rfl) rfl ?_
              refine g_aload_n m55_0 rfl ?_
              refine g_gf m55_1 rfl rfl ?_
              refine g_iload_n m55_4 rfl ?_
              refine g_dup2 m55_5 rfl rfl ?_
              refine g_iald (x := (0 : Int32)) m55_6 rfl (vin rfl) rfl ?_
              refine g_iconst m55_7 ?_
              refine g_iadd (u := (1 : Int32)) m55_8 (by decide) ?_
              refine g_iast m55_9 (Nat.le_of_ble_eq_true rfl) rfl (vin rfl) rfl rfl rfl ?_
              refine g_ldcw m55_10 ?_
              refine g_iload_n m55_13 rfl ?_
              refine g_isub (u := (-1000000002 : Int32)) m55_14 (by decide) ?_
              refine g_iret m55_15 rfl ?_
              refine gwst (st' := [.int (-1000000002)]) rfl ?_
              refine g_iret m97_59 rfl ?_
              refine gwst (st' := [.int (-1000000002)]) rfl ?_
              refine FRg rfl (fun f => ?_)
              refine g_aload_n m190_1240 rfl ?_
              refine g_aload_n m190_1241 rfl ?_
              refine g_iload_n m190_1242 rfl ?_
              refine g_iconst m190_1243 ?_
              refine g_iadd (u := (1 : Int32)) m190_1244 (by decide) ?_
              refine g_iald (x := (0 : Int32)) m190_1245 rfl (vin rfl) rfl ?_
              refine g_aload_n m190_1246 rfl ?_
              refine g_iload_n m190_1247 rfl ?_
              refine g_iconst m190_1248 ?_
              refine g_iadd (u := (2 : Int32)) m190_1249 (by decide) ?_
              refine g_iald (x := s2) m190_1250 rfl (vin rfl) rfl ?_
              refine g_aload_n m190_1251 rfl ?_
              refine g_iload_n m190_1252 rfl ?_
              refine g_iconst m190_1253 ?_
              refine g_iadd (u := (3 : Int32)) m190_1254 (by decide) ?_
              refine g_iald (x := (0 : Int32)) m190_1255 rfl (vin rfl) rfl ?_
              refine g_aload_n m190_1256 rfl ?_
              refine g_iload_n m190_1257 rfl ?_
              refine g_iconst m190_1258 ?_
              refine g_iadd (u := (4 : Int32)) m190_1259 (by decide) ?_
              refine g_iald (x := s4) m190_1260 rfl (vin rfl) rfl ?_
              refine g_aload_n m190_1261 rfl ?_
              refine g_iload_n m190_1262 rfl ?_
              refine g_iconst m190_1263 ?_
              refine g_iadd (u := (5 : Int32)) m190_1264 (by decide) ?_
              refine g_iald (x := s5) m190_1265 rfl (vin rfl) rfl ?_
              refine g_cv (args := [.int (0), .int _, .int (0), .int _, .int _]) (rest := [.int (-1000000002)]) m190_1266 (Nat.le_of_ble_eq_true rfl) rfl rfl rfl (Nat.le_of_ble_eq_true rfl) ?_
              refine wp_in (L := [some (.ref 89), some (.int (0)), some (.int _), some (.int (0)), some (.int _), some (.int _), none]) (Nat.le_of_ble_eq_true rfl) rfl ?_
              refine g_iload_n m181_0 rfl ?_
              refine g_cs (args := [.int (0)]) (rest := []) 0 (Or.inl rfl) m181_1 (Nat.le_of_ble_eq_true rfl) rfl rfl (Nat.le_of_ble_eq_true rfl) ?_
              refine wp_in (L := [some (.int (0))]) (Nat.le_of_ble_eq_true rfl) rfl ?_
              refine g_iload_n m160_0 rfl ?_
              refine g_iconst m160_1 ?_
              refine g_iconst m160_2 ?_
              refine g_cs (args := [.int (0), .int (0), .int (3)]) (rest := []) 0 (Or.inl rfl) m160_3 (Nat.le_of_ble_eq_true rfl) rfl rfl (Nat.le_of_ble_eq_true rfl) ?_
              refine wp_in (L := [some (.int (0)), some (.int (0)), some (.int (3))]) (Nat.le_of_ble_eq_true rfl) rfl ?_
              refine g_iload_n m107_0 rfl ?_
              refine g_iload_n m107_1 rfl ?_
              refine g_ic_ltF m107_2 (by decide) ?_
              refine g_iload_n m107_5 rfl ?_
              refine g_iload_n m107_6 rfl ?_
              refine g_ic_gtF m107_7 (by decide) ?_
              refine g_iconst m107_10 ?_
              refine g_goto m107_11 ?_
              refine g_zret m107_15 rfl (Or.inr rfl) ?_
              refine gwst (st' := [.int (1)]) rfl ?_
              refine g_zret m160_6 rfl (Or.inr rfl) ?_
              refine gwst (st' := [.int (1)]) rfl ?_
              refine g_if_eqF m181_4 (by decide) ?_
              refine g_iload_n m181_7 rfl ?_
              refine g_cs (args := [.int (0)]) (rest := []) 0 (Or.inl rfl) m181_8 (Nat.le_of_ble_eq_true rfl) rfl rfl (Nat.le_of_ble_eq_true rfl) ?_
              refine wp_in (L := [some (.int (0))]) (Nat.le_of_ble_eq_true rfl) rfl ?_
              refine g_iload_n m160_0 rfl ?_
              refine g_iconst m160_1 ?_
              refine g_iconst m160_2 ?_
              refine g_cs (args := [.int (0), .int (0), .int (3)]) (rest := []) 0 (Or.inl rfl) m160_3 (Nat.le_of_ble_eq_true rfl) rfl rfl (Nat.le_of_ble_eq_true rfl) ?_
              refine wp_in (L := [some (.int (0)), some (.int (0)), some (.int (3))]) (Nat.le_of_ble_eq_true rfl) rfl ?_
              refine g_iload_n m107_0 rfl ?_
              refine g_iload_n m107_1 rfl ?_
              refine g_ic_ltF m107_2 (by decide) ?_
              refine g_iload_n m107_5 rfl ?_
              refine g_iload_n m107_6 rfl ?_
              refine g_ic_gtF m107_7 (by decide) ?_
              refine g_iconst m107_10 ?_
              refine g_goto m107_11 ?_
              refine g_zret m107_15 rfl (Or.inr rfl) ?_
              refine gwst (st' := [.int (1)]) rfl ?_
              refine g_zret m160_6 rfl (Or.inr rfl) ?_
              refine gwst (st' := [.int (1)]) rfl ?_
              refine g_if_neF m181_11 (by decide) ?_
              refine g_aload_n m181_21 rfl ?_
              refine g_gf m181_22 rfl rfl ?_
              refine g_iload_n m181_25 rfl ?_
              refine g_iald (x := (0 : Int32)) m181_26 rfl (vin rfl) rfl ?_
              refine g_if_eqT m181_27 (by decide) ?_
              refine g_aload_n m181_39 rfl ?_
              refine g_ldci m181_40 rfl ?_
              refine g_cv (args := [.int (-1000000002)]) (rest := []) m181_42 (Nat.le_of_ble_eq_true rfl) rfl rfl rfl (Nat.le_of_ble_eq_true rfl) ?_
              refine wp_in (L := [some (.ref 89), some (.int (-1000000002))]) (Nat.le_of_ble_eq_true rfl) rfl ?_
              refine g_aload_n m108_0 rfl ?_
              refine g_gf m108_1 rfl rfl ?_
              refine g_ldci m108_4 rfl ?_
              refine g_iload_n m108_6 rfl ?_
              refine g_isub (u := (2 : Int32)) m108_7 (by decide) ?_
              refine g_dup2 m108_8 rfl rfl ?_
              refine g_iald (x := (0 : Int32)) m108_9 rfl (vin rfl) rfl ?_
              refine g_iconst m108_10 ?_
              refine g_iadd (u := (1 : Int32)) m108_11 (by decide) ?_
              refine g_iast m108_12 (Nat.le_of_ble_eq_true rfl) rfl (vin rfl) rfl rfl rfl ?_
              refine g_iload_n m108_13 rfl ?_
              refine g_iret m108_14 rfl ?_
              refine gwst (st' := [.int (-1000000002)]) rfl ?_
              refine g_iret m181_45 rfl ?_
              refine gwst (st' := [.int (-1000000002), .int (-1000000002)]) rfl ?_
              refine g_ic_eqT m190_1269 (by decide) ?_
              refine g_iinc (x2 := (6 : Int32)) (L2 := [some (.ref 0), some (.ref 32), some (.ref 89), some (.int (6))]) m190_1428 rfl (by decide) rfl rfl ?_
              refine g_goto m190_1431 ?_
              refine g_iload_n m190_18 rfl ?_
              refine g_aload_n m190_19 rfl ?_
              refine g_alen (n := 6) m190_20 rfl (Or.inl rfl) rfl ?_
              refine g_bipush m190_21 ?_
              refine g_isub (u := (0 : Int32)) m190_23 (by decide) ?_
              refine g_ic_gtT m190_24 (by decide) ?_
              refine g_iconst m190_1434 ?_
              refine g_zret m190_1435 rfl (Or.inr rfl) ?_
              exact rfl
            · have x14q : s3 = (1 : Int32) := x14
              clear x14
              subst x14q
              refine g_aald m97_35 (Nat.le_of_ble_eq_true rfl) rfl (vin rfl) rfl ?_
              refine g_astore (L2 := [some (.ref 32), some (.int (0)), some (.int _), some (.int (1)), some (.int _), some (.int _), some (.ref 80), some (.ref 82)]) m97_36 rfl rfl ?_
              refine g_aload m97_38 rfl ?_
              refine g_gf m97_40 rfl rfl ?_
              refine g_if_eqT m97_43 (by decide) ?_
              refine g_aload_n m97_54 rfl ?_
              refine g_iconst m97_55 ?_
              refine g_cv (args := [.int (2)]) (rest := []) m97_56 (Nat.le_of_ble_eq_true rfl) rfl rfl rfl (Nat.le_of_ble_eq_true rfl) ?_
              refine wp_in (L := [some (.ref 32), some (.int (2))]) (Nat.le_of_ble_eq_true rfl) rfl ?_
              refine g_aload_n m55_0 rfl ?_
              refine g_gf m55_1 rfl rfl ?_
              refine g_iload_n m55_4 rfl ?_
              refine g_dup2 m55_5 rfl rfl ?_
              refine g_iald (x := (0 : Int32)) m55_6 rfl (vin rfl) rfl ?_
              refine g_iconst m55_7 ?_
              refine g_iadd (u := (1 : Int32)) m55_8 (by decide) ?_
              refine g_iast m55_9 (Nat.le_of_ble_eq_true rfl) rfl (vin rfl) rfl rfl rfl ?_
              refine g_ldcw m55_10 ?_
              refine g_iload_n m55_13 rfl ?_
              refine g_isub (u := (-1000000002 : Int32)) m55_14 (by decide) ?_
              refine g_iret m55_15 rfl ?_
              refine gwst (st' := [.int (-1000000002)]) rfl ?_
              refine g_iret m97_59 rfl ?_
              refine gwst (st' := [.int (-1000000002)]) rfl ?_
              refine FRg rfl (fun f => ?_)
              refine g_aload_n m190_1240 rfl ?_
              refine g_aload_n m190_1241 rfl ?_
              refine g_iload_n m190_1242 rfl ?_
              refine g_iconst m190_1243 ?_
              refine g_iadd (u := (1 : Int32)) m190_1244 (by decide) ?_
              refine g_iald (x := (0 : Int32)) m190_1245 rfl (vin rfl) rfl ?_
              refine g_aload_n m190_1246 rfl ?_
              refine g_iload_n m190_1247 rfl ?_
              refine g_iconst m190_1248 ?_
              refine g_iadd (u := (2 : Int32)) m190_1249 (by decide) ?_
              refine g_iald (x := s2) m190_1250 rfl (vin rfl) rfl ?_
              refine g_aload_n m190_1251 rfl ?_
              refine g_iload_n m190_1252 rfl ?_
              refine g_iconst m190_1253 ?_
              refine g_iadd (u := (3 : Int32)) m190_1254 (by decide) ?_
              refine g_iald (x := (1 : Int32)) m190_1255 rfl (vin rfl) rfl ?_
              refine g_aload_n m190_1256 rfl ?_
              refine g_iload_n m190_1257 rfl ?_
              refine g_iconst m190_1258 ?_
              refine g_iadd (u := (4 : Int32)) m190_1259 (by decide) ?_
              refine g_iald (x := s4) m190_1260 rfl (vin rfl) rfl ?_
              refine g_aload_n m190_1261 rfl ?_
              refine g_iload_n m190_1262 rfl ?_
              refine g_iconst m190_1263 ?_
              refine g_iadd (u := (5 : Int32)) m190_1264 (by decide) ?_
              refine g_iald (x := s5) m190_1265 rfl (vin rfl) rfl ?_
              refine g_cv (args := [.int (0), .int _, .int (1), .int _, .int _]) (rest := [.int (-1000000002)]) m190_1266 (Nat.le_of_ble_eq_true rfl) rfl rfl rfl (Nat.le_of_ble_eq_true rfl) ?_
              refine wp_in (L := [some (.ref 89), some (.int (0)), some (.int _), some (.int (1)), some (.int _), some (.int _), none]) (Nat.le_of_ble_eq_true rfl) rfl ?_
              refine g_iload_n m181_0 rfl ?_
              refine g_cs (args := [.int (0)]) (rest := []) 0 (Or.inl rfl) m181_1 (Nat.le_of_ble_eq_true rfl) rfl rfl (Nat.le_of_ble_eq_true rfl) ?_
              refine wp_in (L := [some (.int (0))]) (Nat.le_of_ble_eq_true rfl) rfl ?_
              refine g_iload_n m160_0 rfl ?_
              refine g_iconst m160_1 ?_
              refine g_iconst m160_2 ?_
              refine g_cs (args := [.int (0), .int (0), .int (3)]) (rest := []) 0 (Or.inl rfl) m160_3 (Nat.le_of_ble_eq_true rfl) rfl rfl (Nat.le_of_ble_eq_true rfl) ?_
              refine wp_in (L := [some (.int (0)), some (.int (0)), some (.int (3))]) (Nat.le_of_ble_eq_true rfl) rfl ?_
              refine g_iload_n m107_0 rfl ?_
              refine g_iload_n m107_1 rfl ?_
              refine g_ic_ltF m107_2 (by decide) ?_
              refine g_iload_n m107_5 rfl ?_
              refine g_iload_n m107_6 rfl ?_
              refine g_ic_gtF m107_7 (by decide) ?_
              refine g_iconst m107_10 ?_
              refine g_goto m107_11 ?_
              refine g_zret m107_15 rfl (Or.inr rfl) ?_
              refine gwst (st' := [.int (1)]) rfl ?_
              refine g_zret m160_6 rfl (Or.inr rfl) ?_
              refine gwst (st' := [.int (1)]) rfl ?_
              refine g_if_eqF m181_4 (by decide) ?_
              refine g_iload_n m181_7 rfl ?_
              refine g_cs (args := [.int (1)]) (rest := []) 0 (Or.inl rfl) m181_8 (Nat.le_of_ble_eq_true rfl) rfl rfl (Nat.le_of_ble_eq_true rfl) ?_
              refine wp_in (L := [some (.int (1))]) (Nat.le_of_ble_eq_true rfl) rfl ?_
              refine g_iload_n m160_0 rfl ?_
              refine g_iconst m160_1 ?_
              refine g_iconst m160_2 ?_
              refine g_cs (args := [.int (1), .int (0), .int (3)]) (rest := []) 0 (Or.inl rfl) m160_3 (Nat.le_of_ble_eq_true rfl) rfl rfl (Nat.le_of_ble_eq_true rfl) ?_
              refine wp_in (L := [some (.int (1)), some (.int (0)), some (.int (3))]) (Nat.le_of_ble_eq_true rfl) rfl ?_
              refine g_iload_n m107_0 rfl ?_
              refine g_iload_n m107_1 rfl ?_
              refine g_ic_ltF m107_2 (by decide) ?_
              refine g_iload_n m107_5 rfl ?_
              refine g_iload_n m107_6 rfl ?_
              refine g_ic_gtF m107_7 (by decide) ?_
              refine g_iconst m107_10 ?_
              refine g_goto m107_11 ?_
              refine g_zret m107_15 rfl (Or.inr rfl) ?_
              refine gwst (st' := [.int (1)]) rfl ?_
              refine g_zret m160_6 rfl (Or.inr rfl) ?_
              refine gwst (st' := [.int (1)]) rfl ?_
              refine g_if_neF m181_11 (by decide) ?_
              refine g_aload_n m181_21 rfl ?_
              refine g_gf m181_22 rfl rfl ?_
              refine g_iload_n m181_25 rfl ?_
              refine g_iald (x := (0 : Int32)) m181_26 rfl (vin rfl) rfl ?_
              refine g_if_eqT m181_27 (by decide) ?_
              refine g_aload_n m181_39 rfl ?_
              refine g_ldci m181_40 rfl ?_
              refine g_cv (args := [.int (-1000000002)]) (rest := []) m181_42 (Nat.le_of_ble_eq_true rfl) rfl rfl rfl (Nat.le_of_ble_eq_true rfl) ?_
              refine wp_in (L := [some (.ref 89), some (.int (-1000000002))]) (Nat.le_of_ble_eq_true rfl) rfl ?_
              refine g_aload_n m108_0 rfl ?_
              refine g_gf m108_1 rfl rfl ?_
              refine g_ldci m108_4 rfl ?_
              refine g_iload_n m108_6 rfl ?_
              refine g_isub (u := (2 : Int32)) m108_7 (by decide) ?_
              refine g_dup2 m108_8 rfl rfl ?_
              refine g_iald (x := (0 : Int32)) m108_9 rfl (vin rfl) rfl ?_
              refine g_iconst m108_10 ?_
              refine g_iadd (u := (1 : Int32)) m108_11 (by decide) ?_
              refine g_iast m108_12 (Nat.le_of_ble_eq_true rfl) rfl (vin rfl) rfl rfl rfl ?_
              refine g_iload_n m108_13 rfl ?_
              refine g_iret m108_14 rfl ?_
              refine gwst (st' := [.int (-1000000002)]) rfl ?_
              refine g_iret m181_45 rfl ?_
              refine gwst (st' := [.int (-1000000002), .int (-1000000002)]) rfl ?_
              refine g_ic_eqT m190_1269 (by decide) ?_
              refine g_iinc (x2 := (6 : Int32)) (L2 := [some (.ref 0), some (.ref 32), some (.ref 89), some (.int (6))]) m190_1428 rfl (by decide) rfl rfl ?_
              refine g_goto m190_1431 ?_
              refine g_iload_n m190_18 rfl ?_
              refine g_aload_n m190_19 rfl ?_
              refine g_alen (n := 6) m190_20 rfl (Or.inl rfl) rfl ?_
              refine g_bipush m190_21 ?_
              refine g_isub (u := (0 : Int32)) m190_23 (by decide) ?_
              refine g_ic_gtT m190_24 (by decide) ?_
              refine g_iconst m190_1434 ?_
              refine g_zret m190_1435 rfl (Or.inr rfl) ?_
              exact rfl
            · have x14q : s3 = (2 : Int32) := x14
              clear x14
              subst x14q
              refine g_aald m97_35 (Nat.le_of_ble_eq_true rfl) rfl (vin rfl) rfl ?_
              refine g_astore (L2 := [some (.ref 32), some (.int (0)), some (.int _), some (.int (2)), some (.int _), some (.int _), some (.ref 80), some (.ref 84)]) m97_36 rfl rfl ?_
              refine g_aload m97_38 rfl ?_
              refine g_gf m97_40 rfl rfl ?_
              refine g_if_eqT m97_43 (by decide) ?_
              refine g_aload_n m97_54 rfl ?_
              refine g_iconst m97_55 ?_
              refine g_cv (args := [.int (2)]) (rest := []) m97_56 (Nat.le_of_ble_eq_true rfl) rfl rfl rfl (Nat.le_of_ble_eq_true rfl) ?_
              refine wp_in (L := [some (.ref 32), some (.int (2))]) (Nat.le_of_ble_eq_true rfl) rfl ?_
              refine g_aload_n m55_0 rfl ?_
              refine g_gf m55_1 rfl rfl ?_
              refine g_iload_n m55_4 rfl ?_
              refine g_dup2 m55_5 rfl rfl ?_
              refine g_iald (x := (0 : Int32)) m55_6 rfl (vin rfl) rfl ?_
              refine g_iconst m55_7 ?_
              refine g_iadd (u := (1 : Int32)) m55_8 (by decide) ?_
              refine g_iast m55_9 (Nat.le_of_ble_eq_true rfl) rfl (vin rfl) rfl rfl rfl ?_
              refine g_ldcw m55_10 ?_
              refine g_iload_n m55_13 rfl ?_
              refine g_isub (u := (-1000000002 : Int32)) m55_14 (by decide) ?_
              refine g_iret m55_15 rfl ?_
              refine gwst (st' := [.int (-1000000002)]) rfl ?_
              refine g_iret m97_59 rfl ?_
              refine gwst (st' := [.int (-1000000002)]) rfl ?_
              refine FRg rfl (fun f => ?_)
              refine g_aload_n m190_1240 rfl ?_
              refine g_aload_n m190_1241 rfl ?_
              refine g_iload_n m190_1242 rfl ?_
              refine g_iconst m190_1243 ?_
              refine g_iadd (u := (1 : Int32)) m190_1244 (by decide) ?_
              refine g_iald (x := (0 : Int32)) m190_1245 rfl (vin rfl) rfl ?_
              refine g_aload_n m190_1246 rfl ?_
              refine g_iload_n m190_1247 rfl ?_
              refine g_iconst m190_1248 ?_
              refine g_iadd (u := (2 : Int32)) m190_1249 (by decide) ?_
              refine g_iald (x := s2) m190_1250 rfl (vin rfl) rfl ?_
              refine g_aload_n m190_1251 rfl ?_
              refine g_iload_n m190_1252 rfl ?_
              refine g_iconst m190_1253 ?_
              refine g_iadd (u := (3 : Int32)) m190_1254 (by decide) ?_
              refine g_iald (x := (2 : Int32)) m190_1255 rfl (vin rfl) rfl ?_
              refine g_aload_n m190_1256 rfl ?_
              refine g_iload_n m190_1257 rfl ?_
              refine g_iconst m190_1258 ?_
              refine g_iadd (u := (4 : Int32)) m190_1259 (by decide) ?_
              refine g_iald (x := s4) m190_1260 rfl (vin rfl) rfl ?_
              refine g_aload_n m190_1261 rfl ?_
              refine g_iload_n m190_1262 rfl ?_
              refine g_iconst m190_1263 ?_
              refine g_iadd (u := (5 : Int32)) m190_1264 (by decide) ?_
              refine g_iald (x := s5) m190_1265 rfl (vin rfl) rfl ?_
              refine g_cv (args := [.int (0), .int _, .int (2), .int _, .int _]) (rest := [.int (-1000000002)]) m190_1266 (Nat.le_of_ble_eq_true rfl) rfl rfl rfl (Nat.le_of_ble_eq_true rfl) ?_
              refine wp_in (L := [some (.ref 89), some (.int (0)), some (.int _), some (.int (2)), some (.int _), some (.int _), none]) (Nat.le_of_ble_eq_true rfl) rfl ?_
              refine g_iload_n m181_0 rfl ?_
              refine g_cs (args := [.int (0)]) (rest := []) 0 (Or.inl rfl) m181_1 (Nat.le_of_ble_eq_true rfl) rfl rfl (Nat.le_of_ble_eq_true rfl) ?_
              refine wp_in (L := [some (.int (0))]) (Nat.le_of_ble_eq_true rfl) rfl ?_
              refine g_iload_n m160_0 rfl ?_
              refine g_iconst m160_1 ?_
              refine g_iconst m160_2 ?_
              refine g_cs (args := [.int (0), .int (0), .int (3)]) (rest := []) 0 (Or.inl rfl) m160_3 (Nat.le_of_ble_eq_true rfl) rfl rfl (Nat.le_of_ble_eq_true rfl) ?_
              refine wp_in (L := [some (.int (0)), some (.int (0)), some (.int (3))]) (Nat.le_of_ble_eq_true rfl) rfl ?_
              refine g_iload_n m107_0 rfl ?_
              refine g_iload_n m107_1 rfl ?_
              refine g_ic_ltF m107_2 (by decide) ?_
              refine g_iload_n m107_5 rfl ?_
              refine g_iload_n m107_6 rfl ?_
              refine g_ic_gtF m107_7 (by decide) ?_
              refine g_iconst m107_10 ?_
              refine g_goto m107_11 ?_
              refine g_zret m107_15 rfl (Or.inr rfl) ?_
              refine gwst (st' := [.int (1)]) rfl ?_
              refine g_zret m160_6 rfl (Or.inr rfl) ?_
              refine gwst (st' := [.int (1)]) rfl ?_
              refine g_if_eqF m181_4 (by decide) ?_
              refine g_iload_n m181_7 rfl ?_
              refine g_cs (args := [.int (2)]) (rest := []) 0 (Or.inl rfl) m181_8 (Nat.le_of_ble_eq_true rfl) rfl rfl (Nat.le_of_ble_eq_true rfl) ?_
              refine wp_in (L := [some (.int (2))]) (Nat.le_of_ble_eq_true rfl) rfl ?_
              refine g_iload_n m160_0 rfl ?_
              refine g_iconst m160_1 ?_
              refine g_iconst m160_2 ?_
              refine g_cs (args := [.int (2), .int (0), .int (3)]) (rest := []) 0 (Or.inl rfl) m160_3 (Nat.le_of_ble_eq_true rfl) rfl rfl (Nat.le_of_ble_eq_true rfl) ?_
              refine wp_in (L := [some (.int (2)), some (.int (0)), some (.int (3))]) (Nat.le_of_ble_eq_true rfl) rfl ?_
              refine g_iload_n m107_0 rfl ?_
              refine g_iload_n m107_1 rfl ?_
              refine g_ic_ltF m107_2 (by decide) ?_
              refine g_iload_n m107_5 rfl ?_
              refine g_iload_n m107_6 rfl ?_
              refine g_ic_gtF m107_7 (by decide) ?_
              refine g_iconst m107_10 ?_
              refine g_goto m107_11 ?_
              refine g_zret m107_15 rfl (Or.inr rfl) ?_
              refine gwst (st' := [.int (1)]) rfl ?_
              refine g_zret m160_6 rfl (Or.inr rfl) ?_
              refine gwst (st' := [.int (1)]) rfl ?_
              refine g_if_neF m181_11 (by decide) ?_
              refine g_aload_n m181_21 rfl ?_
              refine g_gf m181_22 rfl rfl ?_
              refine g_iload_n m181_25 rfl ?_
              refine g_iald (x := (0 : Int32)) m181_26 rfl (vin rfl) rfl ?_
              refine g_if_eqT m181_27 (by decide) ?_
              refine g_aload_n m181_39 rfl ?_
              refine g_ldci m181_40 rfl ?_
              refine g_cv (args := [.int (-1000000002)]) (rest := []) m181_42 (Nat.le_of_ble_eq_true rfl) rfl rfl rfl (Nat.le_of_ble_eq_true rfl) ?_
              refine wp_in (L := [some (.ref 89), some (.int (-1000000002))]) (Nat.le_of_ble_eq_true rfl) rfl ?_
              refine g_aload_n m108_0 rfl ?_
              refine g_gf m108_1 rfl rfl ?_
              refine g_ldci m108_4 rfl ?_
              refine g_iload_n m108_6 rfl ?_
              refine g_isub (u := (2 : Int32)) m108_7 (by decide) ?_
              refine g_dup2 m108_8 rfl rfl ?_
              refine g_iald (x := (0 : Int32)) m108_9 rfl (vin rfl) rfl ?_
              refine g_iconst m108_10 ?_
              refine g_iadd (u := (1 : Int32)) m108_11 (by decide) ?_
              refine g_iast m108_12 (Nat.le_of_ble_eq_true rfl) rfl (vin rfl) rfl rfl rfl ?_
              refine g_iload_n m108_13 rfl ?_
              refine g_iret m108_14 rfl ?_
              refine gwst (st' := [.int (-1000000002)]) rfl ?_
              refine g_iret m181_45 rfl ?_
              refine gwst (st' := [.int (-1000000002), .int (-1000000002)]) rfl ?_
              refine g_ic_eqT m190_1269 (by decide) ?_
              refine g_iinc (x2 := (6 : Int32)) (L2 := [some (.ref 0), some (.ref 32), some (.ref 89), some (.int (6))]) m190_1428 rfl (by decide) rfl rfl ?_
              refine g_goto m190_1431 ?_
              refine g_iload_n m190_18 rfl ?_
              refine g_aload_n m190_19 rfl ?_
              refine g_alen (n := 6) m190_20 rfl (Or.inl rfl) rfl ?_
              refine g_bipush m190_21 ?_
              refine g_isub (u := (0 : Int32)) m190_23 (by decide) ?_
              refine g_ic_gtT m190_24 (by decide) ?_
              refine g_iconst m190_1434 ?_
              refine g_zret m190_1435 rfl (Or.inr rfl) ?_
              exact rfl
            · have x14q : s3 = (3 : Int32) := x14
              clear x14
              subst x14q
              refine g_aald m97_35 (Nat.le_of_ble_eq_true rfl) rfl (vin rfl) rfl ?_
              refine g_astore (L2 := [some (.ref 32), some (.int (0)), some (.int _), some (.int (3)), some (.int _), some (.int _), some (.ref 80), some (.ref 86)]) m97_36 rfl rfl ?_
              refine g_aload m97_38 rfl ?_
              refine g_gf m97_40 rfl rfl ?_
              refine g_if_eqT m97_43 (by decide) ?_
              refine g_aload_n m97_54 rfl ?_
              refine g_iconst m97_55 ?_
              refine g_cv (args := [.int (2)]) (rest := []) m97_56 (Nat.le_of_ble_eq_true rfl) rfl rfl rfl (Nat.le_of_ble_eq_true rfl) ?_
              refine wp_in (L := [some (.ref 32), some (.int (2))]) (Nat.le_of_ble_eq_true rfl) rfl ?_
              refine g_aload_n m55_0 rfl ?_
              refine g_gf m55_1 rfl rfl ?_
              refine g_iload_n m55_4 rfl ?_
              refine g_dup2 m55_5 rfl rfl ?_
              refine g_iald (x := (0 : Int32)) m55_6 rfl (vin rfl) rfl ?_
              refine g_iconst m55_7 ?_
              refine g_iadd (u := (1 : Int32)) m55_8 (by decide) ?_
              refine g_iast m55_9 (Nat.le_of_ble_eq_true rfl) rfl (vin rfl) rfl rfl rfl ?_
              refine g_ldcw m55_10 ?_
              refine g_iload_n m55_13 rfl ?_
              refine g_isub (u := (-1000000002 : Int32)) m55_14 (by decide) ?_
              refine g_iret m55_15 rfl ?_
              refine gwst (st' := [.int (-1000000002)]) rfl ?_
              refine g_iret m97_59 rfl ?_
              refine gwst (st' := [.int (-1000000002)]) rfl ?_
              refine FRg rfl (fun f => ?_)
              refine g_aload_n m190_1240 rfl ?_
              refine g_aload_n m190_1241 rfl ?_
              refine g_iload_n m190_1242 rfl ?_
              refine g_iconst m190_1243 ?_
              refine g_iadd (u := (1 : Int32)) m190_1244 (by decide) ?_
              refine g_iald (x := (0 : Int32)) m190_1245 rfl (vin rfl) rfl ?_
              refine g_aload_n m190_1246 rfl ?_
              refine g_iload_n m190_1247 rfl ?_
              refine g_iconst m190_1248 ?_
              refine g_iadd (u := (2 : Int32)) m190_1249 (by decide) ?_
              refine g_iald (x := s2) m190_1250 rfl (vin rfl) rfl ?_
              refine g_aload_n m190_1251 rfl ?_
              refine g_iload_n m190_1252 rfl ?_
              refine g_iconst m190_1253 ?_
              refine g_iadd (u := (3 : Int32)) m190_1254 (by decide) ?_
              refine g_iald (x := (3 : Int32)) m190_1255 rfl (vin rfl) rfl ?_
              refine g_aload_n m190_1256 rfl ?_
              refine g_iload_n m190_1257 rfl ?_
              refine g_iconst m190_1258 ?_
              refine g_iadd (u := (4 : Int32)) m190_1259 (by decide) ?_
              refine g_iald (x := s4) m190_1260 rfl (vin rfl) rfl ?_
              refine g_aload_n m190_1261 rfl ?_
              refine g_iload_n m190_1262 rfl ?_
              refine g_iconst m190_1263 ?_
              refine g_iadd (u := (5 : Int32)) m190_1264 (by decide) ?_
              refine g_iald (x := s5) m190_1265 rfl (vin rfl) rfl ?_
              refine g_cv (args := [.int (0), .int _, .int (3), .int _, .int _]) (rest := [.int (-1000000002)]) m190_1266 (Nat.le_of_ble_eq_true rfl) rfl rfl rfl (Nat.le_of_ble_eq_true rfl) ?_
              refine wp_in (L := [some (.ref 89), some (.int (0)), some (.int _), some (.int (3)), some (.int _), some (.int _), none]) (Nat.le_of_ble_eq_true rfl) rfl ?_
              refine g_iload_n m181_0 rfl ?_
              refine g_cs (args := [.int (0)]) (rest := []) 0 (Or.inl rfl) m181_1 (Nat.le_of_ble_eq_true rfl) rfl rfl (Nat.le_of_ble_eq_true rfl) ?_
              refine wp_in (L := [some (.int (0))]) (Nat.le_of_ble_eq_true rfl) rfl ?_
              refine g_iload_n m160_0 rfl ?_
              refine g_iconst m160_1 ?_
              refine g_iconst m160_2 ?_
              refine g_cs (args := [.int (0), .int (0), .int (3)]) (rest := []) 0 (Or.inl rfl) m160_3 (Nat.le_of_ble_eq_true rfl) rfl rfl (Nat.le_of_ble_eq_true rfl) ?_
              refine wp_in (L := [some (.int (0)), some (.int (0)), some (.int (3))]) (Nat.le_of_ble_eq_true rfl) rfl ?_
              refine g_iload_n m107_0 rfl ?_
              refine g_iload_n m107_1 rfl ?_
              refine g_ic_ltF m107_2 (by decide) ?_
              refine g_iload_n m107_5 rfl ?_
              refine g_iload_n m107_6 rfl ?_
              refine g_ic_gtF m107_7 (by decide) ?_
              refine g_iconst m107_10 ?_
              refine g_goto m107_11 ?_
              refine g_zret m107_15 rfl (Or.inr rfl) ?_
              refine gwst (st' := [.int (1)]) rfl ?_
              refine g_zret m160_6 rfl (Or.inr rfl) ?_
              refine gwst (st' := [.int (1)]) rfl ?_
              refine g_if_eqF m181_4 (by decide) ?_
              refine g_iload_n m181_7 rfl ?_
              refine g_cs (args := [.int (3)]) (rest := []) 0 (Or.inl rfl) m181_8 (Nat.le_of_ble_eq_true rfl) rfl rfl (Nat.le_of_ble_eq_true rfl) ?_
              refine wp_in (L := [some (.int (3))]) (Nat.le_of_ble_eq_true rfl) rfl ?_
              refine g_iload_n m160_0 rfl ?_
              refine g_iconst m160_1 ?_
              refine g_iconst m160_2 ?_
              refine g_cs (args := [.int (3), .int (0), .int (3)]) (rest := []) 0 (Or.inl rfl) m160_3 (Nat.le_of_ble_eq_true rfl) rfl rfl (Nat.le_of_ble_eq_true rfl) ?_
              refine wp_in (L := [some (.int (3)), some (.int (0)), some (.int (3))]) (Nat.le_of_ble_eq_true rfl) rfl ?_
              refine g_iload_n m107_0 rfl ?_
              refine g_iload_n m107_1 rfl ?_
              refine g_ic_ltF m107_2 (by decide) ?_
              refine g_iload_n m107_5 rfl ?_
              refine g_iload_n m107_6 rfl ?_
              refine g_ic_gtF m107_7 (by decide) ?_
              refine g_iconst m107_10 ?_
              refine g_goto m107_11 ?_
              refine g_zret m107_15 rfl (Or.inr rfl) ?_
              refine gwst (st' := [.int (1)]) rfl ?_
              refine g_zret m160_6 rfl (Or.inr rfl) ?_
              refine gwst (st' := [.int (1)]) rfl ?_
              refine g_if_neF m181_11 (by decide) ?_
              refine g_aload_n m181_21 rfl ?_
              refine g_gf m181_22 rfl rfl ?_
              refine g_iload_n m181_25 rfl ?_
              refine g_iald (x := (0 : Int32)) m181_26 rfl (vin rfl) rfl ?_
              refine g_if_eqT m181_27 (by decide) ?_
              refine g_aload_n m181_39 rfl ?_
              refine g_ldci m181_40 rfl ?_
              refine g_cv (args := [.int (-1000000002)]) (rest := []) m181_42 (Nat.le_of_ble_eq_true rfl) rfl rfl rfl (Nat.le_of_ble_eq_true rfl) ?_
              refine wp_in (L := [some (.ref 89), some (.int (-1000000002))]) (Nat.le_of_ble_eq_true rfl) rfl ?_
              refine g_aload_n m108_0 rfl ?_
              refine g_gf m108_1 rfl rfl ?_
              refine g_ldci m108_4 rfl ?_
              refine g_iload_n m108_6 rfl ?_
              refine g_isub (u := (2 : Int32)) m108_7 (by decide) ?_
              refine g_dup2 m108_8 rfl rfl ?_
              refine g_iald (x := (0 : Int32)) m108_9 rfl (vin rfl) rfl ?_
              refine g_iconst m108_10 ?_
              refine g_iadd (u := (1 : Int32)) m108_11 (by decide) ?_
              refine g_iast m108_12 (Nat.le_of_ble_eq_true rfl) rfl (vin rfl) rfl rfl rfl ?_
              refine g_iload_n m108_13 rfl ?_
              refine g_iret m108_14 rfl ?_
              refine gwst (st' := [.int (-1000000002)]) rfl ?_
              refine g_iret m181_45 rfl ?_
              refine gwst (st' := [.int (-1000000002), .int (-1000000002)]) rfl ?_
              refine g_ic_eqT m190_1269 (by decide) ?_
              refine g_iinc (x2 := (6 : Int32)) (L2 := [some (.ref 0), some (.ref 32), some (.ref 89), some (.int (6))]) m190_1428 rfl (by decide) rfl rfl ?_
              refine g_goto m190_1431 ?_
              refine g_iload_n m190_18 rfl ?_
              refine g_aload_n m190_19 rfl ?_
              refine g_alen (n := 6) m190_20 rfl (Or.inl rfl) rfl ?_
              refine g_bipush m190_21 ?_
              refine g_isub (u := (0 : Int32)) m190_23 (by decide) ?_
              refine g_ic_gtT m190_24 (by decide) ?_
              refine g_iconst m190_1434 ?_
              refine g_zret m190_1435 rfl (Or.inr rfl) ?_
              exact rfl
          · have x11q : s1 = (1 : Int32) := x11
            clear x11
            subst x11q
            refine g_aald m97_27 (Nat.le_of_ble_eq_true rfl) rfl (vin rfl) rfl ?_
            refine g_astore (L2 := [some (.ref 32), some (.int (1)), some (.int _), some (.int _), some (.int _), some (.int _), some (.ref 82), none]) m97_28 rfl rfl ?_
            refine g_aload_n m97_30 rfl ?_
            refine g_gf m97_31 rfl rfl ?_
            refine g_iload_n m97_34 rfl ?_
            obtain ⟨j15, e16, x17⟩ := nat_of (x := s3) (lo := 0) (hi := 3) (by omega) (by omega)
            rcases (show j15 = 0 ∨ j15 = 1 ∨ j15 = 2 ∨ j15 = 3 by omega) with rfl | rfl | rfl | rfl
            · have x17q : s3 = (0 : Int32) := x17
              clear x17
              subst x17q
              refine g_aald m97_35 (Nat.le_of_ble_eq_true rfl) rfl (vin rfl) rfl ?_
              refine g_astore (L2 := [some (.ref 32), some (.int (1)), some (.int _), some (.int (0)), some (.int _), some (.int _), some (.ref 82), some (.ref 80)]) m97_36 rfl rfl ?_
              refine g_aload m97_38 rfl ?_
              refine g_gf m97_40 rfl rfl ?_
              refine g_if_eqT m97_43 (by decide) ?_
              refine g_aload_n m97_54 rfl ?_
              refine g_iconst m97_55 ?_
              refine g_cv (args := [.int (2)]) (rest := []) m97_56 (Nat.le_of_ble_eq_true rfl) rfl rfl rfl (Nat.le_of_ble_eq_true rfl) ?_
              refine wp_in (L := [some (.ref 32), some (.int (2))]) (Nat.le_of_ble_eq_true rfl) rfl ?_
              refine g_aload_n m55_0 rfl ?_
              refine g_gf m55_1 rfl rfl ?_
              refine g_iload_n m55_4 rfl ?_
              refine g_dup2 m55_5 rfl rfl ?_
              refine g_iald (x := (0 : Int32)) m55_6 rfl (vin rfl) rfl ?_
              refine g_iconst m55_7 ?_
              refine g_iadd (u := (1 : Int32)) m55_8 (by decide) ?_
              refine g_iast m55_9 (Nat.le_of_ble_eq_true rfl) rfl (vin rfl) rfl rfl rfl ?_
              refine g_ldcw m55_10 ?_
              refine g_iload_n m55_13 rfl ?_
              refine g_isub (u := (-1000000002 : Int32)) m55_14 (by decide) ?_
              refine g_iret m55_15 rfl ?_
              refine gwst (st' := [.int (-1000000002)]) rfl ?_
              refine g_iret m97_59 rfl ?_
              refine gwst (st' := [.int (-1000000002)]) rfl ?_
              refine FRg rfl (fun f => ?_)
              refine g_aload_n m190_1240 rfl ?_
              refine g_aload_n m190_1241 rfl ?_
              refine g_iload_n m190_1242 rfl ?_
              refine g_iconst m190_1243 ?_
              refine g_iadd (u := (1 : Int32)) m190_1244 (by decide) ?_
              refine g_iald (x := (1 : Int32)) m190_1245 rfl (vin rfl) rfl ?_
              refine g_aload_n m190_1246 rfl ?_
              refine g_iload_n m190_1247 rfl ?_
              refine g_iconst m190_1248 ?_
              refine g_iadd (u := (2 : Int32)) m190_1249 (by decide) ?_
              refine g_iald (x := s2) m190_1250 rfl (vin rfl) rfl ?_
              refine g_aload_n m190_1251 rfl ?_
              refine g_iload_n m190_1252 rfl ?_
              refine g_iconst m190_1253 ?_
              refine g_iadd (u := (3 : Int32)) m190_1254 (by decide) ?_
              refine g_iald (x := (0 : Int32)) m190_1255 rfl (vin rfl) rfl ?_
              refine g_aload_n m190_1256 rfl ?_
              refine g_iload_n m190_1257 rfl ?_
              refine g_iconst m190_1258 ?_
              refine g_iadd (u := (4 : Int32)) m190_1259 (by decide) ?_
              refine g_iald (x := s4) m190_1260 rfl (vin rfl) rfl ?_
              refine g_aload_n m190_1261 rfl ?_
              refine g_iload_n m190_1262 rfl ?_
              refine g_iconst m190_1263 ?_
              refine g_iadd (u := (5 : Int32)) m190_1264 (by decide) ?_
              refine g_iald (x := s5) m190_1265 rfl (vin rfl) rfl ?_
              refine g_cv (args := [.int (1), .int _, .int (0), .int _, .int _]) (rest := [.int (-1000000002)]) m190_1266 (Nat.le_of_ble_eq_true rfl) rfl rfl rfl (Nat.le_of_ble_eq_true rfl) ?_
              refine wp_in (L := [some (.ref 89), some (.int (1)), some (.int _), some (.int (0)), some (.int _), some (.int _), none]) (Nat.le_of_ble_eq_true rfl) rfl ?_
              refine g_iload_n m181_0 rfl ?_
              refine g_cs (args := [.int (1)]) (rest := []) 0 (Or.inl rfl) m181_1 (Nat.le_of_ble_eq_true rfl) rfl rfl (Nat.le_of_ble_eq_true rfl) ?_
              refine wp_in (L := [some (.int (1))]) (Nat.le_of_ble_eq_true rfl) rfl ?_
              refine g_iload_n m160_0 rfl ?_
              refine g_iconst m160_1 ?_
              refine g_iconst m160_2 ?_
              refine g_cs (args := [.int (1), .int (0), .int (3)]) (rest := []) 0 (Or.inl rfl) m160_3 (Nat.le_of_ble_eq_true rfl) rfl rfl (Nat.le_of_ble_eq_true rfl) ?_
              refine wp_in (L := [some (.int (1)), some (.int (0)), some (.int (3))]) (Nat.le_of_ble_eq_true rfl) rfl ?_
              refine g_iload_n m107_0 rfl ?_
              refine g_iload_n m107_1 rfl ?_
              refine g_ic_ltF m107_2 (by decide) ?_
              refine g_iload_n m107_5 rfl ?_
              refine g_iload_n m107_6 rfl ?_
              refine g_ic_gtF m107_7 (by decide) ?_
              refine g_iconst m107_10 ?_
              refine g_goto m107_11 ?_
              refine g_zret m107_15 rfl (Or.inr rfl) ?_
              refine gwst (st' := [.int (1)]) rfl ?_
              refine g_zret m160_6 rfl (Or.inr rfl) ?_
              refine gwst (st' := [.int (1)]) rfl ?_
              refine g_if_eqF m181_4 (by decide) ?_
              refine g_iload_n m181_7 rfl ?_
              refine g_cs (args := [.int (0)]) (rest := []) 0 (Or.inl rfl) m181_8 (Nat.le_of_ble_eq_true rfl) rfl rfl (Nat.le_of_ble_eq_true rfl) ?_
              refine wp_in (L := [some (.int (0))]) (Nat.le_of_ble_eq_true rfl) rfl ?_
              refine g_iload_n m160_0 rfl ?_
              refine g_iconst m160_1 ?_
              refine g_iconst m160_2 ?_
              refine g_cs (args := [.int (0), .int (0), .int (3)]) (rest := []) 0 (Or.inl rfl) m160_3 (Nat.le_of_ble_eq_true rfl) rfl rfl (Nat.le_of_ble_eq_true rfl) ?_
              refine wp_in (L := [some (.int (0)), some (.int (0)), some (.int (3))]) (Nat.le_of_ble_eq_true rfl) rfl ?_
              refine g_iload_n m107_0 rfl ?_
              refine g_iload_n m107_1 rfl ?_
              refine g_ic_ltF m107_2 (by decide) ?_
              refine g_iload_n m107_5 rfl ?_
              refine g_iload_n m107_6 rfl ?_
              refine g_ic_gtF m107_7 (by decide) ?_
              refine g_iconst m107_10 ?_
              refine g_goto m107_11 ?_
              refine g_zret m107_15 rfl (Or.inr rfl) ?_
              refine gwst (st' := [.int (1)]) rfl ?_
              refine g_zret m160_6 rfl (Or.inr rfl) ?_
              refine gwst (st' := [.int (1)]) rfl ?_
              refine g_if_neF m181_11 (by decide) ?_
              refine g_aload_n m181_21 rfl ?_
              refine g_gf m181_22 rfl rfl ?_
              refine g_iload_n m181_25 rfl ?_
              refine g_iald (x := (0 : Int32)) m181_26 rfl (vin rfl) rfl ?_
              refine g_if_eqT m181_27 (by decide) ?_
              refine g_aload_n m181_39 rfl ?_
              refine g_ldci m181_40 rfl ?_
              refine g_cv (args := [.int (-1000000002)]) (rest := []) m181_42 (Nat.le_of_ble_eq_true rfl) rfl rfl rfl (Nat.le_of_ble_eq_true rfl) ?_
              refine wp_in (L := [some (.ref 89), some (.int (-1000000002))]) (Nat.le_of_ble_eq_true rfl) rfl ?_
              refine g_aload_n m108_0 rfl ?_
              refine g_gf m108_1 rfl rfl ?_
              refine g_ldci m108_4 rfl ?_
              refine g_iload_n m108_6 rfl ?_
              refine g_isub (u := (2 : Int32)) m108_7 (by decide) ?_
              refine g_dup2 m108_8 rfl rfl ?_
              refine g_iald (x := (0 : Int32)) m108_9 rfl (vin rfl) rfl ?_
              refine g_iconst m108_10 ?_
              refine g_iadd (u := (1 : Int32)) m108_11 (by decide) ?_
              refine g_iast m108_12 (Nat.le_of_ble_eq_true rfl) rfl (vin rfl) rfl rfl rfl ?_
              refine g_iload_n m108_13 rfl ?_
              refine g_iret m108_14 rfl ?_
              refine gwst (st' := [.int (-1000000002)]) rfl ?_
              refine g_iret m181_45 rfl ?_
              refine gwst (st' := [.int (-1000000002), .int (-1000000002)]) rfl ?_
              refine g_ic_eqT m190_1269 (by decide) ?_
              refine g_iinc (x2 := (6 : Int32)) (L2 := [some (.ref 0), some (.ref 32), some (.ref 89), some (.int (6))]) m190_1428 rfl (by decide) rfl rfl ?_
              refine g_goto m190_1431 ?_
              refine g_iload_n m190_18 rfl ?_
              refine g_aload_n m190_19 rfl ?_
              refine g_alen (n := 6) m190_20 rfl (Or.inl rfl) rfl ?_
              refine g_bipush m190_21 ?_
              refine g_isub (u := (0 : Int32)) m190_23 (by decide) ?_
              refine g_ic_gtT m190_24 (by decide) ?_
              refine g_iconst m190_1434 ?_
              refine g_zret m190_1435 rfl (Or.inr rfl) ?_
              exact rfl
            · have x17q : s3 = (1 : Int32) := x17
              clear x17
              subst x17q
              refine g_aald m97_35 (Nat.le_of_ble_eq_true rfl) rfl (vin rfl) rfl ?_
              refine g_astore (L2 := [some (.ref 32), some (.int (1)), some (.int _), some (.int (1)), some (.int _), some (.int _), some (.ref 82), some (.ref 82)]) m97_36 rfl rfl ?_
              refine g_aload m97_38 rfl ?_
              refine g_gf m97_40 rfl rfl ?_
              refine g_if_eqT m97_43 (by decide) ?_
              refine g_aload_n m97_54 rfl ?_
              refine g_iconst m97_55 ?_
              refine g_cv (args := [.int (2)]) (rest := []) m97_56 (Nat.le_of_ble_eq_true rfl) rfl rfl rfl (Nat.le_of_ble_eq_true rfl) ?_
              refine wp_in (L := [some (.ref 32), some (.int (2))]) (Nat.le_of_ble_eq_true rfl) rfl ?_
              refine g_aload_n m55_0 rfl ?_
              refine g_gf m55_1 rfl rfl ?_
              refine g_iload_n m55_4 rfl ?_
              refine g_dup2 m55_5 rfl rfl ?_
              refine g_iald (x := (0 : Int32)) m55_6 rfl (vin rfl) rfl ?_
              refine g_iconst m55_7 ?_
              refine g_iadd (u := (1 : Int32)) m55_8 (by decide) ?_
              refine g_iast m55_9 (Nat.le_of_ble_eq_true rfl) rfl (vin rfl) rfl rfl rfl ?_
              refine g_ldcw m55_10 ?_
              refine g_iload_n m55_13 rfl ?_
              refine g_isub (u := (-1000000002 : Int32)) m55_14 (by decide) ?_
              refine g_iret m55_15 rfl ?_
              refine gwst (st' := [.int (-1000000002)]) rfl ?_
              refine g_iret m97_59 rfl ?_
              refine gwst (st' := [.int (-1000000002)]) rfl ?_
              refine FRg rfl (fun f => ?_)
              refine g_aload_n m190_1240 rfl ?_
              refine g_aload_n m190_1241 rfl ?_
              refine g_iload_n m190_1242 rfl ?_
              refine g_iconst m190_1243 ?_
              refine g_iadd (u := (1 : Int32)) m190_1244 (by decide) ?_
              refine g_iald (x := (1 : Int32)) m190_1245 rfl (vin rfl) rfl ?_
              refine g_aload_n m190_1246 rfl ?_
              refine g_iload_n m190_1247 rfl ?_
              refine g_iconst m190_1248 ?_
              refine g_iadd (u := (2 : Int32)) m190_1249 (by decide) ?_
              refine g_iald (x := s2) m190_1250 rfl (vin rfl) rfl ?_
              refine g_aload_n m190_1251 rfl ?_
              refine g_iload_n m190_1252 rfl ?_
              refine g_iconst m190_1253 ?_
              refine g_iadd (u := (3 : Int32)) m190_1254 (by decide) ?_
              refine g_iald (x := (1 : Int32)) m190_1255 rfl (vin rfl) rfl ?_
              refine g_aload_n m190_1256 rfl ?_
              refine g_iload_n m190_1257 rfl ?_
              refine g_iconst m190_1258 ?_
              refine g_iadd (u := (4 : Int32)) m190_1259 (by decide) ?_
              refine g_iald (x := s4) m190_1260 rfl (vin rfl) rfl ?_
              refine g_aload_n m190_1261 rfl ?_
              refine g_iload_n m190_1262 rfl ?_
              refine g_iconst m190_1263 ?_
              refine g_iadd (u := (5 : Int32)) m190_1264 (by decide) ?_
              refine g_iald (x := s5) m190_1265 rfl (vin rfl) rfl ?_
              refine g_cv (args := [.int (1), .int _, .int (1), .int _, .int _]) (rest := [.int (-1000000002)]) m190_1266 (Nat.le_of_ble_eq_true rfl) rfl rfl rfl (Nat.le_of_ble_eq_true rfl) ?_
              refine wp_in (L := [some (.ref 89), some (.int (1)), some (.int _), some (.int (1)), some (.int _), some (.int _), none]) (Nat.le_of_ble_eq_true rfl) rfl ?_
              refine g_iload_n m181_0 rfl ?_
              refine g_cs (args := [.int (1)]) (rest := []) 0 (Or.inl rfl) m181_1 (Nat.le_of_ble_eq_true rfl) rfl rfl (Nat.le_of_ble_eq_true rfl) ?_
              refine wp_in (L := [some (.int (1))]) (Nat.le_of_ble_eq_true rfl) rfl ?_
              refine g_iload_n m160_0 rfl ?_
              refine g_iconst m160_1 ?_
              refine g_iconst m160_2 ?_
              refine g_cs (args := [.int (1), .int (0), .int (3)]) (rest := []) 0 (Or.inl rfl) m160_3 (Nat.le_of_ble_eq_true rfl) rfl rfl (Nat.le_of_ble_eq_true rfl) ?_
              refine wp_in (L := [some (.int (1)), some (.int (0)), some (.int (3))]) (Nat.le_of_ble_eq_true rfl) rfl ?_
              refine g_iload_n m107_0 rfl ?_
              refine g_iload_n m107_1 rfl ?_
              refine g_ic_ltF m107_2 (by decide) ?_
              refine g_iload_n m107_5 rfl ?_
              refine g_iload_n m107_6 rfl ?_
              refine g_ic_gtF m107_7 (by decide) ?_
              refine g_iconst m107_10 ?_
              refine g_goto m107_11 ?_
              refine g_zret m107_15 rfl (Or.inr rfl) ?_
              refine gwst (st' := [.int (1)]) rfl ?_
              refine g_zret m160_6 rfl (Or.inr rfl) ?_
              refine gwst (st' := [.int (1)]) rfl ?_
              refine g_if_eqF m181_4 (by decide) ?_
              refine g_iload_n m181_7 rfl ?_
              refine g_cs (args := [.int (1)]) (rest := []) 0 (Or.inl rfl) m181_8 (Nat.le_of_ble_eq_true rfl) rfl rfl (Nat.le_of_ble_eq_true rfl) ?_
              refine wp_in (L := [some (.int (1))]) (Nat.le_of_ble_eq_true rfl) rfl ?_
              refine g_iload_n m160_0 rfl ?_
              refine g_iconst m160_1 ?_
              refine g_iconst m160_2 ?_
              refine g_cs (args := [.int (1), .int (0), .int (3)]) (rest := []) 0 (Or.inl rfl) m160_3 (Nat.le_of_ble_eq_true rfl) rfl rfl (Nat.le_of_ble_eq_true rfl) ?_
              refine wp_in (L := [some (.int (1)), some (.int (0)), some (.int (3))]) (Nat.le_of_ble_eq_true rfl) rfl ?_
              refine g_iload_n m107_0 rfl ?_
              refine g_iload_n m107_1 rfl ?_
              refine g_ic_ltF m107_2 (by decide) ?_
              refine g_iload_n m107_5 rfl ?_
              refine g_iload_n m107_6 rfl ?_
              refine g_ic_gtF m107_7 (by decide) ?_
              refine g_iconst m107_10 ?_
              refine g_goto m107_11 ?_
              refine g_zret m107_15 rfl (Or.inr rfl) ?_
              refine gwst (st' := [.int (1)]) rfl ?_
              refine g_zret m160_6 rfl (Or.inr rfl) ?_
              refine gwst (st' := [.int (1)]) rfl ?_
              refine g_if_neF m181_11 (by decide) ?_
              refine g_aload_n m181_21 rfl ?_
              refine g_gf m181_22 rfl rfl ?_
              refine g_iload_n m181_25 rfl ?_
              refine g_iald (x := (0 : Int32)) m181_26 rfl (vin rfl) rfl ?_
              refine g_if_eqT m181_27 (by decide) ?_
              refine g_aload_n m181_39 rfl ?_
              refine g_ldci m181_40 rfl ?_
              refine g_cv (args := [.int (-1000000002)]) (rest := []) m181_42 (Nat.le_of_ble_eq_true rfl) rfl rfl rfl (Nat.le_of_ble_eq_true rfl) ?_
              refine wp_in (L := [some (.ref 89), some (.int (-1000000002))]) (Nat.le_of_ble_eq_true rfl) rfl ?_
              refine g_aload_n m108_0 rfl ?_
              refine g_gf m108_1 rfl rfl ?_
              refine g_ldci m108_4 rfl ?_
              refine g_iload_n m108_6 rfl ?_
              refine g_isub (u := (2 : Int32)) m108_7 (by decide) ?_
              refine g_dup2 m108_8 rfl rfl ?_
              refine g_iald (x := (0 : Int32)) m108_9 rfl (vin rfl) rfl ?_
              refine g_iconst m108_10 ?_
              refine g_iadd (u := (1 : Int32)) m108_11 (by decide) ?_
              refine g_iast m108_12 (Nat.le_of_ble_eq_true rfl) rfl (vin rfl) rfl rfl rfl ?_
              refine g_iload_n m108_13 rfl ?_
              refine g_iret m108_14 rfl ?_
              refine gwst (st' := [.int (-1000000002)]) rfl ?_
              refine g_iret m181_45 rfl ?_
              refine gwst (st' := [.int (-1000000002), .int (-1000000002)]) rfl ?_
              refine g_ic_eqT m190_1269 (by decide) ?_
              refine g_iinc (x2 := (6 : Int32)) (L2 := [some (.ref 0), some (.ref 32), some (.ref 89), some (.int (6))]) m190_1428 rfl (by decide) rfl rfl ?_
              refine g_goto m190_1431 ?_
              refine g_iload_n m190_18 rfl ?_
              refine g_aload_n m190_19 rfl ?_
              refine g_alen (n := 6) m190_20 rfl (Or.inl rfl) rfl ?_
              refine g_bipush m190_21 ?_
              refine g_isub (u := (0 : Int32)) m190_23 (by decide) ?_
              refine g_ic_gtT m190_24 (by decide) ?_
              refine g_iconst m190_1434 ?_
              refine g_zret m190_1435 rfl (Or.inr rfl) ?_
              exact rfl
            · have x17q : s3 = (2 : Int32) := x17
              clear x17
              subst x17q
              refine g_aald m97_35 (Nat.le_of_ble_eq_true rfl) rfl (vin rfl) rfl ?_
              refine g_astore (L2 := [some (.ref 32), some (.int (1)), some (.int _), some (.int (2)), some (.int _), some (.int _), some (.ref 82), some (.ref 84)]) m97_36 rfl rfl ?_
              refine g_aload m97_38 rfl ?_
              refine g_gf m97_40 rfl rfl ?_
              refine g_if_eqT m97_43 (by decide) ?_
              refine g_aload_n m97_54 rfl ?_
              refine g_iconst m97_55 ?_
              refine g_cv (args := [.int (2)]) (rest := []) m97_56 (Nat.le_of_ble_eq_true rfl) rfl rfl rfl (Nat.le_of_ble_eq_true rfl) ?_
              refine wp_in (L := [some (.ref 32), some (.int (2))]) (Nat.le_of_ble_eq_true rfl) rfl ?_
              refine g_aload_n m55_0 rfl ?_
              refine g_gf m55_1 rfl rfl ?_
              refine g_iload_n m55_4 rfl ?_
              refine g_dup2 m55_5 rfl rfl ?_
              refine g_iald (x := (0 : Int32)) m55_6 rfl (vin rfl) rfl ?_
              refine g_iconst m55_7 ?_
              refine g_iadd (u := (1 : Int32)) m55_8 (by decide) ?_
              refine g_iast m55_9 (Nat.le_of_ble_eq_true rfl) rfl (vin rfl) rfl rfl rfl ?_
              refine g_ldcw m55_10 ?_
              refine g_iload_n m55_13 rfl ?_
              refine g_isub (u := (-1000000002 : Int32)) m55_14 (by decide) ?_
              refine g_iret m55_15 rfl ?_
              refine gwst (st' := [.int (-1000000002)]) rfl ?_
              refine g_iret m97_59 rfl ?_
              refine gwst (st' := [.int (-1000000002)]) rfl ?_
              refine FRg rfl (fun f => ?_)
              refine g_aload_n m190_1240 rfl ?_
              refine g_aload_n m190_1241 rfl ?_
              refine g_iload_n m190_1242 rfl ?_
              refine g_iconst m190_1243 ?_
              refine g_iadd (u := (1 : Int32)) m190_1244 (by decide) ?_
              refine g_iald (x := (1 : Int32)) m190_1245 rfl (vin rfl) rfl ?_
              refine g_aload_n m190_1246 rfl ?_
              refine g_iload_n m190_1247 rfl ?_
              refine g_iconst m190_1248 ?_
              refine g_iadd (u := (2 : Int32)) m190_1249 (by decide) ?_
              refine g_iald (x := s2) m190_1250 rfl (vin rfl) rfl ?_
              refine g_aload_n m190_1251 rfl ?_
              refine g_iload_n m190_1252 rfl ?_
              refine g_iconst m190_1253 ?_
              refine g_iadd (u := (3 : Int32)) m190_1254 (by decide) ?_
              refine g_iald (x := (2 : Int32)) m190_1255 rfl (vin rfl) rfl ?_
              refine g_aload_n m190_1256 rfl ?_
              refine g_iload_n m190_1257 rfl ?_
              refine g_iconst m190_1258 ?_
              refine g_iadd (u := (4 : Int32)) m190_1259 (by decide) ?_
              refine g_iald (x := s4) m190_1260 rfl (vin rfl) rfl ?_
              refine g_aload_n m190_1261 rfl ?_
              refine g_iload_n m190_1262 rfl ?_
              refine g_iconst m190_1263 ?_
              refine g_iadd (u := (5 : Int32)) m190_1264 (by decide) ?_
              refine g_iald (x := s5) m190_1265 rfl (vin rfl) rfl ?_
              refine g_cv (args := [.int (1), .int _, .int (2), .int _, .int _]) (rest := [.int (-1000000002)]) m190_1266 (Nat.le_of_ble_eq_true rfl) rfl rfl rfl (Nat.le_of_ble_eq_true rfl) ?_
              refine wp_in (L := [some (.ref 89), some (.int (1)), some (.int _), some (.int (2)), some (.int _), some (.int _), none]) (Nat.le_of_ble_eq_true rfl) rfl ?_
              refine g_iload_n m181_0 rfl ?_
              refine g_cs (args := [.int (1)]) (rest := []) 0 (Or.inl rfl) m181_1 (Nat.le_of_ble_eq_true rfl) rfl rfl (Nat.le_of_ble_eq_true rfl) ?_
              refine wp_in (L := [some (.int (1))]) (Nat.le_of_ble_eq_true rfl) rfl ?_
              refine g_iload_n m160_0 rfl ?_
              refine g_iconst m160_1 ?_
              refine g_iconst m160_2 ?_
              refine g_cs (args := [.int (1), .int (0), .int (3)]) (rest := []) 0 (Or.inl rfl) m160_3 (Nat.le_of_ble_eq_true rfl) rfl rfl (Nat.le_of_ble_eq_true rfl) ?_
              refine wp_in (L := [some (.int (1)), some (.int (0)), some (.int (3))]) (Nat.le_of_ble_eq_true rfl) rfl ?_
              refine g_iload_n m107_0 rfl ?_
              refine g_iload_n m107_1 rfl ?_
              refine g_ic_ltF m107_2 (by decide) ?_
              refine g_iload_n m107_5 rfl ?_
              refine g_iload_n m107_6 rfl ?_
              refine g_ic_gtF m107_7 (by decide) ?_
              refine g_iconst m107_10 ?_
              refine g_goto m107_11 ?_
              refine g_zret m107_15 rfl (Or.inr rfl) ?_
              refine gwst (st' := [.int (1)]) rfl ?_
              refine g_zret m160_6 rfl (Or.inr rfl) ?_
              refine gwst (st' := [.int (1)]) rfl ?_
              refine g_if_eqF m181_4 (by decide) ?_
              refine g_iload_n m181_7 rfl ?_
              refine g_cs (args := [.int (2)]) (rest := []) 0 (Or.inl rfl) m181_8 (Nat.le_of_ble_eq_true rfl) rfl rfl (Nat.le_of_ble_eq_true rfl) ?_
              refine wp_in (L := [some (.int (2))]) (Nat.le_of_ble_eq_true rfl) rfl ?_
              refine g_iload_n m160_0 rfl ?_
              refine g_iconst m160_1 ?_
              refine g_iconst m160_2 ?_
              refine g_cs (args := [.int (2), .int (0), .int (3)]) (rest := []) 0 (Or.inl rfl) m160_3 (Nat.le_of_ble_eq_true rfl) rfl rfl (Nat.le_of_ble_eq_true rfl) ?_
              refine wp_in (L := [some (.int (2)), some (.int (0)), some (.int (3))]) (Nat.le_of_ble_eq_true rfl) rfl ?_
              refine g_iload_n m107_0 rfl ?_
              refine g_iload_n m107_1 rfl ?_
              refine g_ic_ltF m107_2 (by decide) ?_
              refine g_iload_n m107_5 rfl ?_
              refine g_iload_n m107_6 rfl ?_
              refine g_ic_gtF m107_7 (by decide) ?_
              refine g_iconst m107_10 ?_
              refine g_goto m107_11 ?_
              refine g_zret m107_15 rfl (Or.inr rfl) ?_
              refine gwst (st' := [.int (1)]) rfl ?_
              refine g_zret m160_6 rfl (Or.inr rfl) ?_
              refine gwst (st' := [.int (1)]) rfl ?_
              refine g_if_neF m181_11 (by decide) ?_
              refine g_aload_n m181_21 rfl ?_
              refine g_gf m181_22 rfl rfl ?_
              refine g_iload_n m181_25 rfl ?_
              refine g_iald (x := (0 : Int32)) m181_26 rfl (vin rfl) rfl ?_
              refine g_if_eqT m181_27 (by decide) ?_
              refine g_aload_n m181_39 rfl ?_
              refine g_ldci m181_40 rfl ?_
              refine g_cv (args := [.int (-1000000002)]) (rest := []) m181_42 (Nat.le_of_ble_eq_true rfl) rfl rfl rfl (Nat.le_of_ble_eq_true rfl) ?_
              refine wp_in (L := [some (.ref 89), some (.int (-1000000002))]) (Nat.le_of_ble_eq_true rfl) rfl ?_
              refine g_aload_n m108_0 rfl ?_
              refine g_gf m108_1 rfl rfl ?_
              refine g_ldci m108_4 rfl ?_
              refine g_iload_n m108_6 rfl ?_
              refine g_isub (u := (2 : Int32)) m108_7 (by decide) ?_
              refine g_dup2 m108_8 rfl rfl ?_
              refine g_iald (x := (0 : Int32)) m108_9 rfl (vin rfl) rfl ?_
              refine g_iconst m108_10 ?_
              refine g_iadd (u := (1 : Int32)) m108_11 (by decide) ?_
              refine g_iast m108_12 (Nat.le_of_ble_eq_true rfl) rfl (vin rfl) rfl rfl rfl ?_
              refine g_iload_n m108_13 rfl ?_
              refine g_iret m108_14 rfl ?_
              refine gwst (st' := [.int (-1000000002)]) rfl ?_
              refine g_iret m181_45 rfl ?_
              refine gwst (st' := [.int (-1000000002), .int (-1000000002)]) rfl ?_
              refine g_ic_eqT m190_1269 (by decide) ?_
              refine g_iinc (x2 := (6 : Int32)) (L2 := [some (.ref 0), some (.ref 32), some (.ref 89), some (.int (6))]) m190_1428 rfl (by decide) rfl rfl ?_
              refine g_goto m190_1431 ?_
              refine g_iload_n m190_18 rfl ?_
              refine g_aload_n m190_19 rfl ?_
              refine g_alen (n := 6) m190_20 rfl (Or.inl rfl) rfl ?_
              refine g_bipush m190_21 ?_
              refine g_isub (u := (0 : Int32)) m190_23 (by decide) ?_
              refine g_ic_gtT m190_24 (by decide) ?_
              refine g_iconst m190_1434 ?_
              refine g_zret m190_1435 rfl (Or.inr rfl) ?_
              exact rfl
            · have x17q : s3 = (3 : Int32) := x17
              clear x17
              subst x17q
              refine g_aald m97_35 (Nat.le_of_ble_eq_true rfl) rfl (vin rfl) rfl ?_
              refine g_astore (L2 := [some (.ref 32), some (.int (1)), some (.int _), some (.int (3)), some (.int _), some (.int _), some (.ref 82), some (.ref 86)]) m97_36 rfl rfl ?_
              refine g_aload m97_38 rfl ?_
              refine g_gf m97_40 rfl rfl ?_
              refine g_if_eqT m97_43 (by decide) ?_
              refine g_aload_n m97_54 rfl ?_
              refine g_iconst m97_55 ?_
              refine g_cv (args := [.int (2)]) (rest := []) m97_56 (Nat.le_of_ble_eq_true rfl) rfl rfl rfl (Nat.le_of_ble_eq_true rfl) ?_
              refine wp_in (L := [some (.ref 32), some (.int (2))]) (Nat.le_of_ble_eq_true rfl) rfl ?_
              refine g_aload_n m55_0 rfl ?_
              refine g_gf m55_1 rfl rfl ?_
              refine g_iload_n m55_4 rfl ?_
              refine g_dup2 m55_5 rfl rfl ?_
              refine g_iald (x := (0 : Int32)) m55_6 rfl (vin rfl) rfl ?_
              refine g_iconst m55_7 ?_
              refine g_iadd (u := (1 : Int32)) m55_8 (by decide) ?_
              refine g_iast m55_9 (Nat.le_of_ble_eq_true rfl) rfl (vin rfl) rfl rfl rfl ?_
              refine g_ldcw m55_10 ?_
              refine g_iload_n m55_13 rfl ?_
              refine g_isub (u := (-1000000002 : Int32)) m55_14 (by decide) ?_
              refine g_iret m55_15 rfl ?_
              refine gwst (st' := [.int (-1000000002)]) rfl ?_
              refine g_iret m97_59 rfl ?_
              refine gwst (st' := [.int (-1000000002)]) rfl ?_
              refine FRg rfl (fun f => ?_)
              refine g_aload_n m190_1240 rfl ?_
              refine g_aload_n m190_1241 rfl ?_
              refine g_iload_n m190_1242 rfl ?_
              refine g_iconst m190_1243 ?_
              refine g_iadd (u := (1 : Int32)) m190_1244 (by decide) ?_
              refine g_iald (x := (1 : Int32)) m190_1245 rfl (vin rfl) rfl ?_
              refine g_aload_n m190_1246 rfl ?_
              refine g_iload_n m190_1247 rfl ?_
              refine g_iconst m190_1248 ?_
              refine g_iadd (u := (2 : Int32)) m190_1249 (by decide) ?_
              refine g_iald (x := s2) m190_1250 rfl (vin rfl) rfl ?_
              refine g_aload_n m190_1251 rfl ?_
              refine g_iload_n m190_1252 rfl ?_
              refine g_iconst m190_1253 ?_
              refine g_iadd (u := (3 : Int32)) m190_1254 (by decide) ?_
              refine g_iald (x := (3 : Int32)) m190_1255 rfl (vin rfl) rfl ?_
              refine g_aload_n m190_1256 rfl ?_
              refine g_iload_n m190_1257 rfl ?_
              refine g_iconst m190_1258 ?_
              refine g_iadd (u := (4 : Int32)) m190_1259 (by decide) ?_
              refine g_iald (x := s4) m190_1260 rfl (vin rfl) rfl ?_
              refine g_aload_n m190_1261 rfl ?_
              refine g_iload_n m190_1262 rfl ?_
              refine g_iconst m190_1263 ?_
              refine g_iadd (u := (5 : Int32)) m190_1264 (by decide) ?_
              refine g_iald (x := s5) m190_1265 rfl (vin rfl) rfl ?_
              refine g_cv (args := [.int (1), .int _, .int (3), .int _, .int _]) (rest := [.int (-1000000002)]) m190_1266 (Nat.le_of_ble_eq_true rfl) rfl rfl rfl (Nat.le_of_ble_eq_true rfl) ?_
              refine wp_in (L := [some (.ref 89), some (.int (1)), some (.int _), some (.int (3)), some (.int _), some (.int _), none]) (Nat.le_of_ble_eq_true rfl) rfl ?_
              refine g_iload_n m181_0 rfl ?_
              refine g_cs (args := [.int (1)]) (rest := []) 0 (Or.inl rfl) m181_1 (Nat.le_of_ble_eq_true rfl) rfl rfl (Nat.le_of_ble_eq_true rfl) ?_
              refine wp_in (L := [some (.int (1))]) (Nat.le_of_ble_eq_true rfl) rfl ?_
              refine g_iload_n m160_0 rfl ?_
              refine g_iconst m160_1 ?_
              refine g_iconst m160_2 ?_
              refine g_cs (args := [.int (1), .int (0), .int (3)]) (rest := []) 0 (Or.inl rfl) m160_3 (Nat.le_of_ble_eq_true rfl) rfl rfl (Nat.le_of_ble_eq_true rfl) ?_
              refine wp_in (L := [some (.int (1)), some (.int (0)), some (.int (3))]) (Nat.le_of_ble_eq_true rfl) rfl ?_
              refine g_iload_n m107_0 rfl ?_
              refine g_iload_n m107_1 rfl ?_
              refine g_ic_ltF m107_2 (by decide) ?_
              refine g_iload_n m107_5 rfl ?_
              refine g_iload_n m107_6 rfl ?_
              refine g_ic_gtF m107_7 (by decide) ?_
              refine g_iconst m107_10 ?_
              refine g_goto m107_11 ?_
              refine g_zret m107_15 rfl (Or.inr rfl) ?_
              refine gwst (st' := [.int (1)]) rfl ?_
              refine g_zret m160_6 rfl (Or.inr rfl) ?_
              refine gwst (st' := [.int (1)]) rfl ?_
              refine g_if_eqF m181_4 (by decide) ?_
              refine g_iload_n m181_7 rfl ?_
              refine g_cs (args := [.int (3)]) (rest := []) 0 (Or.inl rfl) m181_8 (Nat.le_of_ble_eq_true rfl) rfl rfl (Nat.le_of_ble_eq_true rfl) ?_
              refine wp_in (L := [some (.int (3))]) (Nat.le_of_ble_eq_true rfl) rfl ?_
              refine g_iload_n m160_0 rfl ?_
              refine g_iconst m160_1 ?_
              refine g_iconst m160_2 ?_
              refine g_cs (args := [.int (3), .int (0), .int (3)]) (rest := []) 0 (Or.inl rfl) m160_3 (Nat.le_of_ble_eq_true rfl) rfl rfl (Nat.le_of_ble_eq_true rfl) ?_
              refine wp_in (L := [some (.int (3)), some (.int (0)), some (.int (3))]) (Nat.le_of_ble_eq_true rfl) rfl ?_
              refine g_iload_n m107_0 rfl ?_
              refine g_iload_n m107_1 rfl ?_
              refine g_ic_ltF m107_2 (by decide) ?_
              refine g_iload_n m107_5 rfl ?_
              refine g_iload_n m107_6 rfl ?_
              refine g_ic_gtF m107_7 (by decide) ?_
              refine g_iconst m107_10 ?_
              refine g_goto m107_11 ?_
              refine g_zret m107_15 rfl (Or.inr rfl) ?_
              refine gwst (st' := [.int (1)]) rfl ?_
              refine g_zret m160_6 rfl (Or.inr rfl) ?_
              refine gwst (st' := [.int (1)]) rfl ?_
              refine g_if_neF m181_11 (by decide) ?_
              refine g_aload_n m181_21 rfl ?_
              refine g_gf m181_22 rfl rfl ?_
              refine g_iload_n m181_25 rfl ?_
              refine g_iald (x := (0 : Int32)) m181_26 rfl (vin rfl) rfl ?_
              refine g_if_eqT m181_27 (by decide) ?_
              refine g_aload_n m181_39 rfl ?_
              refine g_ldci m181_40 rfl ?_
              refine g_cv (args := [.int (-1000000002)]) (rest := []) m181_42 (Nat.le_of_ble_eq_true rfl) rfl rfl rfl (Nat.le_of_ble_eq_true rfl) ?_
              refine wp_in (L := [some (.ref 89), some (.int (-1000000002))]) (Nat.le_of_ble_eq_true rfl) rfl ?_
              refine g_aload_n m108_0 rfl ?_
              refine g_gf m108_1 rfl rfl ?_
              refine g_ldci m108_4 rfl ?_
              refine g_iload_n m108_6 rfl ?_
              refine g_isub (u := (2 : Int32)) m108_7 (by decide) ?_
              refine g_dup2 m108_8 rfl rfl ?_
              refine g_iald (x := (0 : Int32)) m108_9 rfl (vin rfl) rfl ?_
              refine g_iconst m108_10 ?_
              refine g_iadd (u := (1 : Int32)) m108_11 (by decide) ?_
              refine g_iast m108_12 (Nat.le_of_ble_eq_true rfl) rfl (vin rfl) rfl rfl rfl ?_
              refine g_iload_n m108_13 rfl ?_
              refine g_iret m108_14 rfl ?_
              refine gwst (st' := [.int (-1000000002)]) rfl ?_
              refine g_iret m181_45 rfl ?_
              refine gwst (st' := [.int (-1000000002), .int (-1000000002)]) rfl ?_
              refine g_ic_eqT m190_1269 (by decide) ?_
              refine g_iinc (x2 := (6 : Int32)) (L2 := [some (.ref 0), some (.ref 32), some (.ref 89), some (.int (6))]) m190_1428 rfl (by decide) rfl rfl ?_
              refine g_goto m190_1431 ?_
              refine g_iload_n m190_18 rfl ?_
              refine g_aload_n m190_19 rfl ?_
              refine g_alen (n := 6) m190_20 rfl (Or.inl rfl) rfl ?_
              refine g_bipush m190_21 ?_
              refine g_isub (u := (0 : Int32)) m190_23 (by decide) ?_
              refine g_ic_gtT m190_24 (by decide) ?_
              refine g_iconst m190_1434 ?_
              refine g_zret m190_1435 rfl (Or.inr rfl) ?_
              exact rfl
          · have x11q : s1 = (2 : Int32) := x11
            clear x11
            subst x11q
            refine g_aald m97_27 (Nat.le_of_ble_eq_true rfl) rfl (vin rfl) rfl ?_
            refine g_astore (L2 := [some (.ref 32), some (.int (2)), some (.int _), some (.int _), some (.int _), some (.int _), some (.ref 84), none]) m97_28 rfl rfl ?_
            refine g_aload_n m97_30 rfl ?_
            refine g_gf m97_31 rfl rfl ?_
            refine g_iload_n m97_34 rfl ?_
            obtain ⟨j18, e19, x20⟩ := nat_of (x := s3) (lo := 0) (hi := 3) (by omega) (by omega)
            rcases (show j18 = 0 ∨ j18 = 1 ∨ j18 = 2 ∨ j18 = 3 by omega) with rfl | rfl | rfl | rfl
            · have x20q : s3 = (0 : Int32) := x20
              clear x20
              subst x20q
              refine g_aald m97_35 (Nat.le_of_ble_eq_true rfl) rfl (vin rfl) rfl ?_
              refine g_astore (L2 := [some (.ref 32), some (.int (2)), some (.int _), some (.int (0)), some (.int _), some (.int _), some (.ref 84), some (.ref 80)]) m97_36 rfl rfl ?_
              refine g_aload m97_38 rfl ?_
              refine g_gf m97_40 rfl rfl ?_
              refine g_if_eqT m97_43 (by decide) ?_
              refine g_aload_n m97_54 rfl ?_
              refine g_iconst m97_55 ?_
              refine g_cv (args := [.int (2)]) (rest := []) m97_56 (Nat.le_of_ble_eq_true rfl) rfl rfl rfl (Nat.le_of_ble_eq_true rfl) ?_
              refine wp_in (L := [some (.ref 32), some (.int (2))]) (Nat.le_of_ble_eq_true rfl) rfl ?_
              refine g_aload_n m55_0 rfl ?_
              refine g_gf m55_1 rfl rfl ?_
              refine g_iload_n m55_4 rfl ?_
              refine g_dup2 m55_5 rfl rfl ?_
              refine g_iald (x := (0 : Int32)) m55_6 rfl (vin rfl) rfl ?_
              refine g_iconst m55_7 ?_
              refine g_iadd (u := (1 : Int32)) m55_8 (by decide) ?_
              refine g_iast m55_9 (Nat.le_of_ble_eq_true rfl) rfl (vin rfl) rfl rfl rfl ?_
              refine g_ldcw m55_10 ?_
              refine g_iload_n m55_13 rfl ?_
              refine g_isub (u := (-1000000002 : Int32)) m55_14 (by decide) ?_
              refine g_iret m55_15 rfl ?_
              refine gwst (st' := [.int (-1000000002)]) rfl ?_
              refine g_iret m97_59 rfl ?_
              refine gwst (st' := [.int (-1000000002)]) rfl ?_
              refine FRg rfl (fun f => ?_)
              refine g_aload_n m190_1240 rfl ?_
              refine g_aload_n m190_1241 rfl ?_
              refine g_iload_n m190_1242 rfl ?_
              refine g_iconst m190_1243 ?_
              refine g_iadd (u := (1 : Int32)) m190_1244 (by decide) ?_
              refine g_iald (x := (2 : Int32)) m190_1245 rfl (vin rfl) rfl ?_
              refine g_aload_n m190_1246 rfl ?_
              refine g_iload_n m190_1247 rfl ?_
              refine g_iconst m190_1248 ?_
              refine g_iadd (u := (2 : Int32)) m190_1249 (by decide) ?_
              refine g_iald (x := s2) m190_1250 rfl (vin rfl) rfl ?_
              refine g_aload_n m190_1251 rfl ?_
              refine g_iload_n m190_1252 rfl ?_
              refine g_iconst m190_1253 ?_
              refine g_iadd (u := (3 : Int32)) m190_1254 (by decide) ?_
              refine g_iald (x := (0 : Int32)) m190_1255 rfl (vin rfl) rfl ?_
              refine g_aload_n m190_1256 rfl ?_
              refine g_iload_n m190_1257 rfl ?_
              refine g_iconst m190_1258 ?_
              refine g_iadd (u := (4 : Int32)) m190_1259 (by decide) ?_
              refine g_iald (x := s4) m190_1260 rfl (vin rfl) rfl ?_
              refine g_aload_n m190_1261 rfl ?_
              refine g_iload_n m190_1262 rfl ?_
              refine g_iconst m190_1263 ?_
              refine g_iadd (u := (5 : Int32)) m190_1264 (by decide) ?_
              refine g_iald (x := s5) m190_1265 rfl (vin rfl) rfl ?_
              refine g_cv (args := [.int (2), .int _, .int (0), .int _, .int _]) (rest := [.int (-1000000002)]) m190_1266 (Nat.le_of_ble_eq_true rfl) rfl rfl rfl (Nat.le_of_ble_eq_true rfl) ?_
              refine wp_in (L := [some (.ref 89), some (.int (2)), some (.int _), some (.int (0)), some (.int _), some (.int _), none]) (Nat.le_of_ble_eq_true rfl) rfl ?_
              refine g_iload_n m181_0 rfl ?_
              refine g_cs (args := [.int (2)]) (rest := []) 0 (Or.inl rfl) m181_1 (Nat.le_of_ble_eq_true rfl) rfl rfl (Nat.le_of_ble_eq_true rfl) ?_
              refine wp_in (L := [some (.int (2))]) (Nat.le_of_ble_eq_true rfl) rfl ?_
              refine g_iload_n m160_0 rfl ?_
              refine g_iconst m160_1 ?_
              refine g_iconst m160_2 ?_
              refine g_cs (args := [.int (2), .int (0), .int (3)]) (rest := []) 0 (Or.inl rfl) m160_3 (Nat.le_of_ble_eq_true rfl) rfl rfl (Nat.le_of_ble_eq_true rfl) ?_
              refine wp_in (L := [some (.int (2)), some (.int (0)), some (.int (3))]) (Nat.le_of_ble_eq_true rfl) rfl ?_
              refine g_iload_n m107_0 rfl ?_
              refine g_iload_n m107_1 rfl ?_
              refine g_ic_ltF m107_2 (by decide) ?_
              refine g_iload_n m107_5 rfl ?_
              refine g_iload_n m107_6 rfl ?_
              refine g_ic_gtF m107_7 (by decide) ?_
              refine g_iconst m107_10 ?_
              refine g_goto m107_11 ?_
              refine g_zret m107_15 rfl (Or.inr rfl) ?_
              refine gwst (st' := [.int (1)]) rfl ?_
              refine g_zret m160_6 rfl (Or.inr rfl) ?_
              refine gwst (st' := [.int (1)]) rfl ?_
              refine g_if_eqF m181_4 (by decide) ?_
              refine g_iload_n m181_7 rfl ?_
              refine g_cs (args := [.int (0)]) (rest := []) 0 (Or.inl rfl) m181_8 (Nat.le_of_ble_eq_true rfl) rfl rfl (Nat.le_of_ble_eq_true rfl) ?_
              refine wp_in (L := [some (.int (0))]) (Nat.le_of_ble_eq_true rfl) rfl ?_
              refine g_iload_n m160_0 rfl ?_
              refine g_iconst m160_1 ?_
              refine g_iconst m160_2 ?_
              refine g_cs (args := [.int (0), .int (0), .int (3)]) (rest := []) 0 (Or.inl rfl) m160_3 (Nat.le_of_ble_eq_true rfl) rfl rfl (Nat.le_of_ble_eq_true rfl) ?_
              refine wp_in (L := [some (.int (0)), some (.int (0)), some (.int (3))]) (Nat.le_of_ble_eq_true rfl) rfl ?_
              refine g_iload_n m107_0 rfl ?_
              refine g_iload_n m107_1 rfl ?_
              refine g_ic_ltF m107_2 (by decide) ?_
              refine g_iload_n m107_5 rfl ?_
              refine g_iload_n m107_6 rfl ?_
              refine g_ic_gtF m107_7 (by decide) ?_
              refine g_iconst m107_10 ?_
              refine g_goto m107_11 ?_
              refine g_zret m107_15 rfl (Or.inr rfl) ?_
              refine gwst (st' := [.int (1)]) rfl ?_
              refine g_zret m160_6 rfl (Or.inr rfl) ?_
              refine gwst (st' := [.int (1)]) rfl ?_
              refine g_if_neF m181_11 (by decide) ?_
              refine g_aload_n m181_21 rfl ?_
              refine g_gf m181_22 rfl rfl ?_
              refine g_iload_n m181_25 rfl ?_
              refine g_iald (x := (0 : Int32)) m181_26 rfl (vin rfl) rfl ?_
              refine g_if_eqT m181_27 (by decide) ?_
              refine g_aload_n m181_39 rfl ?_
              refine g_ldci m181_40 rfl ?_
              refine g_cv (args := [.int (-1000000002)]) (rest := []) m181_42 (Nat.le_of_ble_eq_true rfl) rfl rfl rfl (Nat.le_of_ble_eq_true rfl) ?_
              refine wp_in (L := [some (.ref 89), some (.int (-1000000002))]) (Nat.le_of_ble_eq_true rfl) rfl ?_
              refine g_aload_n m108_0 rfl ?_
              refine g_gf m108_1 rfl rfl ?_
              refine g_ldci m108_4 rfl ?_
              refine g_iload_n m108_6 rfl ?_
              refine g_isub (u := (2 : Int32)) m108_7 (by decide) ?_
              refine g_dup2 m108_8 rfl rfl ?_
              refine g_iald (x := (0 : Int32)) m108_9 rfl (vin rfl) rfl ?_
              refine g_iconst m108_10 ?_
              refine g_iadd (u := (1 : Int32)) m108_11 (by decide) ?_
              refine g_iast m108_12 (Nat.le_of_ble_eq_true rfl) rfl (vin rfl) rfl rfl rfl ?_
              refine g_iload_n m108_13 rfl ?_
              refine g_iret m108_14 rfl ?_
              refine gwst (st' := [.int (-1000000002)]) rfl ?_
              refine g_iret m181_45 rfl ?_
              refine gwst (st' := [.int (-1000000002), .int (-1000000002)]) rfl ?_
              refine g_ic_eqT m190_1269 (by decide) ?_
              refine g_iinc (x2 := (6 : Int32)) (L2 := [some (.ref 0), some (.ref 32), some (.ref 89), some (.int (6))]) m190_1428 rfl (by decide) rfl rfl ?_
              refine g_goto m190_1431 ?_
              refine g_iload_n m190_18 rfl ?_
              refine g_aload_n m190_19 rfl ?_
              refine g_alen (n := 6) m190_20 rfl (Or.inl rfl) rfl ?_
              refine g_bipush m190_21 ?_
              refine g_isub (u := (0 : Int32)) m190_23 (by decide) ?_
              refine g_ic_gtT m190_24 (by decide) ?_
              refine g_iconst m190_1434 ?_
              refine g_zret m190_1435 rfl (Or.inr rfl) ?_
              exact rfl
            · have x20q : s3 = (1 : Int32) := x20
              clear x20
              subst x20q
              refine g_aald m97_35 (Nat.le_of_ble_eq_true rfl) rfl (vin rfl) rfl ?_
              refine g_astore (L2 := [some (.ref 32), some (.int (2)), some (.int _), some (.int (1)), some (.int _), some (.int _), some (.ref 84), some (.ref 82)]) m97_36 rfl rfl ?_
              refine g_aload m97_38 rfl ?_
              refine g_gf m97_40 rfl rfl ?_
              refine g_if_eqT m97_43 (by decide) ?_
              refine g_aload_n m97_54 rfl ?_
              refine g_iconst m97_55 ?_
              refine g_cv (args := [.int (2)]) (rest := []) m97_56 (Nat.le_of_ble_eq_true rfl) rfl rfl rfl (Nat.le_of_ble_eq_true rfl) ?_
              refine wp_in (L := [some (.ref 32), some (.int (2))]) (Nat.le_of_ble_eq_true rfl) rfl ?_
              refine g_aload_n m55_0 rfl ?_
              refine g_gf m55_1 rfl rfl ?_
              refine g_iload_n m55_4 rfl ?_
              refine g_dup2 m55_5 rfl rfl ?_
              refine g_iald (x := (0 : Int32)) m55_6 rfl (vin rfl) rfl ?_
              refine g_iconst m55_7 ?_
              refine g_iadd (u := (1 : Int32)) m55_8 (by decide) ?_
              refine g_iast m55_9 (Nat.le_of_ble_eq_true rfl) rfl (vin rfl) rfl rfl rfl ?_
              refine g_ldcw m55_10 ?_
              refine g_iload_n m55_13 rfl ?_
              refine g_isub (u := (-1000000002 : Int32)) m55_14 (by decide) ?_
              refine g_iret m55_15 rfl ?_
              refine gwst (st' := [.int (-1000000002)]) rfl ?_
              refine g_iret m97_59 rfl ?_
              refine gwst (st' := [.int (-1000000002)]) rfl ?_
              refine FRg rfl (fun f => ?_)
              refine g_aload_n m190_1240 rfl ?_
              refine g_aload_n m190_1241 rfl ?_
              refine g_iload_n m190_1242 rfl ?_
              refine g_iconst m190_1243 ?_
              refine g_iadd (u := (1 : Int32)) m190_1244 (by decide) ?_
              refine g_iald (x := (2 : Int32)) m190_1245 rfl (vin rfl) rfl ?_
              refine g_aload_n m190_1246 rfl ?_
              refine g_iload_n m190_1247 rfl ?_
              refine g_iconst m190_1248 ?_
              refine g_iadd (u := (2 : Int32)) m190_1249 (by decide) ?_
              refine g_iald (x := s2) m190_1250 rfl (vin rfl) rfl ?_
              refine g_aload_n m190_1251 rfl ?_
              refine g_iload_n m190_1252 rfl ?_
              refine g_iconst m190_1253 ?_
              refine g_iadd (u := (3 : Int32)) m190_1254 (by decide) ?_
              refine g_iald (x := (1 : Int32)) m190_1255 rfl (vin rfl) rfl ?_
              refine g_aload_n m190_1256 rfl ?_
              refine g_iload_n m190_1257 rfl ?_
              refine g_iconst m190_1258 ?_
              refine g_iadd (u := (4 : Int32)) m190_1259 (by decide) ?_
              refine g_iald (x := s4) m190_1260 rfl (vin rfl) rfl ?_
              refine g_aload_n m190_1261 rfl ?_
              refine g_iload_n m190_1262 rfl ?_
              refine g_iconst m190_1263 ?_
              refine g_iadd (u := (5 : Int32)) m190_1264 (by decide) ?_
              refine g_iald (x := s5) m190_1265 rfl (vin rfl) rfl ?_
              refine g_cv (args := [.int (2), .int _, .int (1), .int _, .int _]) (rest := [.int (-1000000002)]) m190_1266 (Nat.le_of_ble_eq_true rfl) rfl rfl rfl (Nat.le_of_ble_eq_true rfl) ?_
              refine wp_in (L := [some (.ref 89), some (.int (2)), some (.int _), some (.int (1)), some (.int _), some (.int _), none]) (Nat.le_of_ble_eq_true rfl) rfl ?_
              refine g_iload_n m181_0 rfl ?_
              refine g_cs (args := [.int (2)]) (rest := []) 0 (Or.inl rfl) m181_1 (Nat.le_of_ble_eq_true rfl) rfl rfl (Nat.le_of_ble_eq_true rfl) ?_
              refine wp_in (L := [some (.int (2))]) (Nat.le_of_ble_eq_true rfl) rfl ?_
              refine g_iload_n m160_0 rfl ?_
              refine g_iconst m160_1 ?_
              refine g_iconst m160_2 ?_
              refine g_cs (args := [.int (2), .int (0), .int (3)]) (rest := []) 0 (Or.inl rfl) m160_3 (Nat.le_of_ble_eq_true rfl) rfl rfl (Nat.le_of_ble_eq_true rfl) ?_
              refine wp_in (L := [some (.int (2)), some (.int (0)), some (.int (3))]) (Nat.le_of_ble_eq_true rfl) rfl ?_
              refine g_iload_n m107_0 rfl ?_
              refine g_iload_n m107_1 rfl ?_
              refine g_ic_ltF m107_2 (by decide) ?_
              refine g_iload_n m107_5 rfl ?_
              refine g_iload_n m107_6 rfl ?_
              refine g_ic_gtF m107_7 (by decide) ?_
              refine g_iconst m107_10 ?_
              refine g_goto m107_11 ?_
              refine g_zret m107_15 rfl (Or.inr rfl) ?_
              refine gwst (st' := [.int (1)]) rfl ?_
              refine g_zret m160_6 rfl (Or.inr rfl) ?_
              refine gwst (st' := [.int (1)]) rfl ?_
              refine g_if_eqF m181_4 (by decide) ?_
              refine g_iload_n m181_7 rfl ?_
              refine g_cs (args := [.int (1)]) (rest := []) 0 (Or.inl rfl) m181_8 (Nat.le_of_ble_eq_true rfl) rfl rfl (Nat.le_of_ble_eq_true rfl) ?_
              refine wp_in (L := [some (.int (1))]) (Nat.le_of_ble_eq_true rfl) rfl ?_
              refine g_iload_n m160_0 rfl ?_
              refine g_iconst m160_1 ?_
              refine g_iconst m160_2 ?_
              refine g_cs (args := [.int (1), .int (0), .int (3)]) (rest := []) 0 (Or.inl rfl) m160_3 (Nat.le_of_ble_eq_true rfl) rfl rfl (Nat.le_of_ble_eq_true rfl) ?_
              refine wp_in (L := [some (.int (1)), some (.int (0)), some (.int (3))]) (Nat.le_of_ble_eq_true rfl) rfl ?_
              refine g_iload_n m107_0 rfl ?_
              refine g_iload_n m107_1 rfl ?_
              refine g_ic_ltF m107_2 (by decide) ?_
              refine g_iload_n m107_5 rfl ?_
              refine g_iload_n m107_6 rfl ?_
              refine g_ic_gtF m107_7 (by decide) ?_
              refine g_iconst m107_10 ?_
              refine g_goto m107_11 ?_
              refine g_zret m107_15 rfl (Or.inr rfl) ?_
              refine gwst (st' := [.int (1)]) rfl ?_
              refine g_zret m160_6 rfl (Or.inr rfl) ?_
              refine gwst (st' := [.int (1)]) rfl ?_
              refine g_if_neF m181_11 (by decide) ?_
              refine g_aload_n m181_21 rfl ?_
              refine g_gf m181_22 rfl rfl ?_
              refine g_iload_n m181_25 rfl ?_
              refine g_iald (x := (0 : Int32)) m181_26 rfl (vin rfl) rfl ?_
              refine g_if_eqT m181_27 (by decide) ?_
              refine g_aload_n m181_39 rfl ?_
              refine g_ldci m181_40 rfl ?_
              refine g_cv (args := [.int (-1000000002)]) (rest := []) m181_42 (Nat.le_of_ble_eq_true rfl) rfl rfl rfl (Nat.le_of_ble_eq_true rfl) ?_
              refine wp_in (L := [some (.ref 89), some (.int (-1000000002))]) (Nat.le_of_ble_eq_true rfl) rfl ?_
              refine g_aload_n m108_0 rfl ?_
              refine g_gf m108_1 rfl rfl ?_
              refine g_ldci m108_4 rfl ?_
              refine g_iload_n m108_6 rfl ?_
              refine g_isub (u := (2 : Int32)) m108_7 (by decide) ?_
              refine g_dup2 m108_8 rfl rfl ?_
              refine g_iald (x := (0 : Int32)) m108_9 rfl (vin rfl) rfl ?_
              refine g_iconst m108_10 ?_
              refine g_iadd (u := (1 : Int32)) m108_11 (by decide) ?_
              refine g_iast m108_12 (Nat.le_of_ble_eq_true rfl) rfl (vin rfl) rfl rfl rfl ?_
              refine g_iload_n m108_13 rfl ?_
              refine g_iret m108_14 rfl ?_
              refine gwst (st' := [.int (-1000000002)]) rfl ?_
              refine g_iret m181_45 rfl ?_
              refine gwst (st' := [.int (-1000000002), .int (-1000000002)]) rfl ?_
              refine g_ic_eqT m190_1269 (by decide) ?_
              refine g_iinc (x2 := (6 : Int32)) (L2 := [some (.ref 0), some (.ref 32), some (.ref 89), some (.int (6))]) m190_1428 rfl (by decide) rfl rfl ?_
              refine g_goto m190_1431 ?_
              refine g_iload_n m190_18 rfl ?_
              refine g_aload_n m190_19 rfl ?_
              refine g_alen (n := 6) m190_20 rfl (Or.inl rfl) rfl ?_
              refine g_bipush m190_21 ?_
              refine g_isub (u := (0 : Int32)) m190_23 (by decide) ?_
              refine g_ic_gtT m190_24 (by decide) ?_
              refine g_iconst m190_1434 ?_
              refine g_zret m190_1435 rfl (Or.inr rfl) ?_
              exact rfl
            · have x20q : s3 = (2 : Int32) := x20
              clear x20
              subst x20q
              refine g_aald m97_35 (Nat.le_of_ble_eq_true rfl) rfl (vin rfl) rfl ?_
              refine g_astore (L2 := [some (.ref 32), some (.int (2)), some (.int _), some (.int (2)), some (.int _), some (.int _), some (.ref 84), some (.ref 84)]) m97_36 rfl rfl ?_
              refine g_aload m97_38 rfl ?_
              refine g_gf m97_40 rfl rfl ?_
              refine g_if_eqT m97_43 (by decide) ?_
              refine g_aload_n m97_54 rfl ?_
              refine g_iconst m97_55 ?_
              refine g_cv (args := [.int (2)]) (rest := []) m97_56 (Nat.le_of_ble_eq_true rfl) rfl rfl rfl (Nat.le_of_ble_eq_true rfl) ?_
              refine wp_in (L := [some (.ref 32), some (.int (2))]) (Nat.le_of_ble_eq_true rfl) rfl ?_
              refine g_aload_n m55_0 rfl ?_
              refine g_gf m55_1 rfl rfl ?_
              refine g_iload_n m55_4 rfl ?_
              refine g_dup2 m55_5 rfl rfl ?_
              refine g_iald (x := (0 : Int32)) m55_6 rfl (vin rfl) rfl ?_
              refine g_iconst m55_7 ?_
              refine g_iadd (u := (1 : Int32)) m55_8 (by decide) ?_
              refine g_iast m55_9 (Nat.le_of_ble_eq_true rfl) rfl (vin rfl) rfl rfl rfl ?_
              refine g_ldcw m55_10 ?_
              refine g_iload_n m55_13 rfl ?_
              refine g_isub (u := (-1000000002 : Int32)) m55_14 (by decide) ?_
              refine g_iret m55_15 rfl ?_
              refine gwst (st' := [.int (-1000000002)]) rfl ?_
              refine g_iret m97_59 rfl ?_
              refine gwst (st' := [.int (-1000000002)]) rfl ?_
              refine FRg rfl (fun f => ?_)
              refine g_aload_n m190_1240 rfl ?_
              refine g_aload_n m190_1241 rfl ?_
              refine g_iload_n m190_1242 rfl ?_
              refine g_iconst m190_1243 ?_
              refine g_iadd (u := (1 : Int32)) m190_1244 (by decide) ?_
              refine g_iald (x := (2 : Int32)) m190_1245 rfl (vin rfl) rfl ?_
              refine g_aload_n m190_1246 rfl ?_
              refine g_iload_n m190_1247 rfl ?_
              refine g_iconst m190_1248 ?_
              refine g_iadd (u := (2 : Int32)) m190_1249 (by decide) ?_
              refine g_iald (x := s2) m190_1250 rfl (vin rfl) rfl ?_
              refine g_aload_n m190_1251 rfl ?_
              refine g_iload_n m190_1252 rfl ?_
              refine g_iconst m190_1253 ?_
              refine g_iadd (u := (3 : Int32)) m190_1254 (by decide) ?_
              refine g_iald (x := (2 : Int32)) m190_1255 rfl (vin rfl) rfl ?_
              refine g_aload_n m190_1256 rfl ?_
              refine g_iload_n m190_1257 rfl ?_
              refine g_iconst m190_1258 ?_
              refine g_iadd (u := (4 : Int32)) m190_1259 (by decide) ?_
              refine g_iald (x := s4) m190_1260 rfl (vin rfl) rfl ?_
              refine g_aload_n m190_1261 rfl ?_
              refine g_iload_n m190_1262 rfl ?_
              refine g_iconst m190_1263 ?_
              refine g_iadd (u := (5 : Int32)) m190_1264 (by decide) ?_
              refine g_iald (x := s5) m190_1265 rfl (vin rfl) rfl ?_
              refine g_cv (args := [.int (2), .int _, .int (2), .int _, .int _]) (rest := [.int (-1000000002)]) m190_1266 (Nat.le_of_ble_eq_true rfl) rfl rfl rfl (Nat.le_of_ble_eq_true rfl) ?_
              refine wp_in (L := [some (.ref 89), some (.int (2)), some (.int _), some (.int (2)), some (.int _), some (.int _), none]) (Nat.le_of_ble_eq_true rfl) rfl ?_
              refine g_iload_n m181_0 rfl ?_
              refine g_cs (args := [.int (2)]) (rest := []) 0 (Or.inl rfl) m181_1 (Nat.le_of_ble_eq_true rfl) rfl rfl (Nat.le_of_ble_eq_true rfl) ?_
              refine wp_in (L := [some (.int (2))]) (Nat.le_of_ble_eq_true rfl) rfl ?_
              refine g_iload_n m160_0 rfl ?_
              refine g_iconst m160_1 ?_
              refine g_iconst m160_2 ?_
              refine g_cs (args := [.int (2), .int (0), .int (3)]) (rest := []) 0 (Or.inl rfl) m160_3 (Nat.le_of_ble_eq_true rfl) rfl rfl (Nat.le_of_ble_eq_true rfl) ?_
              refine wp_in (L := [some (.int (2)), some (.int (0)), some (.int (3))]) (Nat.le_of_ble_eq_true rfl) rfl ?_
              refine g_iload_n m107_0 rfl ?_
              refine g_iload_n m107_1 rfl ?_
              refine g_ic_ltF m107_2 (by decide) ?_
              refine g_iload_n m107_5 rfl ?_
              refine g_iload_n m107_6 rfl ?_
              refine g_ic_gtF m107_7 (by decide) ?_
              refine g_iconst m107_10 ?_
              refine g_goto m107_11 ?_
              refine g_zret m107_15 rfl (Or.inr rfl) ?_
              refine gwst (st' := [.int (1)]) rfl ?_
              refine g_zret m160_6 rfl (Or.inr rfl) ?_
              refine gwst (st' := [.int (1)]) rfl ?_
              refine g_if_eqF m181_4 (by decide) ?_
              refine g_iload_n m181_7 rfl ?_
              refine g_cs (args := [.int (2)]) (rest := []) 0 (Or.inl rfl) m181_8 (Nat.le_of_ble_eq_true rfl) rfl rfl (Nat.le_of_ble_eq_true rfl) ?_
              refine wp_in (L := [some (.int (2))]) (Nat.le_of_ble_eq_true rfl) rfl ?_
              refine g_iload_n m160_0 rfl ?_
              refine g_iconst m160_1 ?_
              refine g_iconst m160_2 ?_
              refine g_cs (args := [.int (2), .int (0), .int (3)]) (rest := []) 0 (Or.inl rfl) m160_3 (Nat.le_of_ble_eq_true rfl) rfl rfl (Nat.le_of_ble_eq_true rfl) ?_
              refine wp_in (L := [some (.int (2)), some (.int (0)), some (.int (3))]) (Nat.le_of_ble_eq_true rfl) rfl ?_
              refine g_iload_n m107_0 rfl ?_
              refine g_iload_n m107_1 rfl ?_
              refine g_ic_ltF m107_2 (by decide) ?_
              refine g_iload_n m107_5 rfl ?_
              refine g_iload_n m107_6 rfl ?_
              refine g_ic_gtF m107_7 (by decide) ?_
              refine g_iconst m107_10 ?_
              refine g_goto m107_11 ?_
              refine g_zret m107_15 rfl (Or.inr rfl) ?_
              refine gwst (st' := [.int (1)]) rfl ?_
              refine g_zret m160_6 rfl (Or.inr rfl) ?_
              refine gwst (st' := [.int (1)]) rfl ?_
              refine g_if_neF m181_11 (by decide) ?_
              refine g_aload_n m181_21 rfl ?_
              refine g_gf m181_22 rfl rfl ?_
              refine g_iload_n m181_25 rfl ?_
              refine g_iald (x := (0 : Int32)) m181_26 rfl (vin rfl) rfl ?_
              refine g_if_eqT m181_27 (by decide) ?_
              refine g_aload_n m181_39 rfl ?_
              refine g_ldci m181_40 rfl ?_
              refine g_cv (args := [.int (-1000000002)]) (rest := []) m181_42 (Nat.le_of_ble_eq_true rfl) rfl rfl rfl (Nat.le_of_ble_eq_true rfl) ?_
              refine wp_in (L := [some (.ref 89), some (.int (-1000000002))]) (Nat.le_of_ble_eq_true rfl) rfl ?_
              refine g_aload_n m108_0 rfl ?_
              refine g_gf m108_1 rfl rfl ?_
              refine g_ldci m108_4 rfl ?_
              refine g_iload_n m108_6 rfl ?_
              refine g_isub (u := (2 : Int32)) m108_7 (by decide) ?_
              refine g_dup2 m108_8 rfl rfl ?_
              refine g_iald (x := (0 : Int32)) m108_9 rfl (vin rfl) rfl ?_
              refine g_iconst m108_10 ?_
              refine g_iadd (u := (1 : Int32)) m108_11 (by decide) ?_
              refine g_iast m108_12 (Nat.le_of_ble_eq_true rfl) rfl (vin rfl) rfl rfl rfl ?_
              refine g_iload_n m108_13 rfl ?_
              refine g_iret m108_14 rfl ?_
              refine gwst (st' := [.int (-1000000002)]) rfl ?_
              refine g_iret m181_45 rfl ?_
              refine gwst (st' := [.int (-1000000002), .int (-1000000002)]) rfl ?_
              refine g_ic_eqT m190_1269 (by decide) ?_
              refine g_iinc (x2 := (6 : Int32)) (L2 := [some (.ref 0), some (.ref 32), some (.ref 89), some (.int (6))]) m190_1428 rfl (by decide) rfl rfl ?_
              refine g_goto m190_1431 ?_
              refine g_iload_n m190_18 rfl ?_
              refine g_aload_n m190_19 rfl ?_
              refine g_alen (n := 6) m190_20 rfl (Or.inl rfl) rfl ?_
              refine g_bipush m190_21 ?_
              refine g_isub (u := (0 : Int32)) m190_23 (by decide) ?_
              refine g_ic_gtT m190_24 (by decide) ?_
              refine g_iconst m190_1434 ?_
              refine g_zret m190_1435 rfl (Or.inr rfl) ?_
              exact rfl
            · have x20q : s3 = (3 : Int32) := x20
              clear x20
              subst x20q
              refine g_aald m97_35 (Nat.le_of_ble_eq_true rfl) rfl (vin rfl) rfl ?_
              refine g_astore (L2 := [some (.ref 32), some (.int (2)), some (.int _), some (.int (3)), some (.int _), some (.int _), some (.ref 84), some (.ref 86)]) m97_36 rfl rfl ?_
              refine g_aload m97_38 rfl ?_
              refine g_gf m97_40 rfl rfl ?_
              refine g_if_eqT m97_43 (by decide) ?_
              refine g_aload_n m97_54 rfl ?_
              refine g_iconst m97_55 ?_
              refine g_cv (args := [.int (2)]) (rest := []) m97_56 (Nat.le_of_ble_eq_true rfl) rfl rfl rfl (Nat.le_of_ble_eq_true rfl) ?_
              refine wp_in (L := [some (.ref 32), some (.int (2))]) (Nat.le_of_ble_eq_true rfl) rfl ?_
              refine g_aload_n m55_0 rfl ?_
              refine g_gf m55_1 rfl rfl ?_
              refine g_iload_n m55_4 rfl ?_
              refine g_dup2 m55_5 rfl rfl ?_
              refine g_iald (x := (0 : Int32)) m55_6 rfl (vin rfl) rfl ?_
              refine g_iconst m55_7 ?_
              refine g_iadd (u := (1 : Int32)) m55_8 (by decide) ?_
              refine g_iast m55_9 (Nat.le_of_ble_eq_true rfl) rfl (vin rfl) rfl rfl rfl ?_
              refine g_ldcw m55_10 ?_
              refine g_iload_n m55_13 rfl ?_
              refine g_isub (u := (-1000000002 : Int32)) m55_14 (by decide) ?_
              refine g_iret m55_15 rfl ?_
              refine gwst (st' := [.int (-1000000002)]) rfl ?_
              refine g_iret m97_59 rfl ?_
              refine gwst (st' := [.int (-1000000002)]) rfl ?_
              refine FRg rfl (fun f => ?_)
              refine g_aload_n m190_1240 rfl ?_
              refine g_aload_n m190_1241 rfl ?_
              refine g_iload_n m190_1242 rfl ?_
              refine g_iconst m190_1243 ?_
              refine g_iadd (u := (1 : Int32)) m190_1244 (by decide) ?_
              refine g_iald (x := (2 : Int32)) m190_1245 rfl (vin rfl) rfl ?_
              refine g_aload_n m190_1246 rfl ?_
              refine g_iload_n m190_1247 rfl ?_
              refine g_iconst m190_1248 ?_
              refine g_iadd (u := (2 : Int32)) m190_1249 (by decide) ?_
              refine g_iald (x := s2) m190_1250 rfl (vin rfl) rfl ?_
              refine g_aload_n m190_1251 rfl ?_
              refine g_iload_n m190_1252 rfl ?_
              refine g_iconst m190_1253 ?_
              refine g_iadd (u := (3 : Int32)) m190_1254 (by decide) ?_
              refine g_iald (x := (3 : Int32)) m190_1255 rfl (vin rfl) rfl ?_
              refine g_aload_n m190_1256 rfl ?_
              refine g_iload_n m190_1257 rfl ?_
              refine g_iconst m190_1258 ?_
              refine g_iadd (u := (4 : Int32)) m190_1259 (by decide) ?_
              refine g_iald (x := s4) m190_1260 rfl (vin rfl) rfl ?_
              refine g_aload_n m190_1261 rfl ?_
              refine g_iload_n m190_1262 rfl ?_
              refine g_iconst m190_1263 ?_
              refine g_iadd (u := (5 : Int32)) m190_1264 (by decide) ?_
              refine g_iald (x := s5) m190_1265 rfl (vin rfl) rfl ?_
              refine g_cv (args := [.int (2), .int _, .int (3), .int _, .int _]) (rest := [.int (-1000000002)]) m190_1266 (Nat.le_of_ble_eq_true rfl) rfl rfl rfl (Nat.le_of_ble_eq_true rfl) ?_
              refine wp_in (L := [some (.ref 89), some (.int (2)), some (.int _), some (.int (3)), some (.int _), some (.int _), none]) (Nat.le_of_ble_eq_true rfl) rfl ?_
              refine g_iload_n m181_0 rfl ?_
              refine g_cs (args := [.int (2)]) (rest := []) 0 (Or.inl rfl) m181_1 (Nat.le_of_ble_eq_true rfl) rfl rfl (Nat.le_of_ble_eq_true rfl) ?_
              refine wp_in (L := [some (.int (2))]) (Nat.le_of_ble_eq_true rfl) rfl ?_
              refine g_iload_n m160_0 rfl ?_
              refine g_iconst m160_1 ?_
              refine g_iconst m160_2 ?_
              refine g_cs (args := [.int (2), .int (0), .int (3)]) (rest := []) 0 (Or.inl rfl) m160_3 (Nat.le_of_ble_eq_true rfl) rfl rfl (Nat.le_of_ble_eq_true rfl) ?_
              refine wp_in (L := [some (.int (2)), some (.int (0)), some (.int (3))]) (Nat.le_of_ble_eq_true rfl) rfl ?_
              refine g_iload_n m107_0 rfl ?_
              refine g_iload_n m107_1 rfl ?_
              refine g_ic_ltF m107_2 (by decide) ?_
              refine g_iload_n m107_5 rfl ?_
              refine g_iload_n m107_6 rfl ?_
              refine g_ic_gtF m107_7 (by decide) ?_
              refine g_iconst m107_10 ?_
              refine g_goto m107_11 ?_
              refine g_zret m107_15 rfl (Or.inr rfl) ?_
              refine gwst (st' := [.int (1)]) rfl ?_
              refine g_zret m160_6 rfl (Or.inr rfl) ?_
              refine gwst (st' := [.int (1)]) rfl ?_
              refine g_if_eqF m181_4 (by decide) ?_
              refine g_iload_n m181_7 rfl ?_
              refine g_cs (args := [.int (3)]) (rest := []) 0 (Or.inl rfl) m181_8 (Nat.le_of_ble_eq_true rfl) rfl rfl (Nat.le_of_ble_eq_true rfl) ?_
              refine wp_in (L := [some (.int (3))]) (Nat.le_of_ble_eq_true rfl) rfl ?_
              refine g_iload_n m160_0 rfl ?_
              refine g_iconst m160_1 ?_
              refine g_iconst m160_2 ?_
              refine g_cs (args := [.int (3), .int (0), .int (3)]) (rest := []) 0 (Or.inl rfl) m160_3 (Nat.le_of_ble_eq_true rfl) rfl rfl (Nat.le_of_ble_eq_true rfl) ?_
              refine wp_in (L := [some (.int (3)), some (.int (0)), some (.int (3))]) (Nat.le_of_ble_eq_true rfl) rfl ?_
              refine g_iload_n m107_0 rfl ?_
              refine g_iload_n m107_1 rfl ?_
              refine g_ic_ltF m107_2 (by decide) ?_
              refine g_iload_n m107_5 rfl ?_
              refine g_iload_n m107_6 rfl ?_
              refine g_ic_gtF m107_7 (by decide) ?_
              refine g_iconst m107_10 ?_
              refine g_goto m107_11 ?_
              refine g_zret m107_15 rfl (Or.inr rfl) ?_
              refine gwst (st' := [.int (1)]) rfl ?_
              refine g_zret m160_6 rfl (Or.inr rfl) ?_
              refine gwst (st' := [.int (1)]) rfl ?_
              refine g_if_neF m181_11 (by decide) ?_
              refine g_aload_n m181_21 rfl ?_
              refine g_gf m181_22 rfl rfl ?_
              refine g_iload_n m181_25 rfl ?_
              refine g_iald (x := (0 : Int32)) m181_26 rfl (vin rfl) rfl ?_
              refine g_if_eqT m181_27 (by decide) ?_
              refine g_aload_n m181_39 rfl ?_
              refine g_ldci m181_40 rfl ?_
              refine g_cv (args := [.int (-1000000002)]) (rest := []) m181_42 (Nat.le_of_ble_eq_true rfl) rfl rfl rfl (Nat.le_of_ble_eq_true rfl) ?_
              refine wp_in (L := [some (.ref 89), some (.int (-1000000002))]) (Nat.le_of_ble_eq_true rfl) rfl ?_
              refine g_aload_n m108_0 rfl ?_
              refine g_gf m108_1 rfl rfl ?_
              refine g_ldci m108_4 rfl ?_
              refine g_iload_n m108_6 rfl ?_
              refine g_isub (u := (2 : Int32)) m108_7 (by decide) ?_
              refine g_dup2 m108_8 rfl rfl ?_
              refine g_iald (x := (0 : Int32)) m108_9 rfl (vin rfl) rfl ?_
              refine g_iconst m108_10 ?_
              refine g_iadd (u := (1 : Int32)) m108_11 (by decide) ?_
              refine g_iast m108_12 (Nat.le_of_ble_eq_true rfl) rfl (vin rfl) rfl rfl rfl ?_
              refine g_iload_n m108_13 rfl ?_
              refine g_iret m108_14 rfl ?_
              refine gwst (st' := [.int (-1000000002)]) rfl ?_
              refine g_iret m181_45 rfl ?_
              refine gwst (st' := [.int (-1000000002), .int (-1000000002)]) rfl ?_
              refine g_ic_eqT m190_1269 (by decide) ?_
              refine g_iinc (x2 := (6 : Int32)) (L2 := [some (.ref 0), some (.ref 32), some (.ref 89), some (.int (6))]) m190_1428 rfl (by decide) rfl rfl ?_
              refine g_goto m190_1431 ?_
              refine g_iload_n m190_18 rfl ?_
              refine g_aload_n m190_19 rfl ?_
              refine g_alen (n := 6) m190_20 rfl (Or.inl rfl) rfl ?_
              refine g_bipush m190_21 ?_
              refine g_isub (u := (0 : Int32)) m190_23 (by decide) ?_
              refine g_ic_gtT m190_24 (by decide) ?_
              refine g_iconst m190_1434 ?_
              refine g_zret m190_1435 rfl (Or.inr rfl) ?_
              exact rfl
          · have x11q : s1 = (3 : Int32) := x11
            clear x11
            subst x11q
            refine g_aald m97_27 (Nat.le_of_ble_eq_true rfl) rfl (vin rfl) rfl ?_
            refine g_astore (L2 := [some (.ref 32), some (.int (3)), some (.int _), some (.int _), some (.int _), some (.int _), some (.ref 86), none]) m97_28 rfl rfl ?_
            refine g_aload_n m97_30 rfl ?_
            refine g_gf m97_31 rfl rfl ?_
            refine g_iload_n m97_34 rfl ?_
            obtain ⟨j21, e22, x23⟩ := nat_of (x := s3) (lo := 0) (hi := 3) (by omega) (by omega)
            rcases (show j21 = 0 ∨ j21 = 1 ∨ j21 = 2 ∨ j21 = 3 by omega) with rfl | rfl | rfl | rfl
            · have x23q : s3 = (0 : Int32) := x23
              clear x23
              subst x23q
              refine g_aald m97_35 (Nat.le_of_ble_eq_true rfl) rfl (vin rfl) rfl ?_
              refine g_astore (L2 := [some (.ref 32), some (.int (3)), some (.int _), some (.int (0)), some (.int _), some (.int _), some (.ref 86), some (.ref 80)]) m97_36 rfl rfl ?_
              refine g_aload m97_38 rfl ?_
              refine g_gf m97_40 rfl rfl ?_
              refine g_if_eqT m97_43 (by decide) ?_
              refine g_aload_n m97_54 rfl ?_
              refine g_iconst m97_55 ?_
              refine g_cv (args := [.int (2)]) (rest := []) m97_56 (Nat.le_of_ble_eq_true rfl) rfl rfl rfl (Nat.le_of_ble_eq_true rfl) ?_
              refine wp_in (L := [some (.ref 32), some (.int (2))]) (Nat.le_of_ble_eq_true rfl) rfl ?_
              refine g_aload_n m55_0 rfl ?_
              refine g_gf m55_1 rfl rfl ?_
              refine g_iload_n m55_4 rfl ?_
              refine g_dup2 m55_5 rfl rfl ?_
              refine g_iald (x := (0 : Int32)) m55_6 rfl (vin rfl) rfl ?_
              refine g_iconst m55_7 ?_
              refine g_iadd (u := (1 : Int32)) m55_8 (by decide) ?_
              refine g_iast m55_9 (Nat.le_of_ble_eq_true rfl) rfl (vin rfl) rfl rfl rfl ?_
              refine g_ldcw m55_10 ?_
              refine g_iload_n m55_13 rfl ?_
              refine g_isub (u := (-1000000002 : Int32)) m55_14 (by decide) ?_
              refine g_iret m55_15 rfl ?_
              refine gwst (st' := [.int (-1000000002)]) rfl ?_
              refine g_iret m97_59 rfl ?_
              refine gwst (st' := [.int (-1000000002)]) rfl ?_
              refine FRg rfl (fun f => ?_)
              refine g_aload_n m190_1240 rfl ?_
              refine g_aload_n m190_1241 rfl ?_
              refine g_iload_n m190_1242 rfl ?_
              refine g_iconst m190_1243 ?_
              refine g_iadd (u := (1 : Int32)) m190_1244 (by decide) ?_
              refine g_iald (x := (3 : Int32)) m190_1245 rfl (vin rfl) rfl ?_
              refine g_aload_n m190_1246 rfl ?_
              refine g_iload_n m190_1247 rfl ?_
              refine g_iconst m190_1248 ?_
              refine g_iadd (u := (2 : Int32)) m190_1249 (by decide) ?_
              refine g_iald (x := s2) m190_1250 rfl (vin rfl) rfl ?_
              refine g_aload_n m190_1251 rfl ?_
              refine g_iload_n m190_1252 rfl ?_
              refine g_iconst m190_1253 ?_
              refine g_iadd (u := (3 : Int32)) m190_1254 (by decide) ?_
              refine g_iald (x := (0 : Int32)) m190_1255 rfl (vin rfl) rfl ?_
              refine g_aload_n m190_1256 rfl ?_
              refine g_iload_n m190_1257 rfl ?_
              refine g_iconst m190_1258 ?_
              refine g_iadd (u := (4 : Int32)) m190_1259 (by decide) ?_
              refine g_iald (x := s4) m190_1260 rfl (vin rfl) rfl ?_
              refine g_aload_n m190_1261 rfl ?_
              refine g_iload_n m190_1262 rfl ?_
              refine g_iconst m190_1263 ?_
              refine g_iadd (u := (5 : Int32)) m190_1264 (by decide) ?_
              refine g_iald (x := s5) m190_1265 rfl (vin rfl) rfl ?_
              refine g_cv (args := [.int (3), .int _, .int (0), .int _, .int _]) (rest := [.int (-1000000002)]) m190_1266 (Nat.le_of_ble_eq_true rfl) rfl rfl rfl (Nat.le_of_ble_eq_true rfl) ?_
              refine wp_in (L := [some (.ref 89), some (.int (3)), some (.int _), some (.int (0)), some (.int _), some (.int _), none]) (Nat.le_of_ble_eq_true rfl) rfl ?_
              refine g_iload_n m181_0 rfl ?_
              refine g_cs (args := [.int (3)]) (rest := []) 0 (Or.inl rfl) m181_1 (Nat.le_of_ble_eq_true rfl) rfl rfl (Nat.le_of_ble_eq_true rfl) ?_
              refine wp_in (L := [some (.int (3))]) (Nat.le_of_ble_eq_true rfl) rfl ?_
              refine g_iload_n m160_0 rfl ?_
              refine g_iconst m160_1 ?_
              refine g_iconst m160_2 ?_
              refine g_cs (args := [.int (3), .int (0), .int (3)]) (rest := []) 0 (Or.inl rfl) m160_3 (Nat.le_of_ble_eq_true rfl) rfl rfl (Nat.le_of_ble_eq_true rfl) ?_
              refine wp_in (L := [some (.int (3)), some (.int (0)), some (.int (3))]) (Nat.le_of_ble_eq_true rfl) rfl ?_
              refine g_iload_n m107_0 rfl ?_
              refine g_iload_n m107_1 rfl ?_
              refine g_ic_ltF m107_2 (by decide) ?_
              refine g_iload_n m107_5 rfl ?_
              refine g_iload_n m107_6 rfl ?_
              refine g_ic_gtF m107_7 (by decide) ?_
              refine g_iconst m107_10 ?_
              refine g_goto m107_11 ?_
              refine g_zret m107_15 rfl (Or.inr rfl) ?_
              refine gwst (st' := [.int (1)]) rfl ?_
              refine g_zret m160_6 rfl (Or.inr rfl) ?_
              refine gwst (st' := [.int (1)]) rfl ?_
              refine g_if_eqF m181_4 (by decide) ?_
              refine g_iload_n m181_7 rfl ?_
              refine g_cs (args := [.int (0)]) (rest := []) 0 (Or.inl rfl) m181_8 (Nat.le_of_ble_eq_true rfl) rfl rfl (Nat.le_of_ble_eq_true rfl) ?_
              refine wp_in (L := [some (.int (0))]) (Nat.le_of_ble_eq_true rfl) rfl ?_
              refine g_iload_n m160_0 rfl ?_
              refine g_iconst m160_1 ?_
              refine g_iconst m160_2 ?_
              refine g_cs (args := [.int (0), .int (0), .int (3)]) (rest := []) 0 (Or.inl rfl) m160_3 (Nat.le_of_ble_eq_true rfl) rfl rfl (Nat.le_of_ble_eq_true rfl) ?_
              refine wp_in (L := [some (.int (0)), some (.int (0)), some (.int (3))]) (Nat.le_of_ble_eq_true rfl) rfl ?_
              refine g_iload_n m107_0 rfl ?_
              refine g_iload_n m107_1 rfl ?_
              refine g_ic_ltF m107_2 (by decide) ?_
              refine g_iload_n m107_5 rfl ?_
              refine g_iload_n m107_6 rfl ?_
              refine g_ic_gtF m107_7 (by decide) ?_
              refine g_iconst m107_10 ?_
              refine g_goto m107_11 ?_
              refine g_zret m107_15 rfl (Or.inr rfl) ?_
              refine gwst (st' := [.int (1)]) rfl ?_
              refine g_zret m160_6 rfl (Or.inr rfl) ?_
              refine gwst (st' := [.int (1)]) rfl ?_
              refine g_if_neF m181_11 (by decide) ?_
              refine g_aload_n m181_21 rfl ?_
              refine g_gf m181_22 rfl rfl ?_
              refine g_iload_n m181_25 rfl ?_
              refine g_iald (x := (0 : Int32)) m181_26 rfl (vin rfl) rfl ?_
              refine g_if_eqT m181_27 (by decide) ?_
              refine g_aload_n m181_39 rfl ?_
              refine g_ldci m181_40 rfl ?_
              refine g_cv (args := [.int (-1000000002)]) (rest := []) m181_42 (Nat.le_of_ble_eq_true rfl) rfl rfl rfl (Nat.le_of_ble_eq_true rfl) ?_
              refine wp_in (L := [some (.ref 89), some (.int (-1000000002))]) (Nat.le_of_ble_eq_true rfl) rfl ?_
              refine g_aload_n m108_0 rfl ?_
              refine g_gf m108_1 rfl rfl ?_
              refine g_ldci m108_4 rfl ?_
              refine g_iload_n m108_6 rfl ?_
              refine g_isub (u := (2 : Int32)) m108_7 (by decide) ?_
              refine g_dup2 m108_8 rfl rfl ?_
              refine g_iald (x := (0 : Int32)) m108_9 rfl (vin rfl) rfl ?_
              refine g_iconst m108_10 ?_
              refine g_iadd (u := (1 : Int32)) m108_11 (by decide) ?_
              refine g_iast m108_12 (Nat.le_of_ble_eq_true rfl) rfl (vin rfl) rfl rfl rfl ?_
              refine g_iload_n m108_13 rfl ?_
              refine g_iret m108_14 rfl ?_
              refine gwst (st' := [.int (-1000000002)]) rfl ?_
              refine g_iret m181_45 rfl ?_
              refine gwst (st' := [.int (-1000000002), .int (-1000000002)]) rfl ?_
              refine g_ic_eqT m190_1269 (by decide) ?_
              refine g_iinc (x2 := (6 : Int32)) (L2 := [some (.ref 0), some (.ref 32), some (.ref 89), some (.int (6))]) m190_1428 rfl (by decide) rfl rfl ?_
              refine g_goto m190_1431 ?_
              refine g_iload_n m190_18 rfl ?_
              refine g_aload_n m190_19 rfl ?_
              refine g_alen (n := 6) m190_20 rfl (Or.inl rfl) rfl ?_
              refine g_bipush m190_21 ?_
              refine g_isub (u := (0 : Int32)) m190_23 (by decide) ?_
              refine g_ic_gtT m190_24 (by decide) ?_
              refine g_iconst m190_1434 ?_
              refine g_zret m190_1435 rfl (Or.inr rfl) ?_
              exact rfl
            · have x23q : s3 = (1 : Int32) := x23
              clear x23
              subst x23q
              refine g_aald m97_35 (Nat.le_of_ble_eq_true rfl) rfl (vin rfl) rfl ?_
              refine g_astore (L2 := [some (.ref 32), some (.int (3)), some (.int _), some (.int (1)), some (.int _), some (.int _), some (.ref 86), some (.ref 82)]) m97_36 rfl rfl ?_
              refine g_aload m97_38 rfl ?_
              refine g_gf m97_40 rfl rfl ?_
              refine g_if_eqT m97_43 (by decide) ?_
              refine g_aload_n m97_54 rfl ?_
              refine g_iconst m97_55 ?_
              refine g_cv (args := [.int (2)]) (rest := []) m97_56 (Nat.le_of_ble_eq_true rfl) rfl rfl rfl (Nat.le_of_ble_eq_true rfl) ?_
              refine wp_in (L := [some (.ref 32), some (.int (2))]) (Nat.le_of_ble_eq_true rfl) rfl ?_
              refine g_aload_n m55_0 rfl ?_
              refine g_gf m55_1 rfl rfl ?_
              refine g_iload_n m55_4 rfl ?_
              refine g_dup2 m55_5 rfl rfl ?_
              refine g_iald (x := (0 : Int32)) m55_6 rfl (vin rfl) rfl ?_
              refine g_iconst m55_7 ?_
              refine g_iadd (u := (1 : Int32)) m55_8 (by decide) ?_
              refine g_iast m55_9 (Nat.le_of_ble_eq_true rfl) rfl (vin rfl) rfl rfl rfl ?_
              refine g_ldcw m55_10 ?_
              refine g_iload_n m55_13 rfl ?_
              refine g_isub (u := (-1000000002 : Int32)) m55_14 (by decide) ?_
              refine g_iret m55_15 rfl ?_
              refine gwst (st' := [.int (-1000000002)]) rfl ?_
              refine g_iret m97_59 rfl ?_
              refine gwst (st' := [.int (-1000000002)]) rfl ?_
              refine FRg rfl (fun f => ?_)
              refine g_aload_n m190_1240 rfl ?_
              refine g_aload_n m190_1241 rfl ?_
              refine g_iload_n m190_1242 rfl ?_
              refine g_iconst m190_1243 ?_
              refine g_iadd (u := (1 : Int32)) m190_1244 (by decide) ?_
              refine g_iald (x := (3 : Int32)) m190_1245 rfl (vin rfl) rfl ?_
              refine g_aload_n m190_1246 rfl ?_
              refine g_iload_n m190_1247 rfl ?_
              refine g_iconst m190_1248 ?_
              refine g_iadd (u := (2 : Int32)) m190_1249 (by decide) ?_
              refine g_iald (x := s2) m190_1250 rfl (vin rfl) rfl ?_
              refine g_aload_n m190_1251 rfl ?_
              refine g_iload_n m190_1252 rfl ?_
              refine g_iconst m190_1253 ?_
              refine g_iadd (u := (3 : Int32)) m190_1254 (by decide) ?_
              refine g_iald (x := (1 : Int32)) m190_1255 rfl (vin rfl) rfl ?_
              refine g_aload_n m190_1256 rfl ?_
              refine g_iload_n m190_1257 rfl ?_
              refine g_iconst m190_1258 ?_
              refine g_iadd (u := (4 : Int32)) m190_1259 (by decide) ?_
              refine g_iald (x := s4) m190_1260 rfl (vin rfl) rfl ?_
              refine g_aload_n m190_1261 rfl ?_
              refine g_iload_n m190_1262 rfl ?_
              refine g_iconst m190_1263 ?_
              refine g_iadd (u := (5 : Int32)) m190_1264 (by decide) ?_
              refine g_iald (x := s5) m190_1265 rfl (vin rfl) rfl ?_
              refine g_cv (args := [.int (3), .int _, .int (1), .int _, .int _]) (rest := [.int (-1000000002)]) m190_1266 (Nat.le_of_ble_eq_true rfl) rfl rfl rfl (Nat.le_of_ble_eq_true rfl) ?_
              refine wp_in (L := [some (.ref 89), some (.int (3)), some (.int _), some (.int (1)), some (.int _), some (.int _), none]) (Nat.le_of_ble_eq_true rfl) rfl ?_
              refine g_iload_n m181_0 rfl ?_
              refine g_cs (args := [.int (3)]) (rest := []) 0 (Or.inl rfl) m181_1 (Nat.le_of_ble_eq_true rfl) rfl rfl (Nat.le_of_ble_eq_true rfl) ?_
              refine wp_in (L := [some (.int (3))]) (Nat.le_of_ble_eq_true rfl) rfl ?_
              refine g_iload_n m160_0 rfl ?_
              refine g_iconst m160_1 ?_
              refine g_iconst m160_2 ?_
              refine g_cs (args := [.int (3), .int (0), .int (3)]) (rest := []) 0 (Or.inl rfl) m160_3 (Nat.le_of_ble_eq_true rfl) rfl rfl (Nat.le_of_ble_eq_true rfl) ?_
              refine wp_in (L := [some (.int (3)), some (.int (0)), some (.int (3))]) (Nat.le_of_ble_eq_true rfl) rfl ?_
              refine g_iload_n m107_0 rfl ?_
              refine g_iload_n m107_1 rfl ?_
              refine g_ic_ltF m107_2 (by decide) ?_
              refine g_iload_n m107_5 rfl ?_
              refine g_iload_n m107_6 rfl ?_
              refine g_ic_gtF m107_7 (by decide) ?_
              refine g_iconst m107_10 ?_
              refine g_goto m107_11 ?_
              refine g_zret m107_15 rfl (Or.inr rfl) ?_
              refine gwst (st' := [.int (1)]) rfl ?_
              refine g_zret m160_6 rfl (Or.inr rfl) ?_
              refine gwst (st' := [.int (1)]) rfl ?_
              refine g_if_eqF m181_4 (by decide) ?_
              refine g_iload_n m181_7 rfl ?_
              refine g_cs (args := [.int (1)]) (rest := []) 0 (Or.inl rfl) m181_8 (Nat.le_of_ble_eq_true rfl) rfl rfl (Nat.le_of_ble_eq_true rfl) ?_
              refine wp_in (L := [some (.int (1))]) (Nat.le_of_ble_eq_true rfl) rfl ?_
              refine g_iload_n m160_0 rfl ?_
              refine g_iconst m160_1 ?_
              refine g_iconst m160_2 ?_
              refine g_cs (args := [.int (1), .int (0), .int (3)]) (rest := []) 0 (Or.inl rfl) m160_3 (Nat.le_of_ble_eq_true rfl) rfl rfl (Nat.le_of_ble_eq_true rfl) ?_
              refine wp_in (L := [some (.int (1)), some (.int (0)), some (.int (3))]) (Nat.le_of_ble_eq_true rfl) rfl ?_
              refine g_iload_n m107_0 rfl ?_
              refine g_iload_n m107_1 rfl ?_
              refine g_ic_ltF m107_2 (by decide) ?_
              refine g_iload_n m107_5 rfl ?_
              refine g_iload_n m107_6 rfl ?_
              refine g_ic_gtF m107_7 (by decide) ?_
              refine g_iconst m107_10 ?_
              refine g_goto m107_11 ?_
              refine g_zret m107_15 rfl (Or.inr rfl) ?_
              refine gwst (st' := [.int (1)]) rfl ?_
              refine g_zret m160_6 rfl (Or.inr rfl) ?_
              refine gwst (st' := [.int (1)]) rfl ?_
              refine g_if_neF m181_11 (by decide) ?_
              refine g_aload_n m181_21 rfl ?_
              refine g_gf m181_22 rfl rfl ?_
              refine g_iload_n m181_25 rfl ?_
              refine g_iald (x := (0 : Int32)) m181_26 rfl (vin rfl) rfl ?_
              refine g_if_eqT m181_27 (by decide) ?_
              refine g_aload_n m181_39 rfl ?_
              refine g_ldci m181_40 rfl ?_
              refine g_cv (args := [.int (-1000000002)]) (rest := []) m181_42 (Nat.le_of_ble_eq_true rfl) rfl rfl rfl (Nat.le_of_ble_eq_true rfl) ?_
              refine wp_in (L := [some (.ref 89), some (.int (-1000000002))]) (Nat.le_of_ble_eq_true rfl) rfl ?_
              refine g_aload_n m108_0 rfl ?_
              refine g_gf m108_1 rfl rfl ?_
              refine g_ldci m108_4 rfl ?_
              refine g_iload_n m108_6 rfl ?_
              refine g_isub (u := (2 : Int32)) m108_7 (by decide) ?_
              refine g_dup2 m108_8 rfl rfl ?_
              refine g_iald (x := (0 : Int32)) m108_9 rfl (vin rfl) rfl ?_
              refine g_iconst m108_10 ?_
              refine g_iadd (u := (1 : Int32)) m108_11 (by decide) ?_
              refine g_iast m108_12 (Nat.le_of_ble_eq_true rfl) rfl (vin rfl) rfl rfl rfl ?_
              refine g_iload_n m108_13 rfl ?_
              refine g_iret m108_14 rfl ?_
              refine gwst (st' := [.int (-1000000002)]) rfl ?_
              refine g_iret m181_45 rfl ?_
              refine gwst (st' := [.int (-1000000002), .int (-1000000002)]) rfl ?_
              refine g_ic_eqT m190_1269 (by decide) ?_
              refine g_iinc (x2 := (6 : Int32)) (L2 := [some (.ref 0), some (.ref 32), some (.ref 89), some (.int (6))]) m190_1428 rfl (by decide) rfl rfl ?_
              refine g_goto m190_1431 ?_
              refine g_iload_n m190_18 rfl ?_
              refine g_aload_n m190_19 rfl ?_
              refine g_alen (n := 6) m190_20 rfl (Or.inl rfl) rfl ?_
              refine g_bipush m190_21 ?_
              refine g_isub (u := (0 : Int32)) m190_23 (by decide) ?_
              refine g_ic_gtT m190_24 (by decide) ?_
              refine g_iconst m190_1434 ?_
              refine g_zret m190_1435 rfl (Or.inr rfl) ?_
              exact rfl
            · have x23q : s3 = (2 : Int32) := x23
              clear x23
              subst x23q
              refine g_aald m97_35 (Nat.le_of_ble_eq_true rfl) rfl (vin rfl) rfl ?_
              refine g_astore (L2 := [some (.ref 32), some (.int (3)), some (.int _), some (.int (2)), some (.int _), some (.int _), some (.ref 86), some (.ref 84)]) m97_36 rfl rfl ?_
              refine g_aload m97_38 rfl ?_
              refine g_gf m97_40 rfl rfl ?_
              refine g_if_eqT m97_43 (by decide) ?_
              refine g_aload_n m97_54 rfl ?_
              refine g_iconst m97_55 ?_
              refine g_cv (args := [.int (2)]) (rest := []) m97_56 (Nat.le_of_ble_eq_true rfl) rfl rfl rfl (Nat.le_of_ble_eq_true rfl) ?_
              refine wp_in (L := [some (.ref 32), some (.int (2))]) (Nat.le_of_ble_eq_true rfl) rfl ?_
              refine g_aload_n m55_0 rfl ?_
              refine g_gf m55_1 rfl rfl ?_
              refine g_iload_n m55_4 rfl ?_
              refine g_dup2 m55_5 rfl rfl ?_
              refine g_iald (x := (0 : Int32)) m55_6 rfl (vin rfl) rfl ?_
              refine g_iconst m55_7 ?_
              refine g_iadd (u := (1 : Int32)) m55_8 (by decide) ?_
              refine g_iast m55_9 (Nat.le_of_ble_eq_true rfl) rfl (vin rfl) rfl rfl rfl ?_
              refine g_ldcw m55_10 ?_
              refine g_iload_n m55_13 rfl ?_
              refine g_isub (u := (-1000000002 : Int32)) m55_14 (by decide) ?_
              refine g_iret m55_15 rfl ?_
              refine gwst (st' := [.int (-1000000002)]) rfl ?_
              refine g_iret m97_59 rfl ?_
              refine gwst (st' := [.int (-1000000002)]) rfl ?_
              refine FRg rfl (fun f => ?_)
              refine g_aload_n m190_1240 rfl ?_
              refine g_aload_n m190_1241 rfl ?_
              refine g_iload_n m190_1242 rfl ?_
              refine g_iconst m190_1243 ?_
              refine g_iadd (u := (1 : Int32)) m190_1244 (by decide) ?_
              refine g_iald (x := (3 : Int32)) m190_1245 rfl (vin rfl) rfl ?_
              refine g_aload_n m190_1246 rfl ?_
              refine g_iload_n m190_1247 rfl ?_
              refine g_iconst m190_1248 ?_
              refine g_iadd (u := (2 : Int32)) m190_1249 (by decide) ?_
              refine g_iald (x := s2) m190_1250 rfl (vin rfl) rfl ?_
              refine g_aload_n m190_1251 rfl ?_
              refine g_iload_n m190_1252 rfl ?_
              refine g_iconst m190_1253 ?_
              refine g_iadd (u := (3 : Int32)) m190_1254 (by decide) ?_
              refine g_iald (x := (2 : Int32)) m190_1255 rfl (vin rfl) rfl ?_
              refine g_aload_n m190_1256 rfl ?_
              refine g_iload_n m190_1257 rfl ?_
              refine g_iconst m190_1258 ?_
              refine g_iadd (u := (4 : Int32)) m190_1259 (by decide) ?_
              refine g_iald (x := s4) m190_1260 rfl (vin rfl) rfl ?_
              refine g_aload_n m190_1261 rfl ?_
              refine g_iload_n m190_1262 rfl ?_
              refine g_iconst m190_1263 ?_
              refine g_iadd (u := (5 : Int32)) m190_1264 (by decide) ?_
              refine g_iald (x := s5) m190_1265 rfl (vin rfl) rfl ?_
              refine g_cv (args := [.int (3), .int _, .int (2), .int _, .int _]) (rest := [.int (-1000000002)]) m190_1266 (Nat.le_of_ble_eq_true rfl) rfl rfl rfl (Nat.le_of_ble_eq_true rfl) ?_
              refine wp_in (L := [some (.ref 89), some (.int (3)), some (.int _), some (.int (2)), some (.int _), some (.int _), none]) (Nat.le_of_ble_eq_true rfl) rfl ?_
              refine g_iload_n m181_0 rfl ?_
              refine g_cs (args := [.int (3)]) (rest := []) 0 (Or.inl rfl) m181_1 (Nat.le_of_ble_eq_true rfl) rfl rfl (Nat.le_of_ble_eq_true rfl) ?_
              refine wp_in (L := [some (.int (3))]) (Nat.le_of_ble_eq_true rfl) rfl ?_
              refine g_iload_n m160_0 rfl ?_
              refine g_iconst m160_1 ?_
              refine g_iconst m160_2 ?_
              refine g_cs (args := [.int (3), .int (0), .int (3)]) (rest := []) 0 (Or.inl rfl) m160_3 (Nat.le_of_ble_eq_true rfl) rfl rfl (Nat.le_of_ble_eq_true rfl) ?_
              refine wp_in (L := [some (.int (3)), some (.int (0)), some (.int (3))]) (Nat.le_of_ble_eq_true rfl) rfl ?_
              refine g_iload_n m107_0 rfl ?_
              refine g_iload_n m107_1 rfl ?_
              refine g_ic_ltF m107_2 (by decide) ?_
              refine g_iload_n m107_5 rfl ?_
              refine g_iload_n m107_6 rfl ?_
              refine g_ic_gtF m107_7 (by decide) ?_
              refine g_iconst m107_10 ?_
              refine g_goto m107_11 ?_
              refine g_zret m107_15 rfl (Or.inr rfl) ?_
              refine gwst (st' := [.int (1)]) rfl ?_
              refine g_zret m160_6 rfl (Or.inr rfl) ?_
              refine gwst (st' := [.int (1)]) rfl ?_
              refine g_if_eqF m181_4 (by decide) ?_
              refine g_iload_n m181_7 rfl ?_
              refine g_cs (args := [.int (2)]) (rest := []) 0 (Or.inl rfl) m181_8 (Nat.le_of_ble_eq_true rfl) rfl rfl (Nat.le_of_ble_eq_true rfl) ?_
              refine wp_in (L := [some (.int (2))]) (Nat.le_of_ble_eq_true rfl) rfl ?_
              refine g_iload_n m160_0 rfl ?_
              refine g_iconst m160_1 ?_
              refine g_iconst m160_2 ?_
              refine g_cs (args := [.int (2), .int (0), .int (3)]) (rest := []) 0 (Or.inl rfl) m160_3 (Nat.le_of_ble_eq_true rfl) rfl rfl (Nat.le_of_ble_eq_true rfl) ?_
              refine wp_in (L := [some (.int (2)), some (.int (0)), some (.int (3))]) (Nat.le_of_ble_eq_true rfl) rfl ?_
              refine g_iload_n m107_0 rfl ?_
              refine g_iload_n m107_1 rfl ?_
              refine g_ic_ltF m107_2 (by decide) ?_
              refine g_iload_n m107_5 rfl ?_
              refine g_iload_n m107_6 rfl ?_
              refine g_ic_gtF m107_7 (by decide) ?_
              refine g_iconst m107_10 ?_
              refine g_goto m107_11 ?_
              refine g_zret m107_15 rfl (Or.inr rfl) ?_
              refine gwst (st' := [.int (1)]) rfl ?_
              refine g_zret m160_6 rfl (Or.inr rfl) ?_
              refine gwst (st' := [.int (1)]) rfl ?_
              refine g_if_neF m181_11 (by decide) ?_
              refine g_aload_n m181_21 rfl ?_
              refine g_gf m181_22 rfl rfl ?_
              refine g_iload_n m181_25 rfl ?_
              refine g_iald (x := (0 : Int32)) m181_26 rfl (vin rfl) rfl ?_
              refine g_if_eqT m181_27 (by decide) ?_
              refine g_aload_n m181_39 rfl ?_
              refine g_ldci m181_40 rfl ?_
              refine g_cv (args := [.int (-1000000002)]) (rest := []) m181_42 (Nat.le_of_ble_eq_true rfl) rfl rfl rfl (Nat.le_of_ble_eq_true rfl) ?_
              refine wp_in (L := [some (.ref 89), some (.int (-1000000002))]) (Nat.le_of_ble_eq_true rfl) rfl ?_
              refine g_aload_n m108_0 rfl ?_
              refine g_gf m108_1 rfl rfl ?_
              refine g_ldci m108_4 rfl ?_
              refine g_iload_n m108_6 rfl ?_
              refine g_isub (u := (2 : Int32)) m108_7 (by decide) ?_
              refine g_dup2 m108_8 rfl rfl ?_
              refine g_iald (x := (0 : Int32)) m108_9 rfl (vin rfl) rfl ?_
              refine g_iconst m108_10 ?_
              refine g_iadd (u := (1 : Int32)) m108_11 (by decide) ?_
              refine g_iast m108_12 (Nat.le_of_ble_eq_true rfl) rfl (vin rfl) rfl rfl rfl ?_
              refine g_iload_n m108_13 rfl ?_
              refine g_iret m108_14 rfl ?_
              refine gwst (st' := [.int (-1000000002)]) rfl ?_
              refine g_iret m181_45 rfl ?_
              refine gwst (st' := [.int (-1000000002), .int (-1000000002)]) rfl ?_
              refine g_ic_eqT m190_1269 (by decide) ?_
              refine g_iinc (x2 := (6 : Int32)) (L2 := [some (.ref 0), some (.ref 32), some (.ref 89), some (.int (6))]) m190_1428 rfl (by decide) rfl rfl ?_
              refine g_goto m190_1431 ?_
              refine g_iload_n m190_18 rfl ?_
              refine g_aload_n m190_19 rfl ?_
              refine g_alen (n := 6) m190_20 rfl (Or.inl rfl) rfl ?_
              refine g_bipush m190_21 ?_
              refine g_isub (u := (0 : Int32)) m190_23 (by decide) ?_
              refine g_ic_gtT m190_24 (by decide) ?_
              refine g_iconst m190_1434 ?_
              refine g_zret m190_1435 rfl (Or.inr rfl) ?_
              exact rfl
            · have x23q : s3 = (3 : Int32) := x23
              clear x23
              subst x23q
              refine g_aald m97_35 (Nat.le_of_ble_eq_true rfl) rfl (vin rfl) rfl ?_
              refine g_astore (L2 := [some (.ref 32), some (.int (3)), some (.int _), some (.int (3)), some (.int _), some (.int _), some (.ref 86), some (.ref 86)]) m97_36 rfl rfl ?_
              refine g_aload m97_38 rfl ?_
              refine g_gf m97_40 rfl rfl ?_
              refine g_if_eqT m97_43 (by decide) ?_
              refine g_aload_n m97_54 rfl ?_
              refine g_iconst m97_55 ?_
              refine g_cv (args := [.int (2)]) (rest := []) m97_56 (Nat.le_of_ble_eq_true rfl) rfl rfl rfl (Nat.le_of_ble_eq_true rfl) ?_
              refine wp_in (L := [some (.ref 32), some (.int (2))]) (Nat.le_of_ble_eq_true rfl) rfl ?_
              refine g_aload_n m55_0 rfl ?_
              refine g_gf m55_1 rfl rfl ?_
              refine g_iload_n m55_4 rfl ?_
              refine g_dup2 m55_5 rfl rfl ?_
              refine g_iald (x := (0 : Int32)) m55_6 rfl (vin rfl) rfl ?_
              refine g_iconst m55_7 ?_
              refine g_iadd (u := (1 : Int32)) m55_8 (by decide) ?_
              refine g_iast m55_9 (Nat.le_of_ble_eq_true rfl) rfl (vin rfl) rfl rfl rfl ?_
              refine g_ldcw m55_10 ?_
              refine g_iload_n m55_13 rfl ?_
              refine g_isub (u := (-1000000002 : Int32)) m55_14 (by decide) ?_
              refine g_iret m55_15 rfl ?_
              refine gwst (st' := [.int (-1000000002)]) rfl ?_
              refine g_iret m97_59 rfl ?_
              refine gwst (st' := [.int (-1000000002)]) rfl ?_
              refine FRg rfl (fun f => ?_)
              refine g_aload_n m190_1240 rfl ?_
              refine g_aload_n m190_1241 rfl ?_
              refine g_iload_n m190_1242 rfl ?_
              refine g_iconst m190_1243 ?_
              refine g_iadd (u := (1 : Int32)) m190_1244 (by decide) ?_
              refine g_iald (x := (3 : Int32)) m190_1245 rfl (vin rfl) rfl ?_
              refine g_aload_n m190_1246 rfl ?_
              refine g_iload_n m190_1247 rfl ?_
              refine g_iconst m190_1248 ?_
              refine g_iadd (u := (2 : Int32)) m190_1249 (by decide) ?_
              refine g_iald (x := s2) m190_1250 rfl (vin rfl) rfl ?_
              refine g_aload_n m190_1251 rfl ?_
              refine g_iload_n m190_1252 rfl ?_
              refine g_iconst m190_1253 ?_
              refine g_iadd (u := (3 : Int32)) m190_1254 (by decide) ?_
              refine g_iald (x := (3 : Int32)) m190_1255 rfl (vin rfl) rfl ?_
              refine g_aload_n m190_1256 rfl ?_
              refine g_iload_n m190_1257 rfl ?_
              refine g_iconst m190_1258 ?_
              refine g_iadd (u := (4 : Int32)) m190_1259 (by decide) ?_
              refine g_iald (x := s4) m190_1260 rfl (vin rfl) rfl ?_
              refine g_aload_n m190_1261 rfl ?_
              refine g_iload_n m190_1262 rfl ?_
              refine g_iconst m190_1263 ?_
              refine g_iadd (u := (5 : Int32)) m190_1264 (by decide) ?_
              refine g_iald (x := s5) m190_1265 rfl (vin rfl) rfl ?_
              refine g_cv (args := [.int (3), .int _, .int (3), .int _, .int _]) (rest := [.int (-1000000002)]) m190_1266 (Nat.le_of_ble_eq_true rfl) rfl rfl rfl (Nat.le_of_ble_eq_true rfl) ?_
              refine wp_in (L := [some (.ref 89), some (.int (3)), some (.int _), some (.int (3)), some (.int _), some (.int _), none]) (Nat.le_of_ble_eq_true rfl) rfl ?_
              refine g_iload_n m181_0 rfl ?_
              refine g_cs (args := [.int (3)]) (rest := []) 0 (Or.inl rfl) m181_1 (Nat.le_of_ble_eq_true rfl) rfl rfl (Nat.le_of_ble_eq_true rfl) ?_
              refine wp_in (L := [some (.int (3))]) (Nat.le_of_ble_eq_true rfl) rfl ?_
              refine g_iload_n m160_0 rfl ?_
              refine g_iconst m160_1 ?_
              refine g_iconst m160_2 ?_
              refine g_cs (args := [.int (3), .int (0), .int (3)]) (rest := []) 0 (Or.inl rfl) m160_3 (Nat.le_of_ble_eq_true rfl) rfl rfl (Nat.le_of_ble_eq_true rfl) ?_
              refine wp_in (L := [some (.int (3)), some (.int (0)), some (.int (3))]) (Nat.le_of_ble_eq_true rfl) rfl ?_
              refine g_iload_n m107_0 rfl ?_
              refine g_iload_n m107_1 rfl ?_
              refine g_ic_ltF m107_2 (by decide) ?_
              refine g_iload_n m107_5 rfl ?_
              refine g_iload_n m107_6 rfl ?_
              refine g_ic_gtF m107_7 (by decide) ?_
              refine g_iconst m107_10 ?_
              refine g_goto m107_11 ?_
              refine g_zret m107_15 rfl (Or.inr rfl) ?_
              refine gwst (st' := [.int (1)]) rfl ?_
              refine g_zret m160_6 rfl (Or.inr rfl) ?_
              refine gwst (st' := [.int (1)]) rfl ?_
              refine g_if_eqF m181_4 (by decide) ?_
              refine g_iload_n m181_7 rfl ?_
              refine g_cs (args := [.int (3)]) (rest := []) 0 (Or.inl rfl) m181_8 (Nat.le_of_ble_eq_true rfl) rfl rfl (Nat.le_of_ble_eq_true rfl) ?_
              refine wp_in (L := [some (.int (3))]) (Nat.le_of_ble_eq_true rfl) rfl ?_
              refine g_iload_n m160_0 rfl ?_
              refine g_iconst m160_1 ?_
              refine g_iconst m160_2 ?_
              refine g_cs (args := [.int (3), .int (0), .int (3)]) (rest := []) 0 (Or.inl rfl) m160_3 (Nat.le_of_ble_eq_true rfl) rfl rfl (Nat.le_of_ble_eq_true rfl) ?_
              refine wp_in (L := [some (.int (3)), some (.int (0)), some (.int (3))]) (Nat.le_of_ble_eq_true rfl) rfl ?_
              refine g_iload_n m107_0 rfl ?_
              refine g_iload_n m107_1 rfl ?_
              refine g_ic_ltF m107_2 (by decide) ?_
              refine g_iload_n m107_5 rfl ?_
              refine g_iload_n m107_6 rfl ?_
              refine g_ic_gtF m107_7 (by decide) ?_
              refine g_iconst m107_10 ?_
              refine g_goto m107_11 ?_
              refine g_zret m107_15 rfl (Or.inr rfl) ?_
              refine gwst (st' := [.int (1)]) rfl ?_
              refine g_zret m160_6 rfl (Or.inr rfl) ?_
              refine gwst (st' := [.int (1)]) rfl ?_
              refine g_if_neF m181_11 (by decide) ?_
              refine g_aload_n m181_21 rfl ?_
              refine g_gf m181_22 rfl rfl ?_
              refine g_iload_n m181_25 rfl ?_
              refine g_iald (x := (0 : Int32)) m181_26 rfl (vin rfl) rfl ?_
              refine g_if_eqT m181_27 (by decide) ?_
              refine g_aload_n m181_39 rfl ?_
              refine g_ldci m181_40 rfl ?_
              refine g_cv (args := [.int (-1000000002)]) (rest := []) m181_42 (Nat.le_of_ble_eq_true rfl) rfl rfl rfl (Nat.le_of_ble_eq_true rfl) ?_
              refine wp_in (L := [some (.ref 89), some (.int (-1000000002))]) (Nat.le_of_ble_eq_true rfl) rfl ?_
              refine g_aload_n m108_0 rfl ?_
              refine g_gf m108_1 rfl rfl ?_
              refine g_ldci m108_4 rfl ?_
              refine g_iload_n m108_6 rfl ?_
              refine g_isub (u := (2 : Int32)) m108_7 (by decide) ?_
              refine g_dup2 m108_8 rfl rfl ?_
              refine g_iald (x := (0 : Int32)) m108_9 rfl (vin rfl) rfl ?_
              refine g_iconst m108_10 ?_
              refine g_iadd (u := (1 : Int32)) m108_11 (by decide) ?_
              refine g_iast m108_12 (Nat.le_of_ble_eq_true rfl) rfl (vin rfl) rfl rfl rfl ?_
              refine g_iload_n m108_13 rfl ?_
              refine g_iret m108_14 rfl ?_
              refine gwst (st' := [.int (-1000000002)]) rfl ?_
              refine g_iret m181_45 rfl ?_
              refine gwst (st' := [.int (-1000000002), .int (-1000000002)]) rfl ?_
              refine g_ic_eqT m190_1269 (by decide) ?_
              refine g_iinc (x2 := (6 : Int32)) (L2 := [some (.ref 0), some (.ref 32), some (.ref 89), some (.int (6))]) m190_1428 rfl (by decide) rfl rfl ?_
              refine g_goto m190_1431 ?_
              refine g_iload_n m190_18 rfl ?_
              refine g_aload_n m190_19 rfl ?_
              refine g_alen (n := 6) m190_20 rfl (Or.inl rfl) rfl ?_
              refine g_bipush m190_21 ?_
              refine g_isub (u := (0 : Int32)) m190_23 (by decide) ?_
              refine g_ic_gtT m190_24 (by decide) ?_
              refine g_iconst m190_1434 ?_
              refine g_zret m190_1435 rfl (Or.inr rfl) ?_
              exact rfl
