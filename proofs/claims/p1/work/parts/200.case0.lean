/-! THE LAW'S CASES 0, 1, 2, over two new objects -/
set_option maxRecDepth 20000 in
set_option maxHeartbeats 40000000 in
theorem lc_0 {s0 s1 s2 s3 s4 s5 : Int32} {d mc ms : Nat} : gw [s0, s1, s2, s3, s4, s5] (WP [s0, s1, s2, s3, s4, s5] (d + 20)) 190 (fun r _ => r = some (.int 1)) 208 [some (.ref 0), some (.ref 32), some (.ref 89), some (.int 0)] [] (hX0 ++ hM0) mc ms := by
  refine g_aload_n m190_208 rfl ?_
  refine g_aload_n m190_209 rfl ?_
  refine g_iload_n m190_210 rfl ?_
  refine g_iconst m190_211 ?_
  refine g_iadd (u := (1 : Int32)) m190_212 (by decide) ?_
  refine g_iald (x := s1) m190_213 rfl (vin rfl) rfl ?_
  refine g_aload_n m190_214 rfl ?_
  refine g_iload_n m190_215 rfl ?_
  refine g_iconst m190_216 ?_
  refine g_iadd (u := (2 : Int32)) m190_217 (by decide) ?_
  refine g_iald (x := s2) m190_218 rfl (vin rfl) rfl ?_
  refine g_cv (args := [.int _, .int _]) (rest := []) m190_219 (Nat.le_of_ble_eq_true rfl) rfl rfl rfl (Nat.le_of_ble_eq_true rfl) ?_
  refine wp_in (L := [some (.ref 32), some (.int _), some (.int _), none]) (Nat.le_of_ble_eq_true rfl) rfl ?_
  refine g_iload_n m56_0 rfl ?_
  refine g_bipush m56_1 ?_
  refine g_cs (args := [.int _, .int (7)]) (rest := []) 0 (Or.inl rfl) m56_3 (Nat.le_of_ble_eq_true rfl) rfl rfl (Nat.le_of_ble_eq_true rfl) ?_
  refine wp_in (L := [some (.int _), some (.int (7))]) (Nat.le_of_ble_eq_true rfl) rfl ?_
  refine g_iload_n m54_0 rfl ?_
  refine g_if_lt m54_1 (fun c1 => ?_) (fun c1 => ?_)
  · have d2 : (s1).toInt < 0 := (lt_k (by rfl) (by rfl)).mp c1
    refine g_iconst m54_13 ?_
    refine g_zret m54_14 rfl (Or.inl rfl) ?_
    refine gwst (st' := [.int (0)]) rfl ?_
    refine g_if_eqT m56_6 (by decide) ?_
    refine g_aload_n m56_18 rfl ?_
    refine g_iconst m56_19 ?_
    refine g_cv (args := [.int (1)]) (rest := []) m56_20 (Nat.le_of_ble_eq_true rfl) rfl rfl rfl (Nat.le_of_ble_eq_true rfl) ?_
    refine wp_in (L := [some (.ref 32), some (.int (1))]) (Nat.le_of_ble_eq_true rfl) rfl ?_
    refine g_aload_n m55_0 rfl ?_
    refine g_gf m55_1 rfl rfl ?_
    refine g_iload_n m55_4 rfl ?_
    refine g_dup2 m55_5 rfl rfl ?_
    refine g_iald (x := (0 : Int32)) m55_6 rfl (vin rfl) rfl ?_
    refine g_iconst m55_7 ?_
    refine g_iadd (u := (1 : Int32)) m55_8 (by decide) ?_
    refine g_iast m55_9 (Nat.le_of_ble_eq_true rfl) rfl (vin rfl) rfl rfl rfl ?_
    refine g_ldcw m55_10 ?_
    refine g_iload_n m55_13 rfl ?_
    refine g_isub (u := (-1000000001 : Int32)) m55_14 (by decide) ?_
    refine g_iret m55_15 rfl ?_
    refine gwst (st' := [.int (-1000000001)]) rfl ?_
    refine g_iret m56_23 rfl ?_
    refine gwst (st' := [.int (-1000000001)]) rfl ?_
    refine FRg rfl (fun f => ?_)
    refine g_aload_n m190_222 rfl ?_
    refine g_aload_n m190_223 rfl ?_
    refine g_iload_n m190_224 rfl ?_
    refine g_iconst m190_225 ?_
    refine g_iadd (u := (1 : Int32)) m190_226 (by decide) ?_
    refine g_iald (x := s1) m190_227 rfl (vin rfl) rfl ?_
    refine g_aload_n m190_228 rfl ?_
    refine g_iload_n m190_229 rfl ?_
    refine g_iconst m190_230 ?_
    refine g_iadd (u := (2 : Int32)) m190_231 (by decide) ?_
    refine g_iald (x := s2) m190_232 rfl (vin rfl) rfl ?_
    refine g_cv (args := [.int _, .int _]) (rest := [.int (-1000000001)]) m190_233 (Nat.le_of_ble_eq_true rfl) rfl rfl rfl (Nat.le_of_ble_eq_true rfl) ?_
    refine wp_in (L := [some (.ref 89), some (.int _), some (.int _)]) (Nat.le_of_ble_eq_true rfl) rfl ?_
    refine g_iload_n m115_0 rfl ?_
    refine g_iconst m115_1 ?_
    refine g_bipush m115_2 ?_
    refine g_cs (args := [.int _, .int (0), .int (7)]) (rest := []) 0 (Or.inl rfl) m115_4 (Nat.le_of_ble_eq_true rfl) rfl rfl (Nat.le_of_ble_eq_true rfl) ?_
    refine wp_in (L := [some (.int _), some (.int (0)), some (.int (7))]) (Nat.le_of_ble_eq_true rfl) rfl ?_
    refine g_iload_n m107_0 rfl ?_
    refine g_iload_n m107_1 rfl ?_
    refine g_ic_ltT m107_2 ((lt_k (a := (s1).toInt) (b := 0) (by rfl) (by rfl)).mpr (by omega)) ?_
    refine g_iconst m107_14 ?_
    refine g_zret m107_15 rfl (Or.inl rfl) ?_
    refine gwst (st' := [.int (0)]) rfl ?_
    refine g_if_eqT m115_7 (by decide) ?_
    refine g_aload_n m115_32 rfl ?_
    refine g_ldci m115_33 rfl ?_
    refine g_cv (args := [.int (-1000000001)]) (rest := []) m115_35 (Nat.le_of_ble_eq_true rfl) rfl rfl rfl (Nat.le_of_ble_eq_true rfl) ?_
    refine wp_in (L := [some (.ref 89), some (.int (-1000000001))]) (Nat.le_of_ble_eq_true rfl) rfl ?_
    refine g_aload_n m108_0 rfl ?_
    refine g_gf m108_1 rfl rfl ?_
    refine g_ldci m108_4 rfl ?_
    refine g_iload_n m108_6 rfl ?_
    refine g_isub (u := (1 : Int32)) m108_7 (by decide) ?_
    refine g_dup2 m108_8 rfl rfl ?_
    refine g_iald (x := (0 : Int32)) m108_9 rfl (vin rfl) rfl ?_
    refine g_iconst m108_10 ?_
    refine g_iadd (u := (1 : Int32)) m108_11 (by decide) ?_
    refine g_iast m108_12 (Nat.le_of_ble_eq_true rfl) rfl (vin rfl) rfl rfl rfl ?_
    refine g_iload_n m108_13 rfl ?_
    refine g_iret m108_14 rfl ?_
    refine gwst (st' := [.int (-1000000001)]) rfl ?_
    refine g_iret m115_38 rfl ?_
    refine gwst (st' := [.int (-1000000001), .int (-1000000001)]) rfl ?_
    refine g_ic_eqT m190_236 (by decide) ?_
    refine g_iinc (x2 := (6 : Int32)) (L2 := [some (.ref 0), some (.ref 32), some (.ref 89), some (.int (6))]) m190_1428 rfl (by decide) rfl rfl ?_
    refine g_goto m190_1431 ?_
    refine g_iload_n m190_18 rfl ?_
    refine g_aload_n m190_19 rfl ?_
    refine g_alen (n := 6) m190_20 rfl (Or.inl rfl) rfl ?_
    refine g_bipush m190_21 ?_
    refine g_isub (u := (0 : Int32)) m190_23 (by decide) ?_
    refine g_ic_gtT m190_24 (by decide) ?_
    refine g_iconst m190_1434 ?_
    refine g_zret m190_1435 rfl (Or.inr rfl) ?_
    exact rfl
  · have d2 : ¬ ((s1).toInt < 0) := fun q => c1 ((lt_k (by rfl) (by rfl)).mpr q)
    refine g_iload_n m54_4 rfl ?_
    refine g_iload_n m54_5 rfl ?_
    refine g_ic_gt m54_6 (fun c3 => ?_) (fun c3 => ?_)
    · have d4 : 7 < (s1).toInt := (lt_k (by rfl) (by rfl)).mp c3
      refine g_iconst m54_13 ?_
      refine g_zret m54_14 rfl (Or.inl rfl) ?_
      refine gwst (st' := [.int (0)]) rfl ?_
      refine g_if_eqT m56_6 (by decide) ?_
      refine g_aload_n m56_18 rfl ?_
      refine g_iconst m56_19 ?_
      refine g_cv (args := [.int (1)]) (rest := []) m56_20 (Nat.le_of_ble_eq_true rfl) rfl rfl rfl (Nat.le_of_ble_eq_true rfl) ?_
      refine wp_in (L := [some (.ref 32), some (.int (1))]) (Nat.le_of_ble_eq_true rfl) rfl ?_
      refine g_aload_n m55_0 rfl ?_
      refine g_gf m55_1 rfl rfl ?_
      refine g_iload_n m55_4 rfl ?_
      refine g_dup2 m55_5 rfl rfl ?_
      refine g_iald (x := (0 : Int32)) m55_6 rfl (vin rfl) rfl ?_
      refine g_iconst m55_7 ?_
      refine g_iadd (u := (1 : Int32)) m55_8 (by decide) ?_
      refine g_iast m55_9 (Nat.le_of_ble_eq_true rfl) rfl (vin rfl) rfl rfl rfl ?_
      refine g_ldcw m55_10 ?_
      refine g_iload_n m55_13 rfl ?_
      refine g_isub (u := (-1000000001 : Int32)) m55_14 (by decide) ?_
      refine g_iret m55_15 rfl ?_
      refine gwst (st' := [.int (-1000000001)]) rfl ?_
      refine g_iret m56_23 rfl ?_
      refine gwst (st' := [.int (-1000000001)]) rfl ?_
      refine FRg rfl (fun f => ?_)
      refine g_aload_n m190_222 rfl ?_
      refine g_aload_n m190_223 rfl ?_
      refine g_iload_n m190_224 rfl ?_
      refine g_iconst m190_225 ?_
      refine g_iadd (u := (1 : Int32)) m190_226 (by decide) ?_
      refine g_iald (x := s1) m190_227 rfl (vin rfl) rfl ?_
      refine g_aload_n m190_228 rfl ?_
      refine g_iload_n m190_229 rfl ?_
      refine g_iconst m190_230 ?_
      refine g_iadd (u := (2 : Int32)) m190_231 (by decide) ?_
      refine g_iald (x := s2) m190_232 rfl (vin rfl) rfl ?_
      refine g_cv (args := [.int _, .int _]) (rest := [.int (-1000000001)]) m190_233 (Nat.le_of_ble_eq_true rfl) rfl rfl rfl (Nat.le_of_ble_eq_true rfl) ?_
      refine wp_in (L := [some (.ref 89), some (.int _), some (.int _)]) (Nat.le_of_ble_eq_true rfl) rfl ?_
      refine g_iload_n m115_0 rfl ?_
      refine g_iconst m115_1 ?_
      refine g_bipush m115_2 ?_
      refine g_cs (args := [.int _, .int (0), .int (7)]) (rest := []) 0 (Or.inl rfl) m115_4 (Nat.le_of_ble_eq_true rfl) rfl rfl (Nat.le_of_ble_eq_true rfl) ?_
      refine wp_in (L := [some (.int _), some (.int (0)), some (.int (7))]) (Nat.le_of_ble_eq_true rfl) rfl ?_
      refine g_iload_n m107_0 rfl ?_
      refine g_iload_n m107_1 rfl ?_
      refine g_ic_ltF m107_2 (fun q => absurd ((lt_k (a := (s1).toInt) (b := 0) (by rfl) (by rfl)).mp q) (by omega)) ?_
      refine g_iload_n m107_5 rfl ?_
      refine g_iload_n m107_6 rfl ?_
      refine g_ic_gtT m107_7 ((lt_k (a := 7) (b := (s1).toInt) (by rfl) (by rfl)).mpr (by omega)) ?_
      refine g_iconst m107_14 ?_
      refine g_zret m107_15 rfl (Or.inl rfl) ?_
      refine gwst (st' := [.int (0)]) rfl ?_
      refine g_if_eqT m115_7 (by decide) ?_
      refine g_aload_n m115_32 rfl ?_
      refine g_ldci m115_33 rfl ?_
      refine g_cv (args := [.int (-1000000001)]) (rest := []) m115_35 (Nat.le_of_ble_eq_true rfl) rfl rfl rfl (Nat.le_of_ble_eq_true rfl) ?_
      refine wp_in (L := [some (.ref 89), some (.int (-1000000001))]) (Nat.le_of_ble_eq_true rfl) rfl ?_
      refine g_aload_n m108_0 rfl ?_
      refine g_gf m108_1 rfl rfl ?_
      refine g_ldci m108_4 rfl ?_
      refine g_iload_n m108_6 rfl ?_
      refine g_isub (u := (1 : Int32)) m108_7 (by decide) ?_
      refine g_dup2 m108_8 rfl rfl ?_
      refine g_iald (x := (0 : Int32)) m108_9 rfl (vin rfl) rfl ?_
      refine g_iconst m108_10 ?_
      refine g_iadd (u := (1 : Int32)) m108_11 (by decide) ?_
      refine g_iast m108_12 (Nat.le_of_ble_eq_true rfl) rfl (vin rfl) rfl rfl rfl ?_
      refine g_iload_n m108_13 rfl ?_
      refine g_iret m108_14 rfl ?_
      refine gwst (st' := [.int (-1000000001)]) rfl ?_
      refine g_iret m115_38 rfl ?_
      refine gwst (st' := [.int (-1000000001), .int (-1000000001)]) rfl ?_
      refine g_ic_eqT m190_236 (by decide) ?_
      refine g_iinc (x2 := (6 : Int32)) (L2 := [some (.ref 0), some (.ref 32), some (.ref 89), some (.int (6))]) m190_1428 rfl (by decide) rfl rfl ?_
      refine g_goto m190_1431 ?_
      refine g_iload_n m190_18 rfl ?_
      refine g_aload_n m190_19 rfl ?_
      refine g_alen (n := 6) m190_20 rfl (Or.inl rfl) rfl ?_
      refine g_bipush m190_21 ?_
      refine g_isub (u := (0 : Int32)) m190_23 (by decide) ?_
      refine g_ic_gtT m190_24 (by decide) ?_
      refine g_iconst m190_1434 ?_
      refine g_zret m190_1435 rfl (Or.inr rfl) ?_
      exact rfl
    · have d4 : ¬ (7 < (s1).toInt) := fun q => c3 ((lt_k (by rfl) (by rfl)).mpr q)
      refine g_iconst m54_9 ?_
      refine g_goto m54_10 ?_
      refine g_zret m54_14 rfl (Or.inr rfl) ?_
      refine gwst (st' := [.int (1)]) rfl ?_
      refine g_if_eqF m56_6 (by decide) ?_
      refine g_iload_n m56_9 rfl ?_
      refine g_bipush m56_10 ?_
      refine g_cs (args := [.int _, .int (30)]) (rest := []) 0 (Or.inl rfl) m56_12 (Nat.le_of_ble_eq_true rfl) rfl rfl (Nat.le_of_ble_eq_true rfl) ?_
      refine wp_in (L := [some (.int _), some (.int (30))]) (Nat.le_of_ble_eq_true rfl) rfl ?_
      refine g_iload_n m54_0 rfl ?_
      refine g_if_lt m54_1 (fun c5 => ?_) (fun c5 => ?_)
      · have d6 : (s2).toInt < 0 := (lt_k (by rfl) (by rfl)).mp c5
        refine g_iconst m54_13 ?_
        refine g_zret m54_14 rfl (Or.inl rfl) ?_
        refine gwst (st' := [.int (0)]) rfl ?_
        refine g_if_neT m56_15 (by decide) ?_
        refine g_aload_n m56_18 rfl ?_
        refine g_iconst m56_19 ?_
        refine g_cv (args := [.int (1)]) (rest := []) m56_20 (Nat.le_of_ble_eq_true rfl) rfl rfl rfl (Nat.le_of_ble_eq_true rfl) ?_
        refine wp_in (L := [some (.ref 32), some (.int (1))]) (Nat.le_of_ble_eq_true rfl) rfl ?_
        refine g_aload_n m55_0 rfl ?_
        refine g_gf m55_1 rfl rfl ?_
        refine g_iload_n m55_4 rfl ?_
        refine g_dup2 m55_5 rfl rfl ?_
        refine g_iald (x := (0 : Int32)) m55_6 rfl (vin rfl) rfl ?_
        refine g_iconst m55_7 ?_
        refine g_iadd (u := (1 : Int32)) m55_8 (by decide) ?_
        refine g_iast m55_9 (Nat.le_of_ble_eq_true rfl) rfl (vin rfl) rfl rfl rfl ?_
        refine g_ldcw m55_10 ?_
        refine g_iload_n m55_13 rfl ?_
        refine g_isub (u := (-1000000001 : Int32)) m55_14 (by decide) ?_
        refine g_iret m55_15 rfl ?_
        refine gwst (st' := [.int (-1000000001)]) rfl ?_
        refine g_iret m56_23 rfl ?_
        refine gwst (st' := [.int (-1000000001)]) rfl ?_
        refine FRg rfl (fun f => ?_)
        refine g_aload_n m190_222 rfl ?_
        refine g_aload_n m190_223 rfl ?_
        refine g_iload_n m190_224 rfl ?_
        refine g_iconst m190_225 ?_
        refine g_iadd (u := (1 : Int32)) m190_226 (by decide) ?_
        refine g_iald (x := s1) m190_227 rfl (vin rfl) rfl ?_
        refine g_aload_n m190_228 rfl ?_
        refine g_iload_n m190_229 rfl ?_
        refine g_iconst m190_230 ?_
        refine g_iadd (u := (2 : Int32)) m190_231 (by decide) ?_
        refine g_iald (x := s2) m190_232 rfl (vin rfl) rfl ?_
        refine g_cv (args := [.int _, .int _]) (rest := [.int (-1000000001)]) m190_233 (Nat.le_of_ble_eq_true rfl) rfl rfl rfl (Nat.le_of_ble_eq_true rfl) ?_
        refine wp_in (L := [some (.ref 89), some (.int _), some (.int _)]) (Nat.le_of_ble_eq_true rfl) rfl ?_
        refine g_iload_n m115_0 rfl ?_
        refine g_iconst m115_1 ?_
        refine g_bipush m115_2 ?_
        refine g_cs (args := [.int _, .int (0), .int (7)]) (rest := []) 0 (Or.inl rfl) m115_4 (Nat.le_of_ble_eq_true rfl) rfl rfl (Nat.le_of_ble_eq_true rfl) ?_
        refine wp_in (L := [some (.int _), some (.int (0)), some (.int (7))]) (Nat.le_of_ble_eq_true rfl) rfl ?_
        refine g_iload_n m107_0 rfl ?_
        refine g_iload_n m107_1 rfl ?_
        refine g_ic_ltF m107_2 (fun q => absurd ((lt_k (a := (s1).toInt) (b := 0) (by rfl) (by rfl)).mp q) (by omega)) ?_
        refine g_iload_n m107_5 rfl ?_
        refine g_iload_n m107_6 rfl ?_
        refine g_ic_gtF m107_7 (fun q => absurd ((lt_k (a := 7) (b := (s1).toInt) (by rfl) (by rfl)).mp q) (by omega)) ?_
        refine g_iconst m107_10 ?_
        refine g_goto m107_11 ?_
        refine g_zret m107_15 rfl (Or.inr rfl) ?_
        refine gwst (st' := [.int (1)]) rfl ?_
        refine g_if_eqF m115_7 (by decide) ?_
        refine g_iload_n m115_10 rfl ?_
        refine g_iconst m115_11 ?_
        refine g_bipush m115_12 ?_
        refine g_cs (args := [.int _, .int (0), .int (30)]) (rest := []) 0 (Or.inl rfl) m115_14 (Nat.le_of_ble_eq_true rfl) rfl rfl (Nat.le_of_ble_eq_true rfl) ?_
        refine wp_in (L := [some (.int _), some (.int (0)), some (.int (30))]) (Nat.le_of_ble_eq_true rfl) rfl ?_
        refine g_iload_n m107_0 rfl ?_
        refine g_iload_n m107_1 rfl ?_
        refine g_ic_ltT m107_2 ((lt_k (a := (s2).toInt) (b := 0) (by rfl) (by rfl)).mpr (by omega)) ?_
        refine g_iconst m107_14 ?_
        refine g_zret m107_15 rfl (Or.inl rfl) ?_
        refine gwst (st' := [.int (0)]) rfl ?_
        refine g_if_eqT m115_17 (by decide) ?_
        refine g_aload_n m115_32 rfl ?_
        refine g_ldci m115_33 rfl ?_
        refine g_cv (args := [.int (-1000000001)]) (rest := []) m115_35 (Nat.le_of_ble_eq_true rfl) rfl rfl rfl (Nat.le_of_ble_eq_true rfl) ?_
        refine wp_in (L := [some (.ref 89), some (.int (-1000000001))]) (Nat.le_of_ble_eq_true rfl) rfl ?_
        refine g_aload_n m108_0 rfl ?_
        refine g_gf m108_1 rfl rfl ?_
        refine g_ldci m108_4 rfl ?_
        refine g_iload_n m108_6 rfl ?_
        refine g_isub (u := (1 : Int32)) m108_7 (by decide) ?_
        refine g_dup2 m108_8 rfl rfl ?_
        refine g_iald (x := (0 : Int32)) m108_9 rfl (vin rfl) rfl ?_
        refine g_iconst m108_10 ?_
        refine g_iadd (u := (1 : Int32)) m108_11 (by decide) ?_
        refine g_iast m108_12 (Nat.le_of_ble_eq_true rfl) rfl (vin rfl) rfl rfl rfl ?_
        refine g_iload_n m108_13 rfl ?_
        refine g_iret m108_14 rfl ?_
        refine gwst (st' := [.int (-1000000001)]) rfl ?_
        refine g_iret m115_38 rfl ?_
        refine gwst (st' := [.int (-1000000001), .int (-1000000001)]) rfl ?_
        refine g_ic_eqT m190_236 (by decide) ?_
        refine g_iinc (x2 := (6 : Int32)) (L2 := [some (.ref 0), some (.ref 32), some (.ref 89), some (.int (6))]) m190_1428 rfl (by decide) rfl rfl ?_
        refine g_goto m190_1431 ?_
        refine g_iload_n m190_18 rfl ?_
        refine g_aload_n m190_19 rfl ?_
        refine g_alen (n := 6) m190_20 rfl (Or.inl rfl) rfl ?_
        refine g_bipush m190_21 ?_
        refine g_isub (u := (0 : Int32)) m190_23 (by decide) ?_
        refine g_ic_gtT m190_24 (by decide) ?_
        refine g_iconst m190_1434 ?_
        refine g_zret m190_1435 rfl (Or.inr rfl) ?_
        exact rfl
      · have d6 : ¬ ((s2).toInt < 0) := fun q => c5 ((lt_k (by rfl) (by rfl)).mpr q)
        refine g_iload_n m54_4 rfl ?_
        refine g_iload_n m54_5 rfl ?_
        refine g_ic_gt m54_6 (fun c7 => ?_) (fun c7 => ?_)
        · have d8 : 30 < (s2).toInt := (lt_k (by rfl) (by rfl)).mp c7
          refine g_iconst m54_13 ?_
          refine g_zret m54_14 rfl (Or.inl rfl) ?_
          refine gwst (st' := [.int (0)]) rfl ?_
          refine g_if_neT m56_15 (by decide) ?_
          refine g_aload_n m56_18 rfl ?_
          refine g_iconst m56_19 ?_
          refine g_cv (args := [.int (1)]) (rest := []) m56_20 (Nat.le_of_ble_eq_true rfl) rfl rfl rfl (Nat.le_of_ble_eq_true rfl) ?_
          refine wp_in (L := [some (.ref 32), some (.int (1))]) (Nat.le_of_ble_eq_true rfl) rfl ?_
          refine g_aload_n m55_0 rfl ?_
          refine g_gf m55_1 rfl rfl ?_
          refine g_iload_n m55_4 rfl ?_
          refine g_dup2 m55_5 rfl rfl ?_
          refine g_iald (x := (0 : Int32)) m55_6 rfl (vin rfl) rfl ?_
          refine g_iconst m55_7 ?_
          refine g_iadd (u := (1 : Int32)) m55_8 (by decide) ?_
          refine g_iast m55_9 (Nat.le_of_ble_eq_true rfl) rfl (vin rfl) rfl rfl rfl ?_
          refine g_ldcw m55_10 ?_
          refine g_iload_n m55_13 rfl ?_
          refine g_isub (u := (-1000000001 : Int32)) m55_14 (by decide) ?_
          refine g_iret m55_15 rfl ?_
          refine gwst (st' := [.int (-1000000001)]) rfl ?_
          refine g_iret m56_23 rfl ?_
          refine gwst (st' := [.int (-1000000001)]) rfl ?_
          refine FRg rfl (fun f => ?_)
          refine g_aload_n m190_222 rfl ?_
          refine g_aload_n m190_223 rfl ?_
          refine g_iload_n m190_224 rfl ?_
          refine g_iconst m190_225 ?_
          refine g_iadd (u := (1 : Int32)) m190_226 (by decide) ?_
          refine g_iald (x := s1) m190_227 rfl (vin rfl) rfl ?_
          refine g_aload_n m190_228 rfl ?_
          refine g_iload_n m190_229 rfl ?_
          refine g_iconst m190_230 ?_
          refine g_iadd (u := (2 : Int32)) m190_231 (by decide) ?_
          refine g_iald (x := s2) m190_232 rfl (vin rfl) rfl ?_
          refine g_cv (args := [.int _, .int _]) (rest := [.int (-1000000001)]) m190_233 (Nat.le_of_ble_eq_true rfl) rfl rfl rfl (Nat.le_of_ble_eq_true rfl) ?_
          refine wp_in (L := [some (.ref 89), some (.int _), some (.int _)]) (Nat.le_of_ble_eq_true rfl) rfl ?_
          refine g_iload_n m115_0 rfl ?_
          refine g_iconst m115_1 ?_
          refine g_bipush m115_2 ?_
          refine g_cs (args := [.int _, .int (0), .int (7)]) (rest := []) 0 (Or.inl rfl) m115_4 (Nat.le_of_ble_eq_true rfl) rfl rfl (Nat.le_of_ble_eq_true rfl) ?_
          refine wp_in (L := [some (.int _), some (.int (0)), some (.int (7))]) (Nat.le_of_ble_eq_true rfl) rfl ?_
          refine g_iload_n m107_0 rfl ?_
          refine g_iload_n m107_1 rfl ?_
          refine g_ic_ltF m107_2 (fun q => absurd ((lt_k (a := (s1).toInt) (b := 0) (by rfl) (by rfl)).mp q) (by omega)) ?_
          refine g_iload_n m107_5 rfl ?_
          refine g_iload_n m107_6 rfl ?_
          refine g_ic_gtF m107_7 (fun q => absurd ((lt_k (a := 7) (b := (s1).toInt) (by rfl) (by rfl)).mp q) (by omega)) ?_
          refine g_iconst m107_10 ?_
          refine g_goto m107_11 ?_
          refine g_zret m107_15 rfl (Or.inr rfl) ?_
          refine gwst (st' := [.int (1)]) rfl ?_
          refine g_if_eqF m115_7 (by decide) ?_
          refine g_iload_n m115_10 rfl ?_
          refine g_iconst m115_11 ?_
          refine g_bipush m115_12 ?_
          refine g_cs (args := [.int _, .int (0), .int (30)]) (rest := []) 0 (Or.inl rfl) m115_14 (Nat.le_of_ble_eq_true rfl) rfl rfl (Nat.le_of_ble_eq_true rfl) ?_
          refine wp_in (L := [some (.int _), some (.int (0)), some (.int (30))]) (Nat.le_of_ble_eq_true rfl) rfl ?_
          refine g_iload_n m107_0 rfl ?_
          refine g_iload_n m107_1 rfl ?_
          refine g_ic_ltF m107_2 (fun q => absurd ((lt_k (a := (s2).toInt) (b := 0) (by rfl) (by rfl)).mp q) (by omega)) ?_
          refine g_iload_n m107_5 rfl ?_
          refine g_iload_n m107_6 rfl ?_
          refine g_ic_gtT m107_7 ((lt_k (a := 30) (b := (s2).toInt) (by rfl) (by rfl)).mpr (by omega)) ?_
          refine g_iconst m107_14 ?_
          refine g_zret m107_15 rfl (Or.inl rfl) ?_
          refine gwst (st' := [.int (0)]) rfl ?_
          refine g_if_eqT m115_17 (by decide) ?_
          refine g_aload_n m115_32 rfl ?_
          refine g_ldci m115_33 rfl ?_
          refine g_cv (args := [.int (-1000000001)]) (rest := []) m115_35 (Nat.le_of_ble_eq_true rfl) rfl rfl rfl (Nat.le_of_ble_eq_true rfl) ?_
          refine wp_in (L := [some (.ref 89), some (.int (-1000000001))]) (Nat.le_of_ble_eq_true rfl) rfl ?_
          refine g_aload_n m108_0 rfl ?_
          refine g_gf m108_1 rfl rfl ?_
          refine g_ldci m108_4 rfl ?_
          refine g_iload_n m108_6 rfl ?_
          refine g_isub (u := (1 : Int32)) m108_7 (by decide) ?_
          refine g_dup2 m108_8 rfl rfl ?_
          refine g_iald (x := (0 : Int32)) m108_9 rfl (vin rfl) rfl ?_
          refine g_iconst m108_10 ?_
          refine g_iadd (u := (1 : Int32)) m108_11 (by decide) ?_
          refine g_iast m108_12 (Nat.le_of_ble_eq_true rfl) rfl (vin rfl) rfl rfl rfl ?_
          refine g_iload_n m108_13 rfl ?_
          refine g_iret m108_14 rfl ?_
          refine gwst (st' := [.int (-1000000001)]) rfl ?_
          refine g_iret m115_38 rfl ?_
          refine gwst (st' := [.int (-1000000001), .int (-1000000001)]) rfl ?_
          refine g_ic_eqT m190_236 (by decide) ?_
          refine g_iinc (x2 := (6 : Int32)) (L2 := [some (.ref 0), some (.ref 32), some (.ref 89), some (.int (6))]) m190_1428 rfl (by decide) rfl rfl ?_
          refine g_goto m190_1431 ?_
          refine g_iload_n m190_18 rfl ?_
          refine g_aload_n m190_19 rfl ?_
          refine g_alen (n := 6) m190_20 rfl (Or.inl rfl) rfl ?_
          refine g_bipush m190_21 ?_
          refine g_isub (u := (0 : Int32)) m190_23 (by decide) ?_
          refine g_ic_gtT m190_24 (by decide) ?_
          refine g_iconst m190_1434 ?_
          refine g_zret m190_1435 rfl (Or.inr rfl) ?_
          exact rfl
        · have d8 : ¬ (30 < (s2).toInt) := fun q => c7 ((lt_k (by rfl) (by rfl)).mpr q)
          refine g_iconst m54_9 ?_
          refine g_goto m54_10 ?_
          refine g_zret m54_14 rfl (Or.inr rfl) ?_
          refine gwst (st' := [.int (1)]) rfl ?_
          refine g_if_neF m56_15 (by decide) ?_
          refine g_aload_n m56_24 rfl ?_
          refine g_gf m56_25 rfl rfl ?_
          refine g_gf m56_28 rfl rfl ?_
          refine g_iload_n m56_31 rfl ?_
          obtain ⟨j9, e10, x11⟩ := nat_of (x := s1) (lo := 0) (hi := 7) (by omega) (by omega)
          rcases (show j9 = 0 ∨ j9 = 1 ∨ j9 = 2 ∨ j9 = 3 ∨ j9 = 4 ∨ j9 = 5 ∨ j9 = 6 ∨ j9 = 7 by omega) with rfl | rfl | rfl | rfl | rfl | rfl | rfl | rfl
          · have x11q : s1 = (0 : Int32) := x11
            clear x11
            subst x11q
            refine g_iald (x := (5 : Int32)) m56_32 rfl (vin rfl) rfl ?_
            refine g_istore_n (L2 := [some (.ref 32), some (.int (0)), some (.int _), some (.int (5))]) m56_33 rfl rfl ?_
            refine g_aload_n m56_34 rfl ?_
            refine g_gf m56_35 rfl rfl ?_
            refine g_gf m56_38 rfl rfl ?_
            refine g_iload_n m56_41 rfl ?_
            refine g_iload_n m56_42 rfl ?_
            refine g_iast m56_43 (Nat.le_of_ble_eq_true rfl) rfl (vin rfl) rfl rfl rfl ?_
            refine g_iload_n m56_44 rfl ?_
            refine g_iret m56_45 rfl ?_
            refine gwst (st' := [.int (5)]) rfl ?_
            refine FRg rfl (fun f => ?_)
            refine g_aload_n m190_222 rfl ?_
            refine g_aload_n m190_223 rfl ?_
            refine g_iload_n m190_224 rfl ?_
            refine g_iconst m190_225 ?_
            refine g_iadd (u := (1 : Int32)) m190_226 (by decide) ?_
            refine g_iald (x := (0 : Int32)) m190_227 rfl (vin rfl) rfl ?_
            refine g_aload_n m190_228 rfl ?_
            refine g_iload_n m190_229 rfl ?_
            refine g_iconst m190_230 ?_
            refine g_iadd (u := (2 : Int32)) m190_231 (by decide) ?_
            refine g_iald (x := s2) m190_232 rfl (vin rfl) rfl ?_
            refine g_cv (args := [.int (0), .int _]) (rest := [.int (5)]) m190_233 (Nat.le_of_ble_eq_true rfl) rfl rfl rfl (Nat.le_of_ble_eq_true rfl) ?_
            refine wp_in (L := [some (.ref 89), some (.int (0)), some (.int _)]) (Nat.le_of_ble_eq_true rfl) rfl ?_
            refine g_iload_n m115_0 rfl ?_
            refine g_iconst m115_1 ?_
            refine g_bipush m115_2 ?_
            refine g_cs (args := [.int (0), .int (0), .int (7)]) (rest := []) 0 (Or.inl rfl) m115_4 (Nat.le_of_ble_eq_true rfl) rfl rfl (Nat.le_of_ble_eq_true rfl) ?_
            refine wp_in (L := [some (.int (0)), some (.int (0)), some (.int (7))]) (Nat.le_of_ble_eq_true rfl) rfl ?_
            refine g_iload_n m107_0 rfl ?_
            refine g_iload_n m107_1 rfl ?_
            refine g_ic_ltF m107_2 (by decide) ?_
            refine g_iload_n m107_5 rfl ?_
            refine g_iload_n m107_6 rfl ?_
            refine g_ic_gtF m107_7 (by decide) ?_
            refine g_iconst m107_10 ?_
            refine g_goto m107_11 ?_
            refine g_zret m107_15 rfl (Or.inr rfl) ?_
            refine gwst (st' := [.int (1)]) rfl ?_
            refine g_if_eqF m115_7 (by decide) ?_
            refine g_iload_n m115_10 rfl ?_
            refine g_iconst m115_11 ?_
            refine g_bipush m115_12 ?_
            refine g_cs (args := [.int _, .int (0), .int (30)]) (rest := []) 0 (Or.inl rfl) m115_14 (Nat.le_of_ble_eq_true rfl) rfl rfl (Nat.le_of_ble_eq_true rfl) ?_
            refine wp_in (L := [some (.int _), some (.int (0)), some (.int (30))]) (Nat.le_of_ble_eq_true rfl) rfl ?_
            refine g_iload_n m107_0 rfl ?_
            refine g_iload_n m107_1 rfl ?_
            refine g_ic_ltF m107_2 (fun q => absurd ((lt_k (a := (s2).toInt) (b := 0) (by rfl) (by rfl)).mp q) (by omega)) ?_
            refine g_iload_n m107_5 rfl ?_
            refine g_iload_n m107_6 rfl ?_
            refine g_ic_gtF m107_7 (fun q => absurd ((lt_k (a := 30) (b := (s2).toInt) (by rfl) (by rfl)).mp q) (by omega)) ?_
            refine g_iconst m107_10 ?_
            refine g_goto m107_11 ?_
            refine g_zret m107_15 rfl (Or.inr rfl) ?_
            refine gwst (st' := [.int (1)]) rfl ?_
            refine g_if_eqF m115_17 (by decide) ?_
            refine g_aload_n m115_20 rfl ?_
            refine g_bipush m115_21 ?_
            refine g_iload_n m115_23 rfl ?_
            refine g_iadd (u := (8 : Int32)) m115_24 (by decide) ?_
            refine g_iload_n m115_25 rfl ?_
            refine g_cv (args := [.int (8), .int _]) (rest := []) m115_26 (Nat.le_of_ble_eq_true rfl) rfl rfl rfl (Nat.le_of_ble_eq_true rfl) ?_
            refine wp_in (L := [some (.ref 89), some (.int (8)), some (.int _), none]) (Nat.le_of_ble_eq_true rfl) rfl ?_
            refine g_aload_n m114_0 rfl ?_
            refine g_gf m114_1 rfl rfl ?_
            refine g_iload_n m114_4 rfl ?_
            refine g_iald (x := (5 : Int32)) m114_5 rfl (vin rfl) rfl ?_
            refine g_istore_n (L2 := [some (.ref 89), some (.int (8)), some (.int _), some (.int (5))]) m114_6 rfl rfl ?_
            refine g_aload_n m114_7 rfl ?_
            refine g_gf m114_8 rfl rfl ?_
            refine g_iload_n m114_11 rfl ?_
            refine g_iload_n m114_12 rfl ?_
            refine g_iast m114_13 (Nat.le_of_ble_eq_true rfl) rfl (vin rfl) rfl rfl rfl ?_
            refine g_iload_n m114_14 rfl ?_
            refine g_iret m114_15 rfl ?_
            refine gwst (st' := [.int (5)]) rfl ?_
            refine g_goto m115_29 ?_
            refine g_iret m115_38 rfl ?_
            refine gwst (st' := [.int (5), .int (5)]) rfl ?_
            refine g_ic_eqT m190_236 (by decide) ?_
            refine g_iinc (x2 := (6 : Int32)) (L2 := [some (.ref 0), some (.ref 32), some (.ref 89), some (.int (6))]) m190_1428 rfl (by decide) rfl rfl ?_
            refine g_goto m190_1431 ?_
            refine g_iload_n m190_18 rfl ?_
            refine g_aload_n m190_19 rfl ?_
            refine g_alen (n := 6) m190_20 rfl (Or.inl rfl) rfl ?_
            refine g_bipush m190_21 ?_
            refine g_isub (u := (0 : Int32)) m190_23 (by decide) ?_
            refine g_ic_gtT m190_24 (by decide) ?_
            refine g_iconst m190_1434 ?_
            refine g_zret m190_1435 rfl (Or.inr rfl) ?_
            exact rfl
          · have x11q : s1 = (1 : Int32) := x11
            clear x11
            subst x11q
            refine g_iald (x := (5 : Int32)) m56_32 rfl (vin rfl) rfl ?_
            refine g_istore_n (L2 := [some (.ref 32), some (.int (1)), some (.int _), some (.int (5))]) m56_33 rfl rfl ?_
            refine g_aload_n m56_34 rfl ?_
            refine g_gf m56_35 rfl rfl ?_
            refine g_gf m56_38 rfl rfl ?_
            refine g_iload_n m56_41 rfl ?_
            refine g_iload_n m56_42 rfl ?_
            refine g_iast m56_43 (Nat.le_of_ble_eq_true rfl) rfl (vin rfl) rfl rfl rfl ?_
            refine g_iload_n m56_44 rfl ?_
            refine g_iret m56_45 rfl ?_
            refine gwst (st' := [.int (5)]) rfl ?_
            refine FRg rfl (fun f => ?_)
            refine g_aload_n m190_222 rfl ?_
            refine g_aload_n m190_223 rfl ?_
            refine g_iload_n m190_224 rfl ?_
            refine g_iconst m190_225 ?_
            refine g_iadd (u := (1 : Int32)) m190_226 (by decide) ?_
            refine g_iald (x := (1 : Int32)) m190_227 rfl (vin rfl) rfl ?_
            refine g_aload_n m190_228 rfl ?_
            refine g_iload_n m190_229 rfl ?_
            refine g_iconst m190_230 ?_
            refine g_iadd (u := (2 : Int32)) m190_231 (by decide) ?_
            refine g_iald (x := s2) m190_232 rfl (vin rfl) rfl ?_
            refine g_cv (args := [.int (1), .int _]) (rest := [.int (5)]) m190_233 (Nat.le_of_ble_eq_true rfl) rfl rfl rfl (Nat.le_of_ble_eq_true rfl) ?_
            refine wp_in (L := [some (.ref 89), some (.int (1)), some (.int _)]) (Nat.le_of_ble_eq_true rfl) rfl ?_
            refine g_iload_n m115_0 rfl ?_
            refine g_iconst m115_1 ?_
            refine g_bipush m115_2 ?_
            refine g_cs (args := [.int (1), .int (0), .int (7)]) (rest := []) 0 (Or.inl rfl) m115_4 (Nat.le_of_ble_eq_true rfl) rfl rfl (Nat.le_of_ble_eq_true rfl) ?_
            refine wp_in (L := [some (.int (1)), some (.int (0)), some (.int (7))]) (Nat.le_of_ble_eq_true rfl) rfl ?_
            refine g_iload_n m107_0 rfl ?_
            refine g_iload_n m107_1 rfl ?_
            refine g_ic_ltF m107_2 (by decide) ?_
            refine g_iload_n m107_5 rfl ?_
            refine g_iload_n m107_6 rfl ?_
            refine g_ic_gtF m107_7 (by decide) ?_
            refine g_iconst m107_10 ?_
            refine g_goto m107_11 ?_
            refine g_zret m107_15 rfl (Or.inr rfl) ?_
            refine gwst (st' := [.int (1)]) rfl ?_
            refine g_if_eqF m115_7 (by decide) ?_
            refine g_iload_n m115_10 rfl ?_
            refine g_iconst m115_11 ?_
            refine g_bipush m115_12 ?_
            refine g_cs (args := [.int _, .int (0), .int (30)]) (rest := []) 0 (Or.inl rfl) m115_14 (Nat.le_of_ble_eq_true rfl) rfl rfl (Nat.le_of_ble_eq_true rfl) ?_
            refine wp_in (L := [some (.int _), some (.int (0)), some (.int (30))]) (Nat.le_of_ble_eq_true rfl) rfl ?_
            refine g_iload_n m107_0 rfl ?_
            refine g_iload_n m107_1 rfl ?_
            refine g_ic_ltF m107_2 (fun q => absurd ((lt_k (a := (s2).toInt) (b := 0) (by rfl) (by rfl)).mp q) (by omega)) ?_
            refine g_iload_n m107_5 rfl ?_
            refine g_iload_n m107_6 rfl ?_
            refine g_ic_gtF m107_7 (fun q => absurd ((lt_k (a := 30) (b := (s2).toInt) (by rfl) (by rfl)).mp q) (by omega)) ?_
            refine g_iconst m107_10 ?_
            refine g_goto m107_11 ?_
            refine g_zret m107_15 rfl (Or.inr rfl) ?_
            refine gwst (st' := [.int (1)]) rfl ?_
            refine g_if_eqF m115_17 (by decide) ?_
            refine g_aload_n m115_20 rfl ?_
            refine g_bipush m115_21 ?_
            refine g_iload_n m115_23 rfl ?_
            refine g_iadd (u := (9 : Int32)) m115_24 (by decide) ?_
            refine g_iload_n m115_25 rfl ?_
            refine g_cv (args := [.int (9), .int _]) (rest := []) m115_26 (Nat.le_of_ble_eq_true rfl) rfl rfl rfl (Nat.le_of_ble_eq_true rfl) ?_
            refine wp_in (L := [some (.ref 89), some (.int (9)), some (.int _), none]) (Nat.le_of_ble_eq_true rfl) rfl ?_
            refine g_aload_n m114_0 rfl ?_
            refine g_gf m114_1 rfl rfl ?_
            refine g_iload_n m114_4 rfl ?_
            refine g_iald (x := (5 : Int32)) m114_5 rfl (vin rfl) rfl ?_
            refine g_istore_n (L2 := [some (.ref 89), some (.int (9)), some (.int _), some (.int (5))]) m114_6 rfl rfl ?_
            refine g_aload_n m114_7 rfl ?_
            refine g_gf m114_8 rfl rfl ?_
            refine g_iload_n m114_11 rfl ?_
            refine g_iload_n m114_12 rfl ?_
            refine g_iast m114_13 (Nat.le_of_ble_eq_true rfl) rfl (vin rfl) rfl rfl rfl ?_
            refine g_iload_n m114_14 rfl ?_
            refine g_iret m114_15 rfl ?_
            refine gwst (st' := [.int (5)]) rfl ?_
            refine g_goto m115_29 ?_
            refine g_iret m115_38 rfl ?_
            refine gwst (st' := [.int (5), .int (5)]) rfl ?_
            refine g_ic_eqT m190_236 (by decide) ?_
            refine g_iinc (x2 := (6 : Int32)) (L2 := [some (.ref 0), some (.ref 32), some (.ref 89), some (.int (6))]) m190_1428 rfl (by decide) rfl rfl ?_
            refine g_goto m190_1431 ?_
            refine g_iload_n m190_18 rfl ?_
            refine g_aload_n m190_19 rfl ?_
            refine g_alen (n := 6) m190_20 rfl (Or.inl rfl) rfl ?_
            refine g_bipush m190_21 ?_
            refine g_isub (u := (0 : Int32)) m190_23 (by decide) ?_
            refine g_ic_gtT m190_24 (by decide) ?_
            refine g_iconst m190_1434 ?_
            refine g_zret m190_1435 rfl (Or.inr rfl) ?_
            exact rfl
          · have x11q : s1 = (2 : Int32) := x11
            clear x11
            subst x11q
            refine g_iald (x := (5 : Int32)) m56_32 rfl (vin rfl) rfl ?_
            refine g_istore_n (L2 := [some (.ref 32), some (.int (2)), some (.int _), some (.int (5))]) m56_33 rfl rfl ?_
            refine g_aload_n m56_34 rfl ?_
            refine g_gf m56_35 rfl rfl ?_
            refine g_gf m56_38 rfl rfl ?_
            refine g_iload_n m56_41 rfl ?_
            refine g_iload_n m56_42 rfl ?_
            refine g_iast m56_43 (Nat.le_of_ble_eq_true rfl) rfl (vin rfl) rfl rfl rfl ?_
            refine g_iload_n m56_44 rfl ?_
            refine g_iret m56_45 rfl ?_
            refine gwst (st' := [.int (5)]) rfl ?_
            refine FRg rfl (fun f => ?_)
            refine g_aload_n m190_222 rfl ?_
            refine g_aload_n m190_223 rfl ?_
            refine g_iload_n m190_224 rfl ?_
            refine g_iconst m190_225 ?_
            refine g_iadd (u := (1 : Int32)) m190_226 (by decide) ?_
            refine g_iald (x := (2 : Int32)) m190_227 rfl (vin rfl) rfl ?_
            refine g_aload_n m190_228 rfl ?_
            refine g_iload_n m190_229 rfl ?_
            refine g_iconst m190_230 ?_
            refine g_iadd (u := (2 : Int32)) m190_231 (by decide) ?_
            refine g_iald (x := s2) m190_232 rfl (vin rfl) rfl ?_
            refine g_cv (args := [.int (2), .int _]) (rest := [.int (5)]) m190_233 (Nat.le_of_ble_eq_true rfl) rfl rfl rfl (Nat.le_of_ble_eq_true rfl) ?_
            refine wp_in (L := [some (.ref 89), some (.int (2)), some (.int _)]) (Nat.le_of_ble_eq_true rfl) rfl ?_
            refine g_iload_n m115_0 rfl ?_
            refine g_iconst m115_1 ?_
            refine g_bipush m115_2 ?_
            refine g_cs (args := [.int (2), .int (0), .int (7)]) (rest := []) 0 (Or.inl rfl) m115_4 (Nat.le_of_ble_eq_true rfl) rfl rfl (Nat.le_of_ble_eq_true rfl) ?_
            refine wp_in (L := [some (.int (2)), some (.int (0)), some (.int (7))]) (Nat.le_of_ble_eq_true rfl) rfl ?_
            refine g_iload_n m107_0 rfl ?_
            refine g_iload_n m107_1 rfl ?_
            refine g_ic_ltF m107_2 (by decide) ?_
            refine g_iload_n m107_5 rfl ?_
            refine g_iload_n m107_6 rfl ?_
            refine g_ic_gtF m107_7 (by decide) ?_
            refine g_iconst m107_10 ?_
            refine g_goto m107_11 ?_
            refine g_zret m107_15 rfl (Or.inr rfl) ?_
            refine gwst (st' := [.int (1)]) rfl ?_
            refine g_if_eqF m115_7 (by decide) ?_
            refine g_iload_n m115_10 rfl ?_
            refine g_iconst m115_11 ?_
            refine g_bipush m115_12 ?_
            refine g_cs (args := [.int _, .int (0), .int (30)]) (rest := []) 0 (Or.inl rfl) m115_14 (Nat.le_of_ble_eq_true rfl) rfl rfl (Nat.le_of_ble_eq_true rfl) ?_
            refine wp_in (L := [some (.int _), some (.int (0)), some (.int (30))]) (Nat.le_of_ble_eq_true rfl) rfl ?_
            refine g_iload_n m107_0 rfl ?_
            refine g_iload_n m107_1 rfl ?_
            refine g_ic_ltF m107_2 (fun q => absurd ((lt_k (a := (s2).toInt) (b := 0) (by rfl) (by rfl)).mp q) (by omega)) ?_
            refine g_iload_n m107_5 rfl ?_
            refine g_iload_n m107_6 rfl ?_
            refine g_ic_gtF m107_7 (fun q => absurd ((lt_k (a := 30) (b := (s2).toInt) (by rfl) (by rfl)).mp q) (by omega)) ?_
            refine g_iconst m107_10 ?_
            refine g_goto m107_11 ?_
            refine g_zret m107_15 rfl (Or.inr rfl) ?_
            refine gwst (st' := [.int (1)]) rfl ?_
            refine g_if_eqF m115_17 (by decide) ?_
            refine g_aload_n m115_20 rfl ?_
            refine g_bipush m115_21 ?_
            refine g_iload_n m115_23 rfl ?_
            refine g_iadd (u := (10 : Int32)) m115_24 (by decide) ?_
            refine g_iload_n m115_25 rfl ?_
            refine g_cv (args := [.int (10), .int _]) (rest := []) m115_26 (Nat.le_of_ble_eq_true rfl) rfl rfl rfl (Nat.le_of_ble_eq_true rfl) ?_
            refine wp_in (L := [some (.ref 89), some (.int (10)), some (.int _), none]) (Nat.le_of_ble_eq_true rfl) rfl ?_
            refine g_aload_n m114_0 rfl ?_
            refine g_gf m114_1 rfl rfl ?_
            refine g_iload_n m114_4 rfl ?_
            refine g_iald (x := (5 : Int32)) m114_5 rfl (vin rfl) rfl ?_
            refine g_istore_n (L2 := [some (.ref 89), some (.int (10)), some (.int _), some (.int (5))]) m114_6 rfl rfl ?_
            refine g_aload_n m114_7 rfl ?_
            refine g_gf m114_8 rfl rfl ?_
            refine g_iload_n m114_11 rfl ?_
            refine g_iload_n m114_12 rfl ?_
            refine g_iast m114_13 (Nat.le_of_ble_eq_true rfl) rfl (vin rfl) rfl rfl rfl ?_
            refine g_iload_n m114_14 rfl ?_
            refine g_iret m114_15 rfl ?_
            refine gwst (st' := [.int (5)]) rfl ?_
            refine g_goto m115_29 ?_
            refine g_iret m115_38 rfl ?_
            refine gwst (st' := [.int (5), .int (5)]) rfl ?_
            refine g_ic_eqT m190_236 (by decide) ?_
            refine g_iinc (x2 := (6 : Int32)) (L2 := [some (.ref 0), some (.ref 32), some (.ref 89), some (.int (6))]) m190_1428 rfl (by decide) rfl rfl ?_
            refine g_goto m190_1431 ?_
            refine g_iload_n m190_18 rfl ?_
            refine g_aload_n m190_19 rfl ?_
            refine g_alen (n := 6) m190_20 rfl (Or.inl rfl) rfl ?_
            refine g_bipush m190_21 ?_
            refine g_isub (u := (0 : Int32)) m190_23 (by decide) ?_
            refine g_ic_gtT m190_24 (by decide) ?_
            refine g_iconst m190_1434 ?_
            refine g_zret m190_1435 rfl (Or.inr rfl) ?_
            exact rfl
          · have x11q : s1 = (3 : Int32) := x11
            clear x11
            subst x11q
            refine g_iald (x := (5 : Int32)) m56_32 rfl (vin rfl) rfl ?_
            refine g_istore_n (L2 := [some (.ref 32), some (.int (3)), some (.int _), some (.int (5))]) m56_33 rfl rfl ?_
            refine g_aload_n m56_34 rfl ?_
            refine g_gf m56_35 rfl rfl ?_
            refine g_gf m56_38 rfl rfl ?_
            refine g_iload_n m56_41 rfl ?_
            refine g_iload_n m56_42 rfl ?_
            refine g_iast m56_43 (Nat.le_of_ble_eq_true rfl) rfl (vin rfl) rfl rfl rfl ?_
            refine g_iload_n m56_44 rfl ?_
            refine g_iret m56_45 rfl ?_
            refine gwst (st' := [.int (5)]) rfl ?_
            refine FRg rfl (fun f => ?_)
            refine g_aload_n m190_222 rfl ?_
            refine g_aload_n m190_223 rfl ?_
            refine g_iload_n m190_224 rfl ?_
            refine g_iconst m190_225 ?_
            refine g_iadd (u := (1 : Int32)) m190_226 (by decide) ?_
            refine g_iald (x := (3 : Int32)) m190_227 rfl (vin rfl) rfl ?_
            refine g_aload_n m190_228 rfl ?_
            refine g_iload_n m190_229 rfl ?_
            refine g_iconst m190_230 ?_
            refine g_iadd (u := (2 : Int32)) m190_231 (by decide) ?_
            refine g_iald (x := s2) m190_232 rfl (vin rfl) rfl ?_
            refine g_cv (args := [.int (3), .int _]) (rest := [.int (5)]) m190_233 (Nat.le_of_ble_eq_true rfl) rfl rfl rfl (Nat.le_of_ble_eq_true rfl) ?_
            refine wp_in (L := [some (.ref 89), some (.int (3)), some (.int _)]) (Nat.le_of_ble_eq_true rfl) rfl ?_
            refine g_iload_n m115_0 rfl ?_
            refine g_iconst m115_1 ?_
            refine g_bipush m115_2 ?_
            refine g_cs (args := [.int (3), .int (0), .int (7)]) (rest := []) 0 (Or.inl rfl) m115_4 (Nat.le_of_ble_eq_true rfl) rfl rfl (Nat.le_of_ble_eq_true rfl) ?_
            refine wp_in (L := [some (.int (3)), some (.int (0)), some (.int (7))]) (Nat.le_of_ble_eq_true rfl) rfl ?_
            refine g_iload_n m107_0 rfl ?_
            refine g_iload_n m107_1 rfl ?_
            refine g_ic_ltF m107_2 (by decide) ?_
            refine g_iload_n m107_5 rfl ?_
            refine g_iload_n m107_6 rfl ?_
            refine g_ic_gtF m107_7 (by decide) ?_
            refine g_iconst m107_10 ?_
            refine g_goto m107_11 ?_
            refine g_zret m107_15 rfl (Or.inr rfl) ?_
            refine gwst (st' := [.int (1)]) rfl ?_
            refine g_if_eqF m115_7 (by decide) ?_
            refine g_iload_n m115_10 rfl ?_
            refine g_iconst m115_11 ?_
            refine g_bipush m115_12 ?_
            refine g_cs (args := [.int _, .int (0), .int (30)]) (rest := []) 0 (Or.inl rfl) m115_14 (Nat.le_of_ble_eq_true rfl) rfl rfl (Nat.le_of_ble_eq_true rfl) ?_
            refine wp_in (L := [some (.int _), some (.int (0)), some (.int (30))]) (Nat.le_of_ble_eq_true rfl) rfl ?_
            refine g_iload_n m107_0 rfl ?_
            refine g_iload_n m107_1 rfl ?_
            refine g_ic_ltF m107_2 (fun q => absurd ((lt_k (a := (s2).toInt) (b := 0) (by rfl) (by rfl)).mp q) (by omega)) ?_
            refine g_iload_n m107_5 rfl ?_
            refine g_iload_n m107_6 rfl ?_
            refine g_ic_gtF m107_7 (fun q => absurd ((lt_k (a := 30) (b := (s2).toInt) (by rfl) (by rfl)).mp q) (by omega)) ?_
            refine g_iconst m107_10 ?_
            refine g_goto m107_11 ?_
            refine g_zret m107_15 rfl (Or.inr rfl) ?_
            refine gwst (st' := [.int (1)]) rfl ?_
            refine g_if_eqF m115_17 (by decide) ?_
            refine g_aload_n m115_20 rfl ?_
            refine g_bipush m115_21 ?_
            refine g_iload_n m115_23 rfl ?_
            refine g_iadd (u := (11 : Int32)) m115_24 (by decide) ?_
            refine g_iload_n m115_25 rfl ?_
            refine g_cv (args := [.int (11), .int _]) (rest := []) m115_26 (Nat.le_of_ble_eq_true rfl) rfl rfl rfl (Nat.le_of_ble_eq_true rfl) ?_
            refine wp_in (L := [some (.ref 89), some (.int (11)), some (.int _), none]) (Nat.le_of_ble_eq_true rfl) rfl ?_
            refine g_aload_n m114_0 rfl ?_
            refine g_gf m114_1 rfl rfl ?_
            refine g_iload_n m114_4 rfl ?_
            refine g_iald (x := (5 : Int32)) m114_5 rfl (vin rfl) rfl ?_
            refine g_istore_n (L2 := [some (.ref 89), some (.int (11)), some (.int _), some (.int (5))]) m114_6 rfl rfl ?_
            refine g_aload_n m114_7 rfl ?_
            refine g_gf m114_8 rfl rfl ?_
            refine g_iload_n m114_11 rfl ?_
            refine g_iload_n m114_12 rfl ?_
            refine g_iast m114_13 (Nat.le_of_ble_eq_true rfl) rfl (vin rfl) rfl rfl rfl ?_
            refine g_iload_n m114_14 rfl ?_
            refine g_iret m114_15 rfl ?_
            refine gwst (st' := [.int (5)]) rfl ?_
            refine g_goto m115_29 ?_
            refine g_iret m115_38 rfl ?_
            refine gwst (st' := [.int (5), .int (5)]) rfl ?_
            refine g_ic_eqT m190_236 (by decide) ?_
            refine g_iinc (x2 := (6 : Int32)) (L2 := [some (.ref 0), some (.ref 32), some (.ref 89), some (.int (6))]) m190_1428 rfl (by decide) rfl rfl ?_
            refine g_goto m190_1431 ?_
            refine g_iload_n m190_18 rfl ?_
            refine g_aload_n m190_19 rfl ?_
            refine g_alen (n := 6) m190_20 rfl (Or.inl rfl) rfl ?_
            refine g_bipush m190_21 ?_
            refine g_isub (u := (0 : Int32)) m190_23 (by decide) ?_
            refine g_ic_gtT m190_24 (by decide) ?_
            refine g_iconst m190_1434 ?_
            refine g_zret m190_1435 rfl (Or.inr rfl) ?_
            exact rfl
          · have x11q : s1 = (4 : Int32) := x11
            clear x11
            subst x11q
            refine g_iald (x := (5 : Int32)) m56_32 rfl (vin rfl) rfl ?_
            refine g_istore_n (L2 := [some (.ref 32), some (.int (4)), some (.int _), some (.int (5))]) m56_33 rfl rfl ?_
            refine g_aload_n m56_34 rfl ?_
            refine g_gf m56_35 rfl rfl ?_
            refine g_gf m56_38 rfl rfl ?_
            refine g_iload_n m56_41 rfl ?_
            refine g_iload_n m56_42 rfl ?_
            refine g_iast m56_43 (Nat.le_of_ble_eq_true rfl) rfl (vin rfl) rfl rfl rfl ?_
            refine g_iload_n m56_44 rfl ?_
            refine g_iret m56_45 rfl ?_
            refine gwst (st' := [.int (5)]) rfl ?_
            refine FRg rfl (fun f => ?_)
            refine g_aload_n m190_222 rfl ?_
            refine g_aload_n m190_223 rfl ?_
            refine g_iload_n m190_224 rfl ?_
            refine g_iconst m190_225 ?_
            refine g_iadd (u := (1 : Int32)) m190_226 (by decide) ?_
            refine g_iald (x := (4 : Int32)) m190_227 rfl (vin rfl) rfl ?_
            refine g_aload_n m190_228 rfl ?_
            refine g_iload_n m190_229 rfl ?_
            refine g_iconst m190_230 ?_
            refine g_iadd (u := (2 : Int32)) m190_231 (by decide) ?_
            refine g_iald (x := s2) m190_232 rfl (vin rfl) rfl ?_
            refine g_cv (args := [.int (4), .int _]) (rest := [.int (5)]) m190_233 (Nat.le_of_ble_eq_true rfl) rfl rfl rfl (Nat.le_of_ble_eq_true rfl) ?_
            refine wp_in (L := [some (.ref 89), some (.int (4)), some (.int _)]) (Nat.le_of_ble_eq_true rfl) rfl ?_
            refine g_iload_n m115_0 rfl ?_
            refine g_iconst m115_1 ?_
            refine g_bipush m115_2 ?_
            refine g_cs (args := [.int (4), .int (0), .int (7)]) (rest := []) 0 (Or.inl rfl) m115_4 (Nat.le_of_ble_eq_true rfl) rfl rfl (Nat.le_of_ble_eq_true rfl) ?_
            refine wp_in (L := [some (.int (4)), some (.int (0)), some (.int (7))]) (Nat.le_of_ble_eq_true rfl) rfl ?_
            refine g_iload_n m107_0 rfl ?_
            refine g_iload_n m107_1 rfl ?_
            refine g_ic_ltF m107_2 (by decide) ?_
            refine g_iload_n m107_5 rfl ?_
            refine g_iload_n m107_6 rfl ?_
            refine g_ic_gtF m107_7 (by decide) ?_
            refine g_iconst m107_10 ?_
            refine g_goto m107_11 ?_
            refine g_zret m107_15 rfl (Or.inr rfl) ?_
            refine gwst (st' := [.int (1)]) rfl ?_
            refine g_if_eqF m115_7 (by decide) ?_
            refine g_iload_n m115_10 rfl ?_
            refine g_iconst m115_11 ?_
            refine g_bipush m115_12 ?_
            refine g_cs (args := [.int _, .int (0), .int (30)]) (rest := []) 0 (Or.inl rfl) m115_14 (Nat.le_of_ble_eq_true rfl) rfl rfl (Nat.le_of_ble_eq_true rfl) ?_
            refine wp_in (L := [some (.int _), some (.int (0)), some (.int (30))]) (Nat.le_of_ble_eq_true rfl) rfl ?_
            refine g_iload_n m107_0 rfl ?_
            refine g_iload_n m107_1 rfl ?_
            refine g_ic_ltF m107_2 (fun q => absurd ((lt_k (a := (s2).toInt) (b := 0) (by rfl) (by rfl)).mp q) (by omega)) ?_
            refine g_iload_n m107_5 rfl ?_
            refine g_iload_n m107_6 rfl ?_
            refine g_ic_gtF m107_7 (fun q => absurd ((lt_k (a := 30) (b := (s2).toInt) (by rfl) (by rfl)).mp q) (by omega)) ?_
            refine g_iconst m107_10 ?_
            refine g_goto m107_11 ?_
            refine g_zret m107_15 rfl (Or.inr rfl) ?_
            refine gwst (st' := [.int (1)]) rfl ?_
            refine g_if_eqF m115_17 (by decide) ?_
            refine g_aload_n m115_20 rfl ?_
            refine g_bipush m115_21 ?_
            refine g_iload_n m115_23 rfl ?_
            refine g_iadd (u := (12 : Int32)) m115_24 (by decide) ?_
            refine g_iload_n m115_25 rfl ?_
            refine g_cv (args := [.int (12), .int _]) (rest := []) m115_26 (Nat.le_of_ble_eq_true rfl) rfl rfl rfl (Nat.le_of_ble_eq_true rfl) ?_
            refine wp_in (L := [some (.ref 89), some (.int (12)), some (.int _), none]) (Nat.le_of_ble_eq_true rfl) rfl ?_
            refine g_aload_n m114_0 rfl ?_
            refine g_gf m114_1 rfl rfl ?_
            refine g_iload_n m114_4 rfl ?_
            refine g_iald (x := (5 : Int32)) m114_5 rfl (vin rfl) rfl ?_
            refine g_istore_n (L2 := [some (.ref 89), some (.int (12)), some (.int _), some (.int (5))]) m114_6 rfl rfl ?_
            refine g_aload_n m114_7 rfl ?_
            refine g_gf m114_8 rfl rfl ?_
            refine g_iload_n m114_11 rfl ?_
            refine g_iload_n m114_12 rfl ?_
            refine g_iast m114_13 (Nat.le_of_ble_eq_true rfl) rfl (vin rfl) rfl rfl rfl ?_
            refine g_iload_n m114_14 rfl ?_
            refine g_iret m114_15 rfl ?_
            refine gwst (st' := [.int (5)]) rfl ?_
            refine g_goto m115_29 ?_
            refine g_iret m115_38 rfl ?_
            refine gwst (st' := [.int (5), .int (5)]) rfl ?_
            refine g_ic_eqT m190_236 (by decide) ?_
            refine g_iinc (x2 := (6 : Int32)) (L2 := [some (.ref 0), some (.ref 32), some (.ref 89), some (.int (6))]) m190_1428 rfl (by decide) rfl rfl ?_
            refine g_goto m190_1431 ?_
            refine g_iload_n m190_18 rfl ?_
            refine g_aload_n m190_19 rfl ?_
            refine g_alen (n := 6) m190_20 rfl (Or.inl rfl) rfl ?_
            refine g_bipush m190_21 ?_
            refine g_isub (u := (0 : Int32)) m190_23 (by decide) ?_
            refine g_ic_gtT m190_24 (by decide) ?_
            refine g_iconst m190_1434 ?_
            refine g_zret m190_1435 rfl (Or.inr rfl) ?_
            exact rfl
          · have x11q : s1 = (5 : Int32) := x11
            clear x11
            subst x11q
            refine g_iald (x := (5 : Int32)) m56_32 rfl (vin rfl) rfl ?_
            refine g_istore_n (L2 := [some (.ref 32), some (.int (5)), some (.int _), some (.int (5))]) m56_33 rfl rfl ?_
            refine g_aload_n m56_34 rfl ?_
            refine g_gf m56_35 rfl rfl ?_
            refine g_gf m56_38 rfl rfl ?_
            refine g_iload_n m56_41 rfl ?_
            refine g_iload_n m56_42 rfl ?_
            refine g_iast m56_43 (Nat.le_of_ble_eq_true rfl) rfl (vin rfl) rfl rfl rfl ?_
            refine g_iload_n m56_44 rfl ?_
            refine g_iret m56_45 rfl ?_
            refine gwst (st' := [.int (5)]) rfl ?_
            refine FRg rfl (fun f => ?_)
            refine g_aload_n m190_222 rfl ?_
            refine g_aload_n m190_223 rfl ?_
            refine g_iload_n m190_224 rfl ?_
            refine g_iconst m190_225 ?_
            refine g_iadd (u := (1 : Int32)) m190_226 (by decide) ?_
            refine g_iald (x := (5 : Int32)) m190_227 rfl (vin rfl) rfl ?_
            refine g_aload_n m190_228 rfl ?_
            refine g_iload_n m190_229 rfl ?_
            refine g_iconst m190_230 ?_
            refine g_iadd (u := (2 : Int32)) m190_231 (by decide) ?_
            refine g_iald (x := s2) m190_232 rfl (vin rfl) rfl ?_
            refine g_cv (args := [.int (5), .int _]) (rest := [.int (5)]) m190_233 (Nat.le_of_ble_eq_true rfl) rfl rfl rfl (Nat.le_of_ble_eq_true rfl) ?_
            refine wp_in (L := [some (.ref 89), some (.int (5)), some (.int _)]) (Nat.le_of_ble_eq_true rfl) rfl ?_
            refine g_iload_n m115_0 rfl ?_
            refine g_iconst m115_1 ?_
            refine g_bipush m115_2 ?_
            refine g_cs (args := [.int (5), .int (0), .int (7)]) (rest := []) 0 (Or.inl rfl) m115_4 (Nat.le_of_ble_eq_true rfl) rfl rfl (Nat.le_of_ble_eq_true rfl) ?_
            refine wp_in (L := [some (.int (5)), some (.int (0)), some (.int (7))]) (Nat.le_of_ble_eq_true rfl) rfl ?_
            refine g_iload_n m107_0 rfl ?_
            refine g_iload_n m107_1 rfl ?_
            refine g_ic_ltF m107_2 (by decide) ?_
            refine g_iload_n m107_5 rfl ?_
            refine g_iload_n m107_6 rfl ?_
            refine g_ic_gtF m107_7 (by decide) ?_
            refine g_iconst m107_10 ?_
            refine g_goto m107_11 ?_
            refine g_zret m107_15 rfl (Or.inr rfl) ?_
            refine gwst (st' := [.int (1)]) rfl ?_
            refine g_if_eqF m115_7 (by decide) ?_
            refine g_iload_n m115_10 rfl ?_
            refine g_iconst m115_11 ?_
            refine g_bipush m115_12 ?_
            refine g_cs (args := [.int _, .int (0), .int (30)]) (rest := []) 0 (Or.inl rfl) m115_14 (Nat.le_of_ble_eq_true rfl) rfl rfl (Nat.le_of_ble_eq_true rfl) ?_
            refine wp_in (L := [some (.int _), some (.int (0)), some (.int (30))]) (Nat.le_of_ble_eq_true rfl) rfl ?_
            refine g_iload_n m107_0 rfl ?_
            refine g_iload_n m107_1 rfl ?_
            refine g_ic_ltF m107_2 (fun q => absurd ((lt_k (a := (s2).toInt) (b := 0) (by rfl) (by rfl)).mp q) (by omega)) ?_
            refine g_iload_n m107_5 rfl ?_
            refine g_iload_n m107_6 rfl ?_
            refine g_ic_gtF m107_7 (fun q => absurd ((lt_k (a := 30) (b := (s2).toInt) (by rfl) (by rfl)).mp q) (by omega)) ?_
            refine g_iconst m107_10 ?_
            refine g_goto m107_11 ?_
            refine g_zret m107_15 rfl (Or.inr rfl) ?_
            refine gwst (st' := [.int (1)]) rfl ?_
            refine g_if_eqF m115_17 (by decide) ?_
            refine g_aload_n m115_20 rfl ?_
            refine g_bipush m115_21 ?_
            refine g_iload_n m115_23 rfl ?_
            refine g_iadd (u := (13 : Int32)) m115_24 (by decide) ?_
            refine g_iload_n m115_25 rfl ?_
            refine g_cv (args := [.int (13), .int _]) (rest := []) m115_26 (Nat.le_of_ble_eq_true rfl) rfl rfl rfl (Nat.le_of_ble_eq_true rfl) ?_
            refine wp_in (L := [some (.ref 89), some (.int (13)), some (.int _), none]) (Nat.le_of_ble_eq_true rfl) rfl ?_
            refine g_aload_n m114_0 rfl ?_
            refine g_gf m114_1 rfl rfl ?_
            refine g_iload_n m114_4 rfl ?_
            refine g_iald (x := (5 : Int32)) m114_5 rfl (vin rfl) rfl ?_
            refine g_istore_n (L2 := [some (.ref 89), some (.int (13)), some (.int _), some (.int (5))]) m114_6 rfl rfl ?_
            refine g_aload_n m114_7 rfl ?_
            refine g_gf m114_8 rfl rfl ?_
            refine g_iload_n m114_11 rfl ?_
            refine g_iload_n m114_12 rfl ?_
            refine g_iast m114_13 (Nat.le_of_ble_eq_true rfl) rfl (vin rfl) rfl rfl rfl ?_
            refine g_iload_n m114_14 rfl ?_
            refine g_iret m114_15 rfl ?_
            refine gwst (st' := [.int (5)]) rfl ?_
            refine g_goto m115_29 ?_
            refine g_iret m115_38 rfl ?_
            refine gwst (st' := [.int (5), .int (5)]) rfl ?_
            refine g_ic_eqT m190_236 (by decide) ?_
            refine g_iinc (x2 := (6 : Int32)) (L2 := [some (.ref 0), some (.ref 32), some (.ref 89), some (.int (6))]) m190_1428 rfl (by decide) rfl rfl ?_
            refine g_goto m190_1431 ?_
            refine g_iload_n m190_18 rfl ?_
            refine g_aload_n m190_19 rfl ?_
            refine g_alen (n := 6) m190_20 rfl (Or.inl rfl) rfl ?_
            refine g_bipush m190_21 ?_
            refine g_isub (u := (0 : Int32)) m190_23 (by decide) ?_
            refine g_ic_gtT m190_24 (by decide) ?_
            refine g_iconst m190_1434 ?_
            refine g_zret m190_1435 rfl (Or.inr rfl) ?_
            exact rfl
          · have x11q : s1 = (6 : Int32) := x11
            clear x11
            subst x11q
            refine g_iald (x := (5 : Int32)) m56_32 rfl (vin rfl) rfl ?_
            refine g_istore_n (L2 := [some (.ref 32), some (.int (6)), some (.int _), some (.int (5))]) m56_33 rfl rfl ?_
            refine g_aload_n m56_34 rfl ?_
            refine g_gf m56_35 rfl rfl ?_
            refine g_gf m56_38 rfl rfl ?_
            refine g_iload_n m56_41 rfl ?_
            refine g_iload_n m56_42 rfl ?_
            refine g_iast m56_43 (Nat.le_of_ble_eq_true rfl) rfl (vin rfl) rfl rfl rfl ?_
            refine g_iload_n m56_44 rfl ?_
            refine g_iret m56_45 rfl ?_
            refine gwst (st' := [.int (5)]) rfl ?_
            refine FRg rfl (fun f => ?_)
            refine g_aload_n m190_222 rfl ?_
            refine g_aload_n m190_223 rfl ?_
            refine g_iload_n m190_224 rfl ?_
            refine g_iconst m190_225 ?_
            refine g_iadd (u := (1 : Int32)) m190_226 (by decide) ?_
            refine g_iald (x := (6 : Int32)) m190_227 rfl (vin rfl) rfl ?_
            refine g_aload_n m190_228 rfl ?_
            refine g_iload_n m190_229 rfl ?_
            refine g_iconst m190_230 ?_
            refine g_iadd (u := (2 : Int32)) m190_231 (by decide) ?_
            refine g_iald (x := s2) m190_232 rfl (vin rfl) rfl ?_
            refine g_cv (args := [.int (6), .int _]) (rest := [.int (5)]) m190_233 (Nat.le_of_ble_eq_true rfl) rfl rfl rfl (Nat.le_of_ble_eq_true rfl) ?_
            refine wp_in (L := [some (.ref 89), some (.int (6)), some (.int _)]) (Nat.le_of_ble_eq_true rfl) rfl ?_
            refine g_iload_n m115_0 rfl ?_
            refine g_iconst m115_1 ?_
            refine g_bipush m115_2 ?_
            refine g_cs (args := [.int (6), .int (0), .int (7)]) (rest := []) 0 (Or.inl rfl) m115_4 (Nat.le_of_ble_eq_true rfl) rfl rfl (Nat.le_of_ble_eq_true rfl) ?_
            refine wp_in (L := [some (.int (6)), some (.int (0)), some (.int (7))]) (Nat.le_of_ble_eq_true rfl) rfl ?_
            refine g_iload_n m107_0 rfl ?_
            refine g_iload_n m107_1 rfl ?_
            refine g_ic_ltF m107_2 (by decide) ?_
            refine g_iload_n m107_5 rfl ?_
            refine g_iload_n m107_6 rfl ?_
            refine g_ic_gtF m107_7 (by decide) ?_
            refine g_iconst m107_10 ?_
            refine g_goto m107_11 ?_
            refine g_zret m107_15 rfl (Or.inr rfl) ?_
            refine gwst (st' := [.int (1)]) rfl ?_
            refine g_if_eqF m115_7 (by decide) ?_
            refine g_iload_n m115_10 rfl ?_
            refine g_iconst m115_11 ?_
            refine g_bipush m115_12 ?_
            refine g_cs (args := [.int _, .int (0), .int (30)]) (rest := []) 0 (Or.inl rfl) m115_14 (Nat.le_of_ble_eq_true rfl) rfl rfl (Nat.le_of_ble_eq_true rfl) ?_
            refine wp_in (L := [some (.int _), some (.int (0)), some (.int (30))]) (Nat.le_of_ble_eq_true rfl) rfl ?_
            refine g_iload_n m107_0 rfl ?_
            refine g_iload_n m107_1 rfl ?_
            refine g_ic_ltF m107_2 (fun q => absurd ((lt_k (a := (s2).toInt) (b := 0) (by rfl) (by rfl)).mp q) (by omega)) ?_
            refine g_iload_n m107_5 rfl ?_
            refine g_iload_n m107_6 rfl ?_
            refine g_ic_gtF m107_7 (fun q => absurd ((lt_k (a := 30) (b := (s2).toInt) (by rfl) (by rfl)).mp q) (by omega)) ?_
            refine g_iconst m107_10 ?_
            refine g_goto m107_11 ?_
            refine g_zret m107_15 rfl (Or.inr rfl) ?_
            refine gwst (st' := [.int (1)]) rfl ?_
            refine g_if_eqF m115_17 (by decide) ?_
            refine g_aload_n m115_20 rfl ?_
            refine g_bipush m115_21 ?_
            refine g_iload_n m115_23 rfl ?_
            refine g_iadd (u := (14 : Int32)) m115_24 (by decide) ?_
            refine g_iload_n m115_25 rfl ?_
            refine g_cv (args := [.int (14), .int _]) (rest := []) m115_26 (Nat.le_of_ble_eq_true rfl) rfl rfl rfl (Nat.le_of_ble_eq_true rfl) ?_
            refine wp_in (L := [some (.ref 89), some (.int (14)), some (.int _), none]) (Nat.le_of_ble_eq_true rfl) rfl ?_
            refine g_aload_n m114_0 rfl ?_
            refine g_gf m114_1 rfl rfl ?_
            refine g_iload_n m114_4 rfl ?_
            refine g_iald (x := (5 : Int32)) m114_5 rfl (vin rfl) rfl ?_
            refine g_istore_n (L2 := [some (.ref 89), some (.int (14)), some (.int _), some (.int (5))]) m114_6 rfl rfl ?_
            refine g_aload_n m114_7 rfl ?_
            refine g_gf m114_8 rfl rfl ?_
            refine g_iload_n m114_11 rfl ?_
            refine g_iload_n m114_12 rfl ?_
            refine g_iast m114_13 (Nat.le_of_ble_eq_true rfl) rfl (vin rfl) rfl rfl rfl ?_
            refine g_iload_n m114_14 rfl ?_
            refine g_iret m114_15 rfl ?_
            refine gwst (st' := [.int (5)]) rfl ?_
            refine g_goto m115_29 ?_
            refine g_iret m115_38 rfl ?_
            refine gwst (st' := [.int (5), .int (5)]) rfl ?_
            refine g_ic_eqT m190_236 (by decide) ?_
            refine g_iinc (x2 := (6 : Int32)) (L2 := [some (.ref 0), some (.ref 32), some (.ref 89), some (.int (6))]) m190_1428 rfl (by decide) rfl rfl ?_
            refine g_goto m190_1431 ?_
            refine g_iload_n m190_18 rfl ?_
            refine g_aload_n m190_19 rfl ?_
            refine g_alen (n := 6) m190_20 rfl (Or.inl rfl) rfl ?_
            refine g_bipush m190_21 ?_
            refine g_isub (u := (0 : Int32)) m190_23 (by decide) ?_
            refine g_ic_gtT m190_24 (by decide) ?_
            refine g_iconst m190_1434 ?_
            refine g_zret m190_1435 rfl (Or.inr rfl) ?_
            exact rfl
          · have x11q : s1 = (7 : Int32) := x11
            clear x11
            subst x11q
            refine g_iald (x := (5 : Int32)) m56_32 rfl (vin rfl) rfl ?_
            refine g_istore_n (L2 := [some (.ref 32), some (.int (7)), some (.int _), some (.int (5))]) m56_33 rfl rfl ?_
            refine g_aload_n m56_34 rfl ?_
            refine g_gf m56_35 rfl rfl ?_
            refine g_gf m56_38 rfl rfl ?_
            refine g_iload_n m56_41 rfl ?_
            refine g_iload_n m56_42 rfl ?_
            refine g_iast m56_43 (Nat.le_of_ble_eq_true rfl) rfl (vin rfl) rfl rfl rfl ?_
            refine g_iload_n m56_44 rfl ?_
            refine g_iret m56_45 rfl ?_
            refine gwst (st' := [.int (5)]) rfl ?_
            refine FRg rfl (fun f => ?_)
            refine g_aload_n m190_222 rfl ?_
            refine g_aload_n m190_223 rfl ?_
            refine g_iload_n m190_224 rfl ?_
            refine g_iconst m190_225 ?_
            refine g_iadd (u := (1 : Int32)) m190_226 (by decide) ?_
            refine g_iald (x := (7 : Int32)) m190_227 rfl (vin rfl) rfl ?_
            refine g_aload_n m190_228 rfl ?_
            refine g_iload_n m190_229 rfl ?_
            refine g_iconst m190_230 ?_
            refine g_iadd (u := (2 : Int32)) m190_231 (by decide) ?_
            refine g_iald (x := s2) m190_232 rfl (vin rfl) rfl ?_
            refine g_cv (args := [.int (7), .int _]) (rest := [.int (5)]) m190_233 (Nat.le_of_ble_eq_true rfl) rfl rfl rfl (Nat.le_of_ble_eq_true rfl) ?_
            refine wp_in (L := [some (.ref 89), some (.int (7)), some (.int _)]) (Nat.le_of_ble_eq_true rfl) rfl ?_
            refine g_iload_n m115_0 rfl ?_
            refine g_iconst m115_1 ?_
            refine g_bipush m115_2 ?_
            refine g_cs (args := [.int (7), .int (0), .int (7)]) (rest := []) 0 (Or.inl rfl) m115_4 (Nat.le_of_ble_eq_true rfl) rfl rfl (Nat.le_of_ble_eq_true rfl) ?_
            refine wp_in (L := [some (.int (7)), some (.int (0)), some (.int (7))]) (Nat.le_of_ble_eq_true rfl) rfl ?_
            refine g_iload_n m107_0 rfl ?_
            refine g_iload_n m107_1 rfl ?_
            refine g_ic_ltF m107_2 (by decide) ?_
            refine g_iload_n m107_5 rfl ?_
            refine g_iload_n m107_6 rfl ?_
            refine g_ic_gtF m107_7 (by decide) ?_
            refine g_iconst m107_10 ?_
            refine g_goto m107_11 ?_
            refine g_zret m107_15 rfl (Or.inr rfl) ?_
            refine gwst (st' := [.int (1)]) rfl ?_
            refine g_if_eqF m115_7 (by decide) ?_
            refine g_iload_n m115_10 rfl ?_
            refine g_iconst m115_11 ?_
            refine g_bipush m115_12 ?_
            refine g_cs (args := [.int _, .int (0), .int (30)]) (rest := []) 0 (Or.inl rfl) m115_14 (Nat.le_of_ble_eq_true rfl) rfl rfl (Nat.le_of_ble_eq_true rfl) ?_
            refine wp_in (L := [some (.int _), some (.int (0)), some (.int (30))]) (Nat.le_of_ble_eq_true rfl) rfl ?_
            refine g_iload_n m107_0 rfl ?_
            refine g_iload_n m107_1 rfl ?_
            refine g_ic_ltF m107_2 (fun q => absurd ((lt_k (a := (s2).toInt) (b := 0) (by rfl) (by rfl)).mp q) (by omega)) ?_
            refine g_iload_n m107_5 rfl ?_
            refine g_iload_n m107_6 rfl ?_
            refine g_ic_gtF m107_7 (fun q => absurd ((lt_k (a := 30) (b := (s2).toInt) (by rfl) (by rfl)).mp q) (by omega)) ?_
            refine g_iconst m107_10 ?_
            refine g_goto m107_11 ?_
            refine g_zret m107_15 rfl (Or.inr rfl) ?_
            refine gwst (st' := [.int (1)]) rfl ?_
            refine g_if_eqF m115_17 (by decide) ?_
            refine g_aload_n m115_20 rfl ?_
            refine g_bipush m115_21 ?_
            refine g_iload_n m115_23 rfl ?_
            refine g_iadd (u := (15 : Int32)) m115_24 (by decide) ?_
            refine g_iload_n m115_25 rfl ?_
            refine g_cv (args := [.int (15), .int _]) (rest := []) m115_26 (Nat.le_of_ble_eq_true rfl) rfl rfl rfl (Nat.le_of_ble_eq_true rfl) ?_
            refine wp_in (L := [some (.ref 89), some (.int (15)), some (.int _), none]) (Nat.le_of_ble_eq_true rfl) rfl ?_
            refine g_aload_n m114_0 rfl ?_
            refine g_gf m114_1 rfl rfl ?_
            refine g_iload_n m114_4 rfl ?_
            refine g_iald (x := (5 : Int32)) m114_5 rfl (vin rfl) rfl ?_
            refine g_istore_n (L2 := [some (.ref 89), some (.int (15)), some (.int _), some (.int (5))]) m114_6 rfl rfl ?_
            refine g_aload_n m114_7 rfl ?_
            refine g_gf m114_8 rfl rfl ?_
            refine g_iload_n m114_11 rfl ?_
            refine g_iload_n m114_12 rfl ?_
            refine g_iast m114_13 (Nat.le_of_ble_eq_true rfl) rfl (vin rfl) rfl rfl rfl ?_
            refine g_iload_n m114_14 rfl ?_
            refine g_iret m114_15 rfl ?_
            refine gwst (st' := [.int (5)]) rfl ?_
            refine g_goto m115_29 ?_
            refine g_iret m115_38 rfl ?_
            refine gwst (st' := [.int (5), .int (5)]) rfl ?_
            refine g_ic_eqT m190_236 (by decide) ?_
            refine g_iinc (x2 := (6 : Int32)) (L2 := [some (.ref 0), some (.ref 32), some (.ref 89), some (.int (6))]) m190_1428 rfl (by decide) rfl rfl ?_
            refine g_goto m190_1431 ?_
            refine g_iload_n m190_18 rfl ?_
            refine g_aload_n m190_19 rfl ?_
            refine g_alen (n := 6) m190_20 rfl (Or.inl rfl) rfl ?_
            refine g_bipush m190_21 ?_
            refine g_isub (u := (0 : Int32)) m190_23 (by decide) ?_
            refine g_ic_gtT m190_24 (by decide) ?_
            refine g_iconst m190_1434 ?_
            refine g_zret m190_1435 rfl (Or.inr rfl) ?_
            exact rfl
set_option maxRecDepth 20000 in
set_option maxHeartbeats 40000000 in
theorem lc_1 {s0 s1 s2 s3 s4 s5 : Int32} {d mc ms : Nat} : gw [s0, s1, s2, s3, s4, s5] (WP [s0, s1, s2, s3, s4, s5] (d + 20)) 190 (fun r _ => r = some (.int 1)) 241 [some (.ref 0), some (.ref 32), some (.ref 89), some (.int 0)] [] (hX0 ++ hM0) mc ms := by
  refine g_aload_n m190_241 rfl ?_
  refine g_aload_n m190_242 rfl ?_
  refine g_iload_n m190_243 rfl ?_
  refine g_iconst m190_244 ?_
  refine g_iadd (u := (1 : Int32)) m190_245 (by decide) ?_
  refine g_iald (x := s1) m190_246 rfl (vin rfl) rfl ?_
  refine g_cv (args := [.int _]) (rest := []) m190_247 (Nat.le_of_ble_eq_true rfl) rfl rfl rfl (Nat.le_of_ble_eq_true rfl) ?_
  refine wp_in (L := [some (.ref 32), some (.int _)]) (Nat.le_of_ble_eq_true rfl) rfl ?_
  refine g_iload_n m57_0 rfl ?_
  refine g_bipush m57_1 ?_
  refine g_cs (args := [.int _, .int (7)]) (rest := []) 0 (Or.inl rfl) m57_3 (Nat.le_of_ble_eq_true rfl) rfl rfl (Nat.le_of_ble_eq_true rfl) ?_
  refine wp_in (L := [some (.int _), some (.int (7))]) (Nat.le_of_ble_eq_true rfl) rfl ?_
  refine g_iload_n m54_0 rfl ?_
  refine g_if_lt m54_1 (fun c1 => ?_) (fun c1 => ?_)
  · have d2 : (s1).toInt < 0 := (lt_k (by rfl) (by rfl)).mp c1
    refine g_iconst m54_13 ?_
    refine g_zret m54_14 rfl (Or.inl rfl) ?_
    refine gwst (st' := [.int (0)]) rfl ?_
    refine g_if_neT m57_6 (by decide) ?_
    refine g_aload_n m57_9 rfl ?_
    refine g_iconst m57_10 ?_
    refine g_cv (args := [.int (1)]) (rest := []) m57_11 (Nat.le_of_ble_eq_true rfl) rfl rfl rfl (Nat.le_of_ble_eq_true rfl) ?_
    refine wp_in (L := [some (.ref 32), some (.int (1))]) (Nat.le_of_ble_eq_true rfl) rfl ?_
    refine g_aload_n m55_0 rfl ?_
    refine g_gf m55_1 rfl rfl ?_
    refine g_iload_n m55_4 rfl ?_
    refine g_dup2 m55_5 rfl rfl ?_
    refine g_iald (x := (0 : Int32)) m55_6 rfl (vin rfl) rfl ?_
    refine g_iconst m55_7 ?_
    refine g_iadd (u := (1 : Int32)) m55_8 (by decide) ?_
    refine g_iast m55_9 (Nat.le_of_ble_eq_true rfl) rfl (vin rfl) rfl rfl rfl ?_
    refine g_ldcw m55_10 ?_
    refine g_iload_n m55_13 rfl ?_
    refine g_isub (u := (-1000000001 : Int32)) m55_14 (by decide) ?_
    refine g_iret m55_15 rfl ?_
    refine gwst (st' := [.int (-1000000001)]) rfl ?_
    refine g_iret m57_14 rfl ?_
    refine gwst (st' := [.int (-1000000001)]) rfl ?_
    refine FRg rfl (fun f => ?_)
    refine g_aload_n m190_250 rfl ?_
    refine g_aload_n m190_251 rfl ?_
    refine g_iload_n m190_252 rfl ?_
    refine g_iconst m190_253 ?_
    refine g_iadd (u := (1 : Int32)) m190_254 (by decide) ?_
    refine g_iald (x := s1) m190_255 rfl (vin rfl) rfl ?_
    refine g_cv (args := [.int _]) (rest := [.int (-1000000001)]) m190_256 (Nat.le_of_ble_eq_true rfl) rfl rfl rfl (Nat.le_of_ble_eq_true rfl) ?_
    refine wp_in (L := [some (.ref 89), some (.int _)]) (Nat.le_of_ble_eq_true rfl) rfl ?_
    refine g_iload_n m116_0 rfl ?_
    refine g_iconst m116_1 ?_
    refine g_bipush m116_2 ?_
    refine g_cs (args := [.int _, .int (0), .int (7)]) (rest := []) 0 (Or.inl rfl) m116_4 (Nat.le_of_ble_eq_true rfl) rfl rfl (Nat.le_of_ble_eq_true rfl) ?_
    refine wp_in (L := [some (.int _), some (.int (0)), some (.int (7))]) (Nat.le_of_ble_eq_true rfl) rfl ?_
    refine g_iload_n m107_0 rfl ?_
    refine g_iload_n m107_1 rfl ?_
    refine g_ic_ltT m107_2 ((lt_k (a := (s1).toInt) (b := 0) (by rfl) (by rfl)).mpr (by omega)) ?_
    refine g_iconst m107_14 ?_
    refine g_zret m107_15 rfl (Or.inl rfl) ?_
    refine gwst (st' := [.int (0)]) rfl ?_
    refine g_if_eqT m116_7 (by decide) ?_
    refine g_aload_n m116_22 rfl ?_
    refine g_ldci m116_23 rfl ?_
    refine g_cv (args := [.int (-1000000001)]) (rest := []) m116_25 (Nat.le_of_ble_eq_true rfl) rfl rfl rfl (Nat.le_of_ble_eq_true rfl) ?_
    refine wp_in (L := [some (.ref 89), some (.int (-1000000001))]) (Nat.le_of_ble_eq_true rfl) rfl ?_
    refine g_aload_n m108_0 rfl ?_
    refine g_gf m108_1 rfl rfl ?_
    refine g_ldci m108_4 rfl ?_
    refine g_iload_n m108_6 rfl ?_
    refine g_isub (u := (1 : Int32)) m108_7 (by decide) ?_
    refine g_dup2 m108_8 rfl rfl ?_
    refine g_iald (x := (0 : Int32)) m108_9 rfl (vin rfl) rfl ?_
    refine g_iconst m108_10 ?_
    refine g_iadd (u := (1 : Int32)) m108_11 (by decide) ?_
    refine g_iast m108_12 (Nat.le_of_ble_eq_true rfl) rfl (vin rfl) rfl rfl rfl ?_
    refine g_iload_n m108_13 rfl ?_
    refine g_iret m108_14 rfl ?_
    refine gwst (st' := [.int (-1000000001)]) rfl ?_
    refine g_iret m116_28 rfl ?_
    refine gwst (st' := [.int (-1000000001), .int (-1000000001)]) rfl ?_
    refine g_ic_eqT m190_259 (by decide) ?_
    refine g_iinc (x2 := (6 : Int32)) (L2 := [some (.ref 0), some (.ref 32), some (.ref 89), some (.int (6))]) m190_1428 rfl (by decide) rfl rfl ?_
    refine g_goto m190_1431 ?_
    refine g_iload_n m190_18 rfl ?_
    refine g_aload_n m190_19 rfl ?_
    refine g_alen (n := 6) m190_20 rfl (Or.inl rfl) rfl ?_
    refine g_bipush m190_21 ?_
    refine g_isub (u := (0 : Int32)) m190_23 (by decide) ?_
    refine g_ic_gtT m190_24 (by decide) ?_
    refine g_iconst m190_1434 ?_
    refine g_zret m190_1435 rfl (Or.inr rfl) ?_
    exact rfl
  · have d2 : ¬ ((s1).toInt < 0) := fun q => c1 ((lt_k (by rfl) (by rfl)).mpr q)
    refine g_iload_n m54_4 rfl ?_
    refine g_iload_n m54_5 rfl ?_
    refine g_ic_gt m54_6 (fun c3 => ?_) (fun c3 => ?_)
    · have d4 : 7 < (s1).toInt := (lt_k (by rfl) (by rfl)).mp c3
      refine g_iconst m54_13 ?_
      refine g_zret m54_14 rfl (Or.inl rfl) ?_
      refine gwst (st' := [.int (0)]) rfl ?_
      refine g_if_neT m57_6 (by decide) ?_
      refine g_aload_n m57_9 rfl ?_
      refine g_iconst m57_10 ?_
      refine g_cv (args := [.int (1)]) (rest := []) m57_11 (Nat.le_of_ble_eq_true rfl) rfl rfl rfl (Nat.le_of_ble_eq_true rfl) ?_
      refine wp_in (L := [some (.ref 32), some (.int (1))]) (Nat.le_of_ble_eq_true rfl) rfl ?_
      refine g_aload_n m55_0 rfl ?_
      refine g_gf m55_1 rfl rfl ?_
      refine g_iload_n m55_4 rfl ?_
      refine g_dup2 m55_5 rfl rfl ?_
      refine g_iald (x := (0 : Int32)) m55_6 rfl (vin rfl) rfl ?_
      refine g_iconst m55_7 ?_
      refine g_iadd (u := (1 : Int32)) m55_8 (by decide) ?_
      refine g_iast m55_9 (Nat.le_of_ble_eq_true rfl) rfl (vin rfl) rfl rfl rfl ?_
      refine g_ldcw m55_10 ?_
      refine g_iload_n m55_13 rfl ?_
      refine g_isub (u := (-1000000001 : Int32)) m55_14 (by decide) ?_
      refine g_iret m55_15 rfl ?_
      refine gwst (st' := [.int (-1000000001)]) rfl ?_
      refine g_iret m57_14 rfl ?_
      refine gwst (st' := [.int (-1000000001)]) rfl ?_
      refine FRg rfl (fun f => ?_)
      refine g_aload_n m190_250 rfl ?_
      refine g_aload_n m190_251 rfl ?_
      refine g_iload_n m190_252 rfl ?_
      refine g_iconst m190_253 ?_
      refine g_iadd (u := (1 : Int32)) m190_254 (by decide) ?_
      refine g_iald (x := s1) m190_255 rfl (vin rfl) rfl ?_
      refine g_cv (args := [.int _]) (rest := [.int (-1000000001)]) m190_256 (Nat.le_of_ble_eq_true rfl) rfl rfl rfl (Nat.le_of_ble_eq_true rfl) ?_
      refine wp_in (L := [some (.ref 89), some (.int _)]) (Nat.le_of_ble_eq_true rfl) rfl ?_
      refine g_iload_n m116_0 rfl ?_
      refine g_iconst m116_1 ?_
      refine g_bipush m116_2 ?_
      refine g_cs (args := [.int _, .int (0), .int (7)]) (rest := []) 0 (Or.inl rfl) m116_4 (Nat.le_of_ble_eq_true rfl) rfl rfl (Nat.le_of_ble_eq_true rfl) ?_
      refine wp_in (L := [some (.int _), some (.int (0)), some (.int (7))]) (Nat.le_of_ble_eq_true rfl) rfl ?_
      refine g_iload_n m107_0 rfl ?_
      refine g_iload_n m107_1 rfl ?_
      refine g_ic_ltF m107_2 (fun q => absurd ((lt_k (a := (s1).toInt) (b := 0) (by rfl) (by rfl)).mp q) (by omega)) ?_
      refine g_iload_n m107_5 rfl ?_
      refine g_iload_n m107_6 rfl ?_
      refine g_ic_gtT m107_7 ((lt_k (a := 7) (b := (s1).toInt) (by rfl) (by rfl)).mpr (by omega)) ?_
      refine g_iconst m107_14 ?_
      refine g_zret m107_15 rfl (Or.inl rfl) ?_
      refine gwst (st' := [.int (0)]) rfl ?_
      refine g_if_eqT m116_7 (by decide) ?_
      refine g_aload_n m116_22 rfl ?_
      refine g_ldci m116_23 rfl ?_
      refine g_cv (args := [.int (-1000000001)]) (rest := []) m116_25 (Nat.le_of_ble_eq_true rfl) rfl rfl rfl (Nat.le_of_ble_eq_true rfl) ?_
      refine wp_in (L := [some (.ref 89), some (.int (-1000000001))]) (Nat.le_of_ble_eq_true rfl) rfl ?_
      refine g_aload_n m108_0 rfl ?_
      refine g_gf m108_1 rfl rfl ?_
      refine g_ldci m108_4 rfl ?_
      refine g_iload_n m108_6 rfl ?_
      refine g_isub (u := (1 : Int32)) m108_7 (by decide) ?_
      refine g_dup2 m108_8 rfl rfl ?_
      refine g_iald (x := (0 : Int32)) m108_9 rfl (vin rfl) rfl ?_
      refine g_iconst m108_10 ?_
      refine g_iadd (u := (1 : Int32)) m108_11 (by decide) ?_
      refine g_iast m108_12 (Nat.le_of_ble_eq_true rfl) rfl (vin rfl) rfl rfl rfl ?_
      refine g_iload_n m108_13 rfl ?_
      refine g_iret m108_14 rfl ?_
      refine gwst (st' := [.int (-1000000001)]) rfl ?_
      refine g_iret m116_28 rfl ?_
      refine gwst (st' := [.int (-1000000001), .int (-1000000001)]) rfl ?_
      refine g_ic_eqT m190_259 (by decide) ?_
      refine g_iinc (x2 := (6 : Int32)) (L2 := [some (.ref 0), some (.ref 32), some (.ref 89), some (.int (6))]) m190_1428 rfl (by decide) rfl rfl ?_
      refine g_goto m190_1431 ?_
      refine g_iload_n m190_18 rfl ?_
      refine g_aload_n m190_19 rfl ?_
      refine g_alen (n := 6) m190_20 rfl (Or.inl rfl) rfl ?_
      refine g_bipush m190_21 ?_
      refine g_isub (u := (0 : Int32)) m190_23 (by decide) ?_
      refine g_ic_gtT m190_24 (by decide) ?_
      refine g_iconst m190_1434 ?_
      refine g_zret m190_1435 rfl (Or.inr rfl) ?_
      exact rfl
    · have d4 : ¬ (7 < (s1).toInt) := fun q => c3 ((lt_k (by rfl) (by rfl)).mpr q)
      refine g_iconst m54_9 ?_
      refine g_goto m54_10 ?_
      refine g_zret m54_14 rfl (Or.inr rfl) ?_
      refine gwst (st' := [.int (1)]) rfl ?_
      refine g_if_neF m57_6 (by decide) ?_
      refine g_aload_n m57_15 rfl ?_
      refine g_gf m57_16 rfl rfl ?_
      refine g_gf m57_19 rfl rfl ?_
      refine g_iload_n m57_22 rfl ?_
      obtain ⟨j5, e6, x7⟩ := nat_of (x := s1) (lo := 0) (hi := 7) (by omega) (by omega)
      rcases (show j5 = 0 ∨ j5 = 1 ∨ j5 = 2 ∨ j5 = 3 ∨ j5 = 4 ∨ j5 = 5 ∨ j5 = 6 ∨ j5 = 7 by omega) with rfl | rfl | rfl | rfl | rfl | rfl | rfl | rfl
      · have x7q : s1 = (0 : Int32) := x7
        clear x7
        subst x7q
        refine g_iald (x := (5 : Int32)) m57_23 rfl (vin rfl) rfl ?_
        refine g_iret m57_24 rfl ?_
        refine gwst (st' := [.int (5)]) rfl ?_
        refine FRg rfl (fun f => ?_)
        refine g_aload_n m190_250 rfl ?_
        refine g_aload_n m190_251 rfl ?_
        refine g_iload_n m190_252 rfl ?_
        refine g_iconst m190_253 ?_
        refine g_iadd (u := (1 : Int32)) m190_254 (by decide) ?_
        refine g_iald (x := (0 : Int32)) m190_255 rfl (vin rfl) rfl ?_
        refine g_cv (args := [.int (0)]) (rest := [.int (5)]) m190_256 (Nat.le_of_ble_eq_true rfl) rfl rfl rfl (Nat.le_of_ble_eq_true rfl) ?_
        refine wp_in (L := [some (.ref 89), some (.int (0))]) (Nat.le_of_ble_eq_true rfl) rfl ?_
        refine g_iload_n m116_0 rfl ?_
        refine g_iconst m116_1 ?_
        refine g_bipush m116_2 ?_
        refine g_cs (args := [.int (0), .int (0), .int (7)]) (rest := []) 0 (Or.inl rfl) m116_4 (Nat.le_of_ble_eq_true rfl) rfl rfl (Nat.le_of_ble_eq_true rfl) ?_
        refine wp_in (L := [some (.int (0)), some (.int (0)), some (.int (7))]) (Nat.le_of_ble_eq_true rfl) rfl ?_
        refine g_iload_n m107_0 rfl ?_
        refine g_iload_n m107_1 rfl ?_
        refine g_ic_ltF m107_2 (by decide) ?_
        refine g_iload_n m107_5 rfl ?_
        refine g_iload_n m107_6 rfl ?_
        refine g_ic_gtF m107_7 (by decide) ?_
        refine g_iconst m107_10 ?_
        refine g_goto m107_11 ?_
        refine g_zret m107_15 rfl (Or.inr rfl) ?_
        refine gwst (st' := [.int (1)]) rfl ?_
        refine g_if_eqF m116_7 (by decide) ?_
        refine g_aload_n m116_10 rfl ?_
        refine g_gf m116_11 rfl rfl ?_
        refine g_bipush m116_14 ?_
        refine g_iload_n m116_16 rfl ?_
        refine g_iadd (u := (8 : Int32)) m116_17 (by decide) ?_
        refine g_iald (x := (5 : Int32)) m116_18 rfl (vin rfl) rfl ?_
        refine g_goto m116_19 ?_
        refine g_iret m116_28 rfl ?_
        refine gwst (st' := [.int (5), .int (5)]) rfl ?_
        refine g_ic_eqT m190_259 (by decide) ?_
        refine g_iinc (x2 := (6 : Int32)) (L2 := [some (.ref 0), some (.ref 32), some (.ref 89), some (.int (6))]) m190_1428 rfl (by decide) rfl rfl ?_
        refine g_goto m190_1431 ?_
        refine g_iload_n m190_18 rfl ?_
        refine g_aload_n m190_19 rfl ?_
        refine g_alen (n := 6) m190_20 rfl (Or.inl rfl) rfl ?_
        refine g_bipush m190_21 ?_
        refine g_isub (u := (0 : Int32)) m190_23 (by decide) ?_
        refine g_ic_gtT m190_24 (by decide) ?_
        refine g_iconst m190_1434 ?_
        refine g_zret m190_1435 rfl (Or.inr rfl) ?_
        exact rfl
      · have x7q : s1 = (1 : Int32) := x7
        clear x7
        subst x7q
        refine g_iald (x := (5 : Int32)) m57_23 rfl (vin rfl) rfl ?_
        refine g_iret m57_24 rfl ?_
        refine gwst (st' := [.int (5)]) rfl ?_
        refine FRg rfl (fun f => ?_)
        refine g_aload_n m190_250 rfl ?_
        refine g_aload_n m190_251 rfl ?_
        refine g_iload_n m190_252 rfl ?_
        refine g_iconst m190_253 ?_
        refine g_iadd (u := (1 : Int32)) m190_254 (by decide) ?_
        refine g_iald (x := (1 : Int32)) m190_255 rfl (vin rfl) rfl ?_
        refine g_cv (args := [.int (1)]) (rest := [.int (5)]) m190_256 (Nat.le_of_ble_eq_true rfl) rfl rfl rfl (Nat.le_of_ble_eq_true rfl) ?_
        refine wp_in (L := [some (.ref 89), some (.int (1))]) (Nat.le_of_ble_eq_true rfl) rfl ?_
        refine g_iload_n m116_0 rfl ?_
        refine g_iconst m116_1 ?_
        refine g_bipush m116_2 ?_
        refine g_cs (args := [.int (1), .int (0), .int (7)]) (rest := []) 0 (Or.inl rfl) m116_4 (Nat.le_of_ble_eq_true rfl) rfl rfl (Nat.le_of_ble_eq_true rfl) ?_
        refine wp_in (L := [some (.int (1)), some (.int (0)), some (.int (7))]) (Nat.le_of_ble_eq_true rfl) rfl ?_
        refine g_iload_n m107_0 rfl ?_
        refine g_iload_n m107_1 rfl ?_
        refine g_ic_ltF m107_2 (by decide) ?_
        refine g_iload_n m107_5 rfl ?_
        refine g_iload_n m107_6 rfl ?_
        refine g_ic_gtF m107_7 (by decide) ?_
        refine g_iconst m107_10 ?_
        refine g_goto m107_11 ?_
        refine g_zret m107_15 rfl (Or.inr rfl) ?_
        refine gwst (st' := [.int (1)]) rfl ?_
        refine g_if_eqF m116_7 (by decide) ?_
        refine g_aload_n m116_10 rfl ?_
        refine g_gf m116_11 rfl rfl ?_
        refine g_bipush m116_14 ?_
        refine g_iload_n m116_16 rfl ?_
        refine g_iadd (u := (9 : Int32)) m116_17 (by decide) ?_
        refine g_iald (x := (5 : Int32)) m116_18 rfl (vin rfl) rfl ?_
        refine g_goto m116_19 ?_
        refine g_iret m116_28 rfl ?_
        refine gwst (st' := [.int (5), .int (5)]) rfl ?_
        refine g_ic_eqT m190_259 (by decide) ?_
        refine g_iinc (x2 := (6 : Int32)) (L2 := [some (.ref 0), some (.ref 32), some (.ref 89), some (.int (6))]) m190_1428 rfl (by decide) rfl rfl ?_
        refine g_goto m190_1431 ?_
        refine g_iload_n m190_18 rfl ?_
        refine g_aload_n m190_19 rfl ?_
        refine g_alen (n := 6) m190_20 rfl (Or.inl rfl) rfl ?_
        refine g_bipush m190_21 ?_
        refine g_isub (u := (0 : Int32)) m190_23 (by decide) ?_
        refine g_ic_gtT m190_24 (by decide) ?_
        refine g_iconst m190_1434 ?_
        refine g_zret m190_1435 rfl (Or.inr rfl) ?_
        exact rfl
      · have x7q : s1 = (2 : Int32) := x7
        clear x7
        subst x7q
        refine g_iald (x := (5 : Int32)) m57_23 rfl (vin rfl) rfl ?_
        refine g_iret m57_24 rfl ?_
        refine gwst (st' := [.int (5)]) rfl ?_
        refine FRg rfl (fun f => ?_)
        refine g_aload_n m190_250 rfl ?_
        refine g_aload_n m190_251 rfl ?_
        refine g_iload_n m190_252 rfl ?_
        refine g_iconst m190_253 ?_
        refine g_iadd (u := (1 : Int32)) m190_254 (by decide) ?_
        refine g_iald (x := (2 : Int32)) m190_255 rfl (vin rfl) rfl ?_
        refine g_cv (args := [.int (2)]) (rest := [.int (5)]) m190_256 (Nat.le_of_ble_eq_true rfl) rfl rfl rfl (Nat.le_of_ble_eq_true rfl) ?_
        refine wp_in (L := [some (.ref 89), some (.int (2))]) (Nat.le_of_ble_eq_true rfl) rfl ?_
        refine g_iload_n m116_0 rfl ?_
        refine g_iconst m116_1 ?_
        refine g_bipush m116_2 ?_
        refine g_cs (args := [.int (2), .int (0), .int (7)]) (rest := []) 0 (Or.inl rfl) m116_4 (Nat.le_of_ble_eq_true rfl) rfl rfl (Nat.le_of_ble_eq_true rfl) ?_
        refine wp_in (L := [some (.int (2)), some (.int (0)), some (.int (7))]) (Nat.le_of_ble_eq_true rfl) rfl ?_
        refine g_iload_n m107_0 rfl ?_
        refine g_iload_n m107_1 rfl ?_
        refine g_ic_ltF m107_2 (by decide) ?_
        refine g_iload_n m107_5 rfl ?_
        refine g_iload_n m107_6 rfl ?_
        refine g_ic_gtF m107_7 (by decide) ?_
        refine g_iconst m107_10 ?_
        refine g_goto m107_11 ?_
        refine g_zret m107_15 rfl (Or.inr rfl) ?_
        refine gwst (st' := [.int (1)]) rfl ?_
        refine g_if_eqF m116_7 (by decide) ?_
        refine g_aload_n m116_10 rfl ?_
        refine g_gf m116_11 rfl rfl ?_
        refine g_bipush m116_14 ?_
        refine g_iload_n m116_16 rfl ?_
        refine g_iadd (u := (10 : Int32)) m116_17 (by decide) ?_
        refine g_iald (x := (5 : Int32)) m116_18 rfl (vin rfl) rfl ?_
        refine g_goto m116_19 ?_
        refine g_iret m116_28 rfl ?_
        refine gwst (st' := [.int (5), .int (5)]) rfl ?_
        refine g_ic_eqT m190_259 (by decide) ?_
        refine g_iinc (x2 := (6 : Int32)) (L2 := [some (.ref 0), some (.ref 32), some (.ref 89), some (.int (6))]) m190_1428 rfl (by decide) rfl rfl ?_
        refine g_goto m190_1431 ?_
        refine g_iload_n m190_18 rfl ?_
        refine g_aload_n m190_19 rfl ?_
        refine g_alen (n := 6) m190_20 rfl (Or.inl rfl) rfl ?_
        refine g_bipush m190_21 ?_
        refine g_isub (u := (0 : Int32)) m190_23 (by decide) ?_
        refine g_ic_gtT m190_24 (by decide) ?_
        refine g_iconst m190_1434 ?_
        refine g_zret m190_1435 rfl (Or.inr rfl) ?_
        exact rfl
      · have x7q : s1 = (3 : Int32) := x7
        clear x7
        subst x7q
        refine g_iald (x := (5 : Int32)) m57_23 rfl (vin rfl) rfl ?_
        refine g_iret m57_24 rfl ?_
        refine gwst (st' := [.int (5)]) rfl ?_
        refine FRg rfl (fun f => ?_)
        refine g_aload_n m190_250 rfl ?_
        refine g_aload_n m190_251 rfl ?_
        refine g_iload_n m190_252 rfl ?_
        refine g_iconst m190_253 ?_
        refine g_iadd (u := (1 : Int32)) m190_254 (by decide) ?_
        refine g_iald (x := (3 : Int32)) m190_255 rfl (vin rfl) rfl ?_
        refine g_cv (args := [.int (3)]) (rest := [.int (5)]) m190_256 (Nat.le_of_ble_eq_true rfl) rfl rfl rfl (Nat.le_of_ble_eq_true rfl) ?_
        refine wp_in (L := [some (.ref 89), some (.int (3))]) (Nat.le_of_ble_eq_true rfl) rfl ?_
        refine g_iload_n m116_0 rfl ?_
        refine g_iconst m116_1 ?_
        refine g_bipush m116_2 ?_
        refine g_cs (args := [.int (3), .int (0), .int (7)]) (rest := []) 0 (Or.inl rfl) m116_4 (Nat.le_of_ble_eq_true rfl) rfl rfl (Nat.le_of_ble_eq_true rfl) ?_
        refine wp_in (L := [some (.int (3)), some (.int (0)), some (.int (7))]) (Nat.le_of_ble_eq_true rfl) rfl ?_
        refine g_iload_n m107_0 rfl ?_
        refine g_iload_n m107_1 rfl ?_
        refine g_ic_ltF m107_2 (by decide) ?_
        refine g_iload_n m107_5 rfl ?_
        refine g_iload_n m107_6 rfl ?_
        refine g_ic_gtF m107_7 (by decide) ?_
        refine g_iconst m107_10 ?_
        refine g_goto m107_11 ?_
        refine g_zret m107_15 rfl (Or.inr rfl) ?_
        refine gwst (st' := [.int (1)]) rfl ?_
        refine g_if_eqF m116_7 (by decide) ?_
        refine g_aload_n m116_10 rfl ?_
        refine g_gf m116_11 rfl rfl ?_
        refine g_bipush m116_14 ?_
        refine g_iload_n m116_16 rfl ?_
        refine g_iadd (u := (11 : Int32)) m116_17 (by decide) ?_
        refine g_iald (x := (5 : Int32)) m116_18 rfl (vin rfl) rfl ?_
        refine g_goto m116_19 ?_
        refine g_iret m116_28 rfl ?_
        refine gwst (st' := [.int (5), .int (5)]) rfl ?_
        refine g_ic_eqT m190_259 (by decide) ?_
        refine g_iinc (x2 := (6 : Int32)) (L2 := [some (.ref 0), some (.ref 32), some (.ref 89), some (.int (6))]) m190_1428 rfl (by decide) rfl rfl ?_
        refine g_goto m190_1431 ?_
        refine g_iload_n m190_18 rfl ?_
        refine g_aload_n m190_19 rfl ?_
        refine g_alen (n := 6) m190_20 rfl (Or.inl rfl) rfl ?_
        refine g_bipush m190_21 ?_
        refine g_isub (u := (0 : Int32)) m190_23 (by decide) ?_
        refine g_ic_gtT m190_24 (by decide) ?_
        refine g_iconst m190_1434 ?_
        refine g_zret m190_1435 rfl (Or.inr rfl) ?_
        exact rfl
      · have x7q : s1 = (4 : Int32) := x7
        clear x7
        subst x7q
        refine g_iald (x := (5 : Int32)) m57_23 rfl (vin rfl) rfl ?_
        refine g_iret m57_24 rfl ?_
        refine gwst (st' := [.int (5)]) rfl ?_
        refine FRg rfl (fun f => ?_)
        refine g_aload_n m190_250 rfl ?_
        refine g_aload_n m190_251 rfl ?_
        refine g_iload_n m190_252 rfl ?_
        refine g_iconst m190_253 ?_
        refine g_iadd (u := (1 : Int32)) m190_254 (by decide) ?_
        refine g_iald (x := (4 : Int32)) m190_255 rfl (vin rfl) rfl ?_
        refine g_cv (args := [.int (4)]) (rest := [.int (5)]) m190_256 (Nat.le_of_ble_eq_true rfl) rfl rfl rfl (Nat.le_of_ble_eq_true rfl) ?_
        refine wp_in (L := [some (.ref 89), some (.int (4))]) (Nat.le_of_ble_eq_true rfl) rfl ?_
        refine g_iload_n m116_0 rfl ?_
        refine g_iconst m116_1 ?_
        refine g_bipush m116_2 ?_
        refine g_cs (args := [.int (4), .int (0), .int (7)]) (rest := []) 0 (Or.inl rfl) m116_4 (Nat.le_of_ble_eq_true rfl) rfl rfl (Nat.le_of_ble_eq_true rfl) ?_
        refine wp_in (L := [some (.int (4)), some (.int (0)), some (.int (7))]) (Nat.le_of_ble_eq_true rfl) rfl ?_
        refine g_iload_n m107_0 rfl ?_
        refine g_iload_n m107_1 rfl ?_
        refine g_ic_ltF m107_2 (by decide) ?_
        refine g_iload_n m107_5 rfl ?_
        refine g_iload_n m107_6 rfl ?_
        refine g_ic_gtF m107_7 (by decide) ?_
        refine g_iconst m107_10 ?_
        refine g_goto m107_11 ?_
        refine g_zret m107_15 rfl (Or.inr rfl) ?_
        refine gwst (st' := [.int (1)]) rfl ?_
        refine g_if_eqF m116_7 (by decide) ?_
        refine g_aload_n m116_10 rfl ?_
        refine g_gf m116_11 rfl rfl ?_
        refine g_bipush m116_14 ?_
        refine g_iload_n m116_16 rfl ?_
        refine g_iadd (u := (12 : Int32)) m116_17 (by decide) ?_
        refine g_iald (x := (5 : Int32)) m116_18 rfl (vin rfl) rfl ?_
        refine g_goto m116_19 ?_
        refine g_iret m116_28 rfl ?_
        refine gwst (st' := [.int (5), .int (5)]) rfl ?_
        refine g_ic_eqT m190_259 (by decide) ?_
        refine g_iinc (x2 := (6 : Int32)) (L2 := [some (.ref 0), some (.ref 32), some (.ref 89), some (.int (6))]) m190_1428 rfl (by decide) rfl rfl ?_
        refine g_goto m190_1431 ?_
        refine g_iload_n m190_18 rfl ?_
        refine g_aload_n m190_19 rfl ?_
        refine g_alen (n := 6) m190_20 rfl (Or.inl rfl) rfl ?_
        refine g_bipush m190_21 ?_
        refine g_isub (u := (0 : Int32)) m190_23 (by decide) ?_
        refine g_ic_gtT m190_24 (by decide) ?_
        refine g_iconst m190_1434 ?_
        refine g_zret m190_1435 rfl (Or.inr rfl) ?_
        exact rfl
      · have x7q : s1 = (5 : Int32) := x7
        clear x7
        subst x7q
        refine g_iald (x := (5 : Int32)) m57_23 rfl (vin rfl) rfl ?_
        refine g_iret m57_24 rfl ?_
        refine gwst (st' := [.int (5)]) rfl ?_
        refine FRg rfl (fun f => ?_)
        refine g_aload_n m190_250 rfl ?_
        refine g_aload_n m190_251 rfl ?_
        refine g_iload_n m190_252 rfl ?_
        refine g_iconst m190_253 ?_
        refine g_iadd (u := (1 : Int32)) m190_254 (by decide) ?_
        refine g_iald (x := (5 : Int32)) m190_255 rfl (vin rfl) rfl ?_
        refine g_cv (args := [.int (5)]) (rest := [.int (5)]) m190_256 (Nat.le_of_ble_eq_true rfl) rfl rfl rfl (Nat.le_of_ble_eq_true rfl) ?_
        refine wp_in (L := [some (.ref 89), some (.int (5))]) (Nat.le_of_ble_eq_true rfl) rfl ?_
        refine g_iload_n m116_0 rfl ?_
        refine g_iconst m116_1 ?_
        refine g_bipush m116_2 ?_
        refine g_cs (args := [.int (5), .int (0), .int (7)]) (rest := []) 0 (Or.inl rfl) m116_4 (Nat.le_of_ble_eq_true rfl) rfl rfl (Nat.le_of_ble_eq_true rfl) ?_
        refine wp_in (L := [some (.int (5)), some (.int (0)), some (.int (7))]) (Nat.le_of_ble_eq_true rfl) rfl ?_
        refine g_iload_n m107_0 rfl ?_
        refine g_iload_n m107_1 rfl ?_
        refine g_ic_ltF m107_2 (by decide) ?_
        refine g_iload_n m107_5 rfl ?_
        refine g_iload_n m107_6 rfl ?_
        refine g_ic_gtF m107_7 (by decide) ?_
        refine g_iconst m107_10 ?_
        refine g_goto m107_11 ?_
        refine g_zret m107_15 rfl (Or.inr rfl) ?_
        refine gwst (st' := [.int (1)]) rfl ?_
        refine g_if_eqF m116_7 (by decide) ?_
        refine g_aload_n m116_10 rfl ?_
        refine g_gf m116_11 rfl rfl ?_
        refine g_bipush m116_14 ?_
        refine g_iload_n m116_16 rfl ?_
        refine g_iadd (u := (13 : Int32)) m116_17 (by decide) ?_
        refine g_iald (x := (5 : Int32)) m116_18 rfl (vin rfl) rfl ?_
        refine g_goto m116_19 ?_
        refine g_iret m116_28 rfl ?_
        refine gwst (st' := [.int (5), .int (5)]) rfl ?_
        refine g_ic_eqT m190_259 (by decide) ?_
        refine g_iinc (x2 := (6 : Int32)) (L2 := [some (.ref 0), some (.ref 32), some (.ref 89), some (.int (6))]) m190_1428 rfl (by decide) rfl rfl ?_
        refine g_goto m190_1431 ?_
        refine g_iload_n m190_18 rfl ?_
        refine g_aload_n m190_19 rfl ?_
        refine g_alen (n := 6) m190_20 rfl (Or.inl rfl) rfl ?_
        refine g_bipush m190_21 ?_
        refine g_isub (u := (0 : Int32)) m190_23 (by decide) ?_
        refine g_ic_gtT m190_24 (by decide) ?_
        refine g_iconst m190_1434 ?_
        refine g_zret m190_1435 rfl (Or.inr rfl) ?_
        exact rfl
      · have x7q : s1 = (6 : Int32) := x7
        clear x7
        subst x7q
        refine g_iald (x := (5 : Int32)) m57_23 rfl (vin rfl) rfl ?_
        refine g_iret m57_24 rfl ?_
        refine gwst (st' := [.int (5)]) rfl ?_
        refine FRg rfl (fun f => ?_)
        refine g_aload_n m190_250 rfl ?_
        refine g_aload_n m190_251 rfl ?_
        refine g_iload_n m190_252 rfl ?_
        refine g_iconst m190_253 ?_
        refine g_iadd (u := (1 : Int32)) m190_254 (by decide) ?_
        refine g_iald (x := (6 : Int32)) m190_255 rfl (vin rfl) rfl ?_
        refine g_cv (args := [.int (6)]) (rest := [.int (5)]) m190_256 (Nat.le_of_ble_eq_true rfl) rfl rfl rfl (Nat.le_of_ble_eq_true rfl) ?_
        refine wp_in (L := [some (.ref 89), some (.int (6))]) (Nat.le_of_ble_eq_true rfl) rfl ?_
        refine g_iload_n m116_0 rfl ?_
        refine g_iconst m116_1 ?_
        refine g_bipush m116_2 ?_
        refine g_cs (args := [.int (6), .int (0), .int (7)]) (rest := []) 0 (Or.inl rfl) m116_4 (Nat.le_of_ble_eq_true rfl) rfl rfl (Nat.le_of_ble_eq_true rfl) ?_
        refine wp_in (L := [some (.int (6)), some (.int (0)), some (.int (7))]) (Nat.le_of_ble_eq_true rfl) rfl ?_
        refine g_iload_n m107_0 rfl ?_
        refine g_iload_n m107_1 rfl ?_
        refine g_ic_ltF m107_2 (by decide) ?_
        refine g_iload_n m107_5 rfl ?_
        refine g_iload_n m107_6 rfl ?_
        refine g_ic_gtF m107_7 (by decide) ?_
        refine g_iconst m107_10 ?_
        refine g_goto m107_11 ?_
        refine g_zret m107_15 rfl (Or.inr rfl) ?_
        refine gwst (st' := [.int (1)]) rfl ?_
        refine g_if_eqF m116_7 (by decide) ?_
        refine g_aload_n m116_10 rfl ?_
        refine g_gf m116_11 rfl rfl ?_
        refine g_bipush m116_14 ?_
        refine g_iload_n m116_16 rfl ?_
        refine g_iadd (u := (14 : Int32)) m116_17 (by decide) ?_
        refine g_iald (x := (5 : Int32)) m116_18 rfl (vin rfl) rfl ?_
        refine g_goto m116_19 ?_
        refine g_iret m116_28 rfl ?_
        refine gwst (st' := [.int (5), .int (5)]) rfl ?_
        refine g_ic_eqT m190_259 (by decide) ?_
        refine g_iinc (x2 := (6 : Int32)) (L2 := [some (.ref 0), some (.ref 32), some (.ref 89), some (.int (6))]) m190_1428 rfl (by decide) rfl rfl ?_
        refine g_goto m190_1431 ?_
        refine g_iload_n m190_18 rfl ?_
        refine g_aload_n m190_19 rfl ?_
        refine g_alen (n := 6) m190_20 rfl (Or.inl rfl) rfl ?_
        refine g_bipush m190_21 ?_
        refine g_isub (u := (0 : Int32)) m190_23 (by decide) ?_
        refine g_ic_gtT m190_24 (by decide) ?_
        refine g_iconst m190_1434 ?_
        refine g_zret m190_1435 rfl (Or.inr rfl) ?_
        exact rfl
      · have x7q : s1 = (7 : Int32) := x7
        clear x7
        subst x7q
        refine g_iald (x := (5 : Int32)) m57_23 rfl (vin rfl) rfl ?_
        refine g_iret m57_24 rfl ?_
        refine gwst (st' := [.int (5)]) rfl ?_
        refine FRg rfl (fun f => ?_)
        refine g_aload_n m190_250 rfl ?_
        refine g_aload_n m190_251 rfl ?_
        refine g_iload_n m190_252 rfl ?_
        refine g_iconst m190_253 ?_
        refine g_iadd (u := (1 : Int32)) m190_254 (by decide) ?_
        refine g_iald (x := (7 : Int32)) m190_255 rfl (vin rfl) rfl ?_
        refine g_cv (args := [.int (7)]) (rest := [.int (5)]) m190_256 (Nat.le_of_ble_eq_true rfl) rfl rfl rfl (Nat.le_of_ble_eq_true rfl) ?_
        refine wp_in (L := [some (.ref 89), some (.int (7))]) (Nat.le_of_ble_eq_true rfl) rfl ?_
        refine g_iload_n m116_0 rfl ?_
        refine g_iconst m116_1 ?_
        refine g_bipush m116_2 ?_
        refine g_cs (args := [.int (7), .int (0), .int (7)]) (rest := []) 0 (Or.inl rfl) m116_4 (Nat.le_of_ble_eq_true rfl) rfl rfl (Nat.le_of_ble_eq_true rfl) ?_
        refine wp_in (L := [some (.int (7)), some (.int (0)), some (.int (7))]) (Nat.le_of_ble_eq_true rfl) rfl ?_
        refine g_iload_n m107_0 rfl ?_
        refine g_iload_n m107_1 rfl ?_
        refine g_ic_ltF m107_2 (by decide) ?_
        refine g_iload_n m107_5 rfl ?_
        refine g_iload_n m107_6 rfl ?_
        refine g_ic_gtF m107_7 (by decide) ?_
        refine g_iconst m107_10 ?_
        refine g_goto m107_11 ?_
        refine g_zret m107_15 rfl (Or.inr rfl) ?_
        refine gwst (st' := [.int (1)]) rfl ?_
        refine g_if_eqF m116_7 (by decide) ?_
        refine g_aload_n m116_10 rfl ?_
        refine g_gf m116_11 rfl rfl ?_
        refine g_bipush m116_14 ?_
        refine g_iload_n m116_16 rfl ?_
        refine g_iadd (u := (15 : Int32)) m116_17 (by decide) ?_
        refine g_iald (x := (5 : Int32)) m116_18 rfl (vin rfl) rfl ?_
        refine g_goto m116_19 ?_
        refine g_iret m116_28 rfl ?_
        refine gwst (st' := [.int (5), .int (5)]) rfl ?_
        refine g_ic_eqT m190_259 (by decide) ?_
        refine g_iinc (x2 := (6 : Int32)) (L2 := [some (.ref 0), some (.ref 32), some (.ref 89), some (.int (6))]) m190_1428 rfl (by decide) rfl rfl ?_
        refine g_goto m190_1431 ?_
        refine g_iload_n m190_18 rfl ?_
        refine g_aload_n m190_19 rfl ?_
        refine g_alen (n := 6) m190_20 rfl (Or.inl rfl) rfl ?_
        refine g_bipush m190_21 ?_
        refine g_isub (u := (0 : Int32)) m190_23 (by decide) ?_
        refine g_ic_gtT m190_24 (by decide) ?_
        refine g_iconst m190_1434 ?_
        refine g_zret m190_1435 rfl (Or.inr rfl) ?_
        exact rfl
set_option maxRecDepth 20000 in
set_option maxHeartbeats 40000000 in
theorem lc_2 {s0 s1 s2 s3 s4 s5 : Int32} {d mc ms : Nat} : gw [s0, s1, s2, s3, s4, s5] (WP [s0, s1, s2, s3, s4, s5] (d + 20)) 190 (fun r _ => r = some (.int 1)) 264 [some (.ref 0), some (.ref 32), some (.ref 89), some (.int 0)] [] (hX0 ++ hM0) mc ms := by
  refine g_aload_n m190_264 rfl ?_
  refine g_aload_n m190_265 rfl ?_
  refine g_iload_n m190_266 rfl ?_
  refine g_iconst m190_267 ?_
  refine g_iadd (u := (1 : Int32)) m190_268 (by decide) ?_
  refine g_iald (x := s1) m190_269 rfl (vin rfl) rfl ?_
  refine g_cv (args := [.int _]) (rest := []) m190_270 (Nat.le_of_ble_eq_true rfl) rfl rfl rfl (Nat.le_of_ble_eq_true rfl) ?_
  refine wp_in (L := [some (.ref 32), some (.int _), none]) (Nat.le_of_ble_eq_true rfl) rfl ?_
  refine g_iload_n m58_0 rfl ?_
  refine g_iconst m58_1 ?_
  refine g_ic_lt m58_2 (fun c1 => ?_) (fun c1 => ?_)
  · have d2 : (s1).toInt < 1 := (lt_k (by rfl) (by rfl)).mp c1
    refine g_aload_n m58_10 rfl ?_
    refine g_iconst m58_11 ?_
    refine g_cv (args := [.int (1)]) (rest := []) m58_12 (Nat.le_of_ble_eq_true rfl) rfl rfl rfl (Nat.le_of_ble_eq_true rfl) ?_
    refine wp_in (L := [some (.ref 32), some (.int (1))]) (Nat.le_of_ble_eq_true rfl) rfl ?_
    refine g_aload_n m55_0 rfl ?_
    refine g_gf m55_1 rfl rfl ?_
    refine g_iload_n m55_4 rfl ?_
    refine g_dup2 m55_5 rfl rfl ?_
    refine g_iald (x := (0 : Int32)) m55_6 rfl (vin rfl) rfl ?_
    refine g_iconst m55_7 ?_
    refine g_iadd (u := (1 : Int32)) m55_8 (by decide) ?_
    refine g_iast m55_9 (Nat.le_of_ble_eq_true rfl) rfl (vin rfl) rfl rfl rfl ?_
    refine g_ldcw m55_10 ?_
    refine g_iload_n m55_13 rfl ?_
    refine g_isub (u := (-1000000001 : Int32)) m55_14 (by decide) ?_
    refine g_iret m55_15 rfl ?_
    refine gwst (st' := [.int (-1000000001)]) rfl ?_
    refine g_iret m58_15 rfl ?_
    refine gwst (st' := [.int (-1000000001)]) rfl ?_
    refine FRg rfl (fun f => ?_)
    refine g_aload_n m190_273 rfl ?_
    refine g_aload_n m190_274 rfl ?_
    refine g_iload_n m190_275 rfl ?_
    refine g_iconst m190_276 ?_
    refine g_iadd (u := (1 : Int32)) m190_277 (by decide) ?_
    refine g_iald (x := s1) m190_278 rfl (vin rfl) rfl ?_
    refine g_cv (args := [.int _]) (rest := [.int (-1000000001)]) m190_279 (Nat.le_of_ble_eq_true rfl) rfl rfl rfl (Nat.le_of_ble_eq_true rfl) ?_
    refine wp_in (L := [some (.ref 89), some (.int _)]) (Nat.le_of_ble_eq_true rfl) rfl ?_
    refine g_iload_n m117_0 rfl ?_
    refine g_iconst m117_1 ?_
    refine g_iconst m117_2 ?_
    refine g_cs (args := [.int _, .int (1), .int (4)]) (rest := []) 0 (Or.inl rfl) m117_3 (Nat.le_of_ble_eq_true rfl) rfl rfl (Nat.le_of_ble_eq_true rfl) ?_
    refine wp_in (L := [some (.int _), some (.int (1)), some (.int (4))]) (Nat.le_of_ble_eq_true rfl) rfl ?_
    refine g_iload_n m107_0 rfl ?_
    refine g_iload_n m107_1 rfl ?_
    refine g_ic_ltT m107_2 ((lt_k (a := (s1).toInt) (b := 1) (by rfl) (by rfl)).mpr (by omega)) ?_
    refine g_iconst m107_14 ?_
    refine g_zret m107_15 rfl (Or.inl rfl) ?_
    refine gwst (st' := [.int (0)]) rfl ?_
    refine g_if_eqT m117_6 (by decide) ?_
    refine g_aload_n m117_19 rfl ?_
    refine g_ldci m117_20 rfl ?_
    refine g_cv (args := [.int (-1000000001)]) (rest := []) m117_22 (Nat.le_of_ble_eq_true rfl) rfl rfl rfl (Nat.le_of_ble_eq_true rfl) ?_
    refine wp_in (L := [some (.ref 89), some (.int (-1000000001))]) (Nat.le_of_ble_eq_true rfl) rfl ?_
    refine g_aload_n m108_0 rfl ?_
    refine g_gf m108_1 rfl rfl ?_
    refine g_ldci m108_4 rfl ?_
    refine g_iload_n m108_6 rfl ?_
    refine g_isub (u := (1 : Int32)) m108_7 (by decide) ?_
    refine g_dup2 m108_8 rfl rfl ?_
    refine g_iald (x := (0 : Int32)) m108_9 rfl (vin rfl) rfl ?_
    refine g_iconst m108_10 ?_
    refine g_iadd (u := (1 : Int32)) m108_11 (by decide) ?_
    refine g_iast m108_12 (Nat.le_of_ble_eq_true rfl) rfl (vin rfl) rfl rfl rfl ?_
    refine g_iload_n m108_13 rfl ?_
    refine g_iret m108_14 rfl ?_
    refine gwst (st' := [.int (-1000000001)]) rfl ?_
    refine g_iret m117_25 rfl ?_
    refine gwst (st' := [.int (-1000000001), .int (-1000000001)]) rfl ?_
    refine g_ic_eqT m190_282 (by decide) ?_
    refine g_iinc (x2 := (6 : Int32)) (L2 := [some (.ref 0), some (.ref 32), some (.ref 89), some (.int (6))]) m190_1428 rfl (by decide) rfl rfl ?_
    refine g_goto m190_1431 ?_
    refine g_iload_n m190_18 rfl ?_
    refine g_aload_n m190_19 rfl ?_
    refine g_alen (n := 6) m190_20 rfl (Or.inl rfl) rfl ?_
    refine g_bipush m190_21 ?_
    refine g_isub (u := (0 : Int32)) m190_23 (by decide) ?_
    refine g_ic_gtT m190_24 (by decide) ?_
    refine g_iconst m190_1434 ?_
    refine g_zret m190_1435 rfl (Or.inr rfl) ?_
    exact rfl
  · have d2 : ¬ ((s1).toInt < 1) := fun q => c1 ((lt_k (by rfl) (by rfl)).mpr q)
    refine g_iload_n m58_5 rfl ?_
    refine g_iconst m58_6 ?_
    refine g_ic_le m58_7 (fun c3 => ?_) (fun c3 => ?_)
    · have d4 : (s1).toInt ≤ 4 := (le_k (by rfl) (by rfl)).mp c3
      refine g_aload_n m58_16 rfl ?_
      refine g_gf m58_17 rfl rfl ?_
      refine g_gf m58_20 rfl rfl ?_
      refine g_istore_n (L2 := [some (.ref 32), some (.int _), some (.int (1))]) m58_23 rfl rfl ?_
      refine g_aload_n m58_24 rfl ?_
      refine g_gf m58_25 rfl rfl ?_
      refine g_iload_n m58_28 rfl ?_
      refine g_pf (fs2 := [.ref 34, .ref 35, .ref 36, .ref 37, .ref 38, .ref 39, .ref 40, .ref 41, .int _, .int (0), .int (0), .null, .null]) m58_29 rfl (Nat.le_of_ble_eq_true rfl) rfl (Nat.le_of_ble_eq_true rfl) trivial rfl rfl rfl ?_
      refine g_iload_n m58_32 rfl ?_
      refine g_iret m58_33 rfl ?_
      refine gwst (st' := [.int (1)]) rfl ?_
      refine FRg rfl (fun f => ?_)
      refine g_aload_n m190_273 rfl ?_
      refine g_aload_n m190_274 rfl ?_
      refine g_iload_n m190_275 rfl ?_
      refine g_iconst m190_276 ?_
      refine g_iadd (u := (1 : Int32)) m190_277 (by decide) ?_
      refine g_iald (x := s1) m190_278 rfl (vin rfl) rfl ?_
      refine g_cv (args := [.int _]) (rest := [.int (1)]) m190_279 (Nat.le_of_ble_eq_true rfl) rfl rfl rfl (Nat.le_of_ble_eq_true rfl) ?_
      refine wp_in (L := [some (.ref 89), some (.int _)]) (Nat.le_of_ble_eq_true rfl) rfl ?_
      refine g_iload_n m117_0 rfl ?_
      refine g_iconst m117_1 ?_
      refine g_iconst m117_2 ?_
      refine g_cs (args := [.int _, .int (1), .int (4)]) (rest := []) 0 (Or.inl rfl) m117_3 (Nat.le_of_ble_eq_true rfl) rfl rfl (Nat.le_of_ble_eq_true rfl) ?_
      refine wp_in (L := [some (.int _), some (.int (1)), some (.int (4))]) (Nat.le_of_ble_eq_true rfl) rfl ?_
      refine g_iload_n m107_0 rfl ?_
      refine g_iload_n m107_1 rfl ?_
      refine g_ic_ltF m107_2 (fun q => absurd ((lt_k (a := (s1).toInt) (b := 1) (by rfl) (by rfl)).mp q) (by omega)) ?_
      refine g_iload_n m107_5 rfl ?_
      refine g_iload_n m107_6 rfl ?_
      refine g_ic_gtF m107_7 (fun q => absurd ((lt_k (a := 4) (b := (s1).toInt) (by rfl) (by rfl)).mp q) (by omega)) ?_
      refine g_iconst m107_10 ?_
      refine g_goto m107_11 ?_
      refine g_zret m107_15 rfl (Or.inr rfl) ?_
      refine gwst (st' := [.int (1)]) rfl ?_
      refine g_if_eqF m117_6 (by decide) ?_
      refine g_aload_n m117_9 rfl ?_
      refine g_bipush m117_10 ?_
      refine g_iload_n m117_12 rfl ?_
      refine g_cv (args := [.int (7), .int _]) (rest := []) m117_13 (Nat.le_of_ble_eq_true rfl) rfl rfl rfl (Nat.le_of_ble_eq_true rfl) ?_
      refine wp_in (L := [some (.ref 89), some (.int (7)), some (.int _), none]) (Nat.le_of_ble_eq_true rfl) rfl ?_
      refine g_aload_n m114_0 rfl ?_
      refine g_gf m114_1 rfl rfl ?_
      refine g_iload_n m114_4 rfl ?_
      refine g_iald (x := (1 : Int32)) m114_5 rfl (vin rfl) rfl ?_
      refine g_istore_n (L2 := [some (.ref 89), some (.int (7)), some (.int _), some (.int (1))]) m114_6 rfl rfl ?_
      refine g_aload_n m114_7 rfl ?_
      refine g_gf m114_8 rfl rfl ?_
      refine g_iload_n m114_11 rfl ?_
      refine g_iload_n m114_12 rfl ?_
      refine g_iast m114_13 (Nat.le_of_ble_eq_true rfl) rfl (vin rfl) rfl rfl rfl ?_
      refine g_iload_n m114_14 rfl ?_
      refine g_iret m114_15 rfl ?_
      refine gwst (st' := [.int (1)]) rfl ?_
      refine g_goto m117_16 ?_
      refine g_iret m117_25 rfl ?_
      refine gwst (st' := [.int (1), .int (1)]) rfl ?_
      refine g_ic_eqT m190_282 (by decide) ?_
      refine g_iinc (x2 := (6 : Int32)) (L2 := [some (.ref 0), some (.ref 32), some (.ref 89), some (.int (6))]) m190_1428 rfl (by decide) rfl rfl ?_
      refine g_goto m190_1431 ?_
      refine g_iload_n m190_18 rfl ?_
      refine g_aload_n m190_19 rfl ?_
      refine g_alen (n := 6) m190_20 rfl (Or.inl rfl) rfl ?_
      refine g_bipush m190_21 ?_
      refine g_isub (u := (0 : Int32)) m190_23 (by decide) ?_
      refine g_ic_gtT m190_24 (by decide) ?_
      refine g_iconst m190_1434 ?_
      refine g_zret m190_1435 rfl (Or.inr rfl) ?_
      exact rfl
    · have d4 : ¬ ((s1).toInt ≤ 4) := fun q => c3 ((le_k (by rfl) (by rfl)).mpr q)
      refine g_aload_n m58_10 rfl ?_
      refine g_iconst m58_11 ?_
      refine g_cv (args := [.int (1)]) (rest := []) m58_12 (Nat.le_of_ble_eq_true rfl) rfl rfl rfl (Nat.le_of_ble_eq_true rfl) ?_
      refine wp_in (L := [some (.ref 32), some (.int (1))]) (Nat.le_of_ble_eq_true rfl) rfl ?_
      refine g_aload_n m55_0 rfl ?_
      refine g_gf m55_1 rfl rfl ?_
      refine g_iload_n m55_4 rfl ?_
      refine g_dup2 m55_5 rfl rfl ?_
      refine g_iald (x := (0 : Int32)) m55_6 rfl (vin rfl) rfl ?_
      refine g_iconst m55_7 ?_
      refine g_iadd (u := (1 : Int32)) m55_8 (by decide) ?_
      refine g_iast m55_9 (Nat.le_of_ble_eq_true rfl) rfl (vin rfl) rfl rfl rfl ?_
      refine g_ldcw m55_10 ?_
      refine g_iload_n m55_13 rfl ?_
      refine g_isub (u := (-1000000001 : Int32)) m55_14 (by decide) ?_
      refine g_iret m55_15 rfl ?_
      refine gwst (st' := [.int (-1000000001)]) rfl ?_
      refine g_iret m58_15 rfl ?_
      refine gwst (st' := [.int (-1000000001)]) rfl ?_
      refine FRg rfl (fun f => ?_)
      refine g_aload_n m190_273 rfl ?_
      refine g_aload_n m190_274 rfl ?_
      refine g_iload_n m190_275 rfl ?_
      refine g_iconst m190_276 ?_
      refine g_iadd (u := (1 : Int32)) m190_277 (by decide) ?_
      refine g_iald (x := s1) m190_278 rfl (vin rfl) rfl ?_
      refine g_cv (args := [.int _]) (rest := [.int (-1000000001)]) m190_279 (Nat.le_of_ble_eq_true rfl) rfl rfl rfl (Nat.le_of_ble_eq_true rfl) ?_
      refine wp_in (L := [some (.ref 89), some (.int _)]) (Nat.le_of_ble_eq_true rfl) rfl ?_
      refine g_iload_n m117_0 rfl ?_
      refine g_iconst m117_1 ?_
      refine g_iconst m117_2 ?_
      refine g_cs (args := [.int _, .int (1), .int (4)]) (rest := []) 0 (Or.inl rfl) m117_3 (Nat.le_of_ble_eq_true rfl) rfl rfl (Nat.le_of_ble_eq_true rfl) ?_
      refine wp_in (L := [some (.int _), some (.int (1)), some (.int (4))]) (Nat.le_of_ble_eq_true rfl) rfl ?_
      refine g_iload_n m107_0 rfl ?_
      refine g_iload_n m107_1 rfl ?_
      refine g_ic_ltF m107_2 (fun q => absurd ((lt_k (a := (s1).toInt) (b := 1) (by rfl) (by rfl)).mp q) (by omega)) ?_
      refine g_iload_n m107_5 rfl ?_
      refine g_iload_n m107_6 rfl ?_
      refine g_ic_gtT m107_7 ((lt_k (a := 4) (b := (s1).toInt) (by rfl) (by rfl)).mpr (by omega)) ?_
      refine g_iconst m107_14 ?_
      refine g_zret m107_15 rfl (Or.inl rfl) ?_
      refine gwst (st' := [.int (0)]) rfl ?_
      refine g_if_eqT m117_6 (by decide) ?_
      refine g_aload_n m117_19 rfl ?_
      refine g_ldci m117_20 rfl ?_
      refine g_cv (args := [.int (-1000000001)]) (rest := []) m117_22 (Nat.le_of_ble_eq_true rfl) rfl rfl rfl (Nat.le_of_ble_eq_true rfl) ?_
      refine wp_in (L := [some (.ref 89), some (.int (-1000000001))]) (Nat.le_of_ble_eq_true rfl) rfl ?_
      refine g_aload_n m108_0 rfl ?_
      refine g_gf m108_1 rfl rfl ?_
      refine g_ldci m108_4 rfl ?_
      refine g_iload_n m108_6 rfl ?_
      refine g_isub (u := (1 : Int32)) m108_7 (by decide) ?_
      refine g_dup2 m108_8 rfl rfl ?_
      refine g_iald (x := (0 : Int32)) m108_9 rfl (vin rfl) rfl ?_
      refine g_iconst m108_10 ?_
      refine g_iadd (u := (1 : Int32)) m108_11 (by decide) ?_
      refine g_iast m108_12 (Nat.le_of_ble_eq_true rfl) rfl (vin rfl) rfl rfl rfl ?_
      refine g_iload_n m108_13 rfl ?_
      refine g_iret m108_14 rfl ?_
      refine gwst (st' := [.int (-1000000001)]) rfl ?_
      refine g_iret m117_25 rfl ?_
      refine gwst (st' := [.int (-1000000001), .int (-1000000001)]) rfl ?_
      refine g_ic_eqT m190_282 (by decide) ?_
      refine g_iinc (x2 := (6 : Int32)) (L2 := [some (.ref 0), some (.ref 32), some (.ref 89), some (.int (6))]) m190_1428 rfl (by decide) rfl rfl ?_
      refine g_goto m190_1431 ?_
      refine g_iload_n m190_18 rfl ?_
      refine g_aload_n m190_19 rfl ?_
      refine g_alen (n := 6) m190_20 rfl (Or.inl rfl) rfl ?_
      refine g_bipush m190_21 ?_
      refine g_isub (u := (0 : Int32)) m190_23 (by decide) ?_
      refine g_ic_gtT m190_24 (by decide) ?_
      refine g_iconst m190_1434 ?_
      refine g_zret m190_1435 rfl (Or.inr rfl) ?_
      exact rfl
