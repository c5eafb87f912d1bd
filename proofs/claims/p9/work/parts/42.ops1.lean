/-! PUBLIC METHODS: the plain ones -/
abbrev erm (m : MW) (e : Nat) : MW := upm m 56 e (m 56 e + 1)
abbrev ers (m : MW) (e : Nat) : MW := upm m 62 e (m 62 e + 1)
theorem md_2 {m : MW} {n : Nat} {x1 x2 x3 x4 x5 x6 : Int32} (h : m 58 2 = nI n) : (upm (upm (upm (upm (upm (upm m 58 (16 + 6 * n + 0) x1) 58 (16 + 6 * n + 1) x2) 58 (16 + 6 * n + 2) x3) 58 (16 + 6 * n + 3) x4) 58 (16 + 6 * n + 4) x5) 58 (16 + 6 * n + 5) x6) 58 2 = nI n := by
  rw [upm_j _ _ (by omega), upm_j _ _ (by omega), upm_j _ _ (by omega), upm_j _ _ (by omega), upm_j _ _ (by omega), upm_j _ _ (by omega), h]
section
variable {xs : List Int32} {d : Nat} {h : AH} {Q : QT} {m : MW} {ln : Nat → Nat} {N : Nat}
set_option maxRecDepth 20000 in
set_option maxHeartbeats 40000000 in
theorem x_fills {c v : Int32} (hE1 : (c.toInt < 0 ∨ 7 < c.toInt ∨ v.toInt < 0 ∨ 30 < v.toInt) → Q (some (.int (-1000000000 - nI 1))) (H (erm m 1) ln N)) (hY : ∀ i k : Nat, c = nI i → i < 8 → v = nI k → k ≤ 30 → Q (some (.int (m 2 (i)))) (H (upm m 2 (i) (nI k)) ln N)) : WP xs (d + 2) 56 0 0 [.ref (32), .int (c), .int (v)] (H m ln N) Q := by
  refine wp_x mx_56 (L := [some (.ref (32)), some (.int (c)), some (.int (v)), none]) (Nat.le_of_ble_eq_true rfl) rfl ?_
  refine g_iload_n m56_0 rfl ?_
  refine g_bipush m56_1 ?_
  refine g_cs (args := [.int (c), .int (7)]) (rest := []) 0 (Or.inl rfl) m56_3 (Nat.le_of_ble_eq_true rfl) rfl rfl (Nat.le_of_ble_eq_true rfl) ?_
  refine c_within (M := 7) rfl (fun jc ec a_1 => ?_) (fun a_1 => ?_)
  · subst ec
    refine gwr ?_
    refine h_if_eqF (xi := 1) (zi := 0) m56_6 rfl rfl (by decide) ?_
    refine g_iload_n m56_9 rfl ?_
    refine g_bipush m56_10 ?_
    refine g_cs (args := [.int (v), .int (30)]) (rest := []) 0 (Or.inl rfl) m56_12 (Nat.le_of_ble_eq_true rfl) rfl rfl (Nat.le_of_ble_eq_true rfl) ?_
    refine c_within (M := 30) rfl (fun jv ev a_2 => ?_) (fun a_2 => ?_)
    · subst ev
      refine gwr ?_
      refine h_if_neF (xi := 1) (zi := 0) m56_15 rfl rfl (by decide) ?_
      refine g_aload_n m56_24 rfl ?_
      refine h_gfR (c := 33) (k := 0) (p := 32) m56_25 rfl (t_0 _ _) rfl (Nat.le_of_ble_eq_true rfl) ?_
      refine h_gfR (c := 34) (k := 1) (p := 33) m56_28 rfl (t_1 _ _) rfl (Nat.le_of_ble_eq_true rfl) ?_
      refine g_iload_n m56_31 rfl ?_
      refine h_ial (k := 2) (p := 34) (j := jc) m56_32 rfl (t_2 _ _) (rfl) (by omega) (Nat.le_of_ble_eq_true rfl) (rfl) ?_
      refine g_istore_n (L2 := [some (.ref (32)), some (.int (nI (jc))), some (.int (nI (jv))), some (.int (m (2) (jc)))]) m56_33 rfl rfl ?_
      refine g_aload_n m56_34 rfl ?_
      refine h_gfR (c := 33) (k := 0) (p := 32) m56_35 rfl (t_0 _ _) rfl (Nat.le_of_ble_eq_true rfl) ?_
      refine h_gfR (c := 34) (k := 1) (p := 33) m56_38 rfl (t_1 _ _) rfl (Nat.le_of_ble_eq_true rfl) ?_
      refine g_iload_n m56_41 rfl ?_
      refine g_iload_n m56_42 rfl ?_
      refine h_ias (k := 2) (p := 34) (j := jc) m56_43 rfl (t_2 _ _) (rfl) (by omega) (Nat.le_of_ble_eq_true rfl) ?_
      refine g_iload_n m56_44 rfl ?_
      refine g_iret m56_45 rt_56 ?_
      exact hY jc jv rfl (by omega) rfl (by omega)
    · skip
      refine gwr ?_
      refine h_if_neT (xi := 0) (zi := 0) m56_15 rfl rfl (by decide) ?_
      refine g_aload_n m56_18 rfl ?_
      refine g_iconst m56_19 ?_
      refine h_cv (k := 0) (p := 32) (args := [.int (1)]) (rest := []) m56_20 cn_55 (Nat.le_of_ble_eq_true rfl) rfl rfl rfl (t_0 _ _) (Nat.le_of_ble_eq_true rfl) ?_
      refine c_error (e := 1) (by decide) (by decide) ?_
      refine gwr ?_
      refine g_iret m56_23 rt_56 ?_
      exact hE1 (by omega)
  · skip
    refine gwr ?_
    refine h_if_eqT (xi := 0) (zi := 0) m56_6 rfl rfl (by decide) ?_
    refine g_aload_n m56_18 rfl ?_
    refine g_iconst m56_19 ?_
    refine h_cv (k := 0) (p := 32) (args := [.int (1)]) (rest := []) m56_20 cn_55 (Nat.le_of_ble_eq_true rfl) rfl rfl rfl (t_0 _ _) (Nat.le_of_ble_eq_true rfl) ?_
    refine c_error (e := 1) (by decide) (by decide) ?_
    refine gwr ?_
    refine g_iret m56_23 rt_56 ?_
    exact hE1 (by omega)
set_option maxRecDepth 20000 in
set_option maxHeartbeats 40000000 in
theorem m_fills {c v : Int32} (hE1 : (c.toInt < 0 ∨ 7 < c.toInt ∨ v.toInt < 0 ∨ 30 < v.toInt) → Q (some (.int (-1000000001))) (H (ers m 1) ln N)) (hY : ∀ i k : Nat, c = nI i → i < 8 → v = nI k → k ≤ 30 → Q (some (.int (m 58 (8 + i)))) (H (upm m 58 (8 + i) (nI k)) ln N)) : WP xs (d + 2) 115 0 0 [.ref (89), .int (c), .int (v)] (H m ln N) Q := by
  refine wp_x mx_115 (L := [some (.ref (89)), some (.int (c)), some (.int (v))]) (Nat.le_of_ble_eq_true rfl) rfl ?_
  refine g_iload_n m115_0 rfl ?_
  refine g_iconst m115_1 ?_
  refine g_bipush m115_2 ?_
  refine g_cs (args := [.int (c), .int (0), .int (7)]) (rest := []) 0 (Or.inl rfl) m115_4 (Nat.le_of_ble_eq_true rfl) rfl rfl (Nat.le_of_ble_eq_true rfl) ?_
  refine c_in (A := 0) (B := 7) rfl rfl (by decide) (fun jc ec a_3 a_3' => ?_) (fun a_3 => ?_)
  · subst ec
    refine gwr ?_
    refine h_if_eqF (xi := 1) (zi := 0) m115_7 rfl rfl (by decide) ?_
    refine g_iload_n m115_10 rfl ?_
    refine g_iconst m115_11 ?_
    refine g_bipush m115_12 ?_
    refine g_cs (args := [.int (v), .int (0), .int (30)]) (rest := []) 0 (Or.inl rfl) m115_14 (Nat.le_of_ble_eq_true rfl) rfl rfl (Nat.le_of_ble_eq_true rfl) ?_
    refine c_in (A := 0) (B := 30) rfl rfl (by decide) (fun jv ev a_4 a_4' => ?_) (fun a_4 => ?_)
    · subst ev
      refine gwr ?_
      refine h_if_eqF (xi := 1) (zi := 0) m115_17 rfl rfl (by decide) ?_
      refine g_aload_n m115_20 rfl ?_
      refine g_bipush m115_21 ?_
      refine g_iload_n m115_23 rfl ?_
      refine g_iadd (u := nI (8 + jc)) m115_24 (nI_add 8 jc) ?_
      refine g_iload_n m115_25 rfl ?_
      refine h_cv (k := 57) (p := 89) (args := [.int (nI (8 + jc)), .int (nI (jv))]) (rest := []) m115_26 cn_114 (Nat.le_of_ble_eq_true rfl) rfl rfl rfl (t_57 _ _) (Nat.le_of_ble_eq_true rfl) ?_
      refine c_becomes (a := 8 + jc) (by omega) ?_
      refine gwr ?_
      refine g_goto m115_29 ?_
      refine g_iret m115_38 rt_115 ?_
      exact hY jc jv rfl (by omega) rfl (by omega)
    · skip
      refine gwr ?_
      refine h_if_eqT (xi := 0) (zi := 0) m115_17 rfl rfl (by decide) ?_
      refine g_aload_n m115_32 rfl ?_
      refine g_ldci m115_33 rfl ?_
      refine h_cv (k := 57) (p := 89) (args := [.int (-1000000001)]) (rest := []) m115_35 cn_108 (Nat.le_of_ble_eq_true rfl) rfl rfl rfl (t_57 _ _) (Nat.le_of_ble_eq_true rfl) ?_
      refine c_errs (e := 1) (by decide) (by decide) (by decide) ?_
      refine gwr ?_
      refine g_iret m115_38 rt_115 ?_
      exact hE1 (by omega)
  · skip
    refine gwr ?_
    refine h_if_eqT (xi := 0) (zi := 0) m115_7 rfl rfl (by decide) ?_
    refine g_aload_n m115_32 rfl ?_
    refine g_ldci m115_33 rfl ?_
    refine h_cv (k := 57) (p := 89) (args := [.int (-1000000001)]) (rest := []) m115_35 cn_108 (Nat.le_of_ble_eq_true rfl) rfl rfl rfl (t_57 _ _) (Nat.le_of_ble_eq_true rfl) ?_
    refine c_errs (e := 1) (by decide) (by decide) (by decide) ?_
    refine gwr ?_
    refine g_iret m115_38 rt_115 ?_
    exact hE1 (by omega)
set_option maxRecDepth 20000 in
set_option maxHeartbeats 40000000 in
theorem x_filling {c : Int32} (hE1 : (c.toInt < 0 ∨ 7 < c.toInt) → Q (some (.int (-1000000000 - nI 1))) (H (erm m 1) ln N)) (hY : ∀ i : Nat, c = nI i → i < 8 → Q (some (.int (m 2 (i)))) (H m ln N)) : WP xs (d + 2) 57 0 0 [.ref (32), .int (c)] (H m ln N) Q := by
  refine wp_x mx_57 (L := [some (.ref (32)), some (.int (c))]) (Nat.le_of_ble_eq_true rfl) rfl ?_
  refine g_iload_n m57_0 rfl ?_
  refine g_bipush m57_1 ?_
  refine g_cs (args := [.int (c), .int (7)]) (rest := []) 0 (Or.inl rfl) m57_3 (Nat.le_of_ble_eq_true rfl) rfl rfl (Nat.le_of_ble_eq_true rfl) ?_
  refine c_within (M := 7) rfl (fun jc ec a_5 => ?_) (fun a_5 => ?_)
  · subst ec
    refine gwr ?_
    refine h_if_neF (xi := 1) (zi := 0) m57_6 rfl rfl (by decide) ?_
    refine g_aload_n m57_15 rfl ?_
    refine h_gfR (c := 33) (k := 0) (p := 32) m57_16 rfl (t_0 _ _) rfl (Nat.le_of_ble_eq_true rfl) ?_
    refine h_gfR (c := 34) (k := 1) (p := 33) m57_19 rfl (t_1 _ _) rfl (Nat.le_of_ble_eq_true rfl) ?_
    refine g_iload_n m57_22 rfl ?_
    refine h_ial (k := 2) (p := 34) (j := jc) m57_23 rfl (t_2 _ _) (rfl) (by omega) (Nat.le_of_ble_eq_true rfl) (rfl) ?_
    refine g_iret m57_24 rt_57 ?_
    exact hY jc rfl (by omega)
  · skip
    refine gwr ?_
    refine h_if_neT (xi := 0) (zi := 0) m57_6 rfl rfl (by decide) ?_
    refine g_aload_n m57_9 rfl ?_
    refine g_iconst m57_10 ?_
    refine h_cv (k := 0) (p := 32) (args := [.int (1)]) (rest := []) m57_11 cn_55 (Nat.le_of_ble_eq_true rfl) rfl rfl rfl (t_0 _ _) (Nat.le_of_ble_eq_true rfl) ?_
    refine c_error (e := 1) (by decide) (by decide) ?_
    refine gwr ?_
    refine g_iret m57_14 rt_57 ?_
    exact hE1 (by omega)
set_option maxRecDepth 20000 in
set_option maxHeartbeats 40000000 in
theorem m_filling {c : Int32} (hE1 : (c.toInt < 0 ∨ 7 < c.toInt) → Q (some (.int (-1000000001))) (H (ers m 1) ln N)) (hY : ∀ i : Nat, c = nI i → i < 8 → Q (some (.int (m 58 (8 + i)))) (H m ln N)) : WP xs (d + 2) 116 0 0 [.ref (89), .int (c)] (H m ln N) Q := by
  refine wp_x mx_116 (L := [some (.ref (89)), some (.int (c))]) (Nat.le_of_ble_eq_true rfl) rfl ?_
  refine g_iload_n m116_0 rfl ?_
  refine g_iconst m116_1 ?_
  refine g_bipush m116_2 ?_
  refine g_cs (args := [.int (c), .int (0), .int (7)]) (rest := []) 0 (Or.inl rfl) m116_4 (Nat.le_of_ble_eq_true rfl) rfl rfl (Nat.le_of_ble_eq_true rfl) ?_
  refine c_in (A := 0) (B := 7) rfl rfl (by decide) (fun jc ec a_6 a_6' => ?_) (fun a_6 => ?_)
  · subst ec
    refine gwr ?_
    refine h_if_eqF (xi := 1) (zi := 0) m116_7 rfl rfl (by decide) ?_
    refine g_aload_n m116_10 rfl ?_
    refine h_gfR (c := 90) (k := 57) (p := 89) m116_11 rfl (t_57 _ _) rfl (Nat.le_of_ble_eq_true rfl) ?_
    refine g_bipush m116_14 ?_
    refine g_iload_n m116_16 rfl ?_
    refine g_iadd (u := nI (8 + jc)) m116_17 (nI_add 8 jc) ?_
    refine h_ial (k := 58) (p := 90) (j := 8 + jc) m116_18 rfl (t_58 _ _) (rfl) (by omega) (Nat.le_of_ble_eq_true rfl) (rfl) ?_
    refine g_goto m116_19 ?_
    refine g_iret m116_28 rt_116 ?_
    exact hY jc rfl (by omega)
  · skip
    refine gwr ?_
    refine h_if_eqT (xi := 0) (zi := 0) m116_7 rfl rfl (by decide) ?_
    refine g_aload_n m116_22 rfl ?_
    refine g_ldci m116_23 rfl ?_
    refine h_cv (k := 57) (p := 89) (args := [.int (-1000000001)]) (rest := []) m116_25 cn_108 (Nat.le_of_ble_eq_true rfl) rfl rfl rfl (t_57 _ _) (Nat.le_of_ble_eq_true rfl) ?_
    refine c_errs (e := 1) (by decide) (by decide) (by decide) ?_
    refine gwr ?_
    refine g_iret m116_28 rt_116 ?_
    exact hE1 (by omega)
set_option maxRecDepth 20000 in
set_option maxHeartbeats 40000000 in
theorem x_waiters {v : Int32} (hE1 : (v.toInt < 1 ∨ 4 < v.toInt) → Q (some (.int (-1000000000 - nI 1))) (H (erm m 1) ln N)) (hY : 1 ≤ v.toInt → v.toInt ≤ 4 → Q (some (.int (m 1 8))) (H (upm m 1 8 v) ln N)) : WP xs (d + 2) 58 0 0 [.ref (32), .int (v)] (H m ln N) Q := by
  refine wp_x mx_58 (L := [some (.ref (32)), some (.int (v)), none]) (Nat.le_of_ble_eq_true rfl) rfl ?_
  refine g_iload_n m58_0 rfl ?_
  refine g_iconst m58_1 ?_
  refine h_ic_lt (xi := v.toInt) (zi := 1) m58_2 rfl rfl (fun c1 => ?_) (fun c1 => ?_)
  · skip
    refine g_aload_n m58_10 rfl ?_
    refine g_iconst m58_11 ?_
    refine h_cv (k := 0) (p := 32) (args := [.int (1)]) (rest := []) m58_12 cn_55 (Nat.le_of_ble_eq_true rfl) rfl rfl rfl (t_0 _ _) (Nat.le_of_ble_eq_true rfl) ?_
    refine c_error (e := 1) (by decide) (by decide) ?_
    refine gwr ?_
    refine g_iret m58_15 rt_58 ?_
    exact hE1 (by omega)
  · skip
    refine g_iload_n m58_5 rfl ?_
    refine g_iconst m58_6 ?_
    refine h_ic_le (xi := v.toInt) (zi := 4) m58_7 rfl rfl (fun c2 => ?_) (fun c2 => ?_)
    · skip
      refine g_aload_n m58_16 rfl ?_
      refine h_gfR (c := 33) (k := 0) (p := 32) m58_17 rfl (t_0 _ _) rfl (Nat.le_of_ble_eq_true rfl) ?_
      refine h_gfI (k := 1) (p := 33) m58_20 rfl (t_1 _ _) rfl rfl ?_
      refine g_istore_n (L2 := [some (.ref (32)), some (.int (v)), some (.int (m (1) 8))]) m58_23 rfl rfl ?_
      refine g_aload_n m58_24 rfl ?_
      refine h_gfR (c := 33) (k := 0) (p := 32) m58_25 rfl (t_0 _ _) rfl (Nat.le_of_ble_eq_true rfl) ?_
      refine g_iload_n m58_28 rfl ?_
      refine h_pfI (k := 1) (p := 33) m58_29 rfl (t_1 _ _) rfl trivial ?_
      refine g_iload_n m58_32 rfl ?_
      refine g_iret m58_33 rt_58 ?_
      exact hY (by omega) (by omega)
    · skip
      refine g_aload_n m58_10 rfl ?_
      refine g_iconst m58_11 ?_
      refine h_cv (k := 0) (p := 32) (args := [.int (1)]) (rest := []) m58_12 cn_55 (Nat.le_of_ble_eq_true rfl) rfl rfl rfl (t_0 _ _) (Nat.le_of_ble_eq_true rfl) ?_
      refine c_error (e := 1) (by decide) (by decide) ?_
      refine gwr ?_
      refine g_iret m58_15 rt_58 ?_
      exact hE1 (by omega)
set_option maxRecDepth 20000 in
set_option maxHeartbeats 40000000 in
theorem m_waiters {v : Int32} (hE1 : (v.toInt < 1 ∨ 4 < v.toInt) → Q (some (.int (-1000000001))) (H (ers m 1) ln N)) (hY : ∀ k : Nat, v = nI k → 1 ≤ k → k ≤ 4 → Q (some (.int (m 58 7))) (H (upm m 58 7 (nI k)) ln N)) : WP xs (d + 2) 117 0 0 [.ref (89), .int (v)] (H m ln N) Q := by
  refine wp_x mx_117 (L := [some (.ref (89)), some (.int (v))]) (Nat.le_of_ble_eq_true rfl) rfl ?_
  refine g_iload_n m117_0 rfl ?_
  refine g_iconst m117_1 ?_
  refine g_iconst m117_2 ?_
  refine g_cs (args := [.int (v), .int (1), .int (4)]) (rest := []) 0 (Or.inl rfl) m117_3 (Nat.le_of_ble_eq_true rfl) rfl rfl (Nat.le_of_ble_eq_true rfl) ?_
  refine c_in (A := 1) (B := 4) rfl rfl (by decide) (fun jv ev a_7 a_7' => ?_) (fun a_7 => ?_)
  · subst ev
    refine gwr ?_
    refine h_if_eqF (xi := 1) (zi := 0) m117_6 rfl rfl (by decide) ?_
    refine g_aload_n m117_9 rfl ?_
    refine g_bipush m117_10 ?_
    refine g_iload_n m117_12 rfl ?_
    refine h_cv (k := 57) (p := 89) (args := [.int (7), .int (nI (jv))]) (rest := []) m117_13 cn_114 (Nat.le_of_ble_eq_true rfl) rfl rfl rfl (t_57 _ _) (Nat.le_of_ble_eq_true rfl) ?_
    refine c_becomes (a := 7) (by omega) ?_
    refine gwr ?_
    refine g_goto m117_16 ?_
    refine g_iret m117_25 rt_117 ?_
    exact hY jv rfl (by omega) (by omega)
  · skip
    refine gwr ?_
    refine h_if_eqT (xi := 0) (zi := 0) m117_6 rfl rfl (by decide) ?_
    refine g_aload_n m117_19 rfl ?_
    refine g_ldci m117_20 rfl ?_
    refine h_cv (k := 57) (p := 89) (args := [.int (-1000000001)]) (rest := []) m117_22 cn_108 (Nat.le_of_ble_eq_true rfl) rfl rfl rfl (t_57 _ _) (Nat.le_of_ble_eq_true rfl) ?_
    refine c_errs (e := 1) (by decide) (by decide) (by decide) ?_
    refine gwr ?_
    refine g_iret m117_25 rt_117 ?_
    exact hE1 (by omega)
set_option maxRecDepth 20000 in
set_option maxHeartbeats 40000000 in
theorem x_diner {a b c : Int32} {n : Nat} (hd : m 1 10 = nI n) (hn : n ≤ 8) (hE1 : (a.toInt < 0 ∨ 69 < a.toInt ∨ b.toInt < 0 ∨ 99 < b.toInt ∨ c.toInt < 0 ∨ 9 < c.toInt) → Q (some (.int (-1000000000 - nI 1))) (H (erm m 1) ln N)) (hE4 : (n = 8) → Q (some (.int (-1000000000 - nI 4))) (H (erm m 4) ln N)) (hY : ∀ i k l : Nat, a = nI i → i ≤ 69 → b = nI k → k ≤ 99 → c = nI l → l ≤ 9 → n < 8 → Q (some (.int (nI n))) (H (upm (upm (upm (upm (upm (upm (upm m 3 n (nI (i / 10))) 4 n (nI (i % 10))) 5 n (nI k)) 6 n (nI l)) 7 n 0) 8 n 0) 1 10 (nI (n + 1))) ln N)) : WP xs (d + 2) 59 0 0 [.ref (32), .int (a), .int (b), .int (c)] (H m ln N) Q := by
  refine wp_x mx_59 (L := [some (.ref (32)), some (.int (a)), some (.int (b)), some (.int (c)), none]) (Nat.le_of_ble_eq_true rfl) rfl ?_
  refine g_iload_n m59_0 rfl ?_
  refine g_bipush m59_1 ?_
  refine g_cs (args := [.int (a), .int (69)]) (rest := []) 0 (Or.inl rfl) m59_3 (Nat.le_of_ble_eq_true rfl) rfl rfl (Nat.le_of_ble_eq_true rfl) ?_
  refine c_within (M := 69) rfl (fun ja ea a_8 => ?_) (fun a_8 => ?_)
  · subst ea
    refine gwr ?_
    refine h_if_eqF (xi := 1) (zi := 0) m59_6 rfl rfl (by decide) ?_
    refine g_iload_n m59_9 rfl ?_
    refine g_bipush m59_10 ?_
    refine g_cs (args := [.int (b), .int (99)]) (rest := []) 0 (Or.inl rfl) m59_12 (Nat.le_of_ble_eq_true rfl) rfl rfl (Nat.le_of_ble_eq_true rfl) ?_
    refine c_within (M := 99) rfl (fun jb eb a_9 => ?_) (fun a_9 => ?_)
    · subst eb
      refine gwr ?_
      refine h_if_eqF (xi := 1) (zi := 0) m59_15 rfl rfl (by decide) ?_
      refine g_iload_n m59_18 rfl ?_
      refine g_bipush m59_19 ?_
      refine g_cs (args := [.int (c), .int (9)]) (rest := []) 0 (Or.inl rfl) m59_21 (Nat.le_of_ble_eq_true rfl) rfl rfl (Nat.le_of_ble_eq_true rfl) ?_
      refine c_within (M := 9) rfl (fun jc ec a_10 => ?_) (fun a_10 => ?_)
      · subst ec
        refine gwr ?_
        refine h_if_neF (xi := 1) (zi := 0) m59_24 rfl rfl (by decide) ?_
        refine g_aload_n m59_33 rfl ?_
        refine h_gfR (c := 33) (k := 0) (p := 32) m59_34 rfl (t_0 _ _) rfl (Nat.le_of_ble_eq_true rfl) ?_
        refine h_gfI (k := 1) (p := 33) m59_37 rfl (t_1 _ _) rfl (hd) ?_
        refine g_bipush m59_40 ?_
        refine h_ic_lt (xi := ((n : Nat) : Int)) (zi := 8) m59_42 (nI_toInt (by omega)) rfl (fun c1 => ?_) (fun c1 => ?_)
        · skip
          refine g_aload_n m59_51 rfl ?_
          refine h_gfR (c := 33) (k := 0) (p := 32) m59_52 rfl (t_0 _ _) rfl (Nat.le_of_ble_eq_true rfl) ?_
          refine h_gfI (k := 1) (p := 33) m59_55 rfl (t_1 _ _) rfl (hd) ?_
          refine g_istore (L2 := [some (.ref (32)), some (.int (nI (ja))), some (.int (nI (jb))), some (.int (nI (jc))), some (.int (nI (n)))]) m59_58 rfl rfl ?_
          refine g_aload_n m59_60 rfl ?_
          refine h_gfR (c := 33) (k := 0) (p := 32) m59_61 rfl (t_0 _ _) rfl (Nat.le_of_ble_eq_true rfl) ?_
          refine h_gfR (c := 35) (k := 1) (p := 33) m59_64 rfl (t_1 _ _) rfl (Nat.le_of_ble_eq_true rfl) ?_
          refine g_iload m59_67 rfl ?_
          refine g_iload_n m59_69 rfl ?_
          refine g_bipush m59_70 ?_
          refine g_idiv (u := nI (ja / 10)) m59_72 (by decide) (pk_div (a := ja) (d := 10) (by omega) (by decide) (by decide)) ?_
          refine h_ias (k := 3) (p := 35) (j := n) m59_73 rfl (t_3 _ _) (rfl) (by omega) (Nat.le_of_ble_eq_true rfl) ?_
          refine g_aload_n m59_74 rfl ?_
          refine h_gfR (c := 33) (k := 0) (p := 32) m59_75 rfl (t_0 _ _) rfl (Nat.le_of_ble_eq_true rfl) ?_
          refine h_gfR (c := 36) (k := 1) (p := 33) m59_78 rfl (t_1 _ _) rfl (Nat.le_of_ble_eq_true rfl) ?_
          refine g_iload m59_81 rfl ?_
          refine g_iload_n m59_83 rfl ?_
          refine g_bipush m59_84 ?_
          refine g_irem (u := nI (ja % 10)) m59_86 (by decide) (pk_rem (a := ja) (d := 10) (by omega) (by decide) (by decide)) ?_
          refine h_ias (k := 4) (p := 36) (j := n) m59_87 rfl (t_4 _ _) (rfl) (by omega) (Nat.le_of_ble_eq_true rfl) ?_
          refine g_aload_n m59_88 rfl ?_
          refine h_gfR (c := 33) (k := 0) (p := 32) m59_89 rfl (t_0 _ _) rfl (Nat.le_of_ble_eq_true rfl) ?_
          refine h_gfR (c := 37) (k := 1) (p := 33) m59_92 rfl (t_1 _ _) rfl (Nat.le_of_ble_eq_true rfl) ?_
          refine g_iload m59_95 rfl ?_
          refine g_iload_n m59_97 rfl ?_
          refine h_ias (k := 5) (p := 37) (j := n) m59_98 rfl (t_5 _ _) (rfl) (by omega) (Nat.le_of_ble_eq_true rfl) ?_
          refine g_aload_n m59_99 rfl ?_
          refine h_gfR (c := 33) (k := 0) (p := 32) m59_100 rfl (t_0 _ _) rfl (Nat.le_of_ble_eq_true rfl) ?_
          refine h_gfR (c := 38) (k := 1) (p := 33) m59_103 rfl (t_1 _ _) rfl (Nat.le_of_ble_eq_true rfl) ?_
          refine g_iload m59_106 rfl ?_
          refine g_iload_n m59_108 rfl ?_
          refine h_ias (k := 6) (p := 38) (j := n) m59_109 rfl (t_6 _ _) (rfl) (by omega) (Nat.le_of_ble_eq_true rfl) ?_
          refine g_aload_n m59_110 rfl ?_
          refine h_gfR (c := 33) (k := 0) (p := 32) m59_111 rfl (t_0 _ _) rfl (Nat.le_of_ble_eq_true rfl) ?_
          refine h_gfR (c := 39) (k := 1) (p := 33) m59_114 rfl (t_1 _ _) rfl (Nat.le_of_ble_eq_true rfl) ?_
          refine g_iload m59_117 rfl ?_
          refine g_iconst m59_119 ?_
          refine h_ias (k := 7) (p := 39) (j := n) m59_120 rfl (t_7 _ _) (rfl) (by omega) (Nat.le_of_ble_eq_true rfl) ?_
          refine g_aload_n m59_121 rfl ?_
          refine h_gfR (c := 33) (k := 0) (p := 32) m59_122 rfl (t_0 _ _) rfl (Nat.le_of_ble_eq_true rfl) ?_
          refine h_gfR (c := 40) (k := 1) (p := 33) m59_125 rfl (t_1 _ _) rfl (Nat.le_of_ble_eq_true rfl) ?_
          refine g_iload m59_128 rfl ?_
          refine g_iconst m59_130 ?_
          refine h_bas (k := 8) (p := 40) (j := n) m59_131 rfl (t_8 _ _) (rfl) (by omega) (Nat.le_of_ble_eq_true rfl) (Or.inl rfl) ?_
          refine g_aload_n m59_132 rfl ?_
          refine h_gfR (c := 33) (k := 0) (p := 32) m59_133 rfl (t_0 _ _) rfl (Nat.le_of_ble_eq_true rfl) ?_
          refine g_iload m59_136 rfl ?_
          refine g_iconst m59_138 ?_
          refine g_iadd (u := nI (n + 1)) m59_139 (nI_add n 1) ?_
          refine h_pfI (k := 1) (p := 33) m59_140 rfl (t_1 _ _) rfl trivial ?_
          refine g_iload m59_143 rfl ?_
          refine g_iret m59_145 rt_59 ?_
          exact hY ja jb jc rfl (by omega) rfl (by omega) rfl (by omega) (by omega)
        · skip
          refine g_aload_n m59_45 rfl ?_
          refine g_iconst m59_46 ?_
          refine h_cv (k := 0) (p := 32) (args := [.int (4)]) (rest := []) m59_47 cn_55 (Nat.le_of_ble_eq_true rfl) rfl rfl rfl (t_0 _ _) (Nat.le_of_ble_eq_true rfl) ?_
          refine c_error (e := 4) (by decide) (by decide) ?_
          refine gwr ?_
          refine g_iret m59_50 rt_59 ?_
          exact hE4 (by omega)
      · skip
        refine gwr ?_
        refine h_if_neT (xi := 0) (zi := 0) m59_24 rfl rfl (by decide) ?_
        refine g_aload_n m59_27 rfl ?_
        refine g_iconst m59_28 ?_
        refine h_cv (k := 0) (p := 32) (args := [.int (1)]) (rest := []) m59_29 cn_55 (Nat.le_of_ble_eq_true rfl) rfl rfl rfl (t_0 _ _) (Nat.le_of_ble_eq_true rfl) ?_
        refine c_error (e := 1) (by decide) (by decide) ?_
        refine gwr ?_
        refine g_iret m59_32 rt_59 ?_
        exact hE1 (by omega)
    · skip
      refine gwr ?_
      refine h_if_eqT (xi := 0) (zi := 0) m59_15 rfl rfl (by decide) ?_
      refine g_aload_n m59_27 rfl ?_
      refine g_iconst m59_28 ?_
      refine h_cv (k := 0) (p := 32) (args := [.int (1)]) (rest := []) m59_29 cn_55 (Nat.le_of_ble_eq_true rfl) rfl rfl rfl (t_0 _ _) (Nat.le_of_ble_eq_true rfl) ?_
      refine c_error (e := 1) (by decide) (by decide) ?_
      refine gwr ?_
      refine g_iret m59_32 rt_59 ?_
      exact hE1 (by omega)
  · skip
    refine gwr ?_
    refine h_if_eqT (xi := 0) (zi := 0) m59_6 rfl rfl (by decide) ?_
    refine g_aload_n m59_27 rfl ?_
    refine g_iconst m59_28 ?_
    refine h_cv (k := 0) (p := 32) (args := [.int (1)]) (rest := []) m59_29 cn_55 (Nat.le_of_ble_eq_true rfl) rfl rfl rfl (t_0 _ _) (Nat.le_of_ble_eq_true rfl) ?_
    refine c_error (e := 1) (by decide) (by decide) ?_
    refine gwr ?_
    refine g_iret m59_32 rt_59 ?_
    exact hE1 (by omega)
set_option maxRecDepth 20000 in
set_option maxHeartbeats 40000000 in
theorem m_diner {a b c : Int32} {n : Nat} (hd : m 58 2 = nI n) (hn : n ≤ 8) (hE1 : (a.toInt < 0 ∨ 69 < a.toInt ∨ b.toInt < 0 ∨ 99 < b.toInt ∨ c.toInt < 0 ∨ 9 < c.toInt) → Q (some (.int (-1000000001))) (H (ers m 1) ln N)) (hE4 : (n = 8) → Q (some (.int (-1000000004))) (H (ers m 4) ln N)) (hY : ∀ i k l : Nat, a = nI i → i ≤ 69 → b = nI k → k ≤ 99 → c = nI l → l ≤ 9 → n < 8 → Q (some (.int (nI n))) (H (upm (upm (upm (upm (upm (upm (upm m 58 (16 + 6 * n + 0) (nI (i / 10))) 58 (16 + 6 * n + 1) (nI (i % 10))) 58 (16 + 6 * n + 2) (nI k)) 58 (16 + 6 * n + 3) (nI l)) 58 (16 + 6 * n + 4) 0) 58 (16 + 6 * n + 5) 0) 58 2 (nI (n + 1))) ln N)) : WP xs (d + 2) 118 0 0 [.ref (89), .int (a), .int (b), .int (c)] (H m ln N) Q := by
  refine wp_x mx_118 (L := [some (.ref (89)), some (.int (a)), some (.int (b)), some (.int (c)), none]) (Nat.le_of_ble_eq_true rfl) rfl ?_
  refine g_iload_n m118_0 rfl ?_
  refine g_iconst m118_1 ?_
  refine g_bipush m118_2 ?_
  refine g_cs (args := [.int (a), .int (0), .int (69)]) (rest := []) 0 (Or.inl rfl) m118_4 (Nat.le_of_ble_eq_true rfl) rfl rfl (Nat.le_of_ble_eq_true rfl) ?_
  refine c_in (A := 0) (B := 69) rfl rfl (by decide) (fun ja ea a_11 a_11' => ?_) (fun a_11 => ?_)
  · subst ea
    refine gwr ?_
    refine h_if_eqF (xi := 1) (zi := 0) m118_7 rfl rfl (by decide) ?_
    refine g_iload_n m118_10 rfl ?_
    refine g_iconst m118_11 ?_
    refine g_bipush m118_12 ?_
    refine g_cs (args := [.int (b), .int (0), .int (99)]) (rest := []) 0 (Or.inl rfl) m118_14 (Nat.le_of_ble_eq_true rfl) rfl rfl (Nat.le_of_ble_eq_true rfl) ?_
    refine c_in (A := 0) (B := 99) rfl rfl (by decide) (fun jb eb a_12 a_12' => ?_) (fun a_12 => ?_)
    · subst eb
      refine gwr ?_
      refine h_if_eqF (xi := 1) (zi := 0) m118_17 rfl rfl (by decide) ?_
      refine g_iload_n m118_20 rfl ?_
      refine g_iconst m118_21 ?_
      refine g_bipush m118_22 ?_
      refine g_cs (args := [.int (c), .int (0), .int (9)]) (rest := []) 0 (Or.inl rfl) m118_24 (Nat.le_of_ble_eq_true rfl) rfl rfl (Nat.le_of_ble_eq_true rfl) ?_
      refine c_in (A := 0) (B := 9) rfl rfl (by decide) (fun jc ec a_13 a_13' => ?_) (fun a_13 => ?_)
      · subst ec
        refine gwr ?_
        refine h_if_neF (xi := 1) (zi := 0) m118_27 rfl rfl (by decide) ?_
        refine g_aload_n m118_37 rfl ?_
        refine h_gfR (c := 90) (k := 57) (p := 89) m118_38 rfl (t_57 _ _) rfl (Nat.le_of_ble_eq_true rfl) ?_
        refine g_iconst m118_41 ?_
        refine h_ial (k := 58) (p := 90) (j := 2) m118_42 rfl (t_58 _ _) (rfl) (by omega) (Nat.le_of_ble_eq_true rfl) (hd) ?_
        refine g_bipush m118_43 ?_
        refine h_ic_ne (xi := ((n : Nat) : Int)) (zi := 8) m118_45 (nI_toInt (by omega)) rfl (fun c1 => ?_) (fun c1 => ?_)
        · skip
          refine g_aload_n m118_48 rfl ?_
          refine g_ldci m118_49 rfl ?_
          refine h_cv (k := 57) (p := 89) (args := [.int (-1000000004)]) (rest := []) m118_51 cn_108 (Nat.le_of_ble_eq_true rfl) rfl rfl rfl (t_57 _ _) (Nat.le_of_ble_eq_true rfl) ?_
          refine c_errs (e := 4) (by decide) (by decide) (by decide) ?_
          refine gwr ?_
          refine g_iret m118_54 rt_118 ?_
          exact hE4 (by omega)
        · skip
          refine g_aload_n m118_55 rfl ?_
          refine h_gfR (c := 90) (k := 57) (p := 89) m118_56 rfl (t_57 _ _) rfl (Nat.le_of_ble_eq_true rfl) ?_
          refine g_iconst m118_59 ?_
          refine h_ial (k := 58) (p := 90) (j := 2) m118_60 rfl (t_58 _ _) (rfl) (by omega) (Nat.le_of_ble_eq_true rfl) (hd) ?_
          refine g_istore (L2 := [some (.ref (89)), some (.int (nI (ja))), some (.int (nI (jb))), some (.int (nI (jc))), some (.int (nI (n)))]) m118_61 rfl rfl ?_
          refine g_aload_n m118_63 rfl ?_
          refine g_iload m118_64 rfl ?_
          refine g_iconst m118_66 ?_
          refine g_iload_n m118_67 rfl ?_
          refine g_bipush m118_68 ?_
          refine g_idiv (u := nI (ja / 10)) m118_70 (by decide) (pk_div (a := ja) (d := 10) (by omega) (by decide) (by decide)) ?_
          refine h_cv (k := 57) (p := 89) (args := [.int (nI (n)), .int (0), .int (nI (ja / 10))]) (rest := []) m118_71 cn_112 (Nat.le_of_ble_eq_true rfl) rfl rfl rfl (t_57 _ _) (Nat.le_of_ble_eq_true rfl) ?_
          refine c_gets (w := 0) (by omega) (by decide) ?_
          refine gwr0 ?_
          refine g_aload_n m118_74 rfl ?_
          refine g_iload m118_75 rfl ?_
          refine g_iconst m118_77 ?_
          refine g_iload_n m118_78 rfl ?_
          refine g_bipush m118_79 ?_
          refine g_irem (u := nI (ja % 10)) m118_81 (by decide) (pk_rem (a := ja) (d := 10) (by omega) (by decide) (by decide)) ?_
          refine h_cv (k := 57) (p := 89) (args := [.int (nI (n)), .int (1), .int (nI (ja % 10))]) (rest := []) m118_82 cn_112 (Nat.le_of_ble_eq_true rfl) rfl rfl rfl (t_57 _ _) (Nat.le_of_ble_eq_true rfl) ?_
          refine c_gets (w := 1) (by omega) (by decide) ?_
          refine gwr0 ?_
          refine g_aload_n m118_85 rfl ?_
          refine g_iload m118_86 rfl ?_
          refine g_iconst m118_88 ?_
          refine g_iload_n m118_89 rfl ?_
          refine h_cv (k := 57) (p := 89) (args := [.int (nI (n)), .int (2), .int (nI (jb))]) (rest := []) m118_90 cn_112 (Nat.le_of_ble_eq_true rfl) rfl rfl rfl (t_57 _ _) (Nat.le_of_ble_eq_true rfl) ?_
          refine c_gets (w := 2) (by omega) (by decide) ?_
          refine gwr0 ?_
          refine g_aload_n m118_93 rfl ?_
          refine g_iload m118_94 rfl ?_
          refine g_iconst m118_96 ?_
          refine g_iload_n m118_97 rfl ?_
          refine h_cv (k := 57) (p := 89) (args := [.int (nI (n)), .int (3), .int (nI (jc))]) (rest := []) m118_98 cn_112 (Nat.le_of_ble_eq_true rfl) rfl rfl rfl (t_57 _ _) (Nat.le_of_ble_eq_true rfl) ?_
          refine c_gets (w := 3) (by omega) (by decide) ?_
          refine gwr0 ?_
          refine g_aload_n m118_101 rfl ?_
          refine g_iload m118_102 rfl ?_
          refine g_iconst m118_104 ?_
          refine g_iconst m118_105 ?_
          refine h_cv (k := 57) (p := 89) (args := [.int (nI (n)), .int (4), .int (0)]) (rest := []) m118_106 cn_112 (Nat.le_of_ble_eq_true rfl) rfl rfl rfl (t_57 _ _) (Nat.le_of_ble_eq_true rfl) ?_
          refine c_gets (w := 4) (by omega) (by decide) ?_
          refine gwr0 ?_
          refine g_aload_n m118_109 rfl ?_
          refine g_iload m118_110 rfl ?_
          refine g_iconst m118_112 ?_
          refine g_iconst m118_113 ?_
          refine h_cv (k := 57) (p := 89) (args := [.int (nI (n)), .int (5), .int (0)]) (rest := []) m118_114 cn_112 (Nat.le_of_ble_eq_true rfl) rfl rfl rfl (t_57 _ _) (Nat.le_of_ble_eq_true rfl) ?_
          refine c_gets (w := 5) (by omega) (by decide) ?_
          refine gwr0 ?_
          refine g_aload_n m118_117 rfl ?_
          refine h_gfR (c := 90) (k := 57) (p := 89) m118_118 rfl (t_57 _ _) rfl (Nat.le_of_ble_eq_true rfl) ?_
          refine g_iconst m118_121 ?_
          refine g_dup2 m118_122 rfl rfl ?_
          refine h_ial (k := 58) (p := 90) (j := 2) m118_123 rfl (t_58 _ _) (rfl) (by omega) (Nat.le_of_ble_eq_true rfl) (md_2 hd) ?_
          refine g_iconst m118_124 ?_
          refine g_iadd (u := nI (n + 1)) m118_125 (nI_add n 1) ?_
          refine h_ias (k := 58) (p := 90) (j := 2) m118_126 rfl (t_58 _ _) (rfl) (by omega) (Nat.le_of_ble_eq_true rfl) ?_
          refine g_iload m118_127 rfl ?_
          refine g_iret m118_129 rt_118 ?_
          exact hY ja jb jc rfl (by omega) rfl (by omega) rfl (by omega) (by omega)
      · skip
        refine gwr ?_
        refine h_if_neT (xi := 0) (zi := 0) m118_27 rfl rfl (by decide) ?_
        refine g_aload_n m118_30 rfl ?_
        refine g_ldci m118_31 rfl ?_
        refine h_cv (k := 57) (p := 89) (args := [.int (-1000000001)]) (rest := []) m118_33 cn_108 (Nat.le_of_ble_eq_true rfl) rfl rfl rfl (t_57 _ _) (Nat.le_of_ble_eq_true rfl) ?_
        refine c_errs (e := 1) (by decide) (by decide) (by decide) ?_
        refine gwr ?_
        refine g_iret m118_36 rt_118 ?_
        exact hE1 (by omega)
    · skip
      refine gwr ?_
      refine h_if_eqT (xi := 0) (zi := 0) m118_17 rfl rfl (by decide) ?_
      refine g_aload_n m118_30 rfl ?_
      refine g_ldci m118_31 rfl ?_
      refine h_cv (k := 57) (p := 89) (args := [.int (-1000000001)]) (rest := []) m118_33 cn_108 (Nat.le_of_ble_eq_true rfl) rfl rfl rfl (t_57 _ _) (Nat.le_of_ble_eq_true rfl) ?_
      refine c_errs (e := 1) (by decide) (by decide) (by decide) ?_
      refine gwr ?_
      refine g_iret m118_36 rt_118 ?_
      exact hE1 (by omega)
  · skip
    refine gwr ?_
    refine h_if_eqT (xi := 0) (zi := 0) m118_7 rfl rfl (by decide) ?_
    refine g_aload_n m118_30 rfl ?_
    refine g_ldci m118_31 rfl ?_
    refine h_cv (k := 57) (p := 89) (args := [.int (-1000000001)]) (rest := []) m118_33 cn_108 (Nat.le_of_ble_eq_true rfl) rfl rfl rfl (t_57 _ _) (Nat.le_of_ble_eq_true rfl) ?_
    refine c_errs (e := 1) (by decide) (by decide) (by decide) ?_
    refine gwr ?_
    refine g_iret m118_36 rt_118 ?_
    exact hE1 (by omega)
set_option maxRecDepth 20000 in
set_option maxHeartbeats 40000000 in
theorem x_become {a b : Int32} {n : Nat} (hd : m 1 10 = nI n) (hn : n ≤ 8) (hE1 : (a.toInt < 0 ∨ (n : Int) ≤ a.toInt ∨ b.toInt < 0 ∨ 69 < b.toInt) → Q (some (.int (-1000000000 - nI 1))) (H (erm m 1) ln N)) (hY : ∀ i k : Nat, a = nI i → i < n → b = nI k → k ≤ 69 → Q (some (.int (m 3 i))) (H (upm (upm m 3 i (nI (k / 10))) 4 i (nI (k % 10))) ln N)) : WP xs (d + 2) 64 0 0 [.ref (32), .int (a), .int (b)] (H m ln N) Q := by
  refine wp_x mx_64 (L := [some (.ref (32)), some (.int (a)), some (.int (b)), none]) (Nat.le_of_ble_eq_true rfl) rfl ?_
  refine g_aload_n m64_0 rfl ?_
  refine g_iload_n m64_1 rfl ?_
  refine h_cv (k := 0) (p := 32) (args := [.int (a)]) (rest := []) m64_2 cn_60 (Nat.le_of_ble_eq_true rfl) rfl rfl rfl (t_0 _ _) (Nat.le_of_ble_eq_true rfl) ?_
  refine c_isDiner hd hn (fun ja ea a_14 => ?_) (fun a_14 => ?_)
  · subst ea
    refine gwr ?_
    refine h_if_eqF (xi := 1) (zi := 0) m64_5 rfl rfl (by decide) ?_
    refine g_iload_n m64_8 rfl ?_
    refine g_bipush m64_9 ?_
    refine g_cs (args := [.int (b), .int (69)]) (rest := []) 0 (Or.inl rfl) m64_11 (Nat.le_of_ble_eq_true rfl) rfl rfl (Nat.le_of_ble_eq_true rfl) ?_
    refine c_within (M := 69) rfl (fun jb eb a_15 => ?_) (fun a_15 => ?_)
    · subst eb
      refine gwr ?_
      refine h_if_neF (xi := 1) (zi := 0) m64_14 rfl rfl (by decide) ?_
      refine g_aload_n m64_23 rfl ?_
      refine h_gfR (c := 33) (k := 0) (p := 32) m64_24 rfl (t_0 _ _) rfl (Nat.le_of_ble_eq_true rfl) ?_
      refine h_gfR (c := 35) (k := 1) (p := 33) m64_27 rfl (t_1 _ _) rfl (Nat.le_of_ble_eq_true rfl) ?_
      refine g_iload_n m64_30 rfl ?_
      refine h_ial (k := 3) (p := 35) (j := ja) m64_31 rfl (t_3 _ _) (rfl) (by omega) (Nat.le_of_ble_eq_true rfl) (rfl) ?_
      refine g_istore_n (L2 := [some (.ref (32)), some (.int (nI (ja))), some (.int (nI (jb))), some (.int (m (3) (ja)))]) m64_32 rfl rfl ?_
      refine g_aload_n m64_33 rfl ?_
      refine h_gfR (c := 33) (k := 0) (p := 32) m64_34 rfl (t_0 _ _) rfl (Nat.le_of_ble_eq_true rfl) ?_
      refine h_gfR (c := 35) (k := 1) (p := 33) m64_37 rfl (t_1 _ _) rfl (Nat.le_of_ble_eq_true rfl) ?_
      refine g_iload_n m64_40 rfl ?_
      refine g_iload_n m64_41 rfl ?_
      refine g_bipush m64_42 ?_
      refine g_idiv (u := nI (jb / 10)) m64_44 (by decide) (pk_div (a := jb) (d := 10) (by omega) (by decide) (by decide)) ?_
      refine h_ias (k := 3) (p := 35) (j := ja) m64_45 rfl (t_3 _ _) (rfl) (by omega) (Nat.le_of_ble_eq_true rfl) ?_
      refine g_aload_n m64_46 rfl ?_
      refine h_gfR (c := 33) (k := 0) (p := 32) m64_47 rfl (t_0 _ _) rfl (Nat.le_of_ble_eq_true rfl) ?_
      refine h_gfR (c := 36) (k := 1) (p := 33) m64_50 rfl (t_1 _ _) rfl (Nat.le_of_ble_eq_true rfl) ?_
      refine g_iload_n m64_53 rfl ?_
      refine g_iload_n m64_54 rfl ?_
      refine g_bipush m64_55 ?_
      refine g_irem (u := nI (jb % 10)) m64_57 (by decide) (pk_rem (a := jb) (d := 10) (by omega) (by decide) (by decide)) ?_
      refine h_ias (k := 4) (p := 36) (j := ja) m64_58 rfl (t_4 _ _) (rfl) (by omega) (Nat.le_of_ble_eq_true rfl) ?_
      refine g_iload_n m64_59 rfl ?_
      refine g_iret m64_60 rt_64 ?_
      exact hY ja jb rfl (by omega) rfl (by omega)
    · skip
      refine gwr ?_
      refine h_if_neT (xi := 0) (zi := 0) m64_14 rfl rfl (by decide) ?_
      refine g_aload_n m64_17 rfl ?_
      refine g_iconst m64_18 ?_
      refine h_cv (k := 0) (p := 32) (args := [.int (1)]) (rest := []) m64_19 cn_55 (Nat.le_of_ble_eq_true rfl) rfl rfl rfl (t_0 _ _) (Nat.le_of_ble_eq_true rfl) ?_
      refine c_error (e := 1) (by decide) (by decide) ?_
      refine gwr ?_
      refine g_iret m64_22 rt_64 ?_
      exact hE1 (by omega)
  · skip
    refine gwr ?_
    refine h_if_eqT (xi := 0) (zi := 0) m64_5 rfl rfl (by decide) ?_
    refine g_aload_n m64_17 rfl ?_
    refine g_iconst m64_18 ?_
    refine h_cv (k := 0) (p := 32) (args := [.int (1)]) (rest := []) m64_19 cn_55 (Nat.le_of_ble_eq_true rfl) rfl rfl rfl (t_0 _ _) (Nat.le_of_ble_eq_true rfl) ?_
    refine c_error (e := 1) (by decide) (by decide) ?_
    refine gwr ?_
    refine g_iret m64_22 rt_64 ?_
    exact hE1 (by omega)
set_option maxRecDepth 20000 in
set_option maxHeartbeats 40000000 in
theorem m_become {a b : Int32} {n : Nat} (hd : m 58 2 = nI n) (hn : n ≤ 8) (hE1 : (a.toInt < 0 ∨ (n : Int) ≤ a.toInt ∨ b.toInt < 0 ∨ 69 < b.toInt) → Q (some (.int (-1000000001))) (H (ers m 1) ln N)) (hY : ∀ i k : Nat, a = nI i → i < n → b = nI k → k ≤ 69 → Q (some (.int (m 58 (16 + 6 * i)))) (H (upm (upm m 58 (16 + 6 * i + 1) (nI (k % 10))) 58 (16 + 6 * i) (nI (k / 10))) ln N)) : WP xs (d + 3) 135 0 0 [.ref (89), .int (a), .int (b)] (H m ln N) Q := by
  refine wp_x mx_135 (L := [some (.ref (89)), some (.int (a)), some (.int (b))]) (Nat.le_of_ble_eq_true rfl) rfl ?_
  refine g_aload_n m135_0 rfl ?_
  refine g_iload_n m135_1 rfl ?_
  refine h_cv (k := 57) (p := 89) (args := [.int (a)]) (rest := []) m135_2 cn_113 (Nat.le_of_ble_eq_true rfl) rfl rfl rfl (t_57 _ _) (Nat.le_of_ble_eq_true rfl) ?_
  refine c_isDinerM hd hn (fun ja ea a_16 => ?_) (fun a_16 => ?_)
  · subst ea
    refine gwr ?_
    refine h_if_eqF (xi := 1) (zi := 0) m135_5 rfl rfl (by decide) ?_
    refine g_iload_n m135_8 rfl ?_
    refine g_iconst m135_9 ?_
    refine g_bipush m135_10 ?_
    refine g_cs (args := [.int (b), .int (0), .int (69)]) (rest := []) 0 (Or.inl rfl) m135_12 (Nat.le_of_ble_eq_true rfl) rfl rfl (Nat.le_of_ble_eq_true rfl) ?_
    refine c_in (A := 0) (B := 69) rfl rfl (by decide) (fun jb eb a_17 a_17' => ?_) (fun a_17 => ?_)
    · subst eb
      refine gwr ?_
      refine h_if_neF (xi := 1) (zi := 0) m135_15 rfl rfl (by decide) ?_
      refine g_aload_n m135_25 rfl ?_
      refine g_iload_n m135_26 rfl ?_
      refine g_iconst m135_27 ?_
      refine g_iload_n m135_28 rfl ?_
      refine g_bipush m135_29 ?_
      refine g_irem (u := nI (jb % 10)) m135_31 (by decide) (pk_rem (a := jb) (d := 10) (by omega) (by decide) (by decide)) ?_
      refine h_cv (k := 57) (p := 89) (args := [.int (nI (ja)), .int (1), .int (nI (jb % 10))]) (rest := []) m135_32 cn_112 (Nat.le_of_ble_eq_true rfl) rfl rfl rfl (t_57 _ _) (Nat.le_of_ble_eq_true rfl) ?_
      refine c_gets (w := 1) (by omega) (by decide) ?_
      refine gwr0 ?_
      refine g_aload_n m135_35 rfl ?_
      refine g_bipush m135_36 ?_
      refine g_bipush m135_38 ?_
      refine g_iload_n m135_40 rfl ?_
      refine g_imul (u := nI (6 * ja)) m135_41 (pk_mul 6 ja) ?_
      refine g_iadd (u := nI (16 + (6 * ja))) m135_42 (nI_add 16 (6 * ja)) ?_
      refine g_iload_n m135_43 rfl ?_
      refine g_bipush m135_44 ?_
      refine g_idiv (u := nI (jb / 10)) m135_46 (by decide) (pk_div (a := jb) (d := 10) (by omega) (by decide) (by decide)) ?_
      refine h_cv (k := 57) (p := 89) (args := [.int (nI (16 + (6 * ja))), .int (nI (jb / 10))]) (rest := []) m135_47 cn_114 (Nat.le_of_ble_eq_true rfl) rfl rfl rfl (t_57 _ _) (Nat.le_of_ble_eq_true rfl) ?_
      refine c_becomes (a := 16 + (6 * ja)) (by omega) ?_
      refine gwr ?_
      refine g_iret m135_50 rt_135 ?_
      rw [upm_j _ _ (by omega)]
      exact hY ja jb rfl (by omega) rfl (by omega)
    · skip
      refine gwr ?_
      refine h_if_neT (xi := 0) (zi := 0) m135_15 rfl rfl (by decide) ?_
      refine g_aload_n m135_18 rfl ?_
      refine g_ldci m135_19 rfl ?_
      refine h_cv (k := 57) (p := 89) (args := [.int (-1000000001)]) (rest := []) m135_21 cn_108 (Nat.le_of_ble_eq_true rfl) rfl rfl rfl (t_57 _ _) (Nat.le_of_ble_eq_true rfl) ?_
      refine c_errs (e := 1) (by decide) (by decide) (by decide) ?_
      refine gwr ?_
      refine g_iret m135_24 rt_135 ?_
      exact hE1 (by omega)
  · skip
    refine gwr ?_
    refine h_if_eqT (xi := 0) (zi := 0) m135_5 rfl rfl (by decide) ?_
    refine g_aload_n m135_18 rfl ?_
    refine g_ldci m135_19 rfl ?_
    refine h_cv (k := 57) (p := 89) (args := [.int (-1000000001)]) (rest := []) m135_21 cn_108 (Nat.le_of_ble_eq_true rfl) rfl rfl rfl (t_57 _ _) (Nat.le_of_ble_eq_true rfl) ?_
    refine c_errs (e := 1) (by decide) (by decide) (by decide) ?_
    refine gwr ?_
    refine g_iret m135_24 rt_135 ?_
    exact hE1 (by omega)
set_option maxRecDepth 20000 in
set_option maxHeartbeats 40000000 in
theorem x_seed {v : Int32} (hY : Q (some (.int (m 37 0))) (H (upm m 37 0 v) ln N)) : WP xs (d + 1) 90 0 0 [.ref (32), .int (v)] (H m ln N) Q := by
  refine wp_x mx_90 (L := [some (.ref (32)), some (.int (v)), none]) (Nat.le_of_ble_eq_true rfl) rfl ?_
  refine g_aload_n m90_0 rfl ?_
  refine h_gfR (c := 69) (k := 0) (p := 32) m90_1 rfl (t_0 _ _) rfl (Nat.le_of_ble_eq_true rfl) ?_
  refine h_gfI (k := 37) (p := 69) m90_4 rfl (t_37 _ _) rfl rfl ?_
  refine g_istore_n (L2 := [some (.ref (32)), some (.int (v)), some (.int (m (37) 0))]) m90_7 rfl rfl ?_
  refine g_aload_n m90_8 rfl ?_
  refine h_gfR (c := 69) (k := 0) (p := 32) m90_9 rfl (t_0 _ _) rfl (Nat.le_of_ble_eq_true rfl) ?_
  refine g_iload_n m90_12 rfl ?_
  refine h_pfI (k := 37) (p := 69) m90_13 rfl (t_37 _ _) rfl trivial ?_
  refine g_iload_n m90_16 rfl ?_
  refine g_iret m90_17 rt_90 ?_
  exact hY
set_option maxRecDepth 20000 in
set_option maxHeartbeats 40000000 in
theorem m_seed {v : Int32} (hY : Q (some (.int (m 58 1))) (H (upm m 58 1 v) ln N)) : WP xs (d + 2) 170 0 0 [.ref (89), .int (v)] (H m ln N) Q := by
  refine wp_x mx_170 (L := [some (.ref (89)), some (.int (v)), none]) (Nat.le_of_ble_eq_true rfl) rfl ?_
  refine g_aload_n m170_0 rfl ?_
  refine h_gfR (c := 90) (k := 57) (p := 89) m170_1 rfl (t_57 _ _) rfl (Nat.le_of_ble_eq_true rfl) ?_
  refine g_iconst m170_4 ?_
  refine h_ial (k := 58) (p := 90) (j := 1) m170_5 rfl (t_58 _ _) (rfl) (by omega) (Nat.le_of_ble_eq_true rfl) (rfl) ?_
  refine g_istore_n (L2 := [some (.ref (89)), some (.int (v)), some (.int (m (58) (1)))]) m170_6 rfl rfl ?_
  refine g_aload_n m170_7 rfl ?_
  refine h_gfR (c := 90) (k := 57) (p := 89) m170_8 rfl (t_57 _ _) rfl (Nat.le_of_ble_eq_true rfl) ?_
  refine g_iconst m170_11 ?_
  refine g_iload_n m170_12 rfl ?_
  refine h_ias (k := 58) (p := 90) (j := 1) m170_13 rfl (t_58 _ _) (rfl) (by omega) (Nat.le_of_ble_eq_true rfl) ?_
  refine g_iload_n m170_14 rfl ?_
  refine g_iret m170_15 rt_170 ?_
  exact hY
set_option maxRecDepth 20000 in
set_option maxHeartbeats 40000000 in
theorem x_trace {v : Int32} {b : Nat} (hb : m 45 4 = nI b) (hb4 : b ≤ 40) (hE2 : (v.toInt < 0 ∨ (b : Int) ≤ v.toInt) → Q (some (.int (-1000000000 - nI 2))) (H (erm m 2) ln N)) (hY : ∀ j : Nat, v = nI j → j < b → Q (some (.int (m 46 j))) (H m ln N)) : WP xs (d + 2) 94 0 0 [.ref (32), .int (v)] (H m ln N) Q := by
  refine wp_x mx_94 (L := [some (.ref (32)), some (.int (v))]) (Nat.le_of_ble_eq_true rfl) rfl ?_
  by_cases hv : v.toInt < 0 ∨ (b : Int) ≤ v.toInt
  · skip
    refine g_iload_n m94_0 rfl ?_
    refine h_if_lt (xi := v.toInt) (zi := 0) m94_1 rfl rfl (fun c1 => ?_) (fun c1 => ?_)
    · skip
      refine g_aload_n m94_15 rfl ?_
      refine g_iconst m94_16 ?_
      refine h_cv (k := 0) (p := 32) (args := [.int (2)]) (rest := []) m94_17 cn_55 (Nat.le_of_ble_eq_true rfl) rfl rfl rfl (t_0 _ _) (Nat.le_of_ble_eq_true rfl) ?_
      refine c_error (e := 2) (by decide) (by decide) ?_
      refine gwr ?_
      refine g_iret m94_20 rt_94 ?_
      exact hE2 (by omega)
    · skip
      refine g_iload_n m94_4 rfl ?_
      refine g_aload_n m94_5 rfl ?_
      refine h_gfR (c := 77) (k := 0) (p := 32) m94_6 rfl (t_0 _ _) rfl (Nat.le_of_ble_eq_true rfl) ?_
      refine h_gfI (k := 45) (p := 77) m94_9 rfl (t_45 _ _) rfl (hb) ?_
      refine h_ic_lt (xi := v.toInt) (zi := ((b : Nat) : Int)) m94_12 rfl (nI_toInt (by omega)) (fun c2 => ?_) (fun c2 => ?_)
      · skip
        exfalso
        omega
      · skip
        refine g_aload_n m94_15 rfl ?_
        refine g_iconst m94_16 ?_
        refine h_cv (k := 0) (p := 32) (args := [.int (2)]) (rest := []) m94_17 cn_55 (Nat.le_of_ble_eq_true rfl) rfl rfl rfl (t_0 _ _) (Nat.le_of_ble_eq_true rfl) ?_
        refine c_error (e := 2) (by decide) (by decide) ?_
        refine gwr ?_
        refine g_iret m94_20 rt_94 ?_
        exact hE2 (by omega)
  · obtain ⟨j, ⟨h1, h2⟩, h3⟩ := nat_of (x := v) (lo := 0) (hi := b) (by omega) (by omega)
    have e : v.toInt = (j : Int) := by rw [h3]; exact nI_toInt (by omega)
    obtain rfl : v = nI j := h3
    refine g_iload_n m94_0 rfl ?_
    refine h_if_ltF (xi := ((j : Nat) : Int)) (zi := 0) m94_1 (nI_toInt (by omega)) rfl (by omega) ?_
    refine g_iload_n m94_4 rfl ?_
    refine g_aload_n m94_5 rfl ?_
    refine h_gfR (c := 77) (k := 0) (p := 32) m94_6 rfl (t_0 _ _) rfl (Nat.le_of_ble_eq_true rfl) ?_
    refine h_gfI (k := 45) (p := 77) m94_9 rfl (t_45 _ _) rfl (hb) ?_
    refine h_ic_ltT (xi := ((j : Nat) : Int)) (zi := ((b : Nat) : Int)) m94_12 (nI_toInt (by omega)) (nI_toInt (by omega)) (by omega) ?_
    refine g_aload_n m94_21 rfl ?_
    refine h_gfR (c := 77) (k := 0) (p := 32) m94_22 rfl (t_0 _ _) rfl (Nat.le_of_ble_eq_true rfl) ?_
    refine h_gfR (c := 78) (k := 45) (p := 77) m94_25 rfl (t_45 _ _) rfl (Nat.le_of_ble_eq_true rfl) ?_
    refine g_iload_n m94_28 rfl ?_
    refine h_ial (k := 46) (p := 78) (j := j) m94_29 rfl (t_46 _ _) (rfl) (by omega) (Nat.le_of_ble_eq_true rfl) (rfl) ?_
    refine g_iret m94_30 rt_94 ?_
    exact hY j rfl (by omega)
set_option maxRecDepth 20000 in
set_option maxHeartbeats 40000000 in
theorem m_trace {v : Int32} {b : Nat} (hb : m 57 21 = nI b) (hb4 : b ≤ 40) (hE2 : (v.toInt < 0 ∨ (b : Int) ≤ v.toInt) → Q (some (.int (-1000000002))) (H (ers m 2) ln N)) (hY : ∀ j : Nat, v = nI j → j < b → Q (some (.int (m 68 j))) (H m ln N)) : WP xs (d + 2) 177 0 0 [.ref (89), .int (v)] (H m ln N) Q := by
  refine wp_x mx_177 (L := [some (.ref (89)), some (.int (v))]) (Nat.le_of_ble_eq_true rfl) rfl ?_
  refine g_iload_n m177_0 rfl ?_
  refine g_iconst m177_1 ?_
  refine g_aload_n m177_2 rfl ?_
  refine h_gfI (k := 57) (p := 89) m177_3 rfl (t_57 _ _) rfl (hb) ?_
  refine g_iconst m177_6 ?_
  refine g_isub m177_7 rfl ?_
  refine g_cs (args := [.int (v), .int (0), .int (((nI (b)) - (1 : Int32)))]) (rest := []) 0 (Or.inl rfl) m177_8 (Nat.le_of_ble_eq_true rfl) rfl rfl (Nat.le_of_ble_eq_true rfl) ?_
  refine c_inI (A := 0) (B := (b : Int) - 1) (vi := v.toInt) rfl (by rw [sub_k (a := b) (b := 1) (nI_toInt (by omega)) rfl (by omega) (by omega)]) rfl (fun a1 => ?_) (fun a1 => ?_)
  · obtain ⟨j, ⟨h1, h2⟩, h3⟩ := nat_of (x := v) (lo := 0) (hi := b) (by omega) (by omega)
    have e : v.toInt = (j : Int) := by rw [h3]; exact nI_toInt (by omega)
    obtain rfl : v = nI j := h3
    refine gwr ?_
    refine h_if_eqF (xi := 1) (zi := 0) m177_11 rfl rfl (by decide) ?_
    refine g_aload_n m177_14 rfl ?_
    refine h_gfR (c := 100) (k := 57) (p := 89) m177_15 rfl (t_57 _ _) rfl (Nat.le_of_ble_eq_true rfl) ?_
    refine g_iload_n m177_18 rfl ?_
    refine h_ial (k := 68) (p := 100) (j := j) m177_19 rfl (t_68 _ _) (rfl) (by omega) (Nat.le_of_ble_eq_true rfl) (rfl) ?_
    refine g_goto m177_20 ?_
    refine g_iret m177_29 rt_177 ?_
    exact hY j rfl (by omega)
  · skip
    refine gwr ?_
    refine h_if_eqT (xi := 0) (zi := 0) m177_11 rfl rfl (by decide) ?_
    refine g_aload_n m177_23 rfl ?_
    refine g_ldci m177_24 rfl ?_
    refine h_cv (k := 57) (p := 89) (args := [.int (-1000000002)]) (rest := []) m177_26 cn_108 (Nat.le_of_ble_eq_true rfl) rfl rfl rfl (t_57 _ _) (Nat.le_of_ble_eq_true rfl) ?_
    refine c_errs (e := 2) (by decide) (by decide) (by decide) ?_
    refine gwr ?_
    refine g_iret m177_29 rt_177 ?_
    exact hE2 (by omega)
set_option maxRecDepth 20000 in
set_option maxHeartbeats 40000000 in
theorem x_tell {v : Int32} {w : Nat} (hw : m 37 4 = nI w) (hw2 : w ≤ 20) (hE4 : (w = 20) → Q (some (.int (-1000000000 - nI 4))) (H (erm m 4) ln N)) (hY : w < 20 → Q (some (.int (nI (w + 1)))) (H (upm (upm m 39 w v) 37 4 (nI (w + 1))) ln N)) : WP xs (d + 2) 102 0 0 [.ref (32), .int (v)] (H m ln N) Q := by
  refine wp_x mx_102 (L := [some (.ref (32)), some (.int (v))]) (Nat.le_of_ble_eq_true rfl) rfl ?_
  refine g_aload_n m102_0 rfl ?_
  refine h_gfR (c := 69) (k := 0) (p := 32) m102_1 rfl (t_0 _ _) rfl (Nat.le_of_ble_eq_true rfl) ?_
  refine h_gfI (k := 37) (p := 69) m102_4 rfl (t_37 _ _) rfl (hw) ?_
  refine g_bipush m102_7 ?_
  refine h_ic_lt (xi := ((w : Nat) : Int)) (zi := 20) m102_9 (nI_toInt (by omega)) rfl (fun c1 => ?_) (fun c1 => ?_)
  · skip
    refine g_aload_n m102_18 rfl ?_
    refine h_gfR (c := 69) (k := 0) (p := 32) m102_19 rfl (t_0 _ _) rfl (Nat.le_of_ble_eq_true rfl) ?_
    refine h_gfR (c := 71) (k := 37) (p := 69) m102_22 rfl (t_37 _ _) rfl (Nat.le_of_ble_eq_true rfl) ?_
    refine g_aload_n m102_25 rfl ?_
    refine h_gfR (c := 69) (k := 0) (p := 32) m102_26 rfl (t_0 _ _) rfl (Nat.le_of_ble_eq_true rfl) ?_
    refine h_gfI (k := 37) (p := 69) m102_29 rfl (t_37 _ _) rfl (hw) ?_
    refine g_iload_n m102_32 rfl ?_
    refine h_ias (k := 39) (p := 71) (j := w) m102_33 rfl (t_39 _ _) (rfl) (by omega) (Nat.le_of_ble_eq_true rfl) ?_
    refine g_aload_n m102_34 rfl ?_
    refine h_gfR (c := 69) (k := 0) (p := 32) m102_35 rfl (t_0 _ _) rfl (Nat.le_of_ble_eq_true rfl) ?_
    refine g_dup m102_38 rfl ?_
    refine h_gfI (k := 37) (p := 69) m102_39 rfl (t_37 _ _) rfl (hw) ?_
    refine g_iconst m102_42 ?_
    refine g_iadd (u := nI (w + 1)) m102_43 (nI_add w 1) ?_
    refine h_pfI (k := 37) (p := 69) m102_44 rfl (t_37 _ _) rfl trivial ?_
    refine g_aload_n m102_47 rfl ?_
    refine h_gfR (c := 69) (k := 0) (p := 32) m102_48 rfl (t_0 _ _) rfl (Nat.le_of_ble_eq_true rfl) ?_
    refine h_gfI (k := 37) (p := 69) m102_51 rfl (t_37 _ _) rfl (rfl) ?_
    refine g_iret m102_54 rt_102 ?_
    exact hY (by omega)
  · skip
    refine g_aload_n m102_12 rfl ?_
    refine g_iconst m102_13 ?_
    refine h_cv (k := 0) (p := 32) (args := [.int (4)]) (rest := []) m102_14 cn_55 (Nat.le_of_ble_eq_true rfl) rfl rfl rfl (t_0 _ _) (Nat.le_of_ble_eq_true rfl) ?_
    refine c_error (e := 4) (by decide) (by decide) ?_
    refine gwr ?_
    refine g_iret m102_17 rt_102 ?_
    exact hE4 (by omega)
set_option maxRecDepth 20000 in
set_option maxHeartbeats 40000000 in
theorem m_tell {v : Int32} {w : Nat} (hw : m 58 4 = nI w) (hw2 : w ≤ 20) (hE4 : (w = 20) → Q (some (.int (-1000000004))) (H (ers m 4) ln N)) (hY : w < 20 → Q (some (.int (nI (w + 1)))) (H (upm (upm m 58 (114 + w) v) 58 4 (nI (w + 1))) ln N)) : WP xs (d + 2) 186 0 0 [.ref (89), .int (v)] (H m ln N) Q := by
  refine wp_x mx_186 (L := [some (.ref (89)), some (.int (v))]) (Nat.le_of_ble_eq_true rfl) rfl ?_
  refine g_aload_n m186_0 rfl ?_
  refine h_gfR (c := 90) (k := 57) (p := 89) m186_1 rfl (t_57 _ _) rfl (Nat.le_of_ble_eq_true rfl) ?_
  refine g_iconst m186_4 ?_
  refine h_ial (k := 58) (p := 90) (j := 4) m186_5 rfl (t_58 _ _) (rfl) (by omega) (Nat.le_of_ble_eq_true rfl) (hw) ?_
  refine g_bipush m186_6 ?_
  refine h_ic_ne (xi := ((w : Nat) : Int)) (zi := 20) m186_8 (nI_toInt (by omega)) rfl (fun c1 => ?_) (fun c1 => ?_)
  · skip
    refine g_aload_n m186_11 rfl ?_
    refine g_ldci m186_12 rfl ?_
    refine h_cv (k := 57) (p := 89) (args := [.int (-1000000004)]) (rest := []) m186_14 cn_108 (Nat.le_of_ble_eq_true rfl) rfl rfl rfl (t_57 _ _) (Nat.le_of_ble_eq_true rfl) ?_
    refine c_errs (e := 4) (by decide) (by decide) (by decide) ?_
    refine gwr ?_
    refine g_iret m186_17 rt_186 ?_
    exact hE4 (by omega)
  · skip
    refine g_aload_n m186_18 rfl ?_
    refine h_gfR (c := 90) (k := 57) (p := 89) m186_19 rfl (t_57 _ _) rfl (Nat.le_of_ble_eq_true rfl) ?_
    refine g_bipush m186_22 ?_
    refine g_aload_n m186_24 rfl ?_
    refine h_gfR (c := 90) (k := 57) (p := 89) m186_25 rfl (t_57 _ _) rfl (Nat.le_of_ble_eq_true rfl) ?_
    refine g_iconst m186_28 ?_
    refine h_ial (k := 58) (p := 90) (j := 4) m186_29 rfl (t_58 _ _) (rfl) (by omega) (Nat.le_of_ble_eq_true rfl) (hw) ?_
    refine g_iadd (u := nI (114 + w)) m186_30 (nI_add 114 w) ?_
    refine g_iload_n m186_31 rfl ?_
    refine h_ias (k := 58) (p := 90) (j := 114 + w) m186_32 rfl (t_58 _ _) (rfl) (by omega) (Nat.le_of_ble_eq_true rfl) ?_
    refine g_aload_n m186_33 rfl ?_
    refine h_gfR (c := 90) (k := 57) (p := 89) m186_34 rfl (t_57 _ _) rfl (Nat.le_of_ble_eq_true rfl) ?_
    refine g_iconst m186_37 ?_
    refine g_dup2 m186_38 rfl rfl ?_
    refine h_ial (k := 58) (p := 90) (j := 4) m186_39 rfl (t_58 _ _) (rfl) (by omega) (Nat.le_of_ble_eq_true rfl) ((upm_j _ _ (by omega)).trans hw) ?_
    refine g_iconst m186_40 ?_
    refine g_iadd (u := nI (w + 1)) m186_41 (nI_add w 1) ?_
    refine h_ias (k := 58) (p := 90) (j := 4) m186_42 rfl (t_58 _ _) (rfl) (by omega) (Nat.le_of_ble_eq_true rfl) ?_
    refine g_aload_n m186_43 rfl ?_
    refine h_gfR (c := 90) (k := 57) (p := 89) m186_44 rfl (t_57 _ _) rfl (Nat.le_of_ble_eq_true rfl) ?_
    refine g_iconst m186_47 ?_
    refine h_ial (k := 58) (p := 90) (j := 4) m186_48 rfl (t_58 _ _) (rfl) (by omega) (Nat.le_of_ble_eq_true rfl) (upm_self _ _ _ _) ?_
    refine g_iret m186_49 rt_186 ?_
    exact hY (by omega)
set_option maxRecDepth 20000 in
set_option maxHeartbeats 40000000 in
theorem x_told {v : Int32} (hE1 : (v.toInt < 1 ∨ 5 < v.toInt) → Q (some (.int (-1000000000 - nI 1))) (H (erm m 1) ln N)) (hY : ∀ j : Nat, v = nI j → 1 ≤ j → j ≤ 5 → Q (some (.int (m 56 j))) (H m ln N)) : WP xs (d + 2) 105 0 0 [.ref (32), .int (v)] (H m ln N) Q := by
  refine wp_x mx_105 (L := [some (.ref (32)), some (.int (v))]) (Nat.le_of_ble_eq_true rfl) rfl ?_
  by_cases hv : v.toInt < 1 ∨ 5 < v.toInt
  · skip
    refine g_iload_n m105_0 rfl ?_
    refine g_iconst m105_1 ?_
    refine h_ic_lt (xi := v.toInt) (zi := 1) m105_2 rfl rfl (fun c1 => ?_) (fun c1 => ?_)
    · skip
      refine g_aload_n m105_10 rfl ?_
      refine g_iconst m105_11 ?_
      refine h_cv (k := 0) (p := 32) (args := [.int (1)]) (rest := []) m105_12 cn_55 (Nat.le_of_ble_eq_true rfl) rfl rfl rfl (t_0 _ _) (Nat.le_of_ble_eq_true rfl) ?_
      refine c_error (e := 1) (by decide) (by decide) ?_
      refine gwr ?_
      refine g_iret m105_15 rt_105 ?_
      exact hE1 (by omega)
    · skip
      refine g_iload_n m105_5 rfl ?_
      refine g_iconst m105_6 ?_
      refine h_ic_le (xi := v.toInt) (zi := 5) m105_7 rfl rfl (fun c2 => ?_) (fun c2 => ?_)
      · skip
        exfalso
        omega
      · skip
        refine g_aload_n m105_10 rfl ?_
        refine g_iconst m105_11 ?_
        refine h_cv (k := 0) (p := 32) (args := [.int (1)]) (rest := []) m105_12 cn_55 (Nat.le_of_ble_eq_true rfl) rfl rfl rfl (t_0 _ _) (Nat.le_of_ble_eq_true rfl) ?_
        refine c_error (e := 1) (by decide) (by decide) ?_
        refine gwr ?_
        refine g_iret m105_15 rt_105 ?_
        exact hE1 (by omega)
  · obtain ⟨j, ⟨h1, h2⟩, h3⟩ := nat_of (x := v) (lo := 1) (hi := 5) (by omega) (by omega)
    have e : v.toInt = (j : Int) := by rw [h3]; exact nI_toInt (by omega)
    obtain rfl : v = nI j := h3
    refine g_iload_n m105_0 rfl ?_
    refine g_iconst m105_1 ?_
    refine h_ic_ltF (xi := ((j : Nat) : Int)) (zi := 1) m105_2 (nI_toInt (by omega)) rfl (by omega) ?_
    refine g_iload_n m105_5 rfl ?_
    refine g_iconst m105_6 ?_
    refine h_ic_leT (xi := ((j : Nat) : Int)) (zi := 5) m105_7 (nI_toInt (by omega)) rfl (by omega) ?_
    refine g_aload_n m105_16 rfl ?_
    refine h_gfR (c := 88) (k := 0) (p := 32) m105_17 rfl (t_0 _ _) rfl (Nat.le_of_ble_eq_true rfl) ?_
    refine g_iload_n m105_20 rfl ?_
    refine h_ial (k := 56) (p := 88) (j := j) m105_21 rfl (t_56 _ _) (rfl) (by omega) (Nat.le_of_ble_eq_true rfl) (rfl) ?_
    refine g_iret m105_22 rt_105 ?_
    exact hY j rfl (by omega) (by omega)
set_option maxRecDepth 20000 in
set_option maxHeartbeats 40000000 in
theorem m_told {v : Int32} (hE1 : (v.toInt < 1 ∨ 5 < v.toInt) → Q (some (.int (-1000000001))) (H (ers m 1) ln N)) (hY : ∀ j : Nat, v = nI j → 1 ≤ j → j ≤ 5 → Q (some (.int (m 62 j))) (H m ln N)) : WP xs (d + 2) 189 0 0 [.ref (89), .int (v)] (H m ln N) Q := by
  refine wp_x mx_189 (L := [some (.ref (89)), some (.int (v))]) (Nat.le_of_ble_eq_true rfl) rfl ?_
  refine g_iload_n m189_0 rfl ?_
  refine g_iconst m189_1 ?_
  refine g_iconst m189_2 ?_
  refine g_cs (args := [.int (v), .int (1), .int (5)]) (rest := []) 0 (Or.inl rfl) m189_3 (Nat.le_of_ble_eq_true rfl) rfl rfl (Nat.le_of_ble_eq_true rfl) ?_
  refine c_in (A := 1) (B := 5) rfl rfl (by decide) (fun jv ev a_18 a_18' => ?_) (fun a_18 => ?_)
  · subst ev
    refine gwr ?_
    refine h_if_eqF (xi := 1) (zi := 0) m189_6 rfl rfl (by decide) ?_
    refine g_aload_n m189_9 rfl ?_
    refine h_gfR (c := 94) (k := 57) (p := 89) m189_10 rfl (t_57 _ _) rfl (Nat.le_of_ble_eq_true rfl) ?_
    refine g_iload_n m189_13 rfl ?_
    refine h_ial (k := 62) (p := 94) (j := jv) m189_14 rfl (t_62 _ _) (rfl) (by omega) (Nat.le_of_ble_eq_true rfl) (rfl) ?_
    refine g_goto m189_15 ?_
    refine g_iret m189_24 rt_189 ?_
    exact hY jv rfl (by omega) (by omega)
  · skip
    refine gwr ?_
    refine h_if_eqT (xi := 0) (zi := 0) m189_6 rfl rfl (by decide) ?_
    refine g_aload_n m189_18 rfl ?_
    refine g_ldci m189_19 rfl ?_
    refine h_cv (k := 57) (p := 89) (args := [.int (-1000000001)]) (rest := []) m189_21 cn_108 (Nat.le_of_ble_eq_true rfl) rfl rfl rfl (t_57 _ _) (Nat.le_of_ble_eq_true rfl) ?_
    refine c_errs (e := 1) (by decide) (by decide) (by decide) ?_
    refine gwr ?_
    refine g_iret m189_24 rt_189 ?_
    exact hE1 (by omega)
end
