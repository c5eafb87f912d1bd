/-! PUBLIC METHODS: steps, laws, images, counts -/
section
variable {xs : List Int32} {d : Nat} {h : AH} {Q : QT} {m : MW} {ln : Nat → Nat} {N : Nat}
set_option maxRecDepth 20000 in
set_option maxHeartbeats 40000000 in
theorem x_steps {v : Int32} {n st : Nat} (hd : m 1 10 = nI n) (hn : n ≤ 8) (hst : m 1 9 = nI st) (hst9 : st ≤ 9999) (hW : WF (vw m 0)) (hL : LawsOk m ln N) (hix : LawIx N (m 1 11)) (hiy : LawIx N (m 1 12)) (hE1 : (v.toInt < 1 ∨ 60 < v.toInt) → Q (some (.int (-1000000000 - nI 1))) (H (erm m 1) ln N)) (hE3 : (∃ k : Nat, v = nI k ∧ k ≤ 60 ∧ 9999 < st + k) → Q (some (.int (-1000000000 - nI 3))) (H (erm m 3) ln N)) (hY : ∀ k : Nat, v = nI k → 1 ≤ k → k ≤ 60 → st + k ≤ 9999 → ∀ X2 m2, Eq8 (stepN (lkF m ln (m 1 11)) (blF m ln (m 1 12)) (vw m 0) k) X2 → AtX m 0 X2 m2 → Q (some (.int (sumF (X2 4) n))) (H m2 ln N)) : WP xs (d + 7) 70 0 0 [.ref (32), .int (v)] (H m ln N) Q := by
  refine wp_x mx_70 (L := [some (.ref (32)), some (.int (v))]) (Nat.le_of_ble_eq_true rfl) rfl ?_
  by_cases hv : v.toInt < 1 ∨ 60 < v.toInt
  · skip
    refine g_iload_n m70_0 rfl ?_
    refine g_iconst m70_1 ?_
    refine h_ic_lt (xi := v.toInt) (zi := 1) m70_2 rfl rfl (fun c1 => ?_) (fun c1 => ?_)
    · skip
      refine g_aload_n m70_11 rfl ?_
      refine g_iconst m70_12 ?_
      refine h_cv (k := 0) (p := 32) (args := [.int (1)]) (rest := []) m70_13 cn_55 (Nat.le_of_ble_eq_true rfl) rfl rfl rfl (t_0 _ _) (Nat.le_of_ble_eq_true rfl) ?_
      refine c_error (e := 1) (by decide) (by decide) ?_
      refine gwr ?_
      refine g_iret m70_16 rt_70 ?_
      exact hE1 (by omega)
    · skip
      refine g_iload_n m70_5 rfl ?_
      refine g_bipush m70_6 ?_
      refine h_ic_le (xi := v.toInt) (zi := 60) m70_8 rfl rfl (fun c2 => ?_) (fun c2 => ?_)
      · skip
        exfalso
        omega
      · skip
        refine g_aload_n m70_11 rfl ?_
        refine g_iconst m70_12 ?_
        refine h_cv (k := 0) (p := 32) (args := [.int (1)]) (rest := []) m70_13 cn_55 (Nat.le_of_ble_eq_true rfl) rfl rfl rfl (t_0 _ _) (Nat.le_of_ble_eq_true rfl) ?_
        refine c_error (e := 1) (by decide) (by decide) ?_
        refine gwr ?_
        refine g_iret m70_16 rt_70 ?_
        exact hE1 (by omega)
  · skip
    obtain ⟨k, ⟨hk1, hk2⟩, hk3⟩ := nat_of (x := v) (lo := 1) (hi := 60) (by omega) (by omega)
    obtain rfl : v = nI k := hk3
    have ek : (nI k).toInt = (k : Int) := nI_toInt (by omega)
    refine g_iload_n m70_0 rfl ?_
    refine g_iconst m70_1 ?_
    refine h_ic_ltF (xi := ((k : Nat) : Int)) (zi := 1) m70_2 (nI_toInt (by omega)) rfl (by omega) ?_
    refine g_iload_n m70_5 rfl ?_
    refine g_bipush m70_6 ?_
    refine h_ic_leT (xi := ((k : Nat) : Int)) (zi := 60) m70_8 (nI_toInt (by omega)) rfl (by omega) ?_
    refine g_aload_n m70_17 rfl ?_
    refine h_gfR (c := 33) (k := 0) (p := 32) m70_18 rfl (t_0 _ _) rfl (Nat.le_of_ble_eq_true rfl) ?_
    refine h_gfI (k := 1) (p := 33) m70_21 rfl (t_1 _ _) rfl (hst) ?_
    refine g_sipush m70_24 ?_
    refine g_iload_n m70_27 rfl ?_
    refine g_isub (u := nI (9999 - k)) m70_28 (pk_sub (a := 9999) (b := k) (by omega)) ?_
    refine h_ic_le (xi := ((st : Nat) : Int)) (zi := ((9999 - k : Nat) : Int)) m70_29 (nI_toInt (by omega)) (nI_toInt (by omega)) (fun c3 => ?_) (fun c3 => ?_)
    · skip
      refine g_aload_n m70_38 rfl ?_
      refine h_gfR (c := 33) (k := 0) (p := 32) m70_39 rfl (t_0 _ _) rfl (Nat.le_of_ble_eq_true rfl) ?_
      refine g_iload_n m70_42 rfl ?_
      refine h_cv (k := 1) (p := 33) (args := [.int (nI (k))]) (rest := []) m70_43 cn_41 (Nat.le_of_ble_eq_true rfl) rfl rfl rfl (t_1 _ _) (Nat.le_of_ble_eq_true rfl) ?_
      refine c_goOn (t := 0) (m0 := m) (X := vw m 0) (by decide) hL (AtX.self m 0) rfl hix rfl hiy hW (by omega) (fun X2 m2 h8 hA => ?_)
      refine gwr0 ?_
      refine g_aload_n m70_46 rfl ?_
      refine h_gfR (c := 33) (k := 0) (p := 32) m70_47 rfl (t_0 _ _) rfl (Nat.le_of_ble_eq_true rfl) ?_
      refine h_cv (k := 1) (p := 33) (args := []) (rest := []) m70_50 cn_45 (Nat.le_of_ble_eq_true rfl) rfl rfl rfl (t_1 _ _) (Nat.le_of_ble_eq_true rfl) ?_
      refine c_hungerOfAll (t := 0) (by decide) hA hn ((h8 0 (by decide) 10).trans ((stepN_0 _ _ _ (by decide) k).trans hd)) ?_
      refine gwr ?_
      refine g_iret m70_53 rt_70 ?_
      exact hY k rfl (by omega) (by omega) (by omega) X2 m2 h8 hA
    · skip
      refine g_aload_n m70_32 rfl ?_
      refine g_iconst m70_33 ?_
      refine h_cv (k := 0) (p := 32) (args := [.int (3)]) (rest := []) m70_34 cn_55 (Nat.le_of_ble_eq_true rfl) rfl rfl rfl (t_0 _ _) (Nat.le_of_ble_eq_true rfl) ?_
      refine c_error (e := 3) (by decide) (by decide) ?_
      refine gwr ?_
      refine g_iret m70_37 rt_70 ?_
      exact hE3 ⟨k, rfl, by omega, by omega⟩
set_option maxRecDepth 20000 in
set_option maxHeartbeats 40000000 in
theorem m_steps {v : Int32} {n st : Nat} (hd : m 58 2 = nI n) (hn : n ≤ 8) (hst : m 58 0 = nI st) (hst9 : st ≤ 9999) (hX0 : TxOk (m 58) 0) (hX1 : TxOk (m 58) 1) (hWY : WF (vr (m 58))) (hE1 : (v.toInt < 1 ∨ 60 < v.toInt) → Q (some (.int (-1000000001))) (H (ers m 1) ln N)) (hE3 : (∃ k : Nat, v = nI k ∧ k ≤ 60 ∧ 9999 < st + k) → Q (some (.int (-1000000003))) (H (ers m 3) ln N)) (hY : ∀ k : Nat, v = nI k → 1 ≤ k → k ≤ 60 → st + k ≤ 9999 → ∀ m2, AtY m (stepN (rkF (m 58)) (rbF (m 58)) (vr (m 58)) k) m2 → Q (some (.int (sumF (stepN (rkF (m 58)) (rbF (m 58)) (vr (m 58)) k 4) n))) (H m2 ln N)) : WP xs (d + 817) 148 0 0 [.ref (89), .int (v)] (H m ln N) Q := by
  refine wp_x mx_148 (L := [some (.ref (89)), some (.int (v))]) (Nat.le_of_ble_eq_true rfl) rfl ?_
  refine g_iload_n m148_0 rfl ?_
  refine g_iconst m148_1 ?_
  refine g_bipush m148_2 ?_
  refine g_cs (args := [.int (v), .int (1), .int (60)]) (rest := []) 0 (Or.inl rfl) m148_4 (Nat.le_of_ble_eq_true rfl) rfl rfl (Nat.le_of_ble_eq_true rfl) ?_
  refine c_in (A := 1) (B := 60) rfl rfl (by decide) (fun jv ev a_1 a_1' => ?_) (fun a_1 => ?_)
  · subst ev
    refine gwr ?_
    refine h_if_neF (xi := 1) (zi := 0) m148_7 rfl rfl (by decide) ?_
    refine g_aload_n m148_17 rfl ?_
    refine h_gfR (c := 90) (k := 57) (p := 89) m148_18 rfl (t_57 _ _) rfl (Nat.le_of_ble_eq_true rfl) ?_
    refine g_iconst m148_21 ?_
    refine h_ial (k := 58) (p := 90) (j := 0) m148_22 rfl (t_58 _ _) (rfl) (by omega) (Nat.le_of_ble_eq_true rfl) (hst) ?_
    refine g_iload_n m148_23 rfl ?_
    refine g_iadd (u := nI (st + jv)) m148_24 (nI_add st jv) ?_
    refine g_sipush m148_25 ?_
    refine h_ic_le (xi := ((st + jv : Nat) : Int)) (zi := 9999) m148_28 (nI_toInt (by omega)) rfl (fun c1 => ?_) (fun c1 => ?_)
    · skip
      refine g_aload_n m148_38 rfl ?_
      refine g_iload_n m148_39 rfl ?_
      refine h_cv (k := 57) (p := 89) (args := [.int (nI (jv))]) (rest := []) m148_40 cn_146 (Nat.le_of_ble_eq_true rfl) rfl rfl rfl (t_57 _ _) (Nat.le_of_ble_eq_true rfl) ?_
      refine c_passes (AtY.self m) hX0 hX1 hWY (by omega) (fun m2 hA => ?_)
      refine gwr0 ?_
      refine g_aload_n m148_43 rfl ?_
      refine g_iconst m148_44 ?_
      refine h_cv (k := 57) (p := 89) (args := [.int (2)]) (rest := []) m148_45 cn_147 (Nat.le_of_ble_eq_true rfl) rfl rfl rfl (t_57 _ _) (Nat.le_of_ble_eq_true rfl) ?_
      refine c_sumOf (w := 2) hA (by decide) hn ((stepN_0 _ _ _ (by decide) jv).trans hd) ?_
      refine gwr ?_
      refine g_iret m148_48 rt_148 ?_
      exact hY jv rfl (by omega) (by omega) (by omega) m2 hA
    · skip
      refine g_aload_n m148_31 rfl ?_
      refine g_ldci m148_32 rfl ?_
      refine h_cv (k := 57) (p := 89) (args := [.int (-1000000003)]) (rest := []) m148_34 cn_108 (Nat.le_of_ble_eq_true rfl) rfl rfl rfl (t_57 _ _) (Nat.le_of_ble_eq_true rfl) ?_
      refine c_errs (e := 3) (by decide) (by decide) (by decide) ?_
      refine gwr ?_
      refine g_iret m148_37 rt_148 ?_
      exact hE3 ⟨jv, rfl, by omega, by omega⟩
  · skip
    refine gwr ?_
    refine h_if_neT (xi := 0) (zi := 0) m148_7 rfl rfl (by decide) ?_
    refine g_aload_n m148_10 rfl ?_
    refine g_ldci m148_11 rfl ?_
    refine h_cv (k := 57) (p := 89) (args := [.int (-1000000001)]) (rest := []) m148_13 cn_108 (Nat.le_of_ble_eq_true rfl) rfl rfl rfl (t_57 _ _) (Nat.le_of_ble_eq_true rfl) ?_
    refine c_errs (e := 1) (by decide) (by decide) (by decide) ?_
    refine gwr ?_
    refine g_iret m148_16 rt_148 ?_
    exact hE1 (by omega)
set_option maxRecDepth 20000 in
set_option maxHeartbeats 40000000 in
theorem x_law {v a b c : Int32} (hW : WF (vw m 0)) (hL : LawsOk m ln N) (hix : LawIx N (m 1 11)) (hiy : LawIx N (m 1 12)) (hE1 : (v.toInt < 0 ∨ 1 < v.toInt) → Q (some (.int (-1000000000 - nI 1))) (H (erm m 1) ln N)) (hY0 : v = nI 0 → ∀ m2, EqM m m2 → Q (some (.int ((lkF m ln (m 1 11)) a b c))) (H m2 ln N)) (hY1 : v = nI 1 → ∀ m2, EqM m m2 → Q (some (.int ((blF m ln (m 1 12)) a b c))) (H m2 ln N)) : WP xs (d + 3) 69 0 0 [.ref (32), .int (v), .int (a), .int (b), .int (c)] (H m ln N) Q := by
  refine wp_x mx_69 (L := [some (.ref (32)), some (.int (v)), some (.int (a)), some (.int (b)), some (.int (c))]) (Nat.le_of_ble_eq_true rfl) rfl ?_
  refine g_iload_n m69_0 rfl ?_
  refine g_iconst m69_1 ?_
  refine g_cs (args := [.int (v), .int (1)]) (rest := []) 0 (Or.inl rfl) m69_2 (Nat.le_of_ble_eq_true rfl) rfl rfl (Nat.le_of_ble_eq_true rfl) ?_
  refine c_within (M := 1) rfl (fun jv ev a_2 => ?_) (fun a_2 => ?_)
  · subst ev
    refine gwr ?_
    refine h_if_neF (xi := 1) (zi := 0) m69_5 rfl rfl (by decide) ?_
    refine g_iload_n m69_14 rfl ?_
    refine h_if_ne (xi := ((jv : Nat) : Int)) (zi := 0) m69_15 (nI_toInt (by omega)) rfl (fun c1 => ?_) (fun c1 => ?_)
    · skip
      refine g_aload_n m69_18 rfl ?_
      refine h_gfR (c := 33) (k := 0) (p := 32) m69_19 rfl (t_0 _ _) rfl (Nat.le_of_ble_eq_true rfl) ?_
      refine g_iload_n m69_22 rfl ?_
      refine g_iload_n m69_23 rfl ?_
      refine g_iload m69_24 rfl ?_
      refine h_cv (k := 1) (p := 33) (args := [.int (a), .int (b), .int (c)]) (rest := []) m69_26 cn_32 (Nat.le_of_ble_eq_true rfl) rfl rfl rfl (t_1 _ _) (Nat.le_of_ble_eq_true rfl) ?_
      refine c_looksBy (t := 0) (m0 := m) (X := vw m 0) (by decide) hL (AtX.self m 0) rfl hix (fun m2 hA => ?_)
      refine gwr ?_
      refine g_goto m69_29 ?_
      refine g_iret m69_43 rt_69 ?_
      obtain rfl : jv = 0 := by omega
      exact hY0 rfl m2 (AtX.back hA)
    · skip
      refine g_aload_n m69_32 rfl ?_
      refine h_gfR (c := 33) (k := 0) (p := 32) m69_33 rfl (t_0 _ _) rfl (Nat.le_of_ble_eq_true rfl) ?_
      refine g_iload_n m69_36 rfl ?_
      refine g_iload_n m69_37 rfl ?_
      refine g_iload m69_38 rfl ?_
      refine h_cv (k := 1) (p := 33) (args := [.int (a), .int (b), .int (c)]) (rest := []) m69_40 cn_33 (Nat.le_of_ble_eq_true rfl) rfl rfl rfl (t_1 _ _) (Nat.le_of_ble_eq_true rfl) ?_
      refine c_billBy (t := 0) (m0 := m) (X := vw m 0) (by decide) hL (AtX.self m 0) rfl hiy (fun m2 hA => ?_)
      refine gwr ?_
      refine g_iret m69_43 rt_69 ?_
      obtain rfl : jv = 1 := by omega
      exact hY1 rfl m2 (AtX.back hA)
  · skip
    refine gwr ?_
    refine h_if_neT (xi := 0) (zi := 0) m69_5 rfl rfl (by decide) ?_
    refine g_aload_n m69_8 rfl ?_
    refine g_iconst m69_9 ?_
    refine h_cv (k := 0) (p := 32) (args := [.int (1)]) (rest := []) m69_10 cn_55 (Nat.le_of_ble_eq_true rfl) rfl rfl rfl (t_0 _ _) (Nat.le_of_ble_eq_true rfl) ?_
    refine c_error (e := 1) (by decide) (by decide) ?_
    refine gwr ?_
    refine g_iret m69_13 rt_69 ?_
    exact hE1 (by omega)
set_option maxRecDepth 20000 in
set_option maxHeartbeats 40000000 in
theorem m_law {v a b c : Int32} (hX0 : TxOk (m 58) 0) (hX1 : TxOk (m 58) 1) (hE1 : (v.toInt < 0 ∨ 1 < v.toInt) → Q (some (.int (-1000000001))) (H (ers m 1) ln N)) (hY0 : v = nI 0 → ∀ m2, EqM m m2 → Q (some (.int ((rkF (m 58)) a b c))) (H m2 ln N)) (hY1 : v = nI 1 → ∀ m2, EqM m m2 → Q (some (.int ((rbF (m 58)) a b c))) (H m2 ln N)) : WP xs (d + 812) 138 0 0 [.ref (89), .int (v), .int (a), .int (b), .int (c)] (H m ln N) Q := by
  refine wp_x mx_138 (L := [some (.ref (89)), some (.int (v)), some (.int (a)), some (.int (b)), some (.int (c))]) (Nat.le_of_ble_eq_true rfl) rfl ?_
  refine g_iload_n m138_0 rfl ?_
  refine g_iconst m138_1 ?_
  refine g_iconst m138_2 ?_
  refine g_cs (args := [.int (v), .int (0), .int (1)]) (rest := []) 0 (Or.inl rfl) m138_3 (Nat.le_of_ble_eq_true rfl) rfl rfl (Nat.le_of_ble_eq_true rfl) ?_
  refine c_in (A := 0) (B := 1) rfl rfl (by decide) (fun jv ev a_3 a_3' => ?_) (fun a_3 => ?_)
  · subst ev
    refine gwr ?_
    refine h_if_eqF (xi := 1) (zi := 0) m138_6 rfl rfl (by decide) ?_
    refine g_aload_n m138_9 rfl ?_
    refine g_iload_n m138_10 rfl ?_
    refine g_iload_n m138_11 rfl ?_
    refine g_iload_n m138_12 rfl ?_
    refine g_iload m138_13 rfl ?_
    refine h_cv (k := 57) (p := 89) (args := [.int (nI (jv)), .int (a), .int (b), .int (c)]) (rest := []) m138_15 cn_131 (Nat.le_of_ble_eq_true rfl) rfl rfl rfl (t_57 _ _) (Nat.le_of_ble_eq_true rfl) ?_
    rcases (show jv = 0 ∨ jv = 1 by omega) with rfl | rfl
    · refine c_lawOf0 (AtY.self m) hX0 (fun m2 hA => ?_)
      refine gwr ?_
      refine g_goto m138_18 ?_
      refine g_iret m138_27 rt_138 ?_
      exact hY0 rfl m2 hA.back
    · refine c_lawOf1 (AtY.self m) hX1 (fun m2 hA => ?_)
      refine gwr ?_
      refine g_goto m138_18 ?_
      refine g_iret m138_27 rt_138 ?_
      exact hY1 rfl m2 hA.back
  · skip
    refine gwr ?_
    refine h_if_eqT (xi := 0) (zi := 0) m138_6 rfl rfl (by decide) ?_
    refine g_aload_n m138_21 rfl ?_
    refine g_ldci m138_22 rfl ?_
    refine h_cv (k := 57) (p := 89) (args := [.int (-1000000001)]) (rest := []) m138_24 cn_108 (Nat.le_of_ble_eq_true rfl) rfl rfl rfl (t_57 _ _) (Nat.le_of_ble_eq_true rfl) ?_
    refine c_errs (e := 1) (by decide) (by decide) (by decide) ?_
    refine gwr ?_
    refine g_iret m138_27 rt_138 ?_
    exact hE1 (by omega)
set_option maxRecDepth 20000 in
set_option maxHeartbeats 40000000 in
theorem x_image {im : Nat} (h01 : ∀ j, j < 8 → m 8 j = 0 ∨ m 8 j = 1) (him : m 0 6 = nI im) (hY : Q (some (.int (nI (im + 1)))) (H (upm (deskM (takeM m 3 0) 40 37) 0 6 (nI (im + 1))) ln N)) : WP xs (d + 2) 100 0 0 [.ref (32)] (H m ln N) Q := by
  refine wp_x mx_100 (L := [some (.ref (32))]) (Nat.le_of_ble_eq_true rfl) rfl ?_
  refine g_aload_n m100_0 rfl ?_
  refine h_gfR (c := 60) (k := 0) (p := 32) m100_1 rfl (t_0 _ _) rfl (Nat.le_of_ble_eq_true rfl) ?_
  refine g_aload_n m100_4 rfl ?_
  refine h_gfR (c := 33) (k := 0) (p := 32) m100_5 rfl (t_0 _ _) rfl (Nat.le_of_ble_eq_true rfl) ?_
  refine h_cv (k := 28) (p := 60) (args := [.ref (33)]) (rest := []) m100_8 cn_31 (Nat.le_of_ble_eq_true rfl) rfl rfl rfl (t_28 _ _) (Nat.le_of_ble_eq_true rfl) ?_
  refine c_take30 h01 ?_
  refine gwr0 ?_
  refine g_aload_n m100_11 rfl ?_
  refine h_gfR (c := 72) (k := 0) (p := 32) m100_12 rfl (t_0 _ _) rfl (Nat.le_of_ble_eq_true rfl) ?_
  refine g_aload_n m100_15 rfl ?_
  refine h_gfR (c := 69) (k := 0) (p := 32) m100_16 rfl (t_0 _ _) rfl (Nat.le_of_ble_eq_true rfl) ?_
  refine h_cv (k := 40) (p := 72) (args := [.ref (69)]) (rest := []) m100_19 cn_11 (Nat.le_of_ble_eq_true rfl) rfl rfl rfl (t_40 _ _) (Nat.le_of_ble_eq_true rfl) ?_
  refine c_dtake40 ?_
  refine gwr0 ?_
  refine g_aload_n m100_22 rfl ?_
  refine g_dup m100_23 rfl ?_
  refine h_gfI (k := 0) (p := 32) m100_24 rfl (t_0 _ _) rfl (him) ?_
  refine g_iconst m100_27 ?_
  refine g_iadd (u := nI (im + 1)) m100_28 (nI_add im 1) ?_
  refine h_pfI (k := 0) (p := 32) m100_29 rfl (t_0 _ _) rfl trivial ?_
  refine g_aload_n m100_32 rfl ?_
  refine h_gfI (k := 0) (p := 32) m100_33 rfl (t_0 _ _) rfl (rfl) ?_
  refine g_iret m100_36 rt_100 ?_
  exact hY
set_option maxRecDepth 20000 in
set_option maxHeartbeats 40000000 in
theorem x_restore {im : Nat} (him : m 0 6 = nI im) (hi9 : im ≤ 600) (h01 : im ≠ 0 → ∀ j, j < 8 → m 35 j = 0 ∨ m 35 j = 1) (hE2 : (im = 0) → Q (some (.int (-1000000000 - nI 2))) (H (erm m 2) ln N)) (hY : im ≠ 0 → Q (some (.int (m 28 9))) (H (deskM (takeM m 0 3) 37 40) ln N)) : WP xs (d + 2) 101 0 0 [.ref (32)] (H m ln N) Q := by
  refine wp_x mx_101 (L := [some (.ref (32))]) (Nat.le_of_ble_eq_true rfl) rfl ?_
  refine g_aload_n m101_0 rfl ?_
  refine h_gfI (k := 0) (p := 32) m101_1 rfl (t_0 _ _) rfl (him) ?_
  refine h_if_ne (xi := ((im : Nat) : Int)) (zi := 0) m101_4 (nI_toInt (by omega)) rfl (fun c1 => ?_) (fun c1 => ?_)
  · skip
    refine g_aload_n m101_7 rfl ?_
    refine g_iconst m101_8 ?_
    refine h_cv (k := 0) (p := 32) (args := [.int (2)]) (rest := []) m101_9 cn_55 (Nat.le_of_ble_eq_true rfl) rfl rfl rfl (t_0 _ _) (Nat.le_of_ble_eq_true rfl) ?_
    refine c_error (e := 2) (by decide) (by decide) ?_
    refine gwr ?_
    refine g_iret m101_12 rt_101 ?_
    exact hE2 (by omega)
  · skip
    refine g_aload_n m101_13 rfl ?_
    refine h_gfR (c := 33) (k := 0) (p := 32) m101_14 rfl (t_0 _ _) rfl (Nat.le_of_ble_eq_true rfl) ?_
    refine g_aload_n m101_17 rfl ?_
    refine h_gfR (c := 60) (k := 0) (p := 32) m101_18 rfl (t_0 _ _) rfl (Nat.le_of_ble_eq_true rfl) ?_
    refine h_cv (k := 1) (p := 33) (args := [.ref (60)]) (rest := []) m101_21 cn_31 (Nat.le_of_ble_eq_true rfl) rfl rfl rfl (t_1 _ _) (Nat.le_of_ble_eq_true rfl) ?_
    refine c_take03 (h01 (by omega)) ?_
    refine gwr0 ?_
    refine g_aload_n m101_24 rfl ?_
    refine h_gfR (c := 69) (k := 0) (p := 32) m101_25 rfl (t_0 _ _) rfl (Nat.le_of_ble_eq_true rfl) ?_
    refine g_aload_n m101_28 rfl ?_
    refine h_gfR (c := 72) (k := 0) (p := 32) m101_29 rfl (t_0 _ _) rfl (Nat.le_of_ble_eq_true rfl) ?_
    refine h_cv (k := 37) (p := 69) (args := [.ref (72)]) (rest := []) m101_32 cn_11 (Nat.le_of_ble_eq_true rfl) rfl rfl rfl (t_37 _ _) (Nat.le_of_ble_eq_true rfl) ?_
    refine c_dtake37 ?_
    refine gwr0 ?_
    refine g_aload_n m101_35 rfl ?_
    refine h_gfR (c := 33) (k := 0) (p := 32) m101_36 rfl (t_0 _ _) rfl (Nat.le_of_ble_eq_true rfl) ?_
    refine h_gfI (k := 1) (p := 33) m101_39 rfl (t_1 _ _) rfl rfl ?_
    refine g_iret m101_42 rt_101 ?_
    exact hY (by omega)
set_option maxRecDepth 20000 in
set_option maxHeartbeats 40000000 in
theorem m_image {im : Nat} (him : m 57 5 = nI im) (hY : Q (some (.int (nI (im + 1)))) (H (upm (upm (upmR m 59 (m 58)) 57 4 1) 57 5 (nI (im + 1))) ln N)) : WP xs (d + 2) 184 0 0 [.ref (89)] (H m ln N) Q := by
  refine wp_x mx_184 (L := [some (.ref (89))]) (Nat.le_of_ble_eq_true rfl) rfl ?_
  refine g_aload_n m184_0 rfl ?_
  refine g_aload_n m184_1 rfl ?_
  refine h_gfR (c := 90) (k := 57) (p := 89) m184_2 rfl (t_57 _ _) rfl (Nat.le_of_ble_eq_true rfl) ?_
  refine g_aload_n m184_5 rfl ?_
  refine h_gfR (c := 91) (k := 57) (p := 89) m184_6 rfl (t_57 _ _) rfl (Nat.le_of_ble_eq_true rfl) ?_
  refine h_cv (k := 57) (p := 89) (args := [.ref (90), .ref (91)]) (rest := []) m184_9 cn_110 (Nat.le_of_ble_eq_true rfl) rfl rfl rfl (t_57 _ _) (Nat.le_of_ble_eq_true rfl) ?_
  refine c_moveRow (k1 := 58) (k2 := 59) rfl rfl (t_58 _ _) (t_59 _ _) (by decide) ?_
  refine gwr0 ?_
  refine g_aload_n m184_12 rfl ?_
  refine g_iconst m184_13 ?_
  refine h_pfI (k := 57) (p := 89) m184_14 rfl (t_57 _ _) rfl (Or.inr rfl) ?_
  refine g_aload_n m184_17 rfl ?_
  refine g_dup m184_18 rfl ?_
  refine h_gfI (k := 57) (p := 89) m184_19 rfl (t_57 _ _) rfl (him) ?_
  refine g_iconst m184_22 ?_
  refine g_iadd (u := nI (im + 1)) m184_23 (nI_add im 1) ?_
  refine h_pfI (k := 57) (p := 89) m184_24 rfl (t_57 _ _) rfl trivial ?_
  refine g_aload_n m184_27 rfl ?_
  refine h_gfI (k := 57) (p := 89) m184_28 rfl (t_57 _ _) rfl (rfl) ?_
  refine g_iret m184_31 rt_184 ?_
  exact hY
set_option maxRecDepth 20000 in
set_option maxHeartbeats 40000000 in
theorem m_restore {im : Nat} (hk : m 57 4 = (if im = 0 then 0 else 1)) (hE2 : (im = 0) → Q (some (.int (-1000000002))) (H (ers m 2) ln N)) (hY : im ≠ 0 → Q (some (.int (m 59 0))) (H (upmR m 58 (m 59)) ln N)) : WP xs (d + 2) 185 0 0 [.ref (89)] (H m ln N) Q := by
  refine wp_x mx_185 (L := [some (.ref (89))]) (Nat.le_of_ble_eq_true rfl) rfl ?_
  by_cases h0 : im = 0
  · have h4 : m 57 4 = 0 := by rw [hk, if_pos h0]
    refine g_aload_n m185_0 rfl ?_
    refine h_gfI (k := 57) (p := 89) m185_1 rfl (t_57 _ _) rfl (h4) ?_
    refine h_if_neT (xi := 0) (zi := 0) m185_4 rfl rfl (by decide) ?_
    refine g_aload_n m185_7 rfl ?_
    refine g_ldci m185_8 rfl ?_
    refine h_cv (k := 57) (p := 89) (args := [.int (-1000000002)]) (rest := []) m185_10 cn_108 (Nat.le_of_ble_eq_true rfl) rfl rfl rfl (t_57 _ _) (Nat.le_of_ble_eq_true rfl) ?_
    refine c_errs (e := 2) (by decide) (by decide) (by decide) ?_
    refine gwr ?_
    refine g_iret m185_13 rt_185 ?_
    exact hE2 h0
  · have h4 : m 57 4 = 1 := by rw [hk, if_neg h0]
    refine g_aload_n m185_0 rfl ?_
    refine h_gfI (k := 57) (p := 89) m185_1 rfl (t_57 _ _) rfl (h4) ?_
    refine h_if_neF (xi := 1) (zi := 0) m185_4 rfl rfl (by decide) ?_
    refine g_aload_n m185_14 rfl ?_
    refine g_aload_n m185_15 rfl ?_
    refine h_gfR (c := 91) (k := 57) (p := 89) m185_16 rfl (t_57 _ _) rfl (Nat.le_of_ble_eq_true rfl) ?_
    refine g_aload_n m185_19 rfl ?_
    refine h_gfR (c := 90) (k := 57) (p := 89) m185_20 rfl (t_57 _ _) rfl (Nat.le_of_ble_eq_true rfl) ?_
    refine h_cv (k := 57) (p := 89) (args := [.ref (91), .ref (90)]) (rest := []) m185_23 cn_110 (Nat.le_of_ble_eq_true rfl) rfl rfl rfl (t_57 _ _) (Nat.le_of_ble_eq_true rfl) ?_
    refine c_moveRow (k1 := 59) (k2 := 58) rfl rfl (t_59 _ _) (t_58 _ _) (by decide) ?_
    refine gwr0 ?_
    refine g_aload_n m185_26 rfl ?_
    refine h_gfR (c := 90) (k := 57) (p := 89) m185_27 rfl (t_57 _ _) rfl (Nat.le_of_ble_eq_true rfl) ?_
    refine g_iconst m185_30 ?_
    refine h_ial (k := 58) (p := 90) (j := 0) m185_31 rfl (t_58 _ _) (rfl) (by omega) (Nat.le_of_ble_eq_true rfl) (rfl) ?_
    refine g_iret m185_32 rt_185 ?_
    exact hY h0
set_option maxRecDepth 20000 in
set_option maxHeartbeats 40000000 in
theorem c_goneOnes {t n : Nat} {m0 X : MW} (ht : t < 4) (hA : AtX m0 t X m) (hn : n ≤ 8) (hd : X 0 10 = nI n) (h01 : ∀ j, j < 8 → X 7 j = 0 ∨ X 7 j = 1) (hQ : Q (some (.int (sumF (X 7) n))) (H m ln N)) : WP xs (d + 1) 48 0 0 [.ref (33 + 9 * t)] (H m ln N) Q := by
  refine wp_x mx_48 (L := [some (.ref (33 + 9 * t)), none, none]) (Nat.le_of_ble_eq_true rfl) rfl ?_
  have key : ∀ (r : Nat) (q : Nat), q + r = n → gw xs (WP xs (d)) 48 Q 4 [some (.ref (33 + 9 * t)), some (.int (sumF (X 7) q)), some (.int (nI (q)))] [] (H m ln N) 0 0 := by
    intro r
    induction r with
    | zero =>
      intro q hq
      obtain rfl : q = n := by omega
      refine g_iload_n m48_4 rfl ?_
      refine g_aload_n m48_5 rfl ?_
      refine h_gfI (k := 1 + 9 * t) (p := 33 + 9 * t) m48_6 (pT 1 _) (tT ht) rfl ((hA.rd ht (j := 0) (i := 10) (by decide)).trans (hd)) ?_
      refine h_ic_geT (xi := ((q : Nat) : Int)) (zi := ((q : Nat) : Int)) m48_9 (nI_toInt (by omega)) (nI_toInt (by omega)) (by omega) ?_
      refine g_iload_n m48_30 rfl ?_
      refine g_iret m48_31 rt_48 ?_
      exact hQ
    | succ r ih =>
      intro q hq
      refine g_iload_n m48_4 rfl ?_
      refine g_aload_n m48_5 rfl ?_
      refine h_gfI (k := 1 + 9 * t) (p := 33 + 9 * t) m48_6 (pT 1 _) (tT ht) rfl ((hA.rd ht (j := 0) (i := 10) (by decide)).trans (hd)) ?_
      refine h_ic_geF (xi := ((q : Nat) : Int)) (zi := ((n : Nat) : Int)) m48_9 (nI_toInt (by omega)) (nI_toInt (by omega)) (by omega) ?_
      refine g_aload_n m48_12 rfl ?_
      refine h_gfR (c := 40 + 9 * t) (k := 1 + 9 * t) (p := 33 + 9 * t) m48_13 (pT 1 _) (tT ht) rfl (le3 (Nat.le_of_ble_eq_true rfl)) ?_
      refine g_iload_n m48_16 rfl ?_
      refine h_bal (k := 8 + 9 * t) (p := 40 + 9 * t) (j := q) m48_17 (pT 8 _) (tA7 ht) (rfl) (by omega) (Nat.le_of_ble_eq_true rfl) (hA.rd ht (j := 7) (i := q) (by decide)) ?_
      refine h_if_eq (xi := _) (zi := 0) m48_18 rfl rfl (fun c1 => ?_) (fun c1 => ?_)
      · skip
        refine g_iinc (L2 := [some (.ref (33 + 9 * t)), some (.int (sumF (X 7) q)), some (.int (nI (q + 1)))]) m48_24 rfl (nI_1 _) rfl rfl ?_
        refine g_goto m48_27 ?_
        have e : sumF (X 7) (q + 1) = sumF (X 7) q := by
          show sumF (X 7) q + X 7 q = _
          rw [(h01 q (by omega)).resolve_right (fun z => by rw [z] at c1; exact absurd c1 (by decide))]
          simp
        have h9 := ih (q + 1) (by omega)
        rw [e] at h9
        exact h9
      · skip
        refine g_iinc (L2 := [some (.ref (33 + 9 * t)), some (.int _), some (.int (nI (q)))]) m48_21 rfl rfl rfl rfl ?_
        refine g_iinc (L2 := [some (.ref (33 + 9 * t)), some (.int _), some (.int (nI (q + 1)))]) m48_24 rfl (nI_1 _) rfl rfl ?_
        refine g_goto m48_27 ?_
        have e : sumF (X 7) (q + 1) = sumF (X 7) q + 1 := by
          show sumF (X 7) q + X 7 q = _
          rw [(h01 q (by omega)).resolve_left (fun z => by rw [z] at c1; exact absurd rfl c1)]
        have h9 := ih (q + 1) (by omega)
        rw [e] at h9
        exact h9
  refine g_iconst m48_0 ?_
  refine g_istore_n (L2 := [some (.ref (33 + 9 * t)), some (.int (0)), none]) m48_1 rfl rfl ?_
  refine g_iconst m48_2 ?_
  refine g_istore_n (L2 := [some (.ref (33 + 9 * t)), some (.int (0)), some (.int (0))]) m48_3 rfl rfl ?_
  exact key n 0 (by omega)
def cntX (m : MW) (n k : Nat) : Int32 := if k = 0 then m 1 10 else if k = 1 then m 1 8 else if k = 2 then m 1 9 else if k = 3 then sumF (m 5) n else if k = 4 then sumF (m 7) n else if k = 5 then sumF (m 8) n else if k = 6 then m 37 2 else if k = 7 then m 37 4 else if k = 8 then m 45 4 else m 37 0
def cntY (m : MW) (n k : Nat) : Int32 := if k = 0 then m 58 2 else if k = 1 then m 58 7 else if k = 2 then m 58 0 else if k = 3 then sumF (vr (m 58) 4) n else if k = 4 then sumF (vr (m 58) 6) n else if k = 5 then sumF (vr (m 58) 7) n else if k = 6 then m 58 3 else if k = 7 then m 58 4 else if k = 8 then m 57 21 else m 58 1
set_option maxRecDepth 20000 in
set_option maxHeartbeats 40000000 in
theorem x_count {v : Int32} {n : Nat} (hd : m 1 10 = nI n) (hn : n ≤ 8) (h01 : ∀ j, j < 8 → m 8 j = 0 ∨ m 8 j = 1) (hE1 : (v.toInt < 0 ∨ 9 < v.toInt) → Q (some (.int (-1000000000 - nI 1))) (H (erm m 1) ln N)) (hY : ∀ k : Nat, v = nI k → k ≤ 9 → Q (some (.int (cntX m n k))) (H m ln N)) : WP xs (d + 3) 104 0 0 [.ref (32), .int (v)] (H m ln N) Q := by
  refine wp_x mx_104 (L := [some (.ref (32)), some (.int (v))]) (Nat.le_of_ble_eq_true rfl) rfl ?_
  refine g_iload_n m104_0 rfl ?_
  by_cases hsw : v.toInt < 0 ∨ 9 < v.toInt
  · refine gs m104_1 ?_
    refine ifT (by show v.toInt < 0 ∨ 9 < v.toInt; exact hsw) ?_
    refine gwpc (pc' := 136) rfl ?_
    refine g_aload_n m104_136 rfl ?_
    refine g_iconst m104_137 ?_
    refine h_cv (k := 0) (p := 32) (args := [.int (1)]) (rest := []) m104_138 cn_55 (Nat.le_of_ble_eq_true rfl) rfl rfl rfl (t_0 _ _) (Nat.le_of_ble_eq_true rfl) ?_
    refine c_error (e := 1) (by decide) (by decide) ?_
    refine gwr ?_
    refine g_iret m104_141 rt_104 ?_
    exact hE1 (by omega)
  · skip
    obtain ⟨kk, ⟨hkk1, hkk2⟩, hkk3⟩ := nat_of (x := v) (lo := 0) (hi := 9) (by omega) (by omega)
    obtain rfl : v = nI kk := hkk3
    rcases (show kk = 0 ∨ kk = 1 ∨ kk = 2 ∨ kk = 3 ∨ kk = 4 ∨ kk = 5 ∨ kk = 6 ∨ kk = 7 ∨ kk = 8 ∨ kk = 9 by omega) with rfl | rfl | rfl | rfl | rfl | rfl | rfl | rfl | rfl | rfl
    · skip
      refine gs m104_1 ?_
      refine gwpc (pc' := 56) rfl ?_
      refine g_aload_n m104_56 rfl ?_
      refine h_gfR (c := 33) (k := 0) (p := 32) m104_57 rfl (t_0 _ _) rfl (Nat.le_of_ble_eq_true rfl) ?_
      refine h_gfI (k := 1) (p := 33) m104_60 rfl (t_1 _ _) rfl rfl ?_
      refine g_iret m104_63 rt_104 ?_
      exact hY 0 rfl (by decide)
    · skip
      refine gs m104_1 ?_
      refine gwpc (pc' := 64) rfl ?_
      refine g_aload_n m104_64 rfl ?_
      refine h_gfR (c := 33) (k := 0) (p := 32) m104_65 rfl (t_0 _ _) rfl (Nat.le_of_ble_eq_true rfl) ?_
      refine h_gfI (k := 1) (p := 33) m104_68 rfl (t_1 _ _) rfl rfl ?_
      refine g_iret m104_71 rt_104 ?_
      exact hY 1 rfl (by decide)
    · skip
      refine gs m104_1 ?_
      refine gwpc (pc' := 72) rfl ?_
      refine g_aload_n m104_72 rfl ?_
      refine h_gfR (c := 33) (k := 0) (p := 32) m104_73 rfl (t_0 _ _) rfl (Nat.le_of_ble_eq_true rfl) ?_
      refine h_gfI (k := 1) (p := 33) m104_76 rfl (t_1 _ _) rfl rfl ?_
      refine g_iret m104_79 rt_104 ?_
      exact hY 2 rfl (by decide)
    · skip
      refine gs m104_1 ?_
      refine gwpc (pc' := 80) rfl ?_
      refine g_aload_n m104_80 rfl ?_
      refine h_gfR (c := 33) (k := 0) (p := 32) m104_81 rfl (t_0 _ _) rfl (Nat.le_of_ble_eq_true rfl) ?_
      refine h_cv (k := 1) (p := 33) (args := []) (rest := []) m104_84 cn_45 (Nat.le_of_ble_eq_true rfl) rfl rfl rfl (t_1 _ _) (Nat.le_of_ble_eq_true rfl) ?_
      refine c_hungerOfAll (t := 0) (m0 := m) (X := vw m 0) (by decide) (AtX.self m 0) hn hd ?_
      refine gwr ?_
      refine g_iret m104_87 rt_104 ?_
      exact hY 3 rfl (by decide)
    · skip
      refine gs m104_1 ?_
      refine gwpc (pc' := 88) rfl ?_
      refine g_aload_n m104_88 rfl ?_
      refine h_gfR (c := 33) (k := 0) (p := 32) m104_89 rfl (t_0 _ _) rfl (Nat.le_of_ble_eq_true rfl) ?_
      refine h_cv (k := 1) (p := 33) (args := []) (rest := []) m104_92 cn_47 (Nat.le_of_ble_eq_true rfl) rfl rfl rfl (t_1 _ _) (Nat.le_of_ble_eq_true rfl) ?_
      refine c_hadByAll (t := 0) (m0 := m) (X := vw m 0) (by decide) (AtX.self m 0) hn hd ?_
      refine gwr ?_
      refine g_iret m104_95 rt_104 ?_
      exact hY 4 rfl (by decide)
    · skip
      refine gs m104_1 ?_
      refine gwpc (pc' := 96) rfl ?_
      refine g_aload_n m104_96 rfl ?_
      refine h_gfR (c := 33) (k := 0) (p := 32) m104_97 rfl (t_0 _ _) rfl (Nat.le_of_ble_eq_true rfl) ?_
      refine h_cv (k := 1) (p := 33) (args := []) (rest := []) m104_100 cn_48 (Nat.le_of_ble_eq_true rfl) rfl rfl rfl (t_1 _ _) (Nat.le_of_ble_eq_true rfl) ?_
      refine c_goneOnes (t := 0) (m0 := m) (X := vw m 0) (by decide) (AtX.self m 0) hn hd h01 ?_
      refine gwr ?_
      refine g_iret m104_103 rt_104 ?_
      exact hY 5 rfl (by decide)
    · skip
      refine gs m104_1 ?_
      refine gwpc (pc' := 104) rfl ?_
      refine g_aload_n m104_104 rfl ?_
      refine h_gfR (c := 69) (k := 0) (p := 32) m104_105 rfl (t_0 _ _) rfl (Nat.le_of_ble_eq_true rfl) ?_
      refine h_gfI (k := 37) (p := 69) m104_108 rfl (t_37 _ _) rfl rfl ?_
      refine g_iret m104_111 rt_104 ?_
      exact hY 6 rfl (by decide)
    · skip
      refine gs m104_1 ?_
      refine gwpc (pc' := 112) rfl ?_
      refine g_aload_n m104_112 rfl ?_
      refine h_gfR (c := 69) (k := 0) (p := 32) m104_113 rfl (t_0 _ _) rfl (Nat.le_of_ble_eq_true rfl) ?_
      refine h_gfI (k := 37) (p := 69) m104_116 rfl (t_37 _ _) rfl rfl ?_
      refine g_iret m104_119 rt_104 ?_
      exact hY 7 rfl (by decide)
    · skip
      refine gs m104_1 ?_
      refine gwpc (pc' := 120) rfl ?_
      refine g_aload_n m104_120 rfl ?_
      refine h_gfR (c := 77) (k := 0) (p := 32) m104_121 rfl (t_0 _ _) rfl (Nat.le_of_ble_eq_true rfl) ?_
      refine h_gfI (k := 45) (p := 77) m104_124 rfl (t_45 _ _) rfl rfl ?_
      refine g_iret m104_127 rt_104 ?_
      exact hY 8 rfl (by decide)
    · skip
      refine gs m104_1 ?_
      refine gwpc (pc' := 128) rfl ?_
      refine g_aload_n m104_128 rfl ?_
      refine h_gfR (c := 69) (k := 0) (p := 32) m104_129 rfl (t_0 _ _) rfl (Nat.le_of_ble_eq_true rfl) ?_
      refine h_gfI (k := 37) (p := 69) m104_132 rfl (t_37 _ _) rfl rfl ?_
      refine g_iret m104_135 rt_104 ?_
      exact hY 9 rfl (by decide)
set_option maxRecDepth 20000 in
set_option maxHeartbeats 40000000 in
theorem m_count {v : Int32} {n : Nat} (hd : m 58 2 = nI n) (hn : n ≤ 8) (hE1 : (v.toInt < 0 ∨ 9 < v.toInt) → Q (some (.int (-1000000001))) (H (ers m 1) ln N)) (hY : ∀ k : Nat, v = nI k → k ≤ 9 → Q (some (.int (cntY m n k))) (H m ln N)) : WP xs (d + 3) 188 0 0 [.ref (89), .int (v)] (H m ln N) Q := by
  refine wp_x mx_188 (L := [some (.ref (89)), some (.int (v))]) (Nat.le_of_ble_eq_true rfl) rfl ?_
  refine g_iload_n m188_0 rfl ?_
  by_cases hsw : v.toInt < 0 ∨ 9 < v.toInt
  · refine gs m188_1 ?_
    refine ifT (by show v.toInt < 0 ∨ 9 < v.toInt; exact hsw) ?_
    refine gwpc (pc' := 122) rfl ?_
    refine g_aload_n m188_122 rfl ?_
    refine g_ldci m188_123 rfl ?_
    refine h_cv (k := 57) (p := 89) (args := [.int (-1000000001)]) (rest := []) m188_125 cn_108 (Nat.le_of_ble_eq_true rfl) rfl rfl rfl (t_57 _ _) (Nat.le_of_ble_eq_true rfl) ?_
    refine c_errs (e := 1) (by decide) (by decide) (by decide) ?_
    refine gwr ?_
    refine g_iret m188_128 rt_188 ?_
    exact hE1 (by omega)
  · skip
    obtain ⟨kk, ⟨hkk1, hkk2⟩, hkk3⟩ := nat_of (x := v) (lo := 0) (hi := 9) (by omega) (by omega)
    obtain rfl : v = nI kk := hkk3
    rcases (show kk = 0 ∨ kk = 1 ∨ kk = 2 ∨ kk = 3 ∨ kk = 4 ∨ kk = 5 ∨ kk = 6 ∨ kk = 7 ∨ kk = 8 ∨ kk = 9 by omega) with rfl | rfl | rfl | rfl | rfl | rfl | rfl | rfl | rfl | rfl
    · skip
      refine gs m188_1 ?_
      refine gwpc (pc' := 56) rfl ?_
      refine g_aload_n m188_56 rfl ?_
      refine h_gfR (c := 90) (k := 57) (p := 89) m188_57 rfl (t_57 _ _) rfl (Nat.le_of_ble_eq_true rfl) ?_
      refine g_iconst m188_60 ?_
      refine h_ial (k := 58) (p := 90) (j := 2) m188_61 rfl (t_58 _ _) (rfl) (by omega) (Nat.le_of_ble_eq_true rfl) (rfl) ?_
      refine g_iret m188_62 rt_188 ?_
      exact hY 0 rfl (by decide)
    · skip
      refine gs m188_1 ?_
      refine gwpc (pc' := 63) rfl ?_
      refine g_aload_n m188_63 rfl ?_
      refine h_gfR (c := 90) (k := 57) (p := 89) m188_64 rfl (t_57 _ _) rfl (Nat.le_of_ble_eq_true rfl) ?_
      refine g_bipush m188_67 ?_
      refine h_ial (k := 58) (p := 90) (j := 7) m188_69 rfl (t_58 _ _) (rfl) (by omega) (Nat.le_of_ble_eq_true rfl) (rfl) ?_
      refine g_iret m188_70 rt_188 ?_
      exact hY 1 rfl (by decide)
    · skip
      refine gs m188_1 ?_
      refine gwpc (pc' := 71) rfl ?_
      refine g_aload_n m188_71 rfl ?_
      refine h_gfR (c := 90) (k := 57) (p := 89) m188_72 rfl (t_57 _ _) rfl (Nat.le_of_ble_eq_true rfl) ?_
      refine g_iconst m188_75 ?_
      refine h_ial (k := 58) (p := 90) (j := 0) m188_76 rfl (t_58 _ _) (rfl) (by omega) (Nat.le_of_ble_eq_true rfl) (rfl) ?_
      refine g_iret m188_77 rt_188 ?_
      exact hY 2 rfl (by decide)
    · skip
      refine gs m188_1 ?_
      refine gwpc (pc' := 78) rfl ?_
      refine g_aload_n m188_78 rfl ?_
      refine g_iconst m188_79 ?_
      refine h_cv (k := 57) (p := 89) (args := [.int (2)]) (rest := []) m188_80 cn_147 (Nat.le_of_ble_eq_true rfl) rfl rfl rfl (t_57 _ _) (Nat.le_of_ble_eq_true rfl) ?_
      refine c_sumOf (w := 2) (AtY.self m) (by decide) hn hd ?_
      refine gwr ?_
      refine g_iret m188_83 rt_188 ?_
      exact hY 3 rfl (by decide)
    · skip
      refine gs m188_1 ?_
      refine gwpc (pc' := 84) rfl ?_
      refine g_aload_n m188_84 rfl ?_
      refine g_iconst m188_85 ?_
      refine h_cv (k := 57) (p := 89) (args := [.int (4)]) (rest := []) m188_86 cn_147 (Nat.le_of_ble_eq_true rfl) rfl rfl rfl (t_57 _ _) (Nat.le_of_ble_eq_true rfl) ?_
      refine c_sumOf (w := 4) (AtY.self m) (by decide) hn hd ?_
      refine gwr ?_
      refine g_iret m188_89 rt_188 ?_
      exact hY 4 rfl (by decide)
    · skip
      refine gs m188_1 ?_
      refine gwpc (pc' := 90) rfl ?_
      refine g_aload_n m188_90 rfl ?_
      refine g_iconst m188_91 ?_
      refine h_cv (k := 57) (p := 89) (args := [.int (5)]) (rest := []) m188_92 cn_147 (Nat.le_of_ble_eq_true rfl) rfl rfl rfl (t_57 _ _) (Nat.le_of_ble_eq_true rfl) ?_
      refine c_sumOf (w := 5) (AtY.self m) (by decide) hn hd ?_
      refine gwr ?_
      refine g_iret m188_95 rt_188 ?_
      exact hY 5 rfl (by decide)
    · skip
      refine gs m188_1 ?_
      refine gwpc (pc' := 96) rfl ?_
      refine g_aload_n m188_96 rfl ?_
      refine h_gfR (c := 90) (k := 57) (p := 89) m188_97 rfl (t_57 _ _) rfl (Nat.le_of_ble_eq_true rfl) ?_
      refine g_iconst m188_100 ?_
      refine h_ial (k := 58) (p := 90) (j := 3) m188_101 rfl (t_58 _ _) (rfl) (by omega) (Nat.le_of_ble_eq_true rfl) (rfl) ?_
      refine g_iret m188_102 rt_188 ?_
      exact hY 6 rfl (by decide)
    · skip
      refine gs m188_1 ?_
      refine gwpc (pc' := 103) rfl ?_
      refine g_aload_n m188_103 rfl ?_
      refine h_gfR (c := 90) (k := 57) (p := 89) m188_104 rfl (t_57 _ _) rfl (Nat.le_of_ble_eq_true rfl) ?_
      refine g_iconst m188_107 ?_
      refine h_ial (k := 58) (p := 90) (j := 4) m188_108 rfl (t_58 _ _) (rfl) (by omega) (Nat.le_of_ble_eq_true rfl) (rfl) ?_
      refine g_iret m188_109 rt_188 ?_
      exact hY 7 rfl (by decide)
    · skip
      refine gs m188_1 ?_
      refine gwpc (pc' := 110) rfl ?_
      refine g_aload_n m188_110 rfl ?_
      refine h_gfI (k := 57) (p := 89) m188_111 rfl (t_57 _ _) rfl rfl ?_
      refine g_iret m188_114 rt_188 ?_
      exact hY 8 rfl (by decide)
    · skip
      refine gs m188_1 ?_
      refine gwpc (pc' := 115) rfl ?_
      refine g_aload_n m188_115 rfl ?_
      refine h_gfR (c := 90) (k := 57) (p := 89) m188_116 rfl (t_57 _ _) rfl (Nat.le_of_ble_eq_true rfl) ?_
      refine g_iconst m188_119 ?_
      refine h_ial (k := 58) (p := 90) (j := 1) m188_120 rfl (t_58 _ _) (rfl) (by omega) (Nat.le_of_ble_eq_true rfl) (rfl) ?_
      refine g_iret m188_121 rt_188 ?_
      exact hY 9 rfl (by decide)
end
