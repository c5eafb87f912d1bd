/-! A TEXT: the reference -/
def cpT (m : MW) (c : Nat) : Nat → MW
  | 0 => m
  | q + 1 => upm (cpT m c q) 58 (c + q) (m 58 (64 + q))
theorem cpT_o (m : MW) (c : Nat) {k : Nat} (h : k ≠ 58) : ∀ q, cpT m c q k = m k
  | 0 => rfl
  | q + 1 => (row_up _ _ h).trans (cpT_o m c h q)
theorem cpT_j (m : MW) {c j : Nat} (h : j < c) : ∀ q, cpT m c q 58 j = m 58 j
  | 0 => rfl
  | q + 1 => (upm_j _ _ (by omega)).trans (cpT_j m h q)
theorem cpT_r (m : MW) (c : Nat) {j : Nat} : ∀ q, j < q → cpT m c q 58 (c + j) = m 58 (64 + j)
  | 0, h => absurd h (Nat.not_lt_zero j)
  | q + 1, h => by
    show upm (cpT m c q) 58 (c + q) (m 58 (64 + q)) 58 (c + j) = m 58 (64 + j)
    by_cases e : j = q
    · subst e
      exact upm_self _ _ _ _
    · rw [upm_j _ _ (by omega)]
      exact cpT_r m c q (by omega)
/-- the text laid into its place, before it is walked -/
def txM (m : MW) (u f : Nat) : MW := upm (cpT (upmR m 61 (m 58)) (134 + 50 * u) 50) 58 (5 + u) (nI f)
theorem txM_t {m : MW} {u f j : Nat} (hu : u ≤ 1) (hj : j < 50) : BT (txM m u f) u j = m 58 (64 + j) := by
  show upm (cpT (upmR m 61 (m 58)) (134 + 50 * u) 50) 58 (5 + u) (nI f) 58 (134 + 50 * u + j) = m 58 (64 + j)
  rw [upm_j _ _ (by omega), cpT_r _ _ 50 hj]
  rfl
theorem txM_o {m : MW} {u f k : Nat} (h : k ≠ 58) (h2 : k ≠ 61) : txM m u f k = m k := (row_up _ _ h).trans ((cpT_o _ _ h 50).trans (if_neg h2))
theorem txM_61 {m : MW} {u f : Nat} : txM m u f 61 = m 58 := (row_up _ _ (by decide)).trans ((cpT_o _ _ (by decide) 50).trans (if_pos rfl))
section
variable {xs : List Int32} {d : Nat} {h : AH} {Q : QT} {m : MW} {ln : Nat → Nat} {N : Nat}
set_option maxRecDepth 20000 in
set_option maxHeartbeats 40000000 in
theorem m_text {v : Int32} {f : Nat} (hf : m 58 3 = nI f) (hf50 : f ≤ 50) (hTap : ∀ j, j < 50 → leI (m 58 (64 + j)) 255) (hE1 : (v.toInt < 0 ∨ 1 < v.toInt) → Q (some (.int (-1000000001))) (H (ers m 1) ln N)) (hN : ∀ u : Nat, v = nI u → u ≤ 1 → ¬ ((TR (BT (txM m u f) u) f u).2.2 = true ∧ (TR (BT (txM m u f) u) f u).2.1 = f) → ∀ m2, (∀ k j, k ≠ 61 → ¬ minor k j → m2 k j = m k j) → Q (some (.int (-10 - nI (TR (BT (txM m u f) u) f u).2.1))) (H (upm m2 58 3 0) ln N)) (hY : ∀ u : Nat, v = nI u → u ≤ 1 → (TR (BT (txM m u f) u) f u).2.2 = true ∧ (TR (BT (txM m u f) u) f u).2.1 = f → ∀ m2, EqM (txM m u f) m2 → Q (some (.int 1)) (H (upm m2 58 3 0) ln N)) : WP xs (d + 811) 140 0 0 [.ref (89), .int (v)] (H m ln N) Q := by
  refine wp_x mx_140 (L := [some (.ref (89)), some (.int (v)), none, none, none]) (Nat.le_of_ble_eq_true rfl) rfl ?_
  refine g_iload_n m140_0 rfl ?_
  refine g_iconst m140_1 ?_
  refine g_iconst m140_2 ?_
  refine g_cs (args := [.int (v), .int (0), .int (1)]) (rest := []) 0 (Or.inl rfl) m140_3 (Nat.le_of_ble_eq_true rfl) rfl rfl (Nat.le_of_ble_eq_true rfl) ?_
  refine c_in (A := 0) (B := 1) rfl rfl (by decide) (fun jv ev a_1 a_1' => ?_) (fun a_1 => ?_)
  · subst ev
    refine gwr ?_
    refine h_if_neF (xi := 1) (zi := 0) m140_6 rfl rfl (by decide) ?_
    refine g_aload_n m140_16 rfl ?_
    refine g_aload_n m140_17 rfl ?_
    refine h_gfR (c := 90) (k := 57) (p := 89) m140_18 rfl (t_57 _ _) rfl (Nat.le_of_ble_eq_true rfl) ?_
    refine g_aload_n m140_21 rfl ?_
    refine h_gfR (c := 93) (k := 57) (p := 89) m140_22 rfl (t_57 _ _) rfl (Nat.le_of_ble_eq_true rfl) ?_
    refine h_cv (k := 57) (p := 89) (args := [.ref (90), .ref (93)]) (rest := []) m140_25 cn_110 (Nat.le_of_ble_eq_true rfl) rfl rfl rfl (t_57 _ _) (Nat.le_of_ble_eq_true rfl) ?_
    refine c_moveRow (k1 := 58) (k2 := 61) rfl rfl (t_58 _ _) (t_61 _ _) (by decide) ?_
    refine gwr0 ?_
    refine g_iconst m140_28 ?_
    refine g_istore_n (L2 := [some (.ref (89)), some (.int (nI (jv))), some (.int (0)), none, none]) m140_29 rfl rfl ?_
    have key : ∀ (r : Nat) (q : Nat), q + r = 50 → gw xs (WP xs (d + 810)) 140 Q 30 [some (.ref (89)), some (.int (nI (jv))), some (.int (nI (q))), none, none] [] (H (cpT (upmR m 61 (m 58)) (134 + 50 * jv) q) ln N) 0 0 := by
      intro r
      induction r with
      | zero =>
        intro q hq
        obtain rfl : q = 50 := by omega
        refine g_iload_n m140_30 rfl ?_
        refine g_bipush m140_31 ?_
        refine h_ic_geT (xi := ((50 : Nat) : Int)) (zi := 50) m140_33 (nI_toInt (by omega)) rfl (by omega) ?_
        refine g_aload_n m140_66 rfl ?_
        refine h_gfR (c := 90) (k := 57) (p := 89) m140_67 rfl (t_57 _ _) rfl (Nat.le_of_ble_eq_true rfl) ?_
        refine g_iconst m140_70 ?_
        refine g_iload_n m140_71 rfl ?_
        refine g_iadd (u := nI (5 + jv)) m140_72 (nI_add 5 jv) ?_
        refine g_aload_n m140_73 rfl ?_
        refine h_gfR (c := 90) (k := 57) (p := 89) m140_74 rfl (t_57 _ _) rfl (Nat.le_of_ble_eq_true rfl) ?_
        refine g_iconst m140_77 ?_
        refine h_ial (k := 58) (p := 90) (j := 3) m140_78 rfl (t_58 _ _) (rfl) (by omega) (Nat.le_of_ble_eq_true rfl) ((cpT_j _ (by omega) 50).trans hf) ?_
        refine h_ias (k := 58) (p := 90) (j := 5 + jv) m140_79 rfl (t_58 _ _) (rfl) (by omega) (Nat.le_of_ble_eq_true rfl) ?_
        refine g_aload_n m140_80 rfl ?_
        refine g_iload_n m140_81 rfl ?_
        refine g_iconst m140_82 ?_
        refine g_iconst m140_83 ?_
        refine g_iconst m140_84 ?_
        refine h_cv (k := 57) (p := 89) (args := [.int (nI (jv)), .int (1), .int (1), .int (1)]) (rest := []) m140_85 cn_130 (Nat.le_of_ble_eq_true rfl) rfl rfl rfl (t_57 _ _) (Nat.le_of_ble_eq_true rfl) ?_
        refine c_walks (u := jv) (n := f) (m := txM m jv f) (by omega) hf50 (upm_self _ _ _ _) (fun j hj => by rw [txM_t (by omega) hj]; exact hTap j hj) (fun v m2 hF w8 w14 wv => ?_)
        by_cases hit : (TR (BT (txM m jv f) jv) f jv).2.2 = true ∧ (TR (BT (txM m jv f) jv) f jv).2.1 = f
        · rw [if_pos hit] at w14
          refine gwr ?_
          refine g_istore_n (L2 := [some (.ref (89)), some (.int (nI (jv))), some (.int (v)), none, none]) m140_88 rfl rfl ?_
          refine g_aload_n m140_89 rfl ?_
          refine h_gfI (k := 57) (p := 89) m140_90 rfl (t_57 _ _) rfl (w14) ?_
          refine h_if_eqF (xi := 1) (zi := 0) m140_93 rfl rfl (by decide) ?_
          refine g_iload_n m140_96 rfl ?_
          refine g_iload_n m140_97 rfl ?_
          refine h_ic_neT (xi := _) (zi := _) m140_98 rfl rfl (rfl) ?_
          refine g_iconst m140_101 ?_
          refine g_goto m140_102 ?_
          refine g_istore_n (L2 := [some (.ref (89)), some (.int (nI (jv))), some (.int (v)), some (.int (1)), none]) m140_106 rfl rfl ?_
          refine g_aload_n m140_107 rfl ?_
          refine h_gfI (k := 57) (p := 89) m140_108 rfl (t_57 _ _) rfl (w8) ?_
          refine g_istore (L2 := [some (.ref (89)), some (.int (nI (jv))), some (.int (v)), some (.int (1)), some (.int (nI ((TR (BT (txM m jv f) jv) f jv).2.1)))]) m140_111 rfl rfl ?_
          refine g_iload_n m140_113 rfl ?_
          refine h_if_neF (xi := 1) (zi := 0) m140_114 rfl rfl (by decide) ?_
          refine g_aload_n m140_129 rfl ?_
          refine h_gfR (c := 90) (k := 57) (p := 89) m140_130 rfl (t_57 _ _) rfl (Nat.le_of_ble_eq_true rfl) ?_
          refine g_iconst m140_133 ?_
          refine g_iconst m140_134 ?_
          refine h_ias (k := 58) (p := 90) (j := 3) m140_135 rfl (t_58 _ _) (rfl) (by omega) (Nat.le_of_ble_eq_true rfl) ?_
          refine g_iload_n m140_136 rfl ?_
          refine h_if_eqF (xi := 1) (zi := 0) m140_137 rfl rfl (by decide) ?_
          refine g_iconst m140_140 ?_
          refine g_goto m140_141 ?_
          refine g_iret m140_149 rt_140 ?_
          exact hY jv rfl (by omega) hit m2 (fun k j q => hF k j (fun z => q (Or.inr z)))
        · rw [if_neg hit] at w14
          refine gwr ?_
          refine g_istore_n (L2 := [some (.ref (89)), some (.int (nI (jv))), some (.int (v)), none, none]) m140_88 rfl rfl ?_
          refine g_aload_n m140_89 rfl ?_
          refine h_gfI (k := 57) (p := 89) m140_90 rfl (t_57 _ _) rfl (w14) ?_
          refine h_if_eqT (xi := 0) (zi := 0) m140_93 rfl rfl (by decide) ?_
          refine g_iconst m140_105 ?_
          refine g_istore_n (L2 := [some (.ref (89)), some (.int (nI (jv))), some (.int (v)), some (.int (0)), none]) m140_106 rfl rfl ?_
          refine g_aload_n m140_107 rfl ?_
          refine h_gfI (k := 57) (p := 89) m140_108 rfl (t_57 _ _) rfl (w8) ?_
          refine g_istore (L2 := [some (.ref (89)), some (.int (nI (jv))), some (.int (v)), some (.int (0)), some (.int (nI ((TR (BT (txM m jv f) jv) f jv).2.1)))]) m140_111 rfl rfl ?_
          refine g_iload_n m140_113 rfl ?_
          refine h_if_neT (xi := 0) (zi := 0) m140_114 rfl rfl (by decide) ?_
          refine g_aload_n m140_117 rfl ?_
          refine g_aload_n m140_118 rfl ?_
          refine h_gfR (c := 93) (k := 57) (p := 89) m140_119 rfl (t_57 _ _) rfl (Nat.le_of_ble_eq_true rfl) ?_
          refine g_aload_n m140_122 rfl ?_
          refine h_gfR (c := 90) (k := 57) (p := 89) m140_123 rfl (t_57 _ _) rfl (Nat.le_of_ble_eq_true rfl) ?_
          refine h_cv (k := 57) (p := 89) (args := [.ref (93), .ref (90)]) (rest := []) m140_126 cn_110 (Nat.le_of_ble_eq_true rfl) rfl rfl rfl (t_57 _ _) (Nat.le_of_ble_eq_true rfl) ?_
          refine c_moveRow (k1 := 61) (k2 := 58) rfl rfl (t_61 _ _) (t_58 _ _) (by decide) ?_
          refine gwr0 ?_
          refine g_aload_n m140_129 rfl ?_
          refine h_gfR (c := 90) (k := 57) (p := 89) m140_130 rfl (t_57 _ _) rfl (Nat.le_of_ble_eq_true rfl) ?_
          refine g_iconst m140_133 ?_
          refine g_iconst m140_134 ?_
          refine h_ias (k := 58) (p := 90) (j := 3) m140_135 rfl (t_58 _ _) (rfl) (by omega) (Nat.le_of_ble_eq_true rfl) ?_
          refine g_iload_n m140_136 rfl ?_
          refine h_if_eqT (xi := 0) (zi := 0) m140_137 rfl rfl (by decide) ?_
          refine g_bipush m140_144 ?_
          refine g_iload m140_146 rfl ?_
          refine g_isub m140_148 rfl ?_
          refine g_iret m140_149 rt_140 ?_
          refine hN jv rfl (by omega) hit (upmR m2 58 (m2 61)) (fun k j h1 h2 => ?_)
          unfold upmR
          by_cases e : k = 58
          · rw [if_pos e, e, hF 61 j (fun z => absurd z.1 (by decide)), txM_61]
          · rw [if_neg e, hF k j (fun z => h2 (Or.inr z)), txM_o e h1]
      | succ r ih =>
        intro q hq
        refine g_iload_n m140_30 rfl ?_
        refine g_bipush m140_31 ?_
        refine h_ic_geF (xi := ((q : Nat) : Int)) (zi := 50) m140_33 (nI_toInt (by omega)) rfl (by omega) ?_
        refine g_aload_n m140_36 rfl ?_
        refine h_gfR (c := 90) (k := 57) (p := 89) m140_37 rfl (t_57 _ _) rfl (Nat.le_of_ble_eq_true rfl) ?_
        refine g_sipush m140_40 ?_
        refine g_bipush m140_43 ?_
        refine g_iload_n m140_45 rfl ?_
        refine g_imul (u := nI (50 * jv)) m140_46 (pk_mul 50 jv) ?_
        refine g_iadd (u := nI (134 + (50 * jv))) m140_47 (nI_add 134 (50 * jv)) ?_
        refine g_iload_n m140_48 rfl ?_
        refine g_iadd (u := nI ((134 + (50 * jv)) + q)) m140_49 (nI_add (134 + (50 * jv)) q) ?_
        refine g_aload_n m140_50 rfl ?_
        refine h_gfR (c := 90) (k := 57) (p := 89) m140_51 rfl (t_57 _ _) rfl (Nat.le_of_ble_eq_true rfl) ?_
        refine g_bipush m140_54 ?_
        refine g_iload_n m140_56 rfl ?_
        refine g_iadd (u := nI (64 + q)) m140_57 (nI_add 64 q) ?_
        refine h_ial (k := 58) (p := 90) (j := 64 + q) m140_58 rfl (t_58 _ _) (rfl) (by omega) (Nat.le_of_ble_eq_true rfl) (cpT_j _ (by omega) q) ?_
        refine h_ias (k := 58) (p := 90) (j := (134 + (50 * jv)) + q) m140_59 rfl (t_58 _ _) (rfl) (by omega) (Nat.le_of_ble_eq_true rfl) ?_
        refine g_iinc (L2 := [some (.ref (89)), some (.int (nI (jv))), some (.int (nI (q + 1))), none, none]) m140_60 rfl (nI_1 _) rfl rfl ?_
        refine g_goto m140_63 ?_
        exact ih (q + 1) (by omega)
    exact key 50 0 (by omega)
  · skip
    refine gwr ?_
    refine h_if_neT (xi := 0) (zi := 0) m140_6 rfl rfl (by decide) ?_
    refine g_aload_n m140_9 rfl ?_
    refine g_ldci m140_10 rfl ?_
    refine h_cv (k := 57) (p := 89) (args := [.int (-1000000001)]) (rest := []) m140_12 cn_108 (Nat.le_of_ble_eq_true rfl) rfl rfl rfl (t_57 _ _) (Nat.le_of_ble_eq_true rfl) ?_
    refine c_errs (e := 1) (by decide) (by decide) (by decide) ?_
    refine gwr ?_
    refine g_iret m140_15 rt_140 ?_
    exact hE1 (by omega)
end
