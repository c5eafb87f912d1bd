/-! PUBLIC METHODS: of a diner, faces -/
theorem AtX.back {m m2 : MW} {t : Nat} (h : AtX m t (vw m t) m2) : EqM m m2 := by
  intro k j q
  rw [h k j q]
  unfold putT vw
  by_cases h1 : 1 + 9 * t ≤ k ∧ k < 10 + 9 * t
  · rw [if_pos h1, show k - (1 + 9 * t) + 1 + 9 * t = k by omega]
  · rw [if_neg h1]
theorem AtY.back {m m2 : MW} (h : AtY m (vr (m 58)) m2) : EqM m m2 := by
  intro k j q
  rw [h k j q]
  unfold upmR
  by_cases h1 : k = 58
  · rw [if_pos h1, rowU_vr, h1]
  · rw [if_neg h1]
theorem c_face0 {i : Nat} {Q : QT} {m : MW} {xs : List Int32} {d N : Nat} {ln : Nat → Nat} (hL : LawsOk m ln N) (hix : LawIx N (m 1 11)) (hi : i < 8) (hk : leI (m 3 i) 6) (hQ : ∀ m2, EqM m m2 → Q (some (.int (faceF (lkF m ln (m 1 11)) (vw m 0) i))) (H m2 ln N)) : WP xs (d + 3) 34 0 0 [.ref 33, .int (nI i)] (H m ln N) Q :=
  c_face (t := 0) (m0 := m) (X := vw m 0) (by decide) hL (AtX.self m 0) rfl hix hi hk (fun m2 h => hQ m2 (AtX.back h))
section
variable {xs : List Int32} {d : Nat} {h : AH} {Q : QT} {m : MW} {ln : Nat → Nat} {N : Nat}
set_option maxRecDepth 20000 in
set_option maxHeartbeats 40000000 in
theorem x_ofDiner {a b : Int32} {n : Nat} (hd : m 1 10 = nI n) (hn : n ≤ 8) (h01 : ∀ j, j < 8 → m 8 j = 0 ∨ m 8 j = 1) (hW : WF (vw m 0)) (hL : LawsOk m ln N) (hix : LawIx N (m 1 11)) (hE1 : (a.toInt < 0 ∨ (n : Int) ≤ a.toInt ∨ b.toInt < 0 ∨ 6 < b.toInt) → Q (some (.int (-1000000000 - nI 1))) (H (erm m 1) ln N)) (hY : ∀ i k : Nat, a = nI i → i < n → b = nI k → k ≤ 5 → Q (some (.int (m (3 + k) i))) (H m ln N)) (hF : ∀ i : Nat, a = nI i → i < n → b = 6 → ∀ m2, EqM m m2 → Q (some (.int (faceF (lkF m ln (m 1 11)) (vw m 0) i))) (H m2 ln N)) : WP xs (d + 4) 61 0 0 [.ref (32), .int (a), .int (b)] (H m ln N) Q := by
  refine wp_x mx_61 (L := [some (.ref (32)), some (.int (a)), some (.int (b))]) (Nat.le_of_ble_eq_true rfl) rfl ?_
  refine g_aload_n m61_0 rfl ?_
  refine g_iload_n m61_1 rfl ?_
  refine h_cv (k := 0) (p := 32) (args := [.int (a)]) (rest := []) m61_2 cn_60 (Nat.le_of_ble_eq_true rfl) rfl rfl rfl (t_0 _ _) (Nat.le_of_ble_eq_true rfl) ?_
  refine c_isDiner hd hn (fun ja ea a_1 => ?_) (fun a_1 => ?_)
  · subst ea
    refine gwr ?_
    refine h_if_neF (xi := 1) (zi := 0) m61_5 rfl rfl (by decide) ?_
    refine g_iload_n m61_14 rfl ?_
    by_cases hsw : b.toInt < 0 ∨ 6 < b.toInt
    · refine gs m61_15 ?_
      refine ifT (by show b.toInt < 0 ∨ 6 < b.toInt; exact hsw) ?_
      refine gwpc (pc' := 133) rfl ?_
      refine g_aload_n m61_133 rfl ?_
      refine g_iconst m61_134 ?_
      refine h_cv (k := 0) (p := 32) (args := [.int (1)]) (rest := []) m61_135 cn_55 (Nat.le_of_ble_eq_true rfl) rfl rfl rfl (t_0 _ _) (Nat.le_of_ble_eq_true rfl) ?_
      refine c_error (e := 1) (by decide) (by decide) ?_
      refine gwr ?_
      refine g_iret m61_138 rt_61 ?_
      exact hE1 (by omega)
    · skip
      obtain ⟨kk, ⟨hkk1, hkk2⟩, hkk3⟩ := nat_of (x := b) (lo := 0) (hi := 6) (by omega) (by omega)
      obtain rfl : b = nI kk := hkk3
      rcases (show kk = 0 ∨ kk = 1 ∨ kk = 2 ∨ kk = 3 ∨ kk = 4 ∨ kk = 5 ∨ kk = 6 by omega) with rfl | rfl | rfl | rfl | rfl | rfl | rfl
      · skip
        refine gs m61_15 ?_
        refine gwpc (pc' := 56) rfl ?_
        refine g_aload_n m61_56 rfl ?_
        refine h_gfR (c := 33) (k := 0) (p := 32) m61_57 rfl (t_0 _ _) rfl (Nat.le_of_ble_eq_true rfl) ?_
        refine h_gfR (c := 35) (k := 1) (p := 33) m61_60 rfl (t_1 _ _) rfl (Nat.le_of_ble_eq_true rfl) ?_
        refine g_iload_n m61_63 rfl ?_
        refine h_ial (k := 3) (p := 35) (j := ja) m61_64 rfl (t_3 _ _) (rfl) (by omega) (Nat.le_of_ble_eq_true rfl) (rfl) ?_
        refine g_iret m61_65 rt_61 ?_
        exact hY ja 0 rfl (by omega) rfl (by decide)
      · skip
        refine gs m61_15 ?_
        refine gwpc (pc' := 66) rfl ?_
        refine g_aload_n m61_66 rfl ?_
        refine h_gfR (c := 33) (k := 0) (p := 32) m61_67 rfl (t_0 _ _) rfl (Nat.le_of_ble_eq_true rfl) ?_
        refine h_gfR (c := 36) (k := 1) (p := 33) m61_70 rfl (t_1 _ _) rfl (Nat.le_of_ble_eq_true rfl) ?_
        refine g_iload_n m61_73 rfl ?_
        refine h_ial (k := 4) (p := 36) (j := ja) m61_74 rfl (t_4 _ _) (rfl) (by omega) (Nat.le_of_ble_eq_true rfl) (rfl) ?_
        refine g_iret m61_75 rt_61 ?_
        exact hY ja 1 rfl (by omega) rfl (by decide)
      · skip
        refine gs m61_15 ?_
        refine gwpc (pc' := 76) rfl ?_
        refine g_aload_n m61_76 rfl ?_
        refine h_gfR (c := 33) (k := 0) (p := 32) m61_77 rfl (t_0 _ _) rfl (Nat.le_of_ble_eq_true rfl) ?_
        refine h_gfR (c := 37) (k := 1) (p := 33) m61_80 rfl (t_1 _ _) rfl (Nat.le_of_ble_eq_true rfl) ?_
        refine g_iload_n m61_83 rfl ?_
        refine h_ial (k := 5) (p := 37) (j := ja) m61_84 rfl (t_5 _ _) (rfl) (by omega) (Nat.le_of_ble_eq_true rfl) (rfl) ?_
        refine g_iret m61_85 rt_61 ?_
        exact hY ja 2 rfl (by omega) rfl (by decide)
      · skip
        refine gs m61_15 ?_
        refine gwpc (pc' := 86) rfl ?_
        refine g_aload_n m61_86 rfl ?_
        refine h_gfR (c := 33) (k := 0) (p := 32) m61_87 rfl (t_0 _ _) rfl (Nat.le_of_ble_eq_true rfl) ?_
        refine h_gfR (c := 38) (k := 1) (p := 33) m61_90 rfl (t_1 _ _) rfl (Nat.le_of_ble_eq_true rfl) ?_
        refine g_iload_n m61_93 rfl ?_
        refine h_ial (k := 6) (p := 38) (j := ja) m61_94 rfl (t_6 _ _) (rfl) (by omega) (Nat.le_of_ble_eq_true rfl) (rfl) ?_
        refine g_iret m61_95 rt_61 ?_
        exact hY ja 3 rfl (by omega) rfl (by decide)
      · skip
        refine gs m61_15 ?_
        refine gwpc (pc' := 96) rfl ?_
        refine g_aload_n m61_96 rfl ?_
        refine h_gfR (c := 33) (k := 0) (p := 32) m61_97 rfl (t_0 _ _) rfl (Nat.le_of_ble_eq_true rfl) ?_
        refine h_gfR (c := 39) (k := 1) (p := 33) m61_100 rfl (t_1 _ _) rfl (Nat.le_of_ble_eq_true rfl) ?_
        refine g_iload_n m61_103 rfl ?_
        refine h_ial (k := 7) (p := 39) (j := ja) m61_104 rfl (t_7 _ _) (rfl) (by omega) (Nat.le_of_ble_eq_true rfl) (rfl) ?_
        refine g_iret m61_105 rt_61 ?_
        exact hY ja 4 rfl (by omega) rfl (by decide)
      · skip
        refine gs m61_15 ?_
        refine gwpc (pc' := 106) rfl ?_
        refine g_aload_n m61_106 rfl ?_
        refine h_gfR (c := 33) (k := 0) (p := 32) m61_107 rfl (t_0 _ _) rfl (Nat.le_of_ble_eq_true rfl) ?_
        refine h_gfR (c := 40) (k := 1) (p := 33) m61_110 rfl (t_1 _ _) rfl (Nat.le_of_ble_eq_true rfl) ?_
        refine g_iload_n m61_113 rfl ?_
        refine h_bal (k := 8) (p := 40) (j := ja) m61_114 rfl (t_8 _ _) (rfl) (by omega) (Nat.le_of_ble_eq_true rfl) (rfl) ?_
        refine h_if_eq (xi := _) (zi := 0) m61_115 rfl rfl (fun c1 => ?_) (fun c1 => ?_)
        · skip
          refine g_iconst m61_122 ?_
          refine g_iret m61_123 rt_61 ?_
          have e : m 8 ja = 0 := (h01 ja (by omega)).resolve_right (fun q => by rw [q] at c1; exact absurd c1 (by decide))
          have h9 := hY ja 5 rfl (by omega) rfl (by decide)
          rw [show m (3 + 5) ja = 0 from e] at h9
          exact h9
        · skip
          refine g_iconst m61_118 ?_
          refine g_goto m61_119 ?_
          refine g_iret m61_123 rt_61 ?_
          have e : m 8 ja = 1 := (h01 ja (by omega)).resolve_left (fun q => by rw [q] at c1; exact absurd c1 (by decide))
          have h9 := hY ja 5 rfl (by omega) rfl (by decide)
          rw [show m (3 + 5) ja = 1 from e] at h9
          exact h9
      · skip
        refine gs m61_15 ?_
        refine gwpc (pc' := 124) rfl ?_
        refine g_aload_n m61_124 rfl ?_
        refine h_gfR (c := 33) (k := 0) (p := 32) m61_125 rfl (t_0 _ _) rfl (Nat.le_of_ble_eq_true rfl) ?_
        refine g_iload_n m61_128 rfl ?_
        refine h_cv (k := 1) (p := 33) (args := [.int (nI (ja))]) (rest := []) m61_129 cn_34 (Nat.le_of_ble_eq_true rfl) rfl rfl rfl (t_1 _ _) (Nat.le_of_ble_eq_true rfl) ?_
        refine c_face0 hL hix (by omega) ((hW.2.2 ja (by omega)).2.1) (fun m2 hE => ?_)
        refine gwr ?_
        refine g_iret m61_132 rt_61 ?_
        exact hF ja rfl (by omega) rfl m2 hE
  · skip
    refine gwr ?_
    refine h_if_neT (xi := 0) (zi := 0) m61_5 rfl rfl (by decide) ?_
    refine g_aload_n m61_8 rfl ?_
    refine g_iconst m61_9 ?_
    refine h_cv (k := 0) (p := 32) (args := [.int (1)]) (rest := []) m61_10 cn_55 (Nat.le_of_ble_eq_true rfl) rfl rfl rfl (t_0 _ _) (Nat.le_of_ble_eq_true rfl) ?_
    refine c_error (e := 1) (by decide) (by decide) ?_
    refine gwr ?_
    refine g_iret m61_13 rt_61 ?_
    exact hE1 (by omega)
set_option maxRecDepth 20000 in
set_option maxHeartbeats 40000000 in
theorem m_ofDiner {a b : Int32} {n : Nat} (hd : m 58 2 = nI n) (hn : n ≤ 8) (hX0 : TxOk (m 58) 0) (hWY : WF (vr (m 58))) (hE1 : (a.toInt < 0 ∨ (n : Int) ≤ a.toInt ∨ b.toInt < 0 ∨ 6 < b.toInt) → Q (some (.int (-1000000001))) (H (ers m 1) ln N)) (hY : ∀ i k : Nat, a = nI i → i < n → b = nI k → k ≤ 5 → Q (some (.int (m 58 (16 + 6 * i + k)))) (H m ln N)) (hF : ∀ i : Nat, a = nI i → i < n → b = 6 → ∀ m2, EqM m m2 → Q (some (.int (faceF (rkF (m 58)) (vr (m 58)) i))) (H m2 ln N)) : WP xs (d + 813) 133 0 0 [.ref (89), .int (a), .int (b)] (H m ln N) Q := by
  refine wp_x mx_133 (L := [some (.ref (89)), some (.int (a)), some (.int (b))]) (Nat.le_of_ble_eq_true rfl) rfl ?_
  refine g_aload_n m133_0 rfl ?_
  refine g_iload_n m133_1 rfl ?_
  refine h_cv (k := 57) (p := 89) (args := [.int (a)]) (rest := []) m133_2 cn_113 (Nat.le_of_ble_eq_true rfl) rfl rfl rfl (t_57 _ _) (Nat.le_of_ble_eq_true rfl) ?_
  refine c_isDinerM hd hn (fun ja ea a_2 => ?_) (fun a_2 => ?_)
  · subst ea
    refine gwr ?_
    refine h_if_eqF (xi := 1) (zi := 0) m133_5 rfl rfl (by decide) ?_
    refine g_iload_n m133_8 rfl ?_
    refine g_iconst m133_9 ?_
    refine g_bipush m133_10 ?_
    refine g_cs (args := [.int (b), .int (0), .int (6)]) (rest := []) 0 (Or.inl rfl) m133_12 (Nat.le_of_ble_eq_true rfl) rfl rfl (Nat.le_of_ble_eq_true rfl) ?_
    refine c_in (A := 0) (B := 6) rfl rfl (by decide) (fun jb eb a_3 a_3' => ?_) (fun a_3 => ?_)
    · subst eb
      refine gwr ?_
      refine h_if_neF (xi := 1) (zi := 0) m133_15 rfl rfl (by decide) ?_
      refine g_iload_n m133_25 rfl ?_
      refine g_bipush m133_26 ?_
      refine h_ic_ge (xi := ((jb : Nat) : Int)) (zi := 6) m133_28 (nI_toInt (by omega)) rfl (fun c1 => ?_) (fun c1 => ?_)
      · skip
        refine g_aload_n m133_40 rfl ?_
        refine g_iload_n m133_41 rfl ?_
        refine h_cv (k := 57) (p := 89) (args := [.int (nI (ja))]) (rest := []) m133_42 cn_132 (Nat.le_of_ble_eq_true rfl) rfl rfl rfl (t_57 _ _) (Nat.le_of_ble_eq_true rfl) ?_
        refine c_faceM (AtY.self m) hX0 (by omega) ((hWY.2.2 ja (by omega)).2.1) (fun m2 hA => ?_)
        refine gwr ?_
        refine g_iret m133_45 rt_133 ?_
        obtain rfl : jb = 6 := by omega
        exact hF ja rfl (by omega) rfl m2 hA.back
      · skip
        refine g_aload_n m133_31 rfl ?_
        refine g_iload_n m133_32 rfl ?_
        refine g_iload_n m133_33 rfl ?_
        refine h_cv (k := 57) (p := 89) (args := [.int (nI (ja)), .int (nI (jb))]) (rest := []) m133_34 cn_111 (Nat.le_of_ble_eq_true rfl) rfl rfl rfl (t_57 _ _) (Nat.le_of_ble_eq_true rfl) ?_
        refine c_its (w := jb) (by omega) (by omega) ?_
        refine gwr ?_
        refine g_goto m133_37 ?_
        refine g_iret m133_45 rt_133 ?_
        exact hY ja jb rfl (by omega) rfl (by omega)
    · skip
      refine gwr ?_
      refine h_if_neT (xi := 0) (zi := 0) m133_15 rfl rfl (by decide) ?_
      refine g_aload_n m133_18 rfl ?_
      refine g_ldci m133_19 rfl ?_
      refine h_cv (k := 57) (p := 89) (args := [.int (-1000000001)]) (rest := []) m133_21 cn_108 (Nat.le_of_ble_eq_true rfl) rfl rfl rfl (t_57 _ _) (Nat.le_of_ble_eq_true rfl) ?_
      refine c_errs (e := 1) (by decide) (by decide) (by decide) ?_
      refine gwr ?_
      refine g_iret m133_24 rt_133 ?_
      exact hE1 (by omega)
  · skip
    refine gwr ?_
    refine h_if_eqT (xi := 0) (zi := 0) m133_5 rfl rfl (by decide) ?_
    refine g_aload_n m133_18 rfl ?_
    refine g_ldci m133_19 rfl ?_
    refine h_cv (k := 57) (p := 89) (args := [.int (-1000000001)]) (rest := []) m133_21 cn_108 (Nat.le_of_ble_eq_true rfl) rfl rfl rfl (t_57 _ _) (Nat.le_of_ble_eq_true rfl) ?_
    refine c_errs (e := 1) (by decide) (by decide) (by decide) ?_
    refine gwr ?_
    refine g_iret m133_24 rt_133 ?_
    exact hE1 (by omega)
set_option maxRecDepth 20000 in
set_option maxHeartbeats 40000000 in
theorem x_change {a b c : Int32} {n : Nat} (hd : m 1 10 = nI n) (hn : n ≤ 8) (h01 : ∀ j, j < 8 → m 8 j = 0 ∨ m 8 j = 1) (hE1 : (a.toInt < 0 ∨ (n : Int) ≤ a.toInt ∨ b.toInt < 0 ∨ 3 < b.toInt ∨ c.toInt < 0 ∨ (b.toInt = 0 ∧ 99 < c.toInt) ∨ (b.toInt = 1 ∧ 9 < c.toInt) ∨ (b.toInt = 2 ∧ 99 < c.toInt) ∨ (b.toInt = 3 ∧ 1 < c.toInt)) → Q (some (.int (-1000000000 - nI 1))) (H (erm m 1) ln N)) (hY : ∀ i k z : Nat, a = nI i → i < n → b = nI k → k ≤ 3 → c = nI z → z ≤ 99 → (k = 1 → z ≤ 9) → (k = 3 → z ≤ 1) → Q (some (.int (m (5 + k) i))) (H (upm m (5 + k) i (nI z)) ln N)) : WP xs (d + 2) 63 0 0 [.ref (32), .int (a), .int (b), .int (c)] (H m ln N) Q := by
  refine wp_x mx_63 (L := [some (.ref (32)), some (.int (a)), some (.int (b)), some (.int (c)), none, none]) (Nat.le_of_ble_eq_true rfl) rfl ?_
  by_cases hb : b.toInt < 0 ∨ 3 < b.toInt
  · skip
    refine g_aload_n m63_0 rfl ?_
    refine g_iload_n m63_1 rfl ?_
    refine h_cv (k := 0) (p := 32) (args := [.int (a)]) (rest := []) m63_2 cn_60 (Nat.le_of_ble_eq_true rfl) rfl rfl rfl (t_0 _ _) (Nat.le_of_ble_eq_true rfl) ?_
    refine c_isDiner hd hn (fun ja ea a_4 => ?_) (fun a_4 => ?_)
    · subst ea
      refine gwr ?_
      refine h_if_eqF (xi := 1) (zi := 0) m63_5 rfl rfl (by decide) ?_
      refine g_iload_n m63_8 rfl ?_
      refine g_iconst m63_9 ?_
      refine g_cs (args := [.int (b), .int (3)]) (rest := []) 0 (Or.inl rfl) m63_10 (Nat.le_of_ble_eq_true rfl) rfl rfl (Nat.le_of_ble_eq_true rfl) ?_
      refine c_withinI (M := 3) (vi := b.toInt) rfl rfl (fun q => absurd q (by omega)) (fun _ => ?_)
      refine gwr ?_
      refine h_if_eqT (xi := 0) (zi := 0) m63_13 rfl rfl (by decide) ?_
      refine g_aload_n m63_27 rfl ?_
      refine g_iconst m63_28 ?_
      refine h_cv (k := 0) (p := 32) (args := [.int (1)]) (rest := []) m63_29 cn_55 (Nat.le_of_ble_eq_true rfl) rfl rfl rfl (t_0 _ _) (Nat.le_of_ble_eq_true rfl) ?_
      refine c_error (e := 1) (by decide) (by decide) ?_
      refine gwr ?_
      refine g_iret m63_32 rt_63 ?_
      exact hE1 (by omega)
    · skip
      refine gwr ?_
      refine h_if_eqT (xi := 0) (zi := 0) m63_5 rfl rfl (by decide) ?_
      refine g_aload_n m63_27 rfl ?_
      refine g_iconst m63_28 ?_
      refine h_cv (k := 0) (p := 32) (args := [.int (1)]) (rest := []) m63_29 cn_55 (Nat.le_of_ble_eq_true rfl) rfl rfl rfl (t_0 _ _) (Nat.le_of_ble_eq_true rfl) ?_
      refine c_error (e := 1) (by decide) (by decide) ?_
      refine gwr ?_
      refine g_iret m63_32 rt_63 ?_
      exact hE1 (by omega)
  · skip
    obtain ⟨kb, ⟨hkb1, hkb2⟩, hkb3⟩ := nat_of (x := b) (lo := 0) (hi := 3) (by omega) (by omega)
    obtain rfl : b = nI kb := hkb3
    rcases (show kb = 0 ∨ kb = 1 ∨ kb = 2 ∨ kb = 3 by omega) with rfl | rfl | rfl | rfl
    · have ebk : (nI 0).toInt = 0 := rfl
      refine gwl (L' := [some (.ref (32)), some (.int (a)), some (.int (0)), some (.int (c)), none, none]) rfl ?_
      refine g_aload_n m63_0 rfl ?_
      refine g_iload_n m63_1 rfl ?_
      refine h_cv (k := 0) (p := 32) (args := [.int (a)]) (rest := []) m63_2 cn_60 (Nat.le_of_ble_eq_true rfl) rfl rfl rfl (t_0 _ _) (Nat.le_of_ble_eq_true rfl) ?_
      refine c_isDiner hd hn (fun ja ea a_5 => ?_) (fun a_5 => ?_)
      · subst ea
        refine gwr ?_
        refine h_if_eqF (xi := 1) (zi := 0) m63_5 rfl rfl (by decide) ?_
        refine g_iload_n m63_8 rfl ?_
        refine g_iconst m63_9 ?_
        refine g_cs (args := [.int (0), .int (3)]) (rest := []) 0 (Or.inl rfl) m63_10 (Nat.le_of_ble_eq_true rfl) rfl rfl (Nat.le_of_ble_eq_true rfl) ?_
        refine c_withinI (M := 3) (vi := 0) rfl rfl (fun _ => ?_) (fun q => absurd q (by decide))
        refine gwr ?_
        refine h_if_eqF (xi := 1) (zi := 0) m63_13 rfl rfl (by decide) ?_
        refine g_iload_n m63_16 rfl ?_
        refine g_iload_n m63_17 rfl ?_
        refine g_cs (args := [.int (0)]) (rest := [.int (c)]) 0 (Or.inl rfl) m63_18 (Nat.le_of_ble_eq_true rfl) rfl rfl (Nat.le_of_ble_eq_true rfl) ?_
        refine c_mostToChangeTo (j := 0) (by decide) ?_
        refine gwr ?_
        refine gwst (st' := [.int 99, .int c]) rfl ?_
        refine g_cs (args := [.int (c), .int (99)]) (rest := []) 0 (Or.inl rfl) m63_21 (Nat.le_of_ble_eq_true rfl) rfl rfl (Nat.le_of_ble_eq_true rfl) ?_
        refine c_within (M := 99) rfl (fun jc ec a_7 => ?_) (fun a_7 => ?_)
        · subst ec
          refine gwr ?_
          refine h_if_neF (xi := 1) (zi := 0) m63_24 rfl rfl (by decide) ?_
          refine g_iload_n m63_33 rfl ?_
          refine g_iconst m63_34 ?_
          refine h_ic_neF (xi := 0) (zi := 3) m63_35 rfl rfl (by decide) ?_
          refine g_iload_n m63_79 rfl ?_
          refine h_if_neT (xi := 0) (zi := 0) m63_80 rfl rfl (by decide) ?_
          refine g_aload_n m63_83 rfl ?_
          refine h_gfR (c := 33) (k := 0) (p := 32) m63_84 rfl (t_0 _ _) rfl (Nat.le_of_ble_eq_true rfl) ?_
          refine h_gfR (c := 37) (k := 1) (p := 33) m63_87 rfl (t_1 _ _) rfl (Nat.le_of_ble_eq_true rfl) ?_
          refine g_goto m63_90 ?_
          refine g_astore (L2 := [some (.ref (32)), some (.int (nI (ja))), some (.int (0)), some (.int (nI (jc))), some (.ref (37)), none]) m63_115 rfl rfl ?_
          refine g_aload m63_117 rfl ?_
          refine g_iload_n m63_119 rfl ?_
          refine h_ial (k := 5) (p := 37) (j := ja) m63_120 rfl (t_5 _ _) (rfl) (by omega) (Nat.le_of_ble_eq_true rfl) (rfl) ?_
          refine g_istore (L2 := [some (.ref (32)), some (.int (nI (ja))), some (.int (0)), some (.int (nI (jc))), some (.ref (37)), some (.int (m (5) (ja)))]) m63_121 rfl rfl ?_
          refine g_aload m63_123 rfl ?_
          refine g_iload_n m63_125 rfl ?_
          refine g_iload_n m63_126 rfl ?_
          refine h_ias (k := 5) (p := 37) (j := ja) m63_127 rfl (t_5 _ _) (rfl) (by omega) (Nat.le_of_ble_eq_true rfl) ?_
          refine g_iload m63_128 rfl ?_
          refine g_iret m63_130 rt_63 ?_
          exact hY ja 0 jc rfl (by omega) rfl (by decide) rfl (by omega) (by omega) (by omega)
        · skip
          refine gwr ?_
          refine h_if_neT (xi := 0) (zi := 0) m63_24 rfl rfl (by decide) ?_
          refine g_aload_n m63_27 rfl ?_
          refine g_iconst m63_28 ?_
          refine h_cv (k := 0) (p := 32) (args := [.int (1)]) (rest := []) m63_29 cn_55 (Nat.le_of_ble_eq_true rfl) rfl rfl rfl (t_0 _ _) (Nat.le_of_ble_eq_true rfl) ?_
          refine c_error (e := 1) (by decide) (by decide) ?_
          refine gwr ?_
          refine g_iret m63_32 rt_63 ?_
          exact hE1 (by omega)
      · skip
        refine gwr ?_
        refine h_if_eqT (xi := 0) (zi := 0) m63_5 rfl rfl (by decide) ?_
        refine g_aload_n m63_27 rfl ?_
        refine g_iconst m63_28 ?_
        refine h_cv (k := 0) (p := 32) (args := [.int (1)]) (rest := []) m63_29 cn_55 (Nat.le_of_ble_eq_true rfl) rfl rfl rfl (t_0 _ _) (Nat.le_of_ble_eq_true rfl) ?_
        refine c_error (e := 1) (by decide) (by decide) ?_
        refine gwr ?_
        refine g_iret m63_32 rt_63 ?_
        exact hE1 (by omega)
    · have ebk : (nI 1).toInt = 1 := rfl
      refine gwl (L' := [some (.ref (32)), some (.int (a)), some (.int (1)), some (.int (c)), none, none]) rfl ?_
      refine g_aload_n m63_0 rfl ?_
      refine g_iload_n m63_1 rfl ?_
      refine h_cv (k := 0) (p := 32) (args := [.int (a)]) (rest := []) m63_2 cn_60 (Nat.le_of_ble_eq_true rfl) rfl rfl rfl (t_0 _ _) (Nat.le_of_ble_eq_true rfl) ?_
      refine c_isDiner hd hn (fun ja ea a_8 => ?_) (fun a_8 => ?_)
      · subst ea
        refine gwr ?_
        refine h_if_eqF (xi := 1) (zi := 0) m63_5 rfl rfl (by decide) ?_
        refine g_iload_n m63_8 rfl ?_
        refine g_iconst m63_9 ?_
        refine g_cs (args := [.int (1), .int (3)]) (rest := []) 0 (Or.inl rfl) m63_10 (Nat.le_of_ble_eq_true rfl) rfl rfl (Nat.le_of_ble_eq_true rfl) ?_
        refine c_withinI (M := 3) (vi := 1) rfl rfl (fun _ => ?_) (fun q => absurd q (by decide))
        refine gwr ?_
        refine h_if_eqF (xi := 1) (zi := 0) m63_13 rfl rfl (by decide) ?_
        refine g_iload_n m63_16 rfl ?_
        refine g_iload_n m63_17 rfl ?_
        refine g_cs (args := [.int (1)]) (rest := [.int (c)]) 0 (Or.inl rfl) m63_18 (Nat.le_of_ble_eq_true rfl) rfl rfl (Nat.le_of_ble_eq_true rfl) ?_
        refine c_mostToChangeTo (j := 1) (by decide) ?_
        refine gwr ?_
        refine gwst (st' := [.int 9, .int c]) rfl ?_
        refine g_cs (args := [.int (c), .int (9)]) (rest := []) 0 (Or.inl rfl) m63_21 (Nat.le_of_ble_eq_true rfl) rfl rfl (Nat.le_of_ble_eq_true rfl) ?_
        refine c_within (M := 9) rfl (fun jc ec a_10 => ?_) (fun a_10 => ?_)
        · subst ec
          refine gwr ?_
          refine h_if_neF (xi := 1) (zi := 0) m63_24 rfl rfl (by decide) ?_
          refine g_iload_n m63_33 rfl ?_
          refine g_iconst m63_34 ?_
          refine h_ic_neF (xi := 1) (zi := 3) m63_35 rfl rfl (by decide) ?_
          refine g_iload_n m63_79 rfl ?_
          refine h_if_neF (xi := 1) (zi := 0) m63_80 rfl rfl (by decide) ?_
          refine g_iload_n m63_93 rfl ?_
          refine g_iconst m63_94 ?_
          refine h_ic_neT (xi := 1) (zi := 1) m63_95 rfl rfl (by decide) ?_
          refine g_aload_n m63_98 rfl ?_
          refine h_gfR (c := 33) (k := 0) (p := 32) m63_99 rfl (t_0 _ _) rfl (Nat.le_of_ble_eq_true rfl) ?_
          refine h_gfR (c := 38) (k := 1) (p := 33) m63_102 rfl (t_1 _ _) rfl (Nat.le_of_ble_eq_true rfl) ?_
          refine g_goto m63_105 ?_
          refine g_astore (L2 := [some (.ref (32)), some (.int (nI (ja))), some (.int (1)), some (.int (nI (jc))), some (.ref (38)), none]) m63_115 rfl rfl ?_
          refine g_aload m63_117 rfl ?_
          refine g_iload_n m63_119 rfl ?_
          refine h_ial (k := 6) (p := 38) (j := ja) m63_120 rfl (t_6 _ _) (rfl) (by omega) (Nat.le_of_ble_eq_true rfl) (rfl) ?_
          refine g_istore (L2 := [some (.ref (32)), some (.int (nI (ja))), some (.int (1)), some (.int (nI (jc))), some (.ref (38)), some (.int (m (6) (ja)))]) m63_121 rfl rfl ?_
          refine g_aload m63_123 rfl ?_
          refine g_iload_n m63_125 rfl ?_
          refine g_iload_n m63_126 rfl ?_
          refine h_ias (k := 6) (p := 38) (j := ja) m63_127 rfl (t_6 _ _) (rfl) (by omega) (Nat.le_of_ble_eq_true rfl) ?_
          refine g_iload m63_128 rfl ?_
          refine g_iret m63_130 rt_63 ?_
          exact hY ja 1 jc rfl (by omega) rfl (by decide) rfl (by omega) (by omega) (by omega)
        · skip
          refine gwr ?_
          refine h_if_neT (xi := 0) (zi := 0) m63_24 rfl rfl (by decide) ?_
          refine g_aload_n m63_27 rfl ?_
          refine g_iconst m63_28 ?_
          refine h_cv (k := 0) (p := 32) (args := [.int (1)]) (rest := []) m63_29 cn_55 (Nat.le_of_ble_eq_true rfl) rfl rfl rfl (t_0 _ _) (Nat.le_of_ble_eq_true rfl) ?_
          refine c_error (e := 1) (by decide) (by decide) ?_
          refine gwr ?_
          refine g_iret m63_32 rt_63 ?_
          exact hE1 (by omega)
      · skip
        refine gwr ?_
        refine h_if_eqT (xi := 0) (zi := 0) m63_5 rfl rfl (by decide) ?_
        refine g_aload_n m63_27 rfl ?_
        refine g_iconst m63_28 ?_
        refine h_cv (k := 0) (p := 32) (args := [.int (1)]) (rest := []) m63_29 cn_55 (Nat.le_of_ble_eq_true rfl) rfl rfl rfl (t_0 _ _) (Nat.le_of_ble_eq_true rfl) ?_
        refine c_error (e := 1) (by decide) (by decide) ?_
        refine gwr ?_
        refine g_iret m63_32 rt_63 ?_
        exact hE1 (by omega)
    · have ebk : (nI 2).toInt = 2 := rfl
      refine gwl (L' := [some (.ref (32)), some (.int (a)), some (.int (2)), some (.int (c)), none, none]) rfl ?_
      refine g_aload_n m63_0 rfl ?_
      refine g_iload_n m63_1 rfl ?_
      refine h_cv (k := 0) (p := 32) (args := [.int (a)]) (rest := []) m63_2 cn_60 (Nat.le_of_ble_eq_true rfl) rfl rfl rfl (t_0 _ _) (Nat.le_of_ble_eq_true rfl) ?_
      refine c_isDiner hd hn (fun ja ea a_11 => ?_) (fun a_11 => ?_)
      · subst ea
        refine gwr ?_
        refine h_if_eqF (xi := 1) (zi := 0) m63_5 rfl rfl (by decide) ?_
        refine g_iload_n m63_8 rfl ?_
        refine g_iconst m63_9 ?_
        refine g_cs (args := [.int (2), .int (3)]) (rest := []) 0 (Or.inl rfl) m63_10 (Nat.le_of_ble_eq_true rfl) rfl rfl (Nat.le_of_ble_eq_true rfl) ?_
        refine c_withinI (M := 3) (vi := 2) rfl rfl (fun _ => ?_) (fun q => absurd q (by decide))
        refine gwr ?_
        refine h_if_eqF (xi := 1) (zi := 0) m63_13 rfl rfl (by decide) ?_
        refine g_iload_n m63_16 rfl ?_
        refine g_iload_n m63_17 rfl ?_
        refine g_cs (args := [.int (2)]) (rest := [.int (c)]) 0 (Or.inl rfl) m63_18 (Nat.le_of_ble_eq_true rfl) rfl rfl (Nat.le_of_ble_eq_true rfl) ?_
        refine c_mostToChangeTo (j := 2) (by decide) ?_
        refine gwr ?_
        refine gwst (st' := [.int 99, .int c]) rfl ?_
        refine g_cs (args := [.int (c), .int (99)]) (rest := []) 0 (Or.inl rfl) m63_21 (Nat.le_of_ble_eq_true rfl) rfl rfl (Nat.le_of_ble_eq_true rfl) ?_
        refine c_within (M := 99) rfl (fun jc ec a_13 => ?_) (fun a_13 => ?_)
        · subst ec
          refine gwr ?_
          refine h_if_neF (xi := 1) (zi := 0) m63_24 rfl rfl (by decide) ?_
          refine g_iload_n m63_33 rfl ?_
          refine g_iconst m63_34 ?_
          refine h_ic_neF (xi := 2) (zi := 3) m63_35 rfl rfl (by decide) ?_
          refine g_iload_n m63_79 rfl ?_
          refine h_if_neF (xi := 2) (zi := 0) m63_80 rfl rfl (by decide) ?_
          refine g_iload_n m63_93 rfl ?_
          refine g_iconst m63_94 ?_
          refine h_ic_neF (xi := 2) (zi := 1) m63_95 rfl rfl (by decide) ?_
          refine g_aload_n m63_108 rfl ?_
          refine h_gfR (c := 33) (k := 0) (p := 32) m63_109 rfl (t_0 _ _) rfl (Nat.le_of_ble_eq_true rfl) ?_
          refine h_gfR (c := 39) (k := 1) (p := 33) m63_112 rfl (t_1 _ _) rfl (Nat.le_of_ble_eq_true rfl) ?_
          refine g_astore (L2 := [some (.ref (32)), some (.int (nI (ja))), some (.int (2)), some (.int (nI (jc))), some (.ref (39)), none]) m63_115 rfl rfl ?_
          refine g_aload m63_117 rfl ?_
          refine g_iload_n m63_119 rfl ?_
          refine h_ial (k := 7) (p := 39) (j := ja) m63_120 rfl (t_7 _ _) (rfl) (by omega) (Nat.le_of_ble_eq_true rfl) (rfl) ?_
          refine g_istore (L2 := [some (.ref (32)), some (.int (nI (ja))), some (.int (2)), some (.int (nI (jc))), some (.ref (39)), some (.int (m (7) (ja)))]) m63_121 rfl rfl ?_
          refine g_aload m63_123 rfl ?_
          refine g_iload_n m63_125 rfl ?_
          refine g_iload_n m63_126 rfl ?_
          refine h_ias (k := 7) (p := 39) (j := ja) m63_127 rfl (t_7 _ _) (rfl) (by omega) (Nat.le_of_ble_eq_true rfl) ?_
          refine g_iload m63_128 rfl ?_
          refine g_iret m63_130 rt_63 ?_
          exact hY ja 2 jc rfl (by omega) rfl (by decide) rfl (by omega) (by omega) (by omega)
        · skip
          refine gwr ?_
          refine h_if_neT (xi := 0) (zi := 0) m63_24 rfl rfl (by decide) ?_
          refine g_aload_n m63_27 rfl ?_
          refine g_iconst m63_28 ?_
          refine h_cv (k := 0) (p := 32) (args := [.int (1)]) (rest := []) m63_29 cn_55 (Nat.le_of_ble_eq_true rfl) rfl rfl rfl (t_0 _ _) (Nat.le_of_ble_eq_true rfl) ?_
          refine c_error (e := 1) (by decide) (by decide) ?_
          refine gwr ?_
          refine g_iret m63_32 rt_63 ?_
          exact hE1 (by omega)
      · skip
        refine gwr ?_
        refine h_if_eqT (xi := 0) (zi := 0) m63_5 rfl rfl (by decide) ?_
        refine g_aload_n m63_27 rfl ?_
        refine g_iconst m63_28 ?_
        refine h_cv (k := 0) (p := 32) (args := [.int (1)]) (rest := []) m63_29 cn_55 (Nat.le_of_ble_eq_true rfl) rfl rfl rfl (t_0 _ _) (Nat.le_of_ble_eq_true rfl) ?_
        refine c_error (e := 1) (by decide) (by decide) ?_
        refine gwr ?_
        refine g_iret m63_32 rt_63 ?_
        exact hE1 (by omega)
    · have ebk : (nI 3).toInt = 3 := rfl
      refine gwl (L' := [some (.ref (32)), some (.int (a)), some (.int (3)), some (.int (c)), none, none]) rfl ?_
      refine g_aload_n m63_0 rfl ?_
      refine g_iload_n m63_1 rfl ?_
      refine h_cv (k := 0) (p := 32) (args := [.int (a)]) (rest := []) m63_2 cn_60 (Nat.le_of_ble_eq_true rfl) rfl rfl rfl (t_0 _ _) (Nat.le_of_ble_eq_true rfl) ?_
      refine c_isDiner hd hn (fun ja ea a_14 => ?_) (fun a_14 => ?_)
      · subst ea
        refine gwr ?_
        refine h_if_eqF (xi := 1) (zi := 0) m63_5 rfl rfl (by decide) ?_
        refine g_iload_n m63_8 rfl ?_
        refine g_iconst m63_9 ?_
        refine g_cs (args := [.int (3), .int (3)]) (rest := []) 0 (Or.inl rfl) m63_10 (Nat.le_of_ble_eq_true rfl) rfl rfl (Nat.le_of_ble_eq_true rfl) ?_
        refine c_withinI (M := 3) (vi := 3) rfl rfl (fun _ => ?_) (fun q => absurd q (by decide))
        refine gwr ?_
        refine h_if_eqF (xi := 1) (zi := 0) m63_13 rfl rfl (by decide) ?_
        refine g_iload_n m63_16 rfl ?_
        refine g_iload_n m63_17 rfl ?_
        refine g_cs (args := [.int (3)]) (rest := [.int (c)]) 0 (Or.inl rfl) m63_18 (Nat.le_of_ble_eq_true rfl) rfl rfl (Nat.le_of_ble_eq_true rfl) ?_
        refine c_mostToChangeTo (j := 3) (by decide) ?_
        refine gwr ?_
        refine gwst (st' := [.int 1, .int c]) rfl ?_
        refine g_cs (args := [.int (c), .int (1)]) (rest := []) 0 (Or.inl rfl) m63_21 (Nat.le_of_ble_eq_true rfl) rfl rfl (Nat.le_of_ble_eq_true rfl) ?_
        refine c_within (M := 1) rfl (fun jc ec a_16 => ?_) (fun a_16 => ?_)
        · subst ec
          refine gwr ?_
          refine h_if_neF (xi := 1) (zi := 0) m63_24 rfl rfl (by decide) ?_
          refine g_iload_n m63_33 rfl ?_
          refine g_iconst m63_34 ?_
          refine h_ic_neT (xi := 3) (zi := 3) m63_35 rfl rfl (by decide) ?_
          refine g_aload_n m63_38 rfl ?_
          refine h_gfR (c := 33) (k := 0) (p := 32) m63_39 rfl (t_0 _ _) rfl (Nat.le_of_ble_eq_true rfl) ?_
          refine h_gfR (c := 40) (k := 1) (p := 33) m63_42 rfl (t_1 _ _) rfl (Nat.le_of_ble_eq_true rfl) ?_
          refine g_iload_n m63_45 rfl ?_
          refine h_bal (k := 8) (p := 40) (j := ja) m63_46 rfl (t_8 _ _) (rfl) (by omega) (Nat.le_of_ble_eq_true rfl) (rfl) ?_
          refine h_if_eq (xi := _) (zi := 0) m63_47 rfl rfl (fun c1 => ?_) (fun c1 => ?_)
          · skip
            refine g_iconst m63_54 ?_
            refine g_istore (L2 := [some (.ref (32)), some (.int (nI (ja))), some (.int (3)), some (.int (nI (jc))), some (.int (0)), none]) m63_55 rfl rfl ?_
            refine g_aload_n m63_57 rfl ?_
            refine h_gfR (c := 33) (k := 0) (p := 32) m63_58 rfl (t_0 _ _) rfl (Nat.le_of_ble_eq_true rfl) ?_
            refine h_gfR (c := 40) (k := 1) (p := 33) m63_61 rfl (t_1 _ _) rfl (Nat.le_of_ble_eq_true rfl) ?_
            refine g_iload_n m63_64 rfl ?_
            refine g_iload_n m63_65 rfl ?_
            refine g_iconst m63_66 ?_
            refine h_ic_ne (xi := ((jc : Nat) : Int)) (zi := 1) m63_67 (nI_toInt (by omega)) rfl (fun c2 => ?_) (fun c2 => ?_)
            · skip
              refine g_iconst m63_70 ?_
              refine g_goto m63_71 ?_
              refine h_bas (k := 8) (p := 40) (j := ja) m63_75 rfl (t_8 _ _) (rfl) (by omega) (Nat.le_of_ble_eq_true rfl) (Or.inr rfl) ?_
              refine g_iload m63_76 rfl ?_
              refine g_iret m63_78 rt_63 ?_
              have e1 : m 8 ja = 0 := (h01 ja (by omega)).resolve_right (fun q => by rw [q] at c1; exact absurd c1 (by decide))
              obtain rfl : jc = 1 := by omega
              have h9 := hY ja 3 1 rfl (by omega) rfl (by decide) rfl (by decide) (by decide) (by decide)
              rw [show m (5 + 3) ja = 0 from e1] at h9
              exact h9
            · skip
              refine g_iconst m63_74 ?_
              refine h_bas (k := 8) (p := 40) (j := ja) m63_75 rfl (t_8 _ _) (rfl) (by omega) (Nat.le_of_ble_eq_true rfl) (Or.inl rfl) ?_
              refine g_iload m63_76 rfl ?_
              refine g_iret m63_78 rt_63 ?_
              have e1 : m 8 ja = 0 := (h01 ja (by omega)).resolve_right (fun q => by rw [q] at c1; exact absurd c1 (by decide))
              obtain rfl : jc = 0 := by omega
              have h9 := hY ja 3 0 rfl (by omega) rfl (by decide) rfl (by decide) (by decide) (by decide)
              rw [show m (5 + 3) ja = 0 from e1] at h9
              exact h9
          · skip
            refine g_iconst m63_50 ?_
            refine g_goto m63_51 ?_
            refine g_istore (L2 := [some (.ref (32)), some (.int (nI (ja))), some (.int (3)), some (.int (nI (jc))), some (.int (1)), none]) m63_55 rfl rfl ?_
            refine g_aload_n m63_57 rfl ?_
            refine h_gfR (c := 33) (k := 0) (p := 32) m63_58 rfl (t_0 _ _) rfl (Nat.le_of_ble_eq_true rfl) ?_
            refine h_gfR (c := 40) (k := 1) (p := 33) m63_61 rfl (t_1 _ _) rfl (Nat.le_of_ble_eq_true rfl) ?_
            refine g_iload_n m63_64 rfl ?_
            refine g_iload_n m63_65 rfl ?_
            refine g_iconst m63_66 ?_
            refine h_ic_ne (xi := ((jc : Nat) : Int)) (zi := 1) m63_67 (nI_toInt (by omega)) rfl (fun c3 => ?_) (fun c3 => ?_)
            · skip
              refine g_iconst m63_70 ?_
              refine g_goto m63_71 ?_
              refine h_bas (k := 8) (p := 40) (j := ja) m63_75 rfl (t_8 _ _) (rfl) (by omega) (Nat.le_of_ble_eq_true rfl) (Or.inr rfl) ?_
              refine g_iload m63_76 rfl ?_
              refine g_iret m63_78 rt_63 ?_
              have e1 : m 8 ja = 1 := (h01 ja (by omega)).resolve_left (fun q => by rw [q] at c1; exact absurd c1 (by decide))
              obtain rfl : jc = 1 := by omega
              have h9 := hY ja 3 1 rfl (by omega) rfl (by decide) rfl (by decide) (by decide) (by decide)
              rw [show m (5 + 3) ja = 1 from e1] at h9
              exact h9
            · skip
              refine g_iconst m63_74 ?_
              refine h_bas (k := 8) (p := 40) (j := ja) m63_75 rfl (t_8 _ _) (rfl) (by omega) (Nat.le_of_ble_eq_true rfl) (Or.inl rfl) ?_
              refine g_iload m63_76 rfl ?_
              refine g_iret m63_78 rt_63 ?_
              have e1 : m 8 ja = 1 := (h01 ja (by omega)).resolve_left (fun q => by rw [q] at c1; exact absurd c1 (by decide))
              obtain rfl : jc = 0 := by omega
              have h9 := hY ja 3 0 rfl (by omega) rfl (by decide) rfl (by decide) (by decide) (by decide)
              rw [show m (5 + 3) ja = 1 from e1] at h9
              exact h9
        · skip
          refine gwr ?_
          refine h_if_neT (xi := 0) (zi := 0) m63_24 rfl rfl (by decide) ?_
          refine g_aload_n m63_27 rfl ?_
          refine g_iconst m63_28 ?_
          refine h_cv (k := 0) (p := 32) (args := [.int (1)]) (rest := []) m63_29 cn_55 (Nat.le_of_ble_eq_true rfl) rfl rfl rfl (t_0 _ _) (Nat.le_of_ble_eq_true rfl) ?_
          refine c_error (e := 1) (by decide) (by decide) ?_
          refine gwr ?_
          refine g_iret m63_32 rt_63 ?_
          exact hE1 (by omega)
      · skip
        refine gwr ?_
        refine h_if_eqT (xi := 0) (zi := 0) m63_5 rfl rfl (by decide) ?_
        refine g_aload_n m63_27 rfl ?_
        refine g_iconst m63_28 ?_
        refine h_cv (k := 0) (p := 32) (args := [.int (1)]) (rest := []) m63_29 cn_55 (Nat.le_of_ble_eq_true rfl) rfl rfl rfl (t_0 _ _) (Nat.le_of_ble_eq_true rfl) ?_
        refine c_error (e := 1) (by decide) (by decide) ?_
        refine gwr ?_
        refine g_iret m63_32 rt_63 ?_
        exact hE1 (by omega)
set_option maxRecDepth 20000 in
set_option maxHeartbeats 40000000 in
theorem m_change {a b c : Int32} {n : Nat} (hd : m 58 2 = nI n) (hn : n ≤ 8) (hE1 : (a.toInt < 0 ∨ (n : Int) ≤ a.toInt ∨ b.toInt < 0 ∨ 3 < b.toInt ∨ c.toInt < 0 ∨ (b.toInt = 0 ∧ 99 < c.toInt) ∨ (b.toInt = 1 ∧ 9 < c.toInt) ∨ (b.toInt = 2 ∧ 99 < c.toInt) ∨ (b.toInt = 3 ∧ 1 < c.toInt)) → Q (some (.int (-1000000001))) (H (ers m 1) ln N)) (hY : ∀ i k z : Nat, a = nI i → i < n → b = nI k → k ≤ 3 → c = nI z → z ≤ 99 → (k = 1 → z ≤ 9) → (k = 3 → z ≤ 1) → Q (some (.int (m 58 (16 + 6 * i + 2 + k)))) (H (upm m 58 (16 + 6 * i + 2 + k) (nI z)) ln N)) : WP xs (d + 3) 134 0 0 [.ref (89), .int (a), .int (b), .int (c)] (H m ln N) Q := by
  refine wp_x mx_134 (L := [some (.ref (89)), some (.int (a)), some (.int (b)), some (.int (c)), none]) (Nat.le_of_ble_eq_true rfl) rfl ?_
  by_cases hb : b.toInt < 0 ∨ 3 < b.toInt
  · skip
    refine g_iload_n m134_0 rfl ?_
    refine h_if_eqF (xi := b.toInt) (zi := 0) m134_1 rfl rfl (by omega) ?_
    refine g_iload_n m134_4 rfl ?_
    refine g_iconst m134_5 ?_
    refine h_ic_neF (xi := b.toInt) (zi := 2) m134_6 rfl rfl (by omega) ?_
    refine g_iload_n m134_19 rfl ?_
    refine g_iconst m134_20 ?_
    refine h_ic_neF (xi := b.toInt) (zi := 1) m134_21 rfl rfl (by omega) ?_
    refine g_iload_n m134_34 rfl ?_
    refine g_iconst m134_35 ?_
    refine h_ic_neF (xi := b.toInt) (zi := 3) m134_36 rfl rfl (by omega) ?_
    refine g_iconst m134_52 ?_
    refine g_istore (L2 := [some (.ref (89)), some (.int (a)), some (.int (b)), some (.int (c)), some (.int (0))]) m134_53 rfl rfl ?_
    refine g_aload_n m134_55 rfl ?_
    refine g_iload_n m134_56 rfl ?_
    refine h_cv (k := 57) (p := 89) (args := [.int (a)]) (rest := []) m134_57 cn_113 (Nat.le_of_ble_eq_true rfl) rfl rfl rfl (t_57 _ _) (Nat.le_of_ble_eq_true rfl) ?_
    refine c_isDinerM hd hn (fun ja ea a_17 => ?_) (fun a_17 => ?_)
    · subst ea
      refine gwr ?_
      refine h_if_eqF (xi := 1) (zi := 0) m134_60 rfl rfl (by decide) ?_
      refine g_iload m134_63 rfl ?_
      refine h_if_eqT (xi := 0) (zi := 0) m134_65 rfl rfl (by decide) ?_
      refine g_aload_n m134_87 rfl ?_
      refine g_ldci m134_88 rfl ?_
      refine h_cv (k := 57) (p := 89) (args := [.int (-1000000001)]) (rest := []) m134_90 cn_108 (Nat.le_of_ble_eq_true rfl) rfl rfl rfl (t_57 _ _) (Nat.le_of_ble_eq_true rfl) ?_
      refine c_errs (e := 1) (by decide) (by decide) (by decide) ?_
      refine gwr ?_
      refine g_iret m134_93 rt_134 ?_
      exact hE1 (by omega)
    · skip
      refine gwr ?_
      refine h_if_eqT (xi := 0) (zi := 0) m134_60 rfl rfl (by decide) ?_
      refine g_aload_n m134_87 rfl ?_
      refine g_ldci m134_88 rfl ?_
      refine h_cv (k := 57) (p := 89) (args := [.int (-1000000001)]) (rest := []) m134_90 cn_108 (Nat.le_of_ble_eq_true rfl) rfl rfl rfl (t_57 _ _) (Nat.le_of_ble_eq_true rfl) ?_
      refine c_errs (e := 1) (by decide) (by decide) (by decide) ?_
      refine gwr ?_
      refine g_iret m134_93 rt_134 ?_
      exact hE1 (by omega)
  · skip
    obtain ⟨kb, ⟨hkb1, hkb2⟩, hkb3⟩ := nat_of (x := b) (lo := 0) (hi := 3) (by omega) (by omega)
    obtain rfl : b = nI kb := hkb3
    rcases (show kb = 0 ∨ kb = 1 ∨ kb = 2 ∨ kb = 3 by omega) with rfl | rfl | rfl | rfl
    · have ebk : (nI 0).toInt = 0 := rfl
      refine gwl (L' := [some (.ref (89)), some (.int (a)), some (.int (0)), some (.int (c)), none]) rfl ?_
      refine g_iload_n m134_0 rfl ?_
      refine h_if_eqT (xi := 0) (zi := 0) m134_1 rfl rfl (by decide) ?_
      refine g_iload_n m134_9 rfl ?_
      refine g_iconst m134_10 ?_
      refine g_bipush m134_11 ?_
      refine g_cs (args := [.int (c), .int (0), .int (99)]) (rest := []) 0 (Or.inl rfl) m134_13 (Nat.le_of_ble_eq_true rfl) rfl rfl (Nat.le_of_ble_eq_true rfl) ?_
      refine c_in (A := 0) (B := 99) rfl rfl (by decide) (fun jc ec a_18 a_18' => ?_) (fun a_18 => ?_)
      · subst ec
        refine gwr ?_
        refine g_goto m134_16 ?_
        refine g_istore (L2 := [some (.ref (89)), some (.int (a)), some (.int (0)), some (.int (nI (jc))), some (.int (1))]) m134_53 rfl rfl ?_
        refine g_aload_n m134_55 rfl ?_
        refine g_iload_n m134_56 rfl ?_
        refine h_cv (k := 57) (p := 89) (args := [.int (a)]) (rest := []) m134_57 cn_113 (Nat.le_of_ble_eq_true rfl) rfl rfl rfl (t_57 _ _) (Nat.le_of_ble_eq_true rfl) ?_
        refine c_isDinerM hd hn (fun ja ea a_19 => ?_) (fun a_19 => ?_)
        · subst ea
          refine gwr ?_
          refine h_if_eqF (xi := 1) (zi := 0) m134_60 rfl rfl (by decide) ?_
          refine g_iload m134_63 rfl ?_
          refine h_if_eqF (xi := 1) (zi := 0) m134_65 rfl rfl (by decide) ?_
          refine g_aload_n m134_68 rfl ?_
          refine g_bipush m134_69 ?_
          refine g_bipush m134_71 ?_
          refine g_iload_n m134_73 rfl ?_
          refine g_imul (u := nI (6 * ja)) m134_74 (pk_mul 6 ja) ?_
          refine g_iadd (u := nI (16 + (6 * ja))) m134_75 (nI_add 16 (6 * ja)) ?_
          refine g_iconst m134_76 ?_
          refine g_iadd (u := nI ((16 + (6 * ja)) + 2)) m134_77 (nI_add (16 + (6 * ja)) 2) ?_
          refine g_iload_n m134_78 rfl ?_
          refine g_iadd (u := nI (((16 + (6 * ja)) + 2) + 0)) m134_79 (nI_add ((16 + (6 * ja)) + 2) 0) ?_
          refine g_iload_n m134_80 rfl ?_
          refine h_cv (k := 57) (p := 89) (args := [.int (nI (((16 + (6 * ja)) + 2) + 0)), .int (nI (jc))]) (rest := []) m134_81 cn_114 (Nat.le_of_ble_eq_true rfl) rfl rfl rfl (t_57 _ _) (Nat.le_of_ble_eq_true rfl) ?_
          refine c_becomes (a := 16 + 6 * ja + 2 + 0) (by omega) ?_
          refine gwr ?_
          refine g_goto m134_84 ?_
          refine g_iret m134_93 rt_134 ?_
          exact hY ja 0 jc rfl (by omega) rfl (by decide) rfl (by omega) (by omega) (by omega)
        · skip
          refine gwr ?_
          refine h_if_eqT (xi := 0) (zi := 0) m134_60 rfl rfl (by decide) ?_
          refine g_aload_n m134_87 rfl ?_
          refine g_ldci m134_88 rfl ?_
          refine h_cv (k := 57) (p := 89) (args := [.int (-1000000001)]) (rest := []) m134_90 cn_108 (Nat.le_of_ble_eq_true rfl) rfl rfl rfl (t_57 _ _) (Nat.le_of_ble_eq_true rfl) ?_
          refine c_errs (e := 1) (by decide) (by decide) (by decide) ?_
          refine gwr ?_
          refine g_iret m134_93 rt_134 ?_
          exact hE1 (by omega)
      · skip
        refine gwr ?_
        refine g_goto m134_16 ?_
        refine g_istore (L2 := [some (.ref (89)), some (.int (a)), some (.int (0)), some (.int (c)), some (.int (0))]) m134_53 rfl rfl ?_
        refine g_aload_n m134_55 rfl ?_
        refine g_iload_n m134_56 rfl ?_
        refine h_cv (k := 57) (p := 89) (args := [.int (a)]) (rest := []) m134_57 cn_113 (Nat.le_of_ble_eq_true rfl) rfl rfl rfl (t_57 _ _) (Nat.le_of_ble_eq_true rfl) ?_
        refine c_isDinerM hd hn (fun ja ea a_20 => ?_) (fun a_20 => ?_)
        · subst ea
          refine gwr ?_
          refine h_if_eqF (xi := 1) (zi := 0) m134_60 rfl rfl (by decide) ?_
          refine g_iload m134_63 rfl ?_
          refine h_if_eqT (xi := 0) (zi := 0) m134_65 rfl rfl (by decide) ?_
          refine g_aload_n m134_87 rfl ?_
          refine g_ldci m134_88 rfl ?_
          refine h_cv (k := 57) (p := 89) (args := [.int (-1000000001)]) (rest := []) m134_90 cn_108 (Nat.le_of_ble_eq_true rfl) rfl rfl rfl (t_57 _ _) (Nat.le_of_ble_eq_true rfl) ?_
          refine c_errs (e := 1) (by decide) (by decide) (by decide) ?_
          refine gwr ?_
          refine g_iret m134_93 rt_134 ?_
          exact hE1 (by omega)
        · skip
          refine gwr ?_
          refine h_if_eqT (xi := 0) (zi := 0) m134_60 rfl rfl (by decide) ?_
          refine g_aload_n m134_87 rfl ?_
          refine g_ldci m134_88 rfl ?_
          refine h_cv (k := 57) (p := 89) (args := [.int (-1000000001)]) (rest := []) m134_90 cn_108 (Nat.le_of_ble_eq_true rfl) rfl rfl rfl (t_57 _ _) (Nat.le_of_ble_eq_true rfl) ?_
          refine c_errs (e := 1) (by decide) (by decide) (by decide) ?_
          refine gwr ?_
          refine g_iret m134_93 rt_134 ?_
          exact hE1 (by omega)
    · have ebk : (nI 1).toInt = 1 := rfl
      refine gwl (L' := [some (.ref (89)), some (.int (a)), some (.int (1)), some (.int (c)), none]) rfl ?_
      refine g_iload_n m134_0 rfl ?_
      refine h_if_eqF (xi := 1) (zi := 0) m134_1 rfl rfl (by decide) ?_
      refine g_iload_n m134_4 rfl ?_
      refine g_iconst m134_5 ?_
      refine h_ic_neF (xi := 1) (zi := 2) m134_6 rfl rfl (by decide) ?_
      refine g_iload_n m134_19 rfl ?_
      refine g_iconst m134_20 ?_
      refine h_ic_neT (xi := 1) (zi := 1) m134_21 rfl rfl (by decide) ?_
      refine g_iload_n m134_24 rfl ?_
      refine g_iconst m134_25 ?_
      refine g_bipush m134_26 ?_
      refine g_cs (args := [.int (c), .int (0), .int (9)]) (rest := []) 0 (Or.inl rfl) m134_28 (Nat.le_of_ble_eq_true rfl) rfl rfl (Nat.le_of_ble_eq_true rfl) ?_
      refine c_in (A := 0) (B := 9) rfl rfl (by decide) (fun jc ec a_21 a_21' => ?_) (fun a_21 => ?_)
      · subst ec
        refine gwr ?_
        refine g_goto m134_31 ?_
        refine g_istore (L2 := [some (.ref (89)), some (.int (a)), some (.int (1)), some (.int (nI (jc))), some (.int (1))]) m134_53 rfl rfl ?_
        refine g_aload_n m134_55 rfl ?_
        refine g_iload_n m134_56 rfl ?_
        refine h_cv (k := 57) (p := 89) (args := [.int (a)]) (rest := []) m134_57 cn_113 (Nat.le_of_ble_eq_true rfl) rfl rfl rfl (t_57 _ _) (Nat.le_of_ble_eq_true rfl) ?_
        refine c_isDinerM hd hn (fun ja ea a_22 => ?_) (fun a_22 => ?_)
        · subst ea
          refine gwr ?_
          refine h_if_eqF (xi := 1) (zi := 0) m134_60 rfl rfl (by decide) ?_
          refine g_iload m134_63 rfl ?_
          refine h_if_eqF (xi := 1) (zi := 0) m134_65 rfl rfl (by decide) ?_
          refine g_aload_n m134_68 rfl ?_
          refine g_bipush m134_69 ?_
          refine g_bipush m134_71 ?_
          refine g_iload_n m134_73 rfl ?_
          refine g_imul (u := nI (6 * ja)) m134_74 (pk_mul 6 ja) ?_
          refine g_iadd (u := nI (16 + (6 * ja))) m134_75 (nI_add 16 (6 * ja)) ?_
          refine g_iconst m134_76 ?_
          refine g_iadd (u := nI ((16 + (6 * ja)) + 2)) m134_77 (nI_add (16 + (6 * ja)) 2) ?_
          refine g_iload_n m134_78 rfl ?_
          refine g_iadd (u := nI (((16 + (6 * ja)) + 2) + 1)) m134_79 (nI_add ((16 + (6 * ja)) + 2) 1) ?_
          refine g_iload_n m134_80 rfl ?_
          refine h_cv (k := 57) (p := 89) (args := [.int (nI (((16 + (6 * ja)) + 2) + 1)), .int (nI (jc))]) (rest := []) m134_81 cn_114 (Nat.le_of_ble_eq_true rfl) rfl rfl rfl (t_57 _ _) (Nat.le_of_ble_eq_true rfl) ?_
          refine c_becomes (a := 16 + 6 * ja + 2 + 1) (by omega) ?_
          refine gwr ?_
          refine g_goto m134_84 ?_
          refine g_iret m134_93 rt_134 ?_
          exact hY ja 1 jc rfl (by omega) rfl (by decide) rfl (by omega) (by omega) (by omega)
        · skip
          refine gwr ?_
          refine h_if_eqT (xi := 0) (zi := 0) m134_60 rfl rfl (by decide) ?_
          refine g_aload_n m134_87 rfl ?_
          refine g_ldci m134_88 rfl ?_
          refine h_cv (k := 57) (p := 89) (args := [.int (-1000000001)]) (rest := []) m134_90 cn_108 (Nat.le_of_ble_eq_true rfl) rfl rfl rfl (t_57 _ _) (Nat.le_of_ble_eq_true rfl) ?_
          refine c_errs (e := 1) (by decide) (by decide) (by decide) ?_
          refine gwr ?_
          refine g_iret m134_93 rt_134 ?_
          exact hE1 (by omega)
      · skip
        refine gwr ?_
        refine g_goto m134_31 ?_
        refine g_istore (L2 := [some (.ref (89)), some (.int (a)), some (.int (1)), some (.int (c)), some (.int (0))]) m134_53 rfl rfl ?_
        refine g_aload_n m134_55 rfl ?_
        refine g_iload_n m134_56 rfl ?_
        refine h_cv (k := 57) (p := 89) (args := [.int (a)]) (rest := []) m134_57 cn_113 (Nat.le_of_ble_eq_true rfl) rfl rfl rfl (t_57 _ _) (Nat.le_of_ble_eq_true rfl) ?_
        refine c_isDinerM hd hn (fun ja ea a_23 => ?_) (fun a_23 => ?_)
        · subst ea
          refine gwr ?_
          refine h_if_eqF (xi := 1) (zi := 0) m134_60 rfl rfl (by decide) ?_
          refine g_iload m134_63 rfl ?_
          refine h_if_eqT (xi := 0) (zi := 0) m134_65 rfl rfl (by decide) ?_
          refine g_aload_n m134_87 rfl ?_
          refine g_ldci m134_88 rfl ?_
          refine h_cv (k := 57) (p := 89) (args := [.int (-1000000001)]) (rest := []) m134_90 cn_108 (Nat.le_of_ble_eq_true rfl) rfl rfl rfl (t_57 _ _) (Nat.le_of_ble_eq_true rfl) ?_
          refine c_errs (e := 1) (by decide) (by decide) (by decide) ?_
          refine gwr ?_
          refine g_iret m134_93 rt_134 ?_
          exact hE1 (by omega)
        · skip
          refine gwr ?_
          refine h_if_eqT (xi := 0) (zi := 0) m134_60 rfl rfl (by decide) ?_
          refine g_aload_n m134_87 rfl ?_
          refine g_ldci m134_88 rfl ?_
          refine h_cv (k := 57) (p := 89) (args := [.int (-1000000001)]) (rest := []) m134_90 cn_108 (Nat.le_of_ble_eq_true rfl) rfl rfl rfl (t_57 _ _) (Nat.le_of_ble_eq_true rfl) ?_
          refine c_errs (e := 1) (by decide) (by decide) (by decide) ?_
          refine gwr ?_
          refine g_iret m134_93 rt_134 ?_
          exact hE1 (by omega)
    · have ebk : (nI 2).toInt = 2 := rfl
      refine gwl (L' := [some (.ref (89)), some (.int (a)), some (.int (2)), some (.int (c)), none]) rfl ?_
      refine g_iload_n m134_0 rfl ?_
      refine h_if_eqF (xi := 2) (zi := 0) m134_1 rfl rfl (by decide) ?_
      refine g_iload_n m134_4 rfl ?_
      refine g_iconst m134_5 ?_
      refine h_ic_neT (xi := 2) (zi := 2) m134_6 rfl rfl (by decide) ?_
      refine g_iload_n m134_9 rfl ?_
      refine g_iconst m134_10 ?_
      refine g_bipush m134_11 ?_
      refine g_cs (args := [.int (c), .int (0), .int (99)]) (rest := []) 0 (Or.inl rfl) m134_13 (Nat.le_of_ble_eq_true rfl) rfl rfl (Nat.le_of_ble_eq_true rfl) ?_
      refine c_in (A := 0) (B := 99) rfl rfl (by decide) (fun jc ec a_24 a_24' => ?_) (fun a_24 => ?_)
      · subst ec
        refine gwr ?_
        refine g_goto m134_16 ?_
        refine g_istore (L2 := [some (.ref (89)), some (.int (a)), some (.int (2)), some (.int (nI (jc))), some (.int (1))]) m134_53 rfl rfl ?_
        refine g_aload_n m134_55 rfl ?_
        refine g_iload_n m134_56 rfl ?_
        refine h_cv (k := 57) (p := 89) (args := [.int (a)]) (rest := []) m134_57 cn_113 (Nat.le_of_ble_eq_true rfl) rfl rfl rfl (t_57 _ _) (Nat.le_of_ble_eq_true rfl) ?_
        refine c_isDinerM hd hn (fun ja ea a_25 => ?_) (fun a_25 => ?_)
        · subst ea
          refine gwr ?_
          refine h_if_eqF (xi := 1) (zi := 0) m134_60 rfl rfl (by decide) ?_
          refine g_iload m134_63 rfl ?_
          refine h_if_eqF (xi := 1) (zi := 0) m134_65 rfl rfl (by decide) ?_
          refine g_aload_n m134_68 rfl ?_
          refine g_bipush m134_69 ?_
          refine g_bipush m134_71 ?_
          refine g_iload_n m134_73 rfl ?_
          refine g_imul (u := nI (6 * ja)) m134_74 (pk_mul 6 ja) ?_
          refine g_iadd (u := nI (16 + (6 * ja))) m134_75 (nI_add 16 (6 * ja)) ?_
          refine g_iconst m134_76 ?_
          refine g_iadd (u := nI ((16 + (6 * ja)) + 2)) m134_77 (nI_add (16 + (6 * ja)) 2) ?_
          refine g_iload_n m134_78 rfl ?_
          refine g_iadd (u := nI (((16 + (6 * ja)) + 2) + 2)) m134_79 (nI_add ((16 + (6 * ja)) + 2) 2) ?_
          refine g_iload_n m134_80 rfl ?_
          refine h_cv (k := 57) (p := 89) (args := [.int (nI (((16 + (6 * ja)) + 2) + 2)), .int (nI (jc))]) (rest := []) m134_81 cn_114 (Nat.le_of_ble_eq_true rfl) rfl rfl rfl (t_57 _ _) (Nat.le_of_ble_eq_true rfl) ?_
          refine c_becomes (a := 16 + 6 * ja + 2 + 2) (by omega) ?_
          refine gwr ?_
          refine g_goto m134_84 ?_
          refine g_iret m134_93 rt_134 ?_
          exact hY ja 2 jc rfl (by omega) rfl (by decide) rfl (by omega) (by omega) (by omega)
        · skip
          refine gwr ?_
          refine h_if_eqT (xi := 0) (zi := 0) m134_60 rfl rfl (by decide) ?_
          refine g_aload_n m134_87 rfl ?_
          refine g_ldci m134_88 rfl ?_
          refine h_cv (k := 57) (p := 89) (args := [.int (-1000000001)]) (rest := []) m134_90 cn_108 (Nat.le_of_ble_eq_true rfl) rfl rfl rfl (t_57 _ _) (Nat.le_of_ble_eq_true rfl) ?_
          refine c_errs (e := 1) (by decide) (by decide) (by decide) ?_
          refine gwr ?_
          refine g_iret m134_93 rt_134 ?_
          exact hE1 (by omega)
      · skip
        refine gwr ?_
        refine g_goto m134_16 ?_
        refine g_istore (L2 := [some (.ref (89)), some (.int (a)), some (.int (2)), some (.int (c)), some (.int (0))]) m134_53 rfl rfl ?_
        refine g_aload_n m134_55 rfl ?_
        refine g_iload_n m134_56 rfl ?_
        refine h_cv (k := 57) (p := 89) (args := [.int (a)]) (rest := []) m134_57 cn_113 (Nat.le_of_ble_eq_true rfl) rfl rfl rfl (t_57 _ _) (Nat.le_of_ble_eq_true rfl) ?_
        refine c_isDinerM hd hn (fun ja ea a_26 => ?_) (fun a_26 => ?_)
        · subst ea
          refine gwr ?_
          refine h_if_eqF (xi := 1) (zi := 0) m134_60 rfl rfl (by decide) ?_
          refine g_iload m134_63 rfl ?_
          refine h_if_eqT (xi := 0) (zi := 0) m134_65 rfl rfl (by decide) ?_
          refine g_aload_n m134_87 rfl ?_
          refine g_ldci m134_88 rfl ?_
          refine h_cv (k := 57) (p := 89) (args := [.int (-1000000001)]) (rest := []) m134_90 cn_108 (Nat.le_of_ble_eq_true rfl) rfl rfl rfl (t_57 _ _) (Nat.le_of_ble_eq_true rfl) ?_
          refine c_errs (e := 1) (by decide) (by decide) (by decide) ?_
          refine gwr ?_
          refine g_iret m134_93 rt_134 ?_
          exact hE1 (by omega)
        · skip
          refine gwr ?_
          refine h_if_eqT (xi := 0) (zi := 0) m134_60 rfl rfl (by decide) ?_
          refine g_aload_n m134_87 rfl ?_
          refine g_ldci m134_88 rfl ?_
          refine h_cv (k := 57) (p := 89) (args := [.int (-1000000001)]) (rest := []) m134_90 cn_108 (Nat.le_of_ble_eq_true rfl) rfl rfl rfl (t_57 _ _) (Nat.le_of_ble_eq_true rfl) ?_
          refine c_errs (e := 1) (by decide) (by decide) (by decide) ?_
          refine gwr ?_
          refine g_iret m134_93 rt_134 ?_
          exact hE1 (by omega)
    · have ebk : (nI 3).toInt = 3 := rfl
      refine gwl (L' := [some (.ref (89)), some (.int (a)), some (.int (3)), some (.int (c)), none]) rfl ?_
      refine g_iload_n m134_0 rfl ?_
      refine h_if_eqF (xi := 3) (zi := 0) m134_1 rfl rfl (by decide) ?_
      refine g_iload_n m134_4 rfl ?_
      refine g_iconst m134_5 ?_
      refine h_ic_neF (xi := 3) (zi := 2) m134_6 rfl rfl (by decide) ?_
      refine g_iload_n m134_19 rfl ?_
      refine g_iconst m134_20 ?_
      refine h_ic_neF (xi := 3) (zi := 1) m134_21 rfl rfl (by decide) ?_
      refine g_iload_n m134_34 rfl ?_
      refine g_iconst m134_35 ?_
      refine h_ic_neT (xi := 3) (zi := 3) m134_36 rfl rfl (by decide) ?_
      refine g_iload_n m134_39 rfl ?_
      refine g_iconst m134_40 ?_
      refine g_iconst m134_41 ?_
      refine g_cs (args := [.int (c), .int (0), .int (1)]) (rest := []) 0 (Or.inl rfl) m134_42 (Nat.le_of_ble_eq_true rfl) rfl rfl (Nat.le_of_ble_eq_true rfl) ?_
      refine c_in (A := 0) (B := 1) rfl rfl (by decide) (fun jc ec a_27 a_27' => ?_) (fun a_27 => ?_)
      · subst ec
        refine gwr ?_
        refine h_if_eqF (xi := 1) (zi := 0) m134_45 rfl rfl (by decide) ?_
        refine g_iconst m134_48 ?_
        refine g_goto m134_49 ?_
        refine g_istore (L2 := [some (.ref (89)), some (.int (a)), some (.int (3)), some (.int (nI (jc))), some (.int (1))]) m134_53 rfl rfl ?_
        refine g_aload_n m134_55 rfl ?_
        refine g_iload_n m134_56 rfl ?_
        refine h_cv (k := 57) (p := 89) (args := [.int (a)]) (rest := []) m134_57 cn_113 (Nat.le_of_ble_eq_true rfl) rfl rfl rfl (t_57 _ _) (Nat.le_of_ble_eq_true rfl) ?_
        refine c_isDinerM hd hn (fun ja ea a_28 => ?_) (fun a_28 => ?_)
        · subst ea
          refine gwr ?_
          refine h_if_eqF (xi := 1) (zi := 0) m134_60 rfl rfl (by decide) ?_
          refine g_iload m134_63 rfl ?_
          refine h_if_eqF (xi := 1) (zi := 0) m134_65 rfl rfl (by decide) ?_
          refine g_aload_n m134_68 rfl ?_
          refine g_bipush m134_69 ?_
          refine g_bipush m134_71 ?_
          refine g_iload_n m134_73 rfl ?_
          refine g_imul (u := nI (6 * ja)) m134_74 (pk_mul 6 ja) ?_
          refine g_iadd (u := nI (16 + (6 * ja))) m134_75 (nI_add 16 (6 * ja)) ?_
          refine g_iconst m134_76 ?_
          refine g_iadd (u := nI ((16 + (6 * ja)) + 2)) m134_77 (nI_add (16 + (6 * ja)) 2) ?_
          refine g_iload_n m134_78 rfl ?_
          refine g_iadd (u := nI (((16 + (6 * ja)) + 2) + 3)) m134_79 (nI_add ((16 + (6 * ja)) + 2) 3) ?_
          refine g_iload_n m134_80 rfl ?_
          refine h_cv (k := 57) (p := 89) (args := [.int (nI (((16 + (6 * ja)) + 2) + 3)), .int (nI (jc))]) (rest := []) m134_81 cn_114 (Nat.le_of_ble_eq_true rfl) rfl rfl rfl (t_57 _ _) (Nat.le_of_ble_eq_true rfl) ?_
          refine c_becomes (a := 16 + 6 * ja + 2 + 3) (by omega) ?_
          refine gwr ?_
          refine g_goto m134_84 ?_
          refine g_iret m134_93 rt_134 ?_
          exact hY ja 3 jc rfl (by omega) rfl (by decide) rfl (by omega) (by omega) (by omega)
        · skip
          refine gwr ?_
          refine h_if_eqT (xi := 0) (zi := 0) m134_60 rfl rfl (by decide) ?_
          refine g_aload_n m134_87 rfl ?_
          refine g_ldci m134_88 rfl ?_
          refine h_cv (k := 57) (p := 89) (args := [.int (-1000000001)]) (rest := []) m134_90 cn_108 (Nat.le_of_ble_eq_true rfl) rfl rfl rfl (t_57 _ _) (Nat.le_of_ble_eq_true rfl) ?_
          refine c_errs (e := 1) (by decide) (by decide) (by decide) ?_
          refine gwr ?_
          refine g_iret m134_93 rt_134 ?_
          exact hE1 (by omega)
      · skip
        refine gwr ?_
        refine h_if_eqT (xi := 0) (zi := 0) m134_45 rfl rfl (by decide) ?_
        refine g_iconst m134_52 ?_
        refine g_istore (L2 := [some (.ref (89)), some (.int (a)), some (.int (3)), some (.int (c)), some (.int (0))]) m134_53 rfl rfl ?_
        refine g_aload_n m134_55 rfl ?_
        refine g_iload_n m134_56 rfl ?_
        refine h_cv (k := 57) (p := 89) (args := [.int (a)]) (rest := []) m134_57 cn_113 (Nat.le_of_ble_eq_true rfl) rfl rfl rfl (t_57 _ _) (Nat.le_of_ble_eq_true rfl) ?_
        refine c_isDinerM hd hn (fun ja ea a_29 => ?_) (fun a_29 => ?_)
        · subst ea
          refine gwr ?_
          refine h_if_eqF (xi := 1) (zi := 0) m134_60 rfl rfl (by decide) ?_
          refine g_iload m134_63 rfl ?_
          refine h_if_eqT (xi := 0) (zi := 0) m134_65 rfl rfl (by decide) ?_
          refine g_aload_n m134_87 rfl ?_
          refine g_ldci m134_88 rfl ?_
          refine h_cv (k := 57) (p := 89) (args := [.int (-1000000001)]) (rest := []) m134_90 cn_108 (Nat.le_of_ble_eq_true rfl) rfl rfl rfl (t_57 _ _) (Nat.le_of_ble_eq_true rfl) ?_
          refine c_errs (e := 1) (by decide) (by decide) (by decide) ?_
          refine gwr ?_
          refine g_iret m134_93 rt_134 ?_
          exact hE1 (by omega)
        · skip
          refine gwr ?_
          refine h_if_eqT (xi := 0) (zi := 0) m134_60 rfl rfl (by decide) ?_
          refine g_aload_n m134_87 rfl ?_
          refine g_ldci m134_88 rfl ?_
          refine h_cv (k := 57) (p := 89) (args := [.int (-1000000001)]) (rest := []) m134_90 cn_108 (Nat.le_of_ble_eq_true rfl) rfl rfl rfl (t_57 _ _) (Nat.le_of_ble_eq_true rfl) ?_
          refine c_errs (e := 1) (by decide) (by decide) (by decide) ?_
          refine gwr ?_
          refine g_iret m134_93 rt_134 ?_
          exact hE1 (by omega)
set_option maxRecDepth 20000 in
set_option maxHeartbeats 40000000 in
theorem x_next (hW : WF (vw m 0)) (hL : LawsOk m ln N) (hix : LawIx N (m 1 11)) (hY : ∀ m2, (∀ k j, ¬ (1 ≤ k ∧ k < 10) → ¬ minor k j → m2 k j = m k j) → (∀ j, j < 8 → ∀ i, m2 (j + 1 + 9 * 0) i = vw m 0 j i) → Q (some (.int (nI (setF (lkF m ln (m 1 11)) (vw m 0))))) (H m2 ln N)) : WP xs (d + 6) 73 0 0 [.ref (32)] (H m ln N) Q := by
  refine wp_x mx_73 (L := [some (.ref (32))]) (Nat.le_of_ble_eq_true rfl) rfl ?_
  refine g_aload_n m73_0 rfl ?_
  refine h_gfR (c := 33) (k := 0) (p := 32) m73_1 rfl (t_0 _ _) rfl (Nat.le_of_ble_eq_true rfl) ?_
  refine h_cv (k := 1) (p := 33) (args := []) (rest := []) m73_4 cn_36 (Nat.le_of_ble_eq_true rfl) rfl rfl rfl (t_1 _ _) (Nat.le_of_ble_eq_true rfl) ?_
  refine c_seeFaces (t := 0) (m0 := m) (X := vw m 0) (by decide) hL (AtX.self m 0) rfl hix hW (fun m1 hA1 => ?_)
  refine gwr0 ?_
  refine g_aload_n m73_7 rfl ?_
  refine h_gfR (c := 33) (k := 0) (p := 32) m73_8 rfl (t_0 _ _) rfl (Nat.le_of_ble_eq_true rfl) ?_
  refine h_cv (k := 1) (p := 33) (args := []) (rest := []) m73_11 cn_38 (Nat.le_of_ble_eq_true rfl) rfl rfl rfl (t_1 _ _) (Nat.le_of_ble_eq_true rfl) ?_
  obtain ⟨n, hn, hd⟩ := hW.1
  have hnn : nOf (vw m 0) = n := by unfold nOf; rw [hd]; exact nI_clamp (by omega)
  rw [hnn] at hA1
  refine c_served (t := 0) (by decide) hA1 hn ((facesX_8 _ _ _ 0 (by decide) 10).trans hd) ?_
  rw [set_f hnn]
  refine gwr ?_
  refine g_iret m73_14 rt_73 ?_
  have hset : setF (lkF m ln (m 1 11)) (vw m 0) = bitsF (svF (lkF m ln (m 1 11)) (vw m 0)) n := by unfold setF; rw [hnn]
  rw [hset] at hY
  exact hY m1 (fun k j q1 q2 => (hA1.out (by omega) q2)) (fun j hj i => (hA1.rd (by decide) (by omega)).trans (facesX_8 _ _ _ j (by omega) i))
set_option maxRecDepth 20000 in
set_option maxHeartbeats 40000000 in
theorem m_next (hX0 : TxOk (m 58) 0) (hWY : WF (vr (m 58))) (hY : ∀ m2, EqM m m2 → Q (some (.int (nI (setF (rkF (m 58)) (vr (m 58)))))) (H m2 ln N)) : WP xs (d + 815) 151 0 0 [.ref (89)] (H m ln N) Q := by
  refine wp_x mx_151 (L := [some (.ref (89))]) (Nat.le_of_ble_eq_true rfl) rfl ?_
  refine g_aload_n m151_0 rfl ?_
  refine h_cv (k := 57) (p := 89) (args := []) (rest := []) m151_1 cn_143 (Nat.le_of_ble_eq_true rfl) rfl rfl rfl (t_57 _ _) (Nat.le_of_ble_eq_true rfl) ?_
  refine c_servedM (AtY.self m) hX0 hWY (fun m2 hA => ?_)
  refine gwr ?_
  refine g_iret m151_4 rt_151 ?_
  exact hY m2 hA.back
theorem ahead_f {F : Nat → Int32} {X : MW} {n i : Nat} (hi : i < n) : aheadF (facesX F X n 8) (facesX F X n 7) n i = aheadF F (X 7) n i := by
  have e7 : facesX F X n 7 = X 7 := by
    funext k
    exact facesX_8 _ X n 7 (by decide) k
  have e8 : ∀ o, o < n → facesX F X n 8 o = F o := fun o ho => by
    unfold facesX
    rw [if_pos ⟨rfl, ho⟩]
  rw [e7]
  exact cntF_c n (fun o ho => by
    unfold isAhead
    rw [e8 i hi, e8 o ho])
set_option maxRecDepth 20000 in
set_option maxHeartbeats 40000000 in
theorem x_rank {a : Int32} {n : Nat} (hd : m 1 10 = nI n) (hn : n ≤ 8) (hW : WF (vw m 0)) (hL : LawsOk m ln N) (hix : LawIx N (m 1 11)) (hE1 : (a.toInt < 0 ∨ (n : Int) ≤ a.toInt) → Q (some (.int (-1000000000 - nI 1))) (H (erm m 1) ln N)) (hE3 : ∀ i : Nat, a = nI i → i < n → ¬ (m 8 i).toInt = 0 → Q (some (.int (-1000000000 - nI 3))) (H (erm m 3) ln N)) (hY : ∀ i : Nat, a = nI i → i < n → (m 8 i).toInt = 0 → ∀ m2, (∀ k j, ¬ (1 ≤ k ∧ k < 10) → ¬ minor k j → m2 k j = m k j) → (∀ j, j < 8 → ∀ i, m2 (j + 1 + 9 * 0) i = vw m 0 j i) → Q (some (.int (nI (aheadF (faceF (lkF m ln (m 1 11)) (vw m 0)) (vw m 0 7) n i)))) (H m2 ln N)) : WP xs (d + 5) 83 0 0 [.ref (32), .int (a)] (H m ln N) Q := by
  refine wp_x mx_83 (L := [some (.ref (32)), some (.int (a))]) (Nat.le_of_ble_eq_true rfl) rfl ?_
  refine g_aload_n m83_0 rfl ?_
  refine g_iload_n m83_1 rfl ?_
  refine h_cv (k := 0) (p := 32) (args := [.int (a)]) (rest := []) m83_2 cn_60 (Nat.le_of_ble_eq_true rfl) rfl rfl rfl (t_0 _ _) (Nat.le_of_ble_eq_true rfl) ?_
  refine c_isDiner hd hn (fun ja ea a_30 => ?_) (fun a_30 => ?_)
  · subst ea
    refine gwr ?_
    refine h_if_neF (xi := 1) (zi := 0) m83_5 rfl rfl (by decide) ?_
    refine g_aload_n m83_14 rfl ?_
    refine h_gfR (c := 33) (k := 0) (p := 32) m83_15 rfl (t_0 _ _) rfl (Nat.le_of_ble_eq_true rfl) ?_
    refine h_gfR (c := 40) (k := 1) (p := 33) m83_18 rfl (t_1 _ _) rfl (Nat.le_of_ble_eq_true rfl) ?_
    refine g_iload_n m83_21 rfl ?_
    refine h_bal (k := 8) (p := 40) (j := ja) m83_22 rfl (t_8 _ _) (rfl) (by omega) (Nat.le_of_ble_eq_true rfl) (rfl) ?_
    refine h_if_eq (xi := _) (zi := 0) m83_23 rfl rfl (fun c1 => ?_) (fun c1 => ?_)
    · skip
      refine g_aload_n m83_32 rfl ?_
      refine h_gfR (c := 33) (k := 0) (p := 32) m83_33 rfl (t_0 _ _) rfl (Nat.le_of_ble_eq_true rfl) ?_
      refine h_cv (k := 1) (p := 33) (args := []) (rest := []) m83_36 cn_36 (Nat.le_of_ble_eq_true rfl) rfl rfl rfl (t_1 _ _) (Nat.le_of_ble_eq_true rfl) ?_
      refine c_seeFaces (t := 0) (m0 := m) (X := vw m 0) (by decide) hL (AtX.self m 0) rfl hix hW (fun m1 hA1 => ?_)
      refine gwr0 ?_
      refine g_aload_n m83_39 rfl ?_
      refine h_gfR (c := 33) (k := 0) (p := 32) m83_40 rfl (t_0 _ _) rfl (Nat.le_of_ble_eq_true rfl) ?_
      refine g_iload_n m83_43 rfl ?_
      refine h_cv (k := 1) (p := 33) (args := [.int (nI (ja))]) (rest := []) m83_44 cn_37 (Nat.le_of_ble_eq_true rfl) rfl rfl rfl (t_1 _ _) (Nat.le_of_ble_eq_true rfl) ?_
      have hdv : vw m 0 0 10 = nI n := hd
      have hnn : nOf (vw m 0) = n := by unfold nOf; rw [hdv]; exact nI_clamp (by omega)
      rw [hnn] at hA1
      refine c_aheadOf (t := 0) (by decide) hA1 (by omega) hn ((facesX_8 _ _ _ 0 (by decide) 10).trans hdv) ?_
      rw [ahead_f (by omega)]
      refine gwr ?_
      refine g_iret m83_47 rt_83 ?_
      exact hY ja rfl (by omega) (by assumption) m1 (fun k j q1 q2 => (hA1.out (by omega) q2)) (fun j hj i => (hA1.rd (by decide) (by omega)).trans (facesX_8 _ _ _ j (by omega) i))
    · skip
      refine g_aload_n m83_26 rfl ?_
      refine g_iconst m83_27 ?_
      refine h_cv (k := 0) (p := 32) (args := [.int (3)]) (rest := []) m83_28 cn_55 (Nat.le_of_ble_eq_true rfl) rfl rfl rfl (t_0 _ _) (Nat.le_of_ble_eq_true rfl) ?_
      refine c_error (e := 3) (by decide) (by decide) ?_
      refine gwr ?_
      refine g_iret m83_31 rt_83 ?_
      exact hE3 ja rfl (by omega) (by assumption)
  · skip
    refine gwr ?_
    refine h_if_neT (xi := 0) (zi := 0) m83_5 rfl rfl (by decide) ?_
    refine g_aload_n m83_8 rfl ?_
    refine g_iconst m83_9 ?_
    refine h_cv (k := 0) (p := 32) (args := [.int (1)]) (rest := []) m83_10 cn_55 (Nat.le_of_ble_eq_true rfl) rfl rfl rfl (t_0 _ _) (Nat.le_of_ble_eq_true rfl) ?_
    refine c_error (e := 1) (by decide) (by decide) ?_
    refine gwr ?_
    refine g_iret m83_13 rt_83 ?_
    exact hE1 (by omega)
set_option maxRecDepth 20000 in
set_option maxHeartbeats 40000000 in
theorem m_rank {a : Int32} {n : Nat} (hd : m 58 2 = nI n) (hn : n ≤ 8) (hX0 : TxOk (m 58) 0) (hWY : WF (vr (m 58))) (hE1 : (a.toInt < 0 ∨ (n : Int) ≤ a.toInt) → Q (some (.int (-1000000001))) (H (ers m 1) ln N)) (hE3 : ∀ i : Nat, a = nI i → i < n → (m 58 (16 + 6 * i + 5)).toInt = 1 → Q (some (.int (-1000000003))) (H (ers m 3) ln N)) (hY : ∀ i : Nat, a = nI i → i < n → ¬ (m 58 (16 + 6 * i + 5)).toInt = 1 → ∀ m2, EqM m m2 → Q (some (.int (nI (aheadF (faceF (rkF (m 58)) (vr (m 58))) (vr (m 58) 7) n i)))) (H m2 ln N)) : WP xs (d + 814) 163 0 0 [.ref (89), .int (a)] (H m ln N) Q := by
  refine wp_x mx_163 (L := [some (.ref (89)), some (.int (a))]) (Nat.le_of_ble_eq_true rfl) rfl ?_
  refine g_aload_n m163_0 rfl ?_
  refine g_iload_n m163_1 rfl ?_
  refine h_cv (k := 57) (p := 89) (args := [.int (a)]) (rest := []) m163_2 cn_113 (Nat.le_of_ble_eq_true rfl) rfl rfl rfl (t_57 _ _) (Nat.le_of_ble_eq_true rfl) ?_
  refine c_isDinerM hd hn (fun ja ea a_31 => ?_) (fun a_31 => ?_)
  · subst ea
    refine gwr ?_
    refine h_if_neF (xi := 1) (zi := 0) m163_5 rfl rfl (by decide) ?_
    refine g_aload_n m163_15 rfl ?_
    refine g_iload_n m163_16 rfl ?_
    refine g_iconst m163_17 ?_
    refine h_cv (k := 57) (p := 89) (args := [.int (nI (ja)), .int (5)]) (rest := []) m163_18 cn_111 (Nat.le_of_ble_eq_true rfl) rfl rfl rfl (t_57 _ _) (Nat.le_of_ble_eq_true rfl) ?_
    refine c_its (w := 5) (by omega) (by omega) ?_
    refine gwr ?_
    refine g_iconst m163_21 ?_
    refine h_ic_ne (xi := _) (zi := 1) m163_22 rfl rfl (fun c1 => ?_) (fun c1 => ?_)
    · skip
      refine g_aload_n m163_25 rfl ?_
      refine g_ldci m163_26 rfl ?_
      refine h_cv (k := 57) (p := 89) (args := [.int (-1000000003)]) (rest := []) m163_28 cn_108 (Nat.le_of_ble_eq_true rfl) rfl rfl rfl (t_57 _ _) (Nat.le_of_ble_eq_true rfl) ?_
      refine c_errs (e := 3) (by decide) (by decide) (by decide) ?_
      refine gwr ?_
      refine g_goto m163_31 ?_
      refine g_iret m163_39 rt_163 ?_
      exact hE3 ja rfl (by omega) (by assumption)
    · skip
      refine g_aload_n m163_34 rfl ?_
      refine g_iload_n m163_35 rfl ?_
      refine h_cv (k := 57) (p := 89) (args := [.int (nI (ja))]) (rest := []) m163_36 cn_142 (Nat.le_of_ble_eq_true rfl) rfl rfl rfl (t_57 _ _) (Nat.le_of_ble_eq_true rfl) ?_
      have hdv : vr (m 58) 0 10 = nI n := hd
      have hnn : nOf (vr (m 58)) = n := by unfold nOf; rw [hdv]; exact nI_clamp (by omega)
      refine c_ahead (AtY.self m) hX0 hWY (by omega) (fun m2 hA => ?_)
      rw [hnn]
      refine gwr ?_
      refine g_iret m163_39 rt_163 ?_
      exact hY ja rfl (by omega) (by assumption) m2 hA.back
  · skip
    refine gwr ?_
    refine h_if_neT (xi := 0) (zi := 0) m163_5 rfl rfl (by decide) ?_
    refine g_aload_n m163_8 rfl ?_
    refine g_ldci m163_9 rfl ?_
    refine h_cv (k := 57) (p := 89) (args := [.int (-1000000001)]) (rest := []) m163_11 cn_108 (Nat.le_of_ble_eq_true rfl) rfl rfl rfl (t_57 _ _) (Nat.le_of_ble_eq_true rfl) ?_
    refine c_errs (e := 1) (by decide) (by decide) (by decide) ?_
    refine gwr ?_
    refine g_iret m163_14 rt_163 ?_
    exact hE1 (by omega)
end
