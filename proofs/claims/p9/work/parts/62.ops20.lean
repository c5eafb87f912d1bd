/-! VOICE -/
section
variable {xs : List Int32} {d : Nat} {h : AH} {Q : QT} {m : MW} {ln : Nat → Nat} {N : Nat}
set_option maxRecDepth 20000 in
set_option maxHeartbeats 40000000 in
theorem x_voice {a b x : Int32} {n : Nat} {K : Nat → Nat} (hd : m 1 10 = nI n) (hn : n ≤ 8) (hK : ∀ i, i < 8 → K i < 7 ∧ m 3 i = nI (K i)) (hE1 : (a.toInt < 0 ∨ (n : Int) ≤ a.toInt ∨ b.toInt < 0 ∨ 3 < b.toInt) → Q (some (.int (-1000000000 - nI 1))) (H (erm m 1) ln N)) (hY : ∀ i j : Nat, a = nI i → i < n → b = nI j → j ≤ 3 → Q (some (.int (vocF (K i) j x (nI i) (m 4 i)))) (H (lgM (upm (upm (upm (upm m 45 0 (nI i)) 45 1 (m 4 i)) 45 2 (nI (K i))) 45 4 0) 0 (vocL (K i) j)) ln N)) : WP xs (d + 16) 93 0 0 [.ref (32), .int (a), .int (b), .int (x)] (H m ln N) Q := by
  refine wp_x mx_93 (L := [some (.ref (32)), some (.int (a)), some (.int (b)), some (.int (x))]) (Nat.le_of_ble_eq_true rfl) rfl ?_
  refine g_aload_n m93_0 rfl ?_
  refine g_iload_n m93_1 rfl ?_
  refine h_cv (k := 0) (p := 32) (args := [.int (a)]) (rest := []) m93_2 cn_60 (Nat.le_of_ble_eq_true rfl) rfl rfl rfl (t_0 _ _) (Nat.le_of_ble_eq_true rfl) ?_
  refine c_isDiner hd hn (fun ja ea a_1 => ?_) (fun a_1 => ?_)
  · subst ea
    refine gwr ?_
    refine h_if_eqF (xi := 1) (zi := 0) m93_5 rfl rfl (by decide) ?_
    refine g_iload_n m93_8 rfl ?_
    refine g_iconst m93_9 ?_
    refine g_cs (args := [.int (b), .int (3)]) (rest := []) 0 (Or.inl rfl) m93_10 (Nat.le_of_ble_eq_true rfl) rfl rfl (Nat.le_of_ble_eq_true rfl) ?_
    refine c_within (M := 3) rfl (fun jb eb a_2 => ?_) (fun a_2 => ?_)
    · subst eb
      refine gwr ?_
      refine h_if_neF (xi := 1) (zi := 0) m93_13 rfl rfl (by decide) ?_
      refine g_aload_n m93_22 rfl ?_
      refine h_gfR (c := 77) (k := 0) (p := 32) m93_23 rfl (t_0 _ _) rfl (Nat.le_of_ble_eq_true rfl) ?_
      refine g_iload_n m93_26 rfl ?_
      refine h_pfI (k := 45) (p := 77) m93_27 rfl (t_45 _ _) rfl trivial ?_
      refine g_aload_n m93_30 rfl ?_
      refine h_gfR (c := 77) (k := 0) (p := 32) m93_31 rfl (t_0 _ _) rfl (Nat.le_of_ble_eq_true rfl) ?_
      refine g_aload_n m93_34 rfl ?_
      refine h_gfR (c := 33) (k := 0) (p := 32) m93_35 rfl (t_0 _ _) rfl (Nat.le_of_ble_eq_true rfl) ?_
      refine h_gfR (c := 36) (k := 1) (p := 33) m93_38 rfl (t_1 _ _) rfl (Nat.le_of_ble_eq_true rfl) ?_
      refine g_iload_n m93_41 rfl ?_
      have hja : ja < 8 := by omega
      have eka := hK ja hja
      refine h_ial (k := 4) (p := 36) (j := ja) m93_42 rfl (t_4 _ _) (rfl) (by omega) (Nat.le_of_ble_eq_true rfl) (upm_k _ _ (by decide)) ?_
      refine h_pfI (k := 45) (p := 77) m93_43 rfl (t_45 _ _) rfl trivial ?_
      refine g_aload_n m93_46 rfl ?_
      refine h_gfR (c := 77) (k := 0) (p := 32) m93_47 rfl (t_0 _ _) rfl (Nat.le_of_ble_eq_true rfl) ?_
      refine g_aload_n m93_50 rfl ?_
      refine h_gfR (c := 33) (k := 0) (p := 32) m93_51 rfl (t_0 _ _) rfl (Nat.le_of_ble_eq_true rfl) ?_
      refine h_gfR (c := 35) (k := 1) (p := 33) m93_54 rfl (t_1 _ _) rfl (Nat.le_of_ble_eq_true rfl) ?_
      refine g_iload_n m93_57 rfl ?_
      refine h_ial (k := 3) (p := 35) (j := ja) m93_58 rfl (t_3 _ _) (rfl) (by omega) (Nat.le_of_ble_eq_true rfl) ((upm_k _ _ (by decide)).trans ((upm_k _ _ (by decide)).trans eka.2)) ?_
      refine h_pfI (k := 45) (p := 77) m93_59 rfl (t_45 _ _) rfl trivial ?_
      refine g_aload_n m93_62 rfl ?_
      refine h_gfR (c := 77) (k := 0) (p := 32) m93_63 rfl (t_0 _ _) rfl (Nat.le_of_ble_eq_true rfl) ?_
      refine g_iconst m93_66 ?_
      refine h_pfI (k := 45) (p := 77) m93_67 rfl (t_45 _ _) rfl trivial ?_
      refine g_aload_n m93_70 rfl ?_
      refine h_gfR (c := 77) (k := 0) (p := 32) m93_71 rfl (t_0 _ _) rfl (Nat.le_of_ble_eq_true rfl) ?_
      refine g_iload_n m93_74 rfl ?_
      refine g_aload_n m93_75 rfl ?_
      refine h_gfR (c := 77) (k := 0) (p := 32) m93_76 rfl (t_0 _ _) rfl (Nat.le_of_ble_eq_true rfl) ?_
      refine h_gfI (k := 45) (p := 77) m93_79 rfl (t_45 _ _) rfl ((upm_j _ _ (by decide)).trans (upm_self _ _ _ _)) ?_
      refine g_iload_n m93_82 rfl ?_
      refine g_iconst m93_83 ?_
      refine g_cs (args := [.ref (77), .int (nI (jb)), .int (nI (K ja)), .int (x), .int (0)]) (rest := []) 0 (Or.inl rfl) m93_84 (Nat.le_of_ble_eq_true rfl) rfl rfl (Nat.le_of_ble_eq_true rfl) ?_
      rcases (show jb = 0 ∨ jb = 1 ∨ jb = 2 ∨ jb = 3 by omega) with rfl | rfl | rfl | rfl
      · skip
        generalize hkk : K ja = kk at eka ⊢
        have hk7 := eka.1
        rcases (show kk = 0 ∨ kk = 1 ∨ kk = 2 ∨ kk = 3 ∨ kk = 4 ∨ kk = 5 ∨ kk = 6 by omega) with rfl | rfl | rfl | rfl | rfl | rfl | rfl
        · skip
          refine c_sp_0_0_0 (b := 0) (e := 0) (nv := nI ja) (mv := m 4 ja) (upm_self _ _ _ _) (by decide) ((upm_j _ _ (by decide)).trans (upm_self _ _ _ _)) ((upm_j _ _ (by decide)).trans ((upm_j _ _ (by decide)).trans ((upm_j _ _ (by decide)).trans (upm_self _ _ _ _)))) ((upm_j _ _ (by decide)).trans ((upm_j _ _ (by decide)).trans (upm_self _ _ _ _))) (by decide) ?_
          refine gwr ?_
          refine g_iret m93_87 rt_93 ?_
          have h9 := hY ja 0 rfl (by omega) rfl (by decide)
          rw [hkk] at h9
          exact h9
        · skip
          refine c_sp_1_0_1 (b := 0) (e := 0) (nv := nI ja) (mv := m 4 ja) (upm_self _ _ _ _) (by decide) ((upm_j _ _ (by decide)).trans (upm_self _ _ _ _)) ((upm_j _ _ (by decide)).trans ((upm_j _ _ (by decide)).trans ((upm_j _ _ (by decide)).trans (upm_self _ _ _ _)))) ((upm_j _ _ (by decide)).trans ((upm_j _ _ (by decide)).trans (upm_self _ _ _ _))) (by decide) ?_
          refine gwr ?_
          refine g_iret m93_87 rt_93 ?_
          have h9 := hY ja 0 rfl (by omega) rfl (by decide)
          rw [hkk] at h9
          exact h9
        · skip
          refine c_sp_2_0_2 (b := 0) (e := 0) (nv := nI ja) (mv := m 4 ja) (upm_self _ _ _ _) (by decide) ((upm_j _ _ (by decide)).trans (upm_self _ _ _ _)) ((upm_j _ _ (by decide)).trans ((upm_j _ _ (by decide)).trans ((upm_j _ _ (by decide)).trans (upm_self _ _ _ _)))) ((upm_j _ _ (by decide)).trans ((upm_j _ _ (by decide)).trans (upm_self _ _ _ _))) (by decide) ?_
          refine gwr ?_
          refine g_iret m93_87 rt_93 ?_
          have h9 := hY ja 0 rfl (by omega) rfl (by decide)
          rw [hkk] at h9
          exact h9
        · skip
          refine c_sp_3_0_3 (b := 0) (e := 0) (nv := nI ja) (mv := m 4 ja) (upm_self _ _ _ _) (by decide) ((upm_j _ _ (by decide)).trans (upm_self _ _ _ _)) ((upm_j _ _ (by decide)).trans ((upm_j _ _ (by decide)).trans ((upm_j _ _ (by decide)).trans (upm_self _ _ _ _)))) ((upm_j _ _ (by decide)).trans ((upm_j _ _ (by decide)).trans (upm_self _ _ _ _))) (by decide) ?_
          refine gwr ?_
          refine g_iret m93_87 rt_93 ?_
          have h9 := hY ja 0 rfl (by omega) rfl (by decide)
          rw [hkk] at h9
          exact h9
        · skip
          refine c_sp_4_0_4 (b := 0) (e := 0) (nv := nI ja) (mv := m 4 ja) (upm_self _ _ _ _) (by decide) ((upm_j _ _ (by decide)).trans (upm_self _ _ _ _)) ((upm_j _ _ (by decide)).trans ((upm_j _ _ (by decide)).trans ((upm_j _ _ (by decide)).trans (upm_self _ _ _ _)))) ((upm_j _ _ (by decide)).trans ((upm_j _ _ (by decide)).trans (upm_self _ _ _ _))) (by decide) ?_
          refine gwr ?_
          refine g_iret m93_87 rt_93 ?_
          have h9 := hY ja 0 rfl (by omega) rfl (by decide)
          rw [hkk] at h9
          exact h9
        · skip
          refine c_sp_5_0_5 (b := 0) (e := 0) (nv := nI ja) (mv := m 4 ja) (upm_self _ _ _ _) (by decide) ((upm_j _ _ (by decide)).trans (upm_self _ _ _ _)) ((upm_j _ _ (by decide)).trans ((upm_j _ _ (by decide)).trans ((upm_j _ _ (by decide)).trans (upm_self _ _ _ _)))) ((upm_j _ _ (by decide)).trans ((upm_j _ _ (by decide)).trans (upm_self _ _ _ _))) (by decide) ?_
          refine gwr ?_
          refine g_iret m93_87 rt_93 ?_
          have h9 := hY ja 0 rfl (by omega) rfl (by decide)
          rw [hkk] at h9
          exact h9
        · skip
          refine c_sp_6_0_6 (b := 0) (e := 0) (nv := nI ja) (mv := m 4 ja) (upm_self _ _ _ _) (by decide) ((upm_j _ _ (by decide)).trans (upm_self _ _ _ _)) ((upm_j _ _ (by decide)).trans ((upm_j _ _ (by decide)).trans ((upm_j _ _ (by decide)).trans (upm_self _ _ _ _)))) ((upm_j _ _ (by decide)).trans ((upm_j _ _ (by decide)).trans (upm_self _ _ _ _))) (by decide) ?_
          refine gwr ?_
          refine g_iret m93_87 rt_93 ?_
          have h9 := hY ja 0 rfl (by omega) rfl (by decide)
          rw [hkk] at h9
          exact h9
      · skip
        generalize hkk : K ja = kk at eka ⊢
        have hk7 := eka.1
        rcases (show kk = 0 ∨ kk = 1 ∨ kk = 2 ∨ kk = 3 ∨ kk = 4 ∨ kk = 5 ∨ kk = 6 by omega) with rfl | rfl | rfl | rfl | rfl | rfl | rfl
        · skip
          refine c_sp_0_1_0 (b := 0) (e := 0) (nv := nI ja) (mv := m 4 ja) (upm_self _ _ _ _) (by decide) ((upm_j _ _ (by decide)).trans (upm_self _ _ _ _)) ((upm_j _ _ (by decide)).trans ((upm_j _ _ (by decide)).trans ((upm_j _ _ (by decide)).trans (upm_self _ _ _ _)))) ((upm_j _ _ (by decide)).trans ((upm_j _ _ (by decide)).trans (upm_self _ _ _ _))) (by decide) ?_
          refine gwr ?_
          refine g_iret m93_87 rt_93 ?_
          have h9 := hY ja 1 rfl (by omega) rfl (by decide)
          rw [hkk] at h9
          exact h9
        · skip
          refine c_sp_1_1_1 (b := 0) (e := 0) (nv := nI ja) (mv := m 4 ja) (upm_self _ _ _ _) (by decide) ((upm_j _ _ (by decide)).trans (upm_self _ _ _ _)) ((upm_j _ _ (by decide)).trans ((upm_j _ _ (by decide)).trans ((upm_j _ _ (by decide)).trans (upm_self _ _ _ _)))) ((upm_j _ _ (by decide)).trans ((upm_j _ _ (by decide)).trans (upm_self _ _ _ _))) (by decide) ?_
          refine gwr ?_
          refine g_iret m93_87 rt_93 ?_
          have h9 := hY ja 1 rfl (by omega) rfl (by decide)
          rw [hkk] at h9
          exact h9
        · skip
          refine c_sp_2_1_2 (b := 0) (e := 0) (nv := nI ja) (mv := m 4 ja) (upm_self _ _ _ _) (by decide) ((upm_j _ _ (by decide)).trans (upm_self _ _ _ _)) ((upm_j _ _ (by decide)).trans ((upm_j _ _ (by decide)).trans ((upm_j _ _ (by decide)).trans (upm_self _ _ _ _)))) ((upm_j _ _ (by decide)).trans ((upm_j _ _ (by decide)).trans (upm_self _ _ _ _))) (by decide) ?_
          refine gwr ?_
          refine g_iret m93_87 rt_93 ?_
          have h9 := hY ja 1 rfl (by omega) rfl (by decide)
          rw [hkk] at h9
          exact h9
        · skip
          refine c_sp_3_1_3 (b := 0) (e := 0) (nv := nI ja) (mv := m 4 ja) (upm_self _ _ _ _) (by decide) ((upm_j _ _ (by decide)).trans (upm_self _ _ _ _)) ((upm_j _ _ (by decide)).trans ((upm_j _ _ (by decide)).trans ((upm_j _ _ (by decide)).trans (upm_self _ _ _ _)))) ((upm_j _ _ (by decide)).trans ((upm_j _ _ (by decide)).trans (upm_self _ _ _ _))) (by decide) ?_
          refine gwr ?_
          refine g_iret m93_87 rt_93 ?_
          have h9 := hY ja 1 rfl (by omega) rfl (by decide)
          rw [hkk] at h9
          exact h9
        · skip
          refine c_sp_4_1_4 (b := 0) (e := 0) (nv := nI ja) (mv := m 4 ja) (upm_self _ _ _ _) (by decide) ((upm_j _ _ (by decide)).trans (upm_self _ _ _ _)) ((upm_j _ _ (by decide)).trans ((upm_j _ _ (by decide)).trans ((upm_j _ _ (by decide)).trans (upm_self _ _ _ _)))) ((upm_j _ _ (by decide)).trans ((upm_j _ _ (by decide)).trans (upm_self _ _ _ _))) (by decide) ?_
          refine gwr ?_
          refine g_iret m93_87 rt_93 ?_
          have h9 := hY ja 1 rfl (by omega) rfl (by decide)
          rw [hkk] at h9
          exact h9
        · skip
          refine c_sp_5_1_5 (b := 0) (e := 0) (nv := nI ja) (mv := m 4 ja) (upm_self _ _ _ _) (by decide) ((upm_j _ _ (by decide)).trans (upm_self _ _ _ _)) ((upm_j _ _ (by decide)).trans ((upm_j _ _ (by decide)).trans ((upm_j _ _ (by decide)).trans (upm_self _ _ _ _)))) ((upm_j _ _ (by decide)).trans ((upm_j _ _ (by decide)).trans (upm_self _ _ _ _))) (by decide) ?_
          refine gwr ?_
          refine g_iret m93_87 rt_93 ?_
          have h9 := hY ja 1 rfl (by omega) rfl (by decide)
          rw [hkk] at h9
          exact h9
        · skip
          refine c_sp_6_1_6 (b := 0) (e := 0) (nv := nI ja) (mv := m 4 ja) (upm_self _ _ _ _) (by decide) ((upm_j _ _ (by decide)).trans (upm_self _ _ _ _)) ((upm_j _ _ (by decide)).trans ((upm_j _ _ (by decide)).trans ((upm_j _ _ (by decide)).trans (upm_self _ _ _ _)))) ((upm_j _ _ (by decide)).trans ((upm_j _ _ (by decide)).trans (upm_self _ _ _ _))) (by decide) ?_
          refine gwr ?_
          refine g_iret m93_87 rt_93 ?_
          have h9 := hY ja 1 rfl (by omega) rfl (by decide)
          rw [hkk] at h9
          exact h9
      · skip
        generalize hkk : K ja = kk at eka ⊢
        have hk7 := eka.1
        rcases (show kk = 0 ∨ kk = 1 ∨ kk = 2 ∨ kk = 3 ∨ kk = 4 ∨ kk = 5 ∨ kk = 6 by omega) with rfl | rfl | rfl | rfl | rfl | rfl | rfl
        · skip
          refine c_sp_0_2_0 (b := 0) (e := 0) (nv := nI ja) (mv := m 4 ja) (upm_self _ _ _ _) (by decide) ((upm_j _ _ (by decide)).trans (upm_self _ _ _ _)) ((upm_j _ _ (by decide)).trans ((upm_j _ _ (by decide)).trans ((upm_j _ _ (by decide)).trans (upm_self _ _ _ _)))) ((upm_j _ _ (by decide)).trans ((upm_j _ _ (by decide)).trans (upm_self _ _ _ _))) (by decide) ?_
          refine gwr ?_
          refine g_iret m93_87 rt_93 ?_
          have h9 := hY ja 2 rfl (by omega) rfl (by decide)
          rw [hkk] at h9
          exact h9
        · skip
          refine c_sp_1_2_1 (b := 0) (e := 0) (nv := nI ja) (mv := m 4 ja) (upm_self _ _ _ _) (by decide) ((upm_j _ _ (by decide)).trans (upm_self _ _ _ _)) ((upm_j _ _ (by decide)).trans ((upm_j _ _ (by decide)).trans ((upm_j _ _ (by decide)).trans (upm_self _ _ _ _)))) ((upm_j _ _ (by decide)).trans ((upm_j _ _ (by decide)).trans (upm_self _ _ _ _))) (by decide) ?_
          refine gwr ?_
          refine g_iret m93_87 rt_93 ?_
          have h9 := hY ja 2 rfl (by omega) rfl (by decide)
          rw [hkk] at h9
          exact h9
        · skip
          refine c_sp_2_2_2 (b := 0) (e := 0) (nv := nI ja) (mv := m 4 ja) (upm_self _ _ _ _) (by decide) ((upm_j _ _ (by decide)).trans (upm_self _ _ _ _)) ((upm_j _ _ (by decide)).trans ((upm_j _ _ (by decide)).trans ((upm_j _ _ (by decide)).trans (upm_self _ _ _ _)))) ((upm_j _ _ (by decide)).trans ((upm_j _ _ (by decide)).trans (upm_self _ _ _ _))) (by decide) ?_
          refine gwr ?_
          refine g_iret m93_87 rt_93 ?_
          have h9 := hY ja 2 rfl (by omega) rfl (by decide)
          rw [hkk] at h9
          exact h9
        · skip
          refine c_sp_3_2_3 (b := 0) (e := 0) (nv := nI ja) (mv := m 4 ja) (upm_self _ _ _ _) (by decide) ((upm_j _ _ (by decide)).trans (upm_self _ _ _ _)) ((upm_j _ _ (by decide)).trans ((upm_j _ _ (by decide)).trans ((upm_j _ _ (by decide)).trans (upm_self _ _ _ _)))) ((upm_j _ _ (by decide)).trans ((upm_j _ _ (by decide)).trans (upm_self _ _ _ _))) (by decide) ?_
          refine gwr ?_
          refine g_iret m93_87 rt_93 ?_
          have h9 := hY ja 2 rfl (by omega) rfl (by decide)
          rw [hkk] at h9
          exact h9
        · skip
          refine c_sp_4_2_4 (b := 0) (e := 0) (nv := nI ja) (mv := m 4 ja) (upm_self _ _ _ _) (by decide) ((upm_j _ _ (by decide)).trans (upm_self _ _ _ _)) ((upm_j _ _ (by decide)).trans ((upm_j _ _ (by decide)).trans ((upm_j _ _ (by decide)).trans (upm_self _ _ _ _)))) ((upm_j _ _ (by decide)).trans ((upm_j _ _ (by decide)).trans (upm_self _ _ _ _))) (by decide) ?_
          refine gwr ?_
          refine g_iret m93_87 rt_93 ?_
          have h9 := hY ja 2 rfl (by omega) rfl (by decide)
          rw [hkk] at h9
          exact h9
        · skip
          refine c_sp_5_2_5 (b := 0) (e := 0) (nv := nI ja) (mv := m 4 ja) (upm_self _ _ _ _) (by decide) ((upm_j _ _ (by decide)).trans (upm_self _ _ _ _)) ((upm_j _ _ (by decide)).trans ((upm_j _ _ (by decide)).trans ((upm_j _ _ (by decide)).trans (upm_self _ _ _ _)))) ((upm_j _ _ (by decide)).trans ((upm_j _ _ (by decide)).trans (upm_self _ _ _ _))) (by decide) ?_
          refine gwr ?_
          refine g_iret m93_87 rt_93 ?_
          have h9 := hY ja 2 rfl (by omega) rfl (by decide)
          rw [hkk] at h9
          exact h9
        · skip
          refine c_sp_6_2_6 (b := 0) (e := 0) (nv := nI ja) (mv := m 4 ja) (upm_self _ _ _ _) (by decide) ((upm_j _ _ (by decide)).trans (upm_self _ _ _ _)) ((upm_j _ _ (by decide)).trans ((upm_j _ _ (by decide)).trans ((upm_j _ _ (by decide)).trans (upm_self _ _ _ _)))) ((upm_j _ _ (by decide)).trans ((upm_j _ _ (by decide)).trans (upm_self _ _ _ _))) (by decide) ?_
          refine gwr ?_
          refine g_iret m93_87 rt_93 ?_
          have h9 := hY ja 2 rfl (by omega) rfl (by decide)
          rw [hkk] at h9
          exact h9
      · skip
        generalize hkk : K ja = kk at eka ⊢
        have hk7 := eka.1
        rcases (show kk = 0 ∨ kk = 1 ∨ kk = 2 ∨ kk = 3 ∨ kk = 4 ∨ kk = 5 ∨ kk = 6 by omega) with rfl | rfl | rfl | rfl | rfl | rfl | rfl
        · skip
          refine c_sp_0_3_0 (b := 0) (e := 0) (nv := nI ja) (mv := m 4 ja) (upm_self _ _ _ _) (by decide) ((upm_j _ _ (by decide)).trans (upm_self _ _ _ _)) ((upm_j _ _ (by decide)).trans ((upm_j _ _ (by decide)).trans ((upm_j _ _ (by decide)).trans (upm_self _ _ _ _)))) ((upm_j _ _ (by decide)).trans ((upm_j _ _ (by decide)).trans (upm_self _ _ _ _))) (by decide) ?_
          refine gwr ?_
          refine g_iret m93_87 rt_93 ?_
          have h9 := hY ja 3 rfl (by omega) rfl (by decide)
          rw [hkk] at h9
          exact h9
        · skip
          refine c_sp_1_3_1 (b := 0) (e := 0) (nv := nI ja) (mv := m 4 ja) (upm_self _ _ _ _) (by decide) ((upm_j _ _ (by decide)).trans (upm_self _ _ _ _)) ((upm_j _ _ (by decide)).trans ((upm_j _ _ (by decide)).trans ((upm_j _ _ (by decide)).trans (upm_self _ _ _ _)))) ((upm_j _ _ (by decide)).trans ((upm_j _ _ (by decide)).trans (upm_self _ _ _ _))) (by decide) ?_
          refine gwr ?_
          refine g_iret m93_87 rt_93 ?_
          have h9 := hY ja 3 rfl (by omega) rfl (by decide)
          rw [hkk] at h9
          exact h9
        · skip
          refine c_sp_2_3_2 (b := 0) (e := 0) (nv := nI ja) (mv := m 4 ja) (upm_self _ _ _ _) (by decide) ((upm_j _ _ (by decide)).trans (upm_self _ _ _ _)) ((upm_j _ _ (by decide)).trans ((upm_j _ _ (by decide)).trans ((upm_j _ _ (by decide)).trans (upm_self _ _ _ _)))) ((upm_j _ _ (by decide)).trans ((upm_j _ _ (by decide)).trans (upm_self _ _ _ _))) (by decide) ?_
          refine gwr ?_
          refine g_iret m93_87 rt_93 ?_
          have h9 := hY ja 3 rfl (by omega) rfl (by decide)
          rw [hkk] at h9
          exact h9
        · skip
          refine c_sp_3_3_3 (b := 0) (e := 0) (nv := nI ja) (mv := m 4 ja) (upm_self _ _ _ _) (by decide) ((upm_j _ _ (by decide)).trans (upm_self _ _ _ _)) ((upm_j _ _ (by decide)).trans ((upm_j _ _ (by decide)).trans ((upm_j _ _ (by decide)).trans (upm_self _ _ _ _)))) ((upm_j _ _ (by decide)).trans ((upm_j _ _ (by decide)).trans (upm_self _ _ _ _))) (by decide) ?_
          refine gwr ?_
          refine g_iret m93_87 rt_93 ?_
          have h9 := hY ja 3 rfl (by omega) rfl (by decide)
          rw [hkk] at h9
          exact h9
        · skip
          refine c_sp_4_3_4 (b := 0) (e := 0) (nv := nI ja) (mv := m 4 ja) (upm_self _ _ _ _) (by decide) ((upm_j _ _ (by decide)).trans (upm_self _ _ _ _)) ((upm_j _ _ (by decide)).trans ((upm_j _ _ (by decide)).trans ((upm_j _ _ (by decide)).trans (upm_self _ _ _ _)))) ((upm_j _ _ (by decide)).trans ((upm_j _ _ (by decide)).trans (upm_self _ _ _ _))) (by decide) ?_
          refine gwr ?_
          refine g_iret m93_87 rt_93 ?_
          have h9 := hY ja 3 rfl (by omega) rfl (by decide)
          rw [hkk] at h9
          exact h9
        · skip
          refine c_sp_5_3_5 (b := 0) (e := 0) (nv := nI ja) (mv := m 4 ja) (upm_self _ _ _ _) (by decide) ((upm_j _ _ (by decide)).trans (upm_self _ _ _ _)) ((upm_j _ _ (by decide)).trans ((upm_j _ _ (by decide)).trans ((upm_j _ _ (by decide)).trans (upm_self _ _ _ _)))) ((upm_j _ _ (by decide)).trans ((upm_j _ _ (by decide)).trans (upm_self _ _ _ _))) (by decide) ?_
          refine gwr ?_
          refine g_iret m93_87 rt_93 ?_
          have h9 := hY ja 3 rfl (by omega) rfl (by decide)
          rw [hkk] at h9
          exact h9
        · skip
          refine c_sp_6_3_6 (b := 0) (e := 0) (nv := nI ja) (mv := m 4 ja) (upm_self _ _ _ _) (by decide) ((upm_j _ _ (by decide)).trans (upm_self _ _ _ _)) ((upm_j _ _ (by decide)).trans ((upm_j _ _ (by decide)).trans ((upm_j _ _ (by decide)).trans (upm_self _ _ _ _)))) ((upm_j _ _ (by decide)).trans ((upm_j _ _ (by decide)).trans (upm_self _ _ _ _))) (by decide) ?_
          refine gwr ?_
          refine g_iret m93_87 rt_93 ?_
          have h9 := hY ja 3 rfl (by omega) rfl (by decide)
          rw [hkk] at h9
          exact h9
    · skip
      refine gwr ?_
      refine h_if_neT (xi := 0) (zi := 0) m93_13 rfl rfl (by decide) ?_
      refine g_aload_n m93_16 rfl ?_
      refine g_iconst m93_17 ?_
      refine h_cv (k := 0) (p := 32) (args := [.int (1)]) (rest := []) m93_18 cn_55 (Nat.le_of_ble_eq_true rfl) rfl rfl rfl (t_0 _ _) (Nat.le_of_ble_eq_true rfl) ?_
      refine c_error (e := 1) (by decide) (by decide) ?_
      refine gwr ?_
      refine g_iret m93_21 rt_93 ?_
      exact hE1 (by omega)
  · skip
    refine gwr ?_
    refine h_if_eqT (xi := 0) (zi := 0) m93_5 rfl rfl (by decide) ?_
    refine g_aload_n m93_16 rfl ?_
    refine g_iconst m93_17 ?_
    refine h_cv (k := 0) (p := 32) (args := [.int (1)]) (rest := []) m93_18 cn_55 (Nat.le_of_ble_eq_true rfl) rfl rfl rfl (t_0 _ _) (Nat.le_of_ble_eq_true rfl) ?_
    refine c_error (e := 1) (by decide) (by decide) ?_
    refine gwr ?_
    refine g_iret m93_21 rt_93 ?_
    exact hE1 (by omega)
set_option maxRecDepth 20000 in
set_option maxHeartbeats 40000000 in
theorem m_voice {a b x : Int32} {n : Nat} {K : Nat → Nat} (hd : m 58 2 = nI n) (hn : n ≤ 8) (hK : ∀ i, i < 8 → K i < 7 ∧ m 58 (16 + 6 * i + 0) = nI (K i)) (hE1 : (a.toInt < 0 ∨ (n : Int) ≤ a.toInt ∨ b.toInt < 0 ∨ 3 < b.toInt) → Q (some (.int (-1000000001))) (H (ers m 1) ln N)) (hY : ∀ i j : Nat, a = nI i → i < n → b = nI j → j ≤ 3 → Q (some (.int (vocF (K i) j x (nI i) (m 58 (16 + 6 * i + 1))))) (H (lgR (upm (upm (upm (upm m 57 21 0) 57 22 (nI (K i))) 57 23 (nI i)) 57 24 (m 58 (16 + 6 * i + 1))) 0 (vocL (K i) j)) ln N)) : WP xs (d + 20) 176 0 0 [.ref (89), .int (a), .int (b), .int (x)] (H m ln N) Q := by
  refine wp_x mx_176 (L := [some (.ref (89)), some (.int (a)), some (.int (b)), some (.int (x))]) (Nat.le_of_ble_eq_true rfl) rfl ?_
  refine g_aload_n m176_0 rfl ?_
  refine g_iload_n m176_1 rfl ?_
  refine h_cv (k := 57) (p := 89) (args := [.int (a)]) (rest := []) m176_2 cn_113 (Nat.le_of_ble_eq_true rfl) rfl rfl rfl (t_57 _ _) (Nat.le_of_ble_eq_true rfl) ?_
  refine c_isDinerM hd hn (fun ja ea a_3 => ?_) (fun a_3 => ?_)
  · subst ea
    refine gwr ?_
    refine h_if_eqF (xi := 1) (zi := 0) m176_5 rfl rfl (by decide) ?_
    refine g_iload_n m176_8 rfl ?_
    refine g_iconst m176_9 ?_
    refine g_iconst m176_10 ?_
    refine g_cs (args := [.int (b), .int (0), .int (3)]) (rest := []) 0 (Or.inl rfl) m176_11 (Nat.le_of_ble_eq_true rfl) rfl rfl (Nat.le_of_ble_eq_true rfl) ?_
    refine c_in (A := 0) (B := 3) rfl rfl (by decide) (fun jb eb a_4 a_4' => ?_) (fun a_4 => ?_)
    · subst eb
      refine gwr ?_
      refine h_if_neF (xi := 1) (zi := 0) m176_14 rfl rfl (by decide) ?_
      refine g_aload_n m176_24 rfl ?_
      refine g_iconst m176_25 ?_
      refine h_pfI (k := 57) (p := 89) m176_26 rfl (t_57 _ _) rfl trivial ?_
      refine g_aload_n m176_29 rfl ?_
      refine g_aload_n m176_30 rfl ?_
      refine g_iload_n m176_31 rfl ?_
      refine g_iconst m176_32 ?_
      refine h_cv (k := 57) (p := 89) (args := [.int (nI (ja)), .int (0)]) (rest := [.ref (89)]) m176_33 cn_111 (Nat.le_of_ble_eq_true rfl) rfl rfl rfl (t_57 _ _) (Nat.le_of_ble_eq_true rfl) ?_
      have hja : ja < 8 := by omega
      have eka := hK ja hja
      refine c_its (w := 0) (by omega) (by decide) ?_
      rw [show (upm m (57) 21 (0 : Int32)) 58 (16 + 6 * ja + 0) = nI (K ja) from (upm_k _ _ (by decide)).trans eka.2]
      refine gwr ?_
      refine h_pfI (k := 57) (p := 89) m176_36 rfl (t_57 _ _) rfl trivial ?_
      refine g_aload_n m176_39 rfl ?_
      refine g_iload_n m176_40 rfl ?_
      refine h_pfI (k := 57) (p := 89) m176_41 rfl (t_57 _ _) rfl trivial ?_
      refine g_aload_n m176_44 rfl ?_
      refine g_aload_n m176_45 rfl ?_
      refine g_iload_n m176_46 rfl ?_
      refine g_iconst m176_47 ?_
      refine h_cv (k := 57) (p := 89) (args := [.int (nI (ja)), .int (1)]) (rest := [.ref (89)]) m176_48 cn_111 (Nat.le_of_ble_eq_true rfl) rfl rfl rfl (t_57 _ _) (Nat.le_of_ble_eq_true rfl) ?_
      refine c_its (w := 1) (by omega) (by decide) ?_
      rw [show (upm (upm (upm m (57) 21 (0 : Int32)) (57) 22 (nI (K ja))) (57) 23 (nI (ja))) 58 (16 + 6 * ja + 1) = m 58 (16 + 6 * ja + 1) from (upm_k _ _ (by decide)).trans ((upm_k _ _ (by decide)).trans (upm_k _ _ (by decide)))]
      refine gwr ?_
      refine h_pfI (k := 57) (p := 89) m176_51 rfl (t_57 _ _) rfl trivial ?_
      refine g_iload_n m176_54 rfl ?_
      rcases (show jb = 0 ∨ jb = 1 ∨ jb = 2 ∨ jb = 3 by omega) with rfl | rfl | rfl | rfl
      · skip
        refine gs m176_55 ?_
        refine gwpc (pc' := 80) rfl ?_
        refine g_aload_n m176_80 rfl ?_
        refine g_aload_n m176_81 rfl ?_
        refine h_gfI (k := 57) (p := 89) m176_82 rfl (t_57 _ _) rfl ((upm_j _ _ (by decide)).trans ((upm_j _ _ (by decide)).trans (upm_self _ _ _ _))) ?_
        refine g_iload_n m176_85 rfl ?_
        refine h_cv (k := 57) (p := 89) (args := [.int (nI (K ja)), .int (x)]) (rest := []) m176_86 cn_172 (Nat.le_of_ble_eq_true rfl) rfl rfl rfl (t_57 _ _) (Nat.le_of_ble_eq_true rfl) ?_
        generalize hkk : K ja = kk at eka ⊢
        have hk7 := eka.1
        rcases (show kk = 0 ∨ kk = 1 ∨ kk = 2 ∨ kk = 3 ∨ kk = 4 ∨ kk = 5 ∨ kk = 6 by omega) with rfl | rfl | rfl | rfl | rfl | rfl | rfl
        · skip
          refine c_mv_0_0_0 (b := 0) (nv := nI ja) (mv := m 58 (16 + 6 * ja + 1)) ((upm_j _ _ (by decide)).trans ((upm_j _ _ (by decide)).trans ((upm_j _ _ (by decide)).trans (upm_self _ _ _ _)))) (by decide) ((upm_j _ _ (by decide)).trans ((upm_j _ _ (by decide)).trans (upm_self _ _ _ _))) ((upm_j _ _ (by decide)).trans (upm_self _ _ _ _)) (upm_self _ _ _ _) ?_
          refine gwr ?_
          refine g_iret m176_89 rt_176 ?_
          have h9 := hY ja 0 rfl (by omega) rfl (by decide)
          rw [hkk] at h9
          exact h9
        · skip
          refine c_mv_1_0_1 (b := 0) (nv := nI ja) (mv := m 58 (16 + 6 * ja + 1)) ((upm_j _ _ (by decide)).trans ((upm_j _ _ (by decide)).trans ((upm_j _ _ (by decide)).trans (upm_self _ _ _ _)))) (by decide) ((upm_j _ _ (by decide)).trans ((upm_j _ _ (by decide)).trans (upm_self _ _ _ _))) ((upm_j _ _ (by decide)).trans (upm_self _ _ _ _)) (upm_self _ _ _ _) ?_
          refine gwr ?_
          refine g_iret m176_89 rt_176 ?_
          have h9 := hY ja 0 rfl (by omega) rfl (by decide)
          rw [hkk] at h9
          exact h9
        · skip
          refine c_mv_2_0_2 (b := 0) (nv := nI ja) (mv := m 58 (16 + 6 * ja + 1)) ((upm_j _ _ (by decide)).trans ((upm_j _ _ (by decide)).trans ((upm_j _ _ (by decide)).trans (upm_self _ _ _ _)))) (by decide) ((upm_j _ _ (by decide)).trans ((upm_j _ _ (by decide)).trans (upm_self _ _ _ _))) ((upm_j _ _ (by decide)).trans (upm_self _ _ _ _)) (upm_self _ _ _ _) ?_
          refine gwr ?_
          refine g_iret m176_89 rt_176 ?_
          have h9 := hY ja 0 rfl (by omega) rfl (by decide)
          rw [hkk] at h9
          exact h9
        · skip
          refine c_mv_3_0_3 (b := 0) (nv := nI ja) (mv := m 58 (16 + 6 * ja + 1)) ((upm_j _ _ (by decide)).trans ((upm_j _ _ (by decide)).trans ((upm_j _ _ (by decide)).trans (upm_self _ _ _ _)))) (by decide) ((upm_j _ _ (by decide)).trans ((upm_j _ _ (by decide)).trans (upm_self _ _ _ _))) ((upm_j _ _ (by decide)).trans (upm_self _ _ _ _)) (upm_self _ _ _ _) ?_
          refine gwr ?_
          refine g_iret m176_89 rt_176 ?_
          have h9 := hY ja 0 rfl (by omega) rfl (by decide)
          rw [hkk] at h9
          exact h9
        · skip
          refine c_mv_4_0_4 (b := 0) (nv := nI ja) (mv := m 58 (16 + 6 * ja + 1)) ((upm_j _ _ (by decide)).trans ((upm_j _ _ (by decide)).trans ((upm_j _ _ (by decide)).trans (upm_self _ _ _ _)))) (by decide) ((upm_j _ _ (by decide)).trans ((upm_j _ _ (by decide)).trans (upm_self _ _ _ _))) ((upm_j _ _ (by decide)).trans (upm_self _ _ _ _)) (upm_self _ _ _ _) ?_
          refine gwr ?_
          refine g_iret m176_89 rt_176 ?_
          have h9 := hY ja 0 rfl (by omega) rfl (by decide)
          rw [hkk] at h9
          exact h9
        · skip
          refine c_mv_5_0_5 (b := 0) (nv := nI ja) (mv := m 58 (16 + 6 * ja + 1)) ((upm_j _ _ (by decide)).trans ((upm_j _ _ (by decide)).trans ((upm_j _ _ (by decide)).trans (upm_self _ _ _ _)))) (by decide) ((upm_j _ _ (by decide)).trans ((upm_j _ _ (by decide)).trans (upm_self _ _ _ _))) ((upm_j _ _ (by decide)).trans (upm_self _ _ _ _)) (upm_self _ _ _ _) ?_
          refine gwr ?_
          refine g_iret m176_89 rt_176 ?_
          have h9 := hY ja 0 rfl (by omega) rfl (by decide)
          rw [hkk] at h9
          exact h9
        · skip
          refine c_mv_6_0_6 (b := 0) (nv := nI ja) (mv := m 58 (16 + 6 * ja + 1)) ((upm_j _ _ (by decide)).trans ((upm_j _ _ (by decide)).trans ((upm_j _ _ (by decide)).trans (upm_self _ _ _ _)))) (by decide) ((upm_j _ _ (by decide)).trans ((upm_j _ _ (by decide)).trans (upm_self _ _ _ _))) ((upm_j _ _ (by decide)).trans (upm_self _ _ _ _)) (upm_self _ _ _ _) ?_
          refine gwr ?_
          refine g_iret m176_89 rt_176 ?_
          have h9 := hY ja 0 rfl (by omega) rfl (by decide)
          rw [hkk] at h9
          exact h9
      · skip
        refine gs m176_55 ?_
        refine gwpc (pc' := 90) rfl ?_
        refine g_aload_n m176_90 rfl ?_
        refine g_aload_n m176_91 rfl ?_
        refine h_gfI (k := 57) (p := 89) m176_92 rfl (t_57 _ _) rfl ((upm_j _ _ (by decide)).trans ((upm_j _ _ (by decide)).trans (upm_self _ _ _ _))) ?_
        refine g_iload_n m176_95 rfl ?_
        refine h_cv (k := 57) (p := 89) (args := [.int (nI (K ja)), .int (x)]) (rest := []) m176_96 cn_174 (Nat.le_of_ble_eq_true rfl) rfl rfl rfl (t_57 _ _) (Nat.le_of_ble_eq_true rfl) ?_
        generalize hkk : K ja = kk at eka ⊢
        have hk7 := eka.1
        rcases (show kk = 0 ∨ kk = 1 ∨ kk = 2 ∨ kk = 3 ∨ kk = 4 ∨ kk = 5 ∨ kk = 6 by omega) with rfl | rfl | rfl | rfl | rfl | rfl | rfl
        · skip
          refine c_mv_0_1_0 (b := 0) (nv := nI ja) (mv := m 58 (16 + 6 * ja + 1)) ((upm_j _ _ (by decide)).trans ((upm_j _ _ (by decide)).trans ((upm_j _ _ (by decide)).trans (upm_self _ _ _ _)))) (by decide) ((upm_j _ _ (by decide)).trans ((upm_j _ _ (by decide)).trans (upm_self _ _ _ _))) ((upm_j _ _ (by decide)).trans (upm_self _ _ _ _)) (upm_self _ _ _ _) ?_
          refine gwr ?_
          refine g_iret m176_99 rt_176 ?_
          have h9 := hY ja 1 rfl (by omega) rfl (by decide)
          rw [hkk] at h9
          exact h9
        · skip
          refine c_mv_1_1_1 (b := 0) (nv := nI ja) (mv := m 58 (16 + 6 * ja + 1)) ((upm_j _ _ (by decide)).trans ((upm_j _ _ (by decide)).trans ((upm_j _ _ (by decide)).trans (upm_self _ _ _ _)))) (by decide) ((upm_j _ _ (by decide)).trans ((upm_j _ _ (by decide)).trans (upm_self _ _ _ _))) ((upm_j _ _ (by decide)).trans (upm_self _ _ _ _)) (upm_self _ _ _ _) ?_
          refine gwr ?_
          refine g_iret m176_99 rt_176 ?_
          have h9 := hY ja 1 rfl (by omega) rfl (by decide)
          rw [hkk] at h9
          exact h9
        · skip
          refine c_mv_2_1_2 (b := 0) (nv := nI ja) (mv := m 58 (16 + 6 * ja + 1)) ((upm_j _ _ (by decide)).trans ((upm_j _ _ (by decide)).trans ((upm_j _ _ (by decide)).trans (upm_self _ _ _ _)))) (by decide) ((upm_j _ _ (by decide)).trans ((upm_j _ _ (by decide)).trans (upm_self _ _ _ _))) ((upm_j _ _ (by decide)).trans (upm_self _ _ _ _)) (upm_self _ _ _ _) ?_
          refine gwr ?_
          refine g_iret m176_99 rt_176 ?_
          have h9 := hY ja 1 rfl (by omega) rfl (by decide)
          rw [hkk] at h9
          exact h9
        · skip
          refine c_mv_3_1_3 (b := 0) (nv := nI ja) (mv := m 58 (16 + 6 * ja + 1)) ((upm_j _ _ (by decide)).trans ((upm_j _ _ (by decide)).trans ((upm_j _ _ (by decide)).trans (upm_self _ _ _ _)))) (by decide) ((upm_j _ _ (by decide)).trans ((upm_j _ _ (by decide)).trans (upm_self _ _ _ _))) ((upm_j _ _ (by decide)).trans (upm_self _ _ _ _)) (upm_self _ _ _ _) ?_
          refine gwr ?_
          refine g_iret m176_99 rt_176 ?_
          have h9 := hY ja 1 rfl (by omega) rfl (by decide)
          rw [hkk] at h9
          exact h9
        · skip
          refine c_mv_4_1_4 (b := 0) (nv := nI ja) (mv := m 58 (16 + 6 * ja + 1)) ((upm_j _ _ (by decide)).trans ((upm_j _ _ (by decide)).trans ((upm_j _ _ (by decide)).trans (upm_self _ _ _ _)))) (by decide) ((upm_j _ _ (by decide)).trans ((upm_j _ _ (by decide)).trans (upm_self _ _ _ _))) ((upm_j _ _ (by decide)).trans (upm_self _ _ _ _)) (upm_self _ _ _ _) ?_
          refine gwr ?_
          refine g_iret m176_99 rt_176 ?_
          have h9 := hY ja 1 rfl (by omega) rfl (by decide)
          rw [hkk] at h9
          exact h9
        · skip
          refine c_mv_5_1_5 (b := 0) (nv := nI ja) (mv := m 58 (16 + 6 * ja + 1)) ((upm_j _ _ (by decide)).trans ((upm_j _ _ (by decide)).trans ((upm_j _ _ (by decide)).trans (upm_self _ _ _ _)))) (by decide) ((upm_j _ _ (by decide)).trans ((upm_j _ _ (by decide)).trans (upm_self _ _ _ _))) ((upm_j _ _ (by decide)).trans (upm_self _ _ _ _)) (upm_self _ _ _ _) ?_
          refine gwr ?_
          refine g_iret m176_99 rt_176 ?_
          have h9 := hY ja 1 rfl (by omega) rfl (by decide)
          rw [hkk] at h9
          exact h9
        · skip
          refine c_mv_6_1_6 (b := 0) (nv := nI ja) (mv := m 58 (16 + 6 * ja + 1)) ((upm_j _ _ (by decide)).trans ((upm_j _ _ (by decide)).trans ((upm_j _ _ (by decide)).trans (upm_self _ _ _ _)))) (by decide) ((upm_j _ _ (by decide)).trans ((upm_j _ _ (by decide)).trans (upm_self _ _ _ _))) ((upm_j _ _ (by decide)).trans (upm_self _ _ _ _)) (upm_self _ _ _ _) ?_
          refine gwr ?_
          refine g_iret m176_99 rt_176 ?_
          have h9 := hY ja 1 rfl (by omega) rfl (by decide)
          rw [hkk] at h9
          exact h9
      · skip
        refine gs m176_55 ?_
        refine gwpc (pc' := 100) rfl ?_
        refine g_aload_n m176_100 rfl ?_
        refine g_aload_n m176_101 rfl ?_
        refine h_gfI (k := 57) (p := 89) m176_102 rfl (t_57 _ _) rfl ((upm_j _ _ (by decide)).trans ((upm_j _ _ (by decide)).trans (upm_self _ _ _ _))) ?_
        refine g_iload_n m176_105 rfl ?_
        refine h_cv (k := 57) (p := 89) (args := [.int (nI (K ja)), .int (x)]) (rest := []) m176_106 cn_173 (Nat.le_of_ble_eq_true rfl) rfl rfl rfl (t_57 _ _) (Nat.le_of_ble_eq_true rfl) ?_
        generalize hkk : K ja = kk at eka ⊢
        have hk7 := eka.1
        rcases (show kk = 0 ∨ kk = 1 ∨ kk = 2 ∨ kk = 3 ∨ kk = 4 ∨ kk = 5 ∨ kk = 6 by omega) with rfl | rfl | rfl | rfl | rfl | rfl | rfl
        · skip
          refine c_mv_0_2_0 (b := 0) (nv := nI ja) (mv := m 58 (16 + 6 * ja + 1)) ((upm_j _ _ (by decide)).trans ((upm_j _ _ (by decide)).trans ((upm_j _ _ (by decide)).trans (upm_self _ _ _ _)))) (by decide) ((upm_j _ _ (by decide)).trans ((upm_j _ _ (by decide)).trans (upm_self _ _ _ _))) ((upm_j _ _ (by decide)).trans (upm_self _ _ _ _)) (upm_self _ _ _ _) ?_
          refine gwr ?_
          refine g_iret m176_109 rt_176 ?_
          have h9 := hY ja 2 rfl (by omega) rfl (by decide)
          rw [hkk] at h9
          exact h9
        · skip
          refine c_mv_1_2_1 (b := 0) (nv := nI ja) (mv := m 58 (16 + 6 * ja + 1)) ((upm_j _ _ (by decide)).trans ((upm_j _ _ (by decide)).trans ((upm_j _ _ (by decide)).trans (upm_self _ _ _ _)))) (by decide) ((upm_j _ _ (by decide)).trans ((upm_j _ _ (by decide)).trans (upm_self _ _ _ _))) ((upm_j _ _ (by decide)).trans (upm_self _ _ _ _)) (upm_self _ _ _ _) ?_
          refine gwr ?_
          refine g_iret m176_109 rt_176 ?_
          have h9 := hY ja 2 rfl (by omega) rfl (by decide)
          rw [hkk] at h9
          exact h9
        · skip
          refine c_mv_2_2_2 (b := 0) (nv := nI ja) (mv := m 58 (16 + 6 * ja + 1)) ((upm_j _ _ (by decide)).trans ((upm_j _ _ (by decide)).trans ((upm_j _ _ (by decide)).trans (upm_self _ _ _ _)))) (by decide) ((upm_j _ _ (by decide)).trans ((upm_j _ _ (by decide)).trans (upm_self _ _ _ _))) ((upm_j _ _ (by decide)).trans (upm_self _ _ _ _)) (upm_self _ _ _ _) ?_
          refine gwr ?_
          refine g_iret m176_109 rt_176 ?_
          have h9 := hY ja 2 rfl (by omega) rfl (by decide)
          rw [hkk] at h9
          exact h9
        · skip
          refine c_mv_3_2_3 (b := 0) (nv := nI ja) (mv := m 58 (16 + 6 * ja + 1)) ((upm_j _ _ (by decide)).trans ((upm_j _ _ (by decide)).trans ((upm_j _ _ (by decide)).trans (upm_self _ _ _ _)))) (by decide) ((upm_j _ _ (by decide)).trans ((upm_j _ _ (by decide)).trans (upm_self _ _ _ _))) ((upm_j _ _ (by decide)).trans (upm_self _ _ _ _)) (upm_self _ _ _ _) ?_
          refine gwr ?_
          refine g_iret m176_109 rt_176 ?_
          have h9 := hY ja 2 rfl (by omega) rfl (by decide)
          rw [hkk] at h9
          exact h9
        · skip
          refine c_mv_4_2_4 (b := 0) (nv := nI ja) (mv := m 58 (16 + 6 * ja + 1)) ((upm_j _ _ (by decide)).trans ((upm_j _ _ (by decide)).trans ((upm_j _ _ (by decide)).trans (upm_self _ _ _ _)))) (by decide) ((upm_j _ _ (by decide)).trans ((upm_j _ _ (by decide)).trans (upm_self _ _ _ _))) ((upm_j _ _ (by decide)).trans (upm_self _ _ _ _)) (upm_self _ _ _ _) ?_
          refine gwr ?_
          refine g_iret m176_109 rt_176 ?_
          have h9 := hY ja 2 rfl (by omega) rfl (by decide)
          rw [hkk] at h9
          exact h9
        · skip
          refine c_mv_5_2_5 (b := 0) (nv := nI ja) (mv := m 58 (16 + 6 * ja + 1)) ((upm_j _ _ (by decide)).trans ((upm_j _ _ (by decide)).trans ((upm_j _ _ (by decide)).trans (upm_self _ _ _ _)))) (by decide) ((upm_j _ _ (by decide)).trans ((upm_j _ _ (by decide)).trans (upm_self _ _ _ _))) ((upm_j _ _ (by decide)).trans (upm_self _ _ _ _)) (upm_self _ _ _ _) ?_
          refine gwr ?_
          refine g_iret m176_109 rt_176 ?_
          have h9 := hY ja 2 rfl (by omega) rfl (by decide)
          rw [hkk] at h9
          exact h9
        · skip
          refine c_mv_6_2_6 (b := 0) (nv := nI ja) (mv := m 58 (16 + 6 * ja + 1)) ((upm_j _ _ (by decide)).trans ((upm_j _ _ (by decide)).trans ((upm_j _ _ (by decide)).trans (upm_self _ _ _ _)))) (by decide) ((upm_j _ _ (by decide)).trans ((upm_j _ _ (by decide)).trans (upm_self _ _ _ _))) ((upm_j _ _ (by decide)).trans (upm_self _ _ _ _)) (upm_self _ _ _ _) ?_
          refine gwr ?_
          refine g_iret m176_109 rt_176 ?_
          have h9 := hY ja 2 rfl (by omega) rfl (by decide)
          rw [hkk] at h9
          exact h9
      · skip
        refine gs m176_55 ?_
        refine gwpc (pc' := 110) rfl ?_
        refine g_aload_n m176_110 rfl ?_
        refine g_aload_n m176_111 rfl ?_
        refine h_gfI (k := 57) (p := 89) m176_112 rfl (t_57 _ _) rfl ((upm_j _ _ (by decide)).trans ((upm_j _ _ (by decide)).trans (upm_self _ _ _ _))) ?_
        refine g_iload_n m176_115 rfl ?_
        refine h_cv (k := 57) (p := 89) (args := [.int (nI (K ja)), .int (x)]) (rest := []) m176_116 cn_175 (Nat.le_of_ble_eq_true rfl) rfl rfl rfl (t_57 _ _) (Nat.le_of_ble_eq_true rfl) ?_
        generalize hkk : K ja = kk at eka ⊢
        have hk7 := eka.1
        rcases (show kk = 0 ∨ kk = 1 ∨ kk = 2 ∨ kk = 3 ∨ kk = 4 ∨ kk = 5 ∨ kk = 6 by omega) with rfl | rfl | rfl | rfl | rfl | rfl | rfl
        · skip
          refine c_mv_0_3_0 (b := 0) (nv := nI ja) (mv := m 58 (16 + 6 * ja + 1)) ((upm_j _ _ (by decide)).trans ((upm_j _ _ (by decide)).trans ((upm_j _ _ (by decide)).trans (upm_self _ _ _ _)))) (by decide) ((upm_j _ _ (by decide)).trans ((upm_j _ _ (by decide)).trans (upm_self _ _ _ _))) ((upm_j _ _ (by decide)).trans (upm_self _ _ _ _)) (upm_self _ _ _ _) ?_
          refine gwr ?_
          refine g_iret m176_119 rt_176 ?_
          have h9 := hY ja 3 rfl (by omega) rfl (by decide)
          rw [hkk] at h9
          exact h9
        · skip
          refine c_mv_1_3_1 (b := 0) (nv := nI ja) (mv := m 58 (16 + 6 * ja + 1)) ((upm_j _ _ (by decide)).trans ((upm_j _ _ (by decide)).trans ((upm_j _ _ (by decide)).trans (upm_self _ _ _ _)))) (by decide) ((upm_j _ _ (by decide)).trans ((upm_j _ _ (by decide)).trans (upm_self _ _ _ _))) ((upm_j _ _ (by decide)).trans (upm_self _ _ _ _)) (upm_self _ _ _ _) ?_
          refine gwr ?_
          refine g_iret m176_119 rt_176 ?_
          have h9 := hY ja 3 rfl (by omega) rfl (by decide)
          rw [hkk] at h9
          exact h9
        · skip
          refine c_mv_2_3_2 (b := 0) (nv := nI ja) (mv := m 58 (16 + 6 * ja + 1)) ((upm_j _ _ (by decide)).trans ((upm_j _ _ (by decide)).trans ((upm_j _ _ (by decide)).trans (upm_self _ _ _ _)))) (by decide) ((upm_j _ _ (by decide)).trans ((upm_j _ _ (by decide)).trans (upm_self _ _ _ _))) ((upm_j _ _ (by decide)).trans (upm_self _ _ _ _)) (upm_self _ _ _ _) ?_
          refine gwr ?_
          refine g_iret m176_119 rt_176 ?_
          have h9 := hY ja 3 rfl (by omega) rfl (by decide)
          rw [hkk] at h9
          exact h9
        · skip
          refine c_mv_3_3_3 (b := 0) (nv := nI ja) (mv := m 58 (16 + 6 * ja + 1)) ((upm_j _ _ (by decide)).trans ((upm_j _ _ (by decide)).trans ((upm_j _ _ (by decide)).trans (upm_self _ _ _ _)))) (by decide) ((upm_j _ _ (by decide)).trans ((upm_j _ _ (by decide)).trans (upm_self _ _ _ _))) ((upm_j _ _ (by decide)).trans (upm_self _ _ _ _)) (upm_self _ _ _ _) ?_
          refine gwr ?_
          refine g_iret m176_119 rt_176 ?_
          have h9 := hY ja 3 rfl (by omega) rfl (by decide)
          rw [hkk] at h9
          exact h9
        · skip
          refine c_mv_4_3_4 (b := 0) (nv := nI ja) (mv := m 58 (16 + 6 * ja + 1)) ((upm_j _ _ (by decide)).trans ((upm_j _ _ (by decide)).trans ((upm_j _ _ (by decide)).trans (upm_self _ _ _ _)))) (by decide) ((upm_j _ _ (by decide)).trans ((upm_j _ _ (by decide)).trans (upm_self _ _ _ _))) ((upm_j _ _ (by decide)).trans (upm_self _ _ _ _)) (upm_self _ _ _ _) ?_
          refine gwr ?_
          refine g_iret m176_119 rt_176 ?_
          have h9 := hY ja 3 rfl (by omega) rfl (by decide)
          rw [hkk] at h9
          exact h9
        · skip
          refine c_mv_5_3_5 (b := 0) (nv := nI ja) (mv := m 58 (16 + 6 * ja + 1)) ((upm_j _ _ (by decide)).trans ((upm_j _ _ (by decide)).trans ((upm_j _ _ (by decide)).trans (upm_self _ _ _ _)))) (by decide) ((upm_j _ _ (by decide)).trans ((upm_j _ _ (by decide)).trans (upm_self _ _ _ _))) ((upm_j _ _ (by decide)).trans (upm_self _ _ _ _)) (upm_self _ _ _ _) ?_
          refine gwr ?_
          refine g_iret m176_119 rt_176 ?_
          have h9 := hY ja 3 rfl (by omega) rfl (by decide)
          rw [hkk] at h9
          exact h9
        · skip
          refine c_mv_6_3_6 (b := 0) (nv := nI ja) (mv := m 58 (16 + 6 * ja + 1)) ((upm_j _ _ (by decide)).trans ((upm_j _ _ (by decide)).trans ((upm_j _ _ (by decide)).trans (upm_self _ _ _ _)))) (by decide) ((upm_j _ _ (by decide)).trans ((upm_j _ _ (by decide)).trans (upm_self _ _ _ _))) ((upm_j _ _ (by decide)).trans (upm_self _ _ _ _)) (upm_self _ _ _ _) ?_
          refine gwr ?_
          refine g_iret m176_119 rt_176 ?_
          have h9 := hY ja 3 rfl (by omega) rfl (by decide)
          rw [hkk] at h9
          exact h9
    · skip
      refine gwr ?_
      refine h_if_neT (xi := 0) (zi := 0) m176_14 rfl rfl (by decide) ?_
      refine g_aload_n m176_17 rfl ?_
      refine g_ldci m176_18 rfl ?_
      refine h_cv (k := 57) (p := 89) (args := [.int (-1000000001)]) (rest := []) m176_20 cn_108 (Nat.le_of_ble_eq_true rfl) rfl rfl rfl (t_57 _ _) (Nat.le_of_ble_eq_true rfl) ?_
      refine c_errs (e := 1) (by decide) (by decide) (by decide) ?_
      refine gwr ?_
      refine g_iret m176_23 rt_176 ?_
      exact hE1 (by omega)
  · skip
    refine gwr ?_
    refine h_if_eqT (xi := 0) (zi := 0) m176_5 rfl rfl (by decide) ?_
    refine g_aload_n m176_17 rfl ?_
    refine g_ldci m176_18 rfl ?_
    refine h_cv (k := 57) (p := 89) (args := [.int (-1000000001)]) (rest := []) m176_20 cn_108 (Nat.le_of_ble_eq_true rfl) rfl rfl rfl (t_57 _ _) (Nat.le_of_ble_eq_true rfl) ?_
    refine c_errs (e := 1) (by decide) (by decide) (by decide) ?_
    refine gwr ?_
    refine g_iret m176_23 rt_176 ?_
    exact hE1 (by omega)
end
