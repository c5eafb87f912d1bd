/-! THE REFERENCE: enough -/
section
variable {xs : List Int32} {d : Nat} {h : AH} {Q : QT} {m : MW} {ln : Nat → Nat} {N : Nat}
set_option maxRecDepth 20000 in
set_option maxHeartbeats 40000000 in
theorem m_enough {v b : Int32} {n : Nat} (hd : m 58 2 = nI n) (hn : n ≤ 8) (hX0 : TxOk (m 58) 0) (hX1 : TxOk (m 58) 1) (hWY : WF (vr (m 58))) (hE1 : (v.toInt < 1 ∨ 99 < v.toInt ∨ b.toInt < 0 ∨ 60 < b.toInt) → Q (some (.int (-1000000001))) (H (ers m 1) ln N)) (hE2 : ∀ k : Nat, b = nI k → k ≤ 60 → 1 ≤ v.toInt → v.toInt ≤ 99 → leastF (fun w => allF (fun i => decide ((stepN (rkF (m 58)) (rbF (m 58)) (upm (vr (m 58)) 0 8 (nI w)) k 4 i).toInt < v.toInt)) n) 4 1 = none → ∀ m2, FrP m m2 → Q (some (.int (-1000000002))) (H (ers m2 2) ln N)) (hY : ∀ k w : Nat, b = nI k → k ≤ 60 → 1 ≤ v.toInt → v.toInt ≤ 99 → leastF (fun w => allF (fun i => decide ((stepN (rkF (m 58)) (rbF (m 58)) (upm (vr (m 58)) 0 8 (nI w)) k 4 i).toInt < v.toInt)) n) 4 1 = some w → ∀ m2, FrP m m2 → Q (some (.int (nI w))) (H m2 ln N)) : WP xs (d + 818) 166 0 0 [.ref (89), .int (v), .int (b)] (H m ln N) Q := by
  refine wp_x mx_166 (L := [some (.ref (89)), some (.int (v)), some (.int (b)), none, none, none]) (Nat.le_of_ble_eq_true rfl) rfl ?_
  refine g_iload_n m166_0 rfl ?_
  refine g_iconst m166_1 ?_
  refine g_bipush m166_2 ?_
  refine g_cs (args := [.int (v), .int (1), .int (99)]) (rest := []) 0 (Or.inl rfl) m166_4 (Nat.le_of_ble_eq_true rfl) rfl rfl (Nat.le_of_ble_eq_true rfl) ?_
  refine c_inI (A := 1) (B := 99) (vi := v.toInt) rfl rfl rfl (fun a_1 => ?_) (fun a_1 => ?_)
  · skip
    refine gwr ?_
    refine h_if_eqF (xi := 1) (zi := 0) m166_7 rfl rfl (by decide) ?_
    refine g_iload_n m166_10 rfl ?_
    refine g_iconst m166_11 ?_
    refine g_bipush m166_12 ?_
    refine g_cs (args := [.int (b), .int (0), .int (60)]) (rest := []) 0 (Or.inl rfl) m166_14 (Nat.le_of_ble_eq_true rfl) rfl rfl (Nat.le_of_ble_eq_true rfl) ?_
    refine c_in (A := 0) (B := 60) rfl rfl (by decide) (fun jb eb a_2 a_2' => ?_) (fun a_2 => ?_)
    · subst eb
      refine gwr ?_
      refine h_if_neF (xi := 1) (zi := 0) m166_17 rfl rfl (by decide) ?_
      refine g_iconst m166_27 ?_
      refine g_istore_n (L2 := [some (.ref (89)), some (.int (v)), some (.int (nI (jb))), some (.int (0)), none, none]) m166_28 rfl rfl ?_
      refine g_iconst m166_29 ?_
      refine g_istore (L2 := [some (.ref (89)), some (.int (v)), some (.int (nI (jb))), some (.int (0)), some (.int (0)), none]) m166_30 rfl rfl ?_
      refine g_aload_n m166_32 rfl ?_
      refine g_aload_n m166_33 rfl ?_
      refine h_gfR (c := 90) (k := 57) (p := 89) m166_34 rfl (t_57 _ _) rfl (Nat.le_of_ble_eq_true rfl) ?_
      refine g_aload_n m166_37 rfl ?_
      refine h_gfR (c := 92) (k := 57) (p := 89) m166_38 rfl (t_57 _ _) rfl (Nat.le_of_ble_eq_true rfl) ?_
      refine h_cv (k := 57) (p := 89) (args := [.ref (90), .ref (92)]) (rest := []) m166_41 cn_110 (Nat.le_of_ble_eq_true rfl) rfl rfl rfl (t_57 _ _) (Nat.le_of_ble_eq_true rfl) ?_
      refine c_moveRow (k1 := 58) (k2 := 60) rfl rfl (t_58 _ _) (t_60 _ _) (by decide) ?_
      have h58 : (upmR m 60 (m 58)) 58 = m 58 := thR_58 _ _
      have hAt := thR_A m
      have hX0t : TxOk ((upmR m 60 (m 58)) 58) 0 := by rw [h58]; exact hX0
      have hX1t : TxOk ((upmR m 60 (m 58)) 58) 1 := by rw [h58]; exact hX1
      refine gwr0 ?_
      have key : ∀ (r : Nat) (w : Nat) (o5 : Option Value) (m2 : MW), w + r = 4 → FrP m m2 → m2 60 = m 58 → leastF (fun w => allF (fun i => decide ((stepN (rkF (m 58)) (rbF (m 58)) (upm (vr (m 58)) 0 8 (nI w)) jb 4 i).toInt < v.toInt)) n) r (w + 1) = leastF (fun w => allF (fun i => decide ((stepN (rkF (m 58)) (rbF (m 58)) (upm (vr (m 58)) 0 8 (nI w)) jb 4 i).toInt < v.toInt)) n) 4 1 → gw xs (WP xs (d + 817)) 166 Q 44 [some (.ref (89)), some (.int (v)), some (.int (nI (jb))), some (.int (nI (w))), some (.int (0)), o5] [] (H m2 ln N) 0 0 := by
        intro r
        induction r with
        | zero =>
          intro w o5 m2 hw hF h60 hfin
          obtain rfl : w = 4 := by omega
          refine g_iload_n m166_44 rfl ?_
          refine g_iconst m166_45 ?_
          refine h_ic_geT (xi := ((4 : Nat) : Int)) (zi := 4) m166_46 (nI_toInt (by omega)) rfl (by omega) ?_
          refine g_iload m166_131 rfl ?_
          refine h_if_eqT (xi := 0) (zi := 0) m166_133 rfl rfl (by decide) ?_
          refine g_aload_n m166_140 rfl ?_
          refine g_ldci m166_141 rfl ?_
          refine h_cv (k := 57) (p := 89) (args := [.int (-1000000002)]) (rest := []) m166_143 cn_108 (Nat.le_of_ble_eq_true rfl) rfl rfl rfl (t_57 _ _) (Nat.le_of_ble_eq_true rfl) ?_
          refine c_errs (e := 2) (by decide) (by decide) (by decide) ?_
          refine gwr ?_
          refine g_iret m166_146 rt_166 ?_
          exact hE2 jb rfl (by omega) (by omega) (by omega) hfin.symm m2 hF
        | succ r ih =>
          intro w o5 m2 hw hF h60 hfin
          have e58 := hF.row
          have hAs := AtY.self m2
          rw [e58] at hAs
          have hA1 := hAs.up8 (nI (w + 1))
          have hX0m : TxOk (m2 58) 0 := by rw [e58]; exact hX0
          have hX1m : TxOk (m2 58) 1 := by rw [e58]; exact hX1
          have hWw : WF (upm (vr (m 58)) 0 8 (nI (w + 1))) := WF_w hWY (by omega) (by omega)
          refine g_iload_n m166_44 rfl ?_
          refine g_iconst m166_45 ?_
          refine h_ic_geF (xi := ((w : Nat) : Int)) (zi := 4) m166_46 (nI_toInt (by omega)) rfl (by omega) ?_
          refine g_iload m166_49 rfl ?_
          refine h_if_neT (xi := 0) (zi := 0) m166_51 rfl rfl (by decide) ?_
          refine g_iinc (L2 := [some (.ref (89)), some (.int (v)), some (.int (nI (jb))), some (.int (nI (w + 1))), some (.int (0)), o5]) m166_54 rfl (nI_1 _) rfl rfl ?_
          refine g_aload_n m166_57 rfl ?_
          refine h_gfR (c := 90) (k := 57) (p := 89) m166_58 rfl (t_57 _ _) rfl (Nat.le_of_ble_eq_true rfl) ?_
          refine g_bipush m166_61 ?_
          refine g_iload_n m166_63 rfl ?_
          refine h_ias (k := 58) (p := 90) (j := 7) m166_64 rfl (t_58 _ _) (rfl) (by omega) (Nat.le_of_ble_eq_true rfl) ?_
          refine g_aload_n m166_65 rfl ?_
          refine g_iload_n m166_66 rfl ?_
          refine h_cv (k := 57) (p := 89) (args := [.int (nI (jb))]) (rest := []) m166_67 cn_146 (Nat.le_of_ble_eq_true rfl) rfl rfl rfl (t_57 _ _) (Nat.le_of_ble_eq_true rfl) ?_
          refine c_passes hA1 hX0m hX1m (n := jb) hWw (by omega) (fun m3 hA3 => ?_)
          rw [e58] at hA3
          have hA3 : AtY m2 (stepN (rkF (m 58)) (rbF (m 58)) (upm (vr (m 58)) 0 8 (nI (w + 1))) jb) m3 := hA3
          have hd3 : m3 58 2 = nI n := hA3.r2.trans ((stepN_0 _ _ _ (by decide) jb).trans ((upm_j _ _ (by decide)).trans hd))
          refine gwr0 ?_
          refine g_iconst m166_70 ?_
          refine g_istore (L2 := [some (.ref (89)), some (.int (v)), some (.int (nI (jb))), some (.int (nI (w + 1))), some (.int (1)), o5]) m166_71 rfl rfl ?_
          refine g_iconst m166_73 ?_
          refine g_istore (L2 := [some (.ref (89)), some (.int (v)), some (.int (nI (jb))), some (.int (nI (w + 1))), some (.int (1)), some (.int (0))]) m166_74 rfl rfl ?_
          have key2 : ∀ (r : Nat) (q : Nat) (o : Int32), q + r = n → o = (if allF (fun i => decide ((stepN (rkF (m 58)) (rbF (m 58)) (upm (vr (m 58)) 0 8 (nI (w + 1))) jb 4 i).toInt < v.toInt)) q = true then 1 else 0) → gw xs (WP xs (d + 817)) 166 Q 76 [some (.ref (89)), some (.int (v)), some (.int (nI (jb))), some (.int (nI (w + 1))), some (.int (o)), some (.int (nI (q)))] [] (H m3 ln N) 0 0 := by
            intro r
            induction r with
            | zero =>
              intro q o hq ho
              obtain rfl : q = n := by omega
              by_cases hal : allF (fun i => decide ((stepN (rkF (m 58)) (rbF (m 58)) (upm (vr (m 58)) 0 8 (nI (w + 1))) jb 4 i).toInt < v.toInt)) q = true
              · rw [if_pos hal] at ho
                subst ho
                rw [least_y (p := (fun w => allF (fun i => decide ((stepN (rkF (m 58)) (rbF (m 58)) (upm (vr (m 58)) 0 8 (nI w)) jb 4 i).toInt < v.toInt)) q)) (s := w + 1) hal] at hfin
                refine g_iload m166_76 rfl ?_
                refine g_aload_n m166_78 rfl ?_
                refine h_gfR (c := 90) (k := 57) (p := 89) m166_79 rfl (t_57 _ _) rfl (Nat.le_of_ble_eq_true rfl) ?_
                refine g_iconst m166_82 ?_
                refine h_ial (k := 58) (p := 90) (j := 2) m166_83 rfl (t_58 _ _) (rfl) (by omega) (Nat.le_of_ble_eq_true rfl) (hd3) ?_
                refine h_ic_geT (xi := ((q : Nat) : Int)) (zi := ((q : Nat) : Int)) m166_84 (nI_toInt (by omega)) (nI_toInt (by omega)) (by omega) ?_
                refine g_aload_n m166_116 rfl ?_
                refine g_aload_n m166_117 rfl ?_
                refine h_gfR (c := 92) (k := 57) (p := 89) m166_118 rfl (t_57 _ _) rfl (Nat.le_of_ble_eq_true rfl) ?_
                refine g_aload_n m166_121 rfl ?_
                refine h_gfR (c := 90) (k := 57) (p := 89) m166_122 rfl (t_57 _ _) rfl (Nat.le_of_ble_eq_true rfl) ?_
                refine h_cv (k := 57) (p := 89) (args := [.ref (92), .ref (90)]) (rest := []) m166_125 cn_110 (Nat.le_of_ble_eq_true rfl) rfl rfl rfl (t_57 _ _) (Nat.le_of_ble_eq_true rfl) ?_
                refine c_moveRow (k1 := 60) (k2 := 58) rfl rfl (t_60 _ _) (t_58 _ _) (by decide) ?_
                have e60 : m3 60 = m2 60 := funext fun j => hA3.out (by decide) (fun z => by rcases z with z | z <;> omega)
                have hF5 := hF.tr (FrP.bk (m := m2) hA3 (fun k _ _ _ => rfl) (h60.trans e58.symm))
                have h65 : (upmR m3 58 (m3 60)) 60 = m 58 := (if_neg (by decide)).trans (e60.trans h60)
                refine gwr0 ?_
                refine g_goto m166_128 ?_
                refine g_iload_n m166_44 rfl ?_
                refine g_iconst m166_45 ?_
                refine h_ic_ge (xi := ((w + 1 : Nat) : Int)) (zi := 4) m166_46 (nI_toInt (by omega)) rfl (fun c1 => ?_) (fun c1 => ?_)
                · skip
                  refine g_iload m166_131 rfl ?_
                  refine h_if_eqF (xi := 1) (zi := 0) m166_133 rfl rfl (by decide) ?_
                  refine g_iload_n m166_136 rfl ?_
                  refine g_goto m166_137 ?_
                  refine g_iret m166_146 rt_166 ?_
                  first | (exfalso; omega) | (exact hY jb (w + 1) rfl (by omega) (by omega) (by omega) hfin.symm _ hF5)
                · skip
                  refine g_iload m166_49 rfl ?_
                  refine h_if_neF (xi := 1) (zi := 0) m166_51 rfl rfl (by decide) ?_
                  refine g_iload m166_131 rfl ?_
                  refine h_if_eqF (xi := 1) (zi := 0) m166_133 rfl rfl (by decide) ?_
                  refine g_iload_n m166_136 rfl ?_
                  refine g_goto m166_137 ?_
                  refine g_iret m166_146 rt_166 ?_
                  first | (exfalso; omega) | (exact hY jb (w + 1) rfl (by omega) (by omega) (by omega) hfin.symm _ hF5)
              · rw [if_neg hal] at ho
                subst ho
                rw [least_n (p := (fun w => allF (fun i => decide ((stepN (rkF (m 58)) (rbF (m 58)) (upm (vr (m 58)) 0 8 (nI w)) jb 4 i).toInt < v.toInt)) q)) (s := w + 1) hal] at hfin
                refine g_iload m166_76 rfl ?_
                refine g_aload_n m166_78 rfl ?_
                refine h_gfR (c := 90) (k := 57) (p := 89) m166_79 rfl (t_57 _ _) rfl (Nat.le_of_ble_eq_true rfl) ?_
                refine g_iconst m166_82 ?_
                refine h_ial (k := 58) (p := 90) (j := 2) m166_83 rfl (t_58 _ _) (rfl) (by omega) (Nat.le_of_ble_eq_true rfl) (hd3) ?_
                refine h_ic_geT (xi := ((q : Nat) : Int)) (zi := ((q : Nat) : Int)) m166_84 (nI_toInt (by omega)) (nI_toInt (by omega)) (by omega) ?_
                refine g_aload_n m166_116 rfl ?_
                refine g_aload_n m166_117 rfl ?_
                refine h_gfR (c := 92) (k := 57) (p := 89) m166_118 rfl (t_57 _ _) rfl (Nat.le_of_ble_eq_true rfl) ?_
                refine g_aload_n m166_121 rfl ?_
                refine h_gfR (c := 90) (k := 57) (p := 89) m166_122 rfl (t_57 _ _) rfl (Nat.le_of_ble_eq_true rfl) ?_
                refine h_cv (k := 57) (p := 89) (args := [.ref (92), .ref (90)]) (rest := []) m166_125 cn_110 (Nat.le_of_ble_eq_true rfl) rfl rfl rfl (t_57 _ _) (Nat.le_of_ble_eq_true rfl) ?_
                refine c_moveRow (k1 := 60) (k2 := 58) rfl rfl (t_60 _ _) (t_58 _ _) (by decide) ?_
                have e60 : m3 60 = m2 60 := funext fun j => hA3.out (by decide) (fun z => by rcases z with z | z <;> omega)
                have hF5 := hF.tr (FrP.bk (m := m2) hA3 (fun k _ _ _ => rfl) (h60.trans e58.symm))
                have h65 : (upmR m3 58 (m3 60)) 60 = m 58 := (if_neg (by decide)).trans (e60.trans h60)
                refine gwr0 ?_
                refine g_goto m166_128 ?_
                exact ih (w + 1) _ _ (by omega) hF5 h65 hfin
            | succ r ih =>
              intro q o hq ho
              by_cases hal : allF (fun i => decide ((stepN (rkF (m 58)) (rbF (m 58)) (upm (vr (m 58)) 0 8 (nI (w + 1))) jb 4 i).toInt < v.toInt)) q = true
              · rw [if_pos hal] at ho
                subst ho
                refine g_iload m166_76 rfl ?_
                refine g_aload_n m166_78 rfl ?_
                refine h_gfR (c := 90) (k := 57) (p := 89) m166_79 rfl (t_57 _ _) rfl (Nat.le_of_ble_eq_true rfl) ?_
                refine g_iconst m166_82 ?_
                refine h_ial (k := 58) (p := 90) (j := 2) m166_83 rfl (t_58 _ _) (rfl) (by omega) (Nat.le_of_ble_eq_true rfl) (hd3) ?_
                refine h_ic_geF (xi := ((q : Nat) : Int)) (zi := ((n : Nat) : Int)) m166_84 (nI_toInt (by omega)) (nI_toInt (by omega)) (by omega) ?_
                refine g_iload m166_87 rfl ?_
                refine h_if_eqF (xi := 1) (zi := 0) m166_89 rfl rfl (by decide) ?_
                refine g_aload_n m166_92 rfl ?_
                refine g_iload m166_93 rfl ?_
                refine g_iconst m166_95 ?_
                refine h_cv (k := 57) (p := 89) (args := [.int (nI (q)), .int (2)]) (rest := []) m166_96 cn_111 (Nat.le_of_ble_eq_true rfl) rfl rfl rfl (t_57 _ _) (Nat.le_of_ble_eq_true rfl) ?_
                refine c_its (w := 2) (by omega) (by decide) ?_
                rw [hA3.rd (i := q) (c := 2) (by omega) (by decide)]
                refine gwr ?_
                refine g_iload_n m166_99 rfl ?_
                refine h_ic_ge (xi := _) (zi := v.toInt) m166_100 rfl rfl (fun c2 => ?_) (fun c2 => ?_)
                · skip
                  refine g_iconst m166_107 ?_
                  refine g_istore (L2 := [some (.ref (89)), some (.int (v)), some (.int (nI (jb))), some (.int (nI (w + 1))), some (.int (0)), some (.int (nI (q)))]) m166_108 rfl rfl ?_
                  refine g_iinc (L2 := [some (.ref (89)), some (.int (v)), some (.int (nI (jb))), some (.int (nI (w + 1))), some (.int (0)), some (.int (nI (q + 1)))]) m166_110 rfl (nI_1 _) rfl rfl ?_
                  refine g_goto m166_113 ?_
                  have h22 : ((stepN (rkF (m 58)) (rbF (m 58)) (upm (vr (m 58)) 0 8 (nI (w + 1))) jb) (2 + 2) q).toInt = ((stepN (rkF (m 58)) (rbF (m 58)) (upm (vr (m 58)) 0 8 (nI (w + 1))) jb) 4 q).toInt := rfl
                  exact ih (q + 1) _ (by omega) ((if_neg (by show ¬ (allF (fun i => decide ((stepN (rkF (m 58)) (rbF (m 58)) (upm (vr (m 58)) 0 8 (nI (w + 1))) jb 4 i).toInt < v.toInt)) q && decide _) = true; rw [decide_eq_false (by omega)]; simp)).symm)
                · skip
                  refine g_iconst m166_103 ?_
                  refine g_goto m166_104 ?_
                  refine g_istore (L2 := [some (.ref (89)), some (.int (v)), some (.int (nI (jb))), some (.int (nI (w + 1))), some (.int (1)), some (.int (nI (q)))]) m166_108 rfl rfl ?_
                  refine g_iinc (L2 := [some (.ref (89)), some (.int (v)), some (.int (nI (jb))), some (.int (nI (w + 1))), some (.int (1)), some (.int (nI (q + 1)))]) m166_110 rfl (nI_1 _) rfl rfl ?_
                  refine g_goto m166_113 ?_
                  have h22 : ((stepN (rkF (m 58)) (rbF (m 58)) (upm (vr (m 58)) 0 8 (nI (w + 1))) jb) (2 + 2) q).toInt = ((stepN (rkF (m 58)) (rbF (m 58)) (upm (vr (m 58)) 0 8 (nI (w + 1))) jb) 4 q).toInt := rfl
                  exact ih (q + 1) _ (by omega) ((if_pos (by show (allF (fun i => decide ((stepN (rkF (m 58)) (rbF (m 58)) (upm (vr (m 58)) 0 8 (nI (w + 1))) jb 4 i).toInt < v.toInt)) q && decide _) = true; rw [hal, decide_eq_true (by omega)]; rfl)).symm)
              · rw [if_neg hal] at ho
                subst ho
                refine g_iload m166_76 rfl ?_
                refine g_aload_n m166_78 rfl ?_
                refine h_gfR (c := 90) (k := 57) (p := 89) m166_79 rfl (t_57 _ _) rfl (Nat.le_of_ble_eq_true rfl) ?_
                refine g_iconst m166_82 ?_
                refine h_ial (k := 58) (p := 90) (j := 2) m166_83 rfl (t_58 _ _) (rfl) (by omega) (Nat.le_of_ble_eq_true rfl) (hd3) ?_
                refine h_ic_geF (xi := ((q : Nat) : Int)) (zi := ((n : Nat) : Int)) m166_84 (nI_toInt (by omega)) (nI_toInt (by omega)) (by omega) ?_
                refine g_iload m166_87 rfl ?_
                refine h_if_eqT (xi := 0) (zi := 0) m166_89 rfl rfl (by decide) ?_
                refine g_iconst m166_107 ?_
                refine g_istore (L2 := [some (.ref (89)), some (.int (v)), some (.int (nI (jb))), some (.int (nI (w + 1))), some (.int (0)), some (.int (nI (q)))]) m166_108 rfl rfl ?_
                refine g_iinc (L2 := [some (.ref (89)), some (.int (v)), some (.int (nI (jb))), some (.int (nI (w + 1))), some (.int (0)), some (.int (nI (q + 1)))]) m166_110 rfl (nI_1 _) rfl rfl ?_
                refine g_goto m166_113 ?_
                have h22 : ((stepN (rkF (m 58)) (rbF (m 58)) (upm (vr (m 58)) 0 8 (nI (w + 1))) jb) (2 + 2) q).toInt = ((stepN (rkF (m 58)) (rbF (m 58)) (upm (vr (m 58)) 0 8 (nI (w + 1))) jb) 4 q).toInt := rfl
                exact ih (q + 1) _ (by omega) ((if_neg (by show ¬ (allF (fun i => decide ((stepN (rkF (m 58)) (rbF (m 58)) (upm (vr (m 58)) 0 8 (nI (w + 1))) jb 4 i).toInt < v.toInt)) q && decide _) = true; rw [Bool.eq_false_iff.mpr hal]; simp)).symm)
          exact key2 n 0 1 (by omega) rfl
      exact key 4 0 none _ (by omega) (fun k j a b => congrFun (if_neg (fun z => a (Or.inl z))) j) (if_pos rfl) rfl
    · skip
      refine gwr ?_
      refine h_if_neT (xi := 0) (zi := 0) m166_17 rfl rfl (by decide) ?_
      refine g_aload_n m166_20 rfl ?_
      refine g_ldci m166_21 rfl ?_
      refine h_cv (k := 57) (p := 89) (args := [.int (-1000000001)]) (rest := []) m166_23 cn_108 (Nat.le_of_ble_eq_true rfl) rfl rfl rfl (t_57 _ _) (Nat.le_of_ble_eq_true rfl) ?_
      refine c_errs (e := 1) (by decide) (by decide) (by decide) ?_
      refine gwr ?_
      refine g_iret m166_26 rt_166 ?_
      exact hE1 (by omega)
  · skip
    refine gwr ?_
    refine h_if_eqT (xi := 0) (zi := 0) m166_7 rfl rfl (by decide) ?_
    refine g_aload_n m166_20 rfl ?_
    refine g_ldci m166_21 rfl ?_
    refine h_cv (k := 57) (p := 89) (args := [.int (-1000000001)]) (rest := []) m166_23 cn_108 (Nat.le_of_ble_eq_true rfl) rfl rfl rfl (t_57 _ _) (Nat.le_of_ble_eq_true rfl) ?_
    refine c_errs (e := 1) (by decide) (by decide) (by decide) ?_
    refine gwr ?_
    refine g_iret m166_26 rt_166 ?_
    exact hE1 (by omega)
end
