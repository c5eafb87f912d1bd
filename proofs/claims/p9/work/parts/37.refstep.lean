/-! THE REFERENCE: steps -/
theorem AtY.c {m Y Z m2 : MW} (h : AtY m Y m2) (e : ∀ j i, Z j i = Y j i) : AtY m Z m2 := by
  have e2 : Z = Y := funext fun j => funext fun i => e j i
  rw [e2]
  exact h
section
variable {xs : List Int32} {d : Nat} {h : AH} {Q : QT} {m : MW} {ln : Nat → Nat} {N : Nat}
set_option maxRecDepth 20000 in
set_option maxHeartbeats 40000000 in
theorem c_ahead {i : Nat} {m0 Y : MW} (hA : AtY m0 Y m) (hX0 : TxOk (m0 58) 0) (hW : WF Y) (hi : i < 8) (hQ : ∀ m2, AtY m0 Y m2 → Q (some (.int (nI (aheadF (faceF (rkF (m0 58)) Y) (Y 7) (nOf Y) i)))) (H m2 ln N)) : WP xs (d + 813) 142 0 0 [.ref (89), .int (nI (i))] (H m ln N) Q := by
  refine wp_x mx_142 (L := [some (.ref (89)), some (.int (nI (i))), none, none, none, none]) (Nat.le_of_ble_eq_true rfl) rfl ?_
  obtain ⟨n, hn, hd⟩ := hW.1
  have hnn : nOf Y = n := by unfold nOf; rw [hd]; exact nI_clamp (by omega)
  rw [hnn] at hQ
  have hb : ∀ q, cntF (isAhead (faceF (rkF (m0 58)) Y) (Y 7) i) q ≤ q := cntF_le _
  refine g_aload_n m142_0 rfl ?_
  refine g_iload_n m142_1 rfl ?_
  refine h_cv (k := 57) (p := 89) (args := [.int (nI (i))]) (rest := []) m142_2 cn_132 (Nat.le_of_ble_eq_true rfl) rfl rfl rfl (t_57 _ _) (Nat.le_of_ble_eq_true rfl) ?_
  refine c_faceM hA hX0 hi (hW.2.2 i hi).2.1 (fun m_1 hA_2 => ?_)
  refine gwr ?_
  refine g_istore_n (L2 := [some (.ref (89)), some (.int (nI (i))), some (.int (faceF (rkF (m0 58)) Y i)), none, none, none]) m142_5 rfl rfl ?_
  refine g_iconst m142_6 ?_
  refine g_istore_n (L2 := [some (.ref (89)), some (.int (nI (i))), some (.int (faceF (rkF (m0 58)) Y i)), some (.int (0)), none, none]) m142_7 rfl rfl ?_
  refine g_iconst m142_8 ?_
  refine g_istore (L2 := [some (.ref (89)), some (.int (nI (i))), some (.int (faceF (rkF (m0 58)) Y i)), some (.int (0)), some (.int (0)), none]) m142_9 rfl rfl ?_
  have key : ∀ (r : Nat) (q : Nat) (o5 : Option Value) (m2 : MW), q + r = n → AtY m0 Y m2 → gw xs (WP xs (d + 812)) 142 Q 11 [some (.ref (89)), some (.int (nI (i))), some (.int (faceF (rkF (m0 58)) Y i)), some (.int (nI (cntF (isAhead (faceF (rkF (m0 58)) Y) (Y 7) i) q))), some (.int (nI (q))), o5] [] (H m2 ln N) 0 0 := by
    intro r
    induction r with
    | zero =>
      intro q o5 m2 hq hA2
      obtain rfl : q = n := by omega
      refine g_iload m142_11 rfl ?_
      refine g_aload_n m142_13 rfl ?_
      refine h_gfR (c := 90) (k := 57) (p := 89) m142_14 rfl (t_57 _ _) rfl (Nat.le_of_ble_eq_true rfl) ?_
      refine g_iconst m142_17 ?_
      refine h_ial (k := 58) (p := 90) (j := 2) m142_18 rfl (t_58 _ _) rfl (by omega) (Nat.le_of_ble_eq_true rfl) ((hA2.r2).trans hd) ?_
      refine h_ic_geT (xi := ((q : Nat) : Int)) (zi := ((q : Nat) : Int)) m142_19 (nI_toInt (by omega)) (nI_toInt (by omega)) (by omega) ?_
      refine g_iload_n m142_78 rfl ?_
      refine g_iret m142_79 rt_142 ?_
      exact hQ _ hA2
    | succ r ih =>
      intro q o5 m2 hq hA2
      refine g_iload m142_11 rfl ?_
      refine g_aload_n m142_13 rfl ?_
      refine h_gfR (c := 90) (k := 57) (p := 89) m142_14 rfl (t_57 _ _) rfl (Nat.le_of_ble_eq_true rfl) ?_
      refine g_iconst m142_17 ?_
      refine h_ial (k := 58) (p := 90) (j := 2) m142_18 rfl (t_58 _ _) rfl (by omega) (Nat.le_of_ble_eq_true rfl) ((hA2.r2).trans hd) ?_
      refine h_ic_geF (xi := ((q : Nat) : Int)) (zi := ((n : Nat) : Int)) m142_19 (nI_toInt (by omega)) (nI_toInt (by omega)) (by omega) ?_
      refine g_aload_n m142_22 rfl ?_
      refine g_iload m142_23 rfl ?_
      refine g_iconst m142_25 ?_
      refine h_cv (k := 57) (p := 89) (args := [.int (nI (q)), .int (5)]) (rest := []) m142_26 cn_111 (Nat.le_of_ble_eq_true rfl) rfl rfl rfl (t_57 _ _) (Nat.le_of_ble_eq_true rfl) ?_
      refine c_itsY (w := 5) (x := Y 7 q) hA2 (by omega) (by decide) rfl ?_
      refine gwr ?_
      refine h_if_ne (xi := _) (zi := 0) m142_29 rfl rfl (fun c1 => ?_) (fun c1 => ?_)
      · skip
        refine g_iload m142_32 rfl ?_
        refine g_iload_n m142_34 rfl ?_
        refine h_ic_eq (xi := ((q : Nat) : Int)) (zi := ((i : Nat) : Int)) m142_35 (nI_toInt (by omega)) (nI_toInt (by omega)) (fun c2 => ?_) (fun c2 => ?_)
        · skip
          refine g_iinc (L2 := [some (.ref (89)), some (.int (nI (i))), some (.int (faceF (rkF (m0 58)) Y i)), some (.int (nI (cntF (isAhead (faceF (rkF (m0 58)) Y) (Y 7) i) q))), some (.int (nI (q + 1))), o5]) m142_72 rfl (nI_1 _) rfl rfl ?_
          refine g_goto m142_75 ?_
          have e : cntF (isAhead (faceF (rkF (m0 58)) Y) (Y 7) i) (q + 1) = cntF (isAhead (faceF (rkF (m0 58)) Y) (Y 7) i) q := cnt_n (by unfold isAhead; rw [decide_eq_true_eq]; first | omega | (have e0 : q = i := (by omega); subst e0; omega))
          have h9 := ih (q + 1) (o5) _ (by omega) hA2
          rw [e] at h9
          exact h9
        · skip
          refine g_aload_n m142_38 rfl ?_
          refine g_iload m142_39 rfl ?_
          refine h_cv (k := 57) (p := 89) (args := [.int (nI (q))]) (rest := []) m142_41 cn_132 (Nat.le_of_ble_eq_true rfl) rfl rfl rfl (t_57 _ _) (Nat.le_of_ble_eq_true rfl) ?_
          refine c_faceM hA2 hX0 (by omega) (hW.2.2 q (by omega)).2.1 (fun m_3 hA_4 => ?_)
          refine gwr ?_
          refine g_istore (L2 := [some (.ref (89)), some (.int (nI (i))), some (.int (faceF (rkF (m0 58)) Y i)), some (.int (nI (cntF (isAhead (faceF (rkF (m0 58)) Y) (Y 7) i) q))), some (.int (nI (q))), some (.int (faceF (rkF (m0 58)) Y q))]) m142_44 rfl rfl ?_
          refine g_iload_n m142_46 rfl ?_
          refine g_iload m142_47 rfl ?_
          refine g_iload_n m142_49 rfl ?_
          refine h_ic_gt (xi := _) (zi := _) m142_50 rfl rfl (fun c3 => ?_) (fun c3 => ?_)
          · skip
            refine g_iconst m142_65 ?_
            refine g_goto m142_66 ?_
            refine g_iadd (u := nI (cntF (isAhead (faceF (rkF (m0 58)) Y) (Y 7) i) q + 1)) m142_70 (nI_add _ 1) ?_
            refine g_istore_n (L2 := [some (.ref (89)), some (.int (nI (i))), some (.int (faceF (rkF (m0 58)) Y i)), some (.int (nI (cntF (isAhead (faceF (rkF (m0 58)) Y) (Y 7) i) q + 1))), some (.int (nI (q))), some (.int (faceF (rkF (m0 58)) Y q))]) m142_71 rfl rfl ?_
            refine g_iinc (L2 := [some (.ref (89)), some (.int (nI (i))), some (.int (faceF (rkF (m0 58)) Y i)), some (.int (nI (cntF (isAhead (faceF (rkF (m0 58)) Y) (Y 7) i) q + 1))), some (.int (nI (q + 1))), some (.int (faceF (rkF (m0 58)) Y q))]) m142_72 rfl (nI_1 _) rfl rfl ?_
            refine g_goto m142_75 ?_
            have e : cntF (isAhead (faceF (rkF (m0 58)) Y) (Y 7) i) (q + 1) = cntF (isAhead (faceF (rkF (m0 58)) Y) (Y 7) i) q + 1 := cnt_y (by unfold isAhead; exact decide_eq_true (by omega))
            have h9 := ih (q + 1) (some (.int (faceF (rkF (m0 58)) Y q))) _ (by omega) hA_4
            rw [e] at h9
            exact h9
          · skip
            refine g_iload m142_53 rfl ?_
            refine g_iload_n m142_55 rfl ?_
            refine h_ic_ne (xi := _) (zi := _) m142_56 rfl rfl (fun c4 => ?_) (fun c4 => ?_)
            · skip
              refine g_iload m142_59 rfl ?_
              refine g_iload_n m142_61 rfl ?_
              refine h_ic_ge (xi := ((q : Nat) : Int)) (zi := ((i : Nat) : Int)) m142_62 (nI_toInt (by omega)) (nI_toInt (by omega)) (fun c5 => ?_) (fun c5 => ?_)
              · skip
                refine g_iconst m142_69 ?_
                refine g_iadd (u := nI (cntF (isAhead (faceF (rkF (m0 58)) Y) (Y 7) i) q)) m142_70 (nI_add _ 0) ?_
                refine g_istore_n (L2 := [some (.ref (89)), some (.int (nI (i))), some (.int (faceF (rkF (m0 58)) Y i)), some (.int (nI (cntF (isAhead (faceF (rkF (m0 58)) Y) (Y 7) i) q))), some (.int (nI (q))), some (.int (faceF (rkF (m0 58)) Y q))]) m142_71 rfl rfl ?_
                refine g_iinc (L2 := [some (.ref (89)), some (.int (nI (i))), some (.int (faceF (rkF (m0 58)) Y i)), some (.int (nI (cntF (isAhead (faceF (rkF (m0 58)) Y) (Y 7) i) q))), some (.int (nI (q + 1))), some (.int (faceF (rkF (m0 58)) Y q))]) m142_72 rfl (nI_1 _) rfl rfl ?_
                refine g_goto m142_75 ?_
                have e : cntF (isAhead (faceF (rkF (m0 58)) Y) (Y 7) i) (q + 1) = cntF (isAhead (faceF (rkF (m0 58)) Y) (Y 7) i) q := cnt_n (by unfold isAhead; rw [decide_eq_true_eq]; first | omega | (have e0 : q = i := (by omega); subst e0; omega))
                have h9 := ih (q + 1) (some (.int (faceF (rkF (m0 58)) Y q))) _ (by omega) hA_4
                rw [e] at h9
                exact h9
              · skip
                refine g_iconst m142_65 ?_
                refine g_goto m142_66 ?_
                refine g_iadd (u := nI (cntF (isAhead (faceF (rkF (m0 58)) Y) (Y 7) i) q + 1)) m142_70 (nI_add _ 1) ?_
                refine g_istore_n (L2 := [some (.ref (89)), some (.int (nI (i))), some (.int (faceF (rkF (m0 58)) Y i)), some (.int (nI (cntF (isAhead (faceF (rkF (m0 58)) Y) (Y 7) i) q + 1))), some (.int (nI (q))), some (.int (faceF (rkF (m0 58)) Y q))]) m142_71 rfl rfl ?_
                refine g_iinc (L2 := [some (.ref (89)), some (.int (nI (i))), some (.int (faceF (rkF (m0 58)) Y i)), some (.int (nI (cntF (isAhead (faceF (rkF (m0 58)) Y) (Y 7) i) q + 1))), some (.int (nI (q + 1))), some (.int (faceF (rkF (m0 58)) Y q))]) m142_72 rfl (nI_1 _) rfl rfl ?_
                refine g_goto m142_75 ?_
                have e : cntF (isAhead (faceF (rkF (m0 58)) Y) (Y 7) i) (q + 1) = cntF (isAhead (faceF (rkF (m0 58)) Y) (Y 7) i) q + 1 := cnt_y (by unfold isAhead; exact decide_eq_true (by omega))
                have h9 := ih (q + 1) (some (.int (faceF (rkF (m0 58)) Y q))) _ (by omega) hA_4
                rw [e] at h9
                exact h9
            · skip
              refine g_iconst m142_69 ?_
              refine g_iadd (u := nI (cntF (isAhead (faceF (rkF (m0 58)) Y) (Y 7) i) q)) m142_70 (nI_add _ 0) ?_
              refine g_istore_n (L2 := [some (.ref (89)), some (.int (nI (i))), some (.int (faceF (rkF (m0 58)) Y i)), some (.int (nI (cntF (isAhead (faceF (rkF (m0 58)) Y) (Y 7) i) q))), some (.int (nI (q))), some (.int (faceF (rkF (m0 58)) Y q))]) m142_71 rfl rfl ?_
              refine g_iinc (L2 := [some (.ref (89)), some (.int (nI (i))), some (.int (faceF (rkF (m0 58)) Y i)), some (.int (nI (cntF (isAhead (faceF (rkF (m0 58)) Y) (Y 7) i) q))), some (.int (nI (q + 1))), some (.int (faceF (rkF (m0 58)) Y q))]) m142_72 rfl (nI_1 _) rfl rfl ?_
              refine g_goto m142_75 ?_
              have e : cntF (isAhead (faceF (rkF (m0 58)) Y) (Y 7) i) (q + 1) = cntF (isAhead (faceF (rkF (m0 58)) Y) (Y 7) i) q := cnt_n (by unfold isAhead; rw [decide_eq_true_eq]; first | omega | (have e0 : q = i := (by omega); subst e0; omega))
              have h9 := ih (q + 1) (some (.int (faceF (rkF (m0 58)) Y q))) _ (by omega) hA_4
              rw [e] at h9
              exact h9
      · skip
        refine g_iinc (L2 := [some (.ref (89)), some (.int (nI (i))), some (.int (faceF (rkF (m0 58)) Y i)), some (.int (nI (cntF (isAhead (faceF (rkF (m0 58)) Y) (Y 7) i) q))), some (.int (nI (q + 1))), o5]) m142_72 rfl (nI_1 _) rfl rfl ?_
        refine g_goto m142_75 ?_
        have e : cntF (isAhead (faceF (rkF (m0 58)) Y) (Y 7) i) (q + 1) = cntF (isAhead (faceF (rkF (m0 58)) Y) (Y 7) i) q := cnt_n (by unfold isAhead; rw [decide_eq_true_eq]; first | omega | (have e0 : q = i := (by omega); subst e0; omega))
        have h9 := ih (q + 1) (o5) _ (by omega) hA2
        rw [e] at h9
        exact h9
  exact key n 0 none _ (by omega) hA_2
theorem or_0 {a : Nat} : nI a ||| (0 : Int32) = nI a := by simp
set_option maxRecDepth 20000 in
set_option maxHeartbeats 40000000 in
theorem c_servedM {m0 Y : MW} (hA : AtY m0 Y m) (hX0 : TxOk (m0 58) 0) (hW : WF Y) (hQ : ∀ m2, AtY m0 Y m2 → Q (some (.int (nI (setF (rkF (m0 58)) Y)))) (H m2 ln N)) : WP xs (d + 814) 143 0 0 [.ref (89)] (H m ln N) Q := by
  refine wp_x mx_143 (L := [some (.ref (89)), none, none]) (Nat.le_of_ble_eq_true rfl) rfl ?_
  obtain ⟨n, hn, hd⟩ := hW.1
  have hnn : nOf Y = n := by unfold nOf; rw [hd]; exact nI_clamp (by omega)
  have hset : setF (rkF (m0 58)) Y = bitsF (svF (rkF (m0 58)) Y) n := by unfold setF; rw [hnn]
  rw [hset] at hQ
  have hb : ∀ q, bitsF (svF (rkF (m0 58)) Y) q < 2 ^ q := bitsF_lt _
  have key : ∀ (r : Nat) (q : Nat) (m2 : MW), q + r = n → AtY m0 Y m2 → gw xs (WP xs (d + 813)) 143 Q 4 [some (.ref (89)), some (.int (nI (bitsF (svF (rkF (m0 58)) Y) q))), some (.int (nI (q)))] [] (H m2 ln N) 0 0 := by
    intro r
    induction r with
    | zero =>
      intro q m2 hq hA2
      obtain rfl : q = n := by omega
      refine g_iload_n m143_4 rfl ?_
      refine g_aload_n m143_5 rfl ?_
      refine h_gfR (c := 90) (k := 57) (p := 89) m143_6 rfl (t_57 _ _) rfl (Nat.le_of_ble_eq_true rfl) ?_
      refine g_iconst m143_9 ?_
      refine h_ial (k := 58) (p := 90) (j := 2) m143_10 rfl (t_58 _ _) rfl (by omega) (Nat.le_of_ble_eq_true rfl) ((hA2.r2).trans hd) ?_
      refine h_ic_geT (xi := ((q : Nat) : Int)) (zi := ((q : Nat) : Int)) m143_11 (nI_toInt (by omega)) (nI_toInt (by omega)) (by omega) ?_
      refine g_iload_n m143_54 rfl ?_
      refine g_iret m143_55 rt_143 ?_
      exact hQ _ hA2
    | succ r ih =>
      intro q m2 hq hA2
      refine g_iload_n m143_4 rfl ?_
      refine g_aload_n m143_5 rfl ?_
      refine h_gfR (c := 90) (k := 57) (p := 89) m143_6 rfl (t_57 _ _) rfl (Nat.le_of_ble_eq_true rfl) ?_
      refine g_iconst m143_9 ?_
      refine h_ial (k := 58) (p := 90) (j := 2) m143_10 rfl (t_58 _ _) rfl (by omega) (Nat.le_of_ble_eq_true rfl) ((hA2.r2).trans hd) ?_
      refine h_ic_geF (xi := ((q : Nat) : Int)) (zi := ((n : Nat) : Int)) m143_11 (nI_toInt (by omega)) (nI_toInt (by omega)) (by omega) ?_
      refine g_iload_n m143_14 rfl ?_
      refine g_aload_n m143_15 rfl ?_
      refine g_iload_n m143_16 rfl ?_
      refine g_iconst m143_17 ?_
      refine h_cv (k := 57) (p := 89) (args := [.int (nI (q)), .int (5)]) (rest := [.int (nI (bitsF (svF (rkF (m0 58)) Y) q))]) m143_18 cn_111 (Nat.le_of_ble_eq_true rfl) rfl rfl rfl (t_57 _ _) (Nat.le_of_ble_eq_true rfl) ?_
      refine c_itsY (w := 5) (x := Y 7 q) hA2 (by omega) (by decide) rfl ?_
      refine gwr ?_
      refine h_if_ne (xi := _) (zi := 0) m143_21 rfl rfl (fun c1 => ?_) (fun c1 => ?_)
      · skip
        refine g_aload_n m143_24 rfl ?_
        refine g_iload_n m143_25 rfl ?_
        refine h_cv (k := 57) (p := 89) (args := [.int (nI (q))]) (rest := [.int (nI (bitsF (svF (rkF (m0 58)) Y) q))]) m143_26 cn_142 (Nat.le_of_ble_eq_true rfl) rfl rfl rfl (t_57 _ _) (Nat.le_of_ble_eq_true rfl) ?_
        refine c_ahead hA2 hX0 hW (by omega) (fun m_5 hA_6 => ?_)
        rw [hnn]
        have hcl : aheadF (faceF (rkF (m0 58)) Y) (Y 7) n q ≤ n := cntF_le _ n
        refine gwr ?_
        refine g_aload_n m143_29 rfl ?_
        refine h_gfR (c := 90) (k := 57) (p := 89) m143_30 rfl (t_57 _ _) rfl (Nat.le_of_ble_eq_true rfl) ?_
        refine g_bipush m143_33 ?_
        refine h_ial (k := 58) (p := 90) (j := 7) m143_35 rfl (t_58 _ _) rfl (by omega) (Nat.le_of_ble_eq_true rfl) (hA_6.r7) ?_
        refine h_ic_ge (xi := ((aheadF (faceF (rkF (m0 58)) Y) (Y 7) n q : Nat) : Int)) (zi := _) m143_36 (nI_toInt (by omega)) rfl (fun c2 => ?_) (fun c2 => ?_)
        · skip
          refine g_iconst m143_45 ?_
          refine g_ior (u := nI (bitsF (svF (rkF (m0 58)) Y) q)) m143_46 or_0 ?_
          refine g_istore_n (L2 := [some (.ref (89)), some (.int (nI (bitsF (svF (rkF (m0 58)) Y) q))), some (.int (nI (q)))]) m143_47 rfl rfl ?_
          refine g_iinc (L2 := [some (.ref (89)), some (.int (nI (bitsF (svF (rkF (m0 58)) Y) q))), some (.int (nI (q + 1)))]) m143_48 rfl (nI_1 _) rfl rfl ?_
          refine g_goto m143_51 ?_
          have e : bitsF (svF (rkF (m0 58)) Y) (q + 1) = bitsF (svF (rkF (m0 58)) Y) q := bits_n (by unfold svF isServed; rw [hnn, decide_eq_true_eq]; omega)
          have h9 := ih (q + 1) _ (by omega) hA_6
          rw [e] at h9
          exact h9
        · skip
          refine g_iconst m143_39 ?_
          refine g_iload_n m143_40 rfl ?_
          refine g_ishl m143_41 rfl ?_
          refine g_goto m143_42 ?_
          refine g_ior (u := nI (bitsF (svF (rkF (m0 58)) Y) q + 2 ^ q)) m143_46 (bit_or q (by omega) _ (hb q)) ?_
          refine g_istore_n (L2 := [some (.ref (89)), some (.int (nI (bitsF (svF (rkF (m0 58)) Y) q + 2 ^ q))), some (.int (nI (q)))]) m143_47 rfl rfl ?_
          refine g_iinc (L2 := [some (.ref (89)), some (.int (nI (bitsF (svF (rkF (m0 58)) Y) q + 2 ^ q))), some (.int (nI (q + 1)))]) m143_48 rfl (nI_1 _) rfl rfl ?_
          refine g_goto m143_51 ?_
          have e : bitsF (svF (rkF (m0 58)) Y) (q + 1) = bitsF (svF (rkF (m0 58)) Y) q + 2 ^ q := bits_y (by unfold svF isServed; rw [hnn]; exact decide_eq_true (by omega))
          have h9 := ih (q + 1) _ (by omega) hA_6
          rw [e] at h9
          exact h9
      · skip
        refine g_iconst m143_45 ?_
        refine g_ior (u := nI (bitsF (svF (rkF (m0 58)) Y) q)) m143_46 or_0 ?_
        refine g_istore_n (L2 := [some (.ref (89)), some (.int (nI (bitsF (svF (rkF (m0 58)) Y) q))), some (.int (nI (q)))]) m143_47 rfl rfl ?_
        refine g_iinc (L2 := [some (.ref (89)), some (.int (nI (bitsF (svF (rkF (m0 58)) Y) q))), some (.int (nI (q + 1)))]) m143_48 rfl (nI_1 _) rfl rfl ?_
        refine g_goto m143_51 ?_
        have e : bitsF (svF (rkF (m0 58)) Y) (q + 1) = bitsF (svF (rkF (m0 58)) Y) q := bits_n (by unfold svF isServed; rw [hnn, decide_eq_true_eq]; omega)
        have h9 := ih (q + 1) _ (by omega) hA2
        rw [e] at h9
        exact h9
  refine g_iconst m143_0 ?_
  refine g_istore_n (L2 := [some (.ref (89)), some (.int (0)), none]) m143_1 rfl rfl ?_
  refine g_iconst m143_2 ?_
  refine g_istore_n (L2 := [some (.ref (89)), some (.int (0)), some (.int (0))]) m143_3 rfl rfl ?_
  exact key n 0 _ (by omega) hA
set_option maxRecDepth 20000 in
set_option maxHeartbeats 40000000 in
theorem c_sits1 {i : Nat} {m0 Y : MW} (hA : AtY m0 Y m) (hX0 : TxOk (m0 58) 0) (hX1 : TxOk (m0 58) 1) (hW : WF Y) (hi : i < 8) (hQ : ∀ m2, AtY m0 (passF (rkF (m0 58)) (rbF (m0 58)) true Y i) m2 → Q none (H m2 ln N)) : WP xs (d + 813) 144 0 0 [.ref (89), .int (nI (i)), .int (1)] (H m ln N) Q := by
  refine wp_x mx_144 (L := [some (.ref (89)), some (.int (nI (i))), some (.int (1))]) (Nat.le_of_ble_eq_true rfl) rfl ?_
  obtain ⟨hf, hk, hm, hh, hs, hc, hg⟩ := hW.2.2 i hi
  obtain ⟨hcn, hc9, hce⟩ := hc
  have hclamp : (Y 6 i).toNatClampNeg = hcn := by rw [hce]; exact nI_clamp (by omega)
  have h1 : heldF (Y 4 i - Y 1 (hcn % 8)) 99 = hungF true Y i := by unfold hungF; rw [if_pos rfl, hclamp]
  have h2 : heldF (nI (hcn + 1)) 99 = hadF true Y i := by unfold hadF; rw [if_pos rfl, hce, nI_1]
  refine g_iload_n m144_0 rfl ?_
  refine h_if_eqF (xi := 1) (zi := 0) m144_1 rfl rfl (by decide) ?_
  refine g_aload_n m144_4 rfl ?_
  refine g_iload_n m144_5 rfl ?_
  refine g_iconst m144_6 ?_
  refine g_aload_n m144_7 rfl ?_
  refine g_iload_n m144_8 rfl ?_
  refine g_iconst m144_9 ?_
  refine h_cv (k := 57) (p := 89) (args := [.int (nI (i)), .int (2)]) (rest := [.int (2), .int (nI (i)), .ref (89)]) m144_10 cn_111 (Nat.le_of_ble_eq_true rfl) rfl rfl rfl (t_57 _ _) (Nat.le_of_ble_eq_true rfl) ?_
  refine c_itsY (w := 2) (x := Y 4 i) hA hi (by decide) rfl ?_
  refine gwr ?_
  refine g_aload_n m144_13 rfl ?_
  refine h_gfR (c := 90) (k := 57) (p := 89) m144_14 rfl (t_57 _ _) rfl (Nat.le_of_ble_eq_true rfl) ?_
  refine g_bipush m144_17 ?_
  refine g_aload_n m144_19 rfl ?_
  refine g_iload_n m144_20 rfl ?_
  refine g_iconst m144_21 ?_
  refine h_cv (k := 57) (p := 89) (args := [.int (nI (i)), .int (4)]) (rest := [.int (8), .ref (90), .int (Y 4 i), .int (2), .int (nI (i)), .ref (89)]) m144_22 cn_111 (Nat.le_of_ble_eq_true rfl) rfl rfl rfl (t_57 _ _) (Nat.le_of_ble_eq_true rfl) ?_
  refine c_itsY (w := 4) (x := nI (hcn)) hA hi (by decide) (hce) ?_
  refine gwr ?_
  refine g_bipush m144_25 ?_
  refine g_irem (u := nI (hcn % 8)) m144_27 (by decide) (pk_rem (a := hcn) (d := 8) (by omega) (by decide) (by decide)) ?_
  refine g_iadd (u := nI (8 + (hcn % 8))) m144_28 (nI_add 8 (hcn % 8)) ?_
  refine h_ial (k := 58) (p := 90) (j := 8 + (hcn % 8)) m144_29 rfl (t_58 _ _) rfl (by omega) (Nat.le_of_ble_eq_true rfl) (hA.rf (by omega)) ?_
  refine g_isub m144_30 rfl ?_
  refine g_iconst m144_31 ?_
  refine g_bipush m144_32 ?_
  refine g_cs (args := [.int ((Y 4 i - Y 1 (hcn % 8))), .int (0), .int (99)]) (rest := [.int (2), .int (nI (i)), .ref (89)]) 0 (Or.inl rfl) m144_34 (Nat.le_of_ble_eq_true rfl) rfl rfl (Nat.le_of_ble_eq_true rfl) ?_
  refine c_heldM ?_
  rw [h1]
  refine gwr ?_
  refine h_cv (k := 57) (p := 89) (args := [.int (nI (i)), .int (2), .int (hungF true Y i)]) (rest := []) m144_37 cn_112 (Nat.le_of_ble_eq_true rfl) rfl rfl rfl (t_57 _ _) (Nat.le_of_ble_eq_true rfl) ?_
  refine c_gets (w := 2) hi (by decide) ?_
  have hAu1 := hA.up (c := 2) hi (by decide) (hungF true Y i)
  refine gwr0 ?_
  refine g_aload_n m144_40 rfl ?_
  refine g_iload_n m144_41 rfl ?_
  refine g_iconst m144_42 ?_
  refine g_aload_n m144_43 rfl ?_
  refine g_iload_n m144_44 rfl ?_
  refine g_iconst m144_45 ?_
  refine h_cv (k := 57) (p := 89) (args := [.int (nI (i)), .int (4)]) (rest := [.int (4), .int (nI (i)), .ref (89)]) m144_46 cn_111 (Nat.le_of_ble_eq_true rfl) rfl rfl rfl (t_57 _ _) (Nat.le_of_ble_eq_true rfl) ?_
  refine c_itsY (w := 4) (x := nI (hcn)) hAu1 hi (by decide) (hce) ?_
  refine gwr ?_
  refine g_iconst m144_49 ?_
  refine g_iadd (u := nI (hcn + 1)) m144_50 (nI_add hcn 1) ?_
  refine g_iconst m144_51 ?_
  refine g_bipush m144_52 ?_
  refine g_cs (args := [.int (nI (hcn + 1)), .int (0), .int (99)]) (rest := [.int (4), .int (nI (i)), .ref (89)]) 0 (Or.inl rfl) m144_54 (Nat.le_of_ble_eq_true rfl) rfl rfl (Nat.le_of_ble_eq_true rfl) ?_
  refine c_heldM ?_
  rw [h2]
  refine gwr ?_
  refine h_cv (k := 57) (p := 89) (args := [.int (nI (i)), .int (4), .int (hadF true Y i)]) (rest := []) m144_57 cn_112 (Nat.le_of_ble_eq_true rfl) rfl rfl rfl (t_57 _ _) (Nat.le_of_ble_eq_true rfl) ?_
  refine c_gets (w := 4) hi (by decide) ?_
  have hAu2 := hAu1.up (c := 4) hi (by decide) (hadF true Y i)
  refine gwr0 ?_
  refine g_goto m144_60 ?_
  refine g_aload_n m144_87 rfl ?_
  refine g_iload_n m144_88 rfl ?_
  refine g_iconst m144_89 ?_
  refine g_aload_n m144_90 rfl ?_
  refine g_iconst m144_91 ?_
  refine g_aload_n m144_92 rfl ?_
  refine g_iload_n m144_93 rfl ?_
  refine g_iconst m144_94 ?_
  refine h_cv (k := 57) (p := 89) (args := [.int (nI (i)), .int (2)]) (rest := [.int (1), .ref (89), .int (5), .int (nI (i)), .ref (89)]) m144_95 cn_111 (Nat.le_of_ble_eq_true rfl) rfl rfl rfl (t_57 _ _) (Nat.le_of_ble_eq_true rfl) ?_
  refine c_itsY (w := 2) (x := (ateF true Y i) 4 i) hAu2 hi (by decide) rfl ?_
  refine gwr ?_
  refine g_aload_n m144_98 rfl ?_
  refine g_iload_n m144_99 rfl ?_
  refine h_cv (k := 57) (p := 89) (args := [.int (nI (i))]) (rest := [.int ((ateF true Y i) 4 i), .int (1), .ref (89), .int (5), .int (nI (i)), .ref (89)]) m144_100 cn_132 (Nat.le_of_ble_eq_true rfl) rfl rfl rfl (t_57 _ _) (Nat.le_of_ble_eq_true rfl) ?_
  refine c_faceM hAu2 hX0 hi hk (fun m_7 hA_8 => ?_)
  refine gwr ?_
  refine g_aload_n m144_103 rfl ?_
  refine g_iload_n m144_104 rfl ?_
  refine g_iconst m144_105 ?_
  refine h_cv (k := 57) (p := 89) (args := [.int (nI (i)), .int (4)]) (rest := [.int (faceF (rkF (m0 58)) (ateF true Y i) i), .int ((ateF true Y i) 4 i), .int (1), .ref (89), .int (5), .int (nI (i)), .ref (89)]) m144_106 cn_111 (Nat.le_of_ble_eq_true rfl) rfl rfl rfl (t_57 _ _) (Nat.le_of_ble_eq_true rfl) ?_
  refine c_itsY (w := 4) (x := (ateF true Y i) 6 i) hA_8 hi (by decide) rfl ?_
  refine gwr ?_
  refine h_cv (k := 57) (p := 89) (args := [.int (1), .int ((ateF true Y i) 4 i), .int (faceF (rkF (m0 58)) (ateF true Y i) i), .int ((ateF true Y i) 6 i)]) (rest := [.int (5), .int (nI (i)), .ref (89)]) m144_109 cn_131 (Nat.le_of_ble_eq_true rfl) rfl rfl rfl (t_57 _ _) (Nat.le_of_ble_eq_true rfl) ?_
  refine c_lawOf1 hA_8 hX1 (fun m_9 hA_10 => ?_)
  refine gwr ?_
  refine h_if_eq (xi := _) (zi := 0) m144_112 rfl rfl (fun c3 => ?_) (fun c3 => ?_)
  · skip
    refine g_iconst m144_119 ?_
    refine h_cv (k := 57) (p := 89) (args := [.int (nI (i)), .int (5), .int (0)]) (rest := []) m144_120 cn_112 (Nat.le_of_ble_eq_true rfl) rfl rfl rfl (t_57 _ _) (Nat.le_of_ble_eq_true rfl) ?_
    refine c_gets (w := 5) hi (by decide) ?_
    have hAu4 := hA_10.up (c := 5) hi (by decide) (0 : Int32)
    refine gwr0 ?_
    refine g_vret m144_123 ?_
    have e : passF (rkF (m0 58)) (rbF (m0 58)) true Y i = upm (ateF true Y i) 7 i 0 := by
      unfold passF goneF
      rw [if_pos (by exact c3)]
    exact hQ _ (by rw [e]; exact hAu4)
  · skip
    refine g_iconst m144_115 ?_
    refine g_goto m144_116 ?_
    refine h_cv (k := 57) (p := 89) (args := [.int (nI (i)), .int (5), .int (1)]) (rest := []) m144_120 cn_112 (Nat.le_of_ble_eq_true rfl) rfl rfl rfl (t_57 _ _) (Nat.le_of_ble_eq_true rfl) ?_
    refine c_gets (w := 5) hi (by decide) ?_
    have hAu5 := hA_10.up (c := 5) hi (by decide) (1 : Int32)
    refine gwr0 ?_
    refine g_vret m144_123 ?_
    have e : passF (rkF (m0 58)) (rbF (m0 58)) true Y i = upm (ateF true Y i) 7 i 1 := by
      unfold passF goneF
      rw [if_neg (by exact c3)]
    exact hQ _ (by rw [e]; exact hAu5)
set_option maxRecDepth 20000 in
set_option maxHeartbeats 40000000 in
theorem c_sits0 {i : Nat} {m0 Y : MW} (hA : AtY m0 Y m) (hX0 : TxOk (m0 58) 0) (hX1 : TxOk (m0 58) 1) (hW : WF Y) (hi : i < 8) (hQ : ∀ m2, AtY m0 (passF (rkF (m0 58)) (rbF (m0 58)) false Y i) m2 → Q none (H m2 ln N)) : WP xs (d + 813) 144 0 0 [.ref (89), .int (nI (i)), .int (0)] (H m ln N) Q := by
  refine wp_x mx_144 (L := [some (.ref (89)), some (.int (nI (i))), some (.int (0))]) (Nat.le_of_ble_eq_true rfl) rfl ?_
  obtain ⟨hf, hk, hm, hh, hs, hc, hg⟩ := hW.2.2 i hi
  obtain ⟨hcn, hc9, hce⟩ := hc
  have hclamp : (Y 6 i).toNatClampNeg = hcn := by rw [hce]; exact nI_clamp (by omega)
  have h1 : heldF (Y 4 i + growsF Y i) 99 = hungF false Y i := by unfold hungF; rw [if_neg (by decide)]
  refine g_iload_n m144_0 rfl ?_
  refine h_if_eqT (xi := 0) (zi := 0) m144_1 rfl rfl (by decide) ?_
  refine g_aload_n m144_63 rfl ?_
  refine g_iload_n m144_64 rfl ?_
  refine g_iconst m144_65 ?_
  refine g_aload_n m144_66 rfl ?_
  refine g_iload_n m144_67 rfl ?_
  refine g_iconst m144_68 ?_
  refine h_cv (k := 57) (p := 89) (args := [.int (nI (i)), .int (2)]) (rest := [.int (2), .int (nI (i)), .ref (89)]) m144_69 cn_111 (Nat.le_of_ble_eq_true rfl) rfl rfl rfl (t_57 _ _) (Nat.le_of_ble_eq_true rfl) ?_
  refine c_itsY (w := 2) (x := Y 4 i) hA hi (by decide) rfl ?_
  refine gwr ?_
  refine g_aload_n m144_72 rfl ?_
  refine g_iload_n m144_73 rfl ?_
  refine h_cv (k := 57) (p := 89) (args := [.int (nI (i))]) (rest := [.int (Y 4 i), .int (2), .int (nI (i)), .ref (89)]) m144_74 cn_141 (Nat.le_of_ble_eq_true rfl) rfl rfl rfl (t_57 _ _) (Nat.le_of_ble_eq_true rfl) ?_
  refine c_growsM hA hi hk ?_
  refine gwr ?_
  refine g_iadd m144_77 rfl ?_
  refine g_iconst m144_78 ?_
  refine g_bipush m144_79 ?_
  refine g_cs (args := [.int ((Y 4 i + growsF Y i)), .int (0), .int (99)]) (rest := [.int (2), .int (nI (i)), .ref (89)]) 0 (Or.inl rfl) m144_81 (Nat.le_of_ble_eq_true rfl) rfl rfl (Nat.le_of_ble_eq_true rfl) ?_
  refine c_heldM ?_
  rw [h1]
  refine gwr ?_
  refine h_cv (k := 57) (p := 89) (args := [.int (nI (i)), .int (2), .int (hungF false Y i)]) (rest := []) m144_84 cn_112 (Nat.le_of_ble_eq_true rfl) rfl rfl rfl (t_57 _ _) (Nat.le_of_ble_eq_true rfl) ?_
  refine c_gets (w := 2) hi (by decide) ?_
  have hAu1 := hA.up (c := 2) hi (by decide) (hungF false Y i)
  refine gwr0 ?_
  have hAu2 : AtY m0 (ateF false Y i) _ := hAu1.c (fun j k => ate_f Y i j k)
  refine g_aload_n m144_87 rfl ?_
  refine g_iload_n m144_88 rfl ?_
  refine g_iconst m144_89 ?_
  refine g_aload_n m144_90 rfl ?_
  refine g_iconst m144_91 ?_
  refine g_aload_n m144_92 rfl ?_
  refine g_iload_n m144_93 rfl ?_
  refine g_iconst m144_94 ?_
  refine h_cv (k := 57) (p := 89) (args := [.int (nI (i)), .int (2)]) (rest := [.int (1), .ref (89), .int (5), .int (nI (i)), .ref (89)]) m144_95 cn_111 (Nat.le_of_ble_eq_true rfl) rfl rfl rfl (t_57 _ _) (Nat.le_of_ble_eq_true rfl) ?_
  refine c_itsY (w := 2) (x := (ateF false Y i) 4 i) hAu2 hi (by decide) rfl ?_
  refine gwr ?_
  refine g_aload_n m144_98 rfl ?_
  refine g_iload_n m144_99 rfl ?_
  refine h_cv (k := 57) (p := 89) (args := [.int (nI (i))]) (rest := [.int ((ateF false Y i) 4 i), .int (1), .ref (89), .int (5), .int (nI (i)), .ref (89)]) m144_100 cn_132 (Nat.le_of_ble_eq_true rfl) rfl rfl rfl (t_57 _ _) (Nat.le_of_ble_eq_true rfl) ?_
  refine c_faceM hAu2 hX0 hi hk (fun m_11 hA_12 => ?_)
  refine gwr ?_
  refine g_aload_n m144_103 rfl ?_
  refine g_iload_n m144_104 rfl ?_
  refine g_iconst m144_105 ?_
  refine h_cv (k := 57) (p := 89) (args := [.int (nI (i)), .int (4)]) (rest := [.int (faceF (rkF (m0 58)) (ateF false Y i) i), .int ((ateF false Y i) 4 i), .int (1), .ref (89), .int (5), .int (nI (i)), .ref (89)]) m144_106 cn_111 (Nat.le_of_ble_eq_true rfl) rfl rfl rfl (t_57 _ _) (Nat.le_of_ble_eq_true rfl) ?_
  refine c_itsY (w := 4) (x := (ateF false Y i) 6 i) hA_12 hi (by decide) rfl ?_
  refine gwr ?_
  refine h_cv (k := 57) (p := 89) (args := [.int (1), .int ((ateF false Y i) 4 i), .int (faceF (rkF (m0 58)) (ateF false Y i) i), .int ((ateF false Y i) 6 i)]) (rest := [.int (5), .int (nI (i)), .ref (89)]) m144_109 cn_131 (Nat.le_of_ble_eq_true rfl) rfl rfl rfl (t_57 _ _) (Nat.le_of_ble_eq_true rfl) ?_
  refine c_lawOf1 hA_12 hX1 (fun m_13 hA_14 => ?_)
  refine gwr ?_
  refine h_if_eq (xi := _) (zi := 0) m144_112 rfl rfl (fun c3 => ?_) (fun c3 => ?_)
  · skip
    refine g_iconst m144_119 ?_
    refine h_cv (k := 57) (p := 89) (args := [.int (nI (i)), .int (5), .int (0)]) (rest := []) m144_120 cn_112 (Nat.le_of_ble_eq_true rfl) rfl rfl rfl (t_57 _ _) (Nat.le_of_ble_eq_true rfl) ?_
    refine c_gets (w := 5) hi (by decide) ?_
    have hAu4 := hA_14.up (c := 5) hi (by decide) (0 : Int32)
    refine gwr0 ?_
    refine g_vret m144_123 ?_
    have e : passF (rkF (m0 58)) (rbF (m0 58)) false Y i = upm (ateF false Y i) 7 i 0 := by
      unfold passF goneF
      rw [if_pos (by exact c3)]
    exact hQ _ (by rw [e]; exact hAu4)
  · skip
    refine g_iconst m144_115 ?_
    refine g_goto m144_116 ?_
    refine h_cv (k := 57) (p := 89) (args := [.int (nI (i)), .int (5), .int (1)]) (rest := []) m144_120 cn_112 (Nat.le_of_ble_eq_true rfl) rfl rfl rfl (t_57 _ _) (Nat.le_of_ble_eq_true rfl) ?_
    refine c_gets (w := 5) hi (by decide) ?_
    have hAu5 := hA_14.up (c := 5) hi (by decide) (1 : Int32)
    refine gwr0 ?_
    refine g_vret m144_123 ?_
    have e : passF (rkF (m0 58)) (rbF (m0 58)) false Y i = upm (ateF false Y i) 7 i 1 := by
      unfold passF goneF
      rw [if_neg (by exact c3)]
    exact hQ _ (by rw [e]; exact hAu5)
set_option maxRecDepth 20000 in
set_option maxHeartbeats 40000000 in
theorem c_oneStep {m0 Y : MW} (hA : AtY m0 Y m) (hX0 : TxOk (m0 58) 0) (hX1 : TxOk (m0 58) 1) (hW : WF Y) (hQ : ∀ m2, AtY m0 (stepF (rkF (m0 58)) (rbF (m0 58)) Y) m2 → Q none (H m2 ln N)) : WP xs (d + 815) 145 0 0 [.ref (89)] (H m ln N) Q := by
  refine wp_x mx_145 (L := [some (.ref (89)), none, none]) (Nat.le_of_ble_eq_true rfl) rfl ?_
  obtain ⟨n, hn, hd⟩ := hW.1
  have hnn : nOf Y = n := by unfold nOf; rw [hd]; exact nI_clamp (by omega)
  have hblt : ∀ q, bitsF (svF (rkF (m0 58)) Y) q < 2 ^ q := bitsF_lt _
  have h256 : bitsF (svF (rkF (m0 58)) Y) n < 256 := Nat.lt_of_lt_of_le (hblt n) (Nat.pow_le_pow_right (by decide) hn : 2 ^ n ≤ 2 ^ 8)
  have hset : setF (rkF (m0 58)) Y = bitsF (svF (rkF (m0 58)) Y) n := by unfold setF; rw [hnn]
  refine g_aload_n m145_0 rfl ?_
  refine h_cv (k := 57) (p := 89) (args := []) (rest := []) m145_1 cn_143 (Nat.le_of_ble_eq_true rfl) rfl rfl rfl (t_57 _ _) (Nat.le_of_ble_eq_true rfl) ?_
  refine c_servedM hA hX0 hW (fun m1 hA1 => ?_)
  rw [hset]
  refine gwr ?_
  refine g_istore_n (L2 := [some (.ref (89)), some (.int (nI (bitsF (svF (rkF (m0 58)) Y) n))), none]) m145_4 rfl rfl ?_
  refine g_iconst m145_5 ?_
  refine g_istore_n (L2 := [some (.ref (89)), some (.int (nI (bitsF (svF (rkF (m0 58)) Y) n))), some (.int (0))]) m145_6 rfl rfl ?_
  have key : ∀ (r : Nat) (q : Nat) (m2 : MW), q + r = n → AtY m0 (passN (rkF (m0 58)) (rbF (m0 58)) (svF (rkF (m0 58)) Y) Y q) m2 → gw xs (WP xs (d + 814)) 145 Q 7 [some (.ref (89)), some (.int (nI (bitsF (svF (rkF (m0 58)) Y) n))), some (.int (nI (q)))] [] (H m2 ln N) 0 0 := by
    intro r
    induction r with
    | zero =>
      intro q m2 hq hA2
      obtain rfl : q = n := by omega
      refine g_iload_n m145_7 rfl ?_
      refine g_aload_n m145_8 rfl ?_
      refine h_gfR (c := 90) (k := 57) (p := 89) m145_9 rfl (t_57 _ _) rfl (Nat.le_of_ble_eq_true rfl) ?_
      refine g_iconst m145_12 ?_
      refine h_ial (k := 58) (p := 90) (j := 2) m145_13 rfl (t_58 _ _) rfl (by omega) (Nat.le_of_ble_eq_true rfl) ((hA2.r2).trans ((passN_o _ _ _ _ _ (by omega)).trans hd)) ?_
      refine h_ic_geT (xi := ((q : Nat) : Int)) (zi := ((q : Nat) : Int)) m145_14 (nI_toInt (by omega)) (nI_toInt (by omega)) (by omega) ?_
      refine g_aload_n m145_51 rfl ?_
      refine h_gfR (c := 90) (k := 57) (p := 89) m145_52 rfl (t_57 _ _) rfl (Nat.le_of_ble_eq_true rfl) ?_
      refine g_iconst m145_55 ?_
      refine g_dup2 m145_56 rfl rfl ?_
      refine h_ial (k := 58) (p := 90) (j := 0) m145_57 rfl (t_58 _ _) rfl (by omega) (Nat.le_of_ble_eq_true rfl) (hA2.r0) ?_
      refine g_iconst m145_58 ?_
      refine g_iadd m145_59 rfl ?_
      refine h_ias (k := 58) (p := 90) (j := 0) m145_60 rfl (t_58 _ _) (rfl) (by omega) (Nat.le_of_ble_eq_true rfl) ?_
      refine g_vret m145_61 ?_
      have e9 : passN (rkF (m0 58)) (rbF (m0 58)) (svF (rkF (m0 58)) Y) Y q 0 9 = Y 0 9 := passN_o _ _ _ _ _ (by omega)
      have e : stepF (rkF (m0 58)) (rbF (m0 58)) Y = upm (passN (rkF (m0 58)) (rbF (m0 58)) (svF (rkF (m0 58)) Y) Y q) 0 9 (Y 0 9 + 1) := by unfold stepF; rw [hnn]
      refine hQ _ ?_
      rw [e, ← e9]
      exact hA2.up9 _
    | succ r ih =>
      intro q m2 hq hA2
      have h7 : passN (rkF (m0 58)) (rbF (m0 58)) (svF (rkF (m0 58)) Y) Y q 7 q = Y 7 q := passN_o _ _ _ _ _ (by omega)
      refine g_iload_n m145_7 rfl ?_
      refine g_aload_n m145_8 rfl ?_
      refine h_gfR (c := 90) (k := 57) (p := 89) m145_9 rfl (t_57 _ _) rfl (Nat.le_of_ble_eq_true rfl) ?_
      refine g_iconst m145_12 ?_
      refine h_ial (k := 58) (p := 90) (j := 2) m145_13 rfl (t_58 _ _) rfl (by omega) (Nat.le_of_ble_eq_true rfl) ((hA2.r2).trans ((passN_o _ _ _ _ _ (by omega)).trans hd)) ?_
      refine h_ic_geF (xi := ((q : Nat) : Int)) (zi := ((n : Nat) : Int)) m145_14 (nI_toInt (by omega)) (nI_toInt (by omega)) (by omega) ?_
      refine g_aload_n m145_17 rfl ?_
      refine g_iload_n m145_18 rfl ?_
      refine g_iconst m145_19 ?_
      refine h_cv (k := 57) (p := 89) (args := [.int (nI (q)), .int (5)]) (rest := []) m145_20 cn_111 (Nat.le_of_ble_eq_true rfl) rfl rfl rfl (t_57 _ _) (Nat.le_of_ble_eq_true rfl) ?_
      refine c_itsY (w := 5) (x := (passN (rkF (m0 58)) (rbF (m0 58)) (svF (rkF (m0 58)) Y) Y q) 7 q) hA2 (by omega) (by decide) rfl ?_
      refine gwr ?_
      refine h_if_ne (xi := _) (zi := 0) m145_23 rfl rfl (fun c1 => ?_) (fun c1 => ?_)
      · skip
        refine g_aload_n m145_26 rfl ?_
        refine g_iload_n m145_27 rfl ?_
        refine g_iload_n m145_28 rfl ?_
        refine g_iload_n m145_29 rfl ?_
        refine g_ishr m145_30 rfl ?_
        refine g_iconst m145_31 ?_
        refine g_iand (u := if (bitsF (svF (rkF (m0 58)) Y) n).testBit q = true then 1 else 0) m145_32 (bit_sh q (by omega) _ h256) ?_
        rw [bitsF_t _ _ _ (show q < n by omega)]
        cases hsv : svF (rkF (m0 58)) Y q
        · skip
          refine gwst (st' := [.int (0), .int (nI (q)), .ref (89)]) rfl ?_
          refine g_iconst m145_33 ?_
          refine h_ic_neF (xi := 0) (zi := 1) m145_34 rfl rfl (by decide) ?_
          refine g_iconst m145_41 ?_
          refine h_cv (k := 57) (p := 89) (args := [.int (nI (q)), .int (0)]) (rest := []) m145_42 cn_144 (Nat.le_of_ble_eq_true rfl) rfl rfl rfl (t_57 _ _) (Nat.le_of_ble_eq_true rfl) ?_
          refine c_sits0 hA2 hX0 hX1 (WF_passN hW q (by omega)) (by omega) (fun m_15 hA_16 => ?_)
          refine gwr0 ?_
          refine g_iinc (L2 := [some (.ref (89)), some (.int (nI (bitsF (svF (rkF (m0 58)) Y) n))), some (.int (nI (q + 1)))]) m145_45 rfl (nI_1 _) rfl rfl ?_
          refine g_goto m145_48 ?_
          exact ih (q + 1) _ (by omega) (by rw [passN_s, if_pos (by rw [← h7]; exact c1), hsv]; exact hA_16)
        · skip
          refine gwst (st' := [.int (1), .int (nI (q)), .ref (89)]) rfl ?_
          refine g_iconst m145_33 ?_
          refine h_ic_neT (xi := 1) (zi := 1) m145_34 rfl rfl (by decide) ?_
          refine g_iconst m145_37 ?_
          refine g_goto m145_38 ?_
          refine h_cv (k := 57) (p := 89) (args := [.int (nI (q)), .int (1)]) (rest := []) m145_42 cn_144 (Nat.le_of_ble_eq_true rfl) rfl rfl rfl (t_57 _ _) (Nat.le_of_ble_eq_true rfl) ?_
          refine c_sits1 hA2 hX0 hX1 (WF_passN hW q (by omega)) (by omega) (fun m_17 hA_18 => ?_)
          refine gwr0 ?_
          refine g_iinc (L2 := [some (.ref (89)), some (.int (nI (bitsF (svF (rkF (m0 58)) Y) n))), some (.int (nI (q + 1)))]) m145_45 rfl (nI_1 _) rfl rfl ?_
          refine g_goto m145_48 ?_
          exact ih (q + 1) _ (by omega) (by rw [passN_s, if_pos (by rw [← h7]; exact c1), hsv]; exact hA_18)
      · skip
        refine g_iinc (L2 := [some (.ref (89)), some (.int (nI (bitsF (svF (rkF (m0 58)) Y) n))), some (.int (nI (q + 1)))]) m145_45 rfl (nI_1 _) rfl rfl ?_
        refine g_goto m145_48 ?_
        exact ih (q + 1) _ (by omega) (by rw [passN_s, if_neg (by rw [← h7]; exact c1)]; exact hA2)
  exact key n 0 _ (by omega) hA1
set_option maxRecDepth 20000 in
set_option maxHeartbeats 40000000 in
theorem c_passes {n : Nat} {m0 Y : MW} (hA : AtY m0 Y m) (hX0 : TxOk (m0 58) 0) (hX1 : TxOk (m0 58) 1) (hW : WF Y) (hn6 : n ≤ 100) (hQ : ∀ m2, AtY m0 (stepN (rkF (m0 58)) (rbF (m0 58)) Y n) m2 → Q none (H m2 ln N)) : WP xs (d + 816) 146 0 0 [.ref (89), .int (nI (n))] (H m ln N) Q := by
  refine wp_x mx_146 (L := [some (.ref (89)), some (.int (nI (n))), none]) (Nat.le_of_ble_eq_true rfl) rfl ?_
  have key : ∀ (r : Nat) (q : Nat) (m2 : MW), q + r = n → AtY m0 (stepN (rkF (m0 58)) (rbF (m0 58)) Y q) m2 → gw xs (WP xs (d + 815)) 146 Q 2 [some (.ref (89)), some (.int (nI (n))), some (.int (nI (q)))] [] (H m2 ln N) 0 0 := by
    intro r
    induction r with
    | zero =>
      intro q m2 hq hA2
      obtain rfl : q = n := by omega
      refine g_iload_n m146_2 rfl ?_
      refine g_iload_n m146_3 rfl ?_
      refine h_ic_geT (xi := ((q : Nat) : Int)) (zi := ((q : Nat) : Int)) m146_4 (nI_toInt (by omega)) (nI_toInt (by omega)) (by omega) ?_
      refine g_vret m146_17 ?_
      exact hQ _ hA2
    | succ r ih =>
      intro q m2 hq hA2
      refine g_iload_n m146_2 rfl ?_
      refine g_iload_n m146_3 rfl ?_
      refine h_ic_geF (xi := ((q : Nat) : Int)) (zi := ((n : Nat) : Int)) m146_4 (nI_toInt (by omega)) (nI_toInt (by omega)) (by omega) ?_
      refine g_aload_n m146_7 rfl ?_
      refine h_cv (k := 57) (p := 89) (args := []) (rest := []) m146_8 cn_145 (Nat.le_of_ble_eq_true rfl) rfl rfl rfl (t_57 _ _) (Nat.le_of_ble_eq_true rfl) ?_
      refine c_oneStep hA2 hX0 hX1 (WF_stepN hW q) (fun m3 hA3 => ?_)
      refine gwr0 ?_
      refine g_iinc (L2 := [some (.ref (89)), some (.int (nI (n))), some (.int (nI (q + 1)))]) m146_11 rfl (nI_1 _) rfl rfl ?_
      refine g_goto m146_14 ?_
      exact ih (q + 1) _ (by omega) hA3
  refine g_iconst m146_0 ?_
  refine g_istore_n (L2 := [some (.ref (89)), some (.int (nI (n))), some (.int (0))]) m146_1 rfl rfl ?_
  exact key n 0 _ (by omega) hA
set_option maxRecDepth 20000 in
set_option maxHeartbeats 40000000 in
theorem c_sumOf {n w : Nat} {m0 Y : MW} (hA : AtY m0 Y m) (hw : w < 6) (hn : n ≤ 8) (hd : Y 0 10 = nI n) (hQ : Q (some (.int (sumF (Y (2 + w)) n))) (H m ln N)) : WP xs (d + 2) 147 0 0 [.ref (89), .int (nI (w))] (H m ln N) Q := by
  refine wp_x mx_147 (L := [some (.ref (89)), some (.int (nI (w))), none, none]) (Nat.le_of_ble_eq_true rfl) rfl ?_
  have key : ∀ (r : Nat) (q : Nat), q + r = n → gw xs (WP xs (d + 1)) 147 Q 4 [some (.ref (89)), some (.int (nI (w))), some (.int (sumF (Y (2 + w)) q)), some (.int (nI (q)))] [] (H m ln N) 0 0 := by
    intro r
    induction r with
    | zero =>
      intro q hq
      obtain rfl : q = n := by omega
      refine g_iload_n m147_4 rfl ?_
      refine g_aload_n m147_5 rfl ?_
      refine h_gfR (c := 90) (k := 57) (p := 89) m147_6 rfl (t_57 _ _) rfl (Nat.le_of_ble_eq_true rfl) ?_
      refine g_iconst m147_9 ?_
      refine h_ial (k := 58) (p := 90) (j := 2) m147_10 rfl (t_58 _ _) rfl (by omega) (Nat.le_of_ble_eq_true rfl) ((hA.r2).trans hd) ?_
      refine h_ic_geT (xi := ((q : Nat) : Int)) (zi := ((q : Nat) : Int)) m147_11 (nI_toInt (by omega)) (nI_toInt (by omega)) (by omega) ?_
      refine g_iload_n m147_29 rfl ?_
      refine g_iret m147_30 rt_147 ?_
      exact hQ
    | succ r ih =>
      intro q hq
      refine g_iload_n m147_4 rfl ?_
      refine g_aload_n m147_5 rfl ?_
      refine h_gfR (c := 90) (k := 57) (p := 89) m147_6 rfl (t_57 _ _) rfl (Nat.le_of_ble_eq_true rfl) ?_
      refine g_iconst m147_9 ?_
      refine h_ial (k := 58) (p := 90) (j := 2) m147_10 rfl (t_58 _ _) rfl (by omega) (Nat.le_of_ble_eq_true rfl) ((hA.r2).trans hd) ?_
      refine h_ic_geF (xi := ((q : Nat) : Int)) (zi := ((n : Nat) : Int)) m147_11 (nI_toInt (by omega)) (nI_toInt (by omega)) (by omega) ?_
      refine g_iload_n m147_14 rfl ?_
      refine g_aload_n m147_15 rfl ?_
      refine g_iload_n m147_16 rfl ?_
      refine g_iload_n m147_17 rfl ?_
      refine h_cv (k := 57) (p := 89) (args := [.int (nI (q)), .int (nI (w))]) (rest := [.int (sumF (Y (2 + w)) q)]) m147_18 cn_111 (Nat.le_of_ble_eq_true rfl) rfl rfl rfl (t_57 _ _) (Nat.le_of_ble_eq_true rfl) ?_
      refine c_itsY (x := Y (2 + w) q) hA (by omega) hw rfl ?_
      refine gwr ?_
      refine g_iadd m147_21 rfl ?_
      refine g_istore_n (L2 := [some (.ref (89)), some (.int (nI (w))), some (.int ((sumF (Y (2 + w)) q + Y (2 + w) q))), some (.int (nI (q)))]) m147_22 rfl rfl ?_
      refine g_iinc (L2 := [some (.ref (89)), some (.int (nI (w))), some (.int ((sumF (Y (2 + w)) q + Y (2 + w) q))), some (.int (nI (q + 1)))]) m147_23 rfl (nI_1 _) rfl rfl ?_
      refine g_goto m147_26 ?_
      exact ih (q + 1) (by omega)
  refine g_iconst m147_0 ?_
  refine g_istore_n (L2 := [some (.ref (89)), some (.int (nI (w))), some (.int (0)), none]) m147_1 rfl rfl ?_
  refine g_iconst m147_2 ?_
  refine g_istore_n (L2 := [some (.ref (89)), some (.int (nI (w))), some (.int (0)), some (.int (0))]) m147_3 rfl rfl ?_
  exact key n 0 (by omega)
end
