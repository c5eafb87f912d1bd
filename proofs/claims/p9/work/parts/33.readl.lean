/-! THE CLASS'S READER: the levels, the tape -/
section
variable {xs : List Int32} {d : Nat} {h : AH} {Q : QT} {m : MW} {ln : Nat → Nat} {N : Nat}
theorem ofInt_n (c : Nat) : Int32.ofInt (c : Int) = nI c := rfl
theorem Out.ofS {m m2 : MW} {n u z p : Nat} (hF : FrR m m2) (hz : z ≤ 50) (h : RdS m2 n u p z true) (h4 : ∀ j, m2 44 j = m 44 j) : Out m n u z ([], p, true) m2 := ⟨hF, z, hz, h, fun _ => ⟨rfl, CodA.nil h4⟩⟩
theorem sign_ne {lv : Nat} {c : Nat} (h : signP lv (c : Int) = true) : 0 < c := by
  have := signP_in h
  omega
set_option maxRecDepth 20000 in
set_option maxHeartbeats 40000000 in
theorem c_readLevel {n u f : Nat} (ihL : RdL xs ln N n u f) (hQ5 : RdQ xs ln N n u (f + 1)) : RdL xs ln N n u (f + 1) := by
  intro m Q D lv op p z hD hlv hop hS hp hn hz hT hf hQ
  obtain ⟨d, rfl⟩ : ∃ d, D = d + 9 := ⟨D - 9, by omega⟩
  refine wp_x mx_24 (L := [some (.ref (75)), some (.int (nI (lv))), some (.int (nI (op))), none, none, none]) (Nat.le_of_ble_eq_true rfl) rfl ?_
  refine g_iload_n m24_0 rfl ?_
  refine g_iconst m24_1 ?_
  refine h_ic_lt (xi := ((lv : Nat) : Int)) (zi := 5) m24_2 (nI_toInt (by omega)) rfl (fun c1 => ?_) (fun c1 => ?_)
  · skip
    refine g_aload_n m24_11 rfl ?_
    refine g_iload_n m24_12 rfl ?_
    refine g_iconst m24_13 ?_
    refine g_iadd (u := nI (lv + 1)) m24_14 (nI_add lv 1) ?_
    refine g_iload_n m24_15 rfl ?_
    refine h_cv (k := 43) (p := 75) (args := [.int (nI (lv + 1)), .int (nI (op))]) (rest := []) m24_16 cn_24 (Nat.le_of_ble_eq_true rfl) rfl rfl rfl (t_43 _ _) (Nat.le_of_ble_eq_true rfl) ?_
    have hl5 : lv < 5 := by omega
    rw [PL_l _ _ _ _ _ _ hl5] at hQ
    refine ihL _ _ _ (lv + 1) op p z (by omega) (by omega) hop hS hp hn hz hT (by omega) (fun m1 ho1 => ?_)
    have hg1 := PL_ok (m 38) n u f (lv + 1) op p hp
    refine gwr0 ?_
    refine g_iload_n m24_19 rfl ?_
    refine g_iconst m24_20 ?_
    refine h_ic_ne (xi := ((lv : Nat) : Int)) (zi := 2) m24_21 (nI_toInt (by omega)) rfl (fun c2 => ?_) (fun c2 => ?_)
    · skip
      refine g_iconst m24_24 ?_
      refine g_goto m24_25 ?_
      refine g_istore_n (L2 := [some (.ref (75)), some (.int (nI (lv))), some (.int (nI (op))), some (.int (1)), none, none]) m24_30 rfl rfl ?_
      refine g_iconst m24_31 ?_
      refine g_istore (L2 := [some (.ref (75)), some (.int (nI (lv))), some (.int (nI (op))), some (.int (1)), some (.int (0)), none]) m24_32 rfl rfl ?_
      have hmost : (if lv = 2 then 1 else 50) = 1 := if_pos (by omega)
      rw [hmost] at hQ
      have key : ∀ (k i : Nat) (o5 : Option Value) (r : PR3) (m2 : MW), i + k = 1 → Out m n u z r m2 → GoodR n p r → PLoop (PL (m 38) n u f (lv + 1) op) (m 38) n lv k r = PLoop (PL (m 38) n u f (lv + 1) op) (m 38) n lv 1 (PL (m 38) n u f (lv + 1) op p) → gw xs (WP xs (d + 8)) 24 Q 34 [some (.ref (75)), some (.int (nI (lv))), some (.int (nI (op))), some (.int (1)), some (.int (nI (i))), o5] [] (H m2 ln N) 0 0 := by
        intro k
        induction k with
        | zero =>
          intro i o5 r m2 hi ho hg hfin
          have hfin2 : r = _ := hfin
          refine g_iload m24_34 rfl ?_
          refine g_iload_n m24_36 rfl ?_
          refine h_ic_geT (xi := ((i : Nat) : Int)) (zi := 1) m24_37 (nI_toInt (by omega)) rfl (by omega) ?_
          refine g_vret m24_76 ?_
          exact hQ _ (by rw [← hfin2]; exact ho)
        | succ k ih =>
          intro i o5 r m2 hi ho hg hfin
          obtain ⟨g1, g2, g3⟩ := hg
          by_cases hrk : r.2.2 = true
          · skip
            refine g_iload m24_34 rfl ?_
            refine g_iload_n m24_36 rfl ?_
            refine h_ic_geF (xi := ((i : Nat) : Int)) (zi := 1) m24_37 (nI_toInt (by omega)) rfl (by omega) ?_
            refine g_aload_n m24_40 rfl ?_
            refine g_iload_n m24_41 rfl ?_
            refine g_cs (args := [.int (nI (lv))]) (rest := [.ref (75)]) 0 (Or.inl rfl) m24_42 (Nat.le_of_ble_eq_true rfl) rfl rfl (Nat.le_of_ble_eq_true rfl) ?_
            refine c_signsOf hl5 ?_
            rw [show 6 + lv = 3 + (3 + lv) by omega]
            refine gwr ?_
            refine h_cv (k := 43) (p := 75) (args := [.ref (3 + (3 + lv))]) (rest := []) m24_45 cn_18 (Nat.le_of_ble_eq_true rfl) rfl rfl rfl (t_43 _ _) (Nat.le_of_ble_eq_true rfl) ?_
            have hS2 := ho.at hrk
            have hT2 : Tap m2 := fun j hj => by rw [ho.tape]; exact hT j hj
            obtain ⟨g4, g5, g6⟩ := g3 hrk
            refine c_passR (s := 3 + lv) hS2 g2 hn hT2 (by omega) (fun hpn c2 hc2 hce2 hix => ?_) (fun hno => ?_)
            · have hb2 : bt (m 38) n r.2.1 = (c2 : Int) := by rw [← ho.tape]; exact bt_y hpn hce2 hc2
              have hsg : signP lv (c2 : Int) = true := (ixS_p lv hl5 c2 hc2).mp hix
              have hc0 := sign_ne hsg
              rw [PLoop_y ⟨hrk, by rw [hb2]; exact hsg⟩, hb2, ofInt_n] at hfin
              refine gwr ?_
              refine g_istore (L2 := [some (.ref (75)), some (.int (nI (lv))), some (.int (nI (op))), some (.int (1)), some (.int (nI (i))), some (.int (nI (c2)))]) m24_48 rfl rfl ?_
              refine g_iload m24_50 rfl ?_
              refine h_if_neF (xi := ((c2 : Nat) : Int)) (zi := 0) m24_52 (nI_toInt (by omega)) rfl (by omega) ?_
              refine g_aload_n m24_56 rfl ?_
              refine g_iload_n m24_57 rfl ?_
              refine g_iconst m24_58 ?_
              refine g_iadd (u := nI (lv + 1)) m24_59 (nI_add lv 1) ?_
              refine g_iload_n m24_60 rfl ?_
              refine h_cv (k := 43) (p := 75) (args := [.int (nI (lv + 1)), .int (nI (op))]) (rest := []) m24_61 cn_24 (Nat.le_of_ble_eq_true rfl) rfl rfl rfl (t_43 _ _) (Nat.le_of_ble_eq_true rfl) ?_
              have hS3 : RdS (upm m2 43 5 (nI (r.2.1 + 1))) n u (r.2.1 + 1) (z + r.1.length) true := ⟨hS2.1, hS2.2.1, rfl, hS2.2.2.2.1, hS2.2.2.2.2⟩
              have ht3 : (upm m2 43 5 (nI (r.2.1 + 1))) 38 = m 38 := (row_up m2 _ (by decide)).trans ho.tape
              have hT3 : Tap (upm m2 43 5 (nI (r.2.1 + 1))) := fun j hj => by rw [ht3]; exact hT j hj
              refine ihL _ _ _ (lv + 1) op (r.2.1 + 1) (z + r.1.length) (by omega) (by omega) hop hS3 (by omega) hn (by omega) hT3 (by omega) (fun m4 ho4 => ?_)
              rw [ht3] at ho4
              have hg4 := PL_ok (m 38) n u f (lv + 1) op (r.2.1 + 1) hpn
              have ho5 : Out m2 n u (z + r.1.length) (PL (m 38) n u f (lv + 1) op (r.2.1 + 1)) m4 := Out.pre (FrR.rf.up _ (Or.inr ⟨rfl, Or.inr (Or.inl rfl)⟩)) (fun j => upm_k _ _ (by decide)) ho4
              have ho6 := Out.app ho hrk rfl ho5
              refine gwr0 ?_
              refine g_aload_n m24_64 rfl ?_
              refine g_iload m24_65 rfl ?_
              refine h_cv (k := 43) (p := 75) (args := [.int (nI (c2))]) (rest := []) m24_67 cn_19 (Nat.le_of_ble_eq_true rfl) rfl rfl rfl (t_43 _ _) (Nat.le_of_ble_eq_true rfl) ?_
              refine addOut ho6 (fun hk => ?_) (fun m5 ho7 => ?_)
              · obtain ⟨q1, q2, q3⟩ := hg4
                have q4 := (q3 hk).2.2
                show z + (r.1 ++ (PL (m 38) n u f (lv + 1) op (r.2.1 + 1)).1).length < 50
                rw [List.length_append]
                omega
              refine gwr0 ?_
              refine g_iinc (L2 := [some (.ref (75)), some (.int (nI (lv))), some (.int (nI (op))), some (.int (1)), some (.int (nI (i + 1))), some (.int (nI (c2)))]) m24_70 rfl (nI_1 _) rfl rfl ?_
              refine g_goto m24_73 ?_
              refine ih (i + 1) _ _ _ (by omega) ho7 ?_ hfin
              obtain ⟨q1, q2, q3⟩ := hg4
              refine ⟨by show p ≤ (PL (m 38) n u f (lv + 1) op (r.2.1 + 1)).2.1; omega, q2, fun hk => ?_⟩
              obtain ⟨q4, q5, q6⟩ := q3 hk
              refine ⟨by show p < (PL (m 38) n u f (lv + 1) op (r.2.1 + 1)).2.1; omega, by have h9 := CodeOk_bin g5 q5 hsg; exact h9, ?_⟩
              show (r.1 ++ (PL (m 38) n u f (lv + 1) op (r.2.1 + 1)).1 ++ [nI c2]).length ≤ (PL (m 38) n u f (lv + 1) op (r.2.1 + 1)).2.1 - p
              rw [List.length_append, List.length_append, List.length_singleton]
              omega
            · have hb2 : ¬ (r.2.2 = true ∧ signP lv (bt (m 38) n r.2.1) = true) := by
                intro hb
                have hin := signP_in hb.2
                have hlt := bt_lt (B := m 38) (n := n) (p := r.2.1) (by omega)
                obtain ⟨c2, hc2, hce2⟩ := hT2 r.2.1 (by omega)
                have hb3 := bt_y hlt hce2 (by omega)
                rw [ho.tape] at hb3
                exact hno c2 (by omega) hlt hce2 ((ixS_p lv hl5 c2 (by omega)).mpr (by rw [← hb3]; exact hb.2))
              rw [PLoop_n hb2] at hfin
              refine gwr ?_
              refine g_istore (L2 := [some (.ref (75)), some (.int (nI (lv))), some (.int (nI (op))), some (.int (1)), some (.int (nI (i))), some (.int (0))]) m24_48 rfl rfl ?_
              refine g_iload m24_50 rfl ?_
              refine h_if_neT (xi := 0) (zi := 0) m24_52 rfl rfl (by decide) ?_
              refine g_vret m24_55 ?_
              exact hQ _ (by rw [← hfin]; exact ho)
          · skip
            refine g_iload m24_34 rfl ?_
            refine g_iload_n m24_36 rfl ?_
            refine h_ic_geF (xi := ((i : Nat) : Int)) (zi := 1) m24_37 (nI_toInt (by omega)) rfl (by omega) ?_
            refine g_aload_n m24_40 rfl ?_
            refine g_iload_n m24_41 rfl ?_
            refine g_cs (args := [.int (nI (lv))]) (rest := [.ref (75)]) 0 (Or.inl rfl) m24_42 (Nat.le_of_ble_eq_true rfl) rfl rfl (Nat.le_of_ble_eq_true rfl) ?_
            refine c_signsOf hl5 ?_
            rw [show 6 + lv = 3 + (3 + lv) by omega]
            refine gwr ?_
            refine h_cv (k := 43) (p := 75) (args := [.ref (3 + (3 + lv))]) (rest := []) m24_45 cn_18 (Nat.le_of_ble_eq_true rfl) rfl rfl rfl (t_43 _ _) (Nat.le_of_ble_eq_true rfl) ?_
            obtain ⟨zf, hzf, hS2⟩ := ho.atF hrk
            rw [PLoop_n (fun q => hrk q.1)] at hfin
            refine c_passRF (s := 3 + lv) hS2 g2 hn ?_
            refine gwr ?_
            refine g_istore (L2 := [some (.ref (75)), some (.int (nI (lv))), some (.int (nI (op))), some (.int (1)), some (.int (nI (i))), some (.int (0))]) m24_48 rfl rfl ?_
            refine g_iload m24_50 rfl ?_
            refine h_if_neT (xi := 0) (zi := 0) m24_52 rfl rfl (by decide) ?_
            refine g_vret m24_55 ?_
            exact hQ _ (by rw [← hfin]; exact ho)
      exact key 1 0 _ _ _ (by omega) ho1 hg1 rfl
    · skip
      refine g_bipush m24_28 ?_
      refine g_istore_n (L2 := [some (.ref (75)), some (.int (nI (lv))), some (.int (nI (op))), some (.int (50)), none, none]) m24_30 rfl rfl ?_
      refine g_iconst m24_31 ?_
      refine g_istore (L2 := [some (.ref (75)), some (.int (nI (lv))), some (.int (nI (op))), some (.int (50)), some (.int (0)), none]) m24_32 rfl rfl ?_
      have hmost : (if lv = 2 then 1 else 50) = 50 := if_neg (by omega)
      rw [hmost] at hQ
      have key : ∀ (k i : Nat) (o5 : Option Value) (r : PR3) (m2 : MW), i + k = 50 → Out m n u z r m2 → GoodR n p r → PLoop (PL (m 38) n u f (lv + 1) op) (m 38) n lv k r = PLoop (PL (m 38) n u f (lv + 1) op) (m 38) n lv 50 (PL (m 38) n u f (lv + 1) op p) → gw xs (WP xs (d + 8)) 24 Q 34 [some (.ref (75)), some (.int (nI (lv))), some (.int (nI (op))), some (.int (50)), some (.int (nI (i))), o5] [] (H m2 ln N) 0 0 := by
        intro k
        induction k with
        | zero =>
          intro i o5 r m2 hi ho hg hfin
          have hfin2 : r = _ := hfin
          refine g_iload m24_34 rfl ?_
          refine g_iload_n m24_36 rfl ?_
          refine h_ic_geT (xi := ((i : Nat) : Int)) (zi := 50) m24_37 (nI_toInt (by omega)) rfl (by omega) ?_
          refine g_vret m24_76 ?_
          exact hQ _ (by rw [← hfin2]; exact ho)
        | succ k ih =>
          intro i o5 r m2 hi ho hg hfin
          obtain ⟨g1, g2, g3⟩ := hg
          by_cases hrk : r.2.2 = true
          · skip
            refine g_iload m24_34 rfl ?_
            refine g_iload_n m24_36 rfl ?_
            refine h_ic_geF (xi := ((i : Nat) : Int)) (zi := 50) m24_37 (nI_toInt (by omega)) rfl (by omega) ?_
            refine g_aload_n m24_40 rfl ?_
            refine g_iload_n m24_41 rfl ?_
            refine g_cs (args := [.int (nI (lv))]) (rest := [.ref (75)]) 0 (Or.inl rfl) m24_42 (Nat.le_of_ble_eq_true rfl) rfl rfl (Nat.le_of_ble_eq_true rfl) ?_
            refine c_signsOf hl5 ?_
            rw [show 6 + lv = 3 + (3 + lv) by omega]
            refine gwr ?_
            refine h_cv (k := 43) (p := 75) (args := [.ref (3 + (3 + lv))]) (rest := []) m24_45 cn_18 (Nat.le_of_ble_eq_true rfl) rfl rfl rfl (t_43 _ _) (Nat.le_of_ble_eq_true rfl) ?_
            have hS2 := ho.at hrk
            have hT2 : Tap m2 := fun j hj => by rw [ho.tape]; exact hT j hj
            obtain ⟨g4, g5, g6⟩ := g3 hrk
            refine c_passR (s := 3 + lv) hS2 g2 hn hT2 (by omega) (fun hpn c2 hc2 hce2 hix => ?_) (fun hno => ?_)
            · have hb2 : bt (m 38) n r.2.1 = (c2 : Int) := by rw [← ho.tape]; exact bt_y hpn hce2 hc2
              have hsg : signP lv (c2 : Int) = true := (ixS_p lv hl5 c2 hc2).mp hix
              have hc0 := sign_ne hsg
              rw [PLoop_y ⟨hrk, by rw [hb2]; exact hsg⟩, hb2, ofInt_n] at hfin
              refine gwr ?_
              refine g_istore (L2 := [some (.ref (75)), some (.int (nI (lv))), some (.int (nI (op))), some (.int (50)), some (.int (nI (i))), some (.int (nI (c2)))]) m24_48 rfl rfl ?_
              refine g_iload m24_50 rfl ?_
              refine h_if_neF (xi := ((c2 : Nat) : Int)) (zi := 0) m24_52 (nI_toInt (by omega)) rfl (by omega) ?_
              refine g_aload_n m24_56 rfl ?_
              refine g_iload_n m24_57 rfl ?_
              refine g_iconst m24_58 ?_
              refine g_iadd (u := nI (lv + 1)) m24_59 (nI_add lv 1) ?_
              refine g_iload_n m24_60 rfl ?_
              refine h_cv (k := 43) (p := 75) (args := [.int (nI (lv + 1)), .int (nI (op))]) (rest := []) m24_61 cn_24 (Nat.le_of_ble_eq_true rfl) rfl rfl rfl (t_43 _ _) (Nat.le_of_ble_eq_true rfl) ?_
              have hS3 : RdS (upm m2 43 5 (nI (r.2.1 + 1))) n u (r.2.1 + 1) (z + r.1.length) true := ⟨hS2.1, hS2.2.1, rfl, hS2.2.2.2.1, hS2.2.2.2.2⟩
              have ht3 : (upm m2 43 5 (nI (r.2.1 + 1))) 38 = m 38 := (row_up m2 _ (by decide)).trans ho.tape
              have hT3 : Tap (upm m2 43 5 (nI (r.2.1 + 1))) := fun j hj => by rw [ht3]; exact hT j hj
              refine ihL _ _ _ (lv + 1) op (r.2.1 + 1) (z + r.1.length) (by omega) (by omega) hop hS3 (by omega) hn (by omega) hT3 (by omega) (fun m4 ho4 => ?_)
              rw [ht3] at ho4
              have hg4 := PL_ok (m 38) n u f (lv + 1) op (r.2.1 + 1) hpn
              have ho5 : Out m2 n u (z + r.1.length) (PL (m 38) n u f (lv + 1) op (r.2.1 + 1)) m4 := Out.pre (FrR.rf.up _ (Or.inr ⟨rfl, Or.inr (Or.inl rfl)⟩)) (fun j => upm_k _ _ (by decide)) ho4
              have ho6 := Out.app ho hrk rfl ho5
              refine gwr0 ?_
              refine g_aload_n m24_64 rfl ?_
              refine g_iload m24_65 rfl ?_
              refine h_cv (k := 43) (p := 75) (args := [.int (nI (c2))]) (rest := []) m24_67 cn_19 (Nat.le_of_ble_eq_true rfl) rfl rfl rfl (t_43 _ _) (Nat.le_of_ble_eq_true rfl) ?_
              refine addOut ho6 (fun hk => ?_) (fun m5 ho7 => ?_)
              · obtain ⟨q1, q2, q3⟩ := hg4
                have q4 := (q3 hk).2.2
                show z + (r.1 ++ (PL (m 38) n u f (lv + 1) op (r.2.1 + 1)).1).length < 50
                rw [List.length_append]
                omega
              refine gwr0 ?_
              refine g_iinc (L2 := [some (.ref (75)), some (.int (nI (lv))), some (.int (nI (op))), some (.int (50)), some (.int (nI (i + 1))), some (.int (nI (c2)))]) m24_70 rfl (nI_1 _) rfl rfl ?_
              refine g_goto m24_73 ?_
              refine ih (i + 1) _ _ _ (by omega) ho7 ?_ hfin
              obtain ⟨q1, q2, q3⟩ := hg4
              refine ⟨by show p ≤ (PL (m 38) n u f (lv + 1) op (r.2.1 + 1)).2.1; omega, q2, fun hk => ?_⟩
              obtain ⟨q4, q5, q6⟩ := q3 hk
              refine ⟨by show p < (PL (m 38) n u f (lv + 1) op (r.2.1 + 1)).2.1; omega, by have h9 := CodeOk_bin g5 q5 hsg; exact h9, ?_⟩
              show (r.1 ++ (PL (m 38) n u f (lv + 1) op (r.2.1 + 1)).1 ++ [nI c2]).length ≤ (PL (m 38) n u f (lv + 1) op (r.2.1 + 1)).2.1 - p
              rw [List.length_append, List.length_append, List.length_singleton]
              omega
            · have hb2 : ¬ (r.2.2 = true ∧ signP lv (bt (m 38) n r.2.1) = true) := by
                intro hb
                have hin := signP_in hb.2
                have hlt := bt_lt (B := m 38) (n := n) (p := r.2.1) (by omega)
                obtain ⟨c2, hc2, hce2⟩ := hT2 r.2.1 (by omega)
                have hb3 := bt_y hlt hce2 (by omega)
                rw [ho.tape] at hb3
                exact hno c2 (by omega) hlt hce2 ((ixS_p lv hl5 c2 (by omega)).mpr (by rw [← hb3]; exact hb.2))
              rw [PLoop_n hb2] at hfin
              refine gwr ?_
              refine g_istore (L2 := [some (.ref (75)), some (.int (nI (lv))), some (.int (nI (op))), some (.int (50)), some (.int (nI (i))), some (.int (0))]) m24_48 rfl rfl ?_
              refine g_iload m24_50 rfl ?_
              refine h_if_neT (xi := 0) (zi := 0) m24_52 rfl rfl (by decide) ?_
              refine g_vret m24_55 ?_
              exact hQ _ (by rw [← hfin]; exact ho)
          · skip
            refine g_iload m24_34 rfl ?_
            refine g_iload_n m24_36 rfl ?_
            refine h_ic_geF (xi := ((i : Nat) : Int)) (zi := 50) m24_37 (nI_toInt (by omega)) rfl (by omega) ?_
            refine g_aload_n m24_40 rfl ?_
            refine g_iload_n m24_41 rfl ?_
            refine g_cs (args := [.int (nI (lv))]) (rest := [.ref (75)]) 0 (Or.inl rfl) m24_42 (Nat.le_of_ble_eq_true rfl) rfl rfl (Nat.le_of_ble_eq_true rfl) ?_
            refine c_signsOf hl5 ?_
            rw [show 6 + lv = 3 + (3 + lv) by omega]
            refine gwr ?_
            refine h_cv (k := 43) (p := 75) (args := [.ref (3 + (3 + lv))]) (rest := []) m24_45 cn_18 (Nat.le_of_ble_eq_true rfl) rfl rfl rfl (t_43 _ _) (Nat.le_of_ble_eq_true rfl) ?_
            obtain ⟨zf, hzf, hS2⟩ := ho.atF hrk
            rw [PLoop_n (fun q => hrk q.1)] at hfin
            refine c_passRF (s := 3 + lv) hS2 g2 hn ?_
            refine gwr ?_
            refine g_istore (L2 := [some (.ref (75)), some (.int (nI (lv))), some (.int (nI (op))), some (.int (50)), some (.int (nI (i))), some (.int (0))]) m24_48 rfl rfl ?_
            refine g_iload m24_50 rfl ?_
            refine h_if_neT (xi := 0) (zi := 0) m24_52 rfl rfl (by decide) ?_
            refine g_vret m24_55 ?_
            exact hQ _ (by rw [← hfin]; exact ho)
      exact key 50 0 _ _ _ (by omega) ho1 hg1 rfl
  · skip
    refine g_aload_n m24_5 rfl ?_
    refine g_iload_n m24_6 rfl ?_
    refine h_cv (k := 43) (p := 75) (args := [.int (nI (op))]) (rest := []) m24_7 cn_23 (Nat.le_of_ble_eq_true rfl) rfl rfl rfl (t_43 _ _) (Nat.le_of_ble_eq_true rfl) ?_
    obtain rfl : lv = 5 := by omega
    refine hQ5 _ _ _ op p z (by omega) hop hS hp hn hz hT (by omega) (fun m2 ho2 => ?_)
    refine gwr0 ?_
    refine g_vret m24_10 ?_
    exact hQ _ ho2
theorem c_levels {n u : Nat} (hu : u ≤ 1) : ∀ f, RdL xs ln N n u f ∧ RdQ xs ln N n u f
  | 0 => ⟨fun m Q D lv op p z hD hlv hop hS hp hn hz hT hf hQ => absurd hf (by omega), fun m Q D op p z hD hop hS hp hn hz hT hf hQ => absurd hf (by omega)⟩
  | f + 1 => by
    have ih := c_levels (n := n) hu f
    have h5 := c_readQ hu ih.1 ih.2
    exact ⟨c_readLevel ih.1 h5, h5⟩
/-- the whole tape read: its fault (none: it is a TEXT), its codes -/
def TR (B : Nat → Int32) (n u : Nat) : PR3 := PL B n u 400 0 0 0
def isText (B : Nat → Int32) (n u : Nat) : Prop := (TR B n u).2.2 = true ∧ (TR B n u).2.1 = n
theorem fv_u {u : Nat} (hu : u ≤ 1) : fV 2 (nI u) = .ref (3 + u) := by
  rcases (show u = 0 ∨ u = 1 by omega) with rfl | rfl <;> rfl
theorem pk_min {n : Nat} (hn : n ≤ 50) : (if (nI 50) < nI n then nI 50 else nI n) = nI n := if_neg (fun q => absurd ((lt_k (nI_toInt (n := 50) (by decide)) (nI_toInt (n := n) (by omega))).mp q) (by omega))
set_option maxRecDepth 20000 in
set_option maxHeartbeats 40000000 in
theorem c_readTape {n u : Nat} (hu : u ≤ 1) (hn : n ≤ 50) (hT : Tap m) (hY : ∀ m2, (∀ k j, ¬ (k = 44 ∨ k = 43) → m2 k j = m k j) → isText (m 38) n u → m2 43 1 = nI (TR (m 38) n u).1.length → (∀ j, j < (TR (m 38) n u).1.length → m2 44 j = (TR (m 38) n u).1.getD j 0) → Q (some (.int (-1))) (H m2 ln N)) (hF : ∀ m2, (∀ k j, ¬ (k = 44 ∨ k = 43) → m2 k j = m k j) → ¬ isText (m 38) n u → Q (some (.int (nI (TR (m 38) n u).2.1))) (H m2 ln N)) : WP xs (d + 901) 25 0 0 [.ref (75), .int (nI (n)), .ref (3 + u)] (H m ln N) Q := by
  refine wp_x mx_25 (L := [some (.ref (75)), some (.int (nI (n))), some (.ref (3 + u))]) (Nat.le_of_ble_eq_true rfl) rfl ?_
  refine g_aload_n m25_0 rfl ?_
  refine g_iload_n m25_1 rfl ?_
  refine g_aload_n m25_2 rfl ?_
  refine h_gfR (c := 70) (k := 43) (p := 75) m25_3 rfl (t_43 _ _) rfl (Nat.le_of_ble_eq_true rfl) ?_
  refine h_alen (k := 38) (p := 70) m25_6 rfl (t_38 _ _) (Or.inl rfl) ?_
  refine g_min (u := nI (n)) m25_7 (Nat.le_of_ble_eq_true rfl) (pk_min hn) ?_
  refine h_pfI (k := 43) (p := 75) m25_10 rfl (t_43 _ _) rfl trivial ?_
  refine g_aload_n m25_13 rfl ?_
  refine g_aload_n m25_14 rfl ?_
  refine h_pfN (k := 43) (p := 75) (x := nI u) m25_15 rfl (t_43 _ _) rfl (fv_u hu) (by exact trivial) ?_
  refine g_aload_n m25_18 rfl ?_
  refine g_iconst m25_19 ?_
  refine h_pfI (k := 43) (p := 75) m25_20 rfl (t_43 _ _) rfl trivial ?_
  refine g_aload_n m25_23 rfl ?_
  refine g_iconst m25_24 ?_
  refine h_pfI (k := 43) (p := 75) m25_25 rfl (t_43 _ _) rfl trivial ?_
  refine g_aload_n m25_28 rfl ?_
  refine g_iconst m25_29 ?_
  refine h_pfI (k := 43) (p := 75) m25_30 rfl (t_43 _ _) rfl trivial ?_
  refine g_aload_n m25_33 rfl ?_
  refine g_iconst m25_34 ?_
  refine g_iconst m25_35 ?_
  refine h_cv (k := 43) (p := 75) (args := [.int (0), .int (0)]) (rest := []) m25_36 cn_24 (Nat.le_of_ble_eq_true rfl) rfl rfl rfl (t_43 _ _) (Nat.le_of_ble_eq_true rfl) ?_
  have hS : RdS (upm (upm (upm (upm (upm m 43 3 (nI n)) 43 4 (nI u)) 43 1 0) 43 5 0) 43 6 (-1)) n u 0 0 true := ⟨rfl, rfl, rfl, rfl, rfl⟩
  have ht : (upm (upm (upm (upm (upm m 43 3 (nI n)) 43 4 (nI u)) 43 1 0) 43 5 0) 43 6 (-1)) 38 = m 38 := rfl
  have hT1 : Tap (upm (upm (upm (upm (upm m 43 3 (nI n)) 43 4 (nI u)) 43 1 0) 43 5 0) 43 6 (-1)) := fun j hj => hT j hj
  refine (c_levels hu 400).1 _ _ _ 0 0 0 0 (by omega) (by omega) (by omega) hS (by omega) hn (by omega) hT1 (by omega) (fun m2 ho => ?_)
  rw [ht] at ho
  have hg := PL_ok (m 38) n u 400 0 0 0 (by omega)
  obtain ⟨o1, z2, o2, o3, o5⟩ := ho
  obtain ⟨g1, g2, g3⟩ := hg
  have oF : ∀ k j, ¬ (k = 44 ∨ k = 43) → m2 k j = m k j := fun k j q => by
    rw [o1 k j (by omega), upm_k _ _ (by omega), upm_k _ _ (by omega), upm_k _ _ (by omega), upm_k _ _ (by omega), upm_k _ _ (by omega)]
  refine gwr0 ?_
  refine g_aload_n m25_39 rfl ?_
  refine h_gfI (k := 43) (p := 75) m25_40 rfl (t_43 _ _) rfl (o3.2.2.1) ?_
  refine g_aload_n m25_43 rfl ?_
  refine h_gfI (k := 43) (p := 75) m25_44 rfl (t_43 _ _) rfl (o3.1) ?_
  refine h_ic_ge (xi := (((TR (m 38) n u).2.1 : Nat) : Int)) (zi := ((n : Nat) : Int)) m25_47 (nI_toInt (by show (PL (m 38) n u 400 0 0 0).2.1 < _; omega)) (nI_toInt (by omega)) (fun c1 => ?_) (fun c1 => ?_)
  · have hnn : (TR (m 38) n u).2.1 = n := by have g4 : (TR (m 38) n u).2.1 ≤ n := g2; omega
    by_cases hk : (PL (m 38) n u 400 0 0 0).2.2 = true
    · skip
      rw [hk] at o3
      refine g_aload_n m25_54 rfl ?_
      refine h_gfI (k := 43) (p := 75) m25_55 rfl (t_43 _ _) rfl (o3.2.2.2.2) ?_
      refine g_iret m25_58 rt_25 ?_
      exact hY _ oF ⟨hk, hnn⟩ (by rw [o3.2.2.2.1, (o5 hk).1, Nat.zero_add]; rfl) (fun j hj => by have h8 := (o5 hk).2.2 j hj; rw [Nat.zero_add] at h8; exact h8)
    · skip
      have hk2 : (PL (m 38) n u 400 0 0 0).2.2 = false := by simpa using hk
      rw [hk2] at o3
      refine g_aload_n m25_54 rfl ?_
      refine h_gfI (k := 43) (p := 75) m25_55 rfl (t_43 _ _) rfl (o3.2.2.2.2) ?_
      refine g_iret m25_58 rt_25 ?_
      exact hF _ oF (fun q => hk q.1)
  · skip
    refine g_aload_n m25_50 rfl ?_
    refine h_cv (k := 43) (p := 75) (args := []) (rest := []) m25_51 cn_22 (Nat.le_of_ble_eq_true rfl) rfl rfl rfl (t_43 _ _) (Nat.le_of_ble_eq_true rfl) ?_
    by_cases hk : (PL (m 38) n u 400 0 0 0).2.2 = true
    · rw [hk] at o3
      refine c_fail o3 g2 hn (fun j hj => by rw [oF 38 j (by omega)]; exact hT j hj) ?_
      refine gwr0 ?_
      refine g_aload_n m25_54 rfl ?_
      refine h_gfI (k := 43) (p := 75) m25_55 rfl (t_43 _ _) rfl (upm_self _ _ _ _) ?_
      refine g_iret m25_58 rt_25 ?_
      exact hF _ (fun k j q => (upm_k _ _ (by omega)).trans (oF k j q)) (fun q => c1 (by have := q.2; omega))
    · have hk2 : (PL (m 38) n u 400 0 0 0).2.2 = false := by simpa using hk
      rw [hk2] at o3
      refine c_failF o3 g2 hn ?_
      refine gwr0 ?_
      refine g_aload_n m25_54 rfl ?_
      refine h_gfI (k := 43) (p := 75) m25_55 rfl (t_43 _ _) rfl (o3.2.2.2.2) ?_
      refine g_iret m25_58 rt_25 ?_
      exact hF _ oF (fun q => hk q.1)
end
