/-! WHOSE, weakly -/
theorem FrP.u7 {m m2 : MW} {y : Int32} (h : FrP (upm m 58 7 y) m2) (z : Int32) : FrP (upm m 58 7 z) (upm m2 58 7 z) := by
  intro k j a b
  by_cases e : k = 58 ∧ j = 7
  · obtain ⟨rfl, rfl⟩ := e
    rw [upm_self, upm_self]
  · have e1 : upm m2 58 7 z k j = m2 k j := if_neg e
    have e2 : upm m 58 7 z k j = m k j := if_neg e
    have e3 : upm m 58 7 y k j = m k j := if_neg e
    rw [e1, e2, h k j a b, e3]
section
variable {xs : List Int32} {d : Nat} {h : AH} {Q : QT} {m : MW} {ln : Nat → Nat} {N : Nat}
set_option maxRecDepth 20000 in
set_option maxHeartbeats 40000000 in
theorem c_told {n s b l w : Nat} {m2 : MW} (hd : m 1 10 = nI n) (hn : n ≤ 8) (h01 : ∀ j, j < 8 → m 8 j = 0 ∨ m 8 j = 1) (hW : WF (vw m 0)) (hL : LawsOk m ln N) (hix : LawIx N (m 1 11)) (hiy : LawIx N (m 1 12)) (hF : FrT m m2) (hs : s < 4) (hb : b = 0 ∨ b = 8 ∨ b = 16 ∨ b = 32) (hl40 : l ≤ 40) (hbm : m (48 + 2 * s) 0 = nI b) (hl : m (48 + 2 * s) 1 = nI l) (hw1 : 1 ≤ w) (hw4 : w ≤ 4) (hQ : ∀ x m3, FrT m m3 → Q (some (.int x)) (H m3 ln N)) : WP xs (d + 7) 81 0 0 [.ref (32), .ref (80 + 2 * s), .int (nI (w))] (H m2 ln N) Q := by
  refine wp_x mx_81 (L := [some (.ref (32)), some (.ref (80 + 2 * s)), some (.int (nI (w))), none, none]) (Nat.le_of_ble_eq_true rfl) rfl ?_
  refine g_aload_n m81_0 rfl ?_
  refine h_cv (k := 0) (p := 32) (args := []) (rest := []) m81_1 cn_74 (Nat.le_of_ble_eq_true rfl) rfl rfl rfl (t_0 _ _) (Nat.le_of_ble_eq_true rfl) ?_
  have hd2 : m2 1 10 = nI n := (hF 1 10 (by omega) (fun q => by rcases q with q | q <;> omega)).trans hd
  have h012 : ∀ j, j < 8 → m2 8 j = 0 ∨ m2 8 j = 1 := fun j hj => by rw [hF 8 j (by omega) (fun q => by rcases q with q | q <;> omega)]; exact h01 j hj
  have hL2 := hF.laws hL
  have e11 : m2 1 11 = m 1 11 := hF 1 11 (by omega) (fun q => by rcases q with q | q <;> omega)
  have e12 : m2 1 12 = m 1 12 := hF 1 12 (by omega) (fun q => by rcases q with q | q <;> omega)
  have hL1 : LawsOk (takeM m2 1 0) ln N := tk_l hL2 1 0 (by decide)
  have elk := (tk_lk m2 1 0 (by decide) ln (m 1 11)).trans (hF.lk ln _)
  have ebl := (tk_bl m2 1 0 (by decide) ln (m 1 12)).trans (hF.bl ln _)
  have h80 : Eq8 (vw m 0) (vw (takeM m2 1 0) 1) := Eq8.tr (fun j hj i => congrFun (hF.vw0 (by omega)) i) (take_8 m2 1 0)
  have hW1 : WF (vw (takeM m2 1 0) 1) := WF_c h80 hW
  refine c_think h012 ?_
  refine gwr ?_
  refine g_astore_n (L2 := [some (.ref (32)), some (.ref (80 + 2 * s)), some (.int (nI (w))), some (.ref (42)), none]) m81_4 rfl rfl ?_
  refine g_aload_n m81_5 rfl ?_
  refine g_iload_n m81_6 rfl ?_
  refine h_pfI (k := 10) (p := 42) m81_7 rfl (t_10 _ _) rfl trivial ?_
  refine g_iconst m81_10 ?_
  refine g_istore (L2 := [some (.ref (32)), some (.ref (80 + 2 * s)), some (.int (nI (w))), some (.ref (42)), some (.int (0))]) m81_11 rfl rfl ?_
  have hAw : AtX (takeM m2 1 0) 1 (upm (vw (takeM m2 1 0) 1) 0 8 (nI w)) (upm (takeM m2 1 0) 10 8 (nI w)) := (AtX.self (takeM m2 1 0) 1).up (by decide) (j := 0) (by decide) 8 (nI w)
  have hl2 : ∀ j, (takeM m2 1 0) (48 + 2 * s) j = m (48 + 2 * s) j := fun j => (congrFun (take_o m2 1 0 (by omega)) j).trans (hF _ _ (by omega) (fun z => by rcases z with z | z <;> omega))
  have key : ∀ (r : Nat) (q : Nat) (m3 X3 : MW), q + r = l → AtX (takeM m2 1 0) 1 X3 m3 → WF X3 → X3 0 11 = m 1 11 → X3 0 12 = m 1 12 → gw xs (WP xs (d + 6)) 81 Q 13 [some (.ref (32)), some (.ref (80 + 2 * s)), some (.int (nI (w))), some (.ref (42)), some (.int (nI (q)))] [] (H m3 ln N) 0 0 := by
    intro r
    induction r with
    | zero =>
      intro q m3 X3 hq hA3 hW3 h11 h12
      obtain rfl : q = l := by omega
      refine g_iload m81_13 rfl ?_
      refine g_aload_n m81_15 rfl ?_
      refine h_gfI (k := 48 + 2 * s) (p := 80 + 2 * s) m81_16 (pSo _) (tSo hs) rfl (((hA3.out (by omega) (fun z => by rcases z with z | z <;> omega)).trans (hl2 1)).trans hl) ?_
      refine h_ic_geT (xi := ((q : Nat) : Int)) (zi := ((q : Nat) : Int)) m81_19 (nI_toInt (by omega)) (nI_toInt (by omega)) (by omega) ?_
      refine g_aload_n m81_44 rfl ?_
      refine h_gfI (k := 48 + 2 * s) (p := 80 + 2 * s) m81_45 (pSo _) (tSo hs) rfl (((hA3.out (by omega) (fun z => by rcases z with z | z <;> omega)).trans (hl2 1)).trans hl) ?_
      refine g_iret m81_48 rt_81 ?_
      exact hQ _ _ (hF.tr (FrT.of hA3))
    | succ r ih =>
      intro q m3 X3 hq hA3 hW3 h11 h12
      refine g_iload m81_13 rfl ?_
      refine g_aload_n m81_15 rfl ?_
      refine h_gfI (k := 48 + 2 * s) (p := 80 + 2 * s) m81_16 (pSo _) (tSo hs) rfl (((hA3.out (by omega) (fun z => by rcases z with z | z <;> omega)).trans (hl2 1)).trans hl) ?_
      refine h_ic_geF (xi := ((q : Nat) : Int)) (zi := ((l : Nat) : Int)) m81_19 (nI_toInt (by omega)) (nI_toInt (by omega)) (by omega) ?_
      refine g_aload_n m81_22 rfl ?_
      refine g_iload m81_23 rfl ?_
      refine g_aload_n m81_25 rfl ?_
      refine h_cv (k := 10) (p := 42) (args := []) (rest := [.int (nI (q)), .ref (80 + 2 * s)]) m81_26 cn_40 (Nat.le_of_ble_eq_true rfl) rfl rfl rfl (t_10 _ _) (Nat.le_of_ble_eq_true rfl) ?_
      refine c_serveStep (x := m 1 11) (y := m 1 12) (t := 1) (by decide) hL1 hA3 h11 hix h12 hiy hW3 (fun X4 m4 e8 hA4 => ?_)
      have hW4 := WF_c e8 (WF_step hW3)
      have h411 := ((e8 0 (by decide) 11).trans (stepN_0 _ _ X3 (by decide) 1)).trans h11
      have h412 := ((e8 0 (by decide) 12).trans (stepN_0 _ _ X3 (by decide) 1)).trans h12
      refine gwr ?_
      refine h_cv (k := 48 + 2 * s) (p := 80 + 2 * s) (args := [.int (nI (q)), .int _]) (rest := []) m81_29 cn_29 (Nat.le_of_ble_eq_true rfl) rfl rfl (pSo _) (tSo hs) (Nat.le_of_ble_eq_true rfl) ?_
      refine c_holds (q := q) hs (by omega) hb (((hA4.out (by omega) (fun z => by rcases z with z | z <;> omega)).trans (hl2 0)).trans hbm) (fun _ => ?_) (fun _ => ?_)
      · skip
        refine gwr ?_
        refine h_if_neF (xi := 1) (zi := 0) m81_32 rfl rfl (by decide) ?_
        refine g_iinc (L2 := [some (.ref (32)), some (.ref (80 + 2 * s)), some (.int (nI (w))), some (.ref (42)), some (.int (nI (q + 1)))]) m81_38 rfl (nI_1 _) rfl rfl ?_
        refine g_goto m81_41 ?_
        exact ih (q + 1) _ _ (by omega) hA4 hW4 h411 h412
      · skip
        refine gwr ?_
        refine h_if_neT (xi := 0) (zi := 0) m81_32 rfl rfl (by decide) ?_
        refine g_iload m81_35 rfl ?_
        refine g_iret m81_37 rt_81 ?_
        exact hQ _ _ (hF.tr (FrT.of hA4))
  exact key l 0 _ _ (by omega) hAw (WF_w hW1 hw1 hw4) ((upm_j _ _ (by decide)).trans e11) ((upm_j _ _ (by decide)).trans e12)
set_option maxRecDepth 20000 in
set_option maxHeartbeats 40000000 in
theorem x_whose {a b : Int32} {n : Nat} {B Ln : Nat → Nat} (hd : m 1 10 = nI n) (hn : n ≤ 8) (h01 : ∀ j, j < 8 → m 8 j = 0 ∨ m 8 j = 1) (hW : WF (vw m 0)) (hL : LawsOk m ln N) (hix : LawIx N (m 1 11)) (hiy : LawIx N (m 1 12)) (hB : ∀ s, s < 4 → (B s = 0 ∨ B s = 8 ∨ B s = 16 ∨ B s = 32) ∧ Ln s ≤ 40 ∧ m (48 + 2 * s) 0 = nI (B s) ∧ m (48 + 2 * s) 1 = nI (Ln s)) (hE1 : (a.toInt < 0 ∨ 3 < a.toInt ∨ b.toInt < 0 ∨ 1 < b.toInt) → Q (some (.int (-1000000000 - nI 1))) (H (erm m 1) ln N)) (hE2 : (∃ s k : Nat, a = nI s ∧ s < 4 ∧ b = nI k ∧ k ≤ 1 ∧ B s = 0) → Q (some (.int (-1000000000 - nI 2))) (H (erm m 2) ln N)) (hY : ∀ s k : Nat, a = nI s → s < 4 → b = nI k → k ≤ 1 → B s ≠ 0 → ∀ x m2, FrT m m2 → Q (some (.int x)) (H m2 ln N)) : WP xs (d + 8) 82 0 0 [.ref (32), .int (a), .int (b)] (H m ln N) Q := by
  refine wp_x mx_82 (L := [some (.ref (32)), some (.int (a)), some (.int (b)), none, none, none]) (Nat.le_of_ble_eq_true rfl) rfl ?_
  obtain ⟨w0, hw01, hw04, hw0⟩ := hW.2.1
  refine g_iload_n m82_0 rfl ?_
  refine g_iconst m82_1 ?_
  refine g_cs (args := [.int (a), .int (3)]) (rest := []) 0 (Or.inl rfl) m82_2 (Nat.le_of_ble_eq_true rfl) rfl rfl (Nat.le_of_ble_eq_true rfl) ?_
  refine c_within (M := 3) rfl (fun ja ea a_1 => ?_) (fun a_1 => ?_)
  · subst ea
    refine gwr ?_
    refine h_if_eqF (xi := 1) (zi := 0) m82_5 rfl rfl (by decide) ?_
    refine g_iload_n m82_8 rfl ?_
    refine g_iconst m82_9 ?_
    refine g_cs (args := [.int (b), .int (1)]) (rest := []) 0 (Or.inl rfl) m82_10 (Nat.le_of_ble_eq_true rfl) rfl rfl (Nat.le_of_ble_eq_true rfl) ?_
    refine c_within (M := 1) rfl (fun jb eb a_2 => ?_) (fun a_2 => ?_)
    · subst eb
      refine gwr ?_
      refine h_if_neF (xi := 1) (zi := 0) m82_13 rfl rfl (by decide) ?_
      refine g_aload_n m82_22 rfl ?_
      refine h_gfR (c := 79) (k := 0) (p := 32) m82_23 rfl (t_0 _ _) rfl (Nat.le_of_ble_eq_true rfl) ?_
      refine g_iload_n m82_26 rfl ?_
      have hs : ja < 4 := by omega
      have hBa := hB ja hs
      refine h_aald (j := ja) (c := 80 + 2 * ja) m82_27 rfl (t_47 _ _) (rfl) (sh_at hs) (le3 (Nat.le_of_ble_eq_true rfl)) (Nat.le_of_ble_eq_true rfl) ?_
      refine g_astore_n (L2 := [some (.ref (32)), some (.int (nI (ja))), some (.int (nI (jb))), some (.ref (80 + 2 * ja)), none, none]) m82_28 rfl rfl ?_
      refine g_aload_n m82_29 rfl ?_
      refine h_gfI (k := 48 + 2 * ja) (p := 80 + 2 * ja) m82_30 (pSo _) (tSo hs) rfl (hBa.2.2.1) ?_
      refine h_if_ne (xi := ((B ja : Nat) : Int)) (zi := 0) m82_33 (nI_toInt (by omega)) rfl (fun c1 => ?_) (fun c1 => ?_)
      · skip
        refine g_aload_n m82_36 rfl ?_
        refine g_iconst m82_37 ?_
        refine h_cv (k := 0) (p := 32) (args := [.int (2)]) (rest := []) m82_38 cn_55 (Nat.le_of_ble_eq_true rfl) rfl rfl rfl (t_0 _ _) (Nat.le_of_ble_eq_true rfl) ?_
        refine c_error (e := 2) (by decide) (by decide) ?_
        refine gwr ?_
        refine g_iret m82_41 rt_82 ?_
        exact hE2 ⟨ja, jb, rfl, by omega, rfl, by omega, by omega⟩
      · skip
        refine g_iload_n m82_42 rfl ?_
        refine g_iconst m82_43 ?_
        refine h_ic_ne (xi := ((jb : Nat) : Int)) (zi := 1) m82_44 (nI_toInt (by omega)) rfl (fun c2 => ?_) (fun c2 => ?_)
        · skip
          refine g_aload_n m82_47 rfl ?_
          refine g_aload_n m82_48 rfl ?_
          refine g_aload_n m82_49 rfl ?_
          refine h_gfR (c := 33) (k := 0) (p := 32) m82_50 rfl (t_0 _ _) rfl (Nat.le_of_ble_eq_true rfl) ?_
          refine h_gfI (k := 1) (p := 33) m82_53 rfl (t_1 _ _) rfl (hw0) ?_
          refine h_cv (k := 0) (p := 32) (args := [.ref (80 + 2 * ja), .int (nI (w0))]) (rest := []) m82_56 cn_81 (Nat.le_of_ble_eq_true rfl) rfl rfl rfl (t_0 _ _) (Nat.le_of_ble_eq_true rfl) ?_
          refine c_told (n := n) (b := B ja) (l := Ln ja) (w := w0) hd hn h01 hW hL hix hiy FrT.rf (show ja < 4 by omega) hBa.1 hBa.2.1 hBa.2.2.1 hBa.2.2.2 (by omega) (by omega) (fun x2 m3 hF3 => ?_)
          refine gwr ?_
          refine g_iret m82_59 rt_82 ?_
          exact hY ja jb rfl (by omega) rfl (by omega) (by omega) _ _ hF3
        · skip
          refine g_iconst m82_60 ?_
          refine g_istore (L2 := [some (.ref (32)), some (.int (nI (ja))), some (.int (nI (jb))), some (.ref (80 + 2 * ja)), some (.int (0)), none]) m82_61 rfl rfl ?_
          refine g_iconst m82_63 ?_
          refine g_istore (L2 := [some (.ref (32)), some (.int (nI (ja))), some (.int (nI (jb))), some (.ref (80 + 2 * ja)), some (.int (0)), some (.int (1))]) m82_64 rfl rfl ?_
          have key : ∀ (r : Nat) (w : Nat) (x : Int32) (m2 : MW), w + r = 5 → 1 ≤ w → FrT m m2 → gw xs (WP xs (d + 7)) 82 Q 66 [some (.ref (32)), some (.int (nI (ja))), some (.int (nI (jb))), some (.ref (80 + 2 * ja)), some (.int (x)), some (.int (nI (w)))] [] (H m2 ln N) 0 0 := by
            intro r
            induction r with
            | zero =>
              intro w x m2 hw hw1 hF
              obtain rfl : w = 5 := by omega
              refine g_iload m82_66 rfl ?_
              refine g_iconst m82_68 ?_
              refine h_ic_gtT (xi := ((5 : Nat) : Int)) (zi := 4) m82_69 (nI_toInt (by omega)) rfl (by omega) ?_
              refine g_iload m82_101 rfl ?_
              refine g_iret m82_103 rt_82 ?_
              exact hY ja jb rfl (by omega) rfl (by omega) (by omega) _ _ hF
            | succ r ih =>
              intro w x m2 hw hw1 hF
              refine g_iload m82_66 rfl ?_
              refine g_iconst m82_68 ?_
              refine h_ic_gtF (xi := ((w : Nat) : Int)) (zi := 4) m82_69 (nI_toInt (by omega)) rfl (by omega) ?_
              refine g_aload_n m82_72 rfl ?_
              refine g_aload_n m82_73 rfl ?_
              refine g_iload m82_74 rfl ?_
              refine h_cv (k := 0) (p := 32) (args := [.ref (80 + 2 * ja), .int (nI (w))]) (rest := []) m82_76 cn_81 (Nat.le_of_ble_eq_true rfl) rfl rfl rfl (t_0 _ _) (Nat.le_of_ble_eq_true rfl) ?_
              refine c_told (n := n) (b := B ja) (l := Ln ja) (w := w) hd hn h01 hW hL hix hiy hF (show ja < 4 by omega) hBa.1 hBa.2.1 hBa.2.2.1 hBa.2.2.2 (by omega) (by omega) (fun x2 m3 hF3 => ?_)
              refine gwr ?_
              refine g_aload_n m82_79 rfl ?_
              refine h_gfI (k := 48 + 2 * ja) (p := 80 + 2 * ja) m82_80 (pSo _) (tSo (show ja < 4 by omega)) rfl ((hF3 _ _ (by omega) (fun z => by rcases z with z | z <;> omega)).trans hBa.2.2.2) ?_
              refine h_ic_ne (xi := _) (zi := ((Ln ja : Nat) : Int)) m82_83 rfl (nI_toInt (by omega)) (fun c3 => ?_) (fun c3 => ?_)
              · skip
                refine g_iload m82_86 rfl ?_
                refine g_iconst m82_88 ?_
                refine g_iload m82_89 rfl ?_
                refine g_ishl m82_91 rfl ?_
                refine g_ior m82_92 rfl ?_
                refine g_istore (L2 := [some (.ref (32)), some (.int (nI (ja))), some (.int (nI (jb))), some (.ref (80 + 2 * ja)), some (.int _), some (.int (nI (w)))]) m82_93 rfl rfl ?_
                refine g_iinc (L2 := [some (.ref (32)), some (.int (nI (ja))), some (.int (nI (jb))), some (.ref (80 + 2 * ja)), some (.int _), some (.int (nI (w + 1)))]) m82_95 rfl (nI_1 _) rfl rfl ?_
                refine g_goto m82_98 ?_
                exact ih (w + 1) _ _ (by omega) (by omega) hF3
              · skip
                refine g_iinc (L2 := [some (.ref (32)), some (.int (nI (ja))), some (.int (nI (jb))), some (.ref (80 + 2 * ja)), some (.int (x)), some (.int (nI (w + 1)))]) m82_95 rfl (nI_1 _) rfl rfl ?_
                refine g_goto m82_98 ?_
                exact ih (w + 1) _ _ (by omega) (by omega) hF3
          exact key 4 1 0 m (by omega) (by omega) FrT.rf
    · skip
      refine gwr ?_
      refine h_if_neT (xi := 0) (zi := 0) m82_13 rfl rfl (by decide) ?_
      refine g_aload_n m82_16 rfl ?_
      refine g_iconst m82_17 ?_
      refine h_cv (k := 0) (p := 32) (args := [.int (1)]) (rest := []) m82_18 cn_55 (Nat.le_of_ble_eq_true rfl) rfl rfl rfl (t_0 _ _) (Nat.le_of_ble_eq_true rfl) ?_
      refine c_error (e := 1) (by decide) (by decide) ?_
      refine gwr ?_
      refine g_iret m82_21 rt_82 ?_
      exact hE1 (by omega)
  · skip
    refine gwr ?_
    refine h_if_eqT (xi := 0) (zi := 0) m82_5 rfl rfl (by decide) ?_
    refine g_aload_n m82_16 rfl ?_
    refine g_iconst m82_17 ?_
    refine h_cv (k := 0) (p := 32) (args := [.int (1)]) (rest := []) m82_18 cn_55 (Nat.le_of_ble_eq_true rfl) rfl rfl rfl (t_0 _ _) (Nat.le_of_ble_eq_true rfl) ?_
    refine c_error (e := 1) (by decide) (by decide) ?_
    refine gwr ?_
    refine g_iret m82_21 rt_82 ?_
    exact hE1 (by omega)
set_option maxRecDepth 20000 in
set_option maxHeartbeats 40000000 in
theorem c_isSoFor {n s l : Nat} (hd : m 58 2 = nI n) (hn : n ≤ 8) (hX0 : TxOk (m 58) 0) (hX1 : TxOk (m 58) 1) (hWY : WF (vr (m 58))) (hs : s < 4) (hl40 : l ≤ 40) (hl : m 64 s = nI l) (hQ : ∀ x m2, FrP m m2 → Q (some (.int x)) (H m2 ln N)) : WP xs (d + 818) 161 0 0 [.ref (89), .int (nI (s))] (H m ln N) Q := by
  refine wp_x mx_161 (L := [some (.ref (89)), some (.int (nI (s))), none]) (Nat.le_of_ble_eq_true rfl) rfl ?_
  refine g_iconst m161_0 ?_
  refine g_istore_n (L2 := [some (.ref (89)), some (.int (nI (s))), some (.int (0))]) m161_1 rfl rfl ?_
  refine g_aload_n m161_2 rfl ?_
  refine g_aload_n m161_3 rfl ?_
  refine h_gfR (c := 90) (k := 57) (p := 89) m161_4 rfl (t_57 _ _) rfl (Nat.le_of_ble_eq_true rfl) ?_
  refine g_aload_n m161_7 rfl ?_
  refine h_gfR (c := 92) (k := 57) (p := 89) m161_8 rfl (t_57 _ _) rfl (Nat.le_of_ble_eq_true rfl) ?_
  refine h_cv (k := 57) (p := 89) (args := [.ref (90), .ref (92)]) (rest := []) m161_11 cn_110 (Nat.le_of_ble_eq_true rfl) rfl rfl rfl (t_57 _ _) (Nat.le_of_ble_eq_true rfl) ?_
  refine c_moveRow (k1 := 58) (k2 := 60) rfl rfl (t_58 _ _) (t_60 _ _) (by decide) ?_
  have h58 : (upmR m 60 (m 58)) 58 = m 58 := thR_58 _ _
  have hAt := thR_A m
  have hX0t : TxOk ((upmR m 60 (m 58)) 58) 0 := by rw [h58]; exact hX0
  have hX1t : TxOk ((upmR m 60 (m 58)) 58) 1 := by rw [h58]; exact hX1
  refine gwr0 ?_
  have key : ∀ (r : Nat) (q : Nat) (m3 Y : MW), q + r = l → AtY (upmR m 60 (m 58)) Y m3 → WF Y → gw xs (WP xs (d + 817)) 161 Q 14 [some (.ref (89)), some (.int (nI (s))), some (.int (nI (q)))] [] (H m3 ln N) 0 0 := by
    intro r
    induction r with
    | zero =>
      intro q m3 Y hq hA hWq
      obtain rfl : q = l := by omega
      refine g_iload_n m161_14 rfl ?_
      refine g_aload_n m161_15 rfl ?_
      refine h_gfR (c := 96) (k := 57) (p := 89) m161_16 rfl (t_57 _ _) rfl (Nat.le_of_ble_eq_true rfl) ?_
      refine g_iload_n m161_19 rfl ?_
      refine h_ial (k := 64) (p := 96) (j := s) m161_20 rfl (t_64 _ _) (rfl) (by omega) (Nat.le_of_ble_eq_true rfl) ((hA.out (by decide) (fun z => by rcases z with z | z <;> omega)).trans ((congrFun (if_neg (by decide)) _).trans hl)) ?_
      refine h_ic_geT (xi := ((q : Nat) : Int)) (zi := ((q : Nat) : Int)) m161_21 (nI_toInt (by omega)) (nI_toInt (by omega)) (by omega) ?_
      refine g_aload_n m161_52 rfl ?_
      refine g_aload_n m161_53 rfl ?_
      refine h_gfR (c := 92) (k := 57) (p := 89) m161_54 rfl (t_57 _ _) rfl (Nat.le_of_ble_eq_true rfl) ?_
      refine g_aload_n m161_57 rfl ?_
      refine h_gfR (c := 90) (k := 57) (p := 89) m161_58 rfl (t_57 _ _) rfl (Nat.le_of_ble_eq_true rfl) ?_
      refine h_cv (k := 57) (p := 89) (args := [.ref (92), .ref (90)]) (rest := []) m161_61 cn_110 (Nat.le_of_ble_eq_true rfl) rfl rfl rfl (t_57 _ _) (Nat.le_of_ble_eq_true rfl) ?_
      refine c_moveRow (k1 := 60) (k2 := 58) rfl rfl (t_60 _ _) (t_58 _ _) (by decide) ?_
      have hFb := FrP.back hA
      refine gwr0 ?_
      refine g_iload_n m161_64 rfl ?_
      refine g_iret m161_65 rt_161 ?_
      exact hQ _ _ hFb
    | succ r ih =>
      intro q m3 Y hq hA hWq
      refine g_iload_n m161_14 rfl ?_
      refine g_aload_n m161_15 rfl ?_
      refine h_gfR (c := 96) (k := 57) (p := 89) m161_16 rfl (t_57 _ _) rfl (Nat.le_of_ble_eq_true rfl) ?_
      refine g_iload_n m161_19 rfl ?_
      refine h_ial (k := 64) (p := 96) (j := s) m161_20 rfl (t_64 _ _) (rfl) (by omega) (Nat.le_of_ble_eq_true rfl) ((hA.out (by decide) (fun z => by rcases z with z | z <;> omega)).trans ((congrFun (if_neg (by decide)) _).trans hl)) ?_
      refine h_ic_geF (xi := ((q : Nat) : Int)) (zi := ((l : Nat) : Int)) m161_21 (nI_toInt (by omega)) (nI_toInt (by omega)) (by omega) ?_
      refine g_aload_n m161_24 rfl ?_
      refine h_cv (k := 57) (p := 89) (args := []) (rest := []) m161_25 cn_143 (Nat.le_of_ble_eq_true rfl) rfl rfl rfl (t_57 _ _) (Nat.le_of_ble_eq_true rfl) ?_
      refine c_servedM hA hX0t hWq (fun m4 hA4 => ?_)
      refine gwr ?_
      refine g_aload_n m161_28 rfl ?_
      refine h_gfR (c := 97) (k := 57) (p := 89) m161_29 rfl (t_57 _ _) rfl (Nat.le_of_ble_eq_true rfl) ?_
      refine g_bipush m161_32 ?_
      refine g_iload_n m161_34 rfl ?_
      refine g_imul (u := nI (40 * s)) m161_35 (pk_mul 40 s) ?_
      refine g_iload_n m161_36 rfl ?_
      refine g_iadd (u := nI ((40 * s) + q)) m161_37 (nI_add (40 * s) q) ?_
      refine h_ial (k := 65) (p := 97) (j := (40 * s) + q) m161_38 rfl (t_65 _ _) (rfl) (by omega) (Nat.le_of_ble_eq_true rfl) (rfl) ?_
      refine h_ic_ne (xi := _) (zi := _) m161_39 rfl rfl (fun c1 => ?_) (fun c1 => ?_)
      · skip
        refine g_aload_n m161_42 rfl ?_
        refine h_cv (k := 57) (p := 89) (args := []) (rest := []) m161_43 cn_145 (Nat.le_of_ble_eq_true rfl) rfl rfl rfl (t_57 _ _) (Nat.le_of_ble_eq_true rfl) ?_
        refine c_oneStep hA4 hX0t hX1t hWq (fun m5 hA5 => ?_)
        refine gwr0 ?_
        refine g_iinc (L2 := [some (.ref (89)), some (.int (nI (s))), some (.int (nI (q + 1)))]) m161_46 rfl (nI_1 _) rfl rfl ?_
        refine g_goto m161_49 ?_
        exact ih (q + 1) _ _ (by omega) hA5 (WF_step hWq)
      · skip
        refine g_aload_n m161_52 rfl ?_
        refine g_aload_n m161_53 rfl ?_
        refine h_gfR (c := 92) (k := 57) (p := 89) m161_54 rfl (t_57 _ _) rfl (Nat.le_of_ble_eq_true rfl) ?_
        refine g_aload_n m161_57 rfl ?_
        refine h_gfR (c := 90) (k := 57) (p := 89) m161_58 rfl (t_57 _ _) rfl (Nat.le_of_ble_eq_true rfl) ?_
        refine h_cv (k := 57) (p := 89) (args := [.ref (92), .ref (90)]) (rest := []) m161_61 cn_110 (Nat.le_of_ble_eq_true rfl) rfl rfl rfl (t_57 _ _) (Nat.le_of_ble_eq_true rfl) ?_
        refine c_moveRow (k1 := 60) (k2 := 58) rfl rfl (t_60 _ _) (t_58 _ _) (by decide) ?_
        have hFb := FrP.back hA4
        refine gwr0 ?_
        refine g_iload_n m161_64 rfl ?_
        refine g_iret m161_65 rt_161 ?_
        exact hQ _ _ hFb
  exact key l 0 _ _ (by omega) hAt hWY
set_option maxRecDepth 20000 in
set_option maxHeartbeats 40000000 in
theorem m_whose {a b : Int32} {n : Nat} {B Ln : Nat → Nat} (hd : m 58 2 = nI n) (hn : n ≤ 8) (hX0 : TxOk (m 58) 0) (hX1 : TxOk (m 58) 1) (hWY : WF (vr (m 58))) (hB : ∀ s, s < 4 → (B s = 0 ∨ B s = 8 ∨ B s = 16 ∨ B s = 32) ∧ Ln s ≤ 40 ∧ m 63 s = nI (B s) ∧ m 64 s = nI (Ln s)) (hE1 : (a.toInt < 0 ∨ 3 < a.toInt ∨ b.toInt < 0 ∨ 1 < b.toInt) → Q (some (.int (-1000000001))) (H (ers m 1) ln N)) (hE2 : (∃ s k : Nat, a = nI s ∧ s < 4 ∧ b = nI k ∧ k ≤ 1 ∧ B s = 0) → Q (some (.int (-1000000002))) (H (ers m 2) ln N)) (hY : ∀ s k : Nat, a = nI s → s < 4 → b = nI k → k ≤ 1 → B s ≠ 0 → ∀ x m2, FrP m m2 → Q (some (.int x)) (H m2 ln N)) : WP xs (d + 819) 162 0 0 [.ref (89), .int (a), .int (b)] (H m ln N) Q := by
  refine wp_x mx_162 (L := [some (.ref (89)), some (.int (a)), some (.int (b)), none, none, none]) (Nat.le_of_ble_eq_true rfl) rfl ?_
  refine g_iload_n m162_0 rfl ?_
  refine g_cs (args := [.int (a)]) (rest := []) 0 (Or.inl rfl) m162_1 (Nat.le_of_ble_eq_true rfl) rfl rfl (Nat.le_of_ble_eq_true rfl) ?_
  refine c_isSheet (fun ja ea a_3 => ?_) (fun a_3 => ?_)
  · subst ea
    refine gwr ?_
    refine h_if_eqF (xi := 1) (zi := 0) m162_4 rfl rfl (by decide) ?_
    refine g_iload_n m162_7 rfl ?_
    refine g_iconst m162_8 ?_
    refine g_iconst m162_9 ?_
    refine g_cs (args := [.int (b), .int (0), .int (1)]) (rest := []) 0 (Or.inl rfl) m162_10 (Nat.le_of_ble_eq_true rfl) rfl rfl (Nat.le_of_ble_eq_true rfl) ?_
    refine c_in (A := 0) (B := 1) rfl rfl (by decide) (fun jb eb a_4 a_4' => ?_) (fun a_4 => ?_)
    · subst eb
      refine gwr ?_
      refine h_if_neF (xi := 1) (zi := 0) m162_13 rfl rfl (by decide) ?_
      refine g_aload_n m162_23 rfl ?_
      refine h_gfR (c := 95) (k := 57) (p := 89) m162_24 rfl (t_57 _ _) rfl (Nat.le_of_ble_eq_true rfl) ?_
      refine g_iload_n m162_27 rfl ?_
      have hs : ja < 4 := by omega
      have hBa := hB ja hs
      refine h_ial (k := 63) (p := 95) (j := ja) m162_28 rfl (t_63 _ _) (rfl) (by omega) (Nat.le_of_ble_eq_true rfl) (hBa.2.2.1) ?_
      refine h_if_ne (xi := ((B ja : Nat) : Int)) (zi := 0) m162_29 (nI_toInt (by omega)) rfl (fun c1 => ?_) (fun c1 => ?_)
      · skip
        refine g_aload_n m162_32 rfl ?_
        refine g_ldci m162_33 rfl ?_
        refine h_cv (k := 57) (p := 89) (args := [.int (-1000000002)]) (rest := []) m162_35 cn_108 (Nat.le_of_ble_eq_true rfl) rfl rfl rfl (t_57 _ _) (Nat.le_of_ble_eq_true rfl) ?_
        refine c_errs (e := 2) (by decide) (by decide) (by decide) ?_
        refine gwr ?_
        refine g_iret m162_38 rt_162 ?_
        exact hE2 ⟨ja, jb, rfl, by omega, rfl, by omega, by omega⟩
      · skip
        refine g_iload_n m162_39 rfl ?_
        refine g_iconst m162_40 ?_
        refine h_ic_ne (xi := ((jb : Nat) : Int)) (zi := 1) m162_41 (nI_toInt (by omega)) rfl (fun c2 => ?_) (fun c2 => ?_)
        · skip
          refine g_aload_n m162_44 rfl ?_
          refine g_iload_n m162_45 rfl ?_
          refine h_cv (k := 57) (p := 89) (args := [.int (nI (ja))]) (rest := []) m162_46 cn_161 (Nat.le_of_ble_eq_true rfl) rfl rfl rfl (t_57 _ _) (Nat.le_of_ble_eq_true rfl) ?_
          refine c_isSoFor (n := n) (l := Ln ja) hd hn hX0 hX1 hWY hs hBa.2.1 hBa.2.2.2 (fun x m3 hF3 => ?_)
          refine gwr ?_
          refine g_iret m162_49 rt_162 ?_
          exact hY ja jb rfl (by omega) rfl (by omega) (by omega) _ _ hF3
        · skip
          refine g_aload_n m162_50 rfl ?_
          refine h_gfR (c := 90) (k := 57) (p := 89) m162_51 rfl (t_57 _ _) rfl (Nat.le_of_ble_eq_true rfl) ?_
          refine g_bipush m162_54 ?_
          refine h_ial (k := 58) (p := 90) (j := 7) m162_56 rfl (t_58 _ _) (rfl) (by omega) (Nat.le_of_ble_eq_true rfl) (rfl) ?_
          refine g_istore_n (L2 := [some (.ref (89)), some (.int (nI (ja))), some (.int (nI (jb))), some (.int (m (58) (7))), none, none]) m162_57 rfl rfl ?_
          refine g_iconst m162_58 ?_
          refine g_istore (L2 := [some (.ref (89)), some (.int (nI (ja))), some (.int (nI (jb))), some (.int (m (58) (7))), some (.int (0)), none]) m162_59 rfl rfl ?_
          refine g_iconst m162_61 ?_
          refine g_istore (L2 := [some (.ref (89)), some (.int (nI (ja))), some (.int (nI (jb))), some (.int (m (58) (7))), some (.int (0)), some (.int (1))]) m162_62 rfl rfl ?_
          have key : ∀ (r : Nat) (w : Nat) (x y : Int32) (m2 : MW), w + r = 5 → 1 ≤ w → FrP (upm m 58 7 y) m2 → gw xs (WP xs (d + 818)) 162 Q 64 [some (.ref (89)), some (.int (nI (ja))), some (.int (nI (jb))), some (.int (m 58 7)), some (.int (x)), some (.int (nI (w)))] [] (H m2 ln N) 0 0 := by
            intro r
            induction r with
            | zero =>
              intro w x y m2 hw hw1 hF
              obtain rfl : w = 5 := by omega
              refine g_iload m162_64 rfl ?_
              refine g_iconst m162_66 ?_
              refine h_ic_gtT (xi := ((5 : Nat) : Int)) (zi := 4) m162_67 (nI_toInt (by omega)) rfl (by omega) ?_
              refine g_aload_n m162_112 rfl ?_
              refine h_gfR (c := 90) (k := 57) (p := 89) m162_113 rfl (t_57 _ _) rfl (Nat.le_of_ble_eq_true rfl) ?_
              refine g_bipush m162_116 ?_
              refine g_iload_n m162_118 rfl ?_
              refine h_ias (k := 58) (p := 90) (j := 7) m162_119 rfl (t_58 _ _) (rfl) (by omega) (Nat.le_of_ble_eq_true rfl) ?_
              refine g_iload m162_120 rfl ?_
              refine g_iret m162_122 rt_162 ?_
              have h9 := hF.u7 (m 58 7)
              rw [upm_id] at h9
              exact hY ja jb rfl (by omega) rfl (by omega) (by omega) _ _ h9
            | succ r ih =>
              intro w x y m2 hw hw1 hF
              refine g_iload m162_64 rfl ?_
              refine g_iconst m162_66 ?_
              refine h_ic_gtF (xi := ((w : Nat) : Int)) (zi := 4) m162_67 (nI_toInt (by omega)) rfl (by omega) ?_
              refine g_aload_n m162_70 rfl ?_
              refine h_gfR (c := 90) (k := 57) (p := 89) m162_71 rfl (t_57 _ _) rfl (Nat.le_of_ble_eq_true rfl) ?_
              refine g_bipush m162_74 ?_
              refine g_iload m162_76 rfl ?_
              refine h_ias (k := 58) (p := 90) (j := 7) m162_78 rfl (t_58 _ _) (rfl) (by omega) (Nat.le_of_ble_eq_true rfl) ?_
              refine g_iload m162_79 rfl ?_
              refine g_aload_n m162_81 rfl ?_
              refine g_iload_n m162_82 rfl ?_
              refine h_cv (k := 57) (p := 89) (args := [.int (nI (ja))]) (rest := [.int (x)]) m162_83 cn_161 (Nat.le_of_ble_eq_true rfl) rfl rfl rfl (t_57 _ _) (Nat.le_of_ble_eq_true rfl) ?_
              have hF7 := hF.u7 (nI w)
              have e58 : (upm m2 58 7 (nI w)) 58 = upm m 58 7 (nI w) 58 := hF7.row
              refine c_isSoFor (n := n) (l := Ln ja) (by rw [e58]; exact (upm_j _ _ (by decide)).trans hd) hn (by rw [e58]; exact hX0.up7 (by decide)) (by rw [e58]; exact hX1.up7 (by decide)) (by rw [e58]; exact WF_c vr_7 (WF_w hWY (by omega) (by omega))) hs hBa.2.1 ((hF7 64 ja (by omega) (fun z => by rcases z with z | z <;> omega)).trans ((upm_k _ _ (by decide)).trans hBa.2.2.2)) (fun x2 m3 hF3 => ?_)
              have hF4 := hF7.tr hF3
              refine gwr ?_
              refine g_aload_n m162_86 rfl ?_
              refine h_gfR (c := 96) (k := 57) (p := 89) m162_87 rfl (t_57 _ _) rfl (Nat.le_of_ble_eq_true rfl) ?_
              refine g_iload_n m162_90 rfl ?_
              refine h_ial (k := 64) (p := 96) (j := ja) m162_91 rfl (t_64 _ _) (rfl) (by omega) (Nat.le_of_ble_eq_true rfl) ((hF4 64 ja (by omega) (fun z => by rcases z with z | z <;> omega)).trans ((upm_k _ _ (by decide)).trans hBa.2.2.2)) ?_
              refine h_ic_ne (xi := _) (zi := ((Ln ja : Nat) : Int)) m162_92 rfl (nI_toInt (by omega)) (fun c3 => ?_) (fun c3 => ?_)
              · skip
                refine g_iconst m162_95 ?_
                refine g_iload m162_96 rfl ?_
                refine g_ishl m162_98 rfl ?_
                refine g_goto m162_99 ?_
                refine g_ior m162_103 rfl ?_
                refine g_istore (L2 := [some (.ref (89)), some (.int (nI (ja))), some (.int (nI (jb))), some (.int (m 58 7)), some (.int _), some (.int (nI (w)))]) m162_104 rfl rfl ?_
                refine g_iinc (L2 := [some (.ref (89)), some (.int (nI (ja))), some (.int (nI (jb))), some (.int (m 58 7)), some (.int _), some (.int (nI (w + 1)))]) m162_106 rfl (nI_1 _) rfl rfl ?_
                refine g_goto m162_109 ?_
                exact ih (w + 1) _ _ _ (by omega) (by omega) hF4
              · skip
                refine g_iconst m162_102 ?_
                refine g_ior m162_103 rfl ?_
                refine g_istore (L2 := [some (.ref (89)), some (.int (nI (ja))), some (.int (nI (jb))), some (.int (m 58 7)), some (.int ((x ||| (0 : Int32)))), some (.int (nI (w)))]) m162_104 rfl rfl ?_
                refine g_iinc (L2 := [some (.ref (89)), some (.int (nI (ja))), some (.int (nI (jb))), some (.int (m 58 7)), some (.int ((x ||| (0 : Int32)))), some (.int (nI (w + 1)))]) m162_106 rfl (nI_1 _) rfl rfl ?_
                refine g_goto m162_109 ?_
                exact ih (w + 1) _ _ _ (by omega) (by omega) hF4
          exact key 4 1 0 (m 58 7) m (by omega) (by omega) (by rw [upm_id]; exact FrP.rf)
    · skip
      refine gwr ?_
      refine h_if_neT (xi := 0) (zi := 0) m162_13 rfl rfl (by decide) ?_
      refine g_aload_n m162_16 rfl ?_
      refine g_ldci m162_17 rfl ?_
      refine h_cv (k := 57) (p := 89) (args := [.int (-1000000001)]) (rest := []) m162_19 cn_108 (Nat.le_of_ble_eq_true rfl) rfl rfl rfl (t_57 _ _) (Nat.le_of_ble_eq_true rfl) ?_
      refine c_errs (e := 1) (by decide) (by decide) (by decide) ?_
      refine gwr ?_
      refine g_iret m162_22 rt_162 ?_
      exact hE1 (by omega)
  · skip
    refine gwr ?_
    refine h_if_eqT (xi := 0) (zi := 0) m162_4 rfl rfl (by decide) ?_
    refine g_aload_n m162_16 rfl ?_
    refine g_ldci m162_17 rfl ?_
    refine h_cv (k := 57) (p := 89) (args := [.int (-1000000001)]) (rest := []) m162_19 cn_108 (Nat.le_of_ble_eq_true rfl) rfl rfl rfl (t_57 _ _) (Nat.le_of_ble_eq_true rfl) ?_
    refine c_errs (e := 1) (by decide) (by decide) (by decide) ?_
    refine gwr ?_
    refine g_iret m162_22 rt_162 ?_
    exact hE1 (by omega)
end
