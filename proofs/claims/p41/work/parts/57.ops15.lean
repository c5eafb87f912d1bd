section
/-! WHOSE, weakly -/
theorem FrP.u7 {m m2 : MW} {y : Int32} (h : FrP (upm m 58 7 y) m2) (z : Int32) : FrP (upm m 58 7 z) (upm m2 58 7 z) := by
  intro k j a b
  by_cases e : k = 58 ∧ j = 7
  · obtain ⟨rfl, rfl⟩ := e
    rw [upm_self, upm_self]
  · have e1 : upm m2 58 7 z k j = m2 k j := if_neg e
    have e2 : upm m 58 7 z k j = m k j := if_neg e
    have e3 : upm m 58 7 y k j = m k j := if_neg e
    rw [e1, e2, h k j a b, e3]
section
variable {xs : List Int32} {d : Nat} {h : AH} {Q : QT} {m : MW} {ln : Nat → Nat} {N : Nat}
set_option maxRecDepth 20000 in
set_option maxHeartbeats 40000000 in
theorem c_told {n s b l w : Nat} {m2 : MW} (hd : m 1 10 = nI n) (hn : n ≤ 8) (h01 : ∀ j, j < 8 → m 8 j = 0 ∨ m 8 j = 1) (hW : WF (vw m 0)) (hL : LawsOk m ln N) (hix : LawIx N (m 1 11)) (hiy : LawIx N (m 1 12)) (hF : FrT m m2) (hs : s < 4) (hb : b = 0 ∨ b = 8 ∨ b = 16 ∨ b = 32) (hl40 : l ≤ 40) (hbm : m (48 + 2 * s) 0 = nI b) (hl : m (48 + 2 * s) 1 = nI l) (hw1 : 1 ≤ w) (hw4 : w ≤ 4) (hQ : ∀ x m3, FrT m m3 → Q (some (.int x)) (H m3 ln N)) : WP xs (d + 7) 81 0 0 [.ref (32), .ref (80 + 2 * s), .int (nI (w))] (H m2 ln N) Q := by
  refine wp_x mx_81 (L := [some (.ref (32)), some (.ref (80 + 2 * s)), some (.int (nI (w))), none, none]) (Nat.le_of_ble_eq_true rfl) rfl ?_
  refine g_aload_n m81_0 rfl ?_
  refine h_cv (k := 0) (p := 32) (args := []) (rest := []) m81_1 cn_74 (Nat.le_of_ble_eq_true rfl) rfl rfl rfl (t_0 _ _) (Nat.le_of_ble_eq_true rfl) ?_
  have hd2 : m2 1 10 = nI n := (hF 1 10 (by omega) (fun q => by rcases q with q | q <;> omega)).trans hd
  have h012 : ∀ j, j < 8 → m2 8 j = 0 ∨ m2 8 j = 1 := fun j hj => by rw [hF 8 j (by omega) (fun q => by rcases q with q | q <;> omega)]; exact h01 j hj
  have hL2 := hF.laws hL
  have e11 : m2 1 11 = m 1 11 := hF 1 11 (by omega) (fun q => by rcases q with q | q <;> omega)
  have e12 : m2 1 12 = m 1 12 := hF 1 12 (by omega) (fun q => by rcases q with q | q <;> omega)
  have hL1 : LawsOk (takeM m2 1 0) ln N := tk_l hL2 1 0 (by decide)
  have elk := (tk_lk m2 1 0 (by decide) ln (m 1 11)).trans (hF.lk ln _)
  have ebl := (tk_bl m2 1 0 (by decide) ln (m 1 12)).trans (hF.bl ln _)
  have h80 : Eq8 (vw m 0) (vw (takeM m2 1 0) 1) := Eq8.tr (fun j hj i => congrFun (hF.vw0 (by omega)) i) (take_8 m2 1 0)
  have hW1 : WF (vw (takeM m2 1 0) 1) := WF_c h80 hW
  refine c_think h012 ?_
  refine gwr ?_
  refine g_astore_n (L2 := [some (.ref (32)), some (.ref (80 + 2 * s)), some (.int (nI (w))), some (.ref (42)), none]) m81_4 rfl rfl ?_
  refine g_aload_n m81_5 rfl ?_
  refine g_iload_n m81_6 rfl ?_
  refine h_pfI (k := 10) (p := 42) m81_7 rfl (t_10 _ _) rfl trivial ?_
  refine g_iconst m81_10 ?_
  refine g_istore (L2 := [some (.ref (32)), some (.ref (80 + 2 * s)), some (.int (nI (w))), some (.ref (42)), some (.int (0))]) m81_11 rfl rfl ?_
  have hAw : AtX (takeM m2 1 0) 1 (upm (vw (takeM m2 1 0) 1) 0 8 (nI w)) (upm (takeM m2 1 0) 10 8 (nI w)) := (AtX.self (takeM m2 1 0) 1).up (by decide) (j := 0) (by decide) 8 (nI w)
  have hl2 : ∀ j, (takeM m2 1 0) (48 + 2 * s) j = m (48 + 2 * s) j := fun j => (congrFun (take_o m2 1 0 (by omega)) j).trans (hF _ _ (by omega) (fun z => by rcases z with z | z <;> omega))
  have key : ∀ (r : Nat) (q : Nat) (m3 X3 : MW), q + r = l → AtX (takeM m2 1 0) 1 X3 m3 → WF X3 → X3 0 11 = m 1 11 → X3 0 12 = m 1 12 → gw xs (WP xs (d + 6)) 81 Q 13 [some (.ref (32)), some (.ref (80 + 2 * s)), some (.int (nI (w))), some (.ref (42)), some (.int (nI (q)))] [] (H m3 ln N) 0 0 := by
    intro r
    induction r with
    | zero =>
      intro q m3 X3 hq hA3 hW3 h11 h12
      obtain rfl : q = l := by omega
      refine g_iload m81_13 rfl ?_
      refine g_aload_n m81_15 rfl ?_
      refine h_gfI (k := 48 + 2 * s) (p := 80 + 2 * s) m81_16 (pSo _) (tSo hs) rfl (((hA3.out (by omega) (fun z => by rcases z with z | z <;> omega)).trans (hl2 1)).trans hl) ?_
      refine h_ic_geT (xi := ((q : Nat) : Int)) (zi := ((q : Nat) : Int)) m81_19 (nI_toInt (by omega)) (nI_toInt (by omega)) (by omega) ?_
      refine g_aload_n m81_44 rfl ?_
      refine h_gfI (k := 48 + 2 * s) (p := 80 + 2 * s) m81_45 (pSo _) (tSo hs) rfl (((hA3.out (by omega) (fun z => by rcases z with z | z <;> omega)).trans (hl2 1)).trans hl) ?_
      refine g_iret m81_48 rt_81 ?_
      exact hQ _ _ (hF.tr (FrT.of hA3))
    | succ r ih =>
      intro q m3 X3 hq hA3 hW3 h11 h12
      refine g_iload m81_13 rfl ?_
      refine g_aload_n m81_15 rfl ?_
      refine h_gfI (k := 48 + 2 * s) (p := 80 + 2 * s) m81_16 (pSo _) (tSo hs) rfl (((hA3.out (by omega) (fun z => by rcases z with z | z <;> omega)).trans (hl2 1)).trans hl) ?_
      refine h_ic_geF (xi := ((q : Nat) : Int)) (zi := ((l : Nat) : Int)) m81_19 (nI_toInt (by omega)) (nI_toInt (by omega)) (by omega) ?_
      refine g_aload_n m81_22 rfl ?_
      refine g_iload m81_23 rfl ?_
      refine g_aload_n m81_25 rfl ?_
      refine h_cv (k := 10) (p := 42) (args := []) (rest := [.int (nI (q)), .ref (80 + 2 * s)]) m81_26 cn_40 (Nat.le_of_ble_eq_true rfl) rfl rfl rfl (t_10 _ _) (Nat.le_of_ble_eq_true rfl) ?_
      refine c_serveStep (x := m 1 11) (y := m 1 12) (t := 1) (by decide) hL1 hA3 h11 hix h12 hiy hW3 (fun X4 m4 e8 hA4 => ?_)
      have hW4 := WF_c e8 (WF_step hW3)
      have h411 := ((e8 0 (by decide) 11).trans (stepN_0 _ _ X3 (by decide) 1)).trans h11
      have h412 := ((e8 0 (by decide) 12).trans (stepN_0 _ _ X3 (by decide) 1)).trans h12
      refine gwr ?_
      refine h_cv (k := 48 + 2 * s) (p := 80 + 2 * s) (args := [.int (nI (q)), .int _]) (rest := []) m81_29 cn_29 (Nat.le_of_ble_eq_true rfl) rfl rfl (pSo _) (tSo hs) (Nat.le_of_ble_eq_true rfl) ?_
      refine c_holds (q := q) hs (by omega) hb (((hA4.out (by omega) (fun z => by rcases z with z | z <;> omega)).trans (hl2 0)).trans hbm) (fun _ => ?_) (fun _ => ?_)
      · skip
        refine gwr ?_
        refine h_if_neF (xi := 1) (zi := 0) m81_32 rfl rfl (by decide) ?_
        refine g_iinc (L2 := [some (.ref (32)), some (.ref (80 + 2 * s)), some (.int (nI (w))), some (.ref (42)), some (.int (nI (q + 1)))]) m81_38 rfl (nI_1 _) rfl rfl ?_
        refine g_goto m81_41 ?_
        exact ih (q + 1) _ _ (by omega) hA4 hW4 h411 h412
      · skip
        refine gwr ?_
        refine h_if_neT (xi := 0) (zi := 0) m81_32 rfl rfl (by decide) ?_
        refine g_iload m81_35 rfl ?_
        refine g_iret m81_37 rt_81 ?_
        exact hQ _ _ (hF.tr (FrT.of hA4))
  exact key l 0 _ _ (by omega) hAw (WF_w hW1 hw1 hw4) ((upm_j _ _ (by decide)).trans e11) ((upm_j _ _ (by decide)).trans e12)
set_option maxRecDepth 20000 in
set_option maxHeartbeats 40000000 in
theorem x_whose {a b : Int32} {n : Nat} {B Ln : Nat → Nat} (hd : m 1 10 = nI n) (hn : n ≤ 8) (h01 : ∀ j, j < 8 → m 8 j = 0 ∨ m 8 j = 1) (hW : WF (vw m 0)) (hL : LawsOk m ln N) (hix : LawIx N (m 1 11)) (hiy : LawIx N (m 1 12)) (hB : ∀ s, s < 4 → (B s = 0 ∨ B s = 8 ∨ B s = 16 ∨ B s = 32) ∧ Ln s ≤ 40 ∧ m (48 + 2 * s) 0 = nI (B s) ∧ m (48 + 2 * s) 1 = nI (Ln s)) (hE1 : (a.toInt < 0 ∨ 3 < a.toInt ∨ b.toInt < 0 ∨ 1 < b.toInt) → Q (some (.int (-1000000000 - nI 1))) (H (erm m 1) ln N)) (hE2 : (∃ s k : Nat, a = nI s ∧ s < 4 ∧ b = nI k ∧ k ≤ 1 ∧ B s = 0) → Q (some (.int (-1000000000 - nI 2))) (H (erm m 2) ln N)) (hY : ∀ s k : Nat, a = nI s → s < 4 → b = nI k → k ≤ 1 → B s ≠ 0 → ∀ x m2, FrT m m2 → Q (some (.int x)) (H m2 ln N)) : WP xs (d + 8) 82 0 0 [.ref (32), .int (a), .int (b)] (H m ln N) Q := by
  refine wp_x mx_82 (L := [some (.ref (32)), some (.int (a)), some (.int (b)), none, none, none]) (Nat.le_of_ble_eq_true rfl) rfl ?_
  obtain ⟨w0, hw01, hw04, hw0⟩ := hW.2.1
  refine g_iload_n m82_0 rfl ?_
  refine g_iconst m82_1 ?_
  refine g_cs (args := [.int (a), .int (3)]) (rest := []) 0 (Or.inl rfl) m82_2 (Nat.le_of_ble_eq_true rfl) rfl rfl (Nat.le_of_ble_eq_true rfl) ?_
  refine c_within (M := 3) rfl (fun ja ea a_1 => ?_) (fun a_1 => ?_)
  · subst ea
    refine gwr ?_
    refine h_if_eqF (xi := 1) (zi := 0) m82_5 rfl rfl (by decide) ?_
    refine g_iload_n m82_8 rfl ?_
    refine g_iconst m82_9 ?_
    refine g_cs (args := [.int (b), .int (1)]) (rest := []) 0 (Or.inl rfl) m82_10 (Nat.le_of_ble_eq_true rfl) rfl rfl (Nat.le_of_ble_eq_true rfl) ?_
    refine c_within (M := 1) rfl (fun jb eb a_2 => ?_) (fun a_2 => ?_)
    · subst eb
      refine gwr ?_
      refine h_if_neF (xi := 1) (zi := 0) m82_13 rfl rfl (by decide) ?_
      refine g_aload_n m82_22 rfl ?_
      refine h_gfR (c := 79) (k := 0) (p := 32) m82_23 rfl (t_0 _ _) rfl (Nat.le_of_ble_eq_true rfl) ?_
      refine g_iload_n m82_26 rfl ?_
      have hs : ja < 4 := by omega
      have hBa := hB ja hs
      refine h_aald (j := ja) (c := 80 + 2 * ja) m82_27 rfl (t_47 _ _) (rfl) (sh_at hs) (le3 (Nat.le_of_ble_eq_true rfl)) (Nat.le_of_ble_eq_true rfl) ?_
      refine g_astore_n (L2 := [some (.ref (32)), some (.int (nI (ja))), some (.int (nI (jb))), some (.ref (80 + 2 * ja)), none, none]) m82_28 rfl rfl ?_
      refine g_aload_n m82_29 rfl ?_
      refine h_gfI (k := 48 + 2 * ja) (p := 80 + 2 * ja) m82_30 (pSo _) (tSo hs) rfl (hBa.2.2.1) ?_
      refine h_if_ne (xi := ((B ja : Nat) : Int)) (zi := 0) m82_33 (nI_toInt (by omega)) rfl (fun c1 => ?_) (fun c1 => ?_)
      · skip
        refine g_aload_n m82_36 rfl ?_
        refine g_iconst m82_37 ?_
        refine h_cv (k := 0) (p := 32) (args := [.int (2)]) (rest := []) m82_38 cn_55 (Nat.le_of_ble_eq_true rfl) rfl rfl rfl (t_0 _ _) (Nat.le_of_ble_eq_true rfl) ?_
        refine c_error (e := 2) (by decide) (by decide) ?_
        refine gwr ?_
        refine g_iret m82_41 rt_82 ?_
        exact hE2 ⟨ja, jb, rfl, by omega, rfl, by omega, by omega⟩
      · skip
        refine g_iload_n m82_42 rfl ?_
        refine g_iconst m82_43 ?_
        refine h_ic_ne (xi := ((jb : Nat) : Int)) (zi := 1) m82_44 (nI_toInt (by omega)) rfl (fun c2 => ?_) (fun c2 => ?_)
        · skip
          refine g_aload_n m82_47 rfl ?_
          refine g_aload_n m82_48 rfl ?_
          refine g_aload_n m82_49 rfl ?_
          refine h_gfR (c := 33) (k := 0) (p := 32) m82_50 rfl (t_0 _ _) rfl (Nat.le_of_ble_eq_true rfl) ?_
          refine h_gfI (k := 1) (p := 33) m82_53 rfl (t_1 _ _) rfl (hw0) ?_
          refine h_cv (k := 0) (p := 32) (args := [.ref (80 + 2 * ja), .int (nI (w0))]) (rest := []) m82_56 cn_81 (Nat.le_of_ble_eq_true rfl) rfl rfl rfl (t_0 _ _) (Nat.le_of_ble_eq_true rfl) ?_
          refine c_told (n := n) (b := B ja) (l := Ln ja) (w := w0) hd hn h01 hW hL hix hiy FrT.rf (show ja < 4 by omega) hBa.1 hBa.2.1 hBa.2.2.1 hBa.2.2.2 (by omega) (by omega) (fun x2 m3 hF3 => ?_)
          refine gwr ?_
          refine g_iret m82_59 rt_82 ?_
          exact hY ja jb rfl (by omega) rfl (by omega) (by omega) _ _ hF3
        · skip
          refine g_iconst m82_60 ?_
          refine g_istore (L2 := [some (.ref (32)), some (.int (nI (ja))), some (.int (nI (jb))), some (.ref (80 + 2 * ja)), some (.int (0)), none]) m82_61 rfl rfl ?_
          refine g_iconst m82_63 ?_
          refine g_istore (L2 := [some (.ref (32)), some (.int (nI (ja))), some (.int (nI (jb))), some (.ref (80 + 2 * ja)), some (.int (0)), some (.int (1))]) m82_64 rfl rfl ?_
          have key : ∀ (r : Nat) (w : Nat) (x : Int32) (m2 : MW), w + r = 5 → 1 ≤ w → FrT m m2 → gw xs (WP xs (d + 7)) 82 Q 66 [some (.ref (32)), some (.int (nI (ja))), some (.int (nI (jb))), some (.ref (80 + 2 * ja)), some (.int (x)), some (.int (nI (w)))] [] (H m2 ln N) 0 0 := by
            intro r
            induction r with
            | zero =>
              intro w x m2 hw hw1 hF
              obtain rfl : w = 5 := by omega
              refine g_iload m82_66 rfl ?_
              refine g_iconst m82_68 ?_
              refine h_ic_gtT (xi := ((5 : Nat) : Int)) (zi := 4) m82_69 (nI_toInt (by omega)) rfl (by omega) ?_
              refine g_iload m82_101 rfl ?_
              refine g_iret m82_103 rt_82 ?_
              exact hY ja jb rfl (by omega) rfl (by omega) (by omega) _ _ hF
            | succ r ih =>
              intro w x m2 hw hw1 hF
              refine g_iload m82_66 rfl ?_
              refine g_iconst m82_68 ?_
              refine h_ic_gtF (xi := ((w : Nat) : Int)) (zi := 4) m82_69 (nI_toInt (by omega)) rfl (by omega) ?_
              refine g_aload_n m82_72 rfl ?_
              refine g_aload_n m82_73 rfl ?_
              refine g_iload m82_74 rfl ?_
              refine h_cv (k := 0) (p := 32) (args := [.ref (80 + 2 * ja), .int (nI (w))]) (rest := []) m82_76 cn_81 (Nat.le_of_ble_eq_true rfl) rfl rfl rfl (t_0 _ _) (Nat.le_of_ble_eq_true rfl) ?_
              refine c_told (n := n) (b := B ja) (l := Ln ja) (w := w) hd hn h01 hW hL hix hiy hF (show ja < 4 by omega) hBa.1 hBa.2.1 hBa.2.2.1 hBa.2.2.2 (by omega) (by omega) (fun x2 m3 hF3 => ?_)
              refine gwr ?_
              refine g_aload_n m82_79 rfl ?_
              refine h_gfI (k := 48 + 2 * ja) (p := 80 + 2 * ja) m82_80 (pSo _) (tSo (show ja < 4 by omega)) rfl ((hF3 _ _ (by omega) (fun z => by rcases z with z | z <;> omega)).trans hBa.2.2.2) ?_
              refine h_ic_ne (xi := _) (zi := ((Ln ja : Nat) : Int)) m82_83 rfl (nI_toInt (by omega)) (fun c3 => ?_) (fun c3 => ?_)
              · skip
                refine g_iload m82_86 rfl ?_
                refine g_iconst m82_88 ?_
                refine g_iload m82_89 rfl ?_
                refine g_ishl m82_91 rfl ?_
                refine g_ior m82_92 rfl ?_
                refine g_istore (L2 := [some (.ref (32)), some (.int (nI (ja))), some (.int (nI (jb))), some (.ref (80 + 2 * ja)), some (.int _), some (.int (nI (w)))]) m82_93 rfl rfl ?_
                refine g_iinc (L2 := [some (.ref (32)), some (.int (nI (ja))), some (.int (nI (jb))), some (.ref (80 + 2 * ja)), some (.int _), some (.int (nI (w + 1)))]) m82_95 rfl (nI_1 _) rfl rfl ?_
                refine g_goto m82_98 ?_
                exact ih (w + 1) _ _ (by omega) (by omega) hF3
              · skip
                refine g_iinc (L2 := [some (.ref (32)), some (.int (nI (ja))), some (.int (nI (jb))), some (.ref (80 + 2 * ja)), some (.int (x)), some (.int (nI (w + 1)))]) m82_95 rfl (nI_1 _) rfl rfl ?_
                refine g_goto m82_98 ?_
                exact ih (w + 1) _ _ (by omega) (by omega) hF3
          exact key 4 1 0 m (by omega) (by omega) FrT.rf
    · skip
      refine gwr ?_
      refine h_if_neT (xi := 0) (zi := 0) m82_13 rfl rfl (by decide) ?_
      refine g_aload_n m82_16 rfl ?_
      refine g_iconst m82_17 ?_
      refine h_cv (k := 0) (p := 32) (args := [.int (1)]) (rest := []) m82_18 cn_55 (Nat.le_of_ble_eq_true rfl) rfl rfl rfl (t_0 _ _) (Nat.le_of_ble_eq_true rfl) ?_
      refine c_error (e := 1) (by decide) (by decide) ?_
      refine gwr ?_
      refine g_iret m82_21 rt_82 ?_
      exact hE1 (by omega)
  · skip
    refine gwr ?_
    refine h_if_eqT (xi := 0) (zi := 0) m82_5 rfl rfl (by decide) ?_
    refine g_aload_n m82_16 rfl ?_
    refine g_iconst m82_17 ?_
    refine h_cv (k := 0) (p := 32) (args := [.int (1)]) (rest := []) m82_18 cn_55 (Nat.le_of_ble_eq_true rfl) rfl rfl rfl (t_0 _ _) (Nat.le_of_ble_eq_true rfl) ?_
    refine c_error (e := 1) (by decide) (by decide) ?_
    refine gwr ?_
    refine g_iret m82_21 rt_82 ?_
    exact hE1 (by omega)
set_option maxRecDepth 20000 in
set_option maxHeartbeats 40000000 in
theorem c_isSoFor {n s l : Nat} (hd : m 58 2 = nI n) (hn : n ≤ 8) (hX0 : TxOk (m 58) 0) (hX1 : TxOk (m 58) 1) (hWY : WF (vr (m 58))) (hs : s < 4) (hl40 : l ≤ 40) (hl : m 64 s = nI l) (hQ : ∀ x m2, FrP m m2 → Q (some (.int x)) (H m2 ln N)) : WP xs (d + 818) 161 0 0 [.ref (89), .int (nI (s))] (H m ln N) Q := by
  refine wp_x mx_161 (L := [some (.ref (89)), some (.int (nI (s))), none]) (Nat.le_of_ble_eq_true rfl) rfl ?_
  refine g_iconst m161_0 ?_
  refine g_istore_n (L2 := [some (.ref (89)), some (.int (nI (s))), some (.int (0))]) m161_1 rfl rfl ?_
  refine g_aload_n m161_2 rfl ?_
  refine g_aload_n m161_3 rfl ?_
  refine h_gfR (c := 90) (k := 57) (p := 89) m161_4 rfl (t_57 _ _) rfl (Nat.le_of_ble_eq_true rfl) ?_
  refine g_aload_n m161_7 rfl ?_
  refine h_gfR (c := 92) (k := 57) (p := 89) m161_8 rfl (t_57 _ _) rfl (Nat.le_of_ble_eq_true rfl) ?_
  refine h_cv (k := 57) (p := 89) (args := [.ref (90), .ref (92)]) (rest := []) m161_11 cn_110 (Nat.le_of_ble_eq_true rfl) rfl rfl rfl (t_57 _ _) (Nat.le_of_ble_eq_true rfl) ?_
  refine c_moveRow (k1 := 58) (k2 := 60) rfl rfl (t_58 _ _) (t_60 _ _) (by decide) ?_
  have h58 : (upmR m 60 (m 58)) 58 = m 58 := thR_58 _ _
  have hAt := thR_A m
  have hX0t : TxOk ((upmR m 60 (m 58)) 58) 0 := by rw [h58]; exact hX0
  have hX1t : TxOk ((upmR m 60 (m 58)) 58) 1 := by rw [h58]; exact hX1
  refine gwr0 ?_
  have key : ∀ (r : Nat) (q : Nat) (m3 Y : MW), q + r = l → AtY (upmR m 60 (m 58)) Y m3 → WF Y → gw xs (WP xs (d + 817)) 161 Q 14 [some (.ref (89)), some (.int (nI (s))), some (.int (nI (q)))] [] (H m3 ln N) 0 0 := by
    intro r
    induction r with
    | zero =>
      intro q m3 Y hq hA hWq
      obtain rfl : q = l := by omega
      refine g_iload_n m161_14 rfl ?_
      refine g_aload_n m161_15 rfl ?_
      refine h_gfR (c := 96) (k := 57) (p := 89) m161_16 rfl (t_57 _ _) rfl (Nat.le_of_ble_eq_true rfl) ?_
      refine g_iload_n m161_19 rfl ?_
      refine h_ial (k := 64) (p := 96) (j := s) m161_20 rfl (t_64 _ _) (rfl) (by omega) (Nat.le_of_ble_eq_true rfl) ((hA.out (by decide) (fun z => by rcases z with z | z <;> omega)).trans ((congrFun (if_neg (by decide)) _).trans hl)) ?_
      refine h_ic_geT (xi := ((q : Nat) : Int)) (zi := ((q : Nat) : Int)) m161_21 (nI_toInt (by omega)) (nI_toInt (by omega)) (by omega) ?_
      refine g_aload_n m161_52 rfl ?_
      refine g_aload_n m161_53 rfl ?_
      refine h_gfR (c := 92) (k := 57) (p := 89) m161_54 rfl (t_57 _ _) rfl (Nat.le_of_ble_eq_true rfl) ?_
      refine g_aload_n m161_57 rfl ?_
      refine h_gfR (c := 90) (k := 57) (p := 89) m161_58 rfl (t_57 _ _) rfl (Nat.le_of_ble_eq_true rfl) ?_
      refine h_cv (k := 57) (p := 89) (args := [.ref (92), .ref (90)]) (rest := []) m161_61 cn_110 (Nat.le_of_ble_eq_true rfl) rfl rfl rfl (t_57 _ _) (Nat.le_of_ble_eq_true rfl) ?_
      refine c_moveRow (k1 := 60) (k2 := 58) rfl rfl (t_60 _ _) (t_58 _ _) (by decide) ?_
      have hFb := FrP.back hA
      refine gwr0 ?_
      refine g_iload_n m161_64 rfl ?_
      refine g_iret m161_65 rt_161 ?_
      exact hQ _ _ hFb
    | succ r ih =>
      intro q m3 Y hq hA hWq
      refine g_iload_n m161_14 rfl ?_
      refine g_aload_n m161_15 rfl ?_
      refine h_gfR (c := 96) (k := 57) (p := 89) m161_16 rfl (t_57 _ _) rfl (Nat.le_of_ble_eq_true rfl) ?_
      refine g_iload_n m161_19 rfl ?_
      refine h_ial (k := 64) (p := 96) (j := s) m161_20 rfl (t_64 _ _) (rfl) (by omega) (Nat.le_of_ble_eq_true rfl) ((hA.out (by decide) (fun z => by rcases z with z | z <;> omega)).trans ((congrFun (if_neg (by decide)) _).trans hl)) ?_
      refine h_ic_geF (xi := ((q : Nat) : Int)) (zi := ((l : Nat) : Int)) m161_21 (nI_toInt (by omega)) (nI_toInt (by omega)) (by omega) ?_
      refine g_aload_n m161_24 rfl ?_
      refine h_cv (k := 57) (p := 89) (args := []) (rest := []) m161_25 cn_143 (Nat.le_of_ble_eq_true rfl) rfl rfl rfl (t_57 _ _) (Nat.le_of_ble_eq_true rfl) ?_
      refine c_servedM hA hX0t hWq (fun m4 hA4 => ?_)
      refine gwr ?_
      refine g_aload_n m161_28 rfl ?_
      refine h_gfR (c := 97) (k := 57) (p := 89) m161_29 rfl (t_57 _ _) rfl (Nat.le_of_ble_eq_true rfl) ?_
      refine g_bipush m161_32 ?_
      refine g_iload_n m161_34 rfl ?_
      refine g_imul (u := nI (40 * s)) m161_35 (pk_mul 40 s) ?_
      refine g_iload_n m161_36 rfl ?_
      refine g_iadd (u := nI ((40 * s) + q)) m161_37 (nI_add (40 * s) q) ?_
      refine h_ial (k := 65) (p := 97) (j := (40 * s) + q) m161_38 rfl (t_65 _ _) (rfl) (by omega) (Nat.le_of_ble_eq_true rfl) (rfl) ?_
      refine h_ic_ne (xi := _) (zi := _) m161_39 rfl rfl (fun c1 => ?_) (fun c1 => ?_)
      · skip
        refine g_aload_n m161_42 rfl ?_
        refine h_cv (k := 57) (p := 89) (args := []) (rest := []) m161_43 cn_145 (Nat.le_of_ble_eq_true rfl) rfl rfl rfl (t_57 _ _) (Nat.le_of_ble_eq_true rfl) ?_
        refine c_oneStep hA4 hX0t hX1t hWq (fun m5 hA5 => ?_)
        refine gwr0 ?_
        refine g_iinc (L2 := [some (.ref (89)), some (.int (nI (s))), some (.int (nI (q + 1)))]) m161_46 rfl (nI_1 _) rfl rfl ?_
        refine g_goto m161_49 ?_
        exact ih (q + 1) _ _ (by omega) hA5 (WF_step hWq)
      · skip
        refine g_aload_n m161_52 rfl ?_
        refine g_aload_n m161_53 rfl ?_
        refine h_gfR (c := 92) (k := 57) (p := 89) m161_54 rfl (t_57 _ _) rfl (Nat.le_of_ble_eq_true rfl) ?_
        refine g_aload_n m161_57 rfl ?_
        refine h_gfR (c := 90) (k := 57) (p := 89) m161_58 rfl (t_57 _ _) rfl (Nat.le_of_ble_eq_true rfl) ?_
        refine h_cv (k := 57) (p := 89) (args := [.ref (92), .ref (90)]) (rest := []) m161_61 cn_110 (Nat.le_of_ble_eq_true rfl) rfl rfl rfl (t_57 _ _) (Nat.le_of_ble_eq_true rfl) ?_
        refine c_moveRow (k1 := 60) (k2 := 58) rfl rfl (t_60 _ _) (t_58 _ _) (by decide) ?_
        have hFb := FrP.back hA4
        refine gwr0 ?_
        refine g_iload_n m161_64 rfl ?_
        refine g_iret m161_65 rt_161 ?_
        exact hQ _ _ hFb
  exact key l 0 _ _ (by omega) hAt hWY
set_option maxRecDepth 20000 in
set_option maxHeartbeats 40000000 in
theorem m_whose {a b : Int32} {n : Nat} {B Ln : Nat → Nat} (hd : m 58 2 = nI n) (hn : n ≤ 8) (hX0 : TxOk (m 58) 0) (hX1 : TxOk (m 58) 1) (hWY : WF (vr (m 58))) (hB : ∀ s, s < 4 → (B s = 0 ∨ B s = 8 ∨ B s = 16 ∨ B s = 32) ∧ Ln s ≤ 40 ∧ m 63 s = nI (B s) ∧ m 64 s = nI (Ln s)) (hE1 : (a.toInt < 0 ∨ 3 < a.toInt ∨ b.toInt < 0 ∨ 1 < b.toInt) → Q (some (.int (-1000000001))) (H (ers m 1) ln N)) (hE2 : (∃ s k : Nat, a = nI s ∧ s < 4 ∧ b = nI k ∧ k ≤ 1 ∧ B s = 0) → Q (some (.int (-1000000002))) (H (ers m 2) ln N)) (hY : ∀ s k : Nat, a = nI s → s < 4 → b = nI k → k ≤ 1 → B s ≠ 0 → ∀ x m2, FrP m m2 → Q (some (.int x)) (H m2 ln N)) : WP xs (d + 819) 162 0 0 [.ref (89), .int (a), .int (b)] (H m ln N) Q := by
  refine wp_x mx_162 (L := [some (.ref (89)), some (.int (a)), some (.int (b)), none, none, none]) (Nat.le_of_ble_eq_true rfl) rfl ?_
  refine g_iload_n m162_0 rfl ?_
  refine g_cs (args := [.int (a)]) (rest := []) 0 (Or.inl rfl) m162_1 (Nat.le_of_ble_eq_true rfl) rfl rfl (Nat.le_of_ble_eq_true rfl) ?_
  refine c_isSheet (fun ja ea a_3 => ?_) (fun a_3 => ?_)
  · subst ea
    refine gwr ?_
    refine h_if_eqF (xi := 1) (zi := 0) m162_4 rfl rfl (by decide) ?_
    refine g_iload_n m162_7 rfl ?_
    refine g_iconst m162_8 ?_
    refine g_iconst m162_9 ?_
    refine g_cs (args := [.int (b), .int (0), .int (1)]) (rest := []) 0 (Or.inl rfl) m162_10 (Nat.le_of_ble_eq_true rfl) rfl rfl (Nat.le_of_ble_eq_true rfl) ?_
    refine c_in (A := 0) (B := 1) rfl rfl (by decide) (fun jb eb a_4 a_4' => ?_) (fun a_4 => ?_)
    · subst eb
      refine gwr ?_
      refine h_if_neF (xi := 1) (zi := 0) m162_13 rfl rfl (by decide) ?_
      refine g_aload_n m162_23 rfl ?_
      refine h_gfR (c := 95) (k := 57) (p := 89) m162_24 rfl (t_57 _ _) rfl (Nat.le_of_ble_eq_true rfl) ?_
      refine g_iload_n m162_27 rfl ?_
      have hs : ja < 4 := by omega
      have hBa := hB ja hs
      refine h_ial (k := 63) (p := 95) (j := ja) m162_28 rfl (t_63 _ _) (rfl) (by omega) (Nat.le_of_ble_eq_true rfl) (hBa.2.2.1) ?_
      refine h_if_ne (xi := ((B ja : Nat) : Int)) (zi := 0) m162_29 (nI_toInt (by omega)) rfl (fun c1 => ?_) (fun c1 => ?_)
      · skip
        refine g_aload_n m162_32 rfl ?_
        refine g_ldci m162_33 rfl ?_
        refine h_cv (k := 57) (p := 89) (args := [.int (-1000000002)]) (rest := []) m162_35 cn_108 (Nat.le_of_ble_eq_true rfl) rfl rfl rfl (t_57 _ _) (Nat.le_of_ble_eq_true rfl) ?_
        refine c_errs (e := 2) (by decide) (by decide) (by decide) ?_
        refine gwr ?_
        refine g_iret m162_38 rt_162 ?_
        exact hE2 ⟨ja, jb, rfl, by omega, rfl, by omega, by omega⟩
      · skip
        refine g_iload_n m162_39 rfl ?_
        refine g_iconst m162_40 ?_
        refine h_ic_ne (xi := ((jb : Nat) : Int)) (zi := 1) m162_41 (nI_toInt (by omega)) rfl (fun c2 => ?_) (fun c2 => ?_)
        · skip
          refine g_aload_n m162_44 rfl ?_
          refine g_iload_n m162_45 rfl ?_
          refine h_cv (k := 57) (p := 89) (args := [.int (nI (ja))]) (rest := []) m162_46 cn_161 (Nat.le_of_ble_eq_true rfl) rfl rfl rfl (t_57 _ _) (Nat.le_of_ble_eq_true rfl) ?_
          refine c_isSoFor (n := n) (l := Ln ja) hd hn hX0 hX1 hWY hs hBa.2.1 hBa.2.2.2 (fun x m3 hF3 => ?_)
          refine gwr ?_
          refine g_iret m162_49 rt_162 ?_
          exact hY ja jb rfl (by omega) rfl (by omega) (by omega) _ _ hF3
        · skip
          refine g_aload_n m162_50 rfl ?_
          refine h_gfR (c := 90) (k := 57) (p := 89) m162_51 rfl (t_57 _ _) rfl (Nat.le_of_ble_eq_true rfl) ?_
          refine g_bipush m162_54 ?_
          refine h_ial (k := 58) (p := 90) (j := 7) m162_56 rfl (t_58 _ _) (rfl) (by omega) (Nat.le_of_ble_eq_true rfl) (rfl) ?_
          refine g_istore_n (L2 := [some (.ref (89)), some (.int (nI (ja))), some (.int (nI (jb))), some (.int (m (58) (7))), none, none]) m162_57 rfl rfl ?_
          refine g_iconst m162_58 ?_
          refine g_istore (L2 := [some (.ref (89)), some (.int (nI (ja))), some (.int (nI (jb))), some (.int (m (58) (7))), some (.int (0)), none]) m162_59 rfl rfl ?_
          refine g_iconst m162_61 ?_
          refine g_istore (L2 := [some (.ref (89)), some (.int (nI (ja))), some (.int (nI (jb))), some (.int (m (58) (7))), some (.int (0)), some (.int (1))]) m162_62 rfl rfl ?_
          have key : ∀ (r : Nat) (w : Nat) (x y : Int32) (m2 : MW), w + r = 5 → 1 ≤ w → FrP (upm m 58 7 y) m2 → gw xs (WP xs (d + 818)) 162 Q 64 [some (.ref (89)), some (.int (nI (ja))), some (.int (nI (jb))), some (.int (m 58 7)), some (.int (x)), some (.int (nI (w)))] [] (H m2 ln N) 0 0 := by
            intro r
            induction r with
            | zero =>
              intro w x y m2 hw hw1 hF
              obtain rfl : w = 5 := by omega
              refine g_iload m162_64 rfl ?_
              refine g_iconst m162_66 ?_
              refine h_ic_gtT (xi := ((5 : Nat) : Int)) (zi := 4) m162_67 (nI_toInt (by omega)) rfl (by omega) ?_
              refine g_aload_n m162_112 rfl ?_
              refine h_gfR (c := 90) (k := 57) (p := 89) m162_113 rfl (t_57 _ _) rfl (Nat.le_of_ble_eq_true rfl) ?_
              refine g_bipush m162_116 ?_
              refine g_iload_n m162_118 rfl ?_
              refine h_ias (k := 58) (p := 90) (j := 7) m162_119 rfl (t_58 _ _) (rfl) (by omega) (Nat.le_of_ble_eq_true rfl) ?_
              refine g_iload m162_120 rfl ?_
              refine g_iret m162_122 rt_162 ?_
              have h9 := hF.u7 (m 58 7)
              rw [upm_id] at h9
              exact hY ja jb rfl (by omega) rfl (by omega) (by omega) _ _ h9
            | succ r ih =>
              intro w x y m2 hw hw1 hF
              refine g_iload m162_64 rfl ?_
              refine g_iconst m162_66 ?_
              refine h_ic_gtF (xi := ((w : Nat) : Int)) (zi := 4) m162_67 (nI_toInt (by omega)) rfl (by omega) ?_
              refine g_aload_n m162_70 rfl ?_
              refine h_gfR (c := 90) (k := 57) (p := 89) m162_71 rfl (t_57 _ _) rfl (Nat.le_of_ble_eq_true rfl) ?_
              refine g_bipush m162_74 ?_
              refine g_iload m162_76 rfl ?_
              refine h_ias (k := 58) (p := 90) (j := 7) m162_78 rfl (t_58 _ _) (rfl) (by omega) (Nat.le_of_ble_eq_true rfl) ?_
              refine g_iload m162_79 rfl ?_
              refine g_aload_n m162_81 rfl ?_
              refine g_iload_n m162_82 rfl ?_
              refine h_cv (k := 57) (p := 89) (args := [.int (nI (ja))]) (rest := [.int (x)]) m162_83 cn_161 (Nat.le_of_ble_eq_true rfl) rfl rfl rfl (t_57 _ _) (Nat.le_of_ble_eq_true rfl) ?_
              have hF7 := hF.u7 (nI w)
              have e58 : (upm m2 58 7 (nI w)) 58 = upm m 58 7 (nI w) 58 := hF7.row
              refine c_isSoFor (n := n) (l := Ln ja) (by rw [e58]; exact (upm_j _ _ (by decide)).trans hd) hn (by rw [e58]; exact hX0.up7 (by decide)) (by rw [e58]; exact hX1.up7 (by decide)) (by rw [e58]; exact WF_c vr_7 (WF_w hWY (by omega) (by omega))) hs hBa.2.1 ((hF7 64 ja (by omega) (fun z => by rcases z with z | z <;> omega)).trans ((upm_k _ _ (by decide)).trans hBa.2.2.2)) (fun x2 m3 hF3 => ?_)
              have hF4 := hF7.tr hF3
              refine gwr ?_
              refine g_aload_n m162_86 rfl ?_
              refine h_gfR (c := 96) (k := 57) (p := 89) m162_87 rfl (t_57 _ _) rfl (Nat.le_of_ble_eq_true rfl) ?_
              refine g_iload_n m162_90 rfl ?_
              refine h_ial (k := 64) (p := 96) (j := ja) m162_91 rfl (t_64 _ _) (rfl) (by omega) (Nat.le_of_ble_eq_true rfl) ((hF4 64 ja (by omega) (fun z => by rcases z with z | z <;> omega)).trans ((upm_k _ _ (by decide)).trans hBa.2.2.2)) ?_
              refine h_ic_ne (xi := _) (zi := ((Ln ja : Nat) : Int)) m162_92 rfl (nI_toInt (by omega)) (fun c3 => ?_) (fun c3 => ?_)
              · skip
                refine g_iconst m162_95 ?_
                refine g_iload m162_96 rfl ?_
                refine g_ishl m162_98 rfl ?_
                refine g_goto m162_99 ?_
                refine g_ior m162_103 rfl ?_
                refine g_istore (L2 := [some (.ref (89)), some (.int (nI (ja))), some (.int (nI (jb))), some (.int (m 58 7)), some (.int _), some (.int (nI (w)))]) m162_104 rfl rfl ?_
                refine g_iinc (L2 := [some (.ref (89)), some (.int (nI (ja))), some (.int (nI (jb))), some (.int (m 58 7)), some (.int _), some (.int (nI (w + 1)))]) m162_106 rfl (nI_1 _) rfl rfl ?_
                refine g_goto m162_109 ?_
                exact ih (w + 1) _ _ _ (by omega) (by omega) hF4
              · skip
                refine g_iconst m162_102 ?_
                refine g_ior m162_103 rfl ?_
                refine g_istore (L2 := [some (.ref (89)), some (.int (nI (ja))), some (.int (nI (jb))), some (.int (m 58 7)), some (.int ((x ||| (0 : Int32)))), some (.int (nI (w)))]) m162_104 rfl rfl ?_
                refine g_iinc (L2 := [some (.ref (89)), some (.int (nI (ja))), some (.int (nI (jb))), some (.int (m 58 7)), some (.int ((x ||| (0 : Int32)))), some (.int (nI (w + 1)))]) m162_106 rfl (nI_1 _) rfl rfl ?_
                refine g_goto m162_109 ?_
                exact ih (w + 1) _ _ _ (by omega) (by omega) hF4
          exact key 4 1 0 (m 58 7) m (by omega) (by omega) (by rw [upm_id]; exact FrP.rf)
    · skip
      refine gwr ?_
      refine h_if_neT (xi := 0) (zi := 0) m162_13 rfl rfl (by decide) ?_
      refine g_aload_n m162_16 rfl ?_
      refine g_ldci m162_17 rfl ?_
      refine h_cv (k := 57) (p := 89) (args := [.int (-1000000001)]) (rest := []) m162_19 cn_108 (Nat.le_of_ble_eq_true rfl) rfl rfl rfl (t_57 _ _) (Nat.le_of_ble_eq_true rfl) ?_
      refine c_errs (e := 1) (by decide) (by decide) (by decide) ?_
      refine gwr ?_
      refine g_iret m162_22 rt_162 ?_
      exact hE1 (by omega)
  · skip
    refine gwr ?_
    refine h_if_eqT (xi := 0) (zi := 0) m162_4 rfl rfl (by decide) ?_
    refine g_aload_n m162_16 rfl ?_
    refine g_ldci m162_17 rfl ?_
    refine h_cv (k := 57) (p := 89) (args := [.int (-1000000001)]) (rest := []) m162_19 cn_108 (Nat.le_of_ble_eq_true rfl) rfl rfl rfl (t_57 _ _) (Nat.le_of_ble_eq_true rfl) ?_
    refine c_errs (e := 1) (by decide) (by decide) (by decide) ?_
    refine gwr ?_
    refine g_iret m162_22 rt_162 ?_
    exact hE1 (by omega)
end
end
section
/-! BYTES FED -/
def byF (w : Int64) (i : Nat) : Nat := w.toBitVec.toNat / 2 ^ (8 * i) % 256
theorem sl64 : ∀ i, i < 8 → ((((nI (8 * i)).toInt64.toUInt64 &&& Int64.toUInt64 63)).toBitVec % 64).toNat = 8 * i := by decide +kernel
theorem sl64s : ∀ i, i < 8 → ((nI (8 * i)).toInt64 &&& 63).toBitVec.smod 64 = BitVec.ofNat 64 (8 * i) := by decide +kernel
theorem byC (w : Int64) (i : Nat) (hi : i < 8) : ((w.toUInt64 >>> ((nI (8 * i)).toInt64.toUInt64 &&& Int64.toUInt64 63)).toInt64).toInt32 &&& 255 = nI (byF w i) := by
  refine Int32.toBitVec_inj.mp (BitVec.eq_of_getLsbD_eq ?_)
  intro j hj
  show (((w.toBitVec >>> ((((nI (8 * i)).toInt64.toUInt64 &&& Int64.toUInt64 63)).toBitVec % 64)).signExtend 32) &&& 255#32).getLsbD j = (BitVec.ofNat 32 (byF w i)).getLsbD j
  have h255 : (255#32).getLsbD j = decide (j < 8) := by
    rw [BitVec.getLsbD_ofNat, show 255 = 2 ^ 8 - 1 from rfl, Nat.testBit_two_pow_sub_one]
    simp [hj]
  rw [BitVec.getLsbD_and, h255, BitVec.getLsbD_signExtend, BitVec.ushiftRight_eq', BitVec.getLsbD_ushiftRight, sl64 i hi, BitVec.getLsbD_ofNat]
  unfold byF
  rw [show 256 = 2 ^ 8 from rfl, Nat.testBit_mod_two_pow, Nat.testBit_div_two_pow]
  simp [hj, BitVec.getLsbD, show j < 64 by omega, Bool.and_comm, Nat.add_comm]
theorem byM (w : Int64) (i : Nat) (hi : i < 8) : ((w >>> ((nI (8 * i)).toInt64 &&& 63)) &&& Int64.ofNat 255).toInt32 = nI (byF w i) := by
  refine Int32.toBitVec_inj.mp (BitVec.eq_of_getLsbD_eq ?_)
  intro j hj
  show (((w.toBitVec.sshiftRight' (((nI (8 * i)).toInt64 &&& 63).toBitVec.smod 64)) &&& 255#64).signExtend 32).getLsbD j = (BitVec.ofNat 32 (byF w i)).getLsbD j
  have h255 : (255#64).getLsbD j = decide (j < 8) := by
    rw [BitVec.getLsbD_ofNat, show 255 = 2 ^ 8 - 1 from rfl, Nat.testBit_two_pow_sub_one]
    simp [show j < 64 by omega]
  rw [sl64s i hi, BitVec.getLsbD_signExtend, BitVec.getLsbD_and, h255, BitVec.getLsbD_ofNat]
  have e : (BitVec.ofNat 64 (8 * i)).toNat = 8 * i := by rw [BitVec.toNat_ofNat]; omega
  unfold byF
  rw [show 256 = 2 ^ 8 from rfl, Nat.testBit_mod_two_pow, Nat.testBit_div_two_pow]
  unfold BitVec.sshiftRight'
  rw [e, BitVec.getLsbD_sshiftRight]
  by_cases h8 : j < 8
  · simp [hj, BitVec.getLsbD, h8, show j < 64 by omega, show ¬ 64 ≤ j by omega, Nat.add_comm]
    intro h
    omega
  · simp [h8]
    intro h1 h2
    omega
theorem byF_lt (w : Int64) (i : Nat) : byF w i < 256 := Nat.mod_lt _ (by decide)
def fdM (m : MW) (f : Nat) (w : Int64) : Nat → MW
  | 0 => m
  | q + 1 => upm (upm (fdM m f w q) 38 (f + q) (nI (byF w q))) 37 2 (nI (f + q + 1))
theorem fdM_f {m : MW} {f : Nat} {w : Int64} (h : m 37 2 = nI f) : ∀ q, fdM m f w q 37 2 = nI (f + q)
  | 0 => h
  | q + 1 => upm_self _ _ _ _
def fdR (m : MW) (f : Nat) (w : Int64) : Nat → MW
  | 0 => m
  | q + 1 => upm (upm (fdR m f w q) 58 (64 + (f + q)) (nI (byF w q))) 58 3 (nI (f + q + 1))
theorem fdR_f {m : MW} {f : Nat} {w : Int64} (h : m 58 3 = nI f) : ∀ q, fdR m f w q 58 3 = nI (f + q)
  | 0 => h
  | q + 1 => upm_self _ _ _ _
section
variable {xs : List Int32} {d : Nat} {h : AH} {Q : QT} {m : MW} {ln : Nat → Nat} {N : Nat}
set_option maxRecDepth 20000 in
set_option maxHeartbeats 40000000 in
theorem x_feed {w : Int64} {v : Int32} {f : Nat} (hf : m 37 2 = nI f) (hf50 : f ≤ 50) (hE1 : (v.toInt < 1 ∨ 8 < v.toInt) → Q (some (.int (-1000000000 - nI 1))) (H (erm m 1) ln N)) (hE4 : (∃ k : Nat, v = nI k ∧ k ≤ 8 ∧ 50 < f + k) → Q (some (.int (-1000000000 - nI 4))) (H (erm m 4) ln N)) (hY : ∀ k : Nat, v = nI k → 1 ≤ k → k ≤ 8 → f + k ≤ 50 → Q (some (.int (nI (f + k)))) (H (fdM m f w k) ln N)) : WP xs (d + 2) 67 0 0 [.ref (32), .long w, .int (v)] (H m ln N) Q := by
  refine wp_x mx_67 (L := [some (.ref (32)), some (.long w), none, some (.int (v)), none]) (Nat.le_of_ble_eq_true rfl) rfl ?_
  by_cases hv : v.toInt < 1 ∨ 8 < v.toInt
  · skip
    refine g_iload_n m67_0 rfl ?_
    refine g_iconst m67_1 ?_
    refine h_ic_lt (xi := v.toInt) (zi := 1) m67_2 rfl rfl (fun c1 => ?_) (fun c1 => ?_)
    · skip
      refine g_aload_n m67_11 rfl ?_
      refine g_iconst m67_12 ?_
      refine h_cv (k := 0) (p := 32) (args := [.int (1)]) (rest := []) m67_13 cn_55 (Nat.le_of_ble_eq_true rfl) rfl rfl rfl (t_0 _ _) (Nat.le_of_ble_eq_true rfl) ?_
      refine c_error (e := 1) (by decide) (by decide) ?_
      refine gwr ?_
      refine g_iret m67_16 rt_67 ?_
      exact hE1 (by omega)
    · skip
      refine g_iload_n m67_5 rfl ?_
      refine g_bipush m67_6 ?_
      refine h_ic_le (xi := v.toInt) (zi := 8) m67_8 rfl rfl (fun c2 => ?_) (fun c2 => ?_)
      · skip
        exfalso
        omega
      · skip
        refine g_aload_n m67_11 rfl ?_
        refine g_iconst m67_12 ?_
        refine h_cv (k := 0) (p := 32) (args := [.int (1)]) (rest := []) m67_13 cn_55 (Nat.le_of_ble_eq_true rfl) rfl rfl rfl (t_0 _ _) (Nat.le_of_ble_eq_true rfl) ?_
        refine c_error (e := 1) (by decide) (by decide) ?_
        refine gwr ?_
        refine g_iret m67_16 rt_67 ?_
        exact hE1 (by omega)
  · skip
    obtain ⟨k, ⟨hk1, hk2⟩, hk3⟩ := nat_of (x := v) (lo := 1) (hi := 8) (by omega) (by omega)
    obtain rfl : v = nI k := hk3
    have ek : (nI k).toInt = (k : Int) := nI_toInt (by omega)
    refine g_iload_n m67_0 rfl ?_
    refine g_iconst m67_1 ?_
    refine h_ic_ltF (xi := ((k : Nat) : Int)) (zi := 1) m67_2 (nI_toInt (by omega)) rfl (by omega) ?_
    refine g_iload_n m67_5 rfl ?_
    refine g_bipush m67_6 ?_
    refine h_ic_leT (xi := ((k : Nat) : Int)) (zi := 8) m67_8 (nI_toInt (by omega)) rfl (by omega) ?_
    refine g_aload_n m67_17 rfl ?_
    refine h_gfR (c := 69) (k := 0) (p := 32) m67_18 rfl (t_0 _ _) rfl (Nat.le_of_ble_eq_true rfl) ?_
    refine h_gfI (k := 37) (p := 69) m67_21 rfl (t_37 _ _) rfl (hf) ?_
    refine g_bipush m67_24 ?_
    refine g_iload_n m67_26 rfl ?_
    refine g_isub (u := nI (50 - k)) m67_27 (pk_sub (a := 50) (b := k) (by omega)) ?_
    refine h_ic_le (xi := ((f : Nat) : Int)) (zi := ((50 - k : Nat) : Int)) m67_28 (nI_toInt (by omega)) (nI_toInt (by omega)) (fun c3 => ?_) (fun c3 => ?_)
    · skip
      refine g_iconst m67_37 ?_
      refine g_istore (L2 := [some (.ref (32)), some (.long w), none, some (.int (nI (k))), some (.int (0))]) m67_38 rfl rfl ?_
      have key : ∀ (r : Nat) (q : Nat), q + r = k → gw xs (WP xs (d + 1)) 67 Q 40 [some (.ref (32)), some (.long w), none, some (.int (nI (k))), some (.int (nI (q)))] [] (H (fdM m f w q) ln N) 0 0 := by
        intro r
        induction r with
        | zero =>
          intro q hq
          obtain rfl : q = k := by omega
          refine g_iload m67_40 rfl ?_
          refine g_iload_n m67_42 rfl ?_
          refine h_ic_geT (xi := ((q : Nat) : Int)) (zi := ((q : Nat) : Int)) m67_43 (nI_toInt (by omega)) (nI_toInt (by omega)) (by omega) ?_
          refine g_aload_n m67_92 rfl ?_
          refine h_gfR (c := 69) (k := 0) (p := 32) m67_93 rfl (t_0 _ _) rfl (Nat.le_of_ble_eq_true rfl) ?_
          refine h_gfI (k := 37) (p := 69) m67_96 rfl (t_37 _ _) rfl (fdM_f hf q) ?_
          refine g_iret m67_99 rt_67 ?_
          exact hY q rfl (by omega) (by omega) (by omega)
        | succ r ih =>
          intro q hq
          refine g_iload m67_40 rfl ?_
          refine g_iload_n m67_42 rfl ?_
          refine h_ic_geF (xi := ((q : Nat) : Int)) (zi := ((k : Nat) : Int)) m67_43 (nI_toInt (by omega)) (nI_toInt (by omega)) (by omega) ?_
          refine g_aload_n m67_46 rfl ?_
          refine h_gfR (c := 69) (k := 0) (p := 32) m67_47 rfl (t_0 _ _) rfl (Nat.le_of_ble_eq_true rfl) ?_
          refine h_gfR (c := 70) (k := 37) (p := 69) m67_50 rfl (t_37 _ _) rfl (Nat.le_of_ble_eq_true rfl) ?_
          refine g_aload_n m67_53 rfl ?_
          refine h_gfR (c := 69) (k := 0) (p := 32) m67_54 rfl (t_0 _ _) rfl (Nat.le_of_ble_eq_true rfl) ?_
          refine h_gfI (k := 37) (p := 69) m67_57 rfl (t_37 _ _) rfl (fdM_f hf q) ?_
          refine g_lload_n m67_60 rfl ?_
          refine g_bipush m67_61 ?_
          refine g_iload m67_63 rfl ?_
          refine g_imul (u := nI (8 * q)) m67_65 (pk_mul 8 q) ?_
          refine g_lushr m67_66 ?_
          refine g_l2i m67_67 ?_
          refine g_sipush m67_68 ?_
          refine g_iand (u := nI (byF w q)) m67_71 (byC w q (by omega)) ?_
          refine h_ias (k := 38) (p := 70) (j := f + q) m67_72 rfl (t_38 _ _) (rfl) (by omega) (Nat.le_of_ble_eq_true rfl) ?_
          refine g_aload_n m67_73 rfl ?_
          refine h_gfR (c := 69) (k := 0) (p := 32) m67_74 rfl (t_0 _ _) rfl (Nat.le_of_ble_eq_true rfl) ?_
          refine g_dup m67_77 rfl ?_
          refine h_gfI (k := 37) (p := 69) m67_78 rfl (t_37 _ _) rfl ((upm_k _ _ (by decide)).trans (fdM_f hf q)) ?_
          refine g_iconst m67_81 ?_
          refine g_iadd (u := nI ((f + q) + 1)) m67_82 (nI_add (f + q) 1) ?_
          refine h_pfI (k := 37) (p := 69) m67_83 rfl (t_37 _ _) rfl trivial ?_
          refine g_iinc (L2 := [some (.ref (32)), some (.long w), none, some (.int (nI (k))), some (.int (nI (q + 1)))]) m67_86 rfl (nI_1 _) rfl rfl ?_
          refine g_goto m67_89 ?_
          exact ih (q + 1) (by omega)
      exact key k 0 (by omega)
    · skip
      refine g_aload_n m67_31 rfl ?_
      refine g_iconst m67_32 ?_
      refine h_cv (k := 0) (p := 32) (args := [.int (4)]) (rest := []) m67_33 cn_55 (Nat.le_of_ble_eq_true rfl) rfl rfl rfl (t_0 _ _) (Nat.le_of_ble_eq_true rfl) ?_
      refine c_error (e := 4) (by decide) (by decide) ?_
      refine gwr ?_
      refine g_iret m67_36 rt_67 ?_
      exact hE4 ⟨k, rfl, by omega, by omega⟩
set_option maxRecDepth 20000 in
set_option maxHeartbeats 40000000 in
theorem m_feed {w : Int64} {v : Int32} {f : Nat} (hf : m 58 3 = nI f) (hf50 : f ≤ 50) (hE1 : (v.toInt < 1 ∨ 8 < v.toInt) → Q (some (.int (-1000000001))) (H (ers m 1) ln N)) (hE4 : (∃ k : Nat, v = nI k ∧ k ≤ 8 ∧ 50 < f + k) → Q (some (.int (-1000000004))) (H (ers m 4) ln N)) (hY : ∀ k : Nat, v = nI k → 1 ≤ k → k ≤ 8 → f + k ≤ 50 → Q (some (.int (nI (f + k)))) (H (fdR m f w k) ln N)) : WP xs (d + 2) 139 0 0 [.ref (89), .long w, .int (v)] (H m ln N) Q := by
  refine wp_x mx_139 (L := [some (.ref (89)), some (.long w), none, some (.int (v)), none]) (Nat.le_of_ble_eq_true rfl) rfl ?_
  refine g_iload_n m139_0 rfl ?_
  refine g_iconst m139_1 ?_
  refine g_bipush m139_2 ?_
  refine g_cs (args := [.int (v), .int (1), .int (8)]) (rest := []) 0 (Or.inl rfl) m139_4 (Nat.le_of_ble_eq_true rfl) rfl rfl (Nat.le_of_ble_eq_true rfl) ?_
  refine c_in (A := 1) (B := 8) rfl rfl (by decide) (fun jv ev a_1 a_1' => ?_) (fun a_1 => ?_)
  · subst ev
    refine gwr ?_
    refine h_if_neF (xi := 1) (zi := 0) m139_7 rfl rfl (by decide) ?_
    refine g_aload_n m139_17 rfl ?_
    refine h_gfR (c := 90) (k := 57) (p := 89) m139_18 rfl (t_57 _ _) rfl (Nat.le_of_ble_eq_true rfl) ?_
    refine g_iconst m139_21 ?_
    refine h_ial (k := 58) (p := 90) (j := 3) m139_22 rfl (t_58 _ _) (rfl) (by omega) (Nat.le_of_ble_eq_true rfl) (hf) ?_
    refine g_iload_n m139_23 rfl ?_
    refine g_iadd (u := nI (f + jv)) m139_24 (nI_add f jv) ?_
    refine g_bipush m139_25 ?_
    refine h_ic_le (xi := ((f + jv : Nat) : Int)) (zi := 50) m139_27 (nI_toInt (by omega)) rfl (fun c1 => ?_) (fun c1 => ?_)
    · skip
      refine g_iconst m139_37 ?_
      refine g_istore (L2 := [some (.ref (89)), some (.long w), none, some (.int (nI (jv))), some (.int (0))]) m139_38 rfl rfl ?_
      have key : ∀ (r : Nat) (q : Nat), q + r = jv → gw xs (WP xs (d + 1)) 139 Q 40 [some (.ref (89)), some (.long w), none, some (.int (nI (jv))), some (.int (nI (q)))] [] (H (fdR m f w q) ln N) 0 0 := by
        intro r
        induction r with
        | zero =>
          intro q hq
          obtain rfl : q = jv := by omega
          refine g_iload m139_40 rfl ?_
          refine g_iload_n m139_42 rfl ?_
          refine h_ic_geT (xi := ((q : Nat) : Int)) (zi := ((q : Nat) : Int)) m139_43 (nI_toInt (by omega)) (nI_toInt (by omega)) (by omega) ?_
          refine g_aload_n m139_88 rfl ?_
          refine h_gfR (c := 90) (k := 57) (p := 89) m139_89 rfl (t_57 _ _) rfl (Nat.le_of_ble_eq_true rfl) ?_
          refine g_iconst m139_92 ?_
          refine h_ial (k := 58) (p := 90) (j := 3) m139_93 rfl (t_58 _ _) (rfl) (by omega) (Nat.le_of_ble_eq_true rfl) (fdR_f hf q) ?_
          refine g_iret m139_94 rt_139 ?_
          exact hY q rfl (by omega) (by omega) (by omega)
        | succ r ih =>
          intro q hq
          refine g_iload m139_40 rfl ?_
          refine g_iload_n m139_42 rfl ?_
          refine h_ic_geF (xi := ((q : Nat) : Int)) (zi := ((jv : Nat) : Int)) m139_43 (nI_toInt (by omega)) (nI_toInt (by omega)) (by omega) ?_
          refine g_aload_n m139_46 rfl ?_
          refine h_gfR (c := 90) (k := 57) (p := 89) m139_47 rfl (t_57 _ _) rfl (Nat.le_of_ble_eq_true rfl) ?_
          refine g_bipush m139_50 ?_
          refine g_aload_n m139_52 rfl ?_
          refine h_gfR (c := 90) (k := 57) (p := 89) m139_53 rfl (t_57 _ _) rfl (Nat.le_of_ble_eq_true rfl) ?_
          refine g_iconst m139_56 ?_
          refine h_ial (k := 58) (p := 90) (j := 3) m139_57 rfl (t_58 _ _) (rfl) (by omega) (Nat.le_of_ble_eq_true rfl) (fdR_f hf q) ?_
          refine g_iadd (u := nI (64 + (f + q))) m139_58 (nI_add 64 (f + q)) ?_
          refine g_lload_n m139_59 rfl ?_
          refine g_bipush m139_60 ?_
          refine g_iload m139_62 rfl ?_
          refine g_imul (u := nI (8 * q)) m139_64 (pk_mul 8 q) ?_
          refine g_lshr m139_65 ?_
          refine g_ldc2 m139_66 ?_
          refine g_land m139_69 ?_
          refine g_l2i m139_70 ?_
          rw [byM w q (by omega)]
          refine h_ias (k := 58) (p := 90) (j := 64 + (f + q)) m139_71 rfl (t_58 _ _) (rfl) (by omega) (Nat.le_of_ble_eq_true rfl) ?_
          refine g_aload_n m139_72 rfl ?_
          refine h_gfR (c := 90) (k := 57) (p := 89) m139_73 rfl (t_57 _ _) rfl (Nat.le_of_ble_eq_true rfl) ?_
          refine g_iconst m139_76 ?_
          refine g_dup2 m139_77 rfl rfl ?_
          refine h_ial (k := 58) (p := 90) (j := 3) m139_78 rfl (t_58 _ _) (rfl) (by omega) (Nat.le_of_ble_eq_true rfl) ((upm_j _ _ (by omega)).trans (fdR_f hf q)) ?_
          refine g_iconst m139_79 ?_
          refine g_iadd (u := nI ((f + q) + 1)) m139_80 (nI_add (f + q) 1) ?_
          refine h_ias (k := 58) (p := 90) (j := 3) m139_81 rfl (t_58 _ _) (rfl) (by omega) (Nat.le_of_ble_eq_true rfl) ?_
          refine g_iinc (L2 := [some (.ref (89)), some (.long w), none, some (.int (nI (jv))), some (.int (nI (q + 1)))]) m139_82 rfl (nI_1 _) rfl rfl ?_
          refine g_goto m139_85 ?_
          exact ih (q + 1) (by omega)
      exact key jv 0 (by omega)
    · skip
      refine g_aload_n m139_30 rfl ?_
      refine g_ldci m139_31 rfl ?_
      refine h_cv (k := 57) (p := 89) (args := [.int (-1000000004)]) (rest := []) m139_33 cn_108 (Nat.le_of_ble_eq_true rfl) rfl rfl rfl (t_57 _ _) (Nat.le_of_ble_eq_true rfl) ?_
      refine c_errs (e := 4) (by decide) (by decide) (by decide) ?_
      refine gwr ?_
      refine g_iret m139_36 rt_139 ?_
      exact hE4 ⟨jv, rfl, by omega, by omega⟩
  · skip
    refine gwr ?_
    refine h_if_neT (xi := 0) (zi := 0) m139_7 rfl rfl (by decide) ?_
    refine g_aload_n m139_10 rfl ?_
    refine g_ldci m139_11 rfl ?_
    refine h_cv (k := 57) (p := 89) (args := [.int (-1000000001)]) (rest := []) m139_13 cn_108 (Nat.le_of_ble_eq_true rfl) rfl rfl rfl (t_57 _ _) (Nat.le_of_ble_eq_true rfl) ?_
    refine c_errs (e := 1) (by decide) (by decide) (by decide) ?_
    refine gwr ?_
    refine g_iret m139_16 rt_139 ?_
    exact hE1 (by omega)
end
end
section
/-! A TEXT: the reference -/
def cpT (m : MW) (c : Nat) : Nat → MW
  | 0 => m
  | q + 1 => upm (cpT m c q) 58 (c + q) (m 58 (64 + q))
theorem cpT_o (m : MW) (c : Nat) {k : Nat} (h : k ≠ 58) : ∀ q, cpT m c q k = m k
  | 0 => rfl
  | q + 1 => (row_up _ _ h).trans (cpT_o m c h q)
theorem cpT_j (m : MW) {c j : Nat} (h : j < c) : ∀ q, cpT m c q 58 j = m 58 j
  | 0 => rfl
  | q + 1 => (upm_j _ _ (by omega)).trans (cpT_j m h q)
theorem cpT_r (m : MW) (c : Nat) {j : Nat} : ∀ q, j < q → cpT m c q 58 (c + j) = m 58 (64 + j)
  | 0, h => absurd h (Nat.not_lt_zero j)
  | q + 1, h => by
    show upm (cpT m c q) 58 (c + q) (m 58 (64 + q)) 58 (c + j) = m 58 (64 + j)
    by_cases e : j = q
    · subst e
      exact upm_self _ _ _ _
    · rw [upm_j _ _ (by omega)]
      exact cpT_r m c q (by omega)
/-- the text laid into its place, before it is walked -/
def txM (m : MW) (u f : Nat) : MW := upm (cpT (upmR m 61 (m 58)) (134 + 50 * u) 50) 58 (5 + u) (nI f)
theorem txM_t {m : MW} {u f j : Nat} (hu : u ≤ 1) (hj : j < 50) : BT (txM m u f) u j = m 58 (64 + j) := by
  show upm (cpT (upmR m 61 (m 58)) (134 + 50 * u) 50) 58 (5 + u) (nI f) 58 (134 + 50 * u + j) = m 58 (64 + j)
  rw [upm_j _ _ (by omega), cpT_r _ _ 50 hj]
  rfl
theorem txM_o {m : MW} {u f k : Nat} (h : k ≠ 58) (h2 : k ≠ 61) : txM m u f k = m k := (row_up _ _ h).trans ((cpT_o _ _ h 50).trans (if_neg h2))
theorem txM_61 {m : MW} {u f : Nat} : txM m u f 61 = m 58 := (row_up _ _ (by decide)).trans ((cpT_o _ _ (by decide) 50).trans (if_pos rfl))
section
variable {xs : List Int32} {d : Nat} {h : AH} {Q : QT} {m : MW} {ln : Nat → Nat} {N : Nat}
set_option maxRecDepth 20000 in
set_option maxHeartbeats 40000000 in
theorem m_text {v : Int32} {f : Nat} (hf : m 58 3 = nI f) (hf50 : f ≤ 50) (hTap : ∀ j, j < 50 → leI (m 58 (64 + j)) 255) (hE1 : (v.toInt < 0 ∨ 1 < v.toInt) → Q (some (.int (-1000000001))) (H (ers m 1) ln N)) (hN : ∀ u : Nat, v = nI u → u ≤ 1 → ¬ ((TR (BT (txM m u f) u) f u).2.2 = true ∧ (TR (BT (txM m u f) u) f u).2.1 = f) → ∀ m2, (∀ k j, k ≠ 61 → ¬ minor k j → m2 k j = m k j) → Q (some (.int (-10 - nI (TR (BT (txM m u f) u) f u).2.1))) (H (upm m2 58 3 0) ln N)) (hY : ∀ u : Nat, v = nI u → u ≤ 1 → (TR (BT (txM m u f) u) f u).2.2 = true ∧ (TR (BT (txM m u f) u) f u).2.1 = f → ∀ m2, EqM (txM m u f) m2 → Q (some (.int 1)) (H (upm m2 58 3 0) ln N)) : WP xs (d + 811) 140 0 0 [.ref (89), .int (v)] (H m ln N) Q := by
  refine wp_x mx_140 (L := [some (.ref (89)), some (.int (v)), none, none, none]) (Nat.le_of_ble_eq_true rfl) rfl ?_
  refine g_iload_n m140_0 rfl ?_
  refine g_iconst m140_1 ?_
  refine g_iconst m140_2 ?_
  refine g_cs (args := [.int (v), .int (0), .int (1)]) (rest := []) 0 (Or.inl rfl) m140_3 (Nat.le_of_ble_eq_true rfl) rfl rfl (Nat.le_of_ble_eq_true rfl) ?_
  refine c_in (A := 0) (B := 1) rfl rfl (by decide) (fun jv ev a_1 a_1' => ?_) (fun a_1 => ?_)
  · subst ev
    refine gwr ?_
    refine h_if_neF (xi := 1) (zi := 0) m140_6 rfl rfl (by decide) ?_
    refine g_aload_n m140_16 rfl ?_
    refine g_aload_n m140_17 rfl ?_
    refine h_gfR (c := 90) (k := 57) (p := 89) m140_18 rfl (t_57 _ _) rfl (Nat.le_of_ble_eq_true rfl) ?_
    refine g_aload_n m140_21 rfl ?_
    refine h_gfR (c := 93) (k := 57) (p := 89) m140_22 rfl (t_57 _ _) rfl (Nat.le_of_ble_eq_true rfl) ?_
    refine h_cv (k := 57) (p := 89) (args := [.ref (90), .ref (93)]) (rest := []) m140_25 cn_110 (Nat.le_of_ble_eq_true rfl) rfl rfl rfl (t_57 _ _) (Nat.le_of_ble_eq_true rfl) ?_
    refine c_moveRow (k1 := 58) (k2 := 61) rfl rfl (t_58 _ _) (t_61 _ _) (by decide) ?_
    refine gwr0 ?_
    refine g_iconst m140_28 ?_
    refine g_istore_n (L2 := [some (.ref (89)), some (.int (nI (jv))), some (.int (0)), none, none]) m140_29 rfl rfl ?_
    have key : ∀ (r : Nat) (q : Nat), q + r = 50 → gw xs (WP xs (d + 810)) 140 Q 30 [some (.ref (89)), some (.int (nI (jv))), some (.int (nI (q))), none, none] [] (H (cpT (upmR m 61 (m 58)) (134 + 50 * jv) q) ln N) 0 0 := by
      intro r
      induction r with
      | zero =>
        intro q hq
        obtain rfl : q = 50 := by omega
        refine g_iload_n m140_30 rfl ?_
        refine g_bipush m140_31 ?_
        refine h_ic_geT (xi := ((50 : Nat) : Int)) (zi := 50) m140_33 (nI_toInt (by omega)) rfl (by omega) ?_
        refine g_aload_n m140_66 rfl ?_
        refine h_gfR (c := 90) (k := 57) (p := 89) m140_67 rfl (t_57 _ _) rfl (Nat.le_of_ble_eq_true rfl) ?_
        refine g_iconst m140_70 ?_
        refine g_iload_n m140_71 rfl ?_
        refine g_iadd (u := nI (5 + jv)) m140_72 (nI_add 5 jv) ?_
        refine g_aload_n m140_73 rfl ?_
        refine h_gfR (c := 90) (k := 57) (p := 89) m140_74 rfl (t_57 _ _) rfl (Nat.le_of_ble_eq_true rfl) ?_
        refine g_iconst m140_77 ?_
        refine h_ial (k := 58) (p := 90) (j := 3) m140_78 rfl (t_58 _ _) (rfl) (by omega) (Nat.le_of_ble_eq_true rfl) ((cpT_j _ (by omega) 50).trans hf) ?_
        refine h_ias (k := 58) (p := 90) (j := 5 + jv) m140_79 rfl (t_58 _ _) (rfl) (by omega) (Nat.le_of_ble_eq_true rfl) ?_
        refine g_aload_n m140_80 rfl ?_
        refine g_iload_n m140_81 rfl ?_
        refine g_iconst m140_82 ?_
        refine g_iconst m140_83 ?_
        refine g_iconst m140_84 ?_
        refine h_cv (k := 57) (p := 89) (args := [.int (nI (jv)), .int (1), .int (1), .int (1)]) (rest := []) m140_85 cn_130 (Nat.le_of_ble_eq_true rfl) rfl rfl rfl (t_57 _ _) (Nat.le_of_ble_eq_true rfl) ?_
        refine c_walks (u := jv) (n := f) (m := txM m jv f) (by omega) hf50 (upm_self _ _ _ _) (fun j hj => by rw [txM_t (by omega) hj]; exact hTap j hj) (fun v m2 hF w8 w14 wv => ?_)
        by_cases hit : (TR (BT (txM m jv f) jv) f jv).2.2 = true ∧ (TR (BT (txM m jv f) jv) f jv).2.1 = f
        · rw [if_pos hit] at w14
          refine gwr ?_
          refine g_istore_n (L2 := [some (.ref (89)), some (.int (nI (jv))), some (.int (v)), none, none]) m140_88 rfl rfl ?_
          refine g_aload_n m140_89 rfl ?_
          refine h_gfI (k := 57) (p := 89) m140_90 rfl (t_57 _ _) rfl (w14) ?_
          refine h_if_eqF (xi := 1) (zi := 0) m140_93 rfl rfl (by decide) ?_
          refine g_iload_n m140_96 rfl ?_
          refine g_iload_n m140_97 rfl ?_
          refine h_ic_neT (xi := _) (zi := _) m140_98 rfl rfl (rfl) ?_
          refine g_iconst m140_101 ?_
          refine g_goto m140_102 ?_
          refine g_istore_n (L2 := [some (.ref (89)), some (.int (nI (jv))), some (.int (v)), some (.int (1)), none]) m140_106 rfl rfl ?_
          refine g_aload_n m140_107 rfl ?_
          refine h_gfI (k := 57) (p := 89) m140_108 rfl (t_57 _ _) rfl (w8) ?_
          refine g_istore (L2 := [some (.ref (89)), some (.int (nI (jv))), some (.int (v)), some (.int (1)), some (.int (nI ((TR (BT (txM m jv f) jv) f jv).2.1)))]) m140_111 rfl rfl ?_
          refine g_iload_n m140_113 rfl ?_
          refine h_if_neF (xi := 1) (zi := 0) m140_114 rfl rfl (by decide) ?_
          refine g_aload_n m140_129 rfl ?_
          refine h_gfR (c := 90) (k := 57) (p := 89) m140_130 rfl (t_57 _ _) rfl (Nat.le_of_ble_eq_true rfl) ?_
          refine g_iconst m140_133 ?_
          refine g_iconst m140_134 ?_
          refine h_ias (k := 58) (p := 90) (j := 3) m140_135 rfl (t_58 _ _) (rfl) (by omega) (Nat.le_of_ble_eq_true rfl) ?_
          refine g_iload_n m140_136 rfl ?_
          refine h_if_eqF (xi := 1) (zi := 0) m140_137 rfl rfl (by decide) ?_
          refine g_iconst m140_140 ?_
          refine g_goto m140_141 ?_
          refine g_iret m140_149 rt_140 ?_
          exact hY jv rfl (by omega) hit m2 (fun k j q => hF k j (fun z => q (Or.inr z)))
        · rw [if_neg hit] at w14
          refine gwr ?_
          refine g_istore_n (L2 := [some (.ref (89)), some (.int (nI (jv))), some (.int (v)), none, none]) m140_88 rfl rfl ?_
          refine g_aload_n m140_89 rfl ?_
          refine h_gfI (k := 57) (p := 89) m140_90 rfl (t_57 _ _) rfl (w14) ?_
          refine h_if_eqT (xi := 0) (zi := 0) m140_93 rfl rfl (by decide) ?_
          refine g_iconst m140_105 ?_
          refine g_istore_n (L2 := [some (.ref (89)), some (.int (nI (jv))), some (.int (v)), some (.int (0)), none]) m140_106 rfl rfl ?_
          refine g_aload_n m140_107 rfl ?_
          refine h_gfI (k := 57) (p := 89) m140_108 rfl (t_57 _ _) rfl (w8) ?_
          refine g_istore (L2 := [some (.ref (89)), some (.int (nI (jv))), some (.int (v)), some (.int (0)), some (.int (nI ((TR (BT (txM m jv f) jv) f jv).2.1)))]) m140_111 rfl rfl ?_
          refine g_iload_n m140_113 rfl ?_
          refine h_if_neT (xi := 0) (zi := 0) m140_114 rfl rfl (by decide) ?_
          refine g_aload_n m140_117 rfl ?_
          refine g_aload_n m140_118 rfl ?_
          refine h_gfR (c := 93) (k := 57) (p := 89) m140_119 rfl (t_57 _ _) rfl (Nat.le_of_ble_eq_true rfl) ?_
          refine g_aload_n m140_122 rfl ?_
          refine h_gfR (c := 90) (k := 57) (p := 89) m140_123 rfl (t_57 _ _) rfl (Nat.le_of_ble_eq_true rfl) ?_
          refine h_cv (k := 57) (p := 89) (args := [.ref (93), .ref (90)]) (rest := []) m140_126 cn_110 (Nat.le_of_ble_eq_true rfl) rfl rfl rfl (t_57 _ _) (Nat.le_of_ble_eq_true rfl) ?_
          refine c_moveRow (k1 := 61) (k2 := 58) rfl rfl (t_61 _ _) (t_58 _ _) (by decide) ?_
          refine gwr0 ?_
          refine g_aload_n m140_129 rfl ?_
          refine h_gfR (c := 90) (k := 57) (p := 89) m140_130 rfl (t_57 _ _) rfl (Nat.le_of_ble_eq_true rfl) ?_
          refine g_iconst m140_133 ?_
          refine g_iconst m140_134 ?_
          refine h_ias (k := 58) (p := 90) (j := 3) m140_135 rfl (t_58 _ _) (rfl) (by omega) (Nat.le_of_ble_eq_true rfl) ?_
          refine g_iload_n m140_136 rfl ?_
          refine h_if_eqT (xi := 0) (zi := 0) m140_137 rfl rfl (by decide) ?_
          refine g_bipush m140_144 ?_
          refine g_iload m140_146 rfl ?_
          refine g_isub m140_148 rfl ?_
          refine g_iret m140_149 rt_140 ?_
          refine hN jv rfl (by omega) hit (upmR m2 58 (m2 61)) (fun k j h1 h2 => ?_)
          unfold upmR
          by_cases e : k = 58
          · rw [if_pos e, e, hF 61 j (fun z => absurd z.1 (by decide)), txM_61]
          · rw [if_neg e, hF k j (fun z => h2 (Or.inr z)), txM_o e h1]
      | succ r ih =>
        intro q hq
        refine g_iload_n m140_30 rfl ?_
        refine g_bipush m140_31 ?_
        refine h_ic_geF (xi := ((q : Nat) : Int)) (zi := 50) m140_33 (nI_toInt (by omega)) rfl (by omega) ?_
        refine g_aload_n m140_36 rfl ?_
        refine h_gfR (c := 90) (k := 57) (p := 89) m140_37 rfl (t_57 _ _) rfl (Nat.le_of_ble_eq_true rfl) ?_
        refine g_sipush m140_40 ?_
        refine g_bipush m140_43 ?_
        refine g_iload_n m140_45 rfl ?_
        refine g_imul (u := nI (50 * jv)) m140_46 (pk_mul 50 jv) ?_
        refine g_iadd (u := nI (134 + (50 * jv))) m140_47 (nI_add 134 (50 * jv)) ?_
        refine g_iload_n m140_48 rfl ?_
        refine g_iadd (u := nI ((134 + (50 * jv)) + q)) m140_49 (nI_add (134 + (50 * jv)) q) ?_
        refine g_aload_n m140_50 rfl ?_
        refine h_gfR (c := 90) (k := 57) (p := 89) m140_51 rfl (t_57 _ _) rfl (Nat.le_of_ble_eq_true rfl) ?_
        refine g_bipush m140_54 ?_
        refine g_iload_n m140_56 rfl ?_
        refine g_iadd (u := nI (64 + q)) m140_57 (nI_add 64 q) ?_
        refine h_ial (k := 58) (p := 90) (j := 64 + q) m140_58 rfl (t_58 _ _) (rfl) (by omega) (Nat.le_of_ble_eq_true rfl) (cpT_j _ (by omega) q) ?_
        refine h_ias (k := 58) (p := 90) (j := (134 + (50 * jv)) + q) m140_59 rfl (t_58 _ _) (rfl) (by omega) (Nat.le_of_ble_eq_true rfl) ?_
        refine g_iinc (L2 := [some (.ref (89)), some (.int (nI (jv))), some (.int (nI (q + 1))), none, none]) m140_60 rfl (nI_1 _) rfl rfl ?_
        refine g_goto m140_63 ?_
        exact ih (q + 1) (by omega)
    exact key 50 0 (by omega)
  · skip
    refine gwr ?_
    refine h_if_neT (xi := 0) (zi := 0) m140_6 rfl rfl (by decide) ?_
    refine g_aload_n m140_9 rfl ?_
    refine g_ldci m140_10 rfl ?_
    refine h_cv (k := 57) (p := 89) (args := [.int (-1000000001)]) (rest := []) m140_12 cn_108 (Nat.le_of_ble_eq_true rfl) rfl rfl rfl (t_57 _ _) (Nat.le_of_ble_eq_true rfl) ?_
    refine c_errs (e := 1) (by decide) (by decide) (by decide) ?_
    refine gwr ?_
    refine g_iret m140_15 rt_140 ?_
    exact hE1 (by omega)
end
end
section
/-! VOICES -/
def lgM (m : MW) (b : Nat) : List Nat → MW
  | [] => m
  | c :: cs => lgM (upm (upm m 46 b (nI c)) 45 4 (nI (b + 1))) (b + 1) cs
theorem lgM_o {m : MW} {b : Nat} {j : Nat} (h : j ≠ 4) (cs : List Nat) : lgM m b cs 45 j = m 45 j := by
  induction cs generalizing m b with
  | nil => rfl
  | cons c cs ih => exact ih.trans ((upm_j _ _ h).trans (upm_k _ _ (by decide)))
theorem lgM_4 {m : MW} {b : Nat} (h : m 45 4 = nI b) (cs : List Nat) : lgM m b cs 45 4 = nI (b + cs.length) := by
  induction cs generalizing m b with
  | nil => exact h
  | cons c cs ih => rw [show b + (c :: cs).length = b + 1 + cs.length by simp only [List.length_cons]; omega]; exact ih (upm_self _ _ _ _)
theorem lgM_a {m : MW} {b : Nat} (cs cs2 : List Nat) : lgM (lgM m b cs) (b + cs.length) cs2 = lgM m b (cs ++ cs2) := by
  induction cs generalizing m b with
  | nil => rfl
  | cons c cs ih => rw [show b + (c :: cs).length = b + 1 + cs.length by simp only [List.length_cons]; omega]; exact ih
def lgR (m : MW) (b : Nat) : List Nat → MW
  | [] => m
  | c :: cs => lgR (upm (upm m 68 b (nI c)) 57 21 (nI (b + 1))) (b + 1) cs
theorem lgR_o {m : MW} {b : Nat} {j : Nat} (h : j ≠ 21) (cs : List Nat) : lgR m b cs 57 j = m 57 j := by
  induction cs generalizing m b with
  | nil => rfl
  | cons c cs ih => exact ih.trans ((upm_j _ _ h).trans (upm_k _ _ (by decide)))
theorem lgR_4 {m : MW} {b : Nat} (h : m 57 21 = nI b) (cs : List Nat) : lgR m b cs 57 21 = nI (b + cs.length) := by
  induction cs generalizing m b with
  | nil => exact h
  | cons c cs ih => rw [show b + (c :: cs).length = b + 1 + cs.length by simp only [List.length_cons]; omega]; exact ih (upm_self _ _ _ _)
theorem lgR_a {m : MW} {b : Nat} (cs cs2 : List Nat) : lgR (lgR m b cs) (b + cs.length) cs2 = lgR m b (cs ++ cs2) := by
  induction cs generalizing m b with
  | nil => rfl
  | cons c cs ih => rw [show b + (c :: cs).length = b + 1 + cs.length by simp only [List.length_cons]; omega]; exact ih
section
variable {xs : List Int32} {d : Nat} {h : AH} {Q : QT} {m : MW} {ln : Nat → Nat} {N : Nat}
set_option maxRecDepth 20000 in
set_option maxHeartbeats 40000000 in
theorem c_begin {b c : Nat} (hb : m 45 4 = nI b) (hb40 : b < 40) (hQ : Q none (H (lgM m b [c]) ln N)) : WP xs (d + 1) 50 0 0 [.ref (77), .int (nI (c))] (H m ln N) Q := by
  refine wp_x mx_50 (L := [some (.ref (77)), some (.int (nI (c)))]) (Nat.le_of_ble_eq_true rfl) rfl ?_
  refine g_aload_n m50_0 rfl ?_
  refine h_gfI (k := 45) (p := 77) m50_1 rfl (t_45 _ _) rfl (hb) ?_
  refine g_bipush m50_4 ?_
  refine h_ic_geF (xi := ((b : Nat) : Int)) (zi := 40) m50_6 (nI_toInt (by omega)) rfl (by omega) ?_
  refine g_aload_n m50_9 rfl ?_
  refine h_gfR (c := 78) (k := 45) (p := 77) m50_10 rfl (t_45 _ _) rfl (Nat.le_of_ble_eq_true rfl) ?_
  refine g_aload_n m50_13 rfl ?_
  refine h_gfI (k := 45) (p := 77) m50_14 rfl (t_45 _ _) rfl (hb) ?_
  refine g_iload_n m50_17 rfl ?_
  refine h_ias (k := 46) (p := 78) (j := b) m50_18 rfl (t_46 _ _) (rfl) (by omega) (Nat.le_of_ble_eq_true rfl) ?_
  refine g_aload_n m50_19 rfl ?_
  refine g_dup m50_20 rfl ?_
  refine h_gfI (k := 45) (p := 77) m50_21 rfl (t_45 _ _) rfl ((upm_k _ _ (by decide)).trans hb) ?_
  refine g_iconst m50_24 ?_
  refine g_iadd (u := nI (b + 1)) m50_25 (nI_add b 1) ?_
  refine h_pfI (k := 45) (p := 77) m50_26 rfl (t_45 _ _) rfl trivial ?_
  refine g_vret m50_29 ?_
  exact hQ
set_option maxRecDepth 20000 in
set_option maxHeartbeats 40000000 in
theorem c_ran {b c : Nat} (hb : m 57 21 = nI b) (hb40 : b < 40) (hQ : Q none (H (lgR m b [c]) ln N)) : WP xs (d + 1) 171 0 0 [.ref (89), .int (nI (c))] (H m ln N) Q := by
  refine wp_x mx_171 (L := [some (.ref (89)), some (.int (nI (c)))]) (Nat.le_of_ble_eq_true rfl) rfl ?_
  refine g_aload_n m171_0 rfl ?_
  refine h_gfI (k := 57) (p := 89) m171_1 rfl (t_57 _ _) rfl (hb) ?_
  refine g_bipush m171_4 ?_
  refine h_ic_geF (xi := ((b : Nat) : Int)) (zi := 40) m171_6 (nI_toInt (by omega)) rfl (by omega) ?_
  refine g_aload_n m171_9 rfl ?_
  refine h_gfR (c := 100) (k := 57) (p := 89) m171_10 rfl (t_57 _ _) rfl (Nat.le_of_ble_eq_true rfl) ?_
  refine g_aload_n m171_13 rfl ?_
  refine h_gfI (k := 57) (p := 89) m171_14 rfl (t_57 _ _) rfl (hb) ?_
  refine g_iload_n m171_17 rfl ?_
  refine h_ias (k := 68) (p := 100) (j := b) m171_18 rfl (t_68 _ _) (rfl) (by omega) (Nat.le_of_ble_eq_true rfl) ?_
  refine g_aload_n m171_19 rfl ?_
  refine g_dup m171_20 rfl ?_
  refine h_gfI (k := 57) (p := 89) m171_21 rfl (t_57 _ _) rfl ((upm_k _ _ (by decide)).trans hb) ?_
  refine g_iconst m171_24 ?_
  refine g_iadd (u := nI (b + 1)) m171_25 (nI_add b 1) ?_
  refine h_pfI (k := 57) (p := 89) m171_26 rfl (t_57 _ _) rfl trivial ?_
  refine g_vret m171_29 ?_
  exact hQ
set_option maxRecDepth 20000 in
set_option maxHeartbeats 40000000 in
theorem c_own_0_0 (hQ : Q (some (.int 0)) h) : WP xs (d + 2) 91 0 0 [.int (0), .int (0)] h Q := by
  refine wp_x mx_91 (L := [some (.int (0)), some (.int (0)), none, none]) (Nat.le_of_ble_eq_true rfl) rfl ?_
  refine g_iload_n m91_0 rfl ?_
  refine g_istore_n (L2 := [some (.int (0)), some (.int (0)), some (.int (0)), none]) m91_1 rfl rfl ?_
  refine g_iconst m91_2 ?_
  refine g_istore_n (L2 := [some (.int (0)), some (.int (0)), some (.int (0)), some (.int (0))]) m91_3 rfl rfl ?_
  refine g_iload_n m91_4 rfl ?_
  refine g_bipush m91_5 ?_
  refine h_ic_geF (xi := 0) (zi := 7) m91_7 rfl rfl (by decide) ?_
  refine g_iload_n m91_10 rfl ?_
  refine g_bipush m91_11 ?_
  refine g_cs (args := [.int (0), .int (6)]) (rest := []) 0 (Or.inl rfl) m91_13 (Nat.le_of_ble_eq_true rfl) rfl rfl (Nat.le_of_ble_eq_true rfl) ?_
  refine c_withinI (M := 6) (vi := 0) rfl rfl (fun _ => ?_) (fun q => absurd q (by decide))
  refine gwr ?_
  refine h_if_eqF (xi := 1) (zi := 0) m91_16 rfl rfl (by decide) ?_
  refine g_gst m91_19 rfl ?_
  refine g_iconst m91_22 ?_
  refine g_iload_n m91_23 rfl ?_
  refine g_imul (u := (0 : Int32)) m91_24 (by decide) ?_
  refine g_iload_n m91_25 rfl ?_
  refine g_iadd (u := (0 : Int32)) m91_26 (by decide) ?_
  refine g_iald (x := (10 : Int32)) m91_27 rfl (show vp_in (nI 0) 28 from vp_in_nI (by decide) (by decide)) (by decide +kernel) ?_
  refine h_if_eqF (xi := 10) (zi := 0) m91_28 rfl rfl (by decide) ?_
  refine g_iload_n m91_31 rfl ?_
  refine g_iret m91_32 rt_91 ?_
  exact hQ
set_option maxRecDepth 20000 in
set_option maxHeartbeats 40000000 in
theorem c_own_0_1 (hQ : Q (some (.int 1)) h) : WP xs (d + 2) 91 0 0 [.int (0), .int (1)] h Q := by
  refine wp_x mx_91 (L := [some (.int (0)), some (.int (1)), none, none]) (Nat.le_of_ble_eq_true rfl) rfl ?_
  refine g_iload_n m91_0 rfl ?_
  refine g_istore_n (L2 := [some (.int (0)), some (.int (1)), some (.int (1)), none]) m91_1 rfl rfl ?_
  refine g_iconst m91_2 ?_
  refine g_istore_n (L2 := [some (.int (0)), some (.int (1)), some (.int (1)), some (.int (0))]) m91_3 rfl rfl ?_
  refine g_iload_n m91_4 rfl ?_
  refine g_bipush m91_5 ?_
  refine h_ic_geF (xi := 0) (zi := 7) m91_7 rfl rfl (by decide) ?_
  refine g_iload_n m91_10 rfl ?_
  refine g_bipush m91_11 ?_
  refine g_cs (args := [.int (1), .int (6)]) (rest := []) 0 (Or.inl rfl) m91_13 (Nat.le_of_ble_eq_true rfl) rfl rfl (Nat.le_of_ble_eq_true rfl) ?_
  refine c_withinI (M := 6) (vi := 1) rfl rfl (fun _ => ?_) (fun q => absurd q (by decide))
  refine gwr ?_
  refine h_if_eqF (xi := 1) (zi := 0) m91_16 rfl rfl (by decide) ?_
  refine g_gst m91_19 rfl ?_
  refine g_iconst m91_22 ?_
  refine g_iload_n m91_23 rfl ?_
  refine g_imul (u := (4 : Int32)) m91_24 (by decide) ?_
  refine g_iload_n m91_25 rfl ?_
  refine g_iadd (u := (4 : Int32)) m91_26 (by decide) ?_
  refine g_iald (x := (20 : Int32)) m91_27 rfl (show vp_in (nI 4) 28 from vp_in_nI (by decide) (by decide)) (by decide +kernel) ?_
  refine h_if_eqF (xi := 20) (zi := 0) m91_28 rfl rfl (by decide) ?_
  refine g_iload_n m91_31 rfl ?_
  refine g_iret m91_32 rt_91 ?_
  exact hQ
set_option maxRecDepth 20000 in
set_option maxHeartbeats 40000000 in
theorem c_own_0_2 (hQ : Q (some (.int 0)) h) : WP xs (d + 2) 91 0 0 [.int (0), .int (2)] h Q := by
  refine wp_x mx_91 (L := [some (.int (0)), some (.int (2)), none, none]) (Nat.le_of_ble_eq_true rfl) rfl ?_
  refine g_iload_n m91_0 rfl ?_
  refine g_istore_n (L2 := [some (.int (0)), some (.int (2)), some (.int (2)), none]) m91_1 rfl rfl ?_
  refine g_iconst m91_2 ?_
  refine g_istore_n (L2 := [some (.int (0)), some (.int (2)), some (.int (2)), some (.int (0))]) m91_3 rfl rfl ?_
  refine g_iload_n m91_4 rfl ?_
  refine g_bipush m91_5 ?_
  refine h_ic_geF (xi := 0) (zi := 7) m91_7 rfl rfl (by decide) ?_
  refine g_iload_n m91_10 rfl ?_
  refine g_bipush m91_11 ?_
  refine g_cs (args := [.int (2), .int (6)]) (rest := []) 0 (Or.inl rfl) m91_13 (Nat.le_of_ble_eq_true rfl) rfl rfl (Nat.le_of_ble_eq_true rfl) ?_
  refine c_withinI (M := 6) (vi := 2) rfl rfl (fun _ => ?_) (fun q => absurd q (by decide))
  refine gwr ?_
  refine h_if_eqF (xi := 1) (zi := 0) m91_16 rfl rfl (by decide) ?_
  refine g_gst m91_19 rfl ?_
  refine g_iconst m91_22 ?_
  refine g_iload_n m91_23 rfl ?_
  refine g_imul (u := (8 : Int32)) m91_24 (by decide) ?_
  refine g_iload_n m91_25 rfl ?_
  refine g_iadd (u := (8 : Int32)) m91_26 (by decide) ?_
  refine g_iald (x := (0 : Int32)) m91_27 rfl (show vp_in (nI 8) 28 from vp_in_nI (by decide) (by decide)) (by decide +kernel) ?_
  refine h_if_eqT (xi := 0) (zi := 0) m91_28 rfl rfl (by decide) ?_
  refine g_gst m91_33 rfl ?_
  refine g_iload_n m91_36 rfl ?_
  refine g_iald (x := (0 : Int32)) m91_37 rfl (show vp_in (nI 2) 7 from vp_in_nI (by decide) (by decide)) (by decide +kernel) ?_
  refine g_istore_n (L2 := [some (.int (0)), some (.int (2)), some (.int (0)), some (.int (0))]) m91_38 rfl rfl ?_
  refine g_iinc (x2 := (1 : Int32)) (L2 := [some (.int (0)), some (.int (2)), some (.int (0)), some (.int (1))]) m91_39 rfl (by decide) rfl rfl ?_
  refine g_goto m91_42 ?_
  refine g_iload_n m91_4 rfl ?_
  refine g_bipush m91_5 ?_
  refine h_ic_geF (xi := 1) (zi := 7) m91_7 rfl rfl (by decide) ?_
  refine g_iload_n m91_10 rfl ?_
  refine g_bipush m91_11 ?_
  refine g_cs (args := [.int (0), .int (6)]) (rest := []) 0 (Or.inl rfl) m91_13 (Nat.le_of_ble_eq_true rfl) rfl rfl (Nat.le_of_ble_eq_true rfl) ?_
  refine c_withinI (M := 6) (vi := 0) rfl rfl (fun _ => ?_) (fun q => absurd q (by decide))
  refine gwr ?_
  refine h_if_eqF (xi := 1) (zi := 0) m91_16 rfl rfl (by decide) ?_
  refine g_gst m91_19 rfl ?_
  refine g_iconst m91_22 ?_
  refine g_iload_n m91_23 rfl ?_
  refine g_imul (u := (0 : Int32)) m91_24 (by decide) ?_
  refine g_iload_n m91_25 rfl ?_
  refine g_iadd (u := (0 : Int32)) m91_26 (by decide) ?_
  refine g_iald (x := (10 : Int32)) m91_27 rfl (show vp_in (nI 0) 28 from vp_in_nI (by decide) (by decide)) (by decide +kernel) ?_
  refine h_if_eqF (xi := 10) (zi := 0) m91_28 rfl rfl (by decide) ?_
  refine g_iload_n m91_31 rfl ?_
  refine g_iret m91_32 rt_91 ?_
  exact hQ
set_option maxRecDepth 20000 in
set_option maxHeartbeats 40000000 in
theorem c_own_0_3 (hQ : Q (some (.int 0)) h) : WP xs (d + 2) 91 0 0 [.int (0), .int (3)] h Q := by
  refine wp_x mx_91 (L := [some (.int (0)), some (.int (3)), none, none]) (Nat.le_of_ble_eq_true rfl) rfl ?_
  refine g_iload_n m91_0 rfl ?_
  refine g_istore_n (L2 := [some (.int (0)), some (.int (3)), some (.int (3)), none]) m91_1 rfl rfl ?_
  refine g_iconst m91_2 ?_
  refine g_istore_n (L2 := [some (.int (0)), some (.int (3)), some (.int (3)), some (.int (0))]) m91_3 rfl rfl ?_
  refine g_iload_n m91_4 rfl ?_
  refine g_bipush m91_5 ?_
  refine h_ic_geF (xi := 0) (zi := 7) m91_7 rfl rfl (by decide) ?_
  refine g_iload_n m91_10 rfl ?_
  refine g_bipush m91_11 ?_
  refine g_cs (args := [.int (3), .int (6)]) (rest := []) 0 (Or.inl rfl) m91_13 (Nat.le_of_ble_eq_true rfl) rfl rfl (Nat.le_of_ble_eq_true rfl) ?_
  refine c_withinI (M := 6) (vi := 3) rfl rfl (fun _ => ?_) (fun q => absurd q (by decide))
  refine gwr ?_
  refine h_if_eqF (xi := 1) (zi := 0) m91_16 rfl rfl (by decide) ?_
  refine g_gst m91_19 rfl ?_
  refine g_iconst m91_22 ?_
  refine g_iload_n m91_23 rfl ?_
  refine g_imul (u := (12 : Int32)) m91_24 (by decide) ?_
  refine g_iload_n m91_25 rfl ?_
  refine g_iadd (u := (12 : Int32)) m91_26 (by decide) ?_
  refine g_iald (x := (0 : Int32)) m91_27 rfl (show vp_in (nI 12) 28 from vp_in_nI (by decide) (by decide)) (by decide +kernel) ?_
  refine h_if_eqT (xi := 0) (zi := 0) m91_28 rfl rfl (by decide) ?_
  refine g_gst m91_33 rfl ?_
  refine g_iload_n m91_36 rfl ?_
  refine g_iald (x := (0 : Int32)) m91_37 rfl (show vp_in (nI 3) 7 from vp_in_nI (by decide) (by decide)) (by decide +kernel) ?_
  refine g_istore_n (L2 := [some (.int (0)), some (.int (3)), some (.int (0)), some (.int (0))]) m91_38 rfl rfl ?_
  refine g_iinc (x2 := (1 : Int32)) (L2 := [some (.int (0)), some (.int (3)), some (.int (0)), some (.int (1))]) m91_39 rfl (by decide) rfl rfl ?_
  refine g_goto m91_42 ?_
  refine g_iload_n m91_4 rfl ?_
  refine g_bipush m91_5 ?_
  refine h_ic_geF (xi := 1) (zi := 7) m91_7 rfl rfl (by decide) ?_
  refine g_iload_n m91_10 rfl ?_
  refine g_bipush m91_11 ?_
  refine g_cs (args := [.int (0), .int (6)]) (rest := []) 0 (Or.inl rfl) m91_13 (Nat.le_of_ble_eq_true rfl) rfl rfl (Nat.le_of_ble_eq_true rfl) ?_
  refine c_withinI (M := 6) (vi := 0) rfl rfl (fun _ => ?_) (fun q => absurd q (by decide))
  refine gwr ?_
  refine h_if_eqF (xi := 1) (zi := 0) m91_16 rfl rfl (by decide) ?_
  refine g_gst m91_19 rfl ?_
  refine g_iconst m91_22 ?_
  refine g_iload_n m91_23 rfl ?_
  refine g_imul (u := (0 : Int32)) m91_24 (by decide) ?_
  refine g_iload_n m91_25 rfl ?_
  refine g_iadd (u := (0 : Int32)) m91_26 (by decide) ?_
  refine g_iald (x := (10 : Int32)) m91_27 rfl (show vp_in (nI 0) 28 from vp_in_nI (by decide) (by decide)) (by decide +kernel) ?_
  refine h_if_eqF (xi := 10) (zi := 0) m91_28 rfl rfl (by decide) ?_
  refine g_iload_n m91_31 rfl ?_
  refine g_iret m91_32 rt_91 ?_
  exact hQ
set_option maxRecDepth 20000 in
set_option maxHeartbeats 40000000 in
theorem c_own_0_4 (hQ : Q (some (.int 1)) h) : WP xs (d + 2) 91 0 0 [.int (0), .int (4)] h Q := by
  refine wp_x mx_91 (L := [some (.int (0)), some (.int (4)), none, none]) (Nat.le_of_ble_eq_true rfl) rfl ?_
  refine g_iload_n m91_0 rfl ?_
  refine g_istore_n (L2 := [some (.int (0)), some (.int (4)), some (.int (4)), none]) m91_1 rfl rfl ?_
  refine g_iconst m91_2 ?_
  refine g_istore_n (L2 := [some (.int (0)), some (.int (4)), some (.int (4)), some (.int (0))]) m91_3 rfl rfl ?_
  refine g_iload_n m91_4 rfl ?_
  refine g_bipush m91_5 ?_
  refine h_ic_geF (xi := 0) (zi := 7) m91_7 rfl rfl (by decide) ?_
  refine g_iload_n m91_10 rfl ?_
  refine g_bipush m91_11 ?_
  refine g_cs (args := [.int (4), .int (6)]) (rest := []) 0 (Or.inl rfl) m91_13 (Nat.le_of_ble_eq_true rfl) rfl rfl (Nat.le_of_ble_eq_true rfl) ?_
  refine c_withinI (M := 6) (vi := 4) rfl rfl (fun _ => ?_) (fun q => absurd q (by decide))
  refine gwr ?_
  refine h_if_eqF (xi := 1) (zi := 0) m91_16 rfl rfl (by decide) ?_
  refine g_gst m91_19 rfl ?_
  refine g_iconst m91_22 ?_
  refine g_iload_n m91_23 rfl ?_
  refine g_imul (u := (16 : Int32)) m91_24 (by decide) ?_
  refine g_iload_n m91_25 rfl ?_
  refine g_iadd (u := (16 : Int32)) m91_26 (by decide) ?_
  refine g_iald (x := (0 : Int32)) m91_27 rfl (show vp_in (nI 16) 28 from vp_in_nI (by decide) (by decide)) (by decide +kernel) ?_
  refine h_if_eqT (xi := 0) (zi := 0) m91_28 rfl rfl (by decide) ?_
  refine g_gst m91_33 rfl ?_
  refine g_iload_n m91_36 rfl ?_
  refine g_iald (x := (1 : Int32)) m91_37 rfl (show vp_in (nI 4) 7 from vp_in_nI (by decide) (by decide)) (by decide +kernel) ?_
  refine g_istore_n (L2 := [some (.int (0)), some (.int (4)), some (.int (1)), some (.int (0))]) m91_38 rfl rfl ?_
  refine g_iinc (x2 := (1 : Int32)) (L2 := [some (.int (0)), some (.int (4)), some (.int (1)), some (.int (1))]) m91_39 rfl (by decide) rfl rfl ?_
  refine g_goto m91_42 ?_
  refine g_iload_n m91_4 rfl ?_
  refine g_bipush m91_5 ?_
  refine h_ic_geF (xi := 1) (zi := 7) m91_7 rfl rfl (by decide) ?_
  refine g_iload_n m91_10 rfl ?_
  refine g_bipush m91_11 ?_
  refine g_cs (args := [.int (1), .int (6)]) (rest := []) 0 (Or.inl rfl) m91_13 (Nat.le_of_ble_eq_true rfl) rfl rfl (Nat.le_of_ble_eq_true rfl) ?_
  refine c_withinI (M := 6) (vi := 1) rfl rfl (fun _ => ?_) (fun q => absurd q (by decide))
  refine gwr ?_
  refine h_if_eqF (xi := 1) (zi := 0) m91_16 rfl rfl (by decide) ?_
  refine g_gst m91_19 rfl ?_
  refine g_iconst m91_22 ?_
  refine g_iload_n m91_23 rfl ?_
  refine g_imul (u := (4 : Int32)) m91_24 (by decide) ?_
  refine g_iload_n m91_25 rfl ?_
  refine g_iadd (u := (4 : Int32)) m91_26 (by decide) ?_
  refine g_iald (x := (20 : Int32)) m91_27 rfl (show vp_in (nI 4) 28 from vp_in_nI (by decide) (by decide)) (by decide +kernel) ?_
  refine h_if_eqF (xi := 20) (zi := 0) m91_28 rfl rfl (by decide) ?_
  refine g_iload_n m91_31 rfl ?_
  refine g_iret m91_32 rt_91 ?_
  exact hQ
set_option maxRecDepth 20000 in
set_option maxHeartbeats 40000000 in
theorem c_own_0_5 (hQ : Q (some (.int 0)) h) : WP xs (d + 2) 91 0 0 [.int (0), .int (5)] h Q := by
  refine wp_x mx_91 (L := [some (.int (0)), some (.int (5)), none, none]) (Nat.le_of_ble_eq_true rfl) rfl ?_
  refine g_iload_n m91_0 rfl ?_
  refine g_istore_n (L2 := [some (.int (0)), some (.int (5)), some (.int (5)), none]) m91_1 rfl rfl ?_
  refine g_iconst m91_2 ?_
  refine g_istore_n (L2 := [some (.int (0)), some (.int (5)), some (.int (5)), some (.int (0))]) m91_3 rfl rfl ?_
  refine g_iload_n m91_4 rfl ?_
  refine g_bipush m91_5 ?_
  refine h_ic_geF (xi := 0) (zi := 7) m91_7 rfl rfl (by decide) ?_
  refine g_iload_n m91_10 rfl ?_
  refine g_bipush m91_11 ?_
  refine g_cs (args := [.int (5), .int (6)]) (rest := []) 0 (Or.inl rfl) m91_13 (Nat.le_of_ble_eq_true rfl) rfl rfl (Nat.le_of_ble_eq_true rfl) ?_
  refine c_withinI (M := 6) (vi := 5) rfl rfl (fun _ => ?_) (fun q => absurd q (by decide))
  refine gwr ?_
  refine h_if_eqF (xi := 1) (zi := 0) m91_16 rfl rfl (by decide) ?_
  refine g_gst m91_19 rfl ?_
  refine g_iconst m91_22 ?_
  refine g_iload_n m91_23 rfl ?_
  refine g_imul (u := (20 : Int32)) m91_24 (by decide) ?_
  refine g_iload_n m91_25 rfl ?_
  refine g_iadd (u := (20 : Int32)) m91_26 (by decide) ?_
  refine g_iald (x := (0 : Int32)) m91_27 rfl (show vp_in (nI 20) 28 from vp_in_nI (by decide) (by decide)) (by decide +kernel) ?_
  refine h_if_eqT (xi := 0) (zi := 0) m91_28 rfl rfl (by decide) ?_
  refine g_gst m91_33 rfl ?_
  refine g_iload_n m91_36 rfl ?_
  refine g_iald (x := (2 : Int32)) m91_37 rfl (show vp_in (nI 5) 7 from vp_in_nI (by decide) (by decide)) (by decide +kernel) ?_
  refine g_istore_n (L2 := [some (.int (0)), some (.int (5)), some (.int (2)), some (.int (0))]) m91_38 rfl rfl ?_
  refine g_iinc (x2 := (1 : Int32)) (L2 := [some (.int (0)), some (.int (5)), some (.int (2)), some (.int (1))]) m91_39 rfl (by decide) rfl rfl ?_
  refine g_goto m91_42 ?_
  refine g_iload_n m91_4 rfl ?_
  refine g_bipush m91_5 ?_
  refine h_ic_geF (xi := 1) (zi := 7) m91_7 rfl rfl (by decide) ?_
  refine g_iload_n m91_10 rfl ?_
  refine g_bipush m91_11 ?_
  refine g_cs (args := [.int (2), .int (6)]) (rest := []) 0 (Or.inl rfl) m91_13 (Nat.le_of_ble_eq_true rfl) rfl rfl (Nat.le_of_ble_eq_true rfl) ?_
  refine c_withinI (M := 6) (vi := 2) rfl rfl (fun _ => ?_) (fun q => absurd q (by decide))
  refine gwr ?_
  refine h_if_eqF (xi := 1) (zi := 0) m91_16 rfl rfl (by decide) ?_
  refine g_gst m91_19 rfl ?_
  refine g_iconst m91_22 ?_
  refine g_iload_n m91_23 rfl ?_
  refine g_imul (u := (8 : Int32)) m91_24 (by decide) ?_
  refine g_iload_n m91_25 rfl ?_
  refine g_iadd (u := (8 : Int32)) m91_26 (by decide) ?_
  refine g_iald (x := (0 : Int32)) m91_27 rfl (show vp_in (nI 8) 28 from vp_in_nI (by decide) (by decide)) (by decide +kernel) ?_
  refine h_if_eqT (xi := 0) (zi := 0) m91_28 rfl rfl (by decide) ?_
  refine g_gst m91_33 rfl ?_
  refine g_iload_n m91_36 rfl ?_
  refine g_iald (x := (0 : Int32)) m91_37 rfl (show vp_in (nI 2) 7 from vp_in_nI (by decide) (by decide)) (by decide +kernel) ?_
  refine g_istore_n (L2 := [some (.int (0)), some (.int (5)), some (.int (0)), some (.int (1))]) m91_38 rfl rfl ?_
  refine g_iinc (x2 := (2 : Int32)) (L2 := [some (.int (0)), some (.int (5)), some (.int (0)), some (.int (2))]) m91_39 rfl (by decide) rfl rfl ?_
  refine g_goto m91_42 ?_
  refine g_iload_n m91_4 rfl ?_
  refine g_bipush m91_5 ?_
  refine h_ic_geF (xi := 2) (zi := 7) m91_7 rfl rfl (by decide) ?_
  refine g_iload_n m91_10 rfl ?_
  refine g_bipush m91_11 ?_
  refine g_cs (args := [.int (0), .int (6)]) (rest := []) 0 (Or.inl rfl) m91_13 (Nat.le_of_ble_eq_true rfl) rfl rfl (Nat.le_of_ble_eq_true rfl) ?_
  refine c_withinI (M := 6) (vi := 0) rfl rfl (fun _ => ?_) (fun q => absurd q (by decide))
  refine gwr ?_
  refine h_if_eqF (xi := 1) (zi := 0) m91_16 rfl rfl (by decide) ?_
  refine g_gst m91_19 rfl ?_
  refine g_iconst m91_22 ?_
  refine g_iload_n m91_23 rfl ?_
  refine g_imul (u := (0 : Int32)) m91_24 (by decide) ?_
  refine g_iload_n m91_25 rfl ?_
  refine g_iadd (u := (0 : Int32)) m91_26 (by decide) ?_
  refine g_iald (x := (10 : Int32)) m91_27 rfl (show vp_in (nI 0) 28 from vp_in_nI (by decide) (by decide)) (by decide +kernel) ?_
  refine h_if_eqF (xi := 10) (zi := 0) m91_28 rfl rfl (by decide) ?_
  refine g_iload_n m91_31 rfl ?_
  refine g_iret m91_32 rt_91 ?_
  exact hQ
set_option maxRecDepth 20000 in
set_option maxHeartbeats 40000000 in
theorem c_own_0_6 (hQ : Q (some (.int 0)) h) : WP xs (d + 2) 91 0 0 [.int (0), .int (6)] h Q := by
  refine wp_x mx_91 (L := [some (.int (0)), some (.int (6)), none, none]) (Nat.le_of_ble_eq_true rfl) rfl ?_
  refine g_iload_n m91_0 rfl ?_
  refine g_istore_n (L2 := [some (.int (0)), some (.int (6)), some (.int (6)), none]) m91_1 rfl rfl ?_
  refine g_iconst m91_2 ?_
  refine g_istore_n (L2 := [some (.int (0)), some (.int (6)), some (.int (6)), some (.int (0))]) m91_3 rfl rfl ?_
  refine g_iload_n m91_4 rfl ?_
  refine g_bipush m91_5 ?_
  refine h_ic_geF (xi := 0) (zi := 7) m91_7 rfl rfl (by decide) ?_
  refine g_iload_n m91_10 rfl ?_
  refine g_bipush m91_11 ?_
  refine g_cs (args := [.int (6), .int (6)]) (rest := []) 0 (Or.inl rfl) m91_13 (Nat.le_of_ble_eq_true rfl) rfl rfl (Nat.le_of_ble_eq_true rfl) ?_
  refine c_withinI (M := 6) (vi := 6) rfl rfl (fun _ => ?_) (fun q => absurd q (by decide))
  refine gwr ?_
  refine h_if_eqF (xi := 1) (zi := 0) m91_16 rfl rfl (by decide) ?_
  refine g_gst m91_19 rfl ?_
  refine g_iconst m91_22 ?_
  refine g_iload_n m91_23 rfl ?_
  refine g_imul (u := (24 : Int32)) m91_24 (by decide) ?_
  refine g_iload_n m91_25 rfl ?_
  refine g_iadd (u := (24 : Int32)) m91_26 (by decide) ?_
  refine g_iald (x := (0 : Int32)) m91_27 rfl (show vp_in (nI 24) 28 from vp_in_nI (by decide) (by decide)) (by decide +kernel) ?_
  refine h_if_eqT (xi := 0) (zi := 0) m91_28 rfl rfl (by decide) ?_
  refine g_gst m91_33 rfl ?_
  refine g_iload_n m91_36 rfl ?_
  refine g_iald (x := (3 : Int32)) m91_37 rfl (show vp_in (nI 6) 7 from vp_in_nI (by decide) (by decide)) (by decide +kernel) ?_
  refine g_istore_n (L2 := [some (.int (0)), some (.int (6)), some (.int (3)), some (.int (0))]) m91_38 rfl rfl ?_
  refine g_iinc (x2 := (1 : Int32)) (L2 := [some (.int (0)), some (.int (6)), some (.int (3)), some (.int (1))]) m91_39 rfl (by decide) rfl rfl ?_
  refine g_goto m91_42 ?_
  refine g_iload_n m91_4 rfl ?_
  refine g_bipush m91_5 ?_
  refine h_ic_geF (xi := 1) (zi := 7) m91_7 rfl rfl (by decide) ?_
  refine g_iload_n m91_10 rfl ?_
  refine g_bipush m91_11 ?_
  refine g_cs (args := [.int (3), .int (6)]) (rest := []) 0 (Or.inl rfl) m91_13 (Nat.le_of_ble_eq_true rfl) rfl rfl (Nat.le_of_ble_eq_true rfl) ?_
  refine c_withinI (M := 6) (vi := 3) rfl rfl (fun _ => ?_) (fun q => absurd q (by decide))
  refine gwr ?_
  refine h_if_eqF (xi := 1) (zi := 0) m91_16 rfl rfl (by decide) ?_
  refine g_gst m91_19 rfl ?_
  refine g_iconst m91_22 ?_
  refine g_iload_n m91_23 rfl ?_
  refine g_imul (u := (12 : Int32)) m91_24 (by decide) ?_
  refine g_iload_n m91_25 rfl ?_
  refine g_iadd (u := (12 : Int32)) m91_26 (by decide) ?_
  refine g_iald (x := (0 : Int32)) m91_27 rfl (show vp_in (nI 12) 28 from vp_in_nI (by decide) (by decide)) (by decide +kernel) ?_
  refine h_if_eqT (xi := 0) (zi := 0) m91_28 rfl rfl (by decide) ?_
  refine g_gst m91_33 rfl ?_
  refine g_iload_n m91_36 rfl ?_
  refine g_iald (x := (0 : Int32)) m91_37 rfl (show vp_in (nI 3) 7 from vp_in_nI (by decide) (by decide)) (by decide +kernel) ?_
  refine g_istore_n (L2 := [some (.int (0)), some (.int (6)), some (.int (0)), some (.int (1))]) m91_38 rfl rfl ?_
  refine g_iinc (x2 := (2 : Int32)) (L2 := [some (.int (0)), some (.int (6)), some (.int (0)), some (.int (2))]) m91_39 rfl (by decide) rfl rfl ?_
  refine g_goto m91_42 ?_
  refine g_iload_n m91_4 rfl ?_
  refine g_bipush m91_5 ?_
  refine h_ic_geF (xi := 2) (zi := 7) m91_7 rfl rfl (by decide) ?_
  refine g_iload_n m91_10 rfl ?_
  refine g_bipush m91_11 ?_
  refine g_cs (args := [.int (0), .int (6)]) (rest := []) 0 (Or.inl rfl) m91_13 (Nat.le_of_ble_eq_true rfl) rfl rfl (Nat.le_of_ble_eq_true rfl) ?_
  refine c_withinI (M := 6) (vi := 0) rfl rfl (fun _ => ?_) (fun q => absurd q (by decide))
  refine gwr ?_
  refine h_if_eqF (xi := 1) (zi := 0) m91_16 rfl rfl (by decide) ?_
  refine g_gst m91_19 rfl ?_
  refine g_iconst m91_22 ?_
  refine g_iload_n m91_23 rfl ?_
  refine g_imul (u := (0 : Int32)) m91_24 (by decide) ?_
  refine g_iload_n m91_25 rfl ?_
  refine g_iadd (u := (0 : Int32)) m91_26 (by decide) ?_
  refine g_iald (x := (10 : Int32)) m91_27 rfl (show vp_in (nI 0) 28 from vp_in_nI (by decide) (by decide)) (by decide +kernel) ?_
  refine h_if_eqF (xi := 10) (zi := 0) m91_28 rfl rfl (by decide) ?_
  refine g_iload_n m91_31 rfl ?_
  refine g_iret m91_32 rt_91 ?_
  exact hQ
set_option maxRecDepth 20000 in
set_option maxHeartbeats 40000000 in
theorem c_own_1_0 (hQ : Q (some (.int 0)) h) : WP xs (d + 2) 91 0 0 [.int (1), .int (0)] h Q := by
  refine wp_x mx_91 (L := [some (.int (1)), some (.int (0)), none, none]) (Nat.le_of_ble_eq_true rfl) rfl ?_
  refine g_iload_n m91_0 rfl ?_
  refine g_istore_n (L2 := [some (.int (1)), some (.int (0)), some (.int (0)), none]) m91_1 rfl rfl ?_
  refine g_iconst m91_2 ?_
  refine g_istore_n (L2 := [some (.int (1)), some (.int (0)), some (.int (0)), some (.int (0))]) m91_3 rfl rfl ?_
  refine g_iload_n m91_4 rfl ?_
  refine g_bipush m91_5 ?_
  refine h_ic_geF (xi := 0) (zi := 7) m91_7 rfl rfl (by decide) ?_
  refine g_iload_n m91_10 rfl ?_
  refine g_bipush m91_11 ?_
  refine g_cs (args := [.int (0), .int (6)]) (rest := []) 0 (Or.inl rfl) m91_13 (Nat.le_of_ble_eq_true rfl) rfl rfl (Nat.le_of_ble_eq_true rfl) ?_
  refine c_withinI (M := 6) (vi := 0) rfl rfl (fun _ => ?_) (fun q => absurd q (by decide))
  refine gwr ?_
  refine h_if_eqF (xi := 1) (zi := 0) m91_16 rfl rfl (by decide) ?_
  refine g_gst m91_19 rfl ?_
  refine g_iconst m91_22 ?_
  refine g_iload_n m91_23 rfl ?_
  refine g_imul (u := (0 : Int32)) m91_24 (by decide) ?_
  refine g_iload_n m91_25 rfl ?_
  refine g_iadd (u := (1 : Int32)) m91_26 (by decide) ?_
  refine g_iald (x := (11 : Int32)) m91_27 rfl (show vp_in (nI 1) 28 from vp_in_nI (by decide) (by decide)) (by decide +kernel) ?_
  refine h_if_eqF (xi := 11) (zi := 0) m91_28 rfl rfl (by decide) ?_
  refine g_iload_n m91_31 rfl ?_
  refine g_iret m91_32 rt_91 ?_
  exact hQ
set_option maxRecDepth 20000 in
set_option maxHeartbeats 40000000 in
theorem c_own_1_1 (hQ : Q (some (.int 0)) h) : WP xs (d + 2) 91 0 0 [.int (1), .int (1)] h Q := by
  refine wp_x mx_91 (L := [some (.int (1)), some (.int (1)), none, none]) (Nat.le_of_ble_eq_true rfl) rfl ?_
  refine g_iload_n m91_0 rfl ?_
  refine g_istore_n (L2 := [some (.int (1)), some (.int (1)), some (.int (1)), none]) m91_1 rfl rfl ?_
  refine g_iconst m91_2 ?_
  refine g_istore_n (L2 := [some (.int (1)), some (.int (1)), some (.int (1)), some (.int (0))]) m91_3 rfl rfl ?_
  refine g_iload_n m91_4 rfl ?_
  refine g_bipush m91_5 ?_
  refine h_ic_geF (xi := 0) (zi := 7) m91_7 rfl rfl (by decide) ?_
  refine g_iload_n m91_10 rfl ?_
  refine g_bipush m91_11 ?_
  refine g_cs (args := [.int (1), .int (6)]) (rest := []) 0 (Or.inl rfl) m91_13 (Nat.le_of_ble_eq_true rfl) rfl rfl (Nat.le_of_ble_eq_true rfl) ?_
  refine c_withinI (M := 6) (vi := 1) rfl rfl (fun _ => ?_) (fun q => absurd q (by decide))
  refine gwr ?_
  refine h_if_eqF (xi := 1) (zi := 0) m91_16 rfl rfl (by decide) ?_
  refine g_gst m91_19 rfl ?_
  refine g_iconst m91_22 ?_
  refine g_iload_n m91_23 rfl ?_
  refine g_imul (u := (4 : Int32)) m91_24 (by decide) ?_
  refine g_iload_n m91_25 rfl ?_
  refine g_iadd (u := (5 : Int32)) m91_26 (by decide) ?_
  refine g_iald (x := (0 : Int32)) m91_27 rfl (show vp_in (nI 5) 28 from vp_in_nI (by decide) (by decide)) (by decide +kernel) ?_
  refine h_if_eqT (xi := 0) (zi := 0) m91_28 rfl rfl (by decide) ?_
  refine g_gst m91_33 rfl ?_
  refine g_iload_n m91_36 rfl ?_
  refine g_iald (x := (0 : Int32)) m91_37 rfl (show vp_in (nI 1) 7 from vp_in_nI (by decide) (by decide)) (by decide +kernel) ?_
  refine g_istore_n (L2 := [some (.int (1)), some (.int (1)), some (.int (0)), some (.int (0))]) m91_38 rfl rfl ?_
  refine g_iinc (x2 := (1 : Int32)) (L2 := [some (.int (1)), some (.int (1)), some (.int (0)), some (.int (1))]) m91_39 rfl (by decide) rfl rfl ?_
  refine g_goto m91_42 ?_
  refine g_iload_n m91_4 rfl ?_
  refine g_bipush m91_5 ?_
  refine h_ic_geF (xi := 1) (zi := 7) m91_7 rfl rfl (by decide) ?_
  refine g_iload_n m91_10 rfl ?_
  refine g_bipush m91_11 ?_
  refine g_cs (args := [.int (0), .int (6)]) (rest := []) 0 (Or.inl rfl) m91_13 (Nat.le_of_ble_eq_true rfl) rfl rfl (Nat.le_of_ble_eq_true rfl) ?_
  refine c_withinI (M := 6) (vi := 0) rfl rfl (fun _ => ?_) (fun q => absurd q (by decide))
  refine gwr ?_
  refine h_if_eqF (xi := 1) (zi := 0) m91_16 rfl rfl (by decide) ?_
  refine g_gst m91_19 rfl ?_
  refine g_iconst m91_22 ?_
  refine g_iload_n m91_23 rfl ?_
  refine g_imul (u := (0 : Int32)) m91_24 (by decide) ?_
  refine g_iload_n m91_25 rfl ?_
  refine g_iadd (u := (1 : Int32)) m91_26 (by decide) ?_
  refine g_iald (x := (11 : Int32)) m91_27 rfl (show vp_in (nI 1) 28 from vp_in_nI (by decide) (by decide)) (by decide +kernel) ?_
  refine h_if_eqF (xi := 11) (zi := 0) m91_28 rfl rfl (by decide) ?_
  refine g_iload_n m91_31 rfl ?_
  refine g_iret m91_32 rt_91 ?_
  exact hQ
set_option maxRecDepth 20000 in
set_option maxHeartbeats 40000000 in
theorem c_own_1_2 (hQ : Q (some (.int 2)) h) : WP xs (d + 2) 91 0 0 [.int (1), .int (2)] h Q := by
  refine wp_x mx_91 (L := [some (.int (1)), some (.int (2)), none, none]) (Nat.le_of_ble_eq_true rfl) rfl ?_
  refine g_iload_n m91_0 rfl ?_
  refine g_istore_n (L2 := [some (.int (1)), some (.int (2)), some (.int (2)), none]) m91_1 rfl rfl ?_
  refine g_iconst m91_2 ?_
  refine g_istore_n (L2 := [some (.int (1)), some (.int (2)), some (.int (2)), some (.int (0))]) m91_3 rfl rfl ?_
  refine g_iload_n m91_4 rfl ?_
  refine g_bipush m91_5 ?_
  refine h_ic_geF (xi := 0) (zi := 7) m91_7 rfl rfl (by decide) ?_
  refine g_iload_n m91_10 rfl ?_
  refine g_bipush m91_11 ?_
  refine g_cs (args := [.int (2), .int (6)]) (rest := []) 0 (Or.inl rfl) m91_13 (Nat.le_of_ble_eq_true rfl) rfl rfl (Nat.le_of_ble_eq_true rfl) ?_
  refine c_withinI (M := 6) (vi := 2) rfl rfl (fun _ => ?_) (fun q => absurd q (by decide))
  refine gwr ?_
  refine h_if_eqF (xi := 1) (zi := 0) m91_16 rfl rfl (by decide) ?_
  refine g_gst m91_19 rfl ?_
  refine g_iconst m91_22 ?_
  refine g_iload_n m91_23 rfl ?_
  refine g_imul (u := (8 : Int32)) m91_24 (by decide) ?_
  refine g_iload_n m91_25 rfl ?_
  refine g_iadd (u := (9 : Int32)) m91_26 (by decide) ?_
  refine g_iald (x := (30 : Int32)) m91_27 rfl (show vp_in (nI 9) 28 from vp_in_nI (by decide) (by decide)) (by decide +kernel) ?_
  refine h_if_eqF (xi := 30) (zi := 0) m91_28 rfl rfl (by decide) ?_
  refine g_iload_n m91_31 rfl ?_
  refine g_iret m91_32 rt_91 ?_
  exact hQ
set_option maxRecDepth 20000 in
set_option maxHeartbeats 40000000 in
theorem c_own_1_3 (hQ : Q (some (.int 0)) h) : WP xs (d + 2) 91 0 0 [.int (1), .int (3)] h Q := by
  refine wp_x mx_91 (L := [some (.int (1)), some (.int (3)), none, none]) (Nat.le_of_ble_eq_true rfl) rfl ?_
  refine g_iload_n m91_0 rfl ?_
  refine g_istore_n (L2 := [some (.int (1)), some (.int (3)), some (.int (3)), none]) m91_1 rfl rfl ?_
  refine g_iconst m91_2 ?_
  refine g_istore_n (L2 := [some (.int (1)), some (.int (3)), some (.int (3)), some (.int (0))]) m91_3 rfl rfl ?_
  refine g_iload_n m91_4 rfl ?_
  refine g_bipush m91_5 ?_
  refine h_ic_geF (xi := 0) (zi := 7) m91_7 rfl rfl (by decide) ?_
  refine g_iload_n m91_10 rfl ?_
  refine g_bipush m91_11 ?_
  refine g_cs (args := [.int (3), .int (6)]) (rest := []) 0 (Or.inl rfl) m91_13 (Nat.le_of_ble_eq_true rfl) rfl rfl (Nat.le_of_ble_eq_true rfl) ?_
  refine c_withinI (M := 6) (vi := 3) rfl rfl (fun _ => ?_) (fun q => absurd q (by decide))
  refine gwr ?_
  refine h_if_eqF (xi := 1) (zi := 0) m91_16 rfl rfl (by decide) ?_
  refine g_gst m91_19 rfl ?_
  refine g_iconst m91_22 ?_
  refine g_iload_n m91_23 rfl ?_
  refine g_imul (u := (12 : Int32)) m91_24 (by decide) ?_
  refine g_iload_n m91_25 rfl ?_
  refine g_iadd (u := (13 : Int32)) m91_26 (by decide) ?_
  refine g_iald (x := (0 : Int32)) m91_27 rfl (show vp_in (nI 13) 28 from vp_in_nI (by decide) (by decide)) (by decide +kernel) ?_
  refine h_if_eqT (xi := 0) (zi := 0) m91_28 rfl rfl (by decide) ?_
  refine g_gst m91_33 rfl ?_
  refine g_iload_n m91_36 rfl ?_
  refine g_iald (x := (0 : Int32)) m91_37 rfl (show vp_in (nI 3) 7 from vp_in_nI (by decide) (by decide)) (by decide +kernel) ?_
  refine g_istore_n (L2 := [some (.int (1)), some (.int (3)), some (.int (0)), some (.int (0))]) m91_38 rfl rfl ?_
  refine g_iinc (x2 := (1 : Int32)) (L2 := [some (.int (1)), some (.int (3)), some (.int (0)), some (.int (1))]) m91_39 rfl (by decide) rfl rfl ?_
  refine g_goto m91_42 ?_
  refine g_iload_n m91_4 rfl ?_
  refine g_bipush m91_5 ?_
  refine h_ic_geF (xi := 1) (zi := 7) m91_7 rfl rfl (by decide) ?_
  refine g_iload_n m91_10 rfl ?_
  refine g_bipush m91_11 ?_
  refine g_cs (args := [.int (0), .int (6)]) (rest := []) 0 (Or.inl rfl) m91_13 (Nat.le_of_ble_eq_true rfl) rfl rfl (Nat.le_of_ble_eq_true rfl) ?_
  refine c_withinI (M := 6) (vi := 0) rfl rfl (fun _ => ?_) (fun q => absurd q (by decide))
  refine gwr ?_
  refine h_if_eqF (xi := 1) (zi := 0) m91_16 rfl rfl (by decide) ?_
  refine g_gst m91_19 rfl ?_
  refine g_iconst m91_22 ?_
  refine g_iload_n m91_23 rfl ?_
  refine g_imul (u := (0 : Int32)) m91_24 (by decide) ?_
  refine g_iload_n m91_25 rfl ?_
  refine g_iadd (u := (1 : Int32)) m91_26 (by decide) ?_
  refine g_iald (x := (11 : Int32)) m91_27 rfl (show vp_in (nI 1) 28 from vp_in_nI (by decide) (by decide)) (by decide +kernel) ?_
  refine h_if_eqF (xi := 11) (zi := 0) m91_28 rfl rfl (by decide) ?_
  refine g_iload_n m91_31 rfl ?_
  refine g_iret m91_32 rt_91 ?_
  exact hQ
set_option maxRecDepth 20000 in
set_option maxHeartbeats 40000000 in
theorem c_own_1_4 (hQ : Q (some (.int 0)) h) : WP xs (d + 2) 91 0 0 [.int (1), .int (4)] h Q := by
  refine wp_x mx_91 (L := [some (.int (1)), some (.int (4)), none, none]) (Nat.le_of_ble_eq_true rfl) rfl ?_
  refine g_iload_n m91_0 rfl ?_
  refine g_istore_n (L2 := [some (.int (1)), some (.int (4)), some (.int (4)), none]) m91_1 rfl rfl ?_
  refine g_iconst m91_2 ?_
  refine g_istore_n (L2 := [some (.int (1)), some (.int (4)), some (.int (4)), some (.int (0))]) m91_3 rfl rfl ?_
  refine g_iload_n m91_4 rfl ?_
  refine g_bipush m91_5 ?_
  refine h_ic_geF (xi := 0) (zi := 7) m91_7 rfl rfl (by decide) ?_
  refine g_iload_n m91_10 rfl ?_
  refine g_bipush m91_11 ?_
  refine g_cs (args := [.int (4), .int (6)]) (rest := []) 0 (Or.inl rfl) m91_13 (Nat.le_of_ble_eq_true rfl) rfl rfl (Nat.le_of_ble_eq_true rfl) ?_
  refine c_withinI (M := 6) (vi := 4) rfl rfl (fun _ => ?_) (fun q => absurd q (by decide))
  refine gwr ?_
  refine h_if_eqF (xi := 1) (zi := 0) m91_16 rfl rfl (by decide) ?_
  refine g_gst m91_19 rfl ?_
  refine g_iconst m91_22 ?_
  refine g_iload_n m91_23 rfl ?_
  refine g_imul (u := (16 : Int32)) m91_24 (by decide) ?_
  refine g_iload_n m91_25 rfl ?_
  refine g_iadd (u := (17 : Int32)) m91_26 (by decide) ?_
  refine g_iald (x := (0 : Int32)) m91_27 rfl (show vp_in (nI 17) 28 from vp_in_nI (by decide) (by decide)) (by decide +kernel) ?_
  refine h_if_eqT (xi := 0) (zi := 0) m91_28 rfl rfl (by decide) ?_
  refine g_gst m91_33 rfl ?_
  refine g_iload_n m91_36 rfl ?_
  refine g_iald (x := (1 : Int32)) m91_37 rfl (show vp_in (nI 4) 7 from vp_in_nI (by decide) (by decide)) (by decide +kernel) ?_
  refine g_istore_n (L2 := [some (.int (1)), some (.int (4)), some (.int (1)), some (.int (0))]) m91_38 rfl rfl ?_
  refine g_iinc (x2 := (1 : Int32)) (L2 := [some (.int (1)), some (.int (4)), some (.int (1)), some (.int (1))]) m91_39 rfl (by decide) rfl rfl ?_
  refine g_goto m91_42 ?_
  refine g_iload_n m91_4 rfl ?_
  refine g_bipush m91_5 ?_
  refine h_ic_geF (xi := 1) (zi := 7) m91_7 rfl rfl (by decide) ?_
  refine g_iload_n m91_10 rfl ?_
  refine g_bipush m91_11 ?_
  refine g_cs (args := [.int (1), .int (6)]) (rest := []) 0 (Or.inl rfl) m91_13 (Nat.le_of_ble_eq_true rfl) rfl rfl (Nat.le_of_ble_eq_true rfl) ?_
  refine c_withinI (M := 6) (vi := 1) rfl rfl (fun _ => ?_) (fun q => absurd q (by decide))
  refine gwr ?_
  refine h_if_eqF (xi := 1) (zi := 0) m91_16 rfl rfl (by decide) ?_
  refine g_gst m91_19 rfl ?_
  refine g_iconst m91_22 ?_
  refine g_iload_n m91_23 rfl ?_
  refine g_imul (u := (4 : Int32)) m91_24 (by decide) ?_
  refine g_iload_n m91_25 rfl ?_
  refine g_iadd (u := (5 : Int32)) m91_26 (by decide) ?_
  refine g_iald (x := (0 : Int32)) m91_27 rfl (show vp_in (nI 5) 28 from vp_in_nI (by decide) (by decide)) (by decide +kernel) ?_
  refine h_if_eqT (xi := 0) (zi := 0) m91_28 rfl rfl (by decide) ?_
  refine g_gst m91_33 rfl ?_
  refine g_iload_n m91_36 rfl ?_
  refine g_iald (x := (0 : Int32)) m91_37 rfl (show vp_in (nI 1) 7 from vp_in_nI (by decide) (by decide)) (by decide +kernel) ?_
  refine g_istore_n (L2 := [some (.int (1)), some (.int (4)), some (.int (0)), some (.int (1))]) m91_38 rfl rfl ?_
  refine g_iinc (x2 := (2 : Int32)) (L2 := [some (.int (1)), some (.int (4)), some (.int (0)), some (.int (2))]) m91_39 rfl (by decide) rfl rfl ?_
  refine g_goto m91_42 ?_
  refine g_iload_n m91_4 rfl ?_
  refine g_bipush m91_5 ?_
  refine h_ic_geF (xi := 2) (zi := 7) m91_7 rfl rfl (by decide) ?_
  refine g_iload_n m91_10 rfl ?_
  refine g_bipush m91_11 ?_
  refine g_cs (args := [.int (0), .int (6)]) (rest := []) 0 (Or.inl rfl) m91_13 (Nat.le_of_ble_eq_true rfl) rfl rfl (Nat.le_of_ble_eq_true rfl) ?_
  refine c_withinI (M := 6) (vi := 0) rfl rfl (fun _ => ?_) (fun q => absurd q (by decide))
  refine gwr ?_
  refine h_if_eqF (xi := 1) (zi := 0) m91_16 rfl rfl (by decide) ?_
  refine g_gst m91_19 rfl ?_
  refine g_iconst m91_22 ?_
  refine g_iload_n m91_23 rfl ?_
  refine g_imul (u := (0 : Int32)) m91_24 (by decide) ?_
  refine g_iload_n m91_25 rfl ?_
  refine g_iadd (u := (1 : Int32)) m91_26 (by decide) ?_
  refine g_iald (x := (11 : Int32)) m91_27 rfl (show vp_in (nI 1) 28 from vp_in_nI (by decide) (by decide)) (by decide +kernel) ?_
  refine h_if_eqF (xi := 11) (zi := 0) m91_28 rfl rfl (by decide) ?_
  refine g_iload_n m91_31 rfl ?_
  refine g_iret m91_32 rt_91 ?_
  exact hQ
set_option maxRecDepth 20000 in
set_option maxHeartbeats 40000000 in
theorem c_own_1_5 (hQ : Q (some (.int 5)) h) : WP xs (d + 2) 91 0 0 [.int (1), .int (5)] h Q := by
  refine wp_x mx_91 (L := [some (.int (1)), some (.int (5)), none, none]) (Nat.le_of_ble_eq_true rfl) rfl ?_
  refine g_iload_n m91_0 rfl ?_
  refine g_istore_n (L2 := [some (.int (1)), some (.int (5)), some (.int (5)), none]) m91_1 rfl rfl ?_
  refine g_iconst m91_2 ?_
  refine g_istore_n (L2 := [some (.int (1)), some (.int (5)), some (.int (5)), some (.int (0))]) m91_3 rfl rfl ?_
  refine g_iload_n m91_4 rfl ?_
  refine g_bipush m91_5 ?_
  refine h_ic_geF (xi := 0) (zi := 7) m91_7 rfl rfl (by decide) ?_
  refine g_iload_n m91_10 rfl ?_
  refine g_bipush m91_11 ?_
  refine g_cs (args := [.int (5), .int (6)]) (rest := []) 0 (Or.inl rfl) m91_13 (Nat.le_of_ble_eq_true rfl) rfl rfl (Nat.le_of_ble_eq_true rfl) ?_
  refine c_withinI (M := 6) (vi := 5) rfl rfl (fun _ => ?_) (fun q => absurd q (by decide))
  refine gwr ?_
  refine h_if_eqF (xi := 1) (zi := 0) m91_16 rfl rfl (by decide) ?_
  refine g_gst m91_19 rfl ?_
  refine g_iconst m91_22 ?_
  refine g_iload_n m91_23 rfl ?_
  refine g_imul (u := (20 : Int32)) m91_24 (by decide) ?_
  refine g_iload_n m91_25 rfl ?_
  refine g_iadd (u := (21 : Int32)) m91_26 (by decide) ?_
  refine g_iald (x := (60 : Int32)) m91_27 rfl (show vp_in (nI 21) 28 from vp_in_nI (by decide) (by decide)) (by decide +kernel) ?_
  refine h_if_eqF (xi := 60) (zi := 0) m91_28 rfl rfl (by decide) ?_
  refine g_iload_n m91_31 rfl ?_
  refine g_iret m91_32 rt_91 ?_
  exact hQ
set_option maxRecDepth 20000 in
set_option maxHeartbeats 40000000 in
theorem c_own_1_6 (hQ : Q (some (.int 0)) h) : WP xs (d + 2) 91 0 0 [.int (1), .int (6)] h Q := by
  refine wp_x mx_91 (L := [some (.int (1)), some (.int (6)), none, none]) (Nat.le_of_ble_eq_true rfl) rfl ?_
  refine g_iload_n m91_0 rfl ?_
  refine g_istore_n (L2 := [some (.int (1)), some (.int (6)), some (.int (6)), none]) m91_1 rfl rfl ?_
  refine g_iconst m91_2 ?_
  refine g_istore_n (L2 := [some (.int (1)), some (.int (6)), some (.int (6)), some (.int (0))]) m91_3 rfl rfl ?_
  refine g_iload_n m91_4 rfl ?_
  refine g_bipush m91_5 ?_
  refine h_ic_geF (xi := 0) (zi := 7) m91_7 rfl rfl (by decide) ?_
  refine g_iload_n m91_10 rfl ?_
  refine g_bipush m91_11 ?_
  refine g_cs (args := [.int (6), .int (6)]) (rest := []) 0 (Or.inl rfl) m91_13 (Nat.le_of_ble_eq_true rfl) rfl rfl (Nat.le_of_ble_eq_true rfl) ?_
  refine c_withinI (M := 6) (vi := 6) rfl rfl (fun _ => ?_) (fun q => absurd q (by decide))
  refine gwr ?_
  refine h_if_eqF (xi := 1) (zi := 0) m91_16 rfl rfl (by decide) ?_
  refine g_gst m91_19 rfl ?_
  refine g_iconst m91_22 ?_
  refine g_iload_n m91_23 rfl ?_
  refine g_imul (u := (24 : Int32)) m91_24 (by decide) ?_
  refine g_iload_n m91_25 rfl ?_
  refine g_iadd (u := (25 : Int32)) m91_26 (by decide) ?_
  refine g_iald (x := (0 : Int32)) m91_27 rfl (show vp_in (nI 25) 28 from vp_in_nI (by decide) (by decide)) (by decide +kernel) ?_
  refine h_if_eqT (xi := 0) (zi := 0) m91_28 rfl rfl (by decide) ?_
  refine g_gst m91_33 rfl ?_
  refine g_iload_n m91_36 rfl ?_
  refine g_iald (x := (3 : Int32)) m91_37 rfl (show vp_in (nI 6) 7 from vp_in_nI (by decide) (by decide)) (by decide +kernel) ?_
  refine g_istore_n (L2 := [some (.int (1)), some (.int (6)), some (.int (3)), some (.int (0))]) m91_38 rfl rfl ?_
  refine g_iinc (x2 := (1 : Int32)) (L2 := [some (.int (1)), some (.int (6)), some (.int (3)), some (.int (1))]) m91_39 rfl (by decide) rfl rfl ?_
  refine g_goto m91_42 ?_
  refine g_iload_n m91_4 rfl ?_
  refine g_bipush m91_5 ?_
  refine h_ic_geF (xi := 1) (zi := 7) m91_7 rfl rfl (by decide) ?_
  refine g_iload_n m91_10 rfl ?_
  refine g_bipush m91_11 ?_
  refine g_cs (args := [.int (3), .int (6)]) (rest := []) 0 (Or.inl rfl) m91_13 (Nat.le_of_ble_eq_true rfl) rfl rfl (Nat.le_of_ble_eq_true rfl) ?_
  refine c_withinI (M := 6) (vi := 3) rfl rfl (fun _ => ?_) (fun q => absurd q (by decide))
  refine gwr ?_
  refine h_if_eqF (xi := 1) (zi := 0) m91_16 rfl rfl (by decide) ?_
  refine g_gst m91_19 rfl ?_
  refine g_iconst m91_22 ?_
  refine g_iload_n m91_23 rfl ?_
  refine g_imul (u := (12 : Int32)) m91_24 (by decide) ?_
  refine g_iload_n m91_25 rfl ?_
  refine g_iadd (u := (13 : Int32)) m91_26 (by decide) ?_
  refine g_iald (x := (0 : Int32)) m91_27 rfl (show vp_in (nI 13) 28 from vp_in_nI (by decide) (by decide)) (by decide +kernel) ?_
  refine h_if_eqT (xi := 0) (zi := 0) m91_28 rfl rfl (by decide) ?_
  refine g_gst m91_33 rfl ?_
  refine g_iload_n m91_36 rfl ?_
  refine g_iald (x := (0 : Int32)) m91_37 rfl (show vp_in (nI 3) 7 from vp_in_nI (by decide) (by decide)) (by decide +kernel) ?_
  refine g_istore_n (L2 := [some (.int (1)), some (.int (6)), some (.int (0)), some (.int (1))]) m91_38 rfl rfl ?_
  refine g_iinc (x2 := (2 : Int32)) (L2 := [some (.int (1)), some (.int (6)), some (.int (0)), some (.int (2))]) m91_39 rfl (by decide) rfl rfl ?_
  refine g_goto m91_42 ?_
  refine g_iload_n m91_4 rfl ?_
  refine g_bipush m91_5 ?_
  refine h_ic_geF (xi := 2) (zi := 7) m91_7 rfl rfl (by decide) ?_
  refine g_iload_n m91_10 rfl ?_
  refine g_bipush m91_11 ?_
  refine g_cs (args := [.int (0), .int (6)]) (rest := []) 0 (Or.inl rfl) m91_13 (Nat.le_of_ble_eq_true rfl) rfl rfl (Nat.le_of_ble_eq_true rfl) ?_
  refine c_withinI (M := 6) (vi := 0) rfl rfl (fun _ => ?_) (fun q => absurd q (by decide))
  refine gwr ?_
  refine h_if_eqF (xi := 1) (zi := 0) m91_16 rfl rfl (by decide) ?_
  refine g_gst m91_19 rfl ?_
  refine g_iconst m91_22 ?_
  refine g_iload_n m91_23 rfl ?_
  refine g_imul (u := (0 : Int32)) m91_24 (by decide) ?_
  refine g_iload_n m91_25 rfl ?_
  refine g_iadd (u := (1 : Int32)) m91_26 (by decide) ?_
  refine g_iald (x := (11 : Int32)) m91_27 rfl (show vp_in (nI 1) 28 from vp_in_nI (by decide) (by decide)) (by decide +kernel) ?_
  refine h_if_eqF (xi := 11) (zi := 0) m91_28 rfl rfl (by decide) ?_
  refine g_iload_n m91_31 rfl ?_
  refine g_iret m91_32 rt_91 ?_
  exact hQ
set_option maxRecDepth 20000 in
set_option maxHeartbeats 40000000 in
theorem c_own_2_0 (hQ : Q (some (.int 0)) h) : WP xs (d + 2) 91 0 0 [.int (2), .int (0)] h Q := by
  refine wp_x mx_91 (L := [some (.int (2)), some (.int (0)), none, none]) (Nat.le_of_ble_eq_true rfl) rfl ?_
  refine g_iload_n m91_0 rfl ?_
  refine g_istore_n (L2 := [some (.int (2)), some (.int (0)), some (.int (0)), none]) m91_1 rfl rfl ?_
  refine g_iconst m91_2 ?_
  refine g_istore_n (L2 := [some (.int (2)), some (.int (0)), some (.int (0)), some (.int (0))]) m91_3 rfl rfl ?_
  refine g_iload_n m91_4 rfl ?_
  refine g_bipush m91_5 ?_
  refine h_ic_geF (xi := 0) (zi := 7) m91_7 rfl rfl (by decide) ?_
  refine g_iload_n m91_10 rfl ?_
  refine g_bipush m91_11 ?_
  refine g_cs (args := [.int (0), .int (6)]) (rest := []) 0 (Or.inl rfl) m91_13 (Nat.le_of_ble_eq_true rfl) rfl rfl (Nat.le_of_ble_eq_true rfl) ?_
  refine c_withinI (M := 6) (vi := 0) rfl rfl (fun _ => ?_) (fun q => absurd q (by decide))
  refine gwr ?_
  refine h_if_eqF (xi := 1) (zi := 0) m91_16 rfl rfl (by decide) ?_
  refine g_gst m91_19 rfl ?_
  refine g_iconst m91_22 ?_
  refine g_iload_n m91_23 rfl ?_
  refine g_imul (u := (0 : Int32)) m91_24 (by decide) ?_
  refine g_iload_n m91_25 rfl ?_
  refine g_iadd (u := (2 : Int32)) m91_26 (by decide) ?_
  refine g_iald (x := (12 : Int32)) m91_27 rfl (show vp_in (nI 2) 28 from vp_in_nI (by decide) (by decide)) (by decide +kernel) ?_
  refine h_if_eqF (xi := 12) (zi := 0) m91_28 rfl rfl (by decide) ?_
  refine g_iload_n m91_31 rfl ?_
  refine g_iret m91_32 rt_91 ?_
  exact hQ
set_option maxRecDepth 20000 in
set_option maxHeartbeats 40000000 in
theorem c_own_2_1 (hQ : Q (some (.int 0)) h) : WP xs (d + 2) 91 0 0 [.int (2), .int (1)] h Q := by
  refine wp_x mx_91 (L := [some (.int (2)), some (.int (1)), none, none]) (Nat.le_of_ble_eq_true rfl) rfl ?_
  refine g_iload_n m91_0 rfl ?_
  refine g_istore_n (L2 := [some (.int (2)), some (.int (1)), some (.int (1)), none]) m91_1 rfl rfl ?_
  refine g_iconst m91_2 ?_
  refine g_istore_n (L2 := [some (.int (2)), some (.int (1)), some (.int (1)), some (.int (0))]) m91_3 rfl rfl ?_
  refine g_iload_n m91_4 rfl ?_
  refine g_bipush m91_5 ?_
  refine h_ic_geF (xi := 0) (zi := 7) m91_7 rfl rfl (by decide) ?_
  refine g_iload_n m91_10 rfl ?_
  refine g_bipush m91_11 ?_
  refine g_cs (args := [.int (1), .int (6)]) (rest := []) 0 (Or.inl rfl) m91_13 (Nat.le_of_ble_eq_true rfl) rfl rfl (Nat.le_of_ble_eq_true rfl) ?_
  refine c_withinI (M := 6) (vi := 1) rfl rfl (fun _ => ?_) (fun q => absurd q (by decide))
  refine gwr ?_
  refine h_if_eqF (xi := 1) (zi := 0) m91_16 rfl rfl (by decide) ?_
  refine g_gst m91_19 rfl ?_
  refine g_iconst m91_22 ?_
  refine g_iload_n m91_23 rfl ?_
  refine g_imul (u := (4 : Int32)) m91_24 (by decide) ?_
  refine g_iload_n m91_25 rfl ?_
  refine g_iadd (u := (6 : Int32)) m91_26 (by decide) ?_
  refine g_iald (x := (0 : Int32)) m91_27 rfl (show vp_in (nI 6) 28 from vp_in_nI (by decide) (by decide)) (by decide +kernel) ?_
  refine h_if_eqT (xi := 0) (zi := 0) m91_28 rfl rfl (by decide) ?_
  refine g_gst m91_33 rfl ?_
  refine g_iload_n m91_36 rfl ?_
  refine g_iald (x := (0 : Int32)) m91_37 rfl (show vp_in (nI 1) 7 from vp_in_nI (by decide) (by decide)) (by decide +kernel) ?_
  refine g_istore_n (L2 := [some (.int (2)), some (.int (1)), some (.int (0)), some (.int (0))]) m91_38 rfl rfl ?_
  refine g_iinc (x2 := (1 : Int32)) (L2 := [some (.int (2)), some (.int (1)), some (.int (0)), some (.int (1))]) m91_39 rfl (by decide) rfl rfl ?_
  refine g_goto m91_42 ?_
  refine g_iload_n m91_4 rfl ?_
  refine g_bipush m91_5 ?_
  refine h_ic_geF (xi := 1) (zi := 7) m91_7 rfl rfl (by decide) ?_
  refine g_iload_n m91_10 rfl ?_
  refine g_bipush m91_11 ?_
  refine g_cs (args := [.int (0), .int (6)]) (rest := []) 0 (Or.inl rfl) m91_13 (Nat.le_of_ble_eq_true rfl) rfl rfl (Nat.le_of_ble_eq_true rfl) ?_
  refine c_withinI (M := 6) (vi := 0) rfl rfl (fun _ => ?_) (fun q => absurd q (by decide))
  refine gwr ?_
  refine h_if_eqF (xi := 1) (zi := 0) m91_16 rfl rfl (by decide) ?_
  refine g_gst m91_19 rfl ?_
  refine g_iconst m91_22 ?_
  refine g_iload_n m91_23 rfl ?_
  refine g_imul (u := (0 : Int32)) m91_24 (by decide) ?_
  refine g_iload_n m91_25 rfl ?_
  refine g_iadd (u := (2 : Int32)) m91_26 (by decide) ?_
  refine g_iald (x := (12 : Int32)) m91_27 rfl (show vp_in (nI 2) 28 from vp_in_nI (by decide) (by decide)) (by decide +kernel) ?_
  refine h_if_eqF (xi := 12) (zi := 0) m91_28 rfl rfl (by decide) ?_
  refine g_iload_n m91_31 rfl ?_
  refine g_iret m91_32 rt_91 ?_
  exact hQ
set_option maxRecDepth 20000 in
set_option maxHeartbeats 40000000 in
theorem c_own_2_2 (hQ : Q (some (.int 0)) h) : WP xs (d + 2) 91 0 0 [.int (2), .int (2)] h Q := by
  refine wp_x mx_91 (L := [some (.int (2)), some (.int (2)), none, none]) (Nat.le_of_ble_eq_true rfl) rfl ?_
  refine g_iload_n m91_0 rfl ?_
  refine g_istore_n (L2 := [some (.int (2)), some (.int (2)), some (.int (2)), none]) m91_1 rfl rfl ?_
  refine g_iconst m91_2 ?_
  refine g_istore_n (L2 := [some (.int (2)), some (.int (2)), some (.int (2)), some (.int (0))]) m91_3 rfl rfl ?_
  refine g_iload_n m91_4 rfl ?_
  refine g_bipush m91_5 ?_
  refine h_ic_geF (xi := 0) (zi := 7) m91_7 rfl rfl (by decide) ?_
  refine g_iload_n m91_10 rfl ?_
  refine g_bipush m91_11 ?_
  refine g_cs (args := [.int (2), .int (6)]) (rest := []) 0 (Or.inl rfl) m91_13 (Nat.le_of_ble_eq_true rfl) rfl rfl (Nat.le_of_ble_eq_true rfl) ?_
  refine c_withinI (M := 6) (vi := 2) rfl rfl (fun _ => ?_) (fun q => absurd q (by decide))
  refine gwr ?_
  refine h_if_eqF (xi := 1) (zi := 0) m91_16 rfl rfl (by decide) ?_
  refine g_gst m91_19 rfl ?_
  refine g_iconst m91_22 ?_
  refine g_iload_n m91_23 rfl ?_
  refine g_imul (u := (8 : Int32)) m91_24 (by decide) ?_
  refine g_iload_n m91_25 rfl ?_
  refine g_iadd (u := (10 : Int32)) m91_26 (by decide) ?_
  refine g_iald (x := (0 : Int32)) m91_27 rfl (show vp_in (nI 10) 28 from vp_in_nI (by decide) (by decide)) (by decide +kernel) ?_
  refine h_if_eqT (xi := 0) (zi := 0) m91_28 rfl rfl (by decide) ?_
  refine g_gst m91_33 rfl ?_
  refine g_iload_n m91_36 rfl ?_
  refine g_iald (x := (0 : Int32)) m91_37 rfl (show vp_in (nI 2) 7 from vp_in_nI (by decide) (by decide)) (by decide +kernel) ?_
  refine g_istore_n (L2 := [some (.int (2)), some (.int (2)), some (.int (0)), some (.int (0))]) m91_38 rfl rfl ?_
  refine g_iinc (x2 := (1 : Int32)) (L2 := [some (.int (2)), some (.int (2)), some (.int (0)), some (.int (1))]) m91_39 rfl (by decide) rfl rfl ?_
  refine g_goto m91_42 ?_
  refine g_iload_n m91_4 rfl ?_
  refine g_bipush m91_5 ?_
  refine h_ic_geF (xi := 1) (zi := 7) m91_7 rfl rfl (by decide) ?_
  refine g_iload_n m91_10 rfl ?_
  refine g_bipush m91_11 ?_
  refine g_cs (args := [.int (0), .int (6)]) (rest := []) 0 (Or.inl rfl) m91_13 (Nat.le_of_ble_eq_true rfl) rfl rfl (Nat.le_of_ble_eq_true rfl) ?_
  refine c_withinI (M := 6) (vi := 0) rfl rfl (fun _ => ?_) (fun q => absurd q (by decide))
  refine gwr ?_
  refine h_if_eqF (xi := 1) (zi := 0) m91_16 rfl rfl (by decide) ?_
  refine g_gst m91_19 rfl ?_
  refine g_iconst m91_22 ?_
  refine g_iload_n m91_23 rfl ?_
  refine g_imul (u := (0 : Int32)) m91_24 (by decide) ?_
  refine g_iload_n m91_25 rfl ?_
  refine g_iadd (u := (2 : Int32)) m91_26 (by decide) ?_
  refine g_iald (x := (12 : Int32)) m91_27 rfl (show vp_in (nI 2) 28 from vp_in_nI (by decide) (by decide)) (by decide +kernel) ?_
  refine h_if_eqF (xi := 12) (zi := 0) m91_28 rfl rfl (by decide) ?_
  refine g_iload_n m91_31 rfl ?_
  refine g_iret m91_32 rt_91 ?_
  exact hQ
set_option maxRecDepth 20000 in
set_option maxHeartbeats 40000000 in
theorem c_own_2_3 (hQ : Q (some (.int 3)) h) : WP xs (d + 2) 91 0 0 [.int (2), .int (3)] h Q := by
  refine wp_x mx_91 (L := [some (.int (2)), some (.int (3)), none, none]) (Nat.le_of_ble_eq_true rfl) rfl ?_
  refine g_iload_n m91_0 rfl ?_
  refine g_istore_n (L2 := [some (.int (2)), some (.int (3)), some (.int (3)), none]) m91_1 rfl rfl ?_
  refine g_iconst m91_2 ?_
  refine g_istore_n (L2 := [some (.int (2)), some (.int (3)), some (.int (3)), some (.int (0))]) m91_3 rfl rfl ?_
  refine g_iload_n m91_4 rfl ?_
  refine g_bipush m91_5 ?_
  refine h_ic_geF (xi := 0) (zi := 7) m91_7 rfl rfl (by decide) ?_
  refine g_iload_n m91_10 rfl ?_
  refine g_bipush m91_11 ?_
  refine g_cs (args := [.int (3), .int (6)]) (rest := []) 0 (Or.inl rfl) m91_13 (Nat.le_of_ble_eq_true rfl) rfl rfl (Nat.le_of_ble_eq_true rfl) ?_
  refine c_withinI (M := 6) (vi := 3) rfl rfl (fun _ => ?_) (fun q => absurd q (by decide))
  refine gwr ?_
  refine h_if_eqF (xi := 1) (zi := 0) m91_16 rfl rfl (by decide) ?_
  refine g_gst m91_19 rfl ?_
  refine g_iconst m91_22 ?_
  refine g_iload_n m91_23 rfl ?_
  refine g_imul (u := (12 : Int32)) m91_24 (by decide) ?_
  refine g_iload_n m91_25 rfl ?_
  refine g_iadd (u := (14 : Int32)) m91_26 (by decide) ?_
  refine g_iald (x := (40 : Int32)) m91_27 rfl (show vp_in (nI 14) 28 from vp_in_nI (by decide) (by decide)) (by decide +kernel) ?_
  refine h_if_eqF (xi := 40) (zi := 0) m91_28 rfl rfl (by decide) ?_
  refine g_iload_n m91_31 rfl ?_
  refine g_iret m91_32 rt_91 ?_
  exact hQ
set_option maxRecDepth 20000 in
set_option maxHeartbeats 40000000 in
theorem c_own_2_4 (hQ : Q (some (.int 0)) h) : WP xs (d + 2) 91 0 0 [.int (2), .int (4)] h Q := by
  refine wp_x mx_91 (L := [some (.int (2)), some (.int (4)), none, none]) (Nat.le_of_ble_eq_true rfl) rfl ?_
  refine g_iload_n m91_0 rfl ?_
  refine g_istore_n (L2 := [some (.int (2)), some (.int (4)), some (.int (4)), none]) m91_1 rfl rfl ?_
  refine g_iconst m91_2 ?_
  refine g_istore_n (L2 := [some (.int (2)), some (.int (4)), some (.int (4)), some (.int (0))]) m91_3 rfl rfl ?_
  refine g_iload_n m91_4 rfl ?_
  refine g_bipush m91_5 ?_
  refine h_ic_geF (xi := 0) (zi := 7) m91_7 rfl rfl (by decide) ?_
  refine g_iload_n m91_10 rfl ?_
  refine g_bipush m91_11 ?_
  refine g_cs (args := [.int (4), .int (6)]) (rest := []) 0 (Or.inl rfl) m91_13 (Nat.le_of_ble_eq_true rfl) rfl rfl (Nat.le_of_ble_eq_true rfl) ?_
  refine c_withinI (M := 6) (vi := 4) rfl rfl (fun _ => ?_) (fun q => absurd q (by decide))
  refine gwr ?_
  refine h_if_eqF (xi := 1) (zi := 0) m91_16 rfl rfl (by decide) ?_
  refine g_gst m91_19 rfl ?_
  refine g_iconst m91_22 ?_
  refine g_iload_n m91_23 rfl ?_
  refine g_imul (u := (16 : Int32)) m91_24 (by decide) ?_
  refine g_iload_n m91_25 rfl ?_
  refine g_iadd (u := (18 : Int32)) m91_26 (by decide) ?_
  refine g_iald (x := (0 : Int32)) m91_27 rfl (show vp_in (nI 18) 28 from vp_in_nI (by decide) (by decide)) (by decide +kernel) ?_
  refine h_if_eqT (xi := 0) (zi := 0) m91_28 rfl rfl (by decide) ?_
  refine g_gst m91_33 rfl ?_
  refine g_iload_n m91_36 rfl ?_
  refine g_iald (x := (1 : Int32)) m91_37 rfl (show vp_in (nI 4) 7 from vp_in_nI (by decide) (by decide)) (by decide +kernel) ?_
  refine g_istore_n (L2 := [some (.int (2)), some (.int (4)), some (.int (1)), some (.int (0))]) m91_38 rfl rfl ?_
  refine g_iinc (x2 := (1 : Int32)) (L2 := [some (.int (2)), some (.int (4)), some (.int (1)), some (.int (1))]) m91_39 rfl (by decide) rfl rfl ?_
  refine g_goto m91_42 ?_
  refine g_iload_n m91_4 rfl ?_
  refine g_bipush m91_5 ?_
  refine h_ic_geF (xi := 1) (zi := 7) m91_7 rfl rfl (by decide) ?_
  refine g_iload_n m91_10 rfl ?_
  refine g_bipush m91_11 ?_
  refine g_cs (args := [.int (1), .int (6)]) (rest := []) 0 (Or.inl rfl) m91_13 (Nat.le_of_ble_eq_true rfl) rfl rfl (Nat.le_of_ble_eq_true rfl) ?_
  refine c_withinI (M := 6) (vi := 1) rfl rfl (fun _ => ?_) (fun q => absurd q (by decide))
  refine gwr ?_
  refine h_if_eqF (xi := 1) (zi := 0) m91_16 rfl rfl (by decide) ?_
  refine g_gst m91_19 rfl ?_
  refine g_iconst m91_22 ?_
  refine g_iload_n m91_23 rfl ?_
  refine g_imul (u := (4 : Int32)) m91_24 (by decide) ?_
  refine g_iload_n m91_25 rfl ?_
  refine g_iadd (u := (6 : Int32)) m91_26 (by decide) ?_
  refine g_iald (x := (0 : Int32)) m91_27 rfl (show vp_in (nI 6) 28 from vp_in_nI (by decide) (by decide)) (by decide +kernel) ?_
  refine h_if_eqT (xi := 0) (zi := 0) m91_28 rfl rfl (by decide) ?_
  refine g_gst m91_33 rfl ?_
  refine g_iload_n m91_36 rfl ?_
  refine g_iald (x := (0 : Int32)) m91_37 rfl (show vp_in (nI 1) 7 from vp_in_nI (by decide) (by decide)) (by decide +kernel) ?_
  refine g_istore_n (L2 := [some (.int (2)), some (.int (4)), some (.int (0)), some (.int (1))]) m91_38 rfl rfl ?_
  refine g_iinc (x2 := (2 : Int32)) (L2 := [some (.int (2)), some (.int (4)), some (.int (0)), some (.int (2))]) m91_39 rfl (by decide) rfl rfl ?_
  refine g_goto m91_42 ?_
  refine g_iload_n m91_4 rfl ?_
  refine g_bipush m91_5 ?_
  refine h_ic_geF (xi := 2) (zi := 7) m91_7 rfl rfl (by decide) ?_
  refine g_iload_n m91_10 rfl ?_
  refine g_bipush m91_11 ?_
  refine g_cs (args := [.int (0), .int (6)]) (rest := []) 0 (Or.inl rfl) m91_13 (Nat.le_of_ble_eq_true rfl) rfl rfl (Nat.le_of_ble_eq_true rfl) ?_
  refine c_withinI (M := 6) (vi := 0) rfl rfl (fun _ => ?_) (fun q => absurd q (by decide))
  refine gwr ?_
  refine h_if_eqF (xi := 1) (zi := 0) m91_16 rfl rfl (by decide) ?_
  refine g_gst m91_19 rfl ?_
  refine g_iconst m91_22 ?_
  refine g_iload_n m91_23 rfl ?_
  refine g_imul (u := (0 : Int32)) m91_24 (by decide) ?_
  refine g_iload_n m91_25 rfl ?_
  refine g_iadd (u := (2 : Int32)) m91_26 (by decide) ?_
  refine g_iald (x := (12 : Int32)) m91_27 rfl (show vp_in (nI 2) 28 from vp_in_nI (by decide) (by decide)) (by decide +kernel) ?_
  refine h_if_eqF (xi := 12) (zi := 0) m91_28 rfl rfl (by decide) ?_
  refine g_iload_n m91_31 rfl ?_
  refine g_iret m91_32 rt_91 ?_
  exact hQ
set_option maxRecDepth 20000 in
set_option maxHeartbeats 40000000 in
theorem c_own_2_5 (hQ : Q (some (.int 0)) h) : WP xs (d + 2) 91 0 0 [.int (2), .int (5)] h Q := by
  refine wp_x mx_91 (L := [some (.int (2)), some (.int (5)), none, none]) (Nat.le_of_ble_eq_true rfl) rfl ?_
  refine g_iload_n m91_0 rfl ?_
  refine g_istore_n (L2 := [some (.int (2)), some (.int (5)), some (.int (5)), none]) m91_1 rfl rfl ?_
  refine g_iconst m91_2 ?_
  refine g_istore_n (L2 := [some (.int (2)), some (.int (5)), some (.int (5)), some (.int (0))]) m91_3 rfl rfl ?_
  refine g_iload_n m91_4 rfl ?_
  refine g_bipush m91_5 ?_
  refine h_ic_geF (xi := 0) (zi := 7) m91_7 rfl rfl (by decide) ?_
  refine g_iload_n m91_10 rfl ?_
  refine g_bipush m91_11 ?_
  refine g_cs (args := [.int (5), .int (6)]) (rest := []) 0 (Or.inl rfl) m91_13 (Nat.le_of_ble_eq_true rfl) rfl rfl (Nat.le_of_ble_eq_true rfl) ?_
  refine c_withinI (M := 6) (vi := 5) rfl rfl (fun _ => ?_) (fun q => absurd q (by decide))
  refine gwr ?_
  refine h_if_eqF (xi := 1) (zi := 0) m91_16 rfl rfl (by decide) ?_
  refine g_gst m91_19 rfl ?_
  refine g_iconst m91_22 ?_
  refine g_iload_n m91_23 rfl ?_
  refine g_imul (u := (20 : Int32)) m91_24 (by decide) ?_
  refine g_iload_n m91_25 rfl ?_
  refine g_iadd (u := (22 : Int32)) m91_26 (by decide) ?_
  refine g_iald (x := (0 : Int32)) m91_27 rfl (show vp_in (nI 22) 28 from vp_in_nI (by decide) (by decide)) (by decide +kernel) ?_
  refine h_if_eqT (xi := 0) (zi := 0) m91_28 rfl rfl (by decide) ?_
  refine g_gst m91_33 rfl ?_
  refine g_iload_n m91_36 rfl ?_
  refine g_iald (x := (2 : Int32)) m91_37 rfl (show vp_in (nI 5) 7 from vp_in_nI (by decide) (by decide)) (by decide +kernel) ?_
  refine g_istore_n (L2 := [some (.int (2)), some (.int (5)), some (.int (2)), some (.int (0))]) m91_38 rfl rfl ?_
  refine g_iinc (x2 := (1 : Int32)) (L2 := [some (.int (2)), some (.int (5)), some (.int (2)), some (.int (1))]) m91_39 rfl (by decide) rfl rfl ?_
  refine g_goto m91_42 ?_
  refine g_iload_n m91_4 rfl ?_
  refine g_bipush m91_5 ?_
  refine h_ic_geF (xi := 1) (zi := 7) m91_7 rfl rfl (by decide) ?_
  refine g_iload_n m91_10 rfl ?_
  refine g_bipush m91_11 ?_
  refine g_cs (args := [.int (2), .int (6)]) (rest := []) 0 (Or.inl rfl) m91_13 (Nat.le_of_ble_eq_true rfl) rfl rfl (Nat.le_of_ble_eq_true rfl) ?_
  refine c_withinI (M := 6) (vi := 2) rfl rfl (fun _ => ?_) (fun q => absurd q (by decide))
  refine gwr ?_
  refine h_if_eqF (xi := 1) (zi := 0) m91_16 rfl rfl (by decide) ?_
  refine g_gst m91_19 rfl ?_
  refine g_iconst m91_22 ?_
  refine g_iload_n m91_23 rfl ?_
  refine g_imul (u := (8 : Int32)) m91_24 (by decide) ?_
  refine g_iload_n m91_25 rfl ?_
  refine g_iadd (u := (10 : Int32)) m91_26 (by decide) ?_
  refine g_iald (x := (0 : Int32)) m91_27 rfl (show vp_in (nI 10) 28 from vp_in_nI (by decide) (by decide)) (by decide +kernel) ?_
  refine h_if_eqT (xi := 0) (zi := 0) m91_28 rfl rfl (by decide) ?_
  refine g_gst m91_33 rfl ?_
  refine g_iload_n m91_36 rfl ?_
  refine g_iald (x := (0 : Int32)) m91_37 rfl (show vp_in (nI 2) 7 from vp_in_nI (by decide) (by decide)) (by decide +kernel) ?_
  refine g_istore_n (L2 := [some (.int (2)), some (.int (5)), some (.int (0)), some (.int (1))]) m91_38 rfl rfl ?_
  refine g_iinc (x2 := (2 : Int32)) (L2 := [some (.int (2)), some (.int (5)), some (.int (0)), some (.int (2))]) m91_39 rfl (by decide) rfl rfl ?_
  refine g_goto m91_42 ?_
  refine g_iload_n m91_4 rfl ?_
  refine g_bipush m91_5 ?_
  refine h_ic_geF (xi := 2) (zi := 7) m91_7 rfl rfl (by decide) ?_
  refine g_iload_n m91_10 rfl ?_
  refine g_bipush m91_11 ?_
  refine g_cs (args := [.int (0), .int (6)]) (rest := []) 0 (Or.inl rfl) m91_13 (Nat.le_of_ble_eq_true rfl) rfl rfl (Nat.le_of_ble_eq_true rfl) ?_
  refine c_withinI (M := 6) (vi := 0) rfl rfl (fun _ => ?_) (fun q => absurd q (by decide))
  refine gwr ?_
  refine h_if_eqF (xi := 1) (zi := 0) m91_16 rfl rfl (by decide) ?_
  refine g_gst m91_19 rfl ?_
  refine g_iconst m91_22 ?_
  refine g_iload_n m91_23 rfl ?_
  refine g_imul (u := (0 : Int32)) m91_24 (by decide) ?_
  refine g_iload_n m91_25 rfl ?_
  refine g_iadd (u := (2 : Int32)) m91_26 (by decide) ?_
  refine g_iald (x := (12 : Int32)) m91_27 rfl (show vp_in (nI 2) 28 from vp_in_nI (by decide) (by decide)) (by decide +kernel) ?_
  refine h_if_eqF (xi := 12) (zi := 0) m91_28 rfl rfl (by decide) ?_
  refine g_iload_n m91_31 rfl ?_
  refine g_iret m91_32 rt_91 ?_
  exact hQ
set_option maxRecDepth 20000 in
set_option maxHeartbeats 40000000 in
theorem c_own_2_6 (hQ : Q (some (.int 6)) h) : WP xs (d + 2) 91 0 0 [.int (2), .int (6)] h Q := by
  refine wp_x mx_91 (L := [some (.int (2)), some (.int (6)), none, none]) (Nat.le_of_ble_eq_true rfl) rfl ?_
  refine g_iload_n m91_0 rfl ?_
  refine g_istore_n (L2 := [some (.int (2)), some (.int (6)), some (.int (6)), none]) m91_1 rfl rfl ?_
  refine g_iconst m91_2 ?_
  refine g_istore_n (L2 := [some (.int (2)), some (.int (6)), some (.int (6)), some (.int (0))]) m91_3 rfl rfl ?_
  refine g_iload_n m91_4 rfl ?_
  refine g_bipush m91_5 ?_
  refine h_ic_geF (xi := 0) (zi := 7) m91_7 rfl rfl (by decide) ?_
  refine g_iload_n m91_10 rfl ?_
  refine g_bipush m91_11 ?_
  refine g_cs (args := [.int (6), .int (6)]) (rest := []) 0 (Or.inl rfl) m91_13 (Nat.le_of_ble_eq_true rfl) rfl rfl (Nat.le_of_ble_eq_true rfl) ?_
  refine c_withinI (M := 6) (vi := 6) rfl rfl (fun _ => ?_) (fun q => absurd q (by decide))
  refine gwr ?_
  refine h_if_eqF (xi := 1) (zi := 0) m91_16 rfl rfl (by decide) ?_
  refine g_gst m91_19 rfl ?_
  refine g_iconst m91_22 ?_
  refine g_iload_n m91_23 rfl ?_
  refine g_imul (u := (24 : Int32)) m91_24 (by decide) ?_
  refine g_iload_n m91_25 rfl ?_
  refine g_iadd (u := (26 : Int32)) m91_26 (by decide) ?_
  refine g_iald (x := (70 : Int32)) m91_27 rfl (show vp_in (nI 26) 28 from vp_in_nI (by decide) (by decide)) (by decide +kernel) ?_
  refine h_if_eqF (xi := 70) (zi := 0) m91_28 rfl rfl (by decide) ?_
  refine g_iload_n m91_31 rfl ?_
  refine g_iret m91_32 rt_91 ?_
  exact hQ
set_option maxRecDepth 20000 in
set_option maxHeartbeats 40000000 in
theorem c_own_3_0 (hQ : Q (some (.int 0)) h) : WP xs (d + 2) 91 0 0 [.int (3), .int (0)] h Q := by
  refine wp_x mx_91 (L := [some (.int (3)), some (.int (0)), none, none]) (Nat.le_of_ble_eq_true rfl) rfl ?_
  refine g_iload_n m91_0 rfl ?_
  refine g_istore_n (L2 := [some (.int (3)), some (.int (0)), some (.int (0)), none]) m91_1 rfl rfl ?_
  refine g_iconst m91_2 ?_
  refine g_istore_n (L2 := [some (.int (3)), some (.int (0)), some (.int (0)), some (.int (0))]) m91_3 rfl rfl ?_
  refine g_iload_n m91_4 rfl ?_
  refine g_bipush m91_5 ?_
  refine h_ic_geF (xi := 0) (zi := 7) m91_7 rfl rfl (by decide) ?_
  refine g_iload_n m91_10 rfl ?_
  refine g_bipush m91_11 ?_
  refine g_cs (args := [.int (0), .int (6)]) (rest := []) 0 (Or.inl rfl) m91_13 (Nat.le_of_ble_eq_true rfl) rfl rfl (Nat.le_of_ble_eq_true rfl) ?_
  refine c_withinI (M := 6) (vi := 0) rfl rfl (fun _ => ?_) (fun q => absurd q (by decide))
  refine gwr ?_
  refine h_if_eqF (xi := 1) (zi := 0) m91_16 rfl rfl (by decide) ?_
  refine g_gst m91_19 rfl ?_
  refine g_iconst m91_22 ?_
  refine g_iload_n m91_23 rfl ?_
  refine g_imul (u := (0 : Int32)) m91_24 (by decide) ?_
  refine g_iload_n m91_25 rfl ?_
  refine g_iadd (u := (3 : Int32)) m91_26 (by decide) ?_
  refine g_iald (x := (13 : Int32)) m91_27 rfl (show vp_in (nI 3) 28 from vp_in_nI (by decide) (by decide)) (by decide +kernel) ?_
  refine h_if_eqF (xi := 13) (zi := 0) m91_28 rfl rfl (by decide) ?_
  refine g_iload_n m91_31 rfl ?_
  refine g_iret m91_32 rt_91 ?_
  exact hQ
set_option maxRecDepth 20000 in
set_option maxHeartbeats 40000000 in
theorem c_own_3_1 (hQ : Q (some (.int 0)) h) : WP xs (d + 2) 91 0 0 [.int (3), .int (1)] h Q := by
  refine wp_x mx_91 (L := [some (.int (3)), some (.int (1)), none, none]) (Nat.le_of_ble_eq_true rfl) rfl ?_
  refine g_iload_n m91_0 rfl ?_
  refine g_istore_n (L2 := [some (.int (3)), some (.int (1)), some (.int (1)), none]) m91_1 rfl rfl ?_
  refine g_iconst m91_2 ?_
  refine g_istore_n (L2 := [some (.int (3)), some (.int (1)), some (.int (1)), some (.int (0))]) m91_3 rfl rfl ?_
  refine g_iload_n m91_4 rfl ?_
  refine g_bipush m91_5 ?_
  refine h_ic_geF (xi := 0) (zi := 7) m91_7 rfl rfl (by decide) ?_
  refine g_iload_n m91_10 rfl ?_
  refine g_bipush m91_11 ?_
  refine g_cs (args := [.int (1), .int (6)]) (rest := []) 0 (Or.inl rfl) m91_13 (Nat.le_of_ble_eq_true rfl) rfl rfl (Nat.le_of_ble_eq_true rfl) ?_
  refine c_withinI (M := 6) (vi := 1) rfl rfl (fun _ => ?_) (fun q => absurd q (by decide))
  refine gwr ?_
  refine h_if_eqF (xi := 1) (zi := 0) m91_16 rfl rfl (by decide) ?_
  refine g_gst m91_19 rfl ?_
  refine g_iconst m91_22 ?_
  refine g_iload_n m91_23 rfl ?_
  refine g_imul (u := (4 : Int32)) m91_24 (by decide) ?_
  refine g_iload_n m91_25 rfl ?_
  refine g_iadd (u := (7 : Int32)) m91_26 (by decide) ?_
  refine g_iald (x := (0 : Int32)) m91_27 rfl (show vp_in (nI 7) 28 from vp_in_nI (by decide) (by decide)) (by decide +kernel) ?_
  refine h_if_eqT (xi := 0) (zi := 0) m91_28 rfl rfl (by decide) ?_
  refine g_gst m91_33 rfl ?_
  refine g_iload_n m91_36 rfl ?_
  refine g_iald (x := (0 : Int32)) m91_37 rfl (show vp_in (nI 1) 7 from vp_in_nI (by decide) (by decide)) (by decide +kernel) ?_
  refine g_istore_n (L2 := [some (.int (3)), some (.int (1)), some (.int (0)), some (.int (0))]) m91_38 rfl rfl ?_
  refine g_iinc (x2 := (1 : Int32)) (L2 := [some (.int (3)), some (.int (1)), some (.int (0)), some (.int (1))]) m91_39 rfl (by decide) rfl rfl ?_
  refine g_goto m91_42 ?_
  refine g_iload_n m91_4 rfl ?_
  refine g_bipush m91_5 ?_
  refine h_ic_geF (xi := 1) (zi := 7) m91_7 rfl rfl (by decide) ?_
  refine g_iload_n m91_10 rfl ?_
  refine g_bipush m91_11 ?_
  refine g_cs (args := [.int (0), .int (6)]) (rest := []) 0 (Or.inl rfl) m91_13 (Nat.le_of_ble_eq_true rfl) rfl rfl (Nat.le_of_ble_eq_true rfl) ?_
  refine c_withinI (M := 6) (vi := 0) rfl rfl (fun _ => ?_) (fun q => absurd q (by decide))
  refine gwr ?_
  refine h_if_eqF (xi := 1) (zi := 0) m91_16 rfl rfl (by decide) ?_
  refine g_gst m91_19 rfl ?_
  refine g_iconst m91_22 ?_
  refine g_iload_n m91_23 rfl ?_
  refine g_imul (u := (0 : Int32)) m91_24 (by decide) ?_
  refine g_iload_n m91_25 rfl ?_
  refine g_iadd (u := (3 : Int32)) m91_26 (by decide) ?_
  refine g_iald (x := (13 : Int32)) m91_27 rfl (show vp_in (nI 3) 28 from vp_in_nI (by decide) (by decide)) (by decide +kernel) ?_
  refine h_if_eqF (xi := 13) (zi := 0) m91_28 rfl rfl (by decide) ?_
  refine g_iload_n m91_31 rfl ?_
  refine g_iret m91_32 rt_91 ?_
  exact hQ
set_option maxRecDepth 20000 in
set_option maxHeartbeats 40000000 in
theorem c_own_3_2 (hQ : Q (some (.int 0)) h) : WP xs (d + 2) 91 0 0 [.int (3), .int (2)] h Q := by
  refine wp_x mx_91 (L := [some (.int (3)), some (.int (2)), none, none]) (Nat.le_of_ble_eq_true rfl) rfl ?_
  refine g_iload_n m91_0 rfl ?_
  refine g_istore_n (L2 := [some (.int (3)), some (.int (2)), some (.int (2)), none]) m91_1 rfl rfl ?_
  refine g_iconst m91_2 ?_
  refine g_istore_n (L2 := [some (.int (3)), some (.int (2)), some (.int (2)), some (.int (0))]) m91_3 rfl rfl ?_
  refine g_iload_n m91_4 rfl ?_
  refine g_bipush m91_5 ?_
  refine h_ic_geF (xi := 0) (zi := 7) m91_7 rfl rfl (by decide) ?_
  refine g_iload_n m91_10 rfl ?_
  refine g_bipush m91_11 ?_
  refine g_cs (args := [.int (2), .int (6)]) (rest := []) 0 (Or.inl rfl) m91_13 (Nat.le_of_ble_eq_true rfl) rfl rfl (Nat.le_of_ble_eq_true rfl) ?_
  refine c_withinI (M := 6) (vi := 2) rfl rfl (fun _ => ?_) (fun q => absurd q (by decide))
  refine gwr ?_
  refine h_if_eqF (xi := 1) (zi := 0) m91_16 rfl rfl (by decide) ?_
  refine g_gst m91_19 rfl ?_
  refine g_iconst m91_22 ?_
  refine g_iload_n m91_23 rfl ?_
  refine g_imul (u := (8 : Int32)) m91_24 (by decide) ?_
  refine g_iload_n m91_25 rfl ?_
  refine g_iadd (u := (11 : Int32)) m91_26 (by decide) ?_
  refine g_iald (x := (0 : Int32)) m91_27 rfl (show vp_in (nI 11) 28 from vp_in_nI (by decide) (by decide)) (by decide +kernel) ?_
  refine h_if_eqT (xi := 0) (zi := 0) m91_28 rfl rfl (by decide) ?_
  refine g_gst m91_33 rfl ?_
  refine g_iload_n m91_36 rfl ?_
  refine g_iald (x := (0 : Int32)) m91_37 rfl (show vp_in (nI 2) 7 from vp_in_nI (by decide) (by decide)) (by decide +kernel) ?_
  refine g_istore_n (L2 := [some (.int (3)), some (.int (2)), some (.int (0)), some (.int (0))]) m91_38 rfl rfl ?_
  refine g_iinc (x2 := (1 : Int32)) (L2 := [some (.int (3)), some (.int (2)), some (.int (0)), some (.int (1))]) m91_39 rfl (by decide) rfl rfl ?_
  refine g_goto m91_42 ?_
  refine g_iload_n m91_4 rfl ?_
  refine g_bipush m91_5 ?_
  refine h_ic_geF (xi := 1) (zi := 7) m91_7 rfl rfl (by decide) ?_
  refine g_iload_n m91_10 rfl ?_
  refine g_bipush m91_11 ?_
  refine g_cs (args := [.int (0), .int (6)]) (rest := []) 0 (Or.inl rfl) m91_13 (Nat.le_of_ble_eq_true rfl) rfl rfl (Nat.le_of_ble_eq_true rfl) ?_
  refine c_withinI (M := 6) (vi := 0) rfl rfl (fun _ => ?_) (fun q => absurd q (by decide))
  refine gwr ?_
  refine h_if_eqF (xi := 1) (zi := 0) m91_16 rfl rfl (by decide) ?_
  refine g_gst m91_19 rfl ?_
  refine g_iconst m91_22 ?_
  refine g_iload_n m91_23 rfl ?_
  refine g_imul (u := (0 : Int32)) m91_24 (by decide) ?_
  refine g_iload_n m91_25 rfl ?_
  refine g_iadd (u := (3 : Int32)) m91_26 (by decide) ?_
  refine g_iald (x := (13 : Int32)) m91_27 rfl (show vp_in (nI 3) 28 from vp_in_nI (by decide) (by decide)) (by decide +kernel) ?_
  refine h_if_eqF (xi := 13) (zi := 0) m91_28 rfl rfl (by decide) ?_
  refine g_iload_n m91_31 rfl ?_
  refine g_iret m91_32 rt_91 ?_
  exact hQ
set_option maxRecDepth 20000 in
set_option maxHeartbeats 40000000 in
theorem c_own_3_3 (hQ : Q (some (.int 0)) h) : WP xs (d + 2) 91 0 0 [.int (3), .int (3)] h Q := by
  refine wp_x mx_91 (L := [some (.int (3)), some (.int (3)), none, none]) (Nat.le_of_ble_eq_true rfl) rfl ?_
  refine g_iload_n m91_0 rfl ?_
  refine g_istore_n (L2 := [some (.int (3)), some (.int (3)), some (.int (3)), none]) m91_1 rfl rfl ?_
  refine g_iconst m91_2 ?_
  refine g_istore_n (L2 := [some (.int (3)), some (.int (3)), some (.int (3)), some (.int (0))]) m91_3 rfl rfl ?_
  refine g_iload_n m91_4 rfl ?_
  refine g_bipush m91_5 ?_
  refine h_ic_geF (xi := 0) (zi := 7) m91_7 rfl rfl (by decide) ?_
  refine g_iload_n m91_10 rfl ?_
  refine g_bipush m91_11 ?_
  refine g_cs (args := [.int (3), .int (6)]) (rest := []) 0 (Or.inl rfl) m91_13 (Nat.le_of_ble_eq_true rfl) rfl rfl (Nat.le_of_ble_eq_true rfl) ?_
  refine c_withinI (M := 6) (vi := 3) rfl rfl (fun _ => ?_) (fun q => absurd q (by decide))
  refine gwr ?_
  refine h_if_eqF (xi := 1) (zi := 0) m91_16 rfl rfl (by decide) ?_
  refine g_gst m91_19 rfl ?_
  refine g_iconst m91_22 ?_
  refine g_iload_n m91_23 rfl ?_
  refine g_imul (u := (12 : Int32)) m91_24 (by decide) ?_
  refine g_iload_n m91_25 rfl ?_
  refine g_iadd (u := (15 : Int32)) m91_26 (by decide) ?_
  refine g_iald (x := (0 : Int32)) m91_27 rfl (show vp_in (nI 15) 28 from vp_in_nI (by decide) (by decide)) (by decide +kernel) ?_
  refine h_if_eqT (xi := 0) (zi := 0) m91_28 rfl rfl (by decide) ?_
  refine g_gst m91_33 rfl ?_
  refine g_iload_n m91_36 rfl ?_
  refine g_iald (x := (0 : Int32)) m91_37 rfl (show vp_in (nI 3) 7 from vp_in_nI (by decide) (by decide)) (by decide +kernel) ?_
  refine g_istore_n (L2 := [some (.int (3)), some (.int (3)), some (.int (0)), some (.int (0))]) m91_38 rfl rfl ?_
  refine g_iinc (x2 := (1 : Int32)) (L2 := [some (.int (3)), some (.int (3)), some (.int (0)), some (.int (1))]) m91_39 rfl (by decide) rfl rfl ?_
  refine g_goto m91_42 ?_
  refine g_iload_n m91_4 rfl ?_
  refine g_bipush m91_5 ?_
  refine h_ic_geF (xi := 1) (zi := 7) m91_7 rfl rfl (by decide) ?_
  refine g_iload_n m91_10 rfl ?_
  refine g_bipush m91_11 ?_
  refine g_cs (args := [.int (0), .int (6)]) (rest := []) 0 (Or.inl rfl) m91_13 (Nat.le_of_ble_eq_true rfl) rfl rfl (Nat.le_of_ble_eq_true rfl) ?_
  refine c_withinI (M := 6) (vi := 0) rfl rfl (fun _ => ?_) (fun q => absurd q (by decide))
  refine gwr ?_
  refine h_if_eqF (xi := 1) (zi := 0) m91_16 rfl rfl (by decide) ?_
  refine g_gst m91_19 rfl ?_
  refine g_iconst m91_22 ?_
  refine g_iload_n m91_23 rfl ?_
  refine g_imul (u := (0 : Int32)) m91_24 (by decide) ?_
  refine g_iload_n m91_25 rfl ?_
  refine g_iadd (u := (3 : Int32)) m91_26 (by decide) ?_
  refine g_iald (x := (13 : Int32)) m91_27 rfl (show vp_in (nI 3) 28 from vp_in_nI (by decide) (by decide)) (by decide +kernel) ?_
  refine h_if_eqF (xi := 13) (zi := 0) m91_28 rfl rfl (by decide) ?_
  refine g_iload_n m91_31 rfl ?_
  refine g_iret m91_32 rt_91 ?_
  exact hQ
set_option maxRecDepth 20000 in
set_option maxHeartbeats 40000000 in
theorem c_own_3_4 (hQ : Q (some (.int 4)) h) : WP xs (d + 2) 91 0 0 [.int (3), .int (4)] h Q := by
  refine wp_x mx_91 (L := [some (.int (3)), some (.int (4)), none, none]) (Nat.le_of_ble_eq_true rfl) rfl ?_
  refine g_iload_n m91_0 rfl ?_
  refine g_istore_n (L2 := [some (.int (3)), some (.int (4)), some (.int (4)), none]) m91_1 rfl rfl ?_
  refine g_iconst m91_2 ?_
  refine g_istore_n (L2 := [some (.int (3)), some (.int (4)), some (.int (4)), some (.int (0))]) m91_3 rfl rfl ?_
  refine g_iload_n m91_4 rfl ?_
  refine g_bipush m91_5 ?_
  refine h_ic_geF (xi := 0) (zi := 7) m91_7 rfl rfl (by decide) ?_
  refine g_iload_n m91_10 rfl ?_
  refine g_bipush m91_11 ?_
  refine g_cs (args := [.int (4), .int (6)]) (rest := []) 0 (Or.inl rfl) m91_13 (Nat.le_of_ble_eq_true rfl) rfl rfl (Nat.le_of_ble_eq_true rfl) ?_
  refine c_withinI (M := 6) (vi := 4) rfl rfl (fun _ => ?_) (fun q => absurd q (by decide))
  refine gwr ?_
  refine h_if_eqF (xi := 1) (zi := 0) m91_16 rfl rfl (by decide) ?_
  refine g_gst m91_19 rfl ?_
  refine g_iconst m91_22 ?_
  refine g_iload_n m91_23 rfl ?_
  refine g_imul (u := (16 : Int32)) m91_24 (by decide) ?_
  refine g_iload_n m91_25 rfl ?_
  refine g_iadd (u := (19 : Int32)) m91_26 (by decide) ?_
  refine g_iald (x := (50 : Int32)) m91_27 rfl (show vp_in (nI 19) 28 from vp_in_nI (by decide) (by decide)) (by decide +kernel) ?_
  refine h_if_eqF (xi := 50) (zi := 0) m91_28 rfl rfl (by decide) ?_
  refine g_iload_n m91_31 rfl ?_
  refine g_iret m91_32 rt_91 ?_
  exact hQ
set_option maxRecDepth 20000 in
set_option maxHeartbeats 40000000 in
theorem c_own_3_5 (hQ : Q (some (.int 0)) h) : WP xs (d + 2) 91 0 0 [.int (3), .int (5)] h Q := by
  refine wp_x mx_91 (L := [some (.int (3)), some (.int (5)), none, none]) (Nat.le_of_ble_eq_true rfl) rfl ?_
  refine g_iload_n m91_0 rfl ?_
  refine g_istore_n (L2 := [some (.int (3)), some (.int (5)), some (.int (5)), none]) m91_1 rfl rfl ?_
  refine g_iconst m91_2 ?_
  refine g_istore_n (L2 := [some (.int (3)), some (.int (5)), some (.int (5)), some (.int (0))]) m91_3 rfl rfl ?_
  refine g_iload_n m91_4 rfl ?_
  refine g_bipush m91_5 ?_
  refine h_ic_geF (xi := 0) (zi := 7) m91_7 rfl rfl (by decide) ?_
  refine g_iload_n m91_10 rfl ?_
  refine g_bipush m91_11 ?_
  refine g_cs (args := [.int (5), .int (6)]) (rest := []) 0 (Or.inl rfl) m91_13 (Nat.le_of_ble_eq_true rfl) rfl rfl (Nat.le_of_ble_eq_true rfl) ?_
  refine c_withinI (M := 6) (vi := 5) rfl rfl (fun _ => ?_) (fun q => absurd q (by decide))
  refine gwr ?_
  refine h_if_eqF (xi := 1) (zi := 0) m91_16 rfl rfl (by decide) ?_
  refine g_gst m91_19 rfl ?_
  refine g_iconst m91_22 ?_
  refine g_iload_n m91_23 rfl ?_
  refine g_imul (u := (20 : Int32)) m91_24 (by decide) ?_
  refine g_iload_n m91_25 rfl ?_
  refine g_iadd (u := (23 : Int32)) m91_26 (by decide) ?_
  refine g_iald (x := (0 : Int32)) m91_27 rfl (show vp_in (nI 23) 28 from vp_in_nI (by decide) (by decide)) (by decide +kernel) ?_
  refine h_if_eqT (xi := 0) (zi := 0) m91_28 rfl rfl (by decide) ?_
  refine g_gst m91_33 rfl ?_
  refine g_iload_n m91_36 rfl ?_
  refine g_iald (x := (2 : Int32)) m91_37 rfl (show vp_in (nI 5) 7 from vp_in_nI (by decide) (by decide)) (by decide +kernel) ?_
  refine g_istore_n (L2 := [some (.int (3)), some (.int (5)), some (.int (2)), some (.int (0))]) m91_38 rfl rfl ?_
  refine g_iinc (x2 := (1 : Int32)) (L2 := [some (.int (3)), some (.int (5)), some (.int (2)), some (.int (1))]) m91_39 rfl (by decide) rfl rfl ?_
  refine g_goto m91_42 ?_
  refine g_iload_n m91_4 rfl ?_
  refine g_bipush m91_5 ?_
  refine h_ic_geF (xi := 1) (zi := 7) m91_7 rfl rfl (by decide) ?_
  refine g_iload_n m91_10 rfl ?_
  refine g_bipush m91_11 ?_
  refine g_cs (args := [.int (2), .int (6)]) (rest := []) 0 (Or.inl rfl) m91_13 (Nat.le_of_ble_eq_true rfl) rfl rfl (Nat.le_of_ble_eq_true rfl) ?_
  refine c_withinI (M := 6) (vi := 2) rfl rfl (fun _ => ?_) (fun q => absurd q (by decide))
  refine gwr ?_
  refine h_if_eqF (xi := 1) (zi := 0) m91_16 rfl rfl (by decide) ?_
  refine g_gst m91_19 rfl ?_
  refine g_iconst m91_22 ?_
  refine g_iload_n m91_23 rfl ?_
  refine g_imul (u := (8 : Int32)) m91_24 (by decide) ?_
  refine g_iload_n m91_25 rfl ?_
  refine g_iadd (u := (11 : Int32)) m91_26 (by decide) ?_
  refine g_iald (x := (0 : Int32)) m91_27 rfl (show vp_in (nI 11) 28 from vp_in_nI (by decide) (by decide)) (by decide +kernel) ?_
  refine h_if_eqT (xi := 0) (zi := 0) m91_28 rfl rfl (by decide) ?_
  refine g_gst m91_33 rfl ?_
  refine g_iload_n m91_36 rfl ?_
  refine g_iald (x := (0 : Int32)) m91_37 rfl (show vp_in (nI 2) 7 from vp_in_nI (by decide) (by decide)) (by decide +kernel) ?_
  refine g_istore_n (L2 := [some (.int (3)), some (.int (5)), some (.int (0)), some (.int (1))]) m91_38 rfl rfl ?_
  refine g_iinc (x2 := (2 : Int32)) (L2 := [some (.int (3)), some (.int (5)), some (.int (0)), some (.int (2))]) m91_39 rfl (by decide) rfl rfl ?_
  refine g_goto m91_42 ?_
  refine g_iload_n m91_4 rfl ?_
  refine g_bipush m91_5 ?_
  refine h_ic_geF (xi := 2) (zi := 7) m91_7 rfl rfl (by decide) ?_
  refine g_iload_n m91_10 rfl ?_
  refine g_bipush m91_11 ?_
  refine g_cs (args := [.int (0), .int (6)]) (rest := []) 0 (Or.inl rfl) m91_13 (Nat.le_of_ble_eq_true rfl) rfl rfl (Nat.le_of_ble_eq_true rfl) ?_
  refine c_withinI (M := 6) (vi := 0) rfl rfl (fun _ => ?_) (fun q => absurd q (by decide))
  refine gwr ?_
  refine h_if_eqF (xi := 1) (zi := 0) m91_16 rfl rfl (by decide) ?_
  refine g_gst m91_19 rfl ?_
  refine g_iconst m91_22 ?_
  refine g_iload_n m91_23 rfl ?_
  refine g_imul (u := (0 : Int32)) m91_24 (by decide) ?_
  refine g_iload_n m91_25 rfl ?_
  refine g_iadd (u := (3 : Int32)) m91_26 (by decide) ?_
  refine g_iald (x := (13 : Int32)) m91_27 rfl (show vp_in (nI 3) 28 from vp_in_nI (by decide) (by decide)) (by decide +kernel) ?_
  refine h_if_eqF (xi := 13) (zi := 0) m91_28 rfl rfl (by decide) ?_
  refine g_iload_n m91_31 rfl ?_
  refine g_iret m91_32 rt_91 ?_
  exact hQ
set_option maxRecDepth 20000 in
set_option maxHeartbeats 40000000 in
theorem c_own_3_6 (hQ : Q (some (.int 6)) h) : WP xs (d + 2) 91 0 0 [.int (3), .int (6)] h Q := by
  refine wp_x mx_91 (L := [some (.int (3)), some (.int (6)), none, none]) (Nat.le_of_ble_eq_true rfl) rfl ?_
  refine g_iload_n m91_0 rfl ?_
  refine g_istore_n (L2 := [some (.int (3)), some (.int (6)), some (.int (6)), none]) m91_1 rfl rfl ?_
  refine g_iconst m91_2 ?_
  refine g_istore_n (L2 := [some (.int (3)), some (.int (6)), some (.int (6)), some (.int (0))]) m91_3 rfl rfl ?_
  refine g_iload_n m91_4 rfl ?_
  refine g_bipush m91_5 ?_
  refine h_ic_geF (xi := 0) (zi := 7) m91_7 rfl rfl (by decide) ?_
  refine g_iload_n m91_10 rfl ?_
  refine g_bipush m91_11 ?_
  refine g_cs (args := [.int (6), .int (6)]) (rest := []) 0 (Or.inl rfl) m91_13 (Nat.le_of_ble_eq_true rfl) rfl rfl (Nat.le_of_ble_eq_true rfl) ?_
  refine c_withinI (M := 6) (vi := 6) rfl rfl (fun _ => ?_) (fun q => absurd q (by decide))
  refine gwr ?_
  refine h_if_eqF (xi := 1) (zi := 0) m91_16 rfl rfl (by decide) ?_
  refine g_gst m91_19 rfl ?_
  refine g_iconst m91_22 ?_
  refine g_iload_n m91_23 rfl ?_
  refine g_imul (u := (24 : Int32)) m91_24 (by decide) ?_
  refine g_iload_n m91_25 rfl ?_
  refine g_iadd (u := (27 : Int32)) m91_26 (by decide) ?_
  refine g_iald (x := (71 : Int32)) m91_27 rfl (show vp_in (nI 27) 28 from vp_in_nI (by decide) (by decide)) (by decide +kernel) ?_
  refine h_if_eqF (xi := 71) (zi := 0) m91_28 rfl rfl (by decide) ?_
  refine g_iload_n m91_31 rfl ?_
  refine g_iret m91_32 rt_91 ?_
  exact hQ
set_option maxRecDepth 20000 in
set_option maxHeartbeats 40000000 in
theorem c_sp_0_0_0 {b e : Nat} {x nv mv : Int32} (hb : m 45 4 = nI b) (hb40 : b + 1 ≤ 40) (hk : m 45 2 = nI 0) (h0 : m 45 0 = nv) (h1 : m 45 1 = mv) (he : e + 0 ≤ 30) (hQ : Q (some (.int (x + nv))) (H (lgM m b [10]) ln N)) : WP xs (d + 3) 92 0 0 [.ref (77), .int (0), .int (0), .int (x), .int (nI (e))] (H m ln N) Q := by
  refine wp_x mx_92 (L := [some (.ref (77)), some (.int (0)), some (.int (0)), some (.int (x)), some (.int (nI (e))), none, none, none, none, none]) (Nat.le_of_ble_eq_true rfl) rfl ?_
  refine g_iload_n m92_0 rfl ?_
  refine g_iload_n m92_1 rfl ?_
  refine g_cs (args := [.int (0), .int (0)]) (rest := []) 0 (Or.inl rfl) m92_2 (Nat.le_of_ble_eq_true rfl) rfl rfl (Nat.le_of_ble_eq_true rfl) ?_
  refine c_own_0_0 ?_
  refine gwr ?_
  refine g_istore (L2 := [some (.ref (77)), some (.int (0)), some (.int (0)), some (.int (x)), some (.int (nI (e))), some (.int (0)), none, none, none, none]) m92_5 rfl rfl ?_
  refine g_iload m92_7 rfl ?_
  refine h_if_ltF (xi := 0) (zi := 0) m92_9 rfl rfl (by decide) ?_
  refine g_iload m92_12 rfl ?_
  refine g_bipush m92_14 ?_
  refine h_ic_leT (xi := ((e : Nat) : Int)) (zi := 30) m92_16 (nI_toInt (by omega)) rfl (by omega) ?_
  refine g_gst m92_21 rfl ?_
  refine g_iconst m92_24 ?_
  refine g_iload m92_25 rfl ?_
  refine g_imul (u := (0 : Int32)) m92_27 (by decide) ?_
  refine g_iload_n m92_28 rfl ?_
  refine g_iadd (u := (0 : Int32)) m92_29 (by decide) ?_
  refine g_iald (x := (10 : Int32)) m92_30 rfl (show vp_in (nI 0) 28 from vp_in_nI (by decide) (by decide)) (by decide +kernel) ?_
  refine g_istore (L2 := [some (.ref (77)), some (.int (0)), some (.int (0)), some (.int (x)), some (.int (nI (e))), some (.int (0)), some (.int (10)), none, none, none]) m92_31 rfl rfl ?_
  refine g_aload_n m92_33 rfl ?_
  refine g_iload m92_34 rfl ?_
  refine h_cv (k := 45) (p := 77) (args := [.int (10)]) (rest := []) m92_36 cn_50 (Nat.le_of_ble_eq_true rfl) rfl rfl rfl (t_45 _ _) (Nat.le_of_ble_eq_true rfl) ?_
  refine c_begin (b := b) (c := 10) hb (by omega) ?_
  refine gwr0 ?_
  refine g_aload_n m92_39 rfl ?_
  refine h_gfI (k := 45) (p := 77) m92_40 rfl (t_45 _ _) rfl ((lgM_o (by decide) [10]).trans hk) ?_
  refine g_istore (L2 := [some (.ref (77)), some (.int (0)), some (.int (0)), some (.int (x)), some (.int (nI (e))), some (.int (0)), some (.int (10)), some (.int (0)), none, none]) m92_43 rfl rfl ?_
  refine g_gst m92_45 rfl ?_
  refine g_iload m92_48 rfl ?_
  refine g_iald (x := (-1 : Int32)) m92_50 rfl (show vp_in (nI 0) 7 from vp_in_nI (by decide) (by decide)) (by decide +kernel) ?_
  refine g_istore (L2 := [some (.ref (77)), some (.int (0)), some (.int (0)), some (.int (x)), some (.int (nI (e))), some (.int (0)), some (.int (10)), some (.int (0)), some (.int (-1)), none]) m92_51 rfl rfl ?_
  refine g_iload m92_53 rfl ?_
  refine g_iconst m92_55 ?_
  refine g_iadd (u := nI (e + 1)) m92_56 (nI_add e 1) ?_
  refine g_istore (L2 := [some (.ref (77)), some (.int (0)), some (.int (0)), some (.int (x)), some (.int (nI (e))), some (.int (0)), some (.int (10)), some (.int (0)), some (.int (-1)), some (.int (nI (e + 1)))]) m92_57 rfl rfl ?_
  refine g_iload m92_59 rfl ?_
  refine gs m92_61 ?_
  refine gwpc (pc' := 160) rfl ?_
  refine g_iload_n m92_160 rfl ?_
  refine g_aload_n m92_161 rfl ?_
  refine h_gfI (k := 45) (p := 77) m92_162 rfl (t_45 _ _) rfl ((lgM_o (by decide) [10]).trans h0) ?_
  refine g_iadd m92_165 rfl ?_
  refine g_iret m92_166 rt_92 ?_
  exact hQ
set_option maxRecDepth 20000 in
set_option maxHeartbeats 40000000 in
theorem c_sp_0_1_0 {b e : Nat} {x nv mv : Int32} (hb : m 45 4 = nI b) (hb40 : b + 2 ≤ 40) (hk : m 45 2 = nI 0) (h0 : m 45 0 = nv) (h1 : m 45 1 = mv) (he : e + 1 ≤ 30) (hQ : Q (some (.int ((x + nv) * (2 : Int32)))) (H (lgM m b [11, 10]) ln N)) : WP xs (d + 4) 92 0 0 [.ref (77), .int (1), .int (0), .int (x), .int (nI (e))] (H m ln N) Q := by
  refine wp_x mx_92 (L := [some (.ref (77)), some (.int (1)), some (.int (0)), some (.int (x)), some (.int (nI (e))), none, none, none, none, none]) (Nat.le_of_ble_eq_true rfl) rfl ?_
  refine g_iload_n m92_0 rfl ?_
  refine g_iload_n m92_1 rfl ?_
  refine g_cs (args := [.int (1), .int (0)]) (rest := []) 0 (Or.inl rfl) m92_2 (Nat.le_of_ble_eq_true rfl) rfl rfl (Nat.le_of_ble_eq_true rfl) ?_
  refine c_own_1_0 ?_
  refine gwr ?_
  refine g_istore (L2 := [some (.ref (77)), some (.int (1)), some (.int (0)), some (.int (x)), some (.int (nI (e))), some (.int (0)), none, none, none, none]) m92_5 rfl rfl ?_
  refine g_iload m92_7 rfl ?_
  refine h_if_ltF (xi := 0) (zi := 0) m92_9 rfl rfl (by decide) ?_
  refine g_iload m92_12 rfl ?_
  refine g_bipush m92_14 ?_
  refine h_ic_leT (xi := ((e : Nat) : Int)) (zi := 30) m92_16 (nI_toInt (by omega)) rfl (by omega) ?_
  refine g_gst m92_21 rfl ?_
  refine g_iconst m92_24 ?_
  refine g_iload m92_25 rfl ?_
  refine g_imul (u := (0 : Int32)) m92_27 (by decide) ?_
  refine g_iload_n m92_28 rfl ?_
  refine g_iadd (u := (1 : Int32)) m92_29 (by decide) ?_
  refine g_iald (x := (11 : Int32)) m92_30 rfl (show vp_in (nI 1) 28 from vp_in_nI (by decide) (by decide)) (by decide +kernel) ?_
  refine g_istore (L2 := [some (.ref (77)), some (.int (1)), some (.int (0)), some (.int (x)), some (.int (nI (e))), some (.int (0)), some (.int (11)), none, none, none]) m92_31 rfl rfl ?_
  refine g_aload_n m92_33 rfl ?_
  refine g_iload m92_34 rfl ?_
  refine h_cv (k := 45) (p := 77) (args := [.int (11)]) (rest := []) m92_36 cn_50 (Nat.le_of_ble_eq_true rfl) rfl rfl rfl (t_45 _ _) (Nat.le_of_ble_eq_true rfl) ?_
  refine c_begin (b := b) (c := 11) hb (by omega) ?_
  refine gwr0 ?_
  refine g_aload_n m92_39 rfl ?_
  refine h_gfI (k := 45) (p := 77) m92_40 rfl (t_45 _ _) rfl ((lgM_o (by decide) [11]).trans hk) ?_
  refine g_istore (L2 := [some (.ref (77)), some (.int (1)), some (.int (0)), some (.int (x)), some (.int (nI (e))), some (.int (0)), some (.int (11)), some (.int (0)), none, none]) m92_43 rfl rfl ?_
  refine g_gst m92_45 rfl ?_
  refine g_iload m92_48 rfl ?_
  refine g_iald (x := (-1 : Int32)) m92_50 rfl (show vp_in (nI 0) 7 from vp_in_nI (by decide) (by decide)) (by decide +kernel) ?_
  refine g_istore (L2 := [some (.ref (77)), some (.int (1)), some (.int (0)), some (.int (x)), some (.int (nI (e))), some (.int (0)), some (.int (11)), some (.int (0)), some (.int (-1)), none]) m92_51 rfl rfl ?_
  refine g_iload m92_53 rfl ?_
  refine g_iconst m92_55 ?_
  refine g_iadd (u := nI (e + 1)) m92_56 (nI_add e 1) ?_
  refine g_istore (L2 := [some (.ref (77)), some (.int (1)), some (.int (0)), some (.int (x)), some (.int (nI (e))), some (.int (0)), some (.int (11)), some (.int (0)), some (.int (-1)), some (.int (nI (e + 1)))]) m92_57 rfl rfl ?_
  refine g_iload m92_59 rfl ?_
  refine gs m92_61 ?_
  refine gwpc (pc' := 167) rfl ?_
  refine g_aload_n m92_167 rfl ?_
  refine g_iconst m92_168 ?_
  refine g_iload m92_169 rfl ?_
  refine g_iload_n m92_171 rfl ?_
  refine g_iload m92_172 rfl ?_
  refine g_cs (args := [.ref (77), .int (0), .int (0), .int (x), .int (nI (e + 1))]) (rest := []) 0 (Or.inl rfl) m92_174 (Nat.le_of_ble_eq_true rfl) rfl rfl (Nat.le_of_ble_eq_true rfl) ?_
  refine c_sp_0_0_0 (m := lgM m b [11]) (b := b + 1) (nv := nv) (mv := mv) (lgM_4 hb [11]) (by omega) ((lgM_o (by decide) [11]).trans hk) ((lgM_o (by decide) [11]).trans h0) ((lgM_o (by decide) [11]).trans h1) (by omega) ?_
  rw [show lgM (lgM m b [11]) (b + 1) [10] = lgM m b [11, 10] from lgM_a [11] [10]]
  refine gwr ?_
  refine g_iconst m92_177 ?_
  refine g_imul m92_178 rfl ?_
  refine g_iret m92_179 rt_92 ?_
  exact hQ
set_option maxRecDepth 20000 in
set_option maxHeartbeats 40000000 in
theorem c_sp_0_2_0 {b e : Nat} {x nv mv : Int32} (hb : m 45 4 = nI b) (hb40 : b + 1 ≤ 40) (hk : m 45 2 = nI 0) (h0 : m 45 0 = nv) (h1 : m 45 1 = mv) (he : e + 0 ≤ 30) (hQ : Q (some (.int (x - mv))) (H (lgM m b [12]) ln N)) : WP xs (d + 3) 92 0 0 [.ref (77), .int (2), .int (0), .int (x), .int (nI (e))] (H m ln N) Q := by
  refine wp_x mx_92 (L := [some (.ref (77)), some (.int (2)), some (.int (0)), some (.int (x)), some (.int (nI (e))), none, none, none, none, none]) (Nat.le_of_ble_eq_true rfl) rfl ?_
  refine g_iload_n m92_0 rfl ?_
  refine g_iload_n m92_1 rfl ?_
  refine g_cs (args := [.int (2), .int (0)]) (rest := []) 0 (Or.inl rfl) m92_2 (Nat.le_of_ble_eq_true rfl) rfl rfl (Nat.le_of_ble_eq_true rfl) ?_
  refine c_own_2_0 ?_
  refine gwr ?_
  refine g_istore (L2 := [some (.ref (77)), some (.int (2)), some (.int (0)), some (.int (x)), some (.int (nI (e))), some (.int (0)), none, none, none, none]) m92_5 rfl rfl ?_
  refine g_iload m92_7 rfl ?_
  refine h_if_ltF (xi := 0) (zi := 0) m92_9 rfl rfl (by decide) ?_
  refine g_iload m92_12 rfl ?_
  refine g_bipush m92_14 ?_
  refine h_ic_leT (xi := ((e : Nat) : Int)) (zi := 30) m92_16 (nI_toInt (by omega)) rfl (by omega) ?_
  refine g_gst m92_21 rfl ?_
  refine g_iconst m92_24 ?_
  refine g_iload m92_25 rfl ?_
  refine g_imul (u := (0 : Int32)) m92_27 (by decide) ?_
  refine g_iload_n m92_28 rfl ?_
  refine g_iadd (u := (2 : Int32)) m92_29 (by decide) ?_
  refine g_iald (x := (12 : Int32)) m92_30 rfl (show vp_in (nI 2) 28 from vp_in_nI (by decide) (by decide)) (by decide +kernel) ?_
  refine g_istore (L2 := [some (.ref (77)), some (.int (2)), some (.int (0)), some (.int (x)), some (.int (nI (e))), some (.int (0)), some (.int (12)), none, none, none]) m92_31 rfl rfl ?_
  refine g_aload_n m92_33 rfl ?_
  refine g_iload m92_34 rfl ?_
  refine h_cv (k := 45) (p := 77) (args := [.int (12)]) (rest := []) m92_36 cn_50 (Nat.le_of_ble_eq_true rfl) rfl rfl rfl (t_45 _ _) (Nat.le_of_ble_eq_true rfl) ?_
  refine c_begin (b := b) (c := 12) hb (by omega) ?_
  refine gwr0 ?_
  refine g_aload_n m92_39 rfl ?_
  refine h_gfI (k := 45) (p := 77) m92_40 rfl (t_45 _ _) rfl ((lgM_o (by decide) [12]).trans hk) ?_
  refine g_istore (L2 := [some (.ref (77)), some (.int (2)), some (.int (0)), some (.int (x)), some (.int (nI (e))), some (.int (0)), some (.int (12)), some (.int (0)), none, none]) m92_43 rfl rfl ?_
  refine g_gst m92_45 rfl ?_
  refine g_iload m92_48 rfl ?_
  refine g_iald (x := (-1 : Int32)) m92_50 rfl (show vp_in (nI 0) 7 from vp_in_nI (by decide) (by decide)) (by decide +kernel) ?_
  refine g_istore (L2 := [some (.ref (77)), some (.int (2)), some (.int (0)), some (.int (x)), some (.int (nI (e))), some (.int (0)), some (.int (12)), some (.int (0)), some (.int (-1)), none]) m92_51 rfl rfl ?_
  refine g_iload m92_53 rfl ?_
  refine g_iconst m92_55 ?_
  refine g_iadd (u := nI (e + 1)) m92_56 (nI_add e 1) ?_
  refine g_istore (L2 := [some (.ref (77)), some (.int (2)), some (.int (0)), some (.int (x)), some (.int (nI (e))), some (.int (0)), some (.int (12)), some (.int (0)), some (.int (-1)), some (.int (nI (e + 1)))]) m92_57 rfl rfl ?_
  refine g_iload m92_59 rfl ?_
  refine gs m92_61 ?_
  refine gwpc (pc' := 180) rfl ?_
  refine g_iload_n m92_180 rfl ?_
  refine g_aload_n m92_181 rfl ?_
  refine h_gfI (k := 45) (p := 77) m92_182 rfl (t_45 _ _) rfl ((lgM_o (by decide) [12]).trans h1) ?_
  refine g_isub m92_185 rfl ?_
  refine g_iret m92_186 rt_92 ?_
  exact hQ
set_option maxRecDepth 20000 in
set_option maxHeartbeats 40000000 in
theorem c_sp_0_3_0 {b e : Nat} {x nv mv : Int32} (hb : m 45 4 = nI b) (hb40 : b + 4 ≤ 40) (hk : m 45 2 = nI 0) (h0 : m 45 0 = nv) (h1 : m 45 1 = mv) (he : e + 2 ≤ 30) (hQ : Q (some (.int (((x + nv) * (2 : Int32)) ^^^ (x - mv)))) (H (lgM m b [13, 11, 10, 12]) ln N)) : WP xs (d + 5) 92 0 0 [.ref (77), .int (3), .int (0), .int (x), .int (nI (e))] (H m ln N) Q := by
  refine wp_x mx_92 (L := [some (.ref (77)), some (.int (3)), some (.int (0)), some (.int (x)), some (.int (nI (e))), none, none, none, none, none]) (Nat.le_of_ble_eq_true rfl) rfl ?_
  refine g_iload_n m92_0 rfl ?_
  refine g_iload_n m92_1 rfl ?_
  refine g_cs (args := [.int (3), .int (0)]) (rest := []) 0 (Or.inl rfl) m92_2 (Nat.le_of_ble_eq_true rfl) rfl rfl (Nat.le_of_ble_eq_true rfl) ?_
  refine c_own_3_0 ?_
  refine gwr ?_
  refine g_istore (L2 := [some (.ref (77)), some (.int (3)), some (.int (0)), some (.int (x)), some (.int (nI (e))), some (.int (0)), none, none, none, none]) m92_5 rfl rfl ?_
  refine g_iload m92_7 rfl ?_
  refine h_if_ltF (xi := 0) (zi := 0) m92_9 rfl rfl (by decide) ?_
  refine g_iload m92_12 rfl ?_
  refine g_bipush m92_14 ?_
  refine h_ic_leT (xi := ((e : Nat) : Int)) (zi := 30) m92_16 (nI_toInt (by omega)) rfl (by omega) ?_
  refine g_gst m92_21 rfl ?_
  refine g_iconst m92_24 ?_
  refine g_iload m92_25 rfl ?_
  refine g_imul (u := (0 : Int32)) m92_27 (by decide) ?_
  refine g_iload_n m92_28 rfl ?_
  refine g_iadd (u := (3 : Int32)) m92_29 (by decide) ?_
  refine g_iald (x := (13 : Int32)) m92_30 rfl (show vp_in (nI 3) 28 from vp_in_nI (by decide) (by decide)) (by decide +kernel) ?_
  refine g_istore (L2 := [some (.ref (77)), some (.int (3)), some (.int (0)), some (.int (x)), some (.int (nI (e))), some (.int (0)), some (.int (13)), none, none, none]) m92_31 rfl rfl ?_
  refine g_aload_n m92_33 rfl ?_
  refine g_iload m92_34 rfl ?_
  refine h_cv (k := 45) (p := 77) (args := [.int (13)]) (rest := []) m92_36 cn_50 (Nat.le_of_ble_eq_true rfl) rfl rfl rfl (t_45 _ _) (Nat.le_of_ble_eq_true rfl) ?_
  refine c_begin (b := b) (c := 13) hb (by omega) ?_
  refine gwr0 ?_
  refine g_aload_n m92_39 rfl ?_
  refine h_gfI (k := 45) (p := 77) m92_40 rfl (t_45 _ _) rfl ((lgM_o (by decide) [13]).trans hk) ?_
  refine g_istore (L2 := [some (.ref (77)), some (.int (3)), some (.int (0)), some (.int (x)), some (.int (nI (e))), some (.int (0)), some (.int (13)), some (.int (0)), none, none]) m92_43 rfl rfl ?_
  refine g_gst m92_45 rfl ?_
  refine g_iload m92_48 rfl ?_
  refine g_iald (x := (-1 : Int32)) m92_50 rfl (show vp_in (nI 0) 7 from vp_in_nI (by decide) (by decide)) (by decide +kernel) ?_
  refine g_istore (L2 := [some (.ref (77)), some (.int (3)), some (.int (0)), some (.int (x)), some (.int (nI (e))), some (.int (0)), some (.int (13)), some (.int (0)), some (.int (-1)), none]) m92_51 rfl rfl ?_
  refine g_iload m92_53 rfl ?_
  refine g_iconst m92_55 ?_
  refine g_iadd (u := nI (e + 1)) m92_56 (nI_add e 1) ?_
  refine g_istore (L2 := [some (.ref (77)), some (.int (3)), some (.int (0)), some (.int (x)), some (.int (nI (e))), some (.int (0)), some (.int (13)), some (.int (0)), some (.int (-1)), some (.int (nI (e + 1)))]) m92_57 rfl rfl ?_
  refine g_iload m92_59 rfl ?_
  refine gs m92_61 ?_
  refine gwpc (pc' := 187) rfl ?_
  refine g_aload_n m92_187 rfl ?_
  refine g_iconst m92_188 ?_
  refine g_iload m92_189 rfl ?_
  refine g_iload_n m92_191 rfl ?_
  refine g_iload m92_192 rfl ?_
  refine g_cs (args := [.ref (77), .int (1), .int (0), .int (x), .int (nI (e + 1))]) (rest := []) 0 (Or.inl rfl) m92_194 (Nat.le_of_ble_eq_true rfl) rfl rfl (Nat.le_of_ble_eq_true rfl) ?_
  refine c_sp_0_1_0 (m := lgM m b [13]) (b := b + 1) (nv := nv) (mv := mv) (lgM_4 hb [13]) (by omega) ((lgM_o (by decide) [13]).trans hk) ((lgM_o (by decide) [13]).trans h0) ((lgM_o (by decide) [13]).trans h1) (by omega) ?_
  rw [show lgM (lgM m b [13]) (b + 1) [11, 10] = lgM m b [13, 11, 10] from lgM_a [13] [11, 10]]
  refine gwr ?_
  refine g_aload_n m92_197 rfl ?_
  refine g_iconst m92_198 ?_
  refine g_iload m92_199 rfl ?_
  refine g_iload_n m92_201 rfl ?_
  refine g_iload m92_202 rfl ?_
  refine g_cs (args := [.ref (77), .int (2), .int (0), .int (x), .int (nI (e + 1))]) (rest := [.int (((x + nv) * (2 : Int32)))]) 0 (Or.inl rfl) m92_204 (Nat.le_of_ble_eq_true rfl) rfl rfl (Nat.le_of_ble_eq_true rfl) ?_
  refine c_sp_0_2_0 (m := lgM m b [13, 11, 10]) (b := b + 3) (nv := nv) (mv := mv) (lgM_4 hb [13, 11, 10]) (by omega) ((lgM_o (by decide) [13, 11, 10]).trans hk) ((lgM_o (by decide) [13, 11, 10]).trans h0) ((lgM_o (by decide) [13, 11, 10]).trans h1) (by omega) ?_
  rw [show lgM (lgM m b [13, 11, 10]) (b + 3) [12] = lgM m b [13, 11, 10, 12] from lgM_a [13, 11, 10] [12]]
  refine gwr ?_
  refine g_ixor m92_207 rfl ?_
  refine g_iret m92_208 rt_92 ?_
  exact hQ
set_option maxRecDepth 20000 in
set_option maxHeartbeats 40000000 in
theorem c_sp_1_0_0 {b e : Nat} {x nv mv : Int32} (hb : m 45 4 = nI b) (hb40 : b + 1 ≤ 40) (hk : m 45 2 = nI 1) (h0 : m 45 0 = nv) (h1 : m 45 1 = mv) (he : e + 0 ≤ 30) (hQ : Q (some (.int (x + nv))) (H (lgM m b [10]) ln N)) : WP xs (d + 3) 92 0 0 [.ref (77), .int (0), .int (0), .int (x), .int (nI (e))] (H m ln N) Q := by
  refine wp_x mx_92 (L := [some (.ref (77)), some (.int (0)), some (.int (0)), some (.int (x)), some (.int (nI (e))), none, none, none, none, none]) (Nat.le_of_ble_eq_true rfl) rfl ?_
  refine g_iload_n m92_0 rfl ?_
  refine g_iload_n m92_1 rfl ?_
  refine g_cs (args := [.int (0), .int (0)]) (rest := []) 0 (Or.inl rfl) m92_2 (Nat.le_of_ble_eq_true rfl) rfl rfl (Nat.le_of_ble_eq_true rfl) ?_
  refine c_own_0_0 ?_
  refine gwr ?_
  refine g_istore (L2 := [some (.ref (77)), some (.int (0)), some (.int (0)), some (.int (x)), some (.int (nI (e))), some (.int (0)), none, none, none, none]) m92_5 rfl rfl ?_
  refine g_iload m92_7 rfl ?_
  refine h_if_ltF (xi := 0) (zi := 0) m92_9 rfl rfl (by decide) ?_
  refine g_iload m92_12 rfl ?_
  refine g_bipush m92_14 ?_
  refine h_ic_leT (xi := ((e : Nat) : Int)) (zi := 30) m92_16 (nI_toInt (by omega)) rfl (by omega) ?_
  refine g_gst m92_21 rfl ?_
  refine g_iconst m92_24 ?_
  refine g_iload m92_25 rfl ?_
  refine g_imul (u := (0 : Int32)) m92_27 (by decide) ?_
  refine g_iload_n m92_28 rfl ?_
  refine g_iadd (u := (0 : Int32)) m92_29 (by decide) ?_
  refine g_iald (x := (10 : Int32)) m92_30 rfl (show vp_in (nI 0) 28 from vp_in_nI (by decide) (by decide)) (by decide +kernel) ?_
  refine g_istore (L2 := [some (.ref (77)), some (.int (0)), some (.int (0)), some (.int (x)), some (.int (nI (e))), some (.int (0)), some (.int (10)), none, none, none]) m92_31 rfl rfl ?_
  refine g_aload_n m92_33 rfl ?_
  refine g_iload m92_34 rfl ?_
  refine h_cv (k := 45) (p := 77) (args := [.int (10)]) (rest := []) m92_36 cn_50 (Nat.le_of_ble_eq_true rfl) rfl rfl rfl (t_45 _ _) (Nat.le_of_ble_eq_true rfl) ?_
  refine c_begin (b := b) (c := 10) hb (by omega) ?_
  refine gwr0 ?_
  refine g_aload_n m92_39 rfl ?_
  refine h_gfI (k := 45) (p := 77) m92_40 rfl (t_45 _ _) rfl ((lgM_o (by decide) [10]).trans hk) ?_
  refine g_istore (L2 := [some (.ref (77)), some (.int (0)), some (.int (0)), some (.int (x)), some (.int (nI (e))), some (.int (0)), some (.int (10)), some (.int (1)), none, none]) m92_43 rfl rfl ?_
  refine g_gst m92_45 rfl ?_
  refine g_iload m92_48 rfl ?_
  refine g_iald (x := (-1 : Int32)) m92_50 rfl (show vp_in (nI 0) 7 from vp_in_nI (by decide) (by decide)) (by decide +kernel) ?_
  refine g_istore (L2 := [some (.ref (77)), some (.int (0)), some (.int (0)), some (.int (x)), some (.int (nI (e))), some (.int (0)), some (.int (10)), some (.int (1)), some (.int (-1)), none]) m92_51 rfl rfl ?_
  refine g_iload m92_53 rfl ?_
  refine g_iconst m92_55 ?_
  refine g_iadd (u := nI (e + 1)) m92_56 (nI_add e 1) ?_
  refine g_istore (L2 := [some (.ref (77)), some (.int (0)), some (.int (0)), some (.int (x)), some (.int (nI (e))), some (.int (0)), some (.int (10)), some (.int (1)), some (.int (-1)), some (.int (nI (e + 1)))]) m92_57 rfl rfl ?_
  refine g_iload m92_59 rfl ?_
  refine gs m92_61 ?_
  refine gwpc (pc' := 160) rfl ?_
  refine g_iload_n m92_160 rfl ?_
  refine g_aload_n m92_161 rfl ?_
  refine h_gfI (k := 45) (p := 77) m92_162 rfl (t_45 _ _) rfl ((lgM_o (by decide) [10]).trans h0) ?_
  refine g_iadd m92_165 rfl ?_
  refine g_iret m92_166 rt_92 ?_
  exact hQ
set_option maxRecDepth 20000 in
set_option maxHeartbeats 40000000 in
theorem c_sp_1_0_1 {b e : Nat} {x nv mv : Int32} (hb : m 45 4 = nI b) (hb40 : b + 2 ≤ 40) (hk : m 45 2 = nI 1) (h0 : m 45 0 = nv) (h1 : m 45 1 = mv) (he : e + 1 ≤ 30) (hQ : Q (some (.int ((x + nv) * (3 : Int32)))) (H (lgM m b [20, 10]) ln N)) : WP xs (d + 4) 92 0 0 [.ref (77), .int (0), .int (1), .int (x), .int (nI (e))] (H m ln N) Q := by
  refine wp_x mx_92 (L := [some (.ref (77)), some (.int (0)), some (.int (1)), some (.int (x)), some (.int (nI (e))), none, none, none, none, none]) (Nat.le_of_ble_eq_true rfl) rfl ?_
  refine g_iload_n m92_0 rfl ?_
  refine g_iload_n m92_1 rfl ?_
  refine g_cs (args := [.int (0), .int (1)]) (rest := []) 0 (Or.inl rfl) m92_2 (Nat.le_of_ble_eq_true rfl) rfl rfl (Nat.le_of_ble_eq_true rfl) ?_
  refine c_own_0_1 ?_
  refine gwr ?_
  refine g_istore (L2 := [some (.ref (77)), some (.int (0)), some (.int (1)), some (.int (x)), some (.int (nI (e))), some (.int (1)), none, none, none, none]) m92_5 rfl rfl ?_
  refine g_iload m92_7 rfl ?_
  refine h_if_ltF (xi := 1) (zi := 0) m92_9 rfl rfl (by decide) ?_
  refine g_iload m92_12 rfl ?_
  refine g_bipush m92_14 ?_
  refine h_ic_leT (xi := ((e : Nat) : Int)) (zi := 30) m92_16 (nI_toInt (by omega)) rfl (by omega) ?_
  refine g_gst m92_21 rfl ?_
  refine g_iconst m92_24 ?_
  refine g_iload m92_25 rfl ?_
  refine g_imul (u := (4 : Int32)) m92_27 (by decide) ?_
  refine g_iload_n m92_28 rfl ?_
  refine g_iadd (u := (4 : Int32)) m92_29 (by decide) ?_
  refine g_iald (x := (20 : Int32)) m92_30 rfl (show vp_in (nI 4) 28 from vp_in_nI (by decide) (by decide)) (by decide +kernel) ?_
  refine g_istore (L2 := [some (.ref (77)), some (.int (0)), some (.int (1)), some (.int (x)), some (.int (nI (e))), some (.int (1)), some (.int (20)), none, none, none]) m92_31 rfl rfl ?_
  refine g_aload_n m92_33 rfl ?_
  refine g_iload m92_34 rfl ?_
  refine h_cv (k := 45) (p := 77) (args := [.int (20)]) (rest := []) m92_36 cn_50 (Nat.le_of_ble_eq_true rfl) rfl rfl rfl (t_45 _ _) (Nat.le_of_ble_eq_true rfl) ?_
  refine c_begin (b := b) (c := 20) hb (by omega) ?_
  refine gwr0 ?_
  refine g_aload_n m92_39 rfl ?_
  refine h_gfI (k := 45) (p := 77) m92_40 rfl (t_45 _ _) rfl ((lgM_o (by decide) [20]).trans hk) ?_
  refine g_istore (L2 := [some (.ref (77)), some (.int (0)), some (.int (1)), some (.int (x)), some (.int (nI (e))), some (.int (1)), some (.int (20)), some (.int (1)), none, none]) m92_43 rfl rfl ?_
  refine g_gst m92_45 rfl ?_
  refine g_iload m92_48 rfl ?_
  refine g_iald (x := (0 : Int32)) m92_50 rfl (show vp_in (nI 1) 7 from vp_in_nI (by decide) (by decide)) (by decide +kernel) ?_
  refine g_istore (L2 := [some (.ref (77)), some (.int (0)), some (.int (1)), some (.int (x)), some (.int (nI (e))), some (.int (1)), some (.int (20)), some (.int (1)), some (.int (0)), none]) m92_51 rfl rfl ?_
  refine g_iload m92_53 rfl ?_
  refine g_iconst m92_55 ?_
  refine g_iadd (u := nI (e + 1)) m92_56 (nI_add e 1) ?_
  refine g_istore (L2 := [some (.ref (77)), some (.int (0)), some (.int (1)), some (.int (x)), some (.int (nI (e))), some (.int (1)), some (.int (20)), some (.int (1)), some (.int (0)), some (.int (nI (e + 1)))]) m92_57 rfl rfl ?_
  refine g_iload m92_59 rfl ?_
  refine gs m92_61 ?_
  refine gwpc (pc' := 209) rfl ?_
  refine g_aload_n m92_209 rfl ?_
  refine g_iconst m92_210 ?_
  refine g_iload m92_211 rfl ?_
  refine g_iload_n m92_213 rfl ?_
  refine g_iload m92_214 rfl ?_
  refine g_cs (args := [.ref (77), .int (0), .int (0), .int (x), .int (nI (e + 1))]) (rest := []) 0 (Or.inl rfl) m92_216 (Nat.le_of_ble_eq_true rfl) rfl rfl (Nat.le_of_ble_eq_true rfl) ?_
  refine c_sp_1_0_0 (m := lgM m b [20]) (b := b + 1) (nv := nv) (mv := mv) (lgM_4 hb [20]) (by omega) ((lgM_o (by decide) [20]).trans hk) ((lgM_o (by decide) [20]).trans h0) ((lgM_o (by decide) [20]).trans h1) (by omega) ?_
  rw [show lgM (lgM m b [20]) (b + 1) [10] = lgM m b [20, 10] from lgM_a [20] [10]]
  refine gwr ?_
  refine g_iconst m92_219 ?_
  refine g_imul m92_220 rfl ?_
  refine g_iret m92_221 rt_92 ?_
  exact hQ
set_option maxRecDepth 20000 in
set_option maxHeartbeats 40000000 in
theorem c_sp_1_1_1 {b e : Nat} {x nv mv : Int32} (hb : m 45 4 = nI b) (hb40 : b + 3 ≤ 40) (hk : m 45 2 = nI 1) (h0 : m 45 0 = nv) (h1 : m 45 1 = mv) (he : e + 2 ≤ 30) (hQ : Q (some (.int (((x + nv) * (3 : Int32)) * (2 : Int32)))) (H (lgM m b [11, 20, 10]) ln N)) : WP xs (d + 5) 92 0 0 [.ref (77), .int (1), .int (1), .int (x), .int (nI (e))] (H m ln N) Q := by
  refine wp_x mx_92 (L := [some (.ref (77)), some (.int (1)), some (.int (1)), some (.int (x)), some (.int (nI (e))), none, none, none, none, none]) (Nat.le_of_ble_eq_true rfl) rfl ?_
  refine g_iload_n m92_0 rfl ?_
  refine g_iload_n m92_1 rfl ?_
  refine g_cs (args := [.int (1), .int (1)]) (rest := []) 0 (Or.inl rfl) m92_2 (Nat.le_of_ble_eq_true rfl) rfl rfl (Nat.le_of_ble_eq_true rfl) ?_
  refine c_own_1_1 ?_
  refine gwr ?_
  refine g_istore (L2 := [some (.ref (77)), some (.int (1)), some (.int (1)), some (.int (x)), some (.int (nI (e))), some (.int (0)), none, none, none, none]) m92_5 rfl rfl ?_
  refine g_iload m92_7 rfl ?_
  refine h_if_ltF (xi := 0) (zi := 0) m92_9 rfl rfl (by decide) ?_
  refine g_iload m92_12 rfl ?_
  refine g_bipush m92_14 ?_
  refine h_ic_leT (xi := ((e : Nat) : Int)) (zi := 30) m92_16 (nI_toInt (by omega)) rfl (by omega) ?_
  refine g_gst m92_21 rfl ?_
  refine g_iconst m92_24 ?_
  refine g_iload m92_25 rfl ?_
  refine g_imul (u := (0 : Int32)) m92_27 (by decide) ?_
  refine g_iload_n m92_28 rfl ?_
  refine g_iadd (u := (1 : Int32)) m92_29 (by decide) ?_
  refine g_iald (x := (11 : Int32)) m92_30 rfl (show vp_in (nI 1) 28 from vp_in_nI (by decide) (by decide)) (by decide +kernel) ?_
  refine g_istore (L2 := [some (.ref (77)), some (.int (1)), some (.int (1)), some (.int (x)), some (.int (nI (e))), some (.int (0)), some (.int (11)), none, none, none]) m92_31 rfl rfl ?_
  refine g_aload_n m92_33 rfl ?_
  refine g_iload m92_34 rfl ?_
  refine h_cv (k := 45) (p := 77) (args := [.int (11)]) (rest := []) m92_36 cn_50 (Nat.le_of_ble_eq_true rfl) rfl rfl rfl (t_45 _ _) (Nat.le_of_ble_eq_true rfl) ?_
  refine c_begin (b := b) (c := 11) hb (by omega) ?_
  refine gwr0 ?_
  refine g_aload_n m92_39 rfl ?_
  refine h_gfI (k := 45) (p := 77) m92_40 rfl (t_45 _ _) rfl ((lgM_o (by decide) [11]).trans hk) ?_
  refine g_istore (L2 := [some (.ref (77)), some (.int (1)), some (.int (1)), some (.int (x)), some (.int (nI (e))), some (.int (0)), some (.int (11)), some (.int (1)), none, none]) m92_43 rfl rfl ?_
  refine g_gst m92_45 rfl ?_
  refine g_iload m92_48 rfl ?_
  refine g_iald (x := (-1 : Int32)) m92_50 rfl (show vp_in (nI 0) 7 from vp_in_nI (by decide) (by decide)) (by decide +kernel) ?_
  refine g_istore (L2 := [some (.ref (77)), some (.int (1)), some (.int (1)), some (.int (x)), some (.int (nI (e))), some (.int (0)), some (.int (11)), some (.int (1)), some (.int (-1)), none]) m92_51 rfl rfl ?_
  refine g_iload m92_53 rfl ?_
  refine g_iconst m92_55 ?_
  refine g_iadd (u := nI (e + 1)) m92_56 (nI_add e 1) ?_
  refine g_istore (L2 := [some (.ref (77)), some (.int (1)), some (.int (1)), some (.int (x)), some (.int (nI (e))), some (.int (0)), some (.int (11)), some (.int (1)), some (.int (-1)), some (.int (nI (e + 1)))]) m92_57 rfl rfl ?_
  refine g_iload m92_59 rfl ?_
  refine gs m92_61 ?_
  refine gwpc (pc' := 167) rfl ?_
  refine g_aload_n m92_167 rfl ?_
  refine g_iconst m92_168 ?_
  refine g_iload m92_169 rfl ?_
  refine g_iload_n m92_171 rfl ?_
  refine g_iload m92_172 rfl ?_
  refine g_cs (args := [.ref (77), .int (0), .int (1), .int (x), .int (nI (e + 1))]) (rest := []) 0 (Or.inl rfl) m92_174 (Nat.le_of_ble_eq_true rfl) rfl rfl (Nat.le_of_ble_eq_true rfl) ?_
  refine c_sp_1_0_1 (m := lgM m b [11]) (b := b + 1) (nv := nv) (mv := mv) (lgM_4 hb [11]) (by omega) ((lgM_o (by decide) [11]).trans hk) ((lgM_o (by decide) [11]).trans h0) ((lgM_o (by decide) [11]).trans h1) (by omega) ?_
  rw [show lgM (lgM m b [11]) (b + 1) [20, 10] = lgM m b [11, 20, 10] from lgM_a [11] [20, 10]]
  refine gwr ?_
  refine g_iconst m92_177 ?_
  refine g_imul m92_178 rfl ?_
  refine g_iret m92_179 rt_92 ?_
  exact hQ
set_option maxRecDepth 20000 in
set_option maxHeartbeats 40000000 in
theorem c_sp_1_2_1 {b e : Nat} {x nv mv : Int32} (hb : m 45 4 = nI b) (hb40 : b + 1 ≤ 40) (hk : m 45 2 = nI 1) (h0 : m 45 0 = nv) (h1 : m 45 1 = mv) (he : e + 0 ≤ 30) (hQ : Q (some (.int (x - mv))) (H (lgM m b [12]) ln N)) : WP xs (d + 3) 92 0 0 [.ref (77), .int (2), .int (1), .int (x), .int (nI (e))] (H m ln N) Q := by
  refine wp_x mx_92 (L := [some (.ref (77)), some (.int (2)), some (.int (1)), some (.int (x)), some (.int (nI (e))), none, none, none, none, none]) (Nat.le_of_ble_eq_true rfl) rfl ?_
  refine g_iload_n m92_0 rfl ?_
  refine g_iload_n m92_1 rfl ?_
  refine g_cs (args := [.int (2), .int (1)]) (rest := []) 0 (Or.inl rfl) m92_2 (Nat.le_of_ble_eq_true rfl) rfl rfl (Nat.le_of_ble_eq_true rfl) ?_
  refine c_own_2_1 ?_
  refine gwr ?_
  refine g_istore (L2 := [some (.ref (77)), some (.int (2)), some (.int (1)), some (.int (x)), some (.int (nI (e))), some (.int (0)), none, none, none, none]) m92_5 rfl rfl ?_
  refine g_iload m92_7 rfl ?_
  refine h_if_ltF (xi := 0) (zi := 0) m92_9 rfl rfl (by decide) ?_
  refine g_iload m92_12 rfl ?_
  refine g_bipush m92_14 ?_
  refine h_ic_leT (xi := ((e : Nat) : Int)) (zi := 30) m92_16 (nI_toInt (by omega)) rfl (by omega) ?_
  refine g_gst m92_21 rfl ?_
  refine g_iconst m92_24 ?_
  refine g_iload m92_25 rfl ?_
  refine g_imul (u := (0 : Int32)) m92_27 (by decide) ?_
  refine g_iload_n m92_28 rfl ?_
  refine g_iadd (u := (2 : Int32)) m92_29 (by decide) ?_
  refine g_iald (x := (12 : Int32)) m92_30 rfl (show vp_in (nI 2) 28 from vp_in_nI (by decide) (by decide)) (by decide +kernel) ?_
  refine g_istore (L2 := [some (.ref (77)), some (.int (2)), some (.int (1)), some (.int (x)), some (.int (nI (e))), some (.int (0)), some (.int (12)), none, none, none]) m92_31 rfl rfl ?_
  refine g_aload_n m92_33 rfl ?_
  refine g_iload m92_34 rfl ?_
  refine h_cv (k := 45) (p := 77) (args := [.int (12)]) (rest := []) m92_36 cn_50 (Nat.le_of_ble_eq_true rfl) rfl rfl rfl (t_45 _ _) (Nat.le_of_ble_eq_true rfl) ?_
  refine c_begin (b := b) (c := 12) hb (by omega) ?_
  refine gwr0 ?_
  refine g_aload_n m92_39 rfl ?_
  refine h_gfI (k := 45) (p := 77) m92_40 rfl (t_45 _ _) rfl ((lgM_o (by decide) [12]).trans hk) ?_
  refine g_istore (L2 := [some (.ref (77)), some (.int (2)), some (.int (1)), some (.int (x)), some (.int (nI (e))), some (.int (0)), some (.int (12)), some (.int (1)), none, none]) m92_43 rfl rfl ?_
  refine g_gst m92_45 rfl ?_
  refine g_iload m92_48 rfl ?_
  refine g_iald (x := (-1 : Int32)) m92_50 rfl (show vp_in (nI 0) 7 from vp_in_nI (by decide) (by decide)) (by decide +kernel) ?_
  refine g_istore (L2 := [some (.ref (77)), some (.int (2)), some (.int (1)), some (.int (x)), some (.int (nI (e))), some (.int (0)), some (.int (12)), some (.int (1)), some (.int (-1)), none]) m92_51 rfl rfl ?_
  refine g_iload m92_53 rfl ?_
  refine g_iconst m92_55 ?_
  refine g_iadd (u := nI (e + 1)) m92_56 (nI_add e 1) ?_
  refine g_istore (L2 := [some (.ref (77)), some (.int (2)), some (.int (1)), some (.int (x)), some (.int (nI (e))), some (.int (0)), some (.int (12)), some (.int (1)), some (.int (-1)), some (.int (nI (e + 1)))]) m92_57 rfl rfl ?_
  refine g_iload m92_59 rfl ?_
  refine gs m92_61 ?_
  refine gwpc (pc' := 180) rfl ?_
  refine g_iload_n m92_180 rfl ?_
  refine g_aload_n m92_181 rfl ?_
  refine h_gfI (k := 45) (p := 77) m92_182 rfl (t_45 _ _) rfl ((lgM_o (by decide) [12]).trans h1) ?_
  refine g_isub m92_185 rfl ?_
  refine g_iret m92_186 rt_92 ?_
  exact hQ
set_option maxRecDepth 20000 in
set_option maxHeartbeats 40000000 in
theorem c_sp_1_3_1 {b e : Nat} {x nv mv : Int32} (hb : m 45 4 = nI b) (hb40 : b + 5 ≤ 40) (hk : m 45 2 = nI 1) (h0 : m 45 0 = nv) (h1 : m 45 1 = mv) (he : e + 3 ≤ 30) (hQ : Q (some (.int ((((x + nv) * (3 : Int32)) * (2 : Int32)) ^^^ (x - mv)))) (H (lgM m b [13, 11, 20, 10, 12]) ln N)) : WP xs (d + 6) 92 0 0 [.ref (77), .int (3), .int (1), .int (x), .int (nI (e))] (H m ln N) Q := by
  refine wp_x mx_92 (L := [some (.ref (77)), some (.int (3)), some (.int (1)), some (.int (x)), some (.int (nI (e))), none, none, none, none, none]) (Nat.le_of_ble_eq_true rfl) rfl ?_
  refine g_iload_n m92_0 rfl ?_
  refine g_iload_n m92_1 rfl ?_
  refine g_cs (args := [.int (3), .int (1)]) (rest := []) 0 (Or.inl rfl) m92_2 (Nat.le_of_ble_eq_true rfl) rfl rfl (Nat.le_of_ble_eq_true rfl) ?_
  refine c_own_3_1 ?_
  refine gwr ?_
  refine g_istore (L2 := [some (.ref (77)), some (.int (3)), some (.int (1)), some (.int (x)), some (.int (nI (e))), some (.int (0)), none, none, none, none]) m92_5 rfl rfl ?_
  refine g_iload m92_7 rfl ?_
  refine h_if_ltF (xi := 0) (zi := 0) m92_9 rfl rfl (by decide) ?_
  refine g_iload m92_12 rfl ?_
  refine g_bipush m92_14 ?_
  refine h_ic_leT (xi := ((e : Nat) : Int)) (zi := 30) m92_16 (nI_toInt (by omega)) rfl (by omega) ?_
  refine g_gst m92_21 rfl ?_
  refine g_iconst m92_24 ?_
  refine g_iload m92_25 rfl ?_
  refine g_imul (u := (0 : Int32)) m92_27 (by decide) ?_
  refine g_iload_n m92_28 rfl ?_
  refine g_iadd (u := (3 : Int32)) m92_29 (by decide) ?_
  refine g_iald (x := (13 : Int32)) m92_30 rfl (show vp_in (nI 3) 28 from vp_in_nI (by decide) (by decide)) (by decide +kernel) ?_
  refine g_istore (L2 := [some (.ref (77)), some (.int (3)), some (.int (1)), some (.int (x)), some (.int (nI (e))), some (.int (0)), some (.int (13)), none, none, none]) m92_31 rfl rfl ?_
  refine g_aload_n m92_33 rfl ?_
  refine g_iload m92_34 rfl ?_
  refine h_cv (k := 45) (p := 77) (args := [.int (13)]) (rest := []) m92_36 cn_50 (Nat.le_of_ble_eq_true rfl) rfl rfl rfl (t_45 _ _) (Nat.le_of_ble_eq_true rfl) ?_
  refine c_begin (b := b) (c := 13) hb (by omega) ?_
  refine gwr0 ?_
  refine g_aload_n m92_39 rfl ?_
  refine h_gfI (k := 45) (p := 77) m92_40 rfl (t_45 _ _) rfl ((lgM_o (by decide) [13]).trans hk) ?_
  refine g_istore (L2 := [some (.ref (77)), some (.int (3)), some (.int (1)), some (.int (x)), some (.int (nI (e))), some (.int (0)), some (.int (13)), some (.int (1)), none, none]) m92_43 rfl rfl ?_
  refine g_gst m92_45 rfl ?_
  refine g_iload m92_48 rfl ?_
  refine g_iald (x := (-1 : Int32)) m92_50 rfl (show vp_in (nI 0) 7 from vp_in_nI (by decide) (by decide)) (by decide +kernel) ?_
  refine g_istore (L2 := [some (.ref (77)), some (.int (3)), some (.int (1)), some (.int (x)), some (.int (nI (e))), some (.int (0)), some (.int (13)), some (.int (1)), some (.int (-1)), none]) m92_51 rfl rfl ?_
  refine g_iload m92_53 rfl ?_
  refine g_iconst m92_55 ?_
  refine g_iadd (u := nI (e + 1)) m92_56 (nI_add e 1) ?_
  refine g_istore (L2 := [some (.ref (77)), some (.int (3)), some (.int (1)), some (.int (x)), some (.int (nI (e))), some (.int (0)), some (.int (13)), some (.int (1)), some (.int (-1)), some (.int (nI (e + 1)))]) m92_57 rfl rfl ?_
  refine g_iload m92_59 rfl ?_
  refine gs m92_61 ?_
  refine gwpc (pc' := 187) rfl ?_
  refine g_aload_n m92_187 rfl ?_
  refine g_iconst m92_188 ?_
  refine g_iload m92_189 rfl ?_
  refine g_iload_n m92_191 rfl ?_
  refine g_iload m92_192 rfl ?_
  refine g_cs (args := [.ref (77), .int (1), .int (1), .int (x), .int (nI (e + 1))]) (rest := []) 0 (Or.inl rfl) m92_194 (Nat.le_of_ble_eq_true rfl) rfl rfl (Nat.le_of_ble_eq_true rfl) ?_
  refine c_sp_1_1_1 (m := lgM m b [13]) (b := b + 1) (nv := nv) (mv := mv) (lgM_4 hb [13]) (by omega) ((lgM_o (by decide) [13]).trans hk) ((lgM_o (by decide) [13]).trans h0) ((lgM_o (by decide) [13]).trans h1) (by omega) ?_
  rw [show lgM (lgM m b [13]) (b + 1) [11, 20, 10] = lgM m b [13, 11, 20, 10] from lgM_a [13] [11, 20, 10]]
  refine gwr ?_
  refine g_aload_n m92_197 rfl ?_
  refine g_iconst m92_198 ?_
  refine g_iload m92_199 rfl ?_
  refine g_iload_n m92_201 rfl ?_
  refine g_iload m92_202 rfl ?_
  refine g_cs (args := [.ref (77), .int (2), .int (1), .int (x), .int (nI (e + 1))]) (rest := [.int ((((x + nv) * (3 : Int32)) * (2 : Int32)))]) 0 (Or.inl rfl) m92_204 (Nat.le_of_ble_eq_true rfl) rfl rfl (Nat.le_of_ble_eq_true rfl) ?_
  refine c_sp_1_2_1 (m := lgM m b [13, 11, 20, 10]) (b := b + 4) (nv := nv) (mv := mv) (lgM_4 hb [13, 11, 20, 10]) (by omega) ((lgM_o (by decide) [13, 11, 20, 10]).trans hk) ((lgM_o (by decide) [13, 11, 20, 10]).trans h0) ((lgM_o (by decide) [13, 11, 20, 10]).trans h1) (by omega) ?_
  rw [show lgM (lgM m b [13, 11, 20, 10]) (b + 4) [12] = lgM m b [13, 11, 20, 10, 12] from lgM_a [13, 11, 20, 10] [12]]
  refine gwr ?_
  refine g_ixor m92_207 rfl ?_
  refine g_iret m92_208 rt_92 ?_
  exact hQ
set_option maxRecDepth 20000 in
set_option maxHeartbeats 40000000 in
theorem c_sp_2_0_2 {b e : Nat} {x nv mv : Int32} (hb : m 45 4 = nI b) (hb40 : b + 1 ≤ 40) (hk : m 45 2 = nI 2) (h0 : m 45 0 = nv) (h1 : m 45 1 = mv) (he : e + 0 ≤ 30) (hQ : Q (some (.int (x + nv))) (H (lgM m b [10]) ln N)) : WP xs (d + 3) 92 0 0 [.ref (77), .int (0), .int (2), .int (x), .int (nI (e))] (H m ln N) Q := by
  refine wp_x mx_92 (L := [some (.ref (77)), some (.int (0)), some (.int (2)), some (.int (x)), some (.int (nI (e))), none, none, none, none, none]) (Nat.le_of_ble_eq_true rfl) rfl ?_
  refine g_iload_n m92_0 rfl ?_
  refine g_iload_n m92_1 rfl ?_
  refine g_cs (args := [.int (0), .int (2)]) (rest := []) 0 (Or.inl rfl) m92_2 (Nat.le_of_ble_eq_true rfl) rfl rfl (Nat.le_of_ble_eq_true rfl) ?_
  refine c_own_0_2 ?_
  refine gwr ?_
  refine g_istore (L2 := [some (.ref (77)), some (.int (0)), some (.int (2)), some (.int (x)), some (.int (nI (e))), some (.int (0)), none, none, none, none]) m92_5 rfl rfl ?_
  refine g_iload m92_7 rfl ?_
  refine h_if_ltF (xi := 0) (zi := 0) m92_9 rfl rfl (by decide) ?_
  refine g_iload m92_12 rfl ?_
  refine g_bipush m92_14 ?_
  refine h_ic_leT (xi := ((e : Nat) : Int)) (zi := 30) m92_16 (nI_toInt (by omega)) rfl (by omega) ?_
  refine g_gst m92_21 rfl ?_
  refine g_iconst m92_24 ?_
  refine g_iload m92_25 rfl ?_
  refine g_imul (u := (0 : Int32)) m92_27 (by decide) ?_
  refine g_iload_n m92_28 rfl ?_
  refine g_iadd (u := (0 : Int32)) m92_29 (by decide) ?_
  refine g_iald (x := (10 : Int32)) m92_30 rfl (show vp_in (nI 0) 28 from vp_in_nI (by decide) (by decide)) (by decide +kernel) ?_
  refine g_istore (L2 := [some (.ref (77)), some (.int (0)), some (.int (2)), some (.int (x)), some (.int (nI (e))), some (.int (0)), some (.int (10)), none, none, none]) m92_31 rfl rfl ?_
  refine g_aload_n m92_33 rfl ?_
  refine g_iload m92_34 rfl ?_
  refine h_cv (k := 45) (p := 77) (args := [.int (10)]) (rest := []) m92_36 cn_50 (Nat.le_of_ble_eq_true rfl) rfl rfl rfl (t_45 _ _) (Nat.le_of_ble_eq_true rfl) ?_
  refine c_begin (b := b) (c := 10) hb (by omega) ?_
  refine gwr0 ?_
  refine g_aload_n m92_39 rfl ?_
  refine h_gfI (k := 45) (p := 77) m92_40 rfl (t_45 _ _) rfl ((lgM_o (by decide) [10]).trans hk) ?_
  refine g_istore (L2 := [some (.ref (77)), some (.int (0)), some (.int (2)), some (.int (x)), some (.int (nI (e))), some (.int (0)), some (.int (10)), some (.int (2)), none, none]) m92_43 rfl rfl ?_
  refine g_gst m92_45 rfl ?_
  refine g_iload m92_48 rfl ?_
  refine g_iald (x := (-1 : Int32)) m92_50 rfl (show vp_in (nI 0) 7 from vp_in_nI (by decide) (by decide)) (by decide +kernel) ?_
  refine g_istore (L2 := [some (.ref (77)), some (.int (0)), some (.int (2)), some (.int (x)), some (.int (nI (e))), some (.int (0)), some (.int (10)), some (.int (2)), some (.int (-1)), none]) m92_51 rfl rfl ?_
  refine g_iload m92_53 rfl ?_
  refine g_iconst m92_55 ?_
  refine g_iadd (u := nI (e + 1)) m92_56 (nI_add e 1) ?_
  refine g_istore (L2 := [some (.ref (77)), some (.int (0)), some (.int (2)), some (.int (x)), some (.int (nI (e))), some (.int (0)), some (.int (10)), some (.int (2)), some (.int (-1)), some (.int (nI (e + 1)))]) m92_57 rfl rfl ?_
  refine g_iload m92_59 rfl ?_
  refine gs m92_61 ?_
  refine gwpc (pc' := 160) rfl ?_
  refine g_iload_n m92_160 rfl ?_
  refine g_aload_n m92_161 rfl ?_
  refine h_gfI (k := 45) (p := 77) m92_162 rfl (t_45 _ _) rfl ((lgM_o (by decide) [10]).trans h0) ?_
  refine g_iadd m92_165 rfl ?_
  refine g_iret m92_166 rt_92 ?_
  exact hQ
set_option maxRecDepth 20000 in
set_option maxHeartbeats 40000000 in
theorem c_sp_2_1_0 {b e : Nat} {x nv mv : Int32} (hb : m 45 4 = nI b) (hb40 : b + 2 ≤ 40) (hk : m 45 2 = nI 2) (h0 : m 45 0 = nv) (h1 : m 45 1 = mv) (he : e + 1 ≤ 30) (hQ : Q (some (.int ((x + nv) * (2 : Int32)))) (H (lgM m b [11, 10]) ln N)) : WP xs (d + 4) 92 0 0 [.ref (77), .int (1), .int (0), .int (x), .int (nI (e))] (H m ln N) Q := by
  refine wp_x mx_92 (L := [some (.ref (77)), some (.int (1)), some (.int (0)), some (.int (x)), some (.int (nI (e))), none, none, none, none, none]) (Nat.le_of_ble_eq_true rfl) rfl ?_
  refine g_iload_n m92_0 rfl ?_
  refine g_iload_n m92_1 rfl ?_
  refine g_cs (args := [.int (1), .int (0)]) (rest := []) 0 (Or.inl rfl) m92_2 (Nat.le_of_ble_eq_true rfl) rfl rfl (Nat.le_of_ble_eq_true rfl) ?_
  refine c_own_1_0 ?_
  refine gwr ?_
  refine g_istore (L2 := [some (.ref (77)), some (.int (1)), some (.int (0)), some (.int (x)), some (.int (nI (e))), some (.int (0)), none, none, none, none]) m92_5 rfl rfl ?_
  refine g_iload m92_7 rfl ?_
  refine h_if_ltF (xi := 0) (zi := 0) m92_9 rfl rfl (by decide) ?_
  refine g_iload m92_12 rfl ?_
  refine g_bipush m92_14 ?_
  refine h_ic_leT (xi := ((e : Nat) : Int)) (zi := 30) m92_16 (nI_toInt (by omega)) rfl (by omega) ?_
  refine g_gst m92_21 rfl ?_
  refine g_iconst m92_24 ?_
  refine g_iload m92_25 rfl ?_
  refine g_imul (u := (0 : Int32)) m92_27 (by decide) ?_
  refine g_iload_n m92_28 rfl ?_
  refine g_iadd (u := (1 : Int32)) m92_29 (by decide) ?_
  refine g_iald (x := (11 : Int32)) m92_30 rfl (show vp_in (nI 1) 28 from vp_in_nI (by decide) (by decide)) (by decide +kernel) ?_
  refine g_istore (L2 := [some (.ref (77)), some (.int (1)), some (.int (0)), some (.int (x)), some (.int (nI (e))), some (.int (0)), some (.int (11)), none, none, none]) m92_31 rfl rfl ?_
  refine g_aload_n m92_33 rfl ?_
  refine g_iload m92_34 rfl ?_
  refine h_cv (k := 45) (p := 77) (args := [.int (11)]) (rest := []) m92_36 cn_50 (Nat.le_of_ble_eq_true rfl) rfl rfl rfl (t_45 _ _) (Nat.le_of_ble_eq_true rfl) ?_
  refine c_begin (b := b) (c := 11) hb (by omega) ?_
  refine gwr0 ?_
  refine g_aload_n m92_39 rfl ?_
  refine h_gfI (k := 45) (p := 77) m92_40 rfl (t_45 _ _) rfl ((lgM_o (by decide) [11]).trans hk) ?_
  refine g_istore (L2 := [some (.ref (77)), some (.int (1)), some (.int (0)), some (.int (x)), some (.int (nI (e))), some (.int (0)), some (.int (11)), some (.int (2)), none, none]) m92_43 rfl rfl ?_
  refine g_gst m92_45 rfl ?_
  refine g_iload m92_48 rfl ?_
  refine g_iald (x := (-1 : Int32)) m92_50 rfl (show vp_in (nI 0) 7 from vp_in_nI (by decide) (by decide)) (by decide +kernel) ?_
  refine g_istore (L2 := [some (.ref (77)), some (.int (1)), some (.int (0)), some (.int (x)), some (.int (nI (e))), some (.int (0)), some (.int (11)), some (.int (2)), some (.int (-1)), none]) m92_51 rfl rfl ?_
  refine g_iload m92_53 rfl ?_
  refine g_iconst m92_55 ?_
  refine g_iadd (u := nI (e + 1)) m92_56 (nI_add e 1) ?_
  refine g_istore (L2 := [some (.ref (77)), some (.int (1)), some (.int (0)), some (.int (x)), some (.int (nI (e))), some (.int (0)), some (.int (11)), some (.int (2)), some (.int (-1)), some (.int (nI (e + 1)))]) m92_57 rfl rfl ?_
  refine g_iload m92_59 rfl ?_
  refine gs m92_61 ?_
  refine gwpc (pc' := 167) rfl ?_
  refine g_aload_n m92_167 rfl ?_
  refine g_iconst m92_168 ?_
  refine g_iload m92_169 rfl ?_
  refine g_iload_n m92_171 rfl ?_
  refine g_iload m92_172 rfl ?_
  refine g_cs (args := [.ref (77), .int (0), .int (2), .int (x), .int (nI (e + 1))]) (rest := []) 0 (Or.inl rfl) m92_174 (Nat.le_of_ble_eq_true rfl) rfl rfl (Nat.le_of_ble_eq_true rfl) ?_
  refine c_sp_2_0_2 (m := lgM m b [11]) (b := b + 1) (nv := nv) (mv := mv) (lgM_4 hb [11]) (by omega) ((lgM_o (by decide) [11]).trans hk) ((lgM_o (by decide) [11]).trans h0) ((lgM_o (by decide) [11]).trans h1) (by omega) ?_
  rw [show lgM (lgM m b [11]) (b + 1) [10] = lgM m b [11, 10] from lgM_a [11] [10]]
  refine gwr ?_
  refine g_iconst m92_177 ?_
  refine g_imul m92_178 rfl ?_
  refine g_iret m92_179 rt_92 ?_
  exact hQ
set_option maxRecDepth 20000 in
set_option maxHeartbeats 40000000 in
theorem c_sp_2_2_2 {b e : Nat} {x nv mv : Int32} (hb : m 45 4 = nI b) (hb40 : b + 1 ≤ 40) (hk : m 45 2 = nI 2) (h0 : m 45 0 = nv) (h1 : m 45 1 = mv) (he : e + 0 ≤ 30) (hQ : Q (some (.int (x - mv))) (H (lgM m b [12]) ln N)) : WP xs (d + 3) 92 0 0 [.ref (77), .int (2), .int (2), .int (x), .int (nI (e))] (H m ln N) Q := by
  refine wp_x mx_92 (L := [some (.ref (77)), some (.int (2)), some (.int (2)), some (.int (x)), some (.int (nI (e))), none, none, none, none, none]) (Nat.le_of_ble_eq_true rfl) rfl ?_
  refine g_iload_n m92_0 rfl ?_
  refine g_iload_n m92_1 rfl ?_
  refine g_cs (args := [.int (2), .int (2)]) (rest := []) 0 (Or.inl rfl) m92_2 (Nat.le_of_ble_eq_true rfl) rfl rfl (Nat.le_of_ble_eq_true rfl) ?_
  refine c_own_2_2 ?_
  refine gwr ?_
  refine g_istore (L2 := [some (.ref (77)), some (.int (2)), some (.int (2)), some (.int (x)), some (.int (nI (e))), some (.int (0)), none, none, none, none]) m92_5 rfl rfl ?_
  refine g_iload m92_7 rfl ?_
  refine h_if_ltF (xi := 0) (zi := 0) m92_9 rfl rfl (by decide) ?_
  refine g_iload m92_12 rfl ?_
  refine g_bipush m92_14 ?_
  refine h_ic_leT (xi := ((e : Nat) : Int)) (zi := 30) m92_16 (nI_toInt (by omega)) rfl (by omega) ?_
  refine g_gst m92_21 rfl ?_
  refine g_iconst m92_24 ?_
  refine g_iload m92_25 rfl ?_
  refine g_imul (u := (0 : Int32)) m92_27 (by decide) ?_
  refine g_iload_n m92_28 rfl ?_
  refine g_iadd (u := (2 : Int32)) m92_29 (by decide) ?_
  refine g_iald (x := (12 : Int32)) m92_30 rfl (show vp_in (nI 2) 28 from vp_in_nI (by decide) (by decide)) (by decide +kernel) ?_
  refine g_istore (L2 := [some (.ref (77)), some (.int (2)), some (.int (2)), some (.int (x)), some (.int (nI (e))), some (.int (0)), some (.int (12)), none, none, none]) m92_31 rfl rfl ?_
  refine g_aload_n m92_33 rfl ?_
  refine g_iload m92_34 rfl ?_
  refine h_cv (k := 45) (p := 77) (args := [.int (12)]) (rest := []) m92_36 cn_50 (Nat.le_of_ble_eq_true rfl) rfl rfl rfl (t_45 _ _) (Nat.le_of_ble_eq_true rfl) ?_
  refine c_begin (b := b) (c := 12) hb (by omega) ?_
  refine gwr0 ?_
  refine g_aload_n m92_39 rfl ?_
  refine h_gfI (k := 45) (p := 77) m92_40 rfl (t_45 _ _) rfl ((lgM_o (by decide) [12]).trans hk) ?_
  refine g_istore (L2 := [some (.ref (77)), some (.int (2)), some (.int (2)), some (.int (x)), some (.int (nI (e))), some (.int (0)), some (.int (12)), some (.int (2)), none, none]) m92_43 rfl rfl ?_
  refine g_gst m92_45 rfl ?_
  refine g_iload m92_48 rfl ?_
  refine g_iald (x := (-1 : Int32)) m92_50 rfl (show vp_in (nI 0) 7 from vp_in_nI (by decide) (by decide)) (by decide +kernel) ?_
  refine g_istore (L2 := [some (.ref (77)), some (.int (2)), some (.int (2)), some (.int (x)), some (.int (nI (e))), some (.int (0)), some (.int (12)), some (.int (2)), some (.int (-1)), none]) m92_51 rfl rfl ?_
  refine g_iload m92_53 rfl ?_
  refine g_iconst m92_55 ?_
  refine g_iadd (u := nI (e + 1)) m92_56 (nI_add e 1) ?_
  refine g_istore (L2 := [some (.ref (77)), some (.int (2)), some (.int (2)), some (.int (x)), some (.int (nI (e))), some (.int (0)), some (.int (12)), some (.int (2)), some (.int (-1)), some (.int (nI (e + 1)))]) m92_57 rfl rfl ?_
  refine g_iload m92_59 rfl ?_
  refine gs m92_61 ?_
  refine gwpc (pc' := 180) rfl ?_
  refine g_iload_n m92_180 rfl ?_
  refine g_aload_n m92_181 rfl ?_
  refine h_gfI (k := 45) (p := 77) m92_182 rfl (t_45 _ _) rfl ((lgM_o (by decide) [12]).trans h1) ?_
  refine g_isub m92_185 rfl ?_
  refine g_iret m92_186 rt_92 ?_
  exact hQ
set_option maxRecDepth 20000 in
set_option maxHeartbeats 40000000 in
theorem c_sp_2_1_2 {b e : Nat} {x nv mv : Int32} (hb : m 45 4 = nI b) (hb40 : b + 4 ≤ 40) (hk : m 45 2 = nI 2) (h0 : m 45 0 = nv) (h1 : m 45 1 = mv) (he : e + 2 ≤ 30) (hQ : Q (some (.int (((x + nv) * (2 : Int32)) - ((1 : Int32) - mv)))) (H (lgM m b [30, 11, 10, 12]) ln N)) : WP xs (d + 5) 92 0 0 [.ref (77), .int (1), .int (2), .int (x), .int (nI (e))] (H m ln N) Q := by
  refine wp_x mx_92 (L := [some (.ref (77)), some (.int (1)), some (.int (2)), some (.int (x)), some (.int (nI (e))), none, none, none, none, none]) (Nat.le_of_ble_eq_true rfl) rfl ?_
  refine g_iload_n m92_0 rfl ?_
  refine g_iload_n m92_1 rfl ?_
  refine g_cs (args := [.int (1), .int (2)]) (rest := []) 0 (Or.inl rfl) m92_2 (Nat.le_of_ble_eq_true rfl) rfl rfl (Nat.le_of_ble_eq_true rfl) ?_
  refine c_own_1_2 ?_
  refine gwr ?_
  refine g_istore (L2 := [some (.ref (77)), some (.int (1)), some (.int (2)), some (.int (x)), some (.int (nI (e))), some (.int (2)), none, none, none, none]) m92_5 rfl rfl ?_
  refine g_iload m92_7 rfl ?_
  refine h_if_ltF (xi := 2) (zi := 0) m92_9 rfl rfl (by decide) ?_
  refine g_iload m92_12 rfl ?_
  refine g_bipush m92_14 ?_
  refine h_ic_leT (xi := ((e : Nat) : Int)) (zi := 30) m92_16 (nI_toInt (by omega)) rfl (by omega) ?_
  refine g_gst m92_21 rfl ?_
  refine g_iconst m92_24 ?_
  refine g_iload m92_25 rfl ?_
  refine g_imul (u := (8 : Int32)) m92_27 (by decide) ?_
  refine g_iload_n m92_28 rfl ?_
  refine g_iadd (u := (9 : Int32)) m92_29 (by decide) ?_
  refine g_iald (x := (30 : Int32)) m92_30 rfl (show vp_in (nI 9) 28 from vp_in_nI (by decide) (by decide)) (by decide +kernel) ?_
  refine g_istore (L2 := [some (.ref (77)), some (.int (1)), some (.int (2)), some (.int (x)), some (.int (nI (e))), some (.int (2)), some (.int (30)), none, none, none]) m92_31 rfl rfl ?_
  refine g_aload_n m92_33 rfl ?_
  refine g_iload m92_34 rfl ?_
  refine h_cv (k := 45) (p := 77) (args := [.int (30)]) (rest := []) m92_36 cn_50 (Nat.le_of_ble_eq_true rfl) rfl rfl rfl (t_45 _ _) (Nat.le_of_ble_eq_true rfl) ?_
  refine c_begin (b := b) (c := 30) hb (by omega) ?_
  refine gwr0 ?_
  refine g_aload_n m92_39 rfl ?_
  refine h_gfI (k := 45) (p := 77) m92_40 rfl (t_45 _ _) rfl ((lgM_o (by decide) [30]).trans hk) ?_
  refine g_istore (L2 := [some (.ref (77)), some (.int (1)), some (.int (2)), some (.int (x)), some (.int (nI (e))), some (.int (2)), some (.int (30)), some (.int (2)), none, none]) m92_43 rfl rfl ?_
  refine g_gst m92_45 rfl ?_
  refine g_iload m92_48 rfl ?_
  refine g_iald (x := (0 : Int32)) m92_50 rfl (show vp_in (nI 2) 7 from vp_in_nI (by decide) (by decide)) (by decide +kernel) ?_
  refine g_istore (L2 := [some (.ref (77)), some (.int (1)), some (.int (2)), some (.int (x)), some (.int (nI (e))), some (.int (2)), some (.int (30)), some (.int (2)), some (.int (0)), none]) m92_51 rfl rfl ?_
  refine g_iload m92_53 rfl ?_
  refine g_iconst m92_55 ?_
  refine g_iadd (u := nI (e + 1)) m92_56 (nI_add e 1) ?_
  refine g_istore (L2 := [some (.ref (77)), some (.int (1)), some (.int (2)), some (.int (x)), some (.int (nI (e))), some (.int (2)), some (.int (30)), some (.int (2)), some (.int (0)), some (.int (nI (e + 1)))]) m92_57 rfl rfl ?_
  refine g_iload m92_59 rfl ?_
  refine gs m92_61 ?_
  refine gwpc (pc' := 222) rfl ?_
  refine g_aload_n m92_222 rfl ?_
  refine g_iconst m92_223 ?_
  refine g_iload m92_224 rfl ?_
  refine g_iload_n m92_226 rfl ?_
  refine g_iload m92_227 rfl ?_
  refine g_cs (args := [.ref (77), .int (1), .int (0), .int (x), .int (nI (e + 1))]) (rest := []) 0 (Or.inl rfl) m92_229 (Nat.le_of_ble_eq_true rfl) rfl rfl (Nat.le_of_ble_eq_true rfl) ?_
  refine c_sp_2_1_0 (m := lgM m b [30]) (b := b + 1) (nv := nv) (mv := mv) (lgM_4 hb [30]) (by omega) ((lgM_o (by decide) [30]).trans hk) ((lgM_o (by decide) [30]).trans h0) ((lgM_o (by decide) [30]).trans h1) (by omega) ?_
  rw [show lgM (lgM m b [30]) (b + 1) [11, 10] = lgM m b [30, 11, 10] from lgM_a [30] [11, 10]]
  refine gwr ?_
  refine g_aload_n m92_232 rfl ?_
  refine g_iconst m92_233 ?_
  refine g_iload m92_234 rfl ?_
  refine g_iconst m92_236 ?_
  refine g_iload m92_237 rfl ?_
  refine g_cs (args := [.ref (77), .int (2), .int (2), .int (1), .int (nI (e + 1))]) (rest := [.int (((x + nv) * (2 : Int32)))]) 0 (Or.inl rfl) m92_239 (Nat.le_of_ble_eq_true rfl) rfl rfl (Nat.le_of_ble_eq_true rfl) ?_
  refine c_sp_2_2_2 (m := lgM m b [30, 11, 10]) (b := b + 3) (nv := nv) (mv := mv) (lgM_4 hb [30, 11, 10]) (by omega) ((lgM_o (by decide) [30, 11, 10]).trans hk) ((lgM_o (by decide) [30, 11, 10]).trans h0) ((lgM_o (by decide) [30, 11, 10]).trans h1) (by omega) ?_
  rw [show lgM (lgM m b [30, 11, 10]) (b + 3) [12] = lgM m b [30, 11, 10, 12] from lgM_a [30, 11, 10] [12]]
  refine gwr ?_
  refine g_isub m92_242 rfl ?_
  refine g_iret m92_243 rt_92 ?_
  exact hQ
set_option maxRecDepth 20000 in
set_option maxHeartbeats 40000000 in
theorem c_sp_2_3_2 {b e : Nat} {x nv mv : Int32} (hb : m 45 4 = nI b) (hb40 : b + 6 ≤ 40) (hk : m 45 2 = nI 2) (h0 : m 45 0 = nv) (h1 : m 45 1 = mv) (he : e + 3 ≤ 30) (hQ : Q (some (.int ((((x + nv) * (2 : Int32)) - ((1 : Int32) - mv)) ^^^ (x - mv)))) (H (lgM m b [13, 30, 11, 10, 12, 12]) ln N)) : WP xs (d + 6) 92 0 0 [.ref (77), .int (3), .int (2), .int (x), .int (nI (e))] (H m ln N) Q := by
  refine wp_x mx_92 (L := [some (.ref (77)), some (.int (3)), some (.int (2)), some (.int (x)), some (.int (nI (e))), none, none, none, none, none]) (Nat.le_of_ble_eq_true rfl) rfl ?_
  refine g_iload_n m92_0 rfl ?_
  refine g_iload_n m92_1 rfl ?_
  refine g_cs (args := [.int (3), .int (2)]) (rest := []) 0 (Or.inl rfl) m92_2 (Nat.le_of_ble_eq_true rfl) rfl rfl (Nat.le_of_ble_eq_true rfl) ?_
  refine c_own_3_2 ?_
  refine gwr ?_
  refine g_istore (L2 := [some (.ref (77)), some (.int (3)), some (.int (2)), some (.int (x)), some (.int (nI (e))), some (.int (0)), none, none, none, none]) m92_5 rfl rfl ?_
  refine g_iload m92_7 rfl ?_
  refine h_if_ltF (xi := 0) (zi := 0) m92_9 rfl rfl (by decide) ?_
  refine g_iload m92_12 rfl ?_
  refine g_bipush m92_14 ?_
  refine h_ic_leT (xi := ((e : Nat) : Int)) (zi := 30) m92_16 (nI_toInt (by omega)) rfl (by omega) ?_
  refine g_gst m92_21 rfl ?_
  refine g_iconst m92_24 ?_
  refine g_iload m92_25 rfl ?_
  refine g_imul (u := (0 : Int32)) m92_27 (by decide) ?_
  refine g_iload_n m92_28 rfl ?_
  refine g_iadd (u := (3 : Int32)) m92_29 (by decide) ?_
  refine g_iald (x := (13 : Int32)) m92_30 rfl (show vp_in (nI 3) 28 from vp_in_nI (by decide) (by decide)) (by decide +kernel) ?_
  refine g_istore (L2 := [some (.ref (77)), some (.int (3)), some (.int (2)), some (.int (x)), some (.int (nI (e))), some (.int (0)), some (.int (13)), none, none, none]) m92_31 rfl rfl ?_
  refine g_aload_n m92_33 rfl ?_
  refine g_iload m92_34 rfl ?_
  refine h_cv (k := 45) (p := 77) (args := [.int (13)]) (rest := []) m92_36 cn_50 (Nat.le_of_ble_eq_true rfl) rfl rfl rfl (t_45 _ _) (Nat.le_of_ble_eq_true rfl) ?_
  refine c_begin (b := b) (c := 13) hb (by omega) ?_
  refine gwr0 ?_
  refine g_aload_n m92_39 rfl ?_
  refine h_gfI (k := 45) (p := 77) m92_40 rfl (t_45 _ _) rfl ((lgM_o (by decide) [13]).trans hk) ?_
  refine g_istore (L2 := [some (.ref (77)), some (.int (3)), some (.int (2)), some (.int (x)), some (.int (nI (e))), some (.int (0)), some (.int (13)), some (.int (2)), none, none]) m92_43 rfl rfl ?_
  refine g_gst m92_45 rfl ?_
  refine g_iload m92_48 rfl ?_
  refine g_iald (x := (-1 : Int32)) m92_50 rfl (show vp_in (nI 0) 7 from vp_in_nI (by decide) (by decide)) (by decide +kernel) ?_
  refine g_istore (L2 := [some (.ref (77)), some (.int (3)), some (.int (2)), some (.int (x)), some (.int (nI (e))), some (.int (0)), some (.int (13)), some (.int (2)), some (.int (-1)), none]) m92_51 rfl rfl ?_
  refine g_iload m92_53 rfl ?_
  refine g_iconst m92_55 ?_
  refine g_iadd (u := nI (e + 1)) m92_56 (nI_add e 1) ?_
  refine g_istore (L2 := [some (.ref (77)), some (.int (3)), some (.int (2)), some (.int (x)), some (.int (nI (e))), some (.int (0)), some (.int (13)), some (.int (2)), some (.int (-1)), some (.int (nI (e + 1)))]) m92_57 rfl rfl ?_
  refine g_iload m92_59 rfl ?_
  refine gs m92_61 ?_
  refine gwpc (pc' := 187) rfl ?_
  refine g_aload_n m92_187 rfl ?_
  refine g_iconst m92_188 ?_
  refine g_iload m92_189 rfl ?_
  refine g_iload_n m92_191 rfl ?_
  refine g_iload m92_192 rfl ?_
  refine g_cs (args := [.ref (77), .int (1), .int (2), .int (x), .int (nI (e + 1))]) (rest := []) 0 (Or.inl rfl) m92_194 (Nat.le_of_ble_eq_true rfl) rfl rfl (Nat.le_of_ble_eq_true rfl) ?_
  refine c_sp_2_1_2 (m := lgM m b [13]) (b := b + 1) (nv := nv) (mv := mv) (lgM_4 hb [13]) (by omega) ((lgM_o (by decide) [13]).trans hk) ((lgM_o (by decide) [13]).trans h0) ((lgM_o (by decide) [13]).trans h1) (by omega) ?_
  rw [show lgM (lgM m b [13]) (b + 1) [30, 11, 10, 12] = lgM m b [13, 30, 11, 10, 12] from lgM_a [13] [30, 11, 10, 12]]
  refine gwr ?_
  refine g_aload_n m92_197 rfl ?_
  refine g_iconst m92_198 ?_
  refine g_iload m92_199 rfl ?_
  refine g_iload_n m92_201 rfl ?_
  refine g_iload m92_202 rfl ?_
  refine g_cs (args := [.ref (77), .int (2), .int (2), .int (x), .int (nI (e + 1))]) (rest := [.int ((((x + nv) * (2 : Int32)) - ((1 : Int32) - mv)))]) 0 (Or.inl rfl) m92_204 (Nat.le_of_ble_eq_true rfl) rfl rfl (Nat.le_of_ble_eq_true rfl) ?_
  refine c_sp_2_2_2 (m := lgM m b [13, 30, 11, 10, 12]) (b := b + 5) (nv := nv) (mv := mv) (lgM_4 hb [13, 30, 11, 10, 12]) (by omega) ((lgM_o (by decide) [13, 30, 11, 10, 12]).trans hk) ((lgM_o (by decide) [13, 30, 11, 10, 12]).trans h0) ((lgM_o (by decide) [13, 30, 11, 10, 12]).trans h1) (by omega) ?_
  rw [show lgM (lgM m b [13, 30, 11, 10, 12]) (b + 5) [12] = lgM m b [13, 30, 11, 10, 12, 12] from lgM_a [13, 30, 11, 10, 12] [12]]
  refine gwr ?_
  refine g_ixor m92_207 rfl ?_
  refine g_iret m92_208 rt_92 ?_
  exact hQ
set_option maxRecDepth 20000 in
set_option maxHeartbeats 40000000 in
theorem c_sp_3_0_3 {b e : Nat} {x nv mv : Int32} (hb : m 45 4 = nI b) (hb40 : b + 1 ≤ 40) (hk : m 45 2 = nI 3) (h0 : m 45 0 = nv) (h1 : m 45 1 = mv) (he : e + 0 ≤ 30) (hQ : Q (some (.int (x + nv))) (H (lgM m b [10]) ln N)) : WP xs (d + 3) 92 0 0 [.ref (77), .int (0), .int (3), .int (x), .int (nI (e))] (H m ln N) Q := by
  refine wp_x mx_92 (L := [some (.ref (77)), some (.int (0)), some (.int (3)), some (.int (x)), some (.int (nI (e))), none, none, none, none, none]) (Nat.le_of_ble_eq_true rfl) rfl ?_
  refine g_iload_n m92_0 rfl ?_
  refine g_iload_n m92_1 rfl ?_
  refine g_cs (args := [.int (0), .int (3)]) (rest := []) 0 (Or.inl rfl) m92_2 (Nat.le_of_ble_eq_true rfl) rfl rfl (Nat.le_of_ble_eq_true rfl) ?_
  refine c_own_0_3 ?_
  refine gwr ?_
  refine g_istore (L2 := [some (.ref (77)), some (.int (0)), some (.int (3)), some (.int (x)), some (.int (nI (e))), some (.int (0)), none, none, none, none]) m92_5 rfl rfl ?_
  refine g_iload m92_7 rfl ?_
  refine h_if_ltF (xi := 0) (zi := 0) m92_9 rfl rfl (by decide) ?_
  refine g_iload m92_12 rfl ?_
  refine g_bipush m92_14 ?_
  refine h_ic_leT (xi := ((e : Nat) : Int)) (zi := 30) m92_16 (nI_toInt (by omega)) rfl (by omega) ?_
  refine g_gst m92_21 rfl ?_
  refine g_iconst m92_24 ?_
  refine g_iload m92_25 rfl ?_
  refine g_imul (u := (0 : Int32)) m92_27 (by decide) ?_
  refine g_iload_n m92_28 rfl ?_
  refine g_iadd (u := (0 : Int32)) m92_29 (by decide) ?_
  refine g_iald (x := (10 : Int32)) m92_30 rfl (show vp_in (nI 0) 28 from vp_in_nI (by decide) (by decide)) (by decide +kernel) ?_
  refine g_istore (L2 := [some (.ref (77)), some (.int (0)), some (.int (3)), some (.int (x)), some (.int (nI (e))), some (.int (0)), some (.int (10)), none, none, none]) m92_31 rfl rfl ?_
  refine g_aload_n m92_33 rfl ?_
  refine g_iload m92_34 rfl ?_
  refine h_cv (k := 45) (p := 77) (args := [.int (10)]) (rest := []) m92_36 cn_50 (Nat.le_of_ble_eq_true rfl) rfl rfl rfl (t_45 _ _) (Nat.le_of_ble_eq_true rfl) ?_
  refine c_begin (b := b) (c := 10) hb (by omega) ?_
  refine gwr0 ?_
  refine g_aload_n m92_39 rfl ?_
  refine h_gfI (k := 45) (p := 77) m92_40 rfl (t_45 _ _) rfl ((lgM_o (by decide) [10]).trans hk) ?_
  refine g_istore (L2 := [some (.ref (77)), some (.int (0)), some (.int (3)), some (.int (x)), some (.int (nI (e))), some (.int (0)), some (.int (10)), some (.int (3)), none, none]) m92_43 rfl rfl ?_
  refine g_gst m92_45 rfl ?_
  refine g_iload m92_48 rfl ?_
  refine g_iald (x := (-1 : Int32)) m92_50 rfl (show vp_in (nI 0) 7 from vp_in_nI (by decide) (by decide)) (by decide +kernel) ?_
  refine g_istore (L2 := [some (.ref (77)), some (.int (0)), some (.int (3)), some (.int (x)), some (.int (nI (e))), some (.int (0)), some (.int (10)), some (.int (3)), some (.int (-1)), none]) m92_51 rfl rfl ?_
  refine g_iload m92_53 rfl ?_
  refine g_iconst m92_55 ?_
  refine g_iadd (u := nI (e + 1)) m92_56 (nI_add e 1) ?_
  refine g_istore (L2 := [some (.ref (77)), some (.int (0)), some (.int (3)), some (.int (x)), some (.int (nI (e))), some (.int (0)), some (.int (10)), some (.int (3)), some (.int (-1)), some (.int (nI (e + 1)))]) m92_57 rfl rfl ?_
  refine g_iload m92_59 rfl ?_
  refine gs m92_61 ?_
  refine gwpc (pc' := 160) rfl ?_
  refine g_iload_n m92_160 rfl ?_
  refine g_aload_n m92_161 rfl ?_
  refine h_gfI (k := 45) (p := 77) m92_162 rfl (t_45 _ _) rfl ((lgM_o (by decide) [10]).trans h0) ?_
  refine g_iadd m92_165 rfl ?_
  refine g_iret m92_166 rt_92 ?_
  exact hQ
set_option maxRecDepth 20000 in
set_option maxHeartbeats 40000000 in
theorem c_sp_3_1_3 {b e : Nat} {x nv mv : Int32} (hb : m 45 4 = nI b) (hb40 : b + 2 ≤ 40) (hk : m 45 2 = nI 3) (h0 : m 45 0 = nv) (h1 : m 45 1 = mv) (he : e + 1 ≤ 30) (hQ : Q (some (.int ((x + nv) * (2 : Int32)))) (H (lgM m b [11, 10]) ln N)) : WP xs (d + 4) 92 0 0 [.ref (77), .int (1), .int (3), .int (x), .int (nI (e))] (H m ln N) Q := by
  refine wp_x mx_92 (L := [some (.ref (77)), some (.int (1)), some (.int (3)), some (.int (x)), some (.int (nI (e))), none, none, none, none, none]) (Nat.le_of_ble_eq_true rfl) rfl ?_
  refine g_iload_n m92_0 rfl ?_
  refine g_iload_n m92_1 rfl ?_
  refine g_cs (args := [.int (1), .int (3)]) (rest := []) 0 (Or.inl rfl) m92_2 (Nat.le_of_ble_eq_true rfl) rfl rfl (Nat.le_of_ble_eq_true rfl) ?_
  refine c_own_1_3 ?_
  refine gwr ?_
  refine g_istore (L2 := [some (.ref (77)), some (.int (1)), some (.int (3)), some (.int (x)), some (.int (nI (e))), some (.int (0)), none, none, none, none]) m92_5 rfl rfl ?_
  refine g_iload m92_7 rfl ?_
  refine h_if_ltF (xi := 0) (zi := 0) m92_9 rfl rfl (by decide) ?_
  refine g_iload m92_12 rfl ?_
  refine g_bipush m92_14 ?_
  refine h_ic_leT (xi := ((e : Nat) : Int)) (zi := 30) m92_16 (nI_toInt (by omega)) rfl (by omega) ?_
  refine g_gst m92_21 rfl ?_
  refine g_iconst m92_24 ?_
  refine g_iload m92_25 rfl ?_
  refine g_imul (u := (0 : Int32)) m92_27 (by decide) ?_
  refine g_iload_n m92_28 rfl ?_
  refine g_iadd (u := (1 : Int32)) m92_29 (by decide) ?_
  refine g_iald (x := (11 : Int32)) m92_30 rfl (show vp_in (nI 1) 28 from vp_in_nI (by decide) (by decide)) (by decide +kernel) ?_
  refine g_istore (L2 := [some (.ref (77)), some (.int (1)), some (.int (3)), some (.int (x)), some (.int (nI (e))), some (.int (0)), some (.int (11)), none, none, none]) m92_31 rfl rfl ?_
  refine g_aload_n m92_33 rfl ?_
  refine g_iload m92_34 rfl ?_
  refine h_cv (k := 45) (p := 77) (args := [.int (11)]) (rest := []) m92_36 cn_50 (Nat.le_of_ble_eq_true rfl) rfl rfl rfl (t_45 _ _) (Nat.le_of_ble_eq_true rfl) ?_
  refine c_begin (b := b) (c := 11) hb (by omega) ?_
  refine gwr0 ?_
  refine g_aload_n m92_39 rfl ?_
  refine h_gfI (k := 45) (p := 77) m92_40 rfl (t_45 _ _) rfl ((lgM_o (by decide) [11]).trans hk) ?_
  refine g_istore (L2 := [some (.ref (77)), some (.int (1)), some (.int (3)), some (.int (x)), some (.int (nI (e))), some (.int (0)), some (.int (11)), some (.int (3)), none, none]) m92_43 rfl rfl ?_
  refine g_gst m92_45 rfl ?_
  refine g_iload m92_48 rfl ?_
  refine g_iald (x := (-1 : Int32)) m92_50 rfl (show vp_in (nI 0) 7 from vp_in_nI (by decide) (by decide)) (by decide +kernel) ?_
  refine g_istore (L2 := [some (.ref (77)), some (.int (1)), some (.int (3)), some (.int (x)), some (.int (nI (e))), some (.int (0)), some (.int (11)), some (.int (3)), some (.int (-1)), none]) m92_51 rfl rfl ?_
  refine g_iload m92_53 rfl ?_
  refine g_iconst m92_55 ?_
  refine g_iadd (u := nI (e + 1)) m92_56 (nI_add e 1) ?_
  refine g_istore (L2 := [some (.ref (77)), some (.int (1)), some (.int (3)), some (.int (x)), some (.int (nI (e))), some (.int (0)), some (.int (11)), some (.int (3)), some (.int (-1)), some (.int (nI (e + 1)))]) m92_57 rfl rfl ?_
  refine g_iload m92_59 rfl ?_
  refine gs m92_61 ?_
  refine gwpc (pc' := 167) rfl ?_
  refine g_aload_n m92_167 rfl ?_
  refine g_iconst m92_168 ?_
  refine g_iload m92_169 rfl ?_
  refine g_iload_n m92_171 rfl ?_
  refine g_iload m92_172 rfl ?_
  refine g_cs (args := [.ref (77), .int (0), .int (3), .int (x), .int (nI (e + 1))]) (rest := []) 0 (Or.inl rfl) m92_174 (Nat.le_of_ble_eq_true rfl) rfl rfl (Nat.le_of_ble_eq_true rfl) ?_
  refine c_sp_3_0_3 (m := lgM m b [11]) (b := b + 1) (nv := nv) (mv := mv) (lgM_4 hb [11]) (by omega) ((lgM_o (by decide) [11]).trans hk) ((lgM_o (by decide) [11]).trans h0) ((lgM_o (by decide) [11]).trans h1) (by omega) ?_
  rw [show lgM (lgM m b [11]) (b + 1) [10] = lgM m b [11, 10] from lgM_a [11] [10]]
  refine gwr ?_
  refine g_iconst m92_177 ?_
  refine g_imul m92_178 rfl ?_
  refine g_iret m92_179 rt_92 ?_
  exact hQ
set_option maxRecDepth 20000 in
set_option maxHeartbeats 40000000 in
theorem c_sp_3_2_0 {b e : Nat} {x nv mv : Int32} (hb : m 45 4 = nI b) (hb40 : b + 1 ≤ 40) (hk : m 45 2 = nI 3) (h0 : m 45 0 = nv) (h1 : m 45 1 = mv) (he : e + 0 ≤ 30) (hQ : Q (some (.int (x - mv))) (H (lgM m b [12]) ln N)) : WP xs (d + 3) 92 0 0 [.ref (77), .int (2), .int (0), .int (x), .int (nI (e))] (H m ln N) Q := by
  refine wp_x mx_92 (L := [some (.ref (77)), some (.int (2)), some (.int (0)), some (.int (x)), some (.int (nI (e))), none, none, none, none, none]) (Nat.le_of_ble_eq_true rfl) rfl ?_
  refine g_iload_n m92_0 rfl ?_
  refine g_iload_n m92_1 rfl ?_
  refine g_cs (args := [.int (2), .int (0)]) (rest := []) 0 (Or.inl rfl) m92_2 (Nat.le_of_ble_eq_true rfl) rfl rfl (Nat.le_of_ble_eq_true rfl) ?_
  refine c_own_2_0 ?_
  refine gwr ?_
  refine g_istore (L2 := [some (.ref (77)), some (.int (2)), some (.int (0)), some (.int (x)), some (.int (nI (e))), some (.int (0)), none, none, none, none]) m92_5 rfl rfl ?_
  refine g_iload m92_7 rfl ?_
  refine h_if_ltF (xi := 0) (zi := 0) m92_9 rfl rfl (by decide) ?_
  refine g_iload m92_12 rfl ?_
  refine g_bipush m92_14 ?_
  refine h_ic_leT (xi := ((e : Nat) : Int)) (zi := 30) m92_16 (nI_toInt (by omega)) rfl (by omega) ?_
  refine g_gst m92_21 rfl ?_
  refine g_iconst m92_24 ?_
  refine g_iload m92_25 rfl ?_
  refine g_imul (u := (0 : Int32)) m92_27 (by decide) ?_
  refine g_iload_n m92_28 rfl ?_
  refine g_iadd (u := (2 : Int32)) m92_29 (by decide) ?_
  refine g_iald (x := (12 : Int32)) m92_30 rfl (show vp_in (nI 2) 28 from vp_in_nI (by decide) (by decide)) (by decide +kernel) ?_
  refine g_istore (L2 := [some (.ref (77)), some (.int (2)), some (.int (0)), some (.int (x)), some (.int (nI (e))), some (.int (0)), some (.int (12)), none, none, none]) m92_31 rfl rfl ?_
  refine g_aload_n m92_33 rfl ?_
  refine g_iload m92_34 rfl ?_
  refine h_cv (k := 45) (p := 77) (args := [.int (12)]) (rest := []) m92_36 cn_50 (Nat.le_of_ble_eq_true rfl) rfl rfl rfl (t_45 _ _) (Nat.le_of_ble_eq_true rfl) ?_
  refine c_begin (b := b) (c := 12) hb (by omega) ?_
  refine gwr0 ?_
  refine g_aload_n m92_39 rfl ?_
  refine h_gfI (k := 45) (p := 77) m92_40 rfl (t_45 _ _) rfl ((lgM_o (by decide) [12]).trans hk) ?_
  refine g_istore (L2 := [some (.ref (77)), some (.int (2)), some (.int (0)), some (.int (x)), some (.int (nI (e))), some (.int (0)), some (.int (12)), some (.int (3)), none, none]) m92_43 rfl rfl ?_
  refine g_gst m92_45 rfl ?_
  refine g_iload m92_48 rfl ?_
  refine g_iald (x := (-1 : Int32)) m92_50 rfl (show vp_in (nI 0) 7 from vp_in_nI (by decide) (by decide)) (by decide +kernel) ?_
  refine g_istore (L2 := [some (.ref (77)), some (.int (2)), some (.int (0)), some (.int (x)), some (.int (nI (e))), some (.int (0)), some (.int (12)), some (.int (3)), some (.int (-1)), none]) m92_51 rfl rfl ?_
  refine g_iload m92_53 rfl ?_
  refine g_iconst m92_55 ?_
  refine g_iadd (u := nI (e + 1)) m92_56 (nI_add e 1) ?_
  refine g_istore (L2 := [some (.ref (77)), some (.int (2)), some (.int (0)), some (.int (x)), some (.int (nI (e))), some (.int (0)), some (.int (12)), some (.int (3)), some (.int (-1)), some (.int (nI (e + 1)))]) m92_57 rfl rfl ?_
  refine g_iload m92_59 rfl ?_
  refine gs m92_61 ?_
  refine gwpc (pc' := 180) rfl ?_
  refine g_iload_n m92_180 rfl ?_
  refine g_aload_n m92_181 rfl ?_
  refine h_gfI (k := 45) (p := 77) m92_182 rfl (t_45 _ _) rfl ((lgM_o (by decide) [12]).trans h1) ?_
  refine g_isub m92_185 rfl ?_
  refine g_iret m92_186 rt_92 ?_
  exact hQ
set_option maxRecDepth 20000 in
set_option maxHeartbeats 40000000 in
theorem c_sp_3_2_3 {b e : Nat} {x nv mv : Int32} (hb : m 45 4 = nI b) (hb40 : b + 2 ≤ 40) (hk : m 45 2 = nI 3) (h0 : m 45 0 = nv) (h1 : m 45 1 = mv) (he : e + 1 ≤ 30) (hQ : Q (some (.int (-(x - mv)))) (H (lgM m b [40, 12]) ln N)) : WP xs (d + 4) 92 0 0 [.ref (77), .int (2), .int (3), .int (x), .int (nI (e))] (H m ln N) Q := by
  refine wp_x mx_92 (L := [some (.ref (77)), some (.int (2)), some (.int (3)), some (.int (x)), some (.int (nI (e))), none, none, none, none, none]) (Nat.le_of_ble_eq_true rfl) rfl ?_
  refine g_iload_n m92_0 rfl ?_
  refine g_iload_n m92_1 rfl ?_
  refine g_cs (args := [.int (2), .int (3)]) (rest := []) 0 (Or.inl rfl) m92_2 (Nat.le_of_ble_eq_true rfl) rfl rfl (Nat.le_of_ble_eq_true rfl) ?_
  refine c_own_2_3 ?_
  refine gwr ?_
  refine g_istore (L2 := [some (.ref (77)), some (.int (2)), some (.int (3)), some (.int (x)), some (.int (nI (e))), some (.int (3)), none, none, none, none]) m92_5 rfl rfl ?_
  refine g_iload m92_7 rfl ?_
  refine h_if_ltF (xi := 3) (zi := 0) m92_9 rfl rfl (by decide) ?_
  refine g_iload m92_12 rfl ?_
  refine g_bipush m92_14 ?_
  refine h_ic_leT (xi := ((e : Nat) : Int)) (zi := 30) m92_16 (nI_toInt (by omega)) rfl (by omega) ?_
  refine g_gst m92_21 rfl ?_
  refine g_iconst m92_24 ?_
  refine g_iload m92_25 rfl ?_
  refine g_imul (u := (12 : Int32)) m92_27 (by decide) ?_
  refine g_iload_n m92_28 rfl ?_
  refine g_iadd (u := (14 : Int32)) m92_29 (by decide) ?_
  refine g_iald (x := (40 : Int32)) m92_30 rfl (show vp_in (nI 14) 28 from vp_in_nI (by decide) (by decide)) (by decide +kernel) ?_
  refine g_istore (L2 := [some (.ref (77)), some (.int (2)), some (.int (3)), some (.int (x)), some (.int (nI (e))), some (.int (3)), some (.int (40)), none, none, none]) m92_31 rfl rfl ?_
  refine g_aload_n m92_33 rfl ?_
  refine g_iload m92_34 rfl ?_
  refine h_cv (k := 45) (p := 77) (args := [.int (40)]) (rest := []) m92_36 cn_50 (Nat.le_of_ble_eq_true rfl) rfl rfl rfl (t_45 _ _) (Nat.le_of_ble_eq_true rfl) ?_
  refine c_begin (b := b) (c := 40) hb (by omega) ?_
  refine gwr0 ?_
  refine g_aload_n m92_39 rfl ?_
  refine h_gfI (k := 45) (p := 77) m92_40 rfl (t_45 _ _) rfl ((lgM_o (by decide) [40]).trans hk) ?_
  refine g_istore (L2 := [some (.ref (77)), some (.int (2)), some (.int (3)), some (.int (x)), some (.int (nI (e))), some (.int (3)), some (.int (40)), some (.int (3)), none, none]) m92_43 rfl rfl ?_
  refine g_gst m92_45 rfl ?_
  refine g_iload m92_48 rfl ?_
  refine g_iald (x := (0 : Int32)) m92_50 rfl (show vp_in (nI 3) 7 from vp_in_nI (by decide) (by decide)) (by decide +kernel) ?_
  refine g_istore (L2 := [some (.ref (77)), some (.int (2)), some (.int (3)), some (.int (x)), some (.int (nI (e))), some (.int (3)), some (.int (40)), some (.int (3)), some (.int (0)), none]) m92_51 rfl rfl ?_
  refine g_iload m92_53 rfl ?_
  refine g_iconst m92_55 ?_
  refine g_iadd (u := nI (e + 1)) m92_56 (nI_add e 1) ?_
  refine g_istore (L2 := [some (.ref (77)), some (.int (2)), some (.int (3)), some (.int (x)), some (.int (nI (e))), some (.int (3)), some (.int (40)), some (.int (3)), some (.int (0)), some (.int (nI (e + 1)))]) m92_57 rfl rfl ?_
  refine g_iload m92_59 rfl ?_
  refine gs m92_61 ?_
  refine gwpc (pc' := 244) rfl ?_
  refine g_aload_n m92_244 rfl ?_
  refine g_iconst m92_245 ?_
  refine g_iload m92_246 rfl ?_
  refine g_iload_n m92_248 rfl ?_
  refine g_iload m92_249 rfl ?_
  refine g_cs (args := [.ref (77), .int (2), .int (0), .int (x), .int (nI (e + 1))]) (rest := []) 0 (Or.inl rfl) m92_251 (Nat.le_of_ble_eq_true rfl) rfl rfl (Nat.le_of_ble_eq_true rfl) ?_
  refine c_sp_3_2_0 (m := lgM m b [40]) (b := b + 1) (nv := nv) (mv := mv) (lgM_4 hb [40]) (by omega) ((lgM_o (by decide) [40]).trans hk) ((lgM_o (by decide) [40]).trans h0) ((lgM_o (by decide) [40]).trans h1) (by omega) ?_
  rw [show lgM (lgM m b [40]) (b + 1) [12] = lgM m b [40, 12] from lgM_a [40] [12]]
  refine gwr ?_
  refine g_ineg m92_254 rfl ?_
  refine g_iret m92_255 rt_92 ?_
  exact hQ
set_option maxRecDepth 20000 in
set_option maxHeartbeats 40000000 in
theorem c_sp_3_3_3 {b e : Nat} {x nv mv : Int32} (hb : m 45 4 = nI b) (hb40 : b + 5 ≤ 40) (hk : m 45 2 = nI 3) (h0 : m 45 0 = nv) (h1 : m 45 1 = mv) (he : e + 2 ≤ 30) (hQ : Q (some (.int (((x + nv) * (2 : Int32)) ^^^ (-(x - mv))))) (H (lgM m b [13, 11, 10, 40, 12]) ln N)) : WP xs (d + 5) 92 0 0 [.ref (77), .int (3), .int (3), .int (x), .int (nI (e))] (H m ln N) Q := by
  refine wp_x mx_92 (L := [some (.ref (77)), some (.int (3)), some (.int (3)), some (.int (x)), some (.int (nI (e))), none, none, none, none, none]) (Nat.le_of_ble_eq_true rfl) rfl ?_
  refine g_iload_n m92_0 rfl ?_
  refine g_iload_n m92_1 rfl ?_
  refine g_cs (args := [.int (3), .int (3)]) (rest := []) 0 (Or.inl rfl) m92_2 (Nat.le_of_ble_eq_true rfl) rfl rfl (Nat.le_of_ble_eq_true rfl) ?_
  refine c_own_3_3 ?_
  refine gwr ?_
  refine g_istore (L2 := [some (.ref (77)), some (.int (3)), some (.int (3)), some (.int (x)), some (.int (nI (e))), some (.int (0)), none, none, none, none]) m92_5 rfl rfl ?_
  refine g_iload m92_7 rfl ?_
  refine h_if_ltF (xi := 0) (zi := 0) m92_9 rfl rfl (by decide) ?_
  refine g_iload m92_12 rfl ?_
  refine g_bipush m92_14 ?_
  refine h_ic_leT (xi := ((e : Nat) : Int)) (zi := 30) m92_16 (nI_toInt (by omega)) rfl (by omega) ?_
  refine g_gst m92_21 rfl ?_
  refine g_iconst m92_24 ?_
  refine g_iload m92_25 rfl ?_
  refine g_imul (u := (0 : Int32)) m92_27 (by decide) ?_
  refine g_iload_n m92_28 rfl ?_
  refine g_iadd (u := (3 : Int32)) m92_29 (by decide) ?_
  refine g_iald (x := (13 : Int32)) m92_30 rfl (show vp_in (nI 3) 28 from vp_in_nI (by decide) (by decide)) (by decide +kernel) ?_
  refine g_istore (L2 := [some (.ref (77)), some (.int (3)), some (.int (3)), some (.int (x)), some (.int (nI (e))), some (.int (0)), some (.int (13)), none, none, none]) m92_31 rfl rfl ?_
  refine g_aload_n m92_33 rfl ?_
  refine g_iload m92_34 rfl ?_
  refine h_cv (k := 45) (p := 77) (args := [.int (13)]) (rest := []) m92_36 cn_50 (Nat.le_of_ble_eq_true rfl) rfl rfl rfl (t_45 _ _) (Nat.le_of_ble_eq_true rfl) ?_
  refine c_begin (b := b) (c := 13) hb (by omega) ?_
  refine gwr0 ?_
  refine g_aload_n m92_39 rfl ?_
  refine h_gfI (k := 45) (p := 77) m92_40 rfl (t_45 _ _) rfl ((lgM_o (by decide) [13]).trans hk) ?_
  refine g_istore (L2 := [some (.ref (77)), some (.int (3)), some (.int (3)), some (.int (x)), some (.int (nI (e))), some (.int (0)), some (.int (13)), some (.int (3)), none, none]) m92_43 rfl rfl ?_
  refine g_gst m92_45 rfl ?_
  refine g_iload m92_48 rfl ?_
  refine g_iald (x := (-1 : Int32)) m92_50 rfl (show vp_in (nI 0) 7 from vp_in_nI (by decide) (by decide)) (by decide +kernel) ?_
  refine g_istore (L2 := [some (.ref (77)), some (.int (3)), some (.int (3)), some (.int (x)), some (.int (nI (e))), some (.int (0)), some (.int (13)), some (.int (3)), some (.int (-1)), none]) m92_51 rfl rfl ?_
  refine g_iload m92_53 rfl ?_
  refine g_iconst m92_55 ?_
  refine g_iadd (u := nI (e + 1)) m92_56 (nI_add e 1) ?_
  refine g_istore (L2 := [some (.ref (77)), some (.int (3)), some (.int (3)), some (.int (x)), some (.int (nI (e))), some (.int (0)), some (.int (13)), some (.int (3)), some (.int (-1)), some (.int (nI (e + 1)))]) m92_57 rfl rfl ?_
  refine g_iload m92_59 rfl ?_
  refine gs m92_61 ?_
  refine gwpc (pc' := 187) rfl ?_
  refine g_aload_n m92_187 rfl ?_
  refine g_iconst m92_188 ?_
  refine g_iload m92_189 rfl ?_
  refine g_iload_n m92_191 rfl ?_
  refine g_iload m92_192 rfl ?_
  refine g_cs (args := [.ref (77), .int (1), .int (3), .int (x), .int (nI (e + 1))]) (rest := []) 0 (Or.inl rfl) m92_194 (Nat.le_of_ble_eq_true rfl) rfl rfl (Nat.le_of_ble_eq_true rfl) ?_
  refine c_sp_3_1_3 (m := lgM m b [13]) (b := b + 1) (nv := nv) (mv := mv) (lgM_4 hb [13]) (by omega) ((lgM_o (by decide) [13]).trans hk) ((lgM_o (by decide) [13]).trans h0) ((lgM_o (by decide) [13]).trans h1) (by omega) ?_
  rw [show lgM (lgM m b [13]) (b + 1) [11, 10] = lgM m b [13, 11, 10] from lgM_a [13] [11, 10]]
  refine gwr ?_
  refine g_aload_n m92_197 rfl ?_
  refine g_iconst m92_198 ?_
  refine g_iload m92_199 rfl ?_
  refine g_iload_n m92_201 rfl ?_
  refine g_iload m92_202 rfl ?_
  refine g_cs (args := [.ref (77), .int (2), .int (3), .int (x), .int (nI (e + 1))]) (rest := [.int (((x + nv) * (2 : Int32)))]) 0 (Or.inl rfl) m92_204 (Nat.le_of_ble_eq_true rfl) rfl rfl (Nat.le_of_ble_eq_true rfl) ?_
  refine c_sp_3_2_3 (m := lgM m b [13, 11, 10]) (b := b + 3) (nv := nv) (mv := mv) (lgM_4 hb [13, 11, 10]) (by omega) ((lgM_o (by decide) [13, 11, 10]).trans hk) ((lgM_o (by decide) [13, 11, 10]).trans h0) ((lgM_o (by decide) [13, 11, 10]).trans h1) (by omega) ?_
  rw [show lgM (lgM m b [13, 11, 10]) (b + 3) [40, 12] = lgM m b [13, 11, 10, 40, 12] from lgM_a [13, 11, 10] [40, 12]]
  refine gwr ?_
  refine g_ixor m92_207 rfl ?_
  refine g_iret m92_208 rt_92 ?_
  exact hQ
set_option maxRecDepth 20000 in
set_option maxHeartbeats 40000000 in
theorem c_sp_4_0_0 {b e : Nat} {x nv mv : Int32} (hb : m 45 4 = nI b) (hb40 : b + 1 ≤ 40) (hk : m 45 2 = nI 4) (h0 : m 45 0 = nv) (h1 : m 45 1 = mv) (he : e + 0 ≤ 30) (hQ : Q (some (.int (x + nv))) (H (lgM m b [10]) ln N)) : WP xs (d + 3) 92 0 0 [.ref (77), .int (0), .int (0), .int (x), .int (nI (e))] (H m ln N) Q := by
  refine wp_x mx_92 (L := [some (.ref (77)), some (.int (0)), some (.int (0)), some (.int (x)), some (.int (nI (e))), none, none, none, none, none]) (Nat.le_of_ble_eq_true rfl) rfl ?_
  refine g_iload_n m92_0 rfl ?_
  refine g_iload_n m92_1 rfl ?_
  refine g_cs (args := [.int (0), .int (0)]) (rest := []) 0 (Or.inl rfl) m92_2 (Nat.le_of_ble_eq_true rfl) rfl rfl (Nat.le_of_ble_eq_true rfl) ?_
  refine c_own_0_0 ?_
  refine gwr ?_
  refine g_istore (L2 := [some (.ref (77)), some (.int (0)), some (.int (0)), some (.int (x)), some (.int (nI (e))), some (.int (0)), none, none, none, none]) m92_5 rfl rfl ?_
  refine g_iload m92_7 rfl ?_
  refine h_if_ltF (xi := 0) (zi := 0) m92_9 rfl rfl (by decide) ?_
  refine g_iload m92_12 rfl ?_
  refine g_bipush m92_14 ?_
  refine h_ic_leT (xi := ((e : Nat) : Int)) (zi := 30) m92_16 (nI_toInt (by omega)) rfl (by omega) ?_
  refine g_gst m92_21 rfl ?_
  refine g_iconst m92_24 ?_
  refine g_iload m92_25 rfl ?_
  refine g_imul (u := (0 : Int32)) m92_27 (by decide) ?_
  refine g_iload_n m92_28 rfl ?_
  refine g_iadd (u := (0 : Int32)) m92_29 (by decide) ?_
  refine g_iald (x := (10 : Int32)) m92_30 rfl (show vp_in (nI 0) 28 from vp_in_nI (by decide) (by decide)) (by decide +kernel) ?_
  refine g_istore (L2 := [some (.ref (77)), some (.int (0)), some (.int (0)), some (.int (x)), some (.int (nI (e))), some (.int (0)), some (.int (10)), none, none, none]) m92_31 rfl rfl ?_
  refine g_aload_n m92_33 rfl ?_
  refine g_iload m92_34 rfl ?_
  refine h_cv (k := 45) (p := 77) (args := [.int (10)]) (rest := []) m92_36 cn_50 (Nat.le_of_ble_eq_true rfl) rfl rfl rfl (t_45 _ _) (Nat.le_of_ble_eq_true rfl) ?_
  refine c_begin (b := b) (c := 10) hb (by omega) ?_
  refine gwr0 ?_
  refine g_aload_n m92_39 rfl ?_
  refine h_gfI (k := 45) (p := 77) m92_40 rfl (t_45 _ _) rfl ((lgM_o (by decide) [10]).trans hk) ?_
  refine g_istore (L2 := [some (.ref (77)), some (.int (0)), some (.int (0)), some (.int (x)), some (.int (nI (e))), some (.int (0)), some (.int (10)), some (.int (4)), none, none]) m92_43 rfl rfl ?_
  refine g_gst m92_45 rfl ?_
  refine g_iload m92_48 rfl ?_
  refine g_iald (x := (-1 : Int32)) m92_50 rfl (show vp_in (nI 0) 7 from vp_in_nI (by decide) (by decide)) (by decide +kernel) ?_
  refine g_istore (L2 := [some (.ref (77)), some (.int (0)), some (.int (0)), some (.int (x)), some (.int (nI (e))), some (.int (0)), some (.int (10)), some (.int (4)), some (.int (-1)), none]) m92_51 rfl rfl ?_
  refine g_iload m92_53 rfl ?_
  refine g_iconst m92_55 ?_
  refine g_iadd (u := nI (e + 1)) m92_56 (nI_add e 1) ?_
  refine g_istore (L2 := [some (.ref (77)), some (.int (0)), some (.int (0)), some (.int (x)), some (.int (nI (e))), some (.int (0)), some (.int (10)), some (.int (4)), some (.int (-1)), some (.int (nI (e + 1)))]) m92_57 rfl rfl ?_
  refine g_iload m92_59 rfl ?_
  refine gs m92_61 ?_
  refine gwpc (pc' := 160) rfl ?_
  refine g_iload_n m92_160 rfl ?_
  refine g_aload_n m92_161 rfl ?_
  refine h_gfI (k := 45) (p := 77) m92_162 rfl (t_45 _ _) rfl ((lgM_o (by decide) [10]).trans h0) ?_
  refine g_iadd m92_165 rfl ?_
  refine g_iret m92_166 rt_92 ?_
  exact hQ
set_option maxRecDepth 20000 in
set_option maxHeartbeats 40000000 in
theorem c_sp_4_0_4 {b e : Nat} {x nv mv : Int32} (hb : m 45 4 = nI b) (hb40 : b + 2 ≤ 40) (hk : m 45 2 = nI 4) (h0 : m 45 0 = nv) (h1 : m 45 1 = mv) (he : e + 1 ≤ 30) (hQ : Q (some (.int ((x + nv) * (3 : Int32)))) (H (lgM m b [20, 10]) ln N)) : WP xs (d + 4) 92 0 0 [.ref (77), .int (0), .int (4), .int (x), .int (nI (e))] (H m ln N) Q := by
  refine wp_x mx_92 (L := [some (.ref (77)), some (.int (0)), some (.int (4)), some (.int (x)), some (.int (nI (e))), none, none, none, none, none]) (Nat.le_of_ble_eq_true rfl) rfl ?_
  refine g_iload_n m92_0 rfl ?_
  refine g_iload_n m92_1 rfl ?_
  refine g_cs (args := [.int (0), .int (4)]) (rest := []) 0 (Or.inl rfl) m92_2 (Nat.le_of_ble_eq_true rfl) rfl rfl (Nat.le_of_ble_eq_true rfl) ?_
  refine c_own_0_4 ?_
  refine gwr ?_
  refine g_istore (L2 := [some (.ref (77)), some (.int (0)), some (.int (4)), some (.int (x)), some (.int (nI (e))), some (.int (1)), none, none, none, none]) m92_5 rfl rfl ?_
  refine g_iload m92_7 rfl ?_
  refine h_if_ltF (xi := 1) (zi := 0) m92_9 rfl rfl (by decide) ?_
  refine g_iload m92_12 rfl ?_
  refine g_bipush m92_14 ?_
  refine h_ic_leT (xi := ((e : Nat) : Int)) (zi := 30) m92_16 (nI_toInt (by omega)) rfl (by omega) ?_
  refine g_gst m92_21 rfl ?_
  refine g_iconst m92_24 ?_
  refine g_iload m92_25 rfl ?_
  refine g_imul (u := (4 : Int32)) m92_27 (by decide) ?_
  refine g_iload_n m92_28 rfl ?_
  refine g_iadd (u := (4 : Int32)) m92_29 (by decide) ?_
  refine g_iald (x := (20 : Int32)) m92_30 rfl (show vp_in (nI 4) 28 from vp_in_nI (by decide) (by decide)) (by decide +kernel) ?_
  refine g_istore (L2 := [some (.ref (77)), some (.int (0)), some (.int (4)), some (.int (x)), some (.int (nI (e))), some (.int (1)), some (.int (20)), none, none, none]) m92_31 rfl rfl ?_
  refine g_aload_n m92_33 rfl ?_
  refine g_iload m92_34 rfl ?_
  refine h_cv (k := 45) (p := 77) (args := [.int (20)]) (rest := []) m92_36 cn_50 (Nat.le_of_ble_eq_true rfl) rfl rfl rfl (t_45 _ _) (Nat.le_of_ble_eq_true rfl) ?_
  refine c_begin (b := b) (c := 20) hb (by omega) ?_
  refine gwr0 ?_
  refine g_aload_n m92_39 rfl ?_
  refine h_gfI (k := 45) (p := 77) m92_40 rfl (t_45 _ _) rfl ((lgM_o (by decide) [20]).trans hk) ?_
  refine g_istore (L2 := [some (.ref (77)), some (.int (0)), some (.int (4)), some (.int (x)), some (.int (nI (e))), some (.int (1)), some (.int (20)), some (.int (4)), none, none]) m92_43 rfl rfl ?_
  refine g_gst m92_45 rfl ?_
  refine g_iload m92_48 rfl ?_
  refine g_iald (x := (0 : Int32)) m92_50 rfl (show vp_in (nI 1) 7 from vp_in_nI (by decide) (by decide)) (by decide +kernel) ?_
  refine g_istore (L2 := [some (.ref (77)), some (.int (0)), some (.int (4)), some (.int (x)), some (.int (nI (e))), some (.int (1)), some (.int (20)), some (.int (4)), some (.int (0)), none]) m92_51 rfl rfl ?_
  refine g_iload m92_53 rfl ?_
  refine g_iconst m92_55 ?_
  refine g_iadd (u := nI (e + 1)) m92_56 (nI_add e 1) ?_
  refine g_istore (L2 := [some (.ref (77)), some (.int (0)), some (.int (4)), some (.int (x)), some (.int (nI (e))), some (.int (1)), some (.int (20)), some (.int (4)), some (.int (0)), some (.int (nI (e + 1)))]) m92_57 rfl rfl ?_
  refine g_iload m92_59 rfl ?_
  refine gs m92_61 ?_
  refine gwpc (pc' := 209) rfl ?_
  refine g_aload_n m92_209 rfl ?_
  refine g_iconst m92_210 ?_
  refine g_iload m92_211 rfl ?_
  refine g_iload_n m92_213 rfl ?_
  refine g_iload m92_214 rfl ?_
  refine g_cs (args := [.ref (77), .int (0), .int (0), .int (x), .int (nI (e + 1))]) (rest := []) 0 (Or.inl rfl) m92_216 (Nat.le_of_ble_eq_true rfl) rfl rfl (Nat.le_of_ble_eq_true rfl) ?_
  refine c_sp_4_0_0 (m := lgM m b [20]) (b := b + 1) (nv := nv) (mv := mv) (lgM_4 hb [20]) (by omega) ((lgM_o (by decide) [20]).trans hk) ((lgM_o (by decide) [20]).trans h0) ((lgM_o (by decide) [20]).trans h1) (by omega) ?_
  rw [show lgM (lgM m b [20]) (b + 1) [10] = lgM m b [20, 10] from lgM_a [20] [10]]
  refine gwr ?_
  refine g_iconst m92_219 ?_
  refine g_imul m92_220 rfl ?_
  refine g_iret m92_221 rt_92 ?_
  exact hQ
set_option maxRecDepth 20000 in
set_option maxHeartbeats 40000000 in
theorem c_sp_4_1_4 {b e : Nat} {x nv mv : Int32} (hb : m 45 4 = nI b) (hb40 : b + 3 ≤ 40) (hk : m 45 2 = nI 4) (h0 : m 45 0 = nv) (h1 : m 45 1 = mv) (he : e + 2 ≤ 30) (hQ : Q (some (.int (((x + nv) * (3 : Int32)) * (2 : Int32)))) (H (lgM m b [11, 20, 10]) ln N)) : WP xs (d + 5) 92 0 0 [.ref (77), .int (1), .int (4), .int (x), .int (nI (e))] (H m ln N) Q := by
  refine wp_x mx_92 (L := [some (.ref (77)), some (.int (1)), some (.int (4)), some (.int (x)), some (.int (nI (e))), none, none, none, none, none]) (Nat.le_of_ble_eq_true rfl) rfl ?_
  refine g_iload_n m92_0 rfl ?_
  refine g_iload_n m92_1 rfl ?_
  refine g_cs (args := [.int (1), .int (4)]) (rest := []) 0 (Or.inl rfl) m92_2 (Nat.le_of_ble_eq_true rfl) rfl rfl (Nat.le_of_ble_eq_true rfl) ?_
  refine c_own_1_4 ?_
  refine gwr ?_
  refine g_istore (L2 := [some (.ref (77)), some (.int (1)), some (.int (4)), some (.int (x)), some (.int (nI (e))), some (.int (0)), none, none, none, none]) m92_5 rfl rfl ?_
  refine g_iload m92_7 rfl ?_
  refine h_if_ltF (xi := 0) (zi := 0) m92_9 rfl rfl (by decide) ?_
  refine g_iload m92_12 rfl ?_
  refine g_bipush m92_14 ?_
  refine h_ic_leT (xi := ((e : Nat) : Int)) (zi := 30) m92_16 (nI_toInt (by omega)) rfl (by omega) ?_
  refine g_gst m92_21 rfl ?_
  refine g_iconst m92_24 ?_
  refine g_iload m92_25 rfl ?_
  refine g_imul (u := (0 : Int32)) m92_27 (by decide) ?_
  refine g_iload_n m92_28 rfl ?_
  refine g_iadd (u := (1 : Int32)) m92_29 (by decide) ?_
  refine g_iald (x := (11 : Int32)) m92_30 rfl (show vp_in (nI 1) 28 from vp_in_nI (by decide) (by decide)) (by decide +kernel) ?_
  refine g_istore (L2 := [some (.ref (77)), some (.int (1)), some (.int (4)), some (.int (x)), some (.int (nI (e))), some (.int (0)), some (.int (11)), none, none, none]) m92_31 rfl rfl ?_
  refine g_aload_n m92_33 rfl ?_
  refine g_iload m92_34 rfl ?_
  refine h_cv (k := 45) (p := 77) (args := [.int (11)]) (rest := []) m92_36 cn_50 (Nat.le_of_ble_eq_true rfl) rfl rfl rfl (t_45 _ _) (Nat.le_of_ble_eq_true rfl) ?_
  refine c_begin (b := b) (c := 11) hb (by omega) ?_
  refine gwr0 ?_
  refine g_aload_n m92_39 rfl ?_
  refine h_gfI (k := 45) (p := 77) m92_40 rfl (t_45 _ _) rfl ((lgM_o (by decide) [11]).trans hk) ?_
  refine g_istore (L2 := [some (.ref (77)), some (.int (1)), some (.int (4)), some (.int (x)), some (.int (nI (e))), some (.int (0)), some (.int (11)), some (.int (4)), none, none]) m92_43 rfl rfl ?_
  refine g_gst m92_45 rfl ?_
  refine g_iload m92_48 rfl ?_
  refine g_iald (x := (-1 : Int32)) m92_50 rfl (show vp_in (nI 0) 7 from vp_in_nI (by decide) (by decide)) (by decide +kernel) ?_
  refine g_istore (L2 := [some (.ref (77)), some (.int (1)), some (.int (4)), some (.int (x)), some (.int (nI (e))), some (.int (0)), some (.int (11)), some (.int (4)), some (.int (-1)), none]) m92_51 rfl rfl ?_
  refine g_iload m92_53 rfl ?_
  refine g_iconst m92_55 ?_
  refine g_iadd (u := nI (e + 1)) m92_56 (nI_add e 1) ?_
  refine g_istore (L2 := [some (.ref (77)), some (.int (1)), some (.int (4)), some (.int (x)), some (.int (nI (e))), some (.int (0)), some (.int (11)), some (.int (4)), some (.int (-1)), some (.int (nI (e + 1)))]) m92_57 rfl rfl ?_
  refine g_iload m92_59 rfl ?_
  refine gs m92_61 ?_
  refine gwpc (pc' := 167) rfl ?_
  refine g_aload_n m92_167 rfl ?_
  refine g_iconst m92_168 ?_
  refine g_iload m92_169 rfl ?_
  refine g_iload_n m92_171 rfl ?_
  refine g_iload m92_172 rfl ?_
  refine g_cs (args := [.ref (77), .int (0), .int (4), .int (x), .int (nI (e + 1))]) (rest := []) 0 (Or.inl rfl) m92_174 (Nat.le_of_ble_eq_true rfl) rfl rfl (Nat.le_of_ble_eq_true rfl) ?_
  refine c_sp_4_0_4 (m := lgM m b [11]) (b := b + 1) (nv := nv) (mv := mv) (lgM_4 hb [11]) (by omega) ((lgM_o (by decide) [11]).trans hk) ((lgM_o (by decide) [11]).trans h0) ((lgM_o (by decide) [11]).trans h1) (by omega) ?_
  rw [show lgM (lgM m b [11]) (b + 1) [20, 10] = lgM m b [11, 20, 10] from lgM_a [11] [20, 10]]
  refine gwr ?_
  refine g_iconst m92_177 ?_
  refine g_imul m92_178 rfl ?_
  refine g_iret m92_179 rt_92 ?_
  exact hQ
set_option maxRecDepth 20000 in
set_option maxHeartbeats 40000000 in
theorem c_sp_4_2_4 {b e : Nat} {x nv mv : Int32} (hb : m 45 4 = nI b) (hb40 : b + 1 ≤ 40) (hk : m 45 2 = nI 4) (h0 : m 45 0 = nv) (h1 : m 45 1 = mv) (he : e + 0 ≤ 30) (hQ : Q (some (.int (x - mv))) (H (lgM m b [12]) ln N)) : WP xs (d + 3) 92 0 0 [.ref (77), .int (2), .int (4), .int (x), .int (nI (e))] (H m ln N) Q := by
  refine wp_x mx_92 (L := [some (.ref (77)), some (.int (2)), some (.int (4)), some (.int (x)), some (.int (nI (e))), none, none, none, none, none]) (Nat.le_of_ble_eq_true rfl) rfl ?_
  refine g_iload_n m92_0 rfl ?_
  refine g_iload_n m92_1 rfl ?_
  refine g_cs (args := [.int (2), .int (4)]) (rest := []) 0 (Or.inl rfl) m92_2 (Nat.le_of_ble_eq_true rfl) rfl rfl (Nat.le_of_ble_eq_true rfl) ?_
  refine c_own_2_4 ?_
  refine gwr ?_
  refine g_istore (L2 := [some (.ref (77)), some (.int (2)), some (.int (4)), some (.int (x)), some (.int (nI (e))), some (.int (0)), none, none, none, none]) m92_5 rfl rfl ?_
  refine g_iload m92_7 rfl ?_
  refine h_if_ltF (xi := 0) (zi := 0) m92_9 rfl rfl (by decide) ?_
  refine g_iload m92_12 rfl ?_
  refine g_bipush m92_14 ?_
  refine h_ic_leT (xi := ((e : Nat) : Int)) (zi := 30) m92_16 (nI_toInt (by omega)) rfl (by omega) ?_
  refine g_gst m92_21 rfl ?_
  refine g_iconst m92_24 ?_
  refine g_iload m92_25 rfl ?_
  refine g_imul (u := (0 : Int32)) m92_27 (by decide) ?_
  refine g_iload_n m92_28 rfl ?_
  refine g_iadd (u := (2 : Int32)) m92_29 (by decide) ?_
  refine g_iald (x := (12 : Int32)) m92_30 rfl (show vp_in (nI 2) 28 from vp_in_nI (by decide) (by decide)) (by decide +kernel) ?_
  refine g_istore (L2 := [some (.ref (77)), some (.int (2)), some (.int (4)), some (.int (x)), some (.int (nI (e))), some (.int (0)), some (.int (12)), none, none, none]) m92_31 rfl rfl ?_
  refine g_aload_n m92_33 rfl ?_
  refine g_iload m92_34 rfl ?_
  refine h_cv (k := 45) (p := 77) (args := [.int (12)]) (rest := []) m92_36 cn_50 (Nat.le_of_ble_eq_true rfl) rfl rfl rfl (t_45 _ _) (Nat.le_of_ble_eq_true rfl) ?_
  refine c_begin (b := b) (c := 12) hb (by omega) ?_
  refine gwr0 ?_
  refine g_aload_n m92_39 rfl ?_
  refine h_gfI (k := 45) (p := 77) m92_40 rfl (t_45 _ _) rfl ((lgM_o (by decide) [12]).trans hk) ?_
  refine g_istore (L2 := [some (.ref (77)), some (.int (2)), some (.int (4)), some (.int (x)), some (.int (nI (e))), some (.int (0)), some (.int (12)), some (.int (4)), none, none]) m92_43 rfl rfl ?_
  refine g_gst m92_45 rfl ?_
  refine g_iload m92_48 rfl ?_
  refine g_iald (x := (-1 : Int32)) m92_50 rfl (show vp_in (nI 0) 7 from vp_in_nI (by decide) (by decide)) (by decide +kernel) ?_
  refine g_istore (L2 := [some (.ref (77)), some (.int (2)), some (.int (4)), some (.int (x)), some (.int (nI (e))), some (.int (0)), some (.int (12)), some (.int (4)), some (.int (-1)), none]) m92_51 rfl rfl ?_
  refine g_iload m92_53 rfl ?_
  refine g_iconst m92_55 ?_
  refine g_iadd (u := nI (e + 1)) m92_56 (nI_add e 1) ?_
  refine g_istore (L2 := [some (.ref (77)), some (.int (2)), some (.int (4)), some (.int (x)), some (.int (nI (e))), some (.int (0)), some (.int (12)), some (.int (4)), some (.int (-1)), some (.int (nI (e + 1)))]) m92_57 rfl rfl ?_
  refine g_iload m92_59 rfl ?_
  refine gs m92_61 ?_
  refine gwpc (pc' := 180) rfl ?_
  refine g_iload_n m92_180 rfl ?_
  refine g_aload_n m92_181 rfl ?_
  refine h_gfI (k := 45) (p := 77) m92_182 rfl (t_45 _ _) rfl ((lgM_o (by decide) [12]).trans h1) ?_
  refine g_isub m92_185 rfl ?_
  refine g_iret m92_186 rt_92 ?_
  exact hQ
set_option maxRecDepth 20000 in
set_option maxHeartbeats 40000000 in
theorem c_sp_4_3_1 {b e : Nat} {x nv mv : Int32} (hb : m 45 4 = nI b) (hb40 : b + 5 ≤ 40) (hk : m 45 2 = nI 4) (h0 : m 45 0 = nv) (h1 : m 45 1 = mv) (he : e + 3 ≤ 30) (hQ : Q (some (.int ((((x + nv) * (3 : Int32)) * (2 : Int32)) ^^^ (x - mv)))) (H (lgM m b [13, 11, 20, 10, 12]) ln N)) : WP xs (d + 6) 92 0 0 [.ref (77), .int (3), .int (1), .int (x), .int (nI (e))] (H m ln N) Q := by
  refine wp_x mx_92 (L := [some (.ref (77)), some (.int (3)), some (.int (1)), some (.int (x)), some (.int (nI (e))), none, none, none, none, none]) (Nat.le_of_ble_eq_true rfl) rfl ?_
  refine g_iload_n m92_0 rfl ?_
  refine g_iload_n m92_1 rfl ?_
  refine g_cs (args := [.int (3), .int (1)]) (rest := []) 0 (Or.inl rfl) m92_2 (Nat.le_of_ble_eq_true rfl) rfl rfl (Nat.le_of_ble_eq_true rfl) ?_
  refine c_own_3_1 ?_
  refine gwr ?_
  refine g_istore (L2 := [some (.ref (77)), some (.int (3)), some (.int (1)), some (.int (x)), some (.int (nI (e))), some (.int (0)), none, none, none, none]) m92_5 rfl rfl ?_
  refine g_iload m92_7 rfl ?_
  refine h_if_ltF (xi := 0) (zi := 0) m92_9 rfl rfl (by decide) ?_
  refine g_iload m92_12 rfl ?_
  refine g_bipush m92_14 ?_
  refine h_ic_leT (xi := ((e : Nat) : Int)) (zi := 30) m92_16 (nI_toInt (by omega)) rfl (by omega) ?_
  refine g_gst m92_21 rfl ?_
  refine g_iconst m92_24 ?_
  refine g_iload m92_25 rfl ?_
  refine g_imul (u := (0 : Int32)) m92_27 (by decide) ?_
  refine g_iload_n m92_28 rfl ?_
  refine g_iadd (u := (3 : Int32)) m92_29 (by decide) ?_
  refine g_iald (x := (13 : Int32)) m92_30 rfl (show vp_in (nI 3) 28 from vp_in_nI (by decide) (by decide)) (by decide +kernel) ?_
  refine g_istore (L2 := [some (.ref (77)), some (.int (3)), some (.int (1)), some (.int (x)), some (.int (nI (e))), some (.int (0)), some (.int (13)), none, none, none]) m92_31 rfl rfl ?_
  refine g_aload_n m92_33 rfl ?_
  refine g_iload m92_34 rfl ?_
  refine h_cv (k := 45) (p := 77) (args := [.int (13)]) (rest := []) m92_36 cn_50 (Nat.le_of_ble_eq_true rfl) rfl rfl rfl (t_45 _ _) (Nat.le_of_ble_eq_true rfl) ?_
  refine c_begin (b := b) (c := 13) hb (by omega) ?_
  refine gwr0 ?_
  refine g_aload_n m92_39 rfl ?_
  refine h_gfI (k := 45) (p := 77) m92_40 rfl (t_45 _ _) rfl ((lgM_o (by decide) [13]).trans hk) ?_
  refine g_istore (L2 := [some (.ref (77)), some (.int (3)), some (.int (1)), some (.int (x)), some (.int (nI (e))), some (.int (0)), some (.int (13)), some (.int (4)), none, none]) m92_43 rfl rfl ?_
  refine g_gst m92_45 rfl ?_
  refine g_iload m92_48 rfl ?_
  refine g_iald (x := (-1 : Int32)) m92_50 rfl (show vp_in (nI 0) 7 from vp_in_nI (by decide) (by decide)) (by decide +kernel) ?_
  refine g_istore (L2 := [some (.ref (77)), some (.int (3)), some (.int (1)), some (.int (x)), some (.int (nI (e))), some (.int (0)), some (.int (13)), some (.int (4)), some (.int (-1)), none]) m92_51 rfl rfl ?_
  refine g_iload m92_53 rfl ?_
  refine g_iconst m92_55 ?_
  refine g_iadd (u := nI (e + 1)) m92_56 (nI_add e 1) ?_
  refine g_istore (L2 := [some (.ref (77)), some (.int (3)), some (.int (1)), some (.int (x)), some (.int (nI (e))), some (.int (0)), some (.int (13)), some (.int (4)), some (.int (-1)), some (.int (nI (e + 1)))]) m92_57 rfl rfl ?_
  refine g_iload m92_59 rfl ?_
  refine gs m92_61 ?_
  refine gwpc (pc' := 187) rfl ?_
  refine g_aload_n m92_187 rfl ?_
  refine g_iconst m92_188 ?_
  refine g_iload m92_189 rfl ?_
  refine g_iload_n m92_191 rfl ?_
  refine g_iload m92_192 rfl ?_
  refine g_cs (args := [.ref (77), .int (1), .int (4), .int (x), .int (nI (e + 1))]) (rest := []) 0 (Or.inl rfl) m92_194 (Nat.le_of_ble_eq_true rfl) rfl rfl (Nat.le_of_ble_eq_true rfl) ?_
  refine c_sp_4_1_4 (m := lgM m b [13]) (b := b + 1) (nv := nv) (mv := mv) (lgM_4 hb [13]) (by omega) ((lgM_o (by decide) [13]).trans hk) ((lgM_o (by decide) [13]).trans h0) ((lgM_o (by decide) [13]).trans h1) (by omega) ?_
  rw [show lgM (lgM m b [13]) (b + 1) [11, 20, 10] = lgM m b [13, 11, 20, 10] from lgM_a [13] [11, 20, 10]]
  refine gwr ?_
  refine g_aload_n m92_197 rfl ?_
  refine g_iconst m92_198 ?_
  refine g_iload m92_199 rfl ?_
  refine g_iload_n m92_201 rfl ?_
  refine g_iload m92_202 rfl ?_
  refine g_cs (args := [.ref (77), .int (2), .int (4), .int (x), .int (nI (e + 1))]) (rest := [.int ((((x + nv) * (3 : Int32)) * (2 : Int32)))]) 0 (Or.inl rfl) m92_204 (Nat.le_of_ble_eq_true rfl) rfl rfl (Nat.le_of_ble_eq_true rfl) ?_
  refine c_sp_4_2_4 (m := lgM m b [13, 11, 20, 10]) (b := b + 4) (nv := nv) (mv := mv) (lgM_4 hb [13, 11, 20, 10]) (by omega) ((lgM_o (by decide) [13, 11, 20, 10]).trans hk) ((lgM_o (by decide) [13, 11, 20, 10]).trans h0) ((lgM_o (by decide) [13, 11, 20, 10]).trans h1) (by omega) ?_
  rw [show lgM (lgM m b [13, 11, 20, 10]) (b + 4) [12] = lgM m b [13, 11, 20, 10, 12] from lgM_a [13, 11, 20, 10] [12]]
  refine gwr ?_
  refine g_ixor m92_207 rfl ?_
  refine g_iret m92_208 rt_92 ?_
  exact hQ
set_option maxRecDepth 20000 in
set_option maxHeartbeats 40000000 in
theorem c_sp_4_3_4 {b e : Nat} {x nv mv : Int32} (hb : m 45 4 = nI b) (hb40 : b + 8 ≤ 40) (hk : m 45 2 = nI 4) (h0 : m 45 0 = nv) (h1 : m 45 1 = mv) (he : e + 4 ≤ 30) (hQ : Q (some (.int (((((x + nv) * (3 : Int32)) * (2 : Int32)) ^^^ (x - mv)) - (((2 : Int32) + nv) * (3 : Int32))))) (H (lgM m b [50, 13, 11, 20, 10, 12, 20, 10]) ln N)) : WP xs (d + 7) 92 0 0 [.ref (77), .int (3), .int (4), .int (x), .int (nI (e))] (H m ln N) Q := by
  refine wp_x mx_92 (L := [some (.ref (77)), some (.int (3)), some (.int (4)), some (.int (x)), some (.int (nI (e))), none, none, none, none, none]) (Nat.le_of_ble_eq_true rfl) rfl ?_
  refine g_iload_n m92_0 rfl ?_
  refine g_iload_n m92_1 rfl ?_
  refine g_cs (args := [.int (3), .int (4)]) (rest := []) 0 (Or.inl rfl) m92_2 (Nat.le_of_ble_eq_true rfl) rfl rfl (Nat.le_of_ble_eq_true rfl) ?_
  refine c_own_3_4 ?_
  refine gwr ?_
  refine g_istore (L2 := [some (.ref (77)), some (.int (3)), some (.int (4)), some (.int (x)), some (.int (nI (e))), some (.int (4)), none, none, none, none]) m92_5 rfl rfl ?_
  refine g_iload m92_7 rfl ?_
  refine h_if_ltF (xi := 4) (zi := 0) m92_9 rfl rfl (by decide) ?_
  refine g_iload m92_12 rfl ?_
  refine g_bipush m92_14 ?_
  refine h_ic_leT (xi := ((e : Nat) : Int)) (zi := 30) m92_16 (nI_toInt (by omega)) rfl (by omega) ?_
  refine g_gst m92_21 rfl ?_
  refine g_iconst m92_24 ?_
  refine g_iload m92_25 rfl ?_
  refine g_imul (u := (16 : Int32)) m92_27 (by decide) ?_
  refine g_iload_n m92_28 rfl ?_
  refine g_iadd (u := (19 : Int32)) m92_29 (by decide) ?_
  refine g_iald (x := (50 : Int32)) m92_30 rfl (show vp_in (nI 19) 28 from vp_in_nI (by decide) (by decide)) (by decide +kernel) ?_
  refine g_istore (L2 := [some (.ref (77)), some (.int (3)), some (.int (4)), some (.int (x)), some (.int (nI (e))), some (.int (4)), some (.int (50)), none, none, none]) m92_31 rfl rfl ?_
  refine g_aload_n m92_33 rfl ?_
  refine g_iload m92_34 rfl ?_
  refine h_cv (k := 45) (p := 77) (args := [.int (50)]) (rest := []) m92_36 cn_50 (Nat.le_of_ble_eq_true rfl) rfl rfl rfl (t_45 _ _) (Nat.le_of_ble_eq_true rfl) ?_
  refine c_begin (b := b) (c := 50) hb (by omega) ?_
  refine gwr0 ?_
  refine g_aload_n m92_39 rfl ?_
  refine h_gfI (k := 45) (p := 77) m92_40 rfl (t_45 _ _) rfl ((lgM_o (by decide) [50]).trans hk) ?_
  refine g_istore (L2 := [some (.ref (77)), some (.int (3)), some (.int (4)), some (.int (x)), some (.int (nI (e))), some (.int (4)), some (.int (50)), some (.int (4)), none, none]) m92_43 rfl rfl ?_
  refine g_gst m92_45 rfl ?_
  refine g_iload m92_48 rfl ?_
  refine g_iald (x := (1 : Int32)) m92_50 rfl (show vp_in (nI 4) 7 from vp_in_nI (by decide) (by decide)) (by decide +kernel) ?_
  refine g_istore (L2 := [some (.ref (77)), some (.int (3)), some (.int (4)), some (.int (x)), some (.int (nI (e))), some (.int (4)), some (.int (50)), some (.int (4)), some (.int (1)), none]) m92_51 rfl rfl ?_
  refine g_iload m92_53 rfl ?_
  refine g_iconst m92_55 ?_
  refine g_iadd (u := nI (e + 1)) m92_56 (nI_add e 1) ?_
  refine g_istore (L2 := [some (.ref (77)), some (.int (3)), some (.int (4)), some (.int (x)), some (.int (nI (e))), some (.int (4)), some (.int (50)), some (.int (4)), some (.int (1)), some (.int (nI (e + 1)))]) m92_57 rfl rfl ?_
  refine g_iload m92_59 rfl ?_
  refine gs m92_61 ?_
  refine gwpc (pc' := 256) rfl ?_
  refine g_aload_n m92_256 rfl ?_
  refine g_iconst m92_257 ?_
  refine g_iload m92_258 rfl ?_
  refine g_iload_n m92_260 rfl ?_
  refine g_iload m92_261 rfl ?_
  refine g_cs (args := [.ref (77), .int (3), .int (1), .int (x), .int (nI (e + 1))]) (rest := []) 0 (Or.inl rfl) m92_263 (Nat.le_of_ble_eq_true rfl) rfl rfl (Nat.le_of_ble_eq_true rfl) ?_
  refine c_sp_4_3_1 (m := lgM m b [50]) (b := b + 1) (nv := nv) (mv := mv) (lgM_4 hb [50]) (by omega) ((lgM_o (by decide) [50]).trans hk) ((lgM_o (by decide) [50]).trans h0) ((lgM_o (by decide) [50]).trans h1) (by omega) ?_
  rw [show lgM (lgM m b [50]) (b + 1) [13, 11, 20, 10, 12] = lgM m b [50, 13, 11, 20, 10, 12] from lgM_a [50] [13, 11, 20, 10, 12]]
  refine gwr ?_
  refine g_aload_n m92_266 rfl ?_
  refine g_iconst m92_267 ?_
  refine g_iload m92_268 rfl ?_
  refine g_iconst m92_270 ?_
  refine g_iload m92_271 rfl ?_
  refine g_cs (args := [.ref (77), .int (0), .int (4), .int (2), .int (nI (e + 1))]) (rest := [.int (((((x + nv) * (3 : Int32)) * (2 : Int32)) ^^^ (x - mv)))]) 0 (Or.inl rfl) m92_273 (Nat.le_of_ble_eq_true rfl) rfl rfl (Nat.le_of_ble_eq_true rfl) ?_
  refine c_sp_4_0_4 (m := lgM m b [50, 13, 11, 20, 10, 12]) (b := b + 6) (nv := nv) (mv := mv) (lgM_4 hb [50, 13, 11, 20, 10, 12]) (by omega) ((lgM_o (by decide) [50, 13, 11, 20, 10, 12]).trans hk) ((lgM_o (by decide) [50, 13, 11, 20, 10, 12]).trans h0) ((lgM_o (by decide) [50, 13, 11, 20, 10, 12]).trans h1) (by omega) ?_
  rw [show lgM (lgM m b [50, 13, 11, 20, 10, 12]) (b + 6) [20, 10] = lgM m b [50, 13, 11, 20, 10, 12, 20, 10] from lgM_a [50, 13, 11, 20, 10, 12] [20, 10]]
  refine gwr ?_
  refine g_isub m92_276 rfl ?_
  refine g_iret m92_277 rt_92 ?_
  exact hQ
set_option maxRecDepth 20000 in
set_option maxHeartbeats 40000000 in
theorem c_sp_5_0_5 {b e : Nat} {x nv mv : Int32} (hb : m 45 4 = nI b) (hb40 : b + 1 ≤ 40) (hk : m 45 2 = nI 5) (h0 : m 45 0 = nv) (h1 : m 45 1 = mv) (he : e + 0 ≤ 30) (hQ : Q (some (.int (x + nv))) (H (lgM m b [10]) ln N)) : WP xs (d + 3) 92 0 0 [.ref (77), .int (0), .int (5), .int (x), .int (nI (e))] (H m ln N) Q := by
  refine wp_x mx_92 (L := [some (.ref (77)), some (.int (0)), some (.int (5)), some (.int (x)), some (.int (nI (e))), none, none, none, none, none]) (Nat.le_of_ble_eq_true rfl) rfl ?_
  refine g_iload_n m92_0 rfl ?_
  refine g_iload_n m92_1 rfl ?_
  refine g_cs (args := [.int (0), .int (5)]) (rest := []) 0 (Or.inl rfl) m92_2 (Nat.le_of_ble_eq_true rfl) rfl rfl (Nat.le_of_ble_eq_true rfl) ?_
  refine c_own_0_5 ?_
  refine gwr ?_
  refine g_istore (L2 := [some (.ref (77)), some (.int (0)), some (.int (5)), some (.int (x)), some (.int (nI (e))), some (.int (0)), none, none, none, none]) m92_5 rfl rfl ?_
  refine g_iload m92_7 rfl ?_
  refine h_if_ltF (xi := 0) (zi := 0) m92_9 rfl rfl (by decide) ?_
  refine g_iload m92_12 rfl ?_
  refine g_bipush m92_14 ?_
  refine h_ic_leT (xi := ((e : Nat) : Int)) (zi := 30) m92_16 (nI_toInt (by omega)) rfl (by omega) ?_
  refine g_gst m92_21 rfl ?_
  refine g_iconst m92_24 ?_
  refine g_iload m92_25 rfl ?_
  refine g_imul (u := (0 : Int32)) m92_27 (by decide) ?_
  refine g_iload_n m92_28 rfl ?_
  refine g_iadd (u := (0 : Int32)) m92_29 (by decide) ?_
  refine g_iald (x := (10 : Int32)) m92_30 rfl (show vp_in (nI 0) 28 from vp_in_nI (by decide) (by decide)) (by decide +kernel) ?_
  refine g_istore (L2 := [some (.ref (77)), some (.int (0)), some (.int (5)), some (.int (x)), some (.int (nI (e))), some (.int (0)), some (.int (10)), none, none, none]) m92_31 rfl rfl ?_
  refine g_aload_n m92_33 rfl ?_
  refine g_iload m92_34 rfl ?_
  refine h_cv (k := 45) (p := 77) (args := [.int (10)]) (rest := []) m92_36 cn_50 (Nat.le_of_ble_eq_true rfl) rfl rfl rfl (t_45 _ _) (Nat.le_of_ble_eq_true rfl) ?_
  refine c_begin (b := b) (c := 10) hb (by omega) ?_
  refine gwr0 ?_
  refine g_aload_n m92_39 rfl ?_
  refine h_gfI (k := 45) (p := 77) m92_40 rfl (t_45 _ _) rfl ((lgM_o (by decide) [10]).trans hk) ?_
  refine g_istore (L2 := [some (.ref (77)), some (.int (0)), some (.int (5)), some (.int (x)), some (.int (nI (e))), some (.int (0)), some (.int (10)), some (.int (5)), none, none]) m92_43 rfl rfl ?_
  refine g_gst m92_45 rfl ?_
  refine g_iload m92_48 rfl ?_
  refine g_iald (x := (-1 : Int32)) m92_50 rfl (show vp_in (nI 0) 7 from vp_in_nI (by decide) (by decide)) (by decide +kernel) ?_
  refine g_istore (L2 := [some (.ref (77)), some (.int (0)), some (.int (5)), some (.int (x)), some (.int (nI (e))), some (.int (0)), some (.int (10)), some (.int (5)), some (.int (-1)), none]) m92_51 rfl rfl ?_
  refine g_iload m92_53 rfl ?_
  refine g_iconst m92_55 ?_
  refine g_iadd (u := nI (e + 1)) m92_56 (nI_add e 1) ?_
  refine g_istore (L2 := [some (.ref (77)), some (.int (0)), some (.int (5)), some (.int (x)), some (.int (nI (e))), some (.int (0)), some (.int (10)), some (.int (5)), some (.int (-1)), some (.int (nI (e + 1)))]) m92_57 rfl rfl ?_
  refine g_iload m92_59 rfl ?_
  refine gs m92_61 ?_
  refine gwpc (pc' := 160) rfl ?_
  refine g_iload_n m92_160 rfl ?_
  refine g_aload_n m92_161 rfl ?_
  refine h_gfI (k := 45) (p := 77) m92_162 rfl (t_45 _ _) rfl ((lgM_o (by decide) [10]).trans h0) ?_
  refine g_iadd m92_165 rfl ?_
  refine g_iret m92_166 rt_92 ?_
  exact hQ
set_option maxRecDepth 20000 in
set_option maxHeartbeats 40000000 in
theorem c_sp_5_1_0 {b e : Nat} {x nv mv : Int32} (hb : m 45 4 = nI b) (hb40 : b + 2 ≤ 40) (hk : m 45 2 = nI 5) (h0 : m 45 0 = nv) (h1 : m 45 1 = mv) (he : e + 1 ≤ 30) (hQ : Q (some (.int ((x + nv) * (2 : Int32)))) (H (lgM m b [11, 10]) ln N)) : WP xs (d + 4) 92 0 0 [.ref (77), .int (1), .int (0), .int (x), .int (nI (e))] (H m ln N) Q := by
  refine wp_x mx_92 (L := [some (.ref (77)), some (.int (1)), some (.int (0)), some (.int (x)), some (.int (nI (e))), none, none, none, none, none]) (Nat.le_of_ble_eq_true rfl) rfl ?_
  refine g_iload_n m92_0 rfl ?_
  refine g_iload_n m92_1 rfl ?_
  refine g_cs (args := [.int (1), .int (0)]) (rest := []) 0 (Or.inl rfl) m92_2 (Nat.le_of_ble_eq_true rfl) rfl rfl (Nat.le_of_ble_eq_true rfl) ?_
  refine c_own_1_0 ?_
  refine gwr ?_
  refine g_istore (L2 := [some (.ref (77)), some (.int (1)), some (.int (0)), some (.int (x)), some (.int (nI (e))), some (.int (0)), none, none, none, none]) m92_5 rfl rfl ?_
  refine g_iload m92_7 rfl ?_
  refine h_if_ltF (xi := 0) (zi := 0) m92_9 rfl rfl (by decide) ?_
  refine g_iload m92_12 rfl ?_
  refine g_bipush m92_14 ?_
  refine h_ic_leT (xi := ((e : Nat) : Int)) (zi := 30) m92_16 (nI_toInt (by omega)) rfl (by omega) ?_
  refine g_gst m92_21 rfl ?_
  refine g_iconst m92_24 ?_
  refine g_iload m92_25 rfl ?_
  refine g_imul (u := (0 : Int32)) m92_27 (by decide) ?_
  refine g_iload_n m92_28 rfl ?_
  refine g_iadd (u := (1 : Int32)) m92_29 (by decide) ?_
  refine g_iald (x := (11 : Int32)) m92_30 rfl (show vp_in (nI 1) 28 from vp_in_nI (by decide) (by decide)) (by decide +kernel) ?_
  refine g_istore (L2 := [some (.ref (77)), some (.int (1)), some (.int (0)), some (.int (x)), some (.int (nI (e))), some (.int (0)), some (.int (11)), none, none, none]) m92_31 rfl rfl ?_
  refine g_aload_n m92_33 rfl ?_
  refine g_iload m92_34 rfl ?_
  refine h_cv (k := 45) (p := 77) (args := [.int (11)]) (rest := []) m92_36 cn_50 (Nat.le_of_ble_eq_true rfl) rfl rfl rfl (t_45 _ _) (Nat.le_of_ble_eq_true rfl) ?_
  refine c_begin (b := b) (c := 11) hb (by omega) ?_
  refine gwr0 ?_
  refine g_aload_n m92_39 rfl ?_
  refine h_gfI (k := 45) (p := 77) m92_40 rfl (t_45 _ _) rfl ((lgM_o (by decide) [11]).trans hk) ?_
  refine g_istore (L2 := [some (.ref (77)), some (.int (1)), some (.int (0)), some (.int (x)), some (.int (nI (e))), some (.int (0)), some (.int (11)), some (.int (5)), none, none]) m92_43 rfl rfl ?_
  refine g_gst m92_45 rfl ?_
  refine g_iload m92_48 rfl ?_
  refine g_iald (x := (-1 : Int32)) m92_50 rfl (show vp_in (nI 0) 7 from vp_in_nI (by decide) (by decide)) (by decide +kernel) ?_
  refine g_istore (L2 := [some (.ref (77)), some (.int (1)), some (.int (0)), some (.int (x)), some (.int (nI (e))), some (.int (0)), some (.int (11)), some (.int (5)), some (.int (-1)), none]) m92_51 rfl rfl ?_
  refine g_iload m92_53 rfl ?_
  refine g_iconst m92_55 ?_
  refine g_iadd (u := nI (e + 1)) m92_56 (nI_add e 1) ?_
  refine g_istore (L2 := [some (.ref (77)), some (.int (1)), some (.int (0)), some (.int (x)), some (.int (nI (e))), some (.int (0)), some (.int (11)), some (.int (5)), some (.int (-1)), some (.int (nI (e + 1)))]) m92_57 rfl rfl ?_
  refine g_iload m92_59 rfl ?_
  refine gs m92_61 ?_
  refine gwpc (pc' := 167) rfl ?_
  refine g_aload_n m92_167 rfl ?_
  refine g_iconst m92_168 ?_
  refine g_iload m92_169 rfl ?_
  refine g_iload_n m92_171 rfl ?_
  refine g_iload m92_172 rfl ?_
  refine g_cs (args := [.ref (77), .int (0), .int (5), .int (x), .int (nI (e + 1))]) (rest := []) 0 (Or.inl rfl) m92_174 (Nat.le_of_ble_eq_true rfl) rfl rfl (Nat.le_of_ble_eq_true rfl) ?_
  refine c_sp_5_0_5 (m := lgM m b [11]) (b := b + 1) (nv := nv) (mv := mv) (lgM_4 hb [11]) (by omega) ((lgM_o (by decide) [11]).trans hk) ((lgM_o (by decide) [11]).trans h0) ((lgM_o (by decide) [11]).trans h1) (by omega) ?_
  rw [show lgM (lgM m b [11]) (b + 1) [10] = lgM m b [11, 10] from lgM_a [11] [10]]
  refine gwr ?_
  refine g_iconst m92_177 ?_
  refine g_imul m92_178 rfl ?_
  refine g_iret m92_179 rt_92 ?_
  exact hQ
set_option maxRecDepth 20000 in
set_option maxHeartbeats 40000000 in
theorem c_sp_5_2_5 {b e : Nat} {x nv mv : Int32} (hb : m 45 4 = nI b) (hb40 : b + 1 ≤ 40) (hk : m 45 2 = nI 5) (h0 : m 45 0 = nv) (h1 : m 45 1 = mv) (he : e + 0 ≤ 30) (hQ : Q (some (.int (x - mv))) (H (lgM m b [12]) ln N)) : WP xs (d + 3) 92 0 0 [.ref (77), .int (2), .int (5), .int (x), .int (nI (e))] (H m ln N) Q := by
  refine wp_x mx_92 (L := [some (.ref (77)), some (.int (2)), some (.int (5)), some (.int (x)), some (.int (nI (e))), none, none, none, none, none]) (Nat.le_of_ble_eq_true rfl) rfl ?_
  refine g_iload_n m92_0 rfl ?_
  refine g_iload_n m92_1 rfl ?_
  refine g_cs (args := [.int (2), .int (5)]) (rest := []) 0 (Or.inl rfl) m92_2 (Nat.le_of_ble_eq_true rfl) rfl rfl (Nat.le_of_ble_eq_true rfl) ?_
  refine c_own_2_5 ?_
  refine gwr ?_
  refine g_istore (L2 := [some (.ref (77)), some (.int (2)), some (.int (5)), some (.int (x)), some (.int (nI (e))), some (.int (0)), none, none, none, none]) m92_5 rfl rfl ?_
  refine g_iload m92_7 rfl ?_
  refine h_if_ltF (xi := 0) (zi := 0) m92_9 rfl rfl (by decide) ?_
  refine g_iload m92_12 rfl ?_
  refine g_bipush m92_14 ?_
  refine h_ic_leT (xi := ((e : Nat) : Int)) (zi := 30) m92_16 (nI_toInt (by omega)) rfl (by omega) ?_
  refine g_gst m92_21 rfl ?_
  refine g_iconst m92_24 ?_
  refine g_iload m92_25 rfl ?_
  refine g_imul (u := (0 : Int32)) m92_27 (by decide) ?_
  refine g_iload_n m92_28 rfl ?_
  refine g_iadd (u := (2 : Int32)) m92_29 (by decide) ?_
  refine g_iald (x := (12 : Int32)) m92_30 rfl (show vp_in (nI 2) 28 from vp_in_nI (by decide) (by decide)) (by decide +kernel) ?_
  refine g_istore (L2 := [some (.ref (77)), some (.int (2)), some (.int (5)), some (.int (x)), some (.int (nI (e))), some (.int (0)), some (.int (12)), none, none, none]) m92_31 rfl rfl ?_
  refine g_aload_n m92_33 rfl ?_
  refine g_iload m92_34 rfl ?_
  refine h_cv (k := 45) (p := 77) (args := [.int (12)]) (rest := []) m92_36 cn_50 (Nat.le_of_ble_eq_true rfl) rfl rfl rfl (t_45 _ _) (Nat.le_of_ble_eq_true rfl) ?_
  refine c_begin (b := b) (c := 12) hb (by omega) ?_
  refine gwr0 ?_
  refine g_aload_n m92_39 rfl ?_
  refine h_gfI (k := 45) (p := 77) m92_40 rfl (t_45 _ _) rfl ((lgM_o (by decide) [12]).trans hk) ?_
  refine g_istore (L2 := [some (.ref (77)), some (.int (2)), some (.int (5)), some (.int (x)), some (.int (nI (e))), some (.int (0)), some (.int (12)), some (.int (5)), none, none]) m92_43 rfl rfl ?_
  refine g_gst m92_45 rfl ?_
  refine g_iload m92_48 rfl ?_
  refine g_iald (x := (-1 : Int32)) m92_50 rfl (show vp_in (nI 0) 7 from vp_in_nI (by decide) (by decide)) (by decide +kernel) ?_
  refine g_istore (L2 := [some (.ref (77)), some (.int (2)), some (.int (5)), some (.int (x)), some (.int (nI (e))), some (.int (0)), some (.int (12)), some (.int (5)), some (.int (-1)), none]) m92_51 rfl rfl ?_
  refine g_iload m92_53 rfl ?_
  refine g_iconst m92_55 ?_
  refine g_iadd (u := nI (e + 1)) m92_56 (nI_add e 1) ?_
  refine g_istore (L2 := [some (.ref (77)), some (.int (2)), some (.int (5)), some (.int (x)), some (.int (nI (e))), some (.int (0)), some (.int (12)), some (.int (5)), some (.int (-1)), some (.int (nI (e + 1)))]) m92_57 rfl rfl ?_
  refine g_iload m92_59 rfl ?_
  refine gs m92_61 ?_
  refine gwpc (pc' := 180) rfl ?_
  refine g_iload_n m92_180 rfl ?_
  refine g_aload_n m92_181 rfl ?_
  refine h_gfI (k := 45) (p := 77) m92_182 rfl (t_45 _ _) rfl ((lgM_o (by decide) [12]).trans h1) ?_
  refine g_isub m92_185 rfl ?_
  refine g_iret m92_186 rt_92 ?_
  exact hQ
set_option maxRecDepth 20000 in
set_option maxHeartbeats 40000000 in
theorem c_sp_5_1_2 {b e : Nat} {x nv mv : Int32} (hb : m 45 4 = nI b) (hb40 : b + 4 ≤ 40) (hk : m 45 2 = nI 5) (h0 : m 45 0 = nv) (h1 : m 45 1 = mv) (he : e + 2 ≤ 30) (hQ : Q (some (.int (((x + nv) * (2 : Int32)) - ((1 : Int32) - mv)))) (H (lgM m b [30, 11, 10, 12]) ln N)) : WP xs (d + 5) 92 0 0 [.ref (77), .int (1), .int (2), .int (x), .int (nI (e))] (H m ln N) Q := by
  refine wp_x mx_92 (L := [some (.ref (77)), some (.int (1)), some (.int (2)), some (.int (x)), some (.int (nI (e))), none, none, none, none, none]) (Nat.le_of_ble_eq_true rfl) rfl ?_
  refine g_iload_n m92_0 rfl ?_
  refine g_iload_n m92_1 rfl ?_
  refine g_cs (args := [.int (1), .int (2)]) (rest := []) 0 (Or.inl rfl) m92_2 (Nat.le_of_ble_eq_true rfl) rfl rfl (Nat.le_of_ble_eq_true rfl) ?_
  refine c_own_1_2 ?_
  refine gwr ?_
  refine g_istore (L2 := [some (.ref (77)), some (.int (1)), some (.int (2)), some (.int (x)), some (.int (nI (e))), some (.int (2)), none, none, none, none]) m92_5 rfl rfl ?_
  refine g_iload m92_7 rfl ?_
  refine h_if_ltF (xi := 2) (zi := 0) m92_9 rfl rfl (by decide) ?_
  refine g_iload m92_12 rfl ?_
  refine g_bipush m92_14 ?_
  refine h_ic_leT (xi := ((e : Nat) : Int)) (zi := 30) m92_16 (nI_toInt (by omega)) rfl (by omega) ?_
  refine g_gst m92_21 rfl ?_
  refine g_iconst m92_24 ?_
  refine g_iload m92_25 rfl ?_
  refine g_imul (u := (8 : Int32)) m92_27 (by decide) ?_
  refine g_iload_n m92_28 rfl ?_
  refine g_iadd (u := (9 : Int32)) m92_29 (by decide) ?_
  refine g_iald (x := (30 : Int32)) m92_30 rfl (show vp_in (nI 9) 28 from vp_in_nI (by decide) (by decide)) (by decide +kernel) ?_
  refine g_istore (L2 := [some (.ref (77)), some (.int (1)), some (.int (2)), some (.int (x)), some (.int (nI (e))), some (.int (2)), some (.int (30)), none, none, none]) m92_31 rfl rfl ?_
  refine g_aload_n m92_33 rfl ?_
  refine g_iload m92_34 rfl ?_
  refine h_cv (k := 45) (p := 77) (args := [.int (30)]) (rest := []) m92_36 cn_50 (Nat.le_of_ble_eq_true rfl) rfl rfl rfl (t_45 _ _) (Nat.le_of_ble_eq_true rfl) ?_
  refine c_begin (b := b) (c := 30) hb (by omega) ?_
  refine gwr0 ?_
  refine g_aload_n m92_39 rfl ?_
  refine h_gfI (k := 45) (p := 77) m92_40 rfl (t_45 _ _) rfl ((lgM_o (by decide) [30]).trans hk) ?_
  refine g_istore (L2 := [some (.ref (77)), some (.int (1)), some (.int (2)), some (.int (x)), some (.int (nI (e))), some (.int (2)), some (.int (30)), some (.int (5)), none, none]) m92_43 rfl rfl ?_
  refine g_gst m92_45 rfl ?_
  refine g_iload m92_48 rfl ?_
  refine g_iald (x := (0 : Int32)) m92_50 rfl (show vp_in (nI 2) 7 from vp_in_nI (by decide) (by decide)) (by decide +kernel) ?_
  refine g_istore (L2 := [some (.ref (77)), some (.int (1)), some (.int (2)), some (.int (x)), some (.int (nI (e))), some (.int (2)), some (.int (30)), some (.int (5)), some (.int (0)), none]) m92_51 rfl rfl ?_
  refine g_iload m92_53 rfl ?_
  refine g_iconst m92_55 ?_
  refine g_iadd (u := nI (e + 1)) m92_56 (nI_add e 1) ?_
  refine g_istore (L2 := [some (.ref (77)), some (.int (1)), some (.int (2)), some (.int (x)), some (.int (nI (e))), some (.int (2)), some (.int (30)), some (.int (5)), some (.int (0)), some (.int (nI (e + 1)))]) m92_57 rfl rfl ?_
  refine g_iload m92_59 rfl ?_
  refine gs m92_61 ?_
  refine gwpc (pc' := 222) rfl ?_
  refine g_aload_n m92_222 rfl ?_
  refine g_iconst m92_223 ?_
  refine g_iload m92_224 rfl ?_
  refine g_iload_n m92_226 rfl ?_
  refine g_iload m92_227 rfl ?_
  refine g_cs (args := [.ref (77), .int (1), .int (0), .int (x), .int (nI (e + 1))]) (rest := []) 0 (Or.inl rfl) m92_229 (Nat.le_of_ble_eq_true rfl) rfl rfl (Nat.le_of_ble_eq_true rfl) ?_
  refine c_sp_5_1_0 (m := lgM m b [30]) (b := b + 1) (nv := nv) (mv := mv) (lgM_4 hb [30]) (by omega) ((lgM_o (by decide) [30]).trans hk) ((lgM_o (by decide) [30]).trans h0) ((lgM_o (by decide) [30]).trans h1) (by omega) ?_
  rw [show lgM (lgM m b [30]) (b + 1) [11, 10] = lgM m b [30, 11, 10] from lgM_a [30] [11, 10]]
  refine gwr ?_
  refine g_aload_n m92_232 rfl ?_
  refine g_iconst m92_233 ?_
  refine g_iload m92_234 rfl ?_
  refine g_iconst m92_236 ?_
  refine g_iload m92_237 rfl ?_
  refine g_cs (args := [.ref (77), .int (2), .int (5), .int (1), .int (nI (e + 1))]) (rest := [.int (((x + nv) * (2 : Int32)))]) 0 (Or.inl rfl) m92_239 (Nat.le_of_ble_eq_true rfl) rfl rfl (Nat.le_of_ble_eq_true rfl) ?_
  refine c_sp_5_2_5 (m := lgM m b [30, 11, 10]) (b := b + 3) (nv := nv) (mv := mv) (lgM_4 hb [30, 11, 10]) (by omega) ((lgM_o (by decide) [30, 11, 10]).trans hk) ((lgM_o (by decide) [30, 11, 10]).trans h0) ((lgM_o (by decide) [30, 11, 10]).trans h1) (by omega) ?_
  rw [show lgM (lgM m b [30, 11, 10]) (b + 3) [12] = lgM m b [30, 11, 10, 12] from lgM_a [30, 11, 10] [12]]
  refine gwr ?_
  refine g_isub m92_242 rfl ?_
  refine g_iret m92_243 rt_92 ?_
  exact hQ
set_option maxRecDepth 20000 in
set_option maxHeartbeats 40000000 in
theorem c_sp_5_1_5 {b e : Nat} {x nv mv : Int32} (hb : m 45 4 = nI b) (hb40 : b + 5 ≤ 40) (hk : m 45 2 = nI 5) (h0 : m 45 0 = nv) (h1 : m 45 1 = mv) (he : e + 3 ≤ 30) (hQ : Q (some (.int ((((x + (1 : Int32)) + nv) * (2 : Int32)) - ((1 : Int32) - mv)))) (H (lgM m b [60, 30, 11, 10, 12]) ln N)) : WP xs (d + 6) 92 0 0 [.ref (77), .int (1), .int (5), .int (x), .int (nI (e))] (H m ln N) Q := by
  refine wp_x mx_92 (L := [some (.ref (77)), some (.int (1)), some (.int (5)), some (.int (x)), some (.int (nI (e))), none, none, none, none, none]) (Nat.le_of_ble_eq_true rfl) rfl ?_
  refine g_iload_n m92_0 rfl ?_
  refine g_iload_n m92_1 rfl ?_
  refine g_cs (args := [.int (1), .int (5)]) (rest := []) 0 (Or.inl rfl) m92_2 (Nat.le_of_ble_eq_true rfl) rfl rfl (Nat.le_of_ble_eq_true rfl) ?_
  refine c_own_1_5 ?_
  refine gwr ?_
  refine g_istore (L2 := [some (.ref (77)), some (.int (1)), some (.int (5)), some (.int (x)), some (.int (nI (e))), some (.int (5)), none, none, none, none]) m92_5 rfl rfl ?_
  refine g_iload m92_7 rfl ?_
  refine h_if_ltF (xi := 5) (zi := 0) m92_9 rfl rfl (by decide) ?_
  refine g_iload m92_12 rfl ?_
  refine g_bipush m92_14 ?_
  refine h_ic_leT (xi := ((e : Nat) : Int)) (zi := 30) m92_16 (nI_toInt (by omega)) rfl (by omega) ?_
  refine g_gst m92_21 rfl ?_
  refine g_iconst m92_24 ?_
  refine g_iload m92_25 rfl ?_
  refine g_imul (u := (20 : Int32)) m92_27 (by decide) ?_
  refine g_iload_n m92_28 rfl ?_
  refine g_iadd (u := (21 : Int32)) m92_29 (by decide) ?_
  refine g_iald (x := (60 : Int32)) m92_30 rfl (show vp_in (nI 21) 28 from vp_in_nI (by decide) (by decide)) (by decide +kernel) ?_
  refine g_istore (L2 := [some (.ref (77)), some (.int (1)), some (.int (5)), some (.int (x)), some (.int (nI (e))), some (.int (5)), some (.int (60)), none, none, none]) m92_31 rfl rfl ?_
  refine g_aload_n m92_33 rfl ?_
  refine g_iload m92_34 rfl ?_
  refine h_cv (k := 45) (p := 77) (args := [.int (60)]) (rest := []) m92_36 cn_50 (Nat.le_of_ble_eq_true rfl) rfl rfl rfl (t_45 _ _) (Nat.le_of_ble_eq_true rfl) ?_
  refine c_begin (b := b) (c := 60) hb (by omega) ?_
  refine gwr0 ?_
  refine g_aload_n m92_39 rfl ?_
  refine h_gfI (k := 45) (p := 77) m92_40 rfl (t_45 _ _) rfl ((lgM_o (by decide) [60]).trans hk) ?_
  refine g_istore (L2 := [some (.ref (77)), some (.int (1)), some (.int (5)), some (.int (x)), some (.int (nI (e))), some (.int (5)), some (.int (60)), some (.int (5)), none, none]) m92_43 rfl rfl ?_
  refine g_gst m92_45 rfl ?_
  refine g_iload m92_48 rfl ?_
  refine g_iald (x := (2 : Int32)) m92_50 rfl (show vp_in (nI 5) 7 from vp_in_nI (by decide) (by decide)) (by decide +kernel) ?_
  refine g_istore (L2 := [some (.ref (77)), some (.int (1)), some (.int (5)), some (.int (x)), some (.int (nI (e))), some (.int (5)), some (.int (60)), some (.int (5)), some (.int (2)), none]) m92_51 rfl rfl ?_
  refine g_iload m92_53 rfl ?_
  refine g_iconst m92_55 ?_
  refine g_iadd (u := nI (e + 1)) m92_56 (nI_add e 1) ?_
  refine g_istore (L2 := [some (.ref (77)), some (.int (1)), some (.int (5)), some (.int (x)), some (.int (nI (e))), some (.int (5)), some (.int (60)), some (.int (5)), some (.int (2)), some (.int (nI (e + 1)))]) m92_57 rfl rfl ?_
  refine g_iload m92_59 rfl ?_
  refine gs m92_61 ?_
  refine gwpc (pc' := 278) rfl ?_
  refine g_aload_n m92_278 rfl ?_
  refine g_iconst m92_279 ?_
  refine g_iload m92_280 rfl ?_
  refine g_iload_n m92_282 rfl ?_
  refine g_iconst m92_283 ?_
  refine g_iadd m92_284 rfl ?_
  refine g_iload m92_285 rfl ?_
  refine g_cs (args := [.ref (77), .int (1), .int (2), .int ((x + (1 : Int32))), .int (nI (e + 1))]) (rest := []) 0 (Or.inl rfl) m92_287 (Nat.le_of_ble_eq_true rfl) rfl rfl (Nat.le_of_ble_eq_true rfl) ?_
  refine c_sp_5_1_2 (m := lgM m b [60]) (b := b + 1) (nv := nv) (mv := mv) (lgM_4 hb [60]) (by omega) ((lgM_o (by decide) [60]).trans hk) ((lgM_o (by decide) [60]).trans h0) ((lgM_o (by decide) [60]).trans h1) (by omega) ?_
  rw [show lgM (lgM m b [60]) (b + 1) [30, 11, 10, 12] = lgM m b [60, 30, 11, 10, 12] from lgM_a [60] [30, 11, 10, 12]]
  refine gwr ?_
  refine g_iret m92_290 rt_92 ?_
  exact hQ
set_option maxRecDepth 20000 in
set_option maxHeartbeats 40000000 in
theorem c_sp_5_3_5 {b e : Nat} {x nv mv : Int32} (hb : m 45 4 = nI b) (hb40 : b + 7 ≤ 40) (hk : m 45 2 = nI 5) (h0 : m 45 0 = nv) (h1 : m 45 1 = mv) (he : e + 4 ≤ 30) (hQ : Q (some (.int (((((x + (1 : Int32)) + nv) * (2 : Int32)) - ((1 : Int32) - mv)) ^^^ (x - mv)))) (H (lgM m b [13, 60, 30, 11, 10, 12, 12]) ln N)) : WP xs (d + 7) 92 0 0 [.ref (77), .int (3), .int (5), .int (x), .int (nI (e))] (H m ln N) Q := by
  refine wp_x mx_92 (L := [some (.ref (77)), some (.int (3)), some (.int (5)), some (.int (x)), some (.int (nI (e))), none, none, none, none, none]) (Nat.le_of_ble_eq_true rfl) rfl ?_
  refine g_iload_n m92_0 rfl ?_
  refine g_iload_n m92_1 rfl ?_
  refine g_cs (args := [.int (3), .int (5)]) (rest := []) 0 (Or.inl rfl) m92_2 (Nat.le_of_ble_eq_true rfl) rfl rfl (Nat.le_of_ble_eq_true rfl) ?_
  refine c_own_3_5 ?_
  refine gwr ?_
  refine g_istore (L2 := [some (.ref (77)), some (.int (3)), some (.int (5)), some (.int (x)), some (.int (nI (e))), some (.int (0)), none, none, none, none]) m92_5 rfl rfl ?_
  refine g_iload m92_7 rfl ?_
  refine h_if_ltF (xi := 0) (zi := 0) m92_9 rfl rfl (by decide) ?_
  refine g_iload m92_12 rfl ?_
  refine g_bipush m92_14 ?_
  refine h_ic_leT (xi := ((e : Nat) : Int)) (zi := 30) m92_16 (nI_toInt (by omega)) rfl (by omega) ?_
  refine g_gst m92_21 rfl ?_
  refine g_iconst m92_24 ?_
  refine g_iload m92_25 rfl ?_
  refine g_imul (u := (0 : Int32)) m92_27 (by decide) ?_
  refine g_iload_n m92_28 rfl ?_
  refine g_iadd (u := (3 : Int32)) m92_29 (by decide) ?_
  refine g_iald (x := (13 : Int32)) m92_30 rfl (show vp_in (nI 3) 28 from vp_in_nI (by decide) (by decide)) (by decide +kernel) ?_
  refine g_istore (L2 := [some (.ref (77)), some (.int (3)), some (.int (5)), some (.int (x)), some (.int (nI (e))), some (.int (0)), some (.int (13)), none, none, none]) m92_31 rfl rfl ?_
  refine g_aload_n m92_33 rfl ?_
  refine g_iload m92_34 rfl ?_
  refine h_cv (k := 45) (p := 77) (args := [.int (13)]) (rest := []) m92_36 cn_50 (Nat.le_of_ble_eq_true rfl) rfl rfl rfl (t_45 _ _) (Nat.le_of_ble_eq_true rfl) ?_
  refine c_begin (b := b) (c := 13) hb (by omega) ?_
  refine gwr0 ?_
  refine g_aload_n m92_39 rfl ?_
  refine h_gfI (k := 45) (p := 77) m92_40 rfl (t_45 _ _) rfl ((lgM_o (by decide) [13]).trans hk) ?_
  refine g_istore (L2 := [some (.ref (77)), some (.int (3)), some (.int (5)), some (.int (x)), some (.int (nI (e))), some (.int (0)), some (.int (13)), some (.int (5)), none, none]) m92_43 rfl rfl ?_
  refine g_gst m92_45 rfl ?_
  refine g_iload m92_48 rfl ?_
  refine g_iald (x := (-1 : Int32)) m92_50 rfl (show vp_in (nI 0) 7 from vp_in_nI (by decide) (by decide)) (by decide +kernel) ?_
  refine g_istore (L2 := [some (.ref (77)), some (.int (3)), some (.int (5)), some (.int (x)), some (.int (nI (e))), some (.int (0)), some (.int (13)), some (.int (5)), some (.int (-1)), none]) m92_51 rfl rfl ?_
  refine g_iload m92_53 rfl ?_
  refine g_iconst m92_55 ?_
  refine g_iadd (u := nI (e + 1)) m92_56 (nI_add e 1) ?_
  refine g_istore (L2 := [some (.ref (77)), some (.int (3)), some (.int (5)), some (.int (x)), some (.int (nI (e))), some (.int (0)), some (.int (13)), some (.int (5)), some (.int (-1)), some (.int (nI (e + 1)))]) m92_57 rfl rfl ?_
  refine g_iload m92_59 rfl ?_
  refine gs m92_61 ?_
  refine gwpc (pc' := 187) rfl ?_
  refine g_aload_n m92_187 rfl ?_
  refine g_iconst m92_188 ?_
  refine g_iload m92_189 rfl ?_
  refine g_iload_n m92_191 rfl ?_
  refine g_iload m92_192 rfl ?_
  refine g_cs (args := [.ref (77), .int (1), .int (5), .int (x), .int (nI (e + 1))]) (rest := []) 0 (Or.inl rfl) m92_194 (Nat.le_of_ble_eq_true rfl) rfl rfl (Nat.le_of_ble_eq_true rfl) ?_
  refine c_sp_5_1_5 (m := lgM m b [13]) (b := b + 1) (nv := nv) (mv := mv) (lgM_4 hb [13]) (by omega) ((lgM_o (by decide) [13]).trans hk) ((lgM_o (by decide) [13]).trans h0) ((lgM_o (by decide) [13]).trans h1) (by omega) ?_
  rw [show lgM (lgM m b [13]) (b + 1) [60, 30, 11, 10, 12] = lgM m b [13, 60, 30, 11, 10, 12] from lgM_a [13] [60, 30, 11, 10, 12]]
  refine gwr ?_
  refine g_aload_n m92_197 rfl ?_
  refine g_iconst m92_198 ?_
  refine g_iload m92_199 rfl ?_
  refine g_iload_n m92_201 rfl ?_
  refine g_iload m92_202 rfl ?_
  refine g_cs (args := [.ref (77), .int (2), .int (5), .int (x), .int (nI (e + 1))]) (rest := [.int (((((x + (1 : Int32)) + nv) * (2 : Int32)) - ((1 : Int32) - mv)))]) 0 (Or.inl rfl) m92_204 (Nat.le_of_ble_eq_true rfl) rfl rfl (Nat.le_of_ble_eq_true rfl) ?_
  refine c_sp_5_2_5 (m := lgM m b [13, 60, 30, 11, 10, 12]) (b := b + 6) (nv := nv) (mv := mv) (lgM_4 hb [13, 60, 30, 11, 10, 12]) (by omega) ((lgM_o (by decide) [13, 60, 30, 11, 10, 12]).trans hk) ((lgM_o (by decide) [13, 60, 30, 11, 10, 12]).trans h0) ((lgM_o (by decide) [13, 60, 30, 11, 10, 12]).trans h1) (by omega) ?_
  rw [show lgM (lgM m b [13, 60, 30, 11, 10, 12]) (b + 6) [12] = lgM m b [13, 60, 30, 11, 10, 12, 12] from lgM_a [13, 60, 30, 11, 10, 12] [12]]
  refine gwr ?_
  refine g_ixor m92_207 rfl ?_
  refine g_iret m92_208 rt_92 ?_
  exact hQ
set_option maxRecDepth 20000 in
set_option maxHeartbeats 40000000 in
theorem c_sp_6_0_6 {b e : Nat} {x nv mv : Int32} (hb : m 45 4 = nI b) (hb40 : b + 1 ≤ 40) (hk : m 45 2 = nI 6) (h0 : m 45 0 = nv) (h1 : m 45 1 = mv) (he : e + 0 ≤ 30) (hQ : Q (some (.int (x + nv))) (H (lgM m b [10]) ln N)) : WP xs (d + 3) 92 0 0 [.ref (77), .int (0), .int (6), .int (x), .int (nI (e))] (H m ln N) Q := by
  refine wp_x mx_92 (L := [some (.ref (77)), some (.int (0)), some (.int (6)), some (.int (x)), some (.int (nI (e))), none, none, none, none, none]) (Nat.le_of_ble_eq_true rfl) rfl ?_
  refine g_iload_n m92_0 rfl ?_
  refine g_iload_n m92_1 rfl ?_
  refine g_cs (args := [.int (0), .int (6)]) (rest := []) 0 (Or.inl rfl) m92_2 (Nat.le_of_ble_eq_true rfl) rfl rfl (Nat.le_of_ble_eq_true rfl) ?_
  refine c_own_0_6 ?_
  refine gwr ?_
  refine g_istore (L2 := [some (.ref (77)), some (.int (0)), some (.int (6)), some (.int (x)), some (.int (nI (e))), some (.int (0)), none, none, none, none]) m92_5 rfl rfl ?_
  refine g_iload m92_7 rfl ?_
  refine h_if_ltF (xi := 0) (zi := 0) m92_9 rfl rfl (by decide) ?_
  refine g_iload m92_12 rfl ?_
  refine g_bipush m92_14 ?_
  refine h_ic_leT (xi := ((e : Nat) : Int)) (zi := 30) m92_16 (nI_toInt (by omega)) rfl (by omega) ?_
  refine g_gst m92_21 rfl ?_
  refine g_iconst m92_24 ?_
  refine g_iload m92_25 rfl ?_
  refine g_imul (u := (0 : Int32)) m92_27 (by decide) ?_
  refine g_iload_n m92_28 rfl ?_
  refine g_iadd (u := (0 : Int32)) m92_29 (by decide) ?_
  refine g_iald (x := (10 : Int32)) m92_30 rfl (show vp_in (nI 0) 28 from vp_in_nI (by decide) (by decide)) (by decide +kernel) ?_
  refine g_istore (L2 := [some (.ref (77)), some (.int (0)), some (.int (6)), some (.int (x)), some (.int (nI (e))), some (.int (0)), some (.int (10)), none, none, none]) m92_31 rfl rfl ?_
  refine g_aload_n m92_33 rfl ?_
  refine g_iload m92_34 rfl ?_
  refine h_cv (k := 45) (p := 77) (args := [.int (10)]) (rest := []) m92_36 cn_50 (Nat.le_of_ble_eq_true rfl) rfl rfl rfl (t_45 _ _) (Nat.le_of_ble_eq_true rfl) ?_
  refine c_begin (b := b) (c := 10) hb (by omega) ?_
  refine gwr0 ?_
  refine g_aload_n m92_39 rfl ?_
  refine h_gfI (k := 45) (p := 77) m92_40 rfl (t_45 _ _) rfl ((lgM_o (by decide) [10]).trans hk) ?_
  refine g_istore (L2 := [some (.ref (77)), some (.int (0)), some (.int (6)), some (.int (x)), some (.int (nI (e))), some (.int (0)), some (.int (10)), some (.int (6)), none, none]) m92_43 rfl rfl ?_
  refine g_gst m92_45 rfl ?_
  refine g_iload m92_48 rfl ?_
  refine g_iald (x := (-1 : Int32)) m92_50 rfl (show vp_in (nI 0) 7 from vp_in_nI (by decide) (by decide)) (by decide +kernel) ?_
  refine g_istore (L2 := [some (.ref (77)), some (.int (0)), some (.int (6)), some (.int (x)), some (.int (nI (e))), some (.int (0)), some (.int (10)), some (.int (6)), some (.int (-1)), none]) m92_51 rfl rfl ?_
  refine g_iload m92_53 rfl ?_
  refine g_iconst m92_55 ?_
  refine g_iadd (u := nI (e + 1)) m92_56 (nI_add e 1) ?_
  refine g_istore (L2 := [some (.ref (77)), some (.int (0)), some (.int (6)), some (.int (x)), some (.int (nI (e))), some (.int (0)), some (.int (10)), some (.int (6)), some (.int (-1)), some (.int (nI (e + 1)))]) m92_57 rfl rfl ?_
  refine g_iload m92_59 rfl ?_
  refine gs m92_61 ?_
  refine gwpc (pc' := 160) rfl ?_
  refine g_iload_n m92_160 rfl ?_
  refine g_aload_n m92_161 rfl ?_
  refine h_gfI (k := 45) (p := 77) m92_162 rfl (t_45 _ _) rfl ((lgM_o (by decide) [10]).trans h0) ?_
  refine g_iadd m92_165 rfl ?_
  refine g_iret m92_166 rt_92 ?_
  exact hQ
set_option maxRecDepth 20000 in
set_option maxHeartbeats 40000000 in
theorem c_sp_6_1_6 {b e : Nat} {x nv mv : Int32} (hb : m 45 4 = nI b) (hb40 : b + 2 ≤ 40) (hk : m 45 2 = nI 6) (h0 : m 45 0 = nv) (h1 : m 45 1 = mv) (he : e + 1 ≤ 30) (hQ : Q (some (.int ((x + nv) * (2 : Int32)))) (H (lgM m b [11, 10]) ln N)) : WP xs (d + 4) 92 0 0 [.ref (77), .int (1), .int (6), .int (x), .int (nI (e))] (H m ln N) Q := by
  refine wp_x mx_92 (L := [some (.ref (77)), some (.int (1)), some (.int (6)), some (.int (x)), some (.int (nI (e))), none, none, none, none, none]) (Nat.le_of_ble_eq_true rfl) rfl ?_
  refine g_iload_n m92_0 rfl ?_
  refine g_iload_n m92_1 rfl ?_
  refine g_cs (args := [.int (1), .int (6)]) (rest := []) 0 (Or.inl rfl) m92_2 (Nat.le_of_ble_eq_true rfl) rfl rfl (Nat.le_of_ble_eq_true rfl) ?_
  refine c_own_1_6 ?_
  refine gwr ?_
  refine g_istore (L2 := [some (.ref (77)), some (.int (1)), some (.int (6)), some (.int (x)), some (.int (nI (e))), some (.int (0)), none, none, none, none]) m92_5 rfl rfl ?_
  refine g_iload m92_7 rfl ?_
  refine h_if_ltF (xi := 0) (zi := 0) m92_9 rfl rfl (by decide) ?_
  refine g_iload m92_12 rfl ?_
  refine g_bipush m92_14 ?_
  refine h_ic_leT (xi := ((e : Nat) : Int)) (zi := 30) m92_16 (nI_toInt (by omega)) rfl (by omega) ?_
  refine g_gst m92_21 rfl ?_
  refine g_iconst m92_24 ?_
  refine g_iload m92_25 rfl ?_
  refine g_imul (u := (0 : Int32)) m92_27 (by decide) ?_
  refine g_iload_n m92_28 rfl ?_
  refine g_iadd (u := (1 : Int32)) m92_29 (by decide) ?_
  refine g_iald (x := (11 : Int32)) m92_30 rfl (show vp_in (nI 1) 28 from vp_in_nI (by decide) (by decide)) (by decide +kernel) ?_
  refine g_istore (L2 := [some (.ref (77)), some (.int (1)), some (.int (6)), some (.int (x)), some (.int (nI (e))), some (.int (0)), some (.int (11)), none, none, none]) m92_31 rfl rfl ?_
  refine g_aload_n m92_33 rfl ?_
  refine g_iload m92_34 rfl ?_
  refine h_cv (k := 45) (p := 77) (args := [.int (11)]) (rest := []) m92_36 cn_50 (Nat.le_of_ble_eq_true rfl) rfl rfl rfl (t_45 _ _) (Nat.le_of_ble_eq_true rfl) ?_
  refine c_begin (b := b) (c := 11) hb (by omega) ?_
  refine gwr0 ?_
  refine g_aload_n m92_39 rfl ?_
  refine h_gfI (k := 45) (p := 77) m92_40 rfl (t_45 _ _) rfl ((lgM_o (by decide) [11]).trans hk) ?_
  refine g_istore (L2 := [some (.ref (77)), some (.int (1)), some (.int (6)), some (.int (x)), some (.int (nI (e))), some (.int (0)), some (.int (11)), some (.int (6)), none, none]) m92_43 rfl rfl ?_
  refine g_gst m92_45 rfl ?_
  refine g_iload m92_48 rfl ?_
  refine g_iald (x := (-1 : Int32)) m92_50 rfl (show vp_in (nI 0) 7 from vp_in_nI (by decide) (by decide)) (by decide +kernel) ?_
  refine g_istore (L2 := [some (.ref (77)), some (.int (1)), some (.int (6)), some (.int (x)), some (.int (nI (e))), some (.int (0)), some (.int (11)), some (.int (6)), some (.int (-1)), none]) m92_51 rfl rfl ?_
  refine g_iload m92_53 rfl ?_
  refine g_iconst m92_55 ?_
  refine g_iadd (u := nI (e + 1)) m92_56 (nI_add e 1) ?_
  refine g_istore (L2 := [some (.ref (77)), some (.int (1)), some (.int (6)), some (.int (x)), some (.int (nI (e))), some (.int (0)), some (.int (11)), some (.int (6)), some (.int (-1)), some (.int (nI (e + 1)))]) m92_57 rfl rfl ?_
  refine g_iload m92_59 rfl ?_
  refine gs m92_61 ?_
  refine gwpc (pc' := 167) rfl ?_
  refine g_aload_n m92_167 rfl ?_
  refine g_iconst m92_168 ?_
  refine g_iload m92_169 rfl ?_
  refine g_iload_n m92_171 rfl ?_
  refine g_iload m92_172 rfl ?_
  refine g_cs (args := [.ref (77), .int (0), .int (6), .int (x), .int (nI (e + 1))]) (rest := []) 0 (Or.inl rfl) m92_174 (Nat.le_of_ble_eq_true rfl) rfl rfl (Nat.le_of_ble_eq_true rfl) ?_
  refine c_sp_6_0_6 (m := lgM m b [11]) (b := b + 1) (nv := nv) (mv := mv) (lgM_4 hb [11]) (by omega) ((lgM_o (by decide) [11]).trans hk) ((lgM_o (by decide) [11]).trans h0) ((lgM_o (by decide) [11]).trans h1) (by omega) ?_
  rw [show lgM (lgM m b [11]) (b + 1) [10] = lgM m b [11, 10] from lgM_a [11] [10]]
  refine gwr ?_
  refine g_iconst m92_177 ?_
  refine g_imul m92_178 rfl ?_
  refine g_iret m92_179 rt_92 ?_
  exact hQ
set_option maxRecDepth 20000 in
set_option maxHeartbeats 40000000 in
theorem c_sp_6_2_0 {b e : Nat} {x nv mv : Int32} (hb : m 45 4 = nI b) (hb40 : b + 1 ≤ 40) (hk : m 45 2 = nI 6) (h0 : m 45 0 = nv) (h1 : m 45 1 = mv) (he : e + 0 ≤ 30) (hQ : Q (some (.int (x - mv))) (H (lgM m b [12]) ln N)) : WP xs (d + 3) 92 0 0 [.ref (77), .int (2), .int (0), .int (x), .int (nI (e))] (H m ln N) Q := by
  refine wp_x mx_92 (L := [some (.ref (77)), some (.int (2)), some (.int (0)), some (.int (x)), some (.int (nI (e))), none, none, none, none, none]) (Nat.le_of_ble_eq_true rfl) rfl ?_
  refine g_iload_n m92_0 rfl ?_
  refine g_iload_n m92_1 rfl ?_
  refine g_cs (args := [.int (2), .int (0)]) (rest := []) 0 (Or.inl rfl) m92_2 (Nat.le_of_ble_eq_true rfl) rfl rfl (Nat.le_of_ble_eq_true rfl) ?_
  refine c_own_2_0 ?_
  refine gwr ?_
  refine g_istore (L2 := [some (.ref (77)), some (.int (2)), some (.int (0)), some (.int (x)), some (.int (nI (e))), some (.int (0)), none, none, none, none]) m92_5 rfl rfl ?_
  refine g_iload m92_7 rfl ?_
  refine h_if_ltF (xi := 0) (zi := 0) m92_9 rfl rfl (by decide) ?_
  refine g_iload m92_12 rfl ?_
  refine g_bipush m92_14 ?_
  refine h_ic_leT (xi := ((e : Nat) : Int)) (zi := 30) m92_16 (nI_toInt (by omega)) rfl (by omega) ?_
  refine g_gst m92_21 rfl ?_
  refine g_iconst m92_24 ?_
  refine g_iload m92_25 rfl ?_
  refine g_imul (u := (0 : Int32)) m92_27 (by decide) ?_
  refine g_iload_n m92_28 rfl ?_
  refine g_iadd (u := (2 : Int32)) m92_29 (by decide) ?_
  refine g_iald (x := (12 : Int32)) m92_30 rfl (show vp_in (nI 2) 28 from vp_in_nI (by decide) (by decide)) (by decide +kernel) ?_
  refine g_istore (L2 := [some (.ref (77)), some (.int (2)), some (.int (0)), some (.int (x)), some (.int (nI (e))), some (.int (0)), some (.int (12)), none, none, none]) m92_31 rfl rfl ?_
  refine g_aload_n m92_33 rfl ?_
  refine g_iload m92_34 rfl ?_
  refine h_cv (k := 45) (p := 77) (args := [.int (12)]) (rest := []) m92_36 cn_50 (Nat.le_of_ble_eq_true rfl) rfl rfl rfl (t_45 _ _) (Nat.le_of_ble_eq_true rfl) ?_
  refine c_begin (b := b) (c := 12) hb (by omega) ?_
  refine gwr0 ?_
  refine g_aload_n m92_39 rfl ?_
  refine h_gfI (k := 45) (p := 77) m92_40 rfl (t_45 _ _) rfl ((lgM_o (by decide) [12]).trans hk) ?_
  refine g_istore (L2 := [some (.ref (77)), some (.int (2)), some (.int (0)), some (.int (x)), some (.int (nI (e))), some (.int (0)), some (.int (12)), some (.int (6)), none, none]) m92_43 rfl rfl ?_
  refine g_gst m92_45 rfl ?_
  refine g_iload m92_48 rfl ?_
  refine g_iald (x := (-1 : Int32)) m92_50 rfl (show vp_in (nI 0) 7 from vp_in_nI (by decide) (by decide)) (by decide +kernel) ?_
  refine g_istore (L2 := [some (.ref (77)), some (.int (2)), some (.int (0)), some (.int (x)), some (.int (nI (e))), some (.int (0)), some (.int (12)), some (.int (6)), some (.int (-1)), none]) m92_51 rfl rfl ?_
  refine g_iload m92_53 rfl ?_
  refine g_iconst m92_55 ?_
  refine g_iadd (u := nI (e + 1)) m92_56 (nI_add e 1) ?_
  refine g_istore (L2 := [some (.ref (77)), some (.int (2)), some (.int (0)), some (.int (x)), some (.int (nI (e))), some (.int (0)), some (.int (12)), some (.int (6)), some (.int (-1)), some (.int (nI (e + 1)))]) m92_57 rfl rfl ?_
  refine g_iload m92_59 rfl ?_
  refine gs m92_61 ?_
  refine gwpc (pc' := 180) rfl ?_
  refine g_iload_n m92_180 rfl ?_
  refine g_aload_n m92_181 rfl ?_
  refine h_gfI (k := 45) (p := 77) m92_182 rfl (t_45 _ _) rfl ((lgM_o (by decide) [12]).trans h1) ?_
  refine g_isub m92_185 rfl ?_
  refine g_iret m92_186 rt_92 ?_
  exact hQ
set_option maxRecDepth 20000 in
set_option maxHeartbeats 40000000 in
theorem c_sp_6_2_3 {b e : Nat} {x nv mv : Int32} (hb : m 45 4 = nI b) (hb40 : b + 2 ≤ 40) (hk : m 45 2 = nI 6) (h0 : m 45 0 = nv) (h1 : m 45 1 = mv) (he : e + 1 ≤ 30) (hQ : Q (some (.int (-(x - mv)))) (H (lgM m b [40, 12]) ln N)) : WP xs (d + 4) 92 0 0 [.ref (77), .int (2), .int (3), .int (x), .int (nI (e))] (H m ln N) Q := by
  refine wp_x mx_92 (L := [some (.ref (77)), some (.int (2)), some (.int (3)), some (.int (x)), some (.int (nI (e))), none, none, none, none, none]) (Nat.le_of_ble_eq_true rfl) rfl ?_
  refine g_iload_n m92_0 rfl ?_
  refine g_iload_n m92_1 rfl ?_
  refine g_cs (args := [.int (2), .int (3)]) (rest := []) 0 (Or.inl rfl) m92_2 (Nat.le_of_ble_eq_true rfl) rfl rfl (Nat.le_of_ble_eq_true rfl) ?_
  refine c_own_2_3 ?_
  refine gwr ?_
  refine g_istore (L2 := [some (.ref (77)), some (.int (2)), some (.int (3)), some (.int (x)), some (.int (nI (e))), some (.int (3)), none, none, none, none]) m92_5 rfl rfl ?_
  refine g_iload m92_7 rfl ?_
  refine h_if_ltF (xi := 3) (zi := 0) m92_9 rfl rfl (by decide) ?_
  refine g_iload m92_12 rfl ?_
  refine g_bipush m92_14 ?_
  refine h_ic_leT (xi := ((e : Nat) : Int)) (zi := 30) m92_16 (nI_toInt (by omega)) rfl (by omega) ?_
  refine g_gst m92_21 rfl ?_
  refine g_iconst m92_24 ?_
  refine g_iload m92_25 rfl ?_
  refine g_imul (u := (12 : Int32)) m92_27 (by decide) ?_
  refine g_iload_n m92_28 rfl ?_
  refine g_iadd (u := (14 : Int32)) m92_29 (by decide) ?_
  refine g_iald (x := (40 : Int32)) m92_30 rfl (show vp_in (nI 14) 28 from vp_in_nI (by decide) (by decide)) (by decide +kernel) ?_
  refine g_istore (L2 := [some (.ref (77)), some (.int (2)), some (.int (3)), some (.int (x)), some (.int (nI (e))), some (.int (3)), some (.int (40)), none, none, none]) m92_31 rfl rfl ?_
  refine g_aload_n m92_33 rfl ?_
  refine g_iload m92_34 rfl ?_
  refine h_cv (k := 45) (p := 77) (args := [.int (40)]) (rest := []) m92_36 cn_50 (Nat.le_of_ble_eq_true rfl) rfl rfl rfl (t_45 _ _) (Nat.le_of_ble_eq_true rfl) ?_
  refine c_begin (b := b) (c := 40) hb (by omega) ?_
  refine gwr0 ?_
  refine g_aload_n m92_39 rfl ?_
  refine h_gfI (k := 45) (p := 77) m92_40 rfl (t_45 _ _) rfl ((lgM_o (by decide) [40]).trans hk) ?_
  refine g_istore (L2 := [some (.ref (77)), some (.int (2)), some (.int (3)), some (.int (x)), some (.int (nI (e))), some (.int (3)), some (.int (40)), some (.int (6)), none, none]) m92_43 rfl rfl ?_
  refine g_gst m92_45 rfl ?_
  refine g_iload m92_48 rfl ?_
  refine g_iald (x := (0 : Int32)) m92_50 rfl (show vp_in (nI 3) 7 from vp_in_nI (by decide) (by decide)) (by decide +kernel) ?_
  refine g_istore (L2 := [some (.ref (77)), some (.int (2)), some (.int (3)), some (.int (x)), some (.int (nI (e))), some (.int (3)), some (.int (40)), some (.int (6)), some (.int (0)), none]) m92_51 rfl rfl ?_
  refine g_iload m92_53 rfl ?_
  refine g_iconst m92_55 ?_
  refine g_iadd (u := nI (e + 1)) m92_56 (nI_add e 1) ?_
  refine g_istore (L2 := [some (.ref (77)), some (.int (2)), some (.int (3)), some (.int (x)), some (.int (nI (e))), some (.int (3)), some (.int (40)), some (.int (6)), some (.int (0)), some (.int (nI (e + 1)))]) m92_57 rfl rfl ?_
  refine g_iload m92_59 rfl ?_
  refine gs m92_61 ?_
  refine gwpc (pc' := 244) rfl ?_
  refine g_aload_n m92_244 rfl ?_
  refine g_iconst m92_245 ?_
  refine g_iload m92_246 rfl ?_
  refine g_iload_n m92_248 rfl ?_
  refine g_iload m92_249 rfl ?_
  refine g_cs (args := [.ref (77), .int (2), .int (0), .int (x), .int (nI (e + 1))]) (rest := []) 0 (Or.inl rfl) m92_251 (Nat.le_of_ble_eq_true rfl) rfl rfl (Nat.le_of_ble_eq_true rfl) ?_
  refine c_sp_6_2_0 (m := lgM m b [40]) (b := b + 1) (nv := nv) (mv := mv) (lgM_4 hb [40]) (by omega) ((lgM_o (by decide) [40]).trans hk) ((lgM_o (by decide) [40]).trans h0) ((lgM_o (by decide) [40]).trans h1) (by omega) ?_
  rw [show lgM (lgM m b [40]) (b + 1) [12] = lgM m b [40, 12] from lgM_a [40] [12]]
  refine gwr ?_
  refine g_ineg m92_254 rfl ?_
  refine g_iret m92_255 rt_92 ?_
  exact hQ
set_option maxRecDepth 20000 in
set_option maxHeartbeats 40000000 in
theorem c_sp_6_2_6 {b e : Nat} {x nv mv : Int32} (hb : m 45 4 = nI b) (hb40 : b + 3 ≤ 40) (hk : m 45 2 = nI 6) (h0 : m 45 0 = nv) (h1 : m 45 1 = mv) (he : e + 2 ≤ 30) (hQ : Q (some (.int ((-(x - mv)) ^^^ nv))) (H (lgM m b [70, 40, 12]) ln N)) : WP xs (d + 5) 92 0 0 [.ref (77), .int (2), .int (6), .int (x), .int (nI (e))] (H m ln N) Q := by
  refine wp_x mx_92 (L := [some (.ref (77)), some (.int (2)), some (.int (6)), some (.int (x)), some (.int (nI (e))), none, none, none, none, none]) (Nat.le_of_ble_eq_true rfl) rfl ?_
  refine g_iload_n m92_0 rfl ?_
  refine g_iload_n m92_1 rfl ?_
  refine g_cs (args := [.int (2), .int (6)]) (rest := []) 0 (Or.inl rfl) m92_2 (Nat.le_of_ble_eq_true rfl) rfl rfl (Nat.le_of_ble_eq_true rfl) ?_
  refine c_own_2_6 ?_
  refine gwr ?_
  refine g_istore (L2 := [some (.ref (77)), some (.int (2)), some (.int (6)), some (.int (x)), some (.int (nI (e))), some (.int (6)), none, none, none, none]) m92_5 rfl rfl ?_
  refine g_iload m92_7 rfl ?_
  refine h_if_ltF (xi := 6) (zi := 0) m92_9 rfl rfl (by decide) ?_
  refine g_iload m92_12 rfl ?_
  refine g_bipush m92_14 ?_
  refine h_ic_leT (xi := ((e : Nat) : Int)) (zi := 30) m92_16 (nI_toInt (by omega)) rfl (by omega) ?_
  refine g_gst m92_21 rfl ?_
  refine g_iconst m92_24 ?_
  refine g_iload m92_25 rfl ?_
  refine g_imul (u := (24 : Int32)) m92_27 (by decide) ?_
  refine g_iload_n m92_28 rfl ?_
  refine g_iadd (u := (26 : Int32)) m92_29 (by decide) ?_
  refine g_iald (x := (70 : Int32)) m92_30 rfl (show vp_in (nI 26) 28 from vp_in_nI (by decide) (by decide)) (by decide +kernel) ?_
  refine g_istore (L2 := [some (.ref (77)), some (.int (2)), some (.int (6)), some (.int (x)), some (.int (nI (e))), some (.int (6)), some (.int (70)), none, none, none]) m92_31 rfl rfl ?_
  refine g_aload_n m92_33 rfl ?_
  refine g_iload m92_34 rfl ?_
  refine h_cv (k := 45) (p := 77) (args := [.int (70)]) (rest := []) m92_36 cn_50 (Nat.le_of_ble_eq_true rfl) rfl rfl rfl (t_45 _ _) (Nat.le_of_ble_eq_true rfl) ?_
  refine c_begin (b := b) (c := 70) hb (by omega) ?_
  refine gwr0 ?_
  refine g_aload_n m92_39 rfl ?_
  refine h_gfI (k := 45) (p := 77) m92_40 rfl (t_45 _ _) rfl ((lgM_o (by decide) [70]).trans hk) ?_
  refine g_istore (L2 := [some (.ref (77)), some (.int (2)), some (.int (6)), some (.int (x)), some (.int (nI (e))), some (.int (6)), some (.int (70)), some (.int (6)), none, none]) m92_43 rfl rfl ?_
  refine g_gst m92_45 rfl ?_
  refine g_iload m92_48 rfl ?_
  refine g_iald (x := (3 : Int32)) m92_50 rfl (show vp_in (nI 6) 7 from vp_in_nI (by decide) (by decide)) (by decide +kernel) ?_
  refine g_istore (L2 := [some (.ref (77)), some (.int (2)), some (.int (6)), some (.int (x)), some (.int (nI (e))), some (.int (6)), some (.int (70)), some (.int (6)), some (.int (3)), none]) m92_51 rfl rfl ?_
  refine g_iload m92_53 rfl ?_
  refine g_iconst m92_55 ?_
  refine g_iadd (u := nI (e + 1)) m92_56 (nI_add e 1) ?_
  refine g_istore (L2 := [some (.ref (77)), some (.int (2)), some (.int (6)), some (.int (x)), some (.int (nI (e))), some (.int (6)), some (.int (70)), some (.int (6)), some (.int (3)), some (.int (nI (e + 1)))]) m92_57 rfl rfl ?_
  refine g_iload m92_59 rfl ?_
  refine gs m92_61 ?_
  refine gwpc (pc' := 291) rfl ?_
  refine g_aload_n m92_291 rfl ?_
  refine g_iconst m92_292 ?_
  refine g_iload m92_293 rfl ?_
  refine g_iload_n m92_295 rfl ?_
  refine g_iload m92_296 rfl ?_
  refine g_cs (args := [.ref (77), .int (2), .int (3), .int (x), .int (nI (e + 1))]) (rest := []) 0 (Or.inl rfl) m92_298 (Nat.le_of_ble_eq_true rfl) rfl rfl (Nat.le_of_ble_eq_true rfl) ?_
  refine c_sp_6_2_3 (m := lgM m b [70]) (b := b + 1) (nv := nv) (mv := mv) (lgM_4 hb [70]) (by omega) ((lgM_o (by decide) [70]).trans hk) ((lgM_o (by decide) [70]).trans h0) ((lgM_o (by decide) [70]).trans h1) (by omega) ?_
  rw [show lgM (lgM m b [70]) (b + 1) [40, 12] = lgM m b [70, 40, 12] from lgM_a [70] [40, 12]]
  refine gwr ?_
  refine g_aload_n m92_301 rfl ?_
  refine h_gfI (k := 45) (p := 77) m92_302 rfl (t_45 _ _) rfl ((lgM_o (by decide) [70, 40, 12]).trans h0) ?_
  refine g_ixor m92_305 rfl ?_
  refine g_iret m92_306 rt_92 ?_
  exact hQ
set_option maxRecDepth 20000 in
set_option maxHeartbeats 40000000 in
theorem c_sp_6_3_3 {b e : Nat} {x nv mv : Int32} (hb : m 45 4 = nI b) (hb40 : b + 6 ≤ 40) (hk : m 45 2 = nI 6) (h0 : m 45 0 = nv) (h1 : m 45 1 = mv) (he : e + 3 ≤ 30) (hQ : Q (some (.int (((x + nv) * (2 : Int32)) ^^^ ((-(x - mv)) ^^^ nv)))) (H (lgM m b [13, 11, 10, 70, 40, 12]) ln N)) : WP xs (d + 6) 92 0 0 [.ref (77), .int (3), .int (3), .int (x), .int (nI (e))] (H m ln N) Q := by
  refine wp_x mx_92 (L := [some (.ref (77)), some (.int (3)), some (.int (3)), some (.int (x)), some (.int (nI (e))), none, none, none, none, none]) (Nat.le_of_ble_eq_true rfl) rfl ?_
  refine g_iload_n m92_0 rfl ?_
  refine g_iload_n m92_1 rfl ?_
  refine g_cs (args := [.int (3), .int (3)]) (rest := []) 0 (Or.inl rfl) m92_2 (Nat.le_of_ble_eq_true rfl) rfl rfl (Nat.le_of_ble_eq_true rfl) ?_
  refine c_own_3_3 ?_
  refine gwr ?_
  refine g_istore (L2 := [some (.ref (77)), some (.int (3)), some (.int (3)), some (.int (x)), some (.int (nI (e))), some (.int (0)), none, none, none, none]) m92_5 rfl rfl ?_
  refine g_iload m92_7 rfl ?_
  refine h_if_ltF (xi := 0) (zi := 0) m92_9 rfl rfl (by decide) ?_
  refine g_iload m92_12 rfl ?_
  refine g_bipush m92_14 ?_
  refine h_ic_leT (xi := ((e : Nat) : Int)) (zi := 30) m92_16 (nI_toInt (by omega)) rfl (by omega) ?_
  refine g_gst m92_21 rfl ?_
  refine g_iconst m92_24 ?_
  refine g_iload m92_25 rfl ?_
  refine g_imul (u := (0 : Int32)) m92_27 (by decide) ?_
  refine g_iload_n m92_28 rfl ?_
  refine g_iadd (u := (3 : Int32)) m92_29 (by decide) ?_
  refine g_iald (x := (13 : Int32)) m92_30 rfl (show vp_in (nI 3) 28 from vp_in_nI (by decide) (by decide)) (by decide +kernel) ?_
  refine g_istore (L2 := [some (.ref (77)), some (.int (3)), some (.int (3)), some (.int (x)), some (.int (nI (e))), some (.int (0)), some (.int (13)), none, none, none]) m92_31 rfl rfl ?_
  refine g_aload_n m92_33 rfl ?_
  refine g_iload m92_34 rfl ?_
  refine h_cv (k := 45) (p := 77) (args := [.int (13)]) (rest := []) m92_36 cn_50 (Nat.le_of_ble_eq_true rfl) rfl rfl rfl (t_45 _ _) (Nat.le_of_ble_eq_true rfl) ?_
  refine c_begin (b := b) (c := 13) hb (by omega) ?_
  refine gwr0 ?_
  refine g_aload_n m92_39 rfl ?_
  refine h_gfI (k := 45) (p := 77) m92_40 rfl (t_45 _ _) rfl ((lgM_o (by decide) [13]).trans hk) ?_
  refine g_istore (L2 := [some (.ref (77)), some (.int (3)), some (.int (3)), some (.int (x)), some (.int (nI (e))), some (.int (0)), some (.int (13)), some (.int (6)), none, none]) m92_43 rfl rfl ?_
  refine g_gst m92_45 rfl ?_
  refine g_iload m92_48 rfl ?_
  refine g_iald (x := (-1 : Int32)) m92_50 rfl (show vp_in (nI 0) 7 from vp_in_nI (by decide) (by decide)) (by decide +kernel) ?_
  refine g_istore (L2 := [some (.ref (77)), some (.int (3)), some (.int (3)), some (.int (x)), some (.int (nI (e))), some (.int (0)), some (.int (13)), some (.int (6)), some (.int (-1)), none]) m92_51 rfl rfl ?_
  refine g_iload m92_53 rfl ?_
  refine g_iconst m92_55 ?_
  refine g_iadd (u := nI (e + 1)) m92_56 (nI_add e 1) ?_
  refine g_istore (L2 := [some (.ref (77)), some (.int (3)), some (.int (3)), some (.int (x)), some (.int (nI (e))), some (.int (0)), some (.int (13)), some (.int (6)), some (.int (-1)), some (.int (nI (e + 1)))]) m92_57 rfl rfl ?_
  refine g_iload m92_59 rfl ?_
  refine gs m92_61 ?_
  refine gwpc (pc' := 187) rfl ?_
  refine g_aload_n m92_187 rfl ?_
  refine g_iconst m92_188 ?_
  refine g_iload m92_189 rfl ?_
  refine g_iload_n m92_191 rfl ?_
  refine g_iload m92_192 rfl ?_
  refine g_cs (args := [.ref (77), .int (1), .int (6), .int (x), .int (nI (e + 1))]) (rest := []) 0 (Or.inl rfl) m92_194 (Nat.le_of_ble_eq_true rfl) rfl rfl (Nat.le_of_ble_eq_true rfl) ?_
  refine c_sp_6_1_6 (m := lgM m b [13]) (b := b + 1) (nv := nv) (mv := mv) (lgM_4 hb [13]) (by omega) ((lgM_o (by decide) [13]).trans hk) ((lgM_o (by decide) [13]).trans h0) ((lgM_o (by decide) [13]).trans h1) (by omega) ?_
  rw [show lgM (lgM m b [13]) (b + 1) [11, 10] = lgM m b [13, 11, 10] from lgM_a [13] [11, 10]]
  refine gwr ?_
  refine g_aload_n m92_197 rfl ?_
  refine g_iconst m92_198 ?_
  refine g_iload m92_199 rfl ?_
  refine g_iload_n m92_201 rfl ?_
  refine g_iload m92_202 rfl ?_
  refine g_cs (args := [.ref (77), .int (2), .int (6), .int (x), .int (nI (e + 1))]) (rest := [.int (((x + nv) * (2 : Int32)))]) 0 (Or.inl rfl) m92_204 (Nat.le_of_ble_eq_true rfl) rfl rfl (Nat.le_of_ble_eq_true rfl) ?_
  refine c_sp_6_2_6 (m := lgM m b [13, 11, 10]) (b := b + 3) (nv := nv) (mv := mv) (lgM_4 hb [13, 11, 10]) (by omega) ((lgM_o (by decide) [13, 11, 10]).trans hk) ((lgM_o (by decide) [13, 11, 10]).trans h0) ((lgM_o (by decide) [13, 11, 10]).trans h1) (by omega) ?_
  rw [show lgM (lgM m b [13, 11, 10]) (b + 3) [70, 40, 12] = lgM m b [13, 11, 10, 70, 40, 12] from lgM_a [13, 11, 10] [70, 40, 12]]
  refine gwr ?_
  refine g_ixor m92_207 rfl ?_
  refine g_iret m92_208 rt_92 ?_
  exact hQ
set_option maxRecDepth 20000 in
set_option maxHeartbeats 40000000 in
theorem c_sp_6_3_6 {b e : Nat} {x nv mv : Int32} (hb : m 45 4 = nI b) (hb40 : b + 9 ≤ 40) (hk : m 45 2 = nI 6) (h0 : m 45 0 = nv) (h1 : m 45 1 = mv) (he : e + 4 ≤ 30) (hQ : Q (some (.int (((x + nv) * (2 : Int32)) - (((x + nv) * (2 : Int32)) ^^^ ((-(x - mv)) ^^^ nv))))) (H (lgM m b [71, 11, 10, 13, 11, 10, 70, 40, 12]) ln N)) : WP xs (d + 7) 92 0 0 [.ref (77), .int (3), .int (6), .int (x), .int (nI (e))] (H m ln N) Q := by
  refine wp_x mx_92 (L := [some (.ref (77)), some (.int (3)), some (.int (6)), some (.int (x)), some (.int (nI (e))), none, none, none, none, none]) (Nat.le_of_ble_eq_true rfl) rfl ?_
  refine g_iload_n m92_0 rfl ?_
  refine g_iload_n m92_1 rfl ?_
  refine g_cs (args := [.int (3), .int (6)]) (rest := []) 0 (Or.inl rfl) m92_2 (Nat.le_of_ble_eq_true rfl) rfl rfl (Nat.le_of_ble_eq_true rfl) ?_
  refine c_own_3_6 ?_
  refine gwr ?_
  refine g_istore (L2 := [some (.ref (77)), some (.int (3)), some (.int (6)), some (.int (x)), some (.int (nI (e))), some (.int (6)), none, none, none, none]) m92_5 rfl rfl ?_
  refine g_iload m92_7 rfl ?_
  refine h_if_ltF (xi := 6) (zi := 0) m92_9 rfl rfl (by decide) ?_
  refine g_iload m92_12 rfl ?_
  refine g_bipush m92_14 ?_
  refine h_ic_leT (xi := ((e : Nat) : Int)) (zi := 30) m92_16 (nI_toInt (by omega)) rfl (by omega) ?_
  refine g_gst m92_21 rfl ?_
  refine g_iconst m92_24 ?_
  refine g_iload m92_25 rfl ?_
  refine g_imul (u := (24 : Int32)) m92_27 (by decide) ?_
  refine g_iload_n m92_28 rfl ?_
  refine g_iadd (u := (27 : Int32)) m92_29 (by decide) ?_
  refine g_iald (x := (71 : Int32)) m92_30 rfl (show vp_in (nI 27) 28 from vp_in_nI (by decide) (by decide)) (by decide +kernel) ?_
  refine g_istore (L2 := [some (.ref (77)), some (.int (3)), some (.int (6)), some (.int (x)), some (.int (nI (e))), some (.int (6)), some (.int (71)), none, none, none]) m92_31 rfl rfl ?_
  refine g_aload_n m92_33 rfl ?_
  refine g_iload m92_34 rfl ?_
  refine h_cv (k := 45) (p := 77) (args := [.int (71)]) (rest := []) m92_36 cn_50 (Nat.le_of_ble_eq_true rfl) rfl rfl rfl (t_45 _ _) (Nat.le_of_ble_eq_true rfl) ?_
  refine c_begin (b := b) (c := 71) hb (by omega) ?_
  refine gwr0 ?_
  refine g_aload_n m92_39 rfl ?_
  refine h_gfI (k := 45) (p := 77) m92_40 rfl (t_45 _ _) rfl ((lgM_o (by decide) [71]).trans hk) ?_
  refine g_istore (L2 := [some (.ref (77)), some (.int (3)), some (.int (6)), some (.int (x)), some (.int (nI (e))), some (.int (6)), some (.int (71)), some (.int (6)), none, none]) m92_43 rfl rfl ?_
  refine g_gst m92_45 rfl ?_
  refine g_iload m92_48 rfl ?_
  refine g_iald (x := (3 : Int32)) m92_50 rfl (show vp_in (nI 6) 7 from vp_in_nI (by decide) (by decide)) (by decide +kernel) ?_
  refine g_istore (L2 := [some (.ref (77)), some (.int (3)), some (.int (6)), some (.int (x)), some (.int (nI (e))), some (.int (6)), some (.int (71)), some (.int (6)), some (.int (3)), none]) m92_51 rfl rfl ?_
  refine g_iload m92_53 rfl ?_
  refine g_iconst m92_55 ?_
  refine g_iadd (u := nI (e + 1)) m92_56 (nI_add e 1) ?_
  refine g_istore (L2 := [some (.ref (77)), some (.int (3)), some (.int (6)), some (.int (x)), some (.int (nI (e))), some (.int (6)), some (.int (71)), some (.int (6)), some (.int (3)), some (.int (nI (e + 1)))]) m92_57 rfl rfl ?_
  refine g_iload m92_59 rfl ?_
  refine gs m92_61 ?_
  refine gwpc (pc' := 307) rfl ?_
  refine g_aload_n m92_307 rfl ?_
  refine g_iconst m92_308 ?_
  refine g_iload m92_309 rfl ?_
  refine g_iload_n m92_311 rfl ?_
  refine g_iload m92_312 rfl ?_
  refine g_cs (args := [.ref (77), .int (1), .int (6), .int (x), .int (nI (e + 1))]) (rest := []) 0 (Or.inl rfl) m92_314 (Nat.le_of_ble_eq_true rfl) rfl rfl (Nat.le_of_ble_eq_true rfl) ?_
  refine c_sp_6_1_6 (m := lgM m b [71]) (b := b + 1) (nv := nv) (mv := mv) (lgM_4 hb [71]) (by omega) ((lgM_o (by decide) [71]).trans hk) ((lgM_o (by decide) [71]).trans h0) ((lgM_o (by decide) [71]).trans h1) (by omega) ?_
  rw [show lgM (lgM m b [71]) (b + 1) [11, 10] = lgM m b [71, 11, 10] from lgM_a [71] [11, 10]]
  refine gwr ?_
  refine g_aload_n m92_317 rfl ?_
  refine g_iconst m92_318 ?_
  refine g_iload m92_319 rfl ?_
  refine g_iload_n m92_321 rfl ?_
  refine g_iload m92_322 rfl ?_
  refine g_cs (args := [.ref (77), .int (3), .int (3), .int (x), .int (nI (e + 1))]) (rest := [.int (((x + nv) * (2 : Int32)))]) 0 (Or.inl rfl) m92_324 (Nat.le_of_ble_eq_true rfl) rfl rfl (Nat.le_of_ble_eq_true rfl) ?_
  refine c_sp_6_3_3 (m := lgM m b [71, 11, 10]) (b := b + 3) (nv := nv) (mv := mv) (lgM_4 hb [71, 11, 10]) (by omega) ((lgM_o (by decide) [71, 11, 10]).trans hk) ((lgM_o (by decide) [71, 11, 10]).trans h0) ((lgM_o (by decide) [71, 11, 10]).trans h1) (by omega) ?_
  rw [show lgM (lgM m b [71, 11, 10]) (b + 3) [13, 11, 10, 70, 40, 12] = lgM m b [71, 11, 10, 13, 11, 10, 70, 40, 12] from lgM_a [71, 11, 10] [13, 11, 10, 70, 40, 12]]
  refine gwr ?_
  refine g_isub m92_327 rfl ?_
  refine g_iret m92_328 rt_92 ?_
  exact hQ
end
end
