/-! SHEETS JUDGED, AS A KIND -/
def endF (r n l : Nat) : Int32 := if r = n ∧ r = l then -1 else nI r
def underF (k u : Nat) : Bool := decide (k = u) || (decide (k ≠ 0) && decide (u = 0)) || (decide (3 < k) && decide (u = k - 3))
section
variable {xs : List Int32} {d : Nat} {h : AH} {Q : QT} {m : MW} {ln : Nat → Nat} {N : Nat}
set_option maxRecDepth 20000 in
set_option maxHeartbeats 40000000 in
theorem c_holds {s b q : Nat} {v : Int32} (hs : s < 4) (hq : q < 40) (hb : b = 0 ∨ b = 8 ∨ b = 16 ∨ b = 32) (hbm : m (48 + 2 * s) 0 = nI b) (hT : m (49 + 2 * s) q = lowF b v → Q (some (.int 1)) (H m ln N)) (hF : ¬ m (49 + 2 * s) q = lowF b v → Q (some (.int 0)) (H m ln N)) : WP xs (d + 2) 29 0 0 [.ref (80 + 2 * s), .int (nI (q)), .int (v)] (H m ln N) Q := by
  refine wp_x mx_29 (L := [some (.ref (80 + 2 * s)), some (.int (nI (q))), some (.int (v))]) (Nat.le_of_ble_eq_true rfl) rfl ?_
  refine g_aload_n m29_0 rfl ?_
  refine h_gfR (c := 81 + 2 * s) (k := 48 + 2 * s) (p := 80 + 2 * s) m29_1 (pSo _) (tSo hs) rfl (le3 (Nat.le_of_ble_eq_true rfl)) ?_
  refine g_iload_n m29_4 rfl ?_
  refine h_ial (k := 49 + 2 * s) (p := 81 + 2 * s) (j := q) m29_5 (pSn _) (tSn hs) (rfl) (by omega) (Nat.le_of_ble_eq_true rfl) (rfl) ?_
  refine g_aload_n m29_6 rfl ?_
  refine g_iload_n m29_7 rfl ?_
  refine h_cv (k := 48 + 2 * s) (p := 80 + 2 * s) (args := [.int (v)]) (rest := [.int (m (49 + 2 * s) (q))]) m29_8 cn_28 (Nat.le_of_ble_eq_true rfl) rfl rfl (pSo _) (tSo hs) (Nat.le_of_ble_eq_true rfl) ?_
  refine c_lowest hs hb hbm ?_
  refine gwr ?_
  refine h_ic_ne (xi := _) (zi := _) m29_11 rfl rfl (fun c1 => ?_) (fun c1 => ?_)
  · skip
    refine g_iconst m29_14 ?_
    refine g_goto m29_15 ?_
    refine g_zret m29_19 rt_29 (Or.inr rfl) ?_
    exact hT (Int32.toInt_inj.mp c1)
  · skip
    refine g_iconst m29_18 ?_
    refine g_zret m29_19 rt_29 (Or.inl rfl) ?_
    exact hF (fun z => c1 (congrArg Int32.toInt z))
set_option maxRecDepth 20000 in
set_option maxHeartbeats 40000000 in
theorem x_judge {a : Int32} {n : Nat} {B Ln : Nat → Nat} (hd : m 1 10 = nI n) (hn : n ≤ 8) (hW : WF (vw m 0)) (hL : LawsOk m ln N) (hix : LawIx N (m 1 11)) (hB : ∀ s, s < 4 → (B s = 0 ∨ B s = 8 ∨ B s = 16 ∨ B s = 32) ∧ Ln s ≤ 40 ∧ m (48 + 2 * s) 0 = nI (B s) ∧ m (48 + 2 * s) 1 = nI (Ln s)) (hE1 : (a.toInt < 0 ∨ 3 < a.toInt) → Q (some (.int (-1000000000 - nI 1))) (H (erm m 1) ln N)) (hE2 : (∃ s : Nat, a = nI s ∧ s < 4 ∧ B s = 0) → Q (some (.int (-1000000000 - nI 2))) (H (erm m 2) ln N)) (hY : ∀ s : Nat, a = nI s → s < 4 → B s ≠ 0 → ∀ m2, EqM m m2 → Q (some (.int (endF (runF (fun q => decide (m (49 + 2 * s) q = lowF (B s) (faceF (lkF m ln (m 1 11)) (vw m 0) q))) (min (Ln s) n) 0) n (Ln s)))) (H m2 ln N)) : WP xs (d + 4) 99 0 0 [.ref (32), .int (a)] (H m ln N) Q := by
  refine wp_x mx_99 (L := [some (.ref (32)), some (.int (a)), none, none, none]) (Nat.le_of_ble_eq_true rfl) rfl ?_
  refine g_iload_n m99_0 rfl ?_
  refine g_iconst m99_1 ?_
  refine g_cs (args := [.int (a), .int (3)]) (rest := []) 0 (Or.inl rfl) m99_2 (Nat.le_of_ble_eq_true rfl) rfl rfl (Nat.le_of_ble_eq_true rfl) ?_
  refine c_within (M := 3) rfl (fun ja ea a_1 => ?_) (fun a_1 => ?_)
  · subst ea
    refine gwr ?_
    refine h_if_neF (xi := 1) (zi := 0) m99_5 rfl rfl (by decide) ?_
    refine g_aload_n m99_14 rfl ?_
    refine h_gfR (c := 79) (k := 0) (p := 32) m99_15 rfl (t_0 _ _) rfl (Nat.le_of_ble_eq_true rfl) ?_
    refine g_iload_n m99_18 rfl ?_
    have hs : ja < 4 := by omega
    have hBa := hB ja hs
    refine h_aald (j := ja) (c := 80 + 2 * ja) m99_19 rfl (t_47 _ _) (rfl) (sh_at hs) (le3 (Nat.le_of_ble_eq_true rfl)) (Nat.le_of_ble_eq_true rfl) ?_
    refine g_astore_n (L2 := [some (.ref (32)), some (.int (nI (ja))), some (.ref (80 + 2 * ja)), none, none]) m99_20 rfl rfl ?_
    refine g_aload_n m99_21 rfl ?_
    refine h_gfI (k := 48 + 2 * ja) (p := 80 + 2 * ja) m99_22 (pSo _) (tSo hs) rfl (hBa.2.2.1) ?_
    refine h_if_ne (xi := ((B ja : Nat) : Int)) (zi := 0) m99_25 (nI_toInt (by omega)) rfl (fun c1 => ?_) (fun c1 => ?_)
    · skip
      refine g_aload_n m99_28 rfl ?_
      refine g_iconst m99_29 ?_
      refine h_cv (k := 0) (p := 32) (args := [.int (2)]) (rest := []) m99_30 cn_55 (Nat.le_of_ble_eq_true rfl) rfl rfl rfl (t_0 _ _) (Nat.le_of_ble_eq_true rfl) ?_
      refine c_error (e := 2) (by decide) (by decide) ?_
      refine gwr ?_
      refine g_iret m99_33 rt_99 ?_
      exact hE2 ⟨ja, rfl, by omega, by omega⟩
    · skip
      refine g_aload_n m99_34 rfl ?_
      refine h_gfI (k := 48 + 2 * ja) (p := 80 + 2 * ja) m99_35 (pSo _) (tSo hs) rfl (hBa.2.2.2) ?_
      refine g_aload_n m99_38 rfl ?_
      refine h_gfR (c := 33) (k := 0) (p := 32) m99_39 rfl (t_0 _ _) rfl (Nat.le_of_ble_eq_true rfl) ?_
      refine h_gfI (k := 1) (p := 33) m99_42 rfl (t_1 _ _) rfl (hd) ?_
      refine g_min (u := nI (min (Ln ja) n)) m99_45 (Nat.le_of_ble_eq_true rfl) (min_n (by omega) (by omega)) ?_
      refine g_istore_n (L2 := [some (.ref (32)), some (.int (nI (ja))), some (.ref (80 + 2 * ja)), some (.int (nI (min (Ln ja) n))), none]) m99_48 rfl rfl ?_
      refine g_iconst m99_49 ?_
      refine g_istore (L2 := [some (.ref (32)), some (.int (nI (ja))), some (.ref (80 + 2 * ja)), some (.int (nI (min (Ln ja) n))), some (.int (0))]) m99_50 rfl rfl ?_
      have key : ∀ (r : Nat) (q : Nat) (m2 : MW), q + r = min (Ln ja) n → AtX m 0 (vw m 0) m2 → runF (fun q => decide (m (49 + 2 * ja) q = lowF (B ja) (faceF (lkF m ln (m 1 11)) (vw m 0) q))) r q = runF (fun q => decide (m (49 + 2 * ja) q = lowF (B ja) (faceF (lkF m ln (m 1 11)) (vw m 0) q))) (min (Ln ja) n) 0 → gw xs (WP xs (d + 3)) 99 Q 52 [some (.ref (32)), some (.int (nI (ja))), some (.ref (80 + 2 * ja)), some (.int (nI (min (Ln ja) n))), some (.int (nI (q)))] [] (H m2 ln N) 0 0 := by
        intro r
        induction r with
        | zero =>
          intro q m2 hq hA hfin
          have hfin : q = runF (fun q => decide (m (49 + 2 * ja) q = lowF (B ja) (faceF (lkF m ln (m 1 11)) (vw m 0) q))) (min (Ln ja) n) 0 := hfin
          refine g_iload m99_52 rfl ?_
          refine g_iload_n m99_54 rfl ?_
          refine h_ic_geT (xi := ((q : Nat) : Int)) (zi := ((min (Ln ja) n : Nat) : Int)) m99_55 (nI_toInt (by omega)) (nI_toInt (by omega)) (by omega) ?_
          refine g_aload_n m99_85 rfl ?_
          refine h_gfI (k := 48 + 2 * ja) (p := 80 + 2 * ja) m99_86 (pSo _) (tSo hs) rfl ((hA.out (by omega) (fun z => by rcases z with z | z <;> omega)).trans hBa.2.2.2) ?_
          refine g_aload_n m99_89 rfl ?_
          refine h_gfR (c := 33) (k := 0) (p := 32) m99_90 rfl (t_0 _ _) rfl (Nat.le_of_ble_eq_true rfl) ?_
          refine h_gfI (k := 1) (p := 33) m99_93 rfl (t_1 _ _) rfl ((hA.rd (by decide) (j := 0) (i := 10) (by decide)).trans hd) ?_
          refine h_ic_ne (xi := ((Ln ja : Nat) : Int)) (zi := ((n : Nat) : Int)) m99_96 (nI_toInt (by omega)) (nI_toInt (by omega)) (fun c2 => ?_) (fun c2 => ?_)
          · skip
            refine g_iconst m99_99 ?_
            refine g_goto m99_100 ?_
            refine g_iret m99_104 rt_99 ?_
            have h9 := hY ja rfl (by omega) (by omega) m2 (AtX.back hA)
            rw [← hfin, show endF q n (Ln ja) = -1 from if_pos ⟨by omega, by omega⟩] at h9
            exact h9
          · skip
            refine g_iload_n m99_103 rfl ?_
            refine g_iret m99_104 rt_99 ?_
            have h9 := hY ja rfl (by omega) (by omega) m2 (AtX.back hA)
            rw [← hfin, show endF q n (Ln ja) = nI q from if_neg (fun z => by omega)] at h9
            first | exact h9 | (rw [show min (Ln ja) n = q by omega]; exact h9)
        | succ r ih =>
          intro q m2 hq hA hfin
          refine g_iload m99_52 rfl ?_
          refine g_iload_n m99_54 rfl ?_
          refine h_ic_geF (xi := ((q : Nat) : Int)) (zi := ((min (Ln ja) n : Nat) : Int)) m99_55 (nI_toInt (by omega)) (nI_toInt (by omega)) (by omega) ?_
          refine g_aload_n m99_58 rfl ?_
          refine g_iload m99_59 rfl ?_
          refine g_aload_n m99_61 rfl ?_
          refine h_gfR (c := 33) (k := 0) (p := 32) m99_62 rfl (t_0 _ _) rfl (Nat.le_of_ble_eq_true rfl) ?_
          refine g_iload m99_65 rfl ?_
          refine h_cv (k := 1) (p := 33) (args := [.int (nI (q))]) (rest := [.int (nI (q)), .ref (80 + 2 * ja)]) m99_67 cn_34 (Nat.le_of_ble_eq_true rfl) rfl rfl rfl (t_1 _ _) (Nat.le_of_ble_eq_true rfl) ?_
          refine c_face (t := 0) (m0 := m) (X := vw m 0) (by decide) hL hA rfl hix (by omega) ((hW.2.2 q (by omega)).2.1) (fun m3 hA3 => ?_)
          refine gwr ?_
          refine h_cv (k := 48 + 2 * ja) (p := 80 + 2 * ja) (args := [.int (nI (q)), .int (faceF (lkF m ln (m 1 11)) (vw m 0) q)]) (rest := []) m99_70 cn_29 (Nat.le_of_ble_eq_true rfl) rfl rfl (pSo _) (tSo hs) (Nat.le_of_ble_eq_true rfl) ?_
          have e49 : m3 (49 + 2 * ja) q = m (49 + 2 * ja) q := hA3.out (by omega) (fun z => by rcases z with z | z <;> omega)
          refine c_holds hs (by omega) hBa.1 ((hA3.out (by omega) (fun z => by rcases z with z | z <;> omega)).trans hBa.2.2.1) (fun a_2 => ?_) (fun a_2 => ?_)
          · rw [run_y (p := (fun q => decide (m (49 + 2 * ja) q = lowF (B ja) (faceF (lkF m ln (m 1 11)) (vw m 0) q)))) (decide_eq_true (e49.symm.trans a_2))] at hfin
            refine gwr ?_
            refine h_if_neF (xi := 1) (zi := 0) m99_73 rfl rfl (by decide) ?_
            refine g_iinc (L2 := [some (.ref (32)), some (.int (nI (ja))), some (.ref (80 + 2 * ja)), some (.int (nI (min (Ln ja) n))), some (.int (nI (q + 1)))]) m99_79 rfl (nI_1 _) rfl rfl ?_
            refine g_goto m99_82 ?_
            exact ih (q + 1) _ (by omega) hA3 hfin
          · rw [run_n (p := (fun q => decide (m (49 + 2 * ja) q = lowF (B ja) (faceF (lkF m ln (m 1 11)) (vw m 0) q)))) (by show ¬ decide _ = true; rw [decide_eq_true_eq, ← e49]; exact a_2)] at hfin
            refine gwr ?_
            refine h_if_neT (xi := 0) (zi := 0) m99_73 rfl rfl (by decide) ?_
            refine g_iload m99_76 rfl ?_
            refine g_iret m99_78 rt_99 ?_
            have h9 := hY ja rfl (by omega) (by omega) m3 (AtX.back hA3)
            rw [← hfin, show endF q n (Ln ja) = nI q from if_neg (fun z => by omega)] at h9
            first | exact h9 | (rw [show min (Ln ja) n = q by omega]; exact h9)
      exact key (min (Ln ja) n) 0 m (by omega) (AtX.self m 0) rfl
  · skip
    refine gwr ?_
    refine h_if_neT (xi := 0) (zi := 0) m99_5 rfl rfl (by decide) ?_
    refine g_aload_n m99_8 rfl ?_
    refine g_iconst m99_9 ?_
    refine h_cv (k := 0) (p := 32) (args := [.int (1)]) (rest := []) m99_10 cn_55 (Nat.le_of_ble_eq_true rfl) rfl rfl rfl (t_0 _ _) (Nat.le_of_ble_eq_true rfl) ?_
    refine c_error (e := 1) (by decide) (by decide) ?_
    refine gwr ?_
    refine g_iret m99_13 rt_99 ?_
    exact hE1 (by omega)
set_option maxRecDepth 20000 in
set_option maxHeartbeats 40000000 in
theorem m_judge {a : Int32} {n : Nat} {B Ln : Nat → Nat} (hd : m 58 2 = nI n) (hn : n ≤ 8) (hX0 : TxOk (m 58) 0) (hWY : WF (vr (m 58))) (hB : ∀ s, s < 4 → (B s = 0 ∨ B s = 8 ∨ B s = 16 ∨ B s = 32) ∧ Ln s ≤ 40 ∧ m 63 s = nI (B s) ∧ m 64 s = nI (Ln s)) (hE1 : (a.toInt < 0 ∨ 3 < a.toInt) → Q (some (.int (-1000000001))) (H (ers m 1) ln N)) (hE2 : (∃ s : Nat, a = nI s ∧ s < 4 ∧ B s = 0) → Q (some (.int (-1000000002))) (H (ers m 2) ln N)) (hY : ∀ s : Nat, a = nI s → s < 4 → B s ≠ 0 → ∀ m2, EqM m m2 → Q (some (.int (endF (runF (fun q => decide (m 65 (40 * s + q) = faceF (rkF (m 58)) (vr (m 58)) q)) (min (Ln s) n) 0) n (Ln s)))) (H m2 ln N)) : WP xs (d + 813) 183 0 0 [.ref (89), .int (a)] (H m ln N) Q := by
  refine wp_x mx_183 (L := [some (.ref (89)), some (.int (a)), none]) (Nat.le_of_ble_eq_true rfl) rfl ?_
  refine g_iload_n m183_0 rfl ?_
  refine g_cs (args := [.int (a)]) (rest := []) 0 (Or.inl rfl) m183_1 (Nat.le_of_ble_eq_true rfl) rfl rfl (Nat.le_of_ble_eq_true rfl) ?_
  refine c_isSheet (fun ja ea a_3 => ?_) (fun a_3 => ?_)
  · subst ea
    refine gwr ?_
    refine h_if_neF (xi := 1) (zi := 0) m183_4 rfl rfl (by decide) ?_
    refine g_aload_n m183_14 rfl ?_
    refine h_gfR (c := 95) (k := 57) (p := 89) m183_15 rfl (t_57 _ _) rfl (Nat.le_of_ble_eq_true rfl) ?_
    refine g_iload_n m183_18 rfl ?_
    have hs : ja < 4 := by omega
    have hBa := hB ja hs
    refine h_ial (k := 63) (p := 95) (j := ja) m183_19 rfl (t_63 _ _) (rfl) (by omega) (Nat.le_of_ble_eq_true rfl) (hBa.2.2.1) ?_
    refine h_if_ne (xi := ((B ja : Nat) : Int)) (zi := 0) m183_20 (nI_toInt (by omega)) rfl (fun c1 => ?_) (fun c1 => ?_)
    · skip
      refine g_aload_n m183_23 rfl ?_
      refine g_ldci m183_24 rfl ?_
      refine h_cv (k := 57) (p := 89) (args := [.int (-1000000002)]) (rest := []) m183_26 cn_108 (Nat.le_of_ble_eq_true rfl) rfl rfl rfl (t_57 _ _) (Nat.le_of_ble_eq_true rfl) ?_
      refine c_errs (e := 2) (by decide) (by decide) (by decide) ?_
      refine gwr ?_
      refine g_iret m183_29 rt_183 ?_
      exact hE2 ⟨ja, rfl, by omega, by omega⟩
    · skip
      refine g_iconst m183_30 ?_
      refine g_istore_n (L2 := [some (.ref (89)), some (.int (nI (ja))), some (.int (0))]) m183_31 rfl rfl ?_
      have key : ∀ (r : Nat) (q : Nat) (m2 : MW), q + r = min (Ln ja) n → AtY m (vr (m 58)) m2 → runF (fun q => decide (m 65 (40 * ja + q) = faceF (rkF (m 58)) (vr (m 58)) q)) r q = runF (fun q => decide (m 65 (40 * ja + q) = faceF (rkF (m 58)) (vr (m 58)) q)) (min (Ln ja) n) 0 → gw xs (WP xs (d + 812)) 183 Q 32 [some (.ref (89)), some (.int (nI (ja))), some (.int (nI (q)))] [] (H m2 ln N) 0 0 := by
        intro r
        induction r with
        | zero =>
          intro q m2 hq hA hfin
          have hfin : q = runF (fun q => decide (m 65 (40 * ja + q) = faceF (rkF (m 58)) (vr (m 58)) q)) (min (Ln ja) n) 0 := hfin
          refine g_iload_n m183_32 rfl ?_
          refine g_aload_n m183_33 rfl ?_
          refine h_gfR (c := 90) (k := 57) (p := 89) m183_34 rfl (t_57 _ _) rfl (Nat.le_of_ble_eq_true rfl) ?_
          refine g_iconst m183_37 ?_
          refine h_ial (k := 58) (p := 90) (j := 2) m183_38 rfl (t_58 _ _) (rfl) (by omega) (Nat.le_of_ble_eq_true rfl) (hA.r2.trans hd) ?_
          refine h_ic_ge (xi := ((q : Nat) : Int)) (zi := ((n : Nat) : Int)) m183_39 (nI_toInt (by omega)) (nI_toInt (by omega)) (fun c2 => ?_) (fun c2 => ?_)
          · skip
            refine g_iload_n m183_77 rfl ?_
            refine g_aload_n m183_78 rfl ?_
            refine h_gfR (c := 90) (k := 57) (p := 89) m183_79 rfl (t_57 _ _) rfl (Nat.le_of_ble_eq_true rfl) ?_
            refine g_iconst m183_82 ?_
            refine h_ial (k := 58) (p := 90) (j := 2) m183_83 rfl (t_58 _ _) (rfl) (by omega) (Nat.le_of_ble_eq_true rfl) (hA.r2.trans hd) ?_
            refine h_ic_ne (xi := ((q : Nat) : Int)) (zi := ((n : Nat) : Int)) m183_84 (nI_toInt (by omega)) (nI_toInt (by omega)) (fun c3 => ?_) (fun c3 => ?_)
            · skip
              refine g_iload_n m183_87 rfl ?_
              refine g_aload_n m183_88 rfl ?_
              refine h_gfR (c := 96) (k := 57) (p := 89) m183_89 rfl (t_57 _ _) rfl (Nat.le_of_ble_eq_true rfl) ?_
              refine g_iload_n m183_92 rfl ?_
              refine h_ial (k := 64) (p := 96) (j := ja) m183_93 rfl (t_64 _ _) (rfl) (by omega) (Nat.le_of_ble_eq_true rfl) ((hA.out (by decide) (fun z => by rcases z with z | z <;> omega)).trans hBa.2.2.2) ?_
              refine h_ic_ne (xi := ((q : Nat) : Int)) (zi := ((Ln ja : Nat) : Int)) m183_94 (nI_toInt (by omega)) (nI_toInt (by omega)) (fun c4 => ?_) (fun c4 => ?_)
              · skip
                refine g_iconst m183_97 ?_
                refine g_goto m183_98 ?_
                refine g_iret m183_102 rt_183 ?_
                first | (exfalso; omega) | (have h9 := hY ja rfl (by omega) (by omega) m2 (AtY.back hA); rw [← hfin, show endF q n (Ln ja) = -1 from if_pos ⟨by omega, by omega⟩] at h9; exact h9)
              · skip
                refine g_iload_n m183_101 rfl ?_
                refine g_iret m183_102 rt_183 ?_
                first | (exfalso; omega) | (have h9 := hY ja rfl (by omega) (by omega) m2 (AtY.back hA); rw [← hfin, show endF q n (Ln ja) = nI q from if_neg (fun z => by omega)] at h9; exact h9)
            · skip
              refine g_iload_n m183_101 rfl ?_
              refine g_iret m183_102 rt_183 ?_
              first | (exfalso; omega) | (have h9 := hY ja rfl (by omega) (by omega) m2 (AtY.back hA); rw [← hfin, show endF q n (Ln ja) = nI q from if_neg (fun z => by omega)] at h9; exact h9)
          · skip
            refine g_iload_n m183_42 rfl ?_
            refine g_aload_n m183_43 rfl ?_
            refine h_gfR (c := 96) (k := 57) (p := 89) m183_44 rfl (t_57 _ _) rfl (Nat.le_of_ble_eq_true rfl) ?_
            refine g_iload_n m183_47 rfl ?_
            refine h_ial (k := 64) (p := 96) (j := ja) m183_48 rfl (t_64 _ _) (rfl) (by omega) (Nat.le_of_ble_eq_true rfl) ((hA.out (by decide) (fun z => by rcases z with z | z <;> omega)).trans hBa.2.2.2) ?_
            refine h_ic_ge (xi := ((q : Nat) : Int)) (zi := ((Ln ja : Nat) : Int)) m183_49 (nI_toInt (by omega)) (nI_toInt (by omega)) (fun c5 => ?_) (fun c5 => ?_)
            · skip
              refine g_iload_n m183_77 rfl ?_
              refine g_aload_n m183_78 rfl ?_
              refine h_gfR (c := 90) (k := 57) (p := 89) m183_79 rfl (t_57 _ _) rfl (Nat.le_of_ble_eq_true rfl) ?_
              refine g_iconst m183_82 ?_
              refine h_ial (k := 58) (p := 90) (j := 2) m183_83 rfl (t_58 _ _) (rfl) (by omega) (Nat.le_of_ble_eq_true rfl) (hA.r2.trans hd) ?_
              refine h_ic_ne (xi := ((q : Nat) : Int)) (zi := ((n : Nat) : Int)) m183_84 (nI_toInt (by omega)) (nI_toInt (by omega)) (fun c6 => ?_) (fun c6 => ?_)
              · skip
                refine g_iload_n m183_87 rfl ?_
                refine g_aload_n m183_88 rfl ?_
                refine h_gfR (c := 96) (k := 57) (p := 89) m183_89 rfl (t_57 _ _) rfl (Nat.le_of_ble_eq_true rfl) ?_
                refine g_iload_n m183_92 rfl ?_
                refine h_ial (k := 64) (p := 96) (j := ja) m183_93 rfl (t_64 _ _) (rfl) (by omega) (Nat.le_of_ble_eq_true rfl) ((hA.out (by decide) (fun z => by rcases z with z | z <;> omega)).trans hBa.2.2.2) ?_
                refine h_ic_ne (xi := ((q : Nat) : Int)) (zi := ((Ln ja : Nat) : Int)) m183_94 (nI_toInt (by omega)) (nI_toInt (by omega)) (fun c7 => ?_) (fun c7 => ?_)
                · skip
                  refine g_iconst m183_97 ?_
                  refine g_goto m183_98 ?_
                  refine g_iret m183_102 rt_183 ?_
                  first | (exfalso; omega) | (have h9 := hY ja rfl (by omega) (by omega) m2 (AtY.back hA); rw [← hfin, show endF q n (Ln ja) = -1 from if_pos ⟨by omega, by omega⟩] at h9; exact h9)
                · skip
                  refine g_iload_n m183_101 rfl ?_
                  refine g_iret m183_102 rt_183 ?_
                  first | (exfalso; omega) | (have h9 := hY ja rfl (by omega) (by omega) m2 (AtY.back hA); rw [← hfin, show endF q n (Ln ja) = nI q from if_neg (fun z => by omega)] at h9; exact h9)
              · skip
                refine g_iload_n m183_101 rfl ?_
                refine g_iret m183_102 rt_183 ?_
                first | (exfalso; omega) | (have h9 := hY ja rfl (by omega) (by omega) m2 (AtY.back hA); rw [← hfin, show endF q n (Ln ja) = nI q from if_neg (fun z => by omega)] at h9; exact h9)
            · skip
              exfalso
              omega
        | succ r ih =>
          intro q m2 hq hA hfin
          refine g_iload_n m183_32 rfl ?_
          refine g_aload_n m183_33 rfl ?_
          refine h_gfR (c := 90) (k := 57) (p := 89) m183_34 rfl (t_57 _ _) rfl (Nat.le_of_ble_eq_true rfl) ?_
          refine g_iconst m183_37 ?_
          refine h_ial (k := 58) (p := 90) (j := 2) m183_38 rfl (t_58 _ _) (rfl) (by omega) (Nat.le_of_ble_eq_true rfl) (hA.r2.trans hd) ?_
          refine h_ic_geF (xi := ((q : Nat) : Int)) (zi := ((n : Nat) : Int)) m183_39 (nI_toInt (by omega)) (nI_toInt (by omega)) (by omega) ?_
          refine g_iload_n m183_42 rfl ?_
          refine g_aload_n m183_43 rfl ?_
          refine h_gfR (c := 96) (k := 57) (p := 89) m183_44 rfl (t_57 _ _) rfl (Nat.le_of_ble_eq_true rfl) ?_
          refine g_iload_n m183_47 rfl ?_
          refine h_ial (k := 64) (p := 96) (j := ja) m183_48 rfl (t_64 _ _) (rfl) (by omega) (Nat.le_of_ble_eq_true rfl) ((hA.out (by decide) (fun z => by rcases z with z | z <;> omega)).trans hBa.2.2.2) ?_
          refine h_ic_geF (xi := ((q : Nat) : Int)) (zi := ((Ln ja : Nat) : Int)) m183_49 (nI_toInt (by omega)) (nI_toInt (by omega)) (by omega) ?_
          refine g_aload_n m183_52 rfl ?_
          refine h_gfR (c := 97) (k := 57) (p := 89) m183_53 rfl (t_57 _ _) rfl (Nat.le_of_ble_eq_true rfl) ?_
          refine g_bipush m183_56 ?_
          refine g_iload_n m183_58 rfl ?_
          refine g_imul (u := nI (40 * ja)) m183_59 (pk_mul 40 ja) ?_
          refine g_iload_n m183_60 rfl ?_
          refine g_iadd (u := nI ((40 * ja) + q)) m183_61 (nI_add (40 * ja) q) ?_
          refine h_ial (k := 65) (p := 97) (j := (40 * ja) + q) m183_62 rfl (t_65 _ _) (rfl) (by omega) (Nat.le_of_ble_eq_true rfl) (hA.out (by decide) (fun z => by rcases z with z | z <;> omega)) ?_
          refine g_aload_n m183_63 rfl ?_
          refine g_iload_n m183_64 rfl ?_
          refine h_cv (k := 57) (p := 89) (args := [.int (nI (q))]) (rest := [.int (m 65 (40 * ja + q))]) m183_65 cn_132 (Nat.le_of_ble_eq_true rfl) rfl rfl rfl (t_57 _ _) (Nat.le_of_ble_eq_true rfl) ?_
          refine c_faceM hA hX0 (by omega) ((hWY.2.2 q (by omega)).2.1) (fun m3 hA3 => ?_)
          refine gwr ?_
          refine h_ic_ne (xi := _) (zi := _) m183_68 rfl rfl (fun c8 => ?_) (fun c8 => ?_)
          · skip
            refine g_iinc (L2 := [some (.ref (89)), some (.int (nI (ja))), some (.int (nI (q + 1)))]) m183_71 rfl (nI_1 _) rfl rfl ?_
            refine g_goto m183_74 ?_
            rw [run_y (p := (fun q => decide (m 65 (40 * ja + q) = faceF (rkF (m 58)) (vr (m 58)) q))) (decide_eq_true (Int32.toInt_inj.mp c8))] at hfin
            exact ih (q + 1) _ (by omega) hA3 hfin
          · skip
            rw [run_n (p := (fun q => decide (m 65 (40 * ja + q) = faceF (rkF (m 58)) (vr (m 58)) q))) (by show ¬ decide _ = true; rw [decide_eq_true_eq]; exact fun z => c8 (congrArg Int32.toInt z))] at hfin
            refine g_iload_n m183_77 rfl ?_
            refine g_aload_n m183_78 rfl ?_
            refine h_gfR (c := 90) (k := 57) (p := 89) m183_79 rfl (t_57 _ _) rfl (Nat.le_of_ble_eq_true rfl) ?_
            refine g_iconst m183_82 ?_
            refine h_ial (k := 58) (p := 90) (j := 2) m183_83 rfl (t_58 _ _) (rfl) (by omega) (Nat.le_of_ble_eq_true rfl) (hA3.r2.trans hd) ?_
            refine h_ic_ne (xi := ((q : Nat) : Int)) (zi := ((n : Nat) : Int)) m183_84 (nI_toInt (by omega)) (nI_toInt (by omega)) (fun c9 => ?_) (fun c9 => ?_)
            · skip
              refine g_iload_n m183_87 rfl ?_
              refine g_aload_n m183_88 rfl ?_
              refine h_gfR (c := 96) (k := 57) (p := 89) m183_89 rfl (t_57 _ _) rfl (Nat.le_of_ble_eq_true rfl) ?_
              refine g_iload_n m183_92 rfl ?_
              refine h_ial (k := 64) (p := 96) (j := ja) m183_93 rfl (t_64 _ _) (rfl) (by omega) (Nat.le_of_ble_eq_true rfl) ((hA3.out (by decide) (fun z => by rcases z with z | z <;> omega)).trans hBa.2.2.2) ?_
              refine h_ic_ne (xi := ((q : Nat) : Int)) (zi := ((Ln ja : Nat) : Int)) m183_94 (nI_toInt (by omega)) (nI_toInt (by omega)) (fun c10 => ?_) (fun c10 => ?_)
              · skip
                refine g_iconst m183_97 ?_
                refine g_goto m183_98 ?_
                refine g_iret m183_102 rt_183 ?_
                first | (exfalso; omega) | (have h9 := hY ja rfl (by omega) (by omega) m3 (AtY.back hA3); rw [← hfin, show endF q n (Ln ja) = -1 from if_pos ⟨by omega, by omega⟩] at h9; exact h9)
              · skip
                refine g_iload_n m183_101 rfl ?_
                refine g_iret m183_102 rt_183 ?_
                first | (exfalso; omega) | (have h9 := hY ja rfl (by omega) (by omega) m3 (AtY.back hA3); rw [← hfin, show endF q n (Ln ja) = nI q from if_neg (fun z => by omega)] at h9; exact h9)
            · skip
              refine g_iload_n m183_101 rfl ?_
              refine g_iret m183_102 rt_183 ?_
              first | (exfalso; omega) | (have h9 := hY ja rfl (by omega) (by omega) m3 (AtY.back hA3); rw [← hfin, show endF q n (Ln ja) = nI q from if_neg (fun z => by omega)] at h9; exact h9)
      exact key (min (Ln ja) n) 0 m (by omega) (AtY.self m) rfl
  · skip
    refine gwr ?_
    refine h_if_neT (xi := 0) (zi := 0) m183_4 rfl rfl (by decide) ?_
    refine g_aload_n m183_7 rfl ?_
    refine g_ldci m183_8 rfl ?_
    refine h_cv (k := 57) (p := 89) (args := [.int (-1000000001)]) (rest := []) m183_10 cn_108 (Nat.le_of_ble_eq_true rfl) rfl rfl rfl (t_57 _ _) (Nat.le_of_ble_eq_true rfl) ?_
    refine c_errs (e := 1) (by decide) (by decide) (by decide) ?_
    refine gwr ?_
    refine g_iret m183_13 rt_183 ?_
    exact hE1 (by omega)
set_option maxRecDepth 20000 in
set_option maxHeartbeats 40000000 in
theorem c_isUnder {k u : Nat} (hk : k < 7) (hu : u < 7) (hQ : Q (some (.int (if underF k u = true then 1 else 0))) h) : WP xs (d + 2) 65 0 0 [.int (nI (k)), .int (nI (u))] h Q := by
  refine wp_x mx_65 (L := [some (.int (nI (k))), some (.int (nI (u))), none, none]) (Nat.le_of_ble_eq_true rfl) rfl ?_
  rcases (show k = 0 ∨ k = 1 ∨ k = 2 ∨ k = 3 ∨ k = 4 ∨ k = 5 ∨ k = 6 by omega) with rfl | rfl | rfl | rfl | rfl | rfl | rfl
  · skip
    refine gwl (L' := [some (.int (0)), some (.int (nI (u))), none, none]) rfl ?_
    refine g_iload_n m65_0 rfl ?_
    refine g_istore_n (L2 := [some (.int (0)), some (.int (nI (u))), some (.int (0)), none]) m65_1 rfl rfl ?_
    refine g_iconst m65_2 ?_
    refine g_istore_n (L2 := [some (.int (0)), some (.int (nI (u))), some (.int (0)), some (.int (0))]) m65_3 rfl rfl ?_
    refine g_iload_n m65_4 rfl ?_
    refine g_bipush m65_5 ?_
    refine h_ic_geF (xi := 0) (zi := 7) m65_7 rfl rfl (by decide) ?_
    refine g_iload_n m65_10 rfl ?_
    refine g_bipush m65_11 ?_
    refine g_cs (args := [.int (0), .int (6)]) (rest := []) 0 (Or.inl rfl) m65_13 (Nat.le_of_ble_eq_true rfl) rfl rfl (Nat.le_of_ble_eq_true rfl) ?_
    refine c_withinI (M := 6) (vi := 0) rfl rfl (fun _ => ?_) (fun q => absurd q (by decide))
    refine gwr ?_
    refine h_if_eqF (xi := 1) (zi := 0) m65_16 rfl rfl (by decide) ?_
    refine g_iload_n m65_19 rfl ?_
    refine g_iload_n m65_20 rfl ?_
    refine h_ic_ne (xi := 0) (zi := ((u : Nat) : Int)) m65_21 rfl (nI_toInt (by omega)) (fun c1 => ?_) (fun c1 => ?_)
    · skip
      refine g_iconst m65_24 ?_
      refine g_zret m65_25 rt_65 (Or.inr rfl) ?_
      have e : underF 0 u = true := by
        rcases (show u = 0 ∨ u = 1 ∨ u = 2 ∨ u = 3 ∨ u = 4 ∨ u = 5 ∨ u = 6 by omega) with rfl | rfl | rfl | rfl | rfl | rfl | rfl <;> first | rfl | (exfalso; omega)
      rw [e] at hQ
      exact hQ
    · skip
      refine g_gst m65_26 rfl ?_
      refine g_iload_n m65_29 rfl ?_
      refine g_iald (x := (-1 : Int32)) m65_30 rfl (show vp_in (nI 0) 7 from vp_in_nI (by decide) (by decide)) (by decide +kernel) ?_
      refine g_istore_n (L2 := [some (.int (0)), some (.int (nI (u))), some (.int (-1)), some (.int (0))]) m65_31 rfl rfl ?_
      refine g_iinc (x2 := (1 : Int32)) (L2 := [some (.int (0)), some (.int (nI (u))), some (.int (-1)), some (.int (1))]) m65_32 rfl (by decide) rfl rfl ?_
      refine g_goto m65_35 ?_
      refine g_iload_n m65_4 rfl ?_
      refine g_bipush m65_5 ?_
      refine h_ic_geF (xi := 1) (zi := 7) m65_7 rfl rfl (by decide) ?_
      refine g_iload_n m65_10 rfl ?_
      refine g_bipush m65_11 ?_
      refine g_cs (args := [.int (-1), .int (6)]) (rest := []) 0 (Or.inl rfl) m65_13 (Nat.le_of_ble_eq_true rfl) rfl rfl (Nat.le_of_ble_eq_true rfl) ?_
      refine c_withinI (M := 6) (vi := -1) rfl rfl (fun q => absurd q (by decide)) (fun _ => ?_)
      refine gwr ?_
      refine h_if_eqT (xi := 0) (zi := 0) m65_16 rfl rfl (by decide) ?_
      refine g_iconst m65_38 ?_
      refine g_zret m65_39 rt_65 (Or.inl rfl) ?_
      have e : underF 0 u = false := by
        rcases (show u = 0 ∨ u = 1 ∨ u = 2 ∨ u = 3 ∨ u = 4 ∨ u = 5 ∨ u = 6 by omega) with rfl | rfl | rfl | rfl | rfl | rfl | rfl <;> first | rfl | (exfalso; omega)
      rw [e] at hQ
      exact hQ
  · skip
    refine gwl (L' := [some (.int (1)), some (.int (nI (u))), none, none]) rfl ?_
    refine g_iload_n m65_0 rfl ?_
    refine g_istore_n (L2 := [some (.int (1)), some (.int (nI (u))), some (.int (1)), none]) m65_1 rfl rfl ?_
    refine g_iconst m65_2 ?_
    refine g_istore_n (L2 := [some (.int (1)), some (.int (nI (u))), some (.int (1)), some (.int (0))]) m65_3 rfl rfl ?_
    refine g_iload_n m65_4 rfl ?_
    refine g_bipush m65_5 ?_
    refine h_ic_geF (xi := 0) (zi := 7) m65_7 rfl rfl (by decide) ?_
    refine g_iload_n m65_10 rfl ?_
    refine g_bipush m65_11 ?_
    refine g_cs (args := [.int (1), .int (6)]) (rest := []) 0 (Or.inl rfl) m65_13 (Nat.le_of_ble_eq_true rfl) rfl rfl (Nat.le_of_ble_eq_true rfl) ?_
    refine c_withinI (M := 6) (vi := 1) rfl rfl (fun _ => ?_) (fun q => absurd q (by decide))
    refine gwr ?_
    refine h_if_eqF (xi := 1) (zi := 0) m65_16 rfl rfl (by decide) ?_
    refine g_iload_n m65_19 rfl ?_
    refine g_iload_n m65_20 rfl ?_
    refine h_ic_ne (xi := 1) (zi := ((u : Nat) : Int)) m65_21 rfl (nI_toInt (by omega)) (fun c2 => ?_) (fun c2 => ?_)
    · skip
      refine g_iconst m65_24 ?_
      refine g_zret m65_25 rt_65 (Or.inr rfl) ?_
      have e : underF 1 u = true := by
        rcases (show u = 0 ∨ u = 1 ∨ u = 2 ∨ u = 3 ∨ u = 4 ∨ u = 5 ∨ u = 6 by omega) with rfl | rfl | rfl | rfl | rfl | rfl | rfl <;> first | rfl | (exfalso; omega)
      rw [e] at hQ
      exact hQ
    · skip
      refine g_gst m65_26 rfl ?_
      refine g_iload_n m65_29 rfl ?_
      refine g_iald (x := (0 : Int32)) m65_30 rfl (show vp_in (nI 1) 7 from vp_in_nI (by decide) (by decide)) (by decide +kernel) ?_
      refine g_istore_n (L2 := [some (.int (1)), some (.int (nI (u))), some (.int (0)), some (.int (0))]) m65_31 rfl rfl ?_
      refine g_iinc (x2 := (1 : Int32)) (L2 := [some (.int (1)), some (.int (nI (u))), some (.int (0)), some (.int (1))]) m65_32 rfl (by decide) rfl rfl ?_
      refine g_goto m65_35 ?_
      refine g_iload_n m65_4 rfl ?_
      refine g_bipush m65_5 ?_
      refine h_ic_geF (xi := 1) (zi := 7) m65_7 rfl rfl (by decide) ?_
      refine g_iload_n m65_10 rfl ?_
      refine g_bipush m65_11 ?_
      refine g_cs (args := [.int (0), .int (6)]) (rest := []) 0 (Or.inl rfl) m65_13 (Nat.le_of_ble_eq_true rfl) rfl rfl (Nat.le_of_ble_eq_true rfl) ?_
      refine c_withinI (M := 6) (vi := 0) rfl rfl (fun _ => ?_) (fun q => absurd q (by decide))
      refine gwr ?_
      refine h_if_eqF (xi := 1) (zi := 0) m65_16 rfl rfl (by decide) ?_
      refine g_iload_n m65_19 rfl ?_
      refine g_iload_n m65_20 rfl ?_
      refine h_ic_ne (xi := 0) (zi := ((u : Nat) : Int)) m65_21 rfl (nI_toInt (by omega)) (fun c3 => ?_) (fun c3 => ?_)
      · skip
        refine g_iconst m65_24 ?_
        refine g_zret m65_25 rt_65 (Or.inr rfl) ?_
        have e : underF 1 u = true := by
          rcases (show u = 0 ∨ u = 1 ∨ u = 2 ∨ u = 3 ∨ u = 4 ∨ u = 5 ∨ u = 6 by omega) with rfl | rfl | rfl | rfl | rfl | rfl | rfl <;> first | rfl | (exfalso; omega)
        rw [e] at hQ
        exact hQ
      · skip
        refine g_gst m65_26 rfl ?_
        refine g_iload_n m65_29 rfl ?_
        refine g_iald (x := (-1 : Int32)) m65_30 rfl (show vp_in (nI 0) 7 from vp_in_nI (by decide) (by decide)) (by decide +kernel) ?_
        refine g_istore_n (L2 := [some (.int (1)), some (.int (nI (u))), some (.int (-1)), some (.int (1))]) m65_31 rfl rfl ?_
        refine g_iinc (x2 := (2 : Int32)) (L2 := [some (.int (1)), some (.int (nI (u))), some (.int (-1)), some (.int (2))]) m65_32 rfl (by decide) rfl rfl ?_
        refine g_goto m65_35 ?_
        refine g_iload_n m65_4 rfl ?_
        refine g_bipush m65_5 ?_
        refine h_ic_geF (xi := 2) (zi := 7) m65_7 rfl rfl (by decide) ?_
        refine g_iload_n m65_10 rfl ?_
        refine g_bipush m65_11 ?_
        refine g_cs (args := [.int (-1), .int (6)]) (rest := []) 0 (Or.inl rfl) m65_13 (Nat.le_of_ble_eq_true rfl) rfl rfl (Nat.le_of_ble_eq_true rfl) ?_
        refine c_withinI (M := 6) (vi := -1) rfl rfl (fun q => absurd q (by decide)) (fun _ => ?_)
        refine gwr ?_
        refine h_if_eqT (xi := 0) (zi := 0) m65_16 rfl rfl (by decide) ?_
        refine g_iconst m65_38 ?_
        refine g_zret m65_39 rt_65 (Or.inl rfl) ?_
        have e : underF 1 u = false := by
          rcases (show u = 0 ∨ u = 1 ∨ u = 2 ∨ u = 3 ∨ u = 4 ∨ u = 5 ∨ u = 6 by omega) with rfl | rfl | rfl | rfl | rfl | rfl | rfl <;> first | rfl | (exfalso; omega)
        rw [e] at hQ
        exact hQ
  · skip
    refine gwl (L' := [some (.int (2)), some (.int (nI (u))), none, none]) rfl ?_
    refine g_iload_n m65_0 rfl ?_
    refine g_istore_n (L2 := [some (.int (2)), some (.int (nI (u))), some (.int (2)), none]) m65_1 rfl rfl ?_
    refine g_iconst m65_2 ?_
    refine g_istore_n (L2 := [some (.int (2)), some (.int (nI (u))), some (.int (2)), some (.int (0))]) m65_3 rfl rfl ?_
    refine g_iload_n m65_4 rfl ?_
    refine g_bipush m65_5 ?_
    refine h_ic_geF (xi := 0) (zi := 7) m65_7 rfl rfl (by decide) ?_
    refine g_iload_n m65_10 rfl ?_
    refine g_bipush m65_11 ?_
    refine g_cs (args := [.int (2), .int (6)]) (rest := []) 0 (Or.inl rfl) m65_13 (Nat.le_of_ble_eq_true rfl) rfl rfl (Nat.le_of_ble_eq_true rfl) ?_
    refine c_withinI (M := 6) (vi := 2) rfl rfl (fun _ => ?_) (fun q => absurd q (by decide))
    refine gwr ?_
    refine h_if_eqF (xi := 1) (zi := 0) m65_16 rfl rfl (by decide) ?_
    refine g_iload_n m65_19 rfl ?_
    refine g_iload_n m65_20 rfl ?_
    refine h_ic_ne (xi := 2) (zi := ((u : Nat) : Int)) m65_21 rfl (nI_toInt (by omega)) (fun c4 => ?_) (fun c4 => ?_)
    · skip
      refine g_iconst m65_24 ?_
      refine g_zret m65_25 rt_65 (Or.inr rfl) ?_
      have e : underF 2 u = true := by
        rcases (show u = 0 ∨ u = 1 ∨ u = 2 ∨ u = 3 ∨ u = 4 ∨ u = 5 ∨ u = 6 by omega) with rfl | rfl | rfl | rfl | rfl | rfl | rfl <;> first | rfl | (exfalso; omega)
      rw [e] at hQ
      exact hQ
    · skip
      refine g_gst m65_26 rfl ?_
      refine g_iload_n m65_29 rfl ?_
      refine g_iald (x := (0 : Int32)) m65_30 rfl (show vp_in (nI 2) 7 from vp_in_nI (by decide) (by decide)) (by decide +kernel) ?_
      refine g_istore_n (L2 := [some (.int (2)), some (.int (nI (u))), some (.int (0)), some (.int (0))]) m65_31 rfl rfl ?_
      refine g_iinc (x2 := (1 : Int32)) (L2 := [some (.int (2)), some (.int (nI (u))), some (.int (0)), some (.int (1))]) m65_32 rfl (by decide) rfl rfl ?_
      refine g_goto m65_35 ?_
      refine g_iload_n m65_4 rfl ?_
      refine g_bipush m65_5 ?_
      refine h_ic_geF (xi := 1) (zi := 7) m65_7 rfl rfl (by decide) ?_
      refine g_iload_n m65_10 rfl ?_
      refine g_bipush m65_11 ?_
      refine g_cs (args := [.int (0), .int (6)]) (rest := []) 0 (Or.inl rfl) m65_13 (Nat.le_of_ble_eq_true rfl) rfl rfl (Nat.le_of_ble_eq_true rfl) ?_
      refine c_withinI (M := 6) (vi := 0) rfl rfl (fun _ => ?_) (fun q => absurd q (by decide))
      refine gwr ?_
      refine h_if_eqF (xi := 1) (zi := 0) m65_16 rfl rfl (by decide) ?_
      refine g_iload_n m65_19 rfl ?_
      refine g_iload_n m65_20 rfl ?_
      refine h_ic_ne (xi := 0) (zi := ((u : Nat) : Int)) m65_21 rfl (nI_toInt (by omega)) (fun c5 => ?_) (fun c5 => ?_)
      · skip
        refine g_iconst m65_24 ?_
        refine g_zret m65_25 rt_65 (Or.inr rfl) ?_
        have e : underF 2 u = true := by
          rcases (show u = 0 ∨ u = 1 ∨ u = 2 ∨ u = 3 ∨ u = 4 ∨ u = 5 ∨ u = 6 by omega) with rfl | rfl | rfl | rfl | rfl | rfl | rfl <;> first | rfl | (exfalso; omega)
        rw [e] at hQ
        exact hQ
      · skip
        refine g_gst m65_26 rfl ?_
        refine g_iload_n m65_29 rfl ?_
        refine g_iald (x := (-1 : Int32)) m65_30 rfl (show vp_in (nI 0) 7 from vp_in_nI (by decide) (by decide)) (by decide +kernel) ?_
        refine g_istore_n (L2 := [some (.int (2)), some (.int (nI (u))), some (.int (-1)), some (.int (1))]) m65_31 rfl rfl ?_
        refine g_iinc (x2 := (2 : Int32)) (L2 := [some (.int (2)), some (.int (nI (u))), some (.int (-1)), some (.int (2))]) m65_32 rfl (by decide) rfl rfl ?_
        refine g_goto m65_35 ?_
        refine g_iload_n m65_4 rfl ?_
        refine g_bipush m65_5 ?_
        refine h_ic_geF (xi := 2) (zi := 7) m65_7 rfl rfl (by decide) ?_
        refine g_iload_n m65_10 rfl ?_
        refine g_bipush m65_11 ?_
        refine g_cs (args := [.int (-1), .int (6)]) (rest := []) 0 (Or.inl rfl) m65_13 (Nat.le_of_ble_eq_true rfl) rfl rfl (Nat.le_of_ble_eq_true rfl) ?_
        refine c_withinI (M := 6) (vi := -1) rfl rfl (fun q => absurd q (by decide)) (fun _ => ?_)
        refine gwr ?_
        refine h_if_eqT (xi := 0) (zi := 0) m65_16 rfl rfl (by decide) ?_
        refine g_iconst m65_38 ?_
        refine g_zret m65_39 rt_65 (Or.inl rfl) ?_
        have e : underF 2 u = false := by
          rcases (show u = 0 ∨ u = 1 ∨ u = 2 ∨ u = 3 ∨ u = 4 ∨ u = 5 ∨ u = 6 by omega) with rfl | rfl | rfl | rfl | rfl | rfl | rfl <;> first | rfl | (exfalso; omega)
        rw [e] at hQ
        exact hQ
  · skip
    refine gwl (L' := [some (.int (3)), some (.int (nI (u))), none, none]) rfl ?_
    refine g_iload_n m65_0 rfl ?_
    refine g_istore_n (L2 := [some (.int (3)), some (.int (nI (u))), some (.int (3)), none]) m65_1 rfl rfl ?_
    refine g_iconst m65_2 ?_
    refine g_istore_n (L2 := [some (.int (3)), some (.int (nI (u))), some (.int (3)), some (.int (0))]) m65_3 rfl rfl ?_
    refine g_iload_n m65_4 rfl ?_
    refine g_bipush m65_5 ?_
    refine h_ic_geF (xi := 0) (zi := 7) m65_7 rfl rfl (by decide) ?_
    refine g_iload_n m65_10 rfl ?_
    refine g_bipush m65_11 ?_
    refine g_cs (args := [.int (3), .int (6)]) (rest := []) 0 (Or.inl rfl) m65_13 (Nat.le_of_ble_eq_true rfl) rfl rfl (Nat.le_of_ble_eq_true rfl) ?_
    refine c_withinI (M := 6) (vi := 3) rfl rfl (fun _ => ?_) (fun q => absurd q (by decide))
    refine gwr ?_
    refine h_if_eqF (xi := 1) (zi := 0) m65_16 rfl rfl (by decide) ?_
    refine g_iload_n m65_19 rfl ?_
    refine g_iload_n m65_20 rfl ?_
    refine h_ic_ne (xi := 3) (zi := ((u : Nat) : Int)) m65_21 rfl (nI_toInt (by omega)) (fun c6 => ?_) (fun c6 => ?_)
    · skip
      refine g_iconst m65_24 ?_
      refine g_zret m65_25 rt_65 (Or.inr rfl) ?_
      have e : underF 3 u = true := by
        rcases (show u = 0 ∨ u = 1 ∨ u = 2 ∨ u = 3 ∨ u = 4 ∨ u = 5 ∨ u = 6 by omega) with rfl | rfl | rfl | rfl | rfl | rfl | rfl <;> first | rfl | (exfalso; omega)
      rw [e] at hQ
      exact hQ
    · skip
      refine g_gst m65_26 rfl ?_
      refine g_iload_n m65_29 rfl ?_
      refine g_iald (x := (0 : Int32)) m65_30 rfl (show vp_in (nI 3) 7 from vp_in_nI (by decide) (by decide)) (by decide +kernel) ?_
      refine g_istore_n (L2 := [some (.int (3)), some (.int (nI (u))), some (.int (0)), some (.int (0))]) m65_31 rfl rfl ?_
      refine g_iinc (x2 := (1 : Int32)) (L2 := [some (.int (3)), some (.int (nI (u))), some (.int (0)), some (.int (1))]) m65_32 rfl (by decide) rfl rfl ?_
      refine g_goto m65_35 ?_
      refine g_iload_n m65_4 rfl ?_
      refine g_bipush m65_5 ?_
      refine h_ic_geF (xi := 1) (zi := 7) m65_7 rfl rfl (by decide) ?_
      refine g_iload_n m65_10 rfl ?_
      refine g_bipush m65_11 ?_
      refine g_cs (args := [.int (0), .int (6)]) (rest := []) 0 (Or.inl rfl) m65_13 (Nat.le_of_ble_eq_true rfl) rfl rfl (Nat.le_of_ble_eq_true rfl) ?_
      refine c_withinI (M := 6) (vi := 0) rfl rfl (fun _ => ?_) (fun q => absurd q (by decide))
      refine gwr ?_
      refine h_if_eqF (xi := 1) (zi := 0) m65_16 rfl rfl (by decide) ?_
      refine g_iload_n m65_19 rfl ?_
      refine g_iload_n m65_20 rfl ?_
      refine h_ic_ne (xi := 0) (zi := ((u : Nat) : Int)) m65_21 rfl (nI_toInt (by omega)) (fun c7 => ?_) (fun c7 => ?_)
      · skip
        refine g_iconst m65_24 ?_
        refine g_zret m65_25 rt_65 (Or.inr rfl) ?_
        have e : underF 3 u = true := by
          rcases (show u = 0 ∨ u = 1 ∨ u = 2 ∨ u = 3 ∨ u = 4 ∨ u = 5 ∨ u = 6 by omega) with rfl | rfl | rfl | rfl | rfl | rfl | rfl <;> first | rfl | (exfalso; omega)
        rw [e] at hQ
        exact hQ
      · skip
        refine g_gst m65_26 rfl ?_
        refine g_iload_n m65_29 rfl ?_
        refine g_iald (x := (-1 : Int32)) m65_30 rfl (show vp_in (nI 0) 7 from vp_in_nI (by decide) (by decide)) (by decide +kernel) ?_
        refine g_istore_n (L2 := [some (.int (3)), some (.int (nI (u))), some (.int (-1)), some (.int (1))]) m65_31 rfl rfl ?_
        refine g_iinc (x2 := (2 : Int32)) (L2 := [some (.int (3)), some (.int (nI (u))), some (.int (-1)), some (.int (2))]) m65_32 rfl (by decide) rfl rfl ?_
        refine g_goto m65_35 ?_
        refine g_iload_n m65_4 rfl ?_
        refine g_bipush m65_5 ?_
        refine h_ic_geF (xi := 2) (zi := 7) m65_7 rfl rfl (by decide) ?_
        refine g_iload_n m65_10 rfl ?_
        refine g_bipush m65_11 ?_
        refine g_cs (args := [.int (-1), .int (6)]) (rest := []) 0 (Or.inl rfl) m65_13 (Nat.le_of_ble_eq_true rfl) rfl rfl (Nat.le_of_ble_eq_true rfl) ?_
        refine c_withinI (M := 6) (vi := -1) rfl rfl (fun q => absurd q (by decide)) (fun _ => ?_)
        refine gwr ?_
        refine h_if_eqT (xi := 0) (zi := 0) m65_16 rfl rfl (by decide) ?_
        refine g_iconst m65_38 ?_
        refine g_zret m65_39 rt_65 (Or.inl rfl) ?_
        have e : underF 3 u = false := by
          rcases (show u = 0 ∨ u = 1 ∨ u = 2 ∨ u = 3 ∨ u = 4 ∨ u = 5 ∨ u = 6 by omega) with rfl | rfl | rfl | rfl | rfl | rfl | rfl <;> first | rfl | (exfalso; omega)
        rw [e] at hQ
        exact hQ
  · skip
    refine gwl (L' := [some (.int (4)), some (.int (nI (u))), none, none]) rfl ?_
    refine g_iload_n m65_0 rfl ?_
    refine g_istore_n (L2 := [some (.int (4)), some (.int (nI (u))), some (.int (4)), none]) m65_1 rfl rfl ?_
    refine g_iconst m65_2 ?_
    refine g_istore_n (L2 := [some (.int (4)), some (.int (nI (u))), some (.int (4)), some (.int (0))]) m65_3 rfl rfl ?_
    refine g_iload_n m65_4 rfl ?_
    refine g_bipush m65_5 ?_
    refine h_ic_geF (xi := 0) (zi := 7) m65_7 rfl rfl (by decide) ?_
    refine g_iload_n m65_10 rfl ?_
    refine g_bipush m65_11 ?_
    refine g_cs (args := [.int (4), .int (6)]) (rest := []) 0 (Or.inl rfl) m65_13 (Nat.le_of_ble_eq_true rfl) rfl rfl (Nat.le_of_ble_eq_true rfl) ?_
    refine c_withinI (M := 6) (vi := 4) rfl rfl (fun _ => ?_) (fun q => absurd q (by decide))
    refine gwr ?_
    refine h_if_eqF (xi := 1) (zi := 0) m65_16 rfl rfl (by decide) ?_
    refine g_iload_n m65_19 rfl ?_
    refine g_iload_n m65_20 rfl ?_
    refine h_ic_ne (xi := 4) (zi := ((u : Nat) : Int)) m65_21 rfl (nI_toInt (by omega)) (fun c8 => ?_) (fun c8 => ?_)
    · skip
      refine g_iconst m65_24 ?_
      refine g_zret m65_25 rt_65 (Or.inr rfl) ?_
      have e : underF 4 u = true := by
        rcases (show u = 0 ∨ u = 1 ∨ u = 2 ∨ u = 3 ∨ u = 4 ∨ u = 5 ∨ u = 6 by omega) with rfl | rfl | rfl | rfl | rfl | rfl | rfl <;> first | rfl | (exfalso; omega)
      rw [e] at hQ
      exact hQ
    · skip
      refine g_gst m65_26 rfl ?_
      refine g_iload_n m65_29 rfl ?_
      refine g_iald (x := (1 : Int32)) m65_30 rfl (show vp_in (nI 4) 7 from vp_in_nI (by decide) (by decide)) (by decide +kernel) ?_
      refine g_istore_n (L2 := [some (.int (4)), some (.int (nI (u))), some (.int (1)), some (.int (0))]) m65_31 rfl rfl ?_
      refine g_iinc (x2 := (1 : Int32)) (L2 := [some (.int (4)), some (.int (nI (u))), some (.int (1)), some (.int (1))]) m65_32 rfl (by decide) rfl rfl ?_
      refine g_goto m65_35 ?_
      refine g_iload_n m65_4 rfl ?_
      refine g_bipush m65_5 ?_
      refine h_ic_geF (xi := 1) (zi := 7) m65_7 rfl rfl (by decide) ?_
      refine g_iload_n m65_10 rfl ?_
      refine g_bipush m65_11 ?_
      refine g_cs (args := [.int (1), .int (6)]) (rest := []) 0 (Or.inl rfl) m65_13 (Nat.le_of_ble_eq_true rfl) rfl rfl (Nat.le_of_ble_eq_true rfl) ?_
      refine c_withinI (M := 6) (vi := 1) rfl rfl (fun _ => ?_) (fun q => absurd q (by decide))
      refine gwr ?_
      refine h_if_eqF (xi := 1) (zi := 0) m65_16 rfl rfl (by decide) ?_
      refine g_iload_n m65_19 rfl ?_
      refine g_iload_n m65_20 rfl ?_
      refine h_ic_ne (xi := 1) (zi := ((u : Nat) : Int)) m65_21 rfl (nI_toInt (by omega)) (fun c9 => ?_) (fun c9 => ?_)
      · skip
        refine g_iconst m65_24 ?_
        refine g_zret m65_25 rt_65 (Or.inr rfl) ?_
        have e : underF 4 u = true := by
          rcases (show u = 0 ∨ u = 1 ∨ u = 2 ∨ u = 3 ∨ u = 4 ∨ u = 5 ∨ u = 6 by omega) with rfl | rfl | rfl | rfl | rfl | rfl | rfl <;> first | rfl | (exfalso; omega)
        rw [e] at hQ
        exact hQ
      · skip
        refine g_gst m65_26 rfl ?_
        refine g_iload_n m65_29 rfl ?_
        refine g_iald (x := (0 : Int32)) m65_30 rfl (show vp_in (nI 1) 7 from vp_in_nI (by decide) (by decide)) (by decide +kernel) ?_
        refine g_istore_n (L2 := [some (.int (4)), some (.int (nI (u))), some (.int (0)), some (.int (1))]) m65_31 rfl rfl ?_
        refine g_iinc (x2 := (2 : Int32)) (L2 := [some (.int (4)), some (.int (nI (u))), some (.int (0)), some (.int (2))]) m65_32 rfl (by decide) rfl rfl ?_
        refine g_goto m65_35 ?_
        refine g_iload_n m65_4 rfl ?_
        refine g_bipush m65_5 ?_
        refine h_ic_geF (xi := 2) (zi := 7) m65_7 rfl rfl (by decide) ?_
        refine g_iload_n m65_10 rfl ?_
        refine g_bipush m65_11 ?_
        refine g_cs (args := [.int (0), .int (6)]) (rest := []) 0 (Or.inl rfl) m65_13 (Nat.le_of_ble_eq_true rfl) rfl rfl (Nat.le_of_ble_eq_true rfl) ?_
        refine c_withinI (M := 6) (vi := 0) rfl rfl (fun _ => ?_) (fun q => absurd q (by decide))
        refine gwr ?_
        refine h_if_eqF (xi := 1) (zi := 0) m65_16 rfl rfl (by decide) ?_
        refine g_iload_n m65_19 rfl ?_
        refine g_iload_n m65_20 rfl ?_
        refine h_ic_ne (xi := 0) (zi := ((u : Nat) : Int)) m65_21 rfl (nI_toInt (by omega)) (fun c10 => ?_) (fun c10 => ?_)
        · skip
          refine g_iconst m65_24 ?_
          refine g_zret m65_25 rt_65 (Or.inr rfl) ?_
          have e : underF 4 u = true := by
            rcases (show u = 0 ∨ u = 1 ∨ u = 2 ∨ u = 3 ∨ u = 4 ∨ u = 5 ∨ u = 6 by omega) with rfl | rfl | rfl | rfl | rfl | rfl | rfl <;> first | rfl | (exfalso; omega)
          rw [e] at hQ
          exact hQ
        · skip
          refine g_gst m65_26 rfl ?_
          refine g_iload_n m65_29 rfl ?_
          refine g_iald (x := (-1 : Int32)) m65_30 rfl (show vp_in (nI 0) 7 from vp_in_nI (by decide) (by decide)) (by decide +kernel) ?_
          refine g_istore_n (L2 := [some (.int (4)), some (.int (nI (u))), some (.int (-1)), some (.int (2))]) m65_31 rfl rfl ?_
          refine g_iinc (x2 := (3 : Int32)) (L2 := [some (.int (4)), some (.int (nI (u))), some (.int (-1)), some (.int (3))]) m65_32 rfl (by decide) rfl rfl ?_
          refine g_goto m65_35 ?_
          refine g_iload_n m65_4 rfl ?_
          refine g_bipush m65_5 ?_
          refine h_ic_geF (xi := 3) (zi := 7) m65_7 rfl rfl (by decide) ?_
          refine g_iload_n m65_10 rfl ?_
          refine g_bipush m65_11 ?_
          refine g_cs (args := [.int (-1), .int (6)]) (rest := []) 0 (Or.inl rfl) m65_13 (Nat.le_of_ble_eq_true rfl) rfl rfl (Nat.le_of_ble_eq_true rfl) ?_
          refine c_withinI (M := 6) (vi := -1) rfl rfl (fun q => absurd q (by decide)) (fun _ => ?_)
          refine gwr ?_
          refine h_if_eqT (xi := 0) (zi := 0) m65_16 rfl rfl (by decide) ?_
          refine g_iconst m65_38 ?_
          refine g_zret m65_39 rt_65 (Or.inl rfl) ?_
          have e : underF 4 u = false := by
            rcases (show u = 0 ∨ u = 1 ∨ u = 2 ∨ u = 3 ∨ u = 4 ∨ u = 5 ∨ u = 6 by omega) with rfl | rfl | rfl | rfl | rfl | rfl | rfl <;> first | rfl | (exfalso; omega)
          rw [e] at hQ
          exact hQ
  · skip
    refine gwl (L' := [some (.int (5)), some (.int (nI (u))), none, none]) rfl ?_
    refine g_iload_n m65_0 rfl ?_
    refine g_istore_n (L2 := [some (.int (5)), some (.int (nI (u))), some (.int (5)), none]) m65_1 rfl rfl ?_
    refine g_iconst m65_2 ?_
    refine g_istore_n (L2 := [some (.int (5)), some (.int (nI (u))), some (.int (5)), some (.int (0))]) m65_3 rfl rfl ?_
    refine g_iload_n m65_4 rfl ?_
    refine g_bipush m65_5 ?_
    refine h_ic_geF (xi := 0) (zi := 7) m65_7 rfl rfl (by decide) ?_
    refine g_iload_n m65_10 rfl ?_
    refine g_bipush m65_11 ?_
    refine g_cs (args := [.int (5), .int (6)]) (rest := []) 0 (Or.inl rfl) m65_13 (Nat.le_of_ble_eq_true rfl) rfl rfl (Nat.le_of_ble_eq_true rfl) ?_
    refine c_withinI (M := 6) (vi := 5) rfl rfl (fun _ => ?_) (fun q => absurd q (by decide))
    refine gwr ?_
    refine h_if_eqF (xi := 1) (zi := 0) m65_16 rfl rfl (by decide) ?_
    refine g_iload_n m65_19 rfl ?_
    refine g_iload_n m65_20 rfl ?_
    refine h_ic_ne (xi := 5) (zi := ((u : Nat) : Int)) m65_21 rfl (nI_toInt (by omega)) (fun c11 => ?_) (fun c11 => ?_)
    · skip
      refine g_iconst m65_24 ?_
      refine g_zret m65_25 rt_65 (Or.inr rfl) ?_
      have e : underF 5 u = true := by
        rcases (show u = 0 ∨ u = 1 ∨ u = 2 ∨ u = 3 ∨ u = 4 ∨ u = 5 ∨ u = 6 by omega) with rfl | rfl | rfl | rfl | rfl | rfl | rfl <;> first | rfl | (exfalso; omega)
      rw [e] at hQ
      exact hQ
    · skip
      refine g_gst m65_26 rfl ?_
      refine g_iload_n m65_29 rfl ?_
      refine g_iald (x := (2 : Int32)) m65_30 rfl (show vp_in (nI 5) 7 from vp_in_nI (by decide) (by decide)) (by decide +kernel) ?_
      refine g_istore_n (L2 := [some (.int (5)), some (.int (nI (u))), some (.int (2)), some (.int (0))]) m65_31 rfl rfl ?_
      refine g_iinc (x2 := (1 : Int32)) (L2 := [some (.int (5)), some (.int (nI (u))), some (.int (2)), some (.int (1))]) m65_32 rfl (by decide) rfl rfl ?_
      refine g_goto m65_35 ?_
      refine g_iload_n m65_4 rfl ?_
      refine g_bipush m65_5 ?_
      refine h_ic_geF (xi := 1) (zi := 7) m65_7 rfl rfl (by decide) ?_
      refine g_iload_n m65_10 rfl ?_
      refine g_bipush m65_11 ?_
      refine g_cs (args := [.int (2), .int (6)]) (rest := []) 0 (Or.inl rfl) m65_13 (Nat.le_of_ble_eq_true rfl) rfl rfl (Nat.le_of_ble_eq_true rfl) ?_
      refine c_withinI (M := 6) (vi := 2) rfl rfl (fun _ => ?_) (fun q => absurd q (by decide))
      refine gwr ?_
      refine h_if_eqF (xi := 1) (zi := 0) m65_16 rfl rfl (by decide) ?_
      refine g_iload_n m65_19 rfl ?_
      refine g_iload_n m65_20 rfl ?_
      refine h_ic_ne (xi := 2) (zi := ((u : Nat) : Int)) m65_21 rfl (nI_toInt (by omega)) (fun c12 => ?_) (fun c12 => ?_)
      · skip
        refine g_iconst m65_24 ?_
        refine g_zret m65_25 rt_65 (Or.inr rfl) ?_
        have e : underF 5 u = true := by
          rcases (show u = 0 ∨ u = 1 ∨ u = 2 ∨ u = 3 ∨ u = 4 ∨ u = 5 ∨ u = 6 by omega) with rfl | rfl | rfl | rfl | rfl | rfl | rfl <;> first | rfl | (exfalso; omega)
        rw [e] at hQ
        exact hQ
      · skip
        refine g_gst m65_26 rfl ?_
        refine g_iload_n m65_29 rfl ?_
        refine g_iald (x := (0 : Int32)) m65_30 rfl (show vp_in (nI 2) 7 from vp_in_nI (by decide) (by decide)) (by decide +kernel) ?_
        refine g_istore_n (L2 := [some (.int (5)), some (.int (nI (u))), some (.int (0)), some (.int (1))]) m65_31 rfl rfl ?_
        refine g_iinc (x2 := (2 : Int32)) (L2 := [some (.int (5)), some (.int (nI (u))), some (.int (0)), some (.int (2))]) m65_32 rfl (by decide) rfl rfl ?_
        refine g_goto m65_35 ?_
        refine g_iload_n m65_4 rfl ?_
        refine g_bipush m65_5 ?_
        refine h_ic_geF (xi := 2) (zi := 7) m65_7 rfl rfl (by decide) ?_
        refine g_iload_n m65_10 rfl ?_
        refine g_bipush m65_11 ?_
        refine g_cs (args := [.int (0), .int (6)]) (rest := []) 0 (Or.inl rfl) m65_13 (Nat.le_of_ble_eq_true rfl) rfl rfl (Nat.le_of_ble_eq_true rfl) ?_
        refine c_withinI (M := 6) (vi := 0) rfl rfl (fun _ => ?_) (fun q => absurd q (by decide))
        refine gwr ?_
        refine h_if_eqF (xi := 1) (zi := 0) m65_16 rfl rfl (by decide) ?_
        refine g_iload_n m65_19 rfl ?_
        refine g_iload_n m65_20 rfl ?_
        refine h_ic_ne (xi := 0) (zi := ((u : Nat) : Int)) m65_21 rfl (nI_toInt (by omega)) (fun c13 => ?_) (fun c13 => ?_)
        · skip
          refine g_iconst m65_24 ?_
          refine g_zret m65_25 rt_65 (Or.inr rfl) ?_
          have e : underF 5 u = true := by
            rcases (show u = 0 ∨ u = 1 ∨ u = 2 ∨ u = 3 ∨ u = 4 ∨ u = 5 ∨ u = 6 by omega) with rfl | rfl | rfl | rfl | rfl | rfl | rfl <;> first | rfl | (exfalso; omega)
          rw [e] at hQ
          exact hQ
        · skip
          refine g_gst m65_26 rfl ?_
          refine g_iload_n m65_29 rfl ?_
          refine g_iald (x := (-1 : Int32)) m65_30 rfl (show vp_in (nI 0) 7 from vp_in_nI (by decide) (by decide)) (by decide +kernel) ?_
          refine g_istore_n (L2 := [some (.int (5)), some (.int (nI (u))), some (.int (-1)), some (.int (2))]) m65_31 rfl rfl ?_
          refine g_iinc (x2 := (3 : Int32)) (L2 := [some (.int (5)), some (.int (nI (u))), some (.int (-1)), some (.int (3))]) m65_32 rfl (by decide) rfl rfl ?_
          refine g_goto m65_35 ?_
          refine g_iload_n m65_4 rfl ?_
          refine g_bipush m65_5 ?_
          refine h_ic_geF (xi := 3) (zi := 7) m65_7 rfl rfl (by decide) ?_
          refine g_iload_n m65_10 rfl ?_
          refine g_bipush m65_11 ?_
          refine g_cs (args := [.int (-1), .int (6)]) (rest := []) 0 (Or.inl rfl) m65_13 (Nat.le_of_ble_eq_true rfl) rfl rfl (Nat.le_of_ble_eq_true rfl) ?_
          refine c_withinI (M := 6) (vi := -1) rfl rfl (fun q => absurd q (by decide)) (fun _ => ?_)
          refine gwr ?_
          refine h_if_eqT (xi := 0) (zi := 0) m65_16 rfl rfl (by decide) ?_
          refine g_iconst m65_38 ?_
          refine g_zret m65_39 rt_65 (Or.inl rfl) ?_
          have e : underF 5 u = false := by
            rcases (show u = 0 ∨ u = 1 ∨ u = 2 ∨ u = 3 ∨ u = 4 ∨ u = 5 ∨ u = 6 by omega) with rfl | rfl | rfl | rfl | rfl | rfl | rfl <;> first | rfl | (exfalso; omega)
          rw [e] at hQ
          exact hQ
  · skip
    refine gwl (L' := [some (.int (6)), some (.int (nI (u))), none, none]) rfl ?_
    refine g_iload_n m65_0 rfl ?_
    refine g_istore_n (L2 := [some (.int (6)), some (.int (nI (u))), some (.int (6)), none]) m65_1 rfl rfl ?_
    refine g_iconst m65_2 ?_
    refine g_istore_n (L2 := [some (.int (6)), some (.int (nI (u))), some (.int (6)), some (.int (0))]) m65_3 rfl rfl ?_
    refine g_iload_n m65_4 rfl ?_
    refine g_bipush m65_5 ?_
    refine h_ic_geF (xi := 0) (zi := 7) m65_7 rfl rfl (by decide) ?_
    refine g_iload_n m65_10 rfl ?_
    refine g_bipush m65_11 ?_
    refine g_cs (args := [.int (6), .int (6)]) (rest := []) 0 (Or.inl rfl) m65_13 (Nat.le_of_ble_eq_true rfl) rfl rfl (Nat.le_of_ble_eq_true rfl) ?_
    refine c_withinI (M := 6) (vi := 6) rfl rfl (fun _ => ?_) (fun q => absurd q (by decide))
    refine gwr ?_
    refine h_if_eqF (xi := 1) (zi := 0) m65_16 rfl rfl (by decide) ?_
    refine g_iload_n m65_19 rfl ?_
    refine g_iload_n m65_20 rfl ?_
    refine h_ic_ne (xi := 6) (zi := ((u : Nat) : Int)) m65_21 rfl (nI_toInt (by omega)) (fun c14 => ?_) (fun c14 => ?_)
    · skip
      refine g_iconst m65_24 ?_
      refine g_zret m65_25 rt_65 (Or.inr rfl) ?_
      have e : underF 6 u = true := by
        rcases (show u = 0 ∨ u = 1 ∨ u = 2 ∨ u = 3 ∨ u = 4 ∨ u = 5 ∨ u = 6 by omega) with rfl | rfl | rfl | rfl | rfl | rfl | rfl <;> first | rfl | (exfalso; omega)
      rw [e] at hQ
      exact hQ
    · skip
      refine g_gst m65_26 rfl ?_
      refine g_iload_n m65_29 rfl ?_
      refine g_iald (x := (3 : Int32)) m65_30 rfl (show vp_in (nI 6) 7 from vp_in_nI (by decide) (by decide)) (by decide +kernel) ?_
      refine g_istore_n (L2 := [some (.int (6)), some (.int (nI (u))), some (.int (3)), some (.int (0))]) m65_31 rfl rfl ?_
      refine g_iinc (x2 := (1 : Int32)) (L2 := [some (.int (6)), some (.int (nI (u))), some (.int (3)), some (.int (1))]) m65_32 rfl (by decide) rfl rfl ?_
      refine g_goto m65_35 ?_
      refine g_iload_n m65_4 rfl ?_
      refine g_bipush m65_5 ?_
      refine h_ic_geF (xi := 1) (zi := 7) m65_7 rfl rfl (by decide) ?_
      refine g_iload_n m65_10 rfl ?_
      refine g_bipush m65_11 ?_
      refine g_cs (args := [.int (3), .int (6)]) (rest := []) 0 (Or.inl rfl) m65_13 (Nat.le_of_ble_eq_true rfl) rfl rfl (Nat.le_of_ble_eq_true rfl) ?_
      refine c_withinI (M := 6) (vi := 3) rfl rfl (fun _ => ?_) (fun q => absurd q (by decide))
      refine gwr ?_
      refine h_if_eqF (xi := 1) (zi := 0) m65_16 rfl rfl (by decide) ?_
      refine g_iload_n m65_19 rfl ?_
      refine g_iload_n m65_20 rfl ?_
      refine h_ic_ne (xi := 3) (zi := ((u : Nat) : Int)) m65_21 rfl (nI_toInt (by omega)) (fun c15 => ?_) (fun c15 => ?_)
      · skip
        refine g_iconst m65_24 ?_
        refine g_zret m65_25 rt_65 (Or.inr rfl) ?_
        have e : underF 6 u = true := by
          rcases (show u = 0 ∨ u = 1 ∨ u = 2 ∨ u = 3 ∨ u = 4 ∨ u = 5 ∨ u = 6 by omega) with rfl | rfl | rfl | rfl | rfl | rfl | rfl <;> first | rfl | (exfalso; omega)
        rw [e] at hQ
        exact hQ
      · skip
        refine g_gst m65_26 rfl ?_
        refine g_iload_n m65_29 rfl ?_
        refine g_iald (x := (0 : Int32)) m65_30 rfl (show vp_in (nI 3) 7 from vp_in_nI (by decide) (by decide)) (by decide +kernel) ?_
        refine g_istore_n (L2 := [some (.int (6)), some (.int (nI (u))), some (.int (0)), some (.int (1))]) m65_31 rfl rfl ?_
        refine g_iinc (x2 := (2 : Int32)) (L2 := [some (.int (6)), some (.int (nI (u))), some (.int (0)), some (.int (2))]) m65_32 rfl (by decide) rfl rfl ?_
        refine g_goto m65_35 ?_
        refine g_iload_n m65_4 rfl ?_
        refine g_bipush m65_5 ?_
        refine h_ic_geF (xi := 2) (zi := 7) m65_7 rfl rfl (by decide) ?_
        refine g_iload_n m65_10 rfl ?_
        refine g_bipush m65_11 ?_
        refine g_cs (args := [.int (0), .int (6)]) (rest := []) 0 (Or.inl rfl) m65_13 (Nat.le_of_ble_eq_true rfl) rfl rfl (Nat.le_of_ble_eq_true rfl) ?_
        refine c_withinI (M := 6) (vi := 0) rfl rfl (fun _ => ?_) (fun q => absurd q (by decide))
        refine gwr ?_
        refine h_if_eqF (xi := 1) (zi := 0) m65_16 rfl rfl (by decide) ?_
        refine g_iload_n m65_19 rfl ?_
        refine g_iload_n m65_20 rfl ?_
        refine h_ic_ne (xi := 0) (zi := ((u : Nat) : Int)) m65_21 rfl (nI_toInt (by omega)) (fun c16 => ?_) (fun c16 => ?_)
        · skip
          refine g_iconst m65_24 ?_
          refine g_zret m65_25 rt_65 (Or.inr rfl) ?_
          have e : underF 6 u = true := by
            rcases (show u = 0 ∨ u = 1 ∨ u = 2 ∨ u = 3 ∨ u = 4 ∨ u = 5 ∨ u = 6 by omega) with rfl | rfl | rfl | rfl | rfl | rfl | rfl <;> first | rfl | (exfalso; omega)
          rw [e] at hQ
          exact hQ
        · skip
          refine g_gst m65_26 rfl ?_
          refine g_iload_n m65_29 rfl ?_
          refine g_iald (x := (-1 : Int32)) m65_30 rfl (show vp_in (nI 0) 7 from vp_in_nI (by decide) (by decide)) (by decide +kernel) ?_
          refine g_istore_n (L2 := [some (.int (6)), some (.int (nI (u))), some (.int (-1)), some (.int (2))]) m65_31 rfl rfl ?_
          refine g_iinc (x2 := (3 : Int32)) (L2 := [some (.int (6)), some (.int (nI (u))), some (.int (-1)), some (.int (3))]) m65_32 rfl (by decide) rfl rfl ?_
          refine g_goto m65_35 ?_
          refine g_iload_n m65_4 rfl ?_
          refine g_bipush m65_5 ?_
          refine h_ic_geF (xi := 3) (zi := 7) m65_7 rfl rfl (by decide) ?_
          refine g_iload_n m65_10 rfl ?_
          refine g_bipush m65_11 ?_
          refine g_cs (args := [.int (-1), .int (6)]) (rest := []) 0 (Or.inl rfl) m65_13 (Nat.le_of_ble_eq_true rfl) rfl rfl (Nat.le_of_ble_eq_true rfl) ?_
          refine c_withinI (M := 6) (vi := -1) rfl rfl (fun q => absurd q (by decide)) (fun _ => ?_)
          refine gwr ?_
          refine h_if_eqT (xi := 0) (zi := 0) m65_16 rfl rfl (by decide) ?_
          refine g_iconst m65_38 ?_
          refine g_zret m65_39 rt_65 (Or.inl rfl) ?_
          have e : underF 6 u = false := by
            rcases (show u = 0 ∨ u = 1 ∨ u = 2 ∨ u = 3 ∨ u = 4 ∨ u = 5 ∨ u = 6 by omega) with rfl | rfl | rfl | rfl | rfl | rfl | rfl <;> first | rfl | (exfalso; omega)
          rw [e] at hQ
          exact hQ
set_option maxRecDepth 20000 in
set_option maxHeartbeats 40000000 in
theorem x_as {a b : Int32} {n : Nat} {K : Nat → Nat} (hd : m 1 10 = nI n) (hn : n ≤ 8) (hK : ∀ i, i < 8 → K i < 7 ∧ m 3 i = nI (K i)) (hE1 : (a.toInt < 0 ∨ (n : Int) ≤ a.toInt ∨ b.toInt < 0 ∨ 6 < b.toInt) → Q (some (.int (-1000000000 - nI 1))) (H (erm m 1) ln N)) (hE5 : (∃ i k : Nat, a = nI i ∧ i < n ∧ b = nI k ∧ k ≤ 6 ∧ ¬ underF (K i) k = true) → Q (some (.int (-1000000000 - nI 5))) (H (erm m 5) ln N)) (hY : ∀ i k : Nat, a = nI i → i < n → b = nI k → k ≤ 6 → underF (K i) k = true → Q (some (.int (m 4 i))) (H m ln N)) : WP xs (d + 3) 66 0 0 [.ref (32), .int (a), .int (b)] (H m ln N) Q := by
  refine wp_x mx_66 (L := [some (.ref (32)), some (.int (a)), some (.int (b))]) (Nat.le_of_ble_eq_true rfl) rfl ?_
  refine g_aload_n m66_0 rfl ?_
  refine g_iload_n m66_1 rfl ?_
  refine h_cv (k := 0) (p := 32) (args := [.int (a)]) (rest := []) m66_2 cn_60 (Nat.le_of_ble_eq_true rfl) rfl rfl rfl (t_0 _ _) (Nat.le_of_ble_eq_true rfl) ?_
  refine c_isDiner hd hn (fun ja ea a_20 => ?_) (fun a_20 => ?_)
  · subst ea
    refine gwr ?_
    refine h_if_eqF (xi := 1) (zi := 0) m66_5 rfl rfl (by decide) ?_
    refine g_iload_n m66_8 rfl ?_
    refine g_bipush m66_9 ?_
    refine g_cs (args := [.int (b), .int (6)]) (rest := []) 0 (Or.inl rfl) m66_11 (Nat.le_of_ble_eq_true rfl) rfl rfl (Nat.le_of_ble_eq_true rfl) ?_
    refine c_within (M := 6) rfl (fun jb eb a_21 => ?_) (fun a_21 => ?_)
    · subst eb
      refine gwr ?_
      refine h_if_neF (xi := 1) (zi := 0) m66_14 rfl rfl (by decide) ?_
      refine g_aload_n m66_23 rfl ?_
      refine h_gfR (c := 33) (k := 0) (p := 32) m66_24 rfl (t_0 _ _) rfl (Nat.le_of_ble_eq_true rfl) ?_
      refine h_gfR (c := 35) (k := 1) (p := 33) m66_27 rfl (t_1 _ _) rfl (Nat.le_of_ble_eq_true rfl) ?_
      refine g_iload_n m66_30 rfl ?_
      have hja : ja < 8 := by omega
      have eka := hK ja hja
      refine h_ial (k := 3) (p := 35) (j := ja) m66_31 rfl (t_3 _ _) (rfl) (by omega) (Nat.le_of_ble_eq_true rfl) (eka.2) ?_
      refine g_iload_n m66_32 rfl ?_
      refine g_cs (args := [.int (nI (K ja)), .int (nI (jb))]) (rest := []) 0 (Or.inl rfl) m66_33 (Nat.le_of_ble_eq_true rfl) rfl rfl (Nat.le_of_ble_eq_true rfl) ?_
      refine c_isUnder eka.1 (by omega) ?_
      by_cases a_22 : underF (K ja) jb = true
      · rw [if_pos a_22]
        refine gwr ?_
        refine h_if_neF (xi := 1) (zi := 0) m66_36 rfl rfl (by decide) ?_
        refine g_aload_n m66_45 rfl ?_
        refine h_gfR (c := 33) (k := 0) (p := 32) m66_46 rfl (t_0 _ _) rfl (Nat.le_of_ble_eq_true rfl) ?_
        refine h_gfR (c := 36) (k := 1) (p := 33) m66_49 rfl (t_1 _ _) rfl (Nat.le_of_ble_eq_true rfl) ?_
        refine g_iload_n m66_52 rfl ?_
        refine h_ial (k := 4) (p := 36) (j := ja) m66_53 rfl (t_4 _ _) (rfl) (by omega) (Nat.le_of_ble_eq_true rfl) (rfl) ?_
        refine g_iret m66_54 rt_66 ?_
        exact hY ja jb rfl (by omega) rfl (by omega) a_22
      · rw [if_neg a_22]
        refine gwr ?_
        refine h_if_neT (xi := 0) (zi := 0) m66_36 rfl rfl (by decide) ?_
        refine g_aload_n m66_39 rfl ?_
        refine g_iconst m66_40 ?_
        refine h_cv (k := 0) (p := 32) (args := [.int (5)]) (rest := []) m66_41 cn_55 (Nat.le_of_ble_eq_true rfl) rfl rfl rfl (t_0 _ _) (Nat.le_of_ble_eq_true rfl) ?_
        refine c_error (e := 5) (by decide) (by decide) ?_
        refine gwr ?_
        refine g_iret m66_44 rt_66 ?_
        exact hE5 ⟨ja, jb, rfl, by omega, rfl, by omega, a_22⟩
    · skip
      refine gwr ?_
      refine h_if_neT (xi := 0) (zi := 0) m66_14 rfl rfl (by decide) ?_
      refine g_aload_n m66_17 rfl ?_
      refine g_iconst m66_18 ?_
      refine h_cv (k := 0) (p := 32) (args := [.int (1)]) (rest := []) m66_19 cn_55 (Nat.le_of_ble_eq_true rfl) rfl rfl rfl (t_0 _ _) (Nat.le_of_ble_eq_true rfl) ?_
      refine c_error (e := 1) (by decide) (by decide) ?_
      refine gwr ?_
      refine g_iret m66_22 rt_66 ?_
      exact hE1 (by omega)
  · skip
    refine gwr ?_
    refine h_if_eqT (xi := 0) (zi := 0) m66_5 rfl rfl (by decide) ?_
    refine g_aload_n m66_17 rfl ?_
    refine g_iconst m66_18 ?_
    refine h_cv (k := 0) (p := 32) (args := [.int (1)]) (rest := []) m66_19 cn_55 (Nat.le_of_ble_eq_true rfl) rfl rfl rfl (t_0 _ _) (Nat.le_of_ble_eq_true rfl) ?_
    refine c_error (e := 1) (by decide) (by decide) ?_
    refine gwr ?_
    refine g_iret m66_22 rt_66 ?_
    exact hE1 (by omega)
set_option maxRecDepth 20000 in
set_option maxHeartbeats 40000000 in
theorem m_as {a b : Int32} {n : Nat} {K : Nat → Nat} (hd : m 58 2 = nI n) (hn : n ≤ 8) (hK : ∀ i, i < 8 → K i < 7 ∧ m 58 (16 + 6 * i + 0) = nI (K i)) (hE1 : (a.toInt < 0 ∨ (n : Int) ≤ a.toInt ∨ b.toInt < 0 ∨ 6 < b.toInt) → Q (some (.int (-1000000001))) (H (ers m 1) ln N)) (hE5 : (∃ i k : Nat, a = nI i ∧ i < n ∧ b = nI k ∧ k ≤ 6 ∧ ¬ underF (K i) k = true) → Q (some (.int (-1000000005))) (H (ers m 5) ln N)) (hY : ∀ i k : Nat, a = nI i → i < n → b = nI k → k ≤ 6 → underF (K i) k = true → Q (some (.int (m 58 (16 + 6 * i + 1)))) (H m ln N)) : WP xs (d + 3) 137 0 0 [.ref (89), .int (a), .int (b)] (H m ln N) Q := by
  refine wp_x mx_137 (L := [some (.ref (89)), some (.int (a)), some (.int (b)), none]) (Nat.le_of_ble_eq_true rfl) rfl ?_
  refine g_aload_n m137_0 rfl ?_
  refine g_iload_n m137_1 rfl ?_
  refine h_cv (k := 57) (p := 89) (args := [.int (a)]) (rest := []) m137_2 cn_113 (Nat.le_of_ble_eq_true rfl) rfl rfl rfl (t_57 _ _) (Nat.le_of_ble_eq_true rfl) ?_
  refine c_isDinerM hd hn (fun ja ea a_23 => ?_) (fun a_23 => ?_)
  · subst ea
    refine gwr ?_
    refine h_if_eqF (xi := 1) (zi := 0) m137_5 rfl rfl (by decide) ?_
    refine g_iload_n m137_8 rfl ?_
    refine g_iconst m137_9 ?_
    refine g_bipush m137_10 ?_
    refine g_cs (args := [.int (b), .int (0), .int (6)]) (rest := []) 0 (Or.inl rfl) m137_12 (Nat.le_of_ble_eq_true rfl) rfl rfl (Nat.le_of_ble_eq_true rfl) ?_
    refine c_in (A := 0) (B := 6) rfl rfl (by decide) (fun jb eb a_24 a_24' => ?_) (fun a_24 => ?_)
    · subst eb
      refine gwr ?_
      refine h_if_neF (xi := 1) (zi := 0) m137_15 rfl rfl (by decide) ?_
      refine g_aload_n m137_25 rfl ?_
      refine g_iload_n m137_26 rfl ?_
      refine g_iconst m137_27 ?_
      refine h_cv (k := 57) (p := 89) (args := [.int (nI (ja)), .int (0)]) (rest := []) m137_28 cn_111 (Nat.le_of_ble_eq_true rfl) rfl rfl rfl (t_57 _ _) (Nat.le_of_ble_eq_true rfl) ?_
      have hja : ja < 8 := by omega
      have eka := hK ja hja
      refine c_its (w := 0) (by omega) (by decide) ?_
      rw [eka.2]
      generalize hkk : K ja = kk at eka ⊢
      have hk7 := eka.1
      rcases (show kk = 0 ∨ kk = 1 ∨ kk = 2 ∨ kk = 3 ∨ kk = 4 ∨ kk = 5 ∨ kk = 6 by omega) with rfl | rfl | rfl | rfl | rfl | rfl | rfl
      · skip
        refine gwr ?_
        refine g_istore_n (L2 := [some (.ref (89)), some (.int (nI (ja))), some (.int (nI (jb))), some (.int (nI (0)))]) m137_31 rfl rfl ?_
        refine g_iload_n m137_32 rfl ?_
        refine h_if_lt (xi := ((0 : Nat) : Int)) (zi := 0) m137_33 (nI_toInt (by omega)) rfl (fun c1 => ?_) (fun c1 => ?_)
        · skip
          refine g_iload_n m137_49 rfl ?_
          refine h_if_ge (xi := ((0 : Nat) : Int)) (zi := 0) m137_50 (nI_toInt (by omega)) rfl (fun c2 => ?_) (fun c2 => ?_)
          · skip
            refine g_aload_n m137_62 rfl ?_
            refine g_iload_n m137_63 rfl ?_
            refine g_iconst m137_64 ?_
            refine h_cv (k := 57) (p := 89) (args := [.int (nI (ja)), .int (1)]) (rest := []) m137_65 cn_111 (Nat.le_of_ble_eq_true rfl) rfl rfl rfl (t_57 _ _) (Nat.le_of_ble_eq_true rfl) ?_
            refine c_its (w := 1) (by omega) (by omega) ?_
            refine gwr ?_
            refine g_iret m137_68 rt_137 ?_
            exact hY ja jb rfl (by omega) rfl (by omega) (by rw [hkk]; rcases (show jb = 0 ∨ jb = 1 ∨ jb = 2 ∨ jb = 3 ∨ jb = 4 ∨ jb = 5 ∨ jb = 6 by omega) with rfl | rfl | rfl | rfl | rfl | rfl | rfl <;> first | rfl | (exfalso; omega))
          · skip
            refine g_aload_n m137_53 rfl ?_
            refine g_ldci m137_54 rfl ?_
            refine h_cv (k := 57) (p := 89) (args := [.int (-1000000005)]) (rest := []) m137_56 cn_108 (Nat.le_of_ble_eq_true rfl) rfl rfl rfl (t_57 _ _) (Nat.le_of_ble_eq_true rfl) ?_
            refine c_errs (e := 5) (by decide) (by decide) (by decide) ?_
            refine gwr ?_
            refine g_goto m137_59 ?_
            refine g_iret m137_68 rt_137 ?_
            exact hE5 ⟨ja, jb, rfl, by omega, rfl, by omega, by rw [hkk]; intro z; rcases (show jb = 0 ∨ jb = 1 ∨ jb = 2 ∨ jb = 3 ∨ jb = 4 ∨ jb = 5 ∨ jb = 6 by omega) with rfl | rfl | rfl | rfl | rfl | rfl | rfl <;> first | (exfalso; omega) | exact absurd z (by decide)⟩
        · skip
          refine g_iload_n m137_36 rfl ?_
          refine g_iload_n m137_37 rfl ?_
          refine h_ic_eq (xi := ((0 : Nat) : Int)) (zi := ((jb : Nat) : Int)) m137_38 (nI_toInt (by omega)) (nI_toInt (by omega)) (fun c3 => ?_) (fun c3 => ?_)
          · skip
            refine g_iload_n m137_49 rfl ?_
            refine h_if_ge (xi := ((0 : Nat) : Int)) (zi := 0) m137_50 (nI_toInt (by omega)) rfl (fun c4 => ?_) (fun c4 => ?_)
            · skip
              refine g_aload_n m137_62 rfl ?_
              refine g_iload_n m137_63 rfl ?_
              refine g_iconst m137_64 ?_
              refine h_cv (k := 57) (p := 89) (args := [.int (nI (ja)), .int (1)]) (rest := []) m137_65 cn_111 (Nat.le_of_ble_eq_true rfl) rfl rfl rfl (t_57 _ _) (Nat.le_of_ble_eq_true rfl) ?_
              refine c_its (w := 1) (by omega) (by omega) ?_
              refine gwr ?_
              refine g_iret m137_68 rt_137 ?_
              exact hY ja jb rfl (by omega) rfl (by omega) (by rw [hkk]; rcases (show jb = 0 ∨ jb = 1 ∨ jb = 2 ∨ jb = 3 ∨ jb = 4 ∨ jb = 5 ∨ jb = 6 by omega) with rfl | rfl | rfl | rfl | rfl | rfl | rfl <;> first | rfl | (exfalso; omega))
            · skip
              refine g_aload_n m137_53 rfl ?_
              refine g_ldci m137_54 rfl ?_
              refine h_cv (k := 57) (p := 89) (args := [.int (-1000000005)]) (rest := []) m137_56 cn_108 (Nat.le_of_ble_eq_true rfl) rfl rfl rfl (t_57 _ _) (Nat.le_of_ble_eq_true rfl) ?_
              refine c_errs (e := 5) (by decide) (by decide) (by decide) ?_
              refine gwr ?_
              refine g_goto m137_59 ?_
              refine g_iret m137_68 rt_137 ?_
              exact hE5 ⟨ja, jb, rfl, by omega, rfl, by omega, by rw [hkk]; intro z; rcases (show jb = 0 ∨ jb = 1 ∨ jb = 2 ∨ jb = 3 ∨ jb = 4 ∨ jb = 5 ∨ jb = 6 by omega) with rfl | rfl | rfl | rfl | rfl | rfl | rfl <;> first | (exfalso; omega) | exact absurd z (by decide)⟩
          · skip
            refine g_iload_n m137_41 rfl ?_
            refine g_cs (args := [.int (nI (0))]) (rest := []) 0 (Or.inl rfl) m137_42 (Nat.le_of_ble_eq_true rfl) rfl rfl (Nat.le_of_ble_eq_true rfl) ?_
            refine c_above (k := 0) (by decide) ?_
            refine gwr ?_
            refine g_istore_n (L2 := [some (.ref (89)), some (.int (nI (ja))), some (.int (nI (jb))), some (.int (-1))]) m137_45 rfl rfl ?_
            refine g_goto m137_46 ?_
            refine g_iload_n m137_32 rfl ?_
            refine h_if_ltT (xi := (-1)) (zi := 0) m137_33 rfl rfl (by decide) ?_
            refine g_iload_n m137_49 rfl ?_
            refine h_if_geF (xi := (-1)) (zi := 0) m137_50 rfl rfl (by decide) ?_
            refine g_aload_n m137_53 rfl ?_
            refine g_ldci m137_54 rfl ?_
            refine h_cv (k := 57) (p := 89) (args := [.int (-1000000005)]) (rest := []) m137_56 cn_108 (Nat.le_of_ble_eq_true rfl) rfl rfl rfl (t_57 _ _) (Nat.le_of_ble_eq_true rfl) ?_
            refine c_errs (e := 5) (by decide) (by decide) (by decide) ?_
            refine gwr ?_
            refine g_goto m137_59 ?_
            refine g_iret m137_68 rt_137 ?_
            exact hE5 ⟨ja, jb, rfl, by omega, rfl, by omega, by rw [hkk]; intro z; rcases (show jb = 0 ∨ jb = 1 ∨ jb = 2 ∨ jb = 3 ∨ jb = 4 ∨ jb = 5 ∨ jb = 6 by omega) with rfl | rfl | rfl | rfl | rfl | rfl | rfl <;> first | (exfalso; omega) | exact absurd z (by decide)⟩
      · skip
        refine gwr ?_
        refine g_istore_n (L2 := [some (.ref (89)), some (.int (nI (ja))), some (.int (nI (jb))), some (.int (nI (1)))]) m137_31 rfl rfl ?_
        refine g_iload_n m137_32 rfl ?_
        refine h_if_lt (xi := ((1 : Nat) : Int)) (zi := 0) m137_33 (nI_toInt (by omega)) rfl (fun c5 => ?_) (fun c5 => ?_)
        · skip
          refine g_iload_n m137_49 rfl ?_
          refine h_if_ge (xi := ((1 : Nat) : Int)) (zi := 0) m137_50 (nI_toInt (by omega)) rfl (fun c6 => ?_) (fun c6 => ?_)
          · skip
            refine g_aload_n m137_62 rfl ?_
            refine g_iload_n m137_63 rfl ?_
            refine g_iconst m137_64 ?_
            refine h_cv (k := 57) (p := 89) (args := [.int (nI (ja)), .int (1)]) (rest := []) m137_65 cn_111 (Nat.le_of_ble_eq_true rfl) rfl rfl rfl (t_57 _ _) (Nat.le_of_ble_eq_true rfl) ?_
            refine c_its (w := 1) (by omega) (by omega) ?_
            refine gwr ?_
            refine g_iret m137_68 rt_137 ?_
            exact hY ja jb rfl (by omega) rfl (by omega) (by rw [hkk]; rcases (show jb = 0 ∨ jb = 1 ∨ jb = 2 ∨ jb = 3 ∨ jb = 4 ∨ jb = 5 ∨ jb = 6 by omega) with rfl | rfl | rfl | rfl | rfl | rfl | rfl <;> first | rfl | (exfalso; omega))
          · skip
            refine g_aload_n m137_53 rfl ?_
            refine g_ldci m137_54 rfl ?_
            refine h_cv (k := 57) (p := 89) (args := [.int (-1000000005)]) (rest := []) m137_56 cn_108 (Nat.le_of_ble_eq_true rfl) rfl rfl rfl (t_57 _ _) (Nat.le_of_ble_eq_true rfl) ?_
            refine c_errs (e := 5) (by decide) (by decide) (by decide) ?_
            refine gwr ?_
            refine g_goto m137_59 ?_
            refine g_iret m137_68 rt_137 ?_
            exact hE5 ⟨ja, jb, rfl, by omega, rfl, by omega, by rw [hkk]; intro z; rcases (show jb = 0 ∨ jb = 1 ∨ jb = 2 ∨ jb = 3 ∨ jb = 4 ∨ jb = 5 ∨ jb = 6 by omega) with rfl | rfl | rfl | rfl | rfl | rfl | rfl <;> first | (exfalso; omega) | exact absurd z (by decide)⟩
        · skip
          refine g_iload_n m137_36 rfl ?_
          refine g_iload_n m137_37 rfl ?_
          refine h_ic_eq (xi := ((1 : Nat) : Int)) (zi := ((jb : Nat) : Int)) m137_38 (nI_toInt (by omega)) (nI_toInt (by omega)) (fun c7 => ?_) (fun c7 => ?_)
          · skip
            refine g_iload_n m137_49 rfl ?_
            refine h_if_ge (xi := ((1 : Nat) : Int)) (zi := 0) m137_50 (nI_toInt (by omega)) rfl (fun c8 => ?_) (fun c8 => ?_)
            · skip
              refine g_aload_n m137_62 rfl ?_
              refine g_iload_n m137_63 rfl ?_
              refine g_iconst m137_64 ?_
              refine h_cv (k := 57) (p := 89) (args := [.int (nI (ja)), .int (1)]) (rest := []) m137_65 cn_111 (Nat.le_of_ble_eq_true rfl) rfl rfl rfl (t_57 _ _) (Nat.le_of_ble_eq_true rfl) ?_
              refine c_its (w := 1) (by omega) (by omega) ?_
              refine gwr ?_
              refine g_iret m137_68 rt_137 ?_
              exact hY ja jb rfl (by omega) rfl (by omega) (by rw [hkk]; rcases (show jb = 0 ∨ jb = 1 ∨ jb = 2 ∨ jb = 3 ∨ jb = 4 ∨ jb = 5 ∨ jb = 6 by omega) with rfl | rfl | rfl | rfl | rfl | rfl | rfl <;> first | rfl | (exfalso; omega))
            · skip
              refine g_aload_n m137_53 rfl ?_
              refine g_ldci m137_54 rfl ?_
              refine h_cv (k := 57) (p := 89) (args := [.int (-1000000005)]) (rest := []) m137_56 cn_108 (Nat.le_of_ble_eq_true rfl) rfl rfl rfl (t_57 _ _) (Nat.le_of_ble_eq_true rfl) ?_
              refine c_errs (e := 5) (by decide) (by decide) (by decide) ?_
              refine gwr ?_
              refine g_goto m137_59 ?_
              refine g_iret m137_68 rt_137 ?_
              exact hE5 ⟨ja, jb, rfl, by omega, rfl, by omega, by rw [hkk]; intro z; rcases (show jb = 0 ∨ jb = 1 ∨ jb = 2 ∨ jb = 3 ∨ jb = 4 ∨ jb = 5 ∨ jb = 6 by omega) with rfl | rfl | rfl | rfl | rfl | rfl | rfl <;> first | (exfalso; omega) | exact absurd z (by decide)⟩
          · skip
            refine g_iload_n m137_41 rfl ?_
            refine g_cs (args := [.int (nI (1))]) (rest := []) 0 (Or.inl rfl) m137_42 (Nat.le_of_ble_eq_true rfl) rfl rfl (Nat.le_of_ble_eq_true rfl) ?_
            refine c_above (k := 1) (by decide) ?_
            refine gwr ?_
            refine g_istore_n (L2 := [some (.ref (89)), some (.int (nI (ja))), some (.int (nI (jb))), some (.int (nI (0)))]) m137_45 rfl rfl ?_
            refine g_goto m137_46 ?_
            refine g_iload_n m137_32 rfl ?_
            refine h_if_lt (xi := ((0 : Nat) : Int)) (zi := 0) m137_33 (nI_toInt (by omega)) rfl (fun c9 => ?_) (fun c9 => ?_)
            · skip
              refine g_iload_n m137_49 rfl ?_
              refine h_if_ge (xi := ((0 : Nat) : Int)) (zi := 0) m137_50 (nI_toInt (by omega)) rfl (fun c10 => ?_) (fun c10 => ?_)
              · skip
                refine g_aload_n m137_62 rfl ?_
                refine g_iload_n m137_63 rfl ?_
                refine g_iconst m137_64 ?_
                refine h_cv (k := 57) (p := 89) (args := [.int (nI (ja)), .int (1)]) (rest := []) m137_65 cn_111 (Nat.le_of_ble_eq_true rfl) rfl rfl rfl (t_57 _ _) (Nat.le_of_ble_eq_true rfl) ?_
                refine c_its (w := 1) (by omega) (by omega) ?_
                refine gwr ?_
                refine g_iret m137_68 rt_137 ?_
                exact hY ja jb rfl (by omega) rfl (by omega) (by rw [hkk]; rcases (show jb = 0 ∨ jb = 1 ∨ jb = 2 ∨ jb = 3 ∨ jb = 4 ∨ jb = 5 ∨ jb = 6 by omega) with rfl | rfl | rfl | rfl | rfl | rfl | rfl <;> first | rfl | (exfalso; omega))
              · skip
                refine g_aload_n m137_53 rfl ?_
                refine g_ldci m137_54 rfl ?_
                refine h_cv (k := 57) (p := 89) (args := [.int (-1000000005)]) (rest := []) m137_56 cn_108 (Nat.le_of_ble_eq_true rfl) rfl rfl rfl (t_57 _ _) (Nat.le_of_ble_eq_true rfl) ?_
                refine c_errs (e := 5) (by decide) (by decide) (by decide) ?_
                refine gwr ?_
                refine g_goto m137_59 ?_
                refine g_iret m137_68 rt_137 ?_
                exact hE5 ⟨ja, jb, rfl, by omega, rfl, by omega, by rw [hkk]; intro z; rcases (show jb = 0 ∨ jb = 1 ∨ jb = 2 ∨ jb = 3 ∨ jb = 4 ∨ jb = 5 ∨ jb = 6 by omega) with rfl | rfl | rfl | rfl | rfl | rfl | rfl <;> first | (exfalso; omega) | exact absurd z (by decide)⟩
            · skip
              refine g_iload_n m137_36 rfl ?_
              refine g_iload_n m137_37 rfl ?_
              refine h_ic_eq (xi := ((0 : Nat) : Int)) (zi := ((jb : Nat) : Int)) m137_38 (nI_toInt (by omega)) (nI_toInt (by omega)) (fun c11 => ?_) (fun c11 => ?_)
              · skip
                refine g_iload_n m137_49 rfl ?_
                refine h_if_ge (xi := ((0 : Nat) : Int)) (zi := 0) m137_50 (nI_toInt (by omega)) rfl (fun c12 => ?_) (fun c12 => ?_)
                · skip
                  refine g_aload_n m137_62 rfl ?_
                  refine g_iload_n m137_63 rfl ?_
                  refine g_iconst m137_64 ?_
                  refine h_cv (k := 57) (p := 89) (args := [.int (nI (ja)), .int (1)]) (rest := []) m137_65 cn_111 (Nat.le_of_ble_eq_true rfl) rfl rfl rfl (t_57 _ _) (Nat.le_of_ble_eq_true rfl) ?_
                  refine c_its (w := 1) (by omega) (by omega) ?_
                  refine gwr ?_
                  refine g_iret m137_68 rt_137 ?_
                  exact hY ja jb rfl (by omega) rfl (by omega) (by rw [hkk]; rcases (show jb = 0 ∨ jb = 1 ∨ jb = 2 ∨ jb = 3 ∨ jb = 4 ∨ jb = 5 ∨ jb = 6 by omega) with rfl | rfl | rfl | rfl | rfl | rfl | rfl <;> first | rfl | (exfalso; omega))
                · skip
                  refine g_aload_n m137_53 rfl ?_
                  refine g_ldci m137_54 rfl ?_
                  refine h_cv (k := 57) (p := 89) (args := [.int (-1000000005)]) (rest := []) m137_56 cn_108 (Nat.le_of_ble_eq_true rfl) rfl rfl rfl (t_57 _ _) (Nat.le_of_ble_eq_true rfl) ?_
                  refine c_errs (e := 5) (by decide) (by decide) (by decide) ?_
                  refine gwr ?_
                  refine g_goto m137_59 ?_
                  refine g_iret m137_68 rt_137 ?_
                  exact hE5 ⟨ja, jb, rfl, by omega, rfl, by omega, by rw [hkk]; intro z; rcases (show jb = 0 ∨ jb = 1 ∨ jb = 2 ∨ jb = 3 ∨ jb = 4 ∨ jb = 5 ∨ jb = 6 by omega) with rfl | rfl | rfl | rfl | rfl | rfl | rfl <;> first | (exfalso; omega) | exact absurd z (by decide)⟩
              · skip
                refine g_iload_n m137_41 rfl ?_
                refine g_cs (args := [.int (nI (0))]) (rest := []) 0 (Or.inl rfl) m137_42 (Nat.le_of_ble_eq_true rfl) rfl rfl (Nat.le_of_ble_eq_true rfl) ?_
                refine c_above (k := 0) (by decide) ?_
                refine gwr ?_
                refine g_istore_n (L2 := [some (.ref (89)), some (.int (nI (ja))), some (.int (nI (jb))), some (.int (-1))]) m137_45 rfl rfl ?_
                refine g_goto m137_46 ?_
                refine g_iload_n m137_32 rfl ?_
                refine h_if_ltT (xi := (-1)) (zi := 0) m137_33 rfl rfl (by decide) ?_
                refine g_iload_n m137_49 rfl ?_
                refine h_if_geF (xi := (-1)) (zi := 0) m137_50 rfl rfl (by decide) ?_
                refine g_aload_n m137_53 rfl ?_
                refine g_ldci m137_54 rfl ?_
                refine h_cv (k := 57) (p := 89) (args := [.int (-1000000005)]) (rest := []) m137_56 cn_108 (Nat.le_of_ble_eq_true rfl) rfl rfl rfl (t_57 _ _) (Nat.le_of_ble_eq_true rfl) ?_
                refine c_errs (e := 5) (by decide) (by decide) (by decide) ?_
                refine gwr ?_
                refine g_goto m137_59 ?_
                refine g_iret m137_68 rt_137 ?_
                exact hE5 ⟨ja, jb, rfl, by omega, rfl, by omega, by rw [hkk]; intro z; rcases (show jb = 0 ∨ jb = 1 ∨ jb = 2 ∨ jb = 3 ∨ jb = 4 ∨ jb = 5 ∨ jb = 6 by omega) with rfl | rfl | rfl | rfl | rfl | rfl | rfl <;> first | (exfalso; omega) | exact absurd z (by decide)⟩
      · skip
        refine gwr ?_
        refine g_istore_n (L2 := [some (.ref (89)), some (.int (nI (ja))), some (.int (nI (jb))), some (.int (nI (2)))]) m137_31 rfl rfl ?_
        refine g_iload_n m137_32 rfl ?_
        refine h_if_lt (xi := ((2 : Nat) : Int)) (zi := 0) m137_33 (nI_toInt (by omega)) rfl (fun c13 => ?_) (fun c13 => ?_)
        · skip
          refine g_iload_n m137_49 rfl ?_
          refine h_if_ge (xi := ((2 : Nat) : Int)) (zi := 0) m137_50 (nI_toInt (by omega)) rfl (fun c14 => ?_) (fun c14 => ?_)
          · skip
            refine g_aload_n m137_62 rfl ?_
            refine g_iload_n m137_63 rfl ?_
            refine g_iconst m137_64 ?_
            refine h_cv (k := 57) (p := 89) (args := [.int (nI (ja)), .int (1)]) (rest := []) m137_65 cn_111 (Nat.le_of_ble_eq_true rfl) rfl rfl rfl (t_57 _ _) (Nat.le_of_ble_eq_true rfl) ?_
            refine c_its (w := 1) (by omega) (by omega) ?_
            refine gwr ?_
            refine g_iret m137_68 rt_137 ?_
            exact hY ja jb rfl (by omega) rfl (by omega) (by rw [hkk]; rcases (show jb = 0 ∨ jb = 1 ∨ jb = 2 ∨ jb = 3 ∨ jb = 4 ∨ jb = 5 ∨ jb = 6 by omega) with rfl | rfl | rfl | rfl | rfl | rfl | rfl <;> first | rfl | (exfalso; omega))
          · skip
            refine g_aload_n m137_53 rfl ?_
            refine g_ldci m137_54 rfl ?_
            refine h_cv (k := 57) (p := 89) (args := [.int (-1000000005)]) (rest := []) m137_56 cn_108 (Nat.le_of_ble_eq_true rfl) rfl rfl rfl (t_57 _ _) (Nat.le_of_ble_eq_true rfl) ?_
            refine c_errs (e := 5) (by decide) (by decide) (by decide) ?_
            refine gwr ?_
            refine g_goto m137_59 ?_
            refine g_iret m137_68 rt_137 ?_
            exact hE5 ⟨ja, jb, rfl, by omega, rfl, by omega, by rw [hkk]; intro z; rcases (show jb = 0 ∨ jb = 1 ∨ jb = 2 ∨ jb = 3 ∨ jb = 4 ∨ jb = 5 ∨ jb = 6 by omega) with rfl | rfl | rfl | rfl | rfl | rfl | rfl <;> first | (exfalso; omega) | exact absurd z (by decide)⟩
        · skip
          refine g_iload_n m137_36 rfl ?_
          refine g_iload_n m137_37 rfl ?_
          refine h_ic_eq (xi := ((2 : Nat) : Int)) (zi := ((jb : Nat) : Int)) m137_38 (nI_toInt (by omega)) (nI_toInt (by omega)) (fun c15 => ?_) (fun c15 => ?_)
          · skip
            refine g_iload_n m137_49 rfl ?_
            refine h_if_ge (xi := ((2 : Nat) : Int)) (zi := 0) m137_50 (nI_toInt (by omega)) rfl (fun c16 => ?_) (fun c16 => ?_)
            · skip
              refine g_aload_n m137_62 rfl ?_
              refine g_iload_n m137_63 rfl ?_
              refine g_iconst m137_64 ?_
              refine h_cv (k := 57) (p := 89) (args := [.int (nI (ja)), .int (1)]) (rest := []) m137_65 cn_111 (Nat.le_of_ble_eq_true rfl) rfl rfl rfl (t_57 _ _) (Nat.le_of_ble_eq_true rfl) ?_
              refine c_its (w := 1) (by omega) (by omega) ?_
              refine gwr ?_
              refine g_iret m137_68 rt_137 ?_
              exact hY ja jb rfl (by omega) rfl (by omega) (by rw [hkk]; rcases (show jb = 0 ∨ jb = 1 ∨ jb = 2 ∨ jb = 3 ∨ jb = 4 ∨ jb = 5 ∨ jb = 6 by omega) with rfl | rfl | rfl | rfl | rfl | rfl | rfl <;> first | rfl | (exfalso; omega))
            · skip
              refine g_aload_n m137_53 rfl ?_
              refine g_ldci m137_54 rfl ?_
              refine h_cv (k := 57) (p := 89) (args := [.int (-1000000005)]) (rest := []) m137_56 cn_108 (Nat.le_of_ble_eq_true rfl) rfl rfl rfl (t_57 _ _) (Nat.le_of_ble_eq_true rfl) ?_
              refine c_errs (e := 5) (by decide) (by decide) (by decide) ?_
              refine gwr ?_
              refine g_goto m137_59 ?_
              refine g_iret m137_68 rt_137 ?_
              exact hE5 ⟨ja, jb, rfl, by omega, rfl, by omega, by rw [hkk]; intro z; rcases (show jb = 0 ∨ jb = 1 ∨ jb = 2 ∨ jb = 3 ∨ jb = 4 ∨ jb = 5 ∨ jb = 6 by omega) with rfl | rfl | rfl | rfl | rfl | rfl | rfl <;> first | (exfalso; omega) | exact absurd z (by decide)⟩
          · skip
            refine g_iload_n m137_41 rfl ?_
            refine g_cs (args := [.int (nI (2))]) (rest := []) 0 (Or.inl rfl) m137_42 (Nat.le_of_ble_eq_true rfl) rfl rfl (Nat.le_of_ble_eq_true rfl) ?_
            refine c_above (k := 2) (by decide) ?_
            refine gwr ?_
            refine g_istore_n (L2 := [some (.ref (89)), some (.int (nI (ja))), some (.int (nI (jb))), some (.int (nI (0)))]) m137_45 rfl rfl ?_
            refine g_goto m137_46 ?_
            refine g_iload_n m137_32 rfl ?_
            refine h_if_lt (xi := ((0 : Nat) : Int)) (zi := 0) m137_33 (nI_toInt (by omega)) rfl (fun c17 => ?_) (fun c17 => ?_)
            · skip
              refine g_iload_n m137_49 rfl ?_
              refine h_if_ge (xi := ((0 : Nat) : Int)) (zi := 0) m137_50 (nI_toInt (by omega)) rfl (fun c18 => ?_) (fun c18 => ?_)
              · skip
                refine g_aload_n m137_62 rfl ?_
                refine g_iload_n m137_63 rfl ?_
                refine g_iconst m137_64 ?_
                refine h_cv (k := 57) (p := 89) (args := [.int (nI (ja)), .int (1)]) (rest := []) m137_65 cn_111 (Nat.le_of_ble_eq_true rfl) rfl rfl rfl (t_57 _ _) (Nat.le_of_ble_eq_true rfl) ?_
                refine c_its (w := 1) (by omega) (by omega) ?_
                refine gwr ?_
                refine g_iret m137_68 rt_137 ?_
                exact hY ja jb rfl (by omega) rfl (by omega) (by rw [hkk]; rcases (show jb = 0 ∨ jb = 1 ∨ jb = 2 ∨ jb = 3 ∨ jb = 4 ∨ jb = 5 ∨ jb = 6 by omega) with rfl | rfl | rfl | rfl | rfl | rfl | rfl <;> first | rfl | (exfalso; omega))
              · skip
                refine g_aload_n m137_53 rfl ?_
                refine g_ldci m137_54 rfl ?_
                refine h_cv (k := 57) (p := 89) (args := [.int (-1000000005)]) (rest := []) m137_56 cn_108 (Nat.le_of_ble_eq_true rfl) rfl rfl rfl (t_57 _ _) (Nat.le_of_ble_eq_true rfl) ?_
                refine c_errs (e := 5) (by decide) (by decide) (by decide) ?_
                refine gwr ?_
                refine g_goto m137_59 ?_
                refine g_iret m137_68 rt_137 ?_
                exact hE5 ⟨ja, jb, rfl, by omega, rfl, by omega, by rw [hkk]; intro z; rcases (show jb = 0 ∨ jb = 1 ∨ jb = 2 ∨ jb = 3 ∨ jb = 4 ∨ jb = 5 ∨ jb = 6 by omega) with rfl | rfl | rfl | rfl | rfl | rfl | rfl <;> first | (exfalso; omega) | exact absurd z (by decide)⟩
            · skip
              refine g_iload_n m137_36 rfl ?_
              refine g_iload_n m137_37 rfl ?_
              refine h_ic_eq (xi := ((0 : Nat) : Int)) (zi := ((jb : Nat) : Int)) m137_38 (nI_toInt (by omega)) (nI_toInt (by omega)) (fun c19 => ?_) (fun c19 => ?_)
              · skip
                refine g_iload_n m137_49 rfl ?_
                refine h_if_ge (xi := ((0 : Nat) : Int)) (zi := 0) m137_50 (nI_toInt (by omega)) rfl (fun c20 => ?_) (fun c20 => ?_)
                · skip
                  refine g_aload_n m137_62 rfl ?_
                  refine g_iload_n m137_63 rfl ?_
                  refine g_iconst m137_64 ?_
                  refine h_cv (k := 57) (p := 89) (args := [.int (nI (ja)), .int (1)]) (rest := []) m137_65 cn_111 (Nat.le_of_ble_eq_true rfl) rfl rfl rfl (t_57 _ _) (Nat.le_of_ble_eq_true rfl) ?_
                  refine c_its (w := 1) (by omega) (by omega) ?_
                  refine gwr ?_
                  refine g_iret m137_68 rt_137 ?_
                  exact hY ja jb rfl (by omega) rfl (by omega) (by rw [hkk]; rcases (show jb = 0 ∨ jb = 1 ∨ jb = 2 ∨ jb = 3 ∨ jb = 4 ∨ jb = 5 ∨ jb = 6 by omega) with rfl | rfl | rfl | rfl | rfl | rfl | rfl <;> first | rfl | (exfalso; omega))
                · skip
                  refine g_aload_n m137_53 rfl ?_
                  refine g_ldci m137_54 rfl ?_
                  refine h_cv (k := 57) (p := 89) (args := [.int (-1000000005)]) (rest := []) m137_56 cn_108 (Nat.le_of_ble_eq_true rfl) rfl rfl rfl (t_57 _ _) (Nat.le_of_ble_eq_true rfl) ?_
                  refine c_errs (e := 5) (by decide) (by decide) (by decide) ?_
                  refine gwr ?_
                  refine g_goto m137_59 ?_
                  refine g_iret m137_68 rt_137 ?_
                  exact hE5 ⟨ja, jb, rfl, by omega, rfl, by omega, by rw [hkk]; intro z; rcases (show jb = 0 ∨ jb = 1 ∨ jb = 2 ∨ jb = 3 ∨ jb = 4 ∨ jb = 5 ∨ jb = 6 by omega) with rfl | rfl | rfl | rfl | rfl | rfl | rfl <;> first | (exfalso; omega) | exact absurd z (by decide)⟩
              · skip
                refine g_iload_n m137_41 rfl ?_
                refine g_cs (args := [.int (nI (0))]) (rest := []) 0 (Or.inl rfl) m137_42 (Nat.le_of_ble_eq_true rfl) rfl rfl (Nat.le_of_ble_eq_true rfl) ?_
                refine c_above (k := 0) (by decide) ?_
                refine gwr ?_
                refine g_istore_n (L2 := [some (.ref (89)), some (.int (nI (ja))), some (.int (nI (jb))), some (.int (-1))]) m137_45 rfl rfl ?_
                refine g_goto m137_46 ?_
                refine g_iload_n m137_32 rfl ?_
                refine h_if_ltT (xi := (-1)) (zi := 0) m137_33 rfl rfl (by decide) ?_
                refine g_iload_n m137_49 rfl ?_
                refine h_if_geF (xi := (-1)) (zi := 0) m137_50 rfl rfl (by decide) ?_
                refine g_aload_n m137_53 rfl ?_
                refine g_ldci m137_54 rfl ?_
                refine h_cv (k := 57) (p := 89) (args := [.int (-1000000005)]) (rest := []) m137_56 cn_108 (Nat.le_of_ble_eq_true rfl) rfl rfl rfl (t_57 _ _) (Nat.le_of_ble_eq_true rfl) ?_
                refine c_errs (e := 5) (by decide) (by decide) (by decide) ?_
                refine gwr ?_
                refine g_goto m137_59 ?_
                refine g_iret m137_68 rt_137 ?_
                exact hE5 ⟨ja, jb, rfl, by omega, rfl, by omega, by rw [hkk]; intro z; rcases (show jb = 0 ∨ jb = 1 ∨ jb = 2 ∨ jb = 3 ∨ jb = 4 ∨ jb = 5 ∨ jb = 6 by omega) with rfl | rfl | rfl | rfl | rfl | rfl | rfl <;> first | (exfalso; omega) | exact absurd z (by decide)⟩
      · skip
        refine gwr ?_
        refine g_istore_n (L2 := [some (.ref (89)), some (.int (nI (ja))), some (.int (nI (jb))), some (.int (nI (3)))]) m137_31 rfl rfl ?_
        refine g_iload_n m137_32 rfl ?_
        refine h_if_lt (xi := ((3 : Nat) : Int)) (zi := 0) m137_33 (nI_toInt (by omega)) rfl (fun c21 => ?_) (fun c21 => ?_)
        · skip
          refine g_iload_n m137_49 rfl ?_
          refine h_if_ge (xi := ((3 : Nat) : Int)) (zi := 0) m137_50 (nI_toInt (by omega)) rfl (fun c22 => ?_) (fun c22 => ?_)
          · skip
            refine g_aload_n m137_62 rfl ?_
            refine g_iload_n m137_63 rfl ?_
            refine g_iconst m137_64 ?_
            refine h_cv (k := 57) (p := 89) (args := [.int (nI (ja)), .int (1)]) (rest := []) m137_65 cn_111 (Nat.le_of_ble_eq_true rfl) rfl rfl rfl (t_57 _ _) (Nat.le_of_ble_eq_true rfl) ?_
            refine c_its (w := 1) (by omega) (by omega) ?_
            refine gwr ?_
            refine g_iret m137_68 rt_137 ?_
            exact hY ja jb rfl (by omega) rfl (by omega) (by rw [hkk]; rcases (show jb = 0 ∨ jb = 1 ∨ jb = 2 ∨ jb = 3 ∨ jb = 4 ∨ jb = 5 ∨ jb = 6 by omega) with rfl | rfl | rfl | rfl | rfl | rfl | rfl <;> first | rfl | (exfalso; omega))
          · skip
            refine g_aload_n m137_53 rfl ?_
            refine g_ldci m137_54 rfl ?_
            refine h_cv (k := 57) (p := 89) (args := [.int (-1000000005)]) (rest := []) m137_56 cn_108 (Nat.le_of_ble_eq_true rfl) rfl rfl rfl (t_57 _ _) (Nat.le_of_ble_eq_true rfl) ?_
            refine c_errs (e := 5) (by decide) (by decide) (by decide) ?_
            refine gwr ?_
            refine g_goto m137_59 ?_
            refine g_iret m137_68 rt_137 ?_
            exact hE5 ⟨ja, jb, rfl, by omega, rfl, by omega, by rw [hkk]; intro z; rcases (show jb = 0 ∨ jb = 1 ∨ jb = 2 ∨ jb = 3 ∨ jb = 4 ∨ jb = 5 ∨ jb = 6 by omega) with rfl | rfl | rfl | rfl | rfl | rfl | rfl <;> first | (exfalso; omega) | exact absurd z (by decide)⟩
        · skip
          refine g_iload_n m137_36 rfl ?_
          refine g_iload_n m137_37 rfl ?_
          refine h_ic_eq (xi := ((3 : Nat) : Int)) (zi := ((jb : Nat) : Int)) m137_38 (nI_toInt (by omega)) (nI_toInt (by omega)) (fun c23 => ?_) (fun c23 => ?_)
          · skip
            refine g_iload_n m137_49 rfl ?_
            refine h_if_ge (xi := ((3 : Nat) : Int)) (zi := 0) m137_50 (nI_toInt (by omega)) rfl (fun c24 => ?_) (fun c24 => ?_)
            · skip
              refine g_aload_n m137_62 rfl ?_
              refine g_iload_n m137_63 rfl ?_
              refine g_iconst m137_64 ?_
              refine h_cv (k := 57) (p := 89) (args := [.int (nI (ja)), .int (1)]) (rest := []) m137_65 cn_111 (Nat.le_of_ble_eq_true rfl) rfl rfl rfl (t_57 _ _) (Nat.le_of_ble_eq_true rfl) ?_
              refine c_its (w := 1) (by omega) (by omega) ?_
              refine gwr ?_
              refine g_iret m137_68 rt_137 ?_
              exact hY ja jb rfl (by omega) rfl (by omega) (by rw [hkk]; rcases (show jb = 0 ∨ jb = 1 ∨ jb = 2 ∨ jb = 3 ∨ jb = 4 ∨ jb = 5 ∨ jb = 6 by omega) with rfl | rfl | rfl | rfl | rfl | rfl | rfl <;> first | rfl | (exfalso; omega))
            · skip
              refine g_aload_n m137_53 rfl ?_
              refine g_ldci m137_54 rfl ?_
              refine h_cv (k := 57) (p := 89) (args := [.int (-1000000005)]) (rest := []) m137_56 cn_108 (Nat.le_of_ble_eq_true rfl) rfl rfl rfl (t_57 _ _) (Nat.le_of_ble_eq_true rfl) ?_
              refine c_errs (e := 5) (by decide) (by decide) (by decide) ?_
              refine gwr ?_
              refine g_goto m137_59 ?_
              refine g_iret m137_68 rt_137 ?_
              exact hE5 ⟨ja, jb, rfl, by omega, rfl, by omega, by rw [hkk]; intro z; rcases (show jb = 0 ∨ jb = 1 ∨ jb = 2 ∨ jb = 3 ∨ jb = 4 ∨ jb = 5 ∨ jb = 6 by omega) with rfl | rfl | rfl | rfl | rfl | rfl | rfl <;> first | (exfalso; omega) | exact absurd z (by decide)⟩
          · skip
            refine g_iload_n m137_41 rfl ?_
            refine g_cs (args := [.int (nI (3))]) (rest := []) 0 (Or.inl rfl) m137_42 (Nat.le_of_ble_eq_true rfl) rfl rfl (Nat.le_of_ble_eq_true rfl) ?_
            refine c_above (k := 3) (by decide) ?_
            refine gwr ?_
            refine g_istore_n (L2 := [some (.ref (89)), some (.int (nI (ja))), some (.int (nI (jb))), some (.int (nI (0)))]) m137_45 rfl rfl ?_
            refine g_goto m137_46 ?_
            refine g_iload_n m137_32 rfl ?_
            refine h_if_lt (xi := ((0 : Nat) : Int)) (zi := 0) m137_33 (nI_toInt (by omega)) rfl (fun c25 => ?_) (fun c25 => ?_)
            · skip
              refine g_iload_n m137_49 rfl ?_
              refine h_if_ge (xi := ((0 : Nat) : Int)) (zi := 0) m137_50 (nI_toInt (by omega)) rfl (fun c26 => ?_) (fun c26 => ?_)
              · skip
                refine g_aload_n m137_62 rfl ?_
                refine g_iload_n m137_63 rfl ?_
                refine g_iconst m137_64 ?_
                refine h_cv (k := 57) (p := 89) (args := [.int (nI (ja)), .int (1)]) (rest := []) m137_65 cn_111 (Nat.le_of_ble_eq_true rfl) rfl rfl rfl (t_57 _ _) (Nat.le_of_ble_eq_true rfl) ?_
                refine c_its (w := 1) (by omega) (by omega) ?_
                refine gwr ?_
                refine g_iret m137_68 rt_137 ?_
                exact hY ja jb rfl (by omega) rfl (by omega) (by rw [hkk]; rcases (show jb = 0 ∨ jb = 1 ∨ jb = 2 ∨ jb = 3 ∨ jb = 4 ∨ jb = 5 ∨ jb = 6 by omega) with rfl | rfl | rfl | rfl | rfl | rfl | rfl <;> first | rfl | (exfalso; omega))
              · skip
                refine g_aload_n m137_53 rfl ?_
                refine g_ldci m137_54 rfl ?_
                refine h_cv (k := 57) (p := 89) (args := [.int (-1000000005)]) (rest := []) m137_56 cn_108 (Nat.le_of_ble_eq_true rfl) rfl rfl rfl (t_57 _ _) (Nat.le_of_ble_eq_true rfl) ?_
                refine c_errs (e := 5) (by decide) (by decide) (by decide) ?_
                refine gwr ?_
                refine g_goto m137_59 ?_
                refine g_iret m137_68 rt_137 ?_
                exact hE5 ⟨ja, jb, rfl, by omega, rfl, by omega, by rw [hkk]; intro z; rcases (show jb = 0 ∨ jb = 1 ∨ jb = 2 ∨ jb = 3 ∨ jb = 4 ∨ jb = 5 ∨ jb = 6 by omega) with rfl | rfl | rfl | rfl | rfl | rfl | rfl <;> first | (exfalso; omega) | exact absurd z (by decide)⟩
            · skip
              refine g_iload_n m137_36 rfl ?_
              refine g_iload_n m137_37 rfl ?_
              refine h_ic_eq (xi := ((0 : Nat) : Int)) (zi := ((jb : Nat) : Int)) m137_38 (nI_toInt (by omega)) (nI_toInt (by omega)) (fun c27 => ?_) (fun c27 => ?_)
              · skip
                refine g_iload_n m137_49 rfl ?_
                refine h_if_ge (xi := ((0 : Nat) : Int)) (zi := 0) m137_50 (nI_toInt (by omega)) rfl (fun c28 => ?_) (fun c28 => ?_)
                · skip
                  refine g_aload_n m137_62 rfl ?_
                  refine g_iload_n m137_63 rfl ?_
                  refine g_iconst m137_64 ?_
                  refine h_cv (k := 57) (p := 89) (args := [.int (nI (ja)), .int (1)]) (rest := []) m137_65 cn_111 (Nat.le_of_ble_eq_true rfl) rfl rfl rfl (t_57 _ _) (Nat.le_of_ble_eq_true rfl) ?_
                  refine c_its (w := 1) (by omega) (by omega) ?_
                  refine gwr ?_
                  refine g_iret m137_68 rt_137 ?_
                  exact hY ja jb rfl (by omega) rfl (by omega) (by rw [hkk]; rcases (show jb = 0 ∨ jb = 1 ∨ jb = 2 ∨ jb = 3 ∨ jb = 4 ∨ jb = 5 ∨ jb = 6 by omega) with rfl | rfl | rfl | rfl | rfl | rfl | rfl <;> first | rfl | (exfalso; omega))
                · skip
                  refine g_aload_n m137_53 rfl ?_
                  refine g_ldci m137_54 rfl ?_
                  refine h_cv (k := 57) (p := 89) (args := [.int (-1000000005)]) (rest := []) m137_56 cn_108 (Nat.le_of_ble_eq_true rfl) rfl rfl rfl (t_57 _ _) (Nat.le_of_ble_eq_true rfl) ?_
                  refine c_errs (e := 5) (by decide) (by decide) (by decide) ?_
                  refine gwr ?_
                  refine g_goto m137_59 ?_
                  refine g_iret m137_68 rt_137 ?_
                  exact hE5 ⟨ja, jb, rfl, by omega, rfl, by omega, by rw [hkk]; intro z; rcases (show jb = 0 ∨ jb = 1 ∨ jb = 2 ∨ jb = 3 ∨ jb = 4 ∨ jb = 5 ∨ jb = 6 by omega) with rfl | rfl | rfl | rfl | rfl | rfl | rfl <;> first | (exfalso; omega) | exact absurd z (by decide)⟩
              · skip
                refine g_iload_n m137_41 rfl ?_
                refine g_cs (args := [.int (nI (0))]) (rest := []) 0 (Or.inl rfl) m137_42 (Nat.le_of_ble_eq_true rfl) rfl rfl (Nat.le_of_ble_eq_true rfl) ?_
                refine c_above (k := 0) (by decide) ?_
                refine gwr ?_
                refine g_istore_n (L2 := [some (.ref (89)), some (.int (nI (ja))), some (.int (nI (jb))), some (.int (-1))]) m137_45 rfl rfl ?_
                refine g_goto m137_46 ?_
                refine g_iload_n m137_32 rfl ?_
                refine h_if_ltT (xi := (-1)) (zi := 0) m137_33 rfl rfl (by decide) ?_
                refine g_iload_n m137_49 rfl ?_
                refine h_if_geF (xi := (-1)) (zi := 0) m137_50 rfl rfl (by decide) ?_
                refine g_aload_n m137_53 rfl ?_
                refine g_ldci m137_54 rfl ?_
                refine h_cv (k := 57) (p := 89) (args := [.int (-1000000005)]) (rest := []) m137_56 cn_108 (Nat.le_of_ble_eq_true rfl) rfl rfl rfl (t_57 _ _) (Nat.le_of_ble_eq_true rfl) ?_
                refine c_errs (e := 5) (by decide) (by decide) (by decide) ?_
                refine gwr ?_
                refine g_goto m137_59 ?_
                refine g_iret m137_68 rt_137 ?_
                exact hE5 ⟨ja, jb, rfl, by omega, rfl, by omega, by rw [hkk]; intro z; rcases (show jb = 0 ∨ jb = 1 ∨ jb = 2 ∨ jb = 3 ∨ jb = 4 ∨ jb = 5 ∨ jb = 6 by omega) with rfl | rfl | rfl | rfl | rfl | rfl | rfl <;> first | (exfalso; omega) | exact absurd z (by decide)⟩
      · skip
        refine gwr ?_
        refine g_istore_n (L2 := [some (.ref (89)), some (.int (nI (ja))), some (.int (nI (jb))), some (.int (nI (4)))]) m137_31 rfl rfl ?_
        refine g_iload_n m137_32 rfl ?_
        refine h_if_lt (xi := ((4 : Nat) : Int)) (zi := 0) m137_33 (nI_toInt (by omega)) rfl (fun c29 => ?_) (fun c29 => ?_)
        · skip
          refine g_iload_n m137_49 rfl ?_
          refine h_if_ge (xi := ((4 : Nat) : Int)) (zi := 0) m137_50 (nI_toInt (by omega)) rfl (fun c30 => ?_) (fun c30 => ?_)
          · skip
            refine g_aload_n m137_62 rfl ?_
            refine g_iload_n m137_63 rfl ?_
            refine g_iconst m137_64 ?_
            refine h_cv (k := 57) (p := 89) (args := [.int (nI (ja)), .int (1)]) (rest := []) m137_65 cn_111 (Nat.le_of_ble_eq_true rfl) rfl rfl rfl (t_57 _ _) (Nat.le_of_ble_eq_true rfl) ?_
            refine c_its (w := 1) (by omega) (by omega) ?_
            refine gwr ?_
            refine g_iret m137_68 rt_137 ?_
            exact hY ja jb rfl (by omega) rfl (by omega) (by rw [hkk]; rcases (show jb = 0 ∨ jb = 1 ∨ jb = 2 ∨ jb = 3 ∨ jb = 4 ∨ jb = 5 ∨ jb = 6 by omega) with rfl | rfl | rfl | rfl | rfl | rfl | rfl <;> first | rfl | (exfalso; omega))
          · skip
            refine g_aload_n m137_53 rfl ?_
            refine g_ldci m137_54 rfl ?_
            refine h_cv (k := 57) (p := 89) (args := [.int (-1000000005)]) (rest := []) m137_56 cn_108 (Nat.le_of_ble_eq_true rfl) rfl rfl rfl (t_57 _ _) (Nat.le_of_ble_eq_true rfl) ?_
            refine c_errs (e := 5) (by decide) (by decide) (by decide) ?_
            refine gwr ?_
            refine g_goto m137_59 ?_
            refine g_iret m137_68 rt_137 ?_
            exact hE5 ⟨ja, jb, rfl, by omega, rfl, by omega, by rw [hkk]; intro z; rcases (show jb = 0 ∨ jb = 1 ∨ jb = 2 ∨ jb = 3 ∨ jb = 4 ∨ jb = 5 ∨ jb = 6 by omega) with rfl | rfl | rfl | rfl | rfl | rfl | rfl <;> first | (exfalso; omega) | exact absurd z (by decide)⟩
        · skip
          refine g_iload_n m137_36 rfl ?_
          refine g_iload_n m137_37 rfl ?_
          refine h_ic_eq (xi := ((4 : Nat) : Int)) (zi := ((jb : Nat) : Int)) m137_38 (nI_toInt (by omega)) (nI_toInt (by omega)) (fun c31 => ?_) (fun c31 => ?_)
          · skip
            refine g_iload_n m137_49 rfl ?_
            refine h_if_ge (xi := ((4 : Nat) : Int)) (zi := 0) m137_50 (nI_toInt (by omega)) rfl (fun c32 => ?_) (fun c32 => ?_)
            · skip
              refine g_aload_n m137_62 rfl ?_
              refine g_iload_n m137_63 rfl ?_
              refine g_iconst m137_64 ?_
              refine h_cv (k := 57) (p := 89) (args := [.int (nI (ja)), .int (1)]) (rest := []) m137_65 cn_111 (Nat.le_of_ble_eq_true rfl) rfl rfl rfl (t_57 _ _) (Nat.le_of_ble_eq_true rfl) ?_
              refine c_its (w := 1) (by omega) (by omega) ?_
              refine gwr ?_
              refine g_iret m137_68 rt_137 ?_
              exact hY ja jb rfl (by omega) rfl (by omega) (by rw [hkk]; rcases (show jb = 0 ∨ jb = 1 ∨ jb = 2 ∨ jb = 3 ∨ jb = 4 ∨ jb = 5 ∨ jb = 6 by omega) with rfl | rfl | rfl | rfl | rfl | rfl | rfl <;> first | rfl | (exfalso; omega))
            · skip
              refine g_aload_n m137_53 rfl ?_
              refine g_ldci m137_54 rfl ?_
              refine h_cv (k := 57) (p := 89) (args := [.int (-1000000005)]) (rest := []) m137_56 cn_108 (Nat.le_of_ble_eq_true rfl) rfl rfl rfl (t_57 _ _) (Nat.le_of_ble_eq_true rfl) ?_
              refine c_errs (e := 5) (by decide) (by decide) (by decide) ?_
              refine gwr ?_
              refine g_goto m137_59 ?_
              refine g_iret m137_68 rt_137 ?_
              exact hE5 ⟨ja, jb, rfl, by omega, rfl, by omega, by rw [hkk]; intro z; rcases (show jb = 0 ∨ jb = 1 ∨ jb = 2 ∨ jb = 3 ∨ jb = 4 ∨ jb = 5 ∨ jb = 6 by omega) with rfl | rfl | rfl | rfl | rfl | rfl | rfl <;> first | (exfalso; omega) | exact absurd z (by decide)⟩
          · skip
            refine g_iload_n m137_41 rfl ?_
            refine g_cs (args := [.int (nI (4))]) (rest := []) 0 (Or.inl rfl) m137_42 (Nat.le_of_ble_eq_true rfl) rfl rfl (Nat.le_of_ble_eq_true rfl) ?_
            refine c_above (k := 4) (by decide) ?_
            refine gwr ?_
            refine g_istore_n (L2 := [some (.ref (89)), some (.int (nI (ja))), some (.int (nI (jb))), some (.int (nI (1)))]) m137_45 rfl rfl ?_
            refine g_goto m137_46 ?_
            refine g_iload_n m137_32 rfl ?_
            refine h_if_lt (xi := ((1 : Nat) : Int)) (zi := 0) m137_33 (nI_toInt (by omega)) rfl (fun c33 => ?_) (fun c33 => ?_)
            · skip
              refine g_iload_n m137_49 rfl ?_
              refine h_if_ge (xi := ((1 : Nat) : Int)) (zi := 0) m137_50 (nI_toInt (by omega)) rfl (fun c34 => ?_) (fun c34 => ?_)
              · skip
                refine g_aload_n m137_62 rfl ?_
                refine g_iload_n m137_63 rfl ?_
                refine g_iconst m137_64 ?_
                refine h_cv (k := 57) (p := 89) (args := [.int (nI (ja)), .int (1)]) (rest := []) m137_65 cn_111 (Nat.le_of_ble_eq_true rfl) rfl rfl rfl (t_57 _ _) (Nat.le_of_ble_eq_true rfl) ?_
                refine c_its (w := 1) (by omega) (by omega) ?_
                refine gwr ?_
                refine g_iret m137_68 rt_137 ?_
                exact hY ja jb rfl (by omega) rfl (by omega) (by rw [hkk]; rcases (show jb = 0 ∨ jb = 1 ∨ jb = 2 ∨ jb = 3 ∨ jb = 4 ∨ jb = 5 ∨ jb = 6 by omega) with rfl | rfl | rfl | rfl | rfl | rfl | rfl <;> first | rfl | (exfalso; omega))
              · skip
                refine g_aload_n m137_53 rfl ?_
                refine g_ldci m137_54 rfl ?_
                refine h_cv (k := 57) (p := 89) (args := [.int (-1000000005)]) (rest := []) m137_56 cn_108 (Nat.le_of_ble_eq_true rfl) rfl rfl rfl (t_57 _ _) (Nat.le_of_ble_eq_true rfl) ?_
                refine c_errs (e := 5) (by decide) (by decide) (by decide) ?_
                refine gwr ?_
                refine g_goto m137_59 ?_
                refine g_iret m137_68 rt_137 ?_
                exact hE5 ⟨ja, jb, rfl, by omega, rfl, by omega, by rw [hkk]; intro z; rcases (show jb = 0 ∨ jb = 1 ∨ jb = 2 ∨ jb = 3 ∨ jb = 4 ∨ jb = 5 ∨ jb = 6 by omega) with rfl | rfl | rfl | rfl | rfl | rfl | rfl <;> first | (exfalso; omega) | exact absurd z (by decide)⟩
            · skip
              refine g_iload_n m137_36 rfl ?_
              refine g_iload_n m137_37 rfl ?_
              refine h_ic_eq (xi := ((1 : Nat) : Int)) (zi := ((jb : Nat) : Int)) m137_38 (nI_toInt (by omega)) (nI_toInt (by omega)) (fun c35 => ?_) (fun c35 => ?_)
              · skip
                refine g_iload_n m137_49 rfl ?_
                refine h_if_ge (xi := ((1 : Nat) : Int)) (zi := 0) m137_50 (nI_toInt (by omega)) rfl (fun c36 => ?_) (fun c36 => ?_)
                · skip
                  refine g_aload_n m137_62 rfl ?_
                  refine g_iload_n m137_63 rfl ?_
                  refine g_iconst m137_64 ?_
                  refine h_cv (k := 57) (p := 89) (args := [.int (nI (ja)), .int (1)]) (rest := []) m137_65 cn_111 (Nat.le_of_ble_eq_true rfl) rfl rfl rfl (t_57 _ _) (Nat.le_of_ble_eq_true rfl) ?_
                  refine c_its (w := 1) (by omega) (by omega) ?_
                  refine gwr ?_
                  refine g_iret m137_68 rt_137 ?_
                  exact hY ja jb rfl (by omega) rfl (by omega) (by rw [hkk]; rcases (show jb = 0 ∨ jb = 1 ∨ jb = 2 ∨ jb = 3 ∨ jb = 4 ∨ jb = 5 ∨ jb = 6 by omega) with rfl | rfl | rfl | rfl | rfl | rfl | rfl <;> first | rfl | (exfalso; omega))
                · skip
                  refine g_aload_n m137_53 rfl ?_
                  refine g_ldci m137_54 rfl ?_
                  refine h_cv (k := 57) (p := 89) (args := [.int (-1000000005)]) (rest := []) m137_56 cn_108 (Nat.le_of_ble_eq_true rfl) rfl rfl rfl (t_57 _ _) (Nat.le_of_ble_eq_true rfl) ?_
                  refine c_errs (e := 5) (by decide) (by decide) (by decide) ?_
                  refine gwr ?_
                  refine g_goto m137_59 ?_
                  refine g_iret m137_68 rt_137 ?_
                  exact hE5 ⟨ja, jb, rfl, by omega, rfl, by omega, by rw [hkk]; intro z; rcases (show jb = 0 ∨ jb = 1 ∨ jb = 2 ∨ jb = 3 ∨ jb = 4 ∨ jb = 5 ∨ jb = 6 by omega) with rfl | rfl | rfl | rfl | rfl | rfl | rfl <;> first | (exfalso; omega) | exact absurd z (by decide)⟩
              · skip
                refine g_iload_n m137_41 rfl ?_
                refine g_cs (args := [.int (nI (1))]) (rest := []) 0 (Or.inl rfl) m137_42 (Nat.le_of_ble_eq_true rfl) rfl rfl (Nat.le_of_ble_eq_true rfl) ?_
                refine c_above (k := 1) (by decide) ?_
                refine gwr ?_
                refine g_istore_n (L2 := [some (.ref (89)), some (.int (nI (ja))), some (.int (nI (jb))), some (.int (nI (0)))]) m137_45 rfl rfl ?_
                refine g_goto m137_46 ?_
                refine g_iload_n m137_32 rfl ?_
                refine h_if_lt (xi := ((0 : Nat) : Int)) (zi := 0) m137_33 (nI_toInt (by omega)) rfl (fun c37 => ?_) (fun c37 => ?_)
                · skip
                  refine g_iload_n m137_49 rfl ?_
                  refine h_if_ge (xi := ((0 : Nat) : Int)) (zi := 0) m137_50 (nI_toInt (by omega)) rfl (fun c38 => ?_) (fun c38 => ?_)
                  · skip
                    refine g_aload_n m137_62 rfl ?_
                    refine g_iload_n m137_63 rfl ?_
                    refine g_iconst m137_64 ?_
                    refine h_cv (k := 57) (p := 89) (args := [.int (nI (ja)), .int (1)]) (rest := []) m137_65 cn_111 (Nat.le_of_ble_eq_true rfl) rfl rfl rfl (t_57 _ _) (Nat.le_of_ble_eq_true rfl) ?_
                    refine c_its (w := 1) (by omega) (by omega) ?_
                    refine gwr ?_
                    refine g_iret m137_68 rt_137 ?_
                    exact hY ja jb rfl (by omega) rfl (by omega) (by rw [hkk]; rcases (show jb = 0 ∨ jb = 1 ∨ jb = 2 ∨ jb = 3 ∨ jb = 4 ∨ jb = 5 ∨ jb = 6 by omega) with rfl | rfl | rfl | rfl | rfl | rfl | rfl <;> first | rfl | (exfalso; omega))
                  · skip
                    refine g_aload_n m137_53 rfl ?_
                    refine g_ldci m137_54 rfl ?_
                    refine h_cv (k := 57) (p := 89) (args := [.int (-1000000005)]) (rest := []) m137_56 cn_108 (Nat.le_of_ble_eq_true rfl) rfl rfl rfl (t_57 _ _) (Nat.le_of_ble_eq_true rfl) ?_
                    refine c_errs (e := 5) (by decide) (by decide) (by decide) ?_
                    refine gwr ?_
                    refine g_goto m137_59 ?_
                    refine g_iret m137_68 rt_137 ?_
                    exact hE5 ⟨ja, jb, rfl, by omega, rfl, by omega, by rw [hkk]; intro z; rcases (show jb = 0 ∨ jb = 1 ∨ jb = 2 ∨ jb = 3 ∨ jb = 4 ∨ jb = 5 ∨ jb = 6 by omega) with rfl | rfl | rfl | rfl | rfl | rfl | rfl <;> first | (exfalso; omega) | exact absurd z (by decide)⟩
                · skip
                  refine g_iload_n m137_36 rfl ?_
                  refine g_iload_n m137_37 rfl ?_
                  refine h_ic_eq (xi := ((0 : Nat) : Int)) (zi := ((jb : Nat) : Int)) m137_38 (nI_toInt (by omega)) (nI_toInt (by omega)) (fun c39 => ?_) (fun c39 => ?_)
                  · skip
                    refine g_iload_n m137_49 rfl ?_
                    refine h_if_ge (xi := ((0 : Nat) : Int)) (zi := 0) m137_50 (nI_toInt (by omega)) rfl (fun c40 => ?_) (fun c40 => ?_)
                    · skip
                      refine g_aload_n m137_62 rfl ?_
                      refine g_iload_n m137_63 rfl ?_
                      refine g_iconst m137_64 ?_
                      refine h_cv (k := 57) (p := 89) (args := [.int (nI (ja)), .int (1)]) (rest := []) m137_65 cn_111 (Nat.le_of_ble_eq_true rfl) rfl rfl rfl (t_57 _ _) (Nat.le_of_ble_eq_true rfl) ?_
                      refine c_its (w := 1) (by omega) (by omega) ?_
                      refine gwr ?_
                      refine g_iret m137_68 rt_137 ?_
                      exact hY ja jb rfl (by omega) rfl (by omega) (by rw [hkk]; rcases (show jb = 0 ∨ jb = 1 ∨ jb = 2 ∨ jb = 3 ∨ jb = 4 ∨ jb = 5 ∨ jb = 6 by omega) with rfl | rfl | rfl | rfl | rfl | rfl | rfl <;> first | rfl | (exfalso; omega))
                    · skip
                      refine g_aload_n m137_53 rfl ?_
                      refine g_ldci m137_54 rfl ?_
                      refine h_cv (k := 57) (p := 89) (args := [.int (-1000000005)]) (rest := []) m137_56 cn_108 (Nat.le_of_ble_eq_true rfl) rfl rfl rfl (t_57 _ _) (Nat.le_of_ble_eq_true rfl) ?_
                      refine c_errs (e := 5) (by decide) (by decide) (by decide) ?_
                      refine gwr ?_
                      refine g_goto m137_59 ?_
                      refine g_iret m137_68 rt_137 ?_
                      exact hE5 ⟨ja, jb, rfl, by omega, rfl, by omega, by rw [hkk]; intro z; rcases (show jb = 0 ∨ jb = 1 ∨ jb = 2 ∨ jb = 3 ∨ jb = 4 ∨ jb = 5 ∨ jb = 6 by omega) with rfl | rfl | rfl | rfl | rfl | rfl | rfl <;> first | (exfalso; omega) | exact absurd z (by decide)⟩
                  · skip
                    refine g_iload_n m137_41 rfl ?_
                    refine g_cs (args := [.int (nI (0))]) (rest := []) 0 (Or.inl rfl) m137_42 (Nat.le_of_ble_eq_true rfl) rfl rfl (Nat.le_of_ble_eq_true rfl) ?_
                    refine c_above (k := 0) (by decide) ?_
                    refine gwr ?_
                    refine g_istore_n (L2 := [some (.ref (89)), some (.int (nI (ja))), some (.int (nI (jb))), some (.int (-1))]) m137_45 rfl rfl ?_
                    refine g_goto m137_46 ?_
                    refine g_iload_n m137_32 rfl ?_
                    refine h_if_ltT (xi := (-1)) (zi := 0) m137_33 rfl rfl (by decide) ?_
                    refine g_iload_n m137_49 rfl ?_
                    refine h_if_geF (xi := (-1)) (zi := 0) m137_50 rfl rfl (by decide) ?_
                    refine g_aload_n m137_53 rfl ?_
                    refine g_ldci m137_54 rfl ?_
                    refine h_cv (k := 57) (p := 89) (args := [.int (-1000000005)]) (rest := []) m137_56 cn_108 (Nat.le_of_ble_eq_true rfl) rfl rfl rfl (t_57 _ _) (Nat.le_of_ble_eq_true rfl) ?_
                    refine c_errs (e := 5) (by decide) (by decide) (by decide) ?_
                    refine gwr ?_
                    refine g_goto m137_59 ?_
                    refine g_iret m137_68 rt_137 ?_
                    exact hE5 ⟨ja, jb, rfl, by omega, rfl, by omega, by rw [hkk]; intro z; rcases (show jb = 0 ∨ jb = 1 ∨ jb = 2 ∨ jb = 3 ∨ jb = 4 ∨ jb = 5 ∨ jb = 6 by omega) with rfl | rfl | rfl | rfl | rfl | rfl | rfl <;> first | (exfalso; omega) | exact absurd z (by decide)⟩
      · skip
        refine gwr ?_
        refine g_istore_n (L2 := [some (.ref (89)), some (.int (nI (ja))), some (.int (nI (jb))), some (.int (nI (5)))]) m137_31 rfl rfl ?_
        refine g_iload_n m137_32 rfl ?_
        refine h_if_lt (xi := ((5 : Nat) : Int)) (zi := 0) m137_33 (nI_toInt (by omega)) rfl (fun c41 => ?_) (fun c41 => ?_)
        · skip
          refine g_iload_n m137_49 rfl ?_
          refine h_if_ge (xi := ((5 : Nat) : Int)) (zi := 0) m137_50 (nI_toInt (by omega)) rfl (fun c42 => ?_) (fun c42 => ?_)
          · skip
            refine g_aload_n m137_62 rfl ?_
            refine g_iload_n m137_63 rfl ?_
            refine g_iconst m137_64 ?_
            refine h_cv (k := 57) (p := 89) (args := [.int (nI (ja)), .int (1)]) (rest := []) m137_65 cn_111 (Nat.le_of_ble_eq_true rfl) rfl rfl rfl (t_57 _ _) (Nat.le_of_ble_eq_true rfl) ?_
            refine c_its (w := 1) (by omega) (by omega) ?_
            refine gwr ?_
            refine g_iret m137_68 rt_137 ?_
            exact hY ja jb rfl (by omega) rfl (by omega) (by rw [hkk]; rcases (show jb = 0 ∨ jb = 1 ∨ jb = 2 ∨ jb = 3 ∨ jb = 4 ∨ jb = 5 ∨ jb = 6 by omega) with rfl | rfl | rfl | rfl | rfl | rfl | rfl <;> first | rfl | (exfalso; omega))
          · skip
            refine g_aload_n m137_53 rfl ?_
            refine g_ldci m137_54 rfl ?_
            refine h_cv (k := 57) (p := 89) (args := [.int (-1000000005)]) (rest := []) m137_56 cn_108 (Nat.le_of_ble_eq_true rfl) rfl rfl rfl (t_57 _ _) (Nat.le_of_ble_eq_true rfl) ?_
            refine c_errs (e := 5) (by decide) (by decide) (by decide) ?_
            refine gwr ?_
            refine g_goto m137_59 ?_
            refine g_iret m137_68 rt_137 ?_
            exact hE5 ⟨ja, jb, rfl, by omega, rfl, by omega, by rw [hkk]; intro z; rcases (show jb = 0 ∨ jb = 1 ∨ jb = 2 ∨ jb = 3 ∨ jb = 4 ∨ jb = 5 ∨ jb = 6 by omega) with rfl | rfl | rfl | rfl | rfl | rfl | rfl <;> first | (exfalso; omega) | exact absurd z (by decide)⟩
        · skip
          refine g_iload_n m137_36 rfl ?_
          refine g_iload_n m137_37 rfl ?_
          refine h_ic_eq (xi := ((5 : Nat) : Int)) (zi := ((jb : Nat) : Int)) m137_38 (nI_toInt (by omega)) (nI_toInt (by omega)) (fun c43 => ?_) (fun c43 => ?_)
          · skip
            refine g_iload_n m137_49 rfl ?_
            refine h_if_ge (xi := ((5 : Nat) : Int)) (zi := 0) m137_50 (nI_toInt (by omega)) rfl (fun c44 => ?_) (fun c44 => ?_)
            · skip
              refine g_aload_n m137_62 rfl ?_
              refine g_iload_n m137_63 rfl ?_
              refine g_iconst m137_64 ?_
              refine h_cv (k := 57) (p := 89) (args := [.int (nI (ja)), .int (1)]) (rest := []) m137_65 cn_111 (Nat.le_of_ble_eq_true rfl) rfl rfl rfl (t_57 _ _) (Nat.le_of_ble_eq_true rfl) ?_
              refine c_its (w := 1) (by omega) (by omega) ?_
              refine gwr ?_
              refine g_iret m137_68 rt_137 ?_
              exact hY ja jb rfl (by omega) rfl (by omega) (by rw [hkk]; rcases (show jb = 0 ∨ jb = 1 ∨ jb = 2 ∨ jb = 3 ∨ jb = 4 ∨ jb = 5 ∨ jb = 6 by omega) with rfl | rfl | rfl | rfl | rfl | rfl | rfl <;> first | rfl | (exfalso; omega))
            · skip
              refine g_aload_n m137_53 rfl ?_
              refine g_ldci m137_54 rfl ?_
              refine h_cv (k := 57) (p := 89) (args := [.int (-1000000005)]) (rest := []) m137_56 cn_108 (Nat.le_of_ble_eq_true rfl) rfl rfl rfl (t_57 _ _) (Nat.le_of_ble_eq_true rfl) ?_
              refine c_errs (e := 5) (by decide) (by decide) (by decide) ?_
              refine gwr ?_
              refine g_goto m137_59 ?_
              refine g_iret m137_68 rt_137 ?_
              exact hE5 ⟨ja, jb, rfl, by omega, rfl, by omega, by rw [hkk]; intro z; rcases (show jb = 0 ∨ jb = 1 ∨ jb = 2 ∨ jb = 3 ∨ jb = 4 ∨ jb = 5 ∨ jb = 6 by omega) with rfl | rfl | rfl | rfl | rfl | rfl | rfl <;> first | (exfalso; omega) | exact absurd z (by decide)⟩
          · skip
            refine g_iload_n m137_41 rfl ?_
            refine g_cs (args := [.int (nI (5))]) (rest := []) 0 (Or.inl rfl) m137_42 (Nat.le_of_ble_eq_true rfl) rfl rfl (Nat.le_of_ble_eq_true rfl) ?_
            refine c_above (k := 5) (by decide) ?_
            refine gwr ?_
            refine g_istore_n (L2 := [some (.ref (89)), some (.int (nI (ja))), some (.int (nI (jb))), some (.int (nI (2)))]) m137_45 rfl rfl ?_
            refine g_goto m137_46 ?_
            refine g_iload_n m137_32 rfl ?_
            refine h_if_lt (xi := ((2 : Nat) : Int)) (zi := 0) m137_33 (nI_toInt (by omega)) rfl (fun c45 => ?_) (fun c45 => ?_)
            · skip
              refine g_iload_n m137_49 rfl ?_
              refine h_if_ge (xi := ((2 : Nat) : Int)) (zi := 0) m137_50 (nI_toInt (by omega)) rfl (fun c46 => ?_) (fun c46 => ?_)
              · skip
                refine g_aload_n m137_62 rfl ?_
                refine g_iload_n m137_63 rfl ?_
                refine g_iconst m137_64 ?_
                refine h_cv (k := 57) (p := 89) (args := [.int (nI (ja)), .int (1)]) (rest := []) m137_65 cn_111 (Nat.le_of_ble_eq_true rfl) rfl rfl rfl (t_57 _ _) (Nat.le_of_ble_eq_true rfl) ?_
                refine c_its (w := 1) (by omega) (by omega) ?_
                refine gwr ?_
                refine g_iret m137_68 rt_137 ?_
                exact hY ja jb rfl (by omega) rfl (by omega) (by rw [hkk]; rcases (show jb = 0 ∨ jb = 1 ∨ jb = 2 ∨ jb = 3 ∨ jb = 4 ∨ jb = 5 ∨ jb = 6 by omega) with rfl | rfl | rfl | rfl | rfl | rfl | rfl <;> first | rfl | (exfalso; omega))
              · skip
                refine g_aload_n m137_53 rfl ?_
                refine g_ldci m137_54 rfl ?_
                refine h_cv (k := 57) (p := 89) (args := [.int (-1000000005)]) (rest := []) m137_56 cn_108 (Nat.le_of_ble_eq_true rfl) rfl rfl rfl (t_57 _ _) (Nat.le_of_ble_eq_true rfl) ?_
                refine c_errs (e := 5) (by decide) (by decide) (by decide) ?_
                refine gwr ?_
                refine g_goto m137_59 ?_
                refine g_iret m137_68 rt_137 ?_
                exact hE5 ⟨ja, jb, rfl, by omega, rfl, by omega, by rw [hkk]; intro z; rcases (show jb = 0 ∨ jb = 1 ∨ jb = 2 ∨ jb = 3 ∨ jb = 4 ∨ jb = 5 ∨ jb = 6 by omega) with rfl | rfl | rfl | rfl | rfl | rfl | rfl <;> first | (exfalso; omega) | exact absurd z (by decide)⟩
            · skip
              refine g_iload_n m137_36 rfl ?_
              refine g_iload_n m137_37 rfl ?_
              refine h_ic_eq (xi := ((2 : Nat) : Int)) (zi := ((jb : Nat) : Int)) m137_38 (nI_toInt (by omega)) (nI_toInt (by omega)) (fun c47 => ?_) (fun c47 => ?_)
              · skip
                refine g_iload_n m137_49 rfl ?_
                refine h_if_ge (xi := ((2 : Nat) : Int)) (zi := 0) m137_50 (nI_toInt (by omega)) rfl (fun c48 => ?_) (fun c48 => ?_)
                · skip
                  refine g_aload_n m137_62 rfl ?_
                  refine g_iload_n m137_63 rfl ?_
                  refine g_iconst m137_64 ?_
                  refine h_cv (k := 57) (p := 89) (args := [.int (nI (ja)), .int (1)]) (rest := []) m137_65 cn_111 (Nat.le_of_ble_eq_true rfl) rfl rfl rfl (t_57 _ _) (Nat.le_of_ble_eq_true rfl) ?_
                  refine c_its (w := 1) (by omega) (by omega) ?_
                  refine gwr ?_
                  refine g_iret m137_68 rt_137 ?_
                  exact hY ja jb rfl (by omega) rfl (by omega) (by rw [hkk]; rcases (show jb = 0 ∨ jb = 1 ∨ jb = 2 ∨ jb = 3 ∨ jb = 4 ∨ jb = 5 ∨ jb = 6 by omega) with rfl | rfl | rfl | rfl | rfl | rfl | rfl <;> first | rfl | (exfalso; omega))
                · skip
                  refine g_aload_n m137_53 rfl ?_
                  refine g_ldci m137_54 rfl ?_
                  refine h_cv (k := 57) (p := 89) (args := [.int (-1000000005)]) (rest := []) m137_56 cn_108 (Nat.le_of_ble_eq_true rfl) rfl rfl rfl (t_57 _ _) (Nat.le_of_ble_eq_true rfl) ?_
                  refine c_errs (e := 5) (by decide) (by decide) (by decide) ?_
                  refine gwr ?_
                  refine g_goto m137_59 ?_
                  refine g_iret m137_68 rt_137 ?_
                  exact hE5 ⟨ja, jb, rfl, by omega, rfl, by omega, by rw [hkk]; intro z; rcases (show jb = 0 ∨ jb = 1 ∨ jb = 2 ∨ jb = 3 ∨ jb = 4 ∨ jb = 5 ∨ jb = 6 by omega) with rfl | rfl | rfl | rfl | rfl | rfl | rfl <;> first | (exfalso; omega) | exact absurd z (by decide)⟩
              · skip
                refine g_iload_n m137_41 rfl ?_
                refine g_cs (args := [.int (nI (2))]) (rest := []) 0 (Or.inl rfl) m137_42 (Nat.le_of_ble_eq_true rfl) rfl rfl (Nat.le_of_ble_eq_true rfl) ?_
                refine c_above (k := 2) (by decide) ?_
                refine gwr ?_
                refine g_istore_n (L2 := [some (.ref (89)), some (.int (nI (ja))), some (.int (nI (jb))), some (.int (nI (0)))]) m137_45 rfl rfl ?_
                refine g_goto m137_46 ?_
                refine g_iload_n m137_32 rfl ?_
                refine h_if_lt (xi := ((0 : Nat) : Int)) (zi := 0) m137_33 (nI_toInt (by omega)) rfl (fun c49 => ?_) (fun c49 => ?_)
                · skip
                  refine g_iload_n m137_49 rfl ?_
                  refine h_if_ge (xi := ((0 : Nat) : Int)) (zi := 0) m137_50 (nI_toInt (by omega)) rfl (fun c50 => ?_) (fun c50 => ?_)
                  · skip
                    refine g_aload_n m137_62 rfl ?_
                    refine g_iload_n m137_63 rfl ?_
                    refine g_iconst m137_64 ?_
                    refine h_cv (k := 57) (p := 89) (args := [.int (nI (ja)), .int (1)]) (rest := []) m137_65 cn_111 (Nat.le_of_ble_eq_true rfl) rfl rfl rfl (t_57 _ _) (Nat.le_of_ble_eq_true rfl) ?_
                    refine c_its (w := 1) (by omega) (by omega) ?_
                    refine gwr ?_
                    refine g_iret m137_68 rt_137 ?_
                    exact hY ja jb rfl (by omega) rfl (by omega) (by rw [hkk]; rcases (show jb = 0 ∨ jb = 1 ∨ jb = 2 ∨ jb = 3 ∨ jb = 4 ∨ jb = 5 ∨ jb = 6 by omega) with rfl | rfl | rfl | rfl | rfl | rfl | rfl <;> first | rfl | (exfalso; omega))
                  · skip
                    refine g_aload_n m137_53 rfl ?_
                    refine g_ldci m137_54 rfl ?_
                    refine h_cv (k := 57) (p := 89) (args := [.int (-1000000005)]) (rest := []) m137_56 cn_108 (Nat.le_of_ble_eq_true rfl) rfl rfl rfl (t_57 _ _) (Nat.le_of_ble_eq_true rfl) ?_
                    refine c_errs (e := 5) (by decide) (by decide) (by decide) ?_
                    refine gwr ?_
                    refine g_goto m137_59 ?_
                    refine g_iret m137_68 rt_137 ?_
                    exact hE5 ⟨ja, jb, rfl, by omega, rfl, by omega, by rw [hkk]; intro z; rcases (show jb = 0 ∨ jb = 1 ∨ jb = 2 ∨ jb = 3 ∨ jb = 4 ∨ jb = 5 ∨ jb = 6 by omega) with rfl | rfl | rfl | rfl | rfl | rfl | rfl <;> first | (exfalso; omega) | exact absurd z (by decide)⟩
                · skip
                  refine g_iload_n m137_36 rfl ?_
                  refine g_iload_n m137_37 rfl ?_
                  refine h_ic_eq (xi := ((0 : Nat) : Int)) (zi := ((jb : Nat) : Int)) m137_38 (nI_toInt (by omega)) (nI_toInt (by omega)) (fun c51 => ?_) (fun c51 => ?_)
                  · skip
                    refine g_iload_n m137_49 rfl ?_
                    refine h_if_ge (xi := ((0 : Nat) : Int)) (zi := 0) m137_50 (nI_toInt (by omega)) rfl (fun c52 => ?_) (fun c52 => ?_)
                    · skip
                      refine g_aload_n m137_62 rfl ?_
                      refine g_iload_n m137_63 rfl ?_
                      refine g_iconst m137_64 ?_
                      refine h_cv (k := 57) (p := 89) (args := [.int (nI (ja)), .int (1)]) (rest := []) m137_65 cn_111 (Nat.le_of_ble_eq_true rfl) rfl rfl rfl (t_57 _ _) (Nat.le_of_ble_eq_true rfl) ?_
                      refine c_its (w := 1) (by omega) (by omega) ?_
                      refine gwr ?_
                      refine g_iret m137_68 rt_137 ?_
                      exact hY ja jb rfl (by omega) rfl (by omega) (by rw [hkk]; rcases (show jb = 0 ∨ jb = 1 ∨ jb = 2 ∨ jb = 3 ∨ jb = 4 ∨ jb = 5 ∨ jb = 6 by omega) with rfl | rfl | rfl | rfl | rfl | rfl | rfl <;> first | rfl | (exfalso; omega))
                    · skip
                      refine g_aload_n m137_53 rfl ?_
                      refine g_ldci m137_54 rfl ?_
                      refine h_cv (k := 57) (p := 89) (args := [.int (-1000000005)]) (rest := []) m137_56 cn_108 (Nat.le_of_ble_eq_true rfl) rfl rfl rfl (t_57 _ _) (Nat.le_of_ble_eq_true rfl) ?_
                      refine c_errs (e := 5) (by decide) (by decide) (by decide) ?_
                      refine gwr ?_
                      refine g_goto m137_59 ?_
                      refine g_iret m137_68 rt_137 ?_
                      exact hE5 ⟨ja, jb, rfl, by omega, rfl, by omega, by rw [hkk]; intro z; rcases (show jb = 0 ∨ jb = 1 ∨ jb = 2 ∨ jb = 3 ∨ jb = 4 ∨ jb = 5 ∨ jb = 6 by omega) with rfl | rfl | rfl | rfl | rfl | rfl | rfl <;> first | (exfalso; omega) | exact absurd z (by decide)⟩
                  · skip
                    refine g_iload_n m137_41 rfl ?_
                    refine g_cs (args := [.int (nI (0))]) (rest := []) 0 (Or.inl rfl) m137_42 (Nat.le_of_ble_eq_true rfl) rfl rfl (Nat.le_of_ble_eq_true rfl) ?_
                    refine c_above (k := 0) (by decide) ?_
                    refine gwr ?_
                    refine g_istore_n (L2 := [some (.ref (89)), some (.int (nI (ja))), some (.int (nI (jb))), some (.int (-1))]) m137_45 rfl rfl ?_
                    refine g_goto m137_46 ?_
                    refine g_iload_n m137_32 rfl ?_
                    refine h_if_ltT (xi := (-1)) (zi := 0) m137_33 rfl rfl (by decide) ?_
                    refine g_iload_n m137_49 rfl ?_
                    refine h_if_geF (xi := (-1)) (zi := 0) m137_50 rfl rfl (by decide) ?_
                    refine g_aload_n m137_53 rfl ?_
                    refine g_ldci m137_54 rfl ?_
                    refine h_cv (k := 57) (p := 89) (args := [.int (-1000000005)]) (rest := []) m137_56 cn_108 (Nat.le_of_ble_eq_true rfl) rfl rfl rfl (t_57 _ _) (Nat.le_of_ble_eq_true rfl) ?_
                    refine c_errs (e := 5) (by decide) (by decide) (by decide) ?_
                    refine gwr ?_
                    refine g_goto m137_59 ?_
                    refine g_iret m137_68 rt_137 ?_
                    exact hE5 ⟨ja, jb, rfl, by omega, rfl, by omega, by rw [hkk]; intro z; rcases (show jb = 0 ∨ jb = 1 ∨ jb = 2 ∨ jb = 3 ∨ jb = 4 ∨ jb = 5 ∨ jb = 6 by omega) with rfl | rfl | rfl | rfl | rfl | rfl | rfl <;> first | (exfalso; omega) | exact absurd z (by decide)⟩
      · skip
        refine gwr ?_
        refine g_istore_n (L2 := [some (.ref (89)), some (.int (nI (ja))), some (.int (nI (jb))), some (.int (nI (6)))]) m137_31 rfl rfl ?_
        refine g_iload_n m137_32 rfl ?_
        refine h_if_lt (xi := ((6 : Nat) : Int)) (zi := 0) m137_33 (nI_toInt (by omega)) rfl (fun c53 => ?_) (fun c53 => ?_)
        · skip
          refine g_iload_n m137_49 rfl ?_
          refine h_if_ge (xi := ((6 : Nat) : Int)) (zi := 0) m137_50 (nI_toInt (by omega)) rfl (fun c54 => ?_) (fun c54 => ?_)
          · skip
            refine g_aload_n m137_62 rfl ?_
            refine g_iload_n m137_63 rfl ?_
            refine g_iconst m137_64 ?_
            refine h_cv (k := 57) (p := 89) (args := [.int (nI (ja)), .int (1)]) (rest := []) m137_65 cn_111 (Nat.le_of_ble_eq_true rfl) rfl rfl rfl (t_57 _ _) (Nat.le_of_ble_eq_true rfl) ?_
            refine c_its (w := 1) (by omega) (by omega) ?_
            refine gwr ?_
            refine g_iret m137_68 rt_137 ?_
            exact hY ja jb rfl (by omega) rfl (by omega) (by rw [hkk]; rcases (show jb = 0 ∨ jb = 1 ∨ jb = 2 ∨ jb = 3 ∨ jb = 4 ∨ jb = 5 ∨ jb = 6 by omega) with rfl | rfl | rfl | rfl | rfl | rfl | rfl <;> first | rfl | (exfalso; omega))
          · skip
            refine g_aload_n m137_53 rfl ?_
            refine g_ldci m137_54 rfl ?_
            refine h_cv (k := 57) (p := 89) (args := [.int (-1000000005)]) (rest := []) m137_56 cn_108 (Nat.le_of_ble_eq_true rfl) rfl rfl rfl (t_57 _ _) (Nat.le_of_ble_eq_true rfl) ?_
            refine c_errs (e := 5) (by decide) (by decide) (by decide) ?_
            refine gwr ?_
            refine g_goto m137_59 ?_
            refine g_iret m137_68 rt_137 ?_
            exact hE5 ⟨ja, jb, rfl, by omega, rfl, by omega, by rw [hkk]; intro z; rcases (show jb = 0 ∨ jb = 1 ∨ jb = 2 ∨ jb = 3 ∨ jb = 4 ∨ jb = 5 ∨ jb = 6 by omega) with rfl | rfl | rfl | rfl | rfl | rfl | rfl <;> first | (exfalso; omega) | exact absurd z (by decide)⟩
        · skip
          refine g_iload_n m137_36 rfl ?_
          refine g_iload_n m137_37 rfl ?_
          refine h_ic_eq (xi := ((6 : Nat) : Int)) (zi := ((jb : Nat) : Int)) m137_38 (nI_toInt (by omega)) (nI_toInt (by omega)) (fun c55 => ?_) (fun c55 => ?_)
          · skip
            refine g_iload_n m137_49 rfl ?_
            refine h_if_ge (xi := ((6 : Nat) : Int)) (zi := 0) m137_50 (nI_toInt (by omega)) rfl (fun c56 => ?_) (fun c56 => ?_)
            · skip
              refine g_aload_n m137_62 rfl ?_
              refine g_iload_n m137_63 rfl ?_
              refine g_iconst m137_64 ?_
              refine h_cv (k := 57) (p := 89) (args := [.int (nI (ja)), .int (1)]) (rest := []) m137_65 cn_111 (Nat.le_of_ble_eq_true rfl) rfl rfl rfl (t_57 _ _) (Nat.le_of_ble_eq_true rfl) ?_
              refine c_its (w := 1) (by omega) (by omega) ?_
              refine gwr ?_
              refine g_iret m137_68 rt_137 ?_
              exact hY ja jb rfl (by omega) rfl (by omega) (by rw [hkk]; rcases (show jb = 0 ∨ jb = 1 ∨ jb = 2 ∨ jb = 3 ∨ jb = 4 ∨ jb = 5 ∨ jb = 6 by omega) with rfl | rfl | rfl | rfl | rfl | rfl | rfl <;> first | rfl | (exfalso; omega))
            · skip
              refine g_aload_n m137_53 rfl ?_
              refine g_ldci m137_54 rfl ?_
              refine h_cv (k := 57) (p := 89) (args := [.int (-1000000005)]) (rest := []) m137_56 cn_108 (Nat.le_of_ble_eq_true rfl) rfl rfl rfl (t_57 _ _) (Nat.le_of_ble_eq_true rfl) ?_
              refine c_errs (e := 5) (by decide) (by decide) (by decide) ?_
              refine gwr ?_
              refine g_goto m137_59 ?_
              refine g_iret m137_68 rt_137 ?_
              exact hE5 ⟨ja, jb, rfl, by omega, rfl, by omega, by rw [hkk]; intro z; rcases (show jb = 0 ∨ jb = 1 ∨ jb = 2 ∨ jb = 3 ∨ jb = 4 ∨ jb = 5 ∨ jb = 6 by omega) with rfl | rfl | rfl | rfl | rfl | rfl | rfl <;> first | (exfalso; omega) | exact absurd z (by decide)⟩
          · skip
            refine g_iload_n m137_41 rfl ?_
            refine g_cs (args := [.int (nI (6))]) (rest := []) 0 (Or.inl rfl) m137_42 (Nat.le_of_ble_eq_true rfl) rfl rfl (Nat.le_of_ble_eq_true rfl) ?_
            refine c_above (k := 6) (by decide) ?_
            refine gwr ?_
            refine g_istore_n (L2 := [some (.ref (89)), some (.int (nI (ja))), some (.int (nI (jb))), some (.int (nI (3)))]) m137_45 rfl rfl ?_
            refine g_goto m137_46 ?_
            refine g_iload_n m137_32 rfl ?_
            refine h_if_lt (xi := ((3 : Nat) : Int)) (zi := 0) m137_33 (nI_toInt (by omega)) rfl (fun c57 => ?_) (fun c57 => ?_)
            · skip
              refine g_iload_n m137_49 rfl ?_
              refine h_if_ge (xi := ((3 : Nat) : Int)) (zi := 0) m137_50 (nI_toInt (by omega)) rfl (fun c58 => ?_) (fun c58 => ?_)
              · skip
                refine g_aload_n m137_62 rfl ?_
                refine g_iload_n m137_63 rfl ?_
                refine g_iconst m137_64 ?_
                refine h_cv (k := 57) (p := 89) (args := [.int (nI (ja)), .int (1)]) (rest := []) m137_65 cn_111 (Nat.le_of_ble_eq_true rfl) rfl rfl rfl (t_57 _ _) (Nat.le_of_ble_eq_true rfl) ?_
                refine c_its (w := 1) (by omega) (by omega) ?_
                refine gwr ?_
                refine g_iret m137_68 rt_137 ?_
                exact hY ja jb rfl (by omega) rfl (by omega) (by rw [hkk]; rcases (show jb = 0 ∨ jb = 1 ∨ jb = 2 ∨ jb = 3 ∨ jb = 4 ∨ jb = 5 ∨ jb = 6 by omega) with rfl | rfl | rfl | rfl | rfl | rfl | rfl <;> first | rfl | (exfalso; omega))
              · skip
                refine g_aload_n m137_53 rfl ?_
                refine g_ldci m137_54 rfl ?_
                refine h_cv (k := 57) (p := 89) (args := [.int (-1000000005)]) (rest := []) m137_56 cn_108 (Nat.le_of_ble_eq_true rfl) rfl rfl rfl (t_57 _ _) (Nat.le_of_ble_eq_true rfl) ?_
                refine c_errs (e := 5) (by decide) (by decide) (by decide) ?_
                refine gwr ?_
                refine g_goto m137_59 ?_
                refine g_iret m137_68 rt_137 ?_
                exact hE5 ⟨ja, jb, rfl, by omega, rfl, by omega, by rw [hkk]; intro z; rcases (show jb = 0 ∨ jb = 1 ∨ jb = 2 ∨ jb = 3 ∨ jb = 4 ∨ jb = 5 ∨ jb = 6 by omega) with rfl | rfl | rfl | rfl | rfl | rfl | rfl <;> first | (exfalso; omega) | exact absurd z (by decide)⟩
            · skip
              refine g_iload_n m137_36 rfl ?_
              refine g_iload_n m137_37 rfl ?_
              refine h_ic_eq (xi := ((3 : Nat) : Int)) (zi := ((jb : Nat) : Int)) m137_38 (nI_toInt (by omega)) (nI_toInt (by omega)) (fun c59 => ?_) (fun c59 => ?_)
              · skip
                refine g_iload_n m137_49 rfl ?_
                refine h_if_ge (xi := ((3 : Nat) : Int)) (zi := 0) m137_50 (nI_toInt (by omega)) rfl (fun c60 => ?_) (fun c60 => ?_)
                · skip
                  refine g_aload_n m137_62 rfl ?_
                  refine g_iload_n m137_63 rfl ?_
                  refine g_iconst m137_64 ?_
                  refine h_cv (k := 57) (p := 89) (args := [.int (nI (ja)), .int (1)]) (rest := []) m137_65 cn_111 (Nat.le_of_ble_eq_true rfl) rfl rfl rfl (t_57 _ _) (Nat.le_of_ble_eq_true rfl) ?_
                  refine c_its (w := 1) (by omega) (by omega) ?_
                  refine gwr ?_
                  refine g_iret m137_68 rt_137 ?_
                  exact hY ja jb rfl (by omega) rfl (by omega) (by rw [hkk]; rcases (show jb = 0 ∨ jb = 1 ∨ jb = 2 ∨ jb = 3 ∨ jb = 4 ∨ jb = 5 ∨ jb = 6 by omega) with rfl | rfl | rfl | rfl | rfl | rfl | rfl <;> first | rfl | (exfalso; omega))
                · skip
                  refine g_aload_n m137_53 rfl ?_
                  refine g_ldci m137_54 rfl ?_
                  refine h_cv (k := 57) (p := 89) (args := [.int (-1000000005)]) (rest := []) m137_56 cn_108 (Nat.le_of_ble_eq_true rfl) rfl rfl rfl (t_57 _ _) (Nat.le_of_ble_eq_true rfl) ?_
                  refine c_errs (e := 5) (by decide) (by decide) (by decide) ?_
                  refine gwr ?_
                  refine g_goto m137_59 ?_
                  refine g_iret m137_68 rt_137 ?_
                  exact hE5 ⟨ja, jb, rfl, by omega, rfl, by omega, by rw [hkk]; intro z; rcases (show jb = 0 ∨ jb = 1 ∨ jb = 2 ∨ jb = 3 ∨ jb = 4 ∨ jb = 5 ∨ jb = 6 by omega) with rfl | rfl | rfl | rfl | rfl | rfl | rfl <;> first | (exfalso; omega) | exact absurd z (by decide)⟩
              · skip
                refine g_iload_n m137_41 rfl ?_
                refine g_cs (args := [.int (nI (3))]) (rest := []) 0 (Or.inl rfl) m137_42 (Nat.le_of_ble_eq_true rfl) rfl rfl (Nat.le_of_ble_eq_true rfl) ?_
                refine c_above (k := 3) (by decide) ?_
                refine gwr ?_
                refine g_istore_n (L2 := [some (.ref (89)), some (.int (nI (ja))), some (.int (nI (jb))), some (.int (nI (0)))]) m137_45 rfl rfl ?_
                refine g_goto m137_46 ?_
                refine g_iload_n m137_32 rfl ?_
                refine h_if_lt (xi := ((0 : Nat) : Int)) (zi := 0) m137_33 (nI_toInt (by omega)) rfl (fun c61 => ?_) (fun c61 => ?_)
                · skip
                  refine g_iload_n m137_49 rfl ?_
                  refine h_if_ge (xi := ((0 : Nat) : Int)) (zi := 0) m137_50 (nI_toInt (by omega)) rfl (fun c62 => ?_) (fun c62 => ?_)
                  · skip
                    refine g_aload_n m137_62 rfl ?_
                    refine g_iload_n m137_63 rfl ?_
                    refine g_iconst m137_64 ?_
                    refine h_cv (k := 57) (p := 89) (args := [.int (nI (ja)), .int (1)]) (rest := []) m137_65 cn_111 (Nat.le_of_ble_eq_true rfl) rfl rfl rfl (t_57 _ _) (Nat.le_of_ble_eq_true rfl) ?_
                    refine c_its (w := 1) (by omega) (by omega) ?_
                    refine gwr ?_
                    refine g_iret m137_68 rt_137 ?_
                    exact hY ja jb rfl (by omega) rfl (by omega) (by rw [hkk]; rcases (show jb = 0 ∨ jb = 1 ∨ jb = 2 ∨ jb = 3 ∨ jb = 4 ∨ jb = 5 ∨ jb = 6 by omega) with rfl | rfl | rfl | rfl | rfl | rfl | rfl <;> first | rfl | (exfalso; omega))
                  · skip
                    refine g_aload_n m137_53 rfl ?_
                    refine g_ldci m137_54 rfl ?_
                    refine h_cv (k := 57) (p := 89) (args := [.int (-1000000005)]) (rest := []) m137_56 cn_108 (Nat.le_of_ble_eq_true rfl) rfl rfl rfl (t_57 _ _) (Nat.le_of_ble_eq_true rfl) ?_
                    refine c_errs (e := 5) (by decide) (by decide) (by decide) ?_
                    refine gwr ?_
                    refine g_goto m137_59 ?_
                    refine g_iret m137_68 rt_137 ?_
                    exact hE5 ⟨ja, jb, rfl, by omega, rfl, by omega, by rw [hkk]; intro z; rcases (show jb = 0 ∨ jb = 1 ∨ jb = 2 ∨ jb = 3 ∨ jb = 4 ∨ jb = 5 ∨ jb = 6 by omega) with rfl | rfl | rfl | rfl | rfl | rfl | rfl <;> first | (exfalso; omega) | exact absurd z (by decide)⟩
                · skip
                  refine g_iload_n m137_36 rfl ?_
                  refine g_iload_n m137_37 rfl ?_
                  refine h_ic_eq (xi := ((0 : Nat) : Int)) (zi := ((jb : Nat) : Int)) m137_38 (nI_toInt (by omega)) (nI_toInt (by omega)) (fun c63 => ?_) (fun c63 => ?_)
                  · skip
                    refine g_iload_n m137_49 rfl ?_
                    refine h_if_ge (xi := ((0 : Nat) : Int)) (zi := 0) m137_50 (nI_toInt (by omega)) rfl (fun c64 => ?_) (fun c64 => ?_)
                    · skip
                      refine g_aload_n m137_62 rfl ?_
                      refine g_iload_n m137_63 rfl ?_
                      refine g_iconst m137_64 ?_
                      refine h_cv (k := 57) (p := 89) (args := [.int (nI (ja)), .int (1)]) (rest := []) m137_65 cn_111 (Nat.le_of_ble_eq_true rfl) rfl rfl rfl (t_57 _ _) (Nat.le_of_ble_eq_true rfl) ?_
                      refine c_its (w := 1) (by omega) (by omega) ?_
                      refine gwr ?_
                      refine g_iret m137_68 rt_137 ?_
                      exact hY ja jb rfl (by omega) rfl (by omega) (by rw [hkk]; rcases (show jb = 0 ∨ jb = 1 ∨ jb = 2 ∨ jb = 3 ∨ jb = 4 ∨ jb = 5 ∨ jb = 6 by omega) with rfl | rfl | rfl | rfl | rfl | rfl | rfl <;> first | rfl | (exfalso; omega))
                    · skip
                      refine g_aload_n m137_53 rfl ?_
                      refine g_ldci m137_54 rfl ?_
                      refine h_cv (k := 57) (p := 89) (args := [.int (-1000000005)]) (rest := []) m137_56 cn_108 (Nat.le_of_ble_eq_true rfl) rfl rfl rfl (t_57 _ _) (Nat.le_of_ble_eq_true rfl) ?_
                      refine c_errs (e := 5) (by decide) (by decide) (by decide) ?_
                      refine gwr ?_
                      refine g_goto m137_59 ?_
                      refine g_iret m137_68 rt_137 ?_
                      exact hE5 ⟨ja, jb, rfl, by omega, rfl, by omega, by rw [hkk]; intro z; rcases (show jb = 0 ∨ jb = 1 ∨ jb = 2 ∨ jb = 3 ∨ jb = 4 ∨ jb = 5 ∨ jb = 6 by omega) with rfl | rfl | rfl | rfl | rfl | rfl | rfl <;> first | (exfalso; omega) | exact absurd z (by decide)⟩
                  · skip
                    refine g_iload_n m137_41 rfl ?_
                    refine g_cs (args := [.int (nI (0))]) (rest := []) 0 (Or.inl rfl) m137_42 (Nat.le_of_ble_eq_true rfl) rfl rfl (Nat.le_of_ble_eq_true rfl) ?_
                    refine c_above (k := 0) (by decide) ?_
                    refine gwr ?_
                    refine g_istore_n (L2 := [some (.ref (89)), some (.int (nI (ja))), some (.int (nI (jb))), some (.int (-1))]) m137_45 rfl rfl ?_
                    refine g_goto m137_46 ?_
                    refine g_iload_n m137_32 rfl ?_
                    refine h_if_ltT (xi := (-1)) (zi := 0) m137_33 rfl rfl (by decide) ?_
                    refine g_iload_n m137_49 rfl ?_
                    refine h_if_geF (xi := (-1)) (zi := 0) m137_50 rfl rfl (by decide) ?_
                    refine g_aload_n m137_53 rfl ?_
                    refine g_ldci m137_54 rfl ?_
                    refine h_cv (k := 57) (p := 89) (args := [.int (-1000000005)]) (rest := []) m137_56 cn_108 (Nat.le_of_ble_eq_true rfl) rfl rfl rfl (t_57 _ _) (Nat.le_of_ble_eq_true rfl) ?_
                    refine c_errs (e := 5) (by decide) (by decide) (by decide) ?_
                    refine gwr ?_
                    refine g_goto m137_59 ?_
                    refine g_iret m137_68 rt_137 ?_
                    exact hE5 ⟨ja, jb, rfl, by omega, rfl, by omega, by rw [hkk]; intro z; rcases (show jb = 0 ∨ jb = 1 ∨ jb = 2 ∨ jb = 3 ∨ jb = 4 ∨ jb = 5 ∨ jb = 6 by omega) with rfl | rfl | rfl | rfl | rfl | rfl | rfl <;> first | (exfalso; omega) | exact absurd z (by decide)⟩
    · skip
      refine gwr ?_
      refine h_if_neT (xi := 0) (zi := 0) m137_15 rfl rfl (by decide) ?_
      refine g_aload_n m137_18 rfl ?_
      refine g_ldci m137_19 rfl ?_
      refine h_cv (k := 57) (p := 89) (args := [.int (-1000000001)]) (rest := []) m137_21 cn_108 (Nat.le_of_ble_eq_true rfl) rfl rfl rfl (t_57 _ _) (Nat.le_of_ble_eq_true rfl) ?_
      refine c_errs (e := 1) (by decide) (by decide) (by decide) ?_
      refine gwr ?_
      refine g_iret m137_24 rt_137 ?_
      exact hE1 (by omega)
  · skip
    refine gwr ?_
    refine h_if_eqT (xi := 0) (zi := 0) m137_5 rfl rfl (by decide) ?_
    refine g_aload_n m137_18 rfl ?_
    refine g_ldci m137_19 rfl ?_
    refine h_cv (k := 57) (p := 89) (args := [.int (-1000000001)]) (rest := []) m137_21 cn_108 (Nat.le_of_ble_eq_true rfl) rfl rfl rfl (t_57 _ _) (Nat.le_of_ble_eq_true rfl) ?_
    refine c_errs (e := 1) (by decide) (by decide) (by decide) ?_
    refine gwr ?_
    refine g_iret m137_24 rt_137 ?_
    exact hE1 (by omega)
end
