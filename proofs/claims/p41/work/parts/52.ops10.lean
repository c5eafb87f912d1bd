section
/-! SHEETS JUDGED, AS A KIND -/
def endF (r n l : Nat) : Int32 := if r = n ∧ r = l then -1 else nI r
def underF (k u : Nat) : Bool := decide (k = u) || (decide (k ≠ 0) && decide (u = 0)) || (decide (3 < k) && decide (u = k - 3))
section
variable {xs : List Int32} {d : Nat} {h : AH} {Q : QT} {m : MW} {ln : Nat → Nat} {N : Nat}
set_option maxRecDepth 20000 in
set_option maxHeartbeats 40000000 in
theorem c_holds {s b q : Nat} {v : Int32} (hs : s < 4) (hq : q < 40) (hb : b = 0 ∨ b = 8 ∨ b = 16 ∨ b = 32) (hbm : m (48 + 2 * s) 0 = nI b) (hT : m (49 + 2 * s) q = lowF b v → Q (some (.int 1)) (H m ln N)) (hF : ¬ m (49 + 2 * s) q = lowF b v → Q (some (.int 0)) (H m ln N)) : WP xs (d + 2) 29 0 0 [.ref (80 + 2 * s), .int (nI (q)), .int (v)] (H m ln N) Q := by
  refine wp_x mx_29 (L := [some (.ref (80 + 2 * s)), some (.int (nI (q))), some (.int (v))]) (Nat.le_of_ble_eq_true rfl) rfl ?_
  refine g_aload_n m29_0 rfl ?_
  refine h_gfR (c := 81 + 2 * s) (k := 48 + 2 * s) (p := 80 + 2 * s) m29_1 (pSo _) (tSo hs) rfl (le3 (Nat.le_of_ble_eq_true rfl)) ?_
  refine g_iload_n m29_4 rfl ?_
  refine h_ial (k := 49 + 2 * s) (p := 81 + 2 * s) (j := q) m29_5 (pSn _) (tSn hs) (rfl) (by omega) (Nat.le_of_ble_eq_true rfl) (rfl) ?_
  refine g_aload_n m29_6 rfl ?_
  refine g_iload_n m29_7 rfl ?_
  refine h_cv (k := 48 + 2 * s) (p := 80 + 2 * s) (args := [.int (v)]) (rest := [.int (m (49 + 2 * s) (q))]) m29_8 cn_28 (Nat.le_of_ble_eq_true rfl) rfl rfl (pSo _) (tSo hs) (Nat.le_of_ble_eq_true rfl) ?_
  refine c_lowest hs hb hbm ?_
  refine gwr ?_
  refine h_ic_ne (xi := _) (zi := _) m29_11 rfl rfl (fun c1 => ?_) (fun c1 => ?_)
  · skip
    refine g_iconst m29_14 ?_
    refine g_goto m29_15 ?_
    refine g_zret m29_19 rt_29 (Or.inr rfl) ?_
    exact hT (Int32.toInt_inj.mp c1)
  · skip
    refine g_iconst m29_18 ?_
    refine g_zret m29_19 rt_29 (Or.inl rfl) ?_
    exact hF (fun z => c1 (congrArg Int32.toInt z))
set_option maxRecDepth 20000 in
set_option maxHeartbeats 40000000 in
theorem x_judge {a : Int32} {n : Nat} {B Ln : Nat → Nat} (hd : m 1 10 = nI n) (hn : n ≤ 8) (hW : WF (vw m 0)) (hL : LawsOk m ln N) (hix : LawIx N (m 1 11)) (hB : ∀ s, s < 4 → (B s = 0 ∨ B s = 8 ∨ B s = 16 ∨ B s = 32) ∧ Ln s ≤ 40 ∧ m (48 + 2 * s) 0 = nI (B s) ∧ m (48 + 2 * s) 1 = nI (Ln s)) (hE1 : (a.toInt < 0 ∨ 3 < a.toInt) → Q (some (.int (-1000000000 - nI 1))) (H (erm m 1) ln N)) (hE2 : (∃ s : Nat, a = nI s ∧ s < 4 ∧ B s = 0) → Q (some (.int (-1000000000 - nI 2))) (H (erm m 2) ln N)) (hY : ∀ s : Nat, a = nI s → s < 4 → B s ≠ 0 → ∀ m2, EqM m m2 → Q (some (.int (endF (runF (fun q => decide (m (49 + 2 * s) q = lowF (B s) (faceF (lkF m ln (m 1 11)) (vw m 0) q))) (min (Ln s) n) 0) n (Ln s)))) (H m2 ln N)) : WP xs (d + 4) 99 0 0 [.ref (32), .int (a)] (H m ln N) Q := by
  refine wp_x mx_99 (L := [some (.ref (32)), some (.int (a)), none, none, none]) (Nat.le_of_ble_eq_true rfl) rfl ?_
  refine g_iload_n m99_0 rfl ?_
  refine g_iconst m99_1 ?_
  refine g_cs (args := [.int (a), .int (3)]) (rest := []) 0 (Or.inl rfl) m99_2 (Nat.le_of_ble_eq_true rfl) rfl rfl (Nat.le_of_ble_eq_true rfl) ?_
  refine c_within (M := 3) rfl (fun ja ea a_1 => ?_) (fun a_1 => ?_)
  · subst ea
    refine gwr ?_
    refine h_if_neF (xi := 1) (zi := 0) m99_5 rfl rfl (by decide) ?_
    refine g_aload_n m99_14 rfl ?_
    refine h_gfR (c := 79) (k := 0) (p := 32) m99_15 rfl (t_0 _ _) rfl (Nat.le_of_ble_eq_true rfl) ?_
    refine g_iload_n m99_18 rfl ?_
    have hs : ja < 4 := by omega
    have hBa := hB ja hs
    refine h_aald (j := ja) (c := 80 + 2 * ja) m99_19 rfl (t_47 _ _) (rfl) (sh_at hs) (le3 (Nat.le_of_ble_eq_true rfl)) (Nat.le_of_ble_eq_true rfl) ?_
    refine g_astore_n (L2 := [some (.ref (32)), some (.int (nI (ja))), some (.ref (80 + 2 * ja)), none, none]) m99_20 rfl rfl ?_
    refine g_aload_n m99_21 rfl ?_
    refine h_gfI (k := 48 + 2 * ja) (p := 80 + 2 * ja) m99_22 (pSo _) (tSo hs) rfl (hBa.2.2.1) ?_
    refine h_if_ne (xi := ((B ja : Nat) : Int)) (zi := 0) m99_25 (nI_toInt (by omega)) rfl (fun c1 => ?_) (fun c1 => ?_)
    · skip
      refine g_aload_n m99_28 rfl ?_
      refine g_iconst m99_29 ?_
      refine h_cv (k := 0) (p := 32) (args := [.int (2)]) (rest := []) m99_30 cn_55 (Nat.le_of_ble_eq_true rfl) rfl rfl rfl (t_0 _ _) (Nat.le_of_ble_eq_true rfl) ?_
      refine c_error (e := 2) (by decide) (by decide) ?_
      refine gwr ?_
      refine g_iret m99_33 rt_99 ?_
      exact hE2 ⟨ja, rfl, by omega, by omega⟩
    · skip
      refine g_aload_n m99_34 rfl ?_
      refine h_gfI (k := 48 + 2 * ja) (p := 80 + 2 * ja) m99_35 (pSo _) (tSo hs) rfl (hBa.2.2.2) ?_
      refine g_aload_n m99_38 rfl ?_
      refine h_gfR (c := 33) (k := 0) (p := 32) m99_39 rfl (t_0 _ _) rfl (Nat.le_of_ble_eq_true rfl) ?_
      refine h_gfI (k := 1) (p := 33) m99_42 rfl (t_1 _ _) rfl (hd) ?_
      refine g_min (u := nI (min (Ln ja) n)) m99_45 (Nat.le_of_ble_eq_true rfl) (min_n (by omega) (by omega)) ?_
      refine g_istore_n (L2 := [some (.ref (32)), some (.int (nI (ja))), some (.ref (80 + 2 * ja)), some (.int (nI (min (Ln ja) n))), none]) m99_48 rfl rfl ?_
      refine g_iconst m99_49 ?_
      refine g_istore (L2 := [some (.ref (32)), some (.int (nI (ja))), some (.ref (80 + 2 * ja)), some (.int (nI (min (Ln ja) n))), some (.int (0))]) m99_50 rfl rfl ?_
      have key : ∀ (r : Nat) (q : Nat) (m2 : MW), q + r = min (Ln ja) n → AtX m 0 (vw m 0) m2 → runF (fun q => decide (m (49 + 2 * ja) q = lowF (B ja) (faceF (lkF m ln (m 1 11)) (vw m 0) q))) r q = runF (fun q => decide (m (49 + 2 * ja) q = lowF (B ja) (faceF (lkF m ln (m 1 11)) (vw m 0) q))) (min (Ln ja) n) 0 → gw xs (WP xs (d + 3)) 99 Q 52 [some (.ref (32)), some (.int (nI (ja))), some (.ref (80 + 2 * ja)), some (.int (nI (min (Ln ja) n))), some (.int (nI (q)))] [] (H m2 ln N) 0 0 := by
        intro r
        induction r with
        | zero =>
          intro q m2 hq hA hfin
          have hfin : q = runF (fun q => decide (m (49 + 2 * ja) q = lowF (B ja) (faceF (lkF m ln (m 1 11)) (vw m 0) q))) (min (Ln ja) n) 0 := hfin
          refine g_iload m99_52 rfl ?_
          refine g_iload_n m99_54 rfl ?_
          refine h_ic_geT (xi := ((q : Nat) : Int)) (zi := ((min (Ln ja) n : Nat) : Int)) m99_55 (nI_toInt (by omega)) (nI_toInt (by omega)) (by omega) ?_
          refine g_aload_n m99_85 rfl ?_
          refine h_gfI (k := 48 + 2 * ja) (p := 80 + 2 * ja) m99_86 (pSo _) (tSo hs) rfl ((hA.out (by omega) (fun z => by rcases z with z | z <;> omega)).trans hBa.2.2.2) ?_
          refine g_aload_n m99_89 rfl ?_
          refine h_gfR (c := 33) (k := 0) (p := 32) m99_90 rfl (t_0 _ _) rfl (Nat.le_of_ble_eq_true rfl) ?_
          refine h_gfI (k := 1) (p := 33) m99_93 rfl (t_1 _ _) rfl ((hA.rd (by decide) (j := 0) (i := 10) (by decide)).trans hd) ?_
          refine h_ic_ne (xi := ((Ln ja : Nat) : Int)) (zi := ((n : Nat) : Int)) m99_96 (nI_toInt (by omega)) (nI_toInt (by omega)) (fun c2 => ?_) (fun c2 => ?_)
          · skip
            refine g_iconst m99_99 ?_
            refine g_goto m99_100 ?_
            refine g_iret m99_104 rt_99 ?_
            have h9 := hY ja rfl (by omega) (by omega) m2 (AtX.back hA)
            rw [← hfin, show endF q n (Ln ja) = -1 from if_pos ⟨by omega, by omega⟩] at h9
            exact h9
          · skip
            refine g_iload_n m99_103 rfl ?_
            refine g_iret m99_104 rt_99 ?_
            have h9 := hY ja rfl (by omega) (by omega) m2 (AtX.back hA)
            rw [← hfin, show endF q n (Ln ja) = nI q from if_neg (fun z => by omega)] at h9
            first | exact h9 | (rw [show min (Ln ja) n = q by omega]; exact h9)
        | succ r ih =>
          intro q m2 hq hA hfin
          refine g_iload m99_52 rfl ?_
          refine g_iload_n m99_54 rfl ?_
          refine h_ic_geF (xi := ((q : Nat) : Int)) (zi := ((min (Ln ja) n : Nat) : Int)) m99_55 (nI_toInt (by omega)) (nI_toInt (by omega)) (by omega) ?_
          refine g_aload_n m99_58 rfl ?_
          refine g_iload m99_59 rfl ?_
          refine g_aload_n m99_61 rfl ?_
          refine h_gfR (c := 33) (k := 0) (p := 32) m99_62 rfl (t_0 _ _) rfl (Nat.le_of_ble_eq_true rfl) ?_
          refine g_iload m99_65 rfl ?_
          refine h_cv (k := 1) (p := 33) (args := [.int (nI (q))]) (rest := [.int (nI (q)), .ref (80 + 2 * ja)]) m99_67 cn_34 (Nat.le_of_ble_eq_true rfl) rfl rfl rfl (t_1 _ _) (Nat.le_of_ble_eq_true rfl) ?_
          refine c_face (t := 0) (m0 := m) (X := vw m 0) (by decide) hL hA rfl hix (by omega) ((hW.2.2 q (by omega)).2.1) (fun m3 hA3 => ?_)
          refine gwr ?_
          refine h_cv (k := 48 + 2 * ja) (p := 80 + 2 * ja) (args := [.int (nI (q)), .int (faceF (lkF m ln (m 1 11)) (vw m 0) q)]) (rest := []) m99_70 cn_29 (Nat.le_of_ble_eq_true rfl) rfl rfl (pSo _) (tSo hs) (Nat.le_of_ble_eq_true rfl) ?_
          have e49 : m3 (49 + 2 * ja) q = m (49 + 2 * ja) q := hA3.out (by omega) (fun z => by rcases z with z | z <;> omega)
          refine c_holds hs (by omega) hBa.1 ((hA3.out (by omega) (fun z => by rcases z with z | z <;> omega)).trans hBa.2.2.1) (fun a_2 => ?_) (fun a_2 => ?_)
          · rw [run_y (p := (fun q => decide (m (49 + 2 * ja) q = lowF (B ja) (faceF (lkF m ln (m 1 11)) (vw m 0) q)))) (decide_eq_true (e49.symm.trans a_2))] at hfin
            refine gwr ?_
            refine h_if_neF (xi := 1) (zi := 0) m99_73 rfl rfl (by decide) ?_
            refine g_iinc (L2 := [some (.ref (32)), some (.int (nI (ja))), some (.ref (80 + 2 * ja)), some (.int (nI (min (Ln ja) n))), some (.int (nI (q + 1)))]) m99_79 rfl (nI_1 _) rfl rfl ?_
            refine g_goto m99_82 ?_
            exact ih (q + 1) _ (by omega) hA3 hfin
          · rw [run_n (p := (fun q => decide (m (49 + 2 * ja) q = lowF (B ja) (faceF (lkF m ln (m 1 11)) (vw m 0) q)))) (by show ¬ decide _ = true; rw [decide_eq_true_eq, ← e49]; exact a_2)] at hfin
            refine gwr ?_
            refine h_if_neT (xi := 0) (zi := 0) m99_73 rfl rfl (by decide) ?_
            refine g_iload m99_76 rfl ?_
            refine g_iret m99_78 rt_99 ?_
            have h9 := hY ja rfl (by omega) (by omega) m3 (AtX.back hA3)
            rw [← hfin, show endF q n (Ln ja) = nI q from if_neg (fun z => by omega)] at h9
            first | exact h9 | (rw [show min (Ln ja) n = q by omega]; exact h9)
      exact key (min (Ln ja) n) 0 m (by omega) (AtX.self m 0) rfl
  · skip
    refine gwr ?_
    refine h_if_neT (xi := 0) (zi := 0) m99_5 rfl rfl (by decide) ?_
    refine g_aload_n m99_8 rfl ?_
    refine g_iconst m99_9 ?_
    refine h_cv (k := 0) (p := 32) (args := [.int (1)]) (rest := []) m99_10 cn_55 (Nat.le_of_ble_eq_true rfl) rfl rfl rfl (t_0 _ _) (Nat.le_of_ble_eq_true rfl) ?_
    refine c_error (e := 1) (by decide) (by decide) ?_
    refine gwr ?_
    refine g_iret m99_13 rt_99 ?_
    exact hE1 (by omega)
set_option maxRecDepth 20000 in
set_option maxHeartbeats 40000000 in
theorem m_judge {a : Int32} {n : Nat} {B Ln : Nat → Nat} (hd : m 58 2 = nI n) (hn : n ≤ 8) (hX0 : TxOk (m 58) 0) (hWY : WF (vr (m 58))) (hB : ∀ s, s < 4 → (B s = 0 ∨ B s = 8 ∨ B s = 16 ∨ B s = 32) ∧ Ln s ≤ 40 ∧ m 63 s = nI (B s) ∧ m 64 s = nI (Ln s)) (hE1 : (a.toInt < 0 ∨ 3 < a.toInt) → Q (some (.int (-1000000001))) (H (ers m 1) ln N)) (hE2 : (∃ s : Nat, a = nI s ∧ s < 4 ∧ B s = 0) → Q (some (.int (-1000000002))) (H (ers m 2) ln N)) (hY : ∀ s : Nat, a = nI s → s < 4 → B s ≠ 0 → ∀ m2, EqM m m2 → Q (some (.int (endF (runF (fun q => decide (m 65 (40 * s + q) = faceF (rkF (m 58)) (vr (m 58)) q)) (min (Ln s) n) 0) n (Ln s)))) (H m2 ln N)) : WP xs (d + 813) 183 0 0 [.ref (89), .int (a)] (H m ln N) Q := by
  refine wp_x mx_183 (L := [some (.ref (89)), some (.int (a)), none]) (Nat.le_of_ble_eq_true rfl) rfl ?_
  refine g_iload_n m183_0 rfl ?_
  refine g_cs (args := [.int (a)]) (rest := []) 0 (Or.inl rfl) m183_1 (Nat.le_of_ble_eq_true rfl) rfl rfl (Nat.le_of_ble_eq_true rfl) ?_
  refine c_isSheet (fun ja ea a_3 => ?_) (fun a_3 => ?_)
  · subst ea
    refine gwr ?_
    refine h_if_neF (xi := 1) (zi := 0) m183_4 rfl rfl (by decide) ?_
    refine g_aload_n m183_14 rfl ?_
    refine h_gfR (c := 95) (k := 57) (p := 89) m183_15 rfl (t_57 _ _) rfl (Nat.le_of_ble_eq_true rfl) ?_
    refine g_iload_n m183_18 rfl ?_
    have hs : ja < 4 := by omega
    have hBa := hB ja hs
    refine h_ial (k := 63) (p := 95) (j := ja) m183_19 rfl (t_63 _ _) (rfl) (by omega) (Nat.le_of_ble_eq_true rfl) (hBa.2.2.1) ?_
    refine h_if_ne (xi := ((B ja : Nat) : Int)) (zi := 0) m183_20 (nI_toInt (by omega)) rfl (fun c1 => ?_) (fun c1 => ?_)
    · skip
      refine g_aload_n m183_23 rfl ?_
      refine g_ldci m183_24 rfl ?_
      refine h_cv (k := 57) (p := 89) (args := [.int (-1000000002)]) (rest := []) m183_26 cn_108 (Nat.le_of_ble_eq_true rfl) rfl rfl rfl (t_57 _ _) (Nat.le_of_ble_eq_true rfl) ?_
      refine c_errs (e := 2) (by decide) (by decide) (by decide) ?_
      refine gwr ?_
      refine g_iret m183_29 rt_183 ?_
      exact hE2 ⟨ja, rfl, by omega, by omega⟩
    · skip
      refine g_iconst m183_30 ?_
      refine g_istore_n (L2 := [some (.ref (89)), some (.int (nI (ja))), some (.int (0))]) m183_31 rfl rfl ?_
      have key : ∀ (r : Nat) (q : Nat) (m2 : MW), q + r = min (Ln ja) n → AtY m (vr (m 58)) m2 → runF (fun q => decide (m 65 (40 * ja + q) = faceF (rkF (m 58)) (vr (m 58)) q)) r q = runF (fun q => decide (m 65 (40 * ja + q) = faceF (rkF (m 58)) (vr (m 58)) q)) (min (Ln ja) n) 0 → gw xs (WP xs (d + 812)) 183 Q 32 [some (.ref (89)), some (.int (nI (ja))), some (.int (nI (q)))] [] (H m2 ln N) 0 0 := by
        intro r
        induction r with
        | zero =>
          intro q m2 hq hA hfin
          have hfin : q = runF (fun q => decide (m 65 (40 * ja + q) = faceF (rkF (m 58)) (vr (m 58)) q)) (min (Ln ja) n) 0 := hfin
          refine g_iload_n m183_32 rfl ?_
          refine g_aload_n m183_33 rfl ?_
          refine h_gfR (c := 90) (k := 57) (p := 89) m183_34 rfl (t_57 _ _) rfl (Nat.le_of_ble_eq_true rfl) ?_
          refine g_iconst m183_37 ?_
          refine h_ial (k := 58) (p := 90) (j := 2) m183_38 rfl (t_58 _ _) (rfl) (by omega) (Nat.le_of_ble_eq_true rfl) (hA.r2.trans hd) ?_
          refine h_ic_ge (xi := ((q : Nat) : Int)) (zi := ((n : Nat) : Int)) m183_39 (nI_toInt (by omega)) (nI_toInt (by omega)) (fun c2 => ?_) (fun c2 => ?_)
          · skip
            refine g_iload_n m183_77 rfl ?_
            refine g_aload_n m183_78 rfl ?_
            refine h_gfR (c := 90) (k := 57) (p := 89) m183_79 rfl (t_57 _ _) rfl (Nat.le_of_ble_eq_true rfl) ?_
            refine g_iconst m183_82 ?_
            refine h_ial (k := 58) (p := 90) (j := 2) m183_83 rfl (t_58 _ _) (rfl) (by omega) (Nat.le_of_ble_eq_true rfl) (hA.r2.trans hd) ?_
            refine h_ic_ne (xi := ((q : Nat) : Int)) (zi := ((n : Nat) : Int)) m183_84 (nI_toInt (by omega)) (nI_toInt (by omega)) (fun c3 => ?_) (fun c3 => ?_)
            · skip
              refine g_iload_n m183_87 rfl ?_
              refine g_aload_n m183_88 rfl ?_
              refine h_gfR (c := 96) (k := 57) (p := 89) m183_89 rfl (t_57 _ _) rfl (Nat.le_of_ble_eq_true rfl) ?_
              refine g_iload_n m183_92 rfl ?_
              refine h_ial (k := 64) (p := 96) (j := ja) m183_93 rfl (t_64 _ _) (rfl) (by omega) (Nat.le_of_ble_eq_true rfl) ((hA.out (by decide) (fun z => by rcases z with z | z <;> omega)).trans hBa.2.2.2) ?_
              refine h_ic_ne (xi := ((q : Nat) : Int)) (zi := ((Ln ja : Nat) : Int)) m183_94 (nI_toInt (by omega)) (nI_toInt (by omega)) (fun c4 => ?_) (fun c4 => ?_)
              · skip
                refine g_iconst m183_97 ?_
                refine g_goto m183_98 ?_
                refine g_iret m183_102 rt_183 ?_
                first | (exfalso; omega) | (have h9 := hY ja rfl (by omega) (by omega) m2 (AtY.back hA); rw [← hfin, show endF q n (Ln ja) = -1 from if_pos ⟨by omega, by omega⟩] at h9; exact h9)
              · skip
                refine g_iload_n m183_101 rfl ?_
                refine g_iret m183_102 rt_183 ?_
                first | (exfalso; omega) | (have h9 := hY ja rfl (by omega) (by omega) m2 (AtY.back hA); rw [← hfin, show endF q n (Ln ja) = nI q from if_neg (fun z => by omega)] at h9; exact h9)
            · skip
              refine g_iload_n m183_101 rfl ?_
              refine g_iret m183_102 rt_183 ?_
              first | (exfalso; omega) | (have h9 := hY ja rfl (by omega) (by omega) m2 (AtY.back hA); rw [← hfin, show endF q n (Ln ja) = nI q from if_neg (fun z => by omega)] at h9; exact h9)
          · skip
            refine g_iload_n m183_42 rfl ?_
            refine g_aload_n m183_43 rfl ?_
            refine h_gfR (c := 96) (k := 57) (p := 89) m183_44 rfl (t_57 _ _) rfl (Nat.le_of_ble_eq_true rfl) ?_
            refine g_iload_n m183_47 rfl ?_
            refine h_ial (k := 64) (p := 96) (j := ja) m183_48 rfl (t_64 _ _) (rfl) (by omega) (Nat.le_of_ble_eq_true rfl) ((hA.out (by decide) (fun z => by rcases z with z | z <;> omega)).trans hBa.2.2.2) ?_
            refine h_ic_ge (xi := ((q : Nat) : Int)) (zi := ((Ln ja : Nat) : Int)) m183_49 (nI_toInt (by omega)) (nI_toInt (by omega)) (fun c5 => ?_) (fun c5 => ?_)
            · skip
              refine g_iload_n m183_77 rfl ?_
              refine g_aload_n m183_78 rfl ?_
              refine h_gfR (c := 90) (k := 57) (p := 89) m183_79 rfl (t_57 _ _) rfl (Nat.le_of_ble_eq_true rfl) ?_
              refine g_iconst m183_82 ?_
              refine h_ial (k := 58) (p := 90) (j := 2) m183_83 rfl (t_58 _ _) (rfl) (by omega) (Nat.le_of_ble_eq_true rfl) (hA.r2.trans hd) ?_
              refine h_ic_ne (xi := ((q : Nat) : Int)) (zi := ((n : Nat) : Int)) m183_84 (nI_toInt (by omega)) (nI_toInt (by omega)) (fun c6 => ?_) (fun c6 => ?_)
              · skip
                refine g_iload_n m183_87 rfl ?_
                refine g_aload_n m183_88 rfl ?_
                refine h_gfR (c := 96) (k := 57) (p := 89) m183_89 rfl (t_57 _ _) rfl (Nat.le_of_ble_eq_true rfl) ?_
                refine g_iload_n m183_92 rfl ?_
                refine h_ial (k := 64) (p := 96) (j := ja) m183_93 rfl (t_64 _ _) (rfl) (by omega) (Nat.le_of_ble_eq_true rfl) ((hA.out (by decide) (fun z => by rcases z with z | z <;> omega)).trans hBa.2.2.2) ?_
                refine h_ic_ne (xi := ((q : Nat) : Int)) (zi := ((Ln ja : Nat) : Int)) m183_94 (nI_toInt (by omega)) (nI_toInt (by omega)) (fun c7 => ?_) (fun c7 => ?_)
                · skip
                  refine g_iconst m183_97 ?_
                  refine g_goto m183_98 ?_
                  refine g_iret m183_102 rt_183 ?_
                  first | (exfalso; omega) | (have h9 := hY ja rfl (by omega) (by omega) m2 (AtY.back hA); rw [← hfin, show endF q n (Ln ja) = -1 from if_pos ⟨by omega, by omega⟩] at h9; exact h9)
                · skip
                  refine g_iload_n m183_101 rfl ?_
                  refine g_iret m183_102 rt_183 ?_
                  first | (exfalso; omega) | (have h9 := hY ja rfl (by omega) (by omega) m2 (AtY.back hA); rw [← hfin, show endF q n (Ln ja) = nI q from if_neg (fun z => by omega)] at h9; exact h9)
              · skip
                refine g_iload_n m183_101 rfl ?_
                refine g_iret m183_102 rt_183 ?_
                first | (exfalso; omega) | (have h9 := hY ja rfl (by omega) (by omega) m2 (AtY.back hA); rw [← hfin, show endF q n (Ln ja) = nI q from if_neg (fun z => by omega)] at h9; exact h9)
            · skip
              exfalso
              omega
        | succ r ih =>
          intro q m2 hq hA hfin
          refine g_iload_n m183_32 rfl ?_
          refine g_aload_n m183_33 rfl ?_
          refine h_gfR (c := 90) (k := 57) (p := 89) m183_34 rfl (t_57 _ _) rfl (Nat.le_of_ble_eq_true rfl) ?_
          refine g_iconst m183_37 ?_
          refine h_ial (k := 58) (p := 90) (j := 2) m183_38 rfl (t_58 _ _) (rfl) (by omega) (Nat.le_of_ble_eq_true rfl) (hA.r2.trans hd) ?_
          refine h_ic_geF (xi := ((q : Nat) : Int)) (zi := ((n : Nat) : Int)) m183_39 (nI_toInt (by omega)) (nI_toInt (by omega)) (by omega) ?_
          refine g_iload_n m183_42 rfl ?_
          refine g_aload_n m183_43 rfl ?_
          refine h_gfR (c := 96) (k := 57) (p := 89) m183_44 rfl (t_57 _ _) rfl (Nat.le_of_ble_eq_true rfl) ?_
          refine g_iload_n m183_47 rfl ?_
          refine h_ial (k := 64) (p := 96) (j := ja) m183_48 rfl (t_64 _ _) (rfl) (by omega) (Nat.le_of_ble_eq_true rfl) ((hA.out (by decide) (fun z => by rcases z with z | z <;> omega)).trans hBa.2.2.2) ?_
          refine h_ic_geF (xi := ((q : Nat) : Int)) (zi := ((Ln ja : Nat) : Int)) m183_49 (nI_toInt (by omega)) (nI_toInt (by omega)) (by omega) ?_
          refine g_aload_n m183_52 rfl ?_
          refine h_gfR (c := 97) (k := 57) (p := 89) m183_53 rfl (t_57 _ _) rfl (Nat.le_of_ble_eq_true rfl) ?_
          refine g_bipush m183_56 ?_
          refine g_iload_n m183_58 rfl ?_
          refine g_imul (u := nI (40 * ja)) m183_59 (pk_mul 40 ja) ?_
          refine g_iload_n m183_60 rfl ?_
          refine g_iadd (u := nI ((40 * ja) + q)) m183_61 (nI_add (40 * ja) q) ?_
          refine h_ial (k := 65) (p := 97) (j := (40 * ja) + q) m183_62 rfl (t_65 _ _) (rfl) (by omega) (Nat.le_of_ble_eq_true rfl) (hA.out (by decide) (fun z => by rcases z with z | z <;> omega)) ?_
          refine g_aload_n m183_63 rfl ?_
          refine g_iload_n m183_64 rfl ?_
          refine h_cv (k := 57) (p := 89) (args := [.int (nI (q))]) (rest := [.int (m 65 (40 * ja + q))]) m183_65 cn_132 (Nat.le_of_ble_eq_true rfl) rfl rfl rfl (t_57 _ _) (Nat.le_of_ble_eq_true rfl) ?_
          refine c_faceM hA hX0 (by omega) ((hWY.2.2 q (by omega)).2.1) (fun m3 hA3 => ?_)
          refine gwr ?_
          refine h_ic_ne (xi := _) (zi := _) m183_68 rfl rfl (fun c8 => ?_) (fun c8 => ?_)
          · skip
            refine g_iinc (L2 := [some (.ref (89)), some (.int (nI (ja))), some (.int (nI (q + 1)))]) m183_71 rfl (nI_1 _) rfl rfl ?_
            refine g_goto m183_74 ?_
            rw [run_y (p := (fun q => decide (m 65 (40 * ja + q) = faceF (rkF (m 58)) (vr (m 58)) q))) (decide_eq_true (Int32.toInt_inj.mp c8))] at hfin
            exact ih (q + 1) _ (by omega) hA3 hfin
          · skip
            rw [run_n (p := (fun q => decide (m 65 (40 * ja + q) = faceF (rkF (m 58)) (vr (m 58)) q))) (by show ¬ decide _ = true; rw [decide_eq_true_eq]; exact fun z => c8 (congrArg Int32.toInt z))] at hfin
            refine g_iload_n m183_77 rfl ?_
            refine g_aload_n m183_78 rfl ?_
            refine h_gfR (c := 90) (k := 57) (p := 89) m183_79 rfl (t_57 _ _) rfl (Nat.le_of_ble_eq_true rfl) ?_
            refine g_iconst m183_82 ?_
            refine h_ial (k := 58) (p := 90) (j := 2) m183_83 rfl (t_58 _ _) (rfl) (by omega) (Nat.le_of_ble_eq_true rfl) (hA3.r2.trans hd) ?_
            refine h_ic_ne (xi := ((q : Nat) : Int)) (zi := ((n : Nat) : Int)) m183_84 (nI_toInt (by omega)) (nI_toInt (by omega)) (fun c9 => ?_) (fun c9 => ?_)
            · skip
              refine g_iload_n m183_87 rfl ?_
              refine g_aload_n m183_88 rfl ?_
              refine h_gfR (c := 96) (k := 57) (p := 89) m183_89 rfl (t_57 _ _) rfl (Nat.le_of_ble_eq_true rfl) ?_
              refine g_iload_n m183_92 rfl ?_
              refine h_ial (k := 64) (p := 96) (j := ja) m183_93 rfl (t_64 _ _) (rfl) (by omega) (Nat.le_of_ble_eq_true rfl) ((hA3.out (by decide) (fun z => by rcases z with z | z <;> omega)).trans hBa.2.2.2) ?_
              refine h_ic_ne (xi := ((q : Nat) : Int)) (zi := ((Ln ja : Nat) : Int)) m183_94 (nI_toInt (by omega)) (nI_toInt (by omega)) (fun c10 => ?_) (fun c10 => ?_)
              · skip
                refine g_iconst m183_97 ?_
                refine g_goto m183_98 ?_
                refine g_iret m183_102 rt_183 ?_
                first | (exfalso; omega) | (have h9 := hY ja rfl (by omega) (by omega) m3 (AtY.back hA3); rw [← hfin, show endF q n (Ln ja) = -1 from if_pos ⟨by omega, by omega⟩] at h9; exact h9)
              · skip
                refine g_iload_n m183_101 rfl ?_
                refine g_iret m183_102 rt_183 ?_
                first | (exfalso; omega) | (have h9 := hY ja rfl (by omega) (by omega) m3 (AtY.back hA3); rw [← hfin, show endF q n (Ln ja) = nI q from if_neg (fun z => by omega)] at h9; exact h9)
            · skip
              refine g_iload_n m183_101 rfl ?_
              refine g_iret m183_102 rt_183 ?_
              first | (exfalso; omega) | (have h9 := hY ja rfl (by omega) (by omega) m3 (AtY.back hA3); rw [← hfin, show endF q n (Ln ja) = nI q from if_neg (fun z => by omega)] at h9; exact h9)
      exact key (min (Ln ja) n) 0 m (by omega) (AtY.self m) rfl
  · skip
    refine gwr ?_
    refine h_if_neT (xi := 0) (zi := 0) m183_4 rfl rfl (by decide) ?_
    refine g_aload_n m183_7 rfl ?_
    refine g_ldci m183_8 rfl ?_
    refine h_cv (k := 57) (p := 89) (args := [.int (-1000000001)]) (rest := []) m183_10 cn_108 (Nat.le_of_ble_eq_true rfl) rfl rfl rfl (t_57 _ _) (Nat.le_of_ble_eq_true rfl) ?_
    refine c_errs (e := 1) (by decide) (by decide) (by decide) ?_
    refine gwr ?_
    refine g_iret m183_13 rt_183 ?_
    exact hE1 (by omega)
set_option maxRecDepth 20000 in
set_option maxHeartbeats 40000000 in
theorem c_isUnder {k u : Nat} (hk : k < 7) (hu : u < 7) (hQ : Q (some (.int (if underF k u = true then 1 else 0))) h) : WP xs (d + 2) 65 0 0 [.int (nI (k)), .int (nI (u))] h Q := by
  refine wp_x mx_65 (L := [some (.int (nI (k))), some (.int (nI (u))), none, none]) (Nat.le_of_ble_eq_true rfl) rfl ?_
  rcases (show k = 0 ∨ k = 1 ∨ k = 2 ∨ k = 3 ∨ k = 4 ∨ k = 5 ∨ k = 6 by omega) with rfl | rfl | rfl | rfl | rfl | rfl | rfl
  · skip
    refine gwl (L' := [some (.int (0)), some (.int (nI (u))), none, none]) rfl ?_
    refine g_iload_n m65_0 rfl ?_
    refine g_istore_n (L2 := [some (.int (0)), some (.int (nI (u))), some (.int (0)), none]) m65_1 rfl rfl ?_
    refine g_iconst m65_2 ?_
    refine g_istore_n (L2 := [some (.int (0)), some (.int (nI (u))), some (.int (0)), some (.int (0))]) m65_3 rfl rfl ?_
    refine g_iload_n m65_4 rfl ?_
    refine g_bipush m65_5 ?_
    refine h_ic_geF (xi := 0) (zi := 7) m65_7 rfl rfl (by decide) ?_
    refine g_iload_n m65_10 rfl ?_
    refine g_bipush m65_11 ?_
    refine g_cs (args := [.int (0), .int (6)]) (rest := []) 0 (Or.inl rfl) m65_13 (Nat.le_of_ble_eq_true rfl) rfl rfl (Nat.le_of_ble_eq_true rfl) ?_
    refine c_withinI (M := 6) (vi := 0) rfl rfl (fun _ => ?_) (fun q => absurd q (by decide))
    refine gwr ?_
    refine h_if_eqF (xi := 1) (zi := 0) m65_16 rfl rfl (by decide) ?_
    refine g_iload_n m65_19 rfl ?_
    refine g_iload_n m65_20 rfl ?_
    refine h_ic_ne (xi := 0) (zi := ((u : Nat) : Int)) m65_21 rfl (nI_toInt (by omega)) (fun c1 => ?_) (fun c1 => ?_)
    · skip
      refine g_iconst m65_24 ?_
      refine g_zret m65_25 rt_65 (Or.inr rfl) ?_
      have e : underF 0 u = true := by
        rcases (show u = 0 ∨ u = 1 ∨ u = 2 ∨ u = 3 ∨ u = 4 ∨ u = 5 ∨ u = 6 by omega) with rfl | rfl | rfl | rfl | rfl | rfl | rfl <;> first | rfl | (exfalso; omega)
      rw [e] at hQ
      exact hQ
    · skip
      refine g_gst m65_26 rfl ?_
      refine g_iload_n m65_29 rfl ?_
      refine g_iald (x := (-1 : Int32)) m65_30 rfl (show vp_in (nI 0) 7 from vp_in_nI (by decide) (by decide)) (by decide +kernel) ?_
      refine g_istore_n (L2 := [some (.int (0)), some (.int (nI (u))), some (.int (-1)), some (.int (0))]) m65_31 rfl rfl ?_
      refine g_iinc (x2 := (1 : Int32)) (L2 := [some (.int (0)), some (.int (nI (u))), some (.int (-1)), some (.int (1))]) m65_32 rfl (by decide) rfl rfl ?_
      refine g_goto m65_35 ?_
      refine g_iload_n m65_4 rfl ?_
      refine g_bipush m65_5 ?_
      refine h_ic_geF (xi := 1) (zi := 7) m65_7 rfl rfl (by decide) ?_
      refine g_iload_n m65_10 rfl ?_
      refine g_bipush m65_11 ?_
      refine g_cs (args := [.int (-1), .int (6)]) (rest := []) 0 (Or.inl rfl) m65_13 (Nat.le_of_ble_eq_true rfl) rfl rfl (Nat.le_of_ble_eq_true rfl) ?_
      refine c_withinI (M := 6) (vi := -1) rfl rfl (fun q => absurd q (by decide)) (fun _ => ?_)
      refine gwr ?_
      refine h_if_eqT (xi := 0) (zi := 0) m65_16 rfl rfl (by decide) ?_
      refine g_iconst m65_38 ?_
      refine g_zret m65_39 rt_65 (Or.inl rfl) ?_
      have e : underF 0 u = false := by
        rcases (show u = 0 ∨ u = 1 ∨ u = 2 ∨ u = 3 ∨ u = 4 ∨ u = 5 ∨ u = 6 by omega) with rfl | rfl | rfl | rfl | rfl | rfl | rfl <;> first | rfl | (exfalso; omega)
      rw [e] at hQ
      exact hQ
  · skip
    refine gwl (L' := [some (.int (1)), some (.int (nI (u))), none, none]) rfl ?_
    refine g_iload_n m65_0 rfl ?_
    refine g_istore_n (L2 := [some (.int (1)), some (.int (nI (u))), some (.int (1)), none]) m65_1 rfl rfl ?_
    refine g_iconst m65_2 ?_
    refine g_istore_n (L2 := [some (.int (1)), some (.int (nI (u))), some (.int (1)), some (.int (0))]) m65_3 rfl rfl ?_
    refine g_iload_n m65_4 rfl ?_
    refine g_bipush m65_5 ?_
    refine h_ic_geF (xi := 0) (zi := 7) m65_7 rfl rfl (by decide) ?_
    refine g_iload_n m65_10 rfl ?_
    refine g_bipush m65_11 ?_
    refine g_cs (args := [.int (1), .int (6)]) (rest := []) 0 (Or.inl rfl) m65_13 (Nat.le_of_ble_eq_true rfl) rfl rfl (Nat.le_of_ble_eq_true rfl) ?_
    refine c_withinI (M := 6) (vi := 1) rfl rfl (fun _ => ?_) (fun q => absurd q (by decide))
    refine gwr ?_
    refine h_if_eqF (xi := 1) (zi := 0) m65_16 rfl rfl (by decide) ?_
    refine g_iload_n m65_19 rfl ?_
    refine g_iload_n m65_20 rfl ?_
    refine h_ic_ne (xi := 1) (zi := ((u : Nat) : Int)) m65_21 rfl (nI_toInt (by omega)) (fun c2 => ?_) (fun c2 => ?_)
    · skip
      refine g_iconst m65_24 ?_
      refine g_zret m65_25 rt_65 (Or.inr rfl) ?_
      have e : underF 1 u = true := by
        rcases (show u = 0 ∨ u = 1 ∨ u = 2 ∨ u = 3 ∨ u = 4 ∨ u = 5 ∨ u = 6 by omega) with rfl | rfl | rfl | rfl | rfl | rfl | rfl <;> first | rfl | (exfalso; omega)
      rw [e] at hQ
      exact hQ
    · skip
      refine g_gst m65_26 rfl ?_
      refine g_iload_n m65_29 rfl ?_
      refine g_iald (x := (0 : Int32)) m65_30 rfl (show vp_in (nI 1) 7 from vp_in_nI (by decide) (by decide)) (by decide +kernel) ?_
      refine g_istore_n (L2 := [some (.int (1)), some (.int (nI (u))), some (.int (0)), some (.int (0))]) m65_31 rfl rfl ?_
      refine g_iinc (x2 := (1 : Int32)) (L2 := [some (.int (1)), some (.int (nI (u))), some (.int (0)), some (.int (1))]) m65_32 rfl (by decide) rfl rfl ?_
      refine g_goto m65_35 ?_
      refine g_iload_n m65_4 rfl ?_
      refine g_bipush m65_5 ?_
      refine h_ic_geF (xi := 1) (zi := 7) m65_7 rfl rfl (by decide) ?_
      refine g_iload_n m65_10 rfl ?_
      refine g_bipush m65_11 ?_
      refine g_cs (args := [.int (0), .int (6)]) (rest := []) 0 (Or.inl rfl) m65_13 (Nat.le_of_ble_eq_true rfl) rfl rfl (Nat.le_of_ble_eq_true rfl) ?_
      refine c_withinI (M := 6) (vi := 0) rfl rfl (fun _ => ?_) (fun q => absurd q (by decide))
      refine gwr ?_
      refine h_if_eqF (xi := 1) (zi := 0) m65_16 rfl rfl (by decide) ?_
      refine g_iload_n m65_19 rfl ?_
      refine g_iload_n m65_20 rfl ?_
      refine h_ic_ne (xi := 0) (zi := ((u : Nat) : Int)) m65_21 rfl (nI_toInt (by omega)) (fun c3 => ?_) (fun c3 => ?_)
      · skip
        refine g_iconst m65_24 ?_
        refine g_zret m65_25 rt_65 (Or.inr rfl) ?_
        have e : underF 1 u = true := by
          rcases (show u = 0 ∨ u = 1 ∨ u = 2 ∨ u = 3 ∨ u = 4 ∨ u = 5 ∨ u = 6 by omega) with rfl | rfl | rfl | rfl | rfl | rfl | rfl <;> first | rfl | (exfalso; omega)
        rw [e] at hQ
        exact hQ
      · skip
        refine g_gst m65_26 rfl ?_
        refine g_iload_n m65_29 rfl ?_
        refine g_iald (x := (-1 : Int32)) m65_30 rfl (show vp_in (nI 0) 7 from vp_in_nI (by decide) (by decide)) (by decide +kernel) ?_
        refine g_istore_n (L2 := [some (.int (1)), some (.int (nI (u))), some (.int (-1)), some (.int (1))]) m65_31 rfl rfl ?_
        refine g_iinc (x2 := (2 : Int32)) (L2 := [some (.int (1)), some (.int (nI (u))), some (.int (-1)), some (.int (2))]) m65_32 rfl (by decide) rfl rfl ?_
        refine g_goto m65_35 ?_
        refine g_iload_n m65_4 rfl ?_
        refine g_bipush m65_5 ?_
        refine h_ic_geF (xi := 2) (zi := 7) m65_7 rfl rfl (by decide) ?_
        refine g_iload_n m65_10 rfl ?_
        refine g_bipush m65_11 ?_
        refine g_cs (args := [.int (-1), .int (6)]) (rest := []) 0 (Or.inl rfl) m65_13 (Nat.le_of_ble_eq_true rfl) rfl rfl (Nat.le_of_ble_eq_true rfl) ?_
        refine c_withinI (M := 6) (vi := -1) rfl rfl (fun q => absurd q (by decide)) (fun _ => ?_)
        refine gwr ?_
        refine h_if_eqT (xi := 0) (zi := 0) m65_16 rfl rfl (by decide) ?_
        refine g_iconst m65_38 ?_
        refine g_zret m65_39 rt_65 (Or.inl rfl) ?_
        have e : underF 1 u = false := by
          rcases (show u = 0 ∨ u = 1 ∨ u = 2 ∨ u = 3 ∨ u = 4 ∨ u = 5 ∨ u = 6 by omega) with rfl | rfl | rfl | rfl | rfl | rfl | rfl <;> first | rfl | (exfalso; omega)
        rw [e] at hQ
        exact hQ
  · skip
    refine gwl (L' := [some (.int (2)), some (.int (nI (u))), none, none]) rfl ?_
    refine g_iload_n m65_0 rfl ?_
    refine g_istore_n (L2 := [some (.int (2)), some (.int (nI (u))), some (.int (2)), none]) m65_1 rfl rfl ?_
    refine g_iconst m65_2 ?_
    refine g_istore_n (L2 := [some (.int (2)), some (.int (nI (u))), some (.int (2)), some (.int (0))]) m65_3 rfl rfl ?_
    refine g_iload_n m65_4 rfl ?_
    refine g_bipush m65_5 ?_
    refine h_ic_geF (xi := 0) (zi := 7) m65_7 rfl rfl (by decide) ?_
    refine g_iload_n m65_10 rfl ?_
    refine g_bipush m65_11 ?_
    refine g_cs (args := [.int (2), .int (6)]) (rest := []) 0 (Or.inl rfl) m65_13 (Nat.le_of_ble_eq_true rfl) rfl rfl (Nat.le_of_ble_eq_true rfl) ?_
    refine c_withinI (M := 6) (vi := 2) rfl rfl (fun _ => ?_) (fun q => absurd q (by decide))
    refine gwr ?_
    refine h_if_eqF (xi := 1) (zi := 0) m65_16 rfl rfl (by decide) ?_
    refine g_iload_n m65_19 rfl ?_
    refine g_iload_n m65_20 rfl ?_
    refine h_ic_ne (xi := 2) (zi := ((u : Nat) : Int)) m65_21 rfl (nI_toInt (by omega)) (fun c4 => ?_) (fun c4 => ?_)
    · skip
      refine g_iconst m65_24 ?_
      refine g_zret m65_25 rt_65 (Or.inr rfl) ?_
      have e : underF 2 u = true := by
        rcases (show u = 0 ∨ u = 1 ∨ u = 2 ∨ u = 3 ∨ u = 4 ∨ u = 5 ∨ u = 6 by omega) with rfl | rfl | rfl | rfl | rfl | rfl | rfl <;> first | rfl | (exfalso; omega)
      rw [e] at hQ
      exact hQ
    · skip
      refine g_gst m65_26 rfl ?_
      refine g_iload_n m65_29 rfl ?_
      refine g_iald (x := (0 : Int32)) m65_30 rfl (show vp_in (nI 2) 7 from vp_in_nI (by decide) (by decide)) (by decide +kernel) ?_
      refine g_istore_n (L2 := [some (.int (2)), some (.int (nI (u))), some (.int (0)), some (.int (0))]) m65_31 rfl rfl ?_
      refine g_iinc (x2 := (1 : Int32)) (L2 := [some (.int (2)), some (.int (nI (u))), some (.int (0)), some (.int (1))]) m65_32 rfl (by decide) rfl rfl ?_
      refine g_goto m65_35 ?_
      refine g_iload_n m65_4 rfl ?_
      refine g_bipush m65_5 ?_
      refine h_ic_geF (xi := 1) (zi := 7) m65_7 rfl rfl (by decide) ?_
      refine g_iload_n m65_10 rfl ?_
      refine g_bipush m65_11 ?_
      refine g_cs (args := [.int (0), .int (6)]) (rest := []) 0 (Or.inl rfl) m65_13 (Nat.le_of_ble_eq_true rfl) rfl rfl (Nat.le_of_ble_eq_true rfl) ?_
      refine c_withinI (M := 6) (vi := 0) rfl rfl (fun _ => ?_) (fun q => absurd q (by decide))
      refine gwr ?_
      refine h_if_eqF (xi := 1) (zi := 0) m65_16 rfl rfl (by decide) ?_
      refine g_iload_n m65_19 rfl ?_
      refine g_iload_n m65_20 rfl ?_
      refine h_ic_ne (xi := 0) (zi := ((u : Nat) : Int)) m65_21 rfl (nI_toInt (by omega)) (fun c5 => ?_) (fun c5 => ?_)
      · skip
        refine g_iconst m65_24 ?_
        refine g_zret m65_25 rt_65 (Or.inr rfl) ?_
        have e : underF 2 u = true := by
          rcases (show u = 0 ∨ u = 1 ∨ u = 2 ∨ u = 3 ∨ u = 4 ∨ u = 5 ∨ u = 6 by omega) with rfl | rfl | rfl | rfl | rfl | rfl | rfl <;> first | rfl | (exfalso; omega)
        rw [e] at hQ
        exact hQ
      · skip
        refine g_gst m65_26 rfl ?_
        refine g_iload_n m65_29 rfl ?_
        refine g_iald (x := (-1 : Int32)) m65_30 rfl (show vp_in (nI 0) 7 from vp_in_nI (by decide) (by decide)) (by decide +kernel) ?_
        refine g_istore_n (L2 := [some (.int (2)), some (.int (nI (u))), some (.int (-1)), some (.int (1))]) m65_31 rfl rfl ?_
        refine g_iinc (x2 := (2 : Int32)) (L2 := [some (.int (2)), some (.int (nI (u))), some (.int (-1)), some (.int (2))]) m65_32 rfl (by decide) rfl rfl ?_
        refine g_goto m65_35 ?_
        refine g_iload_n m65_4 rfl ?_
        refine g_bipush m65_5 ?_
        refine h_ic_geF (xi := 2) (zi := 7) m65_7 rfl rfl (by decide) ?_
        refine g_iload_n m65_10 rfl ?_
        refine g_bipush m65_11 ?_
        refine g_cs (args := [.int (-1), .int (6)]) (rest := []) 0 (Or.inl rfl) m65_13 (Nat.le_of_ble_eq_true rfl) rfl rfl (Nat.le_of_ble_eq_true rfl) ?_
        refine c_withinI (M := 6) (vi := -1) rfl rfl (fun q => absurd q (by decide)) (fun _ => ?_)
        refine gwr ?_
        refine h_if_eqT (xi := 0) (zi := 0) m65_16 rfl rfl (by decide) ?_
        refine g_iconst m65_38 ?_
        refine g_zret m65_39 rt_65 (Or.inl rfl) ?_
        have e : underF 2 u = false := by
          rcases (show u = 0 ∨ u = 1 ∨ u = 2 ∨ u = 3 ∨ u = 4 ∨ u = 5 ∨ u = 6 by omega) with rfl | rfl | rfl | rfl | rfl | rfl | rfl <;> first | rfl | (exfalso; omega)
        rw [e] at hQ
        exact hQ
  · skip
    refine gwl (L' := [some (.int (3)), some (.int (nI (u))), none, none]) rfl ?_
    refine g_iload_n m65_0 rfl ?_
    refine g_istore_n (L2 := [some (.int (3)), some (.int (nI (u))), some (.int (3)), none]) m65_1 rfl rfl ?_
    refine g_iconst m65_2 ?_
    refine g_istore_n (L2 := [some (.int (3)), some (.int (nI (u))), some (.int (3)), some (.int (0))]) m65_3 rfl rfl ?_
    refine g_iload_n m65_4 rfl ?_
    refine g_bipush m65_5 ?_
    refine h_ic_geF (xi := 0) (zi := 7) m65_7 rfl rfl (by decide) ?_
    refine g_iload_n m65_10 rfl ?_
    refine g_bipush m65_11 ?_
    refine g_cs (args := [.int (3), .int (6)]) (rest := []) 0 (Or.inl rfl) m65_13 (Nat.le_of_ble_eq_true rfl) rfl rfl (Nat.le_of_ble_eq_true rfl) ?_
    refine c_withinI (M := 6) (vi := 3) rfl rfl (fun _ => ?_) (fun q => absurd q (by decide))
    refine gwr ?_
    refine h_if_eqF (xi := 1) (zi := 0) m65_16 rfl rfl (by decide) ?_
    refine g_iload_n m65_19 rfl ?_
    refine g_iload_n m65_20 rfl ?_
    refine h_ic_ne (xi := 3) (zi := ((u : Nat) : Int)) m65_21 rfl (nI_toInt (by omega)) (fun c6 => ?_) (fun c6 => ?_)
    · skip
      refine g_iconst m65_24 ?_
      refine g_zret m65_25 rt_65 (Or.inr rfl) ?_
      have e : underF 3 u = true := by
        rcases (show u = 0 ∨ u = 1 ∨ u = 2 ∨ u = 3 ∨ u = 4 ∨ u = 5 ∨ u = 6 by omega) with rfl | rfl | rfl | rfl | rfl | rfl | rfl <;> first | rfl | (exfalso; omega)
      rw [e] at hQ
      exact hQ
    · skip
      refine g_gst m65_26 rfl ?_
      refine g_iload_n m65_29 rfl ?_
      refine g_iald (x := (0 : Int32)) m65_30 rfl (show vp_in (nI 3) 7 from vp_in_nI (by decide) (by decide)) (by decide +kernel) ?_
      refine g_istore_n (L2 := [some (.int (3)), some (.int (nI (u))), some (.int (0)), some (.int (0))]) m65_31 rfl rfl ?_
      refine g_iinc (x2 := (1 : Int32)) (L2 := [some (.int (3)), some (.int (nI (u))), some (.int (0)), some (.int (1))]) m65_32 rfl (by decide) rfl rfl ?_
      refine g_goto m65_35 ?_
      refine g_iload_n m65_4 rfl ?_
      refine g_bipush m65_5 ?_
      refine h_ic_geF (xi := 1) (zi := 7) m65_7 rfl rfl (by decide) ?_
      refine g_iload_n m65_10 rfl ?_
      refine g_bipush m65_11 ?_
      refine g_cs (args := [.int (0), .int (6)]) (rest := []) 0 (Or.inl rfl) m65_13 (Nat.le_of_ble_eq_true rfl) rfl rfl (Nat.le_of_ble_eq_true rfl) ?_
      refine c_withinI (M := 6) (vi := 0) rfl rfl (fun _ => ?_) (fun q => absurd q (by decide))
      refine gwr ?_
      refine h_if_eqF (xi := 1) (zi := 0) m65_16 rfl rfl (by decide) ?_
      refine g_iload_n m65_19 rfl ?_
      refine g_iload_n m65_20 rfl ?_
      refine h_ic_ne (xi := 0) (zi := ((u : Nat) : Int)) m65_21 rfl (nI_toInt (by omega)) (fun c7 => ?_) (fun c7 => ?_)
      · skip
        refine g_iconst m65_24 ?_
        refine g_zret m65_25 rt_65 (Or.inr rfl) ?_
        have e : underF 3 u = true := by
          rcases (show u = 0 ∨ u = 1 ∨ u = 2 ∨ u = 3 ∨ u = 4 ∨ u = 5 ∨ u = 6 by omega) with rfl | rfl | rfl | rfl | rfl | rfl | rfl <;> first | rfl | (exfalso; omega)
        rw [e] at hQ
        exact hQ
      · skip
        refine g_gst m65_26 rfl ?_
        refine g_iload_n m65_29 rfl ?_
        refine g_iald (x := (-1 : Int32)) m65_30 rfl (show vp_in (nI 0) 7 from vp_in_nI (by decide) (by decide)) (by decide +kernel) ?_
        refine g_istore_n (L2 := [some (.int (3)), some (.int (nI (u))), some (.int (-1)), some (.int (1))]) m65_31 rfl rfl ?_
        refine g_iinc (x2 := (2 : Int32)) (L2 := [some (.int (3)), some (.int (nI (u))), some (.int (-1)), some (.int (2))]) m65_32 rfl (by decide) rfl rfl ?_
        refine g_goto m65_35 ?_
        refine g_iload_n m65_4 rfl ?_
        refine g_bipush m65_5 ?_
        refine h_ic_geF (xi := 2) (zi := 7) m65_7 rfl rfl (by decide) ?_
        refine g_iload_n m65_10 rfl ?_
        refine g_bipush m65_11 ?_
        refine g_cs (args := [.int (-1), .int (6)]) (rest := []) 0 (Or.inl rfl) m65_13 (Nat.le_of_ble_eq_true rfl) rfl rfl (Nat.le_of_ble_eq_true rfl) ?_
        refine c_withinI (M := 6) (vi := -1) rfl rfl (fun q => absurd q (by decide)) (fun _ => ?_)
        refine gwr ?_
        refine h_if_eqT (xi := 0) (zi := 0) m65_16 rfl rfl (by decide) ?_
        refine g_iconst m65_38 ?_
        refine g_zret m65_39 rt_65 (Or.inl rfl) ?_
        have e : underF 3 u = false := by
          rcases (show u = 0 ∨ u = 1 ∨ u = 2 ∨ u = 3 ∨ u = 4 ∨ u = 5 ∨ u = 6 by omega) with rfl | rfl | rfl | rfl | rfl | rfl | rfl <;> first | rfl | (exfalso; omega)
        rw [e] at hQ
        exact hQ
  · skip
    refine gwl (L' := [some (.int (4)), some (.int (nI (u))), none, none]) rfl ?_
    refine g_iload_n m65_0 rfl ?_
    refine g_istore_n (L2 := [some (.int (4)), some (.int (nI (u))), some (.int (4)), none]) m65_1 rfl rfl ?_
    refine g_iconst m65_2 ?_
    refine g_istore_n (L2 := [some (.int (4)), some (.int (nI (u))), some (.int (4)), some (.int (0))]) m65_3 rfl rfl ?_
    refine g_iload_n m65_4 rfl ?_
    refine g_bipush m65_5 ?_
    refine h_ic_geF (xi := 0) (zi := 7) m65_7 rfl rfl (by decide) ?_
    refine g_iload_n m65_10 rfl ?_
    refine g_bipush m65_11 ?_
    refine g_cs (args := [.int (4), .int (6)]) (rest := []) 0 (Or.inl rfl) m65_13 (Nat.le_of_ble_eq_true rfl) rfl rfl (Nat.le_of_ble_eq_true rfl) ?_
    refine c_withinI (M := 6) (vi := 4) rfl rfl (fun _ => ?_) (fun q => absurd q (by decide))
    refine gwr ?_
    refine h_if_eqF (xi := 1) (zi := 0) m65_16 rfl rfl (by decide) ?_
    refine g_iload_n m65_19 rfl ?_
    refine g_iload_n m65_20 rfl ?_
    refine h_ic_ne (xi := 4) (zi := ((u : Nat) : Int)) m65_21 rfl (nI_toInt (by omega)) (fun c8 => ?_) (fun c8 => ?_)
    · skip
      refine g_iconst m65_24 ?_
      refine g_zret m65_25 rt_65 (Or.inr rfl) ?_
      have e : underF 4 u = true := by
        rcases (show u = 0 ∨ u = 1 ∨ u = 2 ∨ u = 3 ∨ u = 4 ∨ u = 5 ∨ u = 6 by omega) with rfl | rfl | rfl | rfl | rfl | rfl | rfl <;> first | rfl | (exfalso; omega)
      rw [e] at hQ
      exact hQ
    · skip
      refine g_gst m65_26 rfl ?_
      refine g_iload_n m65_29 rfl ?_
      refine g_iald (x := (1 : Int32)) m65_30 rfl (show vp_in (nI 4) 7 from vp_in_nI (by decide) (by decide)) (by decide +kernel) ?_
      refine g_istore_n (L2 := [some (.int (4)), some (.int (nI (u))), some (.int (1)), some (.int (0))]) m65_31 rfl rfl ?_
      refine g_iinc (x2 := (1 : Int32)) (L2 := [some (.int (4)), some (.int (nI (u))), some (.int (1)), some (.int (1))]) m65_32 rfl (by decide) rfl rfl ?_
      refine g_goto m65_35 ?_
      refine g_iload_n m65_4 rfl ?_
      refine g_bipush m65_5 ?_
      refine h_ic_geF (xi := 1) (zi := 7) m65_7 rfl rfl (by decide) ?_
      refine g_iload_n m65_10 rfl ?_
      refine g_bipush m65_11 ?_
      refine g_cs (args := [.int (1), .int (6)]) (rest := []) 0 (Or.inl rfl) m65_13 (Nat.le_of_ble_eq_true rfl) rfl rfl (Nat.le_of_ble_eq_true rfl) ?_
      refine c_withinI (M := 6) (vi := 1) rfl rfl (fun _ => ?_) (fun q => absurd q (by decide))
      refine gwr ?_
      refine h_if_eqF (xi := 1) (zi := 0) m65_16 rfl rfl (by decide) ?_
      refine g_iload_n m65_19 rfl ?_
      refine g_iload_n m65_20 rfl ?_
      refine h_ic_ne (xi := 1) (zi := ((u : Nat) : Int)) m65_21 rfl (nI_toInt (by omega)) (fun c9 => ?_) (fun c9 => ?_)
      · skip
        refine g_iconst m65_24 ?_
        refine g_zret m65_25 rt_65 (Or.inr rfl) ?_
        have e : underF 4 u = true := by
          rcases (show u = 0 ∨ u = 1 ∨ u = 2 ∨ u = 3 ∨ u = 4 ∨ u = 5 ∨ u = 6 by omega) with rfl | rfl | rfl | rfl | rfl | rfl | rfl <;> first | rfl | (exfalso; omega)
        rw [e] at hQ
        exact hQ
      · skip
        refine g_gst m65_26 rfl ?_
        refine g_iload_n m65_29 rfl ?_
        refine g_iald (x := (0 : Int32)) m65_30 rfl (show vp_in (nI 1) 7 from vp_in_nI (by decide) (by decide)) (by decide +kernel) ?_
        refine g_istore_n (L2 := [some (.int (4)), some (.int (nI (u))), some (.int (0)), some (.int (1))]) m65_31 rfl rfl ?_
        refine g_iinc (x2 := (2 : Int32)) (L2 := [some (.int (4)), some (.int (nI (u))), some (.int (0)), some (.int (2))]) m65_32 rfl (by decide) rfl rfl ?_
        refine g_goto m65_35 ?_
        refine g_iload_n m65_4 rfl ?_
        refine g_bipush m65_5 ?_
        refine h_ic_geF (xi := 2) (zi := 7) m65_7 rfl rfl (by decide) ?_
        refine g_iload_n m65_10 rfl ?_
        refine g_bipush m65_11 ?_
        refine g_cs (args := [.int (0), .int (6)]) (rest := []) 0 (Or.inl rfl) m65_13 (Nat.le_of_ble_eq_true rfl) rfl rfl (Nat.le_of_ble_eq_true rfl) ?_
        refine c_withinI (M := 6) (vi := 0) rfl rfl (fun _ => ?_) (fun q => absurd q (by decide))
        refine gwr ?_
        refine h_if_eqF (xi := 1) (zi := 0) m65_16 rfl rfl (by decide) ?_
        refine g_iload_n m65_19 rfl ?_
        refine g_iload_n m65_20 rfl ?_
        refine h_ic_ne (xi := 0) (zi := ((u : Nat) : Int)) m65_21 rfl (nI_toInt (by omega)) (fun c10 => ?_) (fun c10 => ?_)
        · skip
          refine g_iconst m65_24 ?_
          refine g_zret m65_25 rt_65 (Or.inr rfl) ?_
          have e : underF 4 u = true := by
            rcases (show u = 0 ∨ u = 1 ∨ u = 2 ∨ u = 3 ∨ u = 4 ∨ u = 5 ∨ u = 6 by omega) with rfl | rfl | rfl | rfl | rfl | rfl | rfl <;> first | rfl | (exfalso; omega)
          rw [e] at hQ
          exact hQ
        · skip
          refine g_gst m65_26 rfl ?_
          refine g_iload_n m65_29 rfl ?_
          refine g_iald (x := (-1 : Int32)) m65_30 rfl (show vp_in (nI 0) 7 from vp_in_nI (by decide) (by decide)) (by decide +kernel) ?_
          refine g_istore_n (L2 := [some (.int (4)), some (.int (nI (u))), some (.int (-1)), some (.int (2))]) m65_31 rfl rfl ?_
          refine g_iinc (x2 := (3 : Int32)) (L2 := [some (.int (4)), some (.int (nI (u))), some (.int (-1)), some (.int (3))]) m65_32 rfl (by decide) rfl rfl ?_
          refine g_goto m65_35 ?_
          refine g_iload_n m65_4 rfl ?_
          refine g_bipush m65_5 ?_
          refine h_ic_geF (xi := 3) (zi := 7) m65_7 rfl rfl (by decide) ?_
          refine g_iload_n m65_10 rfl ?_
          refine g_bipush m65_11 ?_
          refine g_cs (args := [.int (-1), .int (6)]) (rest := []) 0 (Or.inl rfl) m65_13 (Nat.le_of_ble_eq_true rfl) rfl rfl (Nat.le_of_ble_eq_true rfl) ?_
          refine c_withinI (M := 6) (vi := -1) rfl rfl (fun q => absurd q (by decide)) (fun _ => ?_)
          refine gwr ?_
          refine h_if_eqT (xi := 0) (zi := 0) m65_16 rfl rfl (by decide) ?_
          refine g_iconst m65_38 ?_
          refine g_zret m65_39 rt_65 (Or.inl rfl) ?_
          have e : underF 4 u = false := by
            rcases (show u = 0 ∨ u = 1 ∨ u = 2 ∨ u = 3 ∨ u = 4 ∨ u = 5 ∨ u = 6 by omega) with rfl | rfl | rfl | rfl | rfl | rfl | rfl <;> first | rfl | (exfalso; omega)
          rw [e] at hQ
          exact hQ
  · skip
    refine gwl (L' := [some (.int (5)), some (.int (nI (u))), none, none]) rfl ?_
    refine g_iload_n m65_0 rfl ?_
    refine g_istore_n (L2 := [some (.int (5)), some (.int (nI (u))), some (.int (5)), none]) m65_1 rfl rfl ?_
    refine g_iconst m65_2 ?_
    refine g_istore_n (L2 := [some (.int (5)), some (.int (nI (u))), some (.int (5)), some (.int (0))]) m65_3 rfl rfl ?_
    refine g_iload_n m65_4 rfl ?_
    refine g_bipush m65_5 ?_
    refine h_ic_geF (xi := 0) (zi := 7) m65_7 rfl rfl (by decide) ?_
    refine g_iload_n m65_10 rfl ?_
    refine g_bipush m65_11 ?_
    refine g_cs (args := [.int (5), .int (6)]) (rest := []) 0 (Or.inl rfl) m65_13 (Nat.le_of_ble_eq_true rfl) rfl rfl (Nat.le_of_ble_eq_true rfl) ?_
    refine c_withinI (M := 6) (vi := 5) rfl rfl (fun _ => ?_) (fun q => absurd q (by decide))
    refine gwr ?_
    refine h_if_eqF (xi := 1) (zi := 0) m65_16 rfl rfl (by decide) ?_
    refine g_iload_n m65_19 rfl ?_
    refine g_iload_n m65_20 rfl ?_
    refine h_ic_ne (xi := 5) (zi := ((u : Nat) : Int)) m65_21 rfl (nI_toInt (by omega)) (fun c11 => ?_) (fun c11 => ?_)
    · skip
      refine g_iconst m65_24 ?_
      refine g_zret m65_25 rt_65 (Or.inr rfl) ?_
      have e : underF 5 u = true := by
        rcases (show u = 0 ∨ u = 1 ∨ u = 2 ∨ u = 3 ∨ u = 4 ∨ u = 5 ∨ u = 6 by omega) with rfl | rfl | rfl | rfl | rfl | rfl | rfl <;> first | rfl | (exfalso; omega)
      rw [e] at hQ
      exact hQ
    · skip
      refine g_gst m65_26 rfl ?_
      refine g_iload_n m65_29 rfl ?_
      refine g_iald (x := (2 : Int32)) m65_30 rfl (show vp_in (nI 5) 7 from vp_in_nI (by decide) (by decide)) (by decide +kernel) ?_
      refine g_istore_n (L2 := [some (.int (5)), some (.int (nI (u))), some (.int (2)), some (.int (0))]) m65_31 rfl rfl ?_
      refine g_iinc (x2 := (1 : Int32)) (L2 := [some (.int (5)), some (.int (nI (u))), some (.int (2)), some (.int (1))]) m65_32 rfl (by decide) rfl rfl ?_
      refine g_goto m65_35 ?_
      refine g_iload_n m65_4 rfl ?_
      refine g_bipush m65_5 ?_
      refine h_ic_geF (xi := 1) (zi := 7) m65_7 rfl rfl (by decide) ?_
      refine g_iload_n m65_10 rfl ?_
      refine g_bipush m65_11 ?_
      refine g_cs (args := [.int (2), .int (6)]) (rest := []) 0 (Or.inl rfl) m65_13 (Nat.le_of_ble_eq_true rfl) rfl rfl (Nat.le_of_ble_eq_true rfl) ?_
      refine c_withinI (M := 6) (vi := 2) rfl rfl (fun _ => ?_) (fun q => absurd q (by decide))
      refine gwr ?_
      refine h_if_eqF (xi := 1) (zi := 0) m65_16 rfl rfl (by decide) ?_
      refine g_iload_n m65_19 rfl ?_
      refine g_iload_n m65_20 rfl ?_
      refine h_ic_ne (xi := 2) (zi := ((u : Nat) : Int)) m65_21 rfl (nI_toInt (by omega)) (fun c12 => ?_) (fun c12 => ?_)
      · skip
        refine g_iconst m65_24 ?_
        refine g_zret m65_25 rt_65 (Or.inr rfl) ?_
        have e : underF 5 u = true := by
          rcases (show u = 0 ∨ u = 1 ∨ u = 2 ∨ u = 3 ∨ u = 4 ∨ u = 5 ∨ u = 6 by omega) with rfl | rfl | rfl | rfl | rfl | rfl | rfl <;> first | rfl | (exfalso; omega)
        rw [e] at hQ
        exact hQ
      · skip
        refine g_gst m65_26 rfl ?_
        refine g_iload_n m65_29 rfl ?_
        refine g_iald (x := (0 : Int32)) m65_30 rfl (show vp_in (nI 2) 7 from vp_in_nI (by decide) (by decide)) (by decide +kernel) ?_
        refine g_istore_n (L2 := [some (.int (5)), some (.int (nI (u))), some (.int (0)), some (.int (1))]) m65_31 rfl rfl ?_
        refine g_iinc (x2 := (2 : Int32)) (L2 := [some (.int (5)), some (.int (nI (u))), some (.int (0)), some (.int (2))]) m65_32 rfl (by decide) rfl rfl ?_
        refine g_goto m65_35 ?_
        refine g_iload_n m65_4 rfl ?_
        refine g_bipush m65_5 ?_
        refine h_ic_geF (xi := 2) (zi := 7) m65_7 rfl rfl (by decide) ?_
        refine g_iload_n m65_10 rfl ?_
        refine g_bipush m65_11 ?_
        refine g_cs (args := [.int (0), .int (6)]) (rest := []) 0 (Or.inl rfl) m65_13 (Nat.le_of_ble_eq_true rfl) rfl rfl (Nat.le_of_ble_eq_true rfl) ?_
        refine c_withinI (M := 6) (vi := 0) rfl rfl (fun _ => ?_) (fun q => absurd q (by decide))
        refine gwr ?_
        refine h_if_eqF (xi := 1) (zi := 0) m65_16 rfl rfl (by decide) ?_
        refine g_iload_n m65_19 rfl ?_
        refine g_iload_n m65_20 rfl ?_
        refine h_ic_ne (xi := 0) (zi := ((u : Nat) : Int)) m65_21 rfl (nI_toInt (by omega)) (fun c13 => ?_) (fun c13 => ?_)
        · skip
          refine g_iconst m65_24 ?_
          refine g_zret m65_25 rt_65 (Or.inr rfl) ?_
          have e : underF 5 u = true := by
            rcases (show u = 0 ∨ u = 1 ∨ u = 2 ∨ u = 3 ∨ u = 4 ∨ u = 5 ∨ u = 6 by omega) with rfl | rfl | rfl | rfl | rfl | rfl | rfl <;> first | rfl | (exfalso; omega)
          rw [e] at hQ
          exact hQ
        · skip
          refine g_gst m65_26 rfl ?_
          refine g_iload_n m65_29 rfl ?_
          refine g_iald (x := (-1 : Int32)) m65_30 rfl (show vp_in (nI 0) 7 from vp_in_nI (by decide) (by decide)) (by decide +kernel) ?_
          refine g_istore_n (L2 := [some (.int (5)), some (.int (nI (u))), some (.int (-1)), some (.int (2))]) m65_31 rfl rfl ?_
          refine g_iinc (x2 := (3 : Int32)) (L2 := [some (.int (5)), some (.int (nI (u))), some (.int (-1)), some (.int (3))]) m65_32 rfl (by decide) rfl rfl ?_
          refine g_goto m65_35 ?_
          refine g_iload_n m65_4 rfl ?_
          refine g_bipush m65_5 ?_
          refine h_ic_geF (xi := 3) (zi := 7) m65_7 rfl rfl (by decide) ?_
          refine g_iload_n m65_10 rfl ?_
          refine g_bipush m65_11 ?_
          refine g_cs (args := [.int (-1), .int (6)]) (rest := []) 0 (Or.inl rfl) m65_13 (Nat.le_of_ble_eq_true rfl) rfl rfl (Nat.le_of_ble_eq_true rfl) ?_
          refine c_withinI (M := 6) (vi := -1) rfl rfl (fun q => absurd q (by decide)) (fun _ => ?_)
          refine gwr ?_
          refine h_if_eqT (xi := 0) (zi := 0) m65_16 rfl rfl (by decide) ?_
          refine g_iconst m65_38 ?_
          refine g_zret m65_39 rt_65 (Or.inl rfl) ?_
          have e : underF 5 u = false := by
            rcases (show u = 0 ∨ u = 1 ∨ u = 2 ∨ u = 3 ∨ u = 4 ∨ u = 5 ∨ u = 6 by omega) with rfl | rfl | rfl | rfl | rfl | rfl | rfl <;> first | rfl | (exfalso; omega)
          rw [e] at hQ
          exact hQ
  · skip
    refine gwl (L' := [some (.int (6)), some (.int (nI (u))), none, none]) rfl ?_
    refine g_iload_n m65_0 rfl ?_
    refine g_istore_n (L2 := [some (.int (6)), some (.int (nI (u))), some (.int (6)), none]) m65_1 rfl rfl ?_
    refine g_iconst m65_2 ?_
    refine g_istore_n (L2 := [some (.int (6)), some (.int (nI (u))), some (.int (6)), some (.int (0))]) m65_3 rfl rfl ?_
    refine g_iload_n m65_4 rfl ?_
    refine g_bipush m65_5 ?_
    refine h_ic_geF (xi := 0) (zi := 7) m65_7 rfl rfl (by decide) ?_
    refine g_iload_n m65_10 rfl ?_
    refine g_bipush m65_11 ?_
    refine g_cs (args := [.int (6), .int (6)]) (rest := []) 0 (Or.inl rfl) m65_13 (Nat.le_of_ble_eq_true rfl) rfl rfl (Nat.le_of_ble_eq_true rfl) ?_
    refine c_withinI (M := 6) (vi := 6) rfl rfl (fun _ => ?_) (fun q => absurd q (by decide))
    refine gwr ?_
    refine h_if_eqF (xi := 1) (zi := 0) m65_16 rfl rfl (by decide) ?_
    refine g_iload_n m65_19 rfl ?_
    refine g_iload_n m65_20 rfl ?_
    refine h_ic_ne (xi := 6) (zi := ((u : Nat) : Int)) m65_21 rfl (nI_toInt (by omega)) (fun c14 => ?_) (fun c14 => ?_)
    · skip
      refine g_iconst m65_24 ?_
      refine g_zret m65_25 rt_65 (Or.inr rfl) ?_
      have e : underF 6 u = true := by
        rcases (show u = 0 ∨ u = 1 ∨ u = 2 ∨ u = 3 ∨ u = 4 ∨ u = 5 ∨ u = 6 by omega) with rfl | rfl | rfl | rfl | rfl | rfl | rfl <;> first | rfl | (exfalso; omega)
      rw [e] at hQ
      exact hQ
    · skip
      refine g_gst m65_26 rfl ?_
      refine g_iload_n m65_29 rfl ?_
      refine g_iald (x := (3 : Int32)) m65_30 rfl (show vp_in (nI 6) 7 from vp_in_nI (by decide) (by decide)) (by decide +kernel) ?_
      refine g_istore_n (L2 := [some (.int (6)), some (.int (nI (u))), some (.int (3)), some (.int (0))]) m65_31 rfl rfl ?_
      refine g_iinc (x2 := (1 : Int32)) (L2 := [some (.int (6)), some (.int (nI (u))), some (.int (3)), some (.int (1))]) m65_32 rfl (by decide) rfl rfl ?_
      refine g_goto m65_35 ?_
      refine g_iload_n m65_4 rfl ?_
      refine g_bipush m65_5 ?_
      refine h_ic_geF (xi := 1) (zi := 7) m65_7 rfl rfl (by decide) ?_
      refine g_iload_n m65_10 rfl ?_
      refine g_bipush m65_11 ?_
      refine g_cs (args := [.int (3), .int (6)]) (rest := []) 0 (Or.inl rfl) m65_13 (Nat.le_of_ble_eq_true rfl) rfl rfl (Nat.le_of_ble_eq_true rfl) ?_
      refine c_withinI (M := 6) (vi := 3) rfl rfl (fun _ => ?_) (fun q => absurd q (by decide))
      refine gwr ?_
      refine h_if_eqF (xi := 1) (zi := 0) m65_16 rfl rfl (by decide) ?_
      refine g_iload_n m65_19 rfl ?_
      refine g_iload_n m65_20 rfl ?_
      refine h_ic_ne (xi := 3) (zi := ((u : Nat) : Int)) m65_21 rfl (nI_toInt (by omega)) (fun c15 => ?_) (fun c15 => ?_)
      · skip
        refine g_iconst m65_24 ?_
        refine g_zret m65_25 rt_65 (Or.inr rfl) ?_
        have e : underF 6 u = true := by
          rcases (show u = 0 ∨ u = 1 ∨ u = 2 ∨ u = 3 ∨ u = 4 ∨ u = 5 ∨ u = 6 by omega) with rfl | rfl | rfl | rfl | rfl | rfl | rfl <;> first | rfl | (exfalso; omega)
        rw [e] at hQ
        exact hQ
      · skip
        refine g_gst m65_26 rfl ?_
        refine g_iload_n m65_29 rfl ?_
        refine g_iald (x := (0 : Int32)) m65_30 rfl (show vp_in (nI 3) 7 from vp_in_nI (by decide) (by decide)) (by decide +kernel) ?_
        refine g_istore_n (L2 := [some (.int (6)), some (.int (nI (u))), some (.int (0)), some (.int (1))]) m65_31 rfl rfl ?_
        refine g_iinc (x2 := (2 : Int32)) (L2 := [some (.int (6)), some (.int (nI (u))), some (.int (0)), some (.int (2))]) m65_32 rfl (by decide) rfl rfl ?_
        refine g_goto m65_35 ?_
        refine g_iload_n m65_4 rfl ?_
        refine g_bipush m65_5 ?_
        refine h_ic_geF (xi := 2) (zi := 7) m65_7 rfl rfl (by decide) ?_
        refine g_iload_n m65_10 rfl ?_
        refine g_bipush m65_11 ?_
        refine g_cs (args := [.int (0), .int (6)]) (rest := []) 0 (Or.inl rfl) m65_13 (Nat.le_of_ble_eq_true rfl) rfl rfl (Nat.le_of_ble_eq_true rfl) ?_
        refine c_withinI (M := 6) (vi := 0) rfl rfl (fun _ => ?_) (fun q => absurd q (by decide))
        refine gwr ?_
        refine h_if_eqF (xi := 1) (zi := 0) m65_16 rfl rfl (by decide) ?_
        refine g_iload_n m65_19 rfl ?_
        refine g_iload_n m65_20 rfl ?_
        refine h_ic_ne (xi := 0) (zi := ((u : Nat) : Int)) m65_21 rfl (nI_toInt (by omega)) (fun c16 => ?_) (fun c16 => ?_)
        · skip
          refine g_iconst m65_24 ?_
          refine g_zret m65_25 rt_65 (Or.inr rfl) ?_
          have e : underF 6 u = true := by
            rcases (show u = 0 ∨ u = 1 ∨ u = 2 ∨ u = 3 ∨ u = 4 ∨ u = 5 ∨ u = 6 by omega) with rfl | rfl | rfl | rfl | rfl | rfl | rfl <;> first | rfl | (exfalso; omega)
          rw [e] at hQ
          exact hQ
        · skip
          refine g_gst m65_26 rfl ?_
          refine g_iload_n m65_29 rfl ?_
          refine g_iald (x := (-1 : Int32)) m65_30 rfl (show vp_in (nI 0) 7 from vp_in_nI (by decide) (by decide)) (by decide +kernel) ?_
          refine g_istore_n (L2 := [some (.int (6)), some (.int (nI (u))), some (.int (-1)), some (.int (2))]) m65_31 rfl rfl ?_
          refine g_iinc (x2 := (3 : Int32)) (L2 := [some (.int (6)), some (.int (nI (u))), some (.int (-1)), some (.int (3))]) m65_32 rfl (by decide) rfl rfl ?_
          refine g_goto m65_35 ?_
          refine g_iload_n m65_4 rfl ?_
          refine g_bipush m65_5 ?_
          refine h_ic_geF (xi := 3) (zi := 7) m65_7 rfl rfl (by decide) ?_
          refine g_iload_n m65_10 rfl ?_
          refine g_bipush m65_11 ?_
          refine g_cs (args := [.int (-1), .int (6)]) (rest := []) 0 (Or.inl rfl) m65_13 (Nat.le_of_ble_eq_true rfl) rfl rfl (Nat.le_of_ble_eq_true rfl) ?_
          refine c_withinI (M := 6) (vi := -1) rfl rfl (fun q => absurd q (by decide)) (fun _ => ?_)
          refine gwr ?_
          refine h_if_eqT (xi := 0) (zi := 0) m65_16 rfl rfl (by decide) ?_
          refine g_iconst m65_38 ?_
          refine g_zret m65_39 rt_65 (Or.inl rfl) ?_
          have e : underF 6 u = false := by
            rcases (show u = 0 ∨ u = 1 ∨ u = 2 ∨ u = 3 ∨ u = 4 ∨ u = 5 ∨ u = 6 by omega) with rfl | rfl | rfl | rfl | rfl | rfl | rfl <;> first | rfl | (exfalso; omega)
          rw [e] at hQ
          exact hQ
set_option maxRecDepth 20000 in
set_option maxHeartbeats 40000000 in
theorem x_as {a b : Int32} {n : Nat} {K : Nat → Nat} (hd : m 1 10 = nI n) (hn : n ≤ 8) (hK : ∀ i, i < 8 → K i < 7 ∧ m 3 i = nI (K i)) (hE1 : (a.toInt < 0 ∨ (n : Int) ≤ a.toInt ∨ b.toInt < 0 ∨ 6 < b.toInt) → Q (some (.int (-1000000000 - nI 1))) (H (erm m 1) ln N)) (hE5 : (∃ i k : Nat, a = nI i ∧ i < n ∧ b = nI k ∧ k ≤ 6 ∧ ¬ underF (K i) k = true) → Q (some (.int (-1000000000 - nI 5))) (H (erm m 5) ln N)) (hY : ∀ i k : Nat, a = nI i → i < n → b = nI k → k ≤ 6 → underF (K i) k = true → Q (some (.int (m 4 i))) (H m ln N)) : WP xs (d + 3) 66 0 0 [.ref (32), .int (a), .int (b)] (H m ln N) Q := by
  refine wp_x mx_66 (L := [some (.ref (32)), some (.int (a)), some (.int (b))]) (Nat.le_of_ble_eq_true rfl) rfl ?_
  refine g_aload_n m66_0 rfl ?_
  refine g_iload_n m66_1 rfl ?_
  refine h_cv (k := 0) (p := 32) (args := [.int (a)]) (rest := []) m66_2 cn_60 (Nat.le_of_ble_eq_true rfl) rfl rfl rfl (t_0 _ _) (Nat.le_of_ble_eq_true rfl) ?_
  refine c_isDiner hd hn (fun ja ea a_20 => ?_) (fun a_20 => ?_)
  · subst ea
    refine gwr ?_
    refine h_if_eqF (xi := 1) (zi := 0) m66_5 rfl rfl (by decide) ?_
    refine g_iload_n m66_8 rfl ?_
    refine g_bipush m66_9 ?_
    refine g_cs (args := [.int (b), .int (6)]) (rest := []) 0 (Or.inl rfl) m66_11 (Nat.le_of_ble_eq_true rfl) rfl rfl (Nat.le_of_ble_eq_true rfl) ?_
    refine c_within (M := 6) rfl (fun jb eb a_21 => ?_) (fun a_21 => ?_)
    · subst eb
      refine gwr ?_
      refine h_if_neF (xi := 1) (zi := 0) m66_14 rfl rfl (by decide) ?_
      refine g_aload_n m66_23 rfl ?_
      refine h_gfR (c := 33) (k := 0) (p := 32) m66_24 rfl (t_0 _ _) rfl (Nat.le_of_ble_eq_true rfl) ?_
      refine h_gfR (c := 35) (k := 1) (p := 33) m66_27 rfl (t_1 _ _) rfl (Nat.le_of_ble_eq_true rfl) ?_
      refine g_iload_n m66_30 rfl ?_
      have hja : ja < 8 := by omega
      have eka := hK ja hja
      refine h_ial (k := 3) (p := 35) (j := ja) m66_31 rfl (t_3 _ _) (rfl) (by omega) (Nat.le_of_ble_eq_true rfl) (eka.2) ?_
      refine g_iload_n m66_32 rfl ?_
      refine g_cs (args := [.int (nI (K ja)), .int (nI (jb))]) (rest := []) 0 (Or.inl rfl) m66_33 (Nat.le_of_ble_eq_true rfl) rfl rfl (Nat.le_of_ble_eq_true rfl) ?_
      refine c_isUnder eka.1 (by omega) ?_
      by_cases a_22 : underF (K ja) jb = true
      · rw [if_pos a_22]
        refine gwr ?_
        refine h_if_neF (xi := 1) (zi := 0) m66_36 rfl rfl (by decide) ?_
        refine g_aload_n m66_45 rfl ?_
        refine h_gfR (c := 33) (k := 0) (p := 32) m66_46 rfl (t_0 _ _) rfl (Nat.le_of_ble_eq_true rfl) ?_
        refine h_gfR (c := 36) (k := 1) (p := 33) m66_49 rfl (t_1 _ _) rfl (Nat.le_of_ble_eq_true rfl) ?_
        refine g_iload_n m66_52 rfl ?_
        refine h_ial (k := 4) (p := 36) (j := ja) m66_53 rfl (t_4 _ _) (rfl) (by omega) (Nat.le_of_ble_eq_true rfl) (rfl) ?_
        refine g_iret m66_54 rt_66 ?_
        exact hY ja jb rfl (by omega) rfl (by omega) a_22
      · rw [if_neg a_22]
        refine gwr ?_
        refine h_if_neT (xi := 0) (zi := 0) m66_36 rfl rfl (by decide) ?_
        refine g_aload_n m66_39 rfl ?_
        refine g_iconst m66_40 ?_
        refine h_cv (k := 0) (p := 32) (args := [.int (5)]) (rest := []) m66_41 cn_55 (Nat.le_of_ble_eq_true rfl) rfl rfl rfl (t_0 _ _) (Nat.le_of_ble_eq_true rfl) ?_
        refine c_error (e := 5) (by decide) (by decide) ?_
        refine gwr ?_
        refine g_iret m66_44 rt_66 ?_
        exact hE5 ⟨ja, jb, rfl, by omega, rfl, by omega, a_22⟩
    · skip
      refine gwr ?_
      refine h_if_neT (xi := 0) (zi := 0) m66_14 rfl rfl (by decide) ?_
      refine g_aload_n m66_17 rfl ?_
      refine g_iconst m66_18 ?_
      refine h_cv (k := 0) (p := 32) (args := [.int (1)]) (rest := []) m66_19 cn_55 (Nat.le_of_ble_eq_true rfl) rfl rfl rfl (t_0 _ _) (Nat.le_of_ble_eq_true rfl) ?_
      refine c_error (e := 1) (by decide) (by decide) ?_
      refine gwr ?_
      refine g_iret m66_22 rt_66 ?_
      exact hE1 (by omega)
  · skip
    refine gwr ?_
    refine h_if_eqT (xi := 0) (zi := 0) m66_5 rfl rfl (by decide) ?_
    refine g_aload_n m66_17 rfl ?_
    refine g_iconst m66_18 ?_
    refine h_cv (k := 0) (p := 32) (args := [.int (1)]) (rest := []) m66_19 cn_55 (Nat.le_of_ble_eq_true rfl) rfl rfl rfl (t_0 _ _) (Nat.le_of_ble_eq_true rfl) ?_
    refine c_error (e := 1) (by decide) (by decide) ?_
    refine gwr ?_
    refine g_iret m66_22 rt_66 ?_
    exact hE1 (by omega)
set_option maxRecDepth 20000 in
set_option maxHeartbeats 40000000 in
theorem m_as {a b : Int32} {n : Nat} {K : Nat → Nat} (hd : m 58 2 = nI n) (hn : n ≤ 8) (hK : ∀ i, i < 8 → K i < 7 ∧ m 58 (16 + 6 * i + 0) = nI (K i)) (hE1 : (a.toInt < 0 ∨ (n : Int) ≤ a.toInt ∨ b.toInt < 0 ∨ 6 < b.toInt) → Q (some (.int (-1000000001))) (H (ers m 1) ln N)) (hE5 : (∃ i k : Nat, a = nI i ∧ i < n ∧ b = nI k ∧ k ≤ 6 ∧ ¬ underF (K i) k = true) → Q (some (.int (-1000000005))) (H (ers m 5) ln N)) (hY : ∀ i k : Nat, a = nI i → i < n → b = nI k → k ≤ 6 → underF (K i) k = true → Q (some (.int (m 58 (16 + 6 * i + 1)))) (H m ln N)) : WP xs (d + 3) 137 0 0 [.ref (89), .int (a), .int (b)] (H m ln N) Q := by
  refine wp_x mx_137 (L := [some (.ref (89)), some (.int (a)), some (.int (b)), none]) (Nat.le_of_ble_eq_true rfl) rfl ?_
  refine g_aload_n m137_0 rfl ?_
  refine g_iload_n m137_1 rfl ?_
  refine h_cv (k := 57) (p := 89) (args := [.int (a)]) (rest := []) m137_2 cn_113 (Nat.le_of_ble_eq_true rfl) rfl rfl rfl (t_57 _ _) (Nat.le_of_ble_eq_true rfl) ?_
  refine c_isDinerM hd hn (fun ja ea a_23 => ?_) (fun a_23 => ?_)
  · subst ea
    refine gwr ?_
    refine h_if_eqF (xi := 1) (zi := 0) m137_5 rfl rfl (by decide) ?_
    refine g_iload_n m137_8 rfl ?_
    refine g_iconst m137_9 ?_
    refine g_bipush m137_10 ?_
    refine g_cs (args := [.int (b), .int (0), .int (6)]) (rest := []) 0 (Or.inl rfl) m137_12 (Nat.le_of_ble_eq_true rfl) rfl rfl (Nat.le_of_ble_eq_true rfl) ?_
    refine c_in (A := 0) (B := 6) rfl rfl (by decide) (fun jb eb a_24 a_24' => ?_) (fun a_24 => ?_)
    · subst eb
      refine gwr ?_
      refine h_if_neF (xi := 1) (zi := 0) m137_15 rfl rfl (by decide) ?_
      refine g_aload_n m137_25 rfl ?_
      refine g_iload_n m137_26 rfl ?_
      refine g_iconst m137_27 ?_
      refine h_cv (k := 57) (p := 89) (args := [.int (nI (ja)), .int (0)]) (rest := []) m137_28 cn_111 (Nat.le_of_ble_eq_true rfl) rfl rfl rfl (t_57 _ _) (Nat.le_of_ble_eq_true rfl) ?_
      have hja : ja < 8 := by omega
      have eka := hK ja hja
      refine c_its (w := 0) (by omega) (by decide) ?_
      rw [eka.2]
      generalize hkk : K ja = kk at eka ⊢
      have hk7 := eka.1
      rcases (show kk = 0 ∨ kk = 1 ∨ kk = 2 ∨ kk = 3 ∨ kk = 4 ∨ kk = 5 ∨ kk = 6 by omega) with rfl | rfl | rfl | rfl | rfl | rfl | rfl
      · skip
        refine gwr ?_
        refine g_istore_n (L2 := [some (.ref (89)), some (.int (nI (ja))), some (.int (nI (jb))), some (.int (nI (0)))]) m137_31 rfl rfl ?_
        refine g_iload_n m137_32 rfl ?_
        refine h_if_lt (xi := ((0 : Nat) : Int)) (zi := 0) m137_33 (nI_toInt (by omega)) rfl (fun c1 => ?_) (fun c1 => ?_)
        · skip
          refine g_iload_n m137_49 rfl ?_
          refine h_if_ge (xi := ((0 : Nat) : Int)) (zi := 0) m137_50 (nI_toInt (by omega)) rfl (fun c2 => ?_) (fun c2 => ?_)
          · skip
            refine g_aload_n m137_62 rfl ?_
            refine g_iload_n m137_63 rfl ?_
            refine g_iconst m137_64 ?_
            refine h_cv (k := 57) (p := 89) (args := [.int (nI (ja)), .int (1)]) (rest := []) m137_65 cn_111 (Nat.le_of_ble_eq_true rfl) rfl rfl rfl (t_57 _ _) (Nat.le_of_ble_eq_true rfl) ?_
            refine c_its (w := 1) (by omega) (by omega) ?_
            refine gwr ?_
            refine g_iret m137_68 rt_137 ?_
            exact hY ja jb rfl (by omega) rfl (by omega) (by rw [hkk]; rcases (show jb = 0 ∨ jb = 1 ∨ jb = 2 ∨ jb = 3 ∨ jb = 4 ∨ jb = 5 ∨ jb = 6 by omega) with rfl | rfl | rfl | rfl | rfl | rfl | rfl <;> first | rfl | (exfalso; omega))
          · skip
            refine g_aload_n m137_53 rfl ?_
            refine g_ldci m137_54 rfl ?_
            refine h_cv (k := 57) (p := 89) (args := [.int (-1000000005)]) (rest := []) m137_56 cn_108 (Nat.le_of_ble_eq_true rfl) rfl rfl rfl (t_57 _ _) (Nat.le_of_ble_eq_true rfl) ?_
            refine c_errs (e := 5) (by decide) (by decide) (by decide) ?_
            refine gwr ?_
            refine g_goto m137_59 ?_
            refine g_iret m137_68 rt_137 ?_
            exact hE5 ⟨ja, jb, rfl, by omega, rfl, by omega, by rw [hkk]; intro z; rcases (show jb = 0 ∨ jb = 1 ∨ jb = 2 ∨ jb = 3 ∨ jb = 4 ∨ jb = 5 ∨ jb = 6 by omega) with rfl | rfl | rfl | rfl | rfl | rfl | rfl <;> first | (exfalso; omega) | exact absurd z (by decide)⟩
        · skip
          refine g_iload_n m137_36 rfl ?_
          refine g_iload_n m137_37 rfl ?_
          refine h_ic_eq (xi := ((0 : Nat) : Int)) (zi := ((jb : Nat) : Int)) m137_38 (nI_toInt (by omega)) (nI_toInt (by omega)) (fun c3 => ?_) (fun c3 => ?_)
          · skip
            refine g_iload_n m137_49 rfl ?_
            refine h_if_ge (xi := ((0 : Nat) : Int)) (zi := 0) m137_50 (nI_toInt (by omega)) rfl (fun c4 => ?_) (fun c4 => ?_)
            · skip
              refine g_aload_n m137_62 rfl ?_
              refine g_iload_n m137_63 rfl ?_
              refine g_iconst m137_64 ?_
              refine h_cv (k := 57) (p := 89) (args := [.int (nI (ja)), .int (1)]) (rest := []) m137_65 cn_111 (Nat.le_of_ble_eq_true rfl) rfl rfl rfl (t_57 _ _) (Nat.le_of_ble_eq_true rfl) ?_
              refine c_its (w := 1) (by omega) (by omega) ?_
              refine gwr ?_
              refine g_iret m137_68 rt_137 ?_
              exact hY ja jb rfl (by omega) rfl (by omega) (by rw [hkk]; rcases (show jb = 0 ∨ jb = 1 ∨ jb = 2 ∨ jb = 3 ∨ jb = 4 ∨ jb = 5 ∨ jb = 6 by omega) with rfl | rfl | rfl | rfl | rfl | rfl | rfl <;> first | rfl | (exfalso; omega))
            · skip
              refine g_aload_n m137_53 rfl ?_
              refine g_ldci m137_54 rfl ?_
              refine h_cv (k := 57) (p := 89) (args := [.int (-1000000005)]) (rest := []) m137_56 cn_108 (Nat.le_of_ble_eq_true rfl) rfl rfl rfl (t_57 _ _) (Nat.le_of_ble_eq_true rfl) ?_
              refine c_errs (e := 5) (by decide) (by decide) (by decide) ?_
              refine gwr ?_
              refine g_goto m137_59 ?_
              refine g_iret m137_68 rt_137 ?_
              exact hE5 ⟨ja, jb, rfl, by omega, rfl, by omega, by rw [hkk]; intro z; rcases (show jb = 0 ∨ jb = 1 ∨ jb = 2 ∨ jb = 3 ∨ jb = 4 ∨ jb = 5 ∨ jb = 6 by omega) with rfl | rfl | rfl | rfl | rfl | rfl | rfl <;> first | (exfalso; omega) | exact absurd z (by decide)⟩
          · skip
            refine g_iload_n m137_41 rfl ?_
            refine g_cs (args := [.int (nI (0))]) (rest := []) 0 (Or.inl rfl) m137_42 (Nat.le_of_ble_eq_true rfl) rfl rfl (Nat.le_of_ble_eq_true rfl) ?_
            refine c_above (k := 0) (by decide) ?_
            refine gwr ?_
            refine g_istore_n (L2 := [some (.ref (89)), some (.int (nI (ja))), some (.int (nI (jb))), some (.int (-1))]) m137_45 rfl rfl ?_
            refine g_goto m137_46 ?_
            refine g_iload_n m137_32 rfl ?_
            refine h_if_ltT (xi := (-1)) (zi := 0) m137_33 rfl rfl (by decide) ?_
            refine g_iload_n m137_49 rfl ?_
            refine h_if_geF (xi := (-1)) (zi := 0) m137_50 rfl rfl (by decide) ?_
            refine g_aload_n m137_53 rfl ?_
            refine g_ldci m137_54 rfl ?_
            refine h_cv (k := 57) (p := 89) (args := [.int (-1000000005)]) (rest := []) m137_56 cn_108 (Nat.le_of_ble_eq_true rfl) rfl rfl rfl (t_57 _ _) (Nat.le_of_ble_eq_true rfl) ?_
            refine c_errs (e := 5) (by decide) (by decide) (by decide) ?_
            refine gwr ?_
            refine g_goto m137_59 ?_
            refine g_iret m137_68 rt_137 ?_
            exact hE5 ⟨ja, jb, rfl, by omega, rfl, by omega, by rw [hkk]; intro z; rcases (show jb = 0 ∨ jb = 1 ∨ jb = 2 ∨ jb = 3 ∨ jb = 4 ∨ jb = 5 ∨ jb = 6 by omega) with rfl | rfl | rfl | rfl | rfl | rfl | rfl <;> first | (exfalso; omega) | exact absurd z (by decide)⟩
      · skip
        refine gwr ?_
        refine g_istore_n (L2 := [some (.ref (89)), some (.int (nI (ja))), some (.int (nI (jb))), some (.int (nI (1)))]) m137_31 rfl rfl ?_
        refine g_iload_n m137_32 rfl ?_
        refine h_if_lt (xi := ((1 : Nat) : Int)) (zi := 0) m137_33 (nI_toInt (by omega)) rfl (fun c5 => ?_) (fun c5 => ?_)
        · skip
          refine g_iload_n m137_49 rfl ?_
          refine h_if_ge (xi := ((1 : Nat) : Int)) (zi := 0) m137_50 (nI_toInt (by omega)) rfl (fun c6 => ?_) (fun c6 => ?_)
          · skip
            refine g_aload_n m137_62 rfl ?_
            refine g_iload_n m137_63 rfl ?_
            refine g_iconst m137_64 ?_
            refine h_cv (k := 57) (p := 89) (args := [.int (nI (ja)), .int (1)]) (rest := []) m137_65 cn_111 (Nat.le_of_ble_eq_true rfl) rfl rfl rfl (t_57 _ _) (Nat.le_of_ble_eq_true rfl) ?_
            refine c_its (w := 1) (by omega) (by omega) ?_
            refine gwr ?_
            refine g_iret m137_68 rt_137 ?_
            exact hY ja jb rfl (by omega) rfl (by omega) (by rw [hkk]; rcases (show jb = 0 ∨ jb = 1 ∨ jb = 2 ∨ jb = 3 ∨ jb = 4 ∨ jb = 5 ∨ jb = 6 by omega) with rfl | rfl | rfl | rfl | rfl | rfl | rfl <;> first | rfl | (exfalso; omega))
          · skip
            refine g_aload_n m137_53 rfl ?_
            refine g_ldci m137_54 rfl ?_
            refine h_cv (k := 57) (p := 89) (args := [.int (-1000000005)]) (rest := []) m137_56 cn_108 (Nat.le_of_ble_eq_true rfl) rfl rfl rfl (t_57 _ _) (Nat.le_of_ble_eq_true rfl) ?_
            refine c_errs (e := 5) (by decide) (by decide) (by decide) ?_
            refine gwr ?_
            refine g_goto m137_59 ?_
            refine g_iret m137_68 rt_137 ?_
            exact hE5 ⟨ja, jb, rfl, by omega, rfl, by omega, by rw [hkk]; intro z; rcases (show jb = 0 ∨ jb = 1 ∨ jb = 2 ∨ jb = 3 ∨ jb = 4 ∨ jb = 5 ∨ jb = 6 by omega) with rfl | rfl | rfl | rfl | rfl | rfl | rfl <;> first | (exfalso; omega) | exact absurd z (by decide)⟩
        · skip
          refine g_iload_n m137_36 rfl ?_
          refine g_iload_n m137_37 rfl ?_
          refine h_ic_eq (xi := ((1 : Nat) : Int)) (zi := ((jb : Nat) : Int)) m137_38 (nI_toInt (by omega)) (nI_toInt (by omega)) (fun c7 => ?_) (fun c7 => ?_)
          · skip
            refine g_iload_n m137_49 rfl ?_
            refine h_if_ge (xi := ((1 : Nat) : Int)) (zi := 0) m137_50 (nI_toInt (by omega)) rfl (fun c8 => ?_) (fun c8 => ?_)
            · skip
              refine g_aload_n m137_62 rfl ?_
              refine g_iload_n m137_63 rfl ?_
              refine g_iconst m137_64 ?_
              refine h_cv (k := 57) (p := 89) (args := [.int (nI (ja)), .int (1)]) (rest := []) m137_65 cn_111 (Nat.le_of_ble_eq_true rfl) rfl rfl rfl (t_57 _ _) (Nat.le_of_ble_eq_true rfl) ?_
              refine c_its (w := 1) (by omega) (by omega) ?_
              refine gwr ?_
              refine g_iret m137_68 rt_137 ?_
              exact hY ja jb rfl (by omega) rfl (by omega) (by rw [hkk]; rcases (show jb = 0 ∨ jb = 1 ∨ jb = 2 ∨ jb = 3 ∨ jb = 4 ∨ jb = 5 ∨ jb = 6 by omega) with rfl | rfl | rfl | rfl | rfl | rfl | rfl <;> first | rfl | (exfalso; omega))
            · skip
              refine g_aload_n m137_53 rfl ?_
              refine g_ldci m137_54 rfl ?_
              refine h_cv (k := 57) (p := 89) (args := [.int (-1000000005)]) (rest := []) m137_56 cn_108 (Nat.le_of_ble_eq_true rfl) rfl rfl rfl (t_57 _ _) (Nat.le_of_ble_eq_true rfl) ?_
              refine c_errs (e := 5) (by decide) (by decide) (by decide) ?_
              refine gwr ?_
              refine g_goto m137_59 ?_
              refine g_iret m137_68 rt_137 ?_
              exact hE5 ⟨ja, jb, rfl, by omega, rfl, by omega, by rw [hkk]; intro z; rcases (show jb = 0 ∨ jb = 1 ∨ jb = 2 ∨ jb = 3 ∨ jb = 4 ∨ jb = 5 ∨ jb = 6 by omega) with rfl | rfl | rfl | rfl | rfl | rfl | rfl <;> first | (exfalso; omega) | exact absurd z (by decide)⟩
          · skip
            refine g_iload_n m137_41 rfl ?_
            refine g_cs (args := [.int (nI (1))]) (rest := []) 0 (Or.inl rfl) m137_42 (Nat.le_of_ble_eq_true rfl) rfl rfl (Nat.le_of_ble_eq_true rfl) ?_
            refine c_above (k := 1) (by decide) ?_
            refine gwr ?_
            refine g_istore_n (L2 := [some (.ref (89)), some (.int (nI (ja))), some (.int (nI (jb))), some (.int (nI (0)))]) m137_45 rfl rfl ?_
            refine g_goto m137_46 ?_
            refine g_iload_n m137_32 rfl ?_
            refine h_if_lt (xi := ((0 : Nat) : Int)) (zi := 0) m137_33 (nI_toInt (by omega)) rfl (fun c9 => ?_) (fun c9 => ?_)
            · skip
              refine g_iload_n m137_49 rfl ?_
              refine h_if_ge (xi := ((0 : Nat) : Int)) (zi := 0) m137_50 (nI_toInt (by omega)) rfl (fun c10 => ?_) (fun c10 => ?_)
              · skip
                refine g_aload_n m137_62 rfl ?_
                refine g_iload_n m137_63 rfl ?_
                refine g_iconst m137_64 ?_
                refine h_cv (k := 57) (p := 89) (args := [.int (nI (ja)), .int (1)]) (rest := []) m137_65 cn_111 (Nat.le_of_ble_eq_true rfl) rfl rfl rfl (t_57 _ _) (Nat.le_of_ble_eq_true rfl) ?_
                refine c_its (w := 1) (by omega) (by omega) ?_
                refine gwr ?_
                refine g_iret m137_68 rt_137 ?_
                exact hY ja jb rfl (by omega) rfl (by omega) (by rw [hkk]; rcases (show jb = 0 ∨ jb = 1 ∨ jb = 2 ∨ jb = 3 ∨ jb = 4 ∨ jb = 5 ∨ jb = 6 by omega) with rfl | rfl | rfl | rfl | rfl | rfl | rfl <;> first | rfl | (exfalso; omega))
              · skip
                refine g_aload_n m137_53 rfl ?_
                refine g_ldci m137_54 rfl ?_
                refine h_cv (k := 57) (p := 89) (args := [.int (-1000000005)]) (rest := []) m137_56 cn_108 (Nat.le_of_ble_eq_true rfl) rfl rfl rfl (t_57 _ _) (Nat.le_of_ble_eq_true rfl) ?_
                refine c_errs (e := 5) (by decide) (by decide) (by decide) ?_
                refine gwr ?_
                refine g_goto m137_59 ?_
                refine g_iret m137_68 rt_137 ?_
                exact hE5 ⟨ja, jb, rfl, by omega, rfl, by omega, by rw [hkk]; intro z; rcases (show jb = 0 ∨ jb = 1 ∨ jb = 2 ∨ jb = 3 ∨ jb = 4 ∨ jb = 5 ∨ jb = 6 by omega) with rfl | rfl | rfl | rfl | rfl | rfl | rfl <;> first | (exfalso; omega) | exact absurd z (by decide)⟩
            · skip
              refine g_iload_n m137_36 rfl ?_
              refine g_iload_n m137_37 rfl ?_
              refine h_ic_eq (xi := ((0 : Nat) : Int)) (zi := ((jb : Nat) : Int)) m137_38 (nI_toInt (by omega)) (nI_toInt (by omega)) (fun c11 => ?_) (fun c11 => ?_)
              · skip
                refine g_iload_n m137_49 rfl ?_
                refine h_if_ge (xi := ((0 : Nat) : Int)) (zi := 0) m137_50 (nI_toInt (by omega)) rfl (fun c12 => ?_) (fun c12 => ?_)
                · skip
                  refine g_aload_n m137_62 rfl ?_
                  refine g_iload_n m137_63 rfl ?_
                  refine g_iconst m137_64 ?_
                  refine h_cv (k := 57) (p := 89) (args := [.int (nI (ja)), .int (1)]) (rest := []) m137_65 cn_111 (Nat.le_of_ble_eq_true rfl) rfl rfl rfl (t_57 _ _) (Nat.le_of_ble_eq_true rfl) ?_
                  refine c_its (w := 1) (by omega) (by omega) ?_
                  refine gwr ?_
                  refine g_iret m137_68 rt_137 ?_
                  exact hY ja jb rfl (by omega) rfl (by omega) (by rw [hkk]; rcases (show jb = 0 ∨ jb = 1 ∨ jb = 2 ∨ jb = 3 ∨ jb = 4 ∨ jb = 5 ∨ jb = 6 by omega) with rfl | rfl | rfl | rfl | rfl | rfl | rfl <;> first | rfl | (exfalso; omega))
                · skip
                  refine g_aload_n m137_53 rfl ?_
                  refine g_ldci m137_54 rfl ?_
                  refine h_cv (k := 57) (p := 89) (args := [.int (-1000000005)]) (rest := []) m137_56 cn_108 (Nat.le_of_ble_eq_true rfl) rfl rfl rfl (t_57 _ _) (Nat.le_of_ble_eq_true rfl) ?_
                  refine c_errs (e := 5) (by decide) (by decide) (by decide) ?_
                  refine gwr ?_
                  refine g_goto m137_59 ?_
                  refine g_iret m137_68 rt_137 ?_
                  exact hE5 ⟨ja, jb, rfl, by omega, rfl, by omega, by rw [hkk]; intro z; rcases (show jb = 0 ∨ jb = 1 ∨ jb = 2 ∨ jb = 3 ∨ jb = 4 ∨ jb = 5 ∨ jb = 6 by omega) with rfl | rfl | rfl | rfl | rfl | rfl | rfl <;> first | (exfalso; omega) | exact absurd z (by decide)⟩
              · skip
                refine g_iload_n m137_41 rfl ?_
                refine g_cs (args := [.int (nI (0))]) (rest := []) 0 (Or.inl rfl) m137_42 (Nat.le_of_ble_eq_true rfl) rfl rfl (Nat.le_of_ble_eq_true rfl) ?_
                refine c_above (k := 0) (by decide) ?_
                refine gwr ?_
                refine g_istore_n (L2 := [some (.ref (89)), some (.int (nI (ja))), some (.int (nI (jb))), some (.int (-1))]) m137_45 rfl rfl ?_
                refine g_goto m137_46 ?_
                refine g_iload_n m137_32 rfl ?_
                refine h_if_ltT (xi := (-1)) (zi := 0) m137_33 rfl rfl (by decide) ?_
                refine g_iload_n m137_49 rfl ?_
                refine h_if_geF (xi := (-1)) (zi := 0) m137_50 rfl rfl (by decide) ?_
                refine g_aload_n m137_53 rfl ?_
                refine g_ldci m137_54 rfl ?_
                refine h_cv (k := 57) (p := 89) (args := [.int (-1000000005)]) (rest := []) m137_56 cn_108 (Nat.le_of_ble_eq_true rfl) rfl rfl rfl (t_57 _ _) (Nat.le_of_ble_eq_true rfl) ?_
                refine c_errs (e := 5) (by decide) (by decide) (by decide) ?_
                refine gwr ?_
                refine g_goto m137_59 ?_
                refine g_iret m137_68 rt_137 ?_
                exact hE5 ⟨ja, jb, rfl, by omega, rfl, by omega, by rw [hkk]; intro z; rcases (show jb = 0 ∨ jb = 1 ∨ jb = 2 ∨ jb = 3 ∨ jb = 4 ∨ jb = 5 ∨ jb = 6 by omega) with rfl | rfl | rfl | rfl | rfl | rfl | rfl <;> first | (exfalso; omega) | exact absurd z (by decide)⟩
      · skip
        refine gwr ?_
        refine g_istore_n (L2 := [some (.ref (89)), some (.int (nI (ja))), some (.int (nI (jb))), some (.int (nI (2)))]) m137_31 rfl rfl ?_
        refine g_iload_n m137_32 rfl ?_
        refine h_if_lt (xi := ((2 : Nat) : Int)) (zi := 0) m137_33 (nI_toInt (by omega)) rfl (fun c13 => ?_) (fun c13 => ?_)
        · skip
          refine g_iload_n m137_49 rfl ?_
          refine h_if_ge (xi := ((2 : Nat) : Int)) (zi := 0) m137_50 (nI_toInt (by omega)) rfl (fun c14 => ?_) (fun c14 => ?_)
          · skip
            refine g_aload_n m137_62 rfl ?_
            refine g_iload_n m137_63 rfl ?_
            refine g_iconst m137_64 ?_
            refine h_cv (k := 57) (p := 89) (args := [.int (nI (ja)), .int (1)]) (rest := []) m137_65 cn_111 (Nat.le_of_ble_eq_true rfl) rfl rfl rfl (t_57 _ _) (Nat.le_of_ble_eq_true rfl) ?_
            refine c_its (w := 1) (by omega) (by omega) ?_
            refine gwr ?_
            refine g_iret m137_68 rt_137 ?_
            exact hY ja jb rfl (by omega) rfl (by omega) (by rw [hkk]; rcases (show jb = 0 ∨ jb = 1 ∨ jb = 2 ∨ jb = 3 ∨ jb = 4 ∨ jb = 5 ∨ jb = 6 by omega) with rfl | rfl | rfl | rfl | rfl | rfl | rfl <;> first | rfl | (exfalso; omega))
          · skip
            refine g_aload_n m137_53 rfl ?_
            refine g_ldci m137_54 rfl ?_
            refine h_cv (k := 57) (p := 89) (args := [.int (-1000000005)]) (rest := []) m137_56 cn_108 (Nat.le_of_ble_eq_true rfl) rfl rfl rfl (t_57 _ _) (Nat.le_of_ble_eq_true rfl) ?_
            refine c_errs (e := 5) (by decide) (by decide) (by decide) ?_
            refine gwr ?_
            refine g_goto m137_59 ?_
            refine g_iret m137_68 rt_137 ?_
            exact hE5 ⟨ja, jb, rfl, by omega, rfl, by omega, by rw [hkk]; intro z; rcases (show jb = 0 ∨ jb = 1 ∨ jb = 2 ∨ jb = 3 ∨ jb = 4 ∨ jb = 5 ∨ jb = 6 by omega) with rfl | rfl | rfl | rfl | rfl | rfl | rfl <;> first | (exfalso; omega) | exact absurd z (by decide)⟩
        · skip
          refine g_iload_n m137_36 rfl ?_
          refine g_iload_n m137_37 rfl ?_
          refine h_ic_eq (xi := ((2 : Nat) : Int)) (zi := ((jb : Nat) : Int)) m137_38 (nI_toInt (by omega)) (nI_toInt (by omega)) (fun c15 => ?_) (fun c15 => ?_)
          · skip
            refine g_iload_n m137_49 rfl ?_
            refine h_if_ge (xi := ((2 : Nat) : Int)) (zi := 0) m137_50 (nI_toInt (by omega)) rfl (fun c16 => ?_) (fun c16 => ?_)
            · skip
              refine g_aload_n m137_62 rfl ?_
              refine g_iload_n m137_63 rfl ?_
              refine g_iconst m137_64 ?_
              refine h_cv (k := 57) (p := 89) (args := [.int (nI (ja)), .int (1)]) (rest := []) m137_65 cn_111 (Nat.le_of_ble_eq_true rfl) rfl rfl rfl (t_57 _ _) (Nat.le_of_ble_eq_true rfl) ?_
              refine c_its (w := 1) (by omega) (by omega) ?_
              refine gwr ?_
              refine g_iret m137_68 rt_137 ?_
              exact hY ja jb rfl (by omega) rfl (by omega) (by rw [hkk]; rcases (show jb = 0 ∨ jb = 1 ∨ jb = 2 ∨ jb = 3 ∨ jb = 4 ∨ jb = 5 ∨ jb = 6 by omega) with rfl | rfl | rfl | rfl | rfl | rfl | rfl <;> first | rfl | (exfalso; omega))
            · skip
              refine g_aload_n m137_53 rfl ?_
              refine g_ldci m137_54 rfl ?_
              refine h_cv (k := 57) (p := 89) (args := [.int (-1000000005)]) (rest := []) m137_56 cn_108 (Nat.le_of_ble_eq_true rfl) rfl rfl rfl (t_57 _ _) (Nat.le_of_ble_eq_true rfl) ?_
              refine c_errs (e := 5) (by decide) (by decide) (by decide) ?_
              refine gwr ?_
              refine g_goto m137_59 ?_
              refine g_iret m137_68 rt_137 ?_
              exact hE5 ⟨ja, jb, rfl, by omega, rfl, by omega, by rw [hkk]; intro z; rcases (show jb = 0 ∨ jb = 1 ∨ jb = 2 ∨ jb = 3 ∨ jb = 4 ∨ jb = 5 ∨ jb = 6 by omega) with rfl | rfl | rfl | rfl | rfl | rfl | rfl <;> first | (exfalso; omega) | exact absurd z (by decide)⟩
          · skip
            refine g_iload_n m137_41 rfl ?_
            refine g_cs (args := [.int (nI (2))]) (rest := []) 0 (Or.inl rfl) m137_42 (Nat.le_of_ble_eq_true rfl) rfl rfl (Nat.le_of_ble_eq_true rfl) ?_
            refine c_above (k := 2) (by decide) ?_
            refine gwr ?_
            refine g_istore_n (L2 := [some (.ref (89)), some (.int (nI (ja))), some (.int (nI (jb))), some (.int (nI (0)))]) m137_45 rfl rfl ?_
            refine g_goto m137_46 ?_
            refine g_iload_n m137_32 rfl ?_
            refine h_if_lt (xi := ((0 : Nat) : Int)) (zi := 0) m137_33 (nI_toInt (by omega)) rfl (fun c17 => ?_) (fun c17 => ?_)
            · skip
              refine g_iload_n m137_49 rfl ?_
              refine h_if_ge (xi := ((0 : Nat) : Int)) (zi := 0) m137_50 (nI_toInt (by omega)) rfl (fun c18 => ?_) (fun c18 => ?_)
              · skip
                refine g_aload_n m137_62 rfl ?_
                refine g_iload_n m137_63 rfl ?_
                refine g_iconst m137_64 ?_
                refine h_cv (k := 57) (p := 89) (args := [.int (nI (ja)), .int (1)]) (rest := []) m137_65 cn_111 (Nat.le_of_ble_eq_true rfl) rfl rfl rfl (t_57 _ _) (Nat.le_of_ble_eq_true rfl) ?_
                refine c_its (w := 1) (by omega) (by omega) ?_
                refine gwr ?_
                refine g_iret m137_68 rt_137 ?_
                exact hY ja jb rfl (by omega) rfl (by omega) (by rw [hkk]; rcases (show jb = 0 ∨ jb = 1 ∨ jb = 2 ∨ jb = 3 ∨ jb = 4 ∨ jb = 5 ∨ jb = 6 by omega) with rfl | rfl | rfl | rfl | rfl | rfl | rfl <;> first | rfl | (exfalso; omega))
              · skip
                refine g_aload_n m137_53 rfl ?_
                refine g_ldci m137_54 rfl ?_
                refine h_cv (k := 57) (p := 89) (args := [.int (-1000000005)]) (rest := []) m137_56 cn_108 (Nat.le_of_ble_eq_true rfl) rfl rfl rfl (t_57 _ _) (Nat.le_of_ble_eq_true rfl) ?_
                refine c_errs (e := 5) (by decide) (by decide) (by decide) ?_
                refine gwr ?_
                refine g_goto m137_59 ?_
                refine g_iret m137_68 rt_137 ?_
                exact hE5 ⟨ja, jb, rfl, by omega, rfl, by omega, by rw [hkk]; intro z; rcases (show jb = 0 ∨ jb = 1 ∨ jb = 2 ∨ jb = 3 ∨ jb = 4 ∨ jb = 5 ∨ jb = 6 by omega) with rfl | rfl | rfl | rfl | rfl | rfl | rfl <;> first | (exfalso; omega) | exact absurd z (by decide)⟩
            · skip
              refine g_iload_n m137_36 rfl ?_
              refine g_iload_n m137_37 rfl ?_
              refine h_ic_eq (xi := ((0 : Nat) : Int)) (zi := ((jb : Nat) : Int)) m137_38 (nI_toInt (by omega)) (nI_toInt (by omega)) (fun c19 => ?_) (fun c19 => ?_)
              · skip
                refine g_iload_n m137_49 rfl ?_
                refine h_if_ge (xi := ((0 : Nat) : Int)) (zi := 0) m137_50 (nI_toInt (by omega)) rfl (fun c20 => ?_) (fun c20 => ?_)
                · skip
                  refine g_aload_n m137_62 rfl ?_
                  refine g_iload_n m137_63 rfl ?_
                  refine g_iconst m137_64 ?_
                  refine h_cv (k := 57) (p := 89) (args := [.int (nI (ja)), .int (1)]) (rest := []) m137_65 cn_111 (Nat.le_of_ble_eq_true rfl) rfl rfl rfl (t_57 _ _) (Nat.le_of_ble_eq_true rfl) ?_
                  refine c_its (w := 1) (by omega) (by omega) ?_
                  refine gwr ?_
                  refine g_iret m137_68 rt_137 ?_
                  exact hY ja jb rfl (by omega) rfl (by omega) (by rw [hkk]; rcases (show jb = 0 ∨ jb = 1 ∨ jb = 2 ∨ jb = 3 ∨ jb = 4 ∨ jb = 5 ∨ jb = 6 by omega) with rfl | rfl | rfl | rfl | rfl | rfl | rfl <;> first | rfl | (exfalso; omega))
                · skip
                  refine g_aload_n m137_53 rfl ?_
                  refine g_ldci m137_54 rfl ?_
                  refine h_cv (k := 57) (p := 89) (args := [.int (-1000000005)]) (rest := []) m137_56 cn_108 (Nat.le_of_ble_eq_true rfl) rfl rfl rfl (t_57 _ _) (Nat.le_of_ble_eq_true rfl) ?_
                  refine c_errs (e := 5) (by decide) (by decide) (by decide) ?_
                  refine gwr ?_
                  refine g_goto m137_59 ?_
                  refine g_iret m137_68 rt_137 ?_
                  exact hE5 ⟨ja, jb, rfl, by omega, rfl, by omega, by rw [hkk]; intro z; rcases (show jb = 0 ∨ jb = 1 ∨ jb = 2 ∨ jb = 3 ∨ jb = 4 ∨ jb = 5 ∨ jb = 6 by omega) with rfl | rfl | rfl | rfl | rfl | rfl | rfl <;> first | (exfalso; omega) | exact absurd z (by decide)⟩
              · skip
                refine g_iload_n m137_41 rfl ?_
                refine g_cs (args := [.int (nI (0))]) (rest := []) 0 (Or.inl rfl) m137_42 (Nat.le_of_ble_eq_true rfl) rfl rfl (Nat.le_of_ble_eq_true rfl) ?_
                refine c_above (k := 0) (by decide) ?_
                refine gwr ?_
                refine g_istore_n (L2 := [some (.ref (89)), some (.int (nI (ja))), some (.int (nI (jb))), some (.int (-1))]) m137_45 rfl rfl ?_
                refine g_goto m137_46 ?_
                refine g_iload_n m137_32 rfl ?_
                refine h_if_ltT (xi := (-1)) (zi := 0) m137_33 rfl rfl (by decide) ?_
                refine g_iload_n m137_49 rfl ?_
                refine h_if_geF (xi := (-1)) (zi := 0) m137_50 rfl rfl (by decide) ?_
                refine g_aload_n m137_53 rfl ?_
                refine g_ldci m137_54 rfl ?_
                refine h_cv (k := 57) (p := 89) (args := [.int (-1000000005)]) (rest := []) m137_56 cn_108 (Nat.le_of_ble_eq_true rfl) rfl rfl rfl (t_57 _ _) (Nat.le_of_ble_eq_true rfl) ?_
                refine c_errs (e := 5) (by decide) (by decide) (by decide) ?_
                refine gwr ?_
                refine g_goto m137_59 ?_
                refine g_iret m137_68 rt_137 ?_
                exact hE5 ⟨ja, jb, rfl, by omega, rfl, by omega, by rw [hkk]; intro z; rcases (show jb = 0 ∨ jb = 1 ∨ jb = 2 ∨ jb = 3 ∨ jb = 4 ∨ jb = 5 ∨ jb = 6 by omega) with rfl | rfl | rfl | rfl | rfl | rfl | rfl <;> first | (exfalso; omega) | exact absurd z (by decide)⟩
      · skip
        refine gwr ?_
        refine g_istore_n (L2 := [some (.ref (89)), some (.int (nI (ja))), some (.int (nI (jb))), some (.int (nI (3)))]) m137_31 rfl rfl ?_
        refine g_iload_n m137_32 rfl ?_
        refine h_if_lt (xi := ((3 : Nat) : Int)) (zi := 0) m137_33 (nI_toInt (by omega)) rfl (fun c21 => ?_) (fun c21 => ?_)
        · skip
          refine g_iload_n m137_49 rfl ?_
          refine h_if_ge (xi := ((3 : Nat) : Int)) (zi := 0) m137_50 (nI_toInt (by omega)) rfl (fun c22 => ?_) (fun c22 => ?_)
          · skip
            refine g_aload_n m137_62 rfl ?_
            refine g_iload_n m137_63 rfl ?_
            refine g_iconst m137_64 ?_
            refine h_cv (k := 57) (p := 89) (args := [.int (nI (ja)), .int (1)]) (rest := []) m137_65 cn_111 (Nat.le_of_ble_eq_true rfl) rfl rfl rfl (t_57 _ _) (Nat.le_of_ble_eq_true rfl) ?_
            refine c_its (w := 1) (by omega) (by omega) ?_
            refine gwr ?_
            refine g_iret m137_68 rt_137 ?_
            exact hY ja jb rfl (by omega) rfl (by omega) (by rw [hkk]; rcases (show jb = 0 ∨ jb = 1 ∨ jb = 2 ∨ jb = 3 ∨ jb = 4 ∨ jb = 5 ∨ jb = 6 by omega) with rfl | rfl | rfl | rfl | rfl | rfl | rfl <;> first | rfl | (exfalso; omega))
          · skip
            refine g_aload_n m137_53 rfl ?_
            refine g_ldci m137_54 rfl ?_
            refine h_cv (k := 57) (p := 89) (args := [.int (-1000000005)]) (rest := []) m137_56 cn_108 (Nat.le_of_ble_eq_true rfl) rfl rfl rfl (t_57 _ _) (Nat.le_of_ble_eq_true rfl) ?_
            refine c_errs (e := 5) (by decide) (by decide) (by decide) ?_
            refine gwr ?_
            refine g_goto m137_59 ?_
            refine g_iret m137_68 rt_137 ?_
            exact hE5 ⟨ja, jb, rfl, by omega, rfl, by omega, by rw [hkk]; intro z; rcases (show jb = 0 ∨ jb = 1 ∨ jb = 2 ∨ jb = 3 ∨ jb = 4 ∨ jb = 5 ∨ jb = 6 by omega) with rfl | rfl | rfl | rfl | rfl | rfl | rfl <;> first | (exfalso; omega) | exact absurd z (by decide)⟩
        · skip
          refine g_iload_n m137_36 rfl ?_
          refine g_iload_n m137_37 rfl ?_
          refine h_ic_eq (xi := ((3 : Nat) : Int)) (zi := ((jb : Nat) : Int)) m137_38 (nI_toInt (by omega)) (nI_toInt (by omega)) (fun c23 => ?_) (fun c23 => ?_)
          · skip
            refine g_iload_n m137_49 rfl ?_
            refine h_if_ge (xi := ((3 : Nat) : Int)) (zi := 0) m137_50 (nI_toInt (by omega)) rfl (fun c24 => ?_) (fun c24 => ?_)
            · skip
              refine g_aload_n m137_62 rfl ?_
              refine g_iload_n m137_63 rfl ?_
              refine g_iconst m137_64 ?_
              refine h_cv (k := 57) (p := 89) (args := [.int (nI (ja)), .int (1)]) (rest := []) m137_65 cn_111 (Nat.le_of_ble_eq_true rfl) rfl rfl rfl (t_57 _ _) (Nat.le_of_ble_eq_true rfl) ?_
              refine c_its (w := 1) (by omega) (by omega) ?_
              refine gwr ?_
              refine g_iret m137_68 rt_137 ?_
              exact hY ja jb rfl (by omega) rfl (by omega) (by rw [hkk]; rcases (show jb = 0 ∨ jb = 1 ∨ jb = 2 ∨ jb = 3 ∨ jb = 4 ∨ jb = 5 ∨ jb = 6 by omega) with rfl | rfl | rfl | rfl | rfl | rfl | rfl <;> first | rfl | (exfalso; omega))
            · skip
              refine g_aload_n m137_53 rfl ?_
              refine g_ldci m137_54 rfl ?_
              refine h_cv (k := 57) (p := 89) (args := [.int (-1000000005)]) (rest := []) m137_56 cn_108 (Nat.le_of_ble_eq_true rfl) rfl rfl rfl (t_57 _ _) (Nat.le_of_ble_eq_true rfl) ?_
              refine c_errs (e := 5) (by decide) (by decide) (by decide) ?_
              refine gwr ?_
              refine g_goto m137_59 ?_
              refine g_iret m137_68 rt_137 ?_
              exact hE5 ⟨ja, jb, rfl, by omega, rfl, by omega, by rw [hkk]; intro z; rcases (show jb = 0 ∨ jb = 1 ∨ jb = 2 ∨ jb = 3 ∨ jb = 4 ∨ jb = 5 ∨ jb = 6 by omega) with rfl | rfl | rfl | rfl | rfl | rfl | rfl <;> first | (exfalso; omega) | exact absurd z (by decide)⟩
          · skip
            refine g_iload_n m137_41 rfl ?_
            refine g_cs (args := [.int (nI (3))]) (rest := []) 0 (Or.inl rfl) m137_42 (Nat.le_of_ble_eq_true rfl) rfl rfl (Nat.le_of_ble_eq_true rfl) ?_
            refine c_above (k := 3) (by decide) ?_
            refine gwr ?_
            refine g_istore_n (L2 := [some (.ref (89)), some (.int (nI (ja))), some (.int (nI (jb))), some (.int (nI (0)))]) m137_45 rfl rfl ?_
            refine g_goto m137_46 ?_
            refine g_iload_n m137_32 rfl ?_
            refine h_if_lt (xi := ((0 : Nat) : Int)) (zi := 0) m137_33 (nI_toInt (by omega)) rfl (fun c25 => ?_) (fun c25 => ?_)
            · skip
              refine g_iload_n m137_49 rfl ?_
              refine h_if_ge (xi := ((0 : Nat) : Int)) (zi := 0) m137_50 (nI_toInt (by omega)) rfl (fun c26 => ?_) (fun c26 => ?_)
              · skip
                refine g_aload_n m137_62 rfl ?_
                refine g_iload_n m137_63 rfl ?_
                refine g_iconst m137_64 ?_
                refine h_cv (k := 57) (p := 89) (args := [.int (nI (ja)), .int (1)]) (rest := []) m137_65 cn_111 (Nat.le_of_ble_eq_true rfl) rfl rfl rfl (t_57 _ _) (Nat.le_of_ble_eq_true rfl) ?_
                refine c_its (w := 1) (by omega) (by omega) ?_
                refine gwr ?_
                refine g_iret m137_68 rt_137 ?_
                exact hY ja jb rfl (by omega) rfl (by omega) (by rw [hkk]; rcases (show jb = 0 ∨ jb = 1 ∨ jb = 2 ∨ jb = 3 ∨ jb = 4 ∨ jb = 5 ∨ jb = 6 by omega) with rfl | rfl | rfl | rfl | rfl | rfl | rfl <;> first | rfl | (exfalso; omega))
              · skip
                refine g_aload_n m137_53 rfl ?_
                refine g_ldci m137_54 rfl ?_
                refine h_cv (k := 57) (p := 89) (args := [.int (-1000000005)]) (rest := []) m137_56 cn_108 (Nat.le_of_ble_eq_true rfl) rfl rfl rfl (t_57 _ _) (Nat.le_of_ble_eq_true rfl) ?_
                refine c_errs (e := 5) (by decide) (by decide) (by decide) ?_
                refine gwr ?_
                refine g_goto m137_59 ?_
                refine g_iret m137_68 rt_137 ?_
                exact hE5 ⟨ja, jb, rfl, by omega, rfl, by omega, by rw [hkk]; intro z; rcases (show jb = 0 ∨ jb = 1 ∨ jb = 2 ∨ jb = 3 ∨ jb = 4 ∨ jb = 5 ∨ jb = 6 by omega) with rfl | rfl | rfl | rfl | rfl | rfl | rfl <;> first | (exfalso; omega) | exact absurd z (by decide)⟩
            · skip
              refine g_iload_n m137_36 rfl ?_
              refine g_iload_n m137_37 rfl ?_
              refine h_ic_eq (xi := ((0 : Nat) : Int)) (zi := ((jb : Nat) : Int)) m137_38 (nI_toInt (by omega)) (nI_toInt (by omega)) (fun c27 => ?_) (fun c27 => ?_)
              · skip
                refine g_iload_n m137_49 rfl ?_
                refine h_if_ge (xi := ((0 : Nat) : Int)) (zi := 0) m137_50 (nI_toInt (by omega)) rfl (fun c28 => ?_) (fun c28 => ?_)
                · skip
                  refine g_aload_n m137_62 rfl ?_
                  refine g_iload_n m137_63 rfl ?_
                  refine g_iconst m137_64 ?_
                  refine h_cv (k := 57) (p := 89) (args := [.int (nI (ja)), .int (1)]) (rest := []) m137_65 cn_111 (Nat.le_of_ble_eq_true rfl) rfl rfl rfl (t_57 _ _) (Nat.le_of_ble_eq_true rfl) ?_
                  refine c_its (w := 1) (by omega) (by omega) ?_
                  refine gwr ?_
                  refine g_iret m137_68 rt_137 ?_
                  exact hY ja jb rfl (by omega) rfl (by omega) (by rw [hkk]; rcases (show jb = 0 ∨ jb = 1 ∨ jb = 2 ∨ jb = 3 ∨ jb = 4 ∨ jb = 5 ∨ jb = 6 by omega) with rfl | rfl | rfl | rfl | rfl | rfl | rfl <;> first | rfl | (exfalso; omega))
                · skip
                  refine g_aload_n m137_53 rfl ?_
                  refine g_ldci m137_54 rfl ?_
                  refine h_cv (k := 57) (p := 89) (args := [.int (-1000000005)]) (rest := []) m137_56 cn_108 (Nat.le_of_ble_eq_true rfl) rfl rfl rfl (t_57 _ _) (Nat.le_of_ble_eq_true rfl) ?_
                  refine c_errs (e := 5) (by decide) (by decide) (by decide) ?_
                  refine gwr ?_
                  refine g_goto m137_59 ?_
                  refine g_iret m137_68 rt_137 ?_
                  exact hE5 ⟨ja, jb, rfl, by omega, rfl, by omega, by rw [hkk]; intro z; rcases (show jb = 0 ∨ jb = 1 ∨ jb = 2 ∨ jb = 3 ∨ jb = 4 ∨ jb = 5 ∨ jb = 6 by omega) with rfl | rfl | rfl | rfl | rfl | rfl | rfl <;> first | (exfalso; omega) | exact absurd z (by decide)⟩
              · skip
                refine g_iload_n m137_41 rfl ?_
                refine g_cs (args := [.int (nI (0))]) (rest := []) 0 (Or.inl rfl) m137_42 (Nat.le_of_ble_eq_true rfl) rfl rfl (Nat.le_of_ble_eq_true rfl) ?_
                refine c_above (k := 0) (by decide) ?_
                refine gwr ?_
                refine g_istore_n (L2 := [some (.ref (89)), some (.int (nI (ja))), some (.int (nI (jb))), some (.int (-1))]) m137_45 rfl rfl ?_
                refine g_goto m137_46 ?_
                refine g_iload_n m137_32 rfl ?_
                refine h_if_ltT (xi := (-1)) (zi := 0) m137_33 rfl rfl (by decide) ?_
                refine g_iload_n m137_49 rfl ?_
                refine h_if_geF (xi := (-1)) (zi := 0) m137_50 rfl rfl (by decide) ?_
                refine g_aload_n m137_53 rfl ?_
                refine g_ldci m137_54 rfl ?_
                refine h_cv (k := 57) (p := 89) (args := [.int (-1000000005)]) (rest := []) m137_56 cn_108 (Nat.le_of_ble_eq_true rfl) rfl rfl rfl (t_57 _ _) (Nat.le_of_ble_eq_true rfl) ?_
                refine c_errs (e := 5) (by decide) (by decide) (by decide) ?_
                refine gwr ?_
                refine g_goto m137_59 ?_
                refine g_iret m137_68 rt_137 ?_
                exact hE5 ⟨ja, jb, rfl, by omega, rfl, by omega, by rw [hkk]; intro z; rcases (show jb = 0 ∨ jb = 1 ∨ jb = 2 ∨ jb = 3 ∨ jb = 4 ∨ jb = 5 ∨ jb = 6 by omega) with rfl | rfl | rfl | rfl | rfl | rfl | rfl <;> first | (exfalso; omega) | exact absurd z (by decide)⟩
      · skip
        refine gwr ?_
        refine g_istore_n (L2 := [some (.ref (89)), some (.int (nI (ja))), some (.int (nI (jb))), some (.int (nI (4)))]) m137_31 rfl rfl ?_
        refine g_iload_n m137_32 rfl ?_
        refine h_if_lt (xi := ((4 : Nat) : Int)) (zi := 0) m137_33 (nI_toInt (by omega)) rfl (fun c29 => ?_) (fun c29 => ?_)
        · skip
          refine g_iload_n m137_49 rfl ?_
          refine h_if_ge (xi := ((4 : Nat) : Int)) (zi := 0) m137_50 (nI_toInt (by omega)) rfl (fun c30 => ?_) (fun c30 => ?_)
          · skip
            refine g_aload_n m137_62 rfl ?_
            refine g_iload_n m137_63 rfl ?_
            refine g_iconst m137_64 ?_
            refine h_cv (k := 57) (p := 89) (args := [.int (nI (ja)), .int (1)]) (rest := []) m137_65 cn_111 (Nat.le_of_ble_eq_true rfl) rfl rfl rfl (t_57 _ _) (Nat.le_of_ble_eq_true rfl) ?_
            refine c_its (w := 1) (by omega) (by omega) ?_
            refine gwr ?_
            refine g_iret m137_68 rt_137 ?_
            exact hY ja jb rfl (by omega) rfl (by omega) (by rw [hkk]; rcases (show jb = 0 ∨ jb = 1 ∨ jb = 2 ∨ jb = 3 ∨ jb = 4 ∨ jb = 5 ∨ jb = 6 by omega) with rfl | rfl | rfl | rfl | rfl | rfl | rfl <;> first | rfl | (exfalso; omega))
          · skip
            refine g_aload_n m137_53 rfl ?_
            refine g_ldci m137_54 rfl ?_
            refine h_cv (k := 57) (p := 89) (args := [.int (-1000000005)]) (rest := []) m137_56 cn_108 (Nat.le_of_ble_eq_true rfl) rfl rfl rfl (t_57 _ _) (Nat.le_of_ble_eq_true rfl) ?_
            refine c_errs (e := 5) (by decide) (by decide) (by decide) ?_
            refine gwr ?_
            refine g_goto m137_59 ?_
            refine g_iret m137_68 rt_137 ?_
            exact hE5 ⟨ja, jb, rfl, by omega, rfl, by omega, by rw [hkk]; intro z; rcases (show jb = 0 ∨ jb = 1 ∨ jb = 2 ∨ jb = 3 ∨ jb = 4 ∨ jb = 5 ∨ jb = 6 by omega) with rfl | rfl | rfl | rfl | rfl | rfl | rfl <;> first | (exfalso; omega) | exact absurd z (by decide)⟩
        · skip
          refine g_iload_n m137_36 rfl ?_
          refine g_iload_n m137_37 rfl ?_
          refine h_ic_eq (xi := ((4 : Nat) : Int)) (zi := ((jb : Nat) : Int)) m137_38 (nI_toInt (by omega)) (nI_toInt (by omega)) (fun c31 => ?_) (fun c31 => ?_)
          · skip
            refine g_iload_n m137_49 rfl ?_
            refine h_if_ge (xi := ((4 : Nat) : Int)) (zi := 0) m137_50 (nI_toInt (by omega)) rfl (fun c32 => ?_) (fun c32 => ?_)
            · skip
              refine g_aload_n m137_62 rfl ?_
              refine g_iload_n m137_63 rfl ?_
              refine g_iconst m137_64 ?_
              refine h_cv (k := 57) (p := 89) (args := [.int (nI (ja)), .int (1)]) (rest := []) m137_65 cn_111 (Nat.le_of_ble_eq_true rfl) rfl rfl rfl (t_57 _ _) (Nat.le_of_ble_eq_true rfl) ?_
              refine c_its (w := 1) (by omega) (by omega) ?_
              refine gwr ?_
              refine g_iret m137_68 rt_137 ?_
              exact hY ja jb rfl (by omega) rfl (by omega) (by rw [hkk]; rcases (show jb = 0 ∨ jb = 1 ∨ jb = 2 ∨ jb = 3 ∨ jb = 4 ∨ jb = 5 ∨ jb = 6 by omega) with rfl | rfl | rfl | rfl | rfl | rfl | rfl <;> first | rfl | (exfalso; omega))
            · skip
              refine g_aload_n m137_53 rfl ?_
              refine g_ldci m137_54 rfl ?_
              refine h_cv (k := 57) (p := 89) (args := [.int (-1000000005)]) (rest := []) m137_56 cn_108 (Nat.le_of_ble_eq_true rfl) rfl rfl rfl (t_57 _ _) (Nat.le_of_ble_eq_true rfl) ?_
              refine c_errs (e := 5) (by decide) (by decide) (by decide) ?_
              refine gwr ?_
              refine g_goto m137_59 ?_
              refine g_iret m137_68 rt_137 ?_
              exact hE5 ⟨ja, jb, rfl, by omega, rfl, by omega, by rw [hkk]; intro z; rcases (show jb = 0 ∨ jb = 1 ∨ jb = 2 ∨ jb = 3 ∨ jb = 4 ∨ jb = 5 ∨ jb = 6 by omega) with rfl | rfl | rfl | rfl | rfl | rfl | rfl <;> first | (exfalso; omega) | exact absurd z (by decide)⟩
          · skip
            refine g_iload_n m137_41 rfl ?_
            refine g_cs (args := [.int (nI (4))]) (rest := []) 0 (Or.inl rfl) m137_42 (Nat.le_of_ble_eq_true rfl) rfl rfl (Nat.le_of_ble_eq_true rfl) ?_
            refine c_above (k := 4) (by decide) ?_
            refine gwr ?_
            refine g_istore_n (L2 := [some (.ref (89)), some (.int (nI (ja))), some (.int (nI (jb))), some (.int (nI (1)))]) m137_45 rfl rfl ?_
            refine g_goto m137_46 ?_
            refine g_iload_n m137_32 rfl ?_
            refine h_if_lt (xi := ((1 : Nat) : Int)) (zi := 0) m137_33 (nI_toInt (by omega)) rfl (fun c33 => ?_) (fun c33 => ?_)
            · skip
              refine g_iload_n m137_49 rfl ?_
              refine h_if_ge (xi := ((1 : Nat) : Int)) (zi := 0) m137_50 (nI_toInt (by omega)) rfl (fun c34 => ?_) (fun c34 => ?_)
              · skip
                refine g_aload_n m137_62 rfl ?_
                refine g_iload_n m137_63 rfl ?_
                refine g_iconst m137_64 ?_
                refine h_cv (k := 57) (p := 89) (args := [.int (nI (ja)), .int (1)]) (rest := []) m137_65 cn_111 (Nat.le_of_ble_eq_true rfl) rfl rfl rfl (t_57 _ _) (Nat.le_of_ble_eq_true rfl) ?_
                refine c_its (w := 1) (by omega) (by omega) ?_
                refine gwr ?_
                refine g_iret m137_68 rt_137 ?_
                exact hY ja jb rfl (by omega) rfl (by omega) (by rw [hkk]; rcases (show jb = 0 ∨ jb = 1 ∨ jb = 2 ∨ jb = 3 ∨ jb = 4 ∨ jb = 5 ∨ jb = 6 by omega) with rfl | rfl | rfl | rfl | rfl | rfl | rfl <;> first | rfl | (exfalso; omega))
              · skip
                refine g_aload_n m137_53 rfl ?_
                refine g_ldci m137_54 rfl ?_
                refine h_cv (k := 57) (p := 89) (args := [.int (-1000000005)]) (rest := []) m137_56 cn_108 (Nat.le_of_ble_eq_true rfl) rfl rfl rfl (t_57 _ _) (Nat.le_of_ble_eq_true rfl) ?_
                refine c_errs (e := 5) (by decide) (by decide) (by decide) ?_
                refine gwr ?_
                refine g_goto m137_59 ?_
                refine g_iret m137_68 rt_137 ?_
                exact hE5 ⟨ja, jb, rfl, by omega, rfl, by omega, by rw [hkk]; intro z; rcases (show jb = 0 ∨ jb = 1 ∨ jb = 2 ∨ jb = 3 ∨ jb = 4 ∨ jb = 5 ∨ jb = 6 by omega) with rfl | rfl | rfl | rfl | rfl | rfl | rfl <;> first | (exfalso; omega) | exact absurd z (by decide)⟩
            · skip
              refine g_iload_n m137_36 rfl ?_
              refine g_iload_n m137_37 rfl ?_
              refine h_ic_eq (xi := ((1 : Nat) : Int)) (zi := ((jb : Nat) : Int)) m137_38 (nI_toInt (by omega)) (nI_toInt (by omega)) (fun c35 => ?_) (fun c35 => ?_)
              · skip
                refine g_iload_n m137_49 rfl ?_
                refine h_if_ge (xi := ((1 : Nat) : Int)) (zi := 0) m137_50 (nI_toInt (by omega)) rfl (fun c36 => ?_) (fun c36 => ?_)
                · skip
                  refine g_aload_n m137_62 rfl ?_
                  refine g_iload_n m137_63 rfl ?_
                  refine g_iconst m137_64 ?_
                  refine h_cv (k := 57) (p := 89) (args := [.int (nI (ja)), .int (1)]) (rest := []) m137_65 cn_111 (Nat.le_of_ble_eq_true rfl) rfl rfl rfl (t_57 _ _) (Nat.le_of_ble_eq_true rfl) ?_
                  refine c_its (w := 1) (by omega) (by omega) ?_
                  refine gwr ?_
                  refine g_iret m137_68 rt_137 ?_
                  exact hY ja jb rfl (by omega) rfl (by omega) (by rw [hkk]; rcases (show jb = 0 ∨ jb = 1 ∨ jb = 2 ∨ jb = 3 ∨ jb = 4 ∨ jb = 5 ∨ jb = 6 by omega) with rfl | rfl | rfl | rfl | rfl | rfl | rfl <;> first | rfl | (exfalso; omega))
                · skip
                  refine g_aload_n m137_53 rfl ?_
                  refine g_ldci m137_54 rfl ?_
                  refine h_cv (k := 57) (p := 89) (args := [.int (-1000000005)]) (rest := []) m137_56 cn_108 (Nat.le_of_ble_eq_true rfl) rfl rfl rfl (t_57 _ _) (Nat.le_of_ble_eq_true rfl) ?_
                  refine c_errs (e := 5) (by decide) (by decide) (by decide) ?_
                  refine gwr ?_
                  refine g_goto m137_59 ?_
                  refine g_iret m137_68 rt_137 ?_
                  exact hE5 ⟨ja, jb, rfl, by omega, rfl, by omega, by rw [hkk]; intro z; rcases (show jb = 0 ∨ jb = 1 ∨ jb = 2 ∨ jb = 3 ∨ jb = 4 ∨ jb = 5 ∨ jb = 6 by omega) with rfl | rfl | rfl | rfl | rfl | rfl | rfl <;> first | (exfalso; omega) | exact absurd z (by decide)⟩
              · skip
                refine g_iload_n m137_41 rfl ?_
                refine g_cs (args := [.int (nI (1))]) (rest := []) 0 (Or.inl rfl) m137_42 (Nat.le_of_ble_eq_true rfl) rfl rfl (Nat.le_of_ble_eq_true rfl) ?_
                refine c_above (k := 1) (by decide) ?_
                refine gwr ?_
                refine g_istore_n (L2 := [some (.ref (89)), some (.int (nI (ja))), some (.int (nI (jb))), some (.int (nI (0)))]) m137_45 rfl rfl ?_
                refine g_goto m137_46 ?_
                refine g_iload_n m137_32 rfl ?_
                refine h_if_lt (xi := ((0 : Nat) : Int)) (zi := 0) m137_33 (nI_toInt (by omega)) rfl (fun c37 => ?_) (fun c37 => ?_)
                · skip
                  refine g_iload_n m137_49 rfl ?_
                  refine h_if_ge (xi := ((0 : Nat) : Int)) (zi := 0) m137_50 (nI_toInt (by omega)) rfl (fun c38 => ?_) (fun c38 => ?_)
                  · skip
                    refine g_aload_n m137_62 rfl ?_
                    refine g_iload_n m137_63 rfl ?_
                    refine g_iconst m137_64 ?_
                    refine h_cv (k := 57) (p := 89) (args := [.int (nI (ja)), .int (1)]) (rest := []) m137_65 cn_111 (Nat.le_of_ble_eq_true rfl) rfl rfl rfl (t_57 _ _) (Nat.le_of_ble_eq_true rfl) ?_
                    refine c_its (w := 1) (by omega) (by omega) ?_
                    refine gwr ?_
                    refine g_iret m137_68 rt_137 ?_
                    exact hY ja jb rfl (by omega) rfl (by omega) (by rw [hkk]; rcases (show jb = 0 ∨ jb = 1 ∨ jb = 2 ∨ jb = 3 ∨ jb = 4 ∨ jb = 5 ∨ jb = 6 by omega) with rfl | rfl | rfl | rfl | rfl | rfl | rfl <;> first | rfl | (exfalso; omega))
                  · skip
                    refine g_aload_n m137_53 rfl ?_
                    refine g_ldci m137_54 rfl ?_
                    refine h_cv (k := 57) (p := 89) (args := [.int (-1000000005)]) (rest := []) m137_56 cn_108 (Nat.le_of_ble_eq_true rfl) rfl rfl rfl (t_57 _ _) (Nat.le_of_ble_eq_true rfl) ?_
                    refine c_errs (e := 5) (by decide) (by decide) (by decide) ?_
                    refine gwr ?_
                    refine g_goto m137_59 ?_
                    refine g_iret m137_68 rt_137 ?_
                    exact hE5 ⟨ja, jb, rfl, by omega, rfl, by omega, by rw [hkk]; intro z; rcases (show jb = 0 ∨ jb = 1 ∨ jb = 2 ∨ jb = 3 ∨ jb = 4 ∨ jb = 5 ∨ jb = 6 by omega) with rfl | rfl | rfl | rfl | rfl | rfl | rfl <;> first | (exfalso; omega) | exact absurd z (by decide)⟩
                · skip
                  refine g_iload_n m137_36 rfl ?_
                  refine g_iload_n m137_37 rfl ?_
                  refine h_ic_eq (xi := ((0 : Nat) : Int)) (zi := ((jb : Nat) : Int)) m137_38 (nI_toInt (by omega)) (nI_toInt (by omega)) (fun c39 => ?_) (fun c39 => ?_)
                  · skip
                    refine g_iload_n m137_49 rfl ?_
                    refine h_if_ge (xi := ((0 : Nat) : Int)) (zi := 0) m137_50 (nI_toInt (by omega)) rfl (fun c40 => ?_) (fun c40 => ?_)
                    · skip
                      refine g_aload_n m137_62 rfl ?_
                      refine g_iload_n m137_63 rfl ?_
                      refine g_iconst m137_64 ?_
                      refine h_cv (k := 57) (p := 89) (args := [.int (nI (ja)), .int (1)]) (rest := []) m137_65 cn_111 (Nat.le_of_ble_eq_true rfl) rfl rfl rfl (t_57 _ _) (Nat.le_of_ble_eq_true rfl) ?_
                      refine c_its (w := 1) (by omega) (by omega) ?_
                      refine gwr ?_
                      refine g_iret m137_68 rt_137 ?_
                      exact hY ja jb rfl (by omega) rfl (by omega) (by rw [hkk]; rcases (show jb = 0 ∨ jb = 1 ∨ jb = 2 ∨ jb = 3 ∨ jb = 4 ∨ jb = 5 ∨ jb = 6 by omega) with rfl | rfl | rfl | rfl | rfl | rfl | rfl <;> first | rfl | (exfalso; omega))
                    · skip
                      refine g_aload_n m137_53 rfl ?_
                      refine g_ldci m137_54 rfl ?_
                      refine h_cv (k := 57) (p := 89) (args := [.int (-1000000005)]) (rest := []) m137_56 cn_108 (Nat.le_of_ble_eq_true rfl) rfl rfl rfl (t_57 _ _) (Nat.le_of_ble_eq_true rfl) ?_
                      refine c_errs (e := 5) (by decide) (by decide) (by decide) ?_
                      refine gwr ?_
                      refine g_goto m137_59 ?_
                      refine g_iret m137_68 rt_137 ?_
                      exact hE5 ⟨ja, jb, rfl, by omega, rfl, by omega, by rw [hkk]; intro z; rcases (show jb = 0 ∨ jb = 1 ∨ jb = 2 ∨ jb = 3 ∨ jb = 4 ∨ jb = 5 ∨ jb = 6 by omega) with rfl | rfl | rfl | rfl | rfl | rfl | rfl <;> first | (exfalso; omega) | exact absurd z (by decide)⟩
                  · skip
                    refine g_iload_n m137_41 rfl ?_
                    refine g_cs (args := [.int (nI (0))]) (rest := []) 0 (Or.inl rfl) m137_42 (Nat.le_of_ble_eq_true rfl) rfl rfl (Nat.le_of_ble_eq_true rfl) ?_
                    refine c_above (k := 0) (by decide) ?_
                    refine gwr ?_
                    refine g_istore_n (L2 := [some (.ref (89)), some (.int (nI (ja))), some (.int (nI (jb))), some (.int (-1))]) m137_45 rfl rfl ?_
                    refine g_goto m137_46 ?_
                    refine g_iload_n m137_32 rfl ?_
                    refine h_if_ltT (xi := (-1)) (zi := 0) m137_33 rfl rfl (by decide) ?_
                    refine g_iload_n m137_49 rfl ?_
                    refine h_if_geF (xi := (-1)) (zi := 0) m137_50 rfl rfl (by decide) ?_
                    refine g_aload_n m137_53 rfl ?_
                    refine g_ldci m137_54 rfl ?_
                    refine h_cv (k := 57) (p := 89) (args := [.int (-1000000005)]) (rest := []) m137_56 cn_108 (Nat.le_of_ble_eq_true rfl) rfl rfl rfl (t_57 _ _) (Nat.le_of_ble_eq_true rfl) ?_
                    refine c_errs (e := 5) (by decide) (by decide) (by decide) ?_
                    refine gwr ?_
                    refine g_goto m137_59 ?_
                    refine g_iret m137_68 rt_137 ?_
                    exact hE5 ⟨ja, jb, rfl, by omega, rfl, by omega, by rw [hkk]; intro z; rcases (show jb = 0 ∨ jb = 1 ∨ jb = 2 ∨ jb = 3 ∨ jb = 4 ∨ jb = 5 ∨ jb = 6 by omega) with rfl | rfl | rfl | rfl | rfl | rfl | rfl <;> first | (exfalso; omega) | exact absurd z (by decide)⟩
      · skip
        refine gwr ?_
        refine g_istore_n (L2 := [some (.ref (89)), some (.int (nI (ja))), some (.int (nI (jb))), some (.int (nI (5)))]) m137_31 rfl rfl ?_
        refine g_iload_n m137_32 rfl ?_
        refine h_if_lt (xi := ((5 : Nat) : Int)) (zi := 0) m137_33 (nI_toInt (by omega)) rfl (fun c41 => ?_) (fun c41 => ?_)
        · skip
          refine g_iload_n m137_49 rfl ?_
          refine h_if_ge (xi := ((5 : Nat) : Int)) (zi := 0) m137_50 (nI_toInt (by omega)) rfl (fun c42 => ?_) (fun c42 => ?_)
          · skip
            refine g_aload_n m137_62 rfl ?_
            refine g_iload_n m137_63 rfl ?_
            refine g_iconst m137_64 ?_
            refine h_cv (k := 57) (p := 89) (args := [.int (nI (ja)), .int (1)]) (rest := []) m137_65 cn_111 (Nat.le_of_ble_eq_true rfl) rfl rfl rfl (t_57 _ _) (Nat.le_of_ble_eq_true rfl) ?_
            refine c_its (w := 1) (by omega) (by omega) ?_
            refine gwr ?_
            refine g_iret m137_68 rt_137 ?_
            exact hY ja jb rfl (by omega) rfl (by omega) (by rw [hkk]; rcases (show jb = 0 ∨ jb = 1 ∨ jb = 2 ∨ jb = 3 ∨ jb = 4 ∨ jb = 5 ∨ jb = 6 by omega) with rfl | rfl | rfl | rfl | rfl | rfl | rfl <;> first | rfl | (exfalso; omega))
          · skip
            refine g_aload_n m137_53 rfl ?_
            refine g_ldci m137_54 rfl ?_
            refine h_cv (k := 57) (p := 89) (args := [.int (-1000000005)]) (rest := []) m137_56 cn_108 (Nat.le_of_ble_eq_true rfl) rfl rfl rfl (t_57 _ _) (Nat.le_of_ble_eq_true rfl) ?_
            refine c_errs (e := 5) (by decide) (by decide) (by decide) ?_
            refine gwr ?_
            refine g_goto m137_59 ?_
            refine g_iret m137_68 rt_137 ?_
            exact hE5 ⟨ja, jb, rfl, by omega, rfl, by omega, by rw [hkk]; intro z; rcases (show jb = 0 ∨ jb = 1 ∨ jb = 2 ∨ jb = 3 ∨ jb = 4 ∨ jb = 5 ∨ jb = 6 by omega) with rfl | rfl | rfl | rfl | rfl | rfl | rfl <;> first | (exfalso; omega) | exact absurd z (by decide)⟩
        · skip
          refine g_iload_n m137_36 rfl ?_
          refine g_iload_n m137_37 rfl ?_
          refine h_ic_eq (xi := ((5 : Nat) : Int)) (zi := ((jb : Nat) : Int)) m137_38 (nI_toInt (by omega)) (nI_toInt (by omega)) (fun c43 => ?_) (fun c43 => ?_)
          · skip
            refine g_iload_n m137_49 rfl ?_
            refine h_if_ge (xi := ((5 : Nat) : Int)) (zi := 0) m137_50 (nI_toInt (by omega)) rfl (fun c44 => ?_) (fun c44 => ?_)
            · skip
              refine g_aload_n m137_62 rfl ?_
              refine g_iload_n m137_63 rfl ?_
              refine g_iconst m137_64 ?_
              refine h_cv (k := 57) (p := 89) (args := [.int (nI (ja)), .int (1)]) (rest := []) m137_65 cn_111 (Nat.le_of_ble_eq_true rfl) rfl rfl rfl (t_57 _ _) (Nat.le_of_ble_eq_true rfl) ?_
              refine c_its (w := 1) (by omega) (by omega) ?_
              refine gwr ?_
              refine g_iret m137_68 rt_137 ?_
              exact hY ja jb rfl (by omega) rfl (by omega) (by rw [hkk]; rcases (show jb = 0 ∨ jb = 1 ∨ jb = 2 ∨ jb = 3 ∨ jb = 4 ∨ jb = 5 ∨ jb = 6 by omega) with rfl | rfl | rfl | rfl | rfl | rfl | rfl <;> first | rfl | (exfalso; omega))
            · skip
              refine g_aload_n m137_53 rfl ?_
              refine g_ldci m137_54 rfl ?_
              refine h_cv (k := 57) (p := 89) (args := [.int (-1000000005)]) (rest := []) m137_56 cn_108 (Nat.le_of_ble_eq_true rfl) rfl rfl rfl (t_57 _ _) (Nat.le_of_ble_eq_true rfl) ?_
              refine c_errs (e := 5) (by decide) (by decide) (by decide) ?_
              refine gwr ?_
              refine g_goto m137_59 ?_
              refine g_iret m137_68 rt_137 ?_
              exact hE5 ⟨ja, jb, rfl, by omega, rfl, by omega, by rw [hkk]; intro z; rcases (show jb = 0 ∨ jb = 1 ∨ jb = 2 ∨ jb = 3 ∨ jb = 4 ∨ jb = 5 ∨ jb = 6 by omega) with rfl | rfl | rfl | rfl | rfl | rfl | rfl <;> first | (exfalso; omega) | exact absurd z (by decide)⟩
          · skip
            refine g_iload_n m137_41 rfl ?_
            refine g_cs (args := [.int (nI (5))]) (rest := []) 0 (Or.inl rfl) m137_42 (Nat.le_of_ble_eq_true rfl) rfl rfl (Nat.le_of_ble_eq_true rfl) ?_
            refine c_above (k := 5) (by decide) ?_
            refine gwr ?_
            refine g_istore_n (L2 := [some (.ref (89)), some (.int (nI (ja))), some (.int (nI (jb))), some (.int (nI (2)))]) m137_45 rfl rfl ?_
            refine g_goto m137_46 ?_
            refine g_iload_n m137_32 rfl ?_
            refine h_if_lt (xi := ((2 : Nat) : Int)) (zi := 0) m137_33 (nI_toInt (by omega)) rfl (fun c45 => ?_) (fun c45 => ?_)
            · skip
              refine g_iload_n m137_49 rfl ?_
              refine h_if_ge (xi := ((2 : Nat) : Int)) (zi := 0) m137_50 (nI_toInt (by omega)) rfl (fun c46 => ?_) (fun c46 => ?_)
              · skip
                refine g_aload_n m137_62 rfl ?_
                refine g_iload_n m137_63 rfl ?_
                refine g_iconst m137_64 ?_
                refine h_cv (k := 57) (p := 89) (args := [.int (nI (ja)), .int (1)]) (rest := []) m137_65 cn_111 (Nat.le_of_ble_eq_true rfl) rfl rfl rfl (t_57 _ _) (Nat.le_of_ble_eq_true rfl) ?_
                refine c_its (w := 1) (by omega) (by omega) ?_
                refine gwr ?_
                refine g_iret m137_68 rt_137 ?_
                exact hY ja jb rfl (by omega) rfl (by omega) (by rw [hkk]; rcases (show jb = 0 ∨ jb = 1 ∨ jb = 2 ∨ jb = 3 ∨ jb = 4 ∨ jb = 5 ∨ jb = 6 by omega) with rfl | rfl | rfl | rfl | rfl | rfl | rfl <;> first | rfl | (exfalso; omega))
              · skip
                refine g_aload_n m137_53 rfl ?_
                refine g_ldci m137_54 rfl ?_
                refine h_cv (k := 57) (p := 89) (args := [.int (-1000000005)]) (rest := []) m137_56 cn_108 (Nat.le_of_ble_eq_true rfl) rfl rfl rfl (t_57 _ _) (Nat.le_of_ble_eq_true rfl) ?_
                refine c_errs (e := 5) (by decide) (by decide) (by decide) ?_
                refine gwr ?_
                refine g_goto m137_59 ?_
                refine g_iret m137_68 rt_137 ?_
                exact hE5 ⟨ja, jb, rfl, by omega, rfl, by omega, by rw [hkk]; intro z; rcases (show jb = 0 ∨ jb = 1 ∨ jb = 2 ∨ jb = 3 ∨ jb = 4 ∨ jb = 5 ∨ jb = 6 by omega) with rfl | rfl | rfl | rfl | rfl | rfl | rfl <;> first | (exfalso; omega) | exact absurd z (by decide)⟩
            · skip
              refine g_iload_n m137_36 rfl ?_
              refine g_iload_n m137_37 rfl ?_
              refine h_ic_eq (xi := ((2 : Nat) : Int)) (zi := ((jb : Nat) : Int)) m137_38 (nI_toInt (by omega)) (nI_toInt (by omega)) (fun c47 => ?_) (fun c47 => ?_)
              · skip
                refine g_iload_n m137_49 rfl ?_
                refine h_if_ge (xi := ((2 : Nat) : Int)) (zi := 0) m137_50 (nI_toInt (by omega)) rfl (fun c48 => ?_) (fun c48 => ?_)
                · skip
                  refine g_aload_n m137_62 rfl ?_
                  refine g_iload_n m137_63 rfl ?_
                  refine g_iconst m137_64 ?_
                  refine h_cv (k := 57) (p := 89) (args := [.int (nI (ja)), .int (1)]) (rest := []) m137_65 cn_111 (Nat.le_of_ble_eq_true rfl) rfl rfl rfl (t_57 _ _) (Nat.le_of_ble_eq_true rfl) ?_
                  refine c_its (w := 1) (by omega) (by omega) ?_
                  refine gwr ?_
                  refine g_iret m137_68 rt_137 ?_
                  exact hY ja jb rfl (by omega) rfl (by omega) (by rw [hkk]; rcases (show jb = 0 ∨ jb = 1 ∨ jb = 2 ∨ jb = 3 ∨ jb = 4 ∨ jb = 5 ∨ jb = 6 by omega) with rfl | rfl | rfl | rfl | rfl | rfl | rfl <;> first | rfl | (exfalso; omega))
                · skip
                  refine g_aload_n m137_53 rfl ?_
                  refine g_ldci m137_54 rfl ?_
                  refine h_cv (k := 57) (p := 89) (args := [.int (-1000000005)]) (rest := []) m137_56 cn_108 (Nat.le_of_ble_eq_true rfl) rfl rfl rfl (t_57 _ _) (Nat.le_of_ble_eq_true rfl) ?_
                  refine c_errs (e := 5) (by decide) (by decide) (by decide) ?_
                  refine gwr ?_
                  refine g_goto m137_59 ?_
                  refine g_iret m137_68 rt_137 ?_
                  exact hE5 ⟨ja, jb, rfl, by omega, rfl, by omega, by rw [hkk]; intro z; rcases (show jb = 0 ∨ jb = 1 ∨ jb = 2 ∨ jb = 3 ∨ jb = 4 ∨ jb = 5 ∨ jb = 6 by omega) with rfl | rfl | rfl | rfl | rfl | rfl | rfl <;> first | (exfalso; omega) | exact absurd z (by decide)⟩
              · skip
                refine g_iload_n m137_41 rfl ?_
                refine g_cs (args := [.int (nI (2))]) (rest := []) 0 (Or.inl rfl) m137_42 (Nat.le_of_ble_eq_true rfl) rfl rfl (Nat.le_of_ble_eq_true rfl) ?_
                refine c_above (k := 2) (by decide) ?_
                refine gwr ?_
                refine g_istore_n (L2 := [some (.ref (89)), some (.int (nI (ja))), some (.int (nI (jb))), some (.int (nI (0)))]) m137_45 rfl rfl ?_
                refine g_goto m137_46 ?_
                refine g_iload_n m137_32 rfl ?_
                refine h_if_lt (xi := ((0 : Nat) : Int)) (zi := 0) m137_33 (nI_toInt (by omega)) rfl (fun c49 => ?_) (fun c49 => ?_)
                · skip
                  refine g_iload_n m137_49 rfl ?_
                  refine h_if_ge (xi := ((0 : Nat) : Int)) (zi := 0) m137_50 (nI_toInt (by omega)) rfl (fun c50 => ?_) (fun c50 => ?_)
                  · skip
                    refine g_aload_n m137_62 rfl ?_
                    refine g_iload_n m137_63 rfl ?_
                    refine g_iconst m137_64 ?_
                    refine h_cv (k := 57) (p := 89) (args := [.int (nI (ja)), .int (1)]) (rest := []) m137_65 cn_111 (Nat.le_of_ble_eq_true rfl) rfl rfl rfl (t_57 _ _) (Nat.le_of_ble_eq_true rfl) ?_
                    refine c_its (w := 1) (by omega) (by omega) ?_
                    refine gwr ?_
                    refine g_iret m137_68 rt_137 ?_
                    exact hY ja jb rfl (by omega) rfl (by omega) (by rw [hkk]; rcases (show jb = 0 ∨ jb = 1 ∨ jb = 2 ∨ jb = 3 ∨ jb = 4 ∨ jb = 5 ∨ jb = 6 by omega) with rfl | rfl | rfl | rfl | rfl | rfl | rfl <;> first | rfl | (exfalso; omega))
                  · skip
                    refine g_aload_n m137_53 rfl ?_
                    refine g_ldci m137_54 rfl ?_
                    refine h_cv (k := 57) (p := 89) (args := [.int (-1000000005)]) (rest := []) m137_56 cn_108 (Nat.le_of_ble_eq_true rfl) rfl rfl rfl (t_57 _ _) (Nat.le_of_ble_eq_true rfl) ?_
                    refine c_errs (e := 5) (by decide) (by decide) (by decide) ?_
                    refine gwr ?_
                    refine g_goto m137_59 ?_
                    refine g_iret m137_68 rt_137 ?_
                    exact hE5 ⟨ja, jb, rfl, by omega, rfl, by omega, by rw [hkk]; intro z; rcases (show jb = 0 ∨ jb = 1 ∨ jb = 2 ∨ jb = 3 ∨ jb = 4 ∨ jb = 5 ∨ jb = 6 by omega) with rfl | rfl | rfl | rfl | rfl | rfl | rfl <;> first | (exfalso; omega) | exact absurd z (by decide)⟩
                · skip
                  refine g_iload_n m137_36 rfl ?_
                  refine g_iload_n m137_37 rfl ?_
                  refine h_ic_eq (xi := ((0 : Nat) : Int)) (zi := ((jb : Nat) : Int)) m137_38 (nI_toInt (by omega)) (nI_toInt (by omega)) (fun c51 => ?_) (fun c51 => ?_)
                  · skip
                    refine g_iload_n m137_49 rfl ?_
                    refine h_if_ge (xi := ((0 : Nat) : Int)) (zi := 0) m137_50 (nI_toInt (by omega)) rfl (fun c52 => ?_) (fun c52 => ?_)
                    · skip
                      refine g_aload_n m137_62 rfl ?_
                      refine g_iload_n m137_63 rfl ?_
                      refine g_iconst m137_64 ?_
                      refine h_cv (k := 57) (p := 89) (args := [.int (nI (ja)), .int (1)]) (rest := []) m137_65 cn_111 (Nat.le_of_ble_eq_true rfl) rfl rfl rfl (t_57 _ _) (Nat.le_of_ble_eq_true rfl) ?_
                      refine c_its (w := 1) (by omega) (by omega) ?_
                      refine gwr ?_
                      refine g_iret m137_68 rt_137 ?_
                      exact hY ja jb rfl (by omega) rfl (by omega) (by rw [hkk]; rcases (show jb = 0 ∨ jb = 1 ∨ jb = 2 ∨ jb = 3 ∨ jb = 4 ∨ jb = 5 ∨ jb = 6 by omega) with rfl | rfl | rfl | rfl | rfl | rfl | rfl <;> first | rfl | (exfalso; omega))
                    · skip
                      refine g_aload_n m137_53 rfl ?_
                      refine g_ldci m137_54 rfl ?_
                      refine h_cv (k := 57) (p := 89) (args := [.int (-1000000005)]) (rest := []) m137_56 cn_108 (Nat.le_of_ble_eq_true rfl) rfl rfl rfl (t_57 _ _) (Nat.le_of_ble_eq_true rfl) ?_
                      refine c_errs (e := 5) (by decide) (by decide) (by decide) ?_
                      refine gwr ?_
                      refine g_goto m137_59 ?_
                      refine g_iret m137_68 rt_137 ?_
                      exact hE5 ⟨ja, jb, rfl, by omega, rfl, by omega, by rw [hkk]; intro z; rcases (show jb = 0 ∨ jb = 1 ∨ jb = 2 ∨ jb = 3 ∨ jb = 4 ∨ jb = 5 ∨ jb = 6 by omega) with rfl | rfl | rfl | rfl | rfl | rfl | rfl <;> first | (exfalso; omega) | exact absurd z (by decide)⟩
                  · skip
                    refine g_iload_n m137_41 rfl ?_
                    refine g_cs (args := [.int (nI (0))]) (rest := []) 0 (Or.inl rfl) m137_42 (Nat.le_of_ble_eq_true rfl) rfl rfl (Nat.le_of_ble_eq_true rfl) ?_
                    refine c_above (k := 0) (by decide) ?_
                    refine gwr ?_
                    refine g_istore_n (L2 := [some (.ref (89)), some (.int (nI (ja))), some (.int (nI (jb))), some (.int (-1))]) m137_45 rfl rfl ?_
                    refine g_goto m137_46 ?_
                    refine g_iload_n m137_32 rfl ?_
                    refine h_if_ltT (xi := (-1)) (zi := 0) m137_33 rfl rfl (by decide) ?_
                    refine g_iload_n m137_49 rfl ?_
                    refine h_if_geF (xi := (-1)) (zi := 0) m137_50 rfl rfl (by decide) ?_
                    refine g_aload_n m137_53 rfl ?_
                    refine g_ldci m137_54 rfl ?_
                    refine h_cv (k := 57) (p := 89) (args := [.int (-1000000005)]) (rest := []) m137_56 cn_108 (Nat.le_of_ble_eq_true rfl) rfl rfl rfl (t_57 _ _) (Nat.le_of_ble_eq_true rfl) ?_
                    refine c_errs (e := 5) (by decide) (by decide) (by decide) ?_
                    refine gwr ?_
                    refine g_goto m137_59 ?_
                    refine g_iret m137_68 rt_137 ?_
                    exact hE5 ⟨ja, jb, rfl, by omega, rfl, by omega, by rw [hkk]; intro z; rcases (show jb = 0 ∨ jb = 1 ∨ jb = 2 ∨ jb = 3 ∨ jb = 4 ∨ jb = 5 ∨ jb = 6 by omega) with rfl | rfl | rfl | rfl | rfl | rfl | rfl <;> first | (exfalso; omega) | exact absurd z (by decide)⟩
      · skip
        refine gwr ?_
        refine g_istore_n (L2 := [some (.ref (89)), some (.int (nI (ja))), some (.int (nI (jb))), some (.int (nI (6)))]) m137_31 rfl rfl ?_
        refine g_iload_n m137_32 rfl ?_
        refine h_if_lt (xi := ((6 : Nat) : Int)) (zi := 0) m137_33 (nI_toInt (by omega)) rfl (fun c53 => ?_) (fun c53 => ?_)
        · skip
          refine g_iload_n m137_49 rfl ?_
          refine h_if_ge (xi := ((6 : Nat) : Int)) (zi := 0) m137_50 (nI_toInt (by omega)) rfl (fun c54 => ?_) (fun c54 => ?_)
          · skip
            refine g_aload_n m137_62 rfl ?_
            refine g_iload_n m137_63 rfl ?_
            refine g_iconst m137_64 ?_
            refine h_cv (k := 57) (p := 89) (args := [.int (nI (ja)), .int (1)]) (rest := []) m137_65 cn_111 (Nat.le_of_ble_eq_true rfl) rfl rfl rfl (t_57 _ _) (Nat.le_of_ble_eq_true rfl) ?_
            refine c_its (w := 1) (by omega) (by omega) ?_
            refine gwr ?_
            refine g_iret m137_68 rt_137 ?_
            exact hY ja jb rfl (by omega) rfl (by omega) (by rw [hkk]; rcases (show jb = 0 ∨ jb = 1 ∨ jb = 2 ∨ jb = 3 ∨ jb = 4 ∨ jb = 5 ∨ jb = 6 by omega) with rfl | rfl | rfl | rfl | rfl | rfl | rfl <;> first | rfl | (exfalso; omega))
          · skip
            refine g_aload_n m137_53 rfl ?_
            refine g_ldci m137_54 rfl ?_
            refine h_cv (k := 57) (p := 89) (args := [.int (-1000000005)]) (rest := []) m137_56 cn_108 (Nat.le_of_ble_eq_true rfl) rfl rfl rfl (t_57 _ _) (Nat.le_of_ble_eq_true rfl) ?_
            refine c_errs (e := 5) (by decide) (by decide) (by decide) ?_
            refine gwr ?_
            refine g_goto m137_59 ?_
            refine g_iret m137_68 rt_137 ?_
            exact hE5 ⟨ja, jb, rfl, by omega, rfl, by omega, by rw [hkk]; intro z; rcases (show jb = 0 ∨ jb = 1 ∨ jb = 2 ∨ jb = 3 ∨ jb = 4 ∨ jb = 5 ∨ jb = 6 by omega) with rfl | rfl | rfl | rfl | rfl | rfl | rfl <;> first | (exfalso; omega) | exact absurd z (by decide)⟩
        · skip
          refine g_iload_n m137_36 rfl ?_
          refine g_iload_n m137_37 rfl ?_
          refine h_ic_eq (xi := ((6 : Nat) : Int)) (zi := ((jb : Nat) : Int)) m137_38 (nI_toInt (by omega)) (nI_toInt (by omega)) (fun c55 => ?_) (fun c55 => ?_)
          · skip
            refine g_iload_n m137_49 rfl ?_
            refine h_if_ge (xi := ((6 : Nat) : Int)) (zi := 0) m137_50 (nI_toInt (by omega)) rfl (fun c56 => ?_) (fun c56 => ?_)
            · skip
              refine g_aload_n m137_62 rfl ?_
              refine g_iload_n m137_63 rfl ?_
              refine g_iconst m137_64 ?_
              refine h_cv (k := 57) (p := 89) (args := [.int (nI (ja)), .int (1)]) (rest := []) m137_65 cn_111 (Nat.le_of_ble_eq_true rfl) rfl rfl rfl (t_57 _ _) (Nat.le_of_ble_eq_true rfl) ?_
              refine c_its (w := 1) (by omega) (by omega) ?_
              refine gwr ?_
              refine g_iret m137_68 rt_137 ?_
              exact hY ja jb rfl (by omega) rfl (by omega) (by rw [hkk]; rcases (show jb = 0 ∨ jb = 1 ∨ jb = 2 ∨ jb = 3 ∨ jb = 4 ∨ jb = 5 ∨ jb = 6 by omega) with rfl | rfl | rfl | rfl | rfl | rfl | rfl <;> first | rfl | (exfalso; omega))
            · skip
              refine g_aload_n m137_53 rfl ?_
              refine g_ldci m137_54 rfl ?_
              refine h_cv (k := 57) (p := 89) (args := [.int (-1000000005)]) (rest := []) m137_56 cn_108 (Nat.le_of_ble_eq_true rfl) rfl rfl rfl (t_57 _ _) (Nat.le_of_ble_eq_true rfl) ?_
              refine c_errs (e := 5) (by decide) (by decide) (by decide) ?_
              refine gwr ?_
              refine g_goto m137_59 ?_
              refine g_iret m137_68 rt_137 ?_
              exact hE5 ⟨ja, jb, rfl, by omega, rfl, by omega, by rw [hkk]; intro z; rcases (show jb = 0 ∨ jb = 1 ∨ jb = 2 ∨ jb = 3 ∨ jb = 4 ∨ jb = 5 ∨ jb = 6 by omega) with rfl | rfl | rfl | rfl | rfl | rfl | rfl <;> first | (exfalso; omega) | exact absurd z (by decide)⟩
          · skip
            refine g_iload_n m137_41 rfl ?_
            refine g_cs (args := [.int (nI (6))]) (rest := []) 0 (Or.inl rfl) m137_42 (Nat.le_of_ble_eq_true rfl) rfl rfl (Nat.le_of_ble_eq_true rfl) ?_
            refine c_above (k := 6) (by decide) ?_
            refine gwr ?_
            refine g_istore_n (L2 := [some (.ref (89)), some (.int (nI (ja))), some (.int (nI (jb))), some (.int (nI (3)))]) m137_45 rfl rfl ?_
            refine g_goto m137_46 ?_
            refine g_iload_n m137_32 rfl ?_
            refine h_if_lt (xi := ((3 : Nat) : Int)) (zi := 0) m137_33 (nI_toInt (by omega)) rfl (fun c57 => ?_) (fun c57 => ?_)
            · skip
              refine g_iload_n m137_49 rfl ?_
              refine h_if_ge (xi := ((3 : Nat) : Int)) (zi := 0) m137_50 (nI_toInt (by omega)) rfl (fun c58 => ?_) (fun c58 => ?_)
              · skip
                refine g_aload_n m137_62 rfl ?_
                refine g_iload_n m137_63 rfl ?_
                refine g_iconst m137_64 ?_
                refine h_cv (k := 57) (p := 89) (args := [.int (nI (ja)), .int (1)]) (rest := []) m137_65 cn_111 (Nat.le_of_ble_eq_true rfl) rfl rfl rfl (t_57 _ _) (Nat.le_of_ble_eq_true rfl) ?_
                refine c_its (w := 1) (by omega) (by omega) ?_
                refine gwr ?_
                refine g_iret m137_68 rt_137 ?_
                exact hY ja jb rfl (by omega) rfl (by omega) (by rw [hkk]; rcases (show jb = 0 ∨ jb = 1 ∨ jb = 2 ∨ jb = 3 ∨ jb = 4 ∨ jb = 5 ∨ jb = 6 by omega) with rfl | rfl | rfl | rfl | rfl | rfl | rfl <;> first | rfl | (exfalso; omega))
              · skip
                refine g_aload_n m137_53 rfl ?_
                refine g_ldci m137_54 rfl ?_
                refine h_cv (k := 57) (p := 89) (args := [.int (-1000000005)]) (rest := []) m137_56 cn_108 (Nat.le_of_ble_eq_true rfl) rfl rfl rfl (t_57 _ _) (Nat.le_of_ble_eq_true rfl) ?_
                refine c_errs (e := 5) (by decide) (by decide) (by decide) ?_
                refine gwr ?_
                refine g_goto m137_59 ?_
                refine g_iret m137_68 rt_137 ?_
                exact hE5 ⟨ja, jb, rfl, by omega, rfl, by omega, by rw [hkk]; intro z; rcases (show jb = 0 ∨ jb = 1 ∨ jb = 2 ∨ jb = 3 ∨ jb = 4 ∨ jb = 5 ∨ jb = 6 by omega) with rfl | rfl | rfl | rfl | rfl | rfl | rfl <;> first | (exfalso; omega) | exact absurd z (by decide)⟩
            · skip
              refine g_iload_n m137_36 rfl ?_
              refine g_iload_n m137_37 rfl ?_
              refine h_ic_eq (xi := ((3 : Nat) : Int)) (zi := ((jb : Nat) : Int)) m137_38 (nI_toInt (by omega)) (nI_toInt (by omega)) (fun c59 => ?_) (fun c59 => ?_)
              · skip
                refine g_iload_n m137_49 rfl ?_
                refine h_if_ge (xi := ((3 : Nat) : Int)) (zi := 0) m137_50 (nI_toInt (by omega)) rfl (fun c60 => ?_) (fun c60 => ?_)
                · skip
                  refine g_aload_n m137_62 rfl ?_
                  refine g_iload_n m137_63 rfl ?_
                  refine g_iconst m137_64 ?_
                  refine h_cv (k := 57) (p := 89) (args := [.int (nI (ja)), .int (1)]) (rest := []) m137_65 cn_111 (Nat.le_of_ble_eq_true rfl) rfl rfl rfl (t_57 _ _) (Nat.le_of_ble_eq_true rfl) ?_
                  refine c_its (w := 1) (by omega) (by omega) ?_
                  refine gwr ?_
                  refine g_iret m137_68 rt_137 ?_
                  exact hY ja jb rfl (by omega) rfl (by omega) (by rw [hkk]; rcases (show jb = 0 ∨ jb = 1 ∨ jb = 2 ∨ jb = 3 ∨ jb = 4 ∨ jb = 5 ∨ jb = 6 by omega) with rfl | rfl | rfl | rfl | rfl | rfl | rfl <;> first | rfl | (exfalso; omega))
                · skip
                  refine g_aload_n m137_53 rfl ?_
                  refine g_ldci m137_54 rfl ?_
                  refine h_cv (k := 57) (p := 89) (args := [.int (-1000000005)]) (rest := []) m137_56 cn_108 (Nat.le_of_ble_eq_true rfl) rfl rfl rfl (t_57 _ _) (Nat.le_of_ble_eq_true rfl) ?_
                  refine c_errs (e := 5) (by decide) (by decide) (by decide) ?_
                  refine gwr ?_
                  refine g_goto m137_59 ?_
                  refine g_iret m137_68 rt_137 ?_
                  exact hE5 ⟨ja, jb, rfl, by omega, rfl, by omega, by rw [hkk]; intro z; rcases (show jb = 0 ∨ jb = 1 ∨ jb = 2 ∨ jb = 3 ∨ jb = 4 ∨ jb = 5 ∨ jb = 6 by omega) with rfl | rfl | rfl | rfl | rfl | rfl | rfl <;> first | (exfalso; omega) | exact absurd z (by decide)⟩
              · skip
                refine g_iload_n m137_41 rfl ?_
                refine g_cs (args := [.int (nI (3))]) (rest := []) 0 (Or.inl rfl) m137_42 (Nat.le_of_ble_eq_true rfl) rfl rfl (Nat.le_of_ble_eq_true rfl) ?_
                refine c_above (k := 3) (by decide) ?_
                refine gwr ?_
                refine g_istore_n (L2 := [some (.ref (89)), some (.int (nI (ja))), some (.int (nI (jb))), some (.int (nI (0)))]) m137_45 rfl rfl ?_
                refine g_goto m137_46 ?_
                refine g_iload_n m137_32 rfl ?_
                refine h_if_lt (xi := ((0 : Nat) : Int)) (zi := 0) m137_33 (nI_toInt (by omega)) rfl (fun c61 => ?_) (fun c61 => ?_)
                · skip
                  refine g_iload_n m137_49 rfl ?_
                  refine h_if_ge (xi := ((0 : Nat) : Int)) (zi := 0) m137_50 (nI_toInt (by omega)) rfl (fun c62 => ?_) (fun c62 => ?_)
                  · skip
                    refine g_aload_n m137_62 rfl ?_
                    refine g_iload_n m137_63 rfl ?_
                    refine g_iconst m137_64 ?_
                    refine h_cv (k := 57) (p := 89) (args := [.int (nI (ja)), .int (1)]) (rest := []) m137_65 cn_111 (Nat.le_of_ble_eq_true rfl) rfl rfl rfl (t_57 _ _) (Nat.le_of_ble_eq_true rfl) ?_
                    refine c_its (w := 1) (by omega) (by omega) ?_
                    refine gwr ?_
                    refine g_iret m137_68 rt_137 ?_
                    exact hY ja jb rfl (by omega) rfl (by omega) (by rw [hkk]; rcases (show jb = 0 ∨ jb = 1 ∨ jb = 2 ∨ jb = 3 ∨ jb = 4 ∨ jb = 5 ∨ jb = 6 by omega) with rfl | rfl | rfl | rfl | rfl | rfl | rfl <;> first | rfl | (exfalso; omega))
                  · skip
                    refine g_aload_n m137_53 rfl ?_
                    refine g_ldci m137_54 rfl ?_
                    refine h_cv (k := 57) (p := 89) (args := [.int (-1000000005)]) (rest := []) m137_56 cn_108 (Nat.le_of_ble_eq_true rfl) rfl rfl rfl (t_57 _ _) (Nat.le_of_ble_eq_true rfl) ?_
                    refine c_errs (e := 5) (by decide) (by decide) (by decide) ?_
                    refine gwr ?_
                    refine g_goto m137_59 ?_
                    refine g_iret m137_68 rt_137 ?_
                    exact hE5 ⟨ja, jb, rfl, by omega, rfl, by omega, by rw [hkk]; intro z; rcases (show jb = 0 ∨ jb = 1 ∨ jb = 2 ∨ jb = 3 ∨ jb = 4 ∨ jb = 5 ∨ jb = 6 by omega) with rfl | rfl | rfl | rfl | rfl | rfl | rfl <;> first | (exfalso; omega) | exact absurd z (by decide)⟩
                · skip
                  refine g_iload_n m137_36 rfl ?_
                  refine g_iload_n m137_37 rfl ?_
                  refine h_ic_eq (xi := ((0 : Nat) : Int)) (zi := ((jb : Nat) : Int)) m137_38 (nI_toInt (by omega)) (nI_toInt (by omega)) (fun c63 => ?_) (fun c63 => ?_)
                  · skip
                    refine g_iload_n m137_49 rfl ?_
                    refine h_if_ge (xi := ((0 : Nat) : Int)) (zi := 0) m137_50 (nI_toInt (by omega)) rfl (fun c64 => ?_) (fun c64 => ?_)
                    · skip
                      refine g_aload_n m137_62 rfl ?_
                      refine g_iload_n m137_63 rfl ?_
                      refine g_iconst m137_64 ?_
                      refine h_cv (k := 57) (p := 89) (args := [.int (nI (ja)), .int (1)]) (rest := []) m137_65 cn_111 (Nat.le_of_ble_eq_true rfl) rfl rfl rfl (t_57 _ _) (Nat.le_of_ble_eq_true rfl) ?_
                      refine c_its (w := 1) (by omega) (by omega) ?_
                      refine gwr ?_
                      refine g_iret m137_68 rt_137 ?_
                      exact hY ja jb rfl (by omega) rfl (by omega) (by rw [hkk]; rcases (show jb = 0 ∨ jb = 1 ∨ jb = 2 ∨ jb = 3 ∨ jb = 4 ∨ jb = 5 ∨ jb = 6 by omega) with rfl | rfl | rfl | rfl | rfl | rfl | rfl <;> first | rfl | (exfalso; omega))
                    · skip
                      refine g_aload_n m137_53 rfl ?_
                      refine g_ldci m137_54 rfl ?_
                      refine h_cv (k := 57) (p := 89) (args := [.int (-1000000005)]) (rest := []) m137_56 cn_108 (Nat.le_of_ble_eq_true rfl) rfl rfl rfl (t_57 _ _) (Nat.le_of_ble_eq_true rfl) ?_
                      refine c_errs (e := 5) (by decide) (by decide) (by decide) ?_
                      refine gwr ?_
                      refine g_goto m137_59 ?_
                      refine g_iret m137_68 rt_137 ?_
                      exact hE5 ⟨ja, jb, rfl, by omega, rfl, by omega, by rw [hkk]; intro z; rcases (show jb = 0 ∨ jb = 1 ∨ jb = 2 ∨ jb = 3 ∨ jb = 4 ∨ jb = 5 ∨ jb = 6 by omega) with rfl | rfl | rfl | rfl | rfl | rfl | rfl <;> first | (exfalso; omega) | exact absurd z (by decide)⟩
                  · skip
                    refine g_iload_n m137_41 rfl ?_
                    refine g_cs (args := [.int (nI (0))]) (rest := []) 0 (Or.inl rfl) m137_42 (Nat.le_of_ble_eq_true rfl) rfl rfl (Nat.le_of_ble_eq_true rfl) ?_
                    refine c_above (k := 0) (by decide) ?_
                    refine gwr ?_
                    refine g_istore_n (L2 := [some (.ref (89)), some (.int (nI (ja))), some (.int (nI (jb))), some (.int (-1))]) m137_45 rfl rfl ?_
                    refine g_goto m137_46 ?_
                    refine g_iload_n m137_32 rfl ?_
                    refine h_if_ltT (xi := (-1)) (zi := 0) m137_33 rfl rfl (by decide) ?_
                    refine g_iload_n m137_49 rfl ?_
                    refine h_if_geF (xi := (-1)) (zi := 0) m137_50 rfl rfl (by decide) ?_
                    refine g_aload_n m137_53 rfl ?_
                    refine g_ldci m137_54 rfl ?_
                    refine h_cv (k := 57) (p := 89) (args := [.int (-1000000005)]) (rest := []) m137_56 cn_108 (Nat.le_of_ble_eq_true rfl) rfl rfl rfl (t_57 _ _) (Nat.le_of_ble_eq_true rfl) ?_
                    refine c_errs (e := 5) (by decide) (by decide) (by decide) ?_
                    refine gwr ?_
                    refine g_goto m137_59 ?_
                    refine g_iret m137_68 rt_137 ?_
                    exact hE5 ⟨ja, jb, rfl, by omega, rfl, by omega, by rw [hkk]; intro z; rcases (show jb = 0 ∨ jb = 1 ∨ jb = 2 ∨ jb = 3 ∨ jb = 4 ∨ jb = 5 ∨ jb = 6 by omega) with rfl | rfl | rfl | rfl | rfl | rfl | rfl <;> first | (exfalso; omega) | exact absurd z (by decide)⟩
    · skip
      refine gwr ?_
      refine h_if_neT (xi := 0) (zi := 0) m137_15 rfl rfl (by decide) ?_
      refine g_aload_n m137_18 rfl ?_
      refine g_ldci m137_19 rfl ?_
      refine h_cv (k := 57) (p := 89) (args := [.int (-1000000001)]) (rest := []) m137_21 cn_108 (Nat.le_of_ble_eq_true rfl) rfl rfl rfl (t_57 _ _) (Nat.le_of_ble_eq_true rfl) ?_
      refine c_errs (e := 1) (by decide) (by decide) (by decide) ?_
      refine gwr ?_
      refine g_iret m137_24 rt_137 ?_
      exact hE1 (by omega)
  · skip
    refine gwr ?_
    refine h_if_eqT (xi := 0) (zi := 0) m137_5 rfl rfl (by decide) ?_
    refine g_aload_n m137_18 rfl ?_
    refine g_ldci m137_19 rfl ?_
    refine h_cv (k := 57) (p := 89) (args := [.int (-1000000001)]) (rest := []) m137_21 cn_108 (Nat.le_of_ble_eq_true rfl) rfl rfl rfl (t_57 _ _) (Nat.le_of_ble_eq_true rfl) ?_
    refine c_errs (e := 1) (by decide) (by decide) (by decide) ?_
    refine gwr ?_
    refine g_iret m137_24 rt_137 ?_
    exact hE1 (by omega)
end
end
section
/-! WHAT WOULD BE: the reference -/
def FrP (m m2 : MW) : Prop := ∀ k j, ¬ (k = 60 ∨ k = 66 ∨ k = 67) → ¬ minor k j → m2 k j = m k j
theorem FrP.rf {m : MW} : FrP m m := fun _ _ _ _ => rfl
theorem FrP.tr {m m2 m3 : MW} (h : FrP m m2) (h2 : FrP m2 m3) : FrP m m3 := fun k j a b => (h2 k j a b).trans (h k j a b)
theorem FrP.row {m m2 : MW} (h : FrP m m2) : m2 58 = m 58 := funext fun j => h 58 j (by omega) (fun z => by rcases z with z | z <;> omega)
theorem thR_58 (m : MW) (w : Nat → Int32) : upmR m 60 w 58 = m 58 := if_neg (by decide)
theorem thR_A (m : MW) : AtY (upmR m 60 (m 58)) (vr (m 58)) (upmR m 60 (m 58)) := by
  have h := AtY.self (upmR m 60 (m 58))
  rw [thR_58] at h
  exact h
theorem FrP.back {m Y m2 : MW} (h : AtY (upmR m 60 (m 58)) Y m2) : FrP m (upmR m2 58 (m2 60)) := by
  intro k j a b
  unfold upmR
  by_cases e : k = 58
  · rw [if_pos e, e, h.out (by decide) (fun z => by rcases z with z | z <;> omega)]
    rfl
  · rw [if_neg e, h.out e b]
    exact congrFun (if_neg (fun z => a (Or.inl z))) j
theorem th_60 {m Y m2 : MW} (h : AtY (upmR m 60 (m 58)) Y m2) (j : Nat) : m2 60 j = m 58 j := by
  rw [h.out (by decide) (fun z => by rcases z with z | z <;> omega)]
  rfl
theorem vr_c (r : Nat → Int32) {i c : Nat} : r (16 + 6 * i + c) = vr r (2 + c) i := by
  rw [Nat.add_comm 2 c]
  rfl
theorem or_z (x : Int32) : x ||| 0 = x := Int32.or_zero
theorem bit_1 : ∀ i, i < 9 → ((1 : Int32) <<< (nI i &&& 31)) = nI (2 ^ i) := by decide +kernel
theorem and_not : ∀ n, n < 9 → ∀ a, a < 2 ^ n → ((((1 : Int32) <<< (nI n &&& 31)) - 1) &&& (nI a ^^^ -1)) = nI (2 ^ n - 1 - a) := by decide +kernel
theorem bits_not (p : Nat → Bool) : ∀ n, 2 ^ n - 1 - bitsF p n = bitsF (fun i => !(p i)) n
  | 0 => rfl
  | n + 1 => by
    have h := bits_not p n
    have hl := bitsF_lt p n
    show 2 ^ (n + 1) - 1 - (bitsF p n + (if p n = true then 2 ^ n else 0)) = bitsF (fun i => !(p i)) n + (if (!(p n)) = true then 2 ^ n else 0)
    rw [← h, Nat.pow_succ]
    cases p n
    · rw [if_neg (by decide), if_pos (by decide)]
      omega
    · rw [if_pos rfl, if_neg (by decide)]
      omega
theorem and_no {a f : Nat} (ha : a < 256) : (nI a &&& (nI f ^^^ -1)).toInt = 0 ↔ ∀ w, w < 8 → a.testBit w = true → f.testBit w = true := by
  have e0 : (nI a &&& (nI f ^^^ -1)).toBitVec = BitVec.ofNat 32 a &&& (BitVec.ofNat 32 f ^^^ BitVec.allOnes 32) := rfl
  have e1 : (nI a &&& (nI f ^^^ -1)).toInt = 0 ↔ BitVec.ofNat 32 a &&& (BitVec.ofNat 32 f ^^^ BitVec.allOnes 32) = 0#32 := by
    rw [← e0]
    constructor
    · intro h
      have h2 : (nI a &&& (nI f ^^^ -1)) = 0 := Int32.toInt_inj.mp h
      rw [h2]
      rfl
    · intro h
      have h2 : (nI a &&& (nI f ^^^ -1)) = 0 := Int32.toBitVec_inj.mp h
      rw [h2]
      rfl
  rw [e1]
  constructor
  · intro h w hw haw
    have h2 := congrArg (fun z => z.getLsbD w) h
    simp only [BitVec.getLsbD_and, BitVec.getLsbD_xor, BitVec.getLsbD_ofNat, BitVec.getLsbD_allOnes, show w < 32 by omega, decide_true, Bool.true_and, haw] at h2
    cases hf : f.testBit w
    · rw [hf] at h2
      simp at h2
    · rfl
  · intro h
    apply BitVec.eq_of_getLsbD_eq
    intro w hw
    simp only [BitVec.getLsbD_and, BitVec.getLsbD_xor, BitVec.getLsbD_ofNat, BitVec.getLsbD_allOnes, hw, decide_true, Bool.true_and]
    cases haw : a.testBit w
    · simp
    · have hw8 : w < 8 := by
        by_cases c : w < 8
        · exact c
        · have : a < 2 ^ w := Nat.lt_of_lt_of_le ha (by
            have := Nat.pow_le_pow_right (n := 2) (by decide) (show 8 ≤ w by omega)
            omega)
          rw [Nat.testBit_lt_two_pow this] at haw
          exact absurd haw (by decide)
      rw [h w hw8 haw]
      simp
theorem leastF_c {p q : Nat → Bool} (h : ∀ i, q i = p i) : ∀ r s, leastF q r s = leastF p r s
  | 0, _ => rfl
  | r + 1, s => by
    show (if q s = true then some s else leastF q r (s + 1)) = (if p s = true then some s else leastF p r (s + 1))
    rw [h s, leastF_c h r (s + 1)]
theorem stepN_60 (LK BL : LF) (X : MW) (i : Nat) : moreAt LK BL X i 0 = false := by
  show decide ((X 6 i).toInt < (X 6 i).toInt) = false
  rw [decide_eq_false_iff_not]
  omega
section
variable {xs : List Int32} {d : Nat} {h : AH} {Q : QT} {m : MW} {ln : Nat → Nat} {N : Nat}
set_option maxRecDepth 20000 in
set_option maxHeartbeats 40000000 in
theorem m_then {v a b : Int32} {n : Nat} (hd : m 58 2 = nI n) (hn : n ≤ 8) (hX0 : TxOk (m 58) 0) (hX1 : TxOk (m 58) 1) (hWY : WF (vr (m 58))) (hE1 : (v.toInt < 0 ∨ 60 < v.toInt ∨ a.toInt < 0 ∨ (n : Int) ≤ a.toInt ∨ b.toInt < 0 ∨ 2 < b.toInt) → Q (some (.int (-1000000001))) (H (ers m 1) ln N)) (hY : ∀ q i k : Nat, v = nI q → q ≤ 60 → a = nI i → i < n → b = nI k → k ≤ 2 → ∀ m2, FrP m m2 → Q (some (.int ((stepN (rkF (m 58)) (rbF (m 58)) (vr (m 58)) q) (whatF k) i))) (H m2 ln N)) : WP xs (d + 817) 152 0 0 [.ref (89), .int (v), .int (a), .int (b)] (H m ln N) Q := by
  refine wp_x mx_152 (L := [some (.ref (89)), some (.int (v)), some (.int (a)), some (.int (b)), none]) (Nat.le_of_ble_eq_true rfl) rfl ?_
  refine g_iload_n m152_0 rfl ?_
  refine g_iconst m152_1 ?_
  refine g_bipush m152_2 ?_
  refine g_cs (args := [.int (v), .int (0), .int (60)]) (rest := []) 0 (Or.inl rfl) m152_4 (Nat.le_of_ble_eq_true rfl) rfl rfl (Nat.le_of_ble_eq_true rfl) ?_
  refine c_in (A := 0) (B := 60) rfl rfl (by decide) (fun jv ev a_1 a_1' => ?_) (fun a_1 => ?_)
  · subst ev
    refine gwr ?_
    refine h_if_eqF (xi := 1) (zi := 0) m152_7 rfl rfl (by decide) ?_
    refine g_aload_n m152_10 rfl ?_
    refine g_iload_n m152_11 rfl ?_
    refine h_cv (k := 57) (p := 89) (args := [.int (a)]) (rest := []) m152_12 cn_113 (Nat.le_of_ble_eq_true rfl) rfl rfl rfl (t_57 _ _) (Nat.le_of_ble_eq_true rfl) ?_
    refine c_isDinerM hd hn (fun ja ea a_2 => ?_) (fun a_2 => ?_)
    · subst ea
      refine gwr ?_
      refine h_if_eqF (xi := 1) (zi := 0) m152_15 rfl rfl (by decide) ?_
      refine g_iload_n m152_18 rfl ?_
      refine g_iconst m152_19 ?_
      refine g_iconst m152_20 ?_
      refine g_cs (args := [.int (b), .int (0), .int (2)]) (rest := []) 0 (Or.inl rfl) m152_21 (Nat.le_of_ble_eq_true rfl) rfl rfl (Nat.le_of_ble_eq_true rfl) ?_
      refine c_in (A := 0) (B := 2) rfl rfl (by decide) (fun jb eb a_3 a_3' => ?_) (fun a_3 => ?_)
      · subst eb
        refine gwr ?_
        refine h_if_neF (xi := 1) (zi := 0) m152_24 rfl rfl (by decide) ?_
        refine g_aload_n m152_34 rfl ?_
        refine g_aload_n m152_35 rfl ?_
        refine h_gfR (c := 90) (k := 57) (p := 89) m152_36 rfl (t_57 _ _) rfl (Nat.le_of_ble_eq_true rfl) ?_
        refine g_aload_n m152_39 rfl ?_
        refine h_gfR (c := 92) (k := 57) (p := 89) m152_40 rfl (t_57 _ _) rfl (Nat.le_of_ble_eq_true rfl) ?_
        refine h_cv (k := 57) (p := 89) (args := [.ref (90), .ref (92)]) (rest := []) m152_43 cn_110 (Nat.le_of_ble_eq_true rfl) rfl rfl rfl (t_57 _ _) (Nat.le_of_ble_eq_true rfl) ?_
        refine c_moveRow (k1 := 58) (k2 := 60) rfl rfl (t_58 _ _) (t_60 _ _) (by decide) ?_
        have h58 : (upmR m 60 (m 58)) 58 = m 58 := thR_58 _ _
        have hAt := thR_A m
        have hX0t : TxOk ((upmR m 60 (m 58)) 58) 0 := by rw [h58]; exact hX0
        have hX1t : TxOk ((upmR m 60 (m 58)) 58) 1 := by rw [h58]; exact hX1
        refine gwr0 ?_
        refine g_aload_n m152_46 rfl ?_
        refine g_iload_n m152_47 rfl ?_
        refine h_cv (k := 57) (p := 89) (args := [.int (nI (jv))]) (rest := []) m152_48 cn_146 (Nat.le_of_ble_eq_true rfl) rfl rfl rfl (t_57 _ _) (Nat.le_of_ble_eq_true rfl) ?_
        refine c_passes hAt hX0t hX1t hWY (n := jv) (by omega) (fun m2 hA2 => ?_)
        rw [h58] at hA2
        refine gwr0 ?_
        refine g_aload_n m152_51 rfl ?_
        refine g_iload_n m152_52 rfl ?_
        refine g_iload_n m152_53 rfl ?_
        refine h_if_ne (xi := ((jb : Nat) : Int)) (zi := 0) m152_54 (nI_toInt (by omega)) rfl (fun c1 => ?_) (fun c1 => ?_)
        · skip
          refine g_iconst m152_57 ?_
          refine g_goto m152_58 ?_
          refine h_cv (k := 57) (p := 89) (args := [.int (nI (ja)), .int (2)]) (rest := []) m152_71 cn_111 (Nat.le_of_ble_eq_true rfl) rfl rfl rfl (t_57 _ _) (Nat.le_of_ble_eq_true rfl) ?_
          refine c_its (w := 2) (by omega) (by decide) ?_
          rw [hA2.rd (i := ja) (c := 2) (by omega) (by decide)]
          refine gwr ?_
          refine g_istore (L2 := [some (.ref (89)), some (.int (nI (jv))), some (.int (nI (ja))), some (.int (nI (jb))), some (.int ((stepN (rkF (m 58)) (rbF (m 58)) (vr (m 58)) jv) (2 + 2) ja))]) m152_74 rfl rfl ?_
          refine g_aload_n m152_76 rfl ?_
          refine g_aload_n m152_77 rfl ?_
          refine h_gfR (c := 92) (k := 57) (p := 89) m152_78 rfl (t_57 _ _) rfl (Nat.le_of_ble_eq_true rfl) ?_
          refine g_aload_n m152_81 rfl ?_
          refine h_gfR (c := 90) (k := 57) (p := 89) m152_82 rfl (t_57 _ _) rfl (Nat.le_of_ble_eq_true rfl) ?_
          refine h_cv (k := 57) (p := 89) (args := [.ref (92), .ref (90)]) (rest := []) m152_85 cn_110 (Nat.le_of_ble_eq_true rfl) rfl rfl rfl (t_57 _ _) (Nat.le_of_ble_eq_true rfl) ?_
          refine c_moveRow (k1 := 60) (k2 := 58) rfl rfl (t_60 _ _) (t_58 _ _) (by decide) ?_
          have hFb := FrP.back hA2
          refine gwr0 ?_
          refine g_iload m152_88 rfl ?_
          refine g_iret m152_90 rt_152 ?_
          obtain rfl : jb = 0 := by omega
          have h9 := hY jv ja 0 rfl (by omega) rfl (by omega) rfl (by decide) _ hFb
          rw [show whatF 0 = 4 from rfl] at h9
          exact h9
        · skip
          refine g_iload_n m152_61 rfl ?_
          refine g_iconst m152_62 ?_
          refine h_ic_ne (xi := ((jb : Nat) : Int)) (zi := 1) m152_63 (nI_toInt (by omega)) rfl (fun c2 => ?_) (fun c2 => ?_)
          · skip
            refine g_iconst m152_66 ?_
            refine g_goto m152_67 ?_
            refine h_cv (k := 57) (p := 89) (args := [.int (nI (ja)), .int (4)]) (rest := []) m152_71 cn_111 (Nat.le_of_ble_eq_true rfl) rfl rfl rfl (t_57 _ _) (Nat.le_of_ble_eq_true rfl) ?_
            refine c_its (w := 4) (by omega) (by decide) ?_
            rw [hA2.rd (i := ja) (c := 4) (by omega) (by decide)]
            refine gwr ?_
            refine g_istore (L2 := [some (.ref (89)), some (.int (nI (jv))), some (.int (nI (ja))), some (.int (nI (jb))), some (.int ((stepN (rkF (m 58)) (rbF (m 58)) (vr (m 58)) jv) (2 + 4) ja))]) m152_74 rfl rfl ?_
            refine g_aload_n m152_76 rfl ?_
            refine g_aload_n m152_77 rfl ?_
            refine h_gfR (c := 92) (k := 57) (p := 89) m152_78 rfl (t_57 _ _) rfl (Nat.le_of_ble_eq_true rfl) ?_
            refine g_aload_n m152_81 rfl ?_
            refine h_gfR (c := 90) (k := 57) (p := 89) m152_82 rfl (t_57 _ _) rfl (Nat.le_of_ble_eq_true rfl) ?_
            refine h_cv (k := 57) (p := 89) (args := [.ref (92), .ref (90)]) (rest := []) m152_85 cn_110 (Nat.le_of_ble_eq_true rfl) rfl rfl rfl (t_57 _ _) (Nat.le_of_ble_eq_true rfl) ?_
            refine c_moveRow (k1 := 60) (k2 := 58) rfl rfl (t_60 _ _) (t_58 _ _) (by decide) ?_
            have hFb := FrP.back hA2
            refine gwr0 ?_
            refine g_iload m152_88 rfl ?_
            refine g_iret m152_90 rt_152 ?_
            obtain rfl : jb = 1 := by omega
            have h9 := hY jv ja 1 rfl (by omega) rfl (by omega) rfl (by decide) _ hFb
            rw [show whatF 1 = 6 from rfl] at h9
            exact h9
          · skip
            refine g_iconst m152_70 ?_
            refine h_cv (k := 57) (p := 89) (args := [.int (nI (ja)), .int (5)]) (rest := []) m152_71 cn_111 (Nat.le_of_ble_eq_true rfl) rfl rfl rfl (t_57 _ _) (Nat.le_of_ble_eq_true rfl) ?_
            refine c_its (w := 5) (by omega) (by decide) ?_
            rw [hA2.rd (i := ja) (c := 5) (by omega) (by decide)]
            refine gwr ?_
            refine g_istore (L2 := [some (.ref (89)), some (.int (nI (jv))), some (.int (nI (ja))), some (.int (nI (jb))), some (.int ((stepN (rkF (m 58)) (rbF (m 58)) (vr (m 58)) jv) (2 + 5) ja))]) m152_74 rfl rfl ?_
            refine g_aload_n m152_76 rfl ?_
            refine g_aload_n m152_77 rfl ?_
            refine h_gfR (c := 92) (k := 57) (p := 89) m152_78 rfl (t_57 _ _) rfl (Nat.le_of_ble_eq_true rfl) ?_
            refine g_aload_n m152_81 rfl ?_
            refine h_gfR (c := 90) (k := 57) (p := 89) m152_82 rfl (t_57 _ _) rfl (Nat.le_of_ble_eq_true rfl) ?_
            refine h_cv (k := 57) (p := 89) (args := [.ref (92), .ref (90)]) (rest := []) m152_85 cn_110 (Nat.le_of_ble_eq_true rfl) rfl rfl rfl (t_57 _ _) (Nat.le_of_ble_eq_true rfl) ?_
            refine c_moveRow (k1 := 60) (k2 := 58) rfl rfl (t_60 _ _) (t_58 _ _) (by decide) ?_
            have hFb := FrP.back hA2
            refine gwr0 ?_
            refine g_iload m152_88 rfl ?_
            refine g_iret m152_90 rt_152 ?_
            obtain rfl : jb = 2 := by omega
            have h9 := hY jv ja 2 rfl (by omega) rfl (by omega) rfl (by decide) _ hFb
            rw [show whatF 2 = 7 from rfl] at h9
            exact h9
      · skip
        refine gwr ?_
        refine h_if_neT (xi := 0) (zi := 0) m152_24 rfl rfl (by decide) ?_
        refine g_aload_n m152_27 rfl ?_
        refine g_ldci m152_28 rfl ?_
        refine h_cv (k := 57) (p := 89) (args := [.int (-1000000001)]) (rest := []) m152_30 cn_108 (Nat.le_of_ble_eq_true rfl) rfl rfl rfl (t_57 _ _) (Nat.le_of_ble_eq_true rfl) ?_
        refine c_errs (e := 1) (by decide) (by decide) (by decide) ?_
        refine gwr ?_
        refine g_iret m152_33 rt_152 ?_
        exact hE1 (by omega)
    · skip
      refine gwr ?_
      refine h_if_eqT (xi := 0) (zi := 0) m152_15 rfl rfl (by decide) ?_
      refine g_aload_n m152_27 rfl ?_
      refine g_ldci m152_28 rfl ?_
      refine h_cv (k := 57) (p := 89) (args := [.int (-1000000001)]) (rest := []) m152_30 cn_108 (Nat.le_of_ble_eq_true rfl) rfl rfl rfl (t_57 _ _) (Nat.le_of_ble_eq_true rfl) ?_
      refine c_errs (e := 1) (by decide) (by decide) (by decide) ?_
      refine gwr ?_
      refine g_iret m152_33 rt_152 ?_
      exact hE1 (by omega)
  · skip
    refine gwr ?_
    refine h_if_eqT (xi := 0) (zi := 0) m152_7 rfl rfl (by decide) ?_
    refine g_aload_n m152_27 rfl ?_
    refine g_ldci m152_28 rfl ?_
    refine h_cv (k := 57) (p := 89) (args := [.int (-1000000001)]) (rest := []) m152_30 cn_108 (Nat.le_of_ble_eq_true rfl) rfl rfl rfl (t_57 _ _) (Nat.le_of_ble_eq_true rfl) ?_
    refine c_errs (e := 1) (by decide) (by decide) (by decide) ?_
    refine gwr ?_
    refine g_iret m152_33 rt_152 ?_
    exact hE1 (by omega)
set_option maxRecDepth 20000 in
set_option maxHeartbeats 40000000 in
theorem m_first {a : Int32} {n : Nat} (hd : m 58 2 = nI n) (hn : n ≤ 8) (hX0 : TxOk (m 58) 0) (hX1 : TxOk (m 58) 1) (hWY : WF (vr (m 58))) (hE1 : (a.toInt < 0 ∨ (n : Int) ≤ a.toInt) → Q (some (.int (-1000000001))) (H (ers m 1) ln N)) (hE2 : ∀ i : Nat, a = nI i → i < n → (firstF (rkF (m 58)) (rbF (m 58)) (vr (m 58)) i 60 1) = 0 → ∀ m2, FrP m m2 → Q (some (.int (-1000000002))) (H (ers m2 2) ln N)) (hY : ∀ i : Nat, a = nI i → i < n → (firstF (rkF (m 58)) (rbF (m 58)) (vr (m 58)) i 60 1) ≠ 0 → ∀ m2, FrP m m2 → Q (some (.int (nI (firstF (rkF (m 58)) (rbF (m 58)) (vr (m 58)) i 60 1)))) (H m2 ln N)) : WP xs (d + 817) 153 0 0 [.ref (89), .int (a)] (H m ln N) Q := by
  refine wp_x mx_153 (L := [some (.ref (89)), some (.int (a)), none, none]) (Nat.le_of_ble_eq_true rfl) rfl ?_
  refine g_aload_n m153_0 rfl ?_
  refine g_iload_n m153_1 rfl ?_
  refine h_cv (k := 57) (p := 89) (args := [.int (a)]) (rest := []) m153_2 cn_113 (Nat.le_of_ble_eq_true rfl) rfl rfl rfl (t_57 _ _) (Nat.le_of_ble_eq_true rfl) ?_
  refine c_isDinerM hd hn (fun ja ea a_4 => ?_) (fun a_4 => ?_)
  · subst ea
    refine gwr ?_
    refine h_if_neF (xi := 1) (zi := 0) m153_5 rfl rfl (by decide) ?_
    refine g_aload_n m153_15 rfl ?_
    refine g_iload_n m153_16 rfl ?_
    refine g_iconst m153_17 ?_
    refine h_cv (k := 57) (p := 89) (args := [.int (nI (ja)), .int (4)]) (rest := []) m153_18 cn_111 (Nat.le_of_ble_eq_true rfl) rfl rfl rfl (t_57 _ _) (Nat.le_of_ble_eq_true rfl) ?_
    refine c_its (w := 4) (by omega) (by decide) ?_
    rw [show m 58 (16 + 6 * ja + 4) = (vr (m 58)) 6 ja from rfl]
    refine gwr ?_
    refine g_istore_n (L2 := [some (.ref (89)), some (.int (nI (ja))), some (.int ((vr (m 58)) 6 ja)), none]) m153_21 rfl rfl ?_
    refine g_aload_n m153_22 rfl ?_
    refine g_aload_n m153_23 rfl ?_
    refine h_gfR (c := 90) (k := 57) (p := 89) m153_24 rfl (t_57 _ _) rfl (Nat.le_of_ble_eq_true rfl) ?_
    refine g_aload_n m153_27 rfl ?_
    refine h_gfR (c := 92) (k := 57) (p := 89) m153_28 rfl (t_57 _ _) rfl (Nat.le_of_ble_eq_true rfl) ?_
    refine h_cv (k := 57) (p := 89) (args := [.ref (90), .ref (92)]) (rest := []) m153_31 cn_110 (Nat.le_of_ble_eq_true rfl) rfl rfl rfl (t_57 _ _) (Nat.le_of_ble_eq_true rfl) ?_
    refine c_moveRow (k1 := 58) (k2 := 60) rfl rfl (t_58 _ _) (t_60 _ _) (by decide) ?_
    have h58 : (upmR m 60 (m 58)) 58 = m 58 := thR_58 _ _
    have hAt := thR_A m
    have hX0t : TxOk ((upmR m 60 (m 58)) 58) 0 := by rw [h58]; exact hX0
    have hX1t : TxOk ((upmR m 60 (m 58)) 58) 1 := by rw [h58]; exact hX1
    refine gwr0 ?_
    refine g_iconst m153_34 ?_
    refine g_istore_n (L2 := [some (.ref (89)), some (.int (nI (ja))), some (.int ((vr (m 58)) 6 ja)), some (.int (0))]) m153_35 rfl rfl ?_
    have key : ∀ (r : Nat) (q : Nat) (m2 : MW), q + r = 61 → AtY (upmR m 60 (m 58)) (stepN (rkF (m 58)) (rbF (m 58)) (vr (m 58)) q) m2 → firstF (rkF (m 58)) (rbF (m 58)) (vr (m 58)) ja r q = firstF (rkF (m 58)) (rbF (m 58)) (vr (m 58)) ja 60 1 → gw xs (WP xs (d + 816)) 153 Q 36 [some (.ref (89)), some (.int (nI (ja))), some (.int ((vr (m 58)) 6 ja)), some (.int (nI (q)))] [] (H m2 ln N) 0 0 := by
      intro r
      induction r with
      | zero =>
        intro q m2 hq hA hfin
        obtain rfl : q = 61 := by omega
        refine g_iload_n m153_36 rfl ?_
        refine g_bipush m153_37 ?_
        refine h_ic_gtT (xi := ((61 : Nat) : Int)) (zi := 60) m153_39 (nI_toInt (by omega)) rfl (by omega) ?_
        refine g_aload_n m153_62 rfl ?_
        refine g_aload_n m153_63 rfl ?_
        refine h_gfR (c := 92) (k := 57) (p := 89) m153_64 rfl (t_57 _ _) rfl (Nat.le_of_ble_eq_true rfl) ?_
        refine g_aload_n m153_67 rfl ?_
        refine h_gfR (c := 90) (k := 57) (p := 89) m153_68 rfl (t_57 _ _) rfl (Nat.le_of_ble_eq_true rfl) ?_
        refine h_cv (k := 57) (p := 89) (args := [.ref (92), .ref (90)]) (rest := []) m153_71 cn_110 (Nat.le_of_ble_eq_true rfl) rfl rfl rfl (t_57 _ _) (Nat.le_of_ble_eq_true rfl) ?_
        refine c_moveRow (k1 := 60) (k2 := 58) rfl rfl (t_60 _ _) (t_58 _ _) (by decide) ?_
        have hFb := FrP.back hA
        refine gwr0 ?_
        refine g_iload_n m153_74 rfl ?_
        refine g_bipush m153_75 ?_
        refine h_ic_leF (xi := ((61 : Nat) : Int)) (zi := 60) m153_77 (nI_toInt (by omega)) rfl (by omega) ?_
        refine g_aload_n m153_80 rfl ?_
        refine g_ldci m153_81 rfl ?_
        refine h_cv (k := 57) (p := 89) (args := [.int (-1000000002)]) (rest := []) m153_83 cn_108 (Nat.le_of_ble_eq_true rfl) rfl rfl rfl (t_57 _ _) (Nat.le_of_ble_eq_true rfl) ?_
        refine c_errs (e := 2) (by decide) (by decide) (by decide) ?_
        refine gwr ?_
        refine g_goto m153_86 ?_
        refine g_iret m153_90 rt_153 ?_
        exact hE2 ja rfl (by omega) hfin.symm _ hFb
      | succ r ih =>
        intro q m2 hq hA hfin
        refine g_iload_n m153_36 rfl ?_
        refine g_bipush m153_37 ?_
        refine h_ic_gtF (xi := ((q : Nat) : Int)) (zi := 60) m153_39 (nI_toInt (by omega)) rfl (by omega) ?_
        refine g_aload_n m153_42 rfl ?_
        refine g_iload_n m153_43 rfl ?_
        refine g_iconst m153_44 ?_
        refine h_cv (k := 57) (p := 89) (args := [.int (nI (ja)), .int (4)]) (rest := []) m153_45 cn_111 (Nat.le_of_ble_eq_true rfl) rfl rfl rfl (t_57 _ _) (Nat.le_of_ble_eq_true rfl) ?_
        refine c_its (w := 4) (by omega) (by decide) ?_
        rw [hA.rd (i := ja) (c := 4) (by omega) (by decide)]
        refine gwr ?_
        refine g_iload_n m153_48 rfl ?_
        refine h_ic_ne (xi := _) (zi := _) m153_49 rfl rfl (fun c1 => ?_) (fun c1 => ?_)
        · skip
          refine g_aload_n m153_52 rfl ?_
          refine h_cv (k := 57) (p := 89) (args := []) (rest := []) m153_53 cn_145 (Nat.le_of_ble_eq_true rfl) rfl rfl rfl (t_57 _ _) (Nat.le_of_ble_eq_true rfl) ?_
          refine c_oneStep hA hX0t hX1t (WF_stepN hWY q) (fun m3 hA3 => ?_)
          rw [h58] at hA3
          refine gwr0 ?_
          refine g_iinc (L2 := [some (.ref (89)), some (.int (nI (ja))), some (.int ((vr (m 58)) 6 ja)), some (.int (nI (q + 1)))]) m153_56 rfl (nI_1 _) rfl rfl ?_
          refine g_goto m153_59 ?_
          have hno : ¬ moreAt (rkF (m 58)) (rbF (m 58)) (vr (m 58)) ja q = true := by
            unfold moreAt
            rw [decide_eq_true_eq]
            have h8 : ((stepN (rkF (m 58)) (rbF (m 58)) (vr (m 58)) q) 6 ja).toInt = ((vr (m 58)) 6 ja).toInt := c1
            omega
          rw [show firstF (rkF (m 58)) (rbF (m 58)) (vr (m 58)) ja (r + 1) q = firstF (rkF (m 58)) (rbF (m 58)) (vr (m 58)) ja r (q + 1) from if_neg hno] at hfin
          exact ih (q + 1) _ (by omega) hA3 hfin
        · skip
          refine g_aload_n m153_62 rfl ?_
          refine g_aload_n m153_63 rfl ?_
          refine h_gfR (c := 92) (k := 57) (p := 89) m153_64 rfl (t_57 _ _) rfl (Nat.le_of_ble_eq_true rfl) ?_
          refine g_aload_n m153_67 rfl ?_
          refine h_gfR (c := 90) (k := 57) (p := 89) m153_68 rfl (t_57 _ _) rfl (Nat.le_of_ble_eq_true rfl) ?_
          refine h_cv (k := 57) (p := 89) (args := [.ref (92), .ref (90)]) (rest := []) m153_71 cn_110 (Nat.le_of_ble_eq_true rfl) rfl rfl rfl (t_57 _ _) (Nat.le_of_ble_eq_true rfl) ?_
          refine c_moveRow (k1 := 60) (k2 := 58) rfl rfl (t_60 _ _) (t_58 _ _) (by decide) ?_
          have hFb := FrP.back hA
          refine gwr0 ?_
          refine g_iload_n m153_74 rfl ?_
          refine g_bipush m153_75 ?_
          refine h_ic_leT (xi := ((q : Nat) : Int)) (zi := 60) m153_77 (nI_toInt (by omega)) rfl (by omega) ?_
          refine g_iload_n m153_89 rfl ?_
          refine g_iret m153_90 rt_153 ?_
          have hyes : moreAt (rkF (m 58)) (rbF (m 58)) (vr (m 58)) ja q = true := by
            unfold moreAt
            rw [decide_eq_true_eq]
            have h8 : ¬ ((stepN (rkF (m 58)) (rbF (m 58)) (vr (m 58)) q) 6 ja).toInt = ((vr (m 58)) 6 ja).toInt := c1
            have h9 := had_mono (LK := (rkF (m 58))) (BL := (rbF (m 58))) hWY (show ja < 8 by omega) 0 q
            rw [Nat.zero_add, show stepN (rkF (m 58)) (rbF (m 58)) (vr (m 58)) 0 = (vr (m 58)) from rfl] at h9
            omega
          rw [show firstF (rkF (m 58)) (rbF (m 58)) (vr (m 58)) ja (r + 1) q = q from if_pos hyes] at hfin
          have hq0 : q ≠ 0 := fun z => by
            rw [z, stepN_60] at hyes
            exact absurd hyes (by decide)
          have h9 := hY ja rfl (by omega) (by rw [← hfin]; exact hq0) _ hFb
          rw [← hfin] at h9
          exact h9
    exact key 61 0 _ (by omega) hAt (by show (if moreAt _ _ _ ja 0 = true then 0 else firstF (rkF (m 58)) (rbF (m 58)) (vr (m 58)) ja 60 1) = _; rw [stepN_60, if_neg (by decide)])
  · skip
    refine gwr ?_
    refine h_if_neT (xi := 0) (zi := 0) m153_5 rfl rfl (by decide) ?_
    refine g_aload_n m153_8 rfl ?_
    refine g_ldci m153_9 rfl ?_
    refine h_cv (k := 57) (p := 89) (args := [.int (-1000000001)]) (rest := []) m153_11 cn_108 (Nat.le_of_ble_eq_true rfl) rfl rfl rfl (t_57 _ _) (Nat.le_of_ble_eq_true rfl) ?_
    refine c_errs (e := 1) (by decide) (by decide) (by decide) ?_
    refine gwr ?_
    refine g_iret m153_14 rt_153 ?_
    exact hE1 (by omega)
set_option maxRecDepth 20000 in
set_option maxHeartbeats 40000000 in
theorem c_moreThan {n : Nat} {m0 Y : MW} {Z : Nat → Int32} (hA : AtY m0 Y m) (h60 : ∀ i, i < 8 → m 60 (16 + 6 * i + 4) = Z i) (hn : n ≤ 8) (hd : Y 0 10 = nI n) (hQ : Q (some (.int (nI (bitsF (fun i => decide ((Z i).toInt < (Y 6 i).toInt)) n)))) (H m ln N)) : WP xs (d + 2) 154 0 0 [.ref (89), .ref (92)] (H m ln N) Q := by
  refine wp_x mx_154 (L := [some (.ref (89)), some (.ref (92)), none, none]) (Nat.le_of_ble_eq_true rfl) rfl ?_
  have hb : ∀ q, bitsF (fun i => decide ((Z i).toInt < (Y 6 i).toInt)) q < 2 ^ q := bitsF_lt _
  refine g_iconst m154_0 ?_
  refine g_istore_n (L2 := [some (.ref (89)), some (.ref (92)), some (.int (0)), none]) m154_1 rfl rfl ?_
  refine g_iconst m154_2 ?_
  refine g_istore_n (L2 := [some (.ref (89)), some (.ref (92)), some (.int (0)), some (.int (0))]) m154_3 rfl rfl ?_
  have key : ∀ (r : Nat) (q : Nat), q + r = n → gw xs (WP xs (d + 1)) 154 Q 4 [some (.ref (89)), some (.ref (92)), some (.int (nI (bitsF (fun i => decide ((Z i).toInt < (Y 6 i).toInt)) q))), some (.int (nI (q)))] [] (H m ln N) 0 0 := by
    intro r
    induction r with
    | zero =>
      intro q hq
      obtain rfl : q = n := by omega
      refine g_iload_n m154_4 rfl ?_
      refine g_aload_n m154_5 rfl ?_
      refine h_gfR (c := 90) (k := 57) (p := 89) m154_6 rfl (t_57 _ _) rfl (Nat.le_of_ble_eq_true rfl) ?_
      refine g_iconst m154_9 ?_
      refine h_ial (k := 58) (p := 90) (j := 2) m154_10 rfl (t_58 _ _) (rfl) (by omega) (Nat.le_of_ble_eq_true rfl) (hA.r2.trans hd) ?_
      refine h_ic_geT (xi := ((q : Nat) : Int)) (zi := ((q : Nat) : Int)) m154_11 (nI_toInt (by omega)) (nI_toInt (by omega)) (by omega) ?_
      refine g_iload_n m154_50 rfl ?_
      refine g_iret m154_51 rt_154 ?_
      exact hQ
    | succ r ih =>
      intro q hq
      refine g_iload_n m154_4 rfl ?_
      refine g_aload_n m154_5 rfl ?_
      refine h_gfR (c := 90) (k := 57) (p := 89) m154_6 rfl (t_57 _ _) rfl (Nat.le_of_ble_eq_true rfl) ?_
      refine g_iconst m154_9 ?_
      refine h_ial (k := 58) (p := 90) (j := 2) m154_10 rfl (t_58 _ _) (rfl) (by omega) (Nat.le_of_ble_eq_true rfl) (hA.r2.trans hd) ?_
      refine h_ic_geF (xi := ((q : Nat) : Int)) (zi := ((n : Nat) : Int)) m154_11 (nI_toInt (by omega)) (nI_toInt (by omega)) (by omega) ?_
      refine g_iload_n m154_14 rfl ?_
      refine g_aload_n m154_15 rfl ?_
      refine g_iload_n m154_16 rfl ?_
      refine g_iconst m154_17 ?_
      refine h_cv (k := 57) (p := 89) (args := [.int (nI (q)), .int (4)]) (rest := [.int (nI (bitsF (fun i => decide ((Z i).toInt < (Y 6 i).toInt)) q))]) m154_18 cn_111 (Nat.le_of_ble_eq_true rfl) rfl rfl rfl (t_57 _ _) (Nat.le_of_ble_eq_true rfl) ?_
      refine c_its (w := 4) (by omega) (by decide) ?_
      rw [hA.rd (i := q) (c := 4) (by omega) (by decide)]
      refine gwr ?_
      refine g_aload_n m154_21 rfl ?_
      refine g_bipush m154_22 ?_
      refine g_bipush m154_24 ?_
      refine g_iload_n m154_26 rfl ?_
      refine g_imul (u := nI (6 * q)) m154_27 (pk_mul 6 q) ?_
      refine g_iadd (u := nI (16 + (6 * q))) m154_28 (nI_add 16 (6 * q)) ?_
      refine g_iconst m154_29 ?_
      refine g_iadd (u := nI ((16 + (6 * q)) + 4)) m154_30 (nI_add (16 + (6 * q)) 4) ?_
      refine h_ial (k := 60) (p := 92) (j := (16 + (6 * q)) + 4) m154_31 rfl (t_60 _ _) (rfl) (by omega) (Nat.le_of_ble_eq_true rfl) (h60 q (by omega)) ?_
      refine h_ic_le (xi := _) (zi := _) m154_32 rfl rfl (fun c1 => ?_) (fun c1 => ?_)
      · skip
        refine g_iconst m154_41 ?_
        refine g_ior (u := nI (bitsF (fun i => decide ((Z i).toInt < (Y 6 i).toInt)) q)) m154_42 (or_z _) ?_
        refine g_istore_n (L2 := [some (.ref (89)), some (.ref (92)), some (.int (nI (bitsF (fun i => decide ((Z i).toInt < (Y 6 i).toInt)) q))), some (.int (nI (q)))]) m154_43 rfl rfl ?_
        refine g_iinc (L2 := [some (.ref (89)), some (.ref (92)), some (.int (nI (bitsF (fun i => decide ((Z i).toInt < (Y 6 i).toInt)) q))), some (.int (nI (q + 1)))]) m154_44 rfl (nI_1 _) rfl rfl ?_
        refine g_goto m154_47 ?_
        have h8 :  (Y (2 + 4) q).toInt ≤ (Z q).toInt := c1
        have e : bitsF (fun i => decide ((Z i).toInt < (Y 6 i).toInt)) (q + 1) = bitsF (fun i => decide ((Z i).toInt < (Y 6 i).toInt)) q := bits_n (by show ¬ decide _ = true; rw [decide_eq_true_eq]; exact Int.not_lt.mpr h8)
        have h9 := ih (q + 1) (by omega)
        rw [e] at h9
        exact h9
      · skip
        refine g_iconst m154_35 ?_
        refine g_iload_n m154_36 rfl ?_
        refine g_ishl m154_37 rfl ?_
        refine g_goto m154_38 ?_
        refine g_ior (u := nI (bitsF (fun i => decide ((Z i).toInt < (Y 6 i).toInt)) q + 2 ^ q)) m154_42 (bit_or q (by omega) _ (hb q)) ?_
        refine g_istore_n (L2 := [some (.ref (89)), some (.ref (92)), some (.int (nI (bitsF (fun i => decide ((Z i).toInt < (Y 6 i).toInt)) q + 2 ^ q))), some (.int (nI (q)))]) m154_43 rfl rfl ?_
        refine g_iinc (L2 := [some (.ref (89)), some (.ref (92)), some (.int (nI (bitsF (fun i => decide ((Z i).toInt < (Y 6 i).toInt)) q + 2 ^ q))), some (.int (nI (q + 1)))]) m154_44 rfl (nI_1 _) rfl rfl ?_
        refine g_goto m154_47 ?_
        have h8 : ¬ (Y (2 + 4) q).toInt ≤ (Z q).toInt := by have := c1; omega
        have e : bitsF (fun i => decide ((Z i).toInt < (Y 6 i).toInt)) (q + 1) = bitsF (fun i => decide ((Z i).toInt < (Y 6 i).toInt)) q + 2 ^ q := bits_y (by show  decide _ = true; rw [decide_eq_true_eq]; exact Int.not_le.mp h8)
        have h9 := ih (q + 1) (by omega)
        rw [e] at h9
        exact h9
  exact key n 0 (by omega)
set_option maxRecDepth 20000 in
set_option maxHeartbeats 40000000 in
theorem c_fedS {n a s k : Nat} (hd : m 58 2 = nI n) (hn : n ≤ 8) (hX0 : TxOk (m 58) 0) (hX1 : TxOk (m 58) 1) (hWY : WF (vr (m 58))) (ha : a < 256) (hs : s ≤ 9) (hk : k ≤ 100) (hQ : ∀ m2, FrP m m2 → Q (some (.int (nI (bitsF (moreN (rkF (m 58)) (rbF (m 58)) (shamX (vr (m 58)) a (nI s)) k) n)))) (H m2 ln N)) : WP xs (d + 817) 155 0 0 [.ref (89), .int (nI (a)), .int (nI (s)), .int (nI (k))] (H m ln N) Q := by
  refine wp_x mx_155 (L := [some (.ref (89)), some (.int (nI (a))), some (.int (nI (s))), some (.int (nI (k))), none]) (Nat.le_of_ble_eq_true rfl) rfl ?_
  have hnn : nOf (vr (m 58)) = n := by unfold nOf; rw [show (vr (m 58)) 0 10 = nI n from hd]; exact nI_clamp (by omega)
  refine g_aload_n m155_0 rfl ?_
  refine g_aload_n m155_1 rfl ?_
  refine h_gfR (c := 90) (k := 57) (p := 89) m155_2 rfl (t_57 _ _) rfl (Nat.le_of_ble_eq_true rfl) ?_
  refine g_aload_n m155_5 rfl ?_
  refine h_gfR (c := 92) (k := 57) (p := 89) m155_6 rfl (t_57 _ _) rfl (Nat.le_of_ble_eq_true rfl) ?_
  refine h_cv (k := 57) (p := 89) (args := [.ref (90), .ref (92)]) (rest := []) m155_9 cn_110 (Nat.le_of_ble_eq_true rfl) rfl rfl rfl (t_57 _ _) (Nat.le_of_ble_eq_true rfl) ?_
  refine c_moveRow (k1 := 58) (k2 := 60) rfl rfl (t_58 _ _) (t_60 _ _) (by decide) ?_
  have h58 : (upmR m 60 (m 58)) 58 = m 58 := thR_58 _ _
  have hAt := thR_A m
  have hX0t : TxOk ((upmR m 60 (m 58)) 58) 0 := by rw [h58]; exact hX0
  have hX1t : TxOk ((upmR m 60 (m 58)) 58) 1 := by rw [h58]; exact hX1
  refine gwr0 ?_
  refine g_iconst m155_12 ?_
  refine g_istore (L2 := [some (.ref (89)), some (.int (nI (a))), some (.int (nI (s))), some (.int (nI (k))), some (.int (0))]) m155_13 rfl rfl ?_
  have key : ∀ (r : Nat) (q : Nat) (m2 : MW), q + r = n → AtY (upmR m 60 (m 58)) (shamQ (vr (m 58)) a (nI s) q) m2 → gw xs (WP xs (d + 816)) 155 Q 15 [some (.ref (89)), some (.int (nI (a))), some (.int (nI (s))), some (.int (nI (k))), some (.int (nI (q)))] [] (H m2 ln N) 0 0 := by
    intro r
    induction r with
    | zero =>
      intro q m2 hq hA
      obtain rfl : q = n := by omega
      rw [← shamQ_X hnn] at hA
      refine g_iload m155_15 rfl ?_
      refine g_aload_n m155_17 rfl ?_
      refine h_gfR (c := 90) (k := 57) (p := 89) m155_18 rfl (t_57 _ _) rfl (Nat.le_of_ble_eq_true rfl) ?_
      refine g_iconst m155_21 ?_
      refine h_ial (k := 58) (p := 90) (j := 2) m155_22 rfl (t_58 _ _) (rfl) (by omega) (Nat.le_of_ble_eq_true rfl) (hA.r2.trans ((shamX_o (by decide)).trans hd)) ?_
      refine h_ic_geT (xi := ((q : Nat) : Int)) (zi := ((q : Nat) : Int)) m155_23 (nI_toInt (by omega)) (nI_toInt (by omega)) (by omega) ?_
      refine g_aload_n m155_64 rfl ?_
      refine g_iload_n m155_65 rfl ?_
      refine h_cv (k := 57) (p := 89) (args := [.int (nI (k))]) (rest := []) m155_66 cn_146 (Nat.le_of_ble_eq_true rfl) rfl rfl rfl (t_57 _ _) (Nat.le_of_ble_eq_true rfl) ?_
      refine c_passes hA hX0t hX1t (WF_shamX hWY ⟨s, by omega, rfl⟩) (n := k) (by omega) (fun m3 hA3 => ?_)
      rw [h58] at hA3
      refine gwr0 ?_
      refine g_aload_n m155_69 rfl ?_
      refine g_aload_n m155_70 rfl ?_
      refine h_gfR (c := 92) (k := 57) (p := 89) m155_71 rfl (t_57 _ _) rfl (Nat.le_of_ble_eq_true rfl) ?_
      refine h_cv (k := 57) (p := 89) (args := [.ref (92)]) (rest := []) m155_74 cn_154 (Nat.le_of_ble_eq_true rfl) rfl rfl rfl (t_57 _ _) (Nat.le_of_ble_eq_true rfl) ?_
      refine c_moreThan (Z := fun i => (vr (m 58)) 6 i) hA3 (fun i hi => (th_60 hA3 _).trans rfl) hn ((stepN_0 _ _ _ (by decide) k).trans ((shamX_o (by decide)).trans hd)) ?_
      rw [bitsF_c (q := (moreN (rkF (m 58)) (rbF (m 58)) (shamX (vr (m 58)) a (nI s)) k)) q (fun i _ => by unfold moreN; rw [shamX_o (by decide)])]
      refine gwr ?_
      refine g_istore (L2 := [some (.ref (89)), some (.int (nI (a))), some (.int (nI (s))), some (.int (nI (k))), some (.int (nI (bitsF (moreN (rkF (m 58)) (rbF (m 58)) (shamX (vr (m 58)) a (nI s)) k) q)))]) m155_77 rfl rfl ?_
      refine g_aload_n m155_79 rfl ?_
      refine g_aload_n m155_80 rfl ?_
      refine h_gfR (c := 92) (k := 57) (p := 89) m155_81 rfl (t_57 _ _) rfl (Nat.le_of_ble_eq_true rfl) ?_
      refine g_aload_n m155_84 rfl ?_
      refine h_gfR (c := 90) (k := 57) (p := 89) m155_85 rfl (t_57 _ _) rfl (Nat.le_of_ble_eq_true rfl) ?_
      refine h_cv (k := 57) (p := 89) (args := [.ref (92), .ref (90)]) (rest := []) m155_88 cn_110 (Nat.le_of_ble_eq_true rfl) rfl rfl rfl (t_57 _ _) (Nat.le_of_ble_eq_true rfl) ?_
      refine c_moveRow (k1 := 60) (k2 := 58) rfl rfl (t_60 _ _) (t_58 _ _) (by decide) ?_
      have hFb := FrP.back hA3
      refine gwr0 ?_
      refine g_iload m155_91 rfl ?_
      refine g_iret m155_93 rt_155 ?_
      exact hQ _ hFb
    | succ r ih =>
      intro q m2 hq hA
      refine g_iload m155_15 rfl ?_
      refine g_aload_n m155_17 rfl ?_
      refine h_gfR (c := 90) (k := 57) (p := 89) m155_18 rfl (t_57 _ _) rfl (Nat.le_of_ble_eq_true rfl) ?_
      refine g_iconst m155_21 ?_
      refine h_ial (k := 58) (p := 90) (j := 2) m155_22 rfl (t_58 _ _) (rfl) (by omega) (Nat.le_of_ble_eq_true rfl) (hA.r2.trans ((shamQ_o (by decide)).trans hd)) ?_
      refine h_ic_geF (xi := ((q : Nat) : Int)) (zi := ((n : Nat) : Int)) m155_23 (nI_toInt (by omega)) (nI_toInt (by omega)) (by omega) ?_
      refine g_aload_n m155_26 rfl ?_
      refine g_iload m155_27 rfl ?_
      refine g_iconst m155_29 ?_
      refine g_iload_n m155_30 rfl ?_
      refine h_if_ltF (xi := ((s : Nat) : Int)) (zi := 0) m155_31 (nI_toInt (by omega)) rfl (by omega) ?_
      refine g_iload_n m155_34 rfl ?_
      refine g_iload m155_35 rfl ?_
      refine g_ishr m155_37 rfl ?_
      refine g_iconst m155_38 ?_
      refine g_iand (u := if a.testBit q = true then 1 else 0) m155_39 (bit_sh q (by omega) _ ha) ?_
      by_cases hb_5 : a.testBit q = true
      · rw [if_pos hb_5]
        refine g_iconst m155_40 ?_
        refine h_ic_neT (xi := 1) (zi := 1) m155_41 rfl rfl (by decide) ?_
        refine g_iload_n m155_44 rfl ?_
        refine g_goto m155_45 ?_
        refine h_cv (k := 57) (p := 89) (args := [.int (nI (q)), .int (3), .int (nI (s))]) (rest := []) m155_55 cn_112 (Nat.le_of_ble_eq_true rfl) rfl rfl rfl (t_57 _ _) (Nat.le_of_ble_eq_true rfl) ?_
        refine c_gets (w := 3) (by omega) (by decide) ?_
        have hA4 := hA.up (i := q) (c := 3) (by omega) (by decide) (nI (s))
        refine gwr0 ?_
        refine g_iinc (L2 := [some (.ref (89)), some (.int (nI (a))), some (.int (nI (s))), some (.int (nI (k))), some (.int (nI (q + 1)))]) m155_58 rfl (nI_1 _) rfl rfl ?_
        refine g_goto m155_61 ?_
        exact ih (q + 1) _ (by omega) (hA4.c (fun j i => shamQ_y hb_5 j i))
      · rw [if_neg hb_5]
        refine g_iconst m155_40 ?_
        refine h_ic_neF (xi := 0) (zi := 1) m155_41 rfl rfl (by decide) ?_
        refine g_aload_n m155_48 rfl ?_
        refine g_iload m155_49 rfl ?_
        refine g_iconst m155_51 ?_
        refine h_cv (k := 57) (p := 89) (args := [.int (nI (q)), .int (3)]) (rest := [.int (3), .int (nI (q)), .ref (89)]) m155_52 cn_111 (Nat.le_of_ble_eq_true rfl) rfl rfl rfl (t_57 _ _) (Nat.le_of_ble_eq_true rfl) ?_
        refine c_its (w := 3) (by omega) (by decide) ?_
        rw [hA.rd (i := q) (c := 3) (by omega) (by decide)]
        refine gwr ?_
        refine h_cv (k := 57) (p := 89) (args := [.int (nI (q)), .int (3), .int ((shamQ (vr (m 58)) a (nI s) q) (2 + 3) q)]) (rest := []) m155_55 cn_112 (Nat.le_of_ble_eq_true rfl) rfl rfl rfl (t_57 _ _) (Nat.le_of_ble_eq_true rfl) ?_
        refine c_gets (w := 3) (by omega) (by decide) ?_
        have hA4 := hA.up (i := q) (c := 3) (by omega) (by decide) ((shamQ (vr (m 58)) a (nI s) q) (2 + 3) q)
        refine gwr0 ?_
        refine g_iinc (L2 := [some (.ref (89)), some (.int (nI (a))), some (.int (nI (s))), some (.int (nI (k))), some (.int (nI (q + 1)))]) m155_58 rfl (nI_1 _) rfl rfl ?_
        refine g_goto m155_61 ?_
        refine ih (q + 1) _ (by omega) (hA4.c (fun j i => ?_))
        rw [upm_id]
        exact shamQ_n hb_5 j i
  exact key n 0 _ (by omega) (hAt.c (fun j i => if_neg (fun z => absurd z.2.1 (Nat.not_lt_zero _))))
set_option maxRecDepth 20000 in
set_option maxHeartbeats 40000000 in
theorem c_fedN {n k : Nat} (hd : m 58 2 = nI n) (hn : n ≤ 8) (hX0 : TxOk (m 58) 0) (hX1 : TxOk (m 58) 1) (hWY : WF (vr (m 58))) (hk : k ≤ 100) (hQ : ∀ m2, FrP m m2 → Q (some (.int (nI (bitsF (moreN (rkF (m 58)) (rbF (m 58)) (vr (m 58)) k) n)))) (H m2 ln N)) : WP xs (d + 817) 155 0 0 [.ref (89), .int (0), .int (-1), .int (nI (k))] (H m ln N) Q := by
  refine wp_x mx_155 (L := [some (.ref (89)), some (.int (0)), some (.int (-1)), some (.int (nI (k))), none]) (Nat.le_of_ble_eq_true rfl) rfl ?_
  have hnn : nOf (vr (m 58)) = n := by unfold nOf; rw [show (vr (m 58)) 0 10 = nI n from hd]; exact nI_clamp (by omega)
  refine g_aload_n m155_0 rfl ?_
  refine g_aload_n m155_1 rfl ?_
  refine h_gfR (c := 90) (k := 57) (p := 89) m155_2 rfl (t_57 _ _) rfl (Nat.le_of_ble_eq_true rfl) ?_
  refine g_aload_n m155_5 rfl ?_
  refine h_gfR (c := 92) (k := 57) (p := 89) m155_6 rfl (t_57 _ _) rfl (Nat.le_of_ble_eq_true rfl) ?_
  refine h_cv (k := 57) (p := 89) (args := [.ref (90), .ref (92)]) (rest := []) m155_9 cn_110 (Nat.le_of_ble_eq_true rfl) rfl rfl rfl (t_57 _ _) (Nat.le_of_ble_eq_true rfl) ?_
  refine c_moveRow (k1 := 58) (k2 := 60) rfl rfl (t_58 _ _) (t_60 _ _) (by decide) ?_
  have h58 : (upmR m 60 (m 58)) 58 = m 58 := thR_58 _ _
  have hAt := thR_A m
  have hX0t : TxOk ((upmR m 60 (m 58)) 58) 0 := by rw [h58]; exact hX0
  have hX1t : TxOk ((upmR m 60 (m 58)) 58) 1 := by rw [h58]; exact hX1
  refine gwr0 ?_
  refine g_iconst m155_12 ?_
  refine g_istore (L2 := [some (.ref (89)), some (.int (0)), some (.int (-1)), some (.int (nI (k))), some (.int (0))]) m155_13 rfl rfl ?_
  have key : ∀ (r : Nat) (q : Nat) (m2 : MW), q + r = n → AtY (upmR m 60 (m 58)) (vr (m 58)) m2 → gw xs (WP xs (d + 816)) 155 Q 15 [some (.ref (89)), some (.int (0)), some (.int (-1)), some (.int (nI (k))), some (.int (nI (q)))] [] (H m2 ln N) 0 0 := by
    intro r
    induction r with
    | zero =>
      intro q m2 hq hA
      obtain rfl : q = n := by omega
      refine g_iload m155_15 rfl ?_
      refine g_aload_n m155_17 rfl ?_
      refine h_gfR (c := 90) (k := 57) (p := 89) m155_18 rfl (t_57 _ _) rfl (Nat.le_of_ble_eq_true rfl) ?_
      refine g_iconst m155_21 ?_
      refine h_ial (k := 58) (p := 90) (j := 2) m155_22 rfl (t_58 _ _) (rfl) (by omega) (Nat.le_of_ble_eq_true rfl) (hA.r2.trans (hd)) ?_
      refine h_ic_geT (xi := ((q : Nat) : Int)) (zi := ((q : Nat) : Int)) m155_23 (nI_toInt (by omega)) (nI_toInt (by omega)) (by omega) ?_
      refine g_aload_n m155_64 rfl ?_
      refine g_iload_n m155_65 rfl ?_
      refine h_cv (k := 57) (p := 89) (args := [.int (nI (k))]) (rest := []) m155_66 cn_146 (Nat.le_of_ble_eq_true rfl) rfl rfl rfl (t_57 _ _) (Nat.le_of_ble_eq_true rfl) ?_
      refine c_passes hA hX0t hX1t hWY (n := k) (by omega) (fun m3 hA3 => ?_)
      rw [h58] at hA3
      refine gwr0 ?_
      refine g_aload_n m155_69 rfl ?_
      refine g_aload_n m155_70 rfl ?_
      refine h_gfR (c := 92) (k := 57) (p := 89) m155_71 rfl (t_57 _ _) rfl (Nat.le_of_ble_eq_true rfl) ?_
      refine h_cv (k := 57) (p := 89) (args := [.ref (92)]) (rest := []) m155_74 cn_154 (Nat.le_of_ble_eq_true rfl) rfl rfl rfl (t_57 _ _) (Nat.le_of_ble_eq_true rfl) ?_
      refine c_moreThan (Z := fun i => (vr (m 58)) 6 i) hA3 (fun i hi => (th_60 hA3 _).trans rfl) hn ((stepN_0 _ _ _ (by decide) k).trans hd) ?_
      refine gwr ?_
      refine g_istore (L2 := [some (.ref (89)), some (.int (0)), some (.int (-1)), some (.int (nI (k))), some (.int (nI (bitsF (moreN (rkF (m 58)) (rbF (m 58)) (vr (m 58)) k) q)))]) m155_77 rfl rfl ?_
      refine g_aload_n m155_79 rfl ?_
      refine g_aload_n m155_80 rfl ?_
      refine h_gfR (c := 92) (k := 57) (p := 89) m155_81 rfl (t_57 _ _) rfl (Nat.le_of_ble_eq_true rfl) ?_
      refine g_aload_n m155_84 rfl ?_
      refine h_gfR (c := 90) (k := 57) (p := 89) m155_85 rfl (t_57 _ _) rfl (Nat.le_of_ble_eq_true rfl) ?_
      refine h_cv (k := 57) (p := 89) (args := [.ref (92), .ref (90)]) (rest := []) m155_88 cn_110 (Nat.le_of_ble_eq_true rfl) rfl rfl rfl (t_57 _ _) (Nat.le_of_ble_eq_true rfl) ?_
      refine c_moveRow (k1 := 60) (k2 := 58) rfl rfl (t_60 _ _) (t_58 _ _) (by decide) ?_
      have hFb := FrP.back hA3
      refine gwr0 ?_
      refine g_iload m155_91 rfl ?_
      refine g_iret m155_93 rt_155 ?_
      exact hQ _ hFb
    | succ r ih =>
      intro q m2 hq hA
      refine g_iload m155_15 rfl ?_
      refine g_aload_n m155_17 rfl ?_
      refine h_gfR (c := 90) (k := 57) (p := 89) m155_18 rfl (t_57 _ _) rfl (Nat.le_of_ble_eq_true rfl) ?_
      refine g_iconst m155_21 ?_
      refine h_ial (k := 58) (p := 90) (j := 2) m155_22 rfl (t_58 _ _) (rfl) (by omega) (Nat.le_of_ble_eq_true rfl) (hA.r2.trans (hd)) ?_
      refine h_ic_geF (xi := ((q : Nat) : Int)) (zi := ((n : Nat) : Int)) m155_23 (nI_toInt (by omega)) (nI_toInt (by omega)) (by omega) ?_
      refine g_aload_n m155_26 rfl ?_
      refine g_iload m155_27 rfl ?_
      refine g_iconst m155_29 ?_
      refine g_iload_n m155_30 rfl ?_
      refine h_if_ltT (xi := (-1)) (zi := 0) m155_31 rfl rfl (by decide) ?_
      refine g_aload_n m155_48 rfl ?_
      refine g_iload m155_49 rfl ?_
      refine g_iconst m155_51 ?_
      refine h_cv (k := 57) (p := 89) (args := [.int (nI (q)), .int (3)]) (rest := [.int (3), .int (nI (q)), .ref (89)]) m155_52 cn_111 (Nat.le_of_ble_eq_true rfl) rfl rfl rfl (t_57 _ _) (Nat.le_of_ble_eq_true rfl) ?_
      refine c_its (w := 3) (by omega) (by decide) ?_
      rw [hA.rd (i := q) (c := 3) (by omega) (by decide)]
      refine gwr ?_
      refine h_cv (k := 57) (p := 89) (args := [.int (nI (q)), .int (3), .int ((vr (m 58)) (2 + 3) q)]) (rest := []) m155_55 cn_112 (Nat.le_of_ble_eq_true rfl) rfl rfl rfl (t_57 _ _) (Nat.le_of_ble_eq_true rfl) ?_
      refine c_gets (w := 3) (by omega) (by decide) ?_
      have hA4 := hA.up (i := q) (c := 3) (by omega) (by decide) ((vr (m 58)) (2 + 3) q)
      refine gwr0 ?_
      refine g_iinc (L2 := [some (.ref (89)), some (.int (0)), some (.int (-1)), some (.int (nI (k))), some (.int (nI (q + 1)))]) m155_58 rfl (nI_1 _) rfl rfl ?_
      refine g_goto m155_61 ?_
      refine ih (q + 1) _ (by omega) (hA4.c (fun j i => ?_))
      rw [upm_id]
  exact key n 0 _ (by omega) hAt
end
end
section
/-! WHAT WOULD BE: the reference, again and again -/
theorem ls_P {a n : Nat} {p : Nat → Bool} (hn : n ≤ 8) (ha : a < 2 ^ n) : (nI a &&& (nI (bitsF p n) ^^^ (-1 : Int32))).toInt = 0 ↔ allF (fun w => !(Nat.testBit a w) || p w) n = true := by
  have h8 : 2 ^ n ≤ 256 := Nat.pow_le_pow_right (n := 2) (by decide) hn
  have e := and_no (a := a) (f := bitsF p n) (by omega)
  rw [e, all_y]
  constructor
  · intro h w hw
    cases haw : a.testBit w
    · rfl
    · have h2 := h w (by omega) haw
      rw [bitsF_t p n w hw] at h2
      rw [h2]
      rfl
  · intro h w hw haw
    have hwn : w < n := by
      by_cases c : w < n
      · exact c
      · have h3 : 2 ^ n ≤ 2 ^ w := Nat.pow_le_pow_right (by decide) (by omega)
        rw [Nat.testBit_lt_two_pow (by omega)] at haw
        exact absurd haw (by decide)
    have h2 := h w hwn
    rw [haw] at h2
    rw [bitsF_t p n w hwn]
    simpa using h2
theorem shamX_e {X : MW} {n i : Nat} {s : Int32} (hnn : nOf X = n) (hi : i < n) : shamX X (2 ^ i) s = upm X 5 i s := funext fun j => funext fun w => shamX_1 (by omega) j w
theorem sham_one {LK BL : LF} {X : MW} {n i k : Nat} {s : Int32} (hnn : nOf X = n) (hi : i < n) : allF (fun w => !(Nat.testBit (2 ^ i) w) || moreN LK BL (shamX X (2 ^ i) s) k w) n = moreN LK BL (upm X 5 i s) k i := by
  rw [shamX_e hnn hi, Bool.eq_iff_iff, all_y]
  constructor
  · intro h
    have h2 := h i hi
    rw [Nat.testBit_two_pow_self] at h2
    simpa using h2
  · intro h w hw
    rw [Nat.testBit_two_pow]
    by_cases e : i = w
    · subst e
      rw [h]
      simp
    · rw [decide_eq_false e]
      rfl
theorem vr_4 {m : MW} {v : Int32} : vr (upm m 58 4 v 58) = vr (m 58) := by
  funext j i
  unfold vr
  split
  · rw [upm_j _ _ (by decide), upm_j _ _ (by decide), upm_j _ _ (by decide)]
  · exact upm_j _ _ (by omega)
  · exact upm_j _ _ (by omega)
theorem tx_4 {m : MW} {v : Int32} (u : Nat) : txW (upm m 58 4 v 58) u = txW (m 58) u ∧ upm m 58 4 v 58 (5 + u) = m 58 (5 + u) := ⟨funext fun j => upm_j _ _ (by omega), upm_j _ _ (by omega)⟩
theorem TxOk.up4 {m : MW} {v : Int32} {u : Nat} (h : TxOk (m 58) u) : TxOk (upm m 58 4 v 58) u := by
  unfold TxOk
  rw [(tx_4 u).1, (tx_4 u).2]
  exact h
theorem rk_4 {m : MW} {v : Int32} : rkF (upm m 58 4 v 58) = rkF (m 58) := by
  have h := tx_4 (m := m) (v := v) 0
  unfold rkF nW
  rw [h.1]
  rw [show upm m 58 4 v 58 (5 + 0) = m 58 (5 + 0) from h.2]
  first | done | rfl
theorem rb_4 {m : MW} {v : Int32} : rbF (upm m 58 4 v 58) = rbF (m 58) := by
  have h := tx_4 (m := m) (v := v) 1
  unfold rbF nW
  rw [h.1]
  rw [show upm m 58 4 v 58 (5 + 1) = m 58 (5 + 1) from h.2]
  first | done | rfl
section
variable {xs : List Int32} {d : Nat} {h : AH} {Q : QT} {m : MW} {ln : Nat → Nat} {N : Nat}
set_option maxRecDepth 20000 in
set_option maxHeartbeats 40000000 in
theorem m_never {n : Nat} (hd : m 58 2 = nI n) (hn : n ≤ 8) (hX0 : TxOk (m 58) 0) (hX1 : TxOk (m 58) 1) (hWY : WF (vr (m 58))) (hY : ∀ m2, FrP m m2 → Q (some (.int (nI (bitsF (fun i => !(moreN (rkF (m 58)) (rbF (m 58)) (vr (m 58)) 60 i)) n)))) (H m2 ln N)) : WP xs (d + 818) 156 0 0 [.ref (89)] (H m ln N) Q := by
  refine wp_x mx_156 (L := [some (.ref (89))]) (Nat.le_of_ble_eq_true rfl) rfl ?_
  refine g_iconst m156_0 ?_
  refine g_aload_n m156_1 rfl ?_
  refine h_gfR (c := 90) (k := 57) (p := 89) m156_2 rfl (t_57 _ _) rfl (Nat.le_of_ble_eq_true rfl) ?_
  refine g_iconst m156_5 ?_
  refine h_ial (k := 58) (p := 90) (j := 2) m156_6 rfl (t_58 _ _) (rfl) (by omega) (Nat.le_of_ble_eq_true rfl) (hd) ?_
  refine g_ishl m156_7 rfl ?_
  refine g_iconst m156_8 ?_
  refine g_isub m156_9 rfl ?_
  refine g_aload_n m156_10 rfl ?_
  refine g_iconst m156_11 ?_
  refine g_iconst m156_12 ?_
  refine g_bipush m156_13 ?_
  refine h_cv (k := 57) (p := 89) (args := [.int (0), .int (-1), .int (60)]) (rest := [.int _]) m156_15 cn_155 (Nat.le_of_ble_eq_true rfl) rfl rfl rfl (t_57 _ _) (Nat.le_of_ble_eq_true rfl) ?_
  refine c_fedN (k := 60) hd hn hX0 hX1 hWY (by decide) (fun m2 hF => ?_)
  refine gwr ?_
  refine g_iconst m156_18 ?_
  refine g_ixor m156_19 rfl ?_
  refine g_iand (u := nI (2 ^ n - 1 - bitsF (moreN (rkF (m 58)) (rbF (m 58)) (vr (m 58)) 60) n)) m156_20 (and_not n (by omega) _ (bitsF_lt _ n)) ?_
  refine g_iret m156_21 rt_156 ?_
  rw [bits_not]
  exact hY m2 hF
set_option maxRecDepth 20000 in
set_option maxHeartbeats 40000000 in
theorem c_leastSham {n a k : Nat} (hd : m 58 2 = nI n) (hn : n ≤ 8) (hX0 : TxOk (m 58) 0) (hX1 : TxOk (m 58) 1) (hWY : WF (vr (m 58))) (ha : a < 2 ^ n) (hk : k ≤ 100) (hN : leastF (fun s => allF (fun w => !(Nat.testBit a w) || moreN (rkF (m 58)) (rbF (m 58)) (shamX (vr (m 58)) a (nI s)) k w) n) 10 0 = none → ∀ m2, FrP m m2 → Q (some (.int (-1))) (H m2 ln N)) (hY : ∀ s : Nat, s ≤ 9 → leastF (fun s => allF (fun w => !(Nat.testBit a w) || moreN (rkF (m 58)) (rbF (m 58)) (shamX (vr (m 58)) a (nI s)) k w) n) 10 0 = some s → ∀ m2, FrP m m2 → Q (some (.int (nI s))) (H m2 ln N)) : WP xs (d + 818) 157 0 0 [.ref (89), .int (nI (a)), .int (nI (k))] (H m ln N) Q := by
  refine wp_x mx_157 (L := [some (.ref (89)), some (.int (nI (a))), some (.int (nI (k))), none]) (Nat.le_of_ble_eq_true rfl) rfl ?_
  have h8 : 2 ^ n ≤ 256 := Nat.pow_le_pow_right (n := 2) (by decide) hn
  refine g_iconst m157_0 ?_
  refine g_istore_n (L2 := [some (.ref (89)), some (.int (nI (a))), some (.int (nI (k))), some (.int (0))]) m157_1 rfl rfl ?_
  have key : ∀ (r : Nat) (s : Nat) (m2 : MW), s + r = 10 → FrP m m2 → leastF (fun s => allF (fun w => !(Nat.testBit a w) || moreN (rkF (m 58)) (rbF (m 58)) (shamX (vr (m 58)) a (nI s)) k w) n) r s = leastF (fun s => allF (fun w => !(Nat.testBit a w) || moreN (rkF (m 58)) (rbF (m 58)) (shamX (vr (m 58)) a (nI s)) k w) n) 10 0 → gw xs (WP xs (d + 817)) 157 Q 2 [some (.ref (89)), some (.int (nI (a))), some (.int (nI (k))), some (.int (nI (s)))] [] (H m2 ln N) 0 0 := by
    intro r
    induction r with
    | zero =>
      intro s m2 hs hF hfin
      obtain rfl : s = 10 := by omega
      refine g_iload_n m157_2 rfl ?_
      refine g_bipush m157_3 ?_
      refine h_ic_gtT (xi := ((10 : Nat) : Int)) (zi := 9) m157_5 (nI_toInt (by omega)) rfl (by omega) ?_
      refine g_iload_n m157_28 rfl ?_
      refine g_bipush m157_29 ?_
      refine h_ic_leF (xi := ((10 : Nat) : Int)) (zi := 9) m157_31 (nI_toInt (by omega)) rfl (by omega) ?_
      refine g_iconst m157_34 ?_
      refine g_goto m157_35 ?_
      refine g_iret m157_39 rt_157 ?_
      exact hN hfin.symm m2 hF
    | succ r ih =>
      intro s m2 hs hF hfin
      refine g_iload_n m157_2 rfl ?_
      refine g_bipush m157_3 ?_
      refine h_ic_gtF (xi := ((s : Nat) : Int)) (zi := 9) m157_5 (nI_toInt (by omega)) rfl (by omega) ?_
      refine g_iload_n m157_8 rfl ?_
      refine g_aload_n m157_9 rfl ?_
      refine g_iload_n m157_10 rfl ?_
      refine g_iload_n m157_11 rfl ?_
      refine g_iload_n m157_12 rfl ?_
      refine h_cv (k := 57) (p := 89) (args := [.int (nI (a)), .int (nI (s)), .int (nI (k))]) (rest := [.int (nI (a))]) m157_13 cn_155 (Nat.le_of_ble_eq_true rfl) rfl rfl rfl (t_57 _ _) (Nat.le_of_ble_eq_true rfl) ?_
      have e58 : m2 58 = m 58 := hF.row
      refine c_fedS (n := n) (a := a) (s := s) (k := k) (by rw [e58]; exact hd) hn (by rw [e58]; exact hX0) (by rw [e58]; exact hX1) (by rw [e58]; exact hWY) (by omega) (by omega) (by omega) (fun m3 hF2 => ?_)
      rw [e58]
      have hF3 := hF.tr hF2
      refine gwr ?_
      refine g_iconst m157_16 ?_
      refine g_ixor m157_17 rfl ?_
      refine g_iand m157_18 rfl ?_
      refine h_if_eq (xi := _) (zi := 0) m157_19 rfl rfl (fun c1 => ?_) (fun c1 => ?_)
      · skip
        refine g_iload_n m157_28 rfl ?_
        refine g_bipush m157_29 ?_
        refine h_ic_leT (xi := ((s : Nat) : Int)) (zi := 9) m157_31 (nI_toInt (by omega)) rfl (by omega) ?_
        refine g_iload_n m157_38 rfl ?_
        refine g_iret m157_39 rt_157 ?_
        have hm : (fun s => allF (fun w => !(Nat.testBit a w) || moreN (rkF (m 58)) (rbF (m 58)) (shamX (vr (m 58)) a (nI s)) k w) n) s = true := (ls_P hn ha).mp c1
        rw [least_y (p := (fun s => allF (fun w => !(Nat.testBit a w) || moreN (rkF (m 58)) (rbF (m 58)) (shamX (vr (m 58)) a (nI s)) k w) n)) (s := s) hm] at hfin
        exact hY s (by omega) hfin.symm m3 hF3
      · skip
        refine g_iinc (L2 := [some (.ref (89)), some (.int (nI (a))), some (.int (nI (k))), some (.int (nI (s + 1)))]) m157_22 rfl (nI_1 _) rfl rfl ?_
        refine g_goto m157_25 ?_
        have hm : ¬ (fun s => allF (fun w => !(Nat.testBit a w) || moreN (rkF (m 58)) (rbF (m 58)) (shamX (vr (m 58)) a (nI s)) k w) n) s = true := fun z => c1 ((ls_P hn ha).mpr z)
        rw [least_n (p := (fun s => allF (fun w => !(Nat.testBit a w) || moreN (rkF (m 58)) (rbF (m 58)) (shamX (vr (m 58)) a (nI s)) k w) n)) (s := s) hm] at hfin
        exact ih (s + 1) _ (by omega) hF3 hfin
  exact key 10 0 m (by omega) FrP.rf rfl
set_option maxRecDepth 20000 in
set_option maxHeartbeats 40000000 in
theorem m_sham {a v : Int32} {n : Nat} (hd : m 58 2 = nI n) (hn : n ≤ 8) (hX0 : TxOk (m 58) 0) (hX1 : TxOk (m 58) 1) (hWY : WF (vr (m 58))) (hE1 : (a.toInt < 0 ∨ (n : Int) ≤ a.toInt ∨ v.toInt < 1 ∨ 60 < v.toInt) → Q (some (.int (-1000000001))) (H (ers m 1) ln N)) (hE2 : ∀ i k : Nat, a = nI i → i < n → v = nI k → 1 ≤ k → k ≤ 60 → leastF (fun s => moreN (rkF (m 58)) (rbF (m 58)) (upm (vr (m 58)) 5 i (nI s)) k i) 10 0 = none → ∀ m2, FrP m m2 → Q (some (.int (-1000000002))) (H (ers m2 2) ln N)) (hY : ∀ i k s : Nat, a = nI i → i < n → v = nI k → 1 ≤ k → k ≤ 60 → leastF (fun s => moreN (rkF (m 58)) (rbF (m 58)) (upm (vr (m 58)) 5 i (nI s)) k i) 10 0 = some s → ∀ m2, FrP m m2 → Q (some (.int (nI s))) (H m2 ln N)) : WP xs (d + 819) 158 0 0 [.ref (89), .int (a), .int (v)] (H m ln N) Q := by
  refine wp_x mx_158 (L := [some (.ref (89)), some (.int (a)), some (.int (v)), none]) (Nat.le_of_ble_eq_true rfl) rfl ?_
  have hnn : nOf (vr (m 58)) = n := by unfold nOf; rw [show (vr (m 58)) 0 10 = nI n from hd]; exact nI_clamp (by omega)
  refine g_aload_n m158_0 rfl ?_
  refine g_iload_n m158_1 rfl ?_
  refine h_cv (k := 57) (p := 89) (args := [.int (a)]) (rest := []) m158_2 cn_113 (Nat.le_of_ble_eq_true rfl) rfl rfl rfl (t_57 _ _) (Nat.le_of_ble_eq_true rfl) ?_
  refine c_isDinerM hd hn (fun ja ea a_1 => ?_) (fun a_1 => ?_)
  · subst ea
    refine gwr ?_
    refine h_if_eqF (xi := 1) (zi := 0) m158_5 rfl rfl (by decide) ?_
    refine g_iload_n m158_8 rfl ?_
    refine g_iconst m158_9 ?_
    refine g_bipush m158_10 ?_
    refine g_cs (args := [.int (v), .int (1), .int (60)]) (rest := []) 0 (Or.inl rfl) m158_12 (Nat.le_of_ble_eq_true rfl) rfl rfl (Nat.le_of_ble_eq_true rfl) ?_
    refine c_in (A := 1) (B := 60) rfl rfl (by decide) (fun jv ev a_2 a_2' => ?_) (fun a_2 => ?_)
    · subst ev
      refine gwr ?_
      refine h_if_neF (xi := 1) (zi := 0) m158_15 rfl rfl (by decide) ?_
      refine g_aload_n m158_25 rfl ?_
      refine g_iconst m158_26 ?_
      refine g_iload_n m158_27 rfl ?_
      refine g_ishl (u := nI (2 ^ ja)) m158_28 (bit_1 ja (by omega)) ?_
      refine g_iload_n m158_29 rfl ?_
      refine h_cv (k := 57) (p := 89) (args := [.int (nI (2 ^ ja)), .int (nI (jv))]) (rest := []) m158_30 cn_157 (Nat.le_of_ble_eq_true rfl) rfl rfl rfl (t_57 _ _) (Nat.le_of_ble_eq_true rfl) ?_
      have hp : 2 ^ ja < 2 ^ n := Nat.pow_lt_pow_right (by decide) (by omega)
      refine c_leastSham (n := n) (a := 2 ^ ja) (k := jv) hd hn hX0 hX1 hWY (by omega) (by omega) (fun hls m2 hF => ?_) (fun s hs hls m2 hF => ?_)
      · skip
        refine gwr ?_
        refine g_istore_n (L2 := [some (.ref (89)), some (.int (nI (ja))), some (.int (nI (jv))), some (.int (-1))]) m158_33 rfl rfl ?_
        refine g_iload_n m158_34 rfl ?_
        refine h_if_geF (xi := (-1)) (zi := 0) m158_35 rfl rfl (by decide) ?_
        refine g_aload_n m158_38 rfl ?_
        refine g_ldci m158_39 rfl ?_
        refine h_cv (k := 57) (p := 89) (args := [.int (-1000000002)]) (rest := []) m158_41 cn_108 (Nat.le_of_ble_eq_true rfl) rfl rfl rfl (t_57 _ _) (Nat.le_of_ble_eq_true rfl) ?_
        refine c_errs (e := 2) (by decide) (by decide) (by decide) ?_
        refine gwr ?_
        refine g_goto m158_44 ?_
        refine g_iret m158_48 rt_158 ?_
        rw [leastF_c (p := (fun s => moreN (rkF (m 58)) (rbF (m 58)) (upm (vr (m 58)) 5 ja (nI s)) jv ja)) (fun s => sham_one hnn (by omega)) 10 0] at hls
        exact hE2 ja jv rfl (by omega) rfl (by omega) (by omega) hls m2 hF
      · skip
        refine gwr ?_
        refine g_istore_n (L2 := [some (.ref (89)), some (.int (nI (ja))), some (.int (nI (jv))), some (.int (nI (s)))]) m158_33 rfl rfl ?_
        refine g_iload_n m158_34 rfl ?_
        refine h_if_geT (xi := ((s : Nat) : Int)) (zi := 0) m158_35 (nI_toInt (by omega)) rfl (by omega) ?_
        refine g_iload_n m158_47 rfl ?_
        refine g_iret m158_48 rt_158 ?_
        rw [leastF_c (p := (fun s => moreN (rkF (m 58)) (rbF (m 58)) (upm (vr (m 58)) 5 ja (nI s)) jv ja)) (fun s => sham_one hnn (by omega)) 10 0] at hls
        exact hY ja jv s rfl (by omega) rfl (by omega) (by omega) hls m2 hF
    · skip
      refine gwr ?_
      refine h_if_neT (xi := 0) (zi := 0) m158_15 rfl rfl (by decide) ?_
      refine g_aload_n m158_18 rfl ?_
      refine g_ldci m158_19 rfl ?_
      refine h_cv (k := 57) (p := 89) (args := [.int (-1000000001)]) (rest := []) m158_21 cn_108 (Nat.le_of_ble_eq_true rfl) rfl rfl rfl (t_57 _ _) (Nat.le_of_ble_eq_true rfl) ?_
      refine c_errs (e := 1) (by decide) (by decide) (by decide) ?_
      refine gwr ?_
      refine g_iret m158_24 rt_158 ?_
      exact hE1 (by omega)
  · skip
    refine gwr ?_
    refine h_if_eqT (xi := 0) (zi := 0) m158_5 rfl rfl (by decide) ?_
    refine g_aload_n m158_18 rfl ?_
    refine g_ldci m158_19 rfl ?_
    refine h_cv (k := 57) (p := 89) (args := [.int (-1000000001)]) (rest := []) m158_21 cn_108 (Nat.le_of_ble_eq_true rfl) rfl rfl rfl (t_57 _ _) (Nat.le_of_ble_eq_true rfl) ?_
    refine c_errs (e := 1) (by decide) (by decide) (by decide) ?_
    refine gwr ?_
    refine g_iret m158_24 rt_158 ?_
    exact hE1 (by omega)
set_option maxRecDepth 20000 in
set_option maxHeartbeats 40000000 in
theorem m_alike {a v : Int32} {n : Nat} (hd : m 58 2 = nI n) (hn : n ≤ 8) (hX0 : TxOk (m 58) 0) (hX1 : TxOk (m 58) 1) (hWY : WF (vr (m 58))) (hE1 : (a.toInt < 0 ∨ ((2 ^ n : Nat) : Int) ≤ a.toInt ∨ v.toInt < 1 ∨ 60 < v.toInt) → Q (some (.int (-1000000001))) (H (ers m 1) ln N)) (hE2 : ∀ i k : Nat, a = nI i → i < 2 ^ n → v = nI k → 1 ≤ k → k ≤ 60 → leastF (fun s => allF (fun w => !(Nat.testBit i w) || moreN (rkF (m 58)) (rbF (m 58)) (shamX (vr (m 58)) i (nI s)) k w) n) 10 0 = none → ∀ m2, FrP m m2 → Q (some (.int (-1000000002))) (H (ers m2 2) ln N)) (hY : ∀ i k s : Nat, a = nI i → i < 2 ^ n → v = nI k → 1 ≤ k → k ≤ 60 → leastF (fun s => allF (fun w => !(Nat.testBit i w) || moreN (rkF (m 58)) (rbF (m 58)) (shamX (vr (m 58)) i (nI s)) k w) n) 10 0 = some s → ∀ m2, FrP m m2 → Q (some (.int (nI s))) (H m2 ln N)) : WP xs (d + 819) 159 0 0 [.ref (89), .int (a), .int (v)] (H m ln N) Q := by
  refine wp_x mx_159 (L := [some (.ref (89)), some (.int (a)), some (.int (v)), none]) (Nat.le_of_ble_eq_true rfl) rfl ?_
  have hp8 : 2 ^ n ≤ 256 := Nat.pow_le_pow_right (n := 2) (by decide) hn
  have hp0 := Nat.two_pow_pos n
  refine g_iload_n m159_0 rfl ?_
  refine g_iconst m159_1 ?_
  refine g_iconst m159_2 ?_
  refine g_aload_n m159_3 rfl ?_
  refine h_gfR (c := 90) (k := 57) (p := 89) m159_4 rfl (t_57 _ _) rfl (Nat.le_of_ble_eq_true rfl) ?_
  refine g_iconst m159_7 ?_
  refine h_ial (k := 58) (p := 90) (j := 2) m159_8 rfl (t_58 _ _) (rfl) (by omega) (Nat.le_of_ble_eq_true rfl) (hd) ?_
  refine g_ishl (u := nI (2 ^ n)) m159_9 (bit_1 n (by omega)) ?_
  refine g_iconst m159_10 ?_
  refine g_isub m159_11 rfl ?_
  refine g_cs (args := [.int (a), .int (0), .int ((nI (2 ^ n) - 1))]) (rest := []) 0 (Or.inl rfl) m159_12 (Nat.le_of_ble_eq_true rfl) rfl rfl (Nat.le_of_ble_eq_true rfl) ?_
  refine c_in (A := 0) (B := (((2 ^ n : Nat) : Int) - 1)) rfl (by rw [sub_k (a := ((2 ^ n : Nat) : Int)) (b := 1) (nI_toInt (by omega)) rfl (by omega) (by omega)]) (by decide) (fun ja ea a_3 a_3' => ?_) (fun a_3 => ?_)
  · subst ea
    refine gwr ?_
    refine h_if_eqF (xi := 1) (zi := 0) m159_15 rfl rfl (by decide) ?_
    refine g_iload_n m159_18 rfl ?_
    refine g_iconst m159_19 ?_
    refine g_bipush m159_20 ?_
    refine g_cs (args := [.int (v), .int (1), .int (60)]) (rest := []) 0 (Or.inl rfl) m159_22 (Nat.le_of_ble_eq_true rfl) rfl rfl (Nat.le_of_ble_eq_true rfl) ?_
    refine c_in (A := 1) (B := 60) rfl rfl (by decide) (fun jv ev a_4 a_4' => ?_) (fun a_4 => ?_)
    · subst ev
      refine gwr ?_
      refine h_if_neF (xi := 1) (zi := 0) m159_25 rfl rfl (by decide) ?_
      refine g_aload_n m159_35 rfl ?_
      refine g_iload_n m159_36 rfl ?_
      refine g_iload_n m159_37 rfl ?_
      refine h_cv (k := 57) (p := 89) (args := [.int (nI (ja)), .int (nI (jv))]) (rest := []) m159_38 cn_157 (Nat.le_of_ble_eq_true rfl) rfl rfl rfl (t_57 _ _) (Nat.le_of_ble_eq_true rfl) ?_
      refine c_leastSham (n := n) (a := ja) (k := jv) hd hn hX0 hX1 hWY (by omega) (by omega) (fun hls m2 hF => ?_) (fun s hs hls m2 hF => ?_)
      · skip
        refine gwr ?_
        refine g_istore_n (L2 := [some (.ref (89)), some (.int (nI (ja))), some (.int (nI (jv))), some (.int (-1))]) m159_41 rfl rfl ?_
        refine g_iload_n m159_42 rfl ?_
        refine h_if_geF (xi := (-1)) (zi := 0) m159_43 rfl rfl (by decide) ?_
        refine g_aload_n m159_46 rfl ?_
        refine g_ldci m159_47 rfl ?_
        refine h_cv (k := 57) (p := 89) (args := [.int (-1000000002)]) (rest := []) m159_49 cn_108 (Nat.le_of_ble_eq_true rfl) rfl rfl rfl (t_57 _ _) (Nat.le_of_ble_eq_true rfl) ?_
        refine c_errs (e := 2) (by decide) (by decide) (by decide) ?_
        refine gwr ?_
        refine g_goto m159_52 ?_
        refine g_iret m159_56 rt_159 ?_
        exact hE2 ja jv rfl (by omega) rfl (by omega) (by omega) hls m2 hF
      · skip
        refine gwr ?_
        refine g_istore_n (L2 := [some (.ref (89)), some (.int (nI (ja))), some (.int (nI (jv))), some (.int (nI (s)))]) m159_41 rfl rfl ?_
        refine g_iload_n m159_42 rfl ?_
        refine h_if_geT (xi := ((s : Nat) : Int)) (zi := 0) m159_43 (nI_toInt (by omega)) rfl (by omega) ?_
        refine g_iload_n m159_55 rfl ?_
        refine g_iret m159_56 rt_159 ?_
        exact hY ja jv s rfl (by omega) rfl (by omega) (by omega) hls m2 hF
    · skip
      refine gwr ?_
      refine h_if_neT (xi := 0) (zi := 0) m159_25 rfl rfl (by decide) ?_
      refine g_aload_n m159_28 rfl ?_
      refine g_ldci m159_29 rfl ?_
      refine h_cv (k := 57) (p := 89) (args := [.int (-1000000001)]) (rest := []) m159_31 cn_108 (Nat.le_of_ble_eq_true rfl) rfl rfl rfl (t_57 _ _) (Nat.le_of_ble_eq_true rfl) ?_
      refine c_errs (e := 1) (by decide) (by decide) (by decide) ?_
      refine gwr ?_
      refine g_iret m159_34 rt_159 ?_
      exact hE1 (by omega)
  · skip
    refine gwr ?_
    refine h_if_eqT (xi := 0) (zi := 0) m159_15 rfl rfl (by decide) ?_
    refine g_aload_n m159_28 rfl ?_
    refine g_ldci m159_29 rfl ?_
    refine h_cv (k := 57) (p := 89) (args := [.int (-1000000001)]) (rest := []) m159_31 cn_108 (Nat.le_of_ble_eq_true rfl) rfl rfl rfl (t_57 _ _) (Nat.le_of_ble_eq_true rfl) ?_
    refine c_errs (e := 1) (by decide) (by decide) (by decide) ?_
    refine gwr ?_
    refine g_iret m159_34 rt_159 ?_
    exact hE1 (by omega)
set_option maxRecDepth 20000 in
set_option maxHeartbeats 40000000 in
theorem c_divisor {a : Nat} (ha : a ≤ 10) (hQ : Q (some (.int (nI (Nat.gcd a 10)))) h) : WP xs (d + 1) 168 0 0 [.int (nI (a)), .int (10)] h Q := by
  refine wp_x mx_168 (L := [some (.int (nI (a))), some (.int (10)), none, none, none]) (Nat.le_of_ble_eq_true rfl) rfl ?_
  rcases (show a = 0 ∨ a = 1 ∨ a = 2 ∨ a = 3 ∨ a = 4 ∨ a = 5 ∨ a = 6 ∨ a = 7 ∨ a = 8 ∨ a = 9 ∨ a = 10 by omega) with rfl | rfl | rfl | rfl | rfl | rfl | rfl | rfl | rfl | rfl | rfl
  · skip
    refine gwl (L' := [some (.int 0), some (.int 10), none, none, none]) rfl ?_
    refine g_iload_n m168_0 rfl ?_
    refine g_istore_n (L2 := [some (.int (0)), some (.int (10)), some (.int (0)), none, none]) m168_1 rfl rfl ?_
    refine g_iload_n m168_2 rfl ?_
    refine g_istore_n (L2 := [some (.int (0)), some (.int (10)), some (.int (0)), some (.int (10)), none]) m168_3 rfl rfl ?_
    refine g_iload_n m168_4 rfl ?_
    refine h_if_eqF (xi := 10) (zi := 0) m168_5 rfl rfl (by decide) ?_
    refine g_iload_n m168_8 rfl ?_
    refine g_iload_n m168_9 rfl ?_
    refine g_irem (u := (0 : Int32)) m168_10 (by decide) (by decide) ?_
    refine g_istore (L2 := [some (.int (0)), some (.int (10)), some (.int (0)), some (.int (10)), some (.int (0))]) m168_11 rfl rfl ?_
    refine g_iload_n m168_13 rfl ?_
    refine g_istore_n (L2 := [some (.int (0)), some (.int (10)), some (.int (10)), some (.int (10)), some (.int (0))]) m168_14 rfl rfl ?_
    refine g_iload m168_15 rfl ?_
    refine g_istore_n (L2 := [some (.int (0)), some (.int (10)), some (.int (10)), some (.int (0)), some (.int (0))]) m168_17 rfl rfl ?_
    refine g_goto m168_18 ?_
    refine g_iload_n m168_4 rfl ?_
    refine h_if_eqT (xi := 0) (zi := 0) m168_5 rfl rfl (by decide) ?_
    refine g_iload_n m168_21 rfl ?_
    refine g_iret m168_22 rt_168 ?_
    exact hQ
  · skip
    refine gwl (L' := [some (.int 1), some (.int 10), none, none, none]) rfl ?_
    refine g_iload_n m168_0 rfl ?_
    refine g_istore_n (L2 := [some (.int (1)), some (.int (10)), some (.int (1)), none, none]) m168_1 rfl rfl ?_
    refine g_iload_n m168_2 rfl ?_
    refine g_istore_n (L2 := [some (.int (1)), some (.int (10)), some (.int (1)), some (.int (10)), none]) m168_3 rfl rfl ?_
    refine g_iload_n m168_4 rfl ?_
    refine h_if_eqF (xi := 10) (zi := 0) m168_5 rfl rfl (by decide) ?_
    refine g_iload_n m168_8 rfl ?_
    refine g_iload_n m168_9 rfl ?_
    refine g_irem (u := (1 : Int32)) m168_10 (by decide) (by decide) ?_
    refine g_istore (L2 := [some (.int (1)), some (.int (10)), some (.int (1)), some (.int (10)), some (.int (1))]) m168_11 rfl rfl ?_
    refine g_iload_n m168_13 rfl ?_
    refine g_istore_n (L2 := [some (.int (1)), some (.int (10)), some (.int (10)), some (.int (10)), some (.int (1))]) m168_14 rfl rfl ?_
    refine g_iload m168_15 rfl ?_
    refine g_istore_n (L2 := [some (.int (1)), some (.int (10)), some (.int (10)), some (.int (1)), some (.int (1))]) m168_17 rfl rfl ?_
    refine g_goto m168_18 ?_
    refine g_iload_n m168_4 rfl ?_
    refine h_if_eqF (xi := 1) (zi := 0) m168_5 rfl rfl (by decide) ?_
    refine g_iload_n m168_8 rfl ?_
    refine g_iload_n m168_9 rfl ?_
    refine g_irem (u := (0 : Int32)) m168_10 (by decide) (by decide) ?_
    refine g_istore (L2 := [some (.int (1)), some (.int (10)), some (.int (10)), some (.int (1)), some (.int (0))]) m168_11 rfl rfl ?_
    refine g_iload_n m168_13 rfl ?_
    refine g_istore_n (L2 := [some (.int (1)), some (.int (10)), some (.int (1)), some (.int (1)), some (.int (0))]) m168_14 rfl rfl ?_
    refine g_iload m168_15 rfl ?_
    refine g_istore_n (L2 := [some (.int (1)), some (.int (10)), some (.int (1)), some (.int (0)), some (.int (0))]) m168_17 rfl rfl ?_
    refine g_goto m168_18 ?_
    refine g_iload_n m168_4 rfl ?_
    refine h_if_eqT (xi := 0) (zi := 0) m168_5 rfl rfl (by decide) ?_
    refine g_iload_n m168_21 rfl ?_
    refine g_iret m168_22 rt_168 ?_
    exact hQ
  · skip
    refine gwl (L' := [some (.int 2), some (.int 10), none, none, none]) rfl ?_
    refine g_iload_n m168_0 rfl ?_
    refine g_istore_n (L2 := [some (.int (2)), some (.int (10)), some (.int (2)), none, none]) m168_1 rfl rfl ?_
    refine g_iload_n m168_2 rfl ?_
    refine g_istore_n (L2 := [some (.int (2)), some (.int (10)), some (.int (2)), some (.int (10)), none]) m168_3 rfl rfl ?_
    refine g_iload_n m168_4 rfl ?_
    refine h_if_eqF (xi := 10) (zi := 0) m168_5 rfl rfl (by decide) ?_
    refine g_iload_n m168_8 rfl ?_
    refine g_iload_n m168_9 rfl ?_
    refine g_irem (u := (2 : Int32)) m168_10 (by decide) (by decide) ?_
    refine g_istore (L2 := [some (.int (2)), some (.int (10)), some (.int (2)), some (.int (10)), some (.int (2))]) m168_11 rfl rfl ?_
    refine g_iload_n m168_13 rfl ?_
    refine g_istore_n (L2 := [some (.int (2)), some (.int (10)), some (.int (10)), some (.int (10)), some (.int (2))]) m168_14 rfl rfl ?_
    refine g_iload m168_15 rfl ?_
    refine g_istore_n (L2 := [some (.int (2)), some (.int (10)), some (.int (10)), some (.int (2)), some (.int (2))]) m168_17 rfl rfl ?_
    refine g_goto m168_18 ?_
    refine g_iload_n m168_4 rfl ?_
    refine h_if_eqF (xi := 2) (zi := 0) m168_5 rfl rfl (by decide) ?_
    refine g_iload_n m168_8 rfl ?_
    refine g_iload_n m168_9 rfl ?_
    refine g_irem (u := (0 : Int32)) m168_10 (by decide) (by decide) ?_
    refine g_istore (L2 := [some (.int (2)), some (.int (10)), some (.int (10)), some (.int (2)), some (.int (0))]) m168_11 rfl rfl ?_
    refine g_iload_n m168_13 rfl ?_
    refine g_istore_n (L2 := [some (.int (2)), some (.int (10)), some (.int (2)), some (.int (2)), some (.int (0))]) m168_14 rfl rfl ?_
    refine g_iload m168_15 rfl ?_
    refine g_istore_n (L2 := [some (.int (2)), some (.int (10)), some (.int (2)), some (.int (0)), some (.int (0))]) m168_17 rfl rfl ?_
    refine g_goto m168_18 ?_
    refine g_iload_n m168_4 rfl ?_
    refine h_if_eqT (xi := 0) (zi := 0) m168_5 rfl rfl (by decide) ?_
    refine g_iload_n m168_21 rfl ?_
    refine g_iret m168_22 rt_168 ?_
    exact hQ
  · skip
    refine gwl (L' := [some (.int 3), some (.int 10), none, none, none]) rfl ?_
    refine g_iload_n m168_0 rfl ?_
    refine g_istore_n (L2 := [some (.int (3)), some (.int (10)), some (.int (3)), none, none]) m168_1 rfl rfl ?_
    refine g_iload_n m168_2 rfl ?_
    refine g_istore_n (L2 := [some (.int (3)), some (.int (10)), some (.int (3)), some (.int (10)), none]) m168_3 rfl rfl ?_
    refine g_iload_n m168_4 rfl ?_
    refine h_if_eqF (xi := 10) (zi := 0) m168_5 rfl rfl (by decide) ?_
    refine g_iload_n m168_8 rfl ?_
    refine g_iload_n m168_9 rfl ?_
    refine g_irem (u := (3 : Int32)) m168_10 (by decide) (by decide) ?_
    refine g_istore (L2 := [some (.int (3)), some (.int (10)), some (.int (3)), some (.int (10)), some (.int (3))]) m168_11 rfl rfl ?_
    refine g_iload_n m168_13 rfl ?_
    refine g_istore_n (L2 := [some (.int (3)), some (.int (10)), some (.int (10)), some (.int (10)), some (.int (3))]) m168_14 rfl rfl ?_
    refine g_iload m168_15 rfl ?_
    refine g_istore_n (L2 := [some (.int (3)), some (.int (10)), some (.int (10)), some (.int (3)), some (.int (3))]) m168_17 rfl rfl ?_
    refine g_goto m168_18 ?_
    refine g_iload_n m168_4 rfl ?_
    refine h_if_eqF (xi := 3) (zi := 0) m168_5 rfl rfl (by decide) ?_
    refine g_iload_n m168_8 rfl ?_
    refine g_iload_n m168_9 rfl ?_
    refine g_irem (u := (1 : Int32)) m168_10 (by decide) (by decide) ?_
    refine g_istore (L2 := [some (.int (3)), some (.int (10)), some (.int (10)), some (.int (3)), some (.int (1))]) m168_11 rfl rfl ?_
    refine g_iload_n m168_13 rfl ?_
    refine g_istore_n (L2 := [some (.int (3)), some (.int (10)), some (.int (3)), some (.int (3)), some (.int (1))]) m168_14 rfl rfl ?_
    refine g_iload m168_15 rfl ?_
    refine g_istore_n (L2 := [some (.int (3)), some (.int (10)), some (.int (3)), some (.int (1)), some (.int (1))]) m168_17 rfl rfl ?_
    refine g_goto m168_18 ?_
    refine g_iload_n m168_4 rfl ?_
    refine h_if_eqF (xi := 1) (zi := 0) m168_5 rfl rfl (by decide) ?_
    refine g_iload_n m168_8 rfl ?_
    refine g_iload_n m168_9 rfl ?_
    refine g_irem (u := (0 : Int32)) m168_10 (by decide) (by decide) ?_
    refine g_istore (L2 := [some (.int (3)), some (.int (10)), some (.int (3)), some (.int (1)), some (.int (0))]) m168_11 rfl rfl ?_
    refine g_iload_n m168_13 rfl ?_
    refine g_istore_n (L2 := [some (.int (3)), some (.int (10)), some (.int (1)), some (.int (1)), some (.int (0))]) m168_14 rfl rfl ?_
    refine g_iload m168_15 rfl ?_
    refine g_istore_n (L2 := [some (.int (3)), some (.int (10)), some (.int (1)), some (.int (0)), some (.int (0))]) m168_17 rfl rfl ?_
    refine g_goto m168_18 ?_
    refine g_iload_n m168_4 rfl ?_
    refine h_if_eqT (xi := 0) (zi := 0) m168_5 rfl rfl (by decide) ?_
    refine g_iload_n m168_21 rfl ?_
    refine g_iret m168_22 rt_168 ?_
    exact hQ
  · skip
    refine gwl (L' := [some (.int 4), some (.int 10), none, none, none]) rfl ?_
    refine g_iload_n m168_0 rfl ?_
    refine g_istore_n (L2 := [some (.int (4)), some (.int (10)), some (.int (4)), none, none]) m168_1 rfl rfl ?_
    refine g_iload_n m168_2 rfl ?_
    refine g_istore_n (L2 := [some (.int (4)), some (.int (10)), some (.int (4)), some (.int (10)), none]) m168_3 rfl rfl ?_
    refine g_iload_n m168_4 rfl ?_
    refine h_if_eqF (xi := 10) (zi := 0) m168_5 rfl rfl (by decide) ?_
    refine g_iload_n m168_8 rfl ?_
    refine g_iload_n m168_9 rfl ?_
    refine g_irem (u := (4 : Int32)) m168_10 (by decide) (by decide) ?_
    refine g_istore (L2 := [some (.int (4)), some (.int (10)), some (.int (4)), some (.int (10)), some (.int (4))]) m168_11 rfl rfl ?_
    refine g_iload_n m168_13 rfl ?_
    refine g_istore_n (L2 := [some (.int (4)), some (.int (10)), some (.int (10)), some (.int (10)), some (.int (4))]) m168_14 rfl rfl ?_
    refine g_iload m168_15 rfl ?_
    refine g_istore_n (L2 := [some (.int (4)), some (.int (10)), some (.int (10)), some (.int (4)), some (.int (4))]) m168_17 rfl rfl ?_
    refine g_goto m168_18 ?_
    refine g_iload_n m168_4 rfl ?_
    refine h_if_eqF (xi := 4) (zi := 0) m168_5 rfl rfl (by decide) ?_
    refine g_iload_n m168_8 rfl ?_
    refine g_iload_n m168_9 rfl ?_
    refine g_irem (u := (2 : Int32)) m168_10 (by decide) (by decide) ?_
    refine g_istore (L2 := [some (.int (4)), some (.int (10)), some (.int (10)), some (.int (4)), some (.int (2))]) m168_11 rfl rfl ?_
    refine g_iload_n m168_13 rfl ?_
    refine g_istore_n (L2 := [some (.int (4)), some (.int (10)), some (.int (4)), some (.int (4)), some (.int (2))]) m168_14 rfl rfl ?_
    refine g_iload m168_15 rfl ?_
    refine g_istore_n (L2 := [some (.int (4)), some (.int (10)), some (.int (4)), some (.int (2)), some (.int (2))]) m168_17 rfl rfl ?_
    refine g_goto m168_18 ?_
    refine g_iload_n m168_4 rfl ?_
    refine h_if_eqF (xi := 2) (zi := 0) m168_5 rfl rfl (by decide) ?_
    refine g_iload_n m168_8 rfl ?_
    refine g_iload_n m168_9 rfl ?_
    refine g_irem (u := (0 : Int32)) m168_10 (by decide) (by decide) ?_
    refine g_istore (L2 := [some (.int (4)), some (.int (10)), some (.int (4)), some (.int (2)), some (.int (0))]) m168_11 rfl rfl ?_
    refine g_iload_n m168_13 rfl ?_
    refine g_istore_n (L2 := [some (.int (4)), some (.int (10)), some (.int (2)), some (.int (2)), some (.int (0))]) m168_14 rfl rfl ?_
    refine g_iload m168_15 rfl ?_
    refine g_istore_n (L2 := [some (.int (4)), some (.int (10)), some (.int (2)), some (.int (0)), some (.int (0))]) m168_17 rfl rfl ?_
    refine g_goto m168_18 ?_
    refine g_iload_n m168_4 rfl ?_
    refine h_if_eqT (xi := 0) (zi := 0) m168_5 rfl rfl (by decide) ?_
    refine g_iload_n m168_21 rfl ?_
    refine g_iret m168_22 rt_168 ?_
    exact hQ
  · skip
    refine gwl (L' := [some (.int 5), some (.int 10), none, none, none]) rfl ?_
    refine g_iload_n m168_0 rfl ?_
    refine g_istore_n (L2 := [some (.int (5)), some (.int (10)), some (.int (5)), none, none]) m168_1 rfl rfl ?_
    refine g_iload_n m168_2 rfl ?_
    refine g_istore_n (L2 := [some (.int (5)), some (.int (10)), some (.int (5)), some (.int (10)), none]) m168_3 rfl rfl ?_
    refine g_iload_n m168_4 rfl ?_
    refine h_if_eqF (xi := 10) (zi := 0) m168_5 rfl rfl (by decide) ?_
    refine g_iload_n m168_8 rfl ?_
    refine g_iload_n m168_9 rfl ?_
    refine g_irem (u := (5 : Int32)) m168_10 (by decide) (by decide) ?_
    refine g_istore (L2 := [some (.int (5)), some (.int (10)), some (.int (5)), some (.int (10)), some (.int (5))]) m168_11 rfl rfl ?_
    refine g_iload_n m168_13 rfl ?_
    refine g_istore_n (L2 := [some (.int (5)), some (.int (10)), some (.int (10)), some (.int (10)), some (.int (5))]) m168_14 rfl rfl ?_
    refine g_iload m168_15 rfl ?_
    refine g_istore_n (L2 := [some (.int (5)), some (.int (10)), some (.int (10)), some (.int (5)), some (.int (5))]) m168_17 rfl rfl ?_
    refine g_goto m168_18 ?_
    refine g_iload_n m168_4 rfl ?_
    refine h_if_eqF (xi := 5) (zi := 0) m168_5 rfl rfl (by decide) ?_
    refine g_iload_n m168_8 rfl ?_
    refine g_iload_n m168_9 rfl ?_
    refine g_irem (u := (0 : Int32)) m168_10 (by decide) (by decide) ?_
    refine g_istore (L2 := [some (.int (5)), some (.int (10)), some (.int (10)), some (.int (5)), some (.int (0))]) m168_11 rfl rfl ?_
    refine g_iload_n m168_13 rfl ?_
    refine g_istore_n (L2 := [some (.int (5)), some (.int (10)), some (.int (5)), some (.int (5)), some (.int (0))]) m168_14 rfl rfl ?_
    refine g_iload m168_15 rfl ?_
    refine g_istore_n (L2 := [some (.int (5)), some (.int (10)), some (.int (5)), some (.int (0)), some (.int (0))]) m168_17 rfl rfl ?_
    refine g_goto m168_18 ?_
    refine g_iload_n m168_4 rfl ?_
    refine h_if_eqT (xi := 0) (zi := 0) m168_5 rfl rfl (by decide) ?_
    refine g_iload_n m168_21 rfl ?_
    refine g_iret m168_22 rt_168 ?_
    exact hQ
  · skip
    refine gwl (L' := [some (.int 6), some (.int 10), none, none, none]) rfl ?_
    refine g_iload_n m168_0 rfl ?_
    refine g_istore_n (L2 := [some (.int (6)), some (.int (10)), some (.int (6)), none, none]) m168_1 rfl rfl ?_
    refine g_iload_n m168_2 rfl ?_
    refine g_istore_n (L2 := [some (.int (6)), some (.int (10)), some (.int (6)), some (.int (10)), none]) m168_3 rfl rfl ?_
    refine g_iload_n m168_4 rfl ?_
    refine h_if_eqF (xi := 10) (zi := 0) m168_5 rfl rfl (by decide) ?_
    refine g_iload_n m168_8 rfl ?_
    refine g_iload_n m168_9 rfl ?_
    refine g_irem (u := (6 : Int32)) m168_10 (by decide) (by decide) ?_
    refine g_istore (L2 := [some (.int (6)), some (.int (10)), some (.int (6)), some (.int (10)), some (.int (6))]) m168_11 rfl rfl ?_
    refine g_iload_n m168_13 rfl ?_
    refine g_istore_n (L2 := [some (.int (6)), some (.int (10)), some (.int (10)), some (.int (10)), some (.int (6))]) m168_14 rfl rfl ?_
    refine g_iload m168_15 rfl ?_
    refine g_istore_n (L2 := [some (.int (6)), some (.int (10)), some (.int (10)), some (.int (6)), some (.int (6))]) m168_17 rfl rfl ?_
    refine g_goto m168_18 ?_
    refine g_iload_n m168_4 rfl ?_
    refine h_if_eqF (xi := 6) (zi := 0) m168_5 rfl rfl (by decide) ?_
    refine g_iload_n m168_8 rfl ?_
    refine g_iload_n m168_9 rfl ?_
    refine g_irem (u := (4 : Int32)) m168_10 (by decide) (by decide) ?_
    refine g_istore (L2 := [some (.int (6)), some (.int (10)), some (.int (10)), some (.int (6)), some (.int (4))]) m168_11 rfl rfl ?_
    refine g_iload_n m168_13 rfl ?_
    refine g_istore_n (L2 := [some (.int (6)), some (.int (10)), some (.int (6)), some (.int (6)), some (.int (4))]) m168_14 rfl rfl ?_
    refine g_iload m168_15 rfl ?_
    refine g_istore_n (L2 := [some (.int (6)), some (.int (10)), some (.int (6)), some (.int (4)), some (.int (4))]) m168_17 rfl rfl ?_
    refine g_goto m168_18 ?_
    refine g_iload_n m168_4 rfl ?_
    refine h_if_eqF (xi := 4) (zi := 0) m168_5 rfl rfl (by decide) ?_
    refine g_iload_n m168_8 rfl ?_
    refine g_iload_n m168_9 rfl ?_
    refine g_irem (u := (2 : Int32)) m168_10 (by decide) (by decide) ?_
    refine g_istore (L2 := [some (.int (6)), some (.int (10)), some (.int (6)), some (.int (4)), some (.int (2))]) m168_11 rfl rfl ?_
    refine g_iload_n m168_13 rfl ?_
    refine g_istore_n (L2 := [some (.int (6)), some (.int (10)), some (.int (4)), some (.int (4)), some (.int (2))]) m168_14 rfl rfl ?_
    refine g_iload m168_15 rfl ?_
    refine g_istore_n (L2 := [some (.int (6)), some (.int (10)), some (.int (4)), some (.int (2)), some (.int (2))]) m168_17 rfl rfl ?_
    refine g_goto m168_18 ?_
    refine g_iload_n m168_4 rfl ?_
    refine h_if_eqF (xi := 2) (zi := 0) m168_5 rfl rfl (by decide) ?_
    refine g_iload_n m168_8 rfl ?_
    refine g_iload_n m168_9 rfl ?_
    refine g_irem (u := (0 : Int32)) m168_10 (by decide) (by decide) ?_
    refine g_istore (L2 := [some (.int (6)), some (.int (10)), some (.int (4)), some (.int (2)), some (.int (0))]) m168_11 rfl rfl ?_
    refine g_iload_n m168_13 rfl ?_
    refine g_istore_n (L2 := [some (.int (6)), some (.int (10)), some (.int (2)), some (.int (2)), some (.int (0))]) m168_14 rfl rfl ?_
    refine g_iload m168_15 rfl ?_
    refine g_istore_n (L2 := [some (.int (6)), some (.int (10)), some (.int (2)), some (.int (0)), some (.int (0))]) m168_17 rfl rfl ?_
    refine g_goto m168_18 ?_
    refine g_iload_n m168_4 rfl ?_
    refine h_if_eqT (xi := 0) (zi := 0) m168_5 rfl rfl (by decide) ?_
    refine g_iload_n m168_21 rfl ?_
    refine g_iret m168_22 rt_168 ?_
    exact hQ
  · skip
    refine gwl (L' := [some (.int 7), some (.int 10), none, none, none]) rfl ?_
    refine g_iload_n m168_0 rfl ?_
    refine g_istore_n (L2 := [some (.int (7)), some (.int (10)), some (.int (7)), none, none]) m168_1 rfl rfl ?_
    refine g_iload_n m168_2 rfl ?_
    refine g_istore_n (L2 := [some (.int (7)), some (.int (10)), some (.int (7)), some (.int (10)), none]) m168_3 rfl rfl ?_
    refine g_iload_n m168_4 rfl ?_
    refine h_if_eqF (xi := 10) (zi := 0) m168_5 rfl rfl (by decide) ?_
    refine g_iload_n m168_8 rfl ?_
    refine g_iload_n m168_9 rfl ?_
    refine g_irem (u := (7 : Int32)) m168_10 (by decide) (by decide) ?_
    refine g_istore (L2 := [some (.int (7)), some (.int (10)), some (.int (7)), some (.int (10)), some (.int (7))]) m168_11 rfl rfl ?_
    refine g_iload_n m168_13 rfl ?_
    refine g_istore_n (L2 := [some (.int (7)), some (.int (10)), some (.int (10)), some (.int (10)), some (.int (7))]) m168_14 rfl rfl ?_
    refine g_iload m168_15 rfl ?_
    refine g_istore_n (L2 := [some (.int (7)), some (.int (10)), some (.int (10)), some (.int (7)), some (.int (7))]) m168_17 rfl rfl ?_
    refine g_goto m168_18 ?_
    refine g_iload_n m168_4 rfl ?_
    refine h_if_eqF (xi := 7) (zi := 0) m168_5 rfl rfl (by decide) ?_
    refine g_iload_n m168_8 rfl ?_
    refine g_iload_n m168_9 rfl ?_
    refine g_irem (u := (3 : Int32)) m168_10 (by decide) (by decide) ?_
    refine g_istore (L2 := [some (.int (7)), some (.int (10)), some (.int (10)), some (.int (7)), some (.int (3))]) m168_11 rfl rfl ?_
    refine g_iload_n m168_13 rfl ?_
    refine g_istore_n (L2 := [some (.int (7)), some (.int (10)), some (.int (7)), some (.int (7)), some (.int (3))]) m168_14 rfl rfl ?_
    refine g_iload m168_15 rfl ?_
    refine g_istore_n (L2 := [some (.int (7)), some (.int (10)), some (.int (7)), some (.int (3)), some (.int (3))]) m168_17 rfl rfl ?_
    refine g_goto m168_18 ?_
    refine g_iload_n m168_4 rfl ?_
    refine h_if_eqF (xi := 3) (zi := 0) m168_5 rfl rfl (by decide) ?_
    refine g_iload_n m168_8 rfl ?_
    refine g_iload_n m168_9 rfl ?_
    refine g_irem (u := (1 : Int32)) m168_10 (by decide) (by decide) ?_
    refine g_istore (L2 := [some (.int (7)), some (.int (10)), some (.int (7)), some (.int (3)), some (.int (1))]) m168_11 rfl rfl ?_
    refine g_iload_n m168_13 rfl ?_
    refine g_istore_n (L2 := [some (.int (7)), some (.int (10)), some (.int (3)), some (.int (3)), some (.int (1))]) m168_14 rfl rfl ?_
    refine g_iload m168_15 rfl ?_
    refine g_istore_n (L2 := [some (.int (7)), some (.int (10)), some (.int (3)), some (.int (1)), some (.int (1))]) m168_17 rfl rfl ?_
    refine g_goto m168_18 ?_
    refine g_iload_n m168_4 rfl ?_
    refine h_if_eqF (xi := 1) (zi := 0) m168_5 rfl rfl (by decide) ?_
    refine g_iload_n m168_8 rfl ?_
    refine g_iload_n m168_9 rfl ?_
    refine g_irem (u := (0 : Int32)) m168_10 (by decide) (by decide) ?_
    refine g_istore (L2 := [some (.int (7)), some (.int (10)), some (.int (3)), some (.int (1)), some (.int (0))]) m168_11 rfl rfl ?_
    refine g_iload_n m168_13 rfl ?_
    refine g_istore_n (L2 := [some (.int (7)), some (.int (10)), some (.int (1)), some (.int (1)), some (.int (0))]) m168_14 rfl rfl ?_
    refine g_iload m168_15 rfl ?_
    refine g_istore_n (L2 := [some (.int (7)), some (.int (10)), some (.int (1)), some (.int (0)), some (.int (0))]) m168_17 rfl rfl ?_
    refine g_goto m168_18 ?_
    refine g_iload_n m168_4 rfl ?_
    refine h_if_eqT (xi := 0) (zi := 0) m168_5 rfl rfl (by decide) ?_
    refine g_iload_n m168_21 rfl ?_
    refine g_iret m168_22 rt_168 ?_
    exact hQ
  · skip
    refine gwl (L' := [some (.int 8), some (.int 10), none, none, none]) rfl ?_
    refine g_iload_n m168_0 rfl ?_
    refine g_istore_n (L2 := [some (.int (8)), some (.int (10)), some (.int (8)), none, none]) m168_1 rfl rfl ?_
    refine g_iload_n m168_2 rfl ?_
    refine g_istore_n (L2 := [some (.int (8)), some (.int (10)), some (.int (8)), some (.int (10)), none]) m168_3 rfl rfl ?_
    refine g_iload_n m168_4 rfl ?_
    refine h_if_eqF (xi := 10) (zi := 0) m168_5 rfl rfl (by decide) ?_
    refine g_iload_n m168_8 rfl ?_
    refine g_iload_n m168_9 rfl ?_
    refine g_irem (u := (8 : Int32)) m168_10 (by decide) (by decide) ?_
    refine g_istore (L2 := [some (.int (8)), some (.int (10)), some (.int (8)), some (.int (10)), some (.int (8))]) m168_11 rfl rfl ?_
    refine g_iload_n m168_13 rfl ?_
    refine g_istore_n (L2 := [some (.int (8)), some (.int (10)), some (.int (10)), some (.int (10)), some (.int (8))]) m168_14 rfl rfl ?_
    refine g_iload m168_15 rfl ?_
    refine g_istore_n (L2 := [some (.int (8)), some (.int (10)), some (.int (10)), some (.int (8)), some (.int (8))]) m168_17 rfl rfl ?_
    refine g_goto m168_18 ?_
    refine g_iload_n m168_4 rfl ?_
    refine h_if_eqF (xi := 8) (zi := 0) m168_5 rfl rfl (by decide) ?_
    refine g_iload_n m168_8 rfl ?_
    refine g_iload_n m168_9 rfl ?_
    refine g_irem (u := (2 : Int32)) m168_10 (by decide) (by decide) ?_
    refine g_istore (L2 := [some (.int (8)), some (.int (10)), some (.int (10)), some (.int (8)), some (.int (2))]) m168_11 rfl rfl ?_
    refine g_iload_n m168_13 rfl ?_
    refine g_istore_n (L2 := [some (.int (8)), some (.int (10)), some (.int (8)), some (.int (8)), some (.int (2))]) m168_14 rfl rfl ?_
    refine g_iload m168_15 rfl ?_
    refine g_istore_n (L2 := [some (.int (8)), some (.int (10)), some (.int (8)), some (.int (2)), some (.int (2))]) m168_17 rfl rfl ?_
    refine g_goto m168_18 ?_
    refine g_iload_n m168_4 rfl ?_
    refine h_if_eqF (xi := 2) (zi := 0) m168_5 rfl rfl (by decide) ?_
    refine g_iload_n m168_8 rfl ?_
    refine g_iload_n m168_9 rfl ?_
    refine g_irem (u := (0 : Int32)) m168_10 (by decide) (by decide) ?_
    refine g_istore (L2 := [some (.int (8)), some (.int (10)), some (.int (8)), some (.int (2)), some (.int (0))]) m168_11 rfl rfl ?_
    refine g_iload_n m168_13 rfl ?_
    refine g_istore_n (L2 := [some (.int (8)), some (.int (10)), some (.int (2)), some (.int (2)), some (.int (0))]) m168_14 rfl rfl ?_
    refine g_iload m168_15 rfl ?_
    refine g_istore_n (L2 := [some (.int (8)), some (.int (10)), some (.int (2)), some (.int (0)), some (.int (0))]) m168_17 rfl rfl ?_
    refine g_goto m168_18 ?_
    refine g_iload_n m168_4 rfl ?_
    refine h_if_eqT (xi := 0) (zi := 0) m168_5 rfl rfl (by decide) ?_
    refine g_iload_n m168_21 rfl ?_
    refine g_iret m168_22 rt_168 ?_
    exact hQ
  · skip
    refine gwl (L' := [some (.int 9), some (.int 10), none, none, none]) rfl ?_
    refine g_iload_n m168_0 rfl ?_
    refine g_istore_n (L2 := [some (.int (9)), some (.int (10)), some (.int (9)), none, none]) m168_1 rfl rfl ?_
    refine g_iload_n m168_2 rfl ?_
    refine g_istore_n (L2 := [some (.int (9)), some (.int (10)), some (.int (9)), some (.int (10)), none]) m168_3 rfl rfl ?_
    refine g_iload_n m168_4 rfl ?_
    refine h_if_eqF (xi := 10) (zi := 0) m168_5 rfl rfl (by decide) ?_
    refine g_iload_n m168_8 rfl ?_
    refine g_iload_n m168_9 rfl ?_
    refine g_irem (u := (9 : Int32)) m168_10 (by decide) (by decide) ?_
    refine g_istore (L2 := [some (.int (9)), some (.int (10)), some (.int (9)), some (.int (10)), some (.int (9))]) m168_11 rfl rfl ?_
    refine g_iload_n m168_13 rfl ?_
    refine g_istore_n (L2 := [some (.int (9)), some (.int (10)), some (.int (10)), some (.int (10)), some (.int (9))]) m168_14 rfl rfl ?_
    refine g_iload m168_15 rfl ?_
    refine g_istore_n (L2 := [some (.int (9)), some (.int (10)), some (.int (10)), some (.int (9)), some (.int (9))]) m168_17 rfl rfl ?_
    refine g_goto m168_18 ?_
    refine g_iload_n m168_4 rfl ?_
    refine h_if_eqF (xi := 9) (zi := 0) m168_5 rfl rfl (by decide) ?_
    refine g_iload_n m168_8 rfl ?_
    refine g_iload_n m168_9 rfl ?_
    refine g_irem (u := (1 : Int32)) m168_10 (by decide) (by decide) ?_
    refine g_istore (L2 := [some (.int (9)), some (.int (10)), some (.int (10)), some (.int (9)), some (.int (1))]) m168_11 rfl rfl ?_
    refine g_iload_n m168_13 rfl ?_
    refine g_istore_n (L2 := [some (.int (9)), some (.int (10)), some (.int (9)), some (.int (9)), some (.int (1))]) m168_14 rfl rfl ?_
    refine g_iload m168_15 rfl ?_
    refine g_istore_n (L2 := [some (.int (9)), some (.int (10)), some (.int (9)), some (.int (1)), some (.int (1))]) m168_17 rfl rfl ?_
    refine g_goto m168_18 ?_
    refine g_iload_n m168_4 rfl ?_
    refine h_if_eqF (xi := 1) (zi := 0) m168_5 rfl rfl (by decide) ?_
    refine g_iload_n m168_8 rfl ?_
    refine g_iload_n m168_9 rfl ?_
    refine g_irem (u := (0 : Int32)) m168_10 (by decide) (by decide) ?_
    refine g_istore (L2 := [some (.int (9)), some (.int (10)), some (.int (9)), some (.int (1)), some (.int (0))]) m168_11 rfl rfl ?_
    refine g_iload_n m168_13 rfl ?_
    refine g_istore_n (L2 := [some (.int (9)), some (.int (10)), some (.int (1)), some (.int (1)), some (.int (0))]) m168_14 rfl rfl ?_
    refine g_iload m168_15 rfl ?_
    refine g_istore_n (L2 := [some (.int (9)), some (.int (10)), some (.int (1)), some (.int (0)), some (.int (0))]) m168_17 rfl rfl ?_
    refine g_goto m168_18 ?_
    refine g_iload_n m168_4 rfl ?_
    refine h_if_eqT (xi := 0) (zi := 0) m168_5 rfl rfl (by decide) ?_
    refine g_iload_n m168_21 rfl ?_
    refine g_iret m168_22 rt_168 ?_
    exact hQ
  · skip
    refine gwl (L' := [some (.int 10), some (.int 10), none, none, none]) rfl ?_
    refine g_iload_n m168_0 rfl ?_
    refine g_istore_n (L2 := [some (.int (10)), some (.int (10)), some (.int (10)), none, none]) m168_1 rfl rfl ?_
    refine g_iload_n m168_2 rfl ?_
    refine g_istore_n (L2 := [some (.int (10)), some (.int (10)), some (.int (10)), some (.int (10)), none]) m168_3 rfl rfl ?_
    refine g_iload_n m168_4 rfl ?_
    refine h_if_eqF (xi := 10) (zi := 0) m168_5 rfl rfl (by decide) ?_
    refine g_iload_n m168_8 rfl ?_
    refine g_iload_n m168_9 rfl ?_
    refine g_irem (u := (0 : Int32)) m168_10 (by decide) (by decide) ?_
    refine g_istore (L2 := [some (.int (10)), some (.int (10)), some (.int (10)), some (.int (10)), some (.int (0))]) m168_11 rfl rfl ?_
    refine g_iload_n m168_13 rfl ?_
    refine g_istore_n (L2 := [some (.int (10)), some (.int (10)), some (.int (10)), some (.int (10)), some (.int (0))]) m168_14 rfl rfl ?_
    refine g_iload m168_15 rfl ?_
    refine g_istore_n (L2 := [some (.int (10)), some (.int (10)), some (.int (10)), some (.int (0)), some (.int (0))]) m168_17 rfl rfl ?_
    refine g_goto m168_18 ?_
    refine g_iload_n m168_4 rfl ?_
    refine h_if_eqT (xi := 0) (zi := 0) m168_5 rfl rfl (by decide) ?_
    refine g_iload_n m168_21 rfl ?_
    refine g_iret m168_22 rt_168 ?_
    exact hQ
set_option maxRecDepth 20000 in
set_option maxHeartbeats 40000000 in
theorem m_odds {a v b : Int32} {n : Nat} (hd : m 58 2 = nI n) (hn : n ≤ 8) (hX0 : TxOk (m 58) 0) (hX1 : TxOk (m 58) 1) (hWY : WF (vr (m 58))) (hE1 : (a.toInt < 0 ∨ (n : Int) ≤ a.toInt ∨ v.toInt < 0 ∨ 60 < v.toInt ∨ b.toInt < 0 ∨ 1 < b.toInt) → Q (some (.int (-1000000001))) (H (ers m 1) ln N)) (hY0 : ∀ i k : Nat, a = nI i → i < n → v = nI k → k ≤ 60 → b = nI 0 → ∀ m2, FrP m m2 → Q (some (.int (nI ((cntF (fun s => moreN (rkF (m 58)) (rbF (m 58)) (upm (vr (m 58)) 5 i (nI s)) k i) 10) / Nat.gcd (cntF (fun s => moreN (rkF (m 58)) (rbF (m 58)) (upm (vr (m 58)) 5 i (nI s)) k i) 10) 10)))) (H m2 ln N)) (hY1 : ∀ i k : Nat, a = nI i → i < n → v = nI k → k ≤ 60 → b = nI 1 → ∀ m2, FrP m m2 → Q (some (.int (nI (10 / Nat.gcd (cntF (fun s => moreN (rkF (m 58)) (rbF (m 58)) (upm (vr (m 58)) 5 i (nI s)) k i) 10) 10)))) (H m2 ln N))  : WP xs (d + 818) 169 0 0 [.ref (89), .int (a), .int (v), .int (b)] (H m ln N) Q := by
  refine wp_x mx_169 (L := [some (.ref (89)), some (.int (a)), some (.int (v)), some (.int (b)), none, none]) (Nat.le_of_ble_eq_true rfl) rfl ?_
  have hnn : nOf (vr (m 58)) = n := by unfold nOf; rw [show (vr (m 58)) 0 10 = nI n from hd]; exact nI_clamp (by omega)
  refine g_aload_n m169_0 rfl ?_
  refine g_iload_n m169_1 rfl ?_
  refine h_cv (k := 57) (p := 89) (args := [.int (a)]) (rest := []) m169_2 cn_113 (Nat.le_of_ble_eq_true rfl) rfl rfl rfl (t_57 _ _) (Nat.le_of_ble_eq_true rfl) ?_
  refine c_isDinerM hd hn (fun ja ea a_5 => ?_) (fun a_5 => ?_)
  · subst ea
    refine gwr ?_
    refine h_if_eqF (xi := 1) (zi := 0) m169_5 rfl rfl (by decide) ?_
    refine g_iload_n m169_8 rfl ?_
    refine g_iconst m169_9 ?_
    refine g_bipush m169_10 ?_
    refine g_cs (args := [.int (v), .int (0), .int (60)]) (rest := []) 0 (Or.inl rfl) m169_12 (Nat.le_of_ble_eq_true rfl) rfl rfl (Nat.le_of_ble_eq_true rfl) ?_
    refine c_in (A := 0) (B := 60) rfl rfl (by decide) (fun jv ev a_6 a_6' => ?_) (fun a_6 => ?_)
    · subst ev
      refine gwr ?_
      refine h_if_eqF (xi := 1) (zi := 0) m169_15 rfl rfl (by decide) ?_
      refine g_iload_n m169_18 rfl ?_
      refine g_iconst m169_19 ?_
      refine g_iconst m169_20 ?_
      refine g_cs (args := [.int (b), .int (0), .int (1)]) (rest := []) 0 (Or.inl rfl) m169_21 (Nat.le_of_ble_eq_true rfl) rfl rfl (Nat.le_of_ble_eq_true rfl) ?_
      refine c_in (A := 0) (B := 1) rfl rfl (by decide) (fun jb eb a_7 a_7' => ?_) (fun a_7 => ?_)
      · subst eb
        refine gwr ?_
        refine h_if_neF (xi := 1) (zi := 0) m169_24 rfl rfl (by decide) ?_
        refine g_iconst m169_34 ?_
        refine g_istore (L2 := [some (.ref (89)), some (.int (nI (ja))), some (.int (nI (jv))), some (.int (nI (jb))), some (.int (0)), none]) m169_35 rfl rfl ?_
        refine g_iconst m169_37 ?_
        refine g_istore (L2 := [some (.ref (89)), some (.int (nI (ja))), some (.int (nI (jv))), some (.int (nI (jb))), some (.int (0)), some (.int (0))]) m169_38 rfl rfl ?_
        have hb10 : ∀ q, cntF (fun s => moreN (rkF (m 58)) (rbF (m 58)) (upm (vr (m 58)) 5 ja (nI s)) jv ja) q ≤ q := cntF_le _
        have hp : 2 ^ ja < 2 ^ 8 := Nat.pow_lt_pow_right (by decide) (by omega)
        have key : ∀ (r : Nat) (s : Nat) (m2 : MW), s + r = 10 → FrP m m2 → gw xs (WP xs (d + 817)) 169 Q 40 [some (.ref (89)), some (.int (nI (ja))), some (.int (nI (jv))), some (.int (nI (jb))), some (.int (nI (cntF (fun s => moreN (rkF (m 58)) (rbF (m 58)) (upm (vr (m 58)) 5 ja (nI s)) jv ja) s))), some (.int (nI (s)))] [] (H m2 ln N) 0 0 := by
          intro r
          induction r with
          | zero =>
            intro s m2 hs hF
            obtain rfl : s = 10 := by omega
            refine g_iload m169_40 rfl ?_
            refine g_bipush m169_42 ?_
            refine h_ic_gtT (xi := ((10 : Nat) : Int)) (zi := 9) m169_44 (nI_toInt (by omega)) rfl (by omega) ?_
            refine g_iload m169_72 rfl ?_
            refine g_bipush m169_74 ?_
            refine g_cs (args := [.int (nI (cntF (fun s => moreN (rkF (m 58)) (rbF (m 58)) (upm (vr (m 58)) 5 ja (nI s)) jv ja) 10)), .int (10)]) (rest := []) 0 (Or.inl rfl) m169_76 (Nat.le_of_ble_eq_true rfl) rfl rfl (Nat.le_of_ble_eq_true rfl) ?_
            refine c_divisor (hb10 10) ?_
            have hg1 : 0 < Nat.gcd (cntF (fun s => moreN (rkF (m 58)) (rbF (m 58)) (upm (vr (m 58)) 5 ja (nI s)) jv ja) 10) 10 := Nat.gcd_pos_of_pos_right _ (by decide)
            have hg2 : Nat.gcd (cntF (fun s => moreN (rkF (m 58)) (rbF (m 58)) (upm (vr (m 58)) 5 ja (nI s)) jv ja) 10) 10 ≤ 10 := Nat.gcd_le_right _ (by decide)
            refine gwr ?_
            refine g_istore (L2 := [some (.ref (89)), some (.int (nI (ja))), some (.int (nI (jv))), some (.int (nI (jb))), some (.int (nI (cntF (fun s => moreN (rkF (m 58)) (rbF (m 58)) (upm (vr (m 58)) 5 ja (nI s)) jv ja) 10))), some (.int (nI (Nat.gcd (cntF (fun s => moreN (rkF (m 58)) (rbF (m 58)) (upm (vr (m 58)) 5 ja (nI s)) jv ja) 10) 10)))]) m169_79 rfl rfl ?_
            refine g_iload_n m169_81 rfl ?_
            refine h_if_ne (xi := ((jb : Nat) : Int)) (zi := 0) m169_82 (nI_toInt (by omega)) rfl (fun c1 => ?_) (fun c1 => ?_)
            · skip
              refine g_iload m169_85 rfl ?_
              refine g_iload m169_87 rfl ?_
              refine g_idiv (u := nI ((cntF (fun s => moreN (rkF (m 58)) (rbF (m 58)) (upm (vr (m 58)) 5 ja (nI s)) jv ja) 10) / (Nat.gcd (cntF (fun s => moreN (rkF (m 58)) (rbF (m 58)) (upm (vr (m 58)) 5 ja (nI s)) jv ja) 10) 10))) m169_89 (nI_ne0 hg1 (by omega)) (pk_div (a := (cntF (fun s => moreN (rkF (m 58)) (rbF (m 58)) (upm (vr (m 58)) 5 ja (nI s)) jv ja) 10)) (d := (Nat.gcd (cntF (fun s => moreN (rkF (m 58)) (rbF (m 58)) (upm (vr (m 58)) 5 ja (nI s)) jv ja) 10) 10)) (by have := hb10 10; omega) hg1 (by omega)) ?_
              refine g_goto m169_90 ?_
              refine g_iret m169_98 rt_169 ?_
              obtain rfl : jb = 0 := by omega
              exact hY0 ja jv rfl (by omega) rfl (by omega) rfl m2 hF
            · skip
              refine g_bipush m169_93 ?_
              refine g_iload m169_95 rfl ?_
              refine g_idiv (u := nI (10 / (Nat.gcd (cntF (fun s => moreN (rkF (m 58)) (rbF (m 58)) (upm (vr (m 58)) 5 ja (nI s)) jv ja) 10) 10))) m169_97 (nI_ne0 hg1 (by omega)) (pk_div (a := 10) (d := (Nat.gcd (cntF (fun s => moreN (rkF (m 58)) (rbF (m 58)) (upm (vr (m 58)) 5 ja (nI s)) jv ja) 10) 10)) (by have := hb10 10; omega) hg1 (by omega)) ?_
              refine g_iret m169_98 rt_169 ?_
              obtain rfl : jb = 1 := by omega
              exact hY1 ja jv rfl (by omega) rfl (by omega) rfl m2 hF
          | succ r ih =>
            intro s m2 hs hF
            refine g_iload m169_40 rfl ?_
            refine g_bipush m169_42 ?_
            refine h_ic_gtF (xi := ((s : Nat) : Int)) (zi := 9) m169_44 (nI_toInt (by omega)) rfl (by omega) ?_
            refine g_iload m169_47 rfl ?_
            refine g_aload_n m169_49 rfl ?_
            refine g_iconst m169_50 ?_
            refine g_iload_n m169_51 rfl ?_
            refine g_ishl (u := nI (2 ^ ja)) m169_52 (bit_1 ja (by omega)) ?_
            refine g_iload m169_53 rfl ?_
            refine g_iload_n m169_55 rfl ?_
            refine h_cv (k := 57) (p := 89) (args := [.int (nI (2 ^ ja)), .int (nI (s)), .int (nI (jv))]) (rest := [.int (nI (cntF (fun s => moreN (rkF (m 58)) (rbF (m 58)) (upm (vr (m 58)) 5 ja (nI s)) jv ja) s))]) m169_56 cn_155 (Nat.le_of_ble_eq_true rfl) rfl rfl rfl (t_57 _ _) (Nat.le_of_ble_eq_true rfl) ?_
            have e58 : m2 58 = m 58 := hF.row
            refine c_fedS (n := n) (a := 2 ^ ja) (s := s) (k := jv) (by rw [e58]; exact hd) hn (by rw [e58]; exact hX0) (by rw [e58]; exact hX1) (by rw [e58]; exact hWY) (by omega) (by omega) (by omega) (fun m3 hF2 => ?_)
            rw [e58]
            have hF3 := hF.tr hF2
            refine gwr ?_
            refine g_iload_n m169_59 rfl ?_
            refine g_ishr m169_60 rfl ?_
            refine g_iconst m169_61 ?_
            have h256 : (bitsF (moreN (rkF (m 58)) (rbF (m 58)) (shamX (vr (m 58)) (2 ^ ja) (nI s)) jv) n) < 256 := Nat.lt_of_lt_of_le (bitsF_lt _ n) (show 2 ^ n ≤ 2 ^ 8 from Nat.pow_le_pow_right (by decide) hn)
            refine g_iand (u := if Nat.testBit (bitsF (moreN (rkF (m 58)) (rbF (m 58)) (shamX (vr (m 58)) (2 ^ ja) (nI s)) jv) n) ja = true then 1 else 0) m169_62 (bit_sh ja (by omega) _ h256) ?_
            rw [bitsF_t _ _ _ (show ja < n by omega), shamX_e hnn (show ja < n by omega)]
            by_cases hb : (fun s => moreN (rkF (m 58)) (rbF (m 58)) (upm (vr (m 58)) 5 ja (nI s)) jv ja) s = true
            · rw [if_pos hb]
              have ec := cnt_y (p := (fun s => moreN (rkF (m 58)) (rbF (m 58)) (upm (vr (m 58)) 5 ja (nI s)) jv ja)) (q := s) hb
              refine g_iadd (u := nI ((cntF (fun s => moreN (rkF (m 58)) (rbF (m 58)) (upm (vr (m 58)) 5 ja (nI s)) jv ja) s) + 1)) m169_63 (nI_add (cntF (fun s => moreN (rkF (m 58)) (rbF (m 58)) (upm (vr (m 58)) 5 ja (nI s)) jv ja) s) 1) ?_
              refine g_istore (L2 := [some (.ref (89)), some (.int (nI (ja))), some (.int (nI (jv))), some (.int (nI (jb))), some (.int (nI ((cntF (fun s => moreN (rkF (m 58)) (rbF (m 58)) (upm (vr (m 58)) 5 ja (nI s)) jv ja) s) + 1))), some (.int (nI (s)))]) m169_64 rfl rfl ?_
              refine g_iinc (L2 := [some (.ref (89)), some (.int (nI (ja))), some (.int (nI (jv))), some (.int (nI (jb))), some (.int (nI ((cntF (fun s => moreN (rkF (m 58)) (rbF (m 58)) (upm (vr (m 58)) 5 ja (nI s)) jv ja) s) + 1))), some (.int (nI (s + 1)))]) m169_66 rfl (nI_1 _) rfl rfl ?_
              refine g_goto m169_69 ?_
              have h9 := ih (s + 1) _ (by omega) hF3
              rw [ec] at h9
              exact h9
            · rw [if_neg hb]
              have ec := cnt_n (p := (fun s => moreN (rkF (m 58)) (rbF (m 58)) (upm (vr (m 58)) 5 ja (nI s)) jv ja)) (q := s) hb
              refine g_iadd (u := nI ((cntF (fun s => moreN (rkF (m 58)) (rbF (m 58)) (upm (vr (m 58)) 5 ja (nI s)) jv ja) s) + 0)) m169_63 (nI_add (cntF (fun s => moreN (rkF (m 58)) (rbF (m 58)) (upm (vr (m 58)) 5 ja (nI s)) jv ja) s) 0) ?_
              refine g_istore (L2 := [some (.ref (89)), some (.int (nI (ja))), some (.int (nI (jv))), some (.int (nI (jb))), some (.int (nI ((cntF (fun s => moreN (rkF (m 58)) (rbF (m 58)) (upm (vr (m 58)) 5 ja (nI s)) jv ja) s) + 0))), some (.int (nI (s)))]) m169_64 rfl rfl ?_
              refine g_iinc (L2 := [some (.ref (89)), some (.int (nI (ja))), some (.int (nI (jv))), some (.int (nI (jb))), some (.int (nI ((cntF (fun s => moreN (rkF (m 58)) (rbF (m 58)) (upm (vr (m 58)) 5 ja (nI s)) jv ja) s) + 0))), some (.int (nI (s + 1)))]) m169_66 rfl (nI_1 _) rfl rfl ?_
              refine g_goto m169_69 ?_
              have h9 := ih (s + 1) _ (by omega) hF3
              rw [ec] at h9
              exact h9
        exact key 10 0 m (by omega) FrP.rf
      · skip
        refine gwr ?_
        refine h_if_neT (xi := 0) (zi := 0) m169_24 rfl rfl (by decide) ?_
        refine g_aload_n m169_27 rfl ?_
        refine g_ldci m169_28 rfl ?_
        refine h_cv (k := 57) (p := 89) (args := [.int (-1000000001)]) (rest := []) m169_30 cn_108 (Nat.le_of_ble_eq_true rfl) rfl rfl rfl (t_57 _ _) (Nat.le_of_ble_eq_true rfl) ?_
        refine c_errs (e := 1) (by decide) (by decide) (by decide) ?_
        refine gwr ?_
        refine g_iret m169_33 rt_169 ?_
        exact hE1 (by omega)
    · skip
      refine gwr ?_
      refine h_if_eqT (xi := 0) (zi := 0) m169_15 rfl rfl (by decide) ?_
      refine g_aload_n m169_27 rfl ?_
      refine g_ldci m169_28 rfl ?_
      refine h_cv (k := 57) (p := 89) (args := [.int (-1000000001)]) (rest := []) m169_30 cn_108 (Nat.le_of_ble_eq_true rfl) rfl rfl rfl (t_57 _ _) (Nat.le_of_ble_eq_true rfl) ?_
      refine c_errs (e := 1) (by decide) (by decide) (by decide) ?_
      refine gwr ?_
      refine g_iret m169_33 rt_169 ?_
      exact hE1 (by omega)
  · skip
    refine gwr ?_
    refine h_if_eqT (xi := 0) (zi := 0) m169_5 rfl rfl (by decide) ?_
    refine g_aload_n m169_27 rfl ?_
    refine g_ldci m169_28 rfl ?_
    refine h_cv (k := 57) (p := 89) (args := [.int (-1000000001)]) (rest := []) m169_30 cn_108 (Nat.le_of_ble_eq_true rfl) rfl rfl rfl (t_57 _ _) (Nat.le_of_ble_eq_true rfl) ?_
    refine c_errs (e := 1) (by decide) (by decide) (by decide) ?_
    refine gwr ?_
    refine g_iret m169_33 rt_169 ?_
    exact hE1 (by omega)
set_option maxRecDepth 20000 in
set_option maxHeartbeats 40000000 in
theorem m_cramps {a v : Int32} {n : Nat} (hd : m 58 2 = nI n) (hn : n ≤ 8) (hX0 : TxOk (m 58) 0) (hX1 : TxOk (m 58) 1) (hWY : WF (vr (m 58))) (hE1 : (a.toInt < 0 ∨ (n : Int) ≤ a.toInt ∨ v.toInt < 0 ∨ 60 < v.toInt) → Q (some (.int (-1000000001))) (H (ers m 1) ln N)) (hY : ∀ i k : Nat, a = nI i → i < n → v = nI k → k ≤ 60 → ∀ m2, FrP m m2 → Q (some (.int (nI (cntF (fun q => decide (50 ≤ (stepN (rkF (m 58)) (rbF (m 58)) (vr (m 58)) (q + 1) 4 i).toInt)) k)))) (H m2 ln N)) : WP xs (d + 818) 165 0 0 [.ref (89), .int (a), .int (v)] (H m ln N) Q := by
  refine wp_x mx_165 (L := [some (.ref (89)), some (.int (a)), some (.int (v)), none, none]) (Nat.le_of_ble_eq_true rfl) rfl ?_
  refine g_aload_n m165_0 rfl ?_
  refine g_iload_n m165_1 rfl ?_
  refine h_cv (k := 57) (p := 89) (args := [.int (a)]) (rest := []) m165_2 cn_113 (Nat.le_of_ble_eq_true rfl) rfl rfl rfl (t_57 _ _) (Nat.le_of_ble_eq_true rfl) ?_
  refine c_isDinerM hd hn (fun ja ea a_8 => ?_) (fun a_8 => ?_)
  · subst ea
    refine gwr ?_
    refine h_if_eqF (xi := 1) (zi := 0) m165_5 rfl rfl (by decide) ?_
    refine g_iload_n m165_8 rfl ?_
    refine g_iconst m165_9 ?_
    refine g_bipush m165_10 ?_
    refine g_cs (args := [.int (v), .int (0), .int (60)]) (rest := []) 0 (Or.inl rfl) m165_12 (Nat.le_of_ble_eq_true rfl) rfl rfl (Nat.le_of_ble_eq_true rfl) ?_
    refine c_in (A := 0) (B := 60) rfl rfl (by decide) (fun jv ev a_9 a_9' => ?_) (fun a_9 => ?_)
    · subst ev
      refine gwr ?_
      refine h_if_neF (xi := 1) (zi := 0) m165_15 rfl rfl (by decide) ?_
      refine g_iconst m165_25 ?_
      refine g_istore_n (L2 := [some (.ref (89)), some (.int (nI (ja))), some (.int (nI (jv))), some (.int (0)), none]) m165_26 rfl rfl ?_
      refine g_aload_n m165_27 rfl ?_
      refine g_aload_n m165_28 rfl ?_
      refine h_gfR (c := 90) (k := 57) (p := 89) m165_29 rfl (t_57 _ _) rfl (Nat.le_of_ble_eq_true rfl) ?_
      refine g_aload_n m165_32 rfl ?_
      refine h_gfR (c := 92) (k := 57) (p := 89) m165_33 rfl (t_57 _ _) rfl (Nat.le_of_ble_eq_true rfl) ?_
      refine h_cv (k := 57) (p := 89) (args := [.ref (90), .ref (92)]) (rest := []) m165_36 cn_110 (Nat.le_of_ble_eq_true rfl) rfl rfl rfl (t_57 _ _) (Nat.le_of_ble_eq_true rfl) ?_
      refine c_moveRow (k1 := 58) (k2 := 60) rfl rfl (t_58 _ _) (t_60 _ _) (by decide) ?_
      have h58 : (upmR m 60 (m 58)) 58 = m 58 := thR_58 _ _
      have hAt := thR_A m
      have hX0t : TxOk ((upmR m 60 (m 58)) 58) 0 := by rw [h58]; exact hX0
      have hX1t : TxOk ((upmR m 60 (m 58)) 58) 1 := by rw [h58]; exact hX1
      refine gwr0 ?_
      refine g_iconst m165_39 ?_
      refine g_istore (L2 := [some (.ref (89)), some (.int (nI (ja))), some (.int (nI (jv))), some (.int (0)), some (.int (0))]) m165_40 rfl rfl ?_
      have key : ∀ (r : Nat) (q : Nat) (m2 : MW), q + r = jv → AtY (upmR m 60 (m 58)) (stepN (rkF (m 58)) (rbF (m 58)) (vr (m 58)) q) m2 → gw xs (WP xs (d + 817)) 165 Q 42 [some (.ref (89)), some (.int (nI (ja))), some (.int (nI (jv))), some (.int (nI (cntF (fun q => decide (50 ≤ (stepN (rkF (m 58)) (rbF (m 58)) (vr (m 58)) (q + 1) 4 ja).toInt)) q))), some (.int (nI (q)))] [] (H m2 ln N) 0 0 := by
        intro r
        induction r with
        | zero =>
          intro q m2 hq hA
          obtain rfl : q = jv := by omega
          refine g_iload m165_42 rfl ?_
          refine g_iload_n m165_44 rfl ?_
          refine h_ic_geT (xi := ((q : Nat) : Int)) (zi := ((q : Nat) : Int)) m165_45 (nI_toInt (by omega)) (nI_toInt (by omega)) (by omega) ?_
          refine g_aload_n m165_77 rfl ?_
          refine g_aload_n m165_78 rfl ?_
          refine h_gfR (c := 92) (k := 57) (p := 89) m165_79 rfl (t_57 _ _) rfl (Nat.le_of_ble_eq_true rfl) ?_
          refine g_aload_n m165_82 rfl ?_
          refine h_gfR (c := 90) (k := 57) (p := 89) m165_83 rfl (t_57 _ _) rfl (Nat.le_of_ble_eq_true rfl) ?_
          refine h_cv (k := 57) (p := 89) (args := [.ref (92), .ref (90)]) (rest := []) m165_86 cn_110 (Nat.le_of_ble_eq_true rfl) rfl rfl rfl (t_57 _ _) (Nat.le_of_ble_eq_true rfl) ?_
          refine c_moveRow (k1 := 60) (k2 := 58) rfl rfl (t_60 _ _) (t_58 _ _) (by decide) ?_
          have hFb := FrP.back hA
          refine gwr0 ?_
          refine g_iload_n m165_89 rfl ?_
          refine g_iret m165_90 rt_165 ?_
          exact hY ja q rfl (by omega) rfl (by omega) _ hFb
        | succ r ih =>
          intro q m2 hq hA
          refine g_iload m165_42 rfl ?_
          refine g_iload_n m165_44 rfl ?_
          refine h_ic_geF (xi := ((q : Nat) : Int)) (zi := ((jv : Nat) : Int)) m165_45 (nI_toInt (by omega)) (nI_toInt (by omega)) (by omega) ?_
          refine g_aload_n m165_48 rfl ?_
          refine h_cv (k := 57) (p := 89) (args := []) (rest := []) m165_49 cn_145 (Nat.le_of_ble_eq_true rfl) rfl rfl rfl (t_57 _ _) (Nat.le_of_ble_eq_true rfl) ?_
          refine c_oneStep hA hX0t hX1t (WF_stepN hWY q) (fun m3 hA3 => ?_)
          rw [h58] at hA3
          have hA3 : AtY (upmR m 60 (m 58)) (stepN (rkF (m 58)) (rbF (m 58)) (vr (m 58)) (q + 1)) m3 := hA3
          refine gwr0 ?_
          refine g_iload_n m165_52 rfl ?_
          refine g_aload_n m165_53 rfl ?_
          refine g_iload_n m165_54 rfl ?_
          refine g_iconst m165_55 ?_
          refine h_cv (k := 57) (p := 89) (args := [.int (nI (ja)), .int (2)]) (rest := [.int (nI (cntF (fun q => decide (50 ≤ (stepN (rkF (m 58)) (rbF (m 58)) (vr (m 58)) (q + 1) 4 ja).toInt)) q))]) m165_56 cn_111 (Nat.le_of_ble_eq_true rfl) rfl rfl rfl (t_57 _ _) (Nat.le_of_ble_eq_true rfl) ?_
          refine c_its (w := 2) (by omega) (by decide) ?_
          rw [hA3.rd (i := ja) (c := 2) (by omega) (by decide)]
          refine gwr ?_
          refine g_bipush m165_59 ?_
          refine h_ic_lt (xi := _) (zi := 50) m165_61 rfl rfl (fun c1 => ?_) (fun c1 => ?_)
          · skip
            refine g_iconst m165_68 ?_
            refine g_iadd (u := nI ((cntF (fun q => decide (50 ≤ (stepN (rkF (m 58)) (rbF (m 58)) (vr (m 58)) (q + 1) 4 ja).toInt)) q) + 0)) m165_69 (nI_add (cntF (fun q => decide (50 ≤ (stepN (rkF (m 58)) (rbF (m 58)) (vr (m 58)) (q + 1) 4 ja).toInt)) q) 0) ?_
            refine g_istore_n (L2 := [some (.ref (89)), some (.int (nI (ja))), some (.int (nI (jv))), some (.int (nI ((cntF (fun q => decide (50 ≤ (stepN (rkF (m 58)) (rbF (m 58)) (vr (m 58)) (q + 1) 4 ja).toInt)) q) + 0))), some (.int (nI (q)))]) m165_70 rfl rfl ?_
            refine g_iinc (L2 := [some (.ref (89)), some (.int (nI (ja))), some (.int (nI (jv))), some (.int (nI ((cntF (fun q => decide (50 ≤ (stepN (rkF (m 58)) (rbF (m 58)) (vr (m 58)) (q + 1) 4 ja).toInt)) q) + 0))), some (.int (nI (q + 1)))]) m165_71 rfl (nI_1 _) rfl rfl ?_
            refine g_goto m165_74 ?_
            have hc8 :  ((stepN (rkF (m 58)) (rbF (m 58)) (vr (m 58)) (q + 1) 4 ja).toInt < 50) := c1
            have ec := cnt_n (p := (fun q => decide (50 ≤ (stepN (rkF (m 58)) (rbF (m 58)) (vr (m 58)) (q + 1) 4 ja).toInt))) (q := q) (by rw [decide_eq_true_eq]; omega)
            have h9 := ih (q + 1) _ (by omega) hA3
            rw [ec] at h9
            exact h9
          · skip
            refine g_iconst m165_64 ?_
            refine g_goto m165_65 ?_
            refine g_iadd (u := nI ((cntF (fun q => decide (50 ≤ (stepN (rkF (m 58)) (rbF (m 58)) (vr (m 58)) (q + 1) 4 ja).toInt)) q) + 1)) m165_69 (nI_add (cntF (fun q => decide (50 ≤ (stepN (rkF (m 58)) (rbF (m 58)) (vr (m 58)) (q + 1) 4 ja).toInt)) q) 1) ?_
            refine g_istore_n (L2 := [some (.ref (89)), some (.int (nI (ja))), some (.int (nI (jv))), some (.int (nI ((cntF (fun q => decide (50 ≤ (stepN (rkF (m 58)) (rbF (m 58)) (vr (m 58)) (q + 1) 4 ja).toInt)) q) + 1))), some (.int (nI (q)))]) m165_70 rfl rfl ?_
            refine g_iinc (L2 := [some (.ref (89)), some (.int (nI (ja))), some (.int (nI (jv))), some (.int (nI ((cntF (fun q => decide (50 ≤ (stepN (rkF (m 58)) (rbF (m 58)) (vr (m 58)) (q + 1) 4 ja).toInt)) q) + 1))), some (.int (nI (q + 1)))]) m165_71 rfl (nI_1 _) rfl rfl ?_
            refine g_goto m165_74 ?_
            have hc8 : ¬ ((stepN (rkF (m 58)) (rbF (m 58)) (vr (m 58)) (q + 1) 4 ja).toInt < 50) := c1
            have ec := cnt_y (p := (fun q => decide (50 ≤ (stepN (rkF (m 58)) (rbF (m 58)) (vr (m 58)) (q + 1) 4 ja).toInt))) (q := q) (decide_eq_true (by omega))
            have h9 := ih (q + 1) _ (by omega) hA3
            rw [ec] at h9
            exact h9
      exact key jv 0 _ (by omega) hAt
    · skip
      refine gwr ?_
      refine h_if_neT (xi := 0) (zi := 0) m165_15 rfl rfl (by decide) ?_
      refine g_aload_n m165_18 rfl ?_
      refine g_ldci m165_19 rfl ?_
      refine h_cv (k := 57) (p := 89) (args := [.int (-1000000001)]) (rest := []) m165_21 cn_108 (Nat.le_of_ble_eq_true rfl) rfl rfl rfl (t_57 _ _) (Nat.le_of_ble_eq_true rfl) ?_
      refine c_errs (e := 1) (by decide) (by decide) (by decide) ?_
      refine gwr ?_
      refine g_iret m165_24 rt_165 ?_
      exact hE1 (by omega)
  · skip
    refine gwr ?_
    refine h_if_eqT (xi := 0) (zi := 0) m165_5 rfl rfl (by decide) ?_
    refine g_aload_n m165_18 rfl ?_
    refine g_ldci m165_19 rfl ?_
    refine h_cv (k := 57) (p := 89) (args := [.int (-1000000001)]) (rest := []) m165_21 cn_108 (Nat.le_of_ble_eq_true rfl) rfl rfl rfl (t_57 _ _) (Nat.le_of_ble_eq_true rfl) ?_
    refine c_errs (e := 1) (by decide) (by decide) (by decide) ?_
    refine gwr ?_
    refine g_iret m165_24 rt_165 ?_
    exact hE1 (by omega)
set_option maxRecDepth 20000 in
set_option maxHeartbeats 40000000 in
theorem m_meals {v : Int32} {n : Nat} (hd : m 58 2 = nI n) (hn : n ≤ 8) (hX0 : TxOk (m 58) 0) (hX1 : TxOk (m 58) 1) (hWY : WF (vr (m 58))) (hE1 : (v.toInt < 0 ∨ 60 < v.toInt) → Q (some (.int (-1000000001))) (H (ers m 1) ln N)) (hY : ∀ q : Nat, v = nI q → q ≤ 60 → ∀ m2, FrP m m2 → Q (some (.int (sumF ((stepN (rkF (m 58)) (rbF (m 58)) (vr (m 58)) q) 6) n - sumF ((vr (m 58)) 6) n))) (H m2 ln N)) : WP xs (d + 817) 167 0 0 [.ref (89), .int (v)] (H m ln N) Q := by
  refine wp_x mx_167 (L := [some (.ref (89)), some (.int (v)), none, none]) (Nat.le_of_ble_eq_true rfl) rfl ?_
  refine g_iload_n m167_0 rfl ?_
  refine g_iconst m167_1 ?_
  refine g_bipush m167_2 ?_
  refine g_cs (args := [.int (v), .int (0), .int (60)]) (rest := []) 0 (Or.inl rfl) m167_4 (Nat.le_of_ble_eq_true rfl) rfl rfl (Nat.le_of_ble_eq_true rfl) ?_
  refine c_in (A := 0) (B := 60) rfl rfl (by decide) (fun jv ev a_10 a_10' => ?_) (fun a_10 => ?_)
  · subst ev
    refine gwr ?_
    refine h_if_neF (xi := 1) (zi := 0) m167_7 rfl rfl (by decide) ?_
    refine g_aload_n m167_17 rfl ?_
    refine g_iconst m167_18 ?_
    refine h_cv (k := 57) (p := 89) (args := [.int (4)]) (rest := []) m167_19 cn_147 (Nat.le_of_ble_eq_true rfl) rfl rfl rfl (t_57 _ _) (Nat.le_of_ble_eq_true rfl) ?_
    refine c_sumOf (w := 4) (AtY.self m) (by decide) hn hd ?_
    refine gwr ?_
    refine g_istore_n (L2 := [some (.ref (89)), some (.int (nI (jv))), some (.int (sumF ((vr (m 58)) 6) n)), none]) m167_22 rfl rfl ?_
    refine g_aload_n m167_23 rfl ?_
    refine g_aload_n m167_24 rfl ?_
    refine h_gfR (c := 90) (k := 57) (p := 89) m167_25 rfl (t_57 _ _) rfl (Nat.le_of_ble_eq_true rfl) ?_
    refine g_aload_n m167_28 rfl ?_
    refine h_gfR (c := 92) (k := 57) (p := 89) m167_29 rfl (t_57 _ _) rfl (Nat.le_of_ble_eq_true rfl) ?_
    refine h_cv (k := 57) (p := 89) (args := [.ref (90), .ref (92)]) (rest := []) m167_32 cn_110 (Nat.le_of_ble_eq_true rfl) rfl rfl rfl (t_57 _ _) (Nat.le_of_ble_eq_true rfl) ?_
    refine c_moveRow (k1 := 58) (k2 := 60) rfl rfl (t_58 _ _) (t_60 _ _) (by decide) ?_
    have h58 : (upmR m 60 (m 58)) 58 = m 58 := thR_58 _ _
    have hAt := thR_A m
    have hX0t : TxOk ((upmR m 60 (m 58)) 58) 0 := by rw [h58]; exact hX0
    have hX1t : TxOk ((upmR m 60 (m 58)) 58) 1 := by rw [h58]; exact hX1
    refine gwr0 ?_
    refine g_aload_n m167_35 rfl ?_
    refine g_iload_n m167_36 rfl ?_
    refine h_cv (k := 57) (p := 89) (args := [.int (nI (jv))]) (rest := []) m167_37 cn_146 (Nat.le_of_ble_eq_true rfl) rfl rfl rfl (t_57 _ _) (Nat.le_of_ble_eq_true rfl) ?_
    refine c_passes hAt hX0t hX1t hWY (n := jv) (by omega) (fun m2 hA2 => ?_)
    rw [h58] at hA2
    refine gwr0 ?_
    refine g_aload_n m167_40 rfl ?_
    refine g_iconst m167_41 ?_
    refine h_cv (k := 57) (p := 89) (args := [.int (4)]) (rest := []) m167_42 cn_147 (Nat.le_of_ble_eq_true rfl) rfl rfl rfl (t_57 _ _) (Nat.le_of_ble_eq_true rfl) ?_
    refine c_sumOf (w := 4) hA2 (by decide) hn ((stepN_0 _ _ _ (by decide) jv).trans hd) ?_
    refine gwr ?_
    refine g_istore_n (L2 := [some (.ref (89)), some (.int (nI (jv))), some (.int (sumF ((vr (m 58)) 6) n)), some (.int (sumF ((stepN (rkF (m 58)) (rbF (m 58)) (vr (m 58)) jv) 6) n))]) m167_45 rfl rfl ?_
    refine g_aload_n m167_46 rfl ?_
    refine g_aload_n m167_47 rfl ?_
    refine h_gfR (c := 92) (k := 57) (p := 89) m167_48 rfl (t_57 _ _) rfl (Nat.le_of_ble_eq_true rfl) ?_
    refine g_aload_n m167_51 rfl ?_
    refine h_gfR (c := 90) (k := 57) (p := 89) m167_52 rfl (t_57 _ _) rfl (Nat.le_of_ble_eq_true rfl) ?_
    refine h_cv (k := 57) (p := 89) (args := [.ref (92), .ref (90)]) (rest := []) m167_55 cn_110 (Nat.le_of_ble_eq_true rfl) rfl rfl rfl (t_57 _ _) (Nat.le_of_ble_eq_true rfl) ?_
    refine c_moveRow (k1 := 60) (k2 := 58) rfl rfl (t_60 _ _) (t_58 _ _) (by decide) ?_
    have hFb := FrP.back hA2
    refine gwr0 ?_
    refine g_iload_n m167_58 rfl ?_
    refine g_iload_n m167_59 rfl ?_
    refine g_isub m167_60 rfl ?_
    refine g_iret m167_61 rt_167 ?_
    exact hY jv rfl (by omega) _ hFb
  · skip
    refine gwr ?_
    refine h_if_neT (xi := 0) (zi := 0) m167_7 rfl rfl (by decide) ?_
    refine g_aload_n m167_10 rfl ?_
    refine g_ldci m167_11 rfl ?_
    refine h_cv (k := 57) (p := 89) (args := [.int (-1000000001)]) (rest := []) m167_13 cn_108 (Nat.le_of_ble_eq_true rfl) rfl rfl rfl (t_57 _ _) (Nat.le_of_ble_eq_true rfl) ?_
    refine c_errs (e := 1) (by decide) (by decide) (by decide) ?_
    refine gwr ?_
    refine g_iret m167_16 rt_167 ?_
    exact hE1 (by omega)
set_option maxRecDepth 20000 in
set_option maxHeartbeats 40000000 in
theorem m_check {n w : Nat} (hd : m 58 2 = nI n) (hn : n ≤ 8) (hX0 : TxOk (m 58) 0) (hX1 : TxOk (m 58) 1) (hWY : WF (vr (m 58))) (hw : m 58 4 = nI w) (hw2 : w ≤ 20) (hN : leastF (fun q => !(decide ((sumF (stepN (rkF (m 58)) (rbF (m 58)) (vr (m 58)) (q + 1) 4) n).toInt = (m 58 (114 + q)).toInt))) w 0 = none → ∀ m2, FrP (upm m 58 4 0) m2 → Q (some (.int 0)) (H m2 ln N)) (hY : ∀ q : Nat, leastF (fun q => !(decide ((sumF (stepN (rkF (m 58)) (rbF (m 58)) (vr (m 58)) (q + 1) 4) n).toInt = (m 58 (114 + q)).toInt))) w 0 = some q → q < w → ∀ m2, FrP (upm m 58 4 0) m2 → Q (some (.int (nI (1 + q)))) (H m2 ln N)) : WP xs (d + 818) 187 0 0 [.ref (89)] (H m ln N) Q := by
  refine wp_x mx_187 (L := [some (.ref (89)), none, none, none]) (Nat.le_of_ble_eq_true rfl) rfl ?_
  refine g_aload_n m187_0 rfl ?_
  refine h_gfR (c := 90) (k := 57) (p := 89) m187_1 rfl (t_57 _ _) rfl (Nat.le_of_ble_eq_true rfl) ?_
  refine g_iconst m187_4 ?_
  refine h_ial (k := 58) (p := 90) (j := 4) m187_5 rfl (t_58 _ _) (rfl) (by omega) (Nat.le_of_ble_eq_true rfl) (hw) ?_
  refine g_istore_n (L2 := [some (.ref (89)), some (.int (nI (w))), none, none]) m187_6 rfl rfl ?_
  refine g_aload_n m187_7 rfl ?_
  refine h_gfR (c := 90) (k := 57) (p := 89) m187_8 rfl (t_57 _ _) rfl (Nat.le_of_ble_eq_true rfl) ?_
  refine g_iconst m187_11 ?_
  refine g_iconst m187_12 ?_
  refine h_ias (k := 58) (p := 90) (j := 4) m187_13 rfl (t_58 _ _) (rfl) (by omega) (Nat.le_of_ble_eq_true rfl) ?_
  refine g_aload_n m187_14 rfl ?_
  refine g_aload_n m187_15 rfl ?_
  refine h_gfR (c := 90) (k := 57) (p := 89) m187_16 rfl (t_57 _ _) rfl (Nat.le_of_ble_eq_true rfl) ?_
  refine g_aload_n m187_19 rfl ?_
  refine h_gfR (c := 92) (k := 57) (p := 89) m187_20 rfl (t_57 _ _) rfl (Nat.le_of_ble_eq_true rfl) ?_
  refine h_cv (k := 57) (p := 89) (args := [.ref (90), .ref (92)]) (rest := []) m187_23 cn_110 (Nat.le_of_ble_eq_true rfl) rfl rfl rfl (t_57 _ _) (Nat.le_of_ble_eq_true rfl) ?_
  refine c_moveRow (k1 := 58) (k2 := 60) rfl rfl (t_58 _ _) (t_60 _ _) (by decide) ?_
  have h58 : (upmR (upm m 58 4 0) 60 ((upm m 58 4 0) 58)) 58 = (upm m 58 4 0) 58 := thR_58 _ _
  have hAt := thR_A (upm m 58 4 0)
  rw [vr_4] at hAt
  have hX0t : TxOk ((upmR (upm m 58 4 0) 60 ((upm m 58 4 0) 58)) 58) 0 := by rw [h58]; exact hX0.up4
  have hX1t : TxOk ((upmR (upm m 58 4 0) 60 ((upm m 58 4 0) 58)) 58) 1 := by rw [h58]; exact hX1.up4
  refine gwr0 ?_
  refine g_iconst m187_26 ?_
  refine g_istore_n (L2 := [some (.ref (89)), some (.int (nI (w))), some (.int (0)), none]) m187_27 rfl rfl ?_
  refine g_iconst m187_28 ?_
  refine g_istore_n (L2 := [some (.ref (89)), some (.int (nI (w))), some (.int (0)), some (.int (1))]) m187_29 rfl rfl ?_
  have key : ∀ (r : Nat) (q : Nat) (m2 : MW), q + r = w → AtY (upmR (upm m 58 4 0) 60 ((upm m 58 4 0) 58)) (stepN (rkF (m 58)) (rbF (m 58)) (vr (m 58)) q) m2 → leastF (fun q => !(decide ((sumF (stepN (rkF (m 58)) (rbF (m 58)) (vr (m 58)) (q + 1) 4) n).toInt = (m 58 (114 + q)).toInt))) r q = leastF (fun q => !(decide ((sumF (stepN (rkF (m 58)) (rbF (m 58)) (vr (m 58)) (q + 1) 4) n).toInt = (m 58 (114 + q)).toInt))) w 0 → gw xs (WP xs (d + 817)) 187 Q 30 [some (.ref (89)), some (.int (nI (w))), some (.int (nI (q))), some (.int ((1 : Int32)))] [] (H m2 ln N) 0 0 := by
    intro r
    induction r with
    | zero =>
      intro q m2 hq hA hfin
      obtain rfl : q = w := by omega
      refine g_iload_n m187_30 rfl ?_
      refine g_iload_n m187_31 rfl ?_
      refine h_ic_geT (xi := ((q : Nat) : Int)) (zi := ((q : Nat) : Int)) m187_32 (nI_toInt (by omega)) (nI_toInt (by omega)) (by omega) ?_
      refine g_aload_n m187_81 rfl ?_
      refine g_aload_n m187_82 rfl ?_
      refine h_gfR (c := 92) (k := 57) (p := 89) m187_83 rfl (t_57 _ _) rfl (Nat.le_of_ble_eq_true rfl) ?_
      refine g_aload_n m187_86 rfl ?_
      refine h_gfR (c := 90) (k := 57) (p := 89) m187_87 rfl (t_57 _ _) rfl (Nat.le_of_ble_eq_true rfl) ?_
      refine h_cv (k := 57) (p := 89) (args := [.ref (92), .ref (90)]) (rest := []) m187_90 cn_110 (Nat.le_of_ble_eq_true rfl) rfl rfl rfl (t_57 _ _) (Nat.le_of_ble_eq_true rfl) ?_
      refine c_moveRow (k1 := 60) (k2 := 58) rfl rfl (t_60 _ _) (t_58 _ _) (by decide) ?_
      have hFb := FrP.back hA
      refine gwr0 ?_
      refine g_iload_n m187_93 rfl ?_
      refine h_if_eqF (xi := 1) (zi := 0) m187_94 rfl rfl (by decide) ?_
      refine g_iconst m187_97 ?_
      refine g_goto m187_98 ?_
      refine g_iret m187_104 rt_187 ?_
      exact hN hfin.symm _ hFb
    | succ r ih =>
      intro q m2 hq hA hfin
      refine g_iload_n m187_30 rfl ?_
      refine g_iload_n m187_31 rfl ?_
      refine h_ic_geF (xi := ((q : Nat) : Int)) (zi := ((w : Nat) : Int)) m187_32 (nI_toInt (by omega)) (nI_toInt (by omega)) (by omega) ?_
      refine g_iload_n m187_35 rfl ?_
      refine h_if_eqF (xi := 1) (zi := 0) m187_36 rfl rfl (by decide) ?_
      refine g_aload_n m187_39 rfl ?_
      refine h_cv (k := 57) (p := 89) (args := []) (rest := []) m187_40 cn_145 (Nat.le_of_ble_eq_true rfl) rfl rfl rfl (t_57 _ _) (Nat.le_of_ble_eq_true rfl) ?_
      refine c_oneStep hA hX0t hX1t (WF_stepN hWY q) (fun m3 hA3 => ?_)
      rw [h58, rk_4, rb_4] at hA3
      have hA3 : AtY (upmR (upm m 58 4 0) 60 ((upm m 58 4 0) 58)) (stepN (rkF (m 58)) (rbF (m 58)) (vr (m 58)) (q + 1)) m3 := hA3
      have e114 : m3 58 (114 + q) = m 58 (114 + q) := (hA3.rw (by omega)).trans ((congrFun h58 _).trans (upm_j _ _ (by omega)))
      refine gwr0 ?_
      refine g_aload_n m187_43 rfl ?_
      refine g_iconst m187_44 ?_
      refine h_cv (k := 57) (p := 89) (args := [.int (2)]) (rest := []) m187_45 cn_147 (Nat.le_of_ble_eq_true rfl) rfl rfl rfl (t_57 _ _) (Nat.le_of_ble_eq_true rfl) ?_
      refine c_sumOf (w := 2) hA3 (by decide) hn ((stepN_0 _ _ _ (by decide) (q + 1)).trans hd) ?_
      refine gwr ?_
      refine g_aload_n m187_48 rfl ?_
      refine h_gfR (c := 90) (k := 57) (p := 89) m187_49 rfl (t_57 _ _) rfl (Nat.le_of_ble_eq_true rfl) ?_
      refine g_bipush m187_52 ?_
      refine g_iload_n m187_54 rfl ?_
      refine g_iadd (u := nI (114 + q)) m187_55 (nI_add 114 q) ?_
      refine h_ial (k := 58) (p := 90) (j := 114 + q) m187_56 rfl (t_58 _ _) (rfl) (by omega) (Nat.le_of_ble_eq_true rfl) (e114) ?_
      refine h_ic_ne (xi := _) (zi := _) m187_57 rfl rfl (fun c1 => ?_) (fun c1 => ?_)
      · skip
        refine g_iconst m187_60 ?_
        refine g_goto m187_61 ?_
        refine g_istore_n (L2 := [some (.ref (89)), some (.int (nI (w))), some (.int (nI (q))), some (.int (1))]) m187_65 rfl rfl ?_
        refine g_iload_n m187_66 rfl ?_
        refine g_iload_n m187_67 rfl ?_
        refine h_if_eqF (xi := 1) (zi := 0) m187_68 rfl rfl (by decide) ?_
        refine g_iconst m187_71 ?_
        refine g_goto m187_72 ?_
        refine g_iadd (u := nI (q + 1)) m187_76 (nI_add q 1) ?_
        refine g_istore_n (L2 := [some (.ref (89)), some (.int (nI (w))), some (.int (nI (q + 1))), some (.int (1))]) m187_77 rfl rfl ?_
        refine g_goto m187_78 ?_
        have hm : ¬ (fun q => !(decide ((sumF (stepN (rkF (m 58)) (rbF (m 58)) (vr (m 58)) (q + 1) 4) n).toInt = (m 58 (114 + q)).toInt))) q = true := by
          show ¬ (!(decide _)) = true
          rw [decide_eq_true c1]
          decide
        rw [least_n (p := (fun q => !(decide ((sumF (stepN (rkF (m 58)) (rbF (m 58)) (vr (m 58)) (q + 1) 4) n).toInt = (m 58 (114 + q)).toInt)))) (s := q) hm] at hfin
        exact ih (q + 1) _ (by omega) hA3 hfin
      · skip
        refine g_iconst m187_64 ?_
        refine g_istore_n (L2 := [some (.ref (89)), some (.int (nI (w))), some (.int (nI (q))), some (.int (0))]) m187_65 rfl rfl ?_
        refine g_iload_n m187_66 rfl ?_
        refine g_iload_n m187_67 rfl ?_
        refine h_if_eqT (xi := 0) (zi := 0) m187_68 rfl rfl (by decide) ?_
        refine g_iconst m187_75 ?_
        refine g_iadd (u := nI (q + 0)) m187_76 (nI_add q 0) ?_
        refine g_istore_n (L2 := [some (.ref (89)), some (.int (nI (w))), some (.int (nI (q + 0))), some (.int (0))]) m187_77 rfl rfl ?_
        refine g_goto m187_78 ?_
        have hm : (fun q => !(decide ((sumF (stepN (rkF (m 58)) (rbF (m 58)) (vr (m 58)) (q + 1) 4) n).toInt = (m 58 (114 + q)).toInt))) q = true := by
          show (!(decide _)) = true
          rw [decide_eq_false c1]
          rfl
        rw [least_y (p := (fun q => !(decide ((sumF (stepN (rkF (m 58)) (rbF (m 58)) (vr (m 58)) (q + 1) 4) n).toInt = (m 58 (114 + q)).toInt)))) (s := q) hm] at hfin
        refine g_iload_n m187_30 rfl ?_
        refine g_iload_n m187_31 rfl ?_
        refine h_ic_ge (xi := ((q + 0 : Nat) : Int)) (zi := ((w : Nat) : Int)) m187_32 (nI_toInt (by omega)) (nI_toInt (by omega)) (fun c2 => ?_) (fun c2 => ?_)
        · skip
          refine g_aload_n m187_81 rfl ?_
          refine g_aload_n m187_82 rfl ?_
          refine h_gfR (c := 92) (k := 57) (p := 89) m187_83 rfl (t_57 _ _) rfl (Nat.le_of_ble_eq_true rfl) ?_
          refine g_aload_n m187_86 rfl ?_
          refine h_gfR (c := 90) (k := 57) (p := 89) m187_87 rfl (t_57 _ _) rfl (Nat.le_of_ble_eq_true rfl) ?_
          refine h_cv (k := 57) (p := 89) (args := [.ref (92), .ref (90)]) (rest := []) m187_90 cn_110 (Nat.le_of_ble_eq_true rfl) rfl rfl rfl (t_57 _ _) (Nat.le_of_ble_eq_true rfl) ?_
          refine c_moveRow (k1 := 60) (k2 := 58) rfl rfl (t_60 _ _) (t_58 _ _) (by decide) ?_
          have hFb := FrP.back hA3
          refine gwr0 ?_
          refine g_iload_n m187_93 rfl ?_
          refine h_if_eqT (xi := 0) (zi := 0) m187_94 rfl rfl (by decide) ?_
          refine g_iconst m187_101 ?_
          refine g_iload_n m187_102 rfl ?_
          refine g_iadd (u := nI (1 + (q + 0))) m187_103 (nI_add 1 (q + 0)) ?_
          refine g_iret m187_104 rt_187 ?_
          exact hY q hfin.symm (by omega) _ hFb
        · skip
          refine g_iload_n m187_35 rfl ?_
          refine h_if_eqT (xi := 0) (zi := 0) m187_36 rfl rfl (by decide) ?_
          refine g_aload_n m187_81 rfl ?_
          refine g_aload_n m187_82 rfl ?_
          refine h_gfR (c := 92) (k := 57) (p := 89) m187_83 rfl (t_57 _ _) rfl (Nat.le_of_ble_eq_true rfl) ?_
          refine g_aload_n m187_86 rfl ?_
          refine h_gfR (c := 90) (k := 57) (p := 89) m187_87 rfl (t_57 _ _) rfl (Nat.le_of_ble_eq_true rfl) ?_
          refine h_cv (k := 57) (p := 89) (args := [.ref (92), .ref (90)]) (rest := []) m187_90 cn_110 (Nat.le_of_ble_eq_true rfl) rfl rfl rfl (t_57 _ _) (Nat.le_of_ble_eq_true rfl) ?_
          refine c_moveRow (k1 := 60) (k2 := 58) rfl rfl (t_60 _ _) (t_58 _ _) (by decide) ?_
          have hFb := FrP.back hA3
          refine gwr0 ?_
          refine g_iload_n m187_93 rfl ?_
          refine h_if_eqT (xi := 0) (zi := 0) m187_94 rfl rfl (by decide) ?_
          refine g_iconst m187_101 ?_
          refine g_iload_n m187_102 rfl ?_
          refine g_iadd (u := nI (1 + (q + 0))) m187_103 (nI_add 1 (q + 0)) ?_
          refine g_iret m187_104 rt_187 ?_
          exact hY q hfin.symm (by omega) _ hFb
  exact key w 0 _ (by omega) hAt rfl
end
end
section
/-! THE REFERENCE: harm; SHEETS MOVED -/
theorem AtY.upo {m0 Y m2 : MW} (h : AtY m0 Y m2) {k : Nat} (hk : k ≠ 58) (j : Nat) (v : Int32) : AtY (upm m0 k j v) Y (upm m2 k j v) := by
  intro k2 j2 q
  unfold upmR
  by_cases e : k2 = 58
  · subst e
    rw [if_pos rfl, upm_k _ _ (Ne.symm hk), h.row j2, row_up m0 v (Ne.symm hk)]
  · rw [if_neg e]
    by_cases e2 : k2 = k ∧ j2 = j
    · obtain ⟨rfl, rfl⟩ := e2
      rw [upm_self, upm_self]
    · have e3 := h k2 j2 q
      unfold upmR at e3
      rw [if_neg e] at e3
      unfold upm
      rw [if_neg e2, if_neg e2, e3]
theorem AtY.bk {B Y m2 : MW} {w : Nat → Int32} (h : AtY B Y m2) (h58 : B 58 = w) (h60 : B 60 = w) : AtY B (vr w) (upmR m2 58 (m2 60)) := by
  have e60 : m2 60 = w := funext fun j => (h.out (by decide) (fun z => by rcases z with z | z <;> omega)).trans (congrFun h60 j)
  have h0 := AtY.self B
  rw [h58] at h0
  intro k j q
  rw [← h0 k j q, e60]
  unfold upmR
  by_cases e : k = 58
  · rw [if_pos e, e, h58]
  · rw [if_neg e, h.out e q]
theorem FrP.bk {m B Y m2 : MW} (h : AtY B Y m2) (hB : ∀ k, k ≠ 60 → k ≠ 66 → k ≠ 67 → B k = m k) (h60 : B 60 = m 58) : FrP m (upmR m2 58 (m2 60)) := by
  intro k j a b
  unfold upmR
  by_cases e : k = 58
  · rw [if_pos e, e, h.out (by decide) (fun z => by rcases z with z | z <;> omega), h60]
  · rw [if_neg e, h.out e b, hB k (fun z => a (Or.inl z)) (fun z => a (Or.inr (Or.inl z))) (fun z => a (Or.inr (Or.inr z)))]
def hdM (m : MW) (f : Nat → Int32) : Nat → MW
  | 0 => m
  | q + 1 => upm (hdM m f q) 67 q (f q)
theorem hdM_o (m : MW) (f : Nat → Int32) {k : Nat} (h : k ≠ 67) : ∀ q, hdM m f q k = m k
  | 0 => rfl
  | q + 1 => (row_up _ _ h).trans (hdM_o m f h q)
theorem hdM_r (m : MW) (f : Nat → Int32) {i : Nat} : ∀ q, i < q → hdM m f q 67 i = f i
  | 0, h => absurd h (Nat.not_lt_zero i)
  | q + 1, h => by
    show upm (hdM m f q) 67 q (f q) 67 i = f i
    by_cases e : i = q
    · subst e
      exact upm_self _ _ _ _
    · rw [upm_j _ _ e]
      exact hdM_r m f q (by omega)
theorem vr_7 {m : MW} {v : Int32} : Eq8 (upm (vr (m 58)) 0 8 v) (vr (upm m 58 7 v 58)) := by
  intro j hj i
  match j with
  | 0 =>
    show (if i = 8 then upm m 58 7 v 58 7 else if i = 9 then upm m 58 7 v 58 0 else if i = 10 then upm m 58 7 v 58 2 else 0) = upm (vr (m 58)) 0 8 v 0 i
    rw [upm_self, upm_j _ _ (by decide), upm_j _ _ (by decide)]
    by_cases e : i = 8
    · rw [if_pos e, e, upm_self]
    · rw [if_neg e, upm_j _ _ e]
      exact (if_neg e).symm
  | 1 => exact (upm_j m v (show 8 + i ≠ 7 by omega)).trans (upm_k (vr (m 58)) v (show 1 ≠ 0 by decide)).symm
  | j + 2 => exact (upm_j m v (show 16 + 6 * i + j ≠ 7 by omega)).trans (upm_k (vr (m 58)) v (show j + 2 ≠ 0 by omega)).symm
theorem tx_7 {m : MW} {v : Int32} (u : Nat) (hu : u ≤ 1) : txW (upm m 58 7 v 58) u = txW (m 58) u ∧ upm m 58 7 v 58 (5 + u) = m 58 (5 + u) := ⟨funext fun j => upm_j _ _ (by omega), upm_j _ _ (by omega)⟩
theorem TxOk.up7 {m : MW} {v : Int32} {u : Nat} (hu : u ≤ 1) (h : TxOk (m 58) u) : TxOk (upm m 58 7 v 58) u := by
  unfold TxOk
  rw [(tx_7 u hu).1, (tx_7 u hu).2]
  exact h
def mvA (m : MW) (c : Nat) : Nat → MW
  | 0 => m
  | q + 1 => upm (mvA m c q) 66 q (m 65 (c + q))
theorem mvA_o (m : MW) (c : Nat) {k : Nat} (h : k ≠ 66) : ∀ q, mvA m c q k = m k
  | 0 => rfl
  | q + 1 => (row_up _ _ h).trans (mvA_o m c h q)
def mvB (m : MW) (c : Nat) : Nat → MW
  | 0 => m
  | q + 1 => upm (mvB m c q) 65 (c + q) (m 66 q)
theorem mvB_o (m : MW) (c : Nat) {k : Nat} (h : k ≠ 65) : ∀ q, mvB m c q k = m k
  | 0 => rfl
  | q + 1 => (row_up _ _ h).trans (mvB_o m c h q)
section
variable {xs : List Int32} {d : Nat} {h : AH} {Q : QT} {m : MW} {ln : Nat → Nat} {N : Nat}
set_option maxRecDepth 20000 in
set_option maxHeartbeats 40000000 in
theorem m_harm {a v : Int32} {n : Nat} (hd : m 58 2 = nI n) (hn : n ≤ 8) (hX0 : TxOk (m 58) 0) (hX1 : TxOk (m 58) 1) (hWY : WF (vr (m 58))) (hE1 : (a.toInt < 0 ∨ (n : Int) ≤ a.toInt ∨ v.toInt < 0 ∨ 60 < v.toInt) → Q (some (.int (-1000000001))) (H (ers m 1) ln N)) (hY : ∀ i k : Nat, a = nI i → i < n → v = nI k → k ≤ 60 → ∀ m2, FrP m m2 → Q (some (.int (nI (bitsF (fun q => !(decide (q = i)) && decide ((stepN (rkF (m 58)) (rbF (m 58)) (vr (m 58)) k 6 q).toInt < (stepN (rkF (m 58)) (rbF (m 58)) (upm (vr (m 58)) 5 i 0) k 6 q).toInt)) n)))) (H m2 ln N)) : WP xs (d + 818) 164 0 0 [.ref (89), .int (a), .int (v)] (H m ln N) Q := by
  refine wp_x mx_164 (L := [some (.ref (89)), some (.int (a)), some (.int (v)), none, none]) (Nat.le_of_ble_eq_true rfl) rfl ?_
  refine g_aload_n m164_0 rfl ?_
  refine g_iload_n m164_1 rfl ?_
  refine h_cv (k := 57) (p := 89) (args := [.int (a)]) (rest := []) m164_2 cn_113 (Nat.le_of_ble_eq_true rfl) rfl rfl rfl (t_57 _ _) (Nat.le_of_ble_eq_true rfl) ?_
  refine c_isDinerM hd hn (fun ja ea a_1 => ?_) (fun a_1 => ?_)
  · subst ea
    refine gwr ?_
    refine h_if_eqF (xi := 1) (zi := 0) m164_5 rfl rfl (by decide) ?_
    refine g_iload_n m164_8 rfl ?_
    refine g_iconst m164_9 ?_
    refine g_bipush m164_10 ?_
    refine g_cs (args := [.int (v), .int (0), .int (60)]) (rest := []) 0 (Or.inl rfl) m164_12 (Nat.le_of_ble_eq_true rfl) rfl rfl (Nat.le_of_ble_eq_true rfl) ?_
    refine c_in (A := 0) (B := 60) rfl rfl (by decide) (fun jv ev a_2 a_2' => ?_) (fun a_2 => ?_)
    · subst ev
      refine gwr ?_
      refine h_if_neF (xi := 1) (zi := 0) m164_15 rfl rfl (by decide) ?_
      refine g_aload_n m164_25 rfl ?_
      refine g_aload_n m164_26 rfl ?_
      refine h_gfR (c := 90) (k := 57) (p := 89) m164_27 rfl (t_57 _ _) rfl (Nat.le_of_ble_eq_true rfl) ?_
      refine g_aload_n m164_30 rfl ?_
      refine h_gfR (c := 92) (k := 57) (p := 89) m164_31 rfl (t_57 _ _) rfl (Nat.le_of_ble_eq_true rfl) ?_
      refine h_cv (k := 57) (p := 89) (args := [.ref (90), .ref (92)]) (rest := []) m164_34 cn_110 (Nat.le_of_ble_eq_true rfl) rfl rfl rfl (t_57 _ _) (Nat.le_of_ble_eq_true rfl) ?_
      refine c_moveRow (k1 := 58) (k2 := 60) rfl rfl (t_58 _ _) (t_60 _ _) (by decide) ?_
      have h58 : (upmR m 60 (m 58)) 58 = m 58 := thR_58 _ _
      have hAt := thR_A m
      have hX0t : TxOk ((upmR m 60 (m 58)) 58) 0 := by rw [h58]; exact hX0
      have hX1t : TxOk ((upmR m 60 (m 58)) 58) 1 := by rw [h58]; exact hX1
      refine gwr0 ?_
      refine g_aload_n m164_37 rfl ?_
      refine g_iload_n m164_38 rfl ?_
      refine h_cv (k := 57) (p := 89) (args := [.int (nI (jv))]) (rest := []) m164_39 cn_146 (Nat.le_of_ble_eq_true rfl) rfl rfl rfl (t_57 _ _) (Nat.le_of_ble_eq_true rfl) ?_
      refine c_passes hAt hX0t hX1t hWY (n := jv) (by omega) (fun m2 hA2 => ?_)
      rw [h58] at hA2
      refine gwr0 ?_
      refine g_iconst m164_42 ?_
      refine g_istore_n (L2 := [some (.ref (89)), some (.int (nI (ja))), some (.int (nI (jv))), some (.int (0)), none]) m164_43 rfl rfl ?_
      have key : ∀ (r : Nat) (q : Nat) (m3 : MW), q + r = n → AtY (hdM (upmR m 60 (m 58)) ((stepN (rkF (m 58)) (rbF (m 58)) (vr (m 58)) jv) 6) q) (stepN (rkF (m 58)) (rbF (m 58)) (vr (m 58)) jv) m3 → gw xs (WP xs (d + 817)) 164 Q 44 [some (.ref (89)), some (.int (nI (ja))), some (.int (nI (jv))), some (.int (nI (q))), none] [] (H m3 ln N) 0 0 := by
        intro r
        induction r with
        | zero =>
          intro q m3 hq hA3
          obtain rfl : q = n := by omega
          have hB58 : (hdM (upmR m 60 (m 58)) ((stepN (rkF (m 58)) (rbF (m 58)) (vr (m 58)) jv) 6) q) 58 = m 58 := (hdM_o _ _ (by decide) q).trans h58
          have hB60 : (hdM (upmR m 60 (m 58)) ((stepN (rkF (m 58)) (rbF (m 58)) (vr (m 58)) jv) 6) q) 60 = m 58 := (hdM_o _ _ (by decide) q).trans (if_pos rfl)
          have hX0b : TxOk ((hdM (upmR m 60 (m 58)) ((stepN (rkF (m 58)) (rbF (m 58)) (vr (m 58)) jv) 6) q) 58) 0 := by rw [hB58]; exact hX0
          have hX1b : TxOk ((hdM (upmR m 60 (m 58)) ((stepN (rkF (m 58)) (rbF (m 58)) (vr (m 58)) jv) 6) q) 58) 1 := by rw [hB58]; exact hX1
          refine g_iload_n m164_44 rfl ?_
          refine g_aload_n m164_45 rfl ?_
          refine h_gfR (c := 90) (k := 57) (p := 89) m164_46 rfl (t_57 _ _) rfl (Nat.le_of_ble_eq_true rfl) ?_
          refine g_iconst m164_49 ?_
          refine h_ial (k := 58) (p := 90) (j := 2) m164_50 rfl (t_58 _ _) (rfl) (by omega) (Nat.le_of_ble_eq_true rfl) (hA3.r2.trans ((stepN_0 _ _ _ (by decide) jv).trans hd)) ?_
          refine h_ic_geT (xi := ((q : Nat) : Int)) (zi := ((q : Nat) : Int)) m164_51 (nI_toInt (by omega)) (nI_toInt (by omega)) (by omega) ?_
          refine g_aload_n m164_72 rfl ?_
          refine g_aload_n m164_73 rfl ?_
          refine h_gfR (c := 92) (k := 57) (p := 89) m164_74 rfl (t_57 _ _) rfl (Nat.le_of_ble_eq_true rfl) ?_
          refine g_aload_n m164_77 rfl ?_
          refine h_gfR (c := 90) (k := 57) (p := 89) m164_78 rfl (t_57 _ _) rfl (Nat.le_of_ble_eq_true rfl) ?_
          refine h_cv (k := 57) (p := 89) (args := [.ref (92), .ref (90)]) (rest := []) m164_81 cn_110 (Nat.le_of_ble_eq_true rfl) rfl rfl rfl (t_57 _ _) (Nat.le_of_ble_eq_true rfl) ?_
          refine c_moveRow (k1 := 60) (k2 := 58) rfl rfl (t_60 _ _) (t_58 _ _) (by decide) ?_
          have hA4 := AtY.bk hA3 hB58 hB60
          refine gwr0 ?_
          refine g_aload_n m164_84 rfl ?_
          refine g_iload_n m164_85 rfl ?_
          refine g_iconst m164_86 ?_
          refine g_iconst m164_87 ?_
          refine h_cv (k := 57) (p := 89) (args := [.int (nI (ja)), .int (3), .int (0)]) (rest := []) m164_88 cn_112 (Nat.le_of_ble_eq_true rfl) rfl rfl rfl (t_57 _ _) (Nat.le_of_ble_eq_true rfl) ?_
          refine c_gets (w := 3) (by omega) (by decide) ?_
          have hA5 := hA4.up (i := ja) (c := 3) (by omega) (by decide) 0
          refine gwr0 ?_
          refine g_aload_n m164_91 rfl ?_
          refine g_iload_n m164_92 rfl ?_
          refine h_cv (k := 57) (p := 89) (args := [.int (nI (jv))]) (rest := []) m164_93 cn_146 (Nat.le_of_ble_eq_true rfl) rfl rfl rfl (t_57 _ _) (Nat.le_of_ble_eq_true rfl) ?_
          refine c_passes hA5 hX0b hX1b (n := jv) (WF_sham hWY ⟨0, by decide, rfl⟩) (by omega) (fun m6 hA6 => ?_)
          rw [hB58] at hA6
          have hA6 : AtY (hdM (upmR m 60 (m 58)) ((stepN (rkF (m 58)) (rbF (m 58)) (vr (m 58)) jv) 6) q) (stepN (rkF (m 58)) (rbF (m 58)) (upm (vr (m 58)) 5 ja 0) jv) m6 := hA6
          refine gwr0 ?_
          refine g_iconst m164_96 ?_
          refine g_istore_n (L2 := [some (.ref (89)), some (.int (nI (ja))), some (.int (nI (jv))), some (.int (0)), none]) m164_97 rfl rfl ?_
          refine g_iconst m164_98 ?_
          refine g_istore (L2 := [some (.ref (89)), some (.int (nI (ja))), some (.int (nI (jv))), some (.int (0)), some (.int (0))]) m164_99 rfl rfl ?_
          have hb : ∀ z, bitsF (fun q => !(decide (q = ja)) && decide ((stepN (rkF (m 58)) (rbF (m 58)) (vr (m 58)) jv 6 q).toInt < (stepN (rkF (m 58)) (rbF (m 58)) (upm (vr (m 58)) 5 ja 0) jv 6 q).toInt)) z < 2 ^ z := bitsF_lt _
          have key2 : ∀ (r : Nat) (w : Nat), w + r = q → gw xs (WP xs (d + 817)) 164 Q 101 [some (.ref (89)), some (.int (nI (ja))), some (.int (nI (jv))), some (.int (nI (bitsF (fun q => !(decide (q = ja)) && decide ((stepN (rkF (m 58)) (rbF (m 58)) (vr (m 58)) jv 6 q).toInt < (stepN (rkF (m 58)) (rbF (m 58)) (upm (vr (m 58)) 5 ja 0) jv 6 q).toInt)) w))), some (.int (nI (w)))] [] (H m6 ln N) 0 0 := by
            intro r
            induction r with
            | zero =>
              intro w hw
              obtain rfl : w = q := by omega
              refine g_iload m164_101 rfl ?_
              refine g_aload_n m164_103 rfl ?_
              refine h_gfR (c := 90) (k := 57) (p := 89) m164_104 rfl (t_57 _ _) rfl (Nat.le_of_ble_eq_true rfl) ?_
              refine g_iconst m164_107 ?_
              refine h_ial (k := 58) (p := 90) (j := 2) m164_108 rfl (t_58 _ _) (rfl) (by omega) (Nat.le_of_ble_eq_true rfl) (hA6.r2.trans ((stepN_0 _ _ _ (by decide) jv).trans ((upm_k _ _ (by decide)).trans hd))) ?_
              refine h_ic_geT (xi := ((w : Nat) : Int)) (zi := ((w : Nat) : Int)) m164_109 (nI_toInt (by omega)) (nI_toInt (by omega)) (by omega) ?_
              refine g_aload_n m164_152 rfl ?_
              refine g_aload_n m164_153 rfl ?_
              refine h_gfR (c := 92) (k := 57) (p := 89) m164_154 rfl (t_57 _ _) rfl (Nat.le_of_ble_eq_true rfl) ?_
              refine g_aload_n m164_157 rfl ?_
              refine h_gfR (c := 90) (k := 57) (p := 89) m164_158 rfl (t_57 _ _) rfl (Nat.le_of_ble_eq_true rfl) ?_
              refine h_cv (k := 57) (p := 89) (args := [.ref (92), .ref (90)]) (rest := []) m164_161 cn_110 (Nat.le_of_ble_eq_true rfl) rfl rfl rfl (t_57 _ _) (Nat.le_of_ble_eq_true rfl) ?_
              refine c_moveRow (k1 := 60) (k2 := 58) rfl rfl (t_60 _ _) (t_58 _ _) (by decide) ?_
              have hFb := FrP.bk hA6 (fun k h1 h2 h3 => (hdM_o _ _ h3 _).trans (if_neg h1)) hB60
              refine gwr0 ?_
              refine g_iload_n m164_164 rfl ?_
              refine g_iret m164_165 rt_164 ?_
              exact hY ja jv rfl (by omega) rfl (by omega) _ hFb
            | succ r ih =>
              intro w hw
              refine g_iload m164_101 rfl ?_
              refine g_aload_n m164_103 rfl ?_
              refine h_gfR (c := 90) (k := 57) (p := 89) m164_104 rfl (t_57 _ _) rfl (Nat.le_of_ble_eq_true rfl) ?_
              refine g_iconst m164_107 ?_
              refine h_ial (k := 58) (p := 90) (j := 2) m164_108 rfl (t_58 _ _) (rfl) (by omega) (Nat.le_of_ble_eq_true rfl) (hA6.r2.trans ((stepN_0 _ _ _ (by decide) jv).trans ((upm_k _ _ (by decide)).trans hd))) ?_
              refine h_ic_geF (xi := ((w : Nat) : Int)) (zi := ((q : Nat) : Int)) m164_109 (nI_toInt (by omega)) (nI_toInt (by omega)) (by omega) ?_
              refine g_iload_n m164_112 rfl ?_
              refine g_iload m164_113 rfl ?_
              refine g_iload_n m164_115 rfl ?_
              refine h_ic_eq (xi := ((w : Nat) : Int)) (zi := ((ja : Nat) : Int)) m164_116 (nI_toInt (by omega)) (nI_toInt (by omega)) (fun c1 => ?_) (fun c1 => ?_)
              · skip
                refine g_iconst m164_143 ?_
                refine g_ior (u := nI (bitsF (fun q => !(decide (q = ja)) && decide ((stepN (rkF (m 58)) (rbF (m 58)) (vr (m 58)) jv 6 q).toInt < (stepN (rkF (m 58)) (rbF (m 58)) (upm (vr (m 58)) 5 ja 0) jv 6 q).toInt)) w)) m164_144 (or_z _) ?_
                refine g_istore_n (L2 := [some (.ref (89)), some (.int (nI (ja))), some (.int (nI (jv))), some (.int (nI (bitsF (fun q => !(decide (q = ja)) && decide ((stepN (rkF (m 58)) (rbF (m 58)) (vr (m 58)) jv 6 q).toInt < (stepN (rkF (m 58)) (rbF (m 58)) (upm (vr (m 58)) 5 ja 0) jv 6 q).toInt)) w))), some (.int (nI (w)))]) m164_145 rfl rfl ?_
                refine g_iinc (L2 := [some (.ref (89)), some (.int (nI (ja))), some (.int (nI (jv))), some (.int (nI (bitsF (fun q => !(decide (q = ja)) && decide ((stepN (rkF (m 58)) (rbF (m 58)) (vr (m 58)) jv 6 q).toInt < (stepN (rkF (m 58)) (rbF (m 58)) (upm (vr (m 58)) 5 ja 0) jv 6 q).toInt)) w))), some (.int (nI (w + 1)))]) m164_146 rfl (nI_1 _) rfl rfl ?_
                refine g_goto m164_149 ?_
                have e : bitsF (fun q => !(decide (q = ja)) && decide ((stepN (rkF (m 58)) (rbF (m 58)) (vr (m 58)) jv 6 q).toInt < (stepN (rkF (m 58)) (rbF (m 58)) (upm (vr (m 58)) 5 ja 0) jv 6 q).toInt)) (w + 1) = bitsF (fun q => !(decide (q = ja)) && decide ((stepN (rkF (m 58)) (rbF (m 58)) (vr (m 58)) jv 6 q).toInt < (stepN (rkF (m 58)) (rbF (m 58)) (upm (vr (m 58)) 5 ja 0) jv 6 q).toInt)) w := bits_n (by
                  show ¬ (!(decide (w = ja)) && decide _) = true
                  by_cases e0 : w = ja
                  · rw [decide_eq_true e0]
                    simp
                  · rw [decide_eq_false (p := _ < _) (Int.not_lt.mpr (by first | exact c1 | (exfalso; omega)))]
                    simp)
                have h9 := ih (w + 1) (by omega)
                rw [e] at h9
                exact h9
              · skip
                refine g_aload_n m164_119 rfl ?_
                refine g_iload m164_120 rfl ?_
                refine g_iconst m164_122 ?_
                refine h_cv (k := 57) (p := 89) (args := [.int (nI (w)), .int (4)]) (rest := [.int (nI (bitsF (fun q => !(decide (q = ja)) && decide ((stepN (rkF (m 58)) (rbF (m 58)) (vr (m 58)) jv 6 q).toInt < (stepN (rkF (m 58)) (rbF (m 58)) (upm (vr (m 58)) 5 ja 0) jv 6 q).toInt)) w))]) m164_123 cn_111 (Nat.le_of_ble_eq_true rfl) rfl rfl rfl (t_57 _ _) (Nat.le_of_ble_eq_true rfl) ?_
                refine c_its (w := 4) (by omega) (by decide) ?_
                rw [hA6.rd (i := w) (c := 4) (by omega) (by decide)]
                refine gwr ?_
                refine g_aload_n m164_126 rfl ?_
                refine h_gfR (c := 99) (k := 57) (p := 89) m164_127 rfl (t_57 _ _) rfl (Nat.le_of_ble_eq_true rfl) ?_
                refine g_iload m164_130 rfl ?_
                refine h_ial (k := 67) (p := 99) (j := w) m164_132 rfl (t_67 _ _) (rfl) (by omega) (Nat.le_of_ble_eq_true rfl) ((hA6.out (by decide) (fun z => by rcases z with z | z <;> omega)).trans (hdM_r _ _ q (by omega))) ?_
                refine h_ic_le (xi := _) (zi := _) m164_133 rfl rfl (fun c2 => ?_) (fun c2 => ?_)
                · skip
                  refine g_iconst m164_143 ?_
                  refine g_ior (u := nI (bitsF (fun q => !(decide (q = ja)) && decide ((stepN (rkF (m 58)) (rbF (m 58)) (vr (m 58)) jv 6 q).toInt < (stepN (rkF (m 58)) (rbF (m 58)) (upm (vr (m 58)) 5 ja 0) jv 6 q).toInt)) w)) m164_144 (or_z _) ?_
                  refine g_istore_n (L2 := [some (.ref (89)), some (.int (nI (ja))), some (.int (nI (jv))), some (.int (nI (bitsF (fun q => !(decide (q = ja)) && decide ((stepN (rkF (m 58)) (rbF (m 58)) (vr (m 58)) jv 6 q).toInt < (stepN (rkF (m 58)) (rbF (m 58)) (upm (vr (m 58)) 5 ja 0) jv 6 q).toInt)) w))), some (.int (nI (w)))]) m164_145 rfl rfl ?_
                  refine g_iinc (L2 := [some (.ref (89)), some (.int (nI (ja))), some (.int (nI (jv))), some (.int (nI (bitsF (fun q => !(decide (q = ja)) && decide ((stepN (rkF (m 58)) (rbF (m 58)) (vr (m 58)) jv 6 q).toInt < (stepN (rkF (m 58)) (rbF (m 58)) (upm (vr (m 58)) 5 ja 0) jv 6 q).toInt)) w))), some (.int (nI (w + 1)))]) m164_146 rfl (nI_1 _) rfl rfl ?_
                  refine g_goto m164_149 ?_
                  have e : bitsF (fun q => !(decide (q = ja)) && decide ((stepN (rkF (m 58)) (rbF (m 58)) (vr (m 58)) jv 6 q).toInt < (stepN (rkF (m 58)) (rbF (m 58)) (upm (vr (m 58)) 5 ja 0) jv 6 q).toInt)) (w + 1) = bitsF (fun q => !(decide (q = ja)) && decide ((stepN (rkF (m 58)) (rbF (m 58)) (vr (m 58)) jv 6 q).toInt < (stepN (rkF (m 58)) (rbF (m 58)) (upm (vr (m 58)) 5 ja 0) jv 6 q).toInt)) w := bits_n (by
                    show ¬ (!(decide (w = ja)) && decide _) = true
                    by_cases e0 : w = ja
                    · rw [decide_eq_true e0]
                      simp
                    · rw [decide_eq_false (p := _ < _) (Int.not_lt.mpr (by first | exact c2 | (exfalso; omega)))]
                      simp)
                  have h9 := ih (w + 1) (by omega)
                  rw [e] at h9
                  exact h9
                · skip
                  refine g_iconst m164_136 ?_
                  refine g_iload m164_137 rfl ?_
                  refine g_ishl m164_139 rfl ?_
                  refine g_goto m164_140 ?_
                  refine g_ior (u := nI (bitsF (fun q => !(decide (q = ja)) && decide ((stepN (rkF (m 58)) (rbF (m 58)) (vr (m 58)) jv 6 q).toInt < (stepN (rkF (m 58)) (rbF (m 58)) (upm (vr (m 58)) 5 ja 0) jv 6 q).toInt)) w + 2 ^ w)) m164_144 (bit_or w (by omega) _ (hb w)) ?_
                  refine g_istore_n (L2 := [some (.ref (89)), some (.int (nI (ja))), some (.int (nI (jv))), some (.int (nI (bitsF (fun q => !(decide (q = ja)) && decide ((stepN (rkF (m 58)) (rbF (m 58)) (vr (m 58)) jv 6 q).toInt < (stepN (rkF (m 58)) (rbF (m 58)) (upm (vr (m 58)) 5 ja 0) jv 6 q).toInt)) w + 2 ^ w))), some (.int (nI (w)))]) m164_145 rfl rfl ?_
                  refine g_iinc (L2 := [some (.ref (89)), some (.int (nI (ja))), some (.int (nI (jv))), some (.int (nI (bitsF (fun q => !(decide (q = ja)) && decide ((stepN (rkF (m 58)) (rbF (m 58)) (vr (m 58)) jv 6 q).toInt < (stepN (rkF (m 58)) (rbF (m 58)) (upm (vr (m 58)) 5 ja 0) jv 6 q).toInt)) w + 2 ^ w))), some (.int (nI (w + 1)))]) m164_146 rfl (nI_1 _) rfl rfl ?_
                  refine g_goto m164_149 ?_
                  have h8 : ¬ ((stepN (rkF (m 58)) (rbF (m 58)) (upm (vr (m 58)) 5 ja 0) jv) (2 + 4) w).toInt ≤ ((stepN (rkF (m 58)) (rbF (m 58)) (vr (m 58)) jv) 6 w).toInt := c2
                  have e : bitsF (fun q => !(decide (q = ja)) && decide ((stepN (rkF (m 58)) (rbF (m 58)) (vr (m 58)) jv 6 q).toInt < (stepN (rkF (m 58)) (rbF (m 58)) (upm (vr (m 58)) 5 ja 0) jv 6 q).toInt)) (w + 1) = bitsF (fun q => !(decide (q = ja)) && decide ((stepN (rkF (m 58)) (rbF (m 58)) (vr (m 58)) jv 6 q).toInt < (stepN (rkF (m 58)) (rbF (m 58)) (upm (vr (m 58)) 5 ja 0) jv 6 q).toInt)) w + 2 ^ w := bits_y (by show (!(decide (w = ja)) && decide _) = true; rw [decide_eq_false (show ¬ w = ja by omega), decide_eq_true (Int.not_le.mp h8)]; rfl)
                  have h9 := ih (w + 1) (by omega)
                  rw [e] at h9
                  exact h9
          exact key2 q 0 (by omega)
        | succ r ih =>
          intro q m3 hq hA3
          refine g_iload_n m164_44 rfl ?_
          refine g_aload_n m164_45 rfl ?_
          refine h_gfR (c := 90) (k := 57) (p := 89) m164_46 rfl (t_57 _ _) rfl (Nat.le_of_ble_eq_true rfl) ?_
          refine g_iconst m164_49 ?_
          refine h_ial (k := 58) (p := 90) (j := 2) m164_50 rfl (t_58 _ _) (rfl) (by omega) (Nat.le_of_ble_eq_true rfl) (hA3.r2.trans ((stepN_0 _ _ _ (by decide) jv).trans hd)) ?_
          refine h_ic_geF (xi := ((q : Nat) : Int)) (zi := ((n : Nat) : Int)) m164_51 (nI_toInt (by omega)) (nI_toInt (by omega)) (by omega) ?_
          refine g_aload_n m164_54 rfl ?_
          refine h_gfR (c := 99) (k := 57) (p := 89) m164_55 rfl (t_57 _ _) rfl (Nat.le_of_ble_eq_true rfl) ?_
          refine g_iload_n m164_58 rfl ?_
          refine g_aload_n m164_59 rfl ?_
          refine g_iload_n m164_60 rfl ?_
          refine g_iconst m164_61 ?_
          refine h_cv (k := 57) (p := 89) (args := [.int (nI (q)), .int (4)]) (rest := [.int (nI (q)), .ref (99)]) m164_62 cn_111 (Nat.le_of_ble_eq_true rfl) rfl rfl rfl (t_57 _ _) (Nat.le_of_ble_eq_true rfl) ?_
          refine c_its (w := 4) (by omega) (by decide) ?_
          rw [hA3.rd (i := q) (c := 4) (by omega) (by decide)]
          refine gwr ?_
          refine h_ias (k := 67) (p := 99) (j := q) m164_65 rfl (t_67 _ _) (rfl) (by omega) (Nat.le_of_ble_eq_true rfl) ?_
          refine g_iinc (L2 := [some (.ref (89)), some (.int (nI (ja))), some (.int (nI (jv))), some (.int (nI (q + 1))), none]) m164_66 rfl (nI_1 _) rfl rfl ?_
          refine g_goto m164_69 ?_
          exact ih (q + 1) _ (by omega) (hA3.upo (by decide) q _)
      exact key n 0 _ (by omega) hA2
    · skip
      refine gwr ?_
      refine h_if_neT (xi := 0) (zi := 0) m164_15 rfl rfl (by decide) ?_
      refine g_aload_n m164_18 rfl ?_
      refine g_ldci m164_19 rfl ?_
      refine h_cv (k := 57) (p := 89) (args := [.int (-1000000001)]) (rest := []) m164_21 cn_108 (Nat.le_of_ble_eq_true rfl) rfl rfl rfl (t_57 _ _) (Nat.le_of_ble_eq_true rfl) ?_
      refine c_errs (e := 1) (by decide) (by decide) (by decide) ?_
      refine gwr ?_
      refine g_iret m164_24 rt_164 ?_
      exact hE1 (by omega)
  · skip
    refine gwr ?_
    refine h_if_eqT (xi := 0) (zi := 0) m164_5 rfl rfl (by decide) ?_
    refine g_aload_n m164_18 rfl ?_
    refine g_ldci m164_19 rfl ?_
    refine h_cv (k := 57) (p := 89) (args := [.int (-1000000001)]) (rest := []) m164_21 cn_108 (Nat.le_of_ble_eq_true rfl) rfl rfl rfl (t_57 _ _) (Nat.le_of_ble_eq_true rfl) ?_
    refine c_errs (e := 1) (by decide) (by decide) (by decide) ?_
    refine gwr ?_
    refine g_iret m164_24 rt_164 ?_
    exact hE1 (by omega)
set_option maxRecDepth 20000 in
set_option maxHeartbeats 40000000 in
theorem x_move {a i c e w : Int32} {B Ln : Nat → Nat} (hB : ∀ s, s < 4 → (B s = 0 ∨ B s = 8 ∨ B s = 16 ∨ B s = 32) ∧ Ln s ≤ 40 ∧ m (48 + 2 * s) 0 = nI (B s) ∧ m (48 + 2 * s) 1 = nI (Ln s)) (hE1 : ((a.toInt < 0 ∨ 3 < a.toInt ∨ c.toInt < 0 ∨ 3 < c.toInt) ∨ (∃ s o : Nat, a = nI s ∧ s < 4 ∧ c = nI o ∧ o < 4 ∧ B s ≠ 0 ∧ B s = B o ∧ (w.toInt < 0 ∨ i.toInt < 0 ∨ e.toInt < 0 ∨ (Ln s : Int) - w.toInt < i.toInt ∨ (Ln o : Int) - w.toInt < e.toInt))) → Q (some (.int (-1000000000 - nI 1))) (H (erm m 1) ln N)) (hE2 : (∃ s o : Nat, a = nI s ∧ s < 4 ∧ c = nI o ∧ o < 4 ∧ (B s = 0 ∨ B o = 0)) → Q (some (.int (-1000000000 - nI 2))) (H (erm m 2) ln N)) (hE5 : (∃ s o : Nat, a = nI s ∧ s < 4 ∧ c = nI o ∧ o < 4 ∧ B s ≠ 0 ∧ B o ≠ 0 ∧ B s ≠ B o) → Q (some (.int (-1000000000 - nI 5))) (H (erm m 5) ln N)) (hY : ∀ s o i2 e2 k : Nat, a = nI s → s < 4 → c = nI o → o < 4 → B s ≠ 0 → B s = B o → i = nI i2 → e = nI e2 → w = nI k → i2 + k ≤ Ln s → e2 + k ≤ Ln o → Q (some (.int (nI k))) (H (cpy m (49 + 2 * s) (49 + 2 * o) i2 e2 k) ln N)) : WP xs (d + 2) 97 0 0 [.ref (32), .int (a), .int (i), .int (c), .int (e), .int (w)] (H m ln N) Q := by
  refine wp_x mx_97 (L := [some (.ref (32)), some (.int (a)), some (.int (i)), some (.int (c)), some (.int (e)), some (.int (w)), none, none]) (Nat.le_of_ble_eq_true rfl) rfl ?_
  have hwb := Int32.toInt_lt w
  refine g_iload_n m97_0 rfl ?_
  refine g_iconst m97_1 ?_
  refine g_cs (args := [.int (a), .int (3)]) (rest := []) 0 (Or.inl rfl) m97_2 (Nat.le_of_ble_eq_true rfl) rfl rfl (Nat.le_of_ble_eq_true rfl) ?_
  refine c_within (M := 3) rfl (fun ja ea a_3 => ?_) (fun a_3 => ?_)
  · subst ea
    refine gwr ?_
    refine h_if_eqF (xi := 1) (zi := 0) m97_5 rfl rfl (by decide) ?_
    refine g_iload_n m97_8 rfl ?_
    refine g_iconst m97_9 ?_
    refine g_cs (args := [.int (c), .int (3)]) (rest := []) 0 (Or.inl rfl) m97_10 (Nat.le_of_ble_eq_true rfl) rfl rfl (Nat.le_of_ble_eq_true rfl) ?_
    refine c_within (M := 3) rfl (fun jc ec a_4 => ?_) (fun a_4 => ?_)
    · subst ec
      refine gwr ?_
      refine h_if_neF (xi := 1) (zi := 0) m97_13 rfl rfl (by decide) ?_
      refine g_aload_n m97_22 rfl ?_
      refine h_gfR (c := 79) (k := 0) (p := 32) m97_23 rfl (t_0 _ _) rfl (Nat.le_of_ble_eq_true rfl) ?_
      refine g_iload_n m97_26 rfl ?_
      have hs : ja < 4 := by omega
      have hs_ja : ja < 4 := by omega
      have hBa := hB ja hs
      refine h_aald (j := ja) (c := 80 + 2 * ja) m97_27 rfl (t_47 _ _) (rfl) (sh_at hs) (le3 (Nat.le_of_ble_eq_true rfl)) (Nat.le_of_ble_eq_true rfl) ?_
      refine g_astore (L2 := [some (.ref (32)), some (.int (nI (ja))), some (.int (i)), some (.int (nI (jc))), some (.int (e)), some (.int (w)), some (.ref (80 + 2 * ja)), none]) m97_28 rfl rfl ?_
      refine g_aload_n m97_30 rfl ?_
      refine h_gfR (c := 79) (k := 0) (p := 32) m97_31 rfl (t_0 _ _) rfl (Nat.le_of_ble_eq_true rfl) ?_
      refine g_iload_n m97_34 rfl ?_
      have hs : jc < 4 := by omega
      have hs_jc : jc < 4 := by omega
      have hBc := hB jc hs
      refine h_aald (j := jc) (c := 80 + 2 * jc) m97_35 rfl (t_47 _ _) (rfl) (sh_at hs) (le3 (Nat.le_of_ble_eq_true rfl)) (Nat.le_of_ble_eq_true rfl) ?_
      refine g_astore (L2 := [some (.ref (32)), some (.int (nI (ja))), some (.int (i)), some (.int (nI (jc))), some (.int (e)), some (.int (w)), some (.ref (80 + 2 * ja)), some (.ref (80 + 2 * jc))]) m97_36 rfl rfl ?_
      refine g_aload m97_38 rfl ?_
      refine h_gfI (k := 48 + 2 * ja) (p := 80 + 2 * ja) m97_40 (pSo _) (tSo hs_ja) rfl (hBa.2.2.1) ?_
      refine h_if_eq (xi := ((B ja : Nat) : Int)) (zi := 0) m97_43 (nI_toInt (by omega)) rfl (fun c1 => ?_) (fun c1 => ?_)
      · skip
        refine g_aload_n m97_54 rfl ?_
        refine g_iconst m97_55 ?_
        refine h_cv (k := 0) (p := 32) (args := [.int (2)]) (rest := []) m97_56 cn_55 (Nat.le_of_ble_eq_true rfl) rfl rfl rfl (t_0 _ _) (Nat.le_of_ble_eq_true rfl) ?_
        refine c_error (e := 2) (by decide) (by decide) ?_
        refine gwr ?_
        refine g_iret m97_59 rt_97 ?_
        exact hE2 ⟨ja, jc, rfl, by omega, rfl, by omega, by omega⟩
      · skip
        refine g_aload m97_46 rfl ?_
        refine h_gfI (k := 48 + 2 * jc) (p := 80 + 2 * jc) m97_48 (pSo _) (tSo hs_jc) rfl (hBc.2.2.1) ?_
        refine h_if_ne (xi := ((B jc : Nat) : Int)) (zi := 0) m97_51 (nI_toInt (by omega)) rfl (fun c2 => ?_) (fun c2 => ?_)
        · skip
          refine g_aload_n m97_54 rfl ?_
          refine g_iconst m97_55 ?_
          refine h_cv (k := 0) (p := 32) (args := [.int (2)]) (rest := []) m97_56 cn_55 (Nat.le_of_ble_eq_true rfl) rfl rfl rfl (t_0 _ _) (Nat.le_of_ble_eq_true rfl) ?_
          refine c_error (e := 2) (by decide) (by decide) ?_
          refine gwr ?_
          refine g_iret m97_59 rt_97 ?_
          exact hE2 ⟨ja, jc, rfl, by omega, rfl, by omega, by omega⟩
        · skip
          refine g_aload m97_60 rfl ?_
          refine h_gfI (k := 48 + 2 * ja) (p := 80 + 2 * ja) m97_62 (pSo _) (tSo hs_ja) rfl (hBa.2.2.1) ?_
          refine g_aload m97_65 rfl ?_
          refine h_gfI (k := 48 + 2 * jc) (p := 80 + 2 * jc) m97_67 (pSo _) (tSo hs_jc) rfl (hBc.2.2.1) ?_
          refine h_ic_eq (xi := ((B ja : Nat) : Int)) (zi := ((B jc : Nat) : Int)) m97_70 (nI_toInt (by omega)) (nI_toInt (by omega)) (fun c3 => ?_) (fun c3 => ?_)
          · skip
            refine g_iload m97_79 rfl ?_
            refine h_if_lt (xi := w.toInt) (zi := 0) m97_81 rfl rfl (fun c4 => ?_) (fun c4 => ?_)
            · skip
              refine g_aload_n m97_118 rfl ?_
              refine g_iconst m97_119 ?_
              refine h_cv (k := 0) (p := 32) (args := [.int (1)]) (rest := []) m97_120 cn_55 (Nat.le_of_ble_eq_true rfl) rfl rfl rfl (t_0 _ _) (Nat.le_of_ble_eq_true rfl) ?_
              refine c_error (e := 1) (by decide) (by decide) ?_
              refine gwr ?_
              refine g_iret m97_123 rt_97 ?_
              first | (exact hE1 (Or.inl (by omega))) | (exact hE1 (Or.inr ⟨ja, jc, rfl, by omega, rfl, by omega, by omega, by omega, by omega⟩))
            · skip
              refine g_iload_n m97_84 rfl ?_
              refine h_if_lt (xi := i.toInt) (zi := 0) m97_85 rfl rfl (fun c5 => ?_) (fun c5 => ?_)
              · skip
                refine g_aload_n m97_118 rfl ?_
                refine g_iconst m97_119 ?_
                refine h_cv (k := 0) (p := 32) (args := [.int (1)]) (rest := []) m97_120 cn_55 (Nat.le_of_ble_eq_true rfl) rfl rfl rfl (t_0 _ _) (Nat.le_of_ble_eq_true rfl) ?_
                refine c_error (e := 1) (by decide) (by decide) ?_
                refine gwr ?_
                refine g_iret m97_123 rt_97 ?_
                first | (exact hE1 (Or.inl (by omega))) | (exact hE1 (Or.inr ⟨ja, jc, rfl, by omega, rfl, by omega, by omega, by omega, by omega⟩))
              · skip
                refine g_iload m97_88 rfl ?_
                refine h_if_lt (xi := e.toInt) (zi := 0) m97_90 rfl rfl (fun c6 => ?_) (fun c6 => ?_)
                · skip
                  refine g_aload_n m97_118 rfl ?_
                  refine g_iconst m97_119 ?_
                  refine h_cv (k := 0) (p := 32) (args := [.int (1)]) (rest := []) m97_120 cn_55 (Nat.le_of_ble_eq_true rfl) rfl rfl rfl (t_0 _ _) (Nat.le_of_ble_eq_true rfl) ?_
                  refine c_error (e := 1) (by decide) (by decide) ?_
                  refine gwr ?_
                  refine g_iret m97_123 rt_97 ?_
                  first | (exact hE1 (Or.inl (by omega))) | (exact hE1 (Or.inr ⟨ja, jc, rfl, by omega, rfl, by omega, by omega, by omega, by omega⟩))
                · skip
                  refine g_iload_n m97_93 rfl ?_
                  refine g_aload m97_94 rfl ?_
                  refine h_gfI (k := 48 + 2 * ja) (p := 80 + 2 * ja) m97_96 (pSo _) (tSo hs_ja) rfl (hBa.2.2.2) ?_
                  refine g_iload m97_99 rfl ?_
                  refine g_isub m97_101 rfl ?_
                  refine h_ic_gt (xi := i.toInt) (zi := (((Ln ja : Nat) : Int) - w.toInt)) m97_102 rfl (sub_k (a := ((Ln ja : Nat) : Int)) (nI_toInt (by omega)) rfl (by omega) (by omega)) (fun c7 => ?_) (fun c7 => ?_)
                  · skip
                    refine g_aload_n m97_118 rfl ?_
                    refine g_iconst m97_119 ?_
                    refine h_cv (k := 0) (p := 32) (args := [.int (1)]) (rest := []) m97_120 cn_55 (Nat.le_of_ble_eq_true rfl) rfl rfl rfl (t_0 _ _) (Nat.le_of_ble_eq_true rfl) ?_
                    refine c_error (e := 1) (by decide) (by decide) ?_
                    refine gwr ?_
                    refine g_iret m97_123 rt_97 ?_
                    first | (exact hE1 (Or.inl (by omega))) | (exact hE1 (Or.inr ⟨ja, jc, rfl, by omega, rfl, by omega, by omega, by omega, by omega⟩))
                  · skip
                    refine g_iload m97_105 rfl ?_
                    refine g_aload m97_107 rfl ?_
                    refine h_gfI (k := 48 + 2 * jc) (p := 80 + 2 * jc) m97_109 (pSo _) (tSo hs_jc) rfl (hBc.2.2.2) ?_
                    refine g_iload m97_112 rfl ?_
                    refine g_isub m97_114 rfl ?_
                    refine h_ic_le (xi := e.toInt) (zi := (((Ln jc : Nat) : Int) - w.toInt)) m97_115 rfl (sub_k (a := ((Ln jc : Nat) : Int)) (nI_toInt (by omega)) rfl (by omega) (by omega)) (fun c8 => ?_) (fun c8 => ?_)
                    · skip
                      obtain ⟨ji, ⟨hi1, hi2⟩, hi3⟩ := nat_of (x := i) (lo := 0) (hi := Ln ja) (by omega) (by omega)
                      have ki : i.toInt = (ji : Int) := by rw [hi3]; exact nI_toInt (by omega)
                      obtain ⟨je, ⟨he1, he2⟩, he3⟩ := nat_of (x := e) (lo := 0) (hi := Ln jc) (by omega) (by omega)
                      have ke : e.toInt = (je : Int) := by rw [he3]; exact nI_toInt (by omega)
                      obtain ⟨jw, ⟨hw1, hw2⟩, hw3⟩ := nat_of (x := w) (lo := 0) (hi := Ln ja) (by omega) (by omega)
                      have kw : w.toInt = (jw : Int) := by rw [hw3]; exact nI_toInt (by omega)
                      obtain rfl : i = nI ji := hi3
                      obtain rfl : e = nI je := he3
                      obtain rfl : w = nI jw := hw3
                      refine g_aload m97_124 rfl ?_
                      refine h_gfR (c := 81 + 2 * ja) (k := 48 + 2 * ja) (p := 80 + 2 * ja) m97_126 (pSo _) (tSo (show ja < 4 by omega)) rfl (le3 (Nat.le_of_ble_eq_true rfl)) ?_
                      refine g_iload_n m97_129 rfl ?_
                      refine g_aload m97_130 rfl ?_
                      refine h_gfR (c := 81 + 2 * jc) (k := 48 + 2 * jc) (p := 80 + 2 * jc) m97_132 (pSo _) (tSo (show jc < 4 by omega)) rfl (le3 (Nat.le_of_ble_eq_true rfl)) ?_
                      refine g_iload m97_135 rfl ?_
                      refine g_iload m97_137 rfl ?_
                      refine h_acp (kd := 0) (k1 := 49 + 2 * ja) (k2 := 49 + 2 * jc) (p := 81 + 2 * ja) (q := 81 + 2 * jc) (sp := ji) (dp := je) (c := jw) m97_139 (pSn _) (pSn _) (tSn (show ja < 4 by omega)) (tSn (show jc < 4 by omega)) (Or.inl rfl) (Nat.le_of_ble_eq_true rfl) (Nat.le_of_ble_eq_true rfl) (by omega) (by omega) (fun q => absurd q (by decide)) (Nat.le_of_ble_eq_true rfl) ?_
                      refine g_iload m97_142 rfl ?_
                      refine g_iret m97_144 rt_97 ?_
                      exact hY ja jc ji je jw rfl (by omega) rfl (by omega) (by omega) (by omega) rfl rfl rfl (by omega) (by omega)
                    · skip
                      refine g_aload_n m97_118 rfl ?_
                      refine g_iconst m97_119 ?_
                      refine h_cv (k := 0) (p := 32) (args := [.int (1)]) (rest := []) m97_120 cn_55 (Nat.le_of_ble_eq_true rfl) rfl rfl rfl (t_0 _ _) (Nat.le_of_ble_eq_true rfl) ?_
                      refine c_error (e := 1) (by decide) (by decide) ?_
                      refine gwr ?_
                      refine g_iret m97_123 rt_97 ?_
                      first | (exact hE1 (Or.inl (by omega))) | (exact hE1 (Or.inr ⟨ja, jc, rfl, by omega, rfl, by omega, by omega, by omega, by omega⟩))
          · skip
            refine g_aload_n m97_73 rfl ?_
            refine g_iconst m97_74 ?_
            refine h_cv (k := 0) (p := 32) (args := [.int (5)]) (rest := []) m97_75 cn_55 (Nat.le_of_ble_eq_true rfl) rfl rfl rfl (t_0 _ _) (Nat.le_of_ble_eq_true rfl) ?_
            refine c_error (e := 5) (by decide) (by decide) ?_
            refine gwr ?_
            refine g_iret m97_78 rt_97 ?_
            exact hE5 ⟨ja, jc, rfl, by omega, rfl, by omega, by omega, by omega, by omega⟩
    · skip
      refine gwr ?_
      refine h_if_neT (xi := 0) (zi := 0) m97_13 rfl rfl (by decide) ?_
      refine g_aload_n m97_16 rfl ?_
      refine g_iconst m97_17 ?_
      refine h_cv (k := 0) (p := 32) (args := [.int (1)]) (rest := []) m97_18 cn_55 (Nat.le_of_ble_eq_true rfl) rfl rfl rfl (t_0 _ _) (Nat.le_of_ble_eq_true rfl) ?_
      refine c_error (e := 1) (by decide) (by decide) ?_
      refine gwr ?_
      refine g_iret m97_21 rt_97 ?_
      first | (exact hE1 (Or.inl (by omega))) | (exact hE1 (Or.inr ⟨ja, jc, rfl, by omega, rfl, by omega, by omega, by omega, by omega⟩))
  · skip
    refine gwr ?_
    refine h_if_eqT (xi := 0) (zi := 0) m97_5 rfl rfl (by decide) ?_
    refine g_aload_n m97_16 rfl ?_
    refine g_iconst m97_17 ?_
    refine h_cv (k := 0) (p := 32) (args := [.int (1)]) (rest := []) m97_18 cn_55 (Nat.le_of_ble_eq_true rfl) rfl rfl rfl (t_0 _ _) (Nat.le_of_ble_eq_true rfl) ?_
    refine c_error (e := 1) (by decide) (by decide) ?_
    refine gwr ?_
    refine g_iret m97_21 rt_97 ?_
    first | (exact hE1 (Or.inl (by omega))) | (exact hE1 (Or.inr ⟨ja, jc, rfl, by omega, rfl, by omega, by omega, by omega, by omega⟩))
set_option maxRecDepth 20000 in
set_option maxHeartbeats 40000000 in
theorem m_move {a i c e w : Int32} {B Ln : Nat → Nat} (hB : ∀ s, s < 4 → (B s = 0 ∨ B s = 8 ∨ B s = 16 ∨ B s = 32) ∧ Ln s ≤ 40 ∧ m 63 s = nI (B s) ∧ m 64 s = nI (Ln s)) (hE1 : ((a.toInt < 0 ∨ 3 < a.toInt ∨ c.toInt < 0 ∨ 3 < c.toInt) ∨ (∃ s o : Nat, a = nI s ∧ s < 4 ∧ c = nI o ∧ o < 4 ∧ B s ≠ 0 ∧ B s = B o ∧ (w.toInt < 0 ∨ i.toInt < 0 ∨ e.toInt < 0 ∨ (Ln s : Int) - w.toInt < i.toInt ∨ (Ln o : Int) - w.toInt < e.toInt))) → Q (some (.int (-1000000001))) (H (ers m 1) ln N)) (hE2 : (∃ s o : Nat, a = nI s ∧ s < 4 ∧ c = nI o ∧ o < 4 ∧ (B s = 0 ∨ B o = 0)) → Q (some (.int (-1000000002))) (H (ers m 2) ln N)) (hE5 : (∃ s o : Nat, a = nI s ∧ s < 4 ∧ c = nI o ∧ o < 4 ∧ B s ≠ 0 ∧ B o ≠ 0 ∧ B s ≠ B o) → Q (some (.int (-1000000005))) (H (ers m 5) ln N)) (hY : ∀ s o i2 e2 k : Nat, a = nI s → s < 4 → c = nI o → o < 4 → B s ≠ 0 → B s = B o → i = nI i2 → e = nI e2 → w = nI k → i2 + k ≤ Ln s → e2 + k ≤ Ln o → Q (some (.int (nI k))) (H (mvB (mvA m (40 * s + i2) k) (40 * o + e2) k) ln N)) : WP xs (d + 3) 181 0 0 [.ref (89), .int (a), .int (i), .int (c), .int (e), .int (w)] (H m ln N) Q := by
  refine wp_x mx_181 (L := [some (.ref (89)), some (.int (a)), some (.int (i)), some (.int (c)), some (.int (e)), some (.int (w)), none]) (Nat.le_of_ble_eq_true rfl) rfl ?_
  have hwb := Int32.toInt_lt w
  refine g_iload_n m181_0 rfl ?_
  refine g_cs (args := [.int (a)]) (rest := []) 0 (Or.inl rfl) m181_1 (Nat.le_of_ble_eq_true rfl) rfl rfl (Nat.le_of_ble_eq_true rfl) ?_
  refine c_isSheet (fun ja ea a_5 => ?_) (fun a_5 => ?_)
  · subst ea
    refine gwr ?_
    refine h_if_eqF (xi := 1) (zi := 0) m181_4 rfl rfl (by decide) ?_
    refine g_iload_n m181_7 rfl ?_
    refine g_cs (args := [.int (c)]) (rest := []) 0 (Or.inl rfl) m181_8 (Nat.le_of_ble_eq_true rfl) rfl rfl (Nat.le_of_ble_eq_true rfl) ?_
    refine c_isSheet (fun jc ec a_6 => ?_) (fun a_6 => ?_)
    · subst ec
      refine gwr ?_
      refine h_if_neF (xi := 1) (zi := 0) m181_11 rfl rfl (by decide) ?_
      refine g_aload_n m181_21 rfl ?_
      refine h_gfR (c := 95) (k := 57) (p := 89) m181_22 rfl (t_57 _ _) rfl (Nat.le_of_ble_eq_true rfl) ?_
      refine g_iload_n m181_25 rfl ?_
      have hs : ja < 4 := by omega
      have hs_ja : ja < 4 := by omega
      have hBa := hB ja hs
      refine h_ial (k := 63) (p := 95) (j := ja) m181_26 rfl (t_63 _ _) (rfl) (by omega) (Nat.le_of_ble_eq_true rfl) (hBa.2.2.1) ?_
      refine h_if_eq (xi := ((B ja : Nat) : Int)) (zi := 0) m181_27 (nI_toInt (by omega)) rfl (fun c1 => ?_) (fun c1 => ?_)
      · skip
        refine g_aload_n m181_39 rfl ?_
        refine g_ldci m181_40 rfl ?_
        refine h_cv (k := 57) (p := 89) (args := [.int (-1000000002)]) (rest := []) m181_42 cn_108 (Nat.le_of_ble_eq_true rfl) rfl rfl rfl (t_57 _ _) (Nat.le_of_ble_eq_true rfl) ?_
        refine c_errs (e := 2) (by decide) (by decide) (by decide) ?_
        refine gwr ?_
        refine g_iret m181_45 rt_181 ?_
        exact hE2 ⟨ja, jc, rfl, by omega, rfl, by omega, by omega⟩
      · skip
        refine g_aload_n m181_30 rfl ?_
        refine h_gfR (c := 95) (k := 57) (p := 89) m181_31 rfl (t_57 _ _) rfl (Nat.le_of_ble_eq_true rfl) ?_
        refine g_iload_n m181_34 rfl ?_
        have hs : jc < 4 := by omega
        have hs_jc : jc < 4 := by omega
        have hBc := hB jc hs
        refine h_ial (k := 63) (p := 95) (j := jc) m181_35 rfl (t_63 _ _) (rfl) (by omega) (Nat.le_of_ble_eq_true rfl) (hBc.2.2.1) ?_
        refine h_if_ne (xi := ((B jc : Nat) : Int)) (zi := 0) m181_36 (nI_toInt (by omega)) rfl (fun c2 => ?_) (fun c2 => ?_)
        · skip
          refine g_aload_n m181_39 rfl ?_
          refine g_ldci m181_40 rfl ?_
          refine h_cv (k := 57) (p := 89) (args := [.int (-1000000002)]) (rest := []) m181_42 cn_108 (Nat.le_of_ble_eq_true rfl) rfl rfl rfl (t_57 _ _) (Nat.le_of_ble_eq_true rfl) ?_
          refine c_errs (e := 2) (by decide) (by decide) (by decide) ?_
          refine gwr ?_
          refine g_iret m181_45 rt_181 ?_
          exact hE2 ⟨ja, jc, rfl, by omega, rfl, by omega, by omega⟩
        · skip
          refine g_aload_n m181_46 rfl ?_
          refine h_gfR (c := 95) (k := 57) (p := 89) m181_47 rfl (t_57 _ _) rfl (Nat.le_of_ble_eq_true rfl) ?_
          refine g_iload_n m181_50 rfl ?_
          refine h_ial (k := 63) (p := 95) (j := ja) m181_51 rfl (t_63 _ _) (rfl) (by omega) (Nat.le_of_ble_eq_true rfl) (hBa.2.2.1) ?_
          refine g_aload_n m181_52 rfl ?_
          refine h_gfR (c := 95) (k := 57) (p := 89) m181_53 rfl (t_57 _ _) rfl (Nat.le_of_ble_eq_true rfl) ?_
          refine g_iload_n m181_56 rfl ?_
          refine h_ial (k := 63) (p := 95) (j := jc) m181_57 rfl (t_63 _ _) (rfl) (by omega) (Nat.le_of_ble_eq_true rfl) (hBc.2.2.1) ?_
          refine h_ic_eq (xi := ((B ja : Nat) : Int)) (zi := ((B jc : Nat) : Int)) m181_58 (nI_toInt (by omega)) (nI_toInt (by omega)) (fun c3 => ?_) (fun c3 => ?_)
          · skip
            refine g_iload m181_68 rfl ?_
            refine h_if_lt (xi := w.toInt) (zi := 0) m181_70 rfl rfl (fun c4 => ?_) (fun c4 => ?_)
            · skip
              refine g_aload_n m181_109 rfl ?_
              refine g_ldci m181_110 rfl ?_
              refine h_cv (k := 57) (p := 89) (args := [.int (-1000000001)]) (rest := []) m181_112 cn_108 (Nat.le_of_ble_eq_true rfl) rfl rfl rfl (t_57 _ _) (Nat.le_of_ble_eq_true rfl) ?_
              refine c_errs (e := 1) (by decide) (by decide) (by decide) ?_
              refine gwr ?_
              refine g_iret m181_115 rt_181 ?_
              first | (exact hE1 (Or.inl (by omega))) | (exact hE1 (Or.inr ⟨ja, jc, rfl, by omega, rfl, by omega, by omega, by omega, by omega⟩))
            · skip
              refine g_iload_n m181_73 rfl ?_
              refine h_if_lt (xi := i.toInt) (zi := 0) m181_74 rfl rfl (fun c5 => ?_) (fun c5 => ?_)
              · skip
                refine g_aload_n m181_109 rfl ?_
                refine g_ldci m181_110 rfl ?_
                refine h_cv (k := 57) (p := 89) (args := [.int (-1000000001)]) (rest := []) m181_112 cn_108 (Nat.le_of_ble_eq_true rfl) rfl rfl rfl (t_57 _ _) (Nat.le_of_ble_eq_true rfl) ?_
                refine c_errs (e := 1) (by decide) (by decide) (by decide) ?_
                refine gwr ?_
                refine g_iret m181_115 rt_181 ?_
                first | (exact hE1 (Or.inl (by omega))) | (exact hE1 (Or.inr ⟨ja, jc, rfl, by omega, rfl, by omega, by omega, by omega, by omega⟩))
              · skip
                refine g_iload m181_77 rfl ?_
                refine h_if_lt (xi := e.toInt) (zi := 0) m181_79 rfl rfl (fun c6 => ?_) (fun c6 => ?_)
                · skip
                  refine g_aload_n m181_109 rfl ?_
                  refine g_ldci m181_110 rfl ?_
                  refine h_cv (k := 57) (p := 89) (args := [.int (-1000000001)]) (rest := []) m181_112 cn_108 (Nat.le_of_ble_eq_true rfl) rfl rfl rfl (t_57 _ _) (Nat.le_of_ble_eq_true rfl) ?_
                  refine c_errs (e := 1) (by decide) (by decide) (by decide) ?_
                  refine gwr ?_
                  refine g_iret m181_115 rt_181 ?_
                  first | (exact hE1 (Or.inl (by omega))) | (exact hE1 (Or.inr ⟨ja, jc, rfl, by omega, rfl, by omega, by omega, by omega, by omega⟩))
                · skip
                  refine g_iload_n m181_82 rfl ?_
                  refine g_aload_n m181_83 rfl ?_
                  refine h_gfR (c := 96) (k := 57) (p := 89) m181_84 rfl (t_57 _ _) rfl (Nat.le_of_ble_eq_true rfl) ?_
                  refine g_iload_n m181_87 rfl ?_
                  refine h_ial (k := 64) (p := 96) (j := ja) m181_88 rfl (t_64 _ _) (rfl) (by omega) (Nat.le_of_ble_eq_true rfl) (hBa.2.2.2) ?_
                  refine g_iload m181_89 rfl ?_
                  refine g_isub m181_91 rfl ?_
                  refine h_ic_gt (xi := i.toInt) (zi := (((Ln ja : Nat) : Int) - w.toInt)) m181_92 rfl (sub_k (a := ((Ln ja : Nat) : Int)) (nI_toInt (by omega)) rfl (by omega) (by omega)) (fun c7 => ?_) (fun c7 => ?_)
                  · skip
                    refine g_aload_n m181_109 rfl ?_
                    refine g_ldci m181_110 rfl ?_
                    refine h_cv (k := 57) (p := 89) (args := [.int (-1000000001)]) (rest := []) m181_112 cn_108 (Nat.le_of_ble_eq_true rfl) rfl rfl rfl (t_57 _ _) (Nat.le_of_ble_eq_true rfl) ?_
                    refine c_errs (e := 1) (by decide) (by decide) (by decide) ?_
                    refine gwr ?_
                    refine g_iret m181_115 rt_181 ?_
                    first | (exact hE1 (Or.inl (by omega))) | (exact hE1 (Or.inr ⟨ja, jc, rfl, by omega, rfl, by omega, by omega, by omega, by omega⟩))
                  · skip
                    refine g_iload m181_95 rfl ?_
                    refine g_aload_n m181_97 rfl ?_
                    refine h_gfR (c := 96) (k := 57) (p := 89) m181_98 rfl (t_57 _ _) rfl (Nat.le_of_ble_eq_true rfl) ?_
                    refine g_iload_n m181_101 rfl ?_
                    refine h_ial (k := 64) (p := 96) (j := jc) m181_102 rfl (t_64 _ _) (rfl) (by omega) (Nat.le_of_ble_eq_true rfl) (hBc.2.2.2) ?_
                    refine g_iload m181_103 rfl ?_
                    refine g_isub m181_105 rfl ?_
                    refine h_ic_le (xi := e.toInt) (zi := (((Ln jc : Nat) : Int) - w.toInt)) m181_106 rfl (sub_k (a := ((Ln jc : Nat) : Int)) (nI_toInt (by omega)) rfl (by omega) (by omega)) (fun c8 => ?_) (fun c8 => ?_)
                    · skip
                      refine g_iconst m181_116 ?_
                      refine g_istore (L2 := [some (.ref (89)), some (.int (nI (ja))), some (.int (i)), some (.int (nI (jc))), some (.int (e)), some (.int (w)), some (.int (0))]) m181_117 rfl rfl ?_
                      obtain ⟨ji, ⟨hi1, hi2⟩, hi3⟩ := nat_of (x := i) (lo := 0) (hi := Ln ja) (by omega) (by omega)
                      have ki : i.toInt = (ji : Int) := by rw [hi3]; exact nI_toInt (by omega)
                      obtain ⟨je, ⟨he1, he2⟩, he3⟩ := nat_of (x := e) (lo := 0) (hi := Ln jc) (by omega) (by omega)
                      have ke : e.toInt = (je : Int) := by rw [he3]; exact nI_toInt (by omega)
                      obtain ⟨jw, ⟨hw1, hw2⟩, hw3⟩ := nat_of (x := w) (lo := 0) (hi := Ln ja) (by omega) (by omega)
                      have kw : w.toInt = (jw : Int) := by rw [hw3]; exact nI_toInt (by omega)
                      obtain rfl : i = nI ji := hi3
                      obtain rfl : e = nI je := he3
                      obtain rfl : w = nI jw := hw3
                      have key : ∀ (r : Nat) (q : Nat), q + r = jw → gw xs (WP xs (d + 2)) 181 Q 119 [some (.ref (89)), some (.int (nI (ja))), some (.int (nI (ji))), some (.int (nI (jc))), some (.int (nI (je))), some (.int (nI (jw))), some (.int (nI (q)))] [] (H (mvA m (40 * ja + ji) q) ln N) 0 0 := by
                        intro r
                        induction r with
                        | zero =>
                          intro q hq
                          obtain rfl : q = jw := by omega
                          refine g_iload m181_119 rfl ?_
                          refine g_iload m181_121 rfl ?_
                          refine h_ic_geT (xi := ((q : Nat) : Int)) (zi := ((q : Nat) : Int)) m181_123 (nI_toInt (by omega)) (nI_toInt (by omega)) (by omega) ?_
                          refine g_iconst m181_153 ?_
                          refine g_istore (L2 := [some (.ref (89)), some (.int (nI (ja))), some (.int (nI (ji))), some (.int (nI (jc))), some (.int (nI (je))), some (.int (nI (q))), some (.int (0))]) m181_154 rfl rfl ?_
                          have key2 : ∀ (r : Nat) (z : Nat), z + r = q → gw xs (WP xs (d + 2)) 181 Q 156 [some (.ref (89)), some (.int (nI (ja))), some (.int (nI (ji))), some (.int (nI (jc))), some (.int (nI (je))), some (.int (nI (q))), some (.int (nI (z)))] [] (H (mvB (mvA m (40 * ja + ji) q) (40 * jc + je) z) ln N) 0 0 := by
                            intro r
                            induction r with
                            | zero =>
                              intro z hz
                              obtain rfl : z = q := by omega
                              refine g_iload m181_156 rfl ?_
                              refine g_iload m181_158 rfl ?_
                              refine h_ic_geT (xi := ((z : Nat) : Int)) (zi := ((z : Nat) : Int)) m181_160 (nI_toInt (by omega)) (nI_toInt (by omega)) (by omega) ?_
                              refine g_iload m181_191 rfl ?_
                              refine g_iret m181_193 rt_181 ?_
                              exact hY ja jc ji je z rfl (by omega) rfl (by omega) (by omega) (by omega) rfl rfl rfl (by omega) (by omega)
                            | succ r ih =>
                              intro z hz
                              refine g_iload m181_156 rfl ?_
                              refine g_iload m181_158 rfl ?_
                              refine h_ic_geF (xi := ((z : Nat) : Int)) (zi := ((q : Nat) : Int)) m181_160 (nI_toInt (by omega)) (nI_toInt (by omega)) (by omega) ?_
                              refine g_aload_n m181_163 rfl ?_
                              refine h_gfR (c := 97) (k := 57) (p := 89) m181_164 rfl (t_57 _ _) rfl (Nat.le_of_ble_eq_true rfl) ?_
                              refine g_bipush m181_167 ?_
                              refine g_iload_n m181_169 rfl ?_
                              refine g_imul (u := nI (40 * jc)) m181_170 (pk_mul 40 jc) ?_
                              refine g_iload m181_171 rfl ?_
                              refine g_iadd (u := nI ((40 * jc) + je)) m181_173 (nI_add (40 * jc) je) ?_
                              refine g_iload m181_174 rfl ?_
                              refine g_iadd (u := nI (((40 * jc) + je) + z)) m181_176 (nI_add ((40 * jc) + je) z) ?_
                              refine g_aload_n m181_177 rfl ?_
                              refine h_gfR (c := 98) (k := 57) (p := 89) m181_178 rfl (t_57 _ _) rfl (Nat.le_of_ble_eq_true rfl) ?_
                              refine g_iload m181_181 rfl ?_
                              refine h_ial (k := 66) (p := 98) (j := z) m181_183 rfl (t_66 _ _) (rfl) (by omega) (Nat.le_of_ble_eq_true rfl) (congrFun (mvB_o _ _ (by decide) z) _) ?_
                              refine h_ias (k := 65) (p := 97) (j := ((40 * jc) + je) + z) m181_184 rfl (t_65 _ _) (rfl) (by omega) (Nat.le_of_ble_eq_true rfl) ?_
                              refine g_iinc (L2 := [some (.ref (89)), some (.int (nI (ja))), some (.int (nI (ji))), some (.int (nI (jc))), some (.int (nI (je))), some (.int (nI (q))), some (.int (nI (z + 1)))]) m181_185 rfl (nI_1 _) rfl rfl ?_
                              refine g_goto m181_188 ?_
                              exact ih (z + 1) (by omega)
                          exact key2 q 0 (by omega)
                        | succ r ih =>
                          intro q hq
                          refine g_iload m181_119 rfl ?_
                          refine g_iload m181_121 rfl ?_
                          refine h_ic_geF (xi := ((q : Nat) : Int)) (zi := ((jw : Nat) : Int)) m181_123 (nI_toInt (by omega)) (nI_toInt (by omega)) (by omega) ?_
                          refine g_aload_n m181_126 rfl ?_
                          refine h_gfR (c := 98) (k := 57) (p := 89) m181_127 rfl (t_57 _ _) rfl (Nat.le_of_ble_eq_true rfl) ?_
                          refine g_iload m181_130 rfl ?_
                          refine g_aload_n m181_132 rfl ?_
                          refine h_gfR (c := 97) (k := 57) (p := 89) m181_133 rfl (t_57 _ _) rfl (Nat.le_of_ble_eq_true rfl) ?_
                          refine g_bipush m181_136 ?_
                          refine g_iload_n m181_138 rfl ?_
                          refine g_imul (u := nI (40 * ja)) m181_139 (pk_mul 40 ja) ?_
                          refine g_iload_n m181_140 rfl ?_
                          refine g_iadd (u := nI ((40 * ja) + ji)) m181_141 (nI_add (40 * ja) ji) ?_
                          refine g_iload m181_142 rfl ?_
                          refine g_iadd (u := nI (((40 * ja) + ji) + q)) m181_144 (nI_add ((40 * ja) + ji) q) ?_
                          refine h_ial (k := 65) (p := 97) (j := ((40 * ja) + ji) + q) m181_145 rfl (t_65 _ _) (rfl) (by omega) (Nat.le_of_ble_eq_true rfl) (congrFun (mvA_o m _ (by decide) q) _) ?_
                          refine h_ias (k := 66) (p := 98) (j := q) m181_146 rfl (t_66 _ _) (rfl) (by omega) (Nat.le_of_ble_eq_true rfl) ?_
                          refine g_iinc (L2 := [some (.ref (89)), some (.int (nI (ja))), some (.int (nI (ji))), some (.int (nI (jc))), some (.int (nI (je))), some (.int (nI (jw))), some (.int (nI (q + 1)))]) m181_147 rfl (nI_1 _) rfl rfl ?_
                          refine g_goto m181_150 ?_
                          exact ih (q + 1) (by omega)
                      exact key jw 0 (by omega)
                    · skip
                      refine g_aload_n m181_109 rfl ?_
                      refine g_ldci m181_110 rfl ?_
                      refine h_cv (k := 57) (p := 89) (args := [.int (-1000000001)]) (rest := []) m181_112 cn_108 (Nat.le_of_ble_eq_true rfl) rfl rfl rfl (t_57 _ _) (Nat.le_of_ble_eq_true rfl) ?_
                      refine c_errs (e := 1) (by decide) (by decide) (by decide) ?_
                      refine gwr ?_
                      refine g_iret m181_115 rt_181 ?_
                      first | (exact hE1 (Or.inl (by omega))) | (exact hE1 (Or.inr ⟨ja, jc, rfl, by omega, rfl, by omega, by omega, by omega, by omega⟩))
          · skip
            refine g_aload_n m181_61 rfl ?_
            refine g_ldci m181_62 rfl ?_
            refine h_cv (k := 57) (p := 89) (args := [.int (-1000000005)]) (rest := []) m181_64 cn_108 (Nat.le_of_ble_eq_true rfl) rfl rfl rfl (t_57 _ _) (Nat.le_of_ble_eq_true rfl) ?_
            refine c_errs (e := 5) (by decide) (by decide) (by decide) ?_
            refine gwr ?_
            refine g_iret m181_67 rt_181 ?_
            exact hE5 ⟨ja, jc, rfl, by omega, rfl, by omega, by omega, by omega, by omega⟩
    · skip
      refine gwr ?_
      refine h_if_neT (xi := 0) (zi := 0) m181_11 rfl rfl (by decide) ?_
      refine g_aload_n m181_14 rfl ?_
      refine g_ldci m181_15 rfl ?_
      refine h_cv (k := 57) (p := 89) (args := [.int (-1000000001)]) (rest := []) m181_17 cn_108 (Nat.le_of_ble_eq_true rfl) rfl rfl rfl (t_57 _ _) (Nat.le_of_ble_eq_true rfl) ?_
      refine c_errs (e := 1) (by decide) (by decide) (by decide) ?_
      refine gwr ?_
      refine g_iret m181_20 rt_181 ?_
      first | (exact hE1 (Or.inl (by omega))) | (exact hE1 (Or.inr ⟨ja, jc, rfl, by omega, rfl, by omega, by omega, by omega, by omega⟩))
  · skip
    refine gwr ?_
    refine h_if_eqT (xi := 0) (zi := 0) m181_4 rfl rfl (by decide) ?_
    refine g_aload_n m181_14 rfl ?_
    refine g_ldci m181_15 rfl ?_
    refine h_cv (k := 57) (p := 89) (args := [.int (-1000000001)]) (rest := []) m181_17 cn_108 (Nat.le_of_ble_eq_true rfl) rfl rfl rfl (t_57 _ _) (Nat.le_of_ble_eq_true rfl) ?_
    refine c_errs (e := 1) (by decide) (by decide) (by decide) ?_
    refine gwr ?_
    refine g_iret m181_20 rt_181 ?_
    first | (exact hE1 (Or.inl (by omega))) | (exact hE1 (Or.inr ⟨ja, jc, rfl, by omega, rfl, by omega, by omega, by omega, by omega⟩))
end
end
section
/-! THE REFERENCE: enough -/
section
variable {xs : List Int32} {d : Nat} {h : AH} {Q : QT} {m : MW} {ln : Nat → Nat} {N : Nat}
set_option maxRecDepth 20000 in
set_option maxHeartbeats 40000000 in
theorem m_enough {v b : Int32} {n : Nat} (hd : m 58 2 = nI n) (hn : n ≤ 8) (hX0 : TxOk (m 58) 0) (hX1 : TxOk (m 58) 1) (hWY : WF (vr (m 58))) (hE1 : (v.toInt < 1 ∨ 99 < v.toInt ∨ b.toInt < 0 ∨ 60 < b.toInt) → Q (some (.int (-1000000001))) (H (ers m 1) ln N)) (hE2 : ∀ k : Nat, b = nI k → k ≤ 60 → 1 ≤ v.toInt → v.toInt ≤ 99 → leastF (fun w => allF (fun i => decide ((stepN (rkF (m 58)) (rbF (m 58)) (upm (vr (m 58)) 0 8 (nI w)) k 4 i).toInt < v.toInt)) n) 4 1 = none → ∀ m2, FrP m m2 → Q (some (.int (-1000000002))) (H (ers m2 2) ln N)) (hY : ∀ k w : Nat, b = nI k → k ≤ 60 → 1 ≤ v.toInt → v.toInt ≤ 99 → leastF (fun w => allF (fun i => decide ((stepN (rkF (m 58)) (rbF (m 58)) (upm (vr (m 58)) 0 8 (nI w)) k 4 i).toInt < v.toInt)) n) 4 1 = some w → ∀ m2, FrP m m2 → Q (some (.int (nI w))) (H m2 ln N)) : WP xs (d + 818) 166 0 0 [.ref (89), .int (v), .int (b)] (H m ln N) Q := by
  refine wp_x mx_166 (L := [some (.ref (89)), some (.int (v)), some (.int (b)), none, none, none]) (Nat.le_of_ble_eq_true rfl) rfl ?_
  refine g_iload_n m166_0 rfl ?_
  refine g_iconst m166_1 ?_
  refine g_bipush m166_2 ?_
  refine g_cs (args := [.int (v), .int (1), .int (99)]) (rest := []) 0 (Or.inl rfl) m166_4 (Nat.le_of_ble_eq_true rfl) rfl rfl (Nat.le_of_ble_eq_true rfl) ?_
  refine c_inI (A := 1) (B := 99) (vi := v.toInt) rfl rfl rfl (fun a_1 => ?_) (fun a_1 => ?_)
  · skip
    refine gwr ?_
    refine h_if_eqF (xi := 1) (zi := 0) m166_7 rfl rfl (by decide) ?_
    refine g_iload_n m166_10 rfl ?_
    refine g_iconst m166_11 ?_
    refine g_bipush m166_12 ?_
    refine g_cs (args := [.int (b), .int (0), .int (60)]) (rest := []) 0 (Or.inl rfl) m166_14 (Nat.le_of_ble_eq_true rfl) rfl rfl (Nat.le_of_ble_eq_true rfl) ?_
    refine c_in (A := 0) (B := 60) rfl rfl (by decide) (fun jb eb a_2 a_2' => ?_) (fun a_2 => ?_)
    · subst eb
      refine gwr ?_
      refine h_if_neF (xi := 1) (zi := 0) m166_17 rfl rfl (by decide) ?_
      refine g_iconst m166_27 ?_
      refine g_istore_n (L2 := [some (.ref (89)), some (.int (v)), some (.int (nI (jb))), some (.int (0)), none, none]) m166_28 rfl rfl ?_
      refine g_iconst m166_29 ?_
      refine g_istore (L2 := [some (.ref (89)), some (.int (v)), some (.int (nI (jb))), some (.int (0)), some (.int (0)), none]) m166_30 rfl rfl ?_
      refine g_aload_n m166_32 rfl ?_
      refine g_aload_n m166_33 rfl ?_
      refine h_gfR (c := 90) (k := 57) (p := 89) m166_34 rfl (t_57 _ _) rfl (Nat.le_of_ble_eq_true rfl) ?_
      refine g_aload_n m166_37 rfl ?_
      refine h_gfR (c := 92) (k := 57) (p := 89) m166_38 rfl (t_57 _ _) rfl (Nat.le_of_ble_eq_true rfl) ?_
      refine h_cv (k := 57) (p := 89) (args := [.ref (90), .ref (92)]) (rest := []) m166_41 cn_110 (Nat.le_of_ble_eq_true rfl) rfl rfl rfl (t_57 _ _) (Nat.le_of_ble_eq_true rfl) ?_
      refine c_moveRow (k1 := 58) (k2 := 60) rfl rfl (t_58 _ _) (t_60 _ _) (by decide) ?_
      have h58 : (upmR m 60 (m 58)) 58 = m 58 := thR_58 _ _
      have hAt := thR_A m
      have hX0t : TxOk ((upmR m 60 (m 58)) 58) 0 := by rw [h58]; exact hX0
      have hX1t : TxOk ((upmR m 60 (m 58)) 58) 1 := by rw [h58]; exact hX1
      refine gwr0 ?_
      have key : ∀ (r : Nat) (w : Nat) (o5 : Option Value) (m2 : MW), w + r = 4 → FrP m m2 → m2 60 = m 58 → leastF (fun w => allF (fun i => decide ((stepN (rkF (m 58)) (rbF (m 58)) (upm (vr (m 58)) 0 8 (nI w)) jb 4 i).toInt < v.toInt)) n) r (w + 1) = leastF (fun w => allF (fun i => decide ((stepN (rkF (m 58)) (rbF (m 58)) (upm (vr (m 58)) 0 8 (nI w)) jb 4 i).toInt < v.toInt)) n) 4 1 → gw xs (WP xs (d + 817)) 166 Q 44 [some (.ref (89)), some (.int (v)), some (.int (nI (jb))), some (.int (nI (w))), some (.int (0)), o5] [] (H m2 ln N) 0 0 := by
        intro r
        induction r with
        | zero =>
          intro w o5 m2 hw hF h60 hfin
          obtain rfl : w = 4 := by omega
          refine g_iload_n m166_44 rfl ?_
          refine g_iconst m166_45 ?_
          refine h_ic_geT (xi := ((4 : Nat) : Int)) (zi := 4) m166_46 (nI_toInt (by omega)) rfl (by omega) ?_
          refine g_iload m166_131 rfl ?_
          refine h_if_eqT (xi := 0) (zi := 0) m166_133 rfl rfl (by decide) ?_
          refine g_aload_n m166_140 rfl ?_
          refine g_ldci m166_141 rfl ?_
          refine h_cv (k := 57) (p := 89) (args := [.int (-1000000002)]) (rest := []) m166_143 cn_108 (Nat.le_of_ble_eq_true rfl) rfl rfl rfl (t_57 _ _) (Nat.le_of_ble_eq_true rfl) ?_
          refine c_errs (e := 2) (by decide) (by decide) (by decide) ?_
          refine gwr ?_
          refine g_iret m166_146 rt_166 ?_
          exact hE2 jb rfl (by omega) (by omega) (by omega) hfin.symm m2 hF
        | succ r ih =>
          intro w o5 m2 hw hF h60 hfin
          have e58 := hF.row
          have hAs := AtY.self m2
          rw [e58] at hAs
          have hA1 := hAs.up8 (nI (w + 1))
          have hX0m : TxOk (m2 58) 0 := by rw [e58]; exact hX0
          have hX1m : TxOk (m2 58) 1 := by rw [e58]; exact hX1
          have hWw : WF (upm (vr (m 58)) 0 8 (nI (w + 1))) := WF_w hWY (by omega) (by omega)
          refine g_iload_n m166_44 rfl ?_
          refine g_iconst m166_45 ?_
          refine h_ic_geF (xi := ((w : Nat) : Int)) (zi := 4) m166_46 (nI_toInt (by omega)) rfl (by omega) ?_
          refine g_iload m166_49 rfl ?_
          refine h_if_neT (xi := 0) (zi := 0) m166_51 rfl rfl (by decide) ?_
          refine g_iinc (L2 := [some (.ref (89)), some (.int (v)), some (.int (nI (jb))), some (.int (nI (w + 1))), some (.int (0)), o5]) m166_54 rfl (nI_1 _) rfl rfl ?_
          refine g_aload_n m166_57 rfl ?_
          refine h_gfR (c := 90) (k := 57) (p := 89) m166_58 rfl (t_57 _ _) rfl (Nat.le_of_ble_eq_true rfl) ?_
          refine g_bipush m166_61 ?_
          refine g_iload_n m166_63 rfl ?_
          refine h_ias (k := 58) (p := 90) (j := 7) m166_64 rfl (t_58 _ _) (rfl) (by omega) (Nat.le_of_ble_eq_true rfl) ?_
          refine g_aload_n m166_65 rfl ?_
          refine g_iload_n m166_66 rfl ?_
          refine h_cv (k := 57) (p := 89) (args := [.int (nI (jb))]) (rest := []) m166_67 cn_146 (Nat.le_of_ble_eq_true rfl) rfl rfl rfl (t_57 _ _) (Nat.le_of_ble_eq_true rfl) ?_
          refine c_passes hA1 hX0m hX1m (n := jb) hWw (by omega) (fun m3 hA3 => ?_)
          rw [e58] at hA3
          have hA3 : AtY m2 (stepN (rkF (m 58)) (rbF (m 58)) (upm (vr (m 58)) 0 8 (nI (w + 1))) jb) m3 := hA3
          have hd3 : m3 58 2 = nI n := hA3.r2.trans ((stepN_0 _ _ _ (by decide) jb).trans ((upm_j _ _ (by decide)).trans hd))
          refine gwr0 ?_
          refine g_iconst m166_70 ?_
          refine g_istore (L2 := [some (.ref (89)), some (.int (v)), some (.int (nI (jb))), some (.int (nI (w + 1))), some (.int (1)), o5]) m166_71 rfl rfl ?_
          refine g_iconst m166_73 ?_
          refine g_istore (L2 := [some (.ref (89)), some (.int (v)), some (.int (nI (jb))), some (.int (nI (w + 1))), some (.int (1)), some (.int (0))]) m166_74 rfl rfl ?_
          have key2 : ∀ (r : Nat) (q : Nat) (o : Int32), q + r = n → o = (if allF (fun i => decide ((stepN (rkF (m 58)) (rbF (m 58)) (upm (vr (m 58)) 0 8 (nI (w + 1))) jb 4 i).toInt < v.toInt)) q = true then 1 else 0) → gw xs (WP xs (d + 817)) 166 Q 76 [some (.ref (89)), some (.int (v)), some (.int (nI (jb))), some (.int (nI (w + 1))), some (.int (o)), some (.int (nI (q)))] [] (H m3 ln N) 0 0 := by
            intro r
            induction r with
            | zero =>
              intro q o hq ho
              obtain rfl : q = n := by omega
              by_cases hal : allF (fun i => decide ((stepN (rkF (m 58)) (rbF (m 58)) (upm (vr (m 58)) 0 8 (nI (w + 1))) jb 4 i).toInt < v.toInt)) q = true
              · rw [if_pos hal] at ho
                subst ho
                rw [least_y (p := (fun w => allF (fun i => decide ((stepN (rkF (m 58)) (rbF (m 58)) (upm (vr (m 58)) 0 8 (nI w)) jb 4 i).toInt < v.toInt)) q)) (s := w + 1) hal] at hfin
                refine g_iload m166_76 rfl ?_
                refine g_aload_n m166_78 rfl ?_
                refine h_gfR (c := 90) (k := 57) (p := 89) m166_79 rfl (t_57 _ _) rfl (Nat.le_of_ble_eq_true rfl) ?_
                refine g_iconst m166_82 ?_
                refine h_ial (k := 58) (p := 90) (j := 2) m166_83 rfl (t_58 _ _) (rfl) (by omega) (Nat.le_of_ble_eq_true rfl) (hd3) ?_
                refine h_ic_geT (xi := ((q : Nat) : Int)) (zi := ((q : Nat) : Int)) m166_84 (nI_toInt (by omega)) (nI_toInt (by omega)) (by omega) ?_
                refine g_aload_n m166_116 rfl ?_
                refine g_aload_n m166_117 rfl ?_
                refine h_gfR (c := 92) (k := 57) (p := 89) m166_118 rfl (t_57 _ _) rfl (Nat.le_of_ble_eq_true rfl) ?_
                refine g_aload_n m166_121 rfl ?_
                refine h_gfR (c := 90) (k := 57) (p := 89) m166_122 rfl (t_57 _ _) rfl (Nat.le_of_ble_eq_true rfl) ?_
                refine h_cv (k := 57) (p := 89) (args := [.ref (92), .ref (90)]) (rest := []) m166_125 cn_110 (Nat.le_of_ble_eq_true rfl) rfl rfl rfl (t_57 _ _) (Nat.le_of_ble_eq_true rfl) ?_
                refine c_moveRow (k1 := 60) (k2 := 58) rfl rfl (t_60 _ _) (t_58 _ _) (by decide) ?_
                have e60 : m3 60 = m2 60 := funext fun j => hA3.out (by decide) (fun z => by rcases z with z | z <;> omega)
                have hF5 := hF.tr (FrP.bk (m := m2) hA3 (fun k _ _ _ => rfl) (h60.trans e58.symm))
                have h65 : (upmR m3 58 (m3 60)) 60 = m 58 := (if_neg (by decide)).trans (e60.trans h60)
                refine gwr0 ?_
                refine g_goto m166_128 ?_
                refine g_iload_n m166_44 rfl ?_
                refine g_iconst m166_45 ?_
                refine h_ic_ge (xi := ((w + 1 : Nat) : Int)) (zi := 4) m166_46 (nI_toInt (by omega)) rfl (fun c1 => ?_) (fun c1 => ?_)
                · skip
                  refine g_iload m166_131 rfl ?_
                  refine h_if_eqF (xi := 1) (zi := 0) m166_133 rfl rfl (by decide) ?_
                  refine g_iload_n m166_136 rfl ?_
                  refine g_goto m166_137 ?_
                  refine g_iret m166_146 rt_166 ?_
                  first | (exfalso; omega) | (exact hY jb (w + 1) rfl (by omega) (by omega) (by omega) hfin.symm _ hF5)
                · skip
                  refine g_iload m166_49 rfl ?_
                  refine h_if_neF (xi := 1) (zi := 0) m166_51 rfl rfl (by decide) ?_
                  refine g_iload m166_131 rfl ?_
                  refine h_if_eqF (xi := 1) (zi := 0) m166_133 rfl rfl (by decide) ?_
                  refine g_iload_n m166_136 rfl ?_
                  refine g_goto m166_137 ?_
                  refine g_iret m166_146 rt_166 ?_
                  first | (exfalso; omega) | (exact hY jb (w + 1) rfl (by omega) (by omega) (by omega) hfin.symm _ hF5)
              · rw [if_neg hal] at ho
                subst ho
                rw [least_n (p := (fun w => allF (fun i => decide ((stepN (rkF (m 58)) (rbF (m 58)) (upm (vr (m 58)) 0 8 (nI w)) jb 4 i).toInt < v.toInt)) q)) (s := w + 1) hal] at hfin
                refine g_iload m166_76 rfl ?_
                refine g_aload_n m166_78 rfl ?_
                refine h_gfR (c := 90) (k := 57) (p := 89) m166_79 rfl (t_57 _ _) rfl (Nat.le_of_ble_eq_true rfl) ?_
                refine g_iconst m166_82 ?_
                refine h_ial (k := 58) (p := 90) (j := 2) m166_83 rfl (t_58 _ _) (rfl) (by omega) (Nat.le_of_ble_eq_true rfl) (hd3) ?_
                refine h_ic_geT (xi := ((q : Nat) : Int)) (zi := ((q : Nat) : Int)) m166_84 (nI_toInt (by omega)) (nI_toInt (by omega)) (by omega) ?_
                refine g_aload_n m166_116 rfl ?_
                refine g_aload_n m166_117 rfl ?_
                refine h_gfR (c := 92) (k := 57) (p := 89) m166_118 rfl (t_57 _ _) rfl (Nat.le_of_ble_eq_true rfl) ?_
                refine g_aload_n m166_121 rfl ?_
                refine h_gfR (c := 90) (k := 57) (p := 89) m166_122 rfl (t_57 _ _) rfl (Nat.le_of_ble_eq_true rfl) ?_
                refine h_cv (k := 57) (p := 89) (args := [.ref (92), .ref (90)]) (rest := []) m166_125 cn_110 (Nat.le_of_ble_eq_true rfl) rfl rfl rfl (t_57 _ _) (Nat.le_of_ble_eq_true rfl) ?_
                refine c_moveRow (k1 := 60) (k2 := 58) rfl rfl (t_60 _ _) (t_58 _ _) (by decide) ?_
                have e60 : m3 60 = m2 60 := funext fun j => hA3.out (by decide) (fun z => by rcases z with z | z <;> omega)
                have hF5 := hF.tr (FrP.bk (m := m2) hA3 (fun k _ _ _ => rfl) (h60.trans e58.symm))
                have h65 : (upmR m3 58 (m3 60)) 60 = m 58 := (if_neg (by decide)).trans (e60.trans h60)
                refine gwr0 ?_
                refine g_goto m166_128 ?_
                exact ih (w + 1) _ _ (by omega) hF5 h65 hfin
            | succ r ih =>
              intro q o hq ho
              by_cases hal : allF (fun i => decide ((stepN (rkF (m 58)) (rbF (m 58)) (upm (vr (m 58)) 0 8 (nI (w + 1))) jb 4 i).toInt < v.toInt)) q = true
              · rw [if_pos hal] at ho
                subst ho
                refine g_iload m166_76 rfl ?_
                refine g_aload_n m166_78 rfl ?_
                refine h_gfR (c := 90) (k := 57) (p := 89) m166_79 rfl (t_57 _ _) rfl (Nat.le_of_ble_eq_true rfl) ?_
                refine g_iconst m166_82 ?_
                refine h_ial (k := 58) (p := 90) (j := 2) m166_83 rfl (t_58 _ _) (rfl) (by omega) (Nat.le_of_ble_eq_true rfl) (hd3) ?_
                refine h_ic_geF (xi := ((q : Nat) : Int)) (zi := ((n : Nat) : Int)) m166_84 (nI_toInt (by omega)) (nI_toInt (by omega)) (by omega) ?_
                refine g_iload m166_87 rfl ?_
                refine h_if_eqF (xi := 1) (zi := 0) m166_89 rfl rfl (by decide) ?_
                refine g_aload_n m166_92 rfl ?_
                refine g_iload m166_93 rfl ?_
                refine g_iconst m166_95 ?_
                refine h_cv (k := 57) (p := 89) (args := [.int (nI (q)), .int (2)]) (rest := []) m166_96 cn_111 (Nat.le_of_ble_eq_true rfl) rfl rfl rfl (t_57 _ _) (Nat.le_of_ble_eq_true rfl) ?_
                refine c_its (w := 2) (by omega) (by decide) ?_
                rw [hA3.rd (i := q) (c := 2) (by omega) (by decide)]
                refine gwr ?_
                refine g_iload_n m166_99 rfl ?_
                refine h_ic_ge (xi := _) (zi := v.toInt) m166_100 rfl rfl (fun c2 => ?_) (fun c2 => ?_)
                · skip
                  refine g_iconst m166_107 ?_
                  refine g_istore (L2 := [some (.ref (89)), some (.int (v)), some (.int (nI (jb))), some (.int (nI (w + 1))), some (.int (0)), some (.int (nI (q)))]) m166_108 rfl rfl ?_
                  refine g_iinc (L2 := [some (.ref (89)), some (.int (v)), some (.int (nI (jb))), some (.int (nI (w + 1))), some (.int (0)), some (.int (nI (q + 1)))]) m166_110 rfl (nI_1 _) rfl rfl ?_
                  refine g_goto m166_113 ?_
                  have h22 : ((stepN (rkF (m 58)) (rbF (m 58)) (upm (vr (m 58)) 0 8 (nI (w + 1))) jb) (2 + 2) q).toInt = ((stepN (rkF (m 58)) (rbF (m 58)) (upm (vr (m 58)) 0 8 (nI (w + 1))) jb) 4 q).toInt := rfl
                  exact ih (q + 1) _ (by omega) ((if_neg (by show ¬ (allF (fun i => decide ((stepN (rkF (m 58)) (rbF (m 58)) (upm (vr (m 58)) 0 8 (nI (w + 1))) jb 4 i).toInt < v.toInt)) q && decide _) = true; rw [decide_eq_false (by omega)]; simp)).symm)
                · skip
                  refine g_iconst m166_103 ?_
                  refine g_goto m166_104 ?_
                  refine g_istore (L2 := [some (.ref (89)), some (.int (v)), some (.int (nI (jb))), some (.int (nI (w + 1))), some (.int (1)), some (.int (nI (q)))]) m166_108 rfl rfl ?_
                  refine g_iinc (L2 := [some (.ref (89)), some (.int (v)), some (.int (nI (jb))), some (.int (nI (w + 1))), some (.int (1)), some (.int (nI (q + 1)))]) m166_110 rfl (nI_1 _) rfl rfl ?_
                  refine g_goto m166_113 ?_
                  have h22 : ((stepN (rkF (m 58)) (rbF (m 58)) (upm (vr (m 58)) 0 8 (nI (w + 1))) jb) (2 + 2) q).toInt = ((stepN (rkF (m 58)) (rbF (m 58)) (upm (vr (m 58)) 0 8 (nI (w + 1))) jb) 4 q).toInt := rfl
                  exact ih (q + 1) _ (by omega) ((if_pos (by show (allF (fun i => decide ((stepN (rkF (m 58)) (rbF (m 58)) (upm (vr (m 58)) 0 8 (nI (w + 1))) jb 4 i).toInt < v.toInt)) q && decide _) = true; rw [hal, decide_eq_true (by omega)]; rfl)).symm)
              · rw [if_neg hal] at ho
                subst ho
                refine g_iload m166_76 rfl ?_
                refine g_aload_n m166_78 rfl ?_
                refine h_gfR (c := 90) (k := 57) (p := 89) m166_79 rfl (t_57 _ _) rfl (Nat.le_of_ble_eq_true rfl) ?_
                refine g_iconst m166_82 ?_
                refine h_ial (k := 58) (p := 90) (j := 2) m166_83 rfl (t_58 _ _) (rfl) (by omega) (Nat.le_of_ble_eq_true rfl) (hd3) ?_
                refine h_ic_geF (xi := ((q : Nat) : Int)) (zi := ((n : Nat) : Int)) m166_84 (nI_toInt (by omega)) (nI_toInt (by omega)) (by omega) ?_
                refine g_iload m166_87 rfl ?_
                refine h_if_eqT (xi := 0) (zi := 0) m166_89 rfl rfl (by decide) ?_
                refine g_iconst m166_107 ?_
                refine g_istore (L2 := [some (.ref (89)), some (.int (v)), some (.int (nI (jb))), some (.int (nI (w + 1))), some (.int (0)), some (.int (nI (q)))]) m166_108 rfl rfl ?_
                refine g_iinc (L2 := [some (.ref (89)), some (.int (v)), some (.int (nI (jb))), some (.int (nI (w + 1))), some (.int (0)), some (.int (nI (q + 1)))]) m166_110 rfl (nI_1 _) rfl rfl ?_
                refine g_goto m166_113 ?_
                have h22 : ((stepN (rkF (m 58)) (rbF (m 58)) (upm (vr (m 58)) 0 8 (nI (w + 1))) jb) (2 + 2) q).toInt = ((stepN (rkF (m 58)) (rbF (m 58)) (upm (vr (m 58)) 0 8 (nI (w + 1))) jb) 4 q).toInt := rfl
                exact ih (q + 1) _ (by omega) ((if_neg (by show ¬ (allF (fun i => decide ((stepN (rkF (m 58)) (rbF (m 58)) (upm (vr (m 58)) 0 8 (nI (w + 1))) jb 4 i).toInt < v.toInt)) q && decide _) = true; rw [Bool.eq_false_iff.mpr hal]; simp)).symm)
          exact key2 n 0 1 (by omega) rfl
      exact key 4 0 none _ (by omega) (fun k j a b => congrFun (if_neg (fun z => a (Or.inl z))) j) (if_pos rfl) rfl
    · skip
      refine gwr ?_
      refine h_if_neT (xi := 0) (zi := 0) m166_17 rfl rfl (by decide) ?_
      refine g_aload_n m166_20 rfl ?_
      refine g_ldci m166_21 rfl ?_
      refine h_cv (k := 57) (p := 89) (args := [.int (-1000000001)]) (rest := []) m166_23 cn_108 (Nat.le_of_ble_eq_true rfl) rfl rfl rfl (t_57 _ _) (Nat.le_of_ble_eq_true rfl) ?_
      refine c_errs (e := 1) (by decide) (by decide) (by decide) ?_
      refine gwr ?_
      refine g_iret m166_26 rt_166 ?_
      exact hE1 (by omega)
  · skip
    refine gwr ?_
    refine h_if_eqT (xi := 0) (zi := 0) m166_7 rfl rfl (by decide) ?_
    refine g_aload_n m166_20 rfl ?_
    refine g_ldci m166_21 rfl ?_
    refine h_cv (k := 57) (p := 89) (args := [.int (-1000000001)]) (rest := []) m166_23 cn_108 (Nat.le_of_ble_eq_true rfl) rfl rfl rfl (t_57 _ _) (Nat.le_of_ble_eq_true rfl) ?_
    refine c_errs (e := 1) (by decide) (by decide) (by decide) ?_
    refine gwr ?_
    refine g_iret m166_26 rt_166 ?_
    exact hE1 (by omega)
end
end
