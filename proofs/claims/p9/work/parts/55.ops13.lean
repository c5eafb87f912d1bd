/-! THE REFERENCE: harm; SHEETS MOVED -/
theorem AtY.upo {m0 Y m2 : MW} (h : AtY m0 Y m2) {k : Nat} (hk : k ≠ 58) (j : Nat) (v : Int32) : AtY (upm m0 k j v) Y (upm m2 k j v) := by
  intro k2 j2 q
  unfold upmR
  by_cases e : k2 = 58
  · subst e
    rw [if_pos rfl, upm_k _ _ (Ne.symm hk), h.row j2, row_up m0 v (Ne.symm hk)]
  · rw [if_neg e]
    by_cases e2 : k2 = k ∧ j2 = j
    · obtain ⟨rfl, rfl⟩ := e2
      rw [upm_self, upm_self]
    · have e3 := h k2 j2 q
      unfold upmR at e3
      rw [if_neg e] at e3
      unfold upm
      rw [if_neg e2, if_neg e2, e3]
theorem AtY.bk {B Y m2 : MW} {w : Nat → Int32} (h : AtY B Y m2) (h58 : B 58 = w) (h60 : B 60 = w) : AtY B (vr w) (upmR m2 58 (m2 60)) := by
  have e60 : m2 60 = w := funext fun j => (h.out (by decide) (fun z => by rcases z with z | z <;> omega)).trans (congrFun h60 j)
  have h0 := AtY.self B
  rw [h58] at h0
  intro k j q
  rw [← h0 k j q, e60]
  unfold upmR
  by_cases e : k = 58
  · rw [if_pos e, e, h58]
  · rw [if_neg e, h.out e q]
theorem FrP.bk {m B Y m2 : MW} (h : AtY B Y m2) (hB : ∀ k, k ≠ 60 → k ≠ 66 → k ≠ 67 → B k = m k) (h60 : B 60 = m 58) : FrP m (upmR m2 58 (m2 60)) := by
  intro k j a b
  unfold upmR
  by_cases e : k = 58
  · rw [if_pos e, e, h.out (by decide) (fun z => by rcases z with z | z <;> omega), h60]
  · rw [if_neg e, h.out e b, hB k (fun z => a (Or.inl z)) (fun z => a (Or.inr (Or.inl z))) (fun z => a (Or.inr (Or.inr z)))]
def hdM (m : MW) (f : Nat → Int32) : Nat → MW
  | 0 => m
  | q + 1 => upm (hdM m f q) 67 q (f q)
theorem hdM_o (m : MW) (f : Nat → Int32) {k : Nat} (h : k ≠ 67) : ∀ q, hdM m f q k = m k
  | 0 => rfl
  | q + 1 => (row_up _ _ h).trans (hdM_o m f h q)
theorem hdM_r (m : MW) (f : Nat → Int32) {i : Nat} : ∀ q, i < q → hdM m f q 67 i = f i
  | 0, h => absurd h (Nat.not_lt_zero i)
  | q + 1, h => by
    show upm (hdM m f q) 67 q (f q) 67 i = f i
    by_cases e : i = q
    · subst e
      exact upm_self _ _ _ _
    · rw [upm_j _ _ e]
      exact hdM_r m f q (by omega)
theorem vr_7 {m : MW} {v : Int32} : Eq8 (upm (vr (m 58)) 0 8 v) (vr (upm m 58 7 v 58)) := by
  intro j hj i
  match j with
  | 0 =>
    show (if i = 8 then upm m 58 7 v 58 7 else if i = 9 then upm m 58 7 v 58 0 else if i = 10 then upm m 58 7 v 58 2 else 0) = upm (vr (m 58)) 0 8 v 0 i
    rw [upm_self, upm_j _ _ (by decide), upm_j _ _ (by decide)]
    by_cases e : i = 8
    · rw [if_pos e, e, upm_self]
    · rw [if_neg e, upm_j _ _ e]
      exact (if_neg e).symm
  | 1 => exact (upm_j m v (show 8 + i ≠ 7 by omega)).trans (upm_k (vr (m 58)) v (show 1 ≠ 0 by decide)).symm
  | j + 2 => exact (upm_j m v (show 16 + 6 * i + j ≠ 7 by omega)).trans (upm_k (vr (m 58)) v (show j + 2 ≠ 0 by omega)).symm
theorem tx_7 {m : MW} {v : Int32} (u : Nat) (hu : u ≤ 1) : txW (upm m 58 7 v 58) u = txW (m 58) u ∧ upm m 58 7 v 58 (5 + u) = m 58 (5 + u) := ⟨funext fun j => upm_j _ _ (by omega), upm_j _ _ (by omega)⟩
theorem TxOk.up7 {m : MW} {v : Int32} {u : Nat} (hu : u ≤ 1) (h : TxOk (m 58) u) : TxOk (upm m 58 7 v 58) u := by
  unfold TxOk
  rw [(tx_7 u hu).1, (tx_7 u hu).2]
  exact h
def mvA (m : MW) (c : Nat) : Nat → MW
  | 0 => m
  | q + 1 => upm (mvA m c q) 66 q (m 65 (c + q))
theorem mvA_o (m : MW) (c : Nat) {k : Nat} (h : k ≠ 66) : ∀ q, mvA m c q k = m k
  | 0 => rfl
  | q + 1 => (row_up _ _ h).trans (mvA_o m c h q)
def mvB (m : MW) (c : Nat) : Nat → MW
  | 0 => m
  | q + 1 => upm (mvB m c q) 65 (c + q) (m 66 q)
theorem mvB_o (m : MW) (c : Nat) {k : Nat} (h : k ≠ 65) : ∀ q, mvB m c q k = m k
  | 0 => rfl
  | q + 1 => (row_up _ _ h).trans (mvB_o m c h q)
section
variable {xs : List Int32} {d : Nat} {h : AH} {Q : QT} {m : MW} {ln : Nat → Nat} {N : Nat}
set_option maxRecDepth 20000 in
set_option maxHeartbeats 40000000 in
theorem m_harm {a v : Int32} {n : Nat} (hd : m 58 2 = nI n) (hn : n ≤ 8) (hX0 : TxOk (m 58) 0) (hX1 : TxOk (m 58) 1) (hWY : WF (vr (m 58))) (hE1 : (a.toInt < 0 ∨ (n : Int) ≤ a.toInt ∨ v.toInt < 0 ∨ 60 < v.toInt) → Q (some (.int (-1000000001))) (H (ers m 1) ln N)) (hY : ∀ i k : Nat, a = nI i → i < n → v = nI k → k ≤ 60 → ∀ m2, FrP m m2 → Q (some (.int (nI (bitsF (fun q => !(decide (q = i)) && decide ((stepN (rkF (m 58)) (rbF (m 58)) (vr (m 58)) k 6 q).toInt < (stepN (rkF (m 58)) (rbF (m 58)) (upm (vr (m 58)) 5 i 0) k 6 q).toInt)) n)))) (H m2 ln N)) : WP xs (d + 818) 164 0 0 [.ref (89), .int (a), .int (v)] (H m ln N) Q := by
  refine wp_x mx_164 (L := [some (.ref (89)), some (.int (a)), some (.int (v)), none, none]) (Nat.le_of_ble_eq_true rfl) rfl ?_
  refine g_aload_n m164_0 rfl ?_
  refine g_iload_n m164_1 rfl ?_
  refine h_cv (k := 57) (p := 89) (args := [.int (a)]) (rest := []) m164_2 cn_113 (Nat.le_of_ble_eq_true rfl) rfl rfl rfl (t_57 _ _) (Nat.le_of_ble_eq_true rfl) ?_
  refine c_isDinerM hd hn (fun ja ea a_1 => ?_) (fun a_1 => ?_)
  · subst ea
    refine gwr ?_
    refine h_if_eqF (xi := 1) (zi := 0) m164_5 rfl rfl (by decide) ?_
    refine g_iload_n m164_8 rfl ?_
    refine g_iconst m164_9 ?_
    refine g_bipush m164_10 ?_
    refine g_cs (args := [.int (v), .int (0), .int (60)]) (rest := []) 0 (Or.inl rfl) m164_12 (Nat.le_of_ble_eq_true rfl) rfl rfl (Nat.le_of_ble_eq_true rfl) ?_
    refine c_in (A := 0) (B := 60) rfl rfl (by decide) (fun jv ev a_2 a_2' => ?_) (fun a_2 => ?_)
    · subst ev
      refine gwr ?_
      refine h_if_neF (xi := 1) (zi := 0) m164_15 rfl rfl (by decide) ?_
      refine g_aload_n m164_25 rfl ?_
      refine g_aload_n m164_26 rfl ?_
      refine h_gfR (c := 90) (k := 57) (p := 89) m164_27 rfl (t_57 _ _) rfl (Nat.le_of_ble_eq_true rfl) ?_
      refine g_aload_n m164_30 rfl ?_
      refine h_gfR (c := 92) (k := 57) (p := 89) m164_31 rfl (t_57 _ _) rfl (Nat.le_of_ble_eq_true rfl) ?_
      refine h_cv (k := 57) (p := 89) (args := [.ref (90), .ref (92)]) (rest := []) m164_34 cn_110 (Nat.le_of_ble_eq_true rfl) rfl rfl rfl (t_57 _ _) (Nat.le_of_ble_eq_true rfl) ?_
      refine c_moveRow (k1 := 58) (k2 := 60) rfl rfl (t_58 _ _) (t_60 _ _) (by decide) ?_
      have h58 : (upmR m 60 (m 58)) 58 = m 58 := thR_58 _ _
      have hAt := thR_A m
      have hX0t : TxOk ((upmR m 60 (m 58)) 58) 0 := by rw [h58]; exact hX0
      have hX1t : TxOk ((upmR m 60 (m 58)) 58) 1 := by rw [h58]; exact hX1
      refine gwr0 ?_
      refine g_aload_n m164_37 rfl ?_
      refine g_iload_n m164_38 rfl ?_
      refine h_cv (k := 57) (p := 89) (args := [.int (nI (jv))]) (rest := []) m164_39 cn_146 (Nat.le_of_ble_eq_true rfl) rfl rfl rfl (t_57 _ _) (Nat.le_of_ble_eq_true rfl) ?_
      refine c_passes hAt hX0t hX1t hWY (n := jv) (by omega) (fun m2 hA2 => ?_)
      rw [h58] at hA2
      refine gwr0 ?_
      refine g_iconst m164_42 ?_
      refine g_istore_n (L2 := [some (.ref (89)), some (.int (nI (ja))), some (.int (nI (jv))), some (.int (0)), none]) m164_43 rfl rfl ?_
      have key : ∀ (r : Nat) (q : Nat) (m3 : MW), q + r = n → AtY (hdM (upmR m 60 (m 58)) ((stepN (rkF (m 58)) (rbF (m 58)) (vr (m 58)) jv) 6) q) (stepN (rkF (m 58)) (rbF (m 58)) (vr (m 58)) jv) m3 → gw xs (WP xs (d + 817)) 164 Q 44 [some (.ref (89)), some (.int (nI (ja))), some (.int (nI (jv))), some (.int (nI (q))), none] [] (H m3 ln N) 0 0 := by
        intro r
        induction r with
        | zero =>
          intro q m3 hq hA3
          obtain rfl : q = n := by omega
          have hB58 : (hdM (upmR m 60 (m 58)) ((stepN (rkF (m 58)) (rbF (m 58)) (vr (m 58)) jv) 6) q) 58 = m 58 := (hdM_o _ _ (by decide) q).trans h58
          have hB60 : (hdM (upmR m 60 (m 58)) ((stepN (rkF (m 58)) (rbF (m 58)) (vr (m 58)) jv) 6) q) 60 = m 58 := (hdM_o _ _ (by decide) q).trans (if_pos rfl)
          have hX0b : TxOk ((hdM (upmR m 60 (m 58)) ((stepN (rkF (m 58)) (rbF (m 58)) (vr (m 58)) jv) 6) q) 58) 0 := by rw [hB58]; exact hX0
          have hX1b : TxOk ((hdM (upmR m 60 (m 58)) ((stepN (rkF (m 58)) (rbF (m 58)) (vr (m 58)) jv) 6) q) 58) 1 := by rw [hB58]; exact hX1
          refine g_iload_n m164_44 rfl ?_
          refine g_aload_n m164_45 rfl ?_
          refine h_gfR (c := 90) (k := 57) (p := 89) m164_46 rfl (t_57 _ _) rfl (Nat.le_of_ble_eq_true rfl) ?_
          refine g_iconst m164_49 ?_
          refine h_ial (k := 58) (p := 90) (j := 2) m164_50 rfl (t_58 _ _) (rfl) (by omega) (Nat.le_of_ble_eq_true rfl) (hA3.r2.trans ((stepN_0 _ _ _ (by decide) jv).trans hd)) ?_
          refine h_ic_geT (xi := ((q : Nat) : Int)) (zi := ((q : Nat) : Int)) m164_51 (nI_toInt (by omega)) (nI_toInt (by omega)) (by omega) ?_
          refine g_aload_n m164_72 rfl ?_
          refine g_aload_n m164_73 rfl ?_
          refine h_gfR (c := 92) (k := 57) (p := 89) m164_74 rfl (t_57 _ _) rfl (Nat.le_of_ble_eq_true rfl) ?_
          refine g_aload_n m164_77 rfl ?_
          refine h_gfR (c := 90) (k := 57) (p := 89) m164_78 rfl (t_57 _ _) rfl (Nat.le_of_ble_eq_true rfl) ?_
          refine h_cv (k := 57) (p := 89) (args := [.ref (92), .ref (90)]) (rest := []) m164_81 cn_110 (Nat.le_of_ble_eq_true rfl) rfl rfl rfl (t_57 _ _) (Nat.le_of_ble_eq_true rfl) ?_
          refine c_moveRow (k1 := 60) (k2 := 58) rfl rfl (t_60 _ _) (t_58 _ _) (by decide) ?_
          have hA4 := AtY.bk hA3 hB58 hB60
          refine gwr0 ?_
          refine g_aload_n m164_84 rfl ?_
          refine g_iload_n m164_85 rfl ?_
          refine g_iconst m164_86 ?_
          refine g_iconst m164_87 ?_
          refine h_cv (k := 57) (p := 89) (args := [.int (nI (ja)), .int (3), .int (0)]) (rest := []) m164_88 cn_112 (Nat.le_of_ble_eq_true rfl) rfl rfl rfl (t_57 _ _) (Nat.le_of_ble_eq_true rfl) ?_
          refine c_gets (w := 3) (by omega) (by decide) ?_
          have hA5 := hA4.up (i := ja) (c := 3) (by omega) (by decide) 0
          refine gwr0 ?_
          refine g_aload_n m164_91 rfl ?_
          refine g_iload_n m164_92 rfl ?_
          refine h_cv (k := 57) (p := 89) (args := [.int (nI (jv))]) (rest := []) m164_93 cn_146 (Nat.le_of_ble_eq_true rfl) rfl rfl rfl (t_57 _ _) (Nat.le_of_ble_eq_true rfl) ?_
          refine c_passes hA5 hX0b hX1b (n := jv) (WF_sham hWY ⟨0, by decide, rfl⟩) (by omega) (fun m6 hA6 => ?_)
          rw [hB58] at hA6
          have hA6 : AtY (hdM (upmR m 60 (m 58)) ((stepN (rkF (m 58)) (rbF (m 58)) (vr (m 58)) jv) 6) q) (stepN (rkF (m 58)) (rbF (m 58)) (upm (vr (m 58)) 5 ja 0) jv) m6 := hA6
          refine gwr0 ?_
          refine g_iconst m164_96 ?_
          refine g_istore_n (L2 := [some (.ref (89)), some (.int (nI (ja))), some (.int (nI (jv))), some (.int (0)), none]) m164_97 rfl rfl ?_
          refine g_iconst m164_98 ?_
          refine g_istore (L2 := [some (.ref (89)), some (.int (nI (ja))), some (.int (nI (jv))), some (.int (0)), some (.int (0))]) m164_99 rfl rfl ?_
          have hb : ∀ z, bitsF (fun q => !(decide (q = ja)) && decide ((stepN (rkF (m 58)) (rbF (m 58)) (vr (m 58)) jv 6 q).toInt < (stepN (rkF (m 58)) (rbF (m 58)) (upm (vr (m 58)) 5 ja 0) jv 6 q).toInt)) z < 2 ^ z := bitsF_lt _
          have key2 : ∀ (r : Nat) (w : Nat), w + r = q → gw xs (WP xs (d + 817)) 164 Q 101 [some (.ref (89)), some (.int (nI (ja))), some (.int (nI (jv))), some (.int (nI (bitsF (fun q => !(decide (q = ja)) && decide ((stepN (rkF (m 58)) (rbF (m 58)) (vr (m 58)) jv 6 q).toInt < (stepN (rkF (m 58)) (rbF (m 58)) (upm (vr (m 58)) 5 ja 0) jv 6 q).toInt)) w))), some (.int (nI (w)))] [] (H m6 ln N) 0 0 := by
            intro r
            induction r with
            | zero =>
              intro w hw
              obtain rfl : w = q := by omega
              refine g_iload m164_101 rfl ?_
              refine g_aload_n m164_103 rfl ?_
              refine h_gfR (c := 90) (k := 57) (p := 89) m164_104 rfl (t_57 _ _) rfl (Nat.le_of_ble_eq_true rfl) ?_
              refine g_iconst m164_107 ?_
              refine h_ial (k := 58) (p := 90) (j := 2) m164_108 rfl (t_58 _ _) (rfl) (by omega) (Nat.le_of_ble_eq_true rfl) (hA6.r2.trans ((stepN_0 _ _ _ (by decide) jv).trans ((upm_k _ _ (by decide)).trans hd))) ?_
              refine h_ic_geT (xi := ((w : Nat) : Int)) (zi := ((w : Nat) : Int)) m164_109 (nI_toInt (by omega)) (nI_toInt (by omega)) (by omega) ?_
              refine g_aload_n m164_152 rfl ?_
              refine g_aload_n m164_153 rfl ?_
              refine h_gfR (c := 92) (k := 57) (p := 89) m164_154 rfl (t_57 _ _) rfl (Nat.le_of_ble_eq_true rfl) ?_
              refine g_aload_n m164_157 rfl ?_
              refine h_gfR (c := 90) (k := 57) (p := 89) m164_158 rfl (t_57 _ _) rfl (Nat.le_of_ble_eq_true rfl) ?_
              refine h_cv (k := 57) (p := 89) (args := [.ref (92), .ref (90)]) (rest := []) m164_161 cn_110 (Nat.le_of_ble_eq_true rfl) rfl rfl rfl (t_57 _ _) (Nat.le_of_ble_eq_true rfl) ?_
              refine c_moveRow (k1 := 60) (k2 := 58) rfl rfl (t_60 _ _) (t_58 _ _) (by decide) ?_
              have hFb := FrP.bk hA6 (fun k h1 h2 h3 => (hdM_o _ _ h3 _).trans (if_neg h1)) hB60
              refine gwr0 ?_
              refine g_iload_n m164_164 rfl ?_
              refine g_iret m164_165 rt_164 ?_
              exact hY ja jv rfl (by omega) rfl (by omega) _ hFb
            | succ r ih =>
              intro w hw
              refine g_iload m164_101 rfl ?_
              refine g_aload_n m164_103 rfl ?_
              refine h_gfR (c := 90) (k := 57) (p := 89) m164_104 rfl (t_57 _ _) rfl (Nat.le_of_ble_eq_true rfl) ?_
              refine g_iconst m164_107 ?_
              refine h_ial (k := 58) (p := 90) (j := 2) m164_108 rfl (t_58 _ _) (rfl) (by omega) (Nat.le_of_ble_eq_true rfl) (hA6.r2.trans ((stepN_0 _ _ _ (by decide) jv).trans ((upm_k _ _ (by decide)).trans hd))) ?_
              refine h_ic_geF (xi := ((w : Nat) : Int)) (zi := ((q : Nat) : Int)) m164_109 (nI_toInt (by omega)) (nI_toInt (by omega)) (by omega) ?_
              refine g_iload_n m164_112 rfl ?_
              refine g_iload m164_113 rfl ?_
              refine g_iload_n m164_115 rfl ?_
              refine h_ic_eq (xi := ((w : Nat) : Int)) (zi := ((ja : Nat) : Int)) m164_116 (nI_toInt (by omega)) (nI_toInt (by omega)) (fun c1 => ?_) (fun c1 => ?_)
              · skip
                refine g_iconst m164_143 ?_
                refine g_ior (u := nI (bitsF (fun q => !(decide (q = ja)) && decide ((stepN (rkF (m 58)) (rbF (m 58)) (vr (m 58)) jv 6 q).toInt < (stepN (rkF (m 58)) (rbF (m 58)) (upm (vr (m 58)) 5 ja 0) jv 6 q).toInt)) w)) m164_144 (or_z _) ?_
                refine g_istore_n (L2 := [some (.ref (89)), some (.int (nI (ja))), some (.int (nI (jv))), some (.int (nI (bitsF (fun q => !(decide (q = ja)) && decide ((stepN (rkF (m 58)) (rbF (m 58)) (vr (m 58)) jv 6 q).toInt < (stepN (rkF (m 58)) (rbF (m 58)) (upm (vr (m 58)) 5 ja 0) jv 6 q).toInt)) w))), some (.int (nI (w)))]) m164_145 rfl rfl ?_
                refine g_iinc (L2 := [some (.ref (89)), some (.int (nI (ja))), some (.int (nI (jv))), some (.int (nI (bitsF (fun q => !(decide (q = ja)) && decide ((stepN (rkF (m 58)) (rbF (m 58)) (vr (m 58)) jv 6 q).toInt < (stepN (rkF (m 58)) (rbF (m 58)) (upm (vr (m 58)) 5 ja 0) jv 6 q).toInt)) w))), some (.int (nI (w + 1)))]) m164_146 rfl (nI_1 _) rfl rfl ?_
                refine g_goto m164_149 ?_
                have e : bitsF (fun q => !(decide (q = ja)) && decide ((stepN (rkF (m 58)) (rbF (m 58)) (vr (m 58)) jv 6 q).toInt < (stepN (rkF (m 58)) (rbF (m 58)) (upm (vr (m 58)) 5 ja 0) jv 6 q).toInt)) (w + 1) = bitsF (fun q => !(decide (q = ja)) && decide ((stepN (rkF (m 58)) (rbF (m 58)) (vr (m 58)) jv 6 q).toInt < (stepN (rkF (m 58)) (rbF (m 58)) (upm (vr (m 58)) 5 ja 0) jv 6 q).toInt)) w := bits_n (by
                  show ¬ (!(decide (w = ja)) && decide _) = true
                  by_cases e0 : w = ja
                  · rw [decide_eq_true e0]
                    simp
                  · rw [decide_eq_false (p := _ < _) (Int.not_lt.mpr (by first | exact c1 | (exfalso; omega)))]
                    simp)
                have h9 := ih (w + 1) (by omega)
                rw [e] at h9
                exact h9
              · skip
                refine g_aload_n m164_119 rfl ?_
                refine g_iload m164_120 rfl ?_
                refine g_iconst m164_122 ?_
                refine h_cv (k := 57) (p := 89) (args := [.int (nI (w)), .int (4)]) (rest := [.int (nI (bitsF (fun q => !(decide (q = ja)) && decide ((stepN (rkF (m 58)) (rbF (m 58)) (vr (m 58)) jv 6 q).toInt < (stepN (rkF (m 58)) (rbF (m 58)) (upm (vr (m 58)) 5 ja 0) jv 6 q).toInt)) w))]) m164_123 cn_111 (Nat.le_of_ble_eq_true rfl) rfl rfl rfl (t_57 _ _) (Nat.le_of_ble_eq_true rfl) ?_
                refine c_its (w := 4) (by omega) (by decide) ?_
                rw [hA6.rd (i := w) (c := 4) (by omega) (by decide)]
                refine gwr ?_
                refine g_aload_n m164_126 rfl ?_
                refine h_gfR (c := 99) (k := 57) (p := 89) m164_127 rfl (t_57 _ _) rfl (Nat.le_of_ble_eq_true rfl) ?_
                refine g_iload m164_130 rfl ?_
                refine h_ial (k := 67) (p := 99) (j := w) m164_132 rfl (t_67 _ _) (rfl) (by omega) (Nat.le_of_ble_eq_true rfl) ((hA6.out (by decide) (fun z => by rcases z with z | z <;> omega)).trans (hdM_r _ _ q (by omega))) ?_
                refine h_ic_le (xi := _) (zi := _) m164_133 rfl rfl (fun c2 => ?_) (fun c2 => ?_)
                · skip
                  refine g_iconst m164_143 ?_
                  refine g_ior (u := nI (bitsF (fun q => !(decide (q = ja)) && decide ((stepN (rkF (m 58)) (rbF (m 58)) (vr (m 58)) jv 6 q).toInt < (stepN (rkF (m 58)) (rbF (m 58)) (upm (vr (m 58)) 5 ja 0) jv 6 q).toInt)) w)) m164_144 (or_z _) ?_
                  refine g_istore_n (L2 := [some (.ref (89)), some (.int (nI (ja))), some (.int (nI (jv))), some (.int (nI (bitsF (fun q => !(decide (q = ja)) && decide ((stepN (rkF (m 58)) (rbF (m 58)) (vr (m 58)) jv 6 q).toInt < (stepN (rkF (m 58)) (rbF (m 58)) (upm (vr (m 58)) 5 ja 0) jv 6 q).toInt)) w))), some (.int (nI (w)))]) m164_145 rfl rfl ?_
                  refine g_iinc (L2 := [some (.ref (89)), some (.int (nI (ja))), some (.int (nI (jv))), some (.int (nI (bitsF (fun q => !(decide (q = ja)) && decide ((stepN (rkF (m 58)) (rbF (m 58)) (vr (m 58)) jv 6 q).toInt < (stepN (rkF (m 58)) (rbF (m 58)) (upm (vr (m 58)) 5 ja 0) jv 6 q).toInt)) w))), some (.int (nI (w + 1)))]) m164_146 rfl (nI_1 _) rfl rfl ?_
                  refine g_goto m164_149 ?_
                  have e : bitsF (fun q => !(decide (q = ja)) && decide ((stepN (rkF (m 58)) (rbF (m 58)) (vr (m 58)) jv 6 q).toInt < (stepN (rkF (m 58)) (rbF (m 58)) (upm (vr (m 58)) 5 ja 0) jv 6 q).toInt)) (w + 1) = bitsF (fun q => !(decide (q = ja)) && decide ((stepN (rkF (m 58)) (rbF (m 58)) (vr (m 58)) jv 6 q).toInt < (stepN (rkF (m 58)) (rbF (m 58)) (upm (vr (m 58)) 5 ja 0) jv 6 q).toInt)) w := bits_n (by
                    show ¬ (!(decide (w = ja)) && decide _) = true
                    by_cases e0 : w = ja
                    · rw [decide_eq_true e0]
                      simp
                    · rw [decide_eq_false (p := _ < _) (Int.not_lt.mpr (by first | exact c2 | (exfalso; omega)))]
                      simp)
                  have h9 := ih (w + 1) (by omega)
                  rw [e] at h9
                  exact h9
                · skip
                  refine g_iconst m164_136 ?_
                  refine g_iload m164_137 rfl ?_
                  refine g_ishl m164_139 rfl ?_
                  refine g_goto m164_140 ?_
                  refine g_ior (u := nI (bitsF (fun q => !(decide (q = ja)) && decide ((stepN (rkF (m 58)) (rbF (m 58)) (vr (m 58)) jv 6 q).toInt < (stepN (rkF (m 58)) (rbF (m 58)) (upm (vr (m 58)) 5 ja 0) jv 6 q).toInt)) w + 2 ^ w)) m164_144 (bit_or w (by omega) _ (hb w)) ?_
                  refine g_istore_n (L2 := [some (.ref (89)), some (.int (nI (ja))), some (.int (nI (jv))), some (.int (nI (bitsF (fun q => !(decide (q = ja)) && decide ((stepN (rkF (m 58)) (rbF (m 58)) (vr (m 58)) jv 6 q).toInt < (stepN (rkF (m 58)) (rbF (m 58)) (upm (vr (m 58)) 5 ja 0) jv 6 q).toInt)) w + 2 ^ w))), some (.int (nI (w)))]) m164_145 rfl rfl ?_
                  refine g_iinc (L2 := [some (.ref (89)), some (.int (nI (ja))), some (.int (nI (jv))), some (.int (nI (bitsF (fun q => !(decide (q = ja)) && decide ((stepN (rkF (m 58)) (rbF (m 58)) (vr (m 58)) jv 6 q).toInt < (stepN (rkF (m 58)) (rbF (m 58)) (upm (vr (m 58)) 5 ja 0) jv 6 q).toInt)) w + 2 ^ w))), some (.int (nI (w + 1)))]) m164_146 rfl (nI_1 _) rfl rfl ?_
                  refine g_goto m164_149 ?_
                  have h8 : ¬ ((stepN (rkF (m 58)) (rbF (m 58)) (upm (vr (m 58)) 5 ja 0) jv) (2 + 4) w).toInt ≤ ((stepN (rkF (m 58)) (rbF (m 58)) (vr (m 58)) jv) 6 w).toInt := c2
                  have e : bitsF (fun q => !(decide (q = ja)) && decide ((stepN (rkF (m 58)) (rbF (m 58)) (vr (m 58)) jv 6 q).toInt < (stepN (rkF (m 58)) (rbF (m 58)) (upm (vr (m 58)) 5 ja 0) jv 6 q).toInt)) (w + 1) = bitsF (fun q => !(decide (q = ja)) && decide ((stepN (rkF (m 58)) (rbF (m 58)) (vr (m 58)) jv 6 q).toInt < (stepN (rkF (m 58)) (rbF (m 58)) (upm (vr (m 58)) 5 ja 0) jv 6 q).toInt)) w + 2 ^ w := bits_y (by show (!(decide (w = ja)) && decide _) = true; rw [decide_eq_false (show ¬ w = ja by omega), decide_eq_true (Int.not_le.mp h8)]; rfl)
                  have h9 := ih (w + 1) (by omega)
                  rw [e] at h9
                  exact h9
          exact key2 q 0 (by omega)
        | succ r ih =>
          intro q m3 hq hA3
          refine g_iload_n m164_44 rfl ?_
          refine g_aload_n m164_45 rfl ?_
          refine h_gfR (c := 90) (k := 57) (p := 89) m164_46 rfl (t_57 _ _) rfl (Nat.le_of_ble_eq_true rfl) ?_
          refine g_iconst m164_49 ?_
          refine h_ial (k := 58) (p := 90) (j := 2) m164_50 rfl (t_58 _ _) (rfl) (by omega) (Nat.le_of_ble_eq_true rfl) (hA3.r2.trans ((stepN_0 _ _ _ (by decide) jv).trans hd)) ?_
          refine h_ic_geF (xi := ((q : Nat) : Int)) (zi := ((n : Nat) : Int)) m164_51 (nI_toInt (by omega)) (nI_toInt (by omega)) (by omega) ?_
          refine g_aload_n m164_54 rfl ?_
          refine h_gfR (c := 99) (k := 57) (p := 89) m164_55 rfl (t_57 _ _) rfl (Nat.le_of_ble_eq_true rfl) ?_
          refine g_iload_n m164_58 rfl ?_
          refine g_aload_n m164_59 rfl ?_
          refine g_iload_n m164_60 rfl ?_
          refine g_iconst m164_61 ?_
          refine h_cv (k := 57) (p := 89) (args := [.int (nI (q)), .int (4)]) (rest := [.int (nI (q)), .ref (99)]) m164_62 cn_111 (Nat.le_of_ble_eq_true rfl) rfl rfl rfl (t_57 _ _) (Nat.le_of_ble_eq_true rfl) ?_
          refine c_its (w := 4) (by omega) (by decide) ?_
          rw [hA3.rd (i := q) (c := 4) (by omega) (by decide)]
          refine gwr ?_
          refine h_ias (k := 67) (p := 99) (j := q) m164_65 rfl (t_67 _ _) (rfl) (by omega) (Nat.le_of_ble_eq_true rfl) ?_
          refine g_iinc (L2 := [some (.ref (89)), some (.int (nI (ja))), some (.int (nI (jv))), some (.int (nI (q + 1))), none]) m164_66 rfl (nI_1 _) rfl rfl ?_
          refine g_goto m164_69 ?_
          exact ih (q + 1) _ (by omega) (hA3.upo (by decide) q _)
      exact key n 0 _ (by omega) hA2
    · skip
      refine gwr ?_
      refine h_if_neT (xi := 0) (zi := 0) m164_15 rfl rfl (by decide) ?_
      refine g_aload_n m164_18 rfl ?_
      refine g_ldci m164_19 rfl ?_
      refine h_cv (k := 57) (p := 89) (args := [.int (-1000000001)]) (rest := []) m164_21 cn_108 (Nat.le_of_ble_eq_true rfl) rfl rfl rfl (t_57 _ _) (Nat.le_of_ble_eq_true rfl) ?_
      refine c_errs (e := 1) (by decide) (by decide) (by decide) ?_
      refine gwr ?_
      refine g_iret m164_24 rt_164 ?_
      exact hE1 (by omega)
  · skip
    refine gwr ?_
    refine h_if_eqT (xi := 0) (zi := 0) m164_5 rfl rfl (by decide) ?_
    refine g_aload_n m164_18 rfl ?_
    refine g_ldci m164_19 rfl ?_
    refine h_cv (k := 57) (p := 89) (args := [.int (-1000000001)]) (rest := []) m164_21 cn_108 (Nat.le_of_ble_eq_true rfl) rfl rfl rfl (t_57 _ _) (Nat.le_of_ble_eq_true rfl) ?_
    refine c_errs (e := 1) (by decide) (by decide) (by decide) ?_
    refine gwr ?_
    refine g_iret m164_24 rt_164 ?_
    exact hE1 (by omega)
set_option maxRecDepth 20000 in
set_option maxHeartbeats 40000000 in
theorem x_move {a i c e w : Int32} {B Ln : Nat → Nat} (hB : ∀ s, s < 4 → (B s = 0 ∨ B s = 8 ∨ B s = 16 ∨ B s = 32) ∧ Ln s ≤ 40 ∧ m (48 + 2 * s) 0 = nI (B s) ∧ m (48 + 2 * s) 1 = nI (Ln s)) (hE1 : ((a.toInt < 0 ∨ 3 < a.toInt ∨ c.toInt < 0 ∨ 3 < c.toInt) ∨ (∃ s o : Nat, a = nI s ∧ s < 4 ∧ c = nI o ∧ o < 4 ∧ B s ≠ 0 ∧ B s = B o ∧ (w.toInt < 0 ∨ i.toInt < 0 ∨ e.toInt < 0 ∨ (Ln s : Int) - w.toInt < i.toInt ∨ (Ln o : Int) - w.toInt < e.toInt))) → Q (some (.int (-1000000000 - nI 1))) (H (erm m 1) ln N)) (hE2 : (∃ s o : Nat, a = nI s ∧ s < 4 ∧ c = nI o ∧ o < 4 ∧ (B s = 0 ∨ B o = 0)) → Q (some (.int (-1000000000 - nI 2))) (H (erm m 2) ln N)) (hE5 : (∃ s o : Nat, a = nI s ∧ s < 4 ∧ c = nI o ∧ o < 4 ∧ B s ≠ 0 ∧ B o ≠ 0 ∧ B s ≠ B o) → Q (some (.int (-1000000000 - nI 5))) (H (erm m 5) ln N)) (hY : ∀ s o i2 e2 k : Nat, a = nI s → s < 4 → c = nI o → o < 4 → B s ≠ 0 → B s = B o → i = nI i2 → e = nI e2 → w = nI k → i2 + k ≤ Ln s → e2 + k ≤ Ln o → Q (some (.int (nI k))) (H (cpy m (49 + 2 * s) (49 + 2 * o) i2 e2 k) ln N)) : WP xs (d + 2) 97 0 0 [.ref (32), .int (a), .int (i), .int (c), .int (e), .int (w)] (H m ln N) Q := by
  refine wp_x mx_97 (L := [some (.ref (32)), some (.int (a)), some (.int (i)), some (.int (c)), some (.int (e)), some (.int (w)), none, none]) (Nat.le_of_ble_eq_true rfl) rfl ?_
  have hwb := Int32.toInt_lt w
  refine g_iload_n m97_0 rfl ?_
  refine g_iconst m97_1 ?_
  refine g_cs (args := [.int (a), .int (3)]) (rest := []) 0 (Or.inl rfl) m97_2 (Nat.le_of_ble_eq_true rfl) rfl rfl (Nat.le_of_ble_eq_true rfl) ?_
  refine c_within (M := 3) rfl (fun ja ea a_3 => ?_) (fun a_3 => ?_)
  · subst ea
    refine gwr ?_
    refine h_if_eqF (xi := 1) (zi := 0) m97_5 rfl rfl (by decide) ?_
    refine g_iload_n m97_8 rfl ?_
    refine g_iconst m97_9 ?_
    refine g_cs (args := [.int (c), .int (3)]) (rest := []) 0 (Or.inl rfl) m97_10 (Nat.le_of_ble_eq_true rfl) rfl rfl (Nat.le_of_ble_eq_true rfl) ?_
    refine c_within (M := 3) rfl (fun jc ec a_4 => ?_) (fun a_4 => ?_)
    · subst ec
      refine gwr ?_
      refine h_if_neF (xi := 1) (zi := 0) m97_13 rfl rfl (by decide) ?_
      refine g_aload_n m97_22 rfl ?_
      refine h_gfR (c := 79) (k := 0) (p := 32) m97_23 rfl (t_0 _ _) rfl (Nat.le_of_ble_eq_true rfl) ?_
      refine g_iload_n m97_26 rfl ?_
      have hs : ja < 4 := by omega
      have hs_ja : ja < 4 := by omega
      have hBa := hB ja hs
      refine h_aald (j := ja) (c := 80 + 2 * ja) m97_27 rfl (t_47 _ _) (rfl) (sh_at hs) (le3 (Nat.le_of_ble_eq_true rfl)) (Nat.le_of_ble_eq_true rfl) ?_
      refine g_astore (L2 := [some (.ref (32)), some (.int (nI (ja))), some (.int (i)), some (.int (nI (jc))), some (.int (e)), some (.int (w)), some (.ref (80 + 2 * ja)), none]) m97_28 rfl rfl ?_
      refine g_aload_n m97_30 rfl ?_
      refine h_gfR (c := 79) (k := 0) (p := 32) m97_31 rfl (t_0 _ _) rfl (Nat.le_of_ble_eq_true rfl) ?_
      refine g_iload_n m97_34 rfl ?_
      have hs : jc < 4 := by omega
      have hs_jc : jc < 4 := by omega
      have hBc := hB jc hs
      refine h_aald (j := jc) (c := 80 + 2 * jc) m97_35 rfl (t_47 _ _) (rfl) (sh_at hs) (le3 (Nat.le_of_ble_eq_true rfl)) (Nat.le_of_ble_eq_true rfl) ?_
      refine g_astore (L2 := [some (.ref (32)), some (.int (nI (ja))), some (.int (i)), some (.int (nI (jc))), some (.int (e)), some (.int (w)), some (.ref (80 + 2 * ja)), some (.ref (80 + 2 * jc))]) m97_36 rfl rfl ?_
      refine g_aload m97_38 rfl ?_
      refine h_gfI (k := 48 + 2 * ja) (p := 80 + 2 * ja) m97_40 (pSo _) (tSo hs_ja) rfl (hBa.2.2.1) ?_
      refine h_if_eq (xi := ((B ja : Nat) : Int)) (zi := 0) m97_43 (nI_toInt (by omega)) rfl (fun c1 => ?_) (fun c1 => ?_)
      · skip
        refine g_aload_n m97_54 rfl ?_
        refine g_iconst m97_55 ?_
        refine h_cv (k := 0) (p := 32) (args := [.int (2)]) (rest := []) m97_56 cn_55 (Nat.le_of_ble_eq_true rfl) rfl rfl rfl (t_0 _ _) (Nat.le_of_ble_eq_true rfl) ?_
        refine c_error (e := 2) (by decide) (by decide) ?_
        refine gwr ?_
        refine g_iret m97_59 rt_97 ?_
        exact hE2 ⟨ja, jc, rfl, by omega, rfl, by omega, by omega⟩
      · skip
        refine g_aload m97_46 rfl ?_
        refine h_gfI (k := 48 + 2 * jc) (p := 80 + 2 * jc) m97_48 (pSo _) (tSo hs_jc) rfl (hBc.2.2.1) ?_
        refine h_if_ne (xi := ((B jc : Nat) : Int)) (zi := 0) m97_51 (nI_toInt (by omega)) rfl (fun c2 => ?_) (fun c2 => ?_)
        · skip
          refine g_aload_n m97_54 rfl ?_
          refine g_iconst m97_55 ?_
          refine h_cv (k := 0) (p := 32) (args := [.int (2)]) (rest := []) m97_56 cn_55 (Nat.le_of_ble_eq_true rfl) rfl rfl rfl (t_0 _ _) (Nat.le_of_ble_eq_true rfl) ?_
          refine c_error (e := 2) (by decide) (by decide) ?_
          refine gwr ?_
          refine g_iret m97_59 rt_97 ?_
          exact hE2 ⟨ja, jc, rfl, by omega, rfl, by omega, by omega⟩
        · skip
          refine g_aload m97_60 rfl ?_
          refine h_gfI (k := 48 + 2 * ja) (p := 80 + 2 * ja) m97_62 (pSo _) (tSo hs_ja) rfl (hBa.2.2.1) ?_
          refine g_aload m97_65 rfl ?_
          refine h_gfI (k := 48 + 2 * jc) (p := 80 + 2 * jc) m97_67 (pSo _) (tSo hs_jc) rfl (hBc.2.2.1) ?_
          refine h_ic_eq (xi := ((B ja : Nat) : Int)) (zi := ((B jc : Nat) : Int)) m97_70 (nI_toInt (by omega)) (nI_toInt (by omega)) (fun c3 => ?_) (fun c3 => ?_)
          · skip
            refine g_iload m97_79 rfl ?_
            refine h_if_lt (xi := w.toInt) (zi := 0) m97_81 rfl rfl (fun c4 => ?_) (fun c4 => ?_)
            · skip
              refine g_aload_n m97_118 rfl ?_
              refine g_iconst m97_119 ?_
              refine h_cv (k := 0) (p := 32) (args := [.int (1)]) (rest := []) m97_120 cn_55 (Nat.le_of_ble_eq_true rfl) rfl rfl rfl (t_0 _ _) (Nat.le_of_ble_eq_true rfl) ?_
              refine c_error (e := 1) (by decide) (by decide) ?_
              refine gwr ?_
              refine g_iret m97_123 rt_97 ?_
              first | (exact hE1 (Or.inl (by omega))) | (exact hE1 (Or.inr ⟨ja, jc, rfl, by omega, rfl, by omega, by omega, by omega, by omega⟩))
            · skip
              refine g_iload_n m97_84 rfl ?_
              refine h_if_lt (xi := i.toInt) (zi := 0) m97_85 rfl rfl (fun c5 => ?_) (fun c5 => ?_)
              · skip
                refine g_aload_n m97_118 rfl ?_
                refine g_iconst m97_119 ?_
                refine h_cv (k := 0) (p := 32) (args := [.int (1)]) (rest := []) m97_120 cn_55 (Nat.le_of_ble_eq_true rfl) rfl rfl rfl (t_0 _ _) (Nat.le_of_ble_eq_true rfl) ?_
                refine c_error (e := 1) (by decide) (by decide) ?_
                refine gwr ?_
                refine g_iret m97_123 rt_97 ?_
                first | (exact hE1 (Or.inl (by omega))) | (exact hE1 (Or.inr ⟨ja, jc, rfl, by omega, rfl, by omega, by omega, by omega, by omega⟩))
              · skip
                refine g_iload m97_88 rfl ?_
                refine h_if_lt (xi := e.toInt) (zi := 0) m97_90 rfl rfl (fun c6 => ?_) (fun c6 => ?_)
                · skip
                  refine g_aload_n m97_118 rfl ?_
                  refine g_iconst m97_119 ?_
                  refine h_cv (k := 0) (p := 32) (args := [.int (1)]) (rest := []) m97_120 cn_55 (Nat.le_of_ble_eq_true rfl) rfl rfl rfl (t_0 _ _) (Nat.le_of_ble_eq_true rfl) ?_
                  refine c_error (e := 1) (by decide) (by decide) ?_
                  refine gwr ?_
                  refine g_iret m97_123 rt_97 ?_
                  first | (exact hE1 (Or.inl (by omega))) | (exact hE1 (Or.inr ⟨ja, jc, rfl, by omega, rfl, by omega, by omega, by omega, by omega⟩))
                · skip
                  refine g_iload_n m97_93 rfl ?_
                  refine g_aload m97_94 rfl ?_
                  refine h_gfI (k := 48 + 2 * ja) (p := 80 + 2 * ja) m97_96 (pSo _) (tSo hs_ja) rfl (hBa.2.2.2) ?_
                  refine g_iload m97_99 rfl ?_
                  refine g_isub m97_101 rfl ?_
                  refine h_ic_gt (xi := i.toInt) (zi := (((Ln ja : Nat) : Int) - w.toInt)) m97_102 rfl (sub_k (a := ((Ln ja : Nat) : Int)) (nI_toInt (by omega)) rfl (by omega) (by omega)) (fun c7 => ?_) (fun c7 => ?_)
                  · skip
                    refine g_aload_n m97_118 rfl ?_
                    refine g_iconst m97_119 ?_
                    refine h_cv (k := 0) (p := 32) (args := [.int (1)]) (rest := []) m97_120 cn_55 (Nat.le_of_ble_eq_true rfl) rfl rfl rfl (t_0 _ _) (Nat.le_of_ble_eq_true rfl) ?_
                    refine c_error (e := 1) (by decide) (by decide) ?_
                    refine gwr ?_
                    refine g_iret m97_123 rt_97 ?_
                    first | (exact hE1 (Or.inl (by omega))) | (exact hE1 (Or.inr ⟨ja, jc, rfl, by omega, rfl, by omega, by omega, by omega, by omega⟩))
                  · skip
                    refine g_iload m97_105 rfl ?_
                    refine g_aload m97_107 rfl ?_
                    refine h_gfI (k := 48 + 2 * jc) (p := 80 + 2 * jc) m97_109 (pSo _) (tSo hs_jc) rfl (hBc.2.2.2) ?_
                    refine g_iload m97_112 rfl ?_
                    refine g_isub m97_114 rfl ?_
                    refine h_ic_le (xi := e.toInt) (zi := (((Ln jc : Nat) : Int) - w.toInt)) m97_115 rfl (sub_k (a := ((Ln jc : Nat) : Int)) (nI_toInt (by omega)) rfl (by omega) (by omega)) (fun c8 => ?_) (fun c8 => ?_)
                    · skip
                      obtain ⟨ji, ⟨hi1, hi2⟩, hi3⟩ := nat_of (x := i) (lo := 0) (hi := Ln ja) (by omega) (by omega)
                      have ki : i.toInt = (ji : Int) := by rw [hi3]; exact nI_toInt (by omega)
                      obtain ⟨je, ⟨he1, he2⟩, he3⟩ := nat_of (x := e) (lo := 0) (hi := Ln jc) (by omega) (by omega)
                      have ke : e.toInt = (je : Int) := by rw [he3]; exact nI_toInt (by omega)
                      obtain ⟨jw, ⟨hw1, hw2⟩, hw3⟩ := nat_of (x := w) (lo := 0) (hi := Ln ja) (by omega) (by omega)
                      have kw : w.toInt = (jw : Int) := by rw [hw3]; exact nI_toInt (by omega)
                      obtain rfl : i = nI ji := hi3
                      obtain rfl : e = nI je := he3
                      obtain rfl : w = nI jw := hw3
                      refine g_aload m97_124 rfl ?_
                      refine h_gfR (c := 81 + 2 * ja) (k := 48 + 2 * ja) (p := 80 + 2 * ja) m97_126 (pSo _) (tSo (show ja < 4 by omega)) rfl (le3 (Nat.le_of_ble_eq_true rfl)) ?_
                      refine g_iload_n m97_129 rfl ?_
                      refine g_aload m97_130 rfl ?_
                      refine h_gfR (c := 81 + 2 * jc) (k := 48 + 2 * jc) (p := 80 + 2 * jc) m97_132 (pSo _) (tSo (show jc < 4 by omega)) rfl (le3 (Nat.le_of_ble_eq_true rfl)) ?_
                      refine g_iload m97_135 rfl ?_
                      refine g_iload m97_137 rfl ?_
                      refine h_acp (kd := 0) (k1 := 49 + 2 * ja) (k2 := 49 + 2 * jc) (p := 81 + 2 * ja) (q := 81 + 2 * jc) (sp := ji) (dp := je) (c := jw) m97_139 (pSn _) (pSn _) (tSn (show ja < 4 by omega)) (tSn (show jc < 4 by omega)) (Or.inl rfl) (Nat.le_of_ble_eq_true rfl) (Nat.le_of_ble_eq_true rfl) (by omega) (by omega) (fun q => absurd q (by decide)) (Nat.le_of_ble_eq_true rfl) ?_
                      refine g_iload m97_142 rfl ?_
                      refine g_iret m97_144 rt_97 ?_
                      exact hY ja jc ji je jw rfl (by omega) rfl (by omega) (by omega) (by omega) rfl rfl rfl (by omega) (by omega)
                    · skip
                      refine g_aload_n m97_118 rfl ?_
                      refine g_iconst m97_119 ?_
                      refine h_cv (k := 0) (p := 32) (args := [.int (1)]) (rest := []) m97_120 cn_55 (Nat.le_of_ble_eq_true rfl) rfl rfl rfl (t_0 _ _) (Nat.le_of_ble_eq_true rfl) ?_
                      refine c_error (e := 1) (by decide) (by decide) ?_
                      refine gwr ?_
                      refine g_iret m97_123 rt_97 ?_
                      first | (exact hE1 (Or.inl (by omega))) | (exact hE1 (Or.inr ⟨ja, jc, rfl, by omega, rfl, by omega, by omega, by omega, by omega⟩))
          · skip
            refine g_aload_n m97_73 rfl ?_
            refine g_iconst m97_74 ?_
            refine h_cv (k := 0) (p := 32) (args := [.int (5)]) (rest := []) m97_75 cn_55 (Nat.le_of_ble_eq_true rfl) rfl rfl rfl (t_0 _ _) (Nat.le_of_ble_eq_true rfl) ?_
            refine c_error (e := 5) (by decide) (by decide) ?_
            refine gwr ?_
            refine g_iret m97_78 rt_97 ?_
            exact hE5 ⟨ja, jc, rfl, by omega, rfl, by omega, by omega, by omega, by omega⟩
    · skip
      refine gwr ?_
      refine h_if_neT (xi := 0) (zi := 0) m97_13 rfl rfl (by decide) ?_
      refine g_aload_n m97_16 rfl ?_
      refine g_iconst m97_17 ?_
      refine h_cv (k := 0) (p := 32) (args := [.int (1)]) (rest := []) m97_18 cn_55 (Nat.le_of_ble_eq_true rfl) rfl rfl rfl (t_0 _ _) (Nat.le_of_ble_eq_true rfl) ?_
      refine c_error (e := 1) (by decide) (by decide) ?_
      refine gwr ?_
      refine g_iret m97_21 rt_97 ?_
      first | (exact hE1 (Or.inl (by omega))) | (exact hE1 (Or.inr ⟨ja, jc, rfl, by omega, rfl, by omega, by omega, by omega, by omega⟩))
  · skip
    refine gwr ?_
    refine h_if_eqT (xi := 0) (zi := 0) m97_5 rfl rfl (by decide) ?_
    refine g_aload_n m97_16 rfl ?_
    refine g_iconst m97_17 ?_
    refine h_cv (k := 0) (p := 32) (args := [.int (1)]) (rest := []) m97_18 cn_55 (Nat.le_of_ble_eq_true rfl) rfl rfl rfl (t_0 _ _) (Nat.le_of_ble_eq_true rfl) ?_
    refine c_error (e := 1) (by decide) (by decide) ?_
    refine gwr ?_
    refine g_iret m97_21 rt_97 ?_
    first | (exact hE1 (Or.inl (by omega))) | (exact hE1 (Or.inr ⟨ja, jc, rfl, by omega, rfl, by omega, by omega, by omega, by omega⟩))
set_option maxRecDepth 20000 in
set_option maxHeartbeats 40000000 in
theorem m_move {a i c e w : Int32} {B Ln : Nat → Nat} (hB : ∀ s, s < 4 → (B s = 0 ∨ B s = 8 ∨ B s = 16 ∨ B s = 32) ∧ Ln s ≤ 40 ∧ m 63 s = nI (B s) ∧ m 64 s = nI (Ln s)) (hE1 : ((a.toInt < 0 ∨ 3 < a.toInt ∨ c.toInt < 0 ∨ 3 < c.toInt) ∨ (∃ s o : Nat, a = nI s ∧ s < 4 ∧ c = nI o ∧ o < 4 ∧ B s ≠ 0 ∧ B s = B o ∧ (w.toInt < 0 ∨ i.toInt < 0 ∨ e.toInt < 0 ∨ (Ln s : Int) - w.toInt < i.toInt ∨ (Ln o : Int) - w.toInt < e.toInt))) → Q (some (.int (-1000000001))) (H (ers m 1) ln N)) (hE2 : (∃ s o : Nat, a = nI s ∧ s < 4 ∧ c = nI o ∧ o < 4 ∧ (B s = 0 ∨ B o = 0)) → Q (some (.int (-1000000002))) (H (ers m 2) ln N)) (hE5 : (∃ s o : Nat, a = nI s ∧ s < 4 ∧ c = nI o ∧ o < 4 ∧ B s ≠ 0 ∧ B o ≠ 0 ∧ B s ≠ B o) → Q (some (.int (-1000000005))) (H (ers m 5) ln N)) (hY : ∀ s o i2 e2 k : Nat, a = nI s → s < 4 → c = nI o → o < 4 → B s ≠ 0 → B s = B o → i = nI i2 → e = nI e2 → w = nI k → i2 + k ≤ Ln s → e2 + k ≤ Ln o → Q (some (.int (nI k))) (H (mvB (mvA m (40 * s + i2) k) (40 * o + e2) k) ln N)) : WP xs (d + 3) 181 0 0 [.ref (89), .int (a), .int (i), .int (c), .int (e), .int (w)] (H m ln N) Q := by
  refine wp_x mx_181 (L := [some (.ref (89)), some (.int (a)), some (.int (i)), some (.int (c)), some (.int (e)), some (.int (w)), none]) (Nat.le_of_ble_eq_true rfl) rfl ?_
  have hwb := Int32.toInt_lt w
  refine g_iload_n m181_0 rfl ?_
  refine g_cs (args := [.int (a)]) (rest := []) 0 (Or.inl rfl) m181_1 (Nat.le_of_ble_eq_true rfl) rfl rfl (Nat.le_of_ble_eq_true rfl) ?_
  refine c_isSheet (fun ja ea a_5 => ?_) (fun a_5 => ?_)
  · subst ea
    refine gwr ?_
    refine h_if_eqF (xi := 1) (zi := 0) m181_4 rfl rfl (by decide) ?_
    refine g_iload_n m181_7 rfl ?_
    refine g_cs (args := [.int (c)]) (rest := []) 0 (Or.inl rfl) m181_8 (Nat.le_of_ble_eq_true rfl) rfl rfl (Nat.le_of_ble_eq_true rfl) ?_
    refine c_isSheet (fun jc ec a_6 => ?_) (fun a_6 => ?_)
    · subst ec
      refine gwr ?_
      refine h_if_neF (xi := 1) (zi := 0) m181_11 rfl rfl (by decide) ?_
      refine g_aload_n m181_21 rfl ?_
      refine h_gfR (c := 95) (k := 57) (p := 89) m181_22 rfl (t_57 _ _) rfl (Nat.le_of_ble_eq_true rfl) ?_
      refine g_iload_n m181_25 rfl ?_
      have hs : ja < 4 := by omega
      have hs_ja : ja < 4 := by omega
      have hBa := hB ja hs
      refine h_ial (k := 63) (p := 95) (j := ja) m181_26 rfl (t_63 _ _) (rfl) (by omega) (Nat.le_of_ble_eq_true rfl) (hBa.2.2.1) ?_
      refine h_if_eq (xi := ((B ja : Nat) : Int)) (zi := 0) m181_27 (nI_toInt (by omega)) rfl (fun c1 => ?_) (fun c1 => ?_)
      · skip
        refine g_aload_n m181_39 rfl ?_
        refine g_ldci m181_40 rfl ?_
        refine h_cv (k := 57) (p := 89) (args := [.int (-1000000002)]) (rest := []) m181_42 cn_108 (Nat.le_of_ble_eq_true rfl) rfl rfl rfl (t_57 _ _) (Nat.le_of_ble_eq_true rfl) ?_
        refine c_errs (e := 2) (by decide) (by decide) (by decide) ?_
        refine gwr ?_
        refine g_iret m181_45 rt_181 ?_
        exact hE2 ⟨ja, jc, rfl, by omega, rfl, by omega, by omega⟩
      · skip
        refine g_aload_n m181_30 rfl ?_
        refine h_gfR (c := 95) (k := 57) (p := 89) m181_31 rfl (t_57 _ _) rfl (Nat.le_of_ble_eq_true rfl) ?_
        refine g_iload_n m181_34 rfl ?_
        have hs : jc < 4 := by omega
        have hs_jc : jc < 4 := by omega
        have hBc := hB jc hs
        refine h_ial (k := 63) (p := 95) (j := jc) m181_35 rfl (t_63 _ _) (rfl) (by omega) (Nat.le_of_ble_eq_true rfl) (hBc.2.2.1) ?_
        refine h_if_ne (xi := ((B jc : Nat) : Int)) (zi := 0) m181_36 (nI_toInt (by omega)) rfl (fun c2 => ?_) (fun c2 => ?_)
        · skip
          refine g_aload_n m181_39 rfl ?_
          refine g_ldci m181_40 rfl ?_
          refine h_cv (k := 57) (p := 89) (args := [.int (-1000000002)]) (rest := []) m181_42 cn_108 (Nat.le_of_ble_eq_true rfl) rfl rfl rfl (t_57 _ _) (Nat.le_of_ble_eq_true rfl) ?_
          refine c_errs (e := 2) (by decide) (by decide) (by decide) ?_
          refine gwr ?_
          refine g_iret m181_45 rt_181 ?_
          exact hE2 ⟨ja, jc, rfl, by omega, rfl, by omega, by omega⟩
        · skip
          refine g_aload_n m181_46 rfl ?_
          refine h_gfR (c := 95) (k := 57) (p := 89) m181_47 rfl (t_57 _ _) rfl (Nat.le_of_ble_eq_true rfl) ?_
          refine g_iload_n m181_50 rfl ?_
          refine h_ial (k := 63) (p := 95) (j := ja) m181_51 rfl (t_63 _ _) (rfl) (by omega) (Nat.le_of_ble_eq_true rfl) (hBa.2.2.1) ?_
          refine g_aload_n m181_52 rfl ?_
          refine h_gfR (c := 95) (k := 57) (p := 89) m181_53 rfl (t_57 _ _) rfl (Nat.le_of_ble_eq_true rfl) ?_
          refine g_iload_n m181_56 rfl ?_
          refine h_ial (k := 63) (p := 95) (j := jc) m181_57 rfl (t_63 _ _) (rfl) (by omega) (Nat.le_of_ble_eq_true rfl) (hBc.2.2.1) ?_
          refine h_ic_eq (xi := ((B ja : Nat) : Int)) (zi := ((B jc : Nat) : Int)) m181_58 (nI_toInt (by omega)) (nI_toInt (by omega)) (fun c3 => ?_) (fun c3 => ?_)
          · skip
            refine g_iload m181_68 rfl ?_
            refine h_if_lt (xi := w.toInt) (zi := 0) m181_70 rfl rfl (fun c4 => ?_) (fun c4 => ?_)
            · skip
              refine g_aload_n m181_109 rfl ?_
              refine g_ldci m181_110 rfl ?_
              refine h_cv (k := 57) (p := 89) (args := [.int (-1000000001)]) (rest := []) m181_112 cn_108 (Nat.le_of_ble_eq_true rfl) rfl rfl rfl (t_57 _ _) (Nat.le_of_ble_eq_true rfl) ?_
              refine c_errs (e := 1) (by decide) (by decide) (by decide) ?_
              refine gwr ?_
              refine g_iret m181_115 rt_181 ?_
              first | (exact hE1 (Or.inl (by omega))) | (exact hE1 (Or.inr ⟨ja, jc, rfl, by omega, rfl, by omega, by omega, by omega, by omega⟩))
            · skip
              refine g_iload_n m181_73 rfl ?_
              refine h_if_lt (xi := i.toInt) (zi := 0) m181_74 rfl rfl (fun c5 => ?_) (fun c5 => ?_)
              · skip
                refine g_aload_n m181_109 rfl ?_
                refine g_ldci m181_110 rfl ?_
                refine h_cv (k := 57) (p := 89) (args := [.int (-1000000001)]) (rest := []) m181_112 cn_108 (Nat.le_of_ble_eq_true rfl) rfl rfl rfl (t_57 _ _) (Nat.le_of_ble_eq_true rfl) ?_
                refine c_errs (e := 1) (by decide) (by decide) (by decide) ?_
                refine gwr ?_
                refine g_iret m181_115 rt_181 ?_
                first | (exact hE1 (Or.inl (by omega))) | (exact hE1 (Or.inr ⟨ja, jc, rfl, by omega, rfl, by omega, by omega, by omega, by omega⟩))
              · skip
                refine g_iload m181_77 rfl ?_
                refine h_if_lt (xi := e.toInt) (zi := 0) m181_79 rfl rfl (fun c6 => ?_) (fun c6 => ?_)
                · skip
                  refine g_aload_n m181_109 rfl ?_
                  refine g_ldci m181_110 rfl ?_
                  refine h_cv (k := 57) (p := 89) (args := [.int (-1000000001)]) (rest := []) m181_112 cn_108 (Nat.le_of_ble_eq_true rfl) rfl rfl rfl (t_57 _ _) (Nat.le_of_ble_eq_true rfl) ?_
                  refine c_errs (e := 1) (by decide) (by decide) (by decide) ?_
                  refine gwr ?_
                  refine g_iret m181_115 rt_181 ?_
                  first | (exact hE1 (Or.inl (by omega))) | (exact hE1 (Or.inr ⟨ja, jc, rfl, by omega, rfl, by omega, by omega, by omega, by omega⟩))
                · skip
                  refine g_iload_n m181_82 rfl ?_
                  refine g_aload_n m181_83 rfl ?_
                  refine h_gfR (c := 96) (k := 57) (p := 89) m181_84 rfl (t_57 _ _) rfl (Nat.le_of_ble_eq_true rfl) ?_
                  refine g_iload_n m181_87 rfl ?_
                  refine h_ial (k := 64) (p := 96) (j := ja) m181_88 rfl (t_64 _ _) (rfl) (by omega) (Nat.le_of_ble_eq_true rfl) (hBa.2.2.2) ?_
                  refine g_iload m181_89 rfl ?_
                  refine g_isub m181_91 rfl ?_
                  refine h_ic_gt (xi := i.toInt) (zi := (((Ln ja : Nat) : Int) - w.toInt)) m181_92 rfl (sub_k (a := ((Ln ja : Nat) : Int)) (nI_toInt (by omega)) rfl (by omega) (by omega)) (fun c7 => ?_) (fun c7 => ?_)
                  · skip
                    refine g_aload_n m181_109 rfl ?_
                    refine g_ldci m181_110 rfl ?_
                    refine h_cv (k := 57) (p := 89) (args := [.int (-1000000001)]) (rest := []) m181_112 cn_108 (Nat.le_of_ble_eq_true rfl) rfl rfl rfl (t_57 _ _) (Nat.le_of_ble_eq_true rfl) ?_
                    refine c_errs (e := 1) (by decide) (by decide) (by decide) ?_
                    refine gwr ?_
                    refine g_iret m181_115 rt_181 ?_
                    first | (exact hE1 (Or.inl (by omega))) | (exact hE1 (Or.inr ⟨ja, jc, rfl, by omega, rfl, by omega, by omega, by omega, by omega⟩))
                  · skip
                    refine g_iload m181_95 rfl ?_
                    refine g_aload_n m181_97 rfl ?_
                    refine h_gfR (c := 96) (k := 57) (p := 89) m181_98 rfl (t_57 _ _) rfl (Nat.le_of_ble_eq_true rfl) ?_
                    refine g_iload_n m181_101 rfl ?_
                    refine h_ial (k := 64) (p := 96) (j := jc) m181_102 rfl (t_64 _ _) (rfl) (by omega) (Nat.le_of_ble_eq_true rfl) (hBc.2.2.2) ?_
                    refine g_iload m181_103 rfl ?_
                    refine g_isub m181_105 rfl ?_
                    refine h_ic_le (xi := e.toInt) (zi := (((Ln jc : Nat) : Int) - w.toInt)) m181_106 rfl (sub_k (a := ((Ln jc : Nat) : Int)) (nI_toInt (by omega)) rfl (by omega) (by omega)) (fun c8 => ?_) (fun c8 => ?_)
                    · skip
                      refine g_iconst m181_116 ?_
                      refine g_istore (L2 := [some (.ref (89)), some (.int (nI (ja))), some (.int (i)), some (.int (nI (jc))), some (.int (e)), some (.int (w)), some (.int (0))]) m181_117 rfl rfl ?_
                      obtain ⟨ji, ⟨hi1, hi2⟩, hi3⟩ := nat_of (x := i) (lo := 0) (hi := Ln ja) (by omega) (by omega)
                      have ki : i.toInt = (ji : Int) := by rw [hi3]; exact nI_toInt (by omega)
                      obtain ⟨je, ⟨he1, he2⟩, he3⟩ := nat_of (x := e) (lo := 0) (hi := Ln jc) (by omega) (by omega)
                      have ke : e.toInt = (je : Int) := by rw [he3]; exact nI_toInt (by omega)
                      obtain ⟨jw, ⟨hw1, hw2⟩, hw3⟩ := nat_of (x := w) (lo := 0) (hi := Ln ja) (by omega) (by omega)
                      have kw : w.toInt = (jw : Int) := by rw [hw3]; exact nI_toInt (by omega)
                      obtain rfl : i = nI ji := hi3
                      obtain rfl : e = nI je := he3
                      obtain rfl : w = nI jw := hw3
                      have key : ∀ (r : Nat) (q : Nat), q + r = jw → gw xs (WP xs (d + 2)) 181 Q 119 [some (.ref (89)), some (.int (nI (ja))), some (.int (nI (ji))), some (.int (nI (jc))), some (.int (nI (je))), some (.int (nI (jw))), some (.int (nI (q)))] [] (H (mvA m (40 * ja + ji) q) ln N) 0 0 := by
                        intro r
                        induction r with
                        | zero =>
                          intro q hq
                          obtain rfl : q = jw := by omega
                          refine g_iload m181_119 rfl ?_
                          refine g_iload m181_121 rfl ?_
                          refine h_ic_geT (xi := ((q : Nat) : Int)) (zi := ((q : Nat) : Int)) m181_123 (nI_toInt (by omega)) (nI_toInt (by omega)) (by omega) ?_
                          refine g_iconst m181_153 ?_
                          refine g_istore (L2 := [some (.ref (89)), some (.int (nI (ja))), some (.int (nI (ji))), some (.int (nI (jc))), some (.int (nI (je))), some (.int (nI (q))), some (.int (0))]) m181_154 rfl rfl ?_
                          have key2 : ∀ (r : Nat) (z : Nat), z + r = q → gw xs (WP xs (d + 2)) 181 Q 156 [some (.ref (89)), some (.int (nI (ja))), some (.int (nI (ji))), some (.int (nI (jc))), some (.int (nI (je))), some (.int (nI (q))), some (.int (nI (z)))] [] (H (mvB (mvA m (40 * ja + ji) q) (40 * jc + je) z) ln N) 0 0 := by
                            intro r
                            induction r with
                            | zero =>
                              intro z hz
                              obtain rfl : z = q := by omega
                              refine g_iload m181_156 rfl ?_
                              refine g_iload m181_158 rfl ?_
                              refine h_ic_geT (xi := ((z : Nat) : Int)) (zi := ((z : Nat) : Int)) m181_160 (nI_toInt (by omega)) (nI_toInt (by omega)) (by omega) ?_
                              refine g_iload m181_191 rfl ?_
                              refine g_iret m181_193 rt_181 ?_
                              exact hY ja jc ji je z rfl (by omega) rfl (by omega) (by omega) (by omega) rfl rfl rfl (by omega) (by omega)
                            | succ r ih =>
                              intro z hz
                              refine g_iload m181_156 rfl ?_
                              refine g_iload m181_158 rfl ?_
                              refine h_ic_geF (xi := ((z : Nat) : Int)) (zi := ((q : Nat) : Int)) m181_160 (nI_toInt (by omega)) (nI_toInt (by omega)) (by omega) ?_
                              refine g_aload_n m181_163 rfl ?_
                              refine h_gfR (c := 97) (k := 57) (p := 89) m181_164 rfl (t_57 _ _) rfl (Nat.le_of_ble_eq_true rfl) ?_
                              refine g_bipush m181_167 ?_
                              refine g_iload_n m181_169 rfl ?_
                              refine g_imul (u := nI (40 * jc)) m181_170 (pk_mul 40 jc) ?_
                              refine g_iload m181_171 rfl ?_
                              refine g_iadd (u := nI ((40 * jc) + je)) m181_173 (nI_add (40 * jc) je) ?_
                              refine g_iload m181_174 rfl ?_
                              refine g_iadd (u := nI (((40 * jc) + je) + z)) m181_176 (nI_add ((40 * jc) + je) z) ?_
                              refine g_aload_n m181_177 rfl ?_
                              refine h_gfR (c := 98) (k := 57) (p := 89) m181_178 rfl (t_57 _ _) rfl (Nat.le_of_ble_eq_true rfl) ?_
                              refine g_iload m181_181 rfl ?_
                              refine h_ial (k := 66) (p := 98) (j := z) m181_183 rfl (t_66 _ _) (rfl) (by omega) (Nat.le_of_ble_eq_true rfl) (congrFun (mvB_o _ _ (by decide) z) _) ?_
                              refine h_ias (k := 65) (p := 97) (j := ((40 * jc) + je) + z) m181_184 rfl (t_65 _ _) (rfl) (by omega) (Nat.le_of_ble_eq_true rfl) ?_
                              refine g_iinc (L2 := [some (.ref (89)), some (.int (nI (ja))), some (.int (nI (ji))), some (.int (nI (jc))), some (.int (nI (je))), some (.int (nI (q))), some (.int (nI (z + 1)))]) m181_185 rfl (nI_1 _) rfl rfl ?_
                              refine g_goto m181_188 ?_
                              exact ih (z + 1) (by omega)
                          exact key2 q 0 (by omega)
                        | succ r ih =>
                          intro q hq
                          refine g_iload m181_119 rfl ?_
                          refine g_iload m181_121 rfl ?_
                          refine h_ic_geF (xi := ((q : Nat) : Int)) (zi := ((jw : Nat) : Int)) m181_123 (nI_toInt (by omega)) (nI_toInt (by omega)) (by omega) ?_
                          refine g_aload_n m181_126 rfl ?_
                          refine h_gfR (c := 98) (k := 57) (p := 89) m181_127 rfl (t_57 _ _) rfl (Nat.le_of_ble_eq_true rfl) ?_
                          refine g_iload m181_130 rfl ?_
                          refine g_aload_n m181_132 rfl ?_
                          refine h_gfR (c := 97) (k := 57) (p := 89) m181_133 rfl (t_57 _ _) rfl (Nat.le_of_ble_eq_true rfl) ?_
                          refine g_bipush m181_136 ?_
                          refine g_iload_n m181_138 rfl ?_
                          refine g_imul (u := nI (40 * ja)) m181_139 (pk_mul 40 ja) ?_
                          refine g_iload_n m181_140 rfl ?_
                          refine g_iadd (u := nI ((40 * ja) + ji)) m181_141 (nI_add (40 * ja) ji) ?_
                          refine g_iload m181_142 rfl ?_
                          refine g_iadd (u := nI (((40 * ja) + ji) + q)) m181_144 (nI_add ((40 * ja) + ji) q) ?_
                          refine h_ial (k := 65) (p := 97) (j := ((40 * ja) + ji) + q) m181_145 rfl (t_65 _ _) (rfl) (by omega) (Nat.le_of_ble_eq_true rfl) (congrFun (mvA_o m _ (by decide) q) _) ?_
                          refine h_ias (k := 66) (p := 98) (j := q) m181_146 rfl (t_66 _ _) (rfl) (by omega) (Nat.le_of_ble_eq_true rfl) ?_
                          refine g_iinc (L2 := [some (.ref (89)), some (.int (nI (ja))), some (.int (nI (ji))), some (.int (nI (jc))), some (.int (nI (je))), some (.int (nI (jw))), some (.int (nI (q + 1)))]) m181_147 rfl (nI_1 _) rfl rfl ?_
                          refine g_goto m181_150 ?_
                          exact ih (q + 1) (by omega)
                      exact key jw 0 (by omega)
                    · skip
                      refine g_aload_n m181_109 rfl ?_
                      refine g_ldci m181_110 rfl ?_
                      refine h_cv (k := 57) (p := 89) (args := [.int (-1000000001)]) (rest := []) m181_112 cn_108 (Nat.le_of_ble_eq_true rfl) rfl rfl rfl (t_57 _ _) (Nat.le_of_ble_eq_true rfl) ?_
                      refine c_errs (e := 1) (by decide) (by decide) (by decide) ?_
                      refine gwr ?_
                      refine g_iret m181_115 rt_181 ?_
                      first | (exact hE1 (Or.inl (by omega))) | (exact hE1 (Or.inr ⟨ja, jc, rfl, by omega, rfl, by omega, by omega, by omega, by omega⟩))
          · skip
            refine g_aload_n m181_61 rfl ?_
            refine g_ldci m181_62 rfl ?_
            refine h_cv (k := 57) (p := 89) (args := [.int (-1000000005)]) (rest := []) m181_64 cn_108 (Nat.le_of_ble_eq_true rfl) rfl rfl rfl (t_57 _ _) (Nat.le_of_ble_eq_true rfl) ?_
            refine c_errs (e := 5) (by decide) (by decide) (by decide) ?_
            refine gwr ?_
            refine g_iret m181_67 rt_181 ?_
            exact hE5 ⟨ja, jc, rfl, by omega, rfl, by omega, by omega, by omega, by omega⟩
    · skip
      refine gwr ?_
      refine h_if_neT (xi := 0) (zi := 0) m181_11 rfl rfl (by decide) ?_
      refine g_aload_n m181_14 rfl ?_
      refine g_ldci m181_15 rfl ?_
      refine h_cv (k := 57) (p := 89) (args := [.int (-1000000001)]) (rest := []) m181_17 cn_108 (Nat.le_of_ble_eq_true rfl) rfl rfl rfl (t_57 _ _) (Nat.le_of_ble_eq_true rfl) ?_
      refine c_errs (e := 1) (by decide) (by decide) (by decide) ?_
      refine gwr ?_
      refine g_iret m181_20 rt_181 ?_
      first | (exact hE1 (Or.inl (by omega))) | (exact hE1 (Or.inr ⟨ja, jc, rfl, by omega, rfl, by omega, by omega, by omega, by omega⟩))
  · skip
    refine gwr ?_
    refine h_if_eqT (xi := 0) (zi := 0) m181_4 rfl rfl (by decide) ?_
    refine g_aload_n m181_14 rfl ?_
    refine g_ldci m181_15 rfl ?_
    refine h_cv (k := 57) (p := 89) (args := [.int (-1000000001)]) (rest := []) m181_17 cn_108 (Nat.le_of_ble_eq_true rfl) rfl rfl rfl (t_57 _ _) (Nat.le_of_ble_eq_true rfl) ?_
    refine c_errs (e := 1) (by decide) (by decide) (by decide) ?_
    refine gwr ?_
    refine g_iret m181_20 rt_181 ?_
    first | (exact hE1 (Or.inl (by omega))) | (exact hE1 (Or.inr ⟨ja, jc, rfl, by omega, rfl, by omega, by omega, by omega, by omega⟩))
end
