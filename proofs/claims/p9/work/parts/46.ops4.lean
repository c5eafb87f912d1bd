/-! WHAT WOULD BE: the class -/
def whatF (k : Nat) : Nat := if k = 0 then 4 else if k = 1 then 6 else 7
section
variable {xs : List Int32} {d : Nat} {h : AH} {Q : QT} {m : MW} {ln : Nat → Nat} {N : Nat}
set_option maxRecDepth 20000 in
set_option maxHeartbeats 40000000 in
theorem c_think (h01 : ∀ j, j < 8 → m 8 j = 0 ∨ m 8 j = 1) (hQ : Q (some (.ref 42)) (H (takeM m 1 0) ln N)) : WP xs (d + 2) 74 0 0 [.ref (32)] (H m ln N) Q := by
  refine wp_x mx_74 (L := [some (.ref (32))]) (Nat.le_of_ble_eq_true rfl) rfl ?_
  refine g_aload_n m74_0 rfl ?_
  refine h_gfR (c := 42) (k := 0) (p := 32) m74_1 rfl (t_0 _ _) rfl (Nat.le_of_ble_eq_true rfl) ?_
  refine g_aload_n m74_4 rfl ?_
  refine h_gfR (c := 33) (k := 0) (p := 32) m74_5 rfl (t_0 _ _) rfl (Nat.le_of_ble_eq_true rfl) ?_
  refine h_cv (k := 10) (p := 42) (args := [.ref (33)]) (rest := []) m74_8 cn_31 (Nat.le_of_ble_eq_true rfl) rfl rfl rfl (t_10 _ _) (Nat.le_of_ble_eq_true rfl) ?_
  refine c_take10 h01 ?_
  refine gwr0 ?_
  refine g_aload_n m74_11 rfl ?_
  refine h_gfR (c := 42) (k := 0) (p := 32) m74_12 rfl (t_0 _ _) rfl (Nat.le_of_ble_eq_true rfl) ?_
  refine g_aret m74_15 ?_
  exact hQ
set_option maxRecDepth 20000 in
set_option maxHeartbeats 40000000 in
theorem x_then {v a b : Int32} {n : Nat} (hd : m 1 10 = nI n) (hn : n ≤ 8) (h01 : ∀ j, j < 8 → m 8 j = 0 ∨ m 8 j = 1) (hW : WF (vw m 0)) (hL : LawsOk m ln N) (hix : LawIx N (m 1 11)) (hiy : LawIx N (m 1 12)) (hE1 : (v.toInt < 0 ∨ 60 < v.toInt ∨ a.toInt < 0 ∨ (n : Int) ≤ a.toInt ∨ b.toInt < 0 ∨ 2 < b.toInt) → Q (some (.int (-1000000000 - nI 1))) (H (erm m 1) ln N)) (hY : ∀ q i k : Nat, v = nI q → q ≤ 60 → a = nI i → i < n → b = nI k → k ≤ 2 → ∀ m2, FrT m m2 → Q (some (.int (stepN (lkF m ln (m 1 11)) (blF m ln (m 1 12)) (vw m 0) q (whatF k) i))) (H m2 ln N)) : WP xs (d + 7) 75 0 0 [.ref (32), .int (v), .int (a), .int (b)] (H m ln N) Q := by
  refine wp_x mx_75 (L := [some (.ref (32)), some (.int (v)), some (.int (a)), some (.int (b)), none]) (Nat.le_of_ble_eq_true rfl) rfl ?_
  refine g_iload_n m75_0 rfl ?_
  refine g_bipush m75_1 ?_
  refine g_cs (args := [.int (v), .int (60)]) (rest := []) 0 (Or.inl rfl) m75_3 (Nat.le_of_ble_eq_true rfl) rfl rfl (Nat.le_of_ble_eq_true rfl) ?_
  refine c_within (M := 60) rfl (fun jv ev a_1 => ?_) (fun a_1 => ?_)
  · subst ev
    refine gwr ?_
    refine h_if_eqF (xi := 1) (zi := 0) m75_6 rfl rfl (by decide) ?_
    refine g_aload_n m75_9 rfl ?_
    refine g_iload_n m75_10 rfl ?_
    refine h_cv (k := 0) (p := 32) (args := [.int (a)]) (rest := []) m75_11 cn_60 (Nat.le_of_ble_eq_true rfl) rfl rfl rfl (t_0 _ _) (Nat.le_of_ble_eq_true rfl) ?_
    refine c_isDiner hd hn (fun ja ea a_2 => ?_) (fun a_2 => ?_)
    · subst ea
      refine gwr ?_
      refine h_if_eqF (xi := 1) (zi := 0) m75_14 rfl rfl (by decide) ?_
      refine g_iload_n m75_17 rfl ?_
      refine g_iconst m75_18 ?_
      refine g_cs (args := [.int (b), .int (2)]) (rest := []) 0 (Or.inl rfl) m75_19 (Nat.le_of_ble_eq_true rfl) rfl rfl (Nat.le_of_ble_eq_true rfl) ?_
      refine c_within (M := 2) rfl (fun jb eb a_3 => ?_) (fun a_3 => ?_)
      · subst eb
        refine gwr ?_
        refine h_if_neF (xi := 1) (zi := 0) m75_22 rfl rfl (by decide) ?_
        refine g_aload_n m75_31 rfl ?_
        refine h_cv (k := 0) (p := 32) (args := []) (rest := []) m75_32 cn_74 (Nat.le_of_ble_eq_true rfl) rfl rfl rfl (t_0 _ _) (Nat.le_of_ble_eq_true rfl) ?_
        refine c_think h01 ?_
        have hL1 : LawsOk (takeM m 1 0) ln N := tk_l hL 1 0 (by decide)
        have elk := tk_lk m 1 0 (by decide) ln (m 1 11)
        have ebl := tk_bl m 1 0 (by decide) ln (m 1 12)
        have h80 := take_8 m 1 0
        have hW1 : WF (vw (takeM m 1 0) 1) := WF_c h80 hW
        refine gwr ?_
        refine g_astore (L2 := [some (.ref (32)), some (.int (nI (jv))), some (.int (nI (ja))), some (.int (nI (jb))), some (.ref (42))]) m75_35 rfl rfl ?_
        refine g_aload m75_37 rfl ?_
        refine g_iload_n m75_39 rfl ?_
        refine h_cv (k := 10) (p := 42) (args := [.int (nI (jv))]) (rest := []) m75_40 cn_41 (Nat.le_of_ble_eq_true rfl) rfl rfl rfl (t_10 _ _) (Nat.le_of_ble_eq_true rfl) ?_
        refine c_goOn (n := jv) (x := m 1 11) (y := m 1 12) (t := 1) (m0 := takeM m 1 0) (X := vw (takeM m 1 0) 1) (by decide) hL1 (AtX.self _ 1) rfl hix rfl hiy hW1 (by omega) (fun X2 m2 h8 hA => ?_)
        rw [elk, ebl] at h8
        have h8 := (stepN_8 (LK := (lkF m ln (m 1 11))) (BL := (blF m ln (m 1 12))) h80 jv).tr h8
        refine gwr0 ?_
        refine g_iload_n m75_43 rfl ?_
        rcases (show jb = 0 ∨ jb = 1 ∨ jb = 2 by omega) with rfl | rfl | rfl
        · skip
          refine gs m75_44 ?_
          refine gwpc (pc' := 72) rfl ?_
          refine g_aload m75_72 rfl ?_
          refine h_gfR (c := 46) (k := 10) (p := 42) m75_74 rfl (t_10 _ _) rfl (Nat.le_of_ble_eq_true rfl) ?_
          refine g_iload_n m75_77 rfl ?_
          refine h_ial (k := 14) (p := 46) (j := ja) m75_78 rfl (t_14 _ _) (rfl) (by omega) (Nat.le_of_ble_eq_true rfl) (hA.rd (by decide) (j := 4) (i := ja) (by decide)) ?_
          refine g_iret m75_79 rt_75 ?_
          have h9 := hY jv ja 0 rfl (by omega) rfl (by omega) rfl (by decide) m2 (FrT.of hA)
          rw [show whatF 0 = 4 from rfl, ← h8 4 (by decide)] at h9
          exact h9
        · skip
          refine gs m75_44 ?_
          refine gwpc (pc' := 80) rfl ?_
          refine g_aload m75_80 rfl ?_
          refine h_gfR (c := 48) (k := 10) (p := 42) m75_82 rfl (t_10 _ _) rfl (Nat.le_of_ble_eq_true rfl) ?_
          refine g_iload_n m75_85 rfl ?_
          refine h_ial (k := 16) (p := 48) (j := ja) m75_86 rfl (t_16 _ _) (rfl) (by omega) (Nat.le_of_ble_eq_true rfl) (hA.rd (by decide) (j := 6) (i := ja) (by decide)) ?_
          refine g_iret m75_87 rt_75 ?_
          have h9 := hY jv ja 1 rfl (by omega) rfl (by omega) rfl (by decide) m2 (FrT.of hA)
          rw [show whatF 1 = 6 from rfl, ← h8 6 (by decide)] at h9
          exact h9
        · skip
          refine gs m75_44 ?_
          refine gwpc (pc' := 88) rfl ?_
          refine g_aload m75_88 rfl ?_
          refine h_gfR (c := 49) (k := 10) (p := 42) m75_90 rfl (t_10 _ _) rfl (Nat.le_of_ble_eq_true rfl) ?_
          refine g_iload_n m75_93 rfl ?_
          refine h_bal (k := 17) (p := 49) (j := ja) m75_94 rfl (t_17 _ _) (rfl) (by omega) (Nat.le_of_ble_eq_true rfl) (hA.rd (by decide) (j := 7) (i := ja) (by decide)) ?_
          refine h_if_eq (xi := _) (zi := 0) m75_95 rfl rfl (fun c1 => ?_) (fun c1 => ?_)
          · skip
            refine g_iconst m75_102 ?_
            refine g_iret m75_103 rt_75 ?_
            have h7 := ((WF_stepN (LK := (lkF m ln (m 1 11))) (BL := (blF m ln (m 1 12))) hW jv).2.2 ja (by omega)).2.2.2.2.2.2
            rw [← h8 7 (by decide)] at h7
            have e : X2 7 ja = 0 := h7.resolve_right (fun q => by rw [q] at c1; exact absurd c1 (by decide))
            rw [h8 7 (by decide)] at e
            have h9 := hY jv ja 2 rfl (by omega) rfl (by omega) rfl (by decide) m2 (FrT.of hA)
            rw [show whatF 2 = 7 from rfl, e] at h9
            exact h9
          · skip
            refine g_iconst m75_98 ?_
            refine g_goto m75_99 ?_
            refine g_iret m75_103 rt_75 ?_
            have h7 := ((WF_stepN (LK := (lkF m ln (m 1 11))) (BL := (blF m ln (m 1 12))) hW jv).2.2 ja (by omega)).2.2.2.2.2.2
            rw [← h8 7 (by decide)] at h7
            have e : X2 7 ja = 1 := h7.resolve_left (fun q => by rw [q] at c1; exact absurd c1 (by decide))
            rw [h8 7 (by decide)] at e
            have h9 := hY jv ja 2 rfl (by omega) rfl (by omega) rfl (by decide) m2 (FrT.of hA)
            rw [show whatF 2 = 7 from rfl, e] at h9
            exact h9
      · skip
        refine gwr ?_
        refine h_if_neT (xi := 0) (zi := 0) m75_22 rfl rfl (by decide) ?_
        refine g_aload_n m75_25 rfl ?_
        refine g_iconst m75_26 ?_
        refine h_cv (k := 0) (p := 32) (args := [.int (1)]) (rest := []) m75_27 cn_55 (Nat.le_of_ble_eq_true rfl) rfl rfl rfl (t_0 _ _) (Nat.le_of_ble_eq_true rfl) ?_
        refine c_error (e := 1) (by decide) (by decide) ?_
        refine gwr ?_
        refine g_iret m75_30 rt_75 ?_
        exact hE1 (by omega)
    · skip
      refine gwr ?_
      refine h_if_eqT (xi := 0) (zi := 0) m75_14 rfl rfl (by decide) ?_
      refine g_aload_n m75_25 rfl ?_
      refine g_iconst m75_26 ?_
      refine h_cv (k := 0) (p := 32) (args := [.int (1)]) (rest := []) m75_27 cn_55 (Nat.le_of_ble_eq_true rfl) rfl rfl rfl (t_0 _ _) (Nat.le_of_ble_eq_true rfl) ?_
      refine c_error (e := 1) (by decide) (by decide) ?_
      refine gwr ?_
      refine g_iret m75_30 rt_75 ?_
      exact hE1 (by omega)
  · skip
    refine gwr ?_
    refine h_if_eqT (xi := 0) (zi := 0) m75_6 rfl rfl (by decide) ?_
    refine g_aload_n m75_25 rfl ?_
    refine g_iconst m75_26 ?_
    refine h_cv (k := 0) (p := 32) (args := [.int (1)]) (rest := []) m75_27 cn_55 (Nat.le_of_ble_eq_true rfl) rfl rfl rfl (t_0 _ _) (Nat.le_of_ble_eq_true rfl) ?_
    refine c_error (e := 1) (by decide) (by decide) ?_
    refine gwr ?_
    refine g_iret m75_30 rt_75 ?_
    exact hE1 (by omega)
theorem firstF_le {LK BL : LF} {X : MW} {i : Nat} : ∀ r q, firstF LK BL X i r q ≤ q + r - 1
  | 0, q => Nat.zero_le _
  | r + 1, q => by
    show (if moreAt LK BL X i q = true then q else firstF LK BL X i r (q + 1)) ≤ q + (r + 1) - 1
    have h := firstF_le (LK := LK) (BL := BL) (X := X) (i := i) r (q + 1)
    split <;> omega
set_option maxRecDepth 20000 in
set_option maxHeartbeats 40000000 in
theorem x_first {a : Int32} {n : Nat} (hd : m 1 10 = nI n) (hn : n ≤ 8) (h01 : ∀ j, j < 8 → m 8 j = 0 ∨ m 8 j = 1) (hW : WF (vw m 0)) (hL : LawsOk m ln N) (hix : LawIx N (m 1 11)) (hiy : LawIx N (m 1 12)) (hE1 : (a.toInt < 0 ∨ (n : Int) ≤ a.toInt) → Q (some (.int (-1000000000 - nI 1))) (H (erm m 1) ln N)) (hE2 : ∀ i : Nat, a = nI i → i < n → (firstF (lkF m ln (m 1 11)) (blF m ln (m 1 12)) (vw m 0) i 60 1) = 0 → ∀ m2, FrT m m2 → Q (some (.int (-1000000000 - nI 2))) (H (erm m2 2) ln N)) (hY : ∀ i : Nat, a = nI i → i < n → (firstF (lkF m ln (m 1 11)) (blF m ln (m 1 12)) (vw m 0) i 60 1) ≠ 0 → ∀ m2, FrT m m2 → Q (some (.int (nI (firstF (lkF m ln (m 1 11)) (blF m ln (m 1 12)) (vw m 0) i 60 1)))) (H m2 ln N)) : WP xs (d + 7) 76 0 0 [.ref (32), .int (a)] (H m ln N) Q := by
  refine wp_x mx_76 (L := [some (.ref (32)), some (.int (a)), none]) (Nat.le_of_ble_eq_true rfl) rfl ?_
  refine g_aload_n m76_0 rfl ?_
  refine g_iload_n m76_1 rfl ?_
  refine h_cv (k := 0) (p := 32) (args := [.int (a)]) (rest := []) m76_2 cn_60 (Nat.le_of_ble_eq_true rfl) rfl rfl rfl (t_0 _ _) (Nat.le_of_ble_eq_true rfl) ?_
  refine c_isDiner hd hn (fun ja ea a_4 => ?_) (fun a_4 => ?_)
  · subst ea
    refine gwr ?_
    refine h_if_neF (xi := 1) (zi := 0) m76_5 rfl rfl (by decide) ?_
    refine g_aload_n m76_14 rfl ?_
    refine h_cv (k := 0) (p := 32) (args := []) (rest := []) m76_15 cn_74 (Nat.le_of_ble_eq_true rfl) rfl rfl rfl (t_0 _ _) (Nat.le_of_ble_eq_true rfl) ?_
    refine c_think h01 ?_
    have hL1 : LawsOk (takeM m 1 0) ln N := tk_l hL 1 0 (by decide)
    have elk := tk_lk m 1 0 (by decide) ln (m 1 11)
    have ebl := tk_bl m 1 0 (by decide) ln (m 1 12)
    have h80 := take_8 m 1 0
    have hW1 : WF (vw (takeM m 1 0) 1) := WF_c h80 hW
    refine gwr ?_
    refine g_iload_n m76_18 rfl ?_
    refine g_bipush m76_19 ?_
    refine h_cv (k := 10) (p := 42) (args := [.int (nI (ja)), .int (60)]) (rest := []) m76_21 cn_42 (Nat.le_of_ble_eq_true rfl) rfl rfl rfl (t_10 _ _) (Nat.le_of_ble_eq_true rfl) ?_
    refine c_stepWithMore (n := 60) (x := m 1 11) (y := m 1 12) (t := 1) (m0 := takeM m 1 0) (X := vw (takeM m 1 0) 1) (by decide) hL1 (AtX.self _ 1) rfl hix rfl hiy hW1 (by omega) (by omega) (fun X2 m2 hA => ?_)
    rw [elk, ebl, firstF_8 h80]
    have hfl : firstF (lkF m ln (m 1 11)) (blF m ln (m 1 12)) (vw m 0) ja 60 1 ≤ 60 := firstF_le 60 1
    refine gwr ?_
    refine g_istore_n (L2 := [some (.ref (32)), some (.int (nI (ja))), some (.int (nI (firstF (lkF m ln (m 1 11)) (blF m ln (m 1 12)) (vw m 0) ja 60 1)))]) m76_24 rfl rfl ?_
    refine g_iload_n m76_25 rfl ?_
    refine h_if_ne (xi := ((firstF (lkF m ln (m 1 11)) (blF m ln (m 1 12)) (vw m 0) ja 60 1 : Nat) : Int)) (zi := 0) m76_26 (nI_toInt (by omega)) rfl (fun c1 => ?_) (fun c1 => ?_)
    · skip
      refine g_aload_n m76_29 rfl ?_
      refine g_iconst m76_30 ?_
      refine h_cv (k := 0) (p := 32) (args := [.int (2)]) (rest := []) m76_31 cn_55 (Nat.le_of_ble_eq_true rfl) rfl rfl rfl (t_0 _ _) (Nat.le_of_ble_eq_true rfl) ?_
      refine c_error (e := 2) (by decide) (by decide) ?_
      refine gwr ?_
      refine g_goto m76_34 ?_
      refine g_iret m76_38 rt_76 ?_
      exact hE2 ja rfl (by omega) (by omega) m2 (FrT.of hA)
    · skip
      refine g_iload_n m76_37 rfl ?_
      refine g_iret m76_38 rt_76 ?_
      exact hY ja rfl (by omega) (by omega) m2 (FrT.of hA)
  · skip
    refine gwr ?_
    refine h_if_neT (xi := 0) (zi := 0) m76_5 rfl rfl (by decide) ?_
    refine g_aload_n m76_8 rfl ?_
    refine g_iconst m76_9 ?_
    refine h_cv (k := 0) (p := 32) (args := [.int (1)]) (rest := []) m76_10 cn_55 (Nat.le_of_ble_eq_true rfl) rfl rfl rfl (t_0 _ _) (Nat.le_of_ble_eq_true rfl) ?_
    refine c_error (e := 1) (by decide) (by decide) ?_
    refine gwr ?_
    refine g_iret m76_13 rt_76 ?_
    exact hE1 (by omega)
set_option maxRecDepth 20000 in
set_option maxHeartbeats 40000000 in
theorem x_never {n : Nat} (hd : m 1 10 = nI n) (hn : n ≤ 8) (h01 : ∀ j, j < 8 → m 8 j = 0 ∨ m 8 j = 1) (hW : WF (vw m 0)) (hL : LawsOk m ln N) (hix : LawIx N (m 1 11)) (hiy : LawIx N (m 1 12)) (hY : ∀ m2, FrT m m2 → Q (some (.int (nI (bitsF (fun i => !(moreN (lkF m ln (m 1 11)) (blF m ln (m 1 12)) (vw m 0) 60 i)) n)))) (H m2 ln N)) : WP xs (d + 7) 77 0 0 [.ref (32)] (H m ln N) Q := by
  refine wp_x mx_77 (L := [some (.ref (32)), none, none, none]) (Nat.le_of_ble_eq_true rfl) rfl ?_
  have hb : ∀ q, bitsF (fun i => !(moreN (lkF m ln (m 1 11)) (blF m ln (m 1 12)) (vw m 0) 60 i)) q < 2 ^ q := bitsF_lt _
  refine g_aload_n m77_0 rfl ?_
  refine h_cv (k := 0) (p := 32) (args := []) (rest := []) m77_1 cn_74 (Nat.le_of_ble_eq_true rfl) rfl rfl rfl (t_0 _ _) (Nat.le_of_ble_eq_true rfl) ?_
  refine c_think h01 ?_
  have hL1 : LawsOk (takeM m 1 0) ln N := tk_l hL 1 0 (by decide)
  have elk := tk_lk m 1 0 (by decide) ln (m 1 11)
  have ebl := tk_bl m 1 0 (by decide) ln (m 1 12)
  have h80 := take_8 m 1 0
  have hW1 : WF (vw (takeM m 1 0) 1) := WF_c h80 hW
  refine gwr ?_
  refine g_astore_n (L2 := [some (.ref (32)), some (.ref (42)), none, none]) m77_4 rfl rfl ?_
  refine g_aload_n m77_5 rfl ?_
  refine g_bipush m77_6 ?_
  refine h_cv (k := 10) (p := 42) (args := [.int (60)]) (rest := []) m77_8 cn_41 (Nat.le_of_ble_eq_true rfl) rfl rfl rfl (t_10 _ _) (Nat.le_of_ble_eq_true rfl) ?_
  refine c_goOn (n := 60) (x := m 1 11) (y := m 1 12) (t := 1) (m0 := takeM m 1 0) (X := vw (takeM m 1 0) 1) (by decide) hL1 (AtX.self _ 1) rfl hix rfl hiy hW1 (by omega) (fun X2 m2 h8 hA => ?_)
  rw [elk, ebl] at h8
  have h8 := (stepN_8 (LK := (lkF m ln (m 1 11))) (BL := (blF m ln (m 1 12))) h80 60).tr h8
  refine gwr0 ?_
  refine g_iconst m77_11 ?_
  refine g_istore_n (L2 := [some (.ref (32)), some (.ref (42)), some (.int (0)), none]) m77_12 rfl rfl ?_
  refine g_iconst m77_13 ?_
  refine g_istore_n (L2 := [some (.ref (32)), some (.ref (42)), some (.int (0)), some (.int (0))]) m77_14 rfl rfl ?_
  have hF := FrT.of hA
  have hd2 : m2 1 10 = nI n := (hF 1 10 (by omega) (fun q => by rcases q with q | q <;> omega)).trans hd
  have key : ∀ (r : Nat) (q : Nat), q + r = n → gw xs (WP xs (d + 6)) 77 Q 15 [some (.ref (32)), some (.ref (42)), some (.int (nI (bitsF (fun i => !(moreN (lkF m ln (m 1 11)) (blF m ln (m 1 12)) (vw m 0) 60 i)) q))), some (.int (nI (q)))] [] (H m2 ln N) 0 0 := by
    intro r
    induction r with
    | zero =>
      intro q hq
      obtain rfl : q = n := by omega
      refine g_iload_n m77_15 rfl ?_
      refine g_aload_n m77_16 rfl ?_
      refine h_gfR (c := 33) (k := 0) (p := 32) m77_17 rfl (t_0 _ _) rfl (Nat.le_of_ble_eq_true rfl) ?_
      refine h_gfI (k := 1) (p := 33) m77_20 rfl (t_1 _ _) rfl (hd2) ?_
      refine h_ic_geT (xi := ((q : Nat) : Int)) (zi := ((q : Nat) : Int)) m77_23 (nI_toInt (by omega)) (nI_toInt (by omega)) (by omega) ?_
      refine g_iload_n m77_56 rfl ?_
      refine g_iret m77_57 rt_77 ?_
      exact hY m2 hF
    | succ r ih =>
      intro q hq
      refine g_iload_n m77_15 rfl ?_
      refine g_aload_n m77_16 rfl ?_
      refine h_gfR (c := 33) (k := 0) (p := 32) m77_17 rfl (t_0 _ _) rfl (Nat.le_of_ble_eq_true rfl) ?_
      refine h_gfI (k := 1) (p := 33) m77_20 rfl (t_1 _ _) rfl (hd2) ?_
      refine h_ic_geF (xi := ((q : Nat) : Int)) (zi := ((n : Nat) : Int)) m77_23 (nI_toInt (by omega)) (nI_toInt (by omega)) (by omega) ?_
      refine g_aload_n m77_26 rfl ?_
      refine h_gfR (c := 48) (k := 10) (p := 42) m77_27 rfl (t_10 _ _) rfl (Nat.le_of_ble_eq_true rfl) ?_
      refine g_iload_n m77_30 rfl ?_
      refine h_ial (k := 16) (p := 48) (j := q) m77_31 rfl (t_16 _ _) (rfl) (by omega) (Nat.le_of_ble_eq_true rfl) ((hA.rd (by decide) (j := 6) (i := q) (by decide)).trans (h8 6 (by decide) q)) ?_
      refine g_aload_n m77_32 rfl ?_
      refine h_gfR (c := 33) (k := 0) (p := 32) m77_33 rfl (t_0 _ _) rfl (Nat.le_of_ble_eq_true rfl) ?_
      refine h_gfR (c := 39) (k := 1) (p := 33) m77_36 rfl (t_1 _ _) rfl (Nat.le_of_ble_eq_true rfl) ?_
      refine g_iload_n m77_39 rfl ?_
      refine h_ial (k := 7) (p := 39) (j := q) m77_40 rfl (t_7 _ _) (rfl) (by omega) (Nat.le_of_ble_eq_true rfl) (show m2 7 q = vw m 0 6 q from hF 7 q (by omega) (fun z => by rcases z with z | z <;> omega)) ?_
      refine h_ic_gt (xi := _) (zi := _) m77_41 rfl rfl (fun c1 => ?_) (fun c1 => ?_)
      · skip
        refine g_iinc (L2 := [some (.ref (32)), some (.ref (42)), some (.int (nI (bitsF (fun i => !(moreN (lkF m ln (m 1 11)) (blF m ln (m 1 12)) (vw m 0) 60 i)) q))), some (.int (nI (q + 1)))]) m77_50 rfl (nI_1 _) rfl rfl ?_
        refine g_goto m77_53 ?_
        have e : bitsF (fun i => !(moreN (lkF m ln (m 1 11)) (blF m ln (m 1 12)) (vw m 0) 60 i)) (q + 1) = bitsF (fun i => !(moreN (lkF m ln (m 1 11)) (blF m ln (m 1 12)) (vw m 0) 60 i)) q := bits_n (by show ¬ (!(moreN _ _ _ 60 q)) = true; rw [moreN, decide_eq_true (by omega)]; decide)
        have h9 := ih (q + 1) (by omega)
        rw [e] at h9
        exact h9
      · skip
        refine g_iload_n m77_44 rfl ?_
        refine g_iconst m77_45 ?_
        refine g_iload_n m77_46 rfl ?_
        refine g_ishl m77_47 rfl ?_
        refine g_ior (u := nI (bitsF (fun i => !(moreN (lkF m ln (m 1 11)) (blF m ln (m 1 12)) (vw m 0) 60 i)) q + 2 ^ q)) m77_48 (bit_or q (by omega) _ (hb q)) ?_
        refine g_istore_n (L2 := [some (.ref (32)), some (.ref (42)), some (.int (nI (bitsF (fun i => !(moreN (lkF m ln (m 1 11)) (blF m ln (m 1 12)) (vw m 0) 60 i)) q + 2 ^ q))), some (.int (nI (q)))]) m77_49 rfl rfl ?_
        refine g_iinc (L2 := [some (.ref (32)), some (.ref (42)), some (.int (nI (bitsF (fun i => !(moreN (lkF m ln (m 1 11)) (blF m ln (m 1 12)) (vw m 0) 60 i)) q + 2 ^ q))), some (.int (nI (q + 1)))]) m77_50 rfl (nI_1 _) rfl rfl ?_
        refine g_goto m77_53 ?_
        have e : bitsF (fun i => !(moreN (lkF m ln (m 1 11)) (blF m ln (m 1 12)) (vw m 0) 60 i)) (q + 1) = bitsF (fun i => !(moreN (lkF m ln (m 1 11)) (blF m ln (m 1 12)) (vw m 0) 60 i)) q + 2 ^ q := bits_y (by show (!(moreN _ _ _ 60 q)) = true; rw [moreN, decide_eq_false (by omega)]; rfl)
        have h9 := ih (q + 1) (by omega)
        rw [e] at h9
        exact h9
  exact key n 0 (by omega)
set_option maxRecDepth 20000 in
set_option maxHeartbeats 40000000 in
theorem x_meals {v : Int32} {n : Nat} (hd : m 1 10 = nI n) (hn : n ≤ 8) (h01 : ∀ j, j < 8 → m 8 j = 0 ∨ m 8 j = 1) (hW : WF (vw m 0)) (hL : LawsOk m ln N) (hix : LawIx N (m 1 11)) (hiy : LawIx N (m 1 12)) (hE1 : (v.toInt < 0 ∨ 60 < v.toInt) → Q (some (.int (-1000000000 - nI 1))) (H (erm m 1) ln N)) (hY : ∀ q : Nat, v = nI q → q ≤ 60 → ∀ m2, FrT m m2 → Q (some (.int (sumF (stepN (lkF m ln (m 1 11)) (blF m ln (m 1 12)) (vw m 0) q 6) n - sumF (vw m 0 6) n))) (H m2 ln N)) : WP xs (d + 7) 87 0 0 [.ref (32), .int (v)] (H m ln N) Q := by
  refine wp_x mx_87 (L := [some (.ref (32)), some (.int (v)), none]) (Nat.le_of_ble_eq_true rfl) rfl ?_
  refine g_iload_n m87_0 rfl ?_
  refine g_bipush m87_1 ?_
  refine g_cs (args := [.int (v), .int (60)]) (rest := []) 0 (Or.inl rfl) m87_3 (Nat.le_of_ble_eq_true rfl) rfl rfl (Nat.le_of_ble_eq_true rfl) ?_
  refine c_within (M := 60) rfl (fun jv ev a_5 => ?_) (fun a_5 => ?_)
  · subst ev
    refine gwr ?_
    refine h_if_neF (xi := 1) (zi := 0) m87_6 rfl rfl (by decide) ?_
    refine g_aload_n m87_15 rfl ?_
    refine h_cv (k := 0) (p := 32) (args := []) (rest := []) m87_16 cn_74 (Nat.le_of_ble_eq_true rfl) rfl rfl rfl (t_0 _ _) (Nat.le_of_ble_eq_true rfl) ?_
    refine c_think h01 ?_
    have hL1 : LawsOk (takeM m 1 0) ln N := tk_l hL 1 0 (by decide)
    have elk := tk_lk m 1 0 (by decide) ln (m 1 11)
    have ebl := tk_bl m 1 0 (by decide) ln (m 1 12)
    have h80 := take_8 m 1 0
    have hW1 : WF (vw (takeM m 1 0) 1) := WF_c h80 hW
    refine gwr ?_
    refine g_astore_n (L2 := [some (.ref (32)), some (.int (nI (jv))), some (.ref (42))]) m87_19 rfl rfl ?_
    refine g_aload_n m87_20 rfl ?_
    refine g_iload_n m87_21 rfl ?_
    refine h_cv (k := 10) (p := 42) (args := [.int (nI (jv))]) (rest := []) m87_22 cn_41 (Nat.le_of_ble_eq_true rfl) rfl rfl rfl (t_10 _ _) (Nat.le_of_ble_eq_true rfl) ?_
    refine c_goOn (n := jv) (x := m 1 11) (y := m 1 12) (t := 1) (m0 := takeM m 1 0) (X := vw (takeM m 1 0) 1) (by decide) hL1 (AtX.self _ 1) rfl hix rfl hiy hW1 (by omega) (fun X2 m2 h8 hA => ?_)
    rw [elk, ebl] at h8
    have h8 := (stepN_8 (LK := (lkF m ln (m 1 11))) (BL := (blF m ln (m 1 12))) h80 jv).tr h8
    refine gwr0 ?_
    refine g_aload_n m87_25 rfl ?_
    refine h_cv (k := 10) (p := 42) (args := []) (rest := []) m87_26 cn_47 (Nat.le_of_ble_eq_true rfl) rfl rfl rfl (t_10 _ _) (Nat.le_of_ble_eq_true rfl) ?_
    refine c_hadByAll (t := 1) (by decide) hA hn ((h8 0 (by decide) 10).trans ((stepN_0 _ _ _ (by decide) jv).trans hd)) ?_
    rw [show X2 6 = stepN (lkF m ln (m 1 11)) (blF m ln (m 1 12)) (vw m 0) jv 6 from funext (h8 6 (by decide))]
    refine gwr ?_
    refine g_aload_n m87_29 rfl ?_
    refine h_gfR (c := 33) (k := 0) (p := 32) m87_30 rfl (t_0 _ _) rfl (Nat.le_of_ble_eq_true rfl) ?_
    refine h_cv (k := 1) (p := 33) (args := []) (rest := [.int (sumF (stepN (lkF m ln (m 1 11)) (blF m ln (m 1 12)) (vw m 0) jv 6) n)]) m87_33 cn_47 (Nat.le_of_ble_eq_true rfl) rfl rfl rfl (t_1 _ _) (Nat.le_of_ble_eq_true rfl) ?_
    have hF := FrT.of hA
    refine c_hadByAll (t := 0) (m0 := m2) (X := vw m2 0) (by decide) (AtX.self m2 0) hn ((hF 1 10 (by omega) (fun q => by rcases q with q | q <;> omega)).trans hd) ?_
    rw [hF.vw0 (by decide)]
    refine gwr ?_
    refine g_isub m87_36 rfl ?_
    refine g_iret m87_37 rt_87 ?_
    exact hY jv rfl (by omega) m2 hF
  · skip
    refine gwr ?_
    refine h_if_neT (xi := 0) (zi := 0) m87_6 rfl rfl (by decide) ?_
    refine g_aload_n m87_9 rfl ?_
    refine g_iconst m87_10 ?_
    refine h_cv (k := 0) (p := 32) (args := [.int (1)]) (rest := []) m87_11 cn_55 (Nat.le_of_ble_eq_true rfl) rfl rfl rfl (t_0 _ _) (Nat.le_of_ble_eq_true rfl) ?_
    refine c_error (e := 1) (by decide) (by decide) ?_
    refine gwr ?_
    refine g_iret m87_14 rt_87 ?_
    exact hE1 (by omega)
end
