/-! THE TABLES: faces, steps -/
section
variable {xs : List Int32} {d : Nat} {h : AH} {Q : QT} {m : MW} {ln : Nat → Nat} {N : Nat}
set_option maxRecDepth 20000 in
set_option maxHeartbeats 40000000 in
theorem c_looksBy {t : Nat} {m0 X : MW} {x a b c : Int32} (ht : t < 4) (hL : LawsOk m0 ln N) (hA : AtX m0 t X m) (hx : X 0 11 = x) (hix : LawIx N x) (hQ : ∀ m2, AtX m0 t X m2 → Q (some (.int (lkF m0 ln x a b c))) (H m2 ln N)) : WP xs (d + 2) 32 0 0 [.ref (33 + 9 * t), .int (a), .int (b), .int (c)] (H m ln N) Q := by
  refine wp_x mx_32 (L := [some (.ref (33 + 9 * t)), some (.int (a)), some (.int (b)), some (.int (c))]) (Nat.le_of_ble_eq_true rfl) rfl ?_
  refine g_aload_n m32_0 rfl ?_
  refine h_gfL (k := 1 + 9 * t) (p := 33 + 9 * t) m32_1 (pT 1 _) (tT ht) rfl ((hA.rd ht (j := 0) (i := 11) (by decide)).trans hx) ?_
  refine h_lawN m32_4 (fun c1 => ?_) (fun c1 => ?_)
  · skip
    refine g_iload_n m32_7 rfl ?_
    refine g_bipush m32_8 ?_
    refine g_iadd m32_10 rfl ?_
    refine g_iload_n m32_11 rfl ?_
    refine g_bipush m32_12 ?_
    refine g_idiv m32_14 (by decide) rfl ?_
    refine g_isub m32_15 rfl ?_
    refine g_goto m32_16 ?_
    refine g_bipush m32_29 ?_
    refine g_cs (args := [.int (((b + (9 : Int32)) - (a / (9 : Int32)))), .int (99)]) (rest := []) 1 (Or.inr rfl) m32_31 (Nat.le_of_ble_eq_true rfl) rfl rfl (Nat.le_of_ble_eq_true rfl) ?_
    refine c_held ?_
    refine gwr ?_
    refine g_iret m32_34 rt_32 ?_
    have e : lkF m0 ln x a b c = heldF (b + 9 - a / 9) 99 := by
      unfold lkF
      rw [if_pos c1]
    rw [e] at hQ
    exact hQ _ hA
  · skip
    refine g_aload_n m32_19 rfl ?_
    obtain ⟨i, hi, hxi⟩ : ∃ i, i < N ∧ x = nI (i + 1) := by
      rcases hix with q | q
      · contradiction
      · exact q
    obtain ⟨hl1, hl2, hl3⟩ := lawV_ix hxi (by have := hL.1; omega)
    have hL2 : LawsOk m ln N := ⟨hL.1, fun j hj => by rw [hA.cod ht]; exact hL.2 j hj⟩
    refine h_gfL (k := 1 + 9 * t) (p := 33 + 9 * t) m32_20 (pT 1 _) (tT ht) rfl ((hA.rd ht (j := 0) (i := 11) (by decide)).trans hx) ?_
    refine gwst (st' := .ref (101 + 3 * i) :: _) (congrArg (fun z => z :: _) hl1) ?_
    refine g_iload_n m32_23 rfl ?_
    refine g_iload_n m32_24 rfl ?_
    refine g_iload_n m32_25 rfl ?_
    refine h_cv (k := 69 + 3 * i) (p := 101 + 3 * i) (args := [.int (a), .int (b), .int (c)]) (rest := []) m32_26 cn_14 (Nat.le_of_ble_eq_true rfl) rfl rfl (pLo _) (tLo hi) (Nat.le_of_ble_eq_true rfl) ?_
    refine c_worth hi (hL2.2 i hi).1 (hL2.2 i hi).2 (fun m_1 hE_2 => ?_)
    have hA_3 := hA.eqm hE_2
    refine gwr ?_
    refine g_bipush m32_29 ?_
    refine g_cs (args := [.int (valL (codL m ln i) a b c), .int (99)]) (rest := []) 1 (Or.inr rfl) m32_31 (Nat.le_of_ble_eq_true rfl) rfl rfl (Nat.le_of_ble_eq_true rfl) ?_
    refine c_held ?_
    refine gwr ?_
    refine g_iret m32_34 rt_32 ?_
    have e : lkF m0 ln x a b c = heldF (valL (codL m ln i) a b c) 99 := by
      unfold lkF lval
      rw [if_neg c1, hl3, hA.cod ht]
    rw [e] at hQ
    exact hQ _ hA_3
set_option maxRecDepth 20000 in
set_option maxHeartbeats 40000000 in
theorem c_billBy {t : Nat} {m0 X : MW} {y a b c : Int32} (ht : t < 4) (hL : LawsOk m0 ln N) (hA : AtX m0 t X m) (hy : X 0 12 = y) (hiy : LawIx N y) (hQ : ∀ m2, AtX m0 t X m2 → Q (some (.int (blF m0 ln y a b c))) (H m2 ln N)) : WP xs (d + 2) 33 0 0 [.ref (33 + 9 * t), .int (a), .int (b), .int (c)] (H m ln N) Q := by
  refine wp_x mx_33 (L := [some (.ref (33 + 9 * t)), some (.int (a)), some (.int (b)), some (.int (c))]) (Nat.le_of_ble_eq_true rfl) rfl ?_
  refine g_aload_n m33_0 rfl ?_
  refine h_gfL (k := 1 + 9 * t) (p := 33 + 9 * t) m33_1 (pT 1 _) (tT ht) rfl ((hA.rd ht (j := 0) (i := 12) (by decide)).trans hy) ?_
  refine h_lawN m33_4 (fun c1 => ?_) (fun c1 => ?_)
  · skip
    refine g_iconst m33_7 ?_
    refine g_goto m33_8 ?_
    refine g_iret m33_25 rt_33 ?_
    have e : blF m0 ln y a b c = (0 : Int32) := by
      unfold blF
      rw [if_pos c1]
    rw [e] at hQ
    exact hQ _ hA
  · skip
    refine g_aload_n m33_11 rfl ?_
    obtain ⟨i, hi, hxi⟩ : ∃ i, i < N ∧ y = nI (i + 1) := by
      rcases hiy with q | q
      · contradiction
      · exact q
    obtain ⟨hl1, hl2, hl3⟩ := lawV_ix hxi (by have := hL.1; omega)
    have hL2 : LawsOk m ln N := ⟨hL.1, fun j hj => by rw [hA.cod ht]; exact hL.2 j hj⟩
    refine h_gfL (k := 1 + 9 * t) (p := 33 + 9 * t) m33_12 (pT 1 _) (tT ht) rfl ((hA.rd ht (j := 0) (i := 12) (by decide)).trans hy) ?_
    refine gwst (st' := .ref (101 + 3 * i) :: _) (congrArg (fun z => z :: _) hl1) ?_
    refine g_iload_n m33_15 rfl ?_
    refine g_iload_n m33_16 rfl ?_
    refine g_iload_n m33_17 rfl ?_
    refine h_cv (k := 69 + 3 * i) (p := 101 + 3 * i) (args := [.int (a), .int (b), .int (c)]) (rest := []) m33_18 cn_14 (Nat.le_of_ble_eq_true rfl) rfl rfl (pLo _) (tLo hi) (Nat.le_of_ble_eq_true rfl) ?_
    refine c_worth hi (hL2.2 i hi).1 (hL2.2 i hi).2 (fun m_4 hE_5 => ?_)
    have hA_6 := hA.eqm hE_5
    refine gwr ?_
    refine g_iconst m33_21 ?_
    refine g_cs (args := [.int (valL (codL m ln i) a b c), .int (1)]) (rest := []) 1 (Or.inr rfl) m33_22 (Nat.le_of_ble_eq_true rfl) rfl rfl (Nat.le_of_ble_eq_true rfl) ?_
    refine c_held ?_
    refine gwr ?_
    refine g_iret m33_25 rt_33 ?_
    have e : blF m0 ln y a b c = heldF (valL (codL m ln i) a b c) 1 := by
      unfold blF lval
      rw [if_neg c1, hl3, hA.cod ht]
    rw [e] at hQ
    exact hQ _ hA_6
set_option maxRecDepth 20000 in
set_option maxHeartbeats 40000000 in
theorem c_face {t i : Nat} {m0 X : MW} {x : Int32} (ht : t < 4) (hL : LawsOk m0 ln N) (hA : AtX m0 t X m) (hx : X 0 11 = x) (hix : LawIx N x) (hi : i < 8) (hk : leI (X 2 i) 6) (hQ : ∀ m2, AtX m0 t X m2 → Q (some (.int (faceF (lkF m0 ln x) X i))) (H m2 ln N)) : WP xs (d + 3) 34 0 0 [.ref (33 + 9 * t), .int (nI (i))] (H m ln N) Q := by
  refine wp_x mx_34 (L := [some (.ref (33 + 9 * t)), some (.int (nI (i))), none]) (Nat.le_of_ble_eq_true rfl) rfl ?_
  obtain ⟨kd, hkd, hke⟩ := hk
  refine g_aload_n m34_0 rfl ?_
  refine g_aload_n m34_1 rfl ?_
  refine h_gfR (c := 37 + 9 * t) (k := 1 + 9 * t) (p := 33 + 9 * t) m34_2 (pT 1 _) (tT ht) rfl (le3 (Nat.le_of_ble_eq_true rfl)) ?_
  refine g_iload_n m34_5 rfl ?_
  refine h_ial (k := 5 + 9 * t) (p := 37 + 9 * t) (j := i) m34_6 (pT 5 _) (tA4 ht) (rfl) (by omega) (Nat.le_of_ble_eq_true rfl) (hA.rd ht (j := 4) (i := i) (by decide)) ?_
  refine g_aload_n m34_7 rfl ?_
  refine h_gfR (c := 39 + 9 * t) (k := 1 + 9 * t) (p := 33 + 9 * t) m34_8 (pT 1 _) (tT ht) rfl (le3 (Nat.le_of_ble_eq_true rfl)) ?_
  refine g_iload_n m34_11 rfl ?_
  refine h_ial (k := 7 + 9 * t) (p := 39 + 9 * t) (j := i) m34_12 (pT 7 _) (tA6 ht) (rfl) (by omega) (Nat.le_of_ble_eq_true rfl) (hA.rd ht (j := 6) (i := i) (by decide)) ?_
  refine g_aload_n m34_13 rfl ?_
  refine h_gfI (k := 1 + 9 * t) (p := 33 + 9 * t) m34_14 (pT 1 _) (tT ht) rfl (hA.rd ht (j := 0) (i := 9) (by decide)) ?_
  refine g_bipush m34_17 ?_
  refine g_irem m34_19 (by decide) rfl ?_
  refine h_cv (k := 1 + 9 * t) (p := 33 + 9 * t) (args := [.int (X 4 i), .int (X 6 i), .int _]) (rest := []) m34_20 cn_32 (Nat.le_of_ble_eq_true rfl) rfl rfl (pT 1 _) (tT ht) (Nat.le_of_ble_eq_true rfl) ?_
  refine c_looksBy ht hL hA hx hix (fun m_7 hA_8 => ?_)
  refine gwr ?_
  refine g_istore_n (L2 := [some (.ref (33 + 9 * t)), some (.int (nI (i))), some (.int (lkF m0 ln x (X 4 i) (X 6 i) _))]) m34_23 rfl rfl ?_
  refine g_aload_n m34_24 rfl ?_
  refine h_gfR (c := 35 + 9 * t) (k := 1 + 9 * t) (p := 33 + 9 * t) m34_25 (pT 1 _) (tT ht) rfl (le3 (Nat.le_of_ble_eq_true rfl)) ?_
  refine g_iload_n m34_28 rfl ?_
  refine h_ial (k := 3 + 9 * t) (p := 35 + 9 * t) (j := i) m34_29 (pT 3 _) (tA2 ht) (rfl) (by omega) (Nat.le_of_ble_eq_true rfl) ((hA_8.rd ht (j := 2) (i := i) (by decide)).trans (hke)) ?_
  rcases (show kd = 0 ∨ kd = 1 ∨ kd = 2 ∨ kd = 3 ∨ kd = 4 ∨ kd = 5 ∨ kd = 6 by omega) with rfl | rfl | rfl | rfl | rfl | rfl | rfl
  · skip
    refine gs m34_30 ?_
    refine gwpc (pc' := 179) rfl ?_
    refine g_iload_n m34_179 rfl ?_
    refine g_aload_n m34_180 rfl ?_
    refine h_gfR (c := 38 + 9 * t) (k := 1 + 9 * t) (p := 33 + 9 * t) m34_181 (pT 1 _) (tT ht) rfl (le3 (Nat.le_of_ble_eq_true rfl)) ?_
    refine g_iload_n m34_184 rfl ?_
    refine h_ial (k := 6 + 9 * t) (p := 38 + 9 * t) (j := i) m34_185 (pT 6 _) (tA5 ht) (rfl) (by omega) (Nat.le_of_ble_eq_true rfl) (hA_8.rd ht (j := 5) (i := i) (by decide)) ?_
    refine g_iadd m34_186 rfl ?_
    refine g_iret m34_187 rt_34 ?_
    rw [show faceF (lkF m0 ln x) X i = _ from fk_0 hke] at hQ
    exact hQ _ hA_8
  · skip
    refine gs m34_30 ?_
    refine gwpc (pc' := 68) rfl ?_
    refine g_iload_n m34_68 rfl ?_
    refine g_aload_n m34_69 rfl ?_
    refine h_gfR (c := 38 + 9 * t) (k := 1 + 9 * t) (p := 33 + 9 * t) m34_70 (pT 1 _) (tT ht) rfl (le3 (Nat.le_of_ble_eq_true rfl)) ?_
    refine g_iload_n m34_73 rfl ?_
    refine h_ial (k := 6 + 9 * t) (p := 38 + 9 * t) (j := i) m34_74 (pT 6 _) (tA5 ht) (rfl) (by omega) (Nat.le_of_ble_eq_true rfl) (hA_8.rd ht (j := 5) (i := i) (by decide)) ?_
    refine g_iadd m34_75 rfl ?_
    refine g_aload_n m34_76 rfl ?_
    refine h_gfR (c := 36 + 9 * t) (k := 1 + 9 * t) (p := 33 + 9 * t) m34_77 (pT 1 _) (tT ht) rfl (le3 (Nat.le_of_ble_eq_true rfl)) ?_
    refine g_iload_n m34_80 rfl ?_
    refine h_ial (k := 4 + 9 * t) (p := 36 + 9 * t) (j := i) m34_81 (pT 4 _) (tA3 ht) (rfl) (by omega) (Nat.le_of_ble_eq_true rfl) (hA_8.rd ht (j := 3) (i := i) (by decide)) ?_
    refine g_iadd m34_82 rfl ?_
    refine g_iret m34_83 rt_34 ?_
    rw [show faceF (lkF m0 ln x) X i = _ from fk_1 hke] at hQ
    exact hQ _ hA_8
  · skip
    refine gs m34_30 ?_
    refine gwpc (pc' := 84) rfl ?_
    refine g_iload_n m34_84 rfl ?_
    refine g_iconst m34_85 ?_
    refine g_idiv m34_86 (by decide) rfl ?_
    refine g_aload_n m34_87 rfl ?_
    refine h_gfR (c := 38 + 9 * t) (k := 1 + 9 * t) (p := 33 + 9 * t) m34_88 (pT 1 _) (tT ht) rfl (le3 (Nat.le_of_ble_eq_true rfl)) ?_
    refine g_iload_n m34_91 rfl ?_
    refine h_ial (k := 6 + 9 * t) (p := 38 + 9 * t) (j := i) m34_92 (pT 6 _) (tA5 ht) (rfl) (by omega) (Nat.le_of_ble_eq_true rfl) (hA_8.rd ht (j := 5) (i := i) (by decide)) ?_
    refine g_iadd m34_93 rfl ?_
    refine g_iret m34_94 rt_34 ?_
    rw [show faceF (lkF m0 ln x) X i = _ from fk_2 hke] at hQ
    exact hQ _ hA_8
  · skip
    refine gs m34_30 ?_
    refine gwpc (pc' := 95) rfl ?_
    refine g_iload_n m34_95 rfl ?_
    refine g_aload_n m34_96 rfl ?_
    refine h_gfR (c := 38 + 9 * t) (k := 1 + 9 * t) (p := 33 + 9 * t) m34_97 (pT 1 _) (tT ht) rfl (le3 (Nat.le_of_ble_eq_true rfl)) ?_
    refine g_iload_n m34_100 rfl ?_
    refine h_ial (k := 6 + 9 * t) (p := 38 + 9 * t) (j := i) m34_101 (pT 6 _) (tA5 ht) (rfl) (by omega) (Nat.le_of_ble_eq_true rfl) (hA_8.rd ht (j := 5) (i := i) (by decide)) ?_
    refine g_iadd m34_102 rfl ?_
    refine g_aload_n m34_103 rfl ?_
    refine h_gfR (c := 37 + 9 * t) (k := 1 + 9 * t) (p := 33 + 9 * t) m34_104 (pT 1 _) (tT ht) rfl (le3 (Nat.le_of_ble_eq_true rfl)) ?_
    refine g_iload_n m34_107 rfl ?_
    refine h_ial (k := 5 + 9 * t) (p := 37 + 9 * t) (j := i) m34_108 (pT 5 _) (tA4 ht) (rfl) (by omega) (Nat.le_of_ble_eq_true rfl) (hA_8.rd ht (j := 4) (i := i) (by decide)) ?_
    refine g_iconst m34_109 ?_
    refine g_idiv m34_110 (by decide) rfl ?_
    refine g_isub m34_111 rfl ?_
    refine g_iret m34_112 rt_34 ?_
    rw [show faceF (lkF m0 ln x) X i = _ from fk_3 hke] at hQ
    exact hQ _ hA_8
  · skip
    refine gs m34_30 ?_
    refine gwpc (pc' := 113) rfl ?_
    refine g_iload_n m34_113 rfl ?_
    refine g_aload_n m34_114 rfl ?_
    refine h_gfR (c := 38 + 9 * t) (k := 1 + 9 * t) (p := 33 + 9 * t) m34_115 (pT 1 _) (tT ht) rfl (le3 (Nat.le_of_ble_eq_true rfl)) ?_
    refine g_iload_n m34_118 rfl ?_
    refine h_ial (k := 6 + 9 * t) (p := 38 + 9 * t) (j := i) m34_119 (pT 6 _) (tA5 ht) (rfl) (by omega) (Nat.le_of_ble_eq_true rfl) (hA_8.rd ht (j := 5) (i := i) (by decide)) ?_
    refine g_iadd m34_120 rfl ?_
    refine g_aload_n m34_121 rfl ?_
    refine h_gfR (c := 36 + 9 * t) (k := 1 + 9 * t) (p := 33 + 9 * t) m34_122 (pT 1 _) (tT ht) rfl (le3 (Nat.le_of_ble_eq_true rfl)) ?_
    refine g_iload_n m34_125 rfl ?_
    refine h_ial (k := 4 + 9 * t) (p := 36 + 9 * t) (j := i) m34_126 (pT 4 _) (tA3 ht) (rfl) (by omega) (Nat.le_of_ble_eq_true rfl) (hA_8.rd ht (j := 3) (i := i) (by decide)) ?_
    refine g_iadd m34_127 rfl ?_
    refine g_bipush m34_128 ?_
    refine g_isub m34_130 rfl ?_
    refine g_iret m34_131 rt_34 ?_
    rw [show faceF (lkF m0 ln x) X i = _ from fk_4 hke] at hQ
    exact hQ _ hA_8
  · skip
    refine gs m34_30 ?_
    refine gwpc (pc' := 132) rfl ?_
    refine g_iload_n m34_132 rfl ?_
    refine g_iconst m34_133 ?_
    refine g_idiv m34_134 (by decide) rfl ?_
    refine g_aload_n m34_135 rfl ?_
    refine h_gfR (c := 38 + 9 * t) (k := 1 + 9 * t) (p := 33 + 9 * t) m34_136 (pT 1 _) (tT ht) rfl (le3 (Nat.le_of_ble_eq_true rfl)) ?_
    refine g_iload_n m34_139 rfl ?_
    refine h_ial (k := 6 + 9 * t) (p := 38 + 9 * t) (j := i) m34_140 (pT 6 _) (tA5 ht) (rfl) (by omega) (Nat.le_of_ble_eq_true rfl) (hA_8.rd ht (j := 5) (i := i) (by decide)) ?_
    refine g_iadd m34_141 rfl ?_
    refine g_aload_n m34_142 rfl ?_
    refine h_gfR (c := 39 + 9 * t) (k := 1 + 9 * t) (p := 33 + 9 * t) m34_143 (pT 1 _) (tT ht) rfl (le3 (Nat.le_of_ble_eq_true rfl)) ?_
    refine g_iload_n m34_146 rfl ?_
    refine h_ial (k := 7 + 9 * t) (p := 39 + 9 * t) (j := i) m34_147 (pT 7 _) (tA6 ht) (rfl) (by omega) (Nat.le_of_ble_eq_true rfl) (hA_8.rd ht (j := 6) (i := i) (by decide)) ?_
    refine h_if_le (xi := _) (zi := 0) m34_148 rfl rfl (fun c5 => ?_) (fun c5 => ?_)
    · skip
      refine g_iconst m34_156 ?_
      refine g_iadd m34_157 rfl ?_
      refine g_iret m34_158 rt_34 ?_
      have e : faceF (lkF m0 ln x) X i = _ := (fk_5 hke).trans (by rw [if_neg (by omega)])
      rw [e] at hQ
      exact hQ _ hA_8
    · skip
      refine g_bipush m34_151 ?_
      refine g_goto m34_153 ?_
      refine g_iadd m34_157 rfl ?_
      refine g_iret m34_158 rt_34 ?_
      have e : faceF (lkF m0 ln x) X i = _ := (fk_5 hke).trans (by rw [if_pos (by omega)])
      rw [e] at hQ
      exact hQ _ hA_8
  · skip
    refine gs m34_30 ?_
    refine gwpc (pc' := 159) rfl ?_
    refine g_iload_n m34_159 rfl ?_
    refine g_iconst m34_160 ?_
    refine g_aload_n m34_161 rfl ?_
    refine h_gfR (c := 38 + 9 * t) (k := 1 + 9 * t) (p := 33 + 9 * t) m34_162 (pT 1 _) (tT ht) rfl (le3 (Nat.le_of_ble_eq_true rfl)) ?_
    refine g_iload_n m34_165 rfl ?_
    refine h_ial (k := 6 + 9 * t) (p := 38 + 9 * t) (j := i) m34_166 (pT 6 _) (tA5 ht) (rfl) (by omega) (Nat.le_of_ble_eq_true rfl) (hA_8.rd ht (j := 5) (i := i) (by decide)) ?_
    refine g_imul m34_167 rfl ?_
    refine g_iadd m34_168 rfl ?_
    refine g_aload_n m34_169 rfl ?_
    refine h_gfR (c := 37 + 9 * t) (k := 1 + 9 * t) (p := 33 + 9 * t) m34_170 (pT 1 _) (tT ht) rfl (le3 (Nat.le_of_ble_eq_true rfl)) ?_
    refine g_iload_n m34_173 rfl ?_
    refine h_ial (k := 5 + 9 * t) (p := 37 + 9 * t) (j := i) m34_174 (pT 5 _) (tA4 ht) (rfl) (by omega) (Nat.le_of_ble_eq_true rfl) (hA_8.rd ht (j := 4) (i := i) (by decide)) ?_
    refine g_iconst m34_175 ?_
    refine g_idiv m34_176 (by decide) rfl ?_
    refine g_isub m34_177 rfl ?_
    refine g_iret m34_178 rt_34 ?_
    rw [show faceF (lkF m0 ln x) X i = _ from fk_6 hke] at hQ
    exact hQ _ hA_8
set_option maxRecDepth 20000 in
set_option maxHeartbeats 40000000 in
theorem c_grows {t i : Nat} {m0 X : MW} (ht : t < 4) (hA : AtX m0 t X m) (hi : i < 8) (hk : leI (X 2 i) 6) (hQ : Q (some (.int (growsF X i))) (H m ln N)) : WP xs (d + 1) 35 0 0 [.ref (33 + 9 * t), .int (nI (i))] (H m ln N) Q := by
  refine wp_x mx_35 (L := [some (.ref (33 + 9 * t)), some (.int (nI (i)))]) (Nat.le_of_ble_eq_true rfl) rfl ?_
  obtain ⟨kd, hkd, hke⟩ := hk
  refine g_aload_n m35_0 rfl ?_
  refine h_gfR (c := 35 + 9 * t) (k := 1 + 9 * t) (p := 33 + 9 * t) m35_1 (pT 1 _) (tT ht) rfl (le3 (Nat.le_of_ble_eq_true rfl)) ?_
  refine g_iload_n m35_4 rfl ?_
  refine h_ial (k := 3 + 9 * t) (p := 35 + 9 * t) (j := i) m35_5 (pT 3 _) (tA2 ht) (rfl) (by omega) (Nat.le_of_ble_eq_true rfl) ((hA.rd ht (j := 2) (i := i) (by decide)).trans (hke)) ?_
  rcases (show kd = 0 ∨ kd = 1 ∨ kd = 2 ∨ kd = 3 ∨ kd = 4 ∨ kd = 5 ∨ kd = 6 by omega) with rfl | rfl | rfl | rfl | rfl | rfl | rfl
  · skip
    refine gs m35_6 ?_
    refine gwpc (pc' := 59) rfl ?_
    refine g_iconst m35_59 ?_
    refine g_iret m35_60 rt_35 ?_
    rw [show growsF X i = _ from gk hke (by decide)] at hQ
    exact hQ
  · skip
    refine gs m35_6 ?_
    refine gwpc (pc' := 44) rfl ?_
    refine g_iconst m35_44 ?_
    refine g_iret m35_45 rt_35 ?_
    rw [show growsF X i = _ from gk hke (by decide)] at hQ
    exact hQ
  · skip
    refine gs m35_6 ?_
    refine gwpc (pc' := 46) rfl ?_
    refine g_iconst m35_46 ?_
    refine g_iret m35_47 rt_35 ?_
    rw [show growsF X i = _ from gk hke (by decide)] at hQ
    exact hQ
  · skip
    refine gs m35_6 ?_
    refine gwpc (pc' := 48) rfl ?_
    refine g_iconst m35_48 ?_
    refine g_aload_n m35_49 rfl ?_
    refine h_gfR (c := 36 + 9 * t) (k := 1 + 9 * t) (p := 33 + 9 * t) m35_50 (pT 1 _) (tT ht) rfl (le3 (Nat.le_of_ble_eq_true rfl)) ?_
    refine g_iload_n m35_53 rfl ?_
    refine h_ial (k := 4 + 9 * t) (p := 36 + 9 * t) (j := i) m35_54 (pT 4 _) (tA3 ht) (rfl) (by omega) (Nat.le_of_ble_eq_true rfl) (hA.rd ht (j := 3) (i := i) (by decide)) ?_
    refine g_iconst m35_55 ?_
    refine g_irem m35_56 (by decide) rfl ?_
    refine g_iadd m35_57 rfl ?_
    refine g_iret m35_58 rt_35 ?_
    rw [show growsF X i = _ from gk hke (by decide)] at hQ
    exact hQ
  · skip
    refine gs m35_6 ?_
    refine gwpc (pc' := 44) rfl ?_
    refine g_iconst m35_44 ?_
    refine g_iret m35_45 rt_35 ?_
    rw [show growsF X i = _ from gk hke (by decide)] at hQ
    exact hQ
  · skip
    refine gs m35_6 ?_
    refine gwpc (pc' := 46) rfl ?_
    refine g_iconst m35_46 ?_
    refine g_iret m35_47 rt_35 ?_
    rw [show growsF X i = _ from gk hke (by decide)] at hQ
    exact hQ
  · skip
    refine gs m35_6 ?_
    refine gwpc (pc' := 48) rfl ?_
    refine g_iconst m35_48 ?_
    refine g_aload_n m35_49 rfl ?_
    refine h_gfR (c := 36 + 9 * t) (k := 1 + 9 * t) (p := 33 + 9 * t) m35_50 (pT 1 _) (tT ht) rfl (le3 (Nat.le_of_ble_eq_true rfl)) ?_
    refine g_iload_n m35_53 rfl ?_
    refine h_ial (k := 4 + 9 * t) (p := 36 + 9 * t) (j := i) m35_54 (pT 4 _) (tA3 ht) (rfl) (by omega) (Nat.le_of_ble_eq_true rfl) (hA.rd ht (j := 3) (i := i) (by decide)) ?_
    refine g_iconst m35_55 ?_
    refine g_irem m35_56 (by decide) rfl ?_
    refine g_iadd m35_57 rfl ?_
    refine g_iret m35_58 rt_35 ?_
    rw [show growsF X i = _ from gk hke (by decide)] at hQ
    exact hQ
def facesX (F : Nat → Int32) (X : MW) (n : Nat) : MW := fun j k => if j = 8 ∧ k < n then F k else X j k
theorem facesX_0 (F : Nat → Int32) (X : MW) : facesX F X 0 = X := by
  funext j k
  unfold facesX
  rw [if_neg (by omega)]
theorem facesX_s (F : Nat → Int32) (X : MW) (n : Nat) : facesX F X (n + 1) = upm (facesX F X n) 8 n (F n) := by
  funext j k
  unfold facesX upm
  by_cases h : j = 8
  · subst h
    by_cases h2 : k = n
    · subst h2
      simp
    · by_cases h3 : k < n
      · have h4 : k < n + 1 := by omega
        simp [h2, h3, h4]
      · have h4 : ¬ k < n + 1 := by omega
        simp [h2, h3, h4]
  · simp [h]
theorem facesX_8 (F : Nat → Int32) (X : MW) (n : Nat) : Eq8 X (facesX F X n) := by
  intro j hj i
  unfold facesX
  rw [if_neg (by omega)]
theorem faceF_8 {LK : LF} {X Y : MW} (h : Eq8 X Y) (i : Nat) : faceF LK Y i = faceF LK X i := faceF_c (fun j h1 h2 => h j (by omega) i) (h 0 (by decide) 9)
set_option maxRecDepth 20000 in
set_option maxHeartbeats 40000000 in
theorem c_seeFaces {t : Nat} {m0 X : MW} {x : Int32} (ht : t < 4) (hL : LawsOk m0 ln N) (hA : AtX m0 t X m) (hx : X 0 11 = x) (hix : LawIx N x) (hW : WF X) (hQ : ∀ m2, AtX m0 t (facesX (faceF (lkF m0 ln x) X) X (nOf X)) m2 → Q none (H m2 ln N)) : WP xs (d + 4) 36 0 0 [.ref (33 + 9 * t)] (H m ln N) Q := by
  refine wp_x mx_36 (L := [some (.ref (33 + 9 * t)), none]) (Nat.le_of_ble_eq_true rfl) rfl ?_
  obtain ⟨n, hn, hd⟩ := hW.1
  have hnn : nOf X = n := by unfold nOf; rw [hd]; exact nI_clamp (by omega)
  rw [hnn] at hQ
  have key : ∀ (r : Nat) (q : Nat) (m2 : MW), q + r = n → AtX m0 t (facesX (faceF (lkF m0 ln x) X) X q) m2 → gw xs (WP xs (d + 3)) 36 Q 2 [some (.ref (33 + 9 * t)), some (.int (nI (q)))] [] (H m2 ln N) 0 0 := by
    intro r
    induction r with
    | zero =>
      intro q m2 hq hA2
      obtain rfl : q = n := by omega
      refine g_iload_n m36_2 rfl ?_
      refine g_aload_n m36_3 rfl ?_
      refine h_gfI (k := 1 + 9 * t) (p := 33 + 9 * t) m36_4 (pT 1 _) (tT ht) rfl ((hA2.rd ht (j := 0) (i := 10) (by decide)).trans (hd)) ?_
      refine h_ic_geT (xi := ((q : Nat) : Int)) (zi := ((q : Nat) : Int)) m36_7 (nI_toInt (by omega)) (nI_toInt (by omega)) (by omega) ?_
      refine g_vret m36_27 ?_
      exact hQ _ hA2
    | succ r ih =>
      intro q m2 hq hA2
      have hE8 := facesX_8 (faceF (lkF m0 ln x) X) X q
      refine g_iload_n m36_2 rfl ?_
      refine g_aload_n m36_3 rfl ?_
      refine h_gfI (k := 1 + 9 * t) (p := 33 + 9 * t) m36_4 (pT 1 _) (tT ht) rfl ((hA2.rd ht (j := 0) (i := 10) (by decide)).trans (hd)) ?_
      refine h_ic_geF (xi := ((q : Nat) : Int)) (zi := ((n : Nat) : Int)) m36_7 (nI_toInt (by omega)) (nI_toInt (by omega)) (by omega) ?_
      refine g_aload_n m36_10 rfl ?_
      refine h_gfR (c := 41 + 9 * t) (k := 1 + 9 * t) (p := 33 + 9 * t) m36_11 (pT 1 _) (tT ht) rfl (le3 (Nat.le_of_ble_eq_true rfl)) ?_
      refine g_iload_n m36_14 rfl ?_
      refine g_aload_n m36_15 rfl ?_
      refine g_iload_n m36_16 rfl ?_
      refine h_cv (k := 1 + 9 * t) (p := 33 + 9 * t) (args := [.int (nI (q))]) (rest := [.int (nI (q)), .ref (41 + 9 * t)]) m36_17 cn_34 (Nat.le_of_ble_eq_true rfl) rfl rfl (pT 1 _) (tT ht) (Nat.le_of_ble_eq_true rfl) ?_
      refine c_face ht hL hA2 ((hE8 0 (by decide) 11).trans hx) hix (by omega) (by rw [hE8 2 (by decide)]; exact (hW.2.2 q (by omega)).2.1) (fun m_9 hA_10 => ?_)
      rw [faceF_8 hE8]
      refine gwr ?_
      refine h_ias (k := 9 + 9 * t) (p := 41 + 9 * t) (j := q) m36_20 (pT 9 _) (tA8 ht) (rfl) (by omega) (Nat.le_of_ble_eq_true rfl) ?_
      have hAu1 := hA_10.up ht (j := 8) (by decide) q (faceF (lkF m0 ln x) X q)
      refine g_iinc (L2 := [some (.ref (33 + 9 * t)), some (.int (nI (q + 1)))]) m36_21 rfl (nI_1 _) rfl rfl ?_
      refine g_goto m36_24 ?_
      exact ih (q + 1) _ (by omega) (by rw [facesX_s]; exact hAu1)
  refine g_iconst m36_0 ?_
  refine g_istore_n (L2 := [some (.ref (33 + 9 * t)), some (.int (0))]) m36_1 rfl rfl ?_
  exact key n 0 m (by omega) (by rw [facesX_0]; exact hA)
theorem cntF_le (p : Nat → Bool) : ∀ n, cntF p n ≤ n
  | 0 => Nat.le_refl 0
  | n + 1 => by
    have h := cntF_le p n
    show cntF p n + (if p n = true then 1 else 0) ≤ n + 1
    split <;> omega
theorem cnt_y {p : Nat → Bool} {q : Nat} (h : p q = true) : cntF p (q + 1) = cntF p q + 1 := by
  show cntF p q + (if p q = true then 1 else 0) = _
  rw [if_pos h]
theorem cnt_n {p : Nat → Bool} {q : Nat} (h : ¬ p q = true) : cntF p (q + 1) = cntF p q := by
  show cntF p q + (if p q = true then 1 else 0) = _
  rw [if_neg h, Nat.add_zero]
theorem bits_y {p : Nat → Bool} {q : Nat} (h : p q = true) : bitsF p (q + 1) = bitsF p q + 2 ^ q := by
  show bitsF p q + (if p q = true then 2 ^ q else 0) = _
  rw [if_pos h]
theorem bits_n {p : Nat → Bool} {q : Nat} (h : ¬ p q = true) : bitsF p (q + 1) = bitsF p q := by
  show bitsF p q + (if p q = true then 2 ^ q else 0) = _
  rw [if_neg h, Nat.add_zero]
theorem bitsF_lt (p : Nat → Bool) : ∀ n, bitsF p n < 2 ^ n
  | 0 => by show 0 < 2 ^ 0; decide
  | n + 1 => by
    have h := bitsF_lt p n
    show bitsF p n + (if p n = true then 2 ^ n else 0) < 2 ^ (n + 1)
    rw [Nat.pow_succ]
    split <;> omega
theorem bitsF_t (p : Nat → Bool) : ∀ n i, i < n → (bitsF p n).testBit i = p i
  | 0, i, h => absurd h (Nat.not_lt_zero i)
  | n + 1, i, h => by
    have hl := bitsF_lt p n
    show (bitsF p n + (if p n = true then 2 ^ n else 0)).testBit i = p i
    by_cases hi : i = n
    · subst hi
      by_cases hp : p i = true
      · rw [if_pos hp, Nat.add_comm, Nat.testBit_two_pow_add_eq, Nat.testBit_lt_two_pow hl, hp]
        rfl
      · rw [if_neg hp, Nat.add_zero, Nat.testBit_lt_two_pow hl]
        simpa using hp
    · have h2 : i < n := by omega
      by_cases hp : p n = true
      · rw [if_pos hp, Nat.add_comm, Nat.testBit_two_pow_add_gt h2, bitsF_t p n i h2]
      · rw [if_neg hp, Nat.add_zero, bitsF_t p n i h2]
theorem bit_or : ∀ q, q < 8 → ∀ a, a < 2 ^ q → (nI a ||| ((1 : Int32) <<< (nI q &&& 31)) = nI (a + 2 ^ q)) := by decide +kernel
set_option maxRecDepth 20000 in
set_option maxHeartbeats 40000000 in
theorem c_aheadOf {t i n : Nat} {m0 X : MW} (ht : t < 4) (hA : AtX m0 t X m) (hi : i < 8) (hn : n ≤ 8) (hd : X 0 10 = nI n) (hQ : Q (some (.int (nI (aheadF (X 8) (X 7) n i)))) (H m ln N)) : WP xs (d + 1) 37 0 0 [.ref (33 + 9 * t), .int (nI (i))] (H m ln N) Q := by
  refine wp_x mx_37 (L := [some (.ref (33 + 9 * t)), some (.int (nI (i))), none, none, none]) (Nat.le_of_ble_eq_true rfl) rfl ?_
  have hb : ∀ q, cntF (isAhead (X 8) (X 7) i) q ≤ q := cntF_le _
  have key : ∀ (r : Nat) (q : Nat) (o4 : Option Value), q + r = n → gw xs (WP xs (d)) 37 Q 4 [some (.ref (33 + 9 * t)), some (.int (nI (i))), some (.int (nI (cntF (isAhead (X 8) (X 7) i) q))), some (.int (nI (q))), o4] [] (H m ln N) 0 0 := by
    intro r
    induction r with
    | zero =>
      intro q o4 hq
      obtain rfl : q = n := by omega
      refine g_iload_n m37_4 rfl ?_
      refine g_aload_n m37_5 rfl ?_
      refine h_gfI (k := 1 + 9 * t) (p := 33 + 9 * t) m37_6 (pT 1 _) (tT ht) rfl ((hA.rd ht (j := 0) (i := 10) (by decide)).trans (hd)) ?_
      refine h_ic_geT (xi := ((q : Nat) : Int)) (zi := ((q : Nat) : Int)) m37_9 (nI_toInt (by omega)) (nI_toInt (by omega)) (by omega) ?_
      refine g_iload_n m37_77 rfl ?_
      refine g_iret m37_78 rt_37 ?_
      exact hQ
    | succ r ih =>
      intro q o4 hq
      refine g_iload_n m37_4 rfl ?_
      refine g_aload_n m37_5 rfl ?_
      refine h_gfI (k := 1 + 9 * t) (p := 33 + 9 * t) m37_6 (pT 1 _) (tT ht) rfl ((hA.rd ht (j := 0) (i := 10) (by decide)).trans (hd)) ?_
      refine h_ic_geF (xi := ((q : Nat) : Int)) (zi := ((n : Nat) : Int)) m37_9 (nI_toInt (by omega)) (nI_toInt (by omega)) (by omega) ?_
      refine g_aload_n m37_12 rfl ?_
      refine h_gfR (c := 41 + 9 * t) (k := 1 + 9 * t) (p := 33 + 9 * t) m37_13 (pT 1 _) (tT ht) rfl (le3 (Nat.le_of_ble_eq_true rfl)) ?_
      refine g_iload_n m37_16 rfl ?_
      refine h_ial (k := 9 + 9 * t) (p := 41 + 9 * t) (j := q) m37_17 (pT 9 _) (tA8 ht) (rfl) (by omega) (Nat.le_of_ble_eq_true rfl) (hA.rd ht (j := 8) (i := q) (by decide)) ?_
      refine g_aload_n m37_18 rfl ?_
      refine h_gfR (c := 41 + 9 * t) (k := 1 + 9 * t) (p := 33 + 9 * t) m37_19 (pT 1 _) (tT ht) rfl (le3 (Nat.le_of_ble_eq_true rfl)) ?_
      refine g_iload_n m37_22 rfl ?_
      refine h_ial (k := 9 + 9 * t) (p := 41 + 9 * t) (j := i) m37_23 (pT 9 _) (tA8 ht) (rfl) (by omega) (Nat.le_of_ble_eq_true rfl) (hA.rd ht (j := 8) (i := i) (by decide)) ?_
      refine h_ic_gt (xi := _) (zi := _) m37_24 rfl rfl (fun c1 => ?_) (fun c1 => ?_)
      · skip
        refine g_iconst m37_47 ?_
        refine g_goto m37_48 ?_
        refine g_istore (L2 := [some (.ref (33 + 9 * t)), some (.int (nI (i))), some (.int (nI (cntF (isAhead (X 8) (X 7) i) q))), some (.int (nI (q))), some (.int (1))]) m37_52 rfl rfl ?_
        refine g_iload m37_54 rfl ?_
        refine h_if_eqF (xi := 1) (zi := 0) m37_56 rfl rfl (by decide) ?_
        refine g_aload_n m37_59 rfl ?_
        refine h_gfR (c := 40 + 9 * t) (k := 1 + 9 * t) (p := 33 + 9 * t) m37_60 (pT 1 _) (tT ht) rfl (le3 (Nat.le_of_ble_eq_true rfl)) ?_
        refine g_iload_n m37_63 rfl ?_
        refine h_bal (k := 8 + 9 * t) (p := 40 + 9 * t) (j := q) m37_64 (pT 8 _) (tA7 ht) (rfl) (by omega) (Nat.le_of_ble_eq_true rfl) (hA.rd ht (j := 7) (i := q) (by decide)) ?_
        refine h_if_ne (xi := _) (zi := 0) m37_65 rfl rfl (fun c2 => ?_) (fun c2 => ?_)
        · skip
          refine g_iinc (L2 := [some (.ref (33 + 9 * t)), some (.int (nI (i))), some (.int (nI ((cntF (isAhead (X 8) (X 7) i) q) + 1))), some (.int (nI (q))), some (.int (1))]) m37_68 rfl (nI_1 _) rfl rfl ?_
          refine g_iinc (L2 := [some (.ref (33 + 9 * t)), some (.int (nI (i))), some (.int (nI ((cntF (isAhead (X 8) (X 7) i) q) + 1))), some (.int (nI (q + 1))), some (.int (1))]) m37_71 rfl (nI_1 _) rfl rfl ?_
          refine g_goto m37_74 ?_
          have e : cntF (isAhead (X 8) (X 7) i) (q + 1) = cntF (isAhead (X 8) (X 7) i) q + 1 := cnt_y (by unfold isAhead; exact decide_eq_true (by omega))
          have h9 := ih (q + 1) (some (.int (1))) (by omega)
          rw [e] at h9
          exact h9
        · skip
          refine g_iinc (L2 := [some (.ref (33 + 9 * t)), some (.int (nI (i))), some (.int (nI (cntF (isAhead (X 8) (X 7) i) q))), some (.int (nI (q + 1))), some (.int (1))]) m37_71 rfl (nI_1 _) rfl rfl ?_
          refine g_goto m37_74 ?_
          have e : cntF (isAhead (X 8) (X 7) i) (q + 1) = cntF (isAhead (X 8) (X 7) i) q := cnt_n (by unfold isAhead; rw [decide_eq_true_eq]; omega)
          have h9 := ih (q + 1) (some (.int (1))) (by omega)
          rw [e] at h9
          exact h9
      · skip
        refine g_aload_n m37_27 rfl ?_
        refine h_gfR (c := 41 + 9 * t) (k := 1 + 9 * t) (p := 33 + 9 * t) m37_28 (pT 1 _) (tT ht) rfl (le3 (Nat.le_of_ble_eq_true rfl)) ?_
        refine g_iload_n m37_31 rfl ?_
        refine h_ial (k := 9 + 9 * t) (p := 41 + 9 * t) (j := q) m37_32 (pT 9 _) (tA8 ht) (rfl) (by omega) (Nat.le_of_ble_eq_true rfl) (hA.rd ht (j := 8) (i := q) (by decide)) ?_
        refine g_aload_n m37_33 rfl ?_
        refine h_gfR (c := 41 + 9 * t) (k := 1 + 9 * t) (p := 33 + 9 * t) m37_34 (pT 1 _) (tT ht) rfl (le3 (Nat.le_of_ble_eq_true rfl)) ?_
        refine g_iload_n m37_37 rfl ?_
        refine h_ial (k := 9 + 9 * t) (p := 41 + 9 * t) (j := i) m37_38 (pT 9 _) (tA8 ht) (rfl) (by omega) (Nat.le_of_ble_eq_true rfl) (hA.rd ht (j := 8) (i := i) (by decide)) ?_
        refine h_ic_ne (xi := _) (zi := _) m37_39 rfl rfl (fun c3 => ?_) (fun c3 => ?_)
        · skip
          refine g_iload_n m37_42 rfl ?_
          refine g_iload_n m37_43 rfl ?_
          refine h_ic_ge (xi := ((q : Nat) : Int)) (zi := ((i : Nat) : Int)) m37_44 (nI_toInt (by omega)) (nI_toInt (by omega)) (fun c4 => ?_) (fun c4 => ?_)
          · skip
            refine g_iconst m37_51 ?_
            refine g_istore (L2 := [some (.ref (33 + 9 * t)), some (.int (nI (i))), some (.int (nI (cntF (isAhead (X 8) (X 7) i) q))), some (.int (nI (q))), some (.int (0))]) m37_52 rfl rfl ?_
            refine g_iload m37_54 rfl ?_
            refine h_if_eqT (xi := 0) (zi := 0) m37_56 rfl rfl (by decide) ?_
            refine g_iinc (L2 := [some (.ref (33 + 9 * t)), some (.int (nI (i))), some (.int (nI (cntF (isAhead (X 8) (X 7) i) q))), some (.int (nI (q + 1))), some (.int (0))]) m37_71 rfl (nI_1 _) rfl rfl ?_
            refine g_goto m37_74 ?_
            have e : cntF (isAhead (X 8) (X 7) i) (q + 1) = cntF (isAhead (X 8) (X 7) i) q := cnt_n (by unfold isAhead; rw [decide_eq_true_eq]; omega)
            have h9 := ih (q + 1) (some (.int (0))) (by omega)
            rw [e] at h9
            exact h9
          · skip
            refine g_iconst m37_47 ?_
            refine g_goto m37_48 ?_
            refine g_istore (L2 := [some (.ref (33 + 9 * t)), some (.int (nI (i))), some (.int (nI (cntF (isAhead (X 8) (X 7) i) q))), some (.int (nI (q))), some (.int (1))]) m37_52 rfl rfl ?_
            refine g_iload m37_54 rfl ?_
            refine h_if_eqF (xi := 1) (zi := 0) m37_56 rfl rfl (by decide) ?_
            refine g_aload_n m37_59 rfl ?_
            refine h_gfR (c := 40 + 9 * t) (k := 1 + 9 * t) (p := 33 + 9 * t) m37_60 (pT 1 _) (tT ht) rfl (le3 (Nat.le_of_ble_eq_true rfl)) ?_
            refine g_iload_n m37_63 rfl ?_
            refine h_bal (k := 8 + 9 * t) (p := 40 + 9 * t) (j := q) m37_64 (pT 8 _) (tA7 ht) (rfl) (by omega) (Nat.le_of_ble_eq_true rfl) (hA.rd ht (j := 7) (i := q) (by decide)) ?_
            refine h_if_ne (xi := _) (zi := 0) m37_65 rfl rfl (fun c5 => ?_) (fun c5 => ?_)
            · skip
              refine g_iinc (L2 := [some (.ref (33 + 9 * t)), some (.int (nI (i))), some (.int (nI ((cntF (isAhead (X 8) (X 7) i) q) + 1))), some (.int (nI (q))), some (.int (1))]) m37_68 rfl (nI_1 _) rfl rfl ?_
              refine g_iinc (L2 := [some (.ref (33 + 9 * t)), some (.int (nI (i))), some (.int (nI ((cntF (isAhead (X 8) (X 7) i) q) + 1))), some (.int (nI (q + 1))), some (.int (1))]) m37_71 rfl (nI_1 _) rfl rfl ?_
              refine g_goto m37_74 ?_
              have e : cntF (isAhead (X 8) (X 7) i) (q + 1) = cntF (isAhead (X 8) (X 7) i) q + 1 := cnt_y (by unfold isAhead; exact decide_eq_true (by omega))
              have h9 := ih (q + 1) (some (.int (1))) (by omega)
              rw [e] at h9
              exact h9
            · skip
              refine g_iinc (L2 := [some (.ref (33 + 9 * t)), some (.int (nI (i))), some (.int (nI (cntF (isAhead (X 8) (X 7) i) q))), some (.int (nI (q + 1))), some (.int (1))]) m37_71 rfl (nI_1 _) rfl rfl ?_
              refine g_goto m37_74 ?_
              have e : cntF (isAhead (X 8) (X 7) i) (q + 1) = cntF (isAhead (X 8) (X 7) i) q := cnt_n (by unfold isAhead; rw [decide_eq_true_eq]; omega)
              have h9 := ih (q + 1) (some (.int (1))) (by omega)
              rw [e] at h9
              exact h9
        · skip
          refine g_iconst m37_51 ?_
          refine g_istore (L2 := [some (.ref (33 + 9 * t)), some (.int (nI (i))), some (.int (nI (cntF (isAhead (X 8) (X 7) i) q))), some (.int (nI (q))), some (.int (0))]) m37_52 rfl rfl ?_
          refine g_iload m37_54 rfl ?_
          refine h_if_eqT (xi := 0) (zi := 0) m37_56 rfl rfl (by decide) ?_
          refine g_iinc (L2 := [some (.ref (33 + 9 * t)), some (.int (nI (i))), some (.int (nI (cntF (isAhead (X 8) (X 7) i) q))), some (.int (nI (q + 1))), some (.int (0))]) m37_71 rfl (nI_1 _) rfl rfl ?_
          refine g_goto m37_74 ?_
          have e : cntF (isAhead (X 8) (X 7) i) (q + 1) = cntF (isAhead (X 8) (X 7) i) q := cnt_n (by unfold isAhead; rw [decide_eq_true_eq]; omega)
          have h9 := ih (q + 1) (some (.int (0))) (by omega)
          rw [e] at h9
          exact h9
  refine g_iconst m37_0 ?_
  refine g_istore_n (L2 := [some (.ref (33 + 9 * t)), some (.int (nI (i))), some (.int (0)), none, none]) m37_1 rfl rfl ?_
  refine g_iconst m37_2 ?_
  refine g_istore_n (L2 := [some (.ref (33 + 9 * t)), some (.int (nI (i))), some (.int (0)), some (.int (0)), none]) m37_3 rfl rfl ?_
  exact key n 0 none (by omega)
set_option maxRecDepth 20000 in
set_option maxHeartbeats 40000000 in
theorem c_served {t n : Nat} {m0 X : MW} (ht : t < 4) (hA : AtX m0 t X m) (hn : n ≤ 8) (hd : X 0 10 = nI n) (hQ : Q (some (.int (nI (bitsF (isServed (X 8) (X 7) n (X 0 8)) n)))) (H m ln N)) : WP xs (d + 2) 38 0 0 [.ref (33 + 9 * t)] (H m ln N) Q := by
  refine wp_x mx_38 (L := [some (.ref (33 + 9 * t)), none, none]) (Nat.le_of_ble_eq_true rfl) rfl ?_
  have hb : ∀ q, bitsF (isServed (X 8) (X 7) n (X 0 8)) q < 2 ^ q := bitsF_lt _
  have key : ∀ (r : Nat) (q : Nat), q + r = n → gw xs (WP xs (d + 1)) 38 Q 4 [some (.ref (33 + 9 * t)), some (.int (nI (bitsF (isServed (X 8) (X 7) n (X 0 8)) q))), some (.int (nI (q)))] [] (H m ln N) 0 0 := by
    intro r
    induction r with
    | zero =>
      intro q hq
      obtain rfl : q = n := by omega
      refine g_iload_n m38_4 rfl ?_
      refine g_aload_n m38_5 rfl ?_
      refine h_gfI (k := 1 + 9 * t) (p := 33 + 9 * t) m38_6 (pT 1 _) (tT ht) rfl ((hA.rd ht (j := 0) (i := 10) (by decide)).trans (hd)) ?_
      refine h_ic_geT (xi := ((q : Nat) : Int)) (zi := ((q : Nat) : Int)) m38_9 (nI_toInt (by omega)) (nI_toInt (by omega)) (by omega) ?_
      refine g_iload_n m38_45 rfl ?_
      refine g_iret m38_46 rt_38 ?_
      exact hQ
    | succ r ih =>
      intro q hq
      refine g_iload_n m38_4 rfl ?_
      refine g_aload_n m38_5 rfl ?_
      refine h_gfI (k := 1 + 9 * t) (p := 33 + 9 * t) m38_6 (pT 1 _) (tT ht) rfl ((hA.rd ht (j := 0) (i := 10) (by decide)).trans (hd)) ?_
      refine h_ic_geF (xi := ((q : Nat) : Int)) (zi := ((n : Nat) : Int)) m38_9 (nI_toInt (by omega)) (nI_toInt (by omega)) (by omega) ?_
      refine g_aload_n m38_12 rfl ?_
      refine h_gfR (c := 40 + 9 * t) (k := 1 + 9 * t) (p := 33 + 9 * t) m38_13 (pT 1 _) (tT ht) rfl (le3 (Nat.le_of_ble_eq_true rfl)) ?_
      refine g_iload_n m38_16 rfl ?_
      refine h_bal (k := 8 + 9 * t) (p := 40 + 9 * t) (j := q) m38_17 (pT 8 _) (tA7 ht) (rfl) (by omega) (Nat.le_of_ble_eq_true rfl) (hA.rd ht (j := 7) (i := q) (by decide)) ?_
      refine h_if_ne (xi := _) (zi := 0) m38_18 rfl rfl (fun c1 => ?_) (fun c1 => ?_)
      · skip
        refine g_aload_n m38_21 rfl ?_
        refine g_iload_n m38_22 rfl ?_
        refine h_cv (k := 1 + 9 * t) (p := 33 + 9 * t) (args := [.int (nI (q))]) (rest := []) m38_23 cn_37 (Nat.le_of_ble_eq_true rfl) rfl rfl (pT 1 _) (tT ht) (Nat.le_of_ble_eq_true rfl) ?_
        refine c_aheadOf ht hA (by omega) hn hd ?_
        have hcl : aheadF (X 8) (X 7) n q ≤ n := cntF_le _ n
        refine gwr ?_
        refine g_aload_n m38_26 rfl ?_
        refine h_gfI (k := 1 + 9 * t) (p := 33 + 9 * t) m38_27 (pT 1 _) (tT ht) rfl (hA.rd ht (j := 0) (i := 8) (by decide)) ?_
        refine h_ic_ge (xi := ((aheadF (X 8) (X 7) n q : Nat) : Int)) (zi := _) m38_30 (nI_toInt (by omega)) rfl (fun c2 => ?_) (fun c2 => ?_)
        · skip
          refine g_iinc (L2 := [some (.ref (33 + 9 * t)), some (.int (nI (bitsF (isServed (X 8) (X 7) n (X 0 8)) q))), some (.int (nI (q + 1)))]) m38_39 rfl (nI_1 _) rfl rfl ?_
          refine g_goto m38_42 ?_
          have e : bitsF (isServed (X 8) (X 7) n (X 0 8)) (q + 1) = bitsF (isServed (X 8) (X 7) n (X 0 8)) q := bits_n (by unfold isServed; rw [decide_eq_true_eq]; omega)
          have h9 := ih (q + 1) (by omega)
          rw [e] at h9
          exact h9
        · skip
          refine g_iload_n m38_33 rfl ?_
          refine g_iconst m38_34 ?_
          refine g_iload_n m38_35 rfl ?_
          refine g_ishl m38_36 rfl ?_
          refine g_ior (u := nI (bitsF (isServed (X 8) (X 7) n (X 0 8)) q + 2 ^ q)) m38_37 (bit_or q (by omega) _ (hb q)) ?_
          refine g_istore_n (L2 := [some (.ref (33 + 9 * t)), some (.int (nI (bitsF (isServed (X 8) (X 7) n (X 0 8)) q + 2 ^ q))), some (.int (nI (q)))]) m38_38 rfl rfl ?_
          refine g_iinc (L2 := [some (.ref (33 + 9 * t)), some (.int (nI (bitsF (isServed (X 8) (X 7) n (X 0 8)) q + 2 ^ q))), some (.int (nI (q + 1)))]) m38_39 rfl (nI_1 _) rfl rfl ?_
          refine g_goto m38_42 ?_
          have e : bitsF (isServed (X 8) (X 7) n (X 0 8)) (q + 1) = bitsF (isServed (X 8) (X 7) n (X 0 8)) q + 2 ^ q := bits_y (by unfold isServed; exact decide_eq_true (by omega))
          have h9 := ih (q + 1) (by omega)
          rw [e] at h9
          exact h9
      · skip
        refine g_iinc (L2 := [some (.ref (33 + 9 * t)), some (.int (nI (bitsF (isServed (X 8) (X 7) n (X 0 8)) q))), some (.int (nI (q + 1)))]) m38_39 rfl (nI_1 _) rfl rfl ?_
        refine g_goto m38_42 ?_
        have e : bitsF (isServed (X 8) (X 7) n (X 0 8)) (q + 1) = bitsF (isServed (X 8) (X 7) n (X 0 8)) q := bits_n (by unfold isServed; rw [decide_eq_true_eq]; omega)
        have h9 := ih (q + 1) (by omega)
        rw [e] at h9
        exact h9
  refine g_iconst m38_0 ?_
  refine g_istore_n (L2 := [some (.ref (33 + 9 * t)), some (.int (0)), none]) m38_1 rfl rfl ?_
  refine g_iconst m38_2 ?_
  refine g_istore_n (L2 := [some (.ref (33 + 9 * t)), some (.int (0)), some (.int (0))]) m38_3 rfl rfl ?_
  exact key n 0 (by omega)
theorem grows_le {X : MW} {i : Nat} (hm : leI (X 3 i) 9) (hk : leI (X 2 i) 6) : ∃ g, g ≤ 3 ∧ growsF X i = nI g := by
  obtain ⟨k, hk6, hke⟩ := hk
  obtain ⟨c, hc9, hce⟩ := hm
  have h3 : nI c - nI c / 3 * 3 = nI (c % 3) := pk_rem (a := c) (d := 3) (by omega) (by decide) (by decide)
  rw [gk hke hk6, hce, h3]
  split
  · exact ⟨0, by omega, rfl⟩
  · split
    · exact ⟨2, by omega, rfl⟩
    · split
      · exact ⟨1 + c % 3, by omega, nI_add 1 _⟩
      · exact ⟨1, by omega, rfl⟩
theorem ate_f (X : MW) (i j k : Nat) : ateF false X i j k = upm X 4 i (hungF false X i) j k := by
  unfold ateF
  by_cases h : j = 6 ∧ k = i
  · obtain ⟨rfl, rfl⟩ := h
    rw [upm_self, upm_k _ _ (by decide)]
    rfl
  · unfold upm
    rw [if_neg h]
set_option maxRecDepth 20000 in
set_option maxHeartbeats 40000000 in
theorem c_pass1 {t i : Nat} {m0 X : MW} {x y : Int32} (ht : t < 4) (hL : LawsOk m0 ln N) (hA : AtX m0 t X m) (hx : X 0 11 = x) (hix : LawIx N x) (hy : X 0 12 = y) (hiy : LawIx N y) (hW : WF X) (hi : i < 8) (hQ : ∀ m2, AtX m0 t (passF (lkF m0 ln x) (blF m0 ln y) true X i) m2 → Q none (H m2 ln N)) : WP xs (d + 4) 39 0 0 [.ref (33 + 9 * t), .int (nI (i)), .int (1)] (H m ln N) Q := by
  refine wp_x mx_39 (L := [some (.ref (33 + 9 * t)), some (.int (nI (i))), some (.int (1))]) (Nat.le_of_ble_eq_true rfl) rfl ?_
  obtain ⟨hf, hk, hm, hh, hs, hc, hg⟩ := hW.2.2 i hi
  obtain ⟨hcn, hc9, hce⟩ := hc
  obtain ⟨hhn, hh9, hhe⟩ := hh
  have hclamp : (X 6 i).toNatClampNeg = hcn := by rw [hce]; exact nI_clamp (by omega)
  obtain ⟨fl, hfl, hfe⟩ := (hW.2.2 (hcn % 8) (by omega)).1
  have h1 : heldF (nI hhn - nI fl) 99 = hungF true X i := by unfold hungF; rw [if_pos rfl, hclamp, hhe, hfe]
  have h2 : heldF (nI (hcn + 1)) 99 = hadF true X i := by unfold hadF; rw [if_pos rfl, hce, nI_1]
  have h3 : (nI hhn - nI fl).toInt ≤ 99 := by rw [pk_sub_toInt (by omega) (by omega)]; omega
  have h4 : 0 ≤ (nI (hcn + 1)).toInt := by rw [nI_toInt (by omega)]; omega
  refine g_iload_n m39_0 rfl ?_
  refine h_if_eqF (xi := 1) (zi := 0) m39_1 rfl rfl (by decide) ?_
  refine g_aload_n m39_4 rfl ?_
  refine h_gfR (c := 37 + 9 * t) (k := 1 + 9 * t) (p := 33 + 9 * t) m39_5 (pT 1 _) (tT ht) rfl (le3 (Nat.le_of_ble_eq_true rfl)) ?_
  refine g_iload_n m39_8 rfl ?_
  refine g_iconst m39_9 ?_
  refine g_aload_n m39_10 rfl ?_
  refine h_gfR (c := 37 + 9 * t) (k := 1 + 9 * t) (p := 33 + 9 * t) m39_11 (pT 1 _) (tT ht) rfl (le3 (Nat.le_of_ble_eq_true rfl)) ?_
  refine g_iload_n m39_14 rfl ?_
  refine h_ial (k := 5 + 9 * t) (p := 37 + 9 * t) (j := i) m39_15 (pT 5 _) (tA4 ht) (rfl) (by omega) (Nat.le_of_ble_eq_true rfl) ((hA.rd ht (j := 4) (i := i) (by decide)).trans (hhe)) ?_
  refine g_aload_n m39_16 rfl ?_
  refine h_gfR (c := 34 + 9 * t) (k := 1 + 9 * t) (p := 33 + 9 * t) m39_17 (pT 1 _) (tT ht) rfl (le3 (Nat.le_of_ble_eq_true rfl)) ?_
  refine g_aload_n m39_20 rfl ?_
  refine h_gfR (c := 39 + 9 * t) (k := 1 + 9 * t) (p := 33 + 9 * t) m39_21 (pT 1 _) (tT ht) rfl (le3 (Nat.le_of_ble_eq_true rfl)) ?_
  refine g_iload_n m39_24 rfl ?_
  refine h_ial (k := 7 + 9 * t) (p := 39 + 9 * t) (j := i) m39_25 (pT 7 _) (tA6 ht) (rfl) (by omega) (Nat.le_of_ble_eq_true rfl) ((hA.rd ht (j := 6) (i := i) (by decide)).trans (hce)) ?_
  refine g_bipush m39_26 ?_
  refine g_irem (u := nI (hcn % 8)) m39_28 (by decide) (pk_rem (a := hcn) (d := 8) (by omega) (by decide) (by decide)) ?_
  refine h_ial (k := 2 + 9 * t) (p := 34 + 9 * t) (j := hcn % 8) m39_29 (pT 2 _) (tA1 ht) (rfl) (by omega) (Nat.le_of_ble_eq_true rfl) ((hA.rd ht (j := 1) (i := hcn % 8) (by decide)).trans (hfe)) ?_
  refine g_isub m39_30 rfl ?_
  refine g_max (u := hungF true X i) m39_31 (Nat.le_of_ble_eq_true rfl) ((max_h h3).trans h1) ?_
  refine h_ias (k := 5 + 9 * t) (p := 37 + 9 * t) (j := i) m39_34 (pT 5 _) (tA4 ht) (rfl) (by omega) (Nat.le_of_ble_eq_true rfl) ?_
  have hAu1 := hA.up ht (j := 4) (by decide) i (hungF true X i)
  refine g_aload_n m39_35 rfl ?_
  refine h_gfR (c := 39 + 9 * t) (k := 1 + 9 * t) (p := 33 + 9 * t) m39_36 (pT 1 _) (tT ht) rfl (le3 (Nat.le_of_ble_eq_true rfl)) ?_
  refine g_iload_n m39_39 rfl ?_
  refine g_bipush m39_40 ?_
  refine g_aload_n m39_42 rfl ?_
  refine h_gfR (c := 39 + 9 * t) (k := 1 + 9 * t) (p := 33 + 9 * t) m39_43 (pT 1 _) (tT ht) rfl (le3 (Nat.le_of_ble_eq_true rfl)) ?_
  refine g_iload_n m39_46 rfl ?_
  refine h_ial (k := 7 + 9 * t) (p := 39 + 9 * t) (j := i) m39_47 (pT 7 _) (tA6 ht) (rfl) (by omega) (Nat.le_of_ble_eq_true rfl) ((hAu1.rd ht (j := 6) (i := i) (by decide)).trans (hce)) ?_
  refine g_iconst m39_48 ?_
  refine g_iadd (u := nI (hcn + 1)) m39_49 (nI_add hcn 1) ?_
  refine g_min (u := hadF true X i) m39_50 (Nat.le_of_ble_eq_true rfl) ((min_h h4).trans h2) ?_
  refine h_ias (k := 7 + 9 * t) (p := 39 + 9 * t) (j := i) m39_53 (pT 7 _) (tA6 ht) (rfl) (by omega) (Nat.le_of_ble_eq_true rfl) ?_
  have hAu2 := hAu1.up ht (j := 6) (by decide) i (hadF true X i)
  refine g_goto m39_54 ?_
  refine g_aload_n m39_80 rfl ?_
  refine h_gfR (c := 40 + 9 * t) (k := 1 + 9 * t) (p := 33 + 9 * t) m39_81 (pT 1 _) (tT ht) rfl (le3 (Nat.le_of_ble_eq_true rfl)) ?_
  refine g_iload_n m39_84 rfl ?_
  refine g_aload_n m39_85 rfl ?_
  refine h_gfL (k := 1 + 9 * t) (p := 33 + 9 * t) m39_86 (pT 1 _) (tT ht) rfl ((hAu2.rd ht (j := 0) (i := 12) (by decide)).trans hy) ?_
  refine h_lawZ m39_89 (fun c3 => ?_) (fun c3 => ?_)
  · skip
    refine g_iconst m39_120 ?_
    refine h_bas (k := 8 + 9 * t) (p := 40 + 9 * t) (j := i) m39_121 (pT 8 _) (tA7 ht) (rfl) (by omega) (Nat.le_of_ble_eq_true rfl) (Or.inl rfl) ?_
    have hAu4 := hAu2.up ht (j := 7) (by decide) i (0 : Int32)
    refine g_vret m39_122 ?_
    have e : passF (lkF m0 ln x) (blF m0 ln y) true X i = upm (ateF true X i) 7 i 0 := by
      unfold passF goneF
      rw [if_pos (by unfold blF; rw [if_pos c3]; rfl)]
    exact hQ _ (by rw [e]; exact hAu4)
  · skip
    refine g_aload_n m39_92 rfl ?_
    refine g_aload_n m39_93 rfl ?_
    refine h_gfR (c := 37 + 9 * t) (k := 1 + 9 * t) (p := 33 + 9 * t) m39_94 (pT 1 _) (tT ht) rfl (le3 (Nat.le_of_ble_eq_true rfl)) ?_
    refine g_iload_n m39_97 rfl ?_
    refine h_ial (k := 5 + 9 * t) (p := 37 + 9 * t) (j := i) m39_98 (pT 5 _) (tA4 ht) (rfl) (by omega) (Nat.le_of_ble_eq_true rfl) (hAu2.rd ht (j := 4) (i := i) (by decide)) ?_
    refine g_aload_n m39_99 rfl ?_
    refine g_iload_n m39_100 rfl ?_
    refine h_cv (k := 1 + 9 * t) (p := 33 + 9 * t) (args := [.int (nI (i))]) (rest := [.int ((ateF true X i) 4 i), .ref (33 + 9 * t), .int (nI (i)), .ref (40 + 9 * t)]) m39_101 cn_34 (Nat.le_of_ble_eq_true rfl) rfl rfl (pT 1 _) (tT ht) (Nat.le_of_ble_eq_true rfl) ?_
    refine c_face ht hL hAu2 hx hix hi hk (fun m_11 hA_12 => ?_)
    refine gwr ?_
    refine g_aload_n m39_104 rfl ?_
    refine h_gfR (c := 39 + 9 * t) (k := 1 + 9 * t) (p := 33 + 9 * t) m39_105 (pT 1 _) (tT ht) rfl (le3 (Nat.le_of_ble_eq_true rfl)) ?_
    refine g_iload_n m39_108 rfl ?_
    refine h_ial (k := 7 + 9 * t) (p := 39 + 9 * t) (j := i) m39_109 (pT 7 _) (tA6 ht) (rfl) (by omega) (Nat.le_of_ble_eq_true rfl) (hA_12.rd ht (j := 6) (i := i) (by decide)) ?_
    refine h_cv (k := 1 + 9 * t) (p := 33 + 9 * t) (args := [.int ((ateF true X i) 4 i), .int (faceF (lkF m0 ln x) (ateF true X i) i), .int ((ateF true X i) 6 i)]) (rest := [.int (nI (i)), .ref (40 + 9 * t)]) m39_110 cn_33 (Nat.le_of_ble_eq_true rfl) rfl rfl (pT 1 _) (tT ht) (Nat.le_of_ble_eq_true rfl) ?_
    refine c_billBy ht hL hA_12 hy hiy (fun m_13 hA_14 => ?_)
    refine gwr ?_
    refine h_if_eq (xi := _) (zi := 0) m39_113 rfl rfl (fun c5 => ?_) (fun c5 => ?_)
    · skip
      refine g_iconst m39_120 ?_
      refine h_bas (k := 8 + 9 * t) (p := 40 + 9 * t) (j := i) m39_121 (pT 8 _) (tA7 ht) (rfl) (by omega) (Nat.le_of_ble_eq_true rfl) (Or.inl rfl) ?_
      have hAu6 := hA_14.up ht (j := 7) (by decide) i (0 : Int32)
      refine g_vret m39_122 ?_
      have e : passF (lkF m0 ln x) (blF m0 ln y) true X i = upm (ateF true X i) 7 i 0 := by
        unfold passF goneF
        rw [if_pos (by exact c5)]
      exact hQ _ (by rw [e]; exact hAu6)
    · skip
      refine g_iconst m39_116 ?_
      refine g_goto m39_117 ?_
      refine h_bas (k := 8 + 9 * t) (p := 40 + 9 * t) (j := i) m39_121 (pT 8 _) (tA7 ht) (rfl) (by omega) (Nat.le_of_ble_eq_true rfl) (Or.inr rfl) ?_
      have hAu7 := hA_14.up ht (j := 7) (by decide) i (1 : Int32)
      refine g_vret m39_122 ?_
      have e : passF (lkF m0 ln x) (blF m0 ln y) true X i = upm (ateF true X i) 7 i 1 := by
        unfold passF goneF
        rw [if_neg (by exact c5)]
      exact hQ _ (by rw [e]; exact hAu7)
set_option maxRecDepth 20000 in
set_option maxHeartbeats 40000000 in
theorem c_pass0 {t i : Nat} {m0 X : MW} {x y : Int32} (ht : t < 4) (hL : LawsOk m0 ln N) (hA : AtX m0 t X m) (hx : X 0 11 = x) (hix : LawIx N x) (hy : X 0 12 = y) (hiy : LawIx N y) (hW : WF X) (hi : i < 8) (hQ : ∀ m2, AtX m0 t (passF (lkF m0 ln x) (blF m0 ln y) false X i) m2 → Q none (H m2 ln N)) : WP xs (d + 4) 39 0 0 [.ref (33 + 9 * t), .int (nI (i)), .int (0)] (H m ln N) Q := by
  refine wp_x mx_39 (L := [some (.ref (33 + 9 * t)), some (.int (nI (i))), some (.int (0))]) (Nat.le_of_ble_eq_true rfl) rfl ?_
  obtain ⟨hf, hk, hm, hh, hs, hc, hg⟩ := hW.2.2 i hi
  obtain ⟨hcn, hc9, hce⟩ := hc
  obtain ⟨hhn, hh9, hhe⟩ := hh
  have hclamp : (X 6 i).toNatClampNeg = hcn := by rw [hce]; exact nI_clamp (by omega)
  have h1 : heldF (nI hhn + growsF X i) 99 = hungF false X i := by unfold hungF; rw [if_neg (by decide), hhe]
  have h3 : 0 ≤ (nI hhn + growsF X i).toInt := by
    obtain ⟨g, hg9, hge⟩ := grows_le hm hk
    rw [hge, nI_add, nI_toInt (by omega)]
    omega
  refine g_iload_n m39_0 rfl ?_
  refine h_if_eqT (xi := 0) (zi := 0) m39_1 rfl rfl (by decide) ?_
  refine g_aload_n m39_57 rfl ?_
  refine h_gfR (c := 37 + 9 * t) (k := 1 + 9 * t) (p := 33 + 9 * t) m39_58 (pT 1 _) (tT ht) rfl (le3 (Nat.le_of_ble_eq_true rfl)) ?_
  refine g_iload_n m39_61 rfl ?_
  refine g_bipush m39_62 ?_
  refine g_aload_n m39_64 rfl ?_
  refine h_gfR (c := 37 + 9 * t) (k := 1 + 9 * t) (p := 33 + 9 * t) m39_65 (pT 1 _) (tT ht) rfl (le3 (Nat.le_of_ble_eq_true rfl)) ?_
  refine g_iload_n m39_68 rfl ?_
  refine h_ial (k := 5 + 9 * t) (p := 37 + 9 * t) (j := i) m39_69 (pT 5 _) (tA4 ht) (rfl) (by omega) (Nat.le_of_ble_eq_true rfl) ((hA.rd ht (j := 4) (i := i) (by decide)).trans (hhe)) ?_
  refine g_aload_n m39_70 rfl ?_
  refine g_iload_n m39_71 rfl ?_
  refine h_cv (k := 1 + 9 * t) (p := 33 + 9 * t) (args := [.int (nI (i))]) (rest := [.int (nI (hhn)), .int (99), .int (nI (i)), .ref (37 + 9 * t)]) m39_72 cn_35 (Nat.le_of_ble_eq_true rfl) rfl rfl (pT 1 _) (tT ht) (Nat.le_of_ble_eq_true rfl) ?_
  refine c_grows ht hA hi hk ?_
  refine gwr ?_
  refine g_iadd m39_75 rfl ?_
  refine g_min (u := hungF false X i) m39_76 (Nat.le_of_ble_eq_true rfl) ((min_h h3).trans h1) ?_
  refine h_ias (k := 5 + 9 * t) (p := 37 + 9 * t) (j := i) m39_79 (pT 5 _) (tA4 ht) (rfl) (by omega) (Nat.le_of_ble_eq_true rfl) ?_
  have hAu1 := hA.up ht (j := 4) (by decide) i (hungF false X i)
  have hAu2 : AtX m0 t (ateF false X i) _ := hAu1.c (fun j k _ => ate_f X i j k)
  refine g_aload_n m39_80 rfl ?_
  refine h_gfR (c := 40 + 9 * t) (k := 1 + 9 * t) (p := 33 + 9 * t) m39_81 (pT 1 _) (tT ht) rfl (le3 (Nat.le_of_ble_eq_true rfl)) ?_
  refine g_iload_n m39_84 rfl ?_
  refine g_aload_n m39_85 rfl ?_
  refine h_gfL (k := 1 + 9 * t) (p := 33 + 9 * t) m39_86 (pT 1 _) (tT ht) rfl ((hAu2.rd ht (j := 0) (i := 12) (by decide)).trans hy) ?_
  refine h_lawZ m39_89 (fun c3 => ?_) (fun c3 => ?_)
  · skip
    refine g_iconst m39_120 ?_
    refine h_bas (k := 8 + 9 * t) (p := 40 + 9 * t) (j := i) m39_121 (pT 8 _) (tA7 ht) (rfl) (by omega) (Nat.le_of_ble_eq_true rfl) (Or.inl rfl) ?_
    have hAu4 := hAu2.up ht (j := 7) (by decide) i (0 : Int32)
    refine g_vret m39_122 ?_
    have e : passF (lkF m0 ln x) (blF m0 ln y) false X i = upm (ateF false X i) 7 i 0 := by
      unfold passF goneF
      rw [if_pos (by unfold blF; rw [if_pos c3]; rfl)]
    exact hQ _ (by rw [e]; exact hAu4)
  · skip
    refine g_aload_n m39_92 rfl ?_
    refine g_aload_n m39_93 rfl ?_
    refine h_gfR (c := 37 + 9 * t) (k := 1 + 9 * t) (p := 33 + 9 * t) m39_94 (pT 1 _) (tT ht) rfl (le3 (Nat.le_of_ble_eq_true rfl)) ?_
    refine g_iload_n m39_97 rfl ?_
    refine h_ial (k := 5 + 9 * t) (p := 37 + 9 * t) (j := i) m39_98 (pT 5 _) (tA4 ht) (rfl) (by omega) (Nat.le_of_ble_eq_true rfl) (hAu2.rd ht (j := 4) (i := i) (by decide)) ?_
    refine g_aload_n m39_99 rfl ?_
    refine g_iload_n m39_100 rfl ?_
    refine h_cv (k := 1 + 9 * t) (p := 33 + 9 * t) (args := [.int (nI (i))]) (rest := [.int ((ateF false X i) 4 i), .ref (33 + 9 * t), .int (nI (i)), .ref (40 + 9 * t)]) m39_101 cn_34 (Nat.le_of_ble_eq_true rfl) rfl rfl (pT 1 _) (tT ht) (Nat.le_of_ble_eq_true rfl) ?_
    refine c_face ht hL hAu2 hx hix hi hk (fun m_15 hA_16 => ?_)
    refine gwr ?_
    refine g_aload_n m39_104 rfl ?_
    refine h_gfR (c := 39 + 9 * t) (k := 1 + 9 * t) (p := 33 + 9 * t) m39_105 (pT 1 _) (tT ht) rfl (le3 (Nat.le_of_ble_eq_true rfl)) ?_
    refine g_iload_n m39_108 rfl ?_
    refine h_ial (k := 7 + 9 * t) (p := 39 + 9 * t) (j := i) m39_109 (pT 7 _) (tA6 ht) (rfl) (by omega) (Nat.le_of_ble_eq_true rfl) (hA_16.rd ht (j := 6) (i := i) (by decide)) ?_
    refine h_cv (k := 1 + 9 * t) (p := 33 + 9 * t) (args := [.int ((ateF false X i) 4 i), .int (faceF (lkF m0 ln x) (ateF false X i) i), .int ((ateF false X i) 6 i)]) (rest := [.int (nI (i)), .ref (40 + 9 * t)]) m39_110 cn_33 (Nat.le_of_ble_eq_true rfl) rfl rfl (pT 1 _) (tT ht) (Nat.le_of_ble_eq_true rfl) ?_
    refine c_billBy ht hL hA_16 hy hiy (fun m_17 hA_18 => ?_)
    refine gwr ?_
    refine h_if_eq (xi := _) (zi := 0) m39_113 rfl rfl (fun c5 => ?_) (fun c5 => ?_)
    · skip
      refine g_iconst m39_120 ?_
      refine h_bas (k := 8 + 9 * t) (p := 40 + 9 * t) (j := i) m39_121 (pT 8 _) (tA7 ht) (rfl) (by omega) (Nat.le_of_ble_eq_true rfl) (Or.inl rfl) ?_
      have hAu6 := hA_18.up ht (j := 7) (by decide) i (0 : Int32)
      refine g_vret m39_122 ?_
      have e : passF (lkF m0 ln x) (blF m0 ln y) false X i = upm (ateF false X i) 7 i 0 := by
        unfold passF goneF
        rw [if_pos (by exact c5)]
      exact hQ _ (by rw [e]; exact hAu6)
    · skip
      refine g_iconst m39_116 ?_
      refine g_goto m39_117 ?_
      refine h_bas (k := 8 + 9 * t) (p := 40 + 9 * t) (j := i) m39_121 (pT 8 _) (tA7 ht) (rfl) (by omega) (Nat.le_of_ble_eq_true rfl) (Or.inr rfl) ?_
      have hAu7 := hA_18.up ht (j := 7) (by decide) i (1 : Int32)
      refine g_vret m39_122 ?_
      have e : passF (lkF m0 ln x) (blF m0 ln y) false X i = upm (ateF false X i) 7 i 1 := by
        unfold passF goneF
        rw [if_neg (by exact c5)]
      exact hQ _ (by rw [e]; exact hAu7)
end
