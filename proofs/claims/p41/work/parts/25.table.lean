section
/-! THE TABLES: faces, steps -/
section
variable {xs : List Int32} {d : Nat} {h : AH} {Q : QT} {m : MW} {ln : Nat → Nat} {N : Nat}
set_option maxRecDepth 20000 in
set_option maxHeartbeats 40000000 in
theorem c_looksBy {t : Nat} {m0 X : MW} {x a b c : Int32} (ht : t < 4) (hL : LawsOk m0 ln N) (hA : AtX m0 t X m) (hx : X 0 11 = x) (hix : LawIx N x) (hQ : ∀ m2, AtX m0 t X m2 → Q (some (.int (lkF m0 ln x a b c))) (H m2 ln N)) : WP xs (d + 2) 32 0 0 [.ref (33 + 9 * t), .int (a), .int (b), .int (c)] (H m ln N) Q := by
  refine wp_x mx_32 (L := [some (.ref (33 + 9 * t)), some (.int (a)), some (.int (b)), some (.int (c))]) (Nat.le_of_ble_eq_true rfl) rfl ?_
  refine g_aload_n m32_0 rfl ?_
  refine h_gfL (k := 1 + 9 * t) (p := 33 + 9 * t) m32_1 (pT 1 _) (tT ht) rfl ((hA.rd ht (j := 0) (i := 11) (by decide)).trans hx) ?_
  refine h_lawN m32_4 (fun c1 => ?_) (fun c1 => ?_)
  · skip
    refine g_iload_n m32_7 rfl ?_
    refine g_bipush m32_8 ?_
    refine g_iadd m32_10 rfl ?_
    refine g_iload_n m32_11 rfl ?_
    refine g_bipush m32_12 ?_
    refine g_idiv m32_14 (by decide) rfl ?_
    refine g_isub m32_15 rfl ?_
    refine g_goto m32_16 ?_
    refine g_bipush m32_29 ?_
    refine g_cs (args := [.int (((b + (9 : Int32)) - (a / (9 : Int32)))), .int (99)]) (rest := []) 1 (Or.inr rfl) m32_31 (Nat.le_of_ble_eq_true rfl) rfl rfl (Nat.le_of_ble_eq_true rfl) ?_
    refine c_held ?_
    refine gwr ?_
    refine g_iret m32_34 rt_32 ?_
    have e : lkF m0 ln x a b c = heldF (b + 9 - a / 9) 99 := by
      unfold lkF
      rw [if_pos c1]
    rw [e] at hQ
    exact hQ _ hA
  · skip
    refine g_aload_n m32_19 rfl ?_
    obtain ⟨i, hi, hxi⟩ : ∃ i, i < N ∧ x = nI (i + 1) := by
      rcases hix with q | q
      · contradiction
      · exact q
    obtain ⟨hl1, hl2, hl3⟩ := lawV_ix hxi (by have := hL.1; omega)
    have hL2 : LawsOk m ln N := ⟨hL.1, fun j hj => by rw [hA.cod ht]; exact hL.2 j hj⟩
    refine h_gfL (k := 1 + 9 * t) (p := 33 + 9 * t) m32_20 (pT 1 _) (tT ht) rfl ((hA.rd ht (j := 0) (i := 11) (by decide)).trans hx) ?_
    refine gwst (st' := .ref (101 + 3 * i) :: _) (congrArg (fun z => z :: _) hl1) ?_
    refine g_iload_n m32_23 rfl ?_
    refine g_iload_n m32_24 rfl ?_
    refine g_iload_n m32_25 rfl ?_
    refine h_cv (k := 69 + 3 * i) (p := 101 + 3 * i) (args := [.int (a), .int (b), .int (c)]) (rest := []) m32_26 cn_14 (Nat.le_of_ble_eq_true rfl) rfl rfl (pLo _) (tLo hi) (Nat.le_of_ble_eq_true rfl) ?_
    refine c_worth hi (hL2.2 i hi).1 (hL2.2 i hi).2 (fun m_1 hE_2 => ?_)
    have hA_3 := hA.eqm hE_2
    refine gwr ?_
    refine g_bipush m32_29 ?_
    refine g_cs (args := [.int (valL (codL m ln i) a b c), .int (99)]) (rest := []) 1 (Or.inr rfl) m32_31 (Nat.le_of_ble_eq_true rfl) rfl rfl (Nat.le_of_ble_eq_true rfl) ?_
    refine c_held ?_
    refine gwr ?_
    refine g_iret m32_34 rt_32 ?_
    have e : lkF m0 ln x a b c = heldF (valL (codL m ln i) a b c) 99 := by
      unfold lkF lval
      rw [if_neg c1, hl3, hA.cod ht]
    rw [e] at hQ
    exact hQ _ hA_3
set_option maxRecDepth 20000 in
set_option maxHeartbeats 40000000 in
theorem c_billBy {t : Nat} {m0 X : MW} {y a b c : Int32} (ht : t < 4) (hL : LawsOk m0 ln N) (hA : AtX m0 t X m) (hy : X 0 12 = y) (hiy : LawIx N y) (hQ : ∀ m2, AtX m0 t X m2 → Q (some (.int (blF m0 ln y a b c))) (H m2 ln N)) : WP xs (d + 2) 33 0 0 [.ref (33 + 9 * t), .int (a), .int (b), .int (c)] (H m ln N) Q := by
  refine wp_x mx_33 (L := [some (.ref (33 + 9 * t)), some (.int (a)), some (.int (b)), some (.int (c))]) (Nat.le_of_ble_eq_true rfl) rfl ?_
  refine g_aload_n m33_0 rfl ?_
  refine h_gfL (k := 1 + 9 * t) (p := 33 + 9 * t) m33_1 (pT 1 _) (tT ht) rfl ((hA.rd ht (j := 0) (i := 12) (by decide)).trans hy) ?_
  refine h_lawN m33_4 (fun c1 => ?_) (fun c1 => ?_)
  · skip
    refine g_iconst m33_7 ?_
    refine g_goto m33_8 ?_
    refine g_iret m33_25 rt_33 ?_
    have e : blF m0 ln y a b c = (0 : Int32) := by
      unfold blF
      rw [if_pos c1]
    rw [e] at hQ
    exact hQ _ hA
  · skip
    refine g_aload_n m33_11 rfl ?_
    obtain ⟨i, hi, hxi⟩ : ∃ i, i < N ∧ y = nI (i + 1) := by
      rcases hiy with q | q
      · contradiction
      · exact q
    obtain ⟨hl1, hl2, hl3⟩ := lawV_ix hxi (by have := hL.1; omega)
    have hL2 : LawsOk m ln N := ⟨hL.1, fun j hj => by rw [hA.cod ht]; exact hL.2 j hj⟩
    refine h_gfL (k := 1 + 9 * t) (p := 33 + 9 * t) m33_12 (pT 1 _) (tT ht) rfl ((hA.rd ht (j := 0) (i := 12) (by decide)).trans hy) ?_
    refine gwst (st' := .ref (101 + 3 * i) :: _) (congrArg (fun z => z :: _) hl1) ?_
    refine g_iload_n m33_15 rfl ?_
    refine g_iload_n m33_16 rfl ?_
    refine g_iload_n m33_17 rfl ?_
    refine h_cv (k := 69 + 3 * i) (p := 101 + 3 * i) (args := [.int (a), .int (b), .int (c)]) (rest := []) m33_18 cn_14 (Nat.le_of_ble_eq_true rfl) rfl rfl (pLo _) (tLo hi) (Nat.le_of_ble_eq_true rfl) ?_
    refine c_worth hi (hL2.2 i hi).1 (hL2.2 i hi).2 (fun m_4 hE_5 => ?_)
    have hA_6 := hA.eqm hE_5
    refine gwr ?_
    refine g_iconst m33_21 ?_
    refine g_cs (args := [.int (valL (codL m ln i) a b c), .int (1)]) (rest := []) 1 (Or.inr rfl) m33_22 (Nat.le_of_ble_eq_true rfl) rfl rfl (Nat.le_of_ble_eq_true rfl) ?_
    refine c_held ?_
    refine gwr ?_
    refine g_iret m33_25 rt_33 ?_
    have e : blF m0 ln y a b c = heldF (valL (codL m ln i) a b c) 1 := by
      unfold blF lval
      rw [if_neg c1, hl3, hA.cod ht]
    rw [e] at hQ
    exact hQ _ hA_6
set_option maxRecDepth 20000 in
set_option maxHeartbeats 40000000 in
theorem c_face {t i : Nat} {m0 X : MW} {x : Int32} (ht : t < 4) (hL : LawsOk m0 ln N) (hA : AtX m0 t X m) (hx : X 0 11 = x) (hix : LawIx N x) (hi : i < 8) (hk : leI (X 2 i) 6) (hQ : ∀ m2, AtX m0 t X m2 → Q (some (.int (faceF (lkF m0 ln x) X i))) (H m2 ln N)) : WP xs (d + 3) 34 0 0 [.ref (33 + 9 * t), .int (nI (i))] (H m ln N) Q := by
  refine wp_x mx_34 (L := [some (.ref (33 + 9 * t)), some (.int (nI (i))), none]) (Nat.le_of_ble_eq_true rfl) rfl ?_
  obtain ⟨kd, hkd, hke⟩ := hk
  refine g_aload_n m34_0 rfl ?_
  refine g_aload_n m34_1 rfl ?_
  refine h_gfR (c := 37 + 9 * t) (k := 1 + 9 * t) (p := 33 + 9 * t) m34_2 (pT 1 _) (tT ht) rfl (le3 (Nat.le_of_ble_eq_true rfl)) ?_
  refine g_iload_n m34_5 rfl ?_
  refine h_ial (k := 5 + 9 * t) (p := 37 + 9 * t) (j := i) m34_6 (pT 5 _) (tA4 ht) (rfl) (by omega) (Nat.le_of_ble_eq_true rfl) (hA.rd ht (j := 4) (i := i) (by decide)) ?_
  refine g_aload_n m34_7 rfl ?_
  refine h_gfR (c := 39 + 9 * t) (k := 1 + 9 * t) (p := 33 + 9 * t) m34_8 (pT 1 _) (tT ht) rfl (le3 (Nat.le_of_ble_eq_true rfl)) ?_
  refine g_iload_n m34_11 rfl ?_
  refine h_ial (k := 7 + 9 * t) (p := 39 + 9 * t) (j := i) m34_12 (pT 7 _) (tA6 ht) (rfl) (by omega) (Nat.le_of_ble_eq_true rfl) (hA.rd ht (j := 6) (i := i) (by decide)) ?_
  refine g_aload_n m34_13 rfl ?_
  refine h_gfI (k := 1 + 9 * t) (p := 33 + 9 * t) m34_14 (pT 1 _) (tT ht) rfl (hA.rd ht (j := 0) (i := 9) (by decide)) ?_
  refine g_bipush m34_17 ?_
  refine g_irem m34_19 (by decide) rfl ?_
  refine h_cv (k := 1 + 9 * t) (p := 33 + 9 * t) (args := [.int (X 4 i), .int (X 6 i), .int _]) (rest := []) m34_20 cn_32 (Nat.le_of_ble_eq_true rfl) rfl rfl (pT 1 _) (tT ht) (Nat.le_of_ble_eq_true rfl) ?_
  refine c_looksBy ht hL hA hx hix (fun m_7 hA_8 => ?_)
  refine gwr ?_
  refine g_istore_n (L2 := [some (.ref (33 + 9 * t)), some (.int (nI (i))), some (.int (lkF m0 ln x (X 4 i) (X 6 i) _))]) m34_23 rfl rfl ?_
  refine g_aload_n m34_24 rfl ?_
  refine h_gfR (c := 35 + 9 * t) (k := 1 + 9 * t) (p := 33 + 9 * t) m34_25 (pT 1 _) (tT ht) rfl (le3 (Nat.le_of_ble_eq_true rfl)) ?_
  refine g_iload_n m34_28 rfl ?_
  refine h_ial (k := 3 + 9 * t) (p := 35 + 9 * t) (j := i) m34_29 (pT 3 _) (tA2 ht) (rfl) (by omega) (Nat.le_of_ble_eq_true rfl) ((hA_8.rd ht (j := 2) (i := i) (by decide)).trans (hke)) ?_
  rcases (show kd = 0 ∨ kd = 1 ∨ kd = 2 ∨ kd = 3 ∨ kd = 4 ∨ kd = 5 ∨ kd = 6 by omega) with rfl | rfl | rfl | rfl | rfl | rfl | rfl
  · skip
    refine gs m34_30 ?_
    refine gwpc (pc' := 179) rfl ?_
    refine g_iload_n m34_179 rfl ?_
    refine g_aload_n m34_180 rfl ?_
    refine h_gfR (c := 38 + 9 * t) (k := 1 + 9 * t) (p := 33 + 9 * t) m34_181 (pT 1 _) (tT ht) rfl (le3 (Nat.le_of_ble_eq_true rfl)) ?_
    refine g_iload_n m34_184 rfl ?_
    refine h_ial (k := 6 + 9 * t) (p := 38 + 9 * t) (j := i) m34_185 (pT 6 _) (tA5 ht) (rfl) (by omega) (Nat.le_of_ble_eq_true rfl) (hA_8.rd ht (j := 5) (i := i) (by decide)) ?_
    refine g_iadd m34_186 rfl ?_
    refine g_iret m34_187 rt_34 ?_
    rw [show faceF (lkF m0 ln x) X i = _ from fk_0 hke] at hQ
    exact hQ _ hA_8
  · skip
    refine gs m34_30 ?_
    refine gwpc (pc' := 68) rfl ?_
    refine g_iload_n m34_68 rfl ?_
    refine g_aload_n m34_69 rfl ?_
    refine h_gfR (c := 38 + 9 * t) (k := 1 + 9 * t) (p := 33 + 9 * t) m34_70 (pT 1 _) (tT ht) rfl (le3 (Nat.le_of_ble_eq_true rfl)) ?_
    refine g_iload_n m34_73 rfl ?_
    refine h_ial (k := 6 + 9 * t) (p := 38 + 9 * t) (j := i) m34_74 (pT 6 _) (tA5 ht) (rfl) (by omega) (Nat.le_of_ble_eq_true rfl) (hA_8.rd ht (j := 5) (i := i) (by decide)) ?_
    refine g_iadd m34_75 rfl ?_
    refine g_aload_n m34_76 rfl ?_
    refine h_gfR (c := 36 + 9 * t) (k := 1 + 9 * t) (p := 33 + 9 * t) m34_77 (pT 1 _) (tT ht) rfl (le3 (Nat.le_of_ble_eq_true rfl)) ?_
    refine g_iload_n m34_80 rfl ?_
    refine h_ial (k := 4 + 9 * t) (p := 36 + 9 * t) (j := i) m34_81 (pT 4 _) (tA3 ht) (rfl) (by omega) (Nat.le_of_ble_eq_true rfl) (hA_8.rd ht (j := 3) (i := i) (by decide)) ?_
    refine g_iadd m34_82 rfl ?_
    refine g_iret m34_83 rt_34 ?_
    rw [show faceF (lkF m0 ln x) X i = _ from fk_1 hke] at hQ
    exact hQ _ hA_8
  · skip
    refine gs m34_30 ?_
    refine gwpc (pc' := 84) rfl ?_
    refine g_iload_n m34_84 rfl ?_
    refine g_iconst m34_85 ?_
    refine g_idiv m34_86 (by decide) rfl ?_
    refine g_aload_n m34_87 rfl ?_
    refine h_gfR (c := 38 + 9 * t) (k := 1 + 9 * t) (p := 33 + 9 * t) m34_88 (pT 1 _) (tT ht) rfl (le3 (Nat.le_of_ble_eq_true rfl)) ?_
    refine g_iload_n m34_91 rfl ?_
    refine h_ial (k := 6 + 9 * t) (p := 38 + 9 * t) (j := i) m34_92 (pT 6 _) (tA5 ht) (rfl) (by omega) (Nat.le_of_ble_eq_true rfl) (hA_8.rd ht (j := 5) (i := i) (by decide)) ?_
    refine g_iadd m34_93 rfl ?_
    refine g_iret m34_94 rt_34 ?_
    rw [show faceF (lkF m0 ln x) X i = _ from fk_2 hke] at hQ
    exact hQ _ hA_8
  · skip
    refine gs m34_30 ?_
    refine gwpc (pc' := 95) rfl ?_
    refine g_iload_n m34_95 rfl ?_
    refine g_aload_n m34_96 rfl ?_
    refine h_gfR (c := 38 + 9 * t) (k := 1 + 9 * t) (p := 33 + 9 * t) m34_97 (pT 1 _) (tT ht) rfl (le3 (Nat.le_of_ble_eq_true rfl)) ?_
    refine g_iload_n m34_100 rfl ?_
    refine h_ial (k := 6 + 9 * t) (p := 38 + 9 * t) (j := i) m34_101 (pT 6 _) (tA5 ht) (rfl) (by omega) (Nat.le_of_ble_eq_true rfl) (hA_8.rd ht (j := 5) (i := i) (by decide)) ?_
    refine g_iadd m34_102 rfl ?_
    refine g_aload_n m34_103 rfl ?_
    refine h_gfR (c := 37 + 9 * t) (k := 1 + 9 * t) (p := 33 + 9 * t) m34_104 (pT 1 _) (tT ht) rfl (le3 (Nat.le_of_ble_eq_true rfl)) ?_
    refine g_iload_n m34_107 rfl ?_
    refine h_ial (k := 5 + 9 * t) (p := 37 + 9 * t) (j := i) m34_108 (pT 5 _) (tA4 ht) (rfl) (by omega) (Nat.le_of_ble_eq_true rfl) (hA_8.rd ht (j := 4) (i := i) (by decide)) ?_
    refine g_iconst m34_109 ?_
    refine g_idiv m34_110 (by decide) rfl ?_
    refine g_isub m34_111 rfl ?_
    refine g_iret m34_112 rt_34 ?_
    rw [show faceF (lkF m0 ln x) X i = _ from fk_3 hke] at hQ
    exact hQ _ hA_8
  · skip
    refine gs m34_30 ?_
    refine gwpc (pc' := 113) rfl ?_
    refine g_iload_n m34_113 rfl ?_
    refine g_aload_n m34_114 rfl ?_
    refine h_gfR (c := 38 + 9 * t) (k := 1 + 9 * t) (p := 33 + 9 * t) m34_115 (pT 1 _) (tT ht) rfl (le3 (Nat.le_of_ble_eq_true rfl)) ?_
    refine g_iload_n m34_118 rfl ?_
    refine h_ial (k := 6 + 9 * t) (p := 38 + 9 * t) (j := i) m34_119 (pT 6 _) (tA5 ht) (rfl) (by omega) (Nat.le_of_ble_eq_true rfl) (hA_8.rd ht (j := 5) (i := i) (by decide)) ?_
    refine g_iadd m34_120 rfl ?_
    refine g_aload_n m34_121 rfl ?_
    refine h_gfR (c := 36 + 9 * t) (k := 1 + 9 * t) (p := 33 + 9 * t) m34_122 (pT 1 _) (tT ht) rfl (le3 (Nat.le_of_ble_eq_true rfl)) ?_
    refine g_iload_n m34_125 rfl ?_
    refine h_ial (k := 4 + 9 * t) (p := 36 + 9 * t) (j := i) m34_126 (pT 4 _) (tA3 ht) (rfl) (by omega) (Nat.le_of_ble_eq_true rfl) (hA_8.rd ht (j := 3) (i := i) (by decide)) ?_
    refine g_iadd m34_127 rfl ?_
    refine g_bipush m34_128 ?_
    refine g_isub m34_130 rfl ?_
    refine g_iret m34_131 rt_34 ?_
    rw [show faceF (lkF m0 ln x) X i = _ from fk_4 hke] at hQ
    exact hQ _ hA_8
  · skip
    refine gs m34_30 ?_
    refine gwpc (pc' := 132) rfl ?_
    refine g_iload_n m34_132 rfl ?_
    refine g_iconst m34_133 ?_
    refine g_idiv m34_134 (by decide) rfl ?_
    refine g_aload_n m34_135 rfl ?_
    refine h_gfR (c := 38 + 9 * t) (k := 1 + 9 * t) (p := 33 + 9 * t) m34_136 (pT 1 _) (tT ht) rfl (le3 (Nat.le_of_ble_eq_true rfl)) ?_
    refine g_iload_n m34_139 rfl ?_
    refine h_ial (k := 6 + 9 * t) (p := 38 + 9 * t) (j := i) m34_140 (pT 6 _) (tA5 ht) (rfl) (by omega) (Nat.le_of_ble_eq_true rfl) (hA_8.rd ht (j := 5) (i := i) (by decide)) ?_
    refine g_iadd m34_141 rfl ?_
    refine g_aload_n m34_142 rfl ?_
    refine h_gfR (c := 39 + 9 * t) (k := 1 + 9 * t) (p := 33 + 9 * t) m34_143 (pT 1 _) (tT ht) rfl (le3 (Nat.le_of_ble_eq_true rfl)) ?_
    refine g_iload_n m34_146 rfl ?_
    refine h_ial (k := 7 + 9 * t) (p := 39 + 9 * t) (j := i) m34_147 (pT 7 _) (tA6 ht) (rfl) (by omega) (Nat.le_of_ble_eq_true rfl) (hA_8.rd ht (j := 6) (i := i) (by decide)) ?_
    refine h_if_le (xi := _) (zi := 0) m34_148 rfl rfl (fun c5 => ?_) (fun c5 => ?_)
    · skip
      refine g_iconst m34_156 ?_
      refine g_iadd m34_157 rfl ?_
      refine g_iret m34_158 rt_34 ?_
      have e : faceF (lkF m0 ln x) X i = _ := (fk_5 hke).trans (by rw [if_neg (by omega)])
      rw [e] at hQ
      exact hQ _ hA_8
    · skip
      refine g_bipush m34_151 ?_
      refine g_goto m34_153 ?_
      refine g_iadd m34_157 rfl ?_
      refine g_iret m34_158 rt_34 ?_
      have e : faceF (lkF m0 ln x) X i = _ := (fk_5 hke).trans (by rw [if_pos (by omega)])
      rw [e] at hQ
      exact hQ _ hA_8
  · skip
    refine gs m34_30 ?_
    refine gwpc (pc' := 159) rfl ?_
    refine g_iload_n m34_159 rfl ?_
    refine g_iconst m34_160 ?_
    refine g_aload_n m34_161 rfl ?_
    refine h_gfR (c := 38 + 9 * t) (k := 1 + 9 * t) (p := 33 + 9 * t) m34_162 (pT 1 _) (tT ht) rfl (le3 (Nat.le_of_ble_eq_true rfl)) ?_
    refine g_iload_n m34_165 rfl ?_
    refine h_ial (k := 6 + 9 * t) (p := 38 + 9 * t) (j := i) m34_166 (pT 6 _) (tA5 ht) (rfl) (by omega) (Nat.le_of_ble_eq_true rfl) (hA_8.rd ht (j := 5) (i := i) (by decide)) ?_
    refine g_imul m34_167 rfl ?_
    refine g_iadd m34_168 rfl ?_
    refine g_aload_n m34_169 rfl ?_
    refine h_gfR (c := 37 + 9 * t) (k := 1 + 9 * t) (p := 33 + 9 * t) m34_170 (pT 1 _) (tT ht) rfl (le3 (Nat.le_of_ble_eq_true rfl)) ?_
    refine g_iload_n m34_173 rfl ?_
    refine h_ial (k := 5 + 9 * t) (p := 37 + 9 * t) (j := i) m34_174 (pT 5 _) (tA4 ht) (rfl) (by omega) (Nat.le_of_ble_eq_true rfl) (hA_8.rd ht (j := 4) (i := i) (by decide)) ?_
    refine g_iconst m34_175 ?_
    refine g_idiv m34_176 (by decide) rfl ?_
    refine g_isub m34_177 rfl ?_
    refine g_iret m34_178 rt_34 ?_
    rw [show faceF (lkF m0 ln x) X i = _ from fk_6 hke] at hQ
    exact hQ _ hA_8
set_option maxRecDepth 20000 in
set_option maxHeartbeats 40000000 in
theorem c_grows {t i : Nat} {m0 X : MW} (ht : t < 4) (hA : AtX m0 t X m) (hi : i < 8) (hk : leI (X 2 i) 6) (hQ : Q (some (.int (growsF X i))) (H m ln N)) : WP xs (d + 1) 35 0 0 [.ref (33 + 9 * t), .int (nI (i))] (H m ln N) Q := by
  refine wp_x mx_35 (L := [some (.ref (33 + 9 * t)), some (.int (nI (i)))]) (Nat.le_of_ble_eq_true rfl) rfl ?_
  obtain ⟨kd, hkd, hke⟩ := hk
  refine g_aload_n m35_0 rfl ?_
  refine h_gfR (c := 35 + 9 * t) (k := 1 + 9 * t) (p := 33 + 9 * t) m35_1 (pT 1 _) (tT ht) rfl (le3 (Nat.le_of_ble_eq_true rfl)) ?_
  refine g_iload_n m35_4 rfl ?_
  refine h_ial (k := 3 + 9 * t) (p := 35 + 9 * t) (j := i) m35_5 (pT 3 _) (tA2 ht) (rfl) (by omega) (Nat.le_of_ble_eq_true rfl) ((hA.rd ht (j := 2) (i := i) (by decide)).trans (hke)) ?_
  rcases (show kd = 0 ∨ kd = 1 ∨ kd = 2 ∨ kd = 3 ∨ kd = 4 ∨ kd = 5 ∨ kd = 6 by omega) with rfl | rfl | rfl | rfl | rfl | rfl | rfl
  · skip
    refine gs m35_6 ?_
    refine gwpc (pc' := 59) rfl ?_
    refine g_iconst m35_59 ?_
    refine g_iret m35_60 rt_35 ?_
    rw [show growsF X i = _ from gk hke (by decide)] at hQ
    exact hQ
  · skip
    refine gs m35_6 ?_
    refine gwpc (pc' := 44) rfl ?_
    refine g_iconst m35_44 ?_
    refine g_iret m35_45 rt_35 ?_
    rw [show growsF X i = _ from gk hke (by decide)] at hQ
    exact hQ
  · skip
    refine gs m35_6 ?_
    refine gwpc (pc' := 46) rfl ?_
    refine g_iconst m35_46 ?_
    refine g_iret m35_47 rt_35 ?_
    rw [show growsF X i = _ from gk hke (by decide)] at hQ
    exact hQ
  · skip
    refine gs m35_6 ?_
    refine gwpc (pc' := 48) rfl ?_
    refine g_iconst m35_48 ?_
    refine g_aload_n m35_49 rfl ?_
    refine h_gfR (c := 36 + 9 * t) (k := 1 + 9 * t) (p := 33 + 9 * t) m35_50 (pT 1 _) (tT ht) rfl (le3 (Nat.le_of_ble_eq_true rfl)) ?_
    refine g_iload_n m35_53 rfl ?_
    refine h_ial (k := 4 + 9 * t) (p := 36 + 9 * t) (j := i) m35_54 (pT 4 _) (tA3 ht) (rfl) (by omega) (Nat.le_of_ble_eq_true rfl) (hA.rd ht (j := 3) (i := i) (by decide)) ?_
    refine g_iconst m35_55 ?_
    refine g_irem m35_56 (by decide) rfl ?_
    refine g_iadd m35_57 rfl ?_
    refine g_iret m35_58 rt_35 ?_
    rw [show growsF X i = _ from gk hke (by decide)] at hQ
    exact hQ
  · skip
    refine gs m35_6 ?_
    refine gwpc (pc' := 44) rfl ?_
    refine g_iconst m35_44 ?_
    refine g_iret m35_45 rt_35 ?_
    rw [show growsF X i = _ from gk hke (by decide)] at hQ
    exact hQ
  · skip
    refine gs m35_6 ?_
    refine gwpc (pc' := 46) rfl ?_
    refine g_iconst m35_46 ?_
    refine g_iret m35_47 rt_35 ?_
    rw [show growsF X i = _ from gk hke (by decide)] at hQ
    exact hQ
  · skip
    refine gs m35_6 ?_
    refine gwpc (pc' := 48) rfl ?_
    refine g_iconst m35_48 ?_
    refine g_aload_n m35_49 rfl ?_
    refine h_gfR (c := 36 + 9 * t) (k := 1 + 9 * t) (p := 33 + 9 * t) m35_50 (pT 1 _) (tT ht) rfl (le3 (Nat.le_of_ble_eq_true rfl)) ?_
    refine g_iload_n m35_53 rfl ?_
    refine h_ial (k := 4 + 9 * t) (p := 36 + 9 * t) (j := i) m35_54 (pT 4 _) (tA3 ht) (rfl) (by omega) (Nat.le_of_ble_eq_true rfl) (hA.rd ht (j := 3) (i := i) (by decide)) ?_
    refine g_iconst m35_55 ?_
    refine g_irem m35_56 (by decide) rfl ?_
    refine g_iadd m35_57 rfl ?_
    refine g_iret m35_58 rt_35 ?_
    rw [show growsF X i = _ from gk hke (by decide)] at hQ
    exact hQ
def facesX (F : Nat → Int32) (X : MW) (n : Nat) : MW := fun j k => if j = 8 ∧ k < n then F k else X j k
theorem facesX_0 (F : Nat → Int32) (X : MW) : facesX F X 0 = X := by
  funext j k
  unfold facesX
  rw [if_neg (by omega)]
theorem facesX_s (F : Nat → Int32) (X : MW) (n : Nat) : facesX F X (n + 1) = upm (facesX F X n) 8 n (F n) := by
  funext j k
  unfold facesX upm
  by_cases h : j = 8
  · subst h
    by_cases h2 : k = n
    · subst h2
      simp
    · by_cases h3 : k < n
      · have h4 : k < n + 1 := by omega
        simp [h2, h3, h4]
      · have h4 : ¬ k < n + 1 := by omega
        simp [h2, h3, h4]
  · simp [h]
theorem facesX_8 (F : Nat → Int32) (X : MW) (n : Nat) : Eq8 X (facesX F X n) := by
  intro j hj i
  unfold facesX
  rw [if_neg (by omega)]
theorem faceF_8 {LK : LF} {X Y : MW} (h : Eq8 X Y) (i : Nat) : faceF LK Y i = faceF LK X i := faceF_c (fun j h1 h2 => h j (by omega) i) (h 0 (by decide) 9)
set_option maxRecDepth 20000 in
set_option maxHeartbeats 40000000 in
theorem c_seeFaces {t : Nat} {m0 X : MW} {x : Int32} (ht : t < 4) (hL : LawsOk m0 ln N) (hA : AtX m0 t X m) (hx : X 0 11 = x) (hix : LawIx N x) (hW : WF X) (hQ : ∀ m2, AtX m0 t (facesX (faceF (lkF m0 ln x) X) X (nOf X)) m2 → Q none (H m2 ln N)) : WP xs (d + 4) 36 0 0 [.ref (33 + 9 * t)] (H m ln N) Q := by
  refine wp_x mx_36 (L := [some (.ref (33 + 9 * t)), none]) (Nat.le_of_ble_eq_true rfl) rfl ?_
  obtain ⟨n, hn, hd⟩ := hW.1
  have hnn : nOf X = n := by unfold nOf; rw [hd]; exact nI_clamp (by omega)
  rw [hnn] at hQ
  have key : ∀ (r : Nat) (q : Nat) (m2 : MW), q + r = n → AtX m0 t (facesX (faceF (lkF m0 ln x) X) X q) m2 → gw xs (WP xs (d + 3)) 36 Q 2 [some (.ref (33 + 9 * t)), some (.int (nI (q)))] [] (H m2 ln N) 0 0 := by
    intro r
    induction r with
    | zero =>
      intro q m2 hq hA2
      obtain rfl : q = n := by omega
      refine g_iload_n m36_2 rfl ?_
      refine g_aload_n m36_3 rfl ?_
      refine h_gfI (k := 1 + 9 * t) (p := 33 + 9 * t) m36_4 (pT 1 _) (tT ht) rfl ((hA2.rd ht (j := 0) (i := 10) (by decide)).trans (hd)) ?_
      refine h_ic_geT (xi := ((q : Nat) : Int)) (zi := ((q : Nat) : Int)) m36_7 (nI_toInt (by omega)) (nI_toInt (by omega)) (by omega) ?_
      refine g_vret m36_27 ?_
      exact hQ _ hA2
    | succ r ih =>
      intro q m2 hq hA2
      have hE8 := facesX_8 (faceF (lkF m0 ln x) X) X q
      refine g_iload_n m36_2 rfl ?_
      refine g_aload_n m36_3 rfl ?_
      refine h_gfI (k := 1 + 9 * t) (p := 33 + 9 * t) m36_4 (pT 1 _) (tT ht) rfl ((hA2.rd ht (j := 0) (i := 10) (by decide)).trans (hd)) ?_
      refine h_ic_geF (xi := ((q : Nat) : Int)) (zi := ((n : Nat) : Int)) m36_7 (nI_toInt (by omega)) (nI_toInt (by omega)) (by omega) ?_
      refine g_aload_n m36_10 rfl ?_
      refine h_gfR (c := 41 + 9 * t) (k := 1 + 9 * t) (p := 33 + 9 * t) m36_11 (pT 1 _) (tT ht) rfl (le3 (Nat.le_of_ble_eq_true rfl)) ?_
      refine g_iload_n m36_14 rfl ?_
      refine g_aload_n m36_15 rfl ?_
      refine g_iload_n m36_16 rfl ?_
      refine h_cv (k := 1 + 9 * t) (p := 33 + 9 * t) (args := [.int (nI (q))]) (rest := [.int (nI (q)), .ref (41 + 9 * t)]) m36_17 cn_34 (Nat.le_of_ble_eq_true rfl) rfl rfl (pT 1 _) (tT ht) (Nat.le_of_ble_eq_true rfl) ?_
      refine c_face ht hL hA2 ((hE8 0 (by decide) 11).trans hx) hix (by omega) (by rw [hE8 2 (by decide)]; exact (hW.2.2 q (by omega)).2.1) (fun m_9 hA_10 => ?_)
      rw [faceF_8 hE8]
      refine gwr ?_
      refine h_ias (k := 9 + 9 * t) (p := 41 + 9 * t) (j := q) m36_20 (pT 9 _) (tA8 ht) (rfl) (by omega) (Nat.le_of_ble_eq_true rfl) ?_
      have hAu1 := hA_10.up ht (j := 8) (by decide) q (faceF (lkF m0 ln x) X q)
      refine g_iinc (L2 := [some (.ref (33 + 9 * t)), some (.int (nI (q + 1)))]) m36_21 rfl (nI_1 _) rfl rfl ?_
      refine g_goto m36_24 ?_
      exact ih (q + 1) _ (by omega) (by rw [facesX_s]; exact hAu1)
  refine g_iconst m36_0 ?_
  refine g_istore_n (L2 := [some (.ref (33 + 9 * t)), some (.int (0))]) m36_1 rfl rfl ?_
  exact key n 0 m (by omega) (by rw [facesX_0]; exact hA)
theorem cntF_le (p : Nat → Bool) : ∀ n, cntF p n ≤ n
  | 0 => Nat.le_refl 0
  | n + 1 => by
    have h := cntF_le p n
    show cntF p n + (if p n = true then 1 else 0) ≤ n + 1
    split <;> omega
theorem cnt_y {p : Nat → Bool} {q : Nat} (h : p q = true) : cntF p (q + 1) = cntF p q + 1 := by
  show cntF p q + (if p q = true then 1 else 0) = _
  rw [if_pos h]
theorem cnt_n {p : Nat → Bool} {q : Nat} (h : ¬ p q = true) : cntF p (q + 1) = cntF p q := by
  show cntF p q + (if p q = true then 1 else 0) = _
  rw [if_neg h, Nat.add_zero]
theorem bits_y {p : Nat → Bool} {q : Nat} (h : p q = true) : bitsF p (q + 1) = bitsF p q + 2 ^ q := by
  show bitsF p q + (if p q = true then 2 ^ q else 0) = _
  rw [if_pos h]
theorem bits_n {p : Nat → Bool} {q : Nat} (h : ¬ p q = true) : bitsF p (q + 1) = bitsF p q := by
  show bitsF p q + (if p q = true then 2 ^ q else 0) = _
  rw [if_neg h, Nat.add_zero]
theorem bitsF_lt (p : Nat → Bool) : ∀ n, bitsF p n < 2 ^ n
  | 0 => by show 0 < 2 ^ 0; decide
  | n + 1 => by
    have h := bitsF_lt p n
    show bitsF p n + (if p n = true then 2 ^ n else 0) < 2 ^ (n + 1)
    rw [Nat.pow_succ]
    split <;> omega
theorem bitsF_t (p : Nat → Bool) : ∀ n i, i < n → (bitsF p n).testBit i = p i
  | 0, i, h => absurd h (Nat.not_lt_zero i)
  | n + 1, i, h => by
    have hl := bitsF_lt p n
    show (bitsF p n + (if p n = true then 2 ^ n else 0)).testBit i = p i
    by_cases hi : i = n
    · subst hi
      by_cases hp : p i = true
      · rw [if_pos hp, Nat.add_comm, Nat.testBit_two_pow_add_eq, Nat.testBit_lt_two_pow hl, hp]
        rfl
      · rw [if_neg hp, Nat.add_zero, Nat.testBit_lt_two_pow hl]
        simpa using hp
    · have h2 : i < n := by omega
      by_cases hp : p n = true
      · rw [if_pos hp, Nat.add_comm, Nat.testBit_two_pow_add_gt h2, bitsF_t p n i h2]
      · rw [if_neg hp, Nat.add_zero, bitsF_t p n i h2]
theorem bit_or : ∀ q, q < 8 → ∀ a, a < 2 ^ q → (nI a ||| ((1 : Int32) <<< (nI q &&& 31)) = nI (a + 2 ^ q)) := by decide +kernel
set_option maxRecDepth 20000 in
set_option maxHeartbeats 40000000 in
theorem c_aheadOf {t i n : Nat} {m0 X : MW} (ht : t < 4) (hA : AtX m0 t X m) (hi : i < 8) (hn : n ≤ 8) (hd : X 0 10 = nI n) (hQ : Q (some (.int (nI (aheadF (X 8) (X 7) n i)))) (H m ln N)) : WP xs (d + 1) 37 0 0 [.ref (33 + 9 * t), .int (nI (i))] (H m ln N) Q := by
  refine wp_x mx_37 (L := [some (.ref (33 + 9 * t)), some (.int (nI (i))), none, none, none]) (Nat.le_of_ble_eq_true rfl) rfl ?_
  have hb : ∀ q, cntF (isAhead (X 8) (X 7) i) q ≤ q := cntF_le _
  have key : ∀ (r : Nat) (q : Nat) (o4 : Option Value), q + r = n → gw xs (WP xs (d)) 37 Q 4 [some (.ref (33 + 9 * t)), some (.int (nI (i))), some (.int (nI (cntF (isAhead (X 8) (X 7) i) q))), some (.int (nI (q))), o4] [] (H m ln N) 0 0 := by
    intro r
    induction r with
    | zero =>
      intro q o4 hq
      obtain rfl : q = n := by omega
      refine g_iload_n m37_4 rfl ?_
      refine g_aload_n m37_5 rfl ?_
      refine h_gfI (k := 1 + 9 * t) (p := 33 + 9 * t) m37_6 (pT 1 _) (tT ht) rfl ((hA.rd ht (j := 0) (i := 10) (by decide)).trans (hd)) ?_
      refine h_ic_geT (xi := ((q : Nat) : Int)) (zi := ((q : Nat) : Int)) m37_9 (nI_toInt (by omega)) (nI_toInt (by omega)) (by omega) ?_
      refine g_iload_n m37_77 rfl ?_
      refine g_iret m37_78 rt_37 ?_
      exact hQ
    | succ r ih =>
      intro q o4 hq
      refine g_iload_n m37_4 rfl ?_
      refine g_aload_n m37_5 rfl ?_
      refine h_gfI (k := 1 + 9 * t) (p := 33 + 9 * t) m37_6 (pT 1 _) (tT ht) rfl ((hA.rd ht (j := 0) (i := 10) (by decide)).trans (hd)) ?_
      refine h_ic_geF (xi := ((q : Nat) : Int)) (zi := ((n : Nat) : Int)) m37_9 (nI_toInt (by omega)) (nI_toInt (by omega)) (by omega) ?_
      refine g_aload_n m37_12 rfl ?_
      refine h_gfR (c := 41 + 9 * t) (k := 1 + 9 * t) (p := 33 + 9 * t) m37_13 (pT 1 _) (tT ht) rfl (le3 (Nat.le_of_ble_eq_true rfl)) ?_
      refine g_iload_n m37_16 rfl ?_
      refine h_ial (k := 9 + 9 * t) (p := 41 + 9 * t) (j := q) m37_17 (pT 9 _) (tA8 ht) (rfl) (by omega) (Nat.le_of_ble_eq_true rfl) (hA.rd ht (j := 8) (i := q) (by decide)) ?_
      refine g_aload_n m37_18 rfl ?_
      refine h_gfR (c := 41 + 9 * t) (k := 1 + 9 * t) (p := 33 + 9 * t) m37_19 (pT 1 _) (tT ht) rfl (le3 (Nat.le_of_ble_eq_true rfl)) ?_
      refine g_iload_n m37_22 rfl ?_
      refine h_ial (k := 9 + 9 * t) (p := 41 + 9 * t) (j := i) m37_23 (pT 9 _) (tA8 ht) (rfl) (by omega) (Nat.le_of_ble_eq_true rfl) (hA.rd ht (j := 8) (i := i) (by decide)) ?_
      refine h_ic_gt (xi := _) (zi := _) m37_24 rfl rfl (fun c1 => ?_) (fun c1 => ?_)
      · skip
        refine g_iconst m37_47 ?_
        refine g_goto m37_48 ?_
        refine g_istore (L2 := [some (.ref (33 + 9 * t)), some (.int (nI (i))), some (.int (nI (cntF (isAhead (X 8) (X 7) i) q))), some (.int (nI (q))), some (.int (1))]) m37_52 rfl rfl ?_
        refine g_iload m37_54 rfl ?_
        refine h_if_eqF (xi := 1) (zi := 0) m37_56 rfl rfl (by decide) ?_
        refine g_aload_n m37_59 rfl ?_
        refine h_gfR (c := 40 + 9 * t) (k := 1 + 9 * t) (p := 33 + 9 * t) m37_60 (pT 1 _) (tT ht) rfl (le3 (Nat.le_of_ble_eq_true rfl)) ?_
        refine g_iload_n m37_63 rfl ?_
        refine h_bal (k := 8 + 9 * t) (p := 40 + 9 * t) (j := q) m37_64 (pT 8 _) (tA7 ht) (rfl) (by omega) (Nat.le_of_ble_eq_true rfl) (hA.rd ht (j := 7) (i := q) (by decide)) ?_
        refine h_if_ne (xi := _) (zi := 0) m37_65 rfl rfl (fun c2 => ?_) (fun c2 => ?_)
        · skip
          refine g_iinc (L2 := [some (.ref (33 + 9 * t)), some (.int (nI (i))), some (.int (nI ((cntF (isAhead (X 8) (X 7) i) q) + 1))), some (.int (nI (q))), some (.int (1))]) m37_68 rfl (nI_1 _) rfl rfl ?_
          refine g_iinc (L2 := [some (.ref (33 + 9 * t)), some (.int (nI (i))), some (.int (nI ((cntF (isAhead (X 8) (X 7) i) q) + 1))), some (.int (nI (q + 1))), some (.int (1))]) m37_71 rfl (nI_1 _) rfl rfl ?_
          refine g_goto m37_74 ?_
          have e : cntF (isAhead (X 8) (X 7) i) (q + 1) = cntF (isAhead (X 8) (X 7) i) q + 1 := cnt_y (by unfold isAhead; exact decide_eq_true (by omega))
          have h9 := ih (q + 1) (some (.int (1))) (by omega)
          rw [e] at h9
          exact h9
        · skip
          refine g_iinc (L2 := [some (.ref (33 + 9 * t)), some (.int (nI (i))), some (.int (nI (cntF (isAhead (X 8) (X 7) i) q))), some (.int (nI (q + 1))), some (.int (1))]) m37_71 rfl (nI_1 _) rfl rfl ?_
          refine g_goto m37_74 ?_
          have e : cntF (isAhead (X 8) (X 7) i) (q + 1) = cntF (isAhead (X 8) (X 7) i) q := cnt_n (by unfold isAhead; rw [decide_eq_true_eq]; omega)
          have h9 := ih (q + 1) (some (.int (1))) (by omega)
          rw [e] at h9
          exact h9
      · skip
        refine g_aload_n m37_27 rfl ?_
        refine h_gfR (c := 41 + 9 * t) (k := 1 + 9 * t) (p := 33 + 9 * t) m37_28 (pT 1 _) (tT ht) rfl (le3 (Nat.le_of_ble_eq_true rfl)) ?_
        refine g_iload_n m37_31 rfl ?_
        refine h_ial (k := 9 + 9 * t) (p := 41 + 9 * t) (j := q) m37_32 (pT 9 _) (tA8 ht) (rfl) (by omega) (Nat.le_of_ble_eq_true rfl) (hA.rd ht (j := 8) (i := q) (by decide)) ?_
        refine g_aload_n m37_33 rfl ?_
        refine h_gfR (c := 41 + 9 * t) (k := 1 + 9 * t) (p := 33 + 9 * t) m37_34 (pT 1 _) (tT ht) rfl (le3 (Nat.le_of_ble_eq_true rfl)) ?_
        refine g_iload_n m37_37 rfl ?_
        refine h_ial (k := 9 + 9 * t) (p := 41 + 9 * t) (j := i) m37_38 (pT 9 _) (tA8 ht) (rfl) (by omega) (Nat.le_of_ble_eq_true rfl) (hA.rd ht (j := 8) (i := i) (by decide)) ?_
        refine h_ic_ne (xi := _) (zi := _) m37_39 rfl rfl (fun c3 => ?_) (fun c3 => ?_)
        · skip
          refine g_iload_n m37_42 rfl ?_
          refine g_iload_n m37_43 rfl ?_
          refine h_ic_ge (xi := ((q : Nat) : Int)) (zi := ((i : Nat) : Int)) m37_44 (nI_toInt (by omega)) (nI_toInt (by omega)) (fun c4 => ?_) (fun c4 => ?_)
          · skip
            refine g_iconst m37_51 ?_
            refine g_istore (L2 := [some (.ref (33 + 9 * t)), some (.int (nI (i))), some (.int (nI (cntF (isAhead (X 8) (X 7) i) q))), some (.int (nI (q))), some (.int (0))]) m37_52 rfl rfl ?_
            refine g_iload m37_54 rfl ?_
            refine h_if_eqT (xi := 0) (zi := 0) m37_56 rfl rfl (by decide) ?_
            refine g_iinc (L2 := [some (.ref (33 + 9 * t)), some (.int (nI (i))), some (.int (nI (cntF (isAhead (X 8) (X 7) i) q))), some (.int (nI (q + 1))), some (.int (0))]) m37_71 rfl (nI_1 _) rfl rfl ?_
            refine g_goto m37_74 ?_
            have e : cntF (isAhead (X 8) (X 7) i) (q + 1) = cntF (isAhead (X 8) (X 7) i) q := cnt_n (by unfold isAhead; rw [decide_eq_true_eq]; omega)
            have h9 := ih (q + 1) (some (.int (0))) (by omega)
            rw [e] at h9
            exact h9
          · skip
            refine g_iconst m37_47 ?_
            refine g_goto m37_48 ?_
            refine g_istore (L2 := [some (.ref (33 + 9 * t)), some (.int (nI (i))), some (.int (nI (cntF (isAhead (X 8) (X 7) i) q))), some (.int (nI (q))), some (.int (1))]) m37_52 rfl rfl ?_
            refine g_iload m37_54 rfl ?_
            refine h_if_eqF (xi := 1) (zi := 0) m37_56 rfl rfl (by decide) ?_
            refine g_aload_n m37_59 rfl ?_
            refine h_gfR (c := 40 + 9 * t) (k := 1 + 9 * t) (p := 33 + 9 * t) m37_60 (pT 1 _) (tT ht) rfl (le3 (Nat.le_of_ble_eq_true rfl)) ?_
            refine g_iload_n m37_63 rfl ?_
            refine h_bal (k := 8 + 9 * t) (p := 40 + 9 * t) (j := q) m37_64 (pT 8 _) (tA7 ht) (rfl) (by omega) (Nat.le_of_ble_eq_true rfl) (hA.rd ht (j := 7) (i := q) (by decide)) ?_
            refine h_if_ne (xi := _) (zi := 0) m37_65 rfl rfl (fun c5 => ?_) (fun c5 => ?_)
            · skip
              refine g_iinc (L2 := [some (.ref (33 + 9 * t)), some (.int (nI (i))), some (.int (nI ((cntF (isAhead (X 8) (X 7) i) q) + 1))), some (.int (nI (q))), some (.int (1))]) m37_68 rfl (nI_1 _) rfl rfl ?_
              refine g_iinc (L2 := [some (.ref (33 + 9 * t)), some (.int (nI (i))), some (.int (nI ((cntF (isAhead (X 8) (X 7) i) q) + 1))), some (.int (nI (q + 1))), some (.int (1))]) m37_71 rfl (nI_1 _) rfl rfl ?_
              refine g_goto m37_74 ?_
              have e : cntF (isAhead (X 8) (X 7) i) (q + 1) = cntF (isAhead (X 8) (X 7) i) q + 1 := cnt_y (by unfold isAhead; exact decide_eq_true (by omega))
              have h9 := ih (q + 1) (some (.int (1))) (by omega)
              rw [e] at h9
              exact h9
            · skip
              refine g_iinc (L2 := [some (.ref (33 + 9 * t)), some (.int (nI (i))), some (.int (nI (cntF (isAhead (X 8) (X 7) i) q))), some (.int (nI (q + 1))), some (.int (1))]) m37_71 rfl (nI_1 _) rfl rfl ?_
              refine g_goto m37_74 ?_
              have e : cntF (isAhead (X 8) (X 7) i) (q + 1) = cntF (isAhead (X 8) (X 7) i) q := cnt_n (by unfold isAhead; rw [decide_eq_true_eq]; omega)
              have h9 := ih (q + 1) (some (.int (1))) (by omega)
              rw [e] at h9
              exact h9
        · skip
          refine g_iconst m37_51 ?_
          refine g_istore (L2 := [some (.ref (33 + 9 * t)), some (.int (nI (i))), some (.int (nI (cntF (isAhead (X 8) (X 7) i) q))), some (.int (nI (q))), some (.int (0))]) m37_52 rfl rfl ?_
          refine g_iload m37_54 rfl ?_
          refine h_if_eqT (xi := 0) (zi := 0) m37_56 rfl rfl (by decide) ?_
          refine g_iinc (L2 := [some (.ref (33 + 9 * t)), some (.int (nI (i))), some (.int (nI (cntF (isAhead (X 8) (X 7) i) q))), some (.int (nI (q + 1))), some (.int (0))]) m37_71 rfl (nI_1 _) rfl rfl ?_
          refine g_goto m37_74 ?_
          have e : cntF (isAhead (X 8) (X 7) i) (q + 1) = cntF (isAhead (X 8) (X 7) i) q := cnt_n (by unfold isAhead; rw [decide_eq_true_eq]; omega)
          have h9 := ih (q + 1) (some (.int (0))) (by omega)
          rw [e] at h9
          exact h9
  refine g_iconst m37_0 ?_
  refine g_istore_n (L2 := [some (.ref (33 + 9 * t)), some (.int (nI (i))), some (.int (0)), none, none]) m37_1 rfl rfl ?_
  refine g_iconst m37_2 ?_
  refine g_istore_n (L2 := [some (.ref (33 + 9 * t)), some (.int (nI (i))), some (.int (0)), some (.int (0)), none]) m37_3 rfl rfl ?_
  exact key n 0 none (by omega)
set_option maxRecDepth 20000 in
set_option maxHeartbeats 40000000 in
theorem c_served {t n : Nat} {m0 X : MW} (ht : t < 4) (hA : AtX m0 t X m) (hn : n ≤ 8) (hd : X 0 10 = nI n) (hQ : Q (some (.int (nI (bitsF (isServed (X 8) (X 7) n (X 0 8)) n)))) (H m ln N)) : WP xs (d + 2) 38 0 0 [.ref (33 + 9 * t)] (H m ln N) Q := by
  refine wp_x mx_38 (L := [some (.ref (33 + 9 * t)), none, none]) (Nat.le_of_ble_eq_true rfl) rfl ?_
  have hb : ∀ q, bitsF (isServed (X 8) (X 7) n (X 0 8)) q < 2 ^ q := bitsF_lt _
  have key : ∀ (r : Nat) (q : Nat), q + r = n → gw xs (WP xs (d + 1)) 38 Q 4 [some (.ref (33 + 9 * t)), some (.int (nI (bitsF (isServed (X 8) (X 7) n (X 0 8)) q))), some (.int (nI (q)))] [] (H m ln N) 0 0 := by
    intro r
    induction r with
    | zero =>
      intro q hq
      obtain rfl : q = n := by omega
      refine g_iload_n m38_4 rfl ?_
      refine g_aload_n m38_5 rfl ?_
      refine h_gfI (k := 1 + 9 * t) (p := 33 + 9 * t) m38_6 (pT 1 _) (tT ht) rfl ((hA.rd ht (j := 0) (i := 10) (by decide)).trans (hd)) ?_
      refine h_ic_geT (xi := ((q : Nat) : Int)) (zi := ((q : Nat) : Int)) m38_9 (nI_toInt (by omega)) (nI_toInt (by omega)) (by omega) ?_
      refine g_iload_n m38_45 rfl ?_
      refine g_iret m38_46 rt_38 ?_
      exact hQ
    | succ r ih =>
      intro q hq
      refine g_iload_n m38_4 rfl ?_
      refine g_aload_n m38_5 rfl ?_
      refine h_gfI (k := 1 + 9 * t) (p := 33 + 9 * t) m38_6 (pT 1 _) (tT ht) rfl ((hA.rd ht (j := 0) (i := 10) (by decide)).trans (hd)) ?_
      refine h_ic_geF (xi := ((q : Nat) : Int)) (zi := ((n : Nat) : Int)) m38_9 (nI_toInt (by omega)) (nI_toInt (by omega)) (by omega) ?_
      refine g_aload_n m38_12 rfl ?_
      refine h_gfR (c := 40 + 9 * t) (k := 1 + 9 * t) (p := 33 + 9 * t) m38_13 (pT 1 _) (tT ht) rfl (le3 (Nat.le_of_ble_eq_true rfl)) ?_
      refine g_iload_n m38_16 rfl ?_
      refine h_bal (k := 8 + 9 * t) (p := 40 + 9 * t) (j := q) m38_17 (pT 8 _) (tA7 ht) (rfl) (by omega) (Nat.le_of_ble_eq_true rfl) (hA.rd ht (j := 7) (i := q) (by decide)) ?_
      refine h_if_ne (xi := _) (zi := 0) m38_18 rfl rfl (fun c1 => ?_) (fun c1 => ?_)
      · skip
        refine g_aload_n m38_21 rfl ?_
        refine g_iload_n m38_22 rfl ?_
        refine h_cv (k := 1 + 9 * t) (p := 33 + 9 * t) (args := [.int (nI (q))]) (rest := []) m38_23 cn_37 (Nat.le_of_ble_eq_true rfl) rfl rfl (pT 1 _) (tT ht) (Nat.le_of_ble_eq_true rfl) ?_
        refine c_aheadOf ht hA (by omega) hn hd ?_
        have hcl : aheadF (X 8) (X 7) n q ≤ n := cntF_le _ n
        refine gwr ?_
        refine g_aload_n m38_26 rfl ?_
        refine h_gfI (k := 1 + 9 * t) (p := 33 + 9 * t) m38_27 (pT 1 _) (tT ht) rfl (hA.rd ht (j := 0) (i := 8) (by decide)) ?_
        refine h_ic_ge (xi := ((aheadF (X 8) (X 7) n q : Nat) : Int)) (zi := _) m38_30 (nI_toInt (by omega)) rfl (fun c2 => ?_) (fun c2 => ?_)
        · skip
          refine g_iinc (L2 := [some (.ref (33 + 9 * t)), some (.int (nI (bitsF (isServed (X 8) (X 7) n (X 0 8)) q))), some (.int (nI (q + 1)))]) m38_39 rfl (nI_1 _) rfl rfl ?_
          refine g_goto m38_42 ?_
          have e : bitsF (isServed (X 8) (X 7) n (X 0 8)) (q + 1) = bitsF (isServed (X 8) (X 7) n (X 0 8)) q := bits_n (by unfold isServed; rw [decide_eq_true_eq]; omega)
          have h9 := ih (q + 1) (by omega)
          rw [e] at h9
          exact h9
        · skip
          refine g_iload_n m38_33 rfl ?_
          refine g_iconst m38_34 ?_
          refine g_iload_n m38_35 rfl ?_
          refine g_ishl m38_36 rfl ?_
          refine g_ior (u := nI (bitsF (isServed (X 8) (X 7) n (X 0 8)) q + 2 ^ q)) m38_37 (bit_or q (by omega) _ (hb q)) ?_
          refine g_istore_n (L2 := [some (.ref (33 + 9 * t)), some (.int (nI (bitsF (isServed (X 8) (X 7) n (X 0 8)) q + 2 ^ q))), some (.int (nI (q)))]) m38_38 rfl rfl ?_
          refine g_iinc (L2 := [some (.ref (33 + 9 * t)), some (.int (nI (bitsF (isServed (X 8) (X 7) n (X 0 8)) q + 2 ^ q))), some (.int (nI (q + 1)))]) m38_39 rfl (nI_1 _) rfl rfl ?_
          refine g_goto m38_42 ?_
          have e : bitsF (isServed (X 8) (X 7) n (X 0 8)) (q + 1) = bitsF (isServed (X 8) (X 7) n (X 0 8)) q + 2 ^ q := bits_y (by unfold isServed; exact decide_eq_true (by omega))
          have h9 := ih (q + 1) (by omega)
          rw [e] at h9
          exact h9
      · skip
        refine g_iinc (L2 := [some (.ref (33 + 9 * t)), some (.int (nI (bitsF (isServed (X 8) (X 7) n (X 0 8)) q))), some (.int (nI (q + 1)))]) m38_39 rfl (nI_1 _) rfl rfl ?_
        refine g_goto m38_42 ?_
        have e : bitsF (isServed (X 8) (X 7) n (X 0 8)) (q + 1) = bitsF (isServed (X 8) (X 7) n (X 0 8)) q := bits_n (by unfold isServed; rw [decide_eq_true_eq]; omega)
        have h9 := ih (q + 1) (by omega)
        rw [e] at h9
        exact h9
  refine g_iconst m38_0 ?_
  refine g_istore_n (L2 := [some (.ref (33 + 9 * t)), some (.int (0)), none]) m38_1 rfl rfl ?_
  refine g_iconst m38_2 ?_
  refine g_istore_n (L2 := [some (.ref (33 + 9 * t)), some (.int (0)), some (.int (0))]) m38_3 rfl rfl ?_
  exact key n 0 (by omega)
theorem grows_le {X : MW} {i : Nat} (hm : leI (X 3 i) 9) (hk : leI (X 2 i) 6) : ∃ g, g ≤ 3 ∧ growsF X i = nI g := by
  obtain ⟨k, hk6, hke⟩ := hk
  obtain ⟨c, hc9, hce⟩ := hm
  have h3 : nI c - nI c / 3 * 3 = nI (c % 3) := pk_rem (a := c) (d := 3) (by omega) (by decide) (by decide)
  rw [gk hke hk6, hce, h3]
  split
  · exact ⟨0, by omega, rfl⟩
  · split
    · exact ⟨2, by omega, rfl⟩
    · split
      · exact ⟨1 + c % 3, by omega, nI_add 1 _⟩
      · exact ⟨1, by omega, rfl⟩
theorem ate_f (X : MW) (i j k : Nat) : ateF false X i j k = upm X 4 i (hungF false X i) j k := by
  unfold ateF
  by_cases h : j = 6 ∧ k = i
  · obtain ⟨rfl, rfl⟩ := h
    rw [upm_self, upm_k _ _ (by decide)]
    rfl
  · unfold upm
    rw [if_neg h]
set_option maxRecDepth 20000 in
set_option maxHeartbeats 40000000 in
theorem c_pass1 {t i : Nat} {m0 X : MW} {x y : Int32} (ht : t < 4) (hL : LawsOk m0 ln N) (hA : AtX m0 t X m) (hx : X 0 11 = x) (hix : LawIx N x) (hy : X 0 12 = y) (hiy : LawIx N y) (hW : WF X) (hi : i < 8) (hQ : ∀ m2, AtX m0 t (passF (lkF m0 ln x) (blF m0 ln y) true X i) m2 → Q none (H m2 ln N)) : WP xs (d + 4) 39 0 0 [.ref (33 + 9 * t), .int (nI (i)), .int (1)] (H m ln N) Q := by
  refine wp_x mx_39 (L := [some (.ref (33 + 9 * t)), some (.int (nI (i))), some (.int (1))]) (Nat.le_of_ble_eq_true rfl) rfl ?_
  obtain ⟨hf, hk, hm, hh, hs, hc, hg⟩ := hW.2.2 i hi
  obtain ⟨hcn, hc9, hce⟩ := hc
  obtain ⟨hhn, hh9, hhe⟩ := hh
  have hclamp : (X 6 i).toNatClampNeg = hcn := by rw [hce]; exact nI_clamp (by omega)
  obtain ⟨fl, hfl, hfe⟩ := (hW.2.2 (hcn % 8) (by omega)).1
  have h1 : heldF (nI hhn - nI fl) 99 = hungF true X i := by unfold hungF; rw [if_pos rfl, hclamp, hhe, hfe]
  have h2 : heldF (nI (hcn + 1)) 99 = hadF true X i := by unfold hadF; rw [if_pos rfl, hce, nI_1]
  have h3 : (nI hhn - nI fl).toInt ≤ 99 := by rw [pk_sub_toInt (by omega) (by omega)]; omega
  have h4 : 0 ≤ (nI (hcn + 1)).toInt := by rw [nI_toInt (by omega)]; omega
  refine g_iload_n m39_0 rfl ?_
  refine h_if_eqF (xi := 1) (zi := 0) m39_1 rfl rfl (by decide) ?_
  refine g_aload_n m39_4 rfl ?_
  refine h_gfR (c := 37 + 9 * t) (k := 1 + 9 * t) (p := 33 + 9 * t) m39_5 (pT 1 _) (tT ht) rfl (le3 (Nat.le_of_ble_eq_true rfl)) ?_
  refine g_iload_n m39_8 rfl ?_
  refine g_iconst m39_9 ?_
  refine g_aload_n m39_10 rfl ?_
  refine h_gfR (c := 37 + 9 * t) (k := 1 + 9 * t) (p := 33 + 9 * t) m39_11 (pT 1 _) (tT ht) rfl (le3 (Nat.le_of_ble_eq_true rfl)) ?_
  refine g_iload_n m39_14 rfl ?_
  refine h_ial (k := 5 + 9 * t) (p := 37 + 9 * t) (j := i) m39_15 (pT 5 _) (tA4 ht) (rfl) (by omega) (Nat.le_of_ble_eq_true rfl) ((hA.rd ht (j := 4) (i := i) (by decide)).trans (hhe)) ?_
  refine g_aload_n m39_16 rfl ?_
  refine h_gfR (c := 34 + 9 * t) (k := 1 + 9 * t) (p := 33 + 9 * t) m39_17 (pT 1 _) (tT ht) rfl (le3 (Nat.le_of_ble_eq_true rfl)) ?_
  refine g_aload_n m39_20 rfl ?_
  refine h_gfR (c := 39 + 9 * t) (k := 1 + 9 * t) (p := 33 + 9 * t) m39_21 (pT 1 _) (tT ht) rfl (le3 (Nat.le_of_ble_eq_true rfl)) ?_
  refine g_iload_n m39_24 rfl ?_
  refine h_ial (k := 7 + 9 * t) (p := 39 + 9 * t) (j := i) m39_25 (pT 7 _) (tA6 ht) (rfl) (by omega) (Nat.le_of_ble_eq_true rfl) ((hA.rd ht (j := 6) (i := i) (by decide)).trans (hce)) ?_
  refine g_bipush m39_26 ?_
  refine g_irem (u := nI (hcn % 8)) m39_28 (by decide) (pk_rem (a := hcn) (d := 8) (by omega) (by decide) (by decide)) ?_
  refine h_ial (k := 2 + 9 * t) (p := 34 + 9 * t) (j := hcn % 8) m39_29 (pT 2 _) (tA1 ht) (rfl) (by omega) (Nat.le_of_ble_eq_true rfl) ((hA.rd ht (j := 1) (i := hcn % 8) (by decide)).trans (hfe)) ?_
  refine g_isub m39_30 rfl ?_
  refine g_max (u := hungF true X i) m39_31 (Nat.le_of_ble_eq_true rfl) ((max_h h3).trans h1) ?_
  refine h_ias (k := 5 + 9 * t) (p := 37 + 9 * t) (j := i) m39_34 (pT 5 _) (tA4 ht) (rfl) (by omega) (Nat.le_of_ble_eq_true rfl) ?_
  have hAu1 := hA.up ht (j := 4) (by decide) i (hungF true X i)
  refine g_aload_n m39_35 rfl ?_
  refine h_gfR (c := 39 + 9 * t) (k := 1 + 9 * t) (p := 33 + 9 * t) m39_36 (pT 1 _) (tT ht) rfl (le3 (Nat.le_of_ble_eq_true rfl)) ?_
  refine g_iload_n m39_39 rfl ?_
  refine g_bipush m39_40 ?_
  refine g_aload_n m39_42 rfl ?_
  refine h_gfR (c := 39 + 9 * t) (k := 1 + 9 * t) (p := 33 + 9 * t) m39_43 (pT 1 _) (tT ht) rfl (le3 (Nat.le_of_ble_eq_true rfl)) ?_
  refine g_iload_n m39_46 rfl ?_
  refine h_ial (k := 7 + 9 * t) (p := 39 + 9 * t) (j := i) m39_47 (pT 7 _) (tA6 ht) (rfl) (by omega) (Nat.le_of_ble_eq_true rfl) ((hAu1.rd ht (j := 6) (i := i) (by decide)).trans (hce)) ?_
  refine g_iconst m39_48 ?_
  refine g_iadd (u := nI (hcn + 1)) m39_49 (nI_add hcn 1) ?_
  refine g_min (u := hadF true X i) m39_50 (Nat.le_of_ble_eq_true rfl) ((min_h h4).trans h2) ?_
  refine h_ias (k := 7 + 9 * t) (p := 39 + 9 * t) (j := i) m39_53 (pT 7 _) (tA6 ht) (rfl) (by omega) (Nat.le_of_ble_eq_true rfl) ?_
  have hAu2 := hAu1.up ht (j := 6) (by decide) i (hadF true X i)
  refine g_goto m39_54 ?_
  refine g_aload_n m39_80 rfl ?_
  refine h_gfR (c := 40 + 9 * t) (k := 1 + 9 * t) (p := 33 + 9 * t) m39_81 (pT 1 _) (tT ht) rfl (le3 (Nat.le_of_ble_eq_true rfl)) ?_
  refine g_iload_n m39_84 rfl ?_
  refine g_aload_n m39_85 rfl ?_
  refine h_gfL (k := 1 + 9 * t) (p := 33 + 9 * t) m39_86 (pT 1 _) (tT ht) rfl ((hAu2.rd ht (j := 0) (i := 12) (by decide)).trans hy) ?_
  refine h_lawZ m39_89 (fun c3 => ?_) (fun c3 => ?_)
  · skip
    refine g_iconst m39_120 ?_
    refine h_bas (k := 8 + 9 * t) (p := 40 + 9 * t) (j := i) m39_121 (pT 8 _) (tA7 ht) (rfl) (by omega) (Nat.le_of_ble_eq_true rfl) (Or.inl rfl) ?_
    have hAu4 := hAu2.up ht (j := 7) (by decide) i (0 : Int32)
    refine g_vret m39_122 ?_
    have e : passF (lkF m0 ln x) (blF m0 ln y) true X i = upm (ateF true X i) 7 i 0 := by
      unfold passF goneF
      rw [if_pos (by unfold blF; rw [if_pos c3]; rfl)]
    exact hQ _ (by rw [e]; exact hAu4)
  · skip
    refine g_aload_n m39_92 rfl ?_
    refine g_aload_n m39_93 rfl ?_
    refine h_gfR (c := 37 + 9 * t) (k := 1 + 9 * t) (p := 33 + 9 * t) m39_94 (pT 1 _) (tT ht) rfl (le3 (Nat.le_of_ble_eq_true rfl)) ?_
    refine g_iload_n m39_97 rfl ?_
    refine h_ial (k := 5 + 9 * t) (p := 37 + 9 * t) (j := i) m39_98 (pT 5 _) (tA4 ht) (rfl) (by omega) (Nat.le_of_ble_eq_true rfl) (hAu2.rd ht (j := 4) (i := i) (by decide)) ?_
    refine g_aload_n m39_99 rfl ?_
    refine g_iload_n m39_100 rfl ?_
    refine h_cv (k := 1 + 9 * t) (p := 33 + 9 * t) (args := [.int (nI (i))]) (rest := [.int ((ateF true X i) 4 i), .ref (33 + 9 * t), .int (nI (i)), .ref (40 + 9 * t)]) m39_101 cn_34 (Nat.le_of_ble_eq_true rfl) rfl rfl (pT 1 _) (tT ht) (Nat.le_of_ble_eq_true rfl) ?_
    refine c_face ht hL hAu2 hx hix hi hk (fun m_11 hA_12 => ?_)
    refine gwr ?_
    refine g_aload_n m39_104 rfl ?_
    refine h_gfR (c := 39 + 9 * t) (k := 1 + 9 * t) (p := 33 + 9 * t) m39_105 (pT 1 _) (tT ht) rfl (le3 (Nat.le_of_ble_eq_true rfl)) ?_
    refine g_iload_n m39_108 rfl ?_
    refine h_ial (k := 7 + 9 * t) (p := 39 + 9 * t) (j := i) m39_109 (pT 7 _) (tA6 ht) (rfl) (by omega) (Nat.le_of_ble_eq_true rfl) (hA_12.rd ht (j := 6) (i := i) (by decide)) ?_
    refine h_cv (k := 1 + 9 * t) (p := 33 + 9 * t) (args := [.int ((ateF true X i) 4 i), .int (faceF (lkF m0 ln x) (ateF true X i) i), .int ((ateF true X i) 6 i)]) (rest := [.int (nI (i)), .ref (40 + 9 * t)]) m39_110 cn_33 (Nat.le_of_ble_eq_true rfl) rfl rfl (pT 1 _) (tT ht) (Nat.le_of_ble_eq_true rfl) ?_
    refine c_billBy ht hL hA_12 hy hiy (fun m_13 hA_14 => ?_)
    refine gwr ?_
    refine h_if_eq (xi := _) (zi := 0) m39_113 rfl rfl (fun c5 => ?_) (fun c5 => ?_)
    · skip
      refine g_iconst m39_120 ?_
      refine h_bas (k := 8 + 9 * t) (p := 40 + 9 * t) (j := i) m39_121 (pT 8 _) (tA7 ht) (rfl) (by omega) (Nat.le_of_ble_eq_true rfl) (Or.inl rfl) ?_
      have hAu6 := hA_14.up ht (j := 7) (by decide) i (0 : Int32)
      refine g_vret m39_122 ?_
      have e : passF (lkF m0 ln x) (blF m0 ln y) true X i = upm (ateF true X i) 7 i 0 := by
        unfold passF goneF
        rw [if_pos (by exact c5)]
      exact hQ _ (by rw [e]; exact hAu6)
    · skip
      refine g_iconst m39_116 ?_
      refine g_goto m39_117 ?_
      refine h_bas (k := 8 + 9 * t) (p := 40 + 9 * t) (j := i) m39_121 (pT 8 _) (tA7 ht) (rfl) (by omega) (Nat.le_of_ble_eq_true rfl) (Or.inr rfl) ?_
      have hAu7 := hA_14.up ht (j := 7) (by decide) i (1 : Int32)
      refine g_vret m39_122 ?_
      have e : passF (lkF m0 ln x) (blF m0 ln y) true X i = upm (ateF true X i) 7 i 1 := by
        unfold passF goneF
        rw [if_neg (by exact c5)]
      exact hQ _ (by rw [e]; exact hAu7)
set_option maxRecDepth 20000 in
set_option maxHeartbeats 40000000 in
theorem c_pass0 {t i : Nat} {m0 X : MW} {x y : Int32} (ht : t < 4) (hL : LawsOk m0 ln N) (hA : AtX m0 t X m) (hx : X 0 11 = x) (hix : LawIx N x) (hy : X 0 12 = y) (hiy : LawIx N y) (hW : WF X) (hi : i < 8) (hQ : ∀ m2, AtX m0 t (passF (lkF m0 ln x) (blF m0 ln y) false X i) m2 → Q none (H m2 ln N)) : WP xs (d + 4) 39 0 0 [.ref (33 + 9 * t), .int (nI (i)), .int (0)] (H m ln N) Q := by
  refine wp_x mx_39 (L := [some (.ref (33 + 9 * t)), some (.int (nI (i))), some (.int (0))]) (Nat.le_of_ble_eq_true rfl) rfl ?_
  obtain ⟨hf, hk, hm, hh, hs, hc, hg⟩ := hW.2.2 i hi
  obtain ⟨hcn, hc9, hce⟩ := hc
  obtain ⟨hhn, hh9, hhe⟩ := hh
  have hclamp : (X 6 i).toNatClampNeg = hcn := by rw [hce]; exact nI_clamp (by omega)
  have h1 : heldF (nI hhn + growsF X i) 99 = hungF false X i := by unfold hungF; rw [if_neg (by decide), hhe]
  have h3 : 0 ≤ (nI hhn + growsF X i).toInt := by
    obtain ⟨g, hg9, hge⟩ := grows_le hm hk
    rw [hge, nI_add, nI_toInt (by omega)]
    omega
  refine g_iload_n m39_0 rfl ?_
  refine h_if_eqT (xi := 0) (zi := 0) m39_1 rfl rfl (by decide) ?_
  refine g_aload_n m39_57 rfl ?_
  refine h_gfR (c := 37 + 9 * t) (k := 1 + 9 * t) (p := 33 + 9 * t) m39_58 (pT 1 _) (tT ht) rfl (le3 (Nat.le_of_ble_eq_true rfl)) ?_
  refine g_iload_n m39_61 rfl ?_
  refine g_bipush m39_62 ?_
  refine g_aload_n m39_64 rfl ?_
  refine h_gfR (c := 37 + 9 * t) (k := 1 + 9 * t) (p := 33 + 9 * t) m39_65 (pT 1 _) (tT ht) rfl (le3 (Nat.le_of_ble_eq_true rfl)) ?_
  refine g_iload_n m39_68 rfl ?_
  refine h_ial (k := 5 + 9 * t) (p := 37 + 9 * t) (j := i) m39_69 (pT 5 _) (tA4 ht) (rfl) (by omega) (Nat.le_of_ble_eq_true rfl) ((hA.rd ht (j := 4) (i := i) (by decide)).trans (hhe)) ?_
  refine g_aload_n m39_70 rfl ?_
  refine g_iload_n m39_71 rfl ?_
  refine h_cv (k := 1 + 9 * t) (p := 33 + 9 * t) (args := [.int (nI (i))]) (rest := [.int (nI (hhn)), .int (99), .int (nI (i)), .ref (37 + 9 * t)]) m39_72 cn_35 (Nat.le_of_ble_eq_true rfl) rfl rfl (pT 1 _) (tT ht) (Nat.le_of_ble_eq_true rfl) ?_
  refine c_grows ht hA hi hk ?_
  refine gwr ?_
  refine g_iadd m39_75 rfl ?_
  refine g_min (u := hungF false X i) m39_76 (Nat.le_of_ble_eq_true rfl) ((min_h h3).trans h1) ?_
  refine h_ias (k := 5 + 9 * t) (p := 37 + 9 * t) (j := i) m39_79 (pT 5 _) (tA4 ht) (rfl) (by omega) (Nat.le_of_ble_eq_true rfl) ?_
  have hAu1 := hA.up ht (j := 4) (by decide) i (hungF false X i)
  have hAu2 : AtX m0 t (ateF false X i) _ := hAu1.c (fun j k _ => ate_f X i j k)
  refine g_aload_n m39_80 rfl ?_
  refine h_gfR (c := 40 + 9 * t) (k := 1 + 9 * t) (p := 33 + 9 * t) m39_81 (pT 1 _) (tT ht) rfl (le3 (Nat.le_of_ble_eq_true rfl)) ?_
  refine g_iload_n m39_84 rfl ?_
  refine g_aload_n m39_85 rfl ?_
  refine h_gfL (k := 1 + 9 * t) (p := 33 + 9 * t) m39_86 (pT 1 _) (tT ht) rfl ((hAu2.rd ht (j := 0) (i := 12) (by decide)).trans hy) ?_
  refine h_lawZ m39_89 (fun c3 => ?_) (fun c3 => ?_)
  · skip
    refine g_iconst m39_120 ?_
    refine h_bas (k := 8 + 9 * t) (p := 40 + 9 * t) (j := i) m39_121 (pT 8 _) (tA7 ht) (rfl) (by omega) (Nat.le_of_ble_eq_true rfl) (Or.inl rfl) ?_
    have hAu4 := hAu2.up ht (j := 7) (by decide) i (0 : Int32)
    refine g_vret m39_122 ?_
    have e : passF (lkF m0 ln x) (blF m0 ln y) false X i = upm (ateF false X i) 7 i 0 := by
      unfold passF goneF
      rw [if_pos (by unfold blF; rw [if_pos c3]; rfl)]
    exact hQ _ (by rw [e]; exact hAu4)
  · skip
    refine g_aload_n m39_92 rfl ?_
    refine g_aload_n m39_93 rfl ?_
    refine h_gfR (c := 37 + 9 * t) (k := 1 + 9 * t) (p := 33 + 9 * t) m39_94 (pT 1 _) (tT ht) rfl (le3 (Nat.le_of_ble_eq_true rfl)) ?_
    refine g_iload_n m39_97 rfl ?_
    refine h_ial (k := 5 + 9 * t) (p := 37 + 9 * t) (j := i) m39_98 (pT 5 _) (tA4 ht) (rfl) (by omega) (Nat.le_of_ble_eq_true rfl) (hAu2.rd ht (j := 4) (i := i) (by decide)) ?_
    refine g_aload_n m39_99 rfl ?_
    refine g_iload_n m39_100 rfl ?_
    refine h_cv (k := 1 + 9 * t) (p := 33 + 9 * t) (args := [.int (nI (i))]) (rest := [.int ((ateF false X i) 4 i), .ref (33 + 9 * t), .int (nI (i)), .ref (40 + 9 * t)]) m39_101 cn_34 (Nat.le_of_ble_eq_true rfl) rfl rfl (pT 1 _) (tT ht) (Nat.le_of_ble_eq_true rfl) ?_
    refine c_face ht hL hAu2 hx hix hi hk (fun m_15 hA_16 => ?_)
    refine gwr ?_
    refine g_aload_n m39_104 rfl ?_
    refine h_gfR (c := 39 + 9 * t) (k := 1 + 9 * t) (p := 33 + 9 * t) m39_105 (pT 1 _) (tT ht) rfl (le3 (Nat.le_of_ble_eq_true rfl)) ?_
    refine g_iload_n m39_108 rfl ?_
    refine h_ial (k := 7 + 9 * t) (p := 39 + 9 * t) (j := i) m39_109 (pT 7 _) (tA6 ht) (rfl) (by omega) (Nat.le_of_ble_eq_true rfl) (hA_16.rd ht (j := 6) (i := i) (by decide)) ?_
    refine h_cv (k := 1 + 9 * t) (p := 33 + 9 * t) (args := [.int ((ateF false X i) 4 i), .int (faceF (lkF m0 ln x) (ateF false X i) i), .int ((ateF false X i) 6 i)]) (rest := [.int (nI (i)), .ref (40 + 9 * t)]) m39_110 cn_33 (Nat.le_of_ble_eq_true rfl) rfl rfl (pT 1 _) (tT ht) (Nat.le_of_ble_eq_true rfl) ?_
    refine c_billBy ht hL hA_16 hy hiy (fun m_17 hA_18 => ?_)
    refine gwr ?_
    refine h_if_eq (xi := _) (zi := 0) m39_113 rfl rfl (fun c5 => ?_) (fun c5 => ?_)
    · skip
      refine g_iconst m39_120 ?_
      refine h_bas (k := 8 + 9 * t) (p := 40 + 9 * t) (j := i) m39_121 (pT 8 _) (tA7 ht) (rfl) (by omega) (Nat.le_of_ble_eq_true rfl) (Or.inl rfl) ?_
      have hAu6 := hA_18.up ht (j := 7) (by decide) i (0 : Int32)
      refine g_vret m39_122 ?_
      have e : passF (lkF m0 ln x) (blF m0 ln y) false X i = upm (ateF false X i) 7 i 0 := by
        unfold passF goneF
        rw [if_pos (by exact c5)]
      exact hQ _ (by rw [e]; exact hAu6)
    · skip
      refine g_iconst m39_116 ?_
      refine g_goto m39_117 ?_
      refine h_bas (k := 8 + 9 * t) (p := 40 + 9 * t) (j := i) m39_121 (pT 8 _) (tA7 ht) (rfl) (by omega) (Nat.le_of_ble_eq_true rfl) (Or.inr rfl) ?_
      have hAu7 := hA_18.up ht (j := 7) (by decide) i (1 : Int32)
      refine g_vret m39_122 ?_
      have e : passF (lkF m0 ln x) (blF m0 ln y) false X i = upm (ateF false X i) 7 i 1 := by
        unfold passF goneF
        rw [if_neg (by exact c5)]
      exact hQ _ (by rw [e]; exact hAu7)
end
end
section
/-! STEPS, in numbers -/
theorem cntF_c {p q : Nat → Bool} : ∀ n, (∀ i, i < n → p i = q i) → cntF p n = cntF q n
  | 0, _ => rfl
  | n + 1, h => by
    show cntF p n + (if p n = true then 1 else 0) = cntF q n + (if q n = true then 1 else 0)
    rw [cntF_c n (fun i hi => h i (by omega)), h n (by omega)]
theorem bitsF_c {p q : Nat → Bool} : ∀ n, (∀ i, i < n → p i = q i) → bitsF p n = bitsF q n
  | 0, _ => rfl
  | n + 1, h => by
    show bitsF p n + (if p n = true then 2 ^ n else 0) = bitsF q n + (if q n = true then 2 ^ n else 0)
    rw [bitsF_c n (fun i hi => h i (by omega)), h n (by omega)]
theorem isServed_c {F F2 G : Nat → Int32} {n i : Nat} {W : Int32} (h : ∀ o, o < n → F2 o = F o) (hi : i < n) : isServed F2 G n W i = isServed F G n W i := by
  have e : aheadF F2 G n i = aheadF F G n i := cntF_c n (fun o ho => by
    unfold isAhead
    rw [h i hi, h o ho])
  unfold isServed
  rw [e]
theorem set_f {LK : LF} {X : MW} {n : Nat} (hn : nOf X = n) : bitsF (isServed (facesX (faceF LK X) X n 8) (facesX (faceF LK X) X n 7) n (facesX (faceF LK X) X n 0 8)) n = bitsF (svF LK X) n := by
  apply bitsF_c
  intro i hi
  have e7 : facesX (faceF LK X) X n 7 = X 7 := by
    funext k
    exact facesX_8 _ X n 7 (by decide) k
  rw [e7, facesX_8 _ X n 0 (by decide) 8]
  unfold svF
  rw [hn]
  refine isServed_c (fun o ho => ?_) hi
  unfold facesX
  rw [if_pos ⟨rfl, ho⟩]
theorem hungF_le {sv : Bool} {X : MW} {i : Nat} : leI (hungF sv X i) 99 := by
  have h : ∀ v : Int32, leI (heldF v 99) 99 := fun v => by
    have e9 : (99 : Int32).toInt = 99 := rfl
    unfold heldF
    by_cases h0 : v.toInt < 0
    · rw [if_pos h0]
      exact ⟨0, by omega, rfl⟩
    · rw [if_neg h0]
      by_cases h1 : (99 : Int32).toInt < v.toInt
      · rw [if_pos h1]
        exact ⟨99, by omega, rfl⟩
      · rw [if_neg h1]
        exact leI_of (by omega) (by omega)
  unfold hungF
  split
  · exact h _
  · exact h _
theorem hadF_le {sv : Bool} {X : MW} {i : Nat} (hc : leI (X 6 i) 99) : leI (hadF sv X i) 99 := by
  have e9 : (99 : Int32).toInt = 99 := rfl
  unfold hadF
  split
  · unfold heldF
    by_cases h0 : (X 6 i + 1).toInt < 0
    · rw [if_pos h0]
      exact ⟨0, by omega, rfl⟩
    · rw [if_neg h0]
      by_cases h1 : (99 : Int32).toInt < (X 6 i + 1).toInt
      · rw [if_pos h1]
        exact ⟨99, by omega, rfl⟩
      · rw [if_neg h1]
        exact leI_of (by omega) (by omega)
  · exact hc
theorem goneF_01 (LK BL : LF) (X : MW) (i : Nat) : goneF LK BL X i = 0 ∨ goneF LK BL X i = 1 := by
  unfold goneF
  split
  · exact Or.inl rfl
  · exact Or.inr rfl
/-- where one diner's part changes nothing -/
theorem passF_o (LK BL : LF) (sv : Bool) (X : MW) (i : Nat) {j k : Nat} (h : k ≠ i ∨ (j ≠ 4 ∧ j ≠ 6 ∧ j ≠ 7)) : passF LK BL sv X i j k = X j k := by
  unfold passF ateF upm
  rw [if_neg (by omega), if_neg (by omega), if_neg (by omega)]
theorem passF_4 (LK BL : LF) (sv : Bool) (X : MW) (i : Nat) : passF LK BL sv X i 4 i = hungF sv X i := by
  unfold passF ateF upm
  rw [if_neg (by omega), if_neg (by omega), if_pos ⟨rfl, rfl⟩]
theorem passF_6 (LK BL : LF) (sv : Bool) (X : MW) (i : Nat) : passF LK BL sv X i 6 i = hadF sv X i := by
  unfold passF ateF upm
  rw [if_neg (by omega), if_pos ⟨rfl, rfl⟩]
theorem passF_7 (LK BL : LF) (sv : Bool) (X : MW) (i : Nat) : passF LK BL sv X i 7 i = goneF LK BL (ateF sv X i) i := by
  unfold passF
  exact upm_self _ _ _ _
theorem WF_pass {LK BL : LF} {sv : Bool} {X : MW} {i : Nat} (hi : i < 8) (w : WF X) : WF (passF LK BL sv X i) := by
  refine ⟨?_, ?_, fun k hk => ?_⟩
  · rw [passF_o LK BL sv X i (j := 0) (k := 10) (Or.inr (by omega))]
    exact w.1
  · rw [passF_o LK BL sv X i (j := 0) (k := 8) (Or.inr (by omega))]
    exact w.2.1
  · obtain ⟨w1, w2, w3, w4, w5, w6, w7⟩ := w.2.2 k hk
    rw [passF_o LK BL sv X i (j := 1) (k := k) (Or.inr (by omega)), passF_o LK BL sv X i (j := 2) (k := k) (Or.inr (by omega)), passF_o LK BL sv X i (j := 3) (k := k) (Or.inr (by omega)), passF_o LK BL sv X i (j := 5) (k := k) (Or.inr (by omega))]
    by_cases h : k = i
    · subst h
      rw [passF_4, passF_6, passF_7]
      exact ⟨w1, w2, w3, hungF_le, w5, hadF_le w6, goneF_01 _ _ _ _⟩
    · rw [passF_o LK BL sv X i (j := 4) (k := k) (Or.inl h), passF_o LK BL sv X i (j := 6) (k := k) (Or.inl h), passF_o LK BL sv X i (j := 7) (k := k) (Or.inl h)]
      exact ⟨w1, w2, w3, w4, w5, w6, w7⟩
theorem passN_s (LK BL : LF) (sv : Nat → Bool) (X : MW) (k : Nat) : passN LK BL sv X (k + 1) = if (X 7 k).toInt = 0 then passF LK BL (sv k) (passN LK BL sv X k) k else passN LK BL sv X k := rfl
theorem passN_o (LK BL : LF) (sv : Nat → Bool) (X : MW) {j i : Nat} : ∀ k, (k ≤ i ∨ (j ≠ 4 ∧ j ≠ 6 ∧ j ≠ 7)) → passN LK BL sv X k j i = X j i
  | 0, _ => rfl
  | k + 1, h => by
    rw [passN_s]
    have h2 := passN_o LK BL sv X (j := j) (i := i) k (by omega)
    split
    · rw [passF_o _ _ _ _ _ (by omega), h2]
    · exact h2
theorem WF_passN {LK BL : LF} {sv : Nat → Bool} {X : MW} (w : WF X) : ∀ k, k ≤ 8 → WF (passN LK BL sv X k)
  | 0, _ => w
  | k + 1, h => by
    rw [passN_s]
    have h2 := WF_passN (LK := LK) (BL := BL) (sv := sv) w k (by omega)
    split
    · exact WF_pass (by omega) h2
    · exact h2
theorem hungF_8 {sv : Bool} {X Y : MW} (h : Eq8 X Y) (i : Nat) : hungF sv Y i = hungF sv X i := by
  unfold hungF growsF
  rw [h 4 (by decide), h 6 (by decide), h 1 (by decide), h 2 (by decide), h 3 (by decide)]
theorem hadF_8 {sv : Bool} {X Y : MW} (h : Eq8 X Y) (i : Nat) : hadF sv Y i = hadF sv X i := by
  unfold hadF
  rw [h 6 (by decide)]
theorem ateF_8 {sv : Bool} {X Y : MW} (h : Eq8 X Y) (i : Nat) : Eq8 (ateF sv X i) (ateF sv Y i) := by
  unfold ateF
  rw [hungF_8 h, hadF_8 h]
  exact (h.up _ _ _).up _ _ _
theorem goneF_8 {LK BL : LF} {X Y : MW} (h : Eq8 X Y) (i : Nat) : goneF LK BL Y i = goneF LK BL X i := by
  unfold goneF
  rw [h 4 (by decide), h 6 (by decide), faceF_8 h]
theorem passF_8 {LK BL : LF} {sv : Bool} {X Y : MW} (h : Eq8 X Y) (i : Nat) : Eq8 (passF LK BL sv X i) (passF LK BL sv Y i) := by
  unfold passF
  rw [goneF_8 (ateF_8 h i)]
  exact (ateF_8 h i).up _ _ _
theorem passN_8 {LK BL : LF} {sv : Nat → Bool} {X Y : MW} (h : Eq8 X Y) : ∀ k, Eq8 (passN LK BL sv X k) (passN LK BL sv Y k)
  | 0 => h
  | k + 1 => by
    rw [passN_s, passN_s, h 7 (by decide)]
    split
    · exact passF_8 (passN_8 h k) k
    · exact passN_8 h k
theorem svF_8 {LK : LF} {X Y : MW} (h : Eq8 X Y) : svF LK Y = svF LK X := by
  have e : faceF LK Y = faceF LK X := funext (faceF_8 h)
  have e7 : Y 7 = X 7 := funext (h 7 (by decide))
  funext i
  unfold svF nOf
  rw [e, e7, h 0 (by decide), h 0 (by decide)]
theorem stepF_8 {LK BL : LF} {X Y : MW} (h : Eq8 X Y) : Eq8 (stepF LK BL X) (stepF LK BL Y) := by
  unfold stepF
  rw [svF_8 h, h 0 (by decide) 9, show nOf Y = nOf X by unfold nOf; rw [h 0 (by decide)]]
  exact (passN_8 h _).up _ _ _
theorem stepF_0 (LK BL : LF) (X : MW) {i : Nat} (hi : i ≠ 9) : stepF LK BL X 0 i = X 0 i := by
  unfold stepF
  rw [upm_j _ _ hi, passN_o _ _ _ _ _ (by omega)]
theorem stepF_o (LK BL : LF) (X : MW) {j : Nat} (i : Nat) (hj : j ≠ 0 ∧ j ≠ 4 ∧ j ≠ 6 ∧ j ≠ 7) : stepF LK BL X j i = X j i := by
  unfold stepF
  rw [upm_k _ _ hj.1, passN_o _ _ _ _ _ (by omega)]
theorem stepF_st (LK BL : LF) (X : MW) : stepF LK BL X 0 9 = X 0 9 + 1 := by
  unfold stepF
  exact upm_self _ _ _ _
theorem WF_step {LK BL : LF} {X : MW} (w : WF X) : WF (stepF LK BL X) := by
  obtain ⟨n, hn, hd⟩ := w.1
  have hnn : nOf X = n := by
    unfold nOf
    rw [hd]
    exact nI_clamp (by omega)
  have w2 := WF_passN (LK := LK) (BL := BL) (sv := svF LK X) w n hn
  refine ⟨?_, ?_, fun i hi => ?_⟩
  · rw [stepF_0 _ _ _ (by decide)]
    exact w.1
  · rw [stepF_0 _ _ _ (by decide)]
    exact w.2.1
  · have h3 := w2.2.2 i hi
    unfold stepF
    rw [hnn, upm_k _ _ (by decide), upm_k _ _ (by decide), upm_k _ _ (by decide), upm_k _ _ (by decide), upm_k _ _ (by decide), upm_k _ _ (by decide), upm_k _ _ (by decide)]
    exact h3
theorem WF_stepN {LK BL : LF} {X : MW} (w : WF X) : ∀ k, WF (stepN LK BL X k)
  | 0 => w
  | k + 1 => WF_step (WF_stepN w k)
theorem stepN_0 (LK BL : LF) (X : MW) {i : Nat} (hi : i ≠ 9) : ∀ k, stepN LK BL X k 0 i = X 0 i
  | 0 => rfl
  | k + 1 => (stepF_0 LK BL _ hi).trans (stepN_0 LK BL X hi k)
theorem stepN_o (LK BL : LF) (X : MW) {j : Nat} (i : Nat) (hj : j ≠ 0 ∧ j ≠ 4 ∧ j ≠ 6 ∧ j ≠ 7) : ∀ k, stepN LK BL X k j i = X j i
  | 0 => rfl
  | k + 1 => (stepF_o LK BL _ i hj).trans (stepN_o LK BL X i hj k)
theorem stepN_8 {LK BL : LF} {X Y : MW} (h : Eq8 X Y) : ∀ k, Eq8 (stepN LK BL X k) (stepN LK BL Y k)
  | 0 => h
  | k + 1 => stepF_8 (stepN_8 h k)
theorem nOf_stepN (LK BL : LF) (X : MW) (k : Nat) : nOf (stepN LK BL X k) = nOf X := by
  unfold nOf
  rw [stepN_0 LK BL X (by decide)]
end
section
/-! THE STEPS OF A TABLE -/
section
variable {xs : List Int32} {d : Nat} {h : AH} {Q : QT} {m : MW} {ln : Nat → Nat} {N : Nat}
set_option maxRecDepth 20000 in
set_option maxHeartbeats 40000000 in
theorem c_serveStep {t : Nat} {m0 X : MW} {x y : Int32} (ht : t < 4) (hL : LawsOk m0 ln N) (hA : AtX m0 t X m) (hx : X 0 11 = x) (hix : LawIx N x) (hy : X 0 12 = y) (hiy : LawIx N y) (hW : WF X) (hQ : ∀ X2 m2, Eq8 (stepF (lkF m0 ln x) (blF m0 ln y) X) X2 → AtX m0 t X2 m2 → Q (some (.int (nI (setF (lkF m0 ln x) X)))) (H m2 ln N)) : WP xs (d + 5) 40 0 0 [.ref (33 + 9 * t)] (H m ln N) Q := by
  refine wp_x mx_40 (L := [some (.ref (33 + 9 * t)), none, none]) (Nat.le_of_ble_eq_true rfl) rfl ?_
  obtain ⟨n, hn, hd⟩ := hW.1
  have hnn : nOf X = n := by unfold nOf; rw [hd]; exact nI_clamp (by omega)
  have hblt : ∀ q, bitsF (svF (lkF m0 ln x) X) q < 2 ^ q := bitsF_lt _
  have h256 : bitsF (svF (lkF m0 ln x) X) n < 256 := Nat.lt_of_lt_of_le (hblt n) (Nat.pow_le_pow_right (by decide) hn : 2 ^ n ≤ 2 ^ 8)
  have hset : setF (lkF m0 ln x) X = bitsF (svF (lkF m0 ln x) X) n := by unfold setF; rw [hnn]
  rw [hset] at hQ
  have hE8 := facesX_8 (faceF (lkF m0 ln x) X) X n
  have hWF := WF_c hE8 hW
  refine g_aload_n m40_0 rfl ?_
  refine h_cv (k := 1 + 9 * t) (p := 33 + 9 * t) (args := []) (rest := []) m40_1 cn_36 (Nat.le_of_ble_eq_true rfl) rfl rfl (pT 1 _) (tT ht) (Nat.le_of_ble_eq_true rfl) ?_
  refine c_seeFaces ht hL hA hx hix hW (fun m1 hA1 => ?_)
  rw [hnn] at hA1
  refine gwr0 ?_
  refine g_aload_n m40_4 rfl ?_
  refine h_cv (k := 1 + 9 * t) (p := 33 + 9 * t) (args := []) (rest := []) m40_5 cn_38 (Nat.le_of_ble_eq_true rfl) rfl rfl (pT 1 _) (tT ht) (Nat.le_of_ble_eq_true rfl) ?_
  refine c_served ht hA1 hn ((hE8 0 (by decide) 10).trans hd) ?_
  rw [set_f hnn]
  refine gwr ?_
  refine g_istore_n (L2 := [some (.ref (33 + 9 * t)), some (.int (nI (bitsF (svF (lkF m0 ln x) X) n))), none]) m40_8 rfl rfl ?_
  refine g_iconst m40_9 ?_
  refine g_istore_n (L2 := [some (.ref (33 + 9 * t)), some (.int (nI (bitsF (svF (lkF m0 ln x) X) n))), some (.int (0))]) m40_10 rfl rfl ?_
  have key : ∀ (r : Nat) (q : Nat) (m2 : MW), q + r = n → AtX m0 t (passN (lkF m0 ln x) (blF m0 ln y) (svF (lkF m0 ln x) X) (facesX (faceF (lkF m0 ln x) X) X n) q) m2 → gw xs (WP xs (d + 4)) 40 Q 11 [some (.ref (33 + 9 * t)), some (.int (nI (bitsF (svF (lkF m0 ln x) X) n))), some (.int (nI (q)))] [] (H m2 ln N) 0 0 := by
    intro r
    induction r with
    | zero =>
      intro q m2 hq hA2
      obtain rfl : q = n := by omega
      refine g_iload_n m40_11 rfl ?_
      refine g_aload_n m40_12 rfl ?_
      refine h_gfI (k := 1 + 9 * t) (p := 33 + 9 * t) m40_13 (pT 1 _) (tT ht) rfl ((hA2.rd ht (j := 0) (i := 10) (by decide)).trans ((passN_o _ _ _ _ _ (by omega)).trans ((hE8 0 (by decide) 10).trans hd))) ?_
      refine h_ic_geT (xi := ((q : Nat) : Int)) (zi := ((q : Nat) : Int)) m40_16 (nI_toInt (by omega)) (nI_toInt (by omega)) (by omega) ?_
      refine g_aload_n m40_44 rfl ?_
      refine g_dup m40_45 rfl ?_
      refine h_gfI (k := 1 + 9 * t) (p := 33 + 9 * t) m40_46 (pT 1 _) (tT ht) rfl (hA2.rd ht (j := 0) (i := 9) (by decide)) ?_
      refine g_iconst m40_49 ?_
      refine g_iadd m40_50 rfl ?_
      refine h_pfI (k := 1 + 9 * t) (p := 33 + 9 * t) m40_51 (pT 1 _) (tT ht) rfl trivial ?_
      have hAu1 := hA2.up ht (j := 0) (by decide) 9 ((passN (lkF m0 ln x) (blF m0 ln y) (svF (lkF m0 ln x) X) (facesX (faceF (lkF m0 ln x) X) X q) q) 0 9 + (1 : Int32))
      refine g_iload_n m40_54 rfl ?_
      refine g_iret m40_55 rt_40 ?_
      refine hQ _ _ ?_ hAu1
      have e9 : passN (lkF m0 ln x) (blF m0 ln y) (svF (lkF m0 ln x) X) (facesX (faceF (lkF m0 ln x) X) X q) q 0 9 = X 0 9 := (passN_o _ _ _ _ _ (by omega)).trans (hE8 0 (by decide) 9)
      rw [e9]
      unfold stepF
      rw [hnn]
      exact (passN_8 hE8 q).up _ _ _
    | succ r ih =>
      intro q m2 hq hA2
      have h7 : passN (lkF m0 ln x) (blF m0 ln y) (svF (lkF m0 ln x) X) (facesX (faceF (lkF m0 ln x) X) X n) q 7 q = (facesX (faceF (lkF m0 ln x) X) X n) 7 q := passN_o _ _ _ _ _ (by omega)
      have stepx : ∀ {i : Nat}, i ≠ 9 ∨ True → passN (lkF m0 ln x) (blF m0 ln y) (svF (lkF m0 ln x) X) (facesX (faceF (lkF m0 ln x) X) X n) q 0 i = X 0 i := fun _ => (passN_o _ _ _ _ _ (by omega)).trans (hE8 0 (by decide) _)
      refine g_iload_n m40_11 rfl ?_
      refine g_aload_n m40_12 rfl ?_
      refine h_gfI (k := 1 + 9 * t) (p := 33 + 9 * t) m40_13 (pT 1 _) (tT ht) rfl ((hA2.rd ht (j := 0) (i := 10) (by decide)).trans ((passN_o _ _ _ _ _ (by omega)).trans ((hE8 0 (by decide) 10).trans hd))) ?_
      refine h_ic_geF (xi := ((q : Nat) : Int)) (zi := ((n : Nat) : Int)) m40_16 (nI_toInt (by omega)) (nI_toInt (by omega)) (by omega) ?_
      refine g_aload_n m40_19 rfl ?_
      refine h_gfR (c := 40 + 9 * t) (k := 1 + 9 * t) (p := 33 + 9 * t) m40_20 (pT 1 _) (tT ht) rfl (le3 (Nat.le_of_ble_eq_true rfl)) ?_
      refine g_iload_n m40_23 rfl ?_
      refine h_bal (k := 8 + 9 * t) (p := 40 + 9 * t) (j := q) m40_24 (pT 8 _) (tA7 ht) (rfl) (by omega) (Nat.le_of_ble_eq_true rfl) (hA2.rd ht (j := 7) (i := q) (by decide)) ?_
      refine h_if_ne (xi := _) (zi := 0) m40_25 rfl rfl (fun c2 => ?_) (fun c2 => ?_)
      · skip
        refine g_aload_n m40_28 rfl ?_
        refine g_iload_n m40_29 rfl ?_
        refine g_iload_n m40_30 rfl ?_
        refine g_iload_n m40_31 rfl ?_
        refine g_cs (args := [.int (nI (bitsF (svF (lkF m0 ln x) X) n)), .int (nI (q))]) (rest := [.int (nI (q)), .ref (33 + 9 * t)]) 1 (Or.inr rfl) m40_32 (Nat.le_of_ble_eq_true rfl) rfl rfl (Nat.le_of_ble_eq_true rfl) ?_
        refine c_has (by omega) h256 ?_
        rw [bitsF_t _ _ _ (show q < n by omega)]
        refine gwr ?_
        cases hsv : svF (lkF m0 ln x) X q
        · skip
          show gw _ _ _ _ _ _ ((some (Value.int 0)).toList ++ _) _ _ _
          refine gwr ?_
          refine h_cv (k := 1 + 9 * t) (p := 33 + 9 * t) (args := [.int (nI (q)), .int (0)]) (rest := []) m40_35 cn_39 (Nat.le_of_ble_eq_true rfl) rfl rfl (pT 1 _) (tT ht) (Nat.le_of_ble_eq_true rfl) ?_
          refine c_pass0 ht hL hA2 ((stepx (by omega)).trans hx) hix ((stepx (by omega)).trans hy) hiy (WF_passN hWF q (by omega)) (by omega) (fun m_1 hA_2 => ?_)
          refine gwr0 ?_
          refine g_iinc (L2 := [some (.ref (33 + 9 * t)), some (.int (nI (bitsF (svF (lkF m0 ln x) X) n))), some (.int (nI (q + 1)))]) m40_38 rfl (nI_1 _) rfl rfl ?_
          refine g_goto m40_41 ?_
          exact ih (q + 1) _ (by omega) (by rw [passN_s, if_pos (by rw [← h7]; exact c2), hsv]; exact hA_2)
        · skip
          show gw _ _ _ _ _ _ ((some (Value.int 1)).toList ++ _) _ _ _
          refine gwr ?_
          refine h_cv (k := 1 + 9 * t) (p := 33 + 9 * t) (args := [.int (nI (q)), .int (1)]) (rest := []) m40_35 cn_39 (Nat.le_of_ble_eq_true rfl) rfl rfl (pT 1 _) (tT ht) (Nat.le_of_ble_eq_true rfl) ?_
          refine c_pass1 ht hL hA2 ((stepx (by omega)).trans hx) hix ((stepx (by omega)).trans hy) hiy (WF_passN hWF q (by omega)) (by omega) (fun m_3 hA_4 => ?_)
          refine gwr0 ?_
          refine g_iinc (L2 := [some (.ref (33 + 9 * t)), some (.int (nI (bitsF (svF (lkF m0 ln x) X) n))), some (.int (nI (q + 1)))]) m40_38 rfl (nI_1 _) rfl rfl ?_
          refine g_goto m40_41 ?_
          exact ih (q + 1) _ (by omega) (by rw [passN_s, if_pos (by rw [← h7]; exact c2), hsv]; exact hA_4)
      · skip
        refine g_iinc (L2 := [some (.ref (33 + 9 * t)), some (.int (nI (bitsF (svF (lkF m0 ln x) X) n))), some (.int (nI (q + 1)))]) m40_38 rfl (nI_1 _) rfl rfl ?_
        refine g_goto m40_41 ?_
        exact ih (q + 1) _ (by omega) (by rw [passN_s, if_neg (by rw [← h7]; exact c2)]; exact hA2)
  exact key n 0 _ (by omega) hA1
set_option maxRecDepth 20000 in
set_option maxHeartbeats 40000000 in
theorem c_goOn {t n : Nat} {m0 X : MW} {x y : Int32} (ht : t < 4) (hL : LawsOk m0 ln N) (hA : AtX m0 t X m) (hx : X 0 11 = x) (hix : LawIx N x) (hy : X 0 12 = y) (hiy : LawIx N y) (hW : WF X) (hn6 : n ≤ 100) (hQ : ∀ X2 m2, Eq8 (stepN (lkF m0 ln x) (blF m0 ln y) X n) X2 → AtX m0 t X2 m2 → Q none (H m2 ln N)) : WP xs (d + 6) 41 0 0 [.ref (33 + 9 * t), .int (nI (n))] (H m ln N) Q := by
  refine wp_x mx_41 (L := [some (.ref (33 + 9 * t)), some (.int (nI (n))), none]) (Nat.le_of_ble_eq_true rfl) rfl ?_
  have key : ∀ (r : Nat) (q : Nat) (m2 X2 : MW), q + r = n → Eq8 (stepN (lkF m0 ln x) (blF m0 ln y) X q) X2 → AtX m0 t X2 m2 → gw xs (WP xs (d + 5)) 41 Q 2 [some (.ref (33 + 9 * t)), some (.int (nI (n))), some (.int (nI (q)))] [] (H m2 ln N) 0 0 := by
    intro r
    induction r with
    | zero =>
      intro q m2 X2 hq h8 hA2
      obtain rfl : q = n := by omega
      refine g_iload_n m41_2 rfl ?_
      refine g_iload_n m41_3 rfl ?_
      refine h_ic_geT (xi := ((q : Nat) : Int)) (zi := ((q : Nat) : Int)) m41_4 (nI_toInt (by omega)) (nI_toInt (by omega)) (by omega) ?_
      refine g_vret m41_18 ?_
      exact hQ _ _ h8 hA2
    | succ r ih =>
      intro q m2 X2 hq h8 hA2
      refine g_iload_n m41_2 rfl ?_
      refine g_iload_n m41_3 rfl ?_
      refine h_ic_geF (xi := ((q : Nat) : Int)) (zi := ((n : Nat) : Int)) m41_4 (nI_toInt (by omega)) (nI_toInt (by omega)) (by omega) ?_
      refine g_aload_n m41_7 rfl ?_
      refine h_cv (k := 1 + 9 * t) (p := 33 + 9 * t) (args := []) (rest := []) m41_8 cn_40 (Nat.le_of_ble_eq_true rfl) rfl rfl (pT 1 _) (tT ht) (Nat.le_of_ble_eq_true rfl) ?_
      refine c_serveStep ht hL hA2 ((h8 0 (by decide) 11).trans ((stepN_0 _ _ _ (by decide) q).trans hx)) hix ((h8 0 (by decide) 12).trans ((stepN_0 _ _ _ (by decide) q).trans hy)) hiy (WF_c h8 (WF_stepN hW q)) (fun Y_5 m_6 e_7 hA_8 => ?_)
      refine gwr ?_
      refine g_pop m41_11 rfl ?_
      refine g_iinc (L2 := [some (.ref (33 + 9 * t)), some (.int (nI (n))), some (.int (nI (q + 1)))]) m41_12 rfl (nI_1 _) rfl rfl ?_
      refine g_goto m41_15 ?_
      exact ih (q + 1) _ _ (by omega) ((stepF_8 h8).tr e_7) hA_8
  refine g_iconst m41_0 ?_
  refine g_istore_n (L2 := [some (.ref (33 + 9 * t)), some (.int (nI (n))), some (.int (0))]) m41_1 rfl rfl ?_
  exact key n 0 _ _ (by omega) Eq8.rf hA
def moreAt (LK BL : LF) (X : MW) (i q : Nat) : Bool := decide ((X 6 i).toInt < (stepN LK BL X q 6 i).toInt)
/-- from step q on, r steps more -/
def firstF (LK BL : LF) (X : MW) (i : Nat) : Nat → Nat → Nat
  | 0, _ => 0
  | r + 1, q => if moreAt LK BL X i q = true then q else firstF LK BL X i r (q + 1)
set_option maxRecDepth 20000 in
set_option maxHeartbeats 40000000 in
theorem c_stepWithMore {t n i : Nat} {m0 X : MW} {x y : Int32} (ht : t < 4) (hL : LawsOk m0 ln N) (hA : AtX m0 t X m) (hx : X 0 11 = x) (hix : LawIx N x) (hy : X 0 12 = y) (hiy : LawIx N y) (hW : WF X) (hi : i < 8) (hn6 : n ≤ 100) (hQ : ∀ X2 m2, AtX m0 t X2 m2 → Q (some (.int (nI (firstF (lkF m0 ln x) (blF m0 ln y) X i n 1)))) (H m2 ln N)) : WP xs (d + 6) 42 0 0 [.ref (33 + 9 * t), .int (nI (i)), .int (nI (n))] (H m ln N) Q := by
  refine wp_x mx_42 (L := [some (.ref (33 + 9 * t)), some (.int (nI (i))), some (.int (nI (n))), none, none]) (Nat.le_of_ble_eq_true rfl) rfl ?_
  have key : ∀ (r : Nat) (q : Nat) (m2 X2 : MW), q + r = n → Eq8 (stepN (lkF m0 ln x) (blF m0 ln y) X q) X2 → AtX m0 t X2 m2 → firstF (lkF m0 ln x) (blF m0 ln y) X i r (q + 1) = firstF (lkF m0 ln x) (blF m0 ln y) X i n 1 → gw xs (WP xs (d + 5)) 42 Q 10 [some (.ref (33 + 9 * t)), some (.int (nI (i))), some (.int (nI (n))), some (.int (X 6 i)), some (.int (nI (q + 1)))] [] (H m2 ln N) 0 0 := by
    intro r
    induction r with
    | zero =>
      intro q m2 X2 hq h8 hA2 hf
      refine g_iload m42_10 rfl ?_
      refine g_iload_n m42_12 rfl ?_
      refine h_ic_gtT (xi := ((q + 1 : Nat) : Int)) (zi := ((n : Nat) : Int)) m42_13 (nI_toInt (by omega)) (nI_toInt (by omega)) (by omega) ?_
      refine g_iconst m42_40 ?_
      refine g_iret m42_41 rt_42 ?_
      rw [← hf] at hQ
      exact hQ _ _ hA2
    | succ r ih =>
      intro q m2 X2 hq h8 hA2 hf
      refine g_iload m42_10 rfl ?_
      refine g_iload_n m42_12 rfl ?_
      refine h_ic_gtF (xi := ((q + 1 : Nat) : Int)) (zi := ((n : Nat) : Int)) m42_13 (nI_toInt (by omega)) (nI_toInt (by omega)) (by omega) ?_
      refine g_aload_n m42_16 rfl ?_
      refine h_cv (k := 1 + 9 * t) (p := 33 + 9 * t) (args := []) (rest := []) m42_17 cn_40 (Nat.le_of_ble_eq_true rfl) rfl rfl (pT 1 _) (tT ht) (Nat.le_of_ble_eq_true rfl) ?_
      refine c_serveStep ht hL hA2 ((h8 0 (by decide) 11).trans ((stepN_0 _ _ _ (by decide) q).trans hx)) hix ((h8 0 (by decide) 12).trans ((stepN_0 _ _ _ (by decide) q).trans hy)) hiy (WF_c h8 (WF_stepN hW q)) (fun Y_9 m_10 e_11 hA_12 => ?_)
      refine gwr ?_
      refine g_pop m42_20 rfl ?_
      refine g_aload_n m42_21 rfl ?_
      refine h_gfR (c := 39 + 9 * t) (k := 1 + 9 * t) (p := 33 + 9 * t) m42_22 (pT 1 _) (tT ht) rfl (le3 (Nat.le_of_ble_eq_true rfl)) ?_
      refine g_iload_n m42_25 rfl ?_
      refine h_ial (k := 7 + 9 * t) (p := 39 + 9 * t) (j := i) m42_26 (pT 7 _) (tA6 ht) (rfl) (by omega) (Nat.le_of_ble_eq_true rfl) (hA_12.rd ht (j := 6) (i := i) (by decide)) ?_
      refine g_iload_n m42_27 rfl ?_
      refine h_ic_le (xi := _) (zi := _) m42_28 rfl rfl (fun c1 => ?_) (fun c1 => ?_)
      · skip
        refine g_iinc (L2 := [some (.ref (33 + 9 * t)), some (.int (nI (i))), some (.int (nI (n))), some (.int (X 6 i)), some (.int (nI ((q + 1) + 1)))]) m42_34 rfl (nI_1 _) rfl rfl ?_
        refine g_goto m42_37 ?_
        have e6 : Y_9 6 i = stepN (lkF m0 ln x) (blF m0 ln y) X (q + 1) 6 i := ((stepF_8 h8).tr e_11) 6 (by decide) i
        rw [e6] at c1
        have e : firstF (lkF m0 ln x) (blF m0 ln y) X i (r + 1) (q + 1) = firstF (lkF m0 ln x) (blF m0 ln y) X i r (q + 1 + 1) := if_neg (by unfold moreAt; rw [decide_eq_true_eq]; omega)
        exact ih (q + 1) _ _ (by omega) ((stepF_8 h8).tr e_11) hA_12 (by rw [← e]; exact hf)
      · skip
        refine g_iload m42_31 rfl ?_
        refine g_iret m42_33 rt_42 ?_
        have e6 : Y_9 6 i = stepN (lkF m0 ln x) (blF m0 ln y) X (q + 1) 6 i := ((stepF_8 h8).tr e_11) 6 (by decide) i
        rw [e6] at c1
        have e : firstF (lkF m0 ln x) (blF m0 ln y) X i (r + 1) (q + 1) = q + 1 := if_pos (decide_eq_true (by omega))
        rw [← hf, e] at hQ
        exact hQ _ _ hA_12
  refine g_aload_n m42_0 rfl ?_
  refine h_gfR (c := 39 + 9 * t) (k := 1 + 9 * t) (p := 33 + 9 * t) m42_1 (pT 1 _) (tT ht) rfl (le3 (Nat.le_of_ble_eq_true rfl)) ?_
  refine g_iload_n m42_4 rfl ?_
  refine h_ial (k := 7 + 9 * t) (p := 39 + 9 * t) (j := i) m42_5 (pT 7 _) (tA6 ht) (rfl) (by omega) (Nat.le_of_ble_eq_true rfl) (hA.rd ht (j := 6) (i := i) (by decide)) ?_
  refine g_istore_n (L2 := [some (.ref (33 + 9 * t)), some (.int (nI (i))), some (.int (nI (n))), some (.int (X 6 i)), none]) m42_6 rfl rfl ?_
  refine g_iconst m42_7 ?_
  refine g_istore (L2 := [some (.ref (33 + 9 * t)), some (.int (nI (i))), some (.int (nI (n))), some (.int (X 6 i)), some (.int (1))]) m42_8 rfl rfl ?_
  exact key n 0 _ _ (by omega) Eq8.rf hA rfl
def sumF (w : Nat → Int32) : Nat → Int32
  | 0 => 0
  | n + 1 => sumF w n + w n
set_option maxRecDepth 20000 in
set_option maxHeartbeats 40000000 in
theorem c_hungerOfAll {t n : Nat} {m0 X : MW} (ht : t < 4) (hA : AtX m0 t X m) (hn : n ≤ 8) (hd : X 0 10 = nI n) (hQ : Q (some (.int (sumF (X 4) n))) (H m ln N)) : WP xs (d + 1) 45 0 0 [.ref (33 + 9 * t)] (H m ln N) Q := by
  refine wp_x mx_45 (L := [some (.ref (33 + 9 * t)), none, none]) (Nat.le_of_ble_eq_true rfl) rfl ?_
  have key : ∀ (r : Nat) (q : Nat), q + r = n → gw xs (WP xs (d)) 45 Q 4 [some (.ref (33 + 9 * t)), some (.int (sumF (X 4) q)), some (.int (nI (q)))] [] (H m ln N) 0 0 := by
    intro r
    induction r with
    | zero =>
      intro q hq
      obtain rfl : q = n := by omega
      refine g_iload_n m45_4 rfl ?_
      refine g_aload_n m45_5 rfl ?_
      refine h_gfI (k := 1 + 9 * t) (p := 33 + 9 * t) m45_6 (pT 1 _) (tT ht) rfl ((hA.rd ht (j := 0) (i := 10) (by decide)).trans (hd)) ?_
      refine h_ic_geT (xi := ((q : Nat) : Int)) (zi := ((q : Nat) : Int)) m45_9 (nI_toInt (by omega)) (nI_toInt (by omega)) (by omega) ?_
      refine g_iload_n m45_27 rfl ?_
      refine g_iret m45_28 rt_45 ?_
      exact hQ
    | succ r ih =>
      intro q hq
      refine g_iload_n m45_4 rfl ?_
      refine g_aload_n m45_5 rfl ?_
      refine h_gfI (k := 1 + 9 * t) (p := 33 + 9 * t) m45_6 (pT 1 _) (tT ht) rfl ((hA.rd ht (j := 0) (i := 10) (by decide)).trans (hd)) ?_
      refine h_ic_geF (xi := ((q : Nat) : Int)) (zi := ((n : Nat) : Int)) m45_9 (nI_toInt (by omega)) (nI_toInt (by omega)) (by omega) ?_
      refine g_iload_n m45_12 rfl ?_
      refine g_aload_n m45_13 rfl ?_
      refine h_gfR (c := 37 + 9 * t) (k := 1 + 9 * t) (p := 33 + 9 * t) m45_14 (pT 1 _) (tT ht) rfl (le3 (Nat.le_of_ble_eq_true rfl)) ?_
      refine g_iload_n m45_17 rfl ?_
      refine h_ial (k := 5 + 9 * t) (p := 37 + 9 * t) (j := q) m45_18 (pT 5 _) (tA4 ht) (rfl) (by omega) (Nat.le_of_ble_eq_true rfl) (hA.rd ht (j := 4) (i := q) (by decide)) ?_
      refine g_iadd m45_19 rfl ?_
      refine g_istore_n (L2 := [some (.ref (33 + 9 * t)), some (.int ((sumF (X 4) q + X 4 q))), some (.int (nI (q)))]) m45_20 rfl rfl ?_
      refine g_iinc (L2 := [some (.ref (33 + 9 * t)), some (.int ((sumF (X 4) q + X 4 q))), some (.int (nI (q + 1)))]) m45_21 rfl (nI_1 _) rfl rfl ?_
      refine g_goto m45_24 ?_
      exact ih (q + 1) (by omega)
  refine g_iconst m45_0 ?_
  refine g_istore_n (L2 := [some (.ref (33 + 9 * t)), some (.int (0)), none]) m45_1 rfl rfl ?_
  refine g_iconst m45_2 ?_
  refine g_istore_n (L2 := [some (.ref (33 + 9 * t)), some (.int (0)), some (.int (0))]) m45_3 rfl rfl ?_
  exact key n 0 (by omega)
set_option maxRecDepth 20000 in
set_option maxHeartbeats 40000000 in
theorem c_hadByAll {t n : Nat} {m0 X : MW} (ht : t < 4) (hA : AtX m0 t X m) (hn : n ≤ 8) (hd : X 0 10 = nI n) (hQ : Q (some (.int (sumF (X 6) n))) (H m ln N)) : WP xs (d + 1) 47 0 0 [.ref (33 + 9 * t)] (H m ln N) Q := by
  refine wp_x mx_47 (L := [some (.ref (33 + 9 * t)), none, none]) (Nat.le_of_ble_eq_true rfl) rfl ?_
  have key : ∀ (r : Nat) (q : Nat), q + r = n → gw xs (WP xs (d)) 47 Q 4 [some (.ref (33 + 9 * t)), some (.int (sumF (X 6) q)), some (.int (nI (q)))] [] (H m ln N) 0 0 := by
    intro r
    induction r with
    | zero =>
      intro q hq
      obtain rfl : q = n := by omega
      refine g_iload_n m47_4 rfl ?_
      refine g_aload_n m47_5 rfl ?_
      refine h_gfI (k := 1 + 9 * t) (p := 33 + 9 * t) m47_6 (pT 1 _) (tT ht) rfl ((hA.rd ht (j := 0) (i := 10) (by decide)).trans (hd)) ?_
      refine h_ic_geT (xi := ((q : Nat) : Int)) (zi := ((q : Nat) : Int)) m47_9 (nI_toInt (by omega)) (nI_toInt (by omega)) (by omega) ?_
      refine g_iload_n m47_27 rfl ?_
      refine g_iret m47_28 rt_47 ?_
      exact hQ
    | succ r ih =>
      intro q hq
      refine g_iload_n m47_4 rfl ?_
      refine g_aload_n m47_5 rfl ?_
      refine h_gfI (k := 1 + 9 * t) (p := 33 + 9 * t) m47_6 (pT 1 _) (tT ht) rfl ((hA.rd ht (j := 0) (i := 10) (by decide)).trans (hd)) ?_
      refine h_ic_geF (xi := ((q : Nat) : Int)) (zi := ((n : Nat) : Int)) m47_9 (nI_toInt (by omega)) (nI_toInt (by omega)) (by omega) ?_
      refine g_iload_n m47_12 rfl ?_
      refine g_aload_n m47_13 rfl ?_
      refine h_gfR (c := 39 + 9 * t) (k := 1 + 9 * t) (p := 33 + 9 * t) m47_14 (pT 1 _) (tT ht) rfl (le3 (Nat.le_of_ble_eq_true rfl)) ?_
      refine g_iload_n m47_17 rfl ?_
      refine h_ial (k := 7 + 9 * t) (p := 39 + 9 * t) (j := q) m47_18 (pT 7 _) (tA6 ht) (rfl) (by omega) (Nat.le_of_ble_eq_true rfl) (hA.rd ht (j := 6) (i := q) (by decide)) ?_
      refine g_iadd m47_19 rfl ?_
      refine g_istore_n (L2 := [some (.ref (33 + 9 * t)), some (.int ((sumF (X 6) q + X 6 q))), some (.int (nI (q)))]) m47_20 rfl rfl ?_
      refine g_iinc (L2 := [some (.ref (33 + 9 * t)), some (.int ((sumF (X 6) q + X 6 q))), some (.int (nI (q + 1)))]) m47_21 rfl (nI_1 _) rfl rfl ?_
      refine g_goto m47_24 ?_
      exact ih (q + 1) (by omega)
  refine g_iconst m47_0 ?_
  refine g_istore_n (L2 := [some (.ref (33 + 9 * t)), some (.int (0)), none]) m47_1 rfl rfl ?_
  refine g_iconst m47_2 ?_
  refine g_istore_n (L2 := [some (.ref (33 + 9 * t)), some (.int (0)), some (.int (0))]) m47_3 rfl rfl ?_
  exact key n 0 (by omega)
end
end
section
/-! THE GRAMMAR, in numbers: codes, place, whether it is one -/
abbrev PR3 : Type := List Int32 × Nat × Bool
def bt (B : Nat → Int32) (n p : Nat) : Int := if p < n then (B p).toInt else -1
def isDig (b : Int) : Bool := decide (48 ≤ b ∧ b ≤ 57)
/-- up to k digits more: the number, the place behind -/
def numP (B : Nat → Int32) (n : Nat) : Nat → Nat → Nat → Nat × Nat
  | 0, v, p => (v, p)
  | k + 1, v, p => if isDig (bt B n p) = true then numP B n k (10 * v + ((bt B n p).toNat - 48)) (p + 1) else (v, p)
def nam1 (u : Nat) : Int := if u = 0 then 99 else 102
def nam2 (u : Nat) : Int := if u = 0 then 115 else 99
def nameP (u : Nat) (b : Int) : Option Int32 := if b = 104 then some 0 else if b = nam1 u then some 1 else if b = nam2 u then some 2 else none
def signP (lv : Nat) (b : Int) : Bool := match lv with
  | 0 => decide (b = 124)
  | 1 => decide (b = 38)
  | 2 => decide (b = 60 ∨ b = 61 ∨ b = 62)
  | 3 => decide (b = 43 ∨ b = 45)
  | _ => decide (b = 42 ∨ b = 47 ∨ b = 37)
def PLoop (rec : Nat → PR3) (B : Nat → Int32) (n lv : Nat) : Nat → PR3 → PR3
  | 0, r => r
  | k + 1, r => if r.2.2 = true ∧ signP lv (bt B n r.2.1) = true then PLoop rec B n lv k (r.1 ++ (rec (r.2.1 + 1)).1 ++ [Int32.ofInt (bt B n r.2.1)], (rec (r.2.1 + 1)).2.1, (rec (r.2.1 + 1)).2.2) else r
def PQ (rec5 rec0 : Nat → PR3) (B : Nat → Int32) (n u op p : Nat) : PR3 :=
  if isDig (bt B n p) = true then ([nI (1000 + (numP B n 4 0 p).1)], (numP B n 4 0 p).2, true)
  else match nameP u (bt B n p) with
  | some k => ([k], p + 1, true)
  | none =>
    if bt B n p = 33 ∧ op < 5 then ((rec5 (p + 1)).1 ++ [33], (rec5 (p + 1)).2)
    else if bt B n p = 40 ∧ op < 5 then (if (rec0 (p + 1)).2.2 = true ∧ bt B n (rec0 (p + 1)).2.1 = 41 then ((rec0 (p + 1)).1, (rec0 (p + 1)).2.1 + 1, true) else ((rec0 (p + 1)).1, (rec0 (p + 1)).2.1, false))
    else ([], p, false)
/-- level lv (0 to 4: T, A, B, S, P; 5: Q) from place p on, op of ! and ( open; f: more than it can need -/
def PL (B : Nat → Int32) (n u : Nat) : Nat → Nat → Nat → Nat → PR3
  | 0, _, _, p => ([], p, false)
  | f + 1, lv, op, p => if lv < 5 then PLoop (PL B n u f (lv + 1) op) B n lv (if lv = 2 then 1 else 50) (PL B n u f (lv + 1) op p)
    else PQ (PL B n u f 5 (op + 1)) (PL B n u f 0 (op + 1)) B n u op p
end
section
/-! THE GRAMMAR: what it gives is well made -/
theorem evS_app (a b c : Int32) : ∀ (xs ys s : List Int32), evS a b c (xs ++ ys) s = (evS a b c xs s).bind (evS a b c ys)
  | [], ys, s => rfl
  | k :: xs, ys, s => by
    show (evI a b c k s).bind (evS a b c (xs ++ ys)) = ((evI a b c k s).bind (evS a b c xs)).bind (evS a b c ys)
    cases evI a b c k s with
    | none => rfl
    | some t => exact evS_app a b c xs ys t
theorem evS_1 {a b c k : Int32} {s t : List Int32} (h : evI a b c k s = some t) : evS a b c [k] s = some t := by
  show (evI a b c k s).bind (evS a b c []) = _
  rw [h]
  rfl
/-- what a sign makes of two -/
def binV (k p q : Int32) : Int32 := if k = 43 then p + q else if k = 45 then p - q else if k = 42 then p * q
  else if k = 47 then (if q.toInt = 0 then 0 else p / q) else if k = 37 then (if q.toInt = 0 then 0 else p - p / q * q)
  else if k = 60 then (if p.toInt < q.toInt then 1 else 0) else if k = 61 then (if p.toInt = q.toInt then 1 else 0) else if k = 62 then (if q.toInt < p.toInt then 1 else 0)
  else if k = 38 then (if p.toInt ≠ 0 ∧ q.toInt ≠ 0 then 1 else 0) else (if p.toInt ≠ 0 ∨ q.toInt ≠ 0 then 1 else 0)
theorem signP_in {lv : Nat} {b : Int} (h : signP lv b = true) : b = 124 ∨ b = 38 ∨ b = 60 ∨ b = 61 ∨ b = 62 ∨ b = 43 ∨ b = 45 ∨ b = 42 ∨ b = 47 ∨ b = 37 := by
  unfold signP at h
  split at h <;> rw [decide_eq_true_eq] at h <;> omega
theorem ev_bin {a b c p q : Int32} {r : List Int32} {lv : Nat} {z : Int} (h : signP lv z = true) : evI a b c (Int32.ofInt z) (q :: p :: r) = some (binV (Int32.ofInt z) p q :: r) := by
  rcases signP_in h with e | e | e | e | e | e | e | e | e | e <;> subst e <;> rfl
theorem CodeOk_bin {c1 c2 : List Int32} {lv : Nat} {z : Int} (h1 : CodeOk c1) (h2 : CodeOk c2) (h : signP lv z = true) : CodeOk (c1 ++ c2 ++ [Int32.ofInt z]) := by
  intro a b c
  obtain ⟨v1, e1⟩ := h1 a b c
  obtain ⟨v2, e2⟩ := h2 a b c
  refine ⟨binV (Int32.ofInt z) v1 v2, fun s => ?_⟩
  rw [evS_app, evS_app, e1 s]
  show ((evS a b c c2 (v1 :: s)).bind _) = _
  rw [e2 (v1 :: s)]
  exact evS_1 (ev_bin h)
theorem CodeOk_not {c1 : List Int32} (h1 : CodeOk c1) : CodeOk (c1 ++ [33]) := by
  intro a b c
  obtain ⟨v1, e1⟩ := h1 a b c
  refine ⟨if v1.toInt = 0 then 1 else 0, fun s => ?_⟩
  rw [evS_app, e1 s]
  show evS a b c [33] (v1 :: s) = _
  exact evS_1 ev_33
theorem CodeOk_num {x : Nat} (h : x < 10000) : CodeOk [nI (1000 + x)] := by
  intro a b c
  refine ⟨nI (1000 + x) - 1000, fun s => evS_1 (ev_n ?_ ?_ ?_ ?_)⟩
  · exact nI_ne0 (by omega) (by omega)
  · intro e
    have h2 := (nI_eq (a := 1000 + x) (b := 1) (by omega) (by omega)).mp e
    omega
  · intro e
    have h2 := (nI_eq (a := 1000 + x) (b := 2) (by omega) (by omega)).mp e
    omega
  · rw [nI_toInt (by omega)]
    omega
theorem CodeOk_name {u : Nat} {b : Int} {k : Int32} (h : nameP u b = some k) : CodeOk [k] := by
  intro a2 b2 c2
  unfold nameP at h
  split at h
  · cases h
    exact ⟨a2, fun s => evS_1 ev_0⟩
  · split at h
    · cases h
      exact ⟨b2, fun s => evS_1 ev_1⟩
    · split at h
      · cases h
        exact ⟨c2, fun s => evS_1 ev_2⟩
      · cases h
theorem nameP_in {u : Nat} {b : Int} {k : Int32} (h : nameP u b = some k) : 0 ≤ b := by
  unfold nameP at h
  by_cases h1 : b = 104
  · omega
  · rw [if_neg h1] at h
    by_cases h2 : b = nam1 u
    · rw [h2]
      unfold nam1
      split <;> decide
    · rw [if_neg h2] at h
      by_cases h3 : b = nam2 u
      · rw [h3]
        unfold nam2
        split <;> decide
      · rw [if_neg h3] at h
        cases h
theorem bt_lt {B : Nat → Int32} {n p : Nat} (h : 0 ≤ bt B n p) : p < n := by
  unfold bt at h
  split at h
  · assumption
  · omega
theorem isDig_e {b : Int} (h : isDig b = true) : 48 ≤ b ∧ b ≤ 57 := by
  unfold isDig at h
  exact of_decide_eq_true h
theorem isDig_f {b : Int} (h : ¬ isDig b = true) : ¬ (48 ≤ b ∧ b ≤ 57) := fun q => h (by unfold isDig; exact decide_eq_true q)
theorem numP_ok (B : Nat → Int32) (n : Nat) : ∀ k v p, p ≤ n → p ≤ (numP B n k v p).2 ∧ (numP B n k v p).2 ≤ n ∧ (numP B n k v p).1 < (v + 1) * 10 ^ k
  | 0, v, p, hp => ⟨Nat.le_refl _, hp, by show v < (v + 1) * 10 ^ 0; omega⟩
  | k + 1, v, p, hp => by
    unfold numP
    have h10 : 1 ≤ 10 ^ k := Nat.le_trans (by decide : 1 ≤ 10 ^ 0) (Nat.pow_le_pow_right (by decide) (Nat.zero_le k))
    split
    · rename_i hd
      have h1 := isDig_e hd
      have h2 := bt_lt (B := B) (n := n) (p := p) (by omega)
      obtain ⟨a1, a2, a3⟩ := numP_ok B n k (10 * v + ((bt B n p).toNat - 48)) (p + 1) h2
      refine ⟨by omega, a2, Nat.lt_of_lt_of_le a3 ?_⟩
      rw [Nat.pow_succ]
      have h3 : 10 * v + ((bt B n p).toNat - 48) + 1 ≤ (v + 1) * 10 := by omega
      calc (10 * v + ((bt B n p).toNat - 48) + 1) * 10 ^ k ≤ ((v + 1) * 10) * 10 ^ k := Nat.mul_le_mul_right _ h3
        _ = (v + 1) * (10 ^ k * 10) := by rw [Nat.mul_assoc, Nat.mul_comm 10]
    · refine ⟨Nat.le_refl _, hp, ?_⟩
      rw [Nat.pow_succ]
      have : v + 1 ≤ (v + 1) * (10 ^ k * 10) := Nat.le_mul_of_pos_right _ (by omega)
      omega
/-- a reading from place p on -/
def GoodR (n p : Nat) (r : PR3) : Prop := p ≤ r.2.1 ∧ r.2.1 ≤ n ∧ (r.2.2 = true → p < r.2.1 ∧ CodeOk r.1 ∧ r.1.length ≤ r.2.1 - p)
theorem PLoop_ok {rec : Nat → PR3} {B : Nat → Int32} {n lv p : Nat} (hr : ∀ q, q ≤ n → GoodR n q (rec q)) : ∀ k r, GoodR n p r → GoodR n p (PLoop rec B n lv k r)
  | 0, r, h => h
  | k + 1, r, h => by
    unfold PLoop
    split
    · rename_i hc
      obtain ⟨c1, c2⟩ := hc
      have hin := signP_in c2
      have hlt := bt_lt (B := B) (n := n) (p := r.2.1) (by omega)
      have h2 := hr (r.2.1 + 1) hlt
      apply PLoop_ok hr k
      obtain ⟨g1, g2, g3⟩ := h
      obtain ⟨i1, i2, i3⟩ := h2
      obtain ⟨g4, g5, g6⟩ := g3 c1
      refine ⟨?_, i2, fun ho => ?_⟩
      · show p ≤ (rec (r.2.1 + 1)).2.1
        omega
      · obtain ⟨i4, i5, i6⟩ := i3 ho
        refine ⟨?_, CodeOk_bin g5 i5 c2, ?_⟩
        · show p < (rec (r.2.1 + 1)).2.1
          omega
        · show (r.1 ++ (rec (r.2.1 + 1)).1 ++ [Int32.ofInt (bt B n r.2.1)]).length ≤ (rec (r.2.1 + 1)).2.1 - p
          rw [List.length_append, List.length_append, List.length_singleton]
          omega
    · exact h
theorem PL_ok (B : Nat → Int32) (n u : Nat) : ∀ f lv op p, p ≤ n → GoodR n p (PL B n u f lv op p)
  | 0, lv, op, p, hp => ⟨Nat.le_refl _, hp, fun h => by cases h⟩
  | f + 1, lv, op, p, hp => by
    unfold PL
    split
    · exact PLoop_ok (fun q hq => PL_ok B n u f (lv + 1) op q hq) _ _ (PL_ok B n u f (lv + 1) op p hp)
    · unfold PQ
      split
      · rename_i hd
        have h1 := isDig_e hd
        have h2 := bt_lt (B := B) (n := n) (p := p) (by omega)
        obtain ⟨a1, a2, a3⟩ := numP_ok B n 4 0 p hp
        have a4 : p + 1 ≤ (numP B n 4 0 p).2 := by
          unfold numP
          rw [if_pos hd]
          exact (numP_ok B n 3 _ (p + 1) h2).1
        refine ⟨a1, a2, fun _ => ⟨a4, CodeOk_num (by omega), ?_⟩⟩
        show 1 ≤ (numP B n 4 0 p).2 - p
        omega
      · split
        · rename_i k hk
          have h2 : p < n := bt_lt (nameP_in hk)
          refine ⟨Nat.le_succ _, h2, fun _ => ⟨Nat.lt_succ_self _, CodeOk_name hk, ?_⟩⟩
          show 1 ≤ p + 1 - p
          omega
        · split
          · rename_i hb
            have h2 := bt_lt (B := B) (n := n) (p := p) (by omega)
            obtain ⟨g1, g2, g3⟩ := PL_ok B n u f 5 (op + 1) (p + 1) h2
            refine ⟨?_, g2, fun ho => ?_⟩
            · show p ≤ (PL B n u f 5 (op + 1) (p + 1)).2.1
              omega
            · obtain ⟨g4, g5, g6⟩ := g3 ho
              refine ⟨?_, CodeOk_not g5, ?_⟩
              · show p < (PL B n u f 5 (op + 1) (p + 1)).2.1
                omega
              · show ((PL B n u f 5 (op + 1) (p + 1)).1 ++ [33]).length ≤ (PL B n u f 5 (op + 1) (p + 1)).2.1 - p
                rw [List.length_append, List.length_singleton]
                omega
          · split
            · rename_i hb
              have h2 := bt_lt (B := B) (n := n) (p := p) (by omega)
              obtain ⟨g1, g2, g3⟩ := PL_ok B n u f 0 (op + 1) (p + 1) h2
              split
              · rename_i hc
                obtain ⟨g4, g5, g6⟩ := g3 hc.1
                have h3 := bt_lt (B := B) (n := n) (p := (PL B n u f 0 (op + 1) (p + 1)).2.1) (by omega)
                refine ⟨?_, h3, fun _ => ⟨?_, g5, ?_⟩⟩
                · show p ≤ (PL B n u f 0 (op + 1) (p + 1)).2.1 + 1
                  omega
                · show p < (PL B n u f 0 (op + 1) (p + 1)).2.1 + 1
                  omega
                · show (PL B n u f 0 (op + 1) (p + 1)).1.length ≤ (PL B n u f 0 (op + 1) (p + 1)).2.1 + 1 - p
                  omega
              · refine ⟨?_, g2, fun h => by cases h⟩
                show p ≤ (PL B n u f 0 (op + 1) (p + 1)).2.1
                omega
            · exact ⟨Nat.le_refl _, hp, fun h => by cases h⟩
end
section
/-! STRINGS -/
section
variable {xs : List Int32} {d : Nat} {h : AH} {Q : QT} {m : MW} {ln : Nat → Nat} {N : Nat}
theorem ro_s {xs : List Int32} {h : AH} {s : Nat} (hs : s < 8) : smC xs h (3 + s) = some (.inr (60, [.ref (11 + s), .int 0])) := by
  rcases (show s = 0 ∨ s = 1 ∨ s = 2 ∨ s = 3 ∨ s = 4 ∨ s = 5 ∨ s = 6 ∨ s = 7 by omega) with rfl | rfl | rfl | rfl | rfl | rfl | rfl | rfl <;> rfl
theorem ro_b {xs : List Int32} {h : AH} {s : Nat} (hs : s < 8) : smC xs h (11 + s) = some (.inl (3, roB s)) := by
  rcases (show s = 0 ∨ s = 1 ∨ s = 2 ∨ s = 3 ∨ s = 4 ∨ s = 5 ∨ s = 6 ∨ s = 7 by omega) with rfl | rfl | rfl | rfl | rfl | rfl | rfl | rfl <;> rfl
theorem roB_len : ∀ s, s < 8 → 1 ≤ (roB s).length ∧ (roB s).length ≤ 3 := by decide +kernel
theorem roB_rng : ∀ s, s < 8 → ∀ q, q < (roB s).length → 0 ≤ ((roB s).getD q 0).toInt ∧ ((roB s).getD q 0).toInt < 128 := by decide +kernel
theorem by_c : ∀ c, c < 256 → (c < 128 → (nI c).toInt8.toInt32 = nI c) ∧ (128 ≤ c → ((nI c).toInt8.toInt32).toInt < 0) := by decide +kernel
/-- where a sign stands in a row of them; -1: it doesn't -/
def ixL : List Int32 → Int → Int → Int
  | [], _, _ => -1
  | y :: ys, c, i => if y.toInt = c then i else ixL ys c (i + 1)
def ixS (s c : Nat) : Int := ixL (roB s) c 0
theorem ix_drop {s q : Nat} (hq : q < (roB s).length) (c : Int) : ixL ((roB s).drop q) c q = if ((roB s).getD q 0).toInt = c then (q : Int) else ixL ((roB s).drop (q + 1)) c ((q + 1 : Nat) : Int) := by
  rw [List.drop_eq_getElem_cons hq, List.getD_eq_getElem?_getD, List.getElem?_eq_getElem hq]
  rfl
theorem h_bret {xs : List Int32} {d y : Nat} {Q : QT} {pc : Nat} {L : LoS} {h : AH} {mc ms : Nat} {nx kd a b : Nat} {v : Int32} {x : Int32} (hr : smI y pc = some (.ireturn, nx, kd, a, b, v)) (ht : mRt y = some .byte) (hx : -128 ≤ x ∧ x ≤ 127) (g : Q (some (.int x)) h) : gw xs (WP xs d) y Q pc L [.int x] h mc ms := gs hr (by
  dsimp only [stp, pI]
  rw [ht]
  exact ⟨rfl, hx, g⟩)
theorem ixS_n : ∀ c, c < 256 → (ixS 0 c = match nameP 0 c with | some k => k.toInt | none => -1) ∧ (ixS 1 c = match nameP 1 c with | some k => k.toInt | none => -1) := by decide +kernel
theorem ixS_p : ∀ lv, lv < 5 → ∀ c, c < 256 → (0 ≤ ixS (3 + lv) c ↔ signP lv c = true) := by decide +kernel
theorem ixS_c : ∀ c, c < 256 → (0 ≤ ixS 2 c ↔ c = 41) := by decide +kernel
set_option maxRecDepth 20000 in
set_option maxHeartbeats 40000000 in
theorem c_coder {s : Nat} (hs : s < 8) (hQ : Q (some (.int 0)) h) : WP xs (d + 1) 1 0 0 [.ref (3 + s)] h Q := by
  refine wp_x mx_1 (L := [some (.ref (3 + s))]) (Nat.le_of_ble_eq_true rfl) rfl ?_
  refine g_gst m1_0 rfl ?_
  refine h_if_eqF (xi := 1) (zi := 0) m1_3 rfl rfl (by decide) ?_
  refine g_aload_n m1_6 rfl ?_
  refine g_gf (fs := [.ref (11 + s), .int 0]) m1_7 (ro_s hs) rfl ?_
  refine g_goto m1_10 ?_
  refine h_bret m1_14 rt_1 (by decide) ?_
  exact hQ
set_option maxRecDepth 20000 in
set_option maxHeartbeats 40000000 in
theorem c_isLatin1 {s : Nat} (hs : s < 8) (hQ : Q (some (.int 1)) h) : WP xs (d + 1) 0 0 0 [.ref (3 + s)] h Q := by
  refine wp_x mx_0 (L := [some (.ref (3 + s))]) (Nat.le_of_ble_eq_true rfl) rfl ?_
  refine g_gst m0_0 rfl ?_
  refine h_if_eqF (xi := 1) (zi := 0) m0_3 rfl rfl (by decide) ?_
  refine g_aload_n m0_6 rfl ?_
  refine g_gf (fs := [.ref (11 + s), .int 0]) m0_7 (ro_s hs) rfl ?_
  refine h_if_neT (xi := 0) (zi := 0) m0_10 rfl rfl (by decide) ?_
  refine g_iconst m0_13 ?_
  refine g_goto m0_14 ?_
  refine g_zret m0_18 rt_0 (Or.inr rfl) ?_
  exact hQ
set_option maxRecDepth 20000 in
set_option maxHeartbeats 40000000 in
theorem c_strlen {s : Nat} (hs : s < 8) (hQ : Q (some (.int (nI (roB s).length))) h) : WP xs (d + 2) 2 0 0 [.ref (3 + s)] h Q := by
  refine wp_x mx_2 (L := [some (.ref (3 + s))]) (Nat.le_of_ble_eq_true rfl) rfl ?_
  refine g_aload_n m2_0 rfl ?_
  refine g_gf (fs := [.ref (11 + s), .int 0]) m2_1 (ro_s hs) rfl ?_
  refine g_alen (n := (roB s).length) m2_4 (ro_b hs) (Or.inr (Or.inr ⟨by omega, rfl⟩)) rfl ?_
  refine gwst (st' := .int (nI (roB s).length) :: _) rfl ?_
  refine g_aload_n m2_5 rfl ?_
  refine g_cv (fs := [.ref (11 + s), .int 0]) (args := []) (rest := [.int (nI ((roB s).length))]) m2_6 (Nat.le_of_ble_eq_true rfl) rfl rfl (by rw [cn_1]; exact ro_s hs) (Nat.le_of_ble_eq_true rfl) ?_
  refine c_coder hs ?_
  refine gwr ?_
  refine g_ishr (u := nI (roB s).length) m2_9 (sc_shr0 (by have := (roB_len s hs).2; omega)) ?_
  refine g_iret m2_10 rt_2 ?_
  exact hQ
set_option maxRecDepth 20000 in
set_option maxHeartbeats 40000000 in
theorem c_canEncode {c : Nat} (hc : c < 256) (hQ : Q (some (.int 1)) h) : WP xs (d + 1) 5 0 0 [.int (nI (c))] h Q := by
  refine wp_x mx_5 (L := [some (.int (nI (c)))]) (Nat.le_of_ble_eq_true rfl) rfl ?_
  refine g_iload_n m5_0 rfl ?_
  refine h_if_ltF (xi := ((c : Nat) : Int)) (zi := 0) m5_1 (nI_toInt (by omega)) rfl (by omega) ?_
  refine g_iload_n m5_4 rfl ?_
  refine g_sipush m5_5 ?_
  refine h_ic_gtF (xi := ((c : Nat) : Int)) (zi := 255) m5_8 (nI_toInt (by omega)) rfl (by omega) ?_
  refine g_iconst m5_11 ?_
  refine g_goto m5_12 ?_
  refine g_zret m5_16 rt_5 (Or.inr rfl) ?_
  exact hQ
set_option maxRecDepth 20000 in
set_option maxHeartbeats 40000000 in
theorem c_indexOfChar {s c : Nat} (hs : s < 8) (hc : c < 256) (hQ : Q (some (.int (Int32.ofInt (ixS s c)))) h) : WP xs (d + 1) 6 0 0 [.ref (11 + s), .int (nI (c)), .int (0), .int (nI ((roB s).length))] h Q := by
  refine wp_x mx_6 (L := [some (.ref (11 + s)), some (.int (nI (c))), some (.int (0)), some (.int (nI ((roB s).length))), none, none]) (Nat.le_of_ble_eq_true rfl) rfl ?_
  have hlen := roB_len s hs
  have key : ∀ (r : Nat) (q : Nat), q + r = (roB s).length → ixL ((roB s).drop q) c q = ixS s c → gw xs (WP xs d) 6 Q 7 [some (.ref (11 + s)), some (.int (nI (c))), some (.int (0)), some (.int (nI ((roB s).length))), some (.int ((nI c).toInt8.toInt32)), some (.int (nI (q)))] [] h 0 0 := by
    intro r
    induction r with
    | zero =>
      intro q hq hx
      have hnil : (roB s).drop q = [] := List.drop_eq_nil_of_le (by omega)
      rw [hnil] at hx
      have hx2 : ixS s c = -1 := hx.symm
      refine g_iload m6_7 rfl ?_
      refine g_iload_n m6_9 rfl ?_
      refine h_ic_geT (xi := ((q : Nat) : Int)) (zi := (((roB s).length : Nat) : Int)) m6_10 (nI_toInt (by omega)) (nI_toInt (by omega)) (by omega) ?_
      refine g_iconst m6_31 ?_
      refine g_iret m6_32 rt_6 ?_
      rw [hx2] at hQ
      exact hQ
    | succ r ih =>
      intro q hq hx
      have hr := roB_rng s hs q (by omega)
      rw [ix_drop (by omega)] at hx
      have hcc : (nI c).toInt = (c : Int) := nI_toInt (by omega)
      have hbc := by_c c hc
      refine g_iload m6_7 rfl ?_
      refine g_iload_n m6_9 rfl ?_
      refine h_ic_geF (xi := ((q : Nat) : Int)) (zi := (((roB s).length : Nat) : Int)) m6_10 (nI_toInt (by omega)) (nI_toInt (by omega)) (by omega) ?_
      refine g_aload_n m6_13 rfl ?_
      refine g_iload m6_14 rfl ?_
      refine g_bald (x := (roB s).getD q 0) m6_16 (ro_b hs) (Or.inr ⟨by omega, rfl⟩) (vp_in_nI (by omega) (by omega)) (by rw [nI_clamp (by omega)]) ?_
      refine g_iload m6_17 rfl ?_
      refine h_ic_ne (xi := _) (zi := _) m6_19 rfl rfl (fun c1 => ?_) (fun c1 => ?_)
      · skip
        refine g_iload m6_22 rfl ?_
        refine g_iret m6_24 rt_6 ?_
        have e : ((roB s).getD q 0).toInt = (c : Int) := by
          by_cases h8 : c < 128
          · rw [hbc.1 h8] at c1
            omega
          · have := hbc.2 (by omega)
            omega
        rw [if_pos e] at hx
        have hx2 : ixS s c = (q : Int) := hx.symm
        rw [hx2] at hQ
        exact hQ
      · skip
        refine g_iinc (L2 := [some (.ref (11 + s)), some (.int (nI (c))), some (.int (0)), some (.int (nI ((roB s).length))), some (.int ((nI c).toInt8.toInt32)), some (.int (nI (q + 1)))]) m6_25 rfl (nI_1 _) rfl rfl ?_
        refine g_goto m6_28 ?_
        have e : ¬ ((roB s).getD q 0).toInt = (c : Int) := by
          intro e2
          have h8 : c < 128 := by omega
          rw [hbc.1 h8] at c1
          omega
        rw [if_neg e] at hx
        exact ih (q + 1) (by omega) hx
  refine g_iload_n m6_0 rfl ?_
  refine g_i2b (u := (nI c).toInt8.toInt32) m6_1 (rfl) ?_
  refine g_istore (L2 := [some (.ref (11 + s)), some (.int (nI (c))), some (.int (0)), some (.int (nI ((roB s).length))), some (.int ((nI c).toInt8.toInt32)), none]) m6_2 rfl rfl ?_
  refine g_iload_n m6_4 rfl ?_
  refine g_istore (L2 := [some (.ref (11 + s)), some (.int (nI (c))), some (.int (0)), some (.int (nI ((roB s).length))), some (.int ((nI c).toInt8.toInt32)), some (.int (0))]) m6_5 rfl rfl ?_
  exact key (roB s).length 0 (by omega) rfl
set_option maxRecDepth 20000 in
set_option maxHeartbeats 40000000 in
theorem c_ixOf4 {s c : Nat} (hs : s < 8) (hc : c < 256) (hQ : Q (some (.int (Int32.ofInt (ixS s c)))) h) : WP xs (d + 2) 7 0 0 [.ref (11 + s), .int (nI (c)), .int (0), .int (nI ((roB s).length))] h Q := by
  refine wp_x mx_7 (L := [some (.ref (11 + s)), some (.int (nI (c))), some (.int (0)), some (.int (nI ((roB s).length)))]) (Nat.le_of_ble_eq_true rfl) rfl ?_
  have hlen := roB_len s hs
  refine g_iload_n m7_0 rfl ?_
  refine g_cs (args := [.int (nI (c))]) (rest := []) 0 (Or.inl rfl) m7_1 (Nat.le_of_ble_eq_true rfl) rfl rfl (Nat.le_of_ble_eq_true rfl) ?_
  refine c_canEncode hc ?_
  refine gwr ?_
  refine h_if_neF (xi := 1) (zi := 0) m7_4 rfl rfl (by decide) ?_
  refine g_iload_n m7_9 rfl ?_
  refine g_iconst m7_10 ?_
  refine g_max (u := (0 : Int32)) m7_11 (Nat.le_of_ble_eq_true rfl) (by decide) ?_
  refine g_istore_n (L2 := [some (.ref (11 + s)), some (.int (nI (c))), some (.int (0)), some (.int (nI ((roB s).length)))]) m7_14 rfl rfl ?_
  refine g_iload_n m7_15 rfl ?_
  refine g_aload_n m7_16 rfl ?_
  refine g_alen (n := (roB s).length) m7_17 (ro_b hs) (Or.inr (Or.inr ⟨by omega, rfl⟩)) rfl ?_
  refine gwst (st' := .int (nI (roB s).length) :: _) rfl ?_
  refine g_min (u := nI ((roB s).length)) m7_18 (Nat.le_of_ble_eq_true rfl) (if_neg (fun q => absurd q (Int32.not_lt.mpr (Int32.le_refl _)))) ?_
  refine g_istore_n (L2 := [some (.ref (11 + s)), some (.int (nI (c))), some (.int (0)), some (.int (nI ((roB s).length)))]) m7_21 rfl rfl ?_
  refine g_iload_n m7_22 rfl ?_
  refine g_iload_n m7_23 rfl ?_
  refine h_ic_ltT (xi := 0) (zi := (((roB s).length : Nat) : Int)) m7_24 rfl (nI_toInt (by omega)) (by omega) ?_
  refine g_aload_n m7_29 rfl ?_
  refine g_iload_n m7_30 rfl ?_
  refine g_iload_n m7_31 rfl ?_
  refine g_iload_n m7_32 rfl ?_
  refine g_cs (args := [.ref (11 + s), .int (nI (c)), .int (0), .int (nI ((roB s).length))]) (rest := []) 0 (Or.inl rfl) m7_33 (Nat.le_of_ble_eq_true rfl) rfl rfl (Nat.le_of_ble_eq_true rfl) ?_
  refine c_indexOfChar hs hc ?_
  refine gwr ?_
  refine g_iret m7_36 rt_7 ?_
  exact hQ
set_option maxRecDepth 20000 in
set_option maxHeartbeats 40000000 in
theorem c_ixOf2 {s c : Nat} (hs : s < 8) (hc : c < 256) (hQ : Q (some (.int (Int32.ofInt (ixS s c)))) h) : WP xs (d + 3) 3 0 0 [.ref (3 + s), .int (nI (c)), .int (0)] h Q := by
  refine wp_x mx_3 (L := [some (.ref (3 + s)), some (.int (nI (c))), some (.int (0))]) (Nat.le_of_ble_eq_true rfl) rfl ?_
  refine g_aload_n m3_0 rfl ?_
  refine g_cv (fs := [.ref (11 + s), .int 0]) (args := []) (rest := []) m3_1 (Nat.le_of_ble_eq_true rfl) rfl rfl (by rw [cn_0]; exact ro_s hs) (Nat.le_of_ble_eq_true rfl) ?_
  refine c_isLatin1 hs ?_
  refine gwr ?_
  refine h_if_eqF (xi := 1) (zi := 0) m3_4 rfl rfl (by decide) ?_
  refine g_aload_n m3_7 rfl ?_
  refine g_gf (fs := [.ref (11 + s), .int 0]) m3_8 (ro_s hs) rfl ?_
  refine g_iload_n m3_11 rfl ?_
  refine g_iload_n m3_12 rfl ?_
  refine g_aload_n m3_13 rfl ?_
  refine g_cv (fs := [.ref (11 + s), .int 0]) (args := []) (rest := [.int (0), .int (nI (c)), .ref (11 + s)]) m3_14 (Nat.le_of_ble_eq_true rfl) rfl rfl (by rw [cn_2]; exact ro_s hs) (Nat.le_of_ble_eq_true rfl) ?_
  refine c_strlen hs ?_
  refine gwr ?_
  refine g_cs (args := [.ref (11 + s), .int (nI (c)), .int (0), .int (nI ((roB s).length))]) (rest := []) 0 (Or.inl rfl) m3_17 (Nat.le_of_ble_eq_true rfl) rfl rfl (Nat.le_of_ble_eq_true rfl) ?_
  refine c_ixOf4 hs hc ?_
  refine gwr ?_
  refine g_goto m3_20 ?_
  refine g_iret m3_36 rt_3 ?_
  exact hQ
set_option maxRecDepth 20000 in
set_option maxHeartbeats 40000000 in
theorem c_ixOf {s c : Nat} (hs : s < 8) (hc : c < 256) (hQ : Q (some (.int (Int32.ofInt (ixS s c)))) h) : WP xs (d + 4) 4 0 0 [.ref (3 + s), .int (nI (c))] h Q := by
  refine wp_x mx_4 (L := [some (.ref (3 + s)), some (.int (nI (c)))]) (Nat.le_of_ble_eq_true rfl) rfl ?_
  refine g_aload_n m4_0 rfl ?_
  refine g_iload_n m4_1 rfl ?_
  refine g_iconst m4_2 ?_
  refine g_cv (fs := [.ref (11 + s), .int 0]) (args := [.int (nI (c)), .int (0)]) (rest := []) m4_3 (Nat.le_of_ble_eq_true rfl) rfl rfl (by rw [cn_3]; exact ro_s hs) (Nat.le_of_ble_eq_true rfl) ?_
  refine c_ixOf2 hs hc ?_
  refine gwr ?_
  refine g_iret m4_6 rt_4 ?_
  exact hQ
end
end
section
/-! THE CLASS'S READER -/
/-- the reader: n bytes, the names of use u, at place p, z codes; ok: no fault yet -/
def RdS (m : MW) (n u p z : Nat) (ok : Bool) : Prop := m 43 3 = nI n ∧ m 43 4 = nI u ∧ m 43 5 = nI p ∧ m 43 1 = nI z ∧ m 43 6 = (if ok = true then -1 else nI p)
def FrR (m m2 : MW) : Prop := ∀ k j, ¬ (k = 44 ∨ (k = 43 ∧ (j = 1 ∨ j = 5 ∨ j = 6))) → m2 k j = m k j
theorem FrR.rf {m : MW} : FrR m m := fun _ _ _ => rfl
theorem FrR.tr {m m2 m3 : MW} (h : FrR m m2) (h2 : FrR m2 m3) : FrR m m3 := fun k j q => (h2 k j q).trans (h k j q)
theorem FrR.up {m m2 : MW} (h : FrR m m2) {k j : Nat} (x : Int32) (hk : k = 44 ∨ (k = 43 ∧ (j = 1 ∨ j = 5 ∨ j = 6))) : FrR m (upm m2 k j x) := by
  intro k2 j2 q
  unfold upm
  by_cases e : k2 = k ∧ j2 = j
  · exact absurd (by rw [e.1, e.2]; exact hk) q
  · rw [if_neg e, h k2 j2 q]
theorem FrR.tape {m m2 : MW} (h : FrR m m2) : m2 38 = m 38 := funext fun j => h 38 j (by omega)
/-- from z codes on the codes cs stand; those ahead are as they were -/
def CodA (m m2 : MW) (z : Nat) (cs : List Int32) : Prop := (∀ j, j < z → m2 44 j = m 44 j) ∧ ∀ j, j < cs.length → m2 44 (z + j) = cs.getD j 0
theorem CodA.nil {m m2 : MW} {z : Nat} (h : ∀ j, m2 44 j = m 44 j) : CodA m m2 z [] := ⟨fun j _ => h j, fun j hj => absurd hj (Nat.not_lt_zero j)⟩
theorem CodA.app {m m2 m3 : MW} {z : Nat} {a b : List Int32} (h : CodA m m2 z a) (h2 : CodA m2 m3 (z + a.length) b) : CodA m m3 z (a ++ b) := by
  refine ⟨fun j hj => (h2.1 j (by omega)).trans (h.1 j hj), fun j hj => ?_⟩
  rw [List.length_append] at hj
  rw [List.getD_eq_getElem?_getD]
  by_cases hja : j < a.length
  · rw [h2.1 (z + j) (by omega), h.2 j hja, List.getElem?_append_left hja, List.getD_eq_getElem?_getD]
  · have h3 := h2.2 (j - a.length) (by omega)
    rw [show z + a.length + (j - a.length) = z + j by omega] at h3
    rw [h3, List.getElem?_append_right (by omega), List.getD_eq_getElem?_getD]
theorem CodA.one {m m2 : MW} {z : Nat} {x : Int32} (h : ∀ j, m2 44 j = m 44 j) (k2 j2 : Nat) (y : Int32) (hk : k2 ≠ 44) : CodA m (upm (upm m2 44 z x) k2 j2 y) z [x] := by
  refine ⟨fun j hj => ?_, fun j hj => ?_⟩
  · rw [upm_k _ _ (by omega), upm_j _ _ (by omega), h j]
  · have h0 : j = 0 := by
      have : j < 1 := hj
      omega
    subst h0
    rw [upm_k _ _ (by omega)]
    exact upm_self _ _ _ _
/-- behind a reading that began at z codes and gives r -/
def Out (m : MW) (n u z : Nat) (r : PR3) (m2 : MW) : Prop := FrR m m2 ∧ ∃ z2, z2 ≤ 50 ∧ RdS m2 n u r.2.1 z2 r.2.2 ∧ (r.2.2 = true → z2 = z + r.1.length ∧ CodA m m2 z r.1)
theorem Out.tape {m : MW} {n u z : Nat} {r : PR3} {m2 : MW} (h : Out m n u z r m2) : m2 38 = m 38 := h.1.tape
def Tap (m : MW) : Prop := ∀ j, j < 50 → leI (m 38 j) 255
theorem bt_y {m : MW} {n p c : Nat} (hp : p < n) (h : m 38 p = nI c) (hc : c < 256) : bt (m 38) n p = (c : Int) := by
  unfold bt
  rw [if_pos hp, h, nI_toInt (by omega)]
theorem bt_n {B : Nat → Int32} {n p : Nat} (hp : n ≤ p) : bt B n p = -1 := if_neg (by omega)
section
variable {xs : List Int32} {d : Nat} {h : AH} {Q : QT} {m : MW} {ln : Nat → Nat} {N : Nat}
set_option maxRecDepth 20000 in
set_option maxHeartbeats 40000000 in
theorem c_here {n u p z : Nat} (hS : RdS m n u p z true) (hp : p ≤ n) (hn : n ≤ 50) (hT : Tap m) (h1 : p < n → ∀ c, c < 256 → m 38 p = nI c → Q (some (.int (nI c))) (H m ln N)) (h2 : n ≤ p → Q (some (.int (-1))) (H m ln N)) : WP xs (d + 1) 17 0 0 [.ref (75)] (H m ln N) Q := by
  refine wp_x mx_17 (L := [some (.ref (75))]) (Nat.le_of_ble_eq_true rfl) rfl ?_
  refine g_aload_n m17_0 rfl ?_
  refine h_gfI (k := 43) (p := 75) m17_1 rfl (t_43 _ _) rfl (hS.2.2.2.2) ?_
  refine h_if_geF (xi := (-1)) (zi := 0) m17_4 rfl rfl (by decide) ?_
  refine g_aload_n m17_7 rfl ?_
  refine h_gfI (k := 43) (p := 75) m17_8 rfl (t_43 _ _) rfl (hS.2.2.1) ?_
  refine g_aload_n m17_11 rfl ?_
  refine h_gfI (k := 43) (p := 75) m17_12 rfl (t_43 _ _) rfl (hS.1) ?_
  refine h_ic_ge (xi := ((p : Nat) : Int)) (zi := ((n : Nat) : Int)) m17_15 (nI_toInt (by omega)) (nI_toInt (by omega)) (fun c1 => ?_) (fun c1 => ?_)
  · skip
    refine g_iconst m17_30 ?_
    refine g_iret m17_31 rt_17 ?_
    exact h2 (by omega)
  · skip
    refine g_aload_n m17_18 rfl ?_
    refine h_gfR (c := 70) (k := 43) (p := 75) m17_19 rfl (t_43 _ _) rfl (Nat.le_of_ble_eq_true rfl) ?_
    refine g_aload_n m17_22 rfl ?_
    refine h_gfI (k := 43) (p := 75) m17_23 rfl (t_43 _ _) rfl (hS.2.2.1) ?_
    obtain ⟨c, hc, hce⟩ := hT p (by omega)
    refine h_ial (k := 38) (p := 70) (j := p) m17_26 rfl (t_38 _ _) (rfl) (by omega) (Nat.le_of_ble_eq_true rfl) (hce) ?_
    refine g_goto m17_27 ?_
    refine g_iret m17_31 rt_17 ?_
    exact h1 (by omega) c (by omega) hce
set_option maxRecDepth 20000 in
set_option maxHeartbeats 40000000 in
theorem c_hereF {n u p z : Nat} (hS : RdS m n u p z false) (hp : p ≤ n) (hn : n ≤ 50) (hQ : Q (some (.int (-1))) (H m ln N)) : WP xs (d + 1) 17 0 0 [.ref (75)] (H m ln N) Q := by
  refine wp_x mx_17 (L := [some (.ref (75))]) (Nat.le_of_ble_eq_true rfl) rfl ?_
  refine g_aload_n m17_0 rfl ?_
  refine h_gfI (k := 43) (p := 75) m17_1 rfl (t_43 _ _) rfl (hS.2.2.2.2) ?_
  refine h_if_geT (xi := ((p : Nat) : Int)) (zi := 0) m17_4 (nI_toInt (by omega)) rfl (by omega) ?_
  refine g_iconst m17_30 ?_
  refine g_iret m17_31 rt_17 ?_
  exact hQ
set_option maxRecDepth 20000 in
set_option maxHeartbeats 40000000 in
theorem c_isDigitI {v : Int32} {vi : Int} (hv : v.toInt = vi) (hT : isDig vi = true → Q (some (.int 1)) h) (hF : ¬ isDig vi = true → Q (some (.int 0)) h) : WP xs (d + 1) 20 0 0 [.int (v)] h Q := by
  refine wp_x mx_20 (L := [some (.int (v))]) (Nat.le_of_ble_eq_true rfl) rfl ?_
  refine g_iload_n m20_0 rfl ?_
  refine g_bipush m20_1 ?_
  refine h_ic_lt (xi := vi) (zi := 48) m20_3 hv rfl (fun c1 => ?_) (fun c1 => ?_)
  · skip
    refine g_iconst m20_16 ?_
    refine g_zret m20_17 rt_20 (Or.inl rfl) ?_
    exact hF (by unfold isDig; rw [decide_eq_true_eq]; omega)
  · skip
    refine g_iload_n m20_6 rfl ?_
    refine g_bipush m20_7 ?_
    refine h_ic_gt (xi := vi) (zi := 57) m20_9 hv rfl (fun c2 => ?_) (fun c2 => ?_)
    · skip
      refine g_iconst m20_16 ?_
      refine g_zret m20_17 rt_20 (Or.inl rfl) ?_
      exact hF (by unfold isDig; rw [decide_eq_true_eq]; omega)
    · skip
      refine g_iconst m20_12 ?_
      refine g_goto m20_13 ?_
      refine g_zret m20_17 rt_20 (Or.inr rfl) ?_
      exact hT (by unfold isDig; exact decide_eq_true (by omega))
set_option maxRecDepth 20000 in
set_option maxHeartbeats 40000000 in
theorem c_fail {n u p z : Nat} (hS : RdS m n u p z true) (hp : p ≤ n) (hn : n ≤ 50) (hT : Tap m) (hQ : Q none (H (upm m 43 6 (nI p)) ln N)) : WP xs (d + 1) 22 0 0 [.ref (75)] (H m ln N) Q := by
  refine wp_x mx_22 (L := [some (.ref (75))]) (Nat.le_of_ble_eq_true rfl) rfl ?_
  refine g_aload_n m22_0 rfl ?_
  refine h_gfI (k := 43) (p := 75) m22_1 rfl (t_43 _ _) rfl (hS.2.2.2.2) ?_
  refine h_if_geF (xi := (-1)) (zi := 0) m22_4 rfl rfl (by decide) ?_
  refine g_aload_n m22_7 rfl ?_
  refine g_aload_n m22_8 rfl ?_
  refine h_gfI (k := 43) (p := 75) m22_9 rfl (t_43 _ _) rfl (hS.2.2.1) ?_
  refine h_pfI (k := 43) (p := 75) m22_12 rfl (t_43 _ _) rfl trivial ?_
  refine g_vret m22_15 ?_
  exact hQ
set_option maxRecDepth 20000 in
set_option maxHeartbeats 40000000 in
theorem c_failF {n u p z : Nat} (hS : RdS m n u p z false) (hp : p ≤ n) (hn : n ≤ 50) (hQ : Q none (H m ln N)) : WP xs (d + 1) 22 0 0 [.ref (75)] (H m ln N) Q := by
  refine wp_x mx_22 (L := [some (.ref (75))]) (Nat.le_of_ble_eq_true rfl) rfl ?_
  refine g_aload_n m22_0 rfl ?_
  refine h_gfI (k := 43) (p := 75) m22_1 rfl (t_43 _ _) rfl (hS.2.2.2.2) ?_
  refine h_if_geT (xi := ((p : Nat) : Int)) (zi := 0) m22_4 (nI_toInt (by omega)) rfl (by omega) ?_
  refine g_vret m22_15 ?_
  exact hQ
set_option maxRecDepth 20000 in
set_option maxHeartbeats 40000000 in
theorem c_add {z : Nat} {x : Int32} (hz : m 43 1 = nI z) (hz5 : z ≤ 50) (h1 : z < 50 → Q none (H (upm (upm m 44 z x) 43 1 (nI (z + 1))) ln N)) (h2 : z = 50 → Q none (H m ln N)) : WP xs (d + 1) 19 0 0 [.ref (75), .int (x)] (H m ln N) Q := by
  refine wp_x mx_19 (L := [some (.ref (75)), some (.int (x))]) (Nat.le_of_ble_eq_true rfl) rfl ?_
  refine g_aload_n m19_0 rfl ?_
  refine h_gfI (k := 43) (p := 75) m19_1 rfl (t_43 _ _) rfl (hz) ?_
  refine g_bipush m19_4 ?_
  refine h_ic_ge (xi := ((z : Nat) : Int)) (zi := 50) m19_6 (nI_toInt (by omega)) rfl (fun c1 => ?_) (fun c1 => ?_)
  · skip
    refine g_vret m19_29 ?_
    first | exact h1 (by omega) | exact h2 (by omega)
  · skip
    refine g_aload_n m19_9 rfl ?_
    refine h_gfR (c := 76) (k := 43) (p := 75) m19_10 rfl (t_43 _ _) rfl (Nat.le_of_ble_eq_true rfl) ?_
    refine g_aload_n m19_13 rfl ?_
    refine h_gfI (k := 43) (p := 75) m19_14 rfl (t_43 _ _) rfl (hz) ?_
    refine g_iload_n m19_17 rfl ?_
    refine h_ias (k := 44) (p := 76) (j := z) m19_18 rfl (t_44 _ _) (rfl) (by omega) (Nat.le_of_ble_eq_true rfl) ?_
    refine g_aload_n m19_19 rfl ?_
    refine g_dup m19_20 rfl ?_
    refine h_gfI (k := 43) (p := 75) m19_21 rfl (t_43 _ _) rfl (hz) ?_
    refine g_iconst m19_24 ?_
    refine g_iadd (u := nI (z + 1)) m19_25 (nI_add z 1) ?_
    refine h_pfI (k := 43) (p := 75) m19_26 rfl (t_43 _ _) rfl trivial ?_
    refine g_vret m19_29 ?_
    first | exact h1 (by omega) | exact h2 (by omega)
set_option maxRecDepth 20000 in
set_option maxHeartbeats 40000000 in
theorem c_signsOf {lv : Nat} (hl : lv < 5) (hQ : Q (some (.ref (6 + lv))) h) : WP xs (d + 1) 16 0 0 [.int (nI (lv))] h Q := by
  refine wp_x mx_16 (L := [some (.int (nI (lv)))]) (Nat.le_of_ble_eq_true rfl) rfl ?_
  rcases (show lv = 0 ∨ lv = 1 ∨ lv = 2 ∨ lv = 3 ∨ lv = 4 by omega) with rfl | rfl | rfl | rfl | rfl
  · skip
    refine g_iload_n m16_0 rfl ?_
    refine gs m16_1 ?_
    refine gwpc (pc' := 32) rfl ?_
    refine g_ldcs m16_32 (by decide) ?_
    refine g_aret m16_34 ?_
    exact hQ
  · skip
    refine g_iload_n m16_0 rfl ?_
    refine gs m16_1 ?_
    refine gwpc (pc' := 35) rfl ?_
    refine g_ldcs m16_35 (by decide) ?_
    refine g_aret m16_37 ?_
    exact hQ
  · skip
    refine g_iload_n m16_0 rfl ?_
    refine gs m16_1 ?_
    refine gwpc (pc' := 38) rfl ?_
    refine g_ldcs m16_38 (by decide) ?_
    refine g_aret m16_40 ?_
    exact hQ
  · skip
    refine g_iload_n m16_0 rfl ?_
    refine gs m16_1 ?_
    refine gwpc (pc' := 41) rfl ?_
    refine g_ldcs m16_41 (by decide) ?_
    refine g_aret m16_43 ?_
    exact hQ
  · skip
    refine g_iload_n m16_0 rfl ?_
    refine gs m16_1 ?_
    refine gwpc (pc' := 44) rfl ?_
    refine g_ldcs m16_44 (by decide) ?_
    refine g_aret m16_46 ?_
    exact hQ
theorem ix_r : ∀ s, s < 8 → ∀ c, c < 256 → -1 ≤ ixS s c ∧ ixS s c < 3 := by decide +kernel
theorem ix_t {s c : Nat} (hs : s < 8) (hc : c < 256) : (Int32.ofInt (ixS s c)).toInt = ixS s c := by
  have h := ix_r s hs c hc
  rw [Int32.toInt_ofInt]
  show Int.bmod (ixS s c) 4294967296 = ixS s c
  exact Int.bmod_eq_of_le (by omega) (by omega)
set_option maxRecDepth 20000 in
set_option maxHeartbeats 40000000 in
theorem c_passR {n u p z : Nat} {s : Nat} (hS : RdS m n u p z true) (hp : p ≤ n) (hn : n ≤ 50) (hT : Tap m) (hs : s < 8) (hQ1 : p < n → ∀ c, c < 256 → m 38 p = nI c → 0 ≤ ixS s c → Q (some (.int (nI c))) (H (upm m 43 5 (nI (p + 1))) ln N)) (hF : (∀ c, c < 256 → p < n → m 38 p = nI c → ¬ 0 ≤ ixS s c) → Q (some (.int 0)) (H m ln N)) : WP xs (d + 5) 18 0 0 [.ref (75), .ref (3 + s)] (H m ln N) Q := by
  refine wp_x mx_18 (L := [some (.ref (75)), some (.ref (3 + s)), none]) (Nat.le_of_ble_eq_true rfl) rfl ?_
  refine g_aload_n m18_0 rfl ?_
  refine h_cv (k := 43) (p := 75) (args := []) (rest := []) m18_1 cn_17 (Nat.le_of_ble_eq_true rfl) rfl rfl rfl (t_43 _ _) (Nat.le_of_ble_eq_true rfl) ?_
  refine c_here hS hp hn hT (fun hpn c hc hce => ?_) (fun hpn => ?_)
  · skip
    refine gwr ?_
    refine g_istore_n (L2 := [some (.ref (75)), some (.ref (3 + s)), some (.int (nI (c)))]) m18_4 rfl rfl ?_
    refine g_iload_n m18_5 rfl ?_
    refine h_if_lt (xi := ((c : Nat) : Int)) (zi := 0) m18_6 (nI_toInt (by omega)) rfl (fun c1 => ?_) (fun c1 => ?_)
    · skip
      refine g_iconst m18_18 ?_
      refine g_iret m18_19 rt_18 ?_
      first | exact hF (fun c _ hpn2 hce2 hix => absurd hpn2 (by omega)) | exact hF (fun c2 hc2 hpn2 hce2 hix => by
        have e := (nI_eq (a := c) (b := c2) (by omega) (by omega)).mp (hce.symm.trans hce2)
        subst e
        omega)
    · skip
      refine g_aload_n m18_9 rfl ?_
      refine g_iload_n m18_10 rfl ?_
      refine g_i2c (u := nI (c)) m18_11 (by rw [pk_char, pk_tn (by omega), Nat.mod_eq_of_lt (by omega)]) ?_
      refine g_cv (fs := [.ref (11 + s), .int 0]) (args := [.int (nI (c))]) (rest := []) m18_12 (Nat.le_of_ble_eq_true rfl) rfl rfl (by rw [cn_4]; exact ro_s hs) (Nat.le_of_ble_eq_true rfl) ?_
      refine c_ixOf hs hc ?_
      have hir : (Int32.ofInt (ixS s c)).toInt = ixS s c := ix_t hs hc
      refine gwr ?_
      refine h_if_ge (xi := ixS s c) (zi := 0) m18_15 hir rfl (fun c2 => ?_) (fun c2 => ?_)
      · skip
        refine g_aload_n m18_20 rfl ?_
        refine g_dup m18_21 rfl ?_
        refine h_gfI (k := 43) (p := 75) m18_22 rfl (t_43 _ _) rfl (hS.2.2.1) ?_
        refine g_iconst m18_25 ?_
        refine g_iadd (u := nI (p + 1)) m18_26 (nI_add p 1) ?_
        refine h_pfI (k := 43) (p := 75) m18_27 rfl (t_43 _ _) rfl trivial ?_
        refine g_iload_n m18_30 rfl ?_
        refine g_iret m18_31 rt_18 ?_
        exact hQ1 hpn c hc hce (by omega)
      · skip
        refine g_iconst m18_18 ?_
        refine g_iret m18_19 rt_18 ?_
        first | exact hF (fun c _ hpn2 hce2 hix => absurd hpn2 (by omega)) | exact hF (fun c2 hc2 hpn2 hce2 hix => by
          have e := (nI_eq (a := c) (b := c2) (by omega) (by omega)).mp (hce.symm.trans hce2)
          subst e
          omega)
  · skip
    refine gwr ?_
    refine g_istore_n (L2 := [some (.ref (75)), some (.ref (3 + s)), some (.int (-1))]) m18_4 rfl rfl ?_
    refine g_iload_n m18_5 rfl ?_
    refine h_if_ltT (xi := (-1)) (zi := 0) m18_6 rfl rfl (by decide) ?_
    refine g_iconst m18_18 ?_
    refine g_iret m18_19 rt_18 ?_
    first | exact hF (fun c _ hpn2 hce2 hix => absurd hpn2 (by omega)) | exact hF (fun c2 hc2 hpn2 hce2 hix => by
      have e := (nI_eq (a := c) (b := c2) (by omega) (by omega)).mp (hce.symm.trans hce2)
      subst e
      omega)
set_option maxRecDepth 20000 in
set_option maxHeartbeats 40000000 in
theorem c_passRF {n u p z : Nat} {s : Nat} (hS : RdS m n u p z false) (hp : p ≤ n) (hn : n ≤ 50) (hQ : Q (some (.int 0)) (H m ln N)) : WP xs (d + 5) 18 0 0 [.ref (75), .ref (3 + s)] (H m ln N) Q := by
  refine wp_x mx_18 (L := [some (.ref (75)), some (.ref (3 + s)), none]) (Nat.le_of_ble_eq_true rfl) rfl ?_
  refine g_aload_n m18_0 rfl ?_
  refine h_cv (k := 43) (p := 75) (args := []) (rest := []) m18_1 cn_17 (Nat.le_of_ble_eq_true rfl) rfl rfl rfl (t_43 _ _) (Nat.le_of_ble_eq_true rfl) ?_
  refine c_hereF hS hp hn ?_
  refine gwr ?_
  refine g_istore_n (L2 := [some (.ref (75)), some (.ref (3 + s)), some (.int (-1))]) m18_4 rfl rfl ?_
  refine g_iload_n m18_5 rfl ?_
  refine h_if_ltT (xi := (-1)) (zi := 0) m18_6 rfl rfl (by decide) ?_
  refine g_iconst m18_18 ?_
  refine g_iret m18_19 rt_18 ?_
  exact hQ
set_option maxRecDepth 20000 in
set_option maxHeartbeats 40000000 in
theorem c_readNumber {n u p z : Nat} (hS : RdS m n u p z true) (hp : p ≤ n) (hn : n ≤ 50) (hT : Tap m) (hz : z < 50) (hQ : ∀ m2, Out m n u z ([nI (1000 + (numP (m 38) n 4 0 p).1)], (numP (m 38) n 4 0 p).2, true) m2 → Q none (H m2 ln N)) : WP xs (d + 2) 21 0 0 [.ref (75)] (H m ln N) Q := by
  refine wp_x mx_21 (L := [some (.ref (75)), none, none]) (Nat.le_of_ble_eq_true rfl) rfl ?_
  have key : ∀ (r q v p2 : Nat) (m2 : MW), q + r = 4 → p ≤ p2 → p2 ≤ n → RdS m2 n u p2 z true → FrR m m2 → (∀ j, m2 44 j = m 44 j) → v < 10 ^ q → numP (m 38) n r v p2 = numP (m 38) n 4 0 p → gw xs (WP xs (d + 1)) 21 Q 4 [some (.ref (75)), some (.int (nI (v))), some (.int (nI (q)))] [] (H m2 ln N) 0 0 := by
    intro r
    induction r with
    | zero =>
      intro q v p2 m2 hq hp1 hp2 hS2 hF2 h44 hv hnum
      have hnum : (v, p2) = numP (m 38) n 4 0 p := hnum
      refine g_iload_n m21_4 rfl ?_
      refine g_iconst m21_5 ?_
      refine h_ic_geT (xi := ((q : Nat) : Int)) (zi := 4) m21_6 (nI_toInt (by omega)) rfl (by omega) ?_
      refine g_aload_n m21_48 rfl ?_
      refine g_sipush m21_49 ?_
      refine g_iload_n m21_52 rfl ?_
      refine g_iadd (u := nI (1000 + v)) m21_53 (nI_add 1000 v) ?_
      refine h_cv (k := 43) (p := 75) (args := [.int (nI (1000 + v))]) (rest := []) m21_54 cn_19 (Nat.le_of_ble_eq_true rfl) rfl rfl rfl (t_43 _ _) (Nat.le_of_ble_eq_true rfl) ?_
      refine c_add hS2.2.2.2.1 (by omega) (fun _ => ?_) (fun h5 => absurd h5 (by omega))
      refine gwr0 ?_
      refine g_vret m21_57 ?_
      refine hQ _ ⟨(hF2.up _ (Or.inl rfl)).up _ (Or.inr ⟨rfl, Or.inl rfl⟩), z + 1, by omega, ?_, fun _ => ⟨rfl, ?_⟩⟩
      · show RdS _ n u (numP (m 38) n 4 0 p).2 (z + 1) true
        rw [← hnum]
        exact ⟨hS2.1, hS2.2.1, hS2.2.2.1, rfl, hS2.2.2.2.2⟩
      · show CodA m _ z [nI (1000 + (numP (m 38) n 4 0 p).1)]
        rw [← hnum]
        exact CodA.one h44 _ _ _ (by decide)
    | succ r ih =>
      intro q v p2 m2 hq hp1 hp2 hS2 hF2 h44 hv hnum
      have hT2 : Tap m2 := fun j hj => by rw [hF2.tape]; exact hT j hj
      have hv4 : v < 10 ^ 4 := Nat.lt_of_lt_of_le hv (Nat.pow_le_pow_right (by decide) (by omega))
      refine g_iload_n m21_4 rfl ?_
      refine g_iconst m21_5 ?_
      refine h_ic_geF (xi := ((q : Nat) : Int)) (zi := 4) m21_6 (nI_toInt (by omega)) rfl (by omega) ?_
      refine g_aload_n m21_9 rfl ?_
      refine h_cv (k := 43) (p := 75) (args := []) (rest := []) m21_10 cn_17 (Nat.le_of_ble_eq_true rfl) rfl rfl rfl (t_43 _ _) (Nat.le_of_ble_eq_true rfl) ?_
      refine c_here hS2 hp2 hn hT2 (fun hpn c hc hce => ?_) (fun hpn => ?_)
      · have hbt : bt (m 38) n p2 = (c : Int) := bt_y hpn (by rw [← hF2.tape]; exact hce) hc
        refine gwr ?_
        refine g_cs (args := [.int (nI (c))]) (rest := []) 0 (Or.inl rfl) m21_13 (Nat.le_of_ble_eq_true rfl) rfl rfl (Nat.le_of_ble_eq_true rfl) ?_
        refine c_isDigitI (vi := ((c : Nat) : Int)) (nI_toInt (by omega)) (fun a_1 => ?_) (fun a_1 => ?_)
        · skip
          have hd9 := isDig_e a_1
          refine gwr ?_
          refine h_if_eqF (xi := 1) (zi := 0) m21_16 rfl rfl (by decide) ?_
          refine g_iload_n m21_19 rfl ?_
          refine g_bipush m21_20 ?_
          refine g_imul (u := nI (v * 10)) m21_22 (pk_mul v 10) ?_
          refine g_aload_n m21_23 rfl ?_
          refine h_cv (k := 43) (p := 75) (args := []) (rest := [.int (nI (v * 10))]) m21_24 cn_17 (Nat.le_of_ble_eq_true rfl) rfl rfl rfl (t_43 _ _) (Nat.le_of_ble_eq_true rfl) ?_
          refine c_here hS2 hp2 hn hT2 (fun hpn c2 hc2 hce2 => ?_) (fun hpn2 => absurd hpn2 (by omega))
          obtain rfl : c2 = c := (nI_eq (by omega) (by omega)).mp (hce2.symm.trans hce)
          refine gwr ?_
          refine g_iadd (u := nI ((v * 10) + c2)) m21_27 (nI_add (v * 10) c2) ?_
          refine g_bipush m21_28 ?_
          refine g_isub (u := nI (((v * 10) + c2) - 48)) m21_30 (pk_sub (a := ((v * 10) + c2)) (b := 48) (by omega)) ?_
          refine g_istore_n (L2 := [some (.ref (75)), some (.int (nI (((v * 10) + c2) - 48))), some (.int (nI (q)))]) m21_31 rfl rfl ?_
          refine g_aload_n m21_32 rfl ?_
          refine g_dup m21_33 rfl ?_
          refine h_gfI (k := 43) (p := 75) m21_34 rfl (t_43 _ _) rfl (hS2.2.2.1) ?_
          refine g_iconst m21_37 ?_
          refine g_iadd (u := nI (p2 + 1)) m21_38 (nI_add p2 1) ?_
          refine h_pfI (k := 43) (p := 75) m21_39 rfl (t_43 _ _) rfl trivial ?_
          refine g_iinc (L2 := [some (.ref (75)), some (.int (nI (((v * 10) + c2) - 48))), some (.int (nI (q + 1)))]) m21_42 rfl (nI_1 _) rfl rfl ?_
          refine g_goto m21_45 ?_
          refine ih (q + 1) _ (p2 + 1) _ (by omega) (by omega) (by omega) ⟨hS2.1, hS2.2.1, rfl, hS2.2.2.2.1, hS2.2.2.2.2⟩ (hF2.up _ (Or.inr ⟨rfl, Or.inr (Or.inl rfl)⟩)) h44 ?_ ?_
          · rw [Nat.pow_succ]
            omega
          · rw [← hnum]
            show _ = if isDig (bt (m 38) n p2) = true then _ else _
            rw [hbt, if_pos a_1]
            congr 1
            omega
        · skip
          refine gwr ?_
          refine h_if_eqT (xi := 0) (zi := 0) m21_16 rfl rfl (by decide) ?_
          have hnum : (v, p2) = numP (m 38) n 4 0 p := by
            rw [← hnum]
            show _ = if isDig (bt (m 38) n p2) = true then _ else _
            rw [hbt, if_neg a_1]
          refine g_aload_n m21_48 rfl ?_
          refine g_sipush m21_49 ?_
          refine g_iload_n m21_52 rfl ?_
          refine g_iadd (u := nI (1000 + v)) m21_53 (nI_add 1000 v) ?_
          refine h_cv (k := 43) (p := 75) (args := [.int (nI (1000 + v))]) (rest := []) m21_54 cn_19 (Nat.le_of_ble_eq_true rfl) rfl rfl rfl (t_43 _ _) (Nat.le_of_ble_eq_true rfl) ?_
          refine c_add hS2.2.2.2.1 (by omega) (fun _ => ?_) (fun h5 => absurd h5 (by omega))
          refine gwr0 ?_
          refine g_vret m21_57 ?_
          refine hQ _ ⟨(hF2.up _ (Or.inl rfl)).up _ (Or.inr ⟨rfl, Or.inl rfl⟩), z + 1, by omega, ?_, fun _ => ⟨rfl, ?_⟩⟩
          · show RdS _ n u (numP (m 38) n 4 0 p).2 (z + 1) true
            rw [← hnum]
            exact ⟨hS2.1, hS2.2.1, hS2.2.2.1, rfl, hS2.2.2.2.2⟩
          · show CodA m _ z [nI (1000 + (numP (m 38) n 4 0 p).1)]
            rw [← hnum]
            exact CodA.one h44 _ _ _ (by decide)
      · have hbt : bt (m 38) n p2 = -1 := bt_n hpn
        refine gwr ?_
        refine g_cs (args := [.int (-1)]) (rest := []) 0 (Or.inl rfl) m21_13 (Nat.le_of_ble_eq_true rfl) rfl rfl (Nat.le_of_ble_eq_true rfl) ?_
        refine c_isDigitI (vi := (-1)) rfl (fun a_2 => ?_) (fun a_2 => ?_)
        · skip
          exact absurd a_2 (by decide)
        · skip
          refine gwr ?_
          refine h_if_eqT (xi := 0) (zi := 0) m21_16 rfl rfl (by decide) ?_
          have hnum : (v, p2) = numP (m 38) n 4 0 p := by
            rw [← hnum]
            show _ = if isDig (bt (m 38) n p2) = true then _ else _
            rw [hbt, if_neg a_2]
          refine g_aload_n m21_48 rfl ?_
          refine g_sipush m21_49 ?_
          refine g_iload_n m21_52 rfl ?_
          refine g_iadd (u := nI (1000 + v)) m21_53 (nI_add 1000 v) ?_
          refine h_cv (k := 43) (p := 75) (args := [.int (nI (1000 + v))]) (rest := []) m21_54 cn_19 (Nat.le_of_ble_eq_true rfl) rfl rfl rfl (t_43 _ _) (Nat.le_of_ble_eq_true rfl) ?_
          refine c_add hS2.2.2.2.1 (by omega) (fun _ => ?_) (fun h5 => absurd h5 (by omega))
          refine gwr0 ?_
          refine g_vret m21_57 ?_
          refine hQ _ ⟨(hF2.up _ (Or.inl rfl)).up _ (Or.inr ⟨rfl, Or.inl rfl⟩), z + 1, by omega, ?_, fun _ => ⟨rfl, ?_⟩⟩
          · show RdS _ n u (numP (m 38) n 4 0 p).2 (z + 1) true
            rw [← hnum]
            exact ⟨hS2.1, hS2.2.1, hS2.2.2.1, rfl, hS2.2.2.2.2⟩
          · show CodA m _ z [nI (1000 + (numP (m 38) n 4 0 p).1)]
            rw [← hnum]
            exact CodA.one h44 _ _ _ (by decide)
  refine g_iconst m21_0 ?_
  refine g_istore_n (L2 := [some (.ref (75)), some (.int (0)), none]) m21_1 rfl rfl ?_
  refine g_iconst m21_2 ?_
  refine g_istore_n (L2 := [some (.ref (75)), some (.int (0)), some (.int (0))]) m21_3 rfl rfl ?_
  exact key 4 0 0 p m rfl (Nat.le_refl _) hp hS FrR.rf (fun _ => rfl) (by decide) rfl
end
end
section
/-! THE CLASS'S READER: levels -/
theorem Out.pre {m m1 : MW} {n u z : Nat} {r : PR3} {m2 : MW} (hF : FrR m m1) (h4 : ∀ j, m1 44 j = m 44 j) (h : Out m1 n u z r m2) : Out m n u z r m2 := by
  obtain ⟨h1, z2, h2, h3, h5⟩ := h
  refine ⟨hF.tr h1, z2, h2, h3, fun ho => ⟨(h5 ho).1, fun j hj => ((h5 ho).2.1 j hj).trans (h4 j), (h5 ho).2.2⟩⟩
theorem nm_u {m : MW} {u : Nat} (h : m 43 4 = nI u) (hu : u ≤ 1) : (if m 43 4 = 0 then Value.ref 3 else .ref 4) = .ref (3 + u) := by
  rw [h]
  rcases (show u = 0 ∨ u = 1 by omega) with rfl | rfl <;> rfl
theorem row_up (m : MW) {k j k2 : Nat} (x : Int32) (h : k2 ≠ k) : upm m k j x k2 = m k2 := funext fun _ => upm_k m x h
theorem ixS_u {u c : Nat} (hu : u ≤ 1) (hc : c < 256) : ixS u c = match nameP u c with | some k => k.toInt | none => -1 := by
  rcases (show u = 0 ∨ u = 1 by omega) with rfl | rfl
  · exact (ixS_n c hc).1
  · exact (ixS_n c hc).2
theorem PQ_dig {rec5 rec0 : Nat → PR3} {B : Nat → Int32} {n u op p : Nat} (h : isDig (bt B n p) = true) : PQ rec5 rec0 B n u op p = ([nI (1000 + (numP B n 4 0 p).1)], (numP B n 4 0 p).2, true) := by
  unfold PQ
  rw [if_pos h]
theorem PQ_nam {rec5 rec0 : Nat → PR3} {B : Nat → Int32} {n u op p : Nat} {k : Int32} (h : ¬ isDig (bt B n p) = true) (hk : nameP u (bt B n p) = some k) : PQ rec5 rec0 B n u op p = ([k], p + 1, true) := by
  unfold PQ
  rw [if_neg h, hk]
theorem PQ_not {rec5 rec0 : Nat → PR3} {B : Nat → Int32} {n u op p : Nat} (h : ¬ isDig (bt B n p) = true) (hk : nameP u (bt B n p) = none) (hb : bt B n p = 33 ∧ op < 5) : PQ rec5 rec0 B n u op p = ((rec5 (p + 1)).1 ++ [33], (rec5 (p + 1)).2) := by
  unfold PQ
  rw [if_neg h, hk]
  exact if_pos hb
theorem PQ_par {rec5 rec0 : Nat → PR3} {B : Nat → Int32} {n u op p : Nat} (h : ¬ isDig (bt B n p) = true) (hk : nameP u (bt B n p) = none) (hb : bt B n p = 40 ∧ op < 5) : PQ rec5 rec0 B n u op p = (if (rec0 (p + 1)).2.2 = true ∧ bt B n (rec0 (p + 1)).2.1 = 41 then ((rec0 (p + 1)).1, (rec0 (p + 1)).2.1 + 1, true) else ((rec0 (p + 1)).1, (rec0 (p + 1)).2.1, false)) := by
  unfold PQ
  rw [if_neg h, hk]
  show (if _ then _ else if _ then _ else _) = _
  rw [if_neg (by omega), if_pos hb]
theorem PQ_no {rec5 rec0 : Nat → PR3} {B : Nat → Int32} {n u op p : Nat} (h : ¬ isDig (bt B n p) = true) (hk : nameP u (bt B n p) = none) (h1 : ¬ (bt B n p = 33 ∧ op < 5)) (h2 : ¬ (bt B n p = 40 ∧ op < 5)) : PQ rec5 rec0 B n u op p = ([], p, false) := by
  unfold PQ
  rw [if_neg h, hk]
  show (if _ then _ else if _ then _ else _) = _
  rw [if_neg h1, if_neg h2]
theorem PL_q (B : Nat → Int32) (n u f op p : Nat) : PL B n u (f + 1) 5 op p = PQ (PL B n u f 5 (op + 1)) (PL B n u f 0 (op + 1)) B n u op p := if_neg (by decide)
theorem PL_l (B : Nat → Int32) (n u f op p : Nat) {lv : Nat} (h : lv < 5) : PL B n u (f + 1) lv op p = PLoop (PL B n u f (lv + 1) op) B n lv (if lv = 2 then 1 else 50) (PL B n u f (lv + 1) op p) := if_pos h
theorem PLoop_y {rec : Nat → PR3} {B : Nat → Int32} {n lv k : Nat} {r : PR3} (h : r.2.2 = true ∧ signP lv (bt B n r.2.1) = true) : PLoop rec B n lv (k + 1) r = PLoop rec B n lv k (r.1 ++ (rec (r.2.1 + 1)).1 ++ [Int32.ofInt (bt B n r.2.1)], (rec (r.2.1 + 1)).2.1, (rec (r.2.1 + 1)).2.2) := if_pos h
theorem PLoop_n {rec : Nat → PR3} {B : Nat → Int32} {n lv k : Nat} {r : PR3} (h : ¬ (r.2.2 = true ∧ signP lv (bt B n r.2.1) = true)) : PLoop rec B n lv (k + 1) r = r := if_neg h
theorem nam_none {u : Nat} {b : Int} (h : b = -1) : nameP u b = none := by
  subst h
  unfold nameP nam1 nam2
  rw [if_neg (by decide), if_neg (by split <;> decide), if_neg (by split <;> decide)]
theorem addOut {xs : List Int32} {d : Nat} {Q : QT} {ln : Nat → Nat} {N : Nat} {m m2 : MW} {n u z : Nat} {r : PR3} {x : Int32} (h : Out m n u z r m2) (hz : r.2.2 = true → z + r.1.length < 50) (hQ : ∀ m3, Out m n u z (r.1 ++ [x], r.2) m3 → Q none (H m3 ln N)) : WP xs (d + 1) 19 0 0 [.ref 75, .int x] (H m2 ln N) Q := by
  obtain ⟨h1, z2, h2, h3, h5⟩ := h
  refine c_add h3.2.2.2.1 h2 (fun hlt => ?_) (fun h50 => ?_)
  · refine hQ _ ⟨(h1.up _ (Or.inl rfl)).up _ (Or.inr ⟨rfl, Or.inl rfl⟩), z2 + 1, by omega, ⟨h3.1, h3.2.1, h3.2.2.1, rfl, h3.2.2.2.2⟩, fun ho => ?_⟩
    obtain ⟨e, hc⟩ := h5 ho
    subst e
    refine ⟨?_, hc.app (CodA.one (fun _ => rfl) _ _ _ (by decide))⟩
    rw [List.length_append]
    rfl
  · refine hQ _ ⟨h1, z2, h2, h3, fun ho => ?_⟩
    have := hz ho
    have := (h5 ho).1
    omega
theorem Out.app {m m2 m3 : MW} {n u z z2 : Nat} {r r2 : PR3} (h : Out m n u z r m2) (ho : r.2.2 = true) (hz : z2 = z + r.1.length) (h2 : Out m2 n u z2 r2 m3) : Out m n u z (r.1 ++ r2.1, r2.2) m3 := by
  obtain ⟨a1, za, a2, a3, a5⟩ := h
  obtain ⟨b1, zb, b2, b3, b5⟩ := h2
  refine ⟨a1.tr b1, zb, b2, b3, fun hq => ?_⟩
  obtain ⟨e, hc⟩ := b5 hq
  subst hz
  refine ⟨?_, (a5 ho).2.app hc⟩
  rw [List.length_append, e]
  omega
theorem Out.at {m m2 : MW} {n u z : Nat} {r : PR3} (h : Out m n u z r m2) (ho : r.2.2 = true) : RdS m2 n u r.2.1 (z + r.1.length) true := by
  obtain ⟨a1, za, a2, a3, a5⟩ := h
  rw [ho, (a5 ho).1] at a3
  exact a3
theorem Out.atF {m m2 : MW} {n u z : Nat} {r : PR3} (h : Out m n u z r m2) (ho : ¬ r.2.2 = true) : ∃ z2, z2 ≤ 50 ∧ RdS m2 n u r.2.1 z2 false := by
  obtain ⟨a1, za, a2, a3, a5⟩ := h
  have e : r.2.2 = false := by simpa using ho
  rw [e] at a3
  exact ⟨za, a2, a3⟩
def RdL (xs : List Int32) (ln : Nat → Nat) (N n u f : Nat) : Prop := ∀ (m : MW) (Q : QT) (D lv op p z : Nat), 2 * f + 9 ≤ D → lv ≤ 5 → op ≤ 5 → RdS m n u p z true → p ≤ n → n ≤ 50 → z ≤ p → Tap m → 7 * (n - p) + 6 ≤ f + lv → (∀ m2, Out m n u z (PL (m 38) n u f lv op p) m2 → Q none (H m2 ln N)) → WP xs D 24 0 0 [.ref 75, .int (nI lv), .int (nI op)] (H m ln N) Q
def RdQ (xs : List Int32) (ln : Nat → Nat) (N n u f : Nat) : Prop := ∀ (m : MW) (Q : QT) (D op p z : Nat), 2 * f + 8 ≤ D → op ≤ 5 → RdS m n u p z true → p ≤ n → n ≤ 50 → z ≤ p → Tap m → 7 * (n - p) + 6 ≤ f + 5 → (∀ m2, Out m n u z (PL (m 38) n u f 5 op p) m2 → Q none (H m2 ln N)) → WP xs D 23 0 0 [.ref 75, .int (nI op)] (H m ln N) Q
theorem nam_0 {u : Nat} {b : Int} {k : Int32} (h : nameP u b = some k) : 0 ≤ k.toInt := by
  unfold nameP at h
  by_cases h1 : b = 104
  · rw [if_pos h1] at h
    cases h
    decide
  · rw [if_neg h1] at h
    by_cases h2 : b = nam1 u
    · rw [if_pos h2] at h
      cases h
      decide
    · rw [if_neg h2] at h
      by_cases h3 : b = nam2 u
      · rw [if_pos h3] at h
        cases h
        decide
      · rw [if_neg h3] at h
        cases h
section
variable {xs : List Int32} {d : Nat} {h : AH} {Q : QT} {m : MW} {ln : Nat → Nat} {N : Nat}
set_option maxRecDepth 20000 in
set_option maxHeartbeats 40000000 in
theorem c_readQ {n u f : Nat} (hu : u ≤ 1) (ihL : RdL xs ln N n u f) (ihQ : RdQ xs ln N n u f) : RdQ xs ln N n u (f + 1) := by
  intro m Q D op p z hD hop hS hp hn hz hT hf hQ
  obtain ⟨d, rfl⟩ : ∃ d, D = d + 8 := ⟨D - 8, by omega⟩
  rw [PL_q] at hQ
  have hs : u < 8 := by omega
  refine wp_x mx_23 (L := [some (.ref (75)), some (.int (nI (op))), none, none]) (Nat.le_of_ble_eq_true rfl) rfl ?_
  refine g_aload_n m23_0 rfl ?_
  refine h_cv (k := 43) (p := 75) (args := []) (rest := []) m23_1 cn_17 (Nat.le_of_ble_eq_true rfl) rfl rfl rfl (t_43 _ _) (Nat.le_of_ble_eq_true rfl) ?_
  refine c_here hS hp hn hT (fun hpn c hc hce => ?_) (fun hpn => ?_)
  · have hbt : bt (m 38) n p = (c : Int) := bt_y hpn hce hc
    refine gwr ?_
    refine g_istore_n (L2 := [some (.ref (75)), some (.int (nI (op))), some (.int (nI (c))), none]) m23_4 rfl rfl ?_
    refine g_iload_n m23_5 rfl ?_
    refine h_if_geT (xi := ((c : Nat) : Int)) (zi := 0) m23_6 (nI_toInt (by omega)) rfl (by omega) ?_
    refine g_aload_n m23_13 rfl ?_
    refine h_gfN (k := 43) (p := 75) m23_14 rfl (t_43 _ _) rfl ?_
    refine gwst (st' := .ref (3 + u) :: _) (congrArg (fun z => z :: _) (nm_u hS.2.1 hu)) ?_
    refine g_iload_n m23_17 rfl ?_
    refine g_i2c (u := nI (c)) m23_18 (by rw [pk_char, pk_tn (by omega), Nat.mod_eq_of_lt (by omega)]) ?_
    refine g_cv (fs := [.ref (11 + u), .int 0]) (args := [.int (nI (c))]) (rest := []) m23_19 (Nat.le_of_ble_eq_true rfl) rfl rfl (by rw [cn_4]; exact ro_s hs) (Nat.le_of_ble_eq_true rfl) ?_
    refine c_ixOf (show u < 8 by omega) hc ?_
    have hir : (Int32.ofInt (ixS u c)).toInt = ixS u c := ix_t (by omega) hc
    have hiu := ixS_u hu hc
    refine gwr ?_
    refine g_istore_n (L2 := [some (.ref (75)), some (.int (nI (op))), some (.int (nI (c))), some (.int (Int32.ofInt (ixS u c)))]) m23_22 rfl rfl ?_
    refine g_iload_n m23_23 rfl ?_
    refine g_cs (args := [.int (nI (c))]) (rest := []) 0 (Or.inl rfl) m23_24 (Nat.le_of_ble_eq_true rfl) rfl rfl (Nat.le_of_ble_eq_true rfl) ?_
    refine c_isDigitI (vi := ((c : Nat) : Int)) (nI_toInt (by omega)) (fun a_1 => ?_) (fun a_1 => ?_)
    · skip
      have hdg : isDig (bt (m 38) n p) = true := by rw [hbt]; exact a_1
      refine gwr ?_
      refine h_if_eqF (xi := 1) (zi := 0) m23_27 rfl rfl (by decide) ?_
      refine g_aload_n m23_30 rfl ?_
      refine h_cv (k := 43) (p := 75) (args := []) (rest := []) m23_31 cn_21 (Nat.le_of_ble_eq_true rfl) rfl rfl rfl (t_43 _ _) (Nat.le_of_ble_eq_true rfl) ?_
      rw [PQ_dig hdg] at hQ
      refine c_readNumber hS hp hn hT (by omega) (fun m2 ho2 => ?_)
      refine gwr0 ?_
      refine g_goto m23_34 ?_
      refine g_vret m23_145 ?_
      exact hQ _ ho2
    · have hdg : ¬ isDig (bt (m 38) n p) = true := by rw [hbt]; exact a_1
      refine gwr ?_
      refine h_if_eqT (xi := 0) (zi := 0) m23_27 rfl rfl (by decide) ?_
      refine g_iload_n m23_37 rfl ?_
      refine h_if_lt (xi := ixS u c) (zi := 0) m23_38 hir rfl (fun c1 => ?_) (fun c1 => ?_)
      · skip
        have hnn : nameP u (bt (m 38) n p) = none := by
          rw [hbt]
          cases hnm : nameP u (c : Int) with
          | none => rfl
          | some k =>
            rw [hnm] at hiu
            have hiu2 : ixS u c = k.toInt := hiu
            have := nam_0 hnm
            omega
        refine g_iload_n m23_59 rfl ?_
        refine g_bipush m23_60 ?_
        refine h_ic_ne (xi := ((c : Nat) : Int)) (zi := 33) m23_62 (nI_toInt (by omega)) rfl (fun c2 => ?_) (fun c2 => ?_)
        · skip
          refine g_iload_n m23_65 rfl ?_
          refine g_iconst m23_66 ?_
          refine h_ic_ge (xi := ((op : Nat) : Int)) (zi := 5) m23_67 (nI_toInt (by omega)) rfl (fun c3 => ?_) (fun c3 => ?_)
          · skip
            refine g_iload_n m23_96 rfl ?_
            refine g_bipush m23_97 ?_
            refine h_ic_ne (xi := ((c : Nat) : Int)) (zi := 40) m23_99 (nI_toInt (by omega)) rfl (fun c4 => ?_) (fun c4 => ?_)
            · skip
              refine g_iload_n m23_102 rfl ?_
              refine g_iconst m23_103 ?_
              refine h_ic_ge (xi := ((op : Nat) : Int)) (zi := 5) m23_104 (nI_toInt (by omega)) rfl (fun c5 => ?_) (fun c5 => ?_)
              · skip
                refine g_aload_n m23_141 rfl ?_
                refine h_cv (k := 43) (p := 75) (args := []) (rest := []) m23_142 cn_22 (Nat.le_of_ble_eq_true rfl) rfl rfl rfl (t_43 _ _) (Nat.le_of_ble_eq_true rfl) ?_
                rw [PQ_no hdg hnn (by omega) (by omega)] at hQ
                refine c_fail hS hp hn hT ?_
                refine gwr0 ?_
                refine g_vret m23_145 ?_
                exact hQ _ ⟨FrR.rf.up _ (Or.inr ⟨rfl, Or.inr (Or.inr rfl)⟩), z, by omega, ⟨hS.1, hS.2.1, hS.2.2.1, hS.2.2.2.1, rfl⟩, fun q => by cases q⟩
              · skip
                refine g_aload_n m23_107 rfl ?_
                refine g_dup m23_108 rfl ?_
                refine h_gfI (k := 43) (p := 75) m23_109 rfl (t_43 _ _) rfl (hS.2.2.1) ?_
                refine g_iconst m23_112 ?_
                refine g_iadd (u := nI (p + 1)) m23_113 (nI_add p 1) ?_
                refine h_pfI (k := 43) (p := 75) m23_114 rfl (t_43 _ _) rfl trivial ?_
                refine g_aload_n m23_117 rfl ?_
                refine g_iconst m23_118 ?_
                refine g_iload_n m23_119 rfl ?_
                refine g_iconst m23_120 ?_
                refine g_iadd (u := nI (op + 1)) m23_121 (nI_add op 1) ?_
                refine h_cv (k := 43) (p := 75) (args := [.int (0), .int (nI (op + 1))]) (rest := []) m23_122 cn_24 (Nat.le_of_ble_eq_true rfl) rfl rfl rfl (t_43 _ _) (Nat.le_of_ble_eq_true rfl) ?_
                have hS1 : RdS (upm m 43 5 (nI (p + 1))) n u (p + 1) z true := ⟨hS.1, hS.2.1, rfl, hS.2.2.2.1, hS.2.2.2.2⟩
                have hF1 : FrR m (upm m 43 5 (nI (p + 1))) := FrR.rf.up _ (Or.inr ⟨rfl, Or.inr (Or.inl rfl)⟩)
                have ht1 : (upm m 43 5 (nI (p + 1))) 38 = m 38 := row_up m _ (by decide)
                have h41 : ∀ j, (upm m 43 5 (nI (p + 1))) 44 j = m 44 j := fun j => upm_k _ _ (by decide)
                have hT1 : Tap (upm m 43 5 (nI (p + 1))) := fun j hj => by rw [ht1]; exact hT j hj
                rw [PQ_par hdg hnn ⟨by omega, by omega⟩] at hQ
                refine ihL _ _ _ 0 (op + 1) (p + 1) z (by omega) (by omega) (by omega) hS1 (by omega) hn (by omega) hT1 (by omega) (fun m2 ho2 => ?_)
                rw [ht1] at ho2
                have hg := PL_ok (m 38) n u f 0 (op + 1) (p + 1) (by omega)
                have ho3 := Out.pre hF1 h41 ho2
                generalize PL (m 38) n u f 0 (op + 1) (p + 1) = r at *
                obtain ⟨g1, g2, g3⟩ := hg
                by_cases hrk : r.2.2 = true
                · skip
                  refine gwr0 ?_
                  refine g_aload_n m23_125 rfl ?_
                  refine g_ldcs m23_126 (by decide) ?_
                  refine h_cv (k := 43) (p := 75) (args := [.ref (5)]) (rest := []) m23_128 cn_18 (Nat.le_of_ble_eq_true rfl) rfl rfl rfl (t_43 _ _) (Nat.le_of_ble_eq_true rfl) ?_
                  have hS2 := ho3.at hrk
                  have hT2 : Tap m2 := fun j hj => by rw [ho3.tape]; exact hT j hj
                  have hlen := (g3 hrk).2.2
                  refine c_passR (s := 2) hS2 g2 hn hT2 (by decide) (fun hpn c2 hc2 hce2 hix => ?_) (fun hno => ?_)
                  · have e41 := (ixS_c c2 hc2).mp hix
                    have hb2 : bt (m 38) n r.2.1 = 41 := by rw [← ho3.tape, bt_y hpn hce2 hc2]; omega
                    rw [if_pos ⟨hrk, hb2⟩] at hQ
                    refine gwr ?_
                    refine h_if_neF (xi := ((c2 : Nat) : Int)) (zi := 0) m23_131 (nI_toInt (by omega)) rfl (by omega) ?_
                    refine g_vret m23_145 ?_
                    refine hQ _ ⟨ho3.1.up _ (Or.inr ⟨rfl, Or.inr (Or.inl rfl)⟩), z + r.1.length, by omega, ⟨hS2.1, hS2.2.1, rfl, hS2.2.2.2.1, hS2.2.2.2.2⟩, fun _ => ⟨rfl, ?_⟩⟩
                    obtain ⟨o1, zo, o2, o3, o5⟩ := ho3
                    exact ⟨fun j hj => (upm_k _ _ (by decide)).trans ((o5 hrk).2.1 j hj), fun j hj => (upm_k _ _ (by decide)).trans ((o5 hrk).2.2 j hj)⟩
                  · have hb2 : ¬ bt (m 38) n r.2.1 = 41 := by
                      intro hb
                      rw [← ho3.tape] at hb
                      have hlt := bt_lt (B := m2 38) (n := n) (p := r.2.1) (by omega)
                      obtain ⟨c2, hc2, hce2⟩ := hT2 r.2.1 (by omega)
                      have hb3 := bt_y hlt hce2 (by omega)
                      exact hno c2 (by omega) hlt hce2 ((ixS_c c2 (by omega)).mpr (by omega))
                    rw [if_neg (fun q => hb2 q.2)] at hQ
                    refine gwr ?_
                    refine h_if_neT (xi := 0) (zi := 0) m23_131 rfl rfl (by decide) ?_
                    refine g_aload_n m23_134 rfl ?_
                    refine h_cv (k := 43) (p := 75) (args := []) (rest := []) m23_135 cn_22 (Nat.le_of_ble_eq_true rfl) rfl rfl rfl (t_43 _ _) (Nat.le_of_ble_eq_true rfl) ?_
                    refine c_fail hS2 g2 hn hT2 ?_
                    refine gwr0 ?_
                    refine g_goto m23_138 ?_
                    refine g_vret m23_145 ?_
                    exact hQ _ ⟨ho3.1.up _ (Or.inr ⟨rfl, Or.inr (Or.inr rfl)⟩), z + r.1.length, by omega, ⟨hS2.1, hS2.2.1, hS2.2.2.1, hS2.2.2.2.1, rfl⟩, fun q => by cases q⟩
                · skip
                  refine gwr0 ?_
                  refine g_aload_n m23_125 rfl ?_
                  refine g_ldcs m23_126 (by decide) ?_
                  refine h_cv (k := 43) (p := 75) (args := [.ref (5)]) (rest := []) m23_128 cn_18 (Nat.le_of_ble_eq_true rfl) rfl rfl rfl (t_43 _ _) (Nat.le_of_ble_eq_true rfl) ?_
                  obtain ⟨zf, hzf, hS2⟩ := ho3.atF hrk
                  rw [if_neg (fun q => hrk q.1)] at hQ
                  refine c_passRF (s := 2) hS2 g2 hn ?_
                  refine gwr ?_
                  refine h_if_neT (xi := 0) (zi := 0) m23_131 rfl rfl (by decide) ?_
                  refine g_aload_n m23_134 rfl ?_
                  refine h_cv (k := 43) (p := 75) (args := []) (rest := []) m23_135 cn_22 (Nat.le_of_ble_eq_true rfl) rfl rfl rfl (t_43 _ _) (Nat.le_of_ble_eq_true rfl) ?_
                  refine c_failF hS2 g2 hn ?_
                  refine gwr0 ?_
                  refine g_goto m23_138 ?_
                  refine g_vret m23_145 ?_
                  exact hQ _ ⟨ho3.1, zf, hzf, hS2, fun q => by cases q⟩
            · skip
              refine g_aload_n m23_141 rfl ?_
              refine h_cv (k := 43) (p := 75) (args := []) (rest := []) m23_142 cn_22 (Nat.le_of_ble_eq_true rfl) rfl rfl rfl (t_43 _ _) (Nat.le_of_ble_eq_true rfl) ?_
              rw [PQ_no hdg hnn (by omega) (by omega)] at hQ
              refine c_fail hS hp hn hT ?_
              refine gwr0 ?_
              refine g_vret m23_145 ?_
              exact hQ _ ⟨FrR.rf.up _ (Or.inr ⟨rfl, Or.inr (Or.inr rfl)⟩), z, by omega, ⟨hS.1, hS.2.1, hS.2.2.1, hS.2.2.2.1, rfl⟩, fun q => by cases q⟩
          · skip
            refine g_aload_n m23_70 rfl ?_
            refine g_dup m23_71 rfl ?_
            refine h_gfI (k := 43) (p := 75) m23_72 rfl (t_43 _ _) rfl (hS.2.2.1) ?_
            refine g_iconst m23_75 ?_
            refine g_iadd (u := nI (p + 1)) m23_76 (nI_add p 1) ?_
            refine h_pfI (k := 43) (p := 75) m23_77 rfl (t_43 _ _) rfl trivial ?_
            refine g_aload_n m23_80 rfl ?_
            refine g_iload_n m23_81 rfl ?_
            refine g_iconst m23_82 ?_
            refine g_iadd (u := nI (op + 1)) m23_83 (nI_add op 1) ?_
            refine h_cv (k := 43) (p := 75) (args := [.int (nI (op + 1))]) (rest := []) m23_84 cn_23 (Nat.le_of_ble_eq_true rfl) rfl rfl rfl (t_43 _ _) (Nat.le_of_ble_eq_true rfl) ?_
            have hS1 : RdS (upm m 43 5 (nI (p + 1))) n u (p + 1) z true := ⟨hS.1, hS.2.1, rfl, hS.2.2.2.1, hS.2.2.2.2⟩
            have hF1 : FrR m (upm m 43 5 (nI (p + 1))) := FrR.rf.up _ (Or.inr ⟨rfl, Or.inr (Or.inl rfl)⟩)
            have ht1 : (upm m 43 5 (nI (p + 1))) 38 = m 38 := row_up m _ (by decide)
            have h41 : ∀ j, (upm m 43 5 (nI (p + 1))) 44 j = m 44 j := fun j => upm_k _ _ (by decide)
            have hT1 : Tap (upm m 43 5 (nI (p + 1))) := fun j hj => by rw [ht1]; exact hT j hj
            rw [PQ_not hdg hnn ⟨by omega, by omega⟩] at hQ
            refine ihQ _ _ _ (op + 1) (p + 1) z (by omega) (by omega) hS1 (by omega) hn (by omega) hT1 (by omega) (fun m2 ho2 => ?_)
            rw [ht1] at ho2
            have hg := PL_ok (m 38) n u f 5 (op + 1) (p + 1) (by omega)
            have ho3 := Out.pre hF1 h41 ho2
            refine gwr0 ?_
            refine g_aload_n m23_87 rfl ?_
            refine g_bipush m23_88 ?_
            refine h_cv (k := 43) (p := 75) (args := [.int (33)]) (rest := []) m23_90 cn_19 (Nat.le_of_ble_eq_true rfl) rfl rfl rfl (t_43 _ _) (Nat.le_of_ble_eq_true rfl) ?_
            refine addOut ho3 (fun hk => ?_) (fun m3 ho4 => ?_)
            · obtain ⟨g1, g2, g3⟩ := hg
              have := (g3 hk).2.2
              omega
            refine gwr0 ?_
            refine g_goto m23_93 ?_
            refine g_vret m23_145 ?_
            exact hQ _ ho4
        · skip
          refine g_iload_n m23_96 rfl ?_
          refine g_bipush m23_97 ?_
          refine h_ic_ne (xi := ((c : Nat) : Int)) (zi := 40) m23_99 (nI_toInt (by omega)) rfl (fun c6 => ?_) (fun c6 => ?_)
          · skip
            refine g_iload_n m23_102 rfl ?_
            refine g_iconst m23_103 ?_
            refine h_ic_ge (xi := ((op : Nat) : Int)) (zi := 5) m23_104 (nI_toInt (by omega)) rfl (fun c7 => ?_) (fun c7 => ?_)
            · skip
              refine g_aload_n m23_141 rfl ?_
              refine h_cv (k := 43) (p := 75) (args := []) (rest := []) m23_142 cn_22 (Nat.le_of_ble_eq_true rfl) rfl rfl rfl (t_43 _ _) (Nat.le_of_ble_eq_true rfl) ?_
              rw [PQ_no hdg hnn (by omega) (by omega)] at hQ
              refine c_fail hS hp hn hT ?_
              refine gwr0 ?_
              refine g_vret m23_145 ?_
              exact hQ _ ⟨FrR.rf.up _ (Or.inr ⟨rfl, Or.inr (Or.inr rfl)⟩), z, by omega, ⟨hS.1, hS.2.1, hS.2.2.1, hS.2.2.2.1, rfl⟩, fun q => by cases q⟩
            · skip
              refine g_aload_n m23_107 rfl ?_
              refine g_dup m23_108 rfl ?_
              refine h_gfI (k := 43) (p := 75) m23_109 rfl (t_43 _ _) rfl (hS.2.2.1) ?_
              refine g_iconst m23_112 ?_
              refine g_iadd (u := nI (p + 1)) m23_113 (nI_add p 1) ?_
              refine h_pfI (k := 43) (p := 75) m23_114 rfl (t_43 _ _) rfl trivial ?_
              refine g_aload_n m23_117 rfl ?_
              refine g_iconst m23_118 ?_
              refine g_iload_n m23_119 rfl ?_
              refine g_iconst m23_120 ?_
              refine g_iadd (u := nI (op + 1)) m23_121 (nI_add op 1) ?_
              refine h_cv (k := 43) (p := 75) (args := [.int (0), .int (nI (op + 1))]) (rest := []) m23_122 cn_24 (Nat.le_of_ble_eq_true rfl) rfl rfl rfl (t_43 _ _) (Nat.le_of_ble_eq_true rfl) ?_
              have hS1 : RdS (upm m 43 5 (nI (p + 1))) n u (p + 1) z true := ⟨hS.1, hS.2.1, rfl, hS.2.2.2.1, hS.2.2.2.2⟩
              have hF1 : FrR m (upm m 43 5 (nI (p + 1))) := FrR.rf.up _ (Or.inr ⟨rfl, Or.inr (Or.inl rfl)⟩)
              have ht1 : (upm m 43 5 (nI (p + 1))) 38 = m 38 := row_up m _ (by decide)
              have h41 : ∀ j, (upm m 43 5 (nI (p + 1))) 44 j = m 44 j := fun j => upm_k _ _ (by decide)
              have hT1 : Tap (upm m 43 5 (nI (p + 1))) := fun j hj => by rw [ht1]; exact hT j hj
              rw [PQ_par hdg hnn ⟨by omega, by omega⟩] at hQ
              refine ihL _ _ _ 0 (op + 1) (p + 1) z (by omega) (by omega) (by omega) hS1 (by omega) hn (by omega) hT1 (by omega) (fun m2 ho2 => ?_)
              rw [ht1] at ho2
              have hg := PL_ok (m 38) n u f 0 (op + 1) (p + 1) (by omega)
              have ho3 := Out.pre hF1 h41 ho2
              generalize PL (m 38) n u f 0 (op + 1) (p + 1) = r at *
              obtain ⟨g1, g2, g3⟩ := hg
              by_cases hrk : r.2.2 = true
              · skip
                refine gwr0 ?_
                refine g_aload_n m23_125 rfl ?_
                refine g_ldcs m23_126 (by decide) ?_
                refine h_cv (k := 43) (p := 75) (args := [.ref (5)]) (rest := []) m23_128 cn_18 (Nat.le_of_ble_eq_true rfl) rfl rfl rfl (t_43 _ _) (Nat.le_of_ble_eq_true rfl) ?_
                have hS2 := ho3.at hrk
                have hT2 : Tap m2 := fun j hj => by rw [ho3.tape]; exact hT j hj
                have hlen := (g3 hrk).2.2
                refine c_passR (s := 2) hS2 g2 hn hT2 (by decide) (fun hpn c2 hc2 hce2 hix => ?_) (fun hno => ?_)
                · have e41 := (ixS_c c2 hc2).mp hix
                  have hb2 : bt (m 38) n r.2.1 = 41 := by rw [← ho3.tape, bt_y hpn hce2 hc2]; omega
                  rw [if_pos ⟨hrk, hb2⟩] at hQ
                  refine gwr ?_
                  refine h_if_neF (xi := ((c2 : Nat) : Int)) (zi := 0) m23_131 (nI_toInt (by omega)) rfl (by omega) ?_
                  refine g_vret m23_145 ?_
                  refine hQ _ ⟨ho3.1.up _ (Or.inr ⟨rfl, Or.inr (Or.inl rfl)⟩), z + r.1.length, by omega, ⟨hS2.1, hS2.2.1, rfl, hS2.2.2.2.1, hS2.2.2.2.2⟩, fun _ => ⟨rfl, ?_⟩⟩
                  obtain ⟨o1, zo, o2, o3, o5⟩ := ho3
                  exact ⟨fun j hj => (upm_k _ _ (by decide)).trans ((o5 hrk).2.1 j hj), fun j hj => (upm_k _ _ (by decide)).trans ((o5 hrk).2.2 j hj)⟩
                · have hb2 : ¬ bt (m 38) n r.2.1 = 41 := by
                    intro hb
                    rw [← ho3.tape] at hb
                    have hlt := bt_lt (B := m2 38) (n := n) (p := r.2.1) (by omega)
                    obtain ⟨c2, hc2, hce2⟩ := hT2 r.2.1 (by omega)
                    have hb3 := bt_y hlt hce2 (by omega)
                    exact hno c2 (by omega) hlt hce2 ((ixS_c c2 (by omega)).mpr (by omega))
                  rw [if_neg (fun q => hb2 q.2)] at hQ
                  refine gwr ?_
                  refine h_if_neT (xi := 0) (zi := 0) m23_131 rfl rfl (by decide) ?_
                  refine g_aload_n m23_134 rfl ?_
                  refine h_cv (k := 43) (p := 75) (args := []) (rest := []) m23_135 cn_22 (Nat.le_of_ble_eq_true rfl) rfl rfl rfl (t_43 _ _) (Nat.le_of_ble_eq_true rfl) ?_
                  refine c_fail hS2 g2 hn hT2 ?_
                  refine gwr0 ?_
                  refine g_goto m23_138 ?_
                  refine g_vret m23_145 ?_
                  exact hQ _ ⟨ho3.1.up _ (Or.inr ⟨rfl, Or.inr (Or.inr rfl)⟩), z + r.1.length, by omega, ⟨hS2.1, hS2.2.1, hS2.2.2.1, hS2.2.2.2.1, rfl⟩, fun q => by cases q⟩
              · skip
                refine gwr0 ?_
                refine g_aload_n m23_125 rfl ?_
                refine g_ldcs m23_126 (by decide) ?_
                refine h_cv (k := 43) (p := 75) (args := [.ref (5)]) (rest := []) m23_128 cn_18 (Nat.le_of_ble_eq_true rfl) rfl rfl rfl (t_43 _ _) (Nat.le_of_ble_eq_true rfl) ?_
                obtain ⟨zf, hzf, hS2⟩ := ho3.atF hrk
                rw [if_neg (fun q => hrk q.1)] at hQ
                refine c_passRF (s := 2) hS2 g2 hn ?_
                refine gwr ?_
                refine h_if_neT (xi := 0) (zi := 0) m23_131 rfl rfl (by decide) ?_
                refine g_aload_n m23_134 rfl ?_
                refine h_cv (k := 43) (p := 75) (args := []) (rest := []) m23_135 cn_22 (Nat.le_of_ble_eq_true rfl) rfl rfl rfl (t_43 _ _) (Nat.le_of_ble_eq_true rfl) ?_
                refine c_failF hS2 g2 hn ?_
                refine gwr0 ?_
                refine g_goto m23_138 ?_
                refine g_vret m23_145 ?_
                exact hQ _ ⟨ho3.1, zf, hzf, hS2, fun q => by cases q⟩
          · skip
            refine g_aload_n m23_141 rfl ?_
            refine h_cv (k := 43) (p := 75) (args := []) (rest := []) m23_142 cn_22 (Nat.le_of_ble_eq_true rfl) rfl rfl rfl (t_43 _ _) (Nat.le_of_ble_eq_true rfl) ?_
            rw [PQ_no hdg hnn (by omega) (by omega)] at hQ
            refine c_fail hS hp hn hT ?_
            refine gwr0 ?_
            refine g_vret m23_145 ?_
            exact hQ _ ⟨FrR.rf.up _ (Or.inr ⟨rfl, Or.inr (Or.inr rfl)⟩), z, by omega, ⟨hS.1, hS.2.1, hS.2.2.1, hS.2.2.2.1, rfl⟩, fun q => by cases q⟩
      · skip
        refine g_aload_n m23_41 rfl ?_
        refine g_dup m23_42 rfl ?_
        refine h_gfI (k := 43) (p := 75) m23_43 rfl (t_43 _ _) rfl (hS.2.2.1) ?_
        refine g_iconst m23_46 ?_
        refine g_iadd (u := nI (p + 1)) m23_47 (nI_add p 1) ?_
        refine h_pfI (k := 43) (p := 75) m23_48 rfl (t_43 _ _) rfl trivial ?_
        refine g_aload_n m23_51 rfl ?_
        refine g_iload_n m23_52 rfl ?_
        refine h_cv (k := 43) (p := 75) (args := [.int (Int32.ofInt (ixS u c))]) (rest := []) m23_53 cn_19 (Nat.le_of_ble_eq_true rfl) rfl rfl rfl (t_43 _ _) (Nat.le_of_ble_eq_true rfl) ?_
        obtain ⟨k, hk⟩ : ∃ k, nameP u (bt (m 38) n p) = some k := by
          rw [hbt]
          cases hnm : nameP u (c : Int) with
          | none =>
            rw [hnm] at hiu
            have hiu2 : ixS u c = -1 := hiu
            omega
          | some k => exact ⟨k, rfl⟩
        rw [PQ_nam hdg hk] at hQ
        have hke : Int32.ofInt (ixS u c) = k := by
          rw [hbt] at hk
          rw [hk] at hiu
          have hiu2 : ixS u c = k.toInt := hiu
          rw [hiu2, Int32.ofInt_toInt]
        rw [hke]
        have hO : Out m n u z ([], p + 1, true) (upm m 43 5 (nI (p + 1))) := ⟨FrR.rf.up _ (Or.inr ⟨rfl, Or.inr (Or.inl rfl)⟩), z, by omega, ⟨hS.1, hS.2.1, rfl, hS.2.2.2.1, hS.2.2.2.2⟩, fun _ => ⟨rfl, CodA.nil (fun j => upm_k _ _ (by decide))⟩⟩
        refine addOut hO (fun _ => by show z + 0 < 50; omega) (fun m2 ho2 => ?_)
        refine gwr0 ?_
        refine g_goto m23_56 ?_
        refine g_vret m23_145 ?_
        exact hQ _ ho2
  · have hbt : bt (m 38) n p = -1 := bt_n hpn
    have hnn : nameP u (bt (m 38) n p) = none := nam_none hbt
    refine gwr ?_
    refine g_istore_n (L2 := [some (.ref (75)), some (.int (nI (op))), some (.int (-1)), none]) m23_4 rfl rfl ?_
    refine g_iload_n m23_5 rfl ?_
    refine h_if_geF (xi := (-1)) (zi := 0) m23_6 rfl rfl (by decide) ?_
    refine g_iconst m23_9 ?_
    refine g_goto m23_10 ?_
    refine g_istore_n (L2 := [some (.ref (75)), some (.int (nI (op))), some (.int (-1)), some (.int (-1))]) m23_22 rfl rfl ?_
    refine g_iload_n m23_23 rfl ?_
    refine g_cs (args := [.int (-1)]) (rest := []) 0 (Or.inl rfl) m23_24 (Nat.le_of_ble_eq_true rfl) rfl rfl (Nat.le_of_ble_eq_true rfl) ?_
    refine c_isDigitI (vi := (-1)) rfl (fun a_2 => ?_) (fun a_2 => ?_)
    · skip
      exact absurd a_2 (by decide)
    · have hdg : ¬ isDig (bt (m 38) n p) = true := by rw [hbt]; exact a_2
      refine gwr ?_
      refine h_if_eqT (xi := 0) (zi := 0) m23_27 rfl rfl (by decide) ?_
      refine g_iload_n m23_37 rfl ?_
      refine h_if_ltT (xi := (-1)) (zi := 0) m23_38 rfl rfl (by decide) ?_
      refine g_iload_n m23_59 rfl ?_
      refine g_bipush m23_60 ?_
      refine h_ic_neF (xi := (-1)) (zi := 33) m23_62 rfl rfl (by decide) ?_
      refine g_iload_n m23_96 rfl ?_
      refine g_bipush m23_97 ?_
      refine h_ic_neF (xi := (-1)) (zi := 40) m23_99 rfl rfl (by decide) ?_
      refine g_aload_n m23_141 rfl ?_
      refine h_cv (k := 43) (p := 75) (args := []) (rest := []) m23_142 cn_22 (Nat.le_of_ble_eq_true rfl) rfl rfl rfl (t_43 _ _) (Nat.le_of_ble_eq_true rfl) ?_
      rw [PQ_no hdg hnn (by omega) (by omega)] at hQ
      refine c_fail hS hp hn hT ?_
      refine gwr0 ?_
      refine g_vret m23_145 ?_
      exact hQ _ ⟨FrR.rf.up _ (Or.inr ⟨rfl, Or.inr (Or.inr rfl)⟩), z, by omega, ⟨hS.1, hS.2.1, hS.2.2.1, hS.2.2.2.1, rfl⟩, fun q => by cases q⟩
end
end
section
/-! THE CLASS'S READER: the levels, the tape -/
section
variable {xs : List Int32} {d : Nat} {h : AH} {Q : QT} {m : MW} {ln : Nat → Nat} {N : Nat}
theorem ofInt_n (c : Nat) : Int32.ofInt (c : Int) = nI c := rfl
theorem Out.ofS {m m2 : MW} {n u z p : Nat} (hF : FrR m m2) (hz : z ≤ 50) (h : RdS m2 n u p z true) (h4 : ∀ j, m2 44 j = m 44 j) : Out m n u z ([], p, true) m2 := ⟨hF, z, hz, h, fun _ => ⟨rfl, CodA.nil h4⟩⟩
theorem sign_ne {lv : Nat} {c : Nat} (h : signP lv (c : Int) = true) : 0 < c := by
  have := signP_in h
  omega
set_option maxRecDepth 20000 in
set_option maxHeartbeats 40000000 in
theorem c_readLevel {n u f : Nat} (ihL : RdL xs ln N n u f) (hQ5 : RdQ xs ln N n u (f + 1)) : RdL xs ln N n u (f + 1) := by
  intro m Q D lv op p z hD hlv hop hS hp hn hz hT hf hQ
  obtain ⟨d, rfl⟩ : ∃ d, D = d + 9 := ⟨D - 9, by omega⟩
  refine wp_x mx_24 (L := [some (.ref (75)), some (.int (nI (lv))), some (.int (nI (op))), none, none, none]) (Nat.le_of_ble_eq_true rfl) rfl ?_
  refine g_iload_n m24_0 rfl ?_
  refine g_iconst m24_1 ?_
  refine h_ic_lt (xi := ((lv : Nat) : Int)) (zi := 5) m24_2 (nI_toInt (by omega)) rfl (fun c1 => ?_) (fun c1 => ?_)
  · skip
    refine g_aload_n m24_11 rfl ?_
    refine g_iload_n m24_12 rfl ?_
    refine g_iconst m24_13 ?_
    refine g_iadd (u := nI (lv + 1)) m24_14 (nI_add lv 1) ?_
    refine g_iload_n m24_15 rfl ?_
    refine h_cv (k := 43) (p := 75) (args := [.int (nI (lv + 1)), .int (nI (op))]) (rest := []) m24_16 cn_24 (Nat.le_of_ble_eq_true rfl) rfl rfl rfl (t_43 _ _) (Nat.le_of_ble_eq_true rfl) ?_
    have hl5 : lv < 5 := by omega
    rw [PL_l _ _ _ _ _ _ hl5] at hQ
    refine ihL _ _ _ (lv + 1) op p z (by omega) (by omega) hop hS hp hn hz hT (by omega) (fun m1 ho1 => ?_)
    have hg1 := PL_ok (m 38) n u f (lv + 1) op p hp
    refine gwr0 ?_
    refine g_iload_n m24_19 rfl ?_
    refine g_iconst m24_20 ?_
    refine h_ic_ne (xi := ((lv : Nat) : Int)) (zi := 2) m24_21 (nI_toInt (by omega)) rfl (fun c2 => ?_) (fun c2 => ?_)
    · skip
      refine g_iconst m24_24 ?_
      refine g_goto m24_25 ?_
      refine g_istore_n (L2 := [some (.ref (75)), some (.int (nI (lv))), some (.int (nI (op))), some (.int (1)), none, none]) m24_30 rfl rfl ?_
      refine g_iconst m24_31 ?_
      refine g_istore (L2 := [some (.ref (75)), some (.int (nI (lv))), some (.int (nI (op))), some (.int (1)), some (.int (0)), none]) m24_32 rfl rfl ?_
      have hmost : (if lv = 2 then 1 else 50) = 1 := if_pos (by omega)
      rw [hmost] at hQ
      have key : ∀ (k i : Nat) (o5 : Option Value) (r : PR3) (m2 : MW), i + k = 1 → Out m n u z r m2 → GoodR n p r → PLoop (PL (m 38) n u f (lv + 1) op) (m 38) n lv k r = PLoop (PL (m 38) n u f (lv + 1) op) (m 38) n lv 1 (PL (m 38) n u f (lv + 1) op p) → gw xs (WP xs (d + 8)) 24 Q 34 [some (.ref (75)), some (.int (nI (lv))), some (.int (nI (op))), some (.int (1)), some (.int (nI (i))), o5] [] (H m2 ln N) 0 0 := by
        intro k
        induction k with
        | zero =>
          intro i o5 r m2 hi ho hg hfin
          have hfin2 : r = _ := hfin
          refine g_iload m24_34 rfl ?_
          refine g_iload_n m24_36 rfl ?_
          refine h_ic_geT (xi := ((i : Nat) : Int)) (zi := 1) m24_37 (nI_toInt (by omega)) rfl (by omega) ?_
          refine g_vret m24_76 ?_
          exact hQ _ (by rw [← hfin2]; exact ho)
        | succ k ih =>
          intro i o5 r m2 hi ho hg hfin
          obtain ⟨g1, g2, g3⟩ := hg
          by_cases hrk : r.2.2 = true
          · skip
            refine g_iload m24_34 rfl ?_
            refine g_iload_n m24_36 rfl ?_
            refine h_ic_geF (xi := ((i : Nat) : Int)) (zi := 1) m24_37 (nI_toInt (by omega)) rfl (by omega) ?_
            refine g_aload_n m24_40 rfl ?_
            refine g_iload_n m24_41 rfl ?_
            refine g_cs (args := [.int (nI (lv))]) (rest := [.ref (75)]) 0 (Or.inl rfl) m24_42 (Nat.le_of_ble_eq_true rfl) rfl rfl (Nat.le_of_ble_eq_true rfl) ?_
            refine c_signsOf hl5 ?_
            rw [show 6 + lv = 3 + (3 + lv) by omega]
            refine gwr ?_
            refine h_cv (k := 43) (p := 75) (args := [.ref (3 + (3 + lv))]) (rest := []) m24_45 cn_18 (Nat.le_of_ble_eq_true rfl) rfl rfl rfl (t_43 _ _) (Nat.le_of_ble_eq_true rfl) ?_
            have hS2 := ho.at hrk
            have hT2 : Tap m2 := fun j hj => by rw [ho.tape]; exact hT j hj
            obtain ⟨g4, g5, g6⟩ := g3 hrk
            refine c_passR (s := 3 + lv) hS2 g2 hn hT2 (by omega) (fun hpn c2 hc2 hce2 hix => ?_) (fun hno => ?_)
            · have hb2 : bt (m 38) n r.2.1 = (c2 : Int) := by rw [← ho.tape]; exact bt_y hpn hce2 hc2
              have hsg : signP lv (c2 : Int) = true := (ixS_p lv hl5 c2 hc2).mp hix
              have hc0 := sign_ne hsg
              rw [PLoop_y ⟨hrk, by rw [hb2]; exact hsg⟩, hb2, ofInt_n] at hfin
              refine gwr ?_
              refine g_istore (L2 := [some (.ref (75)), some (.int (nI (lv))), some (.int (nI (op))), some (.int (1)), some (.int (nI (i))), some (.int (nI (c2)))]) m24_48 rfl rfl ?_
              refine g_iload m24_50 rfl ?_
              refine h_if_neF (xi := ((c2 : Nat) : Int)) (zi := 0) m24_52 (nI_toInt (by omega)) rfl (by omega) ?_
              refine g_aload_n m24_56 rfl ?_
              refine g_iload_n m24_57 rfl ?_
              refine g_iconst m24_58 ?_
              refine g_iadd (u := nI (lv + 1)) m24_59 (nI_add lv 1) ?_
              refine g_iload_n m24_60 rfl ?_
              refine h_cv (k := 43) (p := 75) (args := [.int (nI (lv + 1)), .int (nI (op))]) (rest := []) m24_61 cn_24 (Nat.le_of_ble_eq_true rfl) rfl rfl rfl (t_43 _ _) (Nat.le_of_ble_eq_true rfl) ?_
              have hS3 : RdS (upm m2 43 5 (nI (r.2.1 + 1))) n u (r.2.1 + 1) (z + r.1.length) true := ⟨hS2.1, hS2.2.1, rfl, hS2.2.2.2.1, hS2.2.2.2.2⟩
              have ht3 : (upm m2 43 5 (nI (r.2.1 + 1))) 38 = m 38 := (row_up m2 _ (by decide)).trans ho.tape
              have hT3 : Tap (upm m2 43 5 (nI (r.2.1 + 1))) := fun j hj => by rw [ht3]; exact hT j hj
              refine ihL _ _ _ (lv + 1) op (r.2.1 + 1) (z + r.1.length) (by omega) (by omega) hop hS3 (by omega) hn (by omega) hT3 (by omega) (fun m4 ho4 => ?_)
              rw [ht3] at ho4
              have hg4 := PL_ok (m 38) n u f (lv + 1) op (r.2.1 + 1) hpn
              have ho5 : Out m2 n u (z + r.1.length) (PL (m 38) n u f (lv + 1) op (r.2.1 + 1)) m4 := Out.pre (FrR.rf.up _ (Or.inr ⟨rfl, Or.inr (Or.inl rfl)⟩)) (fun j => upm_k _ _ (by decide)) ho4
              have ho6 := Out.app ho hrk rfl ho5
              refine gwr0 ?_
              refine g_aload_n m24_64 rfl ?_
              refine g_iload m24_65 rfl ?_
              refine h_cv (k := 43) (p := 75) (args := [.int (nI (c2))]) (rest := []) m24_67 cn_19 (Nat.le_of_ble_eq_true rfl) rfl rfl rfl (t_43 _ _) (Nat.le_of_ble_eq_true rfl) ?_
              refine addOut ho6 (fun hk => ?_) (fun m5 ho7 => ?_)
              · obtain ⟨q1, q2, q3⟩ := hg4
                have q4 := (q3 hk).2.2
                show z + (r.1 ++ (PL (m 38) n u f (lv + 1) op (r.2.1 + 1)).1).length < 50
                rw [List.length_append]
                omega
              refine gwr0 ?_
              refine g_iinc (L2 := [some (.ref (75)), some (.int (nI (lv))), some (.int (nI (op))), some (.int (1)), some (.int (nI (i + 1))), some (.int (nI (c2)))]) m24_70 rfl (nI_1 _) rfl rfl ?_
              refine g_goto m24_73 ?_
              refine ih (i + 1) _ _ _ (by omega) ho7 ?_ hfin
              obtain ⟨q1, q2, q3⟩ := hg4
              refine ⟨by show p ≤ (PL (m 38) n u f (lv + 1) op (r.2.1 + 1)).2.1; omega, q2, fun hk => ?_⟩
              obtain ⟨q4, q5, q6⟩ := q3 hk
              refine ⟨by show p < (PL (m 38) n u f (lv + 1) op (r.2.1 + 1)).2.1; omega, by have h9 := CodeOk_bin g5 q5 hsg; exact h9, ?_⟩
              show (r.1 ++ (PL (m 38) n u f (lv + 1) op (r.2.1 + 1)).1 ++ [nI c2]).length ≤ (PL (m 38) n u f (lv + 1) op (r.2.1 + 1)).2.1 - p
              rw [List.length_append, List.length_append, List.length_singleton]
              omega
            · have hb2 : ¬ (r.2.2 = true ∧ signP lv (bt (m 38) n r.2.1) = true) := by
                intro hb
                have hin := signP_in hb.2
                have hlt := bt_lt (B := m 38) (n := n) (p := r.2.1) (by omega)
                obtain ⟨c2, hc2, hce2⟩ := hT2 r.2.1 (by omega)
                have hb3 := bt_y hlt hce2 (by omega)
                rw [ho.tape] at hb3
                exact hno c2 (by omega) hlt hce2 ((ixS_p lv hl5 c2 (by omega)).mpr (by rw [← hb3]; exact hb.2))
              rw [PLoop_n hb2] at hfin
              refine gwr ?_
              refine g_istore (L2 := [some (.ref (75)), some (.int (nI (lv))), some (.int (nI (op))), some (.int (1)), some (.int (nI (i))), some (.int (0))]) m24_48 rfl rfl ?_
              refine g_iload m24_50 rfl ?_
              refine h_if_neT (xi := 0) (zi := 0) m24_52 rfl rfl (by decide) ?_
              refine g_vret m24_55 ?_
              exact hQ _ (by rw [← hfin]; exact ho)
          · skip
            refine g_iload m24_34 rfl ?_
            refine g_iload_n m24_36 rfl ?_
            refine h_ic_geF (xi := ((i : Nat) : Int)) (zi := 1) m24_37 (nI_toInt (by omega)) rfl (by omega) ?_
            refine g_aload_n m24_40 rfl ?_
            refine g_iload_n m24_41 rfl ?_
            refine g_cs (args := [.int (nI (lv))]) (rest := [.ref (75)]) 0 (Or.inl rfl) m24_42 (Nat.le_of_ble_eq_true rfl) rfl rfl (Nat.le_of_ble_eq_true rfl) ?_
            refine c_signsOf hl5 ?_
            rw [show 6 + lv = 3 + (3 + lv) by omega]
            refine gwr ?_
            refine h_cv (k := 43) (p := 75) (args := [.ref (3 + (3 + lv))]) (rest := []) m24_45 cn_18 (Nat.le_of_ble_eq_true rfl) rfl rfl rfl (t_43 _ _) (Nat.le_of_ble_eq_true rfl) ?_
            obtain ⟨zf, hzf, hS2⟩ := ho.atF hrk
            rw [PLoop_n (fun q => hrk q.1)] at hfin
            refine c_passRF (s := 3 + lv) hS2 g2 hn ?_
            refine gwr ?_
            refine g_istore (L2 := [some (.ref (75)), some (.int (nI (lv))), some (.int (nI (op))), some (.int (1)), some (.int (nI (i))), some (.int (0))]) m24_48 rfl rfl ?_
            refine g_iload m24_50 rfl ?_
            refine h_if_neT (xi := 0) (zi := 0) m24_52 rfl rfl (by decide) ?_
            refine g_vret m24_55 ?_
            exact hQ _ (by rw [← hfin]; exact ho)
      exact key 1 0 _ _ _ (by omega) ho1 hg1 rfl
    · skip
      refine g_bipush m24_28 ?_
      refine g_istore_n (L2 := [some (.ref (75)), some (.int (nI (lv))), some (.int (nI (op))), some (.int (50)), none, none]) m24_30 rfl rfl ?_
      refine g_iconst m24_31 ?_
      refine g_istore (L2 := [some (.ref (75)), some (.int (nI (lv))), some (.int (nI (op))), some (.int (50)), some (.int (0)), none]) m24_32 rfl rfl ?_
      have hmost : (if lv = 2 then 1 else 50) = 50 := if_neg (by omega)
      rw [hmost] at hQ
      have key : ∀ (k i : Nat) (o5 : Option Value) (r : PR3) (m2 : MW), i + k = 50 → Out m n u z r m2 → GoodR n p r → PLoop (PL (m 38) n u f (lv + 1) op) (m 38) n lv k r = PLoop (PL (m 38) n u f (lv + 1) op) (m 38) n lv 50 (PL (m 38) n u f (lv + 1) op p) → gw xs (WP xs (d + 8)) 24 Q 34 [some (.ref (75)), some (.int (nI (lv))), some (.int (nI (op))), some (.int (50)), some (.int (nI (i))), o5] [] (H m2 ln N) 0 0 := by
        intro k
        induction k with
        | zero =>
          intro i o5 r m2 hi ho hg hfin
          have hfin2 : r = _ := hfin
          refine g_iload m24_34 rfl ?_
          refine g_iload_n m24_36 rfl ?_
          refine h_ic_geT (xi := ((i : Nat) : Int)) (zi := 50) m24_37 (nI_toInt (by omega)) rfl (by omega) ?_
          refine g_vret m24_76 ?_
          exact hQ _ (by rw [← hfin2]; exact ho)
        | succ k ih =>
          intro i o5 r m2 hi ho hg hfin
          obtain ⟨g1, g2, g3⟩ := hg
          by_cases hrk : r.2.2 = true
          · skip
            refine g_iload m24_34 rfl ?_
            refine g_iload_n m24_36 rfl ?_
            refine h_ic_geF (xi := ((i : Nat) : Int)) (zi := 50) m24_37 (nI_toInt (by omega)) rfl (by omega) ?_
            refine g_aload_n m24_40 rfl ?_
            refine g_iload_n m24_41 rfl ?_
            refine g_cs (args := [.int (nI (lv))]) (rest := [.ref (75)]) 0 (Or.inl rfl) m24_42 (Nat.le_of_ble_eq_true rfl) rfl rfl (Nat.le_of_ble_eq_true rfl) ?_
            refine c_signsOf hl5 ?_
            rw [show 6 + lv = 3 + (3 + lv) by omega]
            refine gwr ?_
            refine h_cv (k := 43) (p := 75) (args := [.ref (3 + (3 + lv))]) (rest := []) m24_45 cn_18 (Nat.le_of_ble_eq_true rfl) rfl rfl rfl (t_43 _ _) (Nat.le_of_ble_eq_true rfl) ?_
            have hS2 := ho.at hrk
            have hT2 : Tap m2 := fun j hj => by rw [ho.tape]; exact hT j hj
            obtain ⟨g4, g5, g6⟩ := g3 hrk
            refine c_passR (s := 3 + lv) hS2 g2 hn hT2 (by omega) (fun hpn c2 hc2 hce2 hix => ?_) (fun hno => ?_)
            · have hb2 : bt (m 38) n r.2.1 = (c2 : Int) := by rw [← ho.tape]; exact bt_y hpn hce2 hc2
              have hsg : signP lv (c2 : Int) = true := (ixS_p lv hl5 c2 hc2).mp hix
              have hc0 := sign_ne hsg
              rw [PLoop_y ⟨hrk, by rw [hb2]; exact hsg⟩, hb2, ofInt_n] at hfin
              refine gwr ?_
              refine g_istore (L2 := [some (.ref (75)), some (.int (nI (lv))), some (.int (nI (op))), some (.int (50)), some (.int (nI (i))), some (.int (nI (c2)))]) m24_48 rfl rfl ?_
              refine g_iload m24_50 rfl ?_
              refine h_if_neF (xi := ((c2 : Nat) : Int)) (zi := 0) m24_52 (nI_toInt (by omega)) rfl (by omega) ?_
              refine g_aload_n m24_56 rfl ?_
              refine g_iload_n m24_57 rfl ?_
              refine g_iconst m24_58 ?_
              refine g_iadd (u := nI (lv + 1)) m24_59 (nI_add lv 1) ?_
              refine g_iload_n m24_60 rfl ?_
              refine h_cv (k := 43) (p := 75) (args := [.int (nI (lv + 1)), .int (nI (op))]) (rest := []) m24_61 cn_24 (Nat.le_of_ble_eq_true rfl) rfl rfl rfl (t_43 _ _) (Nat.le_of_ble_eq_true rfl) ?_
              have hS3 : RdS (upm m2 43 5 (nI (r.2.1 + 1))) n u (r.2.1 + 1) (z + r.1.length) true := ⟨hS2.1, hS2.2.1, rfl, hS2.2.2.2.1, hS2.2.2.2.2⟩
              have ht3 : (upm m2 43 5 (nI (r.2.1 + 1))) 38 = m 38 := (row_up m2 _ (by decide)).trans ho.tape
              have hT3 : Tap (upm m2 43 5 (nI (r.2.1 + 1))) := fun j hj => by rw [ht3]; exact hT j hj
              refine ihL _ _ _ (lv + 1) op (r.2.1 + 1) (z + r.1.length) (by omega) (by omega) hop hS3 (by omega) hn (by omega) hT3 (by omega) (fun m4 ho4 => ?_)
              rw [ht3] at ho4
              have hg4 := PL_ok (m 38) n u f (lv + 1) op (r.2.1 + 1) hpn
              have ho5 : Out m2 n u (z + r.1.length) (PL (m 38) n u f (lv + 1) op (r.2.1 + 1)) m4 := Out.pre (FrR.rf.up _ (Or.inr ⟨rfl, Or.inr (Or.inl rfl)⟩)) (fun j => upm_k _ _ (by decide)) ho4
              have ho6 := Out.app ho hrk rfl ho5
              refine gwr0 ?_
              refine g_aload_n m24_64 rfl ?_
              refine g_iload m24_65 rfl ?_
              refine h_cv (k := 43) (p := 75) (args := [.int (nI (c2))]) (rest := []) m24_67 cn_19 (Nat.le_of_ble_eq_true rfl) rfl rfl rfl (t_43 _ _) (Nat.le_of_ble_eq_true rfl) ?_
              refine addOut ho6 (fun hk => ?_) (fun m5 ho7 => ?_)
              · obtain ⟨q1, q2, q3⟩ := hg4
                have q4 := (q3 hk).2.2
                show z + (r.1 ++ (PL (m 38) n u f (lv + 1) op (r.2.1 + 1)).1).length < 50
                rw [List.length_append]
                omega
              refine gwr0 ?_
              refine g_iinc (L2 := [some (.ref (75)), some (.int (nI (lv))), some (.int (nI (op))), some (.int (50)), some (.int (nI (i + 1))), some (.int (nI (c2)))]) m24_70 rfl (nI_1 _) rfl rfl ?_
              refine g_goto m24_73 ?_
              refine ih (i + 1) _ _ _ (by omega) ho7 ?_ hfin
              obtain ⟨q1, q2, q3⟩ := hg4
              refine ⟨by show p ≤ (PL (m 38) n u f (lv + 1) op (r.2.1 + 1)).2.1; omega, q2, fun hk => ?_⟩
              obtain ⟨q4, q5, q6⟩ := q3 hk
              refine ⟨by show p < (PL (m 38) n u f (lv + 1) op (r.2.1 + 1)).2.1; omega, by have h9 := CodeOk_bin g5 q5 hsg; exact h9, ?_⟩
              show (r.1 ++ (PL (m 38) n u f (lv + 1) op (r.2.1 + 1)).1 ++ [nI c2]).length ≤ (PL (m 38) n u f (lv + 1) op (r.2.1 + 1)).2.1 - p
              rw [List.length_append, List.length_append, List.length_singleton]
              omega
            · have hb2 : ¬ (r.2.2 = true ∧ signP lv (bt (m 38) n r.2.1) = true) := by
                intro hb
                have hin := signP_in hb.2
                have hlt := bt_lt (B := m 38) (n := n) (p := r.2.1) (by omega)
                obtain ⟨c2, hc2, hce2⟩ := hT2 r.2.1 (by omega)
                have hb3 := bt_y hlt hce2 (by omega)
                rw [ho.tape] at hb3
                exact hno c2 (by omega) hlt hce2 ((ixS_p lv hl5 c2 (by omega)).mpr (by rw [← hb3]; exact hb.2))
              rw [PLoop_n hb2] at hfin
              refine gwr ?_
              refine g_istore (L2 := [some (.ref (75)), some (.int (nI (lv))), some (.int (nI (op))), some (.int (50)), some (.int (nI (i))), some (.int (0))]) m24_48 rfl rfl ?_
              refine g_iload m24_50 rfl ?_
              refine h_if_neT (xi := 0) (zi := 0) m24_52 rfl rfl (by decide) ?_
              refine g_vret m24_55 ?_
              exact hQ _ (by rw [← hfin]; exact ho)
          · skip
            refine g_iload m24_34 rfl ?_
            refine g_iload_n m24_36 rfl ?_
            refine h_ic_geF (xi := ((i : Nat) : Int)) (zi := 50) m24_37 (nI_toInt (by omega)) rfl (by omega) ?_
            refine g_aload_n m24_40 rfl ?_
            refine g_iload_n m24_41 rfl ?_
            refine g_cs (args := [.int (nI (lv))]) (rest := [.ref (75)]) 0 (Or.inl rfl) m24_42 (Nat.le_of_ble_eq_true rfl) rfl rfl (Nat.le_of_ble_eq_true rfl) ?_
            refine c_signsOf hl5 ?_
            rw [show 6 + lv = 3 + (3 + lv) by omega]
            refine gwr ?_
            refine h_cv (k := 43) (p := 75) (args := [.ref (3 + (3 + lv))]) (rest := []) m24_45 cn_18 (Nat.le_of_ble_eq_true rfl) rfl rfl rfl (t_43 _ _) (Nat.le_of_ble_eq_true rfl) ?_
            obtain ⟨zf, hzf, hS2⟩ := ho.atF hrk
            rw [PLoop_n (fun q => hrk q.1)] at hfin
            refine c_passRF (s := 3 + lv) hS2 g2 hn ?_
            refine gwr ?_
            refine g_istore (L2 := [some (.ref (75)), some (.int (nI (lv))), some (.int (nI (op))), some (.int (50)), some (.int (nI (i))), some (.int (0))]) m24_48 rfl rfl ?_
            refine g_iload m24_50 rfl ?_
            refine h_if_neT (xi := 0) (zi := 0) m24_52 rfl rfl (by decide) ?_
            refine g_vret m24_55 ?_
            exact hQ _ (by rw [← hfin]; exact ho)
      exact key 50 0 _ _ _ (by omega) ho1 hg1 rfl
  · skip
    refine g_aload_n m24_5 rfl ?_
    refine g_iload_n m24_6 rfl ?_
    refine h_cv (k := 43) (p := 75) (args := [.int (nI (op))]) (rest := []) m24_7 cn_23 (Nat.le_of_ble_eq_true rfl) rfl rfl rfl (t_43 _ _) (Nat.le_of_ble_eq_true rfl) ?_
    obtain rfl : lv = 5 := by omega
    refine hQ5 _ _ _ op p z (by omega) hop hS hp hn hz hT (by omega) (fun m2 ho2 => ?_)
    refine gwr0 ?_
    refine g_vret m24_10 ?_
    exact hQ _ ho2
theorem c_levels {n u : Nat} (hu : u ≤ 1) : ∀ f, RdL xs ln N n u f ∧ RdQ xs ln N n u f
  | 0 => ⟨fun m Q D lv op p z hD hlv hop hS hp hn hz hT hf hQ => absurd hf (by omega), fun m Q D op p z hD hop hS hp hn hz hT hf hQ => absurd hf (by omega)⟩
  | f + 1 => by
    have ih := c_levels (n := n) hu f
    have h5 := c_readQ hu ih.1 ih.2
    exact ⟨c_readLevel ih.1 h5, h5⟩
/-- the whole tape read: its fault (none: it is a TEXT), its codes -/
def TR (B : Nat → Int32) (n u : Nat) : PR3 := PL B n u 400 0 0 0
def isText (B : Nat → Int32) (n u : Nat) : Prop := (TR B n u).2.2 = true ∧ (TR B n u).2.1 = n
theorem fv_u {u : Nat} (hu : u ≤ 1) : fV 2 (nI u) = .ref (3 + u) := by
  rcases (show u = 0 ∨ u = 1 by omega) with rfl | rfl <;> rfl
theorem pk_min {n : Nat} (hn : n ≤ 50) : (if (nI 50) < nI n then nI 50 else nI n) = nI n := if_neg (fun q => absurd ((lt_k (nI_toInt (n := 50) (by decide)) (nI_toInt (n := n) (by omega))).mp q) (by omega))
set_option maxRecDepth 20000 in
set_option maxHeartbeats 40000000 in
theorem c_readTape {n u : Nat} (hu : u ≤ 1) (hn : n ≤ 50) (hT : Tap m) (hY : ∀ m2, (∀ k j, ¬ (k = 44 ∨ k = 43) → m2 k j = m k j) → isText (m 38) n u → m2 43 1 = nI (TR (m 38) n u).1.length → (∀ j, j < (TR (m 38) n u).1.length → m2 44 j = (TR (m 38) n u).1.getD j 0) → Q (some (.int (-1))) (H m2 ln N)) (hF : ∀ m2, (∀ k j, ¬ (k = 44 ∨ k = 43) → m2 k j = m k j) → ¬ isText (m 38) n u → Q (some (.int (nI (TR (m 38) n u).2.1))) (H m2 ln N)) : WP xs (d + 901) 25 0 0 [.ref (75), .int (nI (n)), .ref (3 + u)] (H m ln N) Q := by
  refine wp_x mx_25 (L := [some (.ref (75)), some (.int (nI (n))), some (.ref (3 + u))]) (Nat.le_of_ble_eq_true rfl) rfl ?_
  refine g_aload_n m25_0 rfl ?_
  refine g_iload_n m25_1 rfl ?_
  refine g_aload_n m25_2 rfl ?_
  refine h_gfR (c := 70) (k := 43) (p := 75) m25_3 rfl (t_43 _ _) rfl (Nat.le_of_ble_eq_true rfl) ?_
  refine h_alen (k := 38) (p := 70) m25_6 rfl (t_38 _ _) (Or.inl rfl) ?_
  refine g_min (u := nI (n)) m25_7 (Nat.le_of_ble_eq_true rfl) (pk_min hn) ?_
  refine h_pfI (k := 43) (p := 75) m25_10 rfl (t_43 _ _) rfl trivial ?_
  refine g_aload_n m25_13 rfl ?_
  refine g_aload_n m25_14 rfl ?_
  refine h_pfN (k := 43) (p := 75) (x := nI u) m25_15 rfl (t_43 _ _) rfl (fv_u hu) (by exact trivial) ?_
  refine g_aload_n m25_18 rfl ?_
  refine g_iconst m25_19 ?_
  refine h_pfI (k := 43) (p := 75) m25_20 rfl (t_43 _ _) rfl trivial ?_
  refine g_aload_n m25_23 rfl ?_
  refine g_iconst m25_24 ?_
  refine h_pfI (k := 43) (p := 75) m25_25 rfl (t_43 _ _) rfl trivial ?_
  refine g_aload_n m25_28 rfl ?_
  refine g_iconst m25_29 ?_
  refine h_pfI (k := 43) (p := 75) m25_30 rfl (t_43 _ _) rfl trivial ?_
  refine g_aload_n m25_33 rfl ?_
  refine g_iconst m25_34 ?_
  refine g_iconst m25_35 ?_
  refine h_cv (k := 43) (p := 75) (args := [.int (0), .int (0)]) (rest := []) m25_36 cn_24 (Nat.le_of_ble_eq_true rfl) rfl rfl rfl (t_43 _ _) (Nat.le_of_ble_eq_true rfl) ?_
  have hS : RdS (upm (upm (upm (upm (upm m 43 3 (nI n)) 43 4 (nI u)) 43 1 0) 43 5 0) 43 6 (-1)) n u 0 0 true := ⟨rfl, rfl, rfl, rfl, rfl⟩
  have ht : (upm (upm (upm (upm (upm m 43 3 (nI n)) 43 4 (nI u)) 43 1 0) 43 5 0) 43 6 (-1)) 38 = m 38 := rfl
  have hT1 : Tap (upm (upm (upm (upm (upm m 43 3 (nI n)) 43 4 (nI u)) 43 1 0) 43 5 0) 43 6 (-1)) := fun j hj => hT j hj
  refine (c_levels hu 400).1 _ _ _ 0 0 0 0 (by omega) (by omega) (by omega) hS (by omega) hn (by omega) hT1 (by omega) (fun m2 ho => ?_)
  rw [ht] at ho
  have hg := PL_ok (m 38) n u 400 0 0 0 (by omega)
  obtain ⟨o1, z2, o2, o3, o5⟩ := ho
  obtain ⟨g1, g2, g3⟩ := hg
  have oF : ∀ k j, ¬ (k = 44 ∨ k = 43) → m2 k j = m k j := fun k j q => by
    rw [o1 k j (by omega), upm_k _ _ (by omega), upm_k _ _ (by omega), upm_k _ _ (by omega), upm_k _ _ (by omega), upm_k _ _ (by omega)]
  refine gwr0 ?_
  refine g_aload_n m25_39 rfl ?_
  refine h_gfI (k := 43) (p := 75) m25_40 rfl (t_43 _ _) rfl (o3.2.2.1) ?_
  refine g_aload_n m25_43 rfl ?_
  refine h_gfI (k := 43) (p := 75) m25_44 rfl (t_43 _ _) rfl (o3.1) ?_
  refine h_ic_ge (xi := (((TR (m 38) n u).2.1 : Nat) : Int)) (zi := ((n : Nat) : Int)) m25_47 (nI_toInt (by show (PL (m 38) n u 400 0 0 0).2.1 < _; omega)) (nI_toInt (by omega)) (fun c1 => ?_) (fun c1 => ?_)
  · have hnn : (TR (m 38) n u).2.1 = n := by have g4 : (TR (m 38) n u).2.1 ≤ n := g2; omega
    by_cases hk : (PL (m 38) n u 400 0 0 0).2.2 = true
    · skip
      rw [hk] at o3
      refine g_aload_n m25_54 rfl ?_
      refine h_gfI (k := 43) (p := 75) m25_55 rfl (t_43 _ _) rfl (o3.2.2.2.2) ?_
      refine g_iret m25_58 rt_25 ?_
      exact hY _ oF ⟨hk, hnn⟩ (by rw [o3.2.2.2.1, (o5 hk).1, Nat.zero_add]; rfl) (fun j hj => by have h8 := (o5 hk).2.2 j hj; rw [Nat.zero_add] at h8; exact h8)
    · skip
      have hk2 : (PL (m 38) n u 400 0 0 0).2.2 = false := by simpa using hk
      rw [hk2] at o3
      refine g_aload_n m25_54 rfl ?_
      refine h_gfI (k := 43) (p := 75) m25_55 rfl (t_43 _ _) rfl (o3.2.2.2.2) ?_
      refine g_iret m25_58 rt_25 ?_
      exact hF _ oF (fun q => hk q.1)
  · skip
    refine g_aload_n m25_50 rfl ?_
    refine h_cv (k := 43) (p := 75) (args := []) (rest := []) m25_51 cn_22 (Nat.le_of_ble_eq_true rfl) rfl rfl rfl (t_43 _ _) (Nat.le_of_ble_eq_true rfl) ?_
    by_cases hk : (PL (m 38) n u 400 0 0 0).2.2 = true
    · rw [hk] at o3
      refine c_fail o3 g2 hn (fun j hj => by rw [oF 38 j (by omega)]; exact hT j hj) ?_
      refine gwr0 ?_
      refine g_aload_n m25_54 rfl ?_
      refine h_gfI (k := 43) (p := 75) m25_55 rfl (t_43 _ _) rfl (upm_self _ _ _ _) ?_
      refine g_iret m25_58 rt_25 ?_
      exact hF _ (fun k j q => (upm_k _ _ (by omega)).trans (oF k j q)) (fun q => c1 (by have := q.2; omega))
    · have hk2 : (PL (m 38) n u 400 0 0 0).2.2 = false := by simpa using hk
      rw [hk2] at o3
      refine c_failF o3 g2 hn ?_
      refine gwr0 ?_
      refine g_aload_n m25_54 rfl ?_
      refine h_gfI (k := 43) (p := 75) m25_55 rfl (t_43 _ _) rfl (o3.2.2.2.2) ?_
      refine g_iret m25_58 rt_25 ?_
      exact hF _ oF (fun q => hk q.1)
end
end
