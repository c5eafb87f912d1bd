/-! WHOLE TABLES, DESKS, ROWS TAKEN OVER -/
theorem H_row {m : MW} {ln : Nat → Nat} {N k : Nat} {t : TM} (ht : TmAt ln N k t) {w : Nat → Int32} (e : celT t w = celT t (m k)) : H m ln N = H (upmR m k w) ln N := by
  rw [← H_set ht.1, ht.2, e]
  have h := H_get (m := m) (ln := ln) ht.1
  rw [ht.2] at h
  exact (set_own h).symm
theorem cel_a {kd n : Nat} {w v : Nat → Int32} (h : ∀ j, j < n → w j = v j) : celT (.inl (kd, n)) w = celT (.inl (kd, n)) v := by
  show (Sum.inl : Nat × List Int32 → AC) (kd, _) = (Sum.inl : Nat × List Int32 → AC) (kd, _)
  rw [List.map_congr_left (fun j hj => h j (List.mem_range.mp hj))]
theorem cel_o {ci : Nat} {fs : List Nat} {w v : Nat → Int32} (h : ∀ j c, fs[j]? = some c → c < 3 → w j = v j) : celT (.inr (ci, fs)) w = celT (.inr (ci, fs)) v := by
  show (Sum.inr : Nat × List Value → AC) (ci, _) = (Sum.inr : Nat × List Value → AC) (ci, _)
  rw [List.map_congr_left (fun j hj => ?_)]
  have hl : j < fs.length := List.mem_range.mp hj
  have e : fs[j]? = some (fs.getD j 0) := by
    rw [List.getD_eq_getElem?_getD, List.getElem?_eq_getElem hl]
    rfl
  by_cases hc : fs.getD j 0 < 3
  · rw [h j _ e hc]
  · obtain ⟨z, hz⟩ : ∃ z, fs.getD j 0 = z + 3 := ⟨fs.getD j 0 - 3, by omega⟩
    rw [hz]
    rfl
theorem cpy_row {m : MW} {ln : Nat → Nat} {N k1 k2 kk n : Nat} (h2 : TmAt ln N k2 (.inl (kk, n))) : H (cpy m k1 k2 0 0 n) ln N = H (upmR m k2 (m k1)) ln N := by
  rw [H_row (w := m k1) h2 (cel_a (fun j hj => ?_))]
  · congr 1
    funext k j
    unfold upmR cpy
    by_cases h : k = k2
    · rw [if_pos h, if_pos h]
    · rw [if_neg h, if_neg h, if_neg (fun q => h q.1)]
  · unfold cpy
    rw [if_pos ⟨rfl, by omega, by omega⟩]
    congr 1
    omega
theorem h_acr {xs : List Int32} {d y : Nat} {Q : QT} {pc : Nat} {L : LoS} {st : List Value} {m : MW} {ln : Nat → Nat} {N mc ms : Nat} {nx a b n k1 k2 p q kk c : Nat} {v : Int32} (hr : smI y pc = some (.invokestatic n, nx, 4, a, b, v)) (hp : 32 + k1 = p) (hq : 32 + k2 = q) (h1 : TmAt ln N k1 (.inl (kk, c))) (h2 : TmAt ln N k2 (.inl (kk, c))) (hkk : kk = 0 ∨ kk = 1) (hn : c < 2 ^ 31) (hb : kk = 1 → ∀ j, j < c → m k1 j = 0 ∨ m k1 j = 1) (hcat : catS st ≤ 8) (g : gw xs (WP xs d) y Q nx L st (H (upmR m k2 (m k1)) ln N) mc ms) : gw xs (WP xs d) y Q pc L (.int (nI c) :: .int (nI 0) :: .ref q :: .int (nI 0) :: .ref p :: st) (H m ln N) mc ms := by
  refine h_acp (kd := 0) (sp := 0) (dp := 0) (c := c) hr hp hq h1 h2 hkk hn hn (by omega) (by omega) hb hcat ?_
  rw [cpy_row h2]
  exact g
theorem upmR_k {m : MW} {k k2 : Nat} {w : Nat → Int32} (h : k2 ≠ k) : upmR m k w k2 = m k2 := if_neg h
/-- table t as table s (but for the faces) -/
def takeM (m : MW) (t s : Nat) : MW := fun k => if 1 + 9 * t ≤ k ∧ k < 9 + 9 * t then m (k - 9 * t + 9 * s) else m k
theorem take_vw (m : MW) (t s : Nat) {j : Nat} (hj : j < 8) : vw (takeM m t s) t j = vw m s j := by
  unfold vw takeM
  rw [if_pos (by omega), show j + 1 + 9 * t - 9 * t + 9 * s = j + 1 + 9 * s by omega]
theorem take_o (m : MW) (t s : Nat) {k : Nat} (hk : ¬ (1 + 9 * t ≤ k ∧ k < 9 + 9 * t)) : takeM m t s k = m k := if_neg hk
theorem take_8 (m : MW) (t s : Nat) : Eq8 (vw m s) (vw (takeM m t s) t) := fun j hj i => by rw [take_vw m t s hj]
theorem take_cod (m : MW) (t s : Nat) (ht : t < 4) (ln : Nat → Nat) : codL (takeM m t s) ln = codL m ln := by
  funext i
  unfold codL
  rw [take_o m t s (by omega)]
def deskM (m : MW) (a b : Nat) : MW := fun k => if a ≤ k ∧ k < a + 3 then m (k - a + b) else m k
section
variable {xs : List Int32} {d : Nat} {h : AH} {Q : QT} {m : MW} {ln : Nat → Nat} {N : Nat}
set_option maxRecDepth 20000 in
set_option maxHeartbeats 40000000 in
theorem c_take10 (h01 : ∀ j, j < 8 → m 8 j = 0 ∨ m 8 j = 1) (hQ : Q none (H (takeM m 1 0) ln N)) : WP xs (d + 1) 31 0 0 [.ref (42), .ref (33)] (H m ln N) Q := by
  refine wp_x mx_31 (L := [some (.ref (42)), some (.ref (33))]) (Nat.le_of_ble_eq_true rfl) rfl ?_
  refine g_aload_n m31_0 rfl ?_
  refine h_gfR (c := 34) (k := 1) (p := 33) m31_1 rfl (t_1 _ _) rfl (Nat.le_of_ble_eq_true rfl) ?_
  refine g_iconst m31_4 ?_
  refine g_aload_n m31_5 rfl ?_
  refine h_gfR (c := 43) (k := 10) (p := 42) m31_6 rfl (t_10 _ _) rfl (Nat.le_of_ble_eq_true rfl) ?_
  refine g_iconst m31_9 ?_
  refine g_bipush m31_10 ?_
  refine h_acr (k1 := 2) (k2 := 11) (p := 34) (q := 43) (c := 8) m31_12 rfl rfl (t_2 _ _) (t_11 _ _) (Or.inl rfl) (Nat.le_of_ble_eq_true rfl) (fun q => absurd q (by decide)) (Nat.le_of_ble_eq_true rfl) ?_
  refine g_aload_n m31_15 rfl ?_
  refine h_gfR (c := 35) (k := 1) (p := 33) m31_16 rfl (t_1 _ _) rfl (Nat.le_of_ble_eq_true rfl) ?_
  refine g_iconst m31_19 ?_
  refine g_aload_n m31_20 rfl ?_
  refine h_gfR (c := 44) (k := 10) (p := 42) m31_21 rfl (t_10 _ _) rfl (Nat.le_of_ble_eq_true rfl) ?_
  refine g_iconst m31_24 ?_
  refine g_bipush m31_25 ?_
  refine h_acr (k1 := 3) (k2 := 12) (p := 35) (q := 44) (c := 8) m31_27 rfl rfl (t_3 _ _) (t_12 _ _) (Or.inl rfl) (Nat.le_of_ble_eq_true rfl) (fun q => absurd q (by decide)) (Nat.le_of_ble_eq_true rfl) ?_
  refine g_aload_n m31_30 rfl ?_
  refine h_gfR (c := 36) (k := 1) (p := 33) m31_31 rfl (t_1 _ _) rfl (Nat.le_of_ble_eq_true rfl) ?_
  refine g_iconst m31_34 ?_
  refine g_aload_n m31_35 rfl ?_
  refine h_gfR (c := 45) (k := 10) (p := 42) m31_36 rfl (t_10 _ _) rfl (Nat.le_of_ble_eq_true rfl) ?_
  refine g_iconst m31_39 ?_
  refine g_bipush m31_40 ?_
  refine h_acr (k1 := 4) (k2 := 13) (p := 36) (q := 45) (c := 8) m31_42 rfl rfl (t_4 _ _) (t_13 _ _) (Or.inl rfl) (Nat.le_of_ble_eq_true rfl) (fun q => absurd q (by decide)) (Nat.le_of_ble_eq_true rfl) ?_
  refine g_aload_n m31_45 rfl ?_
  refine h_gfR (c := 37) (k := 1) (p := 33) m31_46 rfl (t_1 _ _) rfl (Nat.le_of_ble_eq_true rfl) ?_
  refine g_iconst m31_49 ?_
  refine g_aload_n m31_50 rfl ?_
  refine h_gfR (c := 46) (k := 10) (p := 42) m31_51 rfl (t_10 _ _) rfl (Nat.le_of_ble_eq_true rfl) ?_
  refine g_iconst m31_54 ?_
  refine g_bipush m31_55 ?_
  refine h_acr (k1 := 5) (k2 := 14) (p := 37) (q := 46) (c := 8) m31_57 rfl rfl (t_5 _ _) (t_14 _ _) (Or.inl rfl) (Nat.le_of_ble_eq_true rfl) (fun q => absurd q (by decide)) (Nat.le_of_ble_eq_true rfl) ?_
  refine g_aload_n m31_60 rfl ?_
  refine h_gfR (c := 38) (k := 1) (p := 33) m31_61 rfl (t_1 _ _) rfl (Nat.le_of_ble_eq_true rfl) ?_
  refine g_iconst m31_64 ?_
  refine g_aload_n m31_65 rfl ?_
  refine h_gfR (c := 47) (k := 10) (p := 42) m31_66 rfl (t_10 _ _) rfl (Nat.le_of_ble_eq_true rfl) ?_
  refine g_iconst m31_69 ?_
  refine g_bipush m31_70 ?_
  refine h_acr (k1 := 6) (k2 := 15) (p := 38) (q := 47) (c := 8) m31_72 rfl rfl (t_6 _ _) (t_15 _ _) (Or.inl rfl) (Nat.le_of_ble_eq_true rfl) (fun q => absurd q (by decide)) (Nat.le_of_ble_eq_true rfl) ?_
  refine g_aload_n m31_75 rfl ?_
  refine h_gfR (c := 39) (k := 1) (p := 33) m31_76 rfl (t_1 _ _) rfl (Nat.le_of_ble_eq_true rfl) ?_
  refine g_iconst m31_79 ?_
  refine g_aload_n m31_80 rfl ?_
  refine h_gfR (c := 48) (k := 10) (p := 42) m31_81 rfl (t_10 _ _) rfl (Nat.le_of_ble_eq_true rfl) ?_
  refine g_iconst m31_84 ?_
  refine g_bipush m31_85 ?_
  refine h_acr (k1 := 7) (k2 := 16) (p := 39) (q := 48) (c := 8) m31_87 rfl rfl (t_7 _ _) (t_16 _ _) (Or.inl rfl) (Nat.le_of_ble_eq_true rfl) (fun q => absurd q (by decide)) (Nat.le_of_ble_eq_true rfl) ?_
  refine g_aload_n m31_90 rfl ?_
  refine h_gfR (c := 40) (k := 1) (p := 33) m31_91 rfl (t_1 _ _) rfl (Nat.le_of_ble_eq_true rfl) ?_
  refine g_iconst m31_94 ?_
  refine g_aload_n m31_95 rfl ?_
  refine h_gfR (c := 49) (k := 10) (p := 42) m31_96 rfl (t_10 _ _) rfl (Nat.le_of_ble_eq_true rfl) ?_
  refine g_iconst m31_99 ?_
  refine g_bipush m31_100 ?_
  refine h_acr (k1 := 8) (k2 := 17) (p := 40) (q := 49) (c := 8) m31_102 rfl rfl (t_8 _ _) (t_17 _ _) (Or.inr rfl) (Nat.le_of_ble_eq_true rfl) (fun _ j hj => h01 j hj) (Nat.le_of_ble_eq_true rfl) ?_
  refine g_aload_n m31_105 rfl ?_
  refine g_aload_n m31_106 rfl ?_
  refine h_gfI (k := 1) (p := 33) m31_107 rfl (t_1 _ _) rfl rfl ?_
  refine h_pfI (k := 10) (p := 42) m31_110 rfl (t_10 _ _) rfl trivial ?_
  refine g_aload_n m31_113 rfl ?_
  refine g_aload_n m31_114 rfl ?_
  refine h_gfI (k := 1) (p := 33) m31_115 rfl (t_1 _ _) rfl rfl ?_
  refine h_pfI (k := 10) (p := 42) m31_118 rfl (t_10 _ _) rfl trivial ?_
  refine g_aload_n m31_121 rfl ?_
  refine g_aload_n m31_122 rfl ?_
  refine h_gfI (k := 1) (p := 33) m31_123 rfl (t_1 _ _) rfl rfl ?_
  refine h_pfI (k := 10) (p := 42) m31_126 rfl (t_10 _ _) rfl trivial ?_
  refine g_aload_n m31_129 rfl ?_
  refine g_aload_n m31_130 rfl ?_
  refine h_gfL (k := 1) (p := 33) m31_131 rfl (t_1 _ _) rfl rfl ?_
  refine h_pfL (k := 10) (p := 42) m31_134 rfl (t_10 _ _) rfl rfl ?_
  refine g_aload_n m31_137 rfl ?_
  refine g_aload_n m31_138 rfl ?_
  refine h_gfL (k := 1) (p := 33) m31_139 rfl (t_1 _ _) rfl rfl ?_
  refine h_pfL (k := 10) (p := 42) m31_142 rfl (t_10 _ _) rfl rfl ?_
  refine g_vret m31_145 ?_
  rw [H_row (k := 10) (w := m 1) (t_10 _ _) (cel_o (fun j c hj hc => ?_))]
  · refine (congrArg (fun z => Q none (H z ln N)) (show takeM m 1 0 = _ from funext fun k => ?_)).mp hQ
    by_cases hk : 10 ≤ k ∧ k < 18
    · rcases (show k = 10 ∨ k = 11 ∨ k = 12 ∨ k = 13 ∨ k = 14 ∨ k = 15 ∨ k = 16 ∨ k = 17 by omega) with rfl | rfl | rfl | rfl | rfl | rfl | rfl | rfl <;> rfl
    · funext j
      rw [take_o m 1 0 (by omega)]
      refine Eq.symm ?_
      repeat (first | refine (upm_k _ _ (by omega)).trans ?_ | refine (congrFun (upmR_k (by omega)) j).trans ?_)
      rfl
  · rcases (show j = 8 ∨ j = 9 ∨ j = 10 ∨ j = 11 ∨ j = 12 by
      have hl : j < 13 := (List.getElem?_eq_some_iff.mp hj).1
      rcases (show j = 0 ∨ j = 1 ∨ j = 2 ∨ j = 3 ∨ j = 4 ∨ j = 5 ∨ j = 6 ∨ j = 7 ∨ 8 ≤ j by omega) with rfl | rfl | rfl | rfl | rfl | rfl | rfl | rfl | h8
      all_goals first | omega | (cases hj; omega)) with rfl | rfl | rfl | rfl | rfl <;> rfl
set_option maxRecDepth 20000 in
set_option maxHeartbeats 40000000 in
theorem c_take20 (h01 : ∀ j, j < 8 → m 8 j = 0 ∨ m 8 j = 1) (hQ : Q none (H (takeM m 2 0) ln N)) : WP xs (d + 1) 31 0 0 [.ref (51), .ref (33)] (H m ln N) Q := by
  refine wp_x mx_31 (L := [some (.ref (51)), some (.ref (33))]) (Nat.le_of_ble_eq_true rfl) rfl ?_
  refine g_aload_n m31_0 rfl ?_
  refine h_gfR (c := 34) (k := 1) (p := 33) m31_1 rfl (t_1 _ _) rfl (Nat.le_of_ble_eq_true rfl) ?_
  refine g_iconst m31_4 ?_
  refine g_aload_n m31_5 rfl ?_
  refine h_gfR (c := 52) (k := 19) (p := 51) m31_6 rfl (t_19 _ _) rfl (Nat.le_of_ble_eq_true rfl) ?_
  refine g_iconst m31_9 ?_
  refine g_bipush m31_10 ?_
  refine h_acr (k1 := 2) (k2 := 20) (p := 34) (q := 52) (c := 8) m31_12 rfl rfl (t_2 _ _) (t_20 _ _) (Or.inl rfl) (Nat.le_of_ble_eq_true rfl) (fun q => absurd q (by decide)) (Nat.le_of_ble_eq_true rfl) ?_
  refine g_aload_n m31_15 rfl ?_
  refine h_gfR (c := 35) (k := 1) (p := 33) m31_16 rfl (t_1 _ _) rfl (Nat.le_of_ble_eq_true rfl) ?_
  refine g_iconst m31_19 ?_
  refine g_aload_n m31_20 rfl ?_
  refine h_gfR (c := 53) (k := 19) (p := 51) m31_21 rfl (t_19 _ _) rfl (Nat.le_of_ble_eq_true rfl) ?_
  refine g_iconst m31_24 ?_
  refine g_bipush m31_25 ?_
  refine h_acr (k1 := 3) (k2 := 21) (p := 35) (q := 53) (c := 8) m31_27 rfl rfl (t_3 _ _) (t_21 _ _) (Or.inl rfl) (Nat.le_of_ble_eq_true rfl) (fun q => absurd q (by decide)) (Nat.le_of_ble_eq_true rfl) ?_
  refine g_aload_n m31_30 rfl ?_
  refine h_gfR (c := 36) (k := 1) (p := 33) m31_31 rfl (t_1 _ _) rfl (Nat.le_of_ble_eq_true rfl) ?_
  refine g_iconst m31_34 ?_
  refine g_aload_n m31_35 rfl ?_
  refine h_gfR (c := 54) (k := 19) (p := 51) m31_36 rfl (t_19 _ _) rfl (Nat.le_of_ble_eq_true rfl) ?_
  refine g_iconst m31_39 ?_
  refine g_bipush m31_40 ?_
  refine h_acr (k1 := 4) (k2 := 22) (p := 36) (q := 54) (c := 8) m31_42 rfl rfl (t_4 _ _) (t_22 _ _) (Or.inl rfl) (Nat.le_of_ble_eq_true rfl) (fun q => absurd q (by decide)) (Nat.le_of_ble_eq_true rfl) ?_
  refine g_aload_n m31_45 rfl ?_
  refine h_gfR (c := 37) (k := 1) (p := 33) m31_46 rfl (t_1 _ _) rfl (Nat.le_of_ble_eq_true rfl) ?_
  refine g_iconst m31_49 ?_
  refine g_aload_n m31_50 rfl ?_
  refine h_gfR (c := 55) (k := 19) (p := 51) m31_51 rfl (t_19 _ _) rfl (Nat.le_of_ble_eq_true rfl) ?_
  refine g_iconst m31_54 ?_
  refine g_bipush m31_55 ?_
  refine h_acr (k1 := 5) (k2 := 23) (p := 37) (q := 55) (c := 8) m31_57 rfl rfl (t_5 _ _) (t_23 _ _) (Or.inl rfl) (Nat.le_of_ble_eq_true rfl) (fun q => absurd q (by decide)) (Nat.le_of_ble_eq_true rfl) ?_
  refine g_aload_n m31_60 rfl ?_
  refine h_gfR (c := 38) (k := 1) (p := 33) m31_61 rfl (t_1 _ _) rfl (Nat.le_of_ble_eq_true rfl) ?_
  refine g_iconst m31_64 ?_
  refine g_aload_n m31_65 rfl ?_
  refine h_gfR (c := 56) (k := 19) (p := 51) m31_66 rfl (t_19 _ _) rfl (Nat.le_of_ble_eq_true rfl) ?_
  refine g_iconst m31_69 ?_
  refine g_bipush m31_70 ?_
  refine h_acr (k1 := 6) (k2 := 24) (p := 38) (q := 56) (c := 8) m31_72 rfl rfl (t_6 _ _) (t_24 _ _) (Or.inl rfl) (Nat.le_of_ble_eq_true rfl) (fun q => absurd q (by decide)) (Nat.le_of_ble_eq_true rfl) ?_
  refine g_aload_n m31_75 rfl ?_
  refine h_gfR (c := 39) (k := 1) (p := 33) m31_76 rfl (t_1 _ _) rfl (Nat.le_of_ble_eq_true rfl) ?_
  refine g_iconst m31_79 ?_
  refine g_aload_n m31_80 rfl ?_
  refine h_gfR (c := 57) (k := 19) (p := 51) m31_81 rfl (t_19 _ _) rfl (Nat.le_of_ble_eq_true rfl) ?_
  refine g_iconst m31_84 ?_
  refine g_bipush m31_85 ?_
  refine h_acr (k1 := 7) (k2 := 25) (p := 39) (q := 57) (c := 8) m31_87 rfl rfl (t_7 _ _) (t_25 _ _) (Or.inl rfl) (Nat.le_of_ble_eq_true rfl) (fun q => absurd q (by decide)) (Nat.le_of_ble_eq_true rfl) ?_
  refine g_aload_n m31_90 rfl ?_
  refine h_gfR (c := 40) (k := 1) (p := 33) m31_91 rfl (t_1 _ _) rfl (Nat.le_of_ble_eq_true rfl) ?_
  refine g_iconst m31_94 ?_
  refine g_aload_n m31_95 rfl ?_
  refine h_gfR (c := 58) (k := 19) (p := 51) m31_96 rfl (t_19 _ _) rfl (Nat.le_of_ble_eq_true rfl) ?_
  refine g_iconst m31_99 ?_
  refine g_bipush m31_100 ?_
  refine h_acr (k1 := 8) (k2 := 26) (p := 40) (q := 58) (c := 8) m31_102 rfl rfl (t_8 _ _) (t_26 _ _) (Or.inr rfl) (Nat.le_of_ble_eq_true rfl) (fun _ j hj => h01 j hj) (Nat.le_of_ble_eq_true rfl) ?_
  refine g_aload_n m31_105 rfl ?_
  refine g_aload_n m31_106 rfl ?_
  refine h_gfI (k := 1) (p := 33) m31_107 rfl (t_1 _ _) rfl rfl ?_
  refine h_pfI (k := 19) (p := 51) m31_110 rfl (t_19 _ _) rfl trivial ?_
  refine g_aload_n m31_113 rfl ?_
  refine g_aload_n m31_114 rfl ?_
  refine h_gfI (k := 1) (p := 33) m31_115 rfl (t_1 _ _) rfl rfl ?_
  refine h_pfI (k := 19) (p := 51) m31_118 rfl (t_19 _ _) rfl trivial ?_
  refine g_aload_n m31_121 rfl ?_
  refine g_aload_n m31_122 rfl ?_
  refine h_gfI (k := 1) (p := 33) m31_123 rfl (t_1 _ _) rfl rfl ?_
  refine h_pfI (k := 19) (p := 51) m31_126 rfl (t_19 _ _) rfl trivial ?_
  refine g_aload_n m31_129 rfl ?_
  refine g_aload_n m31_130 rfl ?_
  refine h_gfL (k := 1) (p := 33) m31_131 rfl (t_1 _ _) rfl rfl ?_
  refine h_pfL (k := 19) (p := 51) m31_134 rfl (t_19 _ _) rfl rfl ?_
  refine g_aload_n m31_137 rfl ?_
  refine g_aload_n m31_138 rfl ?_
  refine h_gfL (k := 1) (p := 33) m31_139 rfl (t_1 _ _) rfl rfl ?_
  refine h_pfL (k := 19) (p := 51) m31_142 rfl (t_19 _ _) rfl rfl ?_
  refine g_vret m31_145 ?_
  rw [H_row (k := 19) (w := m 1) (t_19 _ _) (cel_o (fun j c hj hc => ?_))]
  · refine (congrArg (fun z => Q none (H z ln N)) (show takeM m 2 0 = _ from funext fun k => ?_)).mp hQ
    by_cases hk : 19 ≤ k ∧ k < 27
    · rcases (show k = 19 ∨ k = 20 ∨ k = 21 ∨ k = 22 ∨ k = 23 ∨ k = 24 ∨ k = 25 ∨ k = 26 by omega) with rfl | rfl | rfl | rfl | rfl | rfl | rfl | rfl <;> rfl
    · funext j
      rw [take_o m 2 0 (by omega)]
      refine Eq.symm ?_
      repeat (first | refine (upm_k _ _ (by omega)).trans ?_ | refine (congrFun (upmR_k (by omega)) j).trans ?_)
      rfl
  · rcases (show j = 8 ∨ j = 9 ∨ j = 10 ∨ j = 11 ∨ j = 12 by
      have hl : j < 13 := (List.getElem?_eq_some_iff.mp hj).1
      rcases (show j = 0 ∨ j = 1 ∨ j = 2 ∨ j = 3 ∨ j = 4 ∨ j = 5 ∨ j = 6 ∨ j = 7 ∨ 8 ≤ j by omega) with rfl | rfl | rfl | rfl | rfl | rfl | rfl | rfl | h8
      all_goals first | omega | (cases hj; omega)) with rfl | rfl | rfl | rfl | rfl <;> rfl
set_option maxRecDepth 20000 in
set_option maxHeartbeats 40000000 in
theorem c_take30 (h01 : ∀ j, j < 8 → m 8 j = 0 ∨ m 8 j = 1) (hQ : Q none (H (takeM m 3 0) ln N)) : WP xs (d + 1) 31 0 0 [.ref (60), .ref (33)] (H m ln N) Q := by
  refine wp_x mx_31 (L := [some (.ref (60)), some (.ref (33))]) (Nat.le_of_ble_eq_true rfl) rfl ?_
  refine g_aload_n m31_0 rfl ?_
  refine h_gfR (c := 34) (k := 1) (p := 33) m31_1 rfl (t_1 _ _) rfl (Nat.le_of_ble_eq_true rfl) ?_
  refine g_iconst m31_4 ?_
  refine g_aload_n m31_5 rfl ?_
  refine h_gfR (c := 61) (k := 28) (p := 60) m31_6 rfl (t_28 _ _) rfl (Nat.le_of_ble_eq_true rfl) ?_
  refine g_iconst m31_9 ?_
  refine g_bipush m31_10 ?_
  refine h_acr (k1 := 2) (k2 := 29) (p := 34) (q := 61) (c := 8) m31_12 rfl rfl (t_2 _ _) (t_29 _ _) (Or.inl rfl) (Nat.le_of_ble_eq_true rfl) (fun q => absurd q (by decide)) (Nat.le_of_ble_eq_true rfl) ?_
  refine g_aload_n m31_15 rfl ?_
  refine h_gfR (c := 35) (k := 1) (p := 33) m31_16 rfl (t_1 _ _) rfl (Nat.le_of_ble_eq_true rfl) ?_
  refine g_iconst m31_19 ?_
  refine g_aload_n m31_20 rfl ?_
  refine h_gfR (c := 62) (k := 28) (p := 60) m31_21 rfl (t_28 _ _) rfl (Nat.le_of_ble_eq_true rfl) ?_
  refine g_iconst m31_24 ?_
  refine g_bipush m31_25 ?_
  refine h_acr (k1 := 3) (k2 := 30) (p := 35) (q := 62) (c := 8) m31_27 rfl rfl (t_3 _ _) (t_30 _ _) (Or.inl rfl) (Nat.le_of_ble_eq_true rfl) (fun q => absurd q (by decide)) (Nat.le_of_ble_eq_true rfl) ?_
  refine g_aload_n m31_30 rfl ?_
  refine h_gfR (c := 36) (k := 1) (p := 33) m31_31 rfl (t_1 _ _) rfl (Nat.le_of_ble_eq_true rfl) ?_
  refine g_iconst m31_34 ?_
  refine g_aload_n m31_35 rfl ?_
  refine h_gfR (c := 63) (k := 28) (p := 60) m31_36 rfl (t_28 _ _) rfl (Nat.le_of_ble_eq_true rfl) ?_
  refine g_iconst m31_39 ?_
  refine g_bipush m31_40 ?_
  refine h_acr (k1 := 4) (k2 := 31) (p := 36) (q := 63) (c := 8) m31_42 rfl rfl (t_4 _ _) (t_31 _ _) (Or.inl rfl) (Nat.le_of_ble_eq_true rfl) (fun q => absurd q (by decide)) (Nat.le_of_ble_eq_true rfl) ?_
  refine g_aload_n m31_45 rfl ?_
  refine h_gfR (c := 37) (k := 1) (p := 33) m31_46 rfl (t_1 _ _) rfl (Nat.le_of_ble_eq_true rfl) ?_
  refine g_iconst m31_49 ?_
  refine g_aload_n m31_50 rfl ?_
  refine h_gfR (c := 64) (k := 28) (p := 60) m31_51 rfl (t_28 _ _) rfl (Nat.le_of_ble_eq_true rfl) ?_
  refine g_iconst m31_54 ?_
  refine g_bipush m31_55 ?_
  refine h_acr (k1 := 5) (k2 := 32) (p := 37) (q := 64) (c := 8) m31_57 rfl rfl (t_5 _ _) (t_32 _ _) (Or.inl rfl) (Nat.le_of_ble_eq_true rfl) (fun q => absurd q (by decide)) (Nat.le_of_ble_eq_true rfl) ?_
  refine g_aload_n m31_60 rfl ?_
  refine h_gfR (c := 38) (k := 1) (p := 33) m31_61 rfl (t_1 _ _) rfl (Nat.le_of_ble_eq_true rfl) ?_
  refine g_iconst m31_64 ?_
  refine g_aload_n m31_65 rfl ?_
  refine h_gfR (c := 65) (k := 28) (p := 60) m31_66 rfl (t_28 _ _) rfl (Nat.le_of_ble_eq_true rfl) ?_
  refine g_iconst m31_69 ?_
  refine g_bipush m31_70 ?_
  refine h_acr (k1 := 6) (k2 := 33) (p := 38) (q := 65) (c := 8) m31_72 rfl rfl (t_6 _ _) (t_33 _ _) (Or.inl rfl) (Nat.le_of_ble_eq_true rfl) (fun q => absurd q (by decide)) (Nat.le_of_ble_eq_true rfl) ?_
  refine g_aload_n m31_75 rfl ?_
  refine h_gfR (c := 39) (k := 1) (p := 33) m31_76 rfl (t_1 _ _) rfl (Nat.le_of_ble_eq_true rfl) ?_
  refine g_iconst m31_79 ?_
  refine g_aload_n m31_80 rfl ?_
  refine h_gfR (c := 66) (k := 28) (p := 60) m31_81 rfl (t_28 _ _) rfl (Nat.le_of_ble_eq_true rfl) ?_
  refine g_iconst m31_84 ?_
  refine g_bipush m31_85 ?_
  refine h_acr (k1 := 7) (k2 := 34) (p := 39) (q := 66) (c := 8) m31_87 rfl rfl (t_7 _ _) (t_34 _ _) (Or.inl rfl) (Nat.le_of_ble_eq_true rfl) (fun q => absurd q (by decide)) (Nat.le_of_ble_eq_true rfl) ?_
  refine g_aload_n m31_90 rfl ?_
  refine h_gfR (c := 40) (k := 1) (p := 33) m31_91 rfl (t_1 _ _) rfl (Nat.le_of_ble_eq_true rfl) ?_
  refine g_iconst m31_94 ?_
  refine g_aload_n m31_95 rfl ?_
  refine h_gfR (c := 67) (k := 28) (p := 60) m31_96 rfl (t_28 _ _) rfl (Nat.le_of_ble_eq_true rfl) ?_
  refine g_iconst m31_99 ?_
  refine g_bipush m31_100 ?_
  refine h_acr (k1 := 8) (k2 := 35) (p := 40) (q := 67) (c := 8) m31_102 rfl rfl (t_8 _ _) (t_35 _ _) (Or.inr rfl) (Nat.le_of_ble_eq_true rfl) (fun _ j hj => h01 j hj) (Nat.le_of_ble_eq_true rfl) ?_
  refine g_aload_n m31_105 rfl ?_
  refine g_aload_n m31_106 rfl ?_
  refine h_gfI (k := 1) (p := 33) m31_107 rfl (t_1 _ _) rfl rfl ?_
  refine h_pfI (k := 28) (p := 60) m31_110 rfl (t_28 _ _) rfl trivial ?_
  refine g_aload_n m31_113 rfl ?_
  refine g_aload_n m31_114 rfl ?_
  refine h_gfI (k := 1) (p := 33) m31_115 rfl (t_1 _ _) rfl rfl ?_
  refine h_pfI (k := 28) (p := 60) m31_118 rfl (t_28 _ _) rfl trivial ?_
  refine g_aload_n m31_121 rfl ?_
  refine g_aload_n m31_122 rfl ?_
  refine h_gfI (k := 1) (p := 33) m31_123 rfl (t_1 _ _) rfl rfl ?_
  refine h_pfI (k := 28) (p := 60) m31_126 rfl (t_28 _ _) rfl trivial ?_
  refine g_aload_n m31_129 rfl ?_
  refine g_aload_n m31_130 rfl ?_
  refine h_gfL (k := 1) (p := 33) m31_131 rfl (t_1 _ _) rfl rfl ?_
  refine h_pfL (k := 28) (p := 60) m31_134 rfl (t_28 _ _) rfl rfl ?_
  refine g_aload_n m31_137 rfl ?_
  refine g_aload_n m31_138 rfl ?_
  refine h_gfL (k := 1) (p := 33) m31_139 rfl (t_1 _ _) rfl rfl ?_
  refine h_pfL (k := 28) (p := 60) m31_142 rfl (t_28 _ _) rfl rfl ?_
  refine g_vret m31_145 ?_
  rw [H_row (k := 28) (w := m 1) (t_28 _ _) (cel_o (fun j c hj hc => ?_))]
  · refine (congrArg (fun z => Q none (H z ln N)) (show takeM m 3 0 = _ from funext fun k => ?_)).mp hQ
    by_cases hk : 28 ≤ k ∧ k < 36
    · rcases (show k = 28 ∨ k = 29 ∨ k = 30 ∨ k = 31 ∨ k = 32 ∨ k = 33 ∨ k = 34 ∨ k = 35 by omega) with rfl | rfl | rfl | rfl | rfl | rfl | rfl | rfl <;> rfl
    · funext j
      rw [take_o m 3 0 (by omega)]
      refine Eq.symm ?_
      repeat (first | refine (upm_k _ _ (by omega)).trans ?_ | refine (congrFun (upmR_k (by omega)) j).trans ?_)
      rfl
  · rcases (show j = 8 ∨ j = 9 ∨ j = 10 ∨ j = 11 ∨ j = 12 by
      have hl : j < 13 := (List.getElem?_eq_some_iff.mp hj).1
      rcases (show j = 0 ∨ j = 1 ∨ j = 2 ∨ j = 3 ∨ j = 4 ∨ j = 5 ∨ j = 6 ∨ j = 7 ∨ 8 ≤ j by omega) with rfl | rfl | rfl | rfl | rfl | rfl | rfl | rfl | h8
      all_goals first | omega | (cases hj; omega)) with rfl | rfl | rfl | rfl | rfl <;> rfl
set_option maxRecDepth 20000 in
set_option maxHeartbeats 40000000 in
theorem c_take03 (h01 : ∀ j, j < 8 → m 35 j = 0 ∨ m 35 j = 1) (hQ : Q none (H (takeM m 0 3) ln N)) : WP xs (d + 1) 31 0 0 [.ref (33), .ref (60)] (H m ln N) Q := by
  refine wp_x mx_31 (L := [some (.ref (33)), some (.ref (60))]) (Nat.le_of_ble_eq_true rfl) rfl ?_
  refine g_aload_n m31_0 rfl ?_
  refine h_gfR (c := 61) (k := 28) (p := 60) m31_1 rfl (t_28 _ _) rfl (Nat.le_of_ble_eq_true rfl) ?_
  refine g_iconst m31_4 ?_
  refine g_aload_n m31_5 rfl ?_
  refine h_gfR (c := 34) (k := 1) (p := 33) m31_6 rfl (t_1 _ _) rfl (Nat.le_of_ble_eq_true rfl) ?_
  refine g_iconst m31_9 ?_
  refine g_bipush m31_10 ?_
  refine h_acr (k1 := 29) (k2 := 2) (p := 61) (q := 34) (c := 8) m31_12 rfl rfl (t_29 _ _) (t_2 _ _) (Or.inl rfl) (Nat.le_of_ble_eq_true rfl) (fun q => absurd q (by decide)) (Nat.le_of_ble_eq_true rfl) ?_
  refine g_aload_n m31_15 rfl ?_
  refine h_gfR (c := 62) (k := 28) (p := 60) m31_16 rfl (t_28 _ _) rfl (Nat.le_of_ble_eq_true rfl) ?_
  refine g_iconst m31_19 ?_
  refine g_aload_n m31_20 rfl ?_
  refine h_gfR (c := 35) (k := 1) (p := 33) m31_21 rfl (t_1 _ _) rfl (Nat.le_of_ble_eq_true rfl) ?_
  refine g_iconst m31_24 ?_
  refine g_bipush m31_25 ?_
  refine h_acr (k1 := 30) (k2 := 3) (p := 62) (q := 35) (c := 8) m31_27 rfl rfl (t_30 _ _) (t_3 _ _) (Or.inl rfl) (Nat.le_of_ble_eq_true rfl) (fun q => absurd q (by decide)) (Nat.le_of_ble_eq_true rfl) ?_
  refine g_aload_n m31_30 rfl ?_
  refine h_gfR (c := 63) (k := 28) (p := 60) m31_31 rfl (t_28 _ _) rfl (Nat.le_of_ble_eq_true rfl) ?_
  refine g_iconst m31_34 ?_
  refine g_aload_n m31_35 rfl ?_
  refine h_gfR (c := 36) (k := 1) (p := 33) m31_36 rfl (t_1 _ _) rfl (Nat.le_of_ble_eq_true rfl) ?_
  refine g_iconst m31_39 ?_
  refine g_bipush m31_40 ?_
  refine h_acr (k1 := 31) (k2 := 4) (p := 63) (q := 36) (c := 8) m31_42 rfl rfl (t_31 _ _) (t_4 _ _) (Or.inl rfl) (Nat.le_of_ble_eq_true rfl) (fun q => absurd q (by decide)) (Nat.le_of_ble_eq_true rfl) ?_
  refine g_aload_n m31_45 rfl ?_
  refine h_gfR (c := 64) (k := 28) (p := 60) m31_46 rfl (t_28 _ _) rfl (Nat.le_of_ble_eq_true rfl) ?_
  refine g_iconst m31_49 ?_
  refine g_aload_n m31_50 rfl ?_
  refine h_gfR (c := 37) (k := 1) (p := 33) m31_51 rfl (t_1 _ _) rfl (Nat.le_of_ble_eq_true rfl) ?_
  refine g_iconst m31_54 ?_
  refine g_bipush m31_55 ?_
  refine h_acr (k1 := 32) (k2 := 5) (p := 64) (q := 37) (c := 8) m31_57 rfl rfl (t_32 _ _) (t_5 _ _) (Or.inl rfl) (Nat.le_of_ble_eq_true rfl) (fun q => absurd q (by decide)) (Nat.le_of_ble_eq_true rfl) ?_
  refine g_aload_n m31_60 rfl ?_
  refine h_gfR (c := 65) (k := 28) (p := 60) m31_61 rfl (t_28 _ _) rfl (Nat.le_of_ble_eq_true rfl) ?_
  refine g_iconst m31_64 ?_
  refine g_aload_n m31_65 rfl ?_
  refine h_gfR (c := 38) (k := 1) (p := 33) m31_66 rfl (t_1 _ _) rfl (Nat.le_of_ble_eq_true rfl) ?_
  refine g_iconst m31_69 ?_
  refine g_bipush m31_70 ?_
  refine h_acr (k1 := 33) (k2 := 6) (p := 65) (q := 38) (c := 8) m31_72 rfl rfl (t_33 _ _) (t_6 _ _) (Or.inl rfl) (Nat.le_of_ble_eq_true rfl) (fun q => absurd q (by decide)) (Nat.le_of_ble_eq_true rfl) ?_
  refine g_aload_n m31_75 rfl ?_
  refine h_gfR (c := 66) (k := 28) (p := 60) m31_76 rfl (t_28 _ _) rfl (Nat.le_of_ble_eq_true rfl) ?_
  refine g_iconst m31_79 ?_
  refine g_aload_n m31_80 rfl ?_
  refine h_gfR (c := 39) (k := 1) (p := 33) m31_81 rfl (t_1 _ _) rfl (Nat.le_of_ble_eq_true rfl) ?_
  refine g_iconst m31_84 ?_
  refine g_bipush m31_85 ?_
  refine h_acr (k1 := 34) (k2 := 7) (p := 66) (q := 39) (c := 8) m31_87 rfl rfl (t_34 _ _) (t_7 _ _) (Or.inl rfl) (Nat.le_of_ble_eq_true rfl) (fun q => absurd q (by decide)) (Nat.le_of_ble_eq_true rfl) ?_
  refine g_aload_n m31_90 rfl ?_
  refine h_gfR (c := 67) (k := 28) (p := 60) m31_91 rfl (t_28 _ _) rfl (Nat.le_of_ble_eq_true rfl) ?_
  refine g_iconst m31_94 ?_
  refine g_aload_n m31_95 rfl ?_
  refine h_gfR (c := 40) (k := 1) (p := 33) m31_96 rfl (t_1 _ _) rfl (Nat.le_of_ble_eq_true rfl) ?_
  refine g_iconst m31_99 ?_
  refine g_bipush m31_100 ?_
  refine h_acr (k1 := 35) (k2 := 8) (p := 67) (q := 40) (c := 8) m31_102 rfl rfl (t_35 _ _) (t_8 _ _) (Or.inr rfl) (Nat.le_of_ble_eq_true rfl) (fun _ j hj => h01 j hj) (Nat.le_of_ble_eq_true rfl) ?_
  refine g_aload_n m31_105 rfl ?_
  refine g_aload_n m31_106 rfl ?_
  refine h_gfI (k := 28) (p := 60) m31_107 rfl (t_28 _ _) rfl rfl ?_
  refine h_pfI (k := 1) (p := 33) m31_110 rfl (t_1 _ _) rfl trivial ?_
  refine g_aload_n m31_113 rfl ?_
  refine g_aload_n m31_114 rfl ?_
  refine h_gfI (k := 28) (p := 60) m31_115 rfl (t_28 _ _) rfl rfl ?_
  refine h_pfI (k := 1) (p := 33) m31_118 rfl (t_1 _ _) rfl trivial ?_
  refine g_aload_n m31_121 rfl ?_
  refine g_aload_n m31_122 rfl ?_
  refine h_gfI (k := 28) (p := 60) m31_123 rfl (t_28 _ _) rfl rfl ?_
  refine h_pfI (k := 1) (p := 33) m31_126 rfl (t_1 _ _) rfl trivial ?_
  refine g_aload_n m31_129 rfl ?_
  refine g_aload_n m31_130 rfl ?_
  refine h_gfL (k := 28) (p := 60) m31_131 rfl (t_28 _ _) rfl rfl ?_
  refine h_pfL (k := 1) (p := 33) m31_134 rfl (t_1 _ _) rfl rfl ?_
  refine g_aload_n m31_137 rfl ?_
  refine g_aload_n m31_138 rfl ?_
  refine h_gfL (k := 28) (p := 60) m31_139 rfl (t_28 _ _) rfl rfl ?_
  refine h_pfL (k := 1) (p := 33) m31_142 rfl (t_1 _ _) rfl rfl ?_
  refine g_vret m31_145 ?_
  rw [H_row (k := 1) (w := m 28) (t_1 _ _) (cel_o (fun j c hj hc => ?_))]
  · refine (congrArg (fun z => Q none (H z ln N)) (show takeM m 0 3 = _ from funext fun k => ?_)).mp hQ
    by_cases hk : 1 ≤ k ∧ k < 9
    · rcases (show k = 1 ∨ k = 2 ∨ k = 3 ∨ k = 4 ∨ k = 5 ∨ k = 6 ∨ k = 7 ∨ k = 8 by omega) with rfl | rfl | rfl | rfl | rfl | rfl | rfl | rfl <;> rfl
    · funext j
      rw [take_o m 0 3 (by omega)]
      refine Eq.symm ?_
      repeat (first | refine (upm_k _ _ (by omega)).trans ?_ | refine (congrFun (upmR_k (by omega)) j).trans ?_)
      rfl
  · rcases (show j = 8 ∨ j = 9 ∨ j = 10 ∨ j = 11 ∨ j = 12 by
      have hl : j < 13 := (List.getElem?_eq_some_iff.mp hj).1
      rcases (show j = 0 ∨ j = 1 ∨ j = 2 ∨ j = 3 ∨ j = 4 ∨ j = 5 ∨ j = 6 ∨ j = 7 ∨ 8 ≤ j by omega) with rfl | rfl | rfl | rfl | rfl | rfl | rfl | rfl | h8
      all_goals first | omega | (cases hj; omega)) with rfl | rfl | rfl | rfl | rfl <;> rfl
set_option maxRecDepth 20000 in
set_option maxHeartbeats 40000000 in
theorem c_dtake40 (hQ : Q none (H (deskM m 40 37) ln N)) : WP xs (d + 1) 11 0 0 [.ref (72), .ref (69)] (H m ln N) Q := by
  refine wp_x mx_11 (L := [some (.ref (72)), some (.ref (69))]) (Nat.le_of_ble_eq_true rfl) rfl ?_
  refine g_aload_n m11_0 rfl ?_
  refine g_aload_n m11_1 rfl ?_
  refine h_gfI (k := 37) (p := 69) m11_2 rfl (t_37 _ _) rfl rfl ?_
  refine h_pfI (k := 40) (p := 72) m11_5 rfl (t_40 _ _) rfl trivial ?_
  refine g_aload_n m11_8 rfl ?_
  refine h_gfR (c := 70) (k := 37) (p := 69) m11_9 rfl (t_37 _ _) rfl (Nat.le_of_ble_eq_true rfl) ?_
  refine g_iconst m11_12 ?_
  refine g_aload_n m11_13 rfl ?_
  refine h_gfR (c := 73) (k := 40) (p := 72) m11_14 rfl (t_40 _ _) rfl (Nat.le_of_ble_eq_true rfl) ?_
  refine g_iconst m11_17 ?_
  refine g_bipush m11_18 ?_
  refine h_acr (k1 := 38) (k2 := 41) (p := 70) (q := 73) (c := 50) m11_20 rfl rfl (t_38 _ _) (t_41 _ _) (Or.inl rfl) (Nat.le_of_ble_eq_true rfl) (fun q => absurd q (by decide)) (Nat.le_of_ble_eq_true rfl) ?_
  refine g_aload_n m11_23 rfl ?_
  refine g_aload_n m11_24 rfl ?_
  refine h_gfI (k := 37) (p := 69) m11_25 rfl (t_37 _ _) rfl rfl ?_
  refine h_pfI (k := 40) (p := 72) m11_28 rfl (t_40 _ _) rfl trivial ?_
  refine g_aload_n m11_31 rfl ?_
  refine h_gfR (c := 71) (k := 37) (p := 69) m11_32 rfl (t_37 _ _) rfl (Nat.le_of_ble_eq_true rfl) ?_
  refine g_iconst m11_35 ?_
  refine g_aload_n m11_36 rfl ?_
  refine h_gfR (c := 74) (k := 40) (p := 72) m11_37 rfl (t_40 _ _) rfl (Nat.le_of_ble_eq_true rfl) ?_
  refine g_iconst m11_40 ?_
  refine g_bipush m11_41 ?_
  refine h_acr (k1 := 39) (k2 := 42) (p := 71) (q := 74) (c := 20) m11_43 rfl rfl (t_39 _ _) (t_42 _ _) (Or.inl rfl) (Nat.le_of_ble_eq_true rfl) (fun q => absurd q (by decide)) (Nat.le_of_ble_eq_true rfl) ?_
  refine g_aload_n m11_46 rfl ?_
  refine g_aload_n m11_47 rfl ?_
  refine h_gfI (k := 37) (p := 69) m11_48 rfl (t_37 _ _) rfl rfl ?_
  refine h_pfI (k := 40) (p := 72) m11_51 rfl (t_40 _ _) rfl trivial ?_
  refine g_vret m11_54 ?_
  rw [H_row (k := 40) (w := m 37) (t_40 _ _) (cel_o (fun j c hj hc => ?_))]
  · refine (congrArg (fun z => Q none (H z ln N)) (show deskM m 40 37 = _ from funext fun k => ?_)).mp hQ
    by_cases hk : 40 ≤ k ∧ k < 43
    · rcases (show k = 40 ∨ k = 41 ∨ k = 42 by omega) with rfl | rfl | rfl <;> rfl
    · funext j
      rw [show deskM m 40 37 k = m k from if_neg hk]
      refine Eq.symm ?_
      repeat (first | refine (upm_k _ _ (by omega)).trans ?_ | refine (congrFun (upmR_k (by omega)) j).trans ?_)
      rfl
  · rcases (show j = 0 ∨ j = 2 ∨ j = 4 by
      have hl : j < 5 := (List.getElem?_eq_some_iff.mp hj).1
      rcases (show j = 0 ∨ j = 1 ∨ j = 2 ∨ j = 3 ∨ j = 4 by omega) with rfl | rfl | rfl | rfl | rfl
      all_goals first | omega | (cases hj; omega)) with rfl | rfl | rfl <;> rfl
set_option maxRecDepth 20000 in
set_option maxHeartbeats 40000000 in
theorem c_dtake37 (hQ : Q none (H (deskM m 37 40) ln N)) : WP xs (d + 1) 11 0 0 [.ref (69), .ref (72)] (H m ln N) Q := by
  refine wp_x mx_11 (L := [some (.ref (69)), some (.ref (72))]) (Nat.le_of_ble_eq_true rfl) rfl ?_
  refine g_aload_n m11_0 rfl ?_
  refine g_aload_n m11_1 rfl ?_
  refine h_gfI (k := 40) (p := 72) m11_2 rfl (t_40 _ _) rfl rfl ?_
  refine h_pfI (k := 37) (p := 69) m11_5 rfl (t_37 _ _) rfl trivial ?_
  refine g_aload_n m11_8 rfl ?_
  refine h_gfR (c := 73) (k := 40) (p := 72) m11_9 rfl (t_40 _ _) rfl (Nat.le_of_ble_eq_true rfl) ?_
  refine g_iconst m11_12 ?_
  refine g_aload_n m11_13 rfl ?_
  refine h_gfR (c := 70) (k := 37) (p := 69) m11_14 rfl (t_37 _ _) rfl (Nat.le_of_ble_eq_true rfl) ?_
  refine g_iconst m11_17 ?_
  refine g_bipush m11_18 ?_
  refine h_acr (k1 := 41) (k2 := 38) (p := 73) (q := 70) (c := 50) m11_20 rfl rfl (t_41 _ _) (t_38 _ _) (Or.inl rfl) (Nat.le_of_ble_eq_true rfl) (fun q => absurd q (by decide)) (Nat.le_of_ble_eq_true rfl) ?_
  refine g_aload_n m11_23 rfl ?_
  refine g_aload_n m11_24 rfl ?_
  refine h_gfI (k := 40) (p := 72) m11_25 rfl (t_40 _ _) rfl rfl ?_
  refine h_pfI (k := 37) (p := 69) m11_28 rfl (t_37 _ _) rfl trivial ?_
  refine g_aload_n m11_31 rfl ?_
  refine h_gfR (c := 74) (k := 40) (p := 72) m11_32 rfl (t_40 _ _) rfl (Nat.le_of_ble_eq_true rfl) ?_
  refine g_iconst m11_35 ?_
  refine g_aload_n m11_36 rfl ?_
  refine h_gfR (c := 71) (k := 37) (p := 69) m11_37 rfl (t_37 _ _) rfl (Nat.le_of_ble_eq_true rfl) ?_
  refine g_iconst m11_40 ?_
  refine g_bipush m11_41 ?_
  refine h_acr (k1 := 42) (k2 := 39) (p := 74) (q := 71) (c := 20) m11_43 rfl rfl (t_42 _ _) (t_39 _ _) (Or.inl rfl) (Nat.le_of_ble_eq_true rfl) (fun q => absurd q (by decide)) (Nat.le_of_ble_eq_true rfl) ?_
  refine g_aload_n m11_46 rfl ?_
  refine g_aload_n m11_47 rfl ?_
  refine h_gfI (k := 40) (p := 72) m11_48 rfl (t_40 _ _) rfl rfl ?_
  refine h_pfI (k := 37) (p := 69) m11_51 rfl (t_37 _ _) rfl trivial ?_
  refine g_vret m11_54 ?_
  rw [H_row (k := 37) (w := m 40) (t_37 _ _) (cel_o (fun j c hj hc => ?_))]
  · refine (congrArg (fun z => Q none (H z ln N)) (show deskM m 37 40 = _ from funext fun k => ?_)).mp hQ
    by_cases hk : 37 ≤ k ∧ k < 40
    · rcases (show k = 37 ∨ k = 38 ∨ k = 39 by omega) with rfl | rfl | rfl <;> rfl
    · funext j
      rw [show deskM m 37 40 k = m k from if_neg hk]
      refine Eq.symm ?_
      repeat (first | refine (upm_k _ _ (by omega)).trans ?_ | refine (congrFun (upmR_k (by omega)) j).trans ?_)
      rfl
  · rcases (show j = 0 ∨ j = 2 ∨ j = 4 by
      have hl : j < 5 := (List.getElem?_eq_some_iff.mp hj).1
      rcases (show j = 0 ∨ j = 1 ∨ j = 2 ∨ j = 3 ∨ j = 4 by omega) with rfl | rfl | rfl | rfl | rfl
      all_goals first | omega | (cases hj; omega)) with rfl | rfl | rfl <;> rfl
set_option maxRecDepth 20000 in
set_option maxHeartbeats 40000000 in
theorem c_moveRow {k1 k2 p1 p2 : Nat} (hp1 : 32 + k1 = p1) (hp2 : 32 + k2 = p2) (h1 : TmAt ln N k1 (.inl (0, 234))) (h2 : TmAt ln N k2 (.inl (0, 234))) (hne : k1 ≠ k2) (hQ : Q none (H (upmR m k2 (m k1)) ln N)) : WP xs (d + 1) 110 0 0 [.ref (89), .ref (p1), .ref (p2)] (H m ln N) Q := by
  refine wp_x mx_110 (L := [some (.ref (89)), some (.ref (p1)), some (.ref (p2)), none]) (Nat.le_of_ble_eq_true rfl) rfl ?_
  have key : ∀ (r : Nat) (q : Nat) (m2 : MW), q + r = 234 → (∀ k i, m2 k i = (if k = k2 ∧ i < q then m k1 i else m k i)) → gw xs (WP xs (d)) 110 Q 2 [some (.ref (89)), some (.ref (p1)), some (.ref (p2)), some (.int (nI (q)))] [] (H m2 ln N) 0 0 := by
    intro r
    induction r with
    | zero =>
      intro q m2 hq hm
      obtain rfl : q = 234 := by omega
      refine g_iload_n m110_2 rfl ?_
      refine g_sipush m110_3 ?_
      refine h_ic_geT (xi := ((234 : Nat) : Int)) (zi := 234) m110_6 (nI_toInt (by omega)) rfl (by omega) ?_
      refine g_vret m110_21 ?_
      have e : H m2 ln N = H (upmR m k2 (m k1)) ln N := by
        rw [H_row (w := m k1) h2 (cel_a (fun j hj => ?_))]
        · congr 1
          funext k i
          show (if k = k2 then m k1 else m2 k) i = (if k = k2 then m k1 else m k) i
          by_cases h : k = k2
          · rw [if_pos h, if_pos h]
          · rw [if_neg h, if_neg h, hm, if_neg (fun z => h z.1)]
        · rw [hm, if_pos ⟨rfl, hj⟩]
      rw [e]
      exact hQ
    | succ r ih =>
      intro q m2 hq hm
      have e1 : m2 k1 q = m k1 q := by rw [hm, if_neg (fun z => hne z.1)]
      refine g_iload_n m110_2 rfl ?_
      refine g_sipush m110_3 ?_
      refine h_ic_geF (xi := ((q : Nat) : Int)) (zi := 234) m110_6 (nI_toInt (by omega)) rfl (by omega) ?_
      refine g_aload_n m110_9 rfl ?_
      refine g_iload_n m110_10 rfl ?_
      refine g_aload_n m110_11 rfl ?_
      refine g_iload_n m110_12 rfl ?_
      refine h_ial (k := k1) (p := p1) (j := q) m110_13 hp1 h1 (rfl) (by omega) (Nat.le_of_ble_eq_true rfl) (e1) ?_
      refine h_ias (k := k2) (p := p2) (j := q) m110_14 hp2 h2 (rfl) (by omega) (Nat.le_of_ble_eq_true rfl) ?_
      refine g_iinc (L2 := [some (.ref (89)), some (.ref (p1)), some (.ref (p2)), some (.int (nI (q + 1)))]) m110_15 rfl (nI_1 _) rfl rfl ?_
      refine g_goto m110_18 ?_
      refine ih (q + 1) _ (by omega) (fun k i => ?_)
      unfold upm
      by_cases h : k = k2 ∧ i = q
      · rw [if_pos h, if_pos ⟨h.1, by omega⟩, h.2]
      · rw [if_neg h, hm]
        by_cases h3 : k = k2 ∧ i < q
        · rw [if_pos h3, if_pos ⟨h3.1, by omega⟩]
        · rw [if_neg h3, if_neg (fun z => (by omega : ¬ (k = k2 ∧ i < q + 1)) z)]
  refine g_iconst m110_0 ?_
  refine g_istore_n (L2 := [some (.ref (89)), some (.ref (p1)), some (.ref (p2)), some (.int (0))]) m110_1 rfl rfl ?_
  exact key 234 0 _ (by omega) (fun k i => (if_neg (by omega)).symm)
end
