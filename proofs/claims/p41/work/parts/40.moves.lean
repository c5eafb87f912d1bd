section
/-! WHOLE TABLES, DESKS, ROWS TAKEN OVER -/
theorem H_row {m : MW} {ln : Nat → Nat} {N k : Nat} {t : TM} (ht : TmAt ln N k t) {w : Nat → Int32} (e : celT t w = celT t (m k)) : H m ln N = H (upmR m k w) ln N := by
  rw [← H_set ht.1, ht.2, e]
  have h := H_get (m := m) (ln := ln) ht.1
  rw [ht.2] at h
  exact (set_own h).symm
theorem cel_a {kd n : Nat} {w v : Nat → Int32} (h : ∀ j, j < n → w j = v j) : celT (.inl (kd, n)) w = celT (.inl (kd, n)) v := by
  show (Sum.inl : Nat × List Int32 → AC) (kd, _) = (Sum.inl : Nat × List Int32 → AC) (kd, _)
  rw [List.map_congr_left (fun j hj => h j (List.mem_range.mp hj))]
theorem cel_o {ci : Nat} {fs : List Nat} {w v : Nat → Int32} (h : ∀ j c, fs[j]? = some c → c < 3 → w j = v j) : celT (.inr (ci, fs)) w = celT (.inr (ci, fs)) v := by
  show (Sum.inr : Nat × List Value → AC) (ci, _) = (Sum.inr : Nat × List Value → AC) (ci, _)
  rw [List.map_congr_left (fun j hj => ?_)]
  have hl : j < fs.length := List.mem_range.mp hj
  have e : fs[j]? = some (fs.getD j 0) := by
    rw [List.getD_eq_getElem?_getD, List.getElem?_eq_getElem hl]
    rfl
  by_cases hc : fs.getD j 0 < 3
  · rw [h j _ e hc]
  · obtain ⟨z, hz⟩ : ∃ z, fs.getD j 0 = z + 3 := ⟨fs.getD j 0 - 3, by omega⟩
    rw [hz]
    rfl
theorem cpy_row {m : MW} {ln : Nat → Nat} {N k1 k2 kk n : Nat} (h2 : TmAt ln N k2 (.inl (kk, n))) : H (cpy m k1 k2 0 0 n) ln N = H (upmR m k2 (m k1)) ln N := by
  rw [H_row (w := m k1) h2 (cel_a (fun j hj => ?_))]
  · congr 1
    funext k j
    unfold upmR cpy
    by_cases h : k = k2
    · rw [if_pos h, if_pos h]
    · rw [if_neg h, if_neg h, if_neg (fun q => h q.1)]
  · unfold cpy
    rw [if_pos ⟨rfl, by omega, by omega⟩]
    congr 1
    omega
theorem h_acr {xs : List Int32} {d y : Nat} {Q : QT} {pc : Nat} {L : LoS} {st : List Value} {m : MW} {ln : Nat → Nat} {N mc ms : Nat} {nx a b n k1 k2 p q kk c : Nat} {v : Int32} (hr : smI y pc = some (.invokestatic n, nx, 4, a, b, v)) (hp : 32 + k1 = p) (hq : 32 + k2 = q) (h1 : TmAt ln N k1 (.inl (kk, c))) (h2 : TmAt ln N k2 (.inl (kk, c))) (hkk : kk = 0 ∨ kk = 1) (hn : c < 2 ^ 31) (hb : kk = 1 → ∀ j, j < c → m k1 j = 0 ∨ m k1 j = 1) (hcat : catS st ≤ 8) (g : gw xs (WP xs d) y Q nx L st (H (upmR m k2 (m k1)) ln N) mc ms) : gw xs (WP xs d) y Q pc L (.int (nI c) :: .int (nI 0) :: .ref q :: .int (nI 0) :: .ref p :: st) (H m ln N) mc ms := by
  refine h_acp (kd := 0) (sp := 0) (dp := 0) (c := c) hr hp hq h1 h2 hkk hn hn (by omega) (by omega) hb hcat ?_
  rw [cpy_row h2]
  exact g
theorem upmR_k {m : MW} {k k2 : Nat} {w : Nat → Int32} (h : k2 ≠ k) : upmR m k w k2 = m k2 := if_neg h
/-- table t as table s (but for the faces) -/
def takeM (m : MW) (t s : Nat) : MW := fun k => if 1 + 9 * t ≤ k ∧ k < 9 + 9 * t then m (k - 9 * t + 9 * s) else m k
theorem take_vw (m : MW) (t s : Nat) {j : Nat} (hj : j < 8) : vw (takeM m t s) t j = vw m s j := by
  unfold vw takeM
  rw [if_pos (by omega), show j + 1 + 9 * t - 9 * t + 9 * s = j + 1 + 9 * s by omega]
theorem take_o (m : MW) (t s : Nat) {k : Nat} (hk : ¬ (1 + 9 * t ≤ k ∧ k < 9 + 9 * t)) : takeM m t s k = m k := if_neg hk
theorem take_8 (m : MW) (t s : Nat) : Eq8 (vw m s) (vw (takeM m t s) t) := fun j hj i => by rw [take_vw m t s hj]
theorem take_cod (m : MW) (t s : Nat) (ht : t < 4) (ln : Nat → Nat) : codL (takeM m t s) ln = codL m ln := by
  funext i
  unfold codL
  rw [take_o m t s (by omega)]
def deskM (m : MW) (a b : Nat) : MW := fun k => if a ≤ k ∧ k < a + 3 then m (k - a + b) else m k
section
variable {xs : List Int32} {d : Nat} {h : AH} {Q : QT} {m : MW} {ln : Nat → Nat} {N : Nat}
set_option maxRecDepth 20000 in
set_option maxHeartbeats 40000000 in
theorem c_take10 (h01 : ∀ j, j < 8 → m 8 j = 0 ∨ m 8 j = 1) (hQ : Q none (H (takeM m 1 0) ln N)) : WP xs (d + 1) 31 0 0 [.ref (42), .ref (33)] (H m ln N) Q := by
  refine wp_x mx_31 (L := [some (.ref (42)), some (.ref (33))]) (Nat.le_of_ble_eq_true rfl) rfl ?_
  refine g_aload_n m31_0 rfl ?_
  refine h_gfR (c := 34) (k := 1) (p := 33) m31_1 rfl (t_1 _ _) rfl (Nat.le_of_ble_eq_true rfl) ?_
  refine g_iconst m31_4 ?_
  refine g_aload_n m31_5 rfl ?_
  refine h_gfR (c := 43) (k := 10) (p := 42) m31_6 rfl (t_10 _ _) rfl (Nat.le_of_ble_eq_true rfl) ?_
  refine g_iconst m31_9 ?_
  refine g_bipush m31_10 ?_
  refine h_acr (k1 := 2) (k2 := 11) (p := 34) (q := 43) (c := 8) m31_12 rfl rfl (t_2 _ _) (t_11 _ _) (Or.inl rfl) (Nat.le_of_ble_eq_true rfl) (fun q => absurd q (by decide)) (Nat.le_of_ble_eq_true rfl) ?_
  refine g_aload_n m31_15 rfl ?_
  refine h_gfR (c := 35) (k := 1) (p := 33) m31_16 rfl (t_1 _ _) rfl (Nat.le_of_ble_eq_true rfl) ?_
  refine g_iconst m31_19 ?_
  refine g_aload_n m31_20 rfl ?_
  refine h_gfR (c := 44) (k := 10) (p := 42) m31_21 rfl (t_10 _ _) rfl (Nat.le_of_ble_eq_true rfl) ?_
  refine g_iconst m31_24 ?_
  refine g_bipush m31_25 ?_
  refine h_acr (k1 := 3) (k2 := 12) (p := 35) (q := 44) (c := 8) m31_27 rfl rfl (t_3 _ _) (t_12 _ _) (Or.inl rfl) (Nat.le_of_ble_eq_true rfl) (fun q => absurd q (by decide)) (Nat.le_of_ble_eq_true rfl) ?_
  refine g_aload_n m31_30 rfl ?_
  refine h_gfR (c := 36) (k := 1) (p := 33) m31_31 rfl (t_1 _ _) rfl (Nat.le_of_ble_eq_true rfl) ?_
  refine g_iconst m31_34 ?_
  refine g_aload_n m31_35 rfl ?_
  refine h_gfR (c := 45) (k := 10) (p := 42) m31_36 rfl (t_10 _ _) rfl (Nat.le_of_ble_eq_true rfl) ?_
  refine g_iconst m31_39 ?_
  refine g_bipush m31_40 ?_
  refine h_acr (k1 := 4) (k2 := 13) (p := 36) (q := 45) (c := 8) m31_42 rfl rfl (t_4 _ _) (t_13 _ _) (Or.inl rfl) (Nat.le_of_ble_eq_true rfl) (fun q => absurd q (by decide)) (Nat.le_of_ble_eq_true rfl) ?_
  refine g_aload_n m31_45 rfl ?_
  refine h_gfR (c := 37) (k := 1) (p := 33) m31_46 rfl (t_1 _ _) rfl (Nat.le_of_ble_eq_true rfl) ?_
  refine g_iconst m31_49 ?_
  refine g_aload_n m31_50 rfl ?_
  refine h_gfR (c := 46) (k := 10) (p := 42) m31_51 rfl (t_10 _ _) rfl (Nat.le_of_ble_eq_true rfl) ?_
  refine g_iconst m31_54 ?_
  refine g_bipush m31_55 ?_
  refine h_acr (k1 := 5) (k2 := 14) (p := 37) (q := 46) (c := 8) m31_57 rfl rfl (t_5 _ _) (t_14 _ _) (Or.inl rfl) (Nat.le_of_ble_eq_true rfl) (fun q => absurd q (by decide)) (Nat.le_of_ble_eq_true rfl) ?_
  refine g_aload_n m31_60 rfl ?_
  refine h_gfR (c := 38) (k := 1) (p := 33) m31_61 rfl (t_1 _ _) rfl (Nat.le_of_ble_eq_true rfl) ?_
  refine g_iconst m31_64 ?_
  refine g_aload_n m31_65 rfl ?_
  refine h_gfR (c := 47) (k := 10) (p := 42) m31_66 rfl (t_10 _ _) rfl (Nat.le_of_ble_eq_true rfl) ?_
  refine g_iconst m31_69 ?_
  refine g_bipush m31_70 ?_
  refine h_acr (k1 := 6) (k2 := 15) (p := 38) (q := 47) (c := 8) m31_72 rfl rfl (t_6 _ _) (t_15 _ _) (Or.inl rfl) (Nat.le_of_ble_eq_true rfl) (fun q => absurd q (by decide)) (Nat.le_of_ble_eq_true rfl) ?_
  refine g_aload_n m31_75 rfl ?_
  refine h_gfR (c := 39) (k := 1) (p := 33) m31_76 rfl (t_1 _ _) rfl (Nat.le_of_ble_eq_true rfl) ?_
  refine g_iconst m31_79 ?_
  refine g_aload_n m31_80 rfl ?_
  refine h_gfR (c := 48) (k := 10) (p := 42) m31_81 rfl (t_10 _ _) rfl (Nat.le_of_ble_eq_true rfl) ?_
  refine g_iconst m31_84 ?_
  refine g_bipush m31_85 ?_
  refine h_acr (k1 := 7) (k2 := 16) (p := 39) (q := 48) (c := 8) m31_87 rfl rfl (t_7 _ _) (t_16 _ _) (Or.inl rfl) (Nat.le_of_ble_eq_true rfl) (fun q => absurd q (by decide)) (Nat.le_of_ble_eq_true rfl) ?_
  refine g_aload_n m31_90 rfl ?_
  refine h_gfR (c := 40) (k := 1) (p := 33) m31_91 rfl (t_1 _ _) rfl (Nat.le_of_ble_eq_true rfl) ?_
  refine g_iconst m31_94 ?_
  refine g_aload_n m31_95 rfl ?_
  refine h_gfR (c := 49) (k := 10) (p := 42) m31_96 rfl (t_10 _ _) rfl (Nat.le_of_ble_eq_true rfl) ?_
  refine g_iconst m31_99 ?_
  refine g_bipush m31_100 ?_
  refine h_acr (k1 := 8) (k2 := 17) (p := 40) (q := 49) (c := 8) m31_102 rfl rfl (t_8 _ _) (t_17 _ _) (Or.inr rfl) (Nat.le_of_ble_eq_true rfl) (fun _ j hj => h01 j hj) (Nat.le_of_ble_eq_true rfl) ?_
  refine g_aload_n m31_105 rfl ?_
  refine g_aload_n m31_106 rfl ?_
  refine h_gfI (k := 1) (p := 33) m31_107 rfl (t_1 _ _) rfl rfl ?_
  refine h_pfI (k := 10) (p := 42) m31_110 rfl (t_10 _ _) rfl trivial ?_
  refine g_aload_n m31_113 rfl ?_
  refine g_aload_n m31_114 rfl ?_
  refine h_gfI (k := 1) (p := 33) m31_115 rfl (t_1 _ _) rfl rfl ?_
  refine h_pfI (k := 10) (p := 42) m31_118 rfl (t_10 _ _) rfl trivial ?_
  refine g_aload_n m31_121 rfl ?_
  refine g_aload_n m31_122 rfl ?_
  refine h_gfI (k := 1) (p := 33) m31_123 rfl (t_1 _ _) rfl rfl ?_
  refine h_pfI (k := 10) (p := 42) m31_126 rfl (t_10 _ _) rfl trivial ?_
  refine g_aload_n m31_129 rfl ?_
  refine g_aload_n m31_130 rfl ?_
  refine h_gfL (k := 1) (p := 33) m31_131 rfl (t_1 _ _) rfl rfl ?_
  refine h_pfL (k := 10) (p := 42) m31_134 rfl (t_10 _ _) rfl rfl ?_
  refine g_aload_n m31_137 rfl ?_
  refine g_aload_n m31_138 rfl ?_
  refine h_gfL (k := 1) (p := 33) m31_139 rfl (t_1 _ _) rfl rfl ?_
  refine h_pfL (k := 10) (p := 42) m31_142 rfl (t_10 _ _) rfl rfl ?_
  refine g_vret m31_145 ?_
  rw [H_row (k := 10) (w := m 1) (t_10 _ _) (cel_o (fun j c hj hc => ?_))]
  · refine (congrArg (fun z => Q none (H z ln N)) (show takeM m 1 0 = _ from funext fun k => ?_)).mp hQ
    by_cases hk : 10 ≤ k ∧ k < 18
    · rcases (show k = 10 ∨ k = 11 ∨ k = 12 ∨ k = 13 ∨ k = 14 ∨ k = 15 ∨ k = 16 ∨ k = 17 by omega) with rfl | rfl | rfl | rfl | rfl | rfl | rfl | rfl <;> rfl
    · funext j
      rw [take_o m 1 0 (by omega)]
      refine Eq.symm ?_
      repeat (first | refine (upm_k _ _ (by omega)).trans ?_ | refine (congrFun (upmR_k (by omega)) j).trans ?_)
      rfl
  · rcases (show j = 8 ∨ j = 9 ∨ j = 10 ∨ j = 11 ∨ j = 12 by
      have hl : j < 13 := (List.getElem?_eq_some_iff.mp hj).1
      rcases (show j = 0 ∨ j = 1 ∨ j = 2 ∨ j = 3 ∨ j = 4 ∨ j = 5 ∨ j = 6 ∨ j = 7 ∨ 8 ≤ j by omega) with rfl | rfl | rfl | rfl | rfl | rfl | rfl | rfl | h8
      all_goals first | omega | (cases hj; omega)) with rfl | rfl | rfl | rfl | rfl <;> rfl
set_option maxRecDepth 20000 in
set_option maxHeartbeats 40000000 in
theorem c_take20 (h01 : ∀ j, j < 8 → m 8 j = 0 ∨ m 8 j = 1) (hQ : Q none (H (takeM m 2 0) ln N)) : WP xs (d + 1) 31 0 0 [.ref (51), .ref (33)] (H m ln N) Q := by
  refine wp_x mx_31 (L := [some (.ref (51)), some (.ref (33))]) (Nat.le_of_ble_eq_true rfl) rfl ?_
  refine g_aload_n m31_0 rfl ?_
  refine h_gfR (c := 34) (k := 1) (p := 33) m31_1 rfl (t_1 _ _) rfl (Nat.le_of_ble_eq_true rfl) ?_
  refine g_iconst m31_4 ?_
  refine g_aload_n m31_5 rfl ?_
  refine h_gfR (c := 52) (k := 19) (p := 51) m31_6 rfl (t_19 _ _) rfl (Nat.le_of_ble_eq_true rfl) ?_
  refine g_iconst m31_9 ?_
  refine g_bipush m31_10 ?_
  refine h_acr (k1 := 2) (k2 := 20) (p := 34) (q := 52) (c := 8) m31_12 rfl rfl (t_2 _ _) (t_20 _ _) (Or.inl rfl) (Nat.le_of_ble_eq_true rfl) (fun q => absurd q (by decide)) (Nat.le_of_ble_eq_true rfl) ?_
  refine g_aload_n m31_15 rfl ?_
  refine h_gfR (c := 35) (k := 1) (p := 33) m31_16 rfl (t_1 _ _) rfl (Nat.le_of_ble_eq_true rfl) ?_
  refine g_iconst m31_19 ?_
  refine g_aload_n m31_20 rfl ?_
  refine h_gfR (c := 53) (k := 19) (p := 51) m31_21 rfl (t_19 _ _) rfl (Nat.le_of_ble_eq_true rfl) ?_
  refine g_iconst m31_24 ?_
  refine g_bipush m31_25 ?_
  refine h_acr (k1 := 3) (k2 := 21) (p := 35) (q := 53) (c := 8) m31_27 rfl rfl (t_3 _ _) (t_21 _ _) (Or.inl rfl) (Nat.le_of_ble_eq_true rfl) (fun q => absurd q (by decide)) (Nat.le_of_ble_eq_true rfl) ?_
  refine g_aload_n m31_30 rfl ?_
  refine h_gfR (c := 36) (k := 1) (p := 33) m31_31 rfl (t_1 _ _) rfl (Nat.le_of_ble_eq_true rfl) ?_
  refine g_iconst m31_34 ?_
  refine g_aload_n m31_35 rfl ?_
  refine h_gfR (c := 54) (k := 19) (p := 51) m31_36 rfl (t_19 _ _) rfl (Nat.le_of_ble_eq_true rfl) ?_
  refine g_iconst m31_39 ?_
  refine g_bipush m31_40 ?_
  refine h_acr (k1 := 4) (k2 := 22) (p := 36) (q := 54) (c := 8) m31_42 rfl rfl (t_4 _ _) (t_22 _ _) (Or.inl rfl) (Nat.le_of_ble_eq_true rfl) (fun q => absurd q (by decide)) (Nat.le_of_ble_eq_true rfl) ?_
  refine g_aload_n m31_45 rfl ?_
  refine h_gfR (c := 37) (k := 1) (p := 33) m31_46 rfl (t_1 _ _) rfl (Nat.le_of_ble_eq_true rfl) ?_
  refine g_iconst m31_49 ?_
  refine g_aload_n m31_50 rfl ?_
  refine h_gfR (c := 55) (k := 19) (p := 51) m31_51 rfl (t_19 _ _) rfl (Nat.le_of_ble_eq_true rfl) ?_
  refine g_iconst m31_54 ?_
  refine g_bipush m31_55 ?_
  refine h_acr (k1 := 5) (k2 := 23) (p := 37) (q := 55) (c := 8) m31_57 rfl rfl (t_5 _ _) (t_23 _ _) (Or.inl rfl) (Nat.le_of_ble_eq_true rfl) (fun q => absurd q (by decide)) (Nat.le_of_ble_eq_true rfl) ?_
  refine g_aload_n m31_60 rfl ?_
  refine h_gfR (c := 38) (k := 1) (p := 33) m31_61 rfl (t_1 _ _) rfl (Nat.le_of_ble_eq_true rfl) ?_
  refine g_iconst m31_64 ?_
  refine g_aload_n m31_65 rfl ?_
  refine h_gfR (c := 56) (k := 19) (p := 51) m31_66 rfl (t_19 _ _) rfl (Nat.le_of_ble_eq_true rfl) ?_
  refine g_iconst m31_69 ?_
  refine g_bipush m31_70 ?_
  refine h_acr (k1 := 6) (k2 := 24) (p := 38) (q := 56) (c := 8) m31_72 rfl rfl (t_6 _ _) (t_24 _ _) (Or.inl rfl) (Nat.le_of_ble_eq_true rfl) (fun q => absurd q (by decide)) (Nat.le_of_ble_eq_true rfl) ?_
  refine g_aload_n m31_75 rfl ?_
  refine h_gfR (c := 39) (k := 1) (p := 33) m31_76 rfl (t_1 _ _) rfl (Nat.le_of_ble_eq_true rfl) ?_
  refine g_iconst m31_79 ?_
  refine g_aload_n m31_80 rfl ?_
  refine h_gfR (c := 57) (k := 19) (p := 51) m31_81 rfl (t_19 _ _) rfl (Nat.le_of_ble_eq_true rfl) ?_
  refine g_iconst m31_84 ?_
  refine g_bipush m31_85 ?_
  refine h_acr (k1 := 7) (k2 := 25) (p := 39) (q := 57) (c := 8) m31_87 rfl rfl (t_7 _ _) (t_25 _ _) (Or.inl rfl) (Nat.le_of_ble_eq_true rfl) (fun q => absurd q (by decide)) (Nat.le_of_ble_eq_true rfl) ?_
  refine g_aload_n m31_90 rfl ?_
  refine h_gfR (c := 40) (k := 1) (p := 33) m31_91 rfl (t_1 _ _) rfl (Nat.le_of_ble_eq_true rfl) ?_
  refine g_iconst m31_94 ?_
  refine g_aload_n m31_95 rfl ?_
  refine h_gfR (c := 58) (k := 19) (p := 51) m31_96 rfl (t_19 _ _) rfl (Nat.le_of_ble_eq_true rfl) ?_
  refine g_iconst m31_99 ?_
  refine g_bipush m31_100 ?_
  refine h_acr (k1 := 8) (k2 := 26) (p := 40) (q := 58) (c := 8) m31_102 rfl rfl (t_8 _ _) (t_26 _ _) (Or.inr rfl) (Nat.le_of_ble_eq_true rfl) (fun _ j hj => h01 j hj) (Nat.le_of_ble_eq_true rfl) ?_
  refine g_aload_n m31_105 rfl ?_
  refine g_aload_n m31_106 rfl ?_
  refine h_gfI (k := 1) (p := 33) m31_107 rfl (t_1 _ _) rfl rfl ?_
  refine h_pfI (k := 19) (p := 51) m31_110 rfl (t_19 _ _) rfl trivial ?_
  refine g_aload_n m31_113 rfl ?_
  refine g_aload_n m31_114 rfl ?_
  refine h_gfI (k := 1) (p := 33) m31_115 rfl (t_1 _ _) rfl rfl ?_
  refine h_pfI (k := 19) (p := 51) m31_118 rfl (t_19 _ _) rfl trivial ?_
  refine g_aload_n m31_121 rfl ?_
  refine g_aload_n m31_122 rfl ?_
  refine h_gfI (k := 1) (p := 33) m31_123 rfl (t_1 _ _) rfl rfl ?_
  refine h_pfI (k := 19) (p := 51) m31_126 rfl (t_19 _ _) rfl trivial ?_
  refine g_aload_n m31_129 rfl ?_
  refine g_aload_n m31_130 rfl ?_
  refine h_gfL (k := 1) (p := 33) m31_131 rfl (t_1 _ _) rfl rfl ?_
  refine h_pfL (k := 19) (p := 51) m31_134 rfl (t_19 _ _) rfl rfl ?_
  refine g_aload_n m31_137 rfl ?_
  refine g_aload_n m31_138 rfl ?_
  refine h_gfL (k := 1) (p := 33) m31_139 rfl (t_1 _ _) rfl rfl ?_
  refine h_pfL (k := 19) (p := 51) m31_142 rfl (t_19 _ _) rfl rfl ?_
  refine g_vret m31_145 ?_
  rw [H_row (k := 19) (w := m 1) (t_19 _ _) (cel_o (fun j c hj hc => ?_))]
  · refine (congrArg (fun z => Q none (H z ln N)) (show takeM m 2 0 = _ from funext fun k => ?_)).mp hQ
    by_cases hk : 19 ≤ k ∧ k < 27
    · rcases (show k = 19 ∨ k = 20 ∨ k = 21 ∨ k = 22 ∨ k = 23 ∨ k = 24 ∨ k = 25 ∨ k = 26 by omega) with rfl | rfl | rfl | rfl | rfl | rfl | rfl | rfl <;> rfl
    · funext j
      rw [take_o m 2 0 (by omega)]
      refine Eq.symm ?_
      repeat (first | refine (upm_k _ _ (by omega)).trans ?_ | refine (congrFun (upmR_k (by omega)) j).trans ?_)
      rfl
  · rcases (show j = 8 ∨ j = 9 ∨ j = 10 ∨ j = 11 ∨ j = 12 by
      have hl : j < 13 := (List.getElem?_eq_some_iff.mp hj).1
      rcases (show j = 0 ∨ j = 1 ∨ j = 2 ∨ j = 3 ∨ j = 4 ∨ j = 5 ∨ j = 6 ∨ j = 7 ∨ 8 ≤ j by omega) with rfl | rfl | rfl | rfl | rfl | rfl | rfl | rfl | h8
      all_goals first | omega | (cases hj; omega)) with rfl | rfl | rfl | rfl | rfl <;> rfl
set_option maxRecDepth 20000 in
set_option maxHeartbeats 40000000 in
theorem c_take30 (h01 : ∀ j, j < 8 → m 8 j = 0 ∨ m 8 j = 1) (hQ : Q none (H (takeM m 3 0) ln N)) : WP xs (d + 1) 31 0 0 [.ref (60), .ref (33)] (H m ln N) Q := by
  refine wp_x mx_31 (L := [some (.ref (60)), some (.ref (33))]) (Nat.le_of_ble_eq_true rfl) rfl ?_
  refine g_aload_n m31_0 rfl ?_
  refine h_gfR (c := 34) (k := 1) (p := 33) m31_1 rfl (t_1 _ _) rfl (Nat.le_of_ble_eq_true rfl) ?_
  refine g_iconst m31_4 ?_
  refine g_aload_n m31_5 rfl ?_
  refine h_gfR (c := 61) (k := 28) (p := 60) m31_6 rfl (t_28 _ _) rfl (Nat.le_of_ble_eq_true rfl) ?_
  refine g_iconst m31_9 ?_
  refine g_bipush m31_10 ?_
  refine h_acr (k1 := 2) (k2 := 29) (p := 34) (q := 61) (c := 8) m31_12 rfl rfl (t_2 _ _) (t_29 _ _) (Or.inl rfl) (Nat.le_of_ble_eq_true rfl) (fun q => absurd q (by decide)) (Nat.le_of_ble_eq_true rfl) ?_
  refine g_aload_n m31_15 rfl ?_
  refine h_gfR (c := 35) (k := 1) (p := 33) m31_16 rfl (t_1 _ _) rfl (Nat.le_of_ble_eq_true rfl) ?_
  refine g_iconst m31_19 ?_
  refine g_aload_n m31_20 rfl ?_
  refine h_gfR (c := 62) (k := 28) (p := 60) m31_21 rfl (t_28 _ _) rfl (Nat.le_of_ble_eq_true rfl) ?_
  refine g_iconst m31_24 ?_
  refine g_bipush m31_25 ?_
  refine h_acr (k1 := 3) (k2 := 30) (p := 35) (q := 62) (c := 8) m31_27 rfl rfl (t_3 _ _) (t_30 _ _) (Or.inl rfl) (Nat.le_of_ble_eq_true rfl) (fun q => absurd q (by decide)) (Nat.le_of_ble_eq_true rfl) ?_
  refine g_aload_n m31_30 rfl ?_
  refine h_gfR (c := 36) (k := 1) (p := 33) m31_31 rfl (t_1 _ _) rfl (Nat.le_of_ble_eq_true rfl) ?_
  refine g_iconst m31_34 ?_
  refine g_aload_n m31_35 rfl ?_
  refine h_gfR (c := 63) (k := 28) (p := 60) m31_36 rfl (t_28 _ _) rfl (Nat.le_of_ble_eq_true rfl) ?_
  refine g_iconst m31_39 ?_
  refine g_bipush m31_40 ?_
  refine h_acr (k1 := 4) (k2 := 31) (p := 36) (q := 63) (c := 8) m31_42 rfl rfl (t_4 _ _) (t_31 _ _) (Or.inl rfl) (Nat.le_of_ble_eq_true rfl) (fun q => absurd q (by decide)) (Nat.le_of_ble_eq_true rfl) ?_
  refine g_aload_n m31_45 rfl ?_
  refine h_gfR (c := 37) (k := 1) (p := 33) m31_46 rfl (t_1 _ _) rfl (Nat.le_of_ble_eq_true rfl) ?_
  refine g_iconst m31_49 ?_
  refine g_aload_n m31_50 rfl ?_
  refine h_gfR (c := 64) (k := 28) (p := 60) m31_51 rfl (t_28 _ _) rfl (Nat.le_of_ble_eq_true rfl) ?_
  refine g_iconst m31_54 ?_
  refine g_bipush m31_55 ?_
  refine h_acr (k1 := 5) (k2 := 32) (p := 37) (q := 64) (c := 8) m31_57 rfl rfl (t_5 _ _) (t_32 _ _) (Or.inl rfl) (Nat.le_of_ble_eq_true rfl) (fun q => absurd q (by decide)) (Nat.le_of_ble_eq_true rfl) ?_
  refine g_aload_n m31_60 rfl ?_
  refine h_gfR (c := 38) (k := 1) (p := 33) m31_61 rfl (t_1 _ _) rfl (Nat.le_of_ble_eq_true rfl) ?_
  refine g_iconst m31_64 ?_
  refine g_aload_n m31_65 rfl ?_
  refine h_gfR (c := 65) (k := 28) (p := 60) m31_66 rfl (t_28 _ _) rfl (Nat.le_of_ble_eq_true rfl) ?_
  refine g_iconst m31_69 ?_
  refine g_bipush m31_70 ?_
  refine h_acr (k1 := 6) (k2 := 33) (p := 38) (q := 65) (c := 8) m31_72 rfl rfl (t_6 _ _) (t_33 _ _) (Or.inl rfl) (Nat.le_of_ble_eq_true rfl) (fun q => absurd q (by decide)) (Nat.le_of_ble_eq_true rfl) ?_
  refine g_aload_n m31_75 rfl ?_
  refine h_gfR (c := 39) (k := 1) (p := 33) m31_76 rfl (t_1 _ _) rfl (Nat.le_of_ble_eq_true rfl) ?_
  refine g_iconst m31_79 ?_
  refine g_aload_n m31_80 rfl ?_
  refine h_gfR (c := 66) (k := 28) (p := 60) m31_81 rfl (t_28 _ _) rfl (Nat.le_of_ble_eq_true rfl) ?_
  refine g_iconst m31_84 ?_
  refine g_bipush m31_85 ?_
  refine h_acr (k1 := 7) (k2 := 34) (p := 39) (q := 66) (c := 8) m31_87 rfl rfl (t_7 _ _) (t_34 _ _) (Or.inl rfl) (Nat.le_of_ble_eq_true rfl) (fun q => absurd q (by decide)) (Nat.le_of_ble_eq_true rfl) ?_
  refine g_aload_n m31_90 rfl ?_
  refine h_gfR (c := 40) (k := 1) (p := 33) m31_91 rfl (t_1 _ _) rfl (Nat.le_of_ble_eq_true rfl) ?_
  refine g_iconst m31_94 ?_
  refine g_aload_n m31_95 rfl ?_
  refine h_gfR (c := 67) (k := 28) (p := 60) m31_96 rfl (t_28 _ _) rfl (Nat.le_of_ble_eq_true rfl) ?_
  refine g_iconst m31_99 ?_
  refine g_bipush m31_100 ?_
  refine h_acr (k1 := 8) (k2 := 35) (p := 40) (q := 67) (c := 8) m31_102 rfl rfl (t_8 _ _) (t_35 _ _) (Or.inr rfl) (Nat.le_of_ble_eq_true rfl) (fun _ j hj => h01 j hj) (Nat.le_of_ble_eq_true rfl) ?_
  refine g_aload_n m31_105 rfl ?_
  refine g_aload_n m31_106 rfl ?_
  refine h_gfI (k := 1) (p := 33) m31_107 rfl (t_1 _ _) rfl rfl ?_
  refine h_pfI (k := 28) (p := 60) m31_110 rfl (t_28 _ _) rfl trivial ?_
  refine g_aload_n m31_113 rfl ?_
  refine g_aload_n m31_114 rfl ?_
  refine h_gfI (k := 1) (p := 33) m31_115 rfl (t_1 _ _) rfl rfl ?_
  refine h_pfI (k := 28) (p := 60) m31_118 rfl (t_28 _ _) rfl trivial ?_
  refine g_aload_n m31_121 rfl ?_
  refine g_aload_n m31_122 rfl ?_
  refine h_gfI (k := 1) (p := 33) m31_123 rfl (t_1 _ _) rfl rfl ?_
  refine h_pfI (k := 28) (p := 60) m31_126 rfl (t_28 _ _) rfl trivial ?_
  refine g_aload_n m31_129 rfl ?_
  refine g_aload_n m31_130 rfl ?_
  refine h_gfL (k := 1) (p := 33) m31_131 rfl (t_1 _ _) rfl rfl ?_
  refine h_pfL (k := 28) (p := 60) m31_134 rfl (t_28 _ _) rfl rfl ?_
  refine g_aload_n m31_137 rfl ?_
  refine g_aload_n m31_138 rfl ?_
  refine h_gfL (k := 1) (p := 33) m31_139 rfl (t_1 _ _) rfl rfl ?_
  refine h_pfL (k := 28) (p := 60) m31_142 rfl (t_28 _ _) rfl rfl ?_
  refine g_vret m31_145 ?_
  rw [H_row (k := 28) (w := m 1) (t_28 _ _) (cel_o (fun j c hj hc => ?_))]
  · refine (congrArg (fun z => Q none (H z ln N)) (show takeM m 3 0 = _ from funext fun k => ?_)).mp hQ
    by_cases hk : 28 ≤ k ∧ k < 36
    · rcases (show k = 28 ∨ k = 29 ∨ k = 30 ∨ k = 31 ∨ k = 32 ∨ k = 33 ∨ k = 34 ∨ k = 35 by omega) with rfl | rfl | rfl | rfl | rfl | rfl | rfl | rfl <;> rfl
    · funext j
      rw [take_o m 3 0 (by omega)]
      refine Eq.symm ?_
      repeat (first | refine (upm_k _ _ (by omega)).trans ?_ | refine (congrFun (upmR_k (by omega)) j).trans ?_)
      rfl
  · rcases (show j = 8 ∨ j = 9 ∨ j = 10 ∨ j = 11 ∨ j = 12 by
      have hl : j < 13 := (List.getElem?_eq_some_iff.mp hj).1
      rcases (show j = 0 ∨ j = 1 ∨ j = 2 ∨ j = 3 ∨ j = 4 ∨ j = 5 ∨ j = 6 ∨ j = 7 ∨ 8 ≤ j by omega) with rfl | rfl | rfl | rfl | rfl | rfl | rfl | rfl | h8
      all_goals first | omega | (cases hj; omega)) with rfl | rfl | rfl | rfl | rfl <;> rfl
set_option maxRecDepth 20000 in
set_option maxHeartbeats 40000000 in
theorem c_take03 (h01 : ∀ j, j < 8 → m 35 j = 0 ∨ m 35 j = 1) (hQ : Q none (H (takeM m 0 3) ln N)) : WP xs (d + 1) 31 0 0 [.ref (33), .ref (60)] (H m ln N) Q := by
  refine wp_x mx_31 (L := [some (.ref (33)), some (.ref (60))]) (Nat.le_of_ble_eq_true rfl) rfl ?_
  refine g_aload_n m31_0 rfl ?_
  refine h_gfR (c := 61) (k := 28) (p := 60) m31_1 rfl (t_28 _ _) rfl (Nat.le_of_ble_eq_true rfl) ?_
  refine g_iconst m31_4 ?_
  refine g_aload_n m31_5 rfl ?_
  refine h_gfR (c := 34) (k := 1) (p := 33) m31_6 rfl (t_1 _ _) rfl (Nat.le_of_ble_eq_true rfl) ?_
  refine g_iconst m31_9 ?_
  refine g_bipush m31_10 ?_
  refine h_acr (k1 := 29) (k2 := 2) (p := 61) (q := 34) (c := 8) m31_12 rfl rfl (t_29 _ _) (t_2 _ _) (Or.inl rfl) (Nat.le_of_ble_eq_true rfl) (fun q => absurd q (by decide)) (Nat.le_of_ble_eq_true rfl) ?_
  refine g_aload_n m31_15 rfl ?_
  refine h_gfR (c := 62) (k := 28) (p := 60) m31_16 rfl (t_28 _ _) rfl (Nat.le_of_ble_eq_true rfl) ?_
  refine g_iconst m31_19 ?_
  refine g_aload_n m31_20 rfl ?_
  refine h_gfR (c := 35) (k := 1) (p := 33) m31_21 rfl (t_1 _ _) rfl (Nat.le_of_ble_eq_true rfl) ?_
  refine g_iconst m31_24 ?_
  refine g_bipush m31_25 ?_
  refine h_acr (k1 := 30) (k2 := 3) (p := 62) (q := 35) (c := 8) m31_27 rfl rfl (t_30 _ _) (t_3 _ _) (Or.inl rfl) (Nat.le_of_ble_eq_true rfl) (fun q => absurd q (by decide)) (Nat.le_of_ble_eq_true rfl) ?_
  refine g_aload_n m31_30 rfl ?_
  refine h_gfR (c := 63) (k := 28) (p := 60) m31_31 rfl (t_28 _ _) rfl (Nat.le_of_ble_eq_true rfl) ?_
  refine g_iconst m31_34 ?_
  refine g_aload_n m31_35 rfl ?_
  refine h_gfR (c := 36) (k := 1) (p := 33) m31_36 rfl (t_1 _ _) rfl (Nat.le_of_ble_eq_true rfl) ?_
  refine g_iconst m31_39 ?_
  refine g_bipush m31_40 ?_
  refine h_acr (k1 := 31) (k2 := 4) (p := 63) (q := 36) (c := 8) m31_42 rfl rfl (t_31 _ _) (t_4 _ _) (Or.inl rfl) (Nat.le_of_ble_eq_true rfl) (fun q => absurd q (by decide)) (Nat.le_of_ble_eq_true rfl) ?_
  refine g_aload_n m31_45 rfl ?_
  refine h_gfR (c := 64) (k := 28) (p := 60) m31_46 rfl (t_28 _ _) rfl (Nat.le_of_ble_eq_true rfl) ?_
  refine g_iconst m31_49 ?_
  refine g_aload_n m31_50 rfl ?_
  refine h_gfR (c := 37) (k := 1) (p := 33) m31_51 rfl (t_1 _ _) rfl (Nat.le_of_ble_eq_true rfl) ?_
  refine g_iconst m31_54 ?_
  refine g_bipush m31_55 ?_
  refine h_acr (k1 := 32) (k2 := 5) (p := 64) (q := 37) (c := 8) m31_57 rfl rfl (t_32 _ _) (t_5 _ _) (Or.inl rfl) (Nat.le_of_ble_eq_true rfl) (fun q => absurd q (by decide)) (Nat.le_of_ble_eq_true rfl) ?_
  refine g_aload_n m31_60 rfl ?_
  refine h_gfR (c := 65) (k := 28) (p := 60) m31_61 rfl (t_28 _ _) rfl (Nat.le_of_ble_eq_true rfl) ?_
  refine g_iconst m31_64 ?_
  refine g_aload_n m31_65 rfl ?_
  refine h_gfR (c := 38) (k := 1) (p := 33) m31_66 rfl (t_1 _ _) rfl (Nat.le_of_ble_eq_true rfl) ?_
  refine g_iconst m31_69 ?_
  refine g_bipush m31_70 ?_
  refine h_acr (k1 := 33) (k2 := 6) (p := 65) (q := 38) (c := 8) m31_72 rfl rfl (t_33 _ _) (t_6 _ _) (Or.inl rfl) (Nat.le_of_ble_eq_true rfl) (fun q => absurd q (by decide)) (Nat.le_of_ble_eq_true rfl) ?_
  refine g_aload_n m31_75 rfl ?_
  refine h_gfR (c := 66) (k := 28) (p := 60) m31_76 rfl (t_28 _ _) rfl (Nat.le_of_ble_eq_true rfl) ?_
  refine g_iconst m31_79 ?_
  refine g_aload_n m31_80 rfl ?_
  refine h_gfR (c := 39) (k := 1) (p := 33) m31_81 rfl (t_1 _ _) rfl (Nat.le_of_ble_eq_true rfl) ?_
  refine g_iconst m31_84 ?_
  refine g_bipush m31_85 ?_
  refine h_acr (k1 := 34) (k2 := 7) (p := 66) (q := 39) (c := 8) m31_87 rfl rfl (t_34 _ _) (t_7 _ _) (Or.inl rfl) (Nat.le_of_ble_eq_true rfl) (fun q => absurd q (by decide)) (Nat.le_of_ble_eq_true rfl) ?_
  refine g_aload_n m31_90 rfl ?_
  refine h_gfR (c := 67) (k := 28) (p := 60) m31_91 rfl (t_28 _ _) rfl (Nat.le_of_ble_eq_true rfl) ?_
  refine g_iconst m31_94 ?_
  refine g_aload_n m31_95 rfl ?_
  refine h_gfR (c := 40) (k := 1) (p := 33) m31_96 rfl (t_1 _ _) rfl (Nat.le_of_ble_eq_true rfl) ?_
  refine g_iconst m31_99 ?_
  refine g_bipush m31_100 ?_
  refine h_acr (k1 := 35) (k2 := 8) (p := 67) (q := 40) (c := 8) m31_102 rfl rfl (t_35 _ _) (t_8 _ _) (Or.inr rfl) (Nat.le_of_ble_eq_true rfl) (fun _ j hj => h01 j hj) (Nat.le_of_ble_eq_true rfl) ?_
  refine g_aload_n m31_105 rfl ?_
  refine g_aload_n m31_106 rfl ?_
  refine h_gfI (k := 28) (p := 60) m31_107 rfl (t_28 _ _) rfl rfl ?_
  refine h_pfI (k := 1) (p := 33) m31_110 rfl (t_1 _ _) rfl trivial ?_
  refine g_aload_n m31_113 rfl ?_
  refine g_aload_n m31_114 rfl ?_
  refine h_gfI (k := 28) (p := 60) m31_115 rfl (t_28 _ _) rfl rfl ?_
  refine h_pfI (k := 1) (p := 33) m31_118 rfl (t_1 _ _) rfl trivial ?_
  refine g_aload_n m31_121 rfl ?_
  refine g_aload_n m31_122 rfl ?_
  refine h_gfI (k := 28) (p := 60) m31_123 rfl (t_28 _ _) rfl rfl ?_
  refine h_pfI (k := 1) (p := 33) m31_126 rfl (t_1 _ _) rfl trivial ?_
  refine g_aload_n m31_129 rfl ?_
  refine g_aload_n m31_130 rfl ?_
  refine h_gfL (k := 28) (p := 60) m31_131 rfl (t_28 _ _) rfl rfl ?_
  refine h_pfL (k := 1) (p := 33) m31_134 rfl (t_1 _ _) rfl rfl ?_
  refine g_aload_n m31_137 rfl ?_
  refine g_aload_n m31_138 rfl ?_
  refine h_gfL (k := 28) (p := 60) m31_139 rfl (t_28 _ _) rfl rfl ?_
  refine h_pfL (k := 1) (p := 33) m31_142 rfl (t_1 _ _) rfl rfl ?_
  refine g_vret m31_145 ?_
  rw [H_row (k := 1) (w := m 28) (t_1 _ _) (cel_o (fun j c hj hc => ?_))]
  · refine (congrArg (fun z => Q none (H z ln N)) (show takeM m 0 3 = _ from funext fun k => ?_)).mp hQ
    by_cases hk : 1 ≤ k ∧ k < 9
    · rcases (show k = 1 ∨ k = 2 ∨ k = 3 ∨ k = 4 ∨ k = 5 ∨ k = 6 ∨ k = 7 ∨ k = 8 by omega) with rfl | rfl | rfl | rfl | rfl | rfl | rfl | rfl <;> rfl
    · funext j
      rw [take_o m 0 3 (by omega)]
      refine Eq.symm ?_
      repeat (first | refine (upm_k _ _ (by omega)).trans ?_ | refine (congrFun (upmR_k (by omega)) j).trans ?_)
      rfl
  · rcases (show j = 8 ∨ j = 9 ∨ j = 10 ∨ j = 11 ∨ j = 12 by
      have hl : j < 13 := (List.getElem?_eq_some_iff.mp hj).1
      rcases (show j = 0 ∨ j = 1 ∨ j = 2 ∨ j = 3 ∨ j = 4 ∨ j = 5 ∨ j = 6 ∨ j = 7 ∨ 8 ≤ j by omega) with rfl | rfl | rfl | rfl | rfl | rfl | rfl | rfl | h8
      all_goals first | omega | (cases hj; omega)) with rfl | rfl | rfl | rfl | rfl <;> rfl
set_option maxRecDepth 20000 in
set_option maxHeartbeats 40000000 in
theorem c_dtake40 (hQ : Q none (H (deskM m 40 37) ln N)) : WP xs (d + 1) 11 0 0 [.ref (72), .ref (69)] (H m ln N) Q := by
  refine wp_x mx_11 (L := [some (.ref (72)), some (.ref (69))]) (Nat.le_of_ble_eq_true rfl) rfl ?_
  refine g_aload_n m11_0 rfl ?_
  refine g_aload_n m11_1 rfl ?_
  refine h_gfI (k := 37) (p := 69) m11_2 rfl (t_37 _ _) rfl rfl ?_
  refine h_pfI (k := 40) (p := 72) m11_5 rfl (t_40 _ _) rfl trivial ?_
  refine g_aload_n m11_8 rfl ?_
  refine h_gfR (c := 70) (k := 37) (p := 69) m11_9 rfl (t_37 _ _) rfl (Nat.le_of_ble_eq_true rfl) ?_
  refine g_iconst m11_12 ?_
  refine g_aload_n m11_13 rfl ?_
  refine h_gfR (c := 73) (k := 40) (p := 72) m11_14 rfl (t_40 _ _) rfl (Nat.le_of_ble_eq_true rfl) ?_
  refine g_iconst m11_17 ?_
  refine g_bipush m11_18 ?_
  refine h_acr (k1 := 38) (k2 := 41) (p := 70) (q := 73) (c := 50) m11_20 rfl rfl (t_38 _ _) (t_41 _ _) (Or.inl rfl) (Nat.le_of_ble_eq_true rfl) (fun q => absurd q (by decide)) (Nat.le_of_ble_eq_true rfl) ?_
  refine g_aload_n m11_23 rfl ?_
  refine g_aload_n m11_24 rfl ?_
  refine h_gfI (k := 37) (p := 69) m11_25 rfl (t_37 _ _) rfl rfl ?_
  refine h_pfI (k := 40) (p := 72) m11_28 rfl (t_40 _ _) rfl trivial ?_
  refine g_aload_n m11_31 rfl ?_
  refine h_gfR (c := 71) (k := 37) (p := 69) m11_32 rfl (t_37 _ _) rfl (Nat.le_of_ble_eq_true rfl) ?_
  refine g_iconst m11_35 ?_
  refine g_aload_n m11_36 rfl ?_
  refine h_gfR (c := 74) (k := 40) (p := 72) m11_37 rfl (t_40 _ _) rfl (Nat.le_of_ble_eq_true rfl) ?_
  refine g_iconst m11_40 ?_
  refine g_bipush m11_41 ?_
  refine h_acr (k1 := 39) (k2 := 42) (p := 71) (q := 74) (c := 20) m11_43 rfl rfl (t_39 _ _) (t_42 _ _) (Or.inl rfl) (Nat.le_of_ble_eq_true rfl) (fun q => absurd q (by decide)) (Nat.le_of_ble_eq_true rfl) ?_
  refine g_aload_n m11_46 rfl ?_
  refine g_aload_n m11_47 rfl ?_
  refine h_gfI (k := 37) (p := 69) m11_48 rfl (t_37 _ _) rfl rfl ?_
  refine h_pfI (k := 40) (p := 72) m11_51 rfl (t_40 _ _) rfl trivial ?_
  refine g_vret m11_54 ?_
  rw [H_row (k := 40) (w := m 37) (t_40 _ _) (cel_o (fun j c hj hc => ?_))]
  · refine (congrArg (fun z => Q none (H z ln N)) (show deskM m 40 37 = _ from funext fun k => ?_)).mp hQ
    by_cases hk : 40 ≤ k ∧ k < 43
    · rcases (show k = 40 ∨ k = 41 ∨ k = 42 by omega) with rfl | rfl | rfl <;> rfl
    · funext j
      rw [show deskM m 40 37 k = m k from if_neg hk]
      refine Eq.symm ?_
      repeat (first | refine (upm_k _ _ (by omega)).trans ?_ | refine (congrFun (upmR_k (by omega)) j).trans ?_)
      rfl
  · rcases (show j = 0 ∨ j = 2 ∨ j = 4 by
      have hl : j < 5 := (List.getElem?_eq_some_iff.mp hj).1
      rcases (show j = 0 ∨ j = 1 ∨ j = 2 ∨ j = 3 ∨ j = 4 by omega) with rfl | rfl | rfl | rfl | rfl
      all_goals first | omega | (cases hj; omega)) with rfl | rfl | rfl <;> rfl
set_option maxRecDepth 20000 in
set_option maxHeartbeats 40000000 in
theorem c_dtake37 (hQ : Q none (H (deskM m 37 40) ln N)) : WP xs (d + 1) 11 0 0 [.ref (69), .ref (72)] (H m ln N) Q := by
  refine wp_x mx_11 (L := [some (.ref (69)), some (.ref (72))]) (Nat.le_of_ble_eq_true rfl) rfl ?_
  refine g_aload_n m11_0 rfl ?_
  refine g_aload_n m11_1 rfl ?_
  refine h_gfI (k := 40) (p := 72) m11_2 rfl (t_40 _ _) rfl rfl ?_
  refine h_pfI (k := 37) (p := 69) m11_5 rfl (t_37 _ _) rfl trivial ?_
  refine g_aload_n m11_8 rfl ?_
  refine h_gfR (c := 73) (k := 40) (p := 72) m11_9 rfl (t_40 _ _) rfl (Nat.le_of_ble_eq_true rfl) ?_
  refine g_iconst m11_12 ?_
  refine g_aload_n m11_13 rfl ?_
  refine h_gfR (c := 70) (k := 37) (p := 69) m11_14 rfl (t_37 _ _) rfl (Nat.le_of_ble_eq_true rfl) ?_
  refine g_iconst m11_17 ?_
  refine g_bipush m11_18 ?_
  refine h_acr (k1 := 41) (k2 := 38) (p := 73) (q := 70) (c := 50) m11_20 rfl rfl (t_41 _ _) (t_38 _ _) (Or.inl rfl) (Nat.le_of_ble_eq_true rfl) (fun q => absurd q (by decide)) (Nat.le_of_ble_eq_true rfl) ?_
  refine g_aload_n m11_23 rfl ?_
  refine g_aload_n m11_24 rfl ?_
  refine h_gfI (k := 40) (p := 72) m11_25 rfl (t_40 _ _) rfl rfl ?_
  refine h_pfI (k := 37) (p := 69) m11_28 rfl (t_37 _ _) rfl trivial ?_
  refine g_aload_n m11_31 rfl ?_
  refine h_gfR (c := 74) (k := 40) (p := 72) m11_32 rfl (t_40 _ _) rfl (Nat.le_of_ble_eq_true rfl) ?_
  refine g_iconst m11_35 ?_
  refine g_aload_n m11_36 rfl ?_
  refine h_gfR (c := 71) (k := 37) (p := 69) m11_37 rfl (t_37 _ _) rfl (Nat.le_of_ble_eq_true rfl) ?_
  refine g_iconst m11_40 ?_
  refine g_bipush m11_41 ?_
  refine h_acr (k1 := 42) (k2 := 39) (p := 74) (q := 71) (c := 20) m11_43 rfl rfl (t_42 _ _) (t_39 _ _) (Or.inl rfl) (Nat.le_of_ble_eq_true rfl) (fun q => absurd q (by decide)) (Nat.le_of_ble_eq_true rfl) ?_
  refine g_aload_n m11_46 rfl ?_
  refine g_aload_n m11_47 rfl ?_
  refine h_gfI (k := 40) (p := 72) m11_48 rfl (t_40 _ _) rfl rfl ?_
  refine h_pfI (k := 37) (p := 69) m11_51 rfl (t_37 _ _) rfl trivial ?_
  refine g_vret m11_54 ?_
  rw [H_row (k := 37) (w := m 40) (t_37 _ _) (cel_o (fun j c hj hc => ?_))]
  · refine (congrArg (fun z => Q none (H z ln N)) (show deskM m 37 40 = _ from funext fun k => ?_)).mp hQ
    by_cases hk : 37 ≤ k ∧ k < 40
    · rcases (show k = 37 ∨ k = 38 ∨ k = 39 by omega) with rfl | rfl | rfl <;> rfl
    · funext j
      rw [show deskM m 37 40 k = m k from if_neg hk]
      refine Eq.symm ?_
      repeat (first | refine (upm_k _ _ (by omega)).trans ?_ | refine (congrFun (upmR_k (by omega)) j).trans ?_)
      rfl
  · rcases (show j = 0 ∨ j = 2 ∨ j = 4 by
      have hl : j < 5 := (List.getElem?_eq_some_iff.mp hj).1
      rcases (show j = 0 ∨ j = 1 ∨ j = 2 ∨ j = 3 ∨ j = 4 by omega) with rfl | rfl | rfl | rfl | rfl
      all_goals first | omega | (cases hj; omega)) with rfl | rfl | rfl <;> rfl
set_option maxRecDepth 20000 in
set_option maxHeartbeats 40000000 in
theorem c_moveRow {k1 k2 p1 p2 : Nat} (hp1 : 32 + k1 = p1) (hp2 : 32 + k2 = p2) (h1 : TmAt ln N k1 (.inl (0, 234))) (h2 : TmAt ln N k2 (.inl (0, 234))) (hne : k1 ≠ k2) (hQ : Q none (H (upmR m k2 (m k1)) ln N)) : WP xs (d + 1) 110 0 0 [.ref (89), .ref (p1), .ref (p2)] (H m ln N) Q := by
  refine wp_x mx_110 (L := [some (.ref (89)), some (.ref (p1)), some (.ref (p2)), none]) (Nat.le_of_ble_eq_true rfl) rfl ?_
  have key : ∀ (r : Nat) (q : Nat) (m2 : MW), q + r = 234 → (∀ k i, m2 k i = (if k = k2 ∧ i < q then m k1 i else m k i)) → gw xs (WP xs (d)) 110 Q 2 [some (.ref (89)), some (.ref (p1)), some (.ref (p2)), some (.int (nI (q)))] [] (H m2 ln N) 0 0 := by
    intro r
    induction r with
    | zero =>
      intro q m2 hq hm
      obtain rfl : q = 234 := by omega
      refine g_iload_n m110_2 rfl ?_
      refine g_sipush m110_3 ?_
      refine h_ic_geT (xi := ((234 : Nat) : Int)) (zi := 234) m110_6 (nI_toInt (by omega)) rfl (by omega) ?_
      refine g_vret m110_21 ?_
      have e : H m2 ln N = H (upmR m k2 (m k1)) ln N := by
        rw [H_row (w := m k1) h2 (cel_a (fun j hj => ?_))]
        · congr 1
          funext k i
          show (if k = k2 then m k1 else m2 k) i = (if k = k2 then m k1 else m k) i
          by_cases h : k = k2
          · rw [if_pos h, if_pos h]
          · rw [if_neg h, if_neg h, hm, if_neg (fun z => h z.1)]
        · rw [hm, if_pos ⟨rfl, hj⟩]
      rw [e]
      exact hQ
    | succ r ih =>
      intro q m2 hq hm
      have e1 : m2 k1 q = m k1 q := by rw [hm, if_neg (fun z => hne z.1)]
      refine g_iload_n m110_2 rfl ?_
      refine g_sipush m110_3 ?_
      refine h_ic_geF (xi := ((q : Nat) : Int)) (zi := 234) m110_6 (nI_toInt (by omega)) rfl (by omega) ?_
      refine g_aload_n m110_9 rfl ?_
      refine g_iload_n m110_10 rfl ?_
      refine g_aload_n m110_11 rfl ?_
      refine g_iload_n m110_12 rfl ?_
      refine h_ial (k := k1) (p := p1) (j := q) m110_13 hp1 h1 (rfl) (by omega) (Nat.le_of_ble_eq_true rfl) (e1) ?_
      refine h_ias (k := k2) (p := p2) (j := q) m110_14 hp2 h2 (rfl) (by omega) (Nat.le_of_ble_eq_true rfl) ?_
      refine g_iinc (L2 := [some (.ref (89)), some (.ref (p1)), some (.ref (p2)), some (.int (nI (q + 1)))]) m110_15 rfl (nI_1 _) rfl rfl ?_
      refine g_goto m110_18 ?_
      refine ih (q + 1) _ (by omega) (fun k i => ?_)
      unfold upm
      by_cases h : k = k2 ∧ i = q
      · rw [if_pos h, if_pos ⟨h.1, by omega⟩, h.2]
      · rw [if_neg h, hm]
        by_cases h3 : k = k2 ∧ i < q
        · rw [if_pos h3, if_pos ⟨h3.1, by omega⟩]
        · rw [if_neg h3, if_neg (fun z => (by omega : ¬ (k = k2 ∧ i < q + 1)) z)]
  refine g_iconst m110_0 ?_
  refine g_istore_n (L2 := [some (.ref (89)), some (.ref (p1)), some (.ref (p2)), some (.int (0))]) m110_1 rfl rfl ?_
  exact key 234 0 _ (by omega) (fun k i => (if_neg (by omega)).symm)
end
end
section
/-! PUBLIC METHODS: the plain ones -/
abbrev erm (m : MW) (e : Nat) : MW := upm m 56 e (m 56 e + 1)
abbrev ers (m : MW) (e : Nat) : MW := upm m 62 e (m 62 e + 1)
theorem md_2 {m : MW} {n : Nat} {x1 x2 x3 x4 x5 x6 : Int32} (h : m 58 2 = nI n) : (upm (upm (upm (upm (upm (upm m 58 (16 + 6 * n + 0) x1) 58 (16 + 6 * n + 1) x2) 58 (16 + 6 * n + 2) x3) 58 (16 + 6 * n + 3) x4) 58 (16 + 6 * n + 4) x5) 58 (16 + 6 * n + 5) x6) 58 2 = nI n := by
  rw [upm_j _ _ (by omega), upm_j _ _ (by omega), upm_j _ _ (by omega), upm_j _ _ (by omega), upm_j _ _ (by omega), upm_j _ _ (by omega), h]
section
variable {xs : List Int32} {d : Nat} {h : AH} {Q : QT} {m : MW} {ln : Nat → Nat} {N : Nat}
set_option maxRecDepth 20000 in
set_option maxHeartbeats 40000000 in
theorem x_fills {c v : Int32} (hE1 : (c.toInt < 0 ∨ 7 < c.toInt ∨ v.toInt < 0 ∨ 30 < v.toInt) → Q (some (.int (-1000000000 - nI 1))) (H (erm m 1) ln N)) (hY : ∀ i k : Nat, c = nI i → i < 8 → v = nI k → k ≤ 30 → Q (some (.int (m 2 (i)))) (H (upm m 2 (i) (nI k)) ln N)) : WP xs (d + 2) 56 0 0 [.ref (32), .int (c), .int (v)] (H m ln N) Q := by
  refine wp_x mx_56 (L := [some (.ref (32)), some (.int (c)), some (.int (v)), none]) (Nat.le_of_ble_eq_true rfl) rfl ?_
  refine g_iload_n m56_0 rfl ?_
  refine g_bipush m56_1 ?_
  refine g_cs (args := [.int (c), .int (7)]) (rest := []) 0 (Or.inl rfl) m56_3 (Nat.le_of_ble_eq_true rfl) rfl rfl (Nat.le_of_ble_eq_true rfl) ?_
  refine c_within (M := 7) rfl (fun jc ec a_1 => ?_) (fun a_1 => ?_)
  · subst ec
    refine gwr ?_
    refine h_if_eqF (xi := 1) (zi := 0) m56_6 rfl rfl (by decide) ?_
    refine g_iload_n m56_9 rfl ?_
    refine g_bipush m56_10 ?_
    refine g_cs (args := [.int (v), .int (30)]) (rest := []) 0 (Or.inl rfl) m56_12 (Nat.le_of_ble_eq_true rfl) rfl rfl (Nat.le_of_ble_eq_true rfl) ?_
    refine c_within (M := 30) rfl (fun jv ev a_2 => ?_) (fun a_2 => ?_)
    · subst ev
      refine gwr ?_
      refine h_if_neF (xi := 1) (zi := 0) m56_15 rfl rfl (by decide) ?_
      refine g_aload_n m56_24 rfl ?_
      refine h_gfR (c := 33) (k := 0) (p := 32) m56_25 rfl (t_0 _ _) rfl (Nat.le_of_ble_eq_true rfl) ?_
      refine h_gfR (c := 34) (k := 1) (p := 33) m56_28 rfl (t_1 _ _) rfl (Nat.le_of_ble_eq_true rfl) ?_
      refine g_iload_n m56_31 rfl ?_
      refine h_ial (k := 2) (p := 34) (j := jc) m56_32 rfl (t_2 _ _) (rfl) (by omega) (Nat.le_of_ble_eq_true rfl) (rfl) ?_
      refine g_istore_n (L2 := [some (.ref (32)), some (.int (nI (jc))), some (.int (nI (jv))), some (.int (m (2) (jc)))]) m56_33 rfl rfl ?_
      refine g_aload_n m56_34 rfl ?_
      refine h_gfR (c := 33) (k := 0) (p := 32) m56_35 rfl (t_0 _ _) rfl (Nat.le_of_ble_eq_true rfl) ?_
      refine h_gfR (c := 34) (k := 1) (p := 33) m56_38 rfl (t_1 _ _) rfl (Nat.le_of_ble_eq_true rfl) ?_
      refine g_iload_n m56_41 rfl ?_
      refine g_iload_n m56_42 rfl ?_
      refine h_ias (k := 2) (p := 34) (j := jc) m56_43 rfl (t_2 _ _) (rfl) (by omega) (Nat.le_of_ble_eq_true rfl) ?_
      refine g_iload_n m56_44 rfl ?_
      refine g_iret m56_45 rt_56 ?_
      exact hY jc jv rfl (by omega) rfl (by omega)
    · skip
      refine gwr ?_
      refine h_if_neT (xi := 0) (zi := 0) m56_15 rfl rfl (by decide) ?_
      refine g_aload_n m56_18 rfl ?_
      refine g_iconst m56_19 ?_
      refine h_cv (k := 0) (p := 32) (args := [.int (1)]) (rest := []) m56_20 cn_55 (Nat.le_of_ble_eq_true rfl) rfl rfl rfl (t_0 _ _) (Nat.le_of_ble_eq_true rfl) ?_
      refine c_error (e := 1) (by decide) (by decide) ?_
      refine gwr ?_
      refine g_iret m56_23 rt_56 ?_
      exact hE1 (by omega)
  · skip
    refine gwr ?_
    refine h_if_eqT (xi := 0) (zi := 0) m56_6 rfl rfl (by decide) ?_
    refine g_aload_n m56_18 rfl ?_
    refine g_iconst m56_19 ?_
    refine h_cv (k := 0) (p := 32) (args := [.int (1)]) (rest := []) m56_20 cn_55 (Nat.le_of_ble_eq_true rfl) rfl rfl rfl (t_0 _ _) (Nat.le_of_ble_eq_true rfl) ?_
    refine c_error (e := 1) (by decide) (by decide) ?_
    refine gwr ?_
    refine g_iret m56_23 rt_56 ?_
    exact hE1 (by omega)
set_option maxRecDepth 20000 in
set_option maxHeartbeats 40000000 in
theorem m_fills {c v : Int32} (hE1 : (c.toInt < 0 ∨ 7 < c.toInt ∨ v.toInt < 0 ∨ 30 < v.toInt) → Q (some (.int (-1000000001))) (H (ers m 1) ln N)) (hY : ∀ i k : Nat, c = nI i → i < 8 → v = nI k → k ≤ 30 → Q (some (.int (m 58 (8 + i)))) (H (upm m 58 (8 + i) (nI k)) ln N)) : WP xs (d + 2) 115 0 0 [.ref (89), .int (c), .int (v)] (H m ln N) Q := by
  refine wp_x mx_115 (L := [some (.ref (89)), some (.int (c)), some (.int (v))]) (Nat.le_of_ble_eq_true rfl) rfl ?_
  refine g_iload_n m115_0 rfl ?_
  refine g_iconst m115_1 ?_
  refine g_bipush m115_2 ?_
  refine g_cs (args := [.int (c), .int (0), .int (7)]) (rest := []) 0 (Or.inl rfl) m115_4 (Nat.le_of_ble_eq_true rfl) rfl rfl (Nat.le_of_ble_eq_true rfl) ?_
  refine c_in (A := 0) (B := 7) rfl rfl (by decide) (fun jc ec a_3 a_3' => ?_) (fun a_3 => ?_)
  · subst ec
    refine gwr ?_
    refine h_if_eqF (xi := 1) (zi := 0) m115_7 rfl rfl (by decide) ?_
    refine g_iload_n m115_10 rfl ?_
    refine g_iconst m115_11 ?_
    refine g_bipush m115_12 ?_
    refine g_cs (args := [.int (v), .int (0), .int (30)]) (rest := []) 0 (Or.inl rfl) m115_14 (Nat.le_of_ble_eq_true rfl) rfl rfl (Nat.le_of_ble_eq_true rfl) ?_
    refine c_in (A := 0) (B := 30) rfl rfl (by decide) (fun jv ev a_4 a_4' => ?_) (fun a_4 => ?_)
    · subst ev
      refine gwr ?_
      refine h_if_eqF (xi := 1) (zi := 0) m115_17 rfl rfl (by decide) ?_
      refine g_aload_n m115_20 rfl ?_
      refine g_bipush m115_21 ?_
      refine g_iload_n m115_23 rfl ?_
      refine g_iadd (u := nI (8 + jc)) m115_24 (nI_add 8 jc) ?_
      refine g_iload_n m115_25 rfl ?_
      refine h_cv (k := 57) (p := 89) (args := [.int (nI (8 + jc)), .int (nI (jv))]) (rest := []) m115_26 cn_114 (Nat.le_of_ble_eq_true rfl) rfl rfl rfl (t_57 _ _) (Nat.le_of_ble_eq_true rfl) ?_
      refine c_becomes (a := 8 + jc) (by omega) ?_
      refine gwr ?_
      refine g_goto m115_29 ?_
      refine g_iret m115_38 rt_115 ?_
      exact hY jc jv rfl (by omega) rfl (by omega)
    · skip
      refine gwr ?_
      refine h_if_eqT (xi := 0) (zi := 0) m115_17 rfl rfl (by decide) ?_
      refine g_aload_n m115_32 rfl ?_
      refine g_ldci m115_33 rfl ?_
      refine h_cv (k := 57) (p := 89) (args := [.int (-1000000001)]) (rest := []) m115_35 cn_108 (Nat.le_of_ble_eq_true rfl) rfl rfl rfl (t_57 _ _) (Nat.le_of_ble_eq_true rfl) ?_
      refine c_errs (e := 1) (by decide) (by decide) (by decide) ?_
      refine gwr ?_
      refine g_iret m115_38 rt_115 ?_
      exact hE1 (by omega)
  · skip
    refine gwr ?_
    refine h_if_eqT (xi := 0) (zi := 0) m115_7 rfl rfl (by decide) ?_
    refine g_aload_n m115_32 rfl ?_
    refine g_ldci m115_33 rfl ?_
    refine h_cv (k := 57) (p := 89) (args := [.int (-1000000001)]) (rest := []) m115_35 cn_108 (Nat.le_of_ble_eq_true rfl) rfl rfl rfl (t_57 _ _) (Nat.le_of_ble_eq_true rfl) ?_
    refine c_errs (e := 1) (by decide) (by decide) (by decide) ?_
    refine gwr ?_
    refine g_iret m115_38 rt_115 ?_
    exact hE1 (by omega)
set_option maxRecDepth 20000 in
set_option maxHeartbeats 40000000 in
theorem x_filling {c : Int32} (hE1 : (c.toInt < 0 ∨ 7 < c.toInt) → Q (some (.int (-1000000000 - nI 1))) (H (erm m 1) ln N)) (hY : ∀ i : Nat, c = nI i → i < 8 → Q (some (.int (m 2 (i)))) (H m ln N)) : WP xs (d + 2) 57 0 0 [.ref (32), .int (c)] (H m ln N) Q := by
  refine wp_x mx_57 (L := [some (.ref (32)), some (.int (c))]) (Nat.le_of_ble_eq_true rfl) rfl ?_
  refine g_iload_n m57_0 rfl ?_
  refine g_bipush m57_1 ?_
  refine g_cs (args := [.int (c), .int (7)]) (rest := []) 0 (Or.inl rfl) m57_3 (Nat.le_of_ble_eq_true rfl) rfl rfl (Nat.le_of_ble_eq_true rfl) ?_
  refine c_within (M := 7) rfl (fun jc ec a_5 => ?_) (fun a_5 => ?_)
  · subst ec
    refine gwr ?_
    refine h_if_neF (xi := 1) (zi := 0) m57_6 rfl rfl (by decide) ?_
    refine g_aload_n m57_15 rfl ?_
    refine h_gfR (c := 33) (k := 0) (p := 32) m57_16 rfl (t_0 _ _) rfl (Nat.le_of_ble_eq_true rfl) ?_
    refine h_gfR (c := 34) (k := 1) (p := 33) m57_19 rfl (t_1 _ _) rfl (Nat.le_of_ble_eq_true rfl) ?_
    refine g_iload_n m57_22 rfl ?_
    refine h_ial (k := 2) (p := 34) (j := jc) m57_23 rfl (t_2 _ _) (rfl) (by omega) (Nat.le_of_ble_eq_true rfl) (rfl) ?_
    refine g_iret m57_24 rt_57 ?_
    exact hY jc rfl (by omega)
  · skip
    refine gwr ?_
    refine h_if_neT (xi := 0) (zi := 0) m57_6 rfl rfl (by decide) ?_
    refine g_aload_n m57_9 rfl ?_
    refine g_iconst m57_10 ?_
    refine h_cv (k := 0) (p := 32) (args := [.int (1)]) (rest := []) m57_11 cn_55 (Nat.le_of_ble_eq_true rfl) rfl rfl rfl (t_0 _ _) (Nat.le_of_ble_eq_true rfl) ?_
    refine c_error (e := 1) (by decide) (by decide) ?_
    refine gwr ?_
    refine g_iret m57_14 rt_57 ?_
    exact hE1 (by omega)
set_option maxRecDepth 20000 in
set_option maxHeartbeats 40000000 in
theorem m_filling {c : Int32} (hE1 : (c.toInt < 0 ∨ 7 < c.toInt) → Q (some (.int (-1000000001))) (H (ers m 1) ln N)) (hY : ∀ i : Nat, c = nI i → i < 8 → Q (some (.int (m 58 (8 + i)))) (H m ln N)) : WP xs (d + 2) 116 0 0 [.ref (89), .int (c)] (H m ln N) Q := by
  refine wp_x mx_116 (L := [some (.ref (89)), some (.int (c))]) (Nat.le_of_ble_eq_true rfl) rfl ?_
  refine g_iload_n m116_0 rfl ?_
  refine g_iconst m116_1 ?_
  refine g_bipush m116_2 ?_
  refine g_cs (args := [.int (c), .int (0), .int (7)]) (rest := []) 0 (Or.inl rfl) m116_4 (Nat.le_of_ble_eq_true rfl) rfl rfl (Nat.le_of_ble_eq_true rfl) ?_
  refine c_in (A := 0) (B := 7) rfl rfl (by decide) (fun jc ec a_6 a_6' => ?_) (fun a_6 => ?_)
  · subst ec
    refine gwr ?_
    refine h_if_eqF (xi := 1) (zi := 0) m116_7 rfl rfl (by decide) ?_
    refine g_aload_n m116_10 rfl ?_
    refine h_gfR (c := 90) (k := 57) (p := 89) m116_11 rfl (t_57 _ _) rfl (Nat.le_of_ble_eq_true rfl) ?_
    refine g_bipush m116_14 ?_
    refine g_iload_n m116_16 rfl ?_
    refine g_iadd (u := nI (8 + jc)) m116_17 (nI_add 8 jc) ?_
    refine h_ial (k := 58) (p := 90) (j := 8 + jc) m116_18 rfl (t_58 _ _) (rfl) (by omega) (Nat.le_of_ble_eq_true rfl) (rfl) ?_
    refine g_goto m116_19 ?_
    refine g_iret m116_28 rt_116 ?_
    exact hY jc rfl (by omega)
  · skip
    refine gwr ?_
    refine h_if_eqT (xi := 0) (zi := 0) m116_7 rfl rfl (by decide) ?_
    refine g_aload_n m116_22 rfl ?_
    refine g_ldci m116_23 rfl ?_
    refine h_cv (k := 57) (p := 89) (args := [.int (-1000000001)]) (rest := []) m116_25 cn_108 (Nat.le_of_ble_eq_true rfl) rfl rfl rfl (t_57 _ _) (Nat.le_of_ble_eq_true rfl) ?_
    refine c_errs (e := 1) (by decide) (by decide) (by decide) ?_
    refine gwr ?_
    refine g_iret m116_28 rt_116 ?_
    exact hE1 (by omega)
set_option maxRecDepth 20000 in
set_option maxHeartbeats 40000000 in
theorem x_waiters {v : Int32} (hE1 : (v.toInt < 1 ∨ 4 < v.toInt) → Q (some (.int (-1000000000 - nI 1))) (H (erm m 1) ln N)) (hY : 1 ≤ v.toInt → v.toInt ≤ 4 → Q (some (.int (m 1 8))) (H (upm m 1 8 v) ln N)) : WP xs (d + 2) 58 0 0 [.ref (32), .int (v)] (H m ln N) Q := by
  refine wp_x mx_58 (L := [some (.ref (32)), some (.int (v)), none]) (Nat.le_of_ble_eq_true rfl) rfl ?_
  refine g_iload_n m58_0 rfl ?_
  refine g_iconst m58_1 ?_
  refine h_ic_lt (xi := v.toInt) (zi := 1) m58_2 rfl rfl (fun c1 => ?_) (fun c1 => ?_)
  · skip
    refine g_aload_n m58_10 rfl ?_
    refine g_iconst m58_11 ?_
    refine h_cv (k := 0) (p := 32) (args := [.int (1)]) (rest := []) m58_12 cn_55 (Nat.le_of_ble_eq_true rfl) rfl rfl rfl (t_0 _ _) (Nat.le_of_ble_eq_true rfl) ?_
    refine c_error (e := 1) (by decide) (by decide) ?_
    refine gwr ?_
    refine g_iret m58_15 rt_58 ?_
    exact hE1 (by omega)
  · skip
    refine g_iload_n m58_5 rfl ?_
    refine g_iconst m58_6 ?_
    refine h_ic_le (xi := v.toInt) (zi := 4) m58_7 rfl rfl (fun c2 => ?_) (fun c2 => ?_)
    · skip
      refine g_aload_n m58_16 rfl ?_
      refine h_gfR (c := 33) (k := 0) (p := 32) m58_17 rfl (t_0 _ _) rfl (Nat.le_of_ble_eq_true rfl) ?_
      refine h_gfI (k := 1) (p := 33) m58_20 rfl (t_1 _ _) rfl rfl ?_
      refine g_istore_n (L2 := [some (.ref (32)), some (.int (v)), some (.int (m (1) 8))]) m58_23 rfl rfl ?_
      refine g_aload_n m58_24 rfl ?_
      refine h_gfR (c := 33) (k := 0) (p := 32) m58_25 rfl (t_0 _ _) rfl (Nat.le_of_ble_eq_true rfl) ?_
      refine g_iload_n m58_28 rfl ?_
      refine h_pfI (k := 1) (p := 33) m58_29 rfl (t_1 _ _) rfl trivial ?_
      refine g_iload_n m58_32 rfl ?_
      refine g_iret m58_33 rt_58 ?_
      exact hY (by omega) (by omega)
    · skip
      refine g_aload_n m58_10 rfl ?_
      refine g_iconst m58_11 ?_
      refine h_cv (k := 0) (p := 32) (args := [.int (1)]) (rest := []) m58_12 cn_55 (Nat.le_of_ble_eq_true rfl) rfl rfl rfl (t_0 _ _) (Nat.le_of_ble_eq_true rfl) ?_
      refine c_error (e := 1) (by decide) (by decide) ?_
      refine gwr ?_
      refine g_iret m58_15 rt_58 ?_
      exact hE1 (by omega)
set_option maxRecDepth 20000 in
set_option maxHeartbeats 40000000 in
theorem m_waiters {v : Int32} (hE1 : (v.toInt < 1 ∨ 4 < v.toInt) → Q (some (.int (-1000000001))) (H (ers m 1) ln N)) (hY : ∀ k : Nat, v = nI k → 1 ≤ k → k ≤ 4 → Q (some (.int (m 58 7))) (H (upm m 58 7 (nI k)) ln N)) : WP xs (d + 2) 117 0 0 [.ref (89), .int (v)] (H m ln N) Q := by
  refine wp_x mx_117 (L := [some (.ref (89)), some (.int (v))]) (Nat.le_of_ble_eq_true rfl) rfl ?_
  refine g_iload_n m117_0 rfl ?_
  refine g_iconst m117_1 ?_
  refine g_iconst m117_2 ?_
  refine g_cs (args := [.int (v), .int (1), .int (4)]) (rest := []) 0 (Or.inl rfl) m117_3 (Nat.le_of_ble_eq_true rfl) rfl rfl (Nat.le_of_ble_eq_true rfl) ?_
  refine c_in (A := 1) (B := 4) rfl rfl (by decide) (fun jv ev a_7 a_7' => ?_) (fun a_7 => ?_)
  · subst ev
    refine gwr ?_
    refine h_if_eqF (xi := 1) (zi := 0) m117_6 rfl rfl (by decide) ?_
    refine g_aload_n m117_9 rfl ?_
    refine g_bipush m117_10 ?_
    refine g_iload_n m117_12 rfl ?_
    refine h_cv (k := 57) (p := 89) (args := [.int (7), .int (nI (jv))]) (rest := []) m117_13 cn_114 (Nat.le_of_ble_eq_true rfl) rfl rfl rfl (t_57 _ _) (Nat.le_of_ble_eq_true rfl) ?_
    refine c_becomes (a := 7) (by omega) ?_
    refine gwr ?_
    refine g_goto m117_16 ?_
    refine g_iret m117_25 rt_117 ?_
    exact hY jv rfl (by omega) (by omega)
  · skip
    refine gwr ?_
    refine h_if_eqT (xi := 0) (zi := 0) m117_6 rfl rfl (by decide) ?_
    refine g_aload_n m117_19 rfl ?_
    refine g_ldci m117_20 rfl ?_
    refine h_cv (k := 57) (p := 89) (args := [.int (-1000000001)]) (rest := []) m117_22 cn_108 (Nat.le_of_ble_eq_true rfl) rfl rfl rfl (t_57 _ _) (Nat.le_of_ble_eq_true rfl) ?_
    refine c_errs (e := 1) (by decide) (by decide) (by decide) ?_
    refine gwr ?_
    refine g_iret m117_25 rt_117 ?_
    exact hE1 (by omega)
set_option maxRecDepth 20000 in
set_option maxHeartbeats 40000000 in
theorem x_diner {a b c : Int32} {n : Nat} (hd : m 1 10 = nI n) (hn : n ≤ 8) (hE1 : (a.toInt < 0 ∨ 69 < a.toInt ∨ b.toInt < 0 ∨ 99 < b.toInt ∨ c.toInt < 0 ∨ 9 < c.toInt) → Q (some (.int (-1000000000 - nI 1))) (H (erm m 1) ln N)) (hE4 : (n = 8) → Q (some (.int (-1000000000 - nI 4))) (H (erm m 4) ln N)) (hY : ∀ i k l : Nat, a = nI i → i ≤ 69 → b = nI k → k ≤ 99 → c = nI l → l ≤ 9 → n < 8 → Q (some (.int (nI n))) (H (upm (upm (upm (upm (upm (upm (upm m 3 n (nI (i / 10))) 4 n (nI (i % 10))) 5 n (nI k)) 6 n (nI l)) 7 n 0) 8 n 0) 1 10 (nI (n + 1))) ln N)) : WP xs (d + 2) 59 0 0 [.ref (32), .int (a), .int (b), .int (c)] (H m ln N) Q := by
  refine wp_x mx_59 (L := [some (.ref (32)), some (.int (a)), some (.int (b)), some (.int (c)), none]) (Nat.le_of_ble_eq_true rfl) rfl ?_
  refine g_iload_n m59_0 rfl ?_
  refine g_bipush m59_1 ?_
  refine g_cs (args := [.int (a), .int (69)]) (rest := []) 0 (Or.inl rfl) m59_3 (Nat.le_of_ble_eq_true rfl) rfl rfl (Nat.le_of_ble_eq_true rfl) ?_
  refine c_within (M := 69) rfl (fun ja ea a_8 => ?_) (fun a_8 => ?_)
  · subst ea
    refine gwr ?_
    refine h_if_eqF (xi := 1) (zi := 0) m59_6 rfl rfl (by decide) ?_
    refine g_iload_n m59_9 rfl ?_
    refine g_bipush m59_10 ?_
    refine g_cs (args := [.int (b), .int (99)]) (rest := []) 0 (Or.inl rfl) m59_12 (Nat.le_of_ble_eq_true rfl) rfl rfl (Nat.le_of_ble_eq_true rfl) ?_
    refine c_within (M := 99) rfl (fun jb eb a_9 => ?_) (fun a_9 => ?_)
    · subst eb
      refine gwr ?_
      refine h_if_eqF (xi := 1) (zi := 0) m59_15 rfl rfl (by decide) ?_
      refine g_iload_n m59_18 rfl ?_
      refine g_bipush m59_19 ?_
      refine g_cs (args := [.int (c), .int (9)]) (rest := []) 0 (Or.inl rfl) m59_21 (Nat.le_of_ble_eq_true rfl) rfl rfl (Nat.le_of_ble_eq_true rfl) ?_
      refine c_within (M := 9) rfl (fun jc ec a_10 => ?_) (fun a_10 => ?_)
      · subst ec
        refine gwr ?_
        refine h_if_neF (xi := 1) (zi := 0) m59_24 rfl rfl (by decide) ?_
        refine g_aload_n m59_33 rfl ?_
        refine h_gfR (c := 33) (k := 0) (p := 32) m59_34 rfl (t_0 _ _) rfl (Nat.le_of_ble_eq_true rfl) ?_
        refine h_gfI (k := 1) (p := 33) m59_37 rfl (t_1 _ _) rfl (hd) ?_
        refine g_bipush m59_40 ?_
        refine h_ic_lt (xi := ((n : Nat) : Int)) (zi := 8) m59_42 (nI_toInt (by omega)) rfl (fun c1 => ?_) (fun c1 => ?_)
        · skip
          refine g_aload_n m59_51 rfl ?_
          refine h_gfR (c := 33) (k := 0) (p := 32) m59_52 rfl (t_0 _ _) rfl (Nat.le_of_ble_eq_true rfl) ?_
          refine h_gfI (k := 1) (p := 33) m59_55 rfl (t_1 _ _) rfl (hd) ?_
          refine g_istore (L2 := [some (.ref (32)), some (.int (nI (ja))), some (.int (nI (jb))), some (.int (nI (jc))), some (.int (nI (n)))]) m59_58 rfl rfl ?_
          refine g_aload_n m59_60 rfl ?_
          refine h_gfR (c := 33) (k := 0) (p := 32) m59_61 rfl (t_0 _ _) rfl (Nat.le_of_ble_eq_true rfl) ?_
          refine h_gfR (c := 35) (k := 1) (p := 33) m59_64 rfl (t_1 _ _) rfl (Nat.le_of_ble_eq_true rfl) ?_
          refine g_iload m59_67 rfl ?_
          refine g_iload_n m59_69 rfl ?_
          refine g_bipush m59_70 ?_
          refine g_idiv (u := nI (ja / 10)) m59_72 (by decide) (pk_div (a := ja) (d := 10) (by omega) (by decide) (by decide)) ?_
          refine h_ias (k := 3) (p := 35) (j := n) m59_73 rfl (t_3 _ _) (rfl) (by omega) (Nat.le_of_ble_eq_true rfl) ?_
          refine g_aload_n m59_74 rfl ?_
          refine h_gfR (c := 33) (k := 0) (p := 32) m59_75 rfl (t_0 _ _) rfl (Nat.le_of_ble_eq_true rfl) ?_
          refine h_gfR (c := 36) (k := 1) (p := 33) m59_78 rfl (t_1 _ _) rfl (Nat.le_of_ble_eq_true rfl) ?_
          refine g_iload m59_81 rfl ?_
          refine g_iload_n m59_83 rfl ?_
          refine g_bipush m59_84 ?_
          refine g_irem (u := nI (ja % 10)) m59_86 (by decide) (pk_rem (a := ja) (d := 10) (by omega) (by decide) (by decide)) ?_
          refine h_ias (k := 4) (p := 36) (j := n) m59_87 rfl (t_4 _ _) (rfl) (by omega) (Nat.le_of_ble_eq_true rfl) ?_
          refine g_aload_n m59_88 rfl ?_
          refine h_gfR (c := 33) (k := 0) (p := 32) m59_89 rfl (t_0 _ _) rfl (Nat.le_of_ble_eq_true rfl) ?_
          refine h_gfR (c := 37) (k := 1) (p := 33) m59_92 rfl (t_1 _ _) rfl (Nat.le_of_ble_eq_true rfl) ?_
          refine g_iload m59_95 rfl ?_
          refine g_iload_n m59_97 rfl ?_
          refine h_ias (k := 5) (p := 37) (j := n) m59_98 rfl (t_5 _ _) (rfl) (by omega) (Nat.le_of_ble_eq_true rfl) ?_
          refine g_aload_n m59_99 rfl ?_
          refine h_gfR (c := 33) (k := 0) (p := 32) m59_100 rfl (t_0 _ _) rfl (Nat.le_of_ble_eq_true rfl) ?_
          refine h_gfR (c := 38) (k := 1) (p := 33) m59_103 rfl (t_1 _ _) rfl (Nat.le_of_ble_eq_true rfl) ?_
          refine g_iload m59_106 rfl ?_
          refine g_iload_n m59_108 rfl ?_
          refine h_ias (k := 6) (p := 38) (j := n) m59_109 rfl (t_6 _ _) (rfl) (by omega) (Nat.le_of_ble_eq_true rfl) ?_
          refine g_aload_n m59_110 rfl ?_
          refine h_gfR (c := 33) (k := 0) (p := 32) m59_111 rfl (t_0 _ _) rfl (Nat.le_of_ble_eq_true rfl) ?_
          refine h_gfR (c := 39) (k := 1) (p := 33) m59_114 rfl (t_1 _ _) rfl (Nat.le_of_ble_eq_true rfl) ?_
          refine g_iload m59_117 rfl ?_
          refine g_iconst m59_119 ?_
          refine h_ias (k := 7) (p := 39) (j := n) m59_120 rfl (t_7 _ _) (rfl) (by omega) (Nat.le_of_ble_eq_true rfl) ?_
          refine g_aload_n m59_121 rfl ?_
          refine h_gfR (c := 33) (k := 0) (p := 32) m59_122 rfl (t_0 _ _) rfl (Nat.le_of_ble_eq_true rfl) ?_
          refine h_gfR (c := 40) (k := 1) (p := 33) m59_125 rfl (t_1 _ _) rfl (Nat.le_of_ble_eq_true rfl) ?_
          refine g_iload m59_128 rfl ?_
          refine g_iconst m59_130 ?_
          refine h_bas (k := 8) (p := 40) (j := n) m59_131 rfl (t_8 _ _) (rfl) (by omega) (Nat.le_of_ble_eq_true rfl) (Or.inl rfl) ?_
          refine g_aload_n m59_132 rfl ?_
          refine h_gfR (c := 33) (k := 0) (p := 32) m59_133 rfl (t_0 _ _) rfl (Nat.le_of_ble_eq_true rfl) ?_
          refine g_iload m59_136 rfl ?_
          refine g_iconst m59_138 ?_
          refine g_iadd (u := nI (n + 1)) m59_139 (nI_add n 1) ?_
          refine h_pfI (k := 1) (p := 33) m59_140 rfl (t_1 _ _) rfl trivial ?_
          refine g_iload m59_143 rfl ?_
          refine g_iret m59_145 rt_59 ?_
          exact hY ja jb jc rfl (by omega) rfl (by omega) rfl (by omega) (by omega)
        · skip
          refine g_aload_n m59_45 rfl ?_
          refine g_iconst m59_46 ?_
          refine h_cv (k := 0) (p := 32) (args := [.int (4)]) (rest := []) m59_47 cn_55 (Nat.le_of_ble_eq_true rfl) rfl rfl rfl (t_0 _ _) (Nat.le_of_ble_eq_true rfl) ?_
          refine c_error (e := 4) (by decide) (by decide) ?_
          refine gwr ?_
          refine g_iret m59_50 rt_59 ?_
          exact hE4 (by omega)
      · skip
        refine gwr ?_
        refine h_if_neT (xi := 0) (zi := 0) m59_24 rfl rfl (by decide) ?_
        refine g_aload_n m59_27 rfl ?_
        refine g_iconst m59_28 ?_
        refine h_cv (k := 0) (p := 32) (args := [.int (1)]) (rest := []) m59_29 cn_55 (Nat.le_of_ble_eq_true rfl) rfl rfl rfl (t_0 _ _) (Nat.le_of_ble_eq_true rfl) ?_
        refine c_error (e := 1) (by decide) (by decide) ?_
        refine gwr ?_
        refine g_iret m59_32 rt_59 ?_
        exact hE1 (by omega)
    · skip
      refine gwr ?_
      refine h_if_eqT (xi := 0) (zi := 0) m59_15 rfl rfl (by decide) ?_
      refine g_aload_n m59_27 rfl ?_
      refine g_iconst m59_28 ?_
      refine h_cv (k := 0) (p := 32) (args := [.int (1)]) (rest := []) m59_29 cn_55 (Nat.le_of_ble_eq_true rfl) rfl rfl rfl (t_0 _ _) (Nat.le_of_ble_eq_true rfl) ?_
      refine c_error (e := 1) (by decide) (by decide) ?_
      refine gwr ?_
      refine g_iret m59_32 rt_59 ?_
      exact hE1 (by omega)
  · skip
    refine gwr ?_
    refine h_if_eqT (xi := 0) (zi := 0) m59_6 rfl rfl (by decide) ?_
    refine g_aload_n m59_27 rfl ?_
    refine g_iconst m59_28 ?_
    refine h_cv (k := 0) (p := 32) (args := [.int (1)]) (rest := []) m59_29 cn_55 (Nat.le_of_ble_eq_true rfl) rfl rfl rfl (t_0 _ _) (Nat.le_of_ble_eq_true rfl) ?_
    refine c_error (e := 1) (by decide) (by decide) ?_
    refine gwr ?_
    refine g_iret m59_32 rt_59 ?_
    exact hE1 (by omega)
set_option maxRecDepth 20000 in
set_option maxHeartbeats 40000000 in
theorem m_diner {a b c : Int32} {n : Nat} (hd : m 58 2 = nI n) (hn : n ≤ 8) (hE1 : (a.toInt < 0 ∨ 69 < a.toInt ∨ b.toInt < 0 ∨ 99 < b.toInt ∨ c.toInt < 0 ∨ 9 < c.toInt) → Q (some (.int (-1000000001))) (H (ers m 1) ln N)) (hE4 : (n = 8) → Q (some (.int (-1000000004))) (H (ers m 4) ln N)) (hY : ∀ i k l : Nat, a = nI i → i ≤ 69 → b = nI k → k ≤ 99 → c = nI l → l ≤ 9 → n < 8 → Q (some (.int (nI n))) (H (upm (upm (upm (upm (upm (upm (upm m 58 (16 + 6 * n + 0) (nI (i / 10))) 58 (16 + 6 * n + 1) (nI (i % 10))) 58 (16 + 6 * n + 2) (nI k)) 58 (16 + 6 * n + 3) (nI l)) 58 (16 + 6 * n + 4) 0) 58 (16 + 6 * n + 5) 0) 58 2 (nI (n + 1))) ln N)) : WP xs (d + 2) 118 0 0 [.ref (89), .int (a), .int (b), .int (c)] (H m ln N) Q := by
  refine wp_x mx_118 (L := [some (.ref (89)), some (.int (a)), some (.int (b)), some (.int (c)), none]) (Nat.le_of_ble_eq_true rfl) rfl ?_
  refine g_iload_n m118_0 rfl ?_
  refine g_iconst m118_1 ?_
  refine g_bipush m118_2 ?_
  refine g_cs (args := [.int (a), .int (0), .int (69)]) (rest := []) 0 (Or.inl rfl) m118_4 (Nat.le_of_ble_eq_true rfl) rfl rfl (Nat.le_of_ble_eq_true rfl) ?_
  refine c_in (A := 0) (B := 69) rfl rfl (by decide) (fun ja ea a_11 a_11' => ?_) (fun a_11 => ?_)
  · subst ea
    refine gwr ?_
    refine h_if_eqF (xi := 1) (zi := 0) m118_7 rfl rfl (by decide) ?_
    refine g_iload_n m118_10 rfl ?_
    refine g_iconst m118_11 ?_
    refine g_bipush m118_12 ?_
    refine g_cs (args := [.int (b), .int (0), .int (99)]) (rest := []) 0 (Or.inl rfl) m118_14 (Nat.le_of_ble_eq_true rfl) rfl rfl (Nat.le_of_ble_eq_true rfl) ?_
    refine c_in (A := 0) (B := 99) rfl rfl (by decide) (fun jb eb a_12 a_12' => ?_) (fun a_12 => ?_)
    · subst eb
      refine gwr ?_
      refine h_if_eqF (xi := 1) (zi := 0) m118_17 rfl rfl (by decide) ?_
      refine g_iload_n m118_20 rfl ?_
      refine g_iconst m118_21 ?_
      refine g_bipush m118_22 ?_
      refine g_cs (args := [.int (c), .int (0), .int (9)]) (rest := []) 0 (Or.inl rfl) m118_24 (Nat.le_of_ble_eq_true rfl) rfl rfl (Nat.le_of_ble_eq_true rfl) ?_
      refine c_in (A := 0) (B := 9) rfl rfl (by decide) (fun jc ec a_13 a_13' => ?_) (fun a_13 => ?_)
      · subst ec
        refine gwr ?_
        refine h_if_neF (xi := 1) (zi := 0) m118_27 rfl rfl (by decide) ?_
        refine g_aload_n m118_37 rfl ?_
        refine h_gfR (c := 90) (k := 57) (p := 89) m118_38 rfl (t_57 _ _) rfl (Nat.le_of_ble_eq_true rfl) ?_
        refine g_iconst m118_41 ?_
        refine h_ial (k := 58) (p := 90) (j := 2) m118_42 rfl (t_58 _ _) (rfl) (by omega) (Nat.le_of_ble_eq_true rfl) (hd) ?_
        refine g_bipush m118_43 ?_
        refine h_ic_ne (xi := ((n : Nat) : Int)) (zi := 8) m118_45 (nI_toInt (by omega)) rfl (fun c1 => ?_) (fun c1 => ?_)
        · skip
          refine g_aload_n m118_48 rfl ?_
          refine g_ldci m118_49 rfl ?_
          refine h_cv (k := 57) (p := 89) (args := [.int (-1000000004)]) (rest := []) m118_51 cn_108 (Nat.le_of_ble_eq_true rfl) rfl rfl rfl (t_57 _ _) (Nat.le_of_ble_eq_true rfl) ?_
          refine c_errs (e := 4) (by decide) (by decide) (by decide) ?_
          refine gwr ?_
          refine g_iret m118_54 rt_118 ?_
          exact hE4 (by omega)
        · skip
          refine g_aload_n m118_55 rfl ?_
          refine h_gfR (c := 90) (k := 57) (p := 89) m118_56 rfl (t_57 _ _) rfl (Nat.le_of_ble_eq_true rfl) ?_
          refine g_iconst m118_59 ?_
          refine h_ial (k := 58) (p := 90) (j := 2) m118_60 rfl (t_58 _ _) (rfl) (by omega) (Nat.le_of_ble_eq_true rfl) (hd) ?_
          refine g_istore (L2 := [some (.ref (89)), some (.int (nI (ja))), some (.int (nI (jb))), some (.int (nI (jc))), some (.int (nI (n)))]) m118_61 rfl rfl ?_
          refine g_aload_n m118_63 rfl ?_
          refine g_iload m118_64 rfl ?_
          refine g_iconst m118_66 ?_
          refine g_iload_n m118_67 rfl ?_
          refine g_bipush m118_68 ?_
          refine g_idiv (u := nI (ja / 10)) m118_70 (by decide) (pk_div (a := ja) (d := 10) (by omega) (by decide) (by decide)) ?_
          refine h_cv (k := 57) (p := 89) (args := [.int (nI (n)), .int (0), .int (nI (ja / 10))]) (rest := []) m118_71 cn_112 (Nat.le_of_ble_eq_true rfl) rfl rfl rfl (t_57 _ _) (Nat.le_of_ble_eq_true rfl) ?_
          refine c_gets (w := 0) (by omega) (by decide) ?_
          refine gwr0 ?_
          refine g_aload_n m118_74 rfl ?_
          refine g_iload m118_75 rfl ?_
          refine g_iconst m118_77 ?_
          refine g_iload_n m118_78 rfl ?_
          refine g_bipush m118_79 ?_
          refine g_irem (u := nI (ja % 10)) m118_81 (by decide) (pk_rem (a := ja) (d := 10) (by omega) (by decide) (by decide)) ?_
          refine h_cv (k := 57) (p := 89) (args := [.int (nI (n)), .int (1), .int (nI (ja % 10))]) (rest := []) m118_82 cn_112 (Nat.le_of_ble_eq_true rfl) rfl rfl rfl (t_57 _ _) (Nat.le_of_ble_eq_true rfl) ?_
          refine c_gets (w := 1) (by omega) (by decide) ?_
          refine gwr0 ?_
          refine g_aload_n m118_85 rfl ?_
          refine g_iload m118_86 rfl ?_
          refine g_iconst m118_88 ?_
          refine g_iload_n m118_89 rfl ?_
          refine h_cv (k := 57) (p := 89) (args := [.int (nI (n)), .int (2), .int (nI (jb))]) (rest := []) m118_90 cn_112 (Nat.le_of_ble_eq_true rfl) rfl rfl rfl (t_57 _ _) (Nat.le_of_ble_eq_true rfl) ?_
          refine c_gets (w := 2) (by omega) (by decide) ?_
          refine gwr0 ?_
          refine g_aload_n m118_93 rfl ?_
          refine g_iload m118_94 rfl ?_
          refine g_iconst m118_96 ?_
          refine g_iload_n m118_97 rfl ?_
          refine h_cv (k := 57) (p := 89) (args := [.int (nI (n)), .int (3), .int (nI (jc))]) (rest := []) m118_98 cn_112 (Nat.le_of_ble_eq_true rfl) rfl rfl rfl (t_57 _ _) (Nat.le_of_ble_eq_true rfl) ?_
          refine c_gets (w := 3) (by omega) (by decide) ?_
          refine gwr0 ?_
          refine g_aload_n m118_101 rfl ?_
          refine g_iload m118_102 rfl ?_
          refine g_iconst m118_104 ?_
          refine g_iconst m118_105 ?_
          refine h_cv (k := 57) (p := 89) (args := [.int (nI (n)), .int (4), .int (0)]) (rest := []) m118_106 cn_112 (Nat.le_of_ble_eq_true rfl) rfl rfl rfl (t_57 _ _) (Nat.le_of_ble_eq_true rfl) ?_
          refine c_gets (w := 4) (by omega) (by decide) ?_
          refine gwr0 ?_
          refine g_aload_n m118_109 rfl ?_
          refine g_iload m118_110 rfl ?_
          refine g_iconst m118_112 ?_
          refine g_iconst m118_113 ?_
          refine h_cv (k := 57) (p := 89) (args := [.int (nI (n)), .int (5), .int (0)]) (rest := []) m118_114 cn_112 (Nat.le_of_ble_eq_true rfl) rfl rfl rfl (t_57 _ _) (Nat.le_of_ble_eq_true rfl) ?_
          refine c_gets (w := 5) (by omega) (by decide) ?_
          refine gwr0 ?_
          refine g_aload_n m118_117 rfl ?_
          refine h_gfR (c := 90) (k := 57) (p := 89) m118_118 rfl (t_57 _ _) rfl (Nat.le_of_ble_eq_true rfl) ?_
          refine g_iconst m118_121 ?_
          refine g_dup2 m118_122 rfl rfl ?_
          refine h_ial (k := 58) (p := 90) (j := 2) m118_123 rfl (t_58 _ _) (rfl) (by omega) (Nat.le_of_ble_eq_true rfl) (md_2 hd) ?_
          refine g_iconst m118_124 ?_
          refine g_iadd (u := nI (n + 1)) m118_125 (nI_add n 1) ?_
          refine h_ias (k := 58) (p := 90) (j := 2) m118_126 rfl (t_58 _ _) (rfl) (by omega) (Nat.le_of_ble_eq_true rfl) ?_
          refine g_iload m118_127 rfl ?_
          refine g_iret m118_129 rt_118 ?_
          exact hY ja jb jc rfl (by omega) rfl (by omega) rfl (by omega) (by omega)
      · skip
        refine gwr ?_
        refine h_if_neT (xi := 0) (zi := 0) m118_27 rfl rfl (by decide) ?_
        refine g_aload_n m118_30 rfl ?_
        refine g_ldci m118_31 rfl ?_
        refine h_cv (k := 57) (p := 89) (args := [.int (-1000000001)]) (rest := []) m118_33 cn_108 (Nat.le_of_ble_eq_true rfl) rfl rfl rfl (t_57 _ _) (Nat.le_of_ble_eq_true rfl) ?_
        refine c_errs (e := 1) (by decide) (by decide) (by decide) ?_
        refine gwr ?_
        refine g_iret m118_36 rt_118 ?_
        exact hE1 (by omega)
    · skip
      refine gwr ?_
      refine h_if_eqT (xi := 0) (zi := 0) m118_17 rfl rfl (by decide) ?_
      refine g_aload_n m118_30 rfl ?_
      refine g_ldci m118_31 rfl ?_
      refine h_cv (k := 57) (p := 89) (args := [.int (-1000000001)]) (rest := []) m118_33 cn_108 (Nat.le_of_ble_eq_true rfl) rfl rfl rfl (t_57 _ _) (Nat.le_of_ble_eq_true rfl) ?_
      refine c_errs (e := 1) (by decide) (by decide) (by decide) ?_
      refine gwr ?_
      refine g_iret m118_36 rt_118 ?_
      exact hE1 (by omega)
  · skip
    refine gwr ?_
    refine h_if_eqT (xi := 0) (zi := 0) m118_7 rfl rfl (by decide) ?_
    refine g_aload_n m118_30 rfl ?_
    refine g_ldci m118_31 rfl ?_
    refine h_cv (k := 57) (p := 89) (args := [.int (-1000000001)]) (rest := []) m118_33 cn_108 (Nat.le_of_ble_eq_true rfl) rfl rfl rfl (t_57 _ _) (Nat.le_of_ble_eq_true rfl) ?_
    refine c_errs (e := 1) (by decide) (by decide) (by decide) ?_
    refine gwr ?_
    refine g_iret m118_36 rt_118 ?_
    exact hE1 (by omega)
set_option maxRecDepth 20000 in
set_option maxHeartbeats 40000000 in
theorem x_become {a b : Int32} {n : Nat} (hd : m 1 10 = nI n) (hn : n ≤ 8) (hE1 : (a.toInt < 0 ∨ (n : Int) ≤ a.toInt ∨ b.toInt < 0 ∨ 69 < b.toInt) → Q (some (.int (-1000000000 - nI 1))) (H (erm m 1) ln N)) (hY : ∀ i k : Nat, a = nI i → i < n → b = nI k → k ≤ 69 → Q (some (.int (m 3 i))) (H (upm (upm m 3 i (nI (k / 10))) 4 i (nI (k % 10))) ln N)) : WP xs (d + 2) 64 0 0 [.ref (32), .int (a), .int (b)] (H m ln N) Q := by
  refine wp_x mx_64 (L := [some (.ref (32)), some (.int (a)), some (.int (b)), none]) (Nat.le_of_ble_eq_true rfl) rfl ?_
  refine g_aload_n m64_0 rfl ?_
  refine g_iload_n m64_1 rfl ?_
  refine h_cv (k := 0) (p := 32) (args := [.int (a)]) (rest := []) m64_2 cn_60 (Nat.le_of_ble_eq_true rfl) rfl rfl rfl (t_0 _ _) (Nat.le_of_ble_eq_true rfl) ?_
  refine c_isDiner hd hn (fun ja ea a_14 => ?_) (fun a_14 => ?_)
  · subst ea
    refine gwr ?_
    refine h_if_eqF (xi := 1) (zi := 0) m64_5 rfl rfl (by decide) ?_
    refine g_iload_n m64_8 rfl ?_
    refine g_bipush m64_9 ?_
    refine g_cs (args := [.int (b), .int (69)]) (rest := []) 0 (Or.inl rfl) m64_11 (Nat.le_of_ble_eq_true rfl) rfl rfl (Nat.le_of_ble_eq_true rfl) ?_
    refine c_within (M := 69) rfl (fun jb eb a_15 => ?_) (fun a_15 => ?_)
    · subst eb
      refine gwr ?_
      refine h_if_neF (xi := 1) (zi := 0) m64_14 rfl rfl (by decide) ?_
      refine g_aload_n m64_23 rfl ?_
      refine h_gfR (c := 33) (k := 0) (p := 32) m64_24 rfl (t_0 _ _) rfl (Nat.le_of_ble_eq_true rfl) ?_
      refine h_gfR (c := 35) (k := 1) (p := 33) m64_27 rfl (t_1 _ _) rfl (Nat.le_of_ble_eq_true rfl) ?_
      refine g_iload_n m64_30 rfl ?_
      refine h_ial (k := 3) (p := 35) (j := ja) m64_31 rfl (t_3 _ _) (rfl) (by omega) (Nat.le_of_ble_eq_true rfl) (rfl) ?_
      refine g_istore_n (L2 := [some (.ref (32)), some (.int (nI (ja))), some (.int (nI (jb))), some (.int (m (3) (ja)))]) m64_32 rfl rfl ?_
      refine g_aload_n m64_33 rfl ?_
      refine h_gfR (c := 33) (k := 0) (p := 32) m64_34 rfl (t_0 _ _) rfl (Nat.le_of_ble_eq_true rfl) ?_
      refine h_gfR (c := 35) (k := 1) (p := 33) m64_37 rfl (t_1 _ _) rfl (Nat.le_of_ble_eq_true rfl) ?_
      refine g_iload_n m64_40 rfl ?_
      refine g_iload_n m64_41 rfl ?_
      refine g_bipush m64_42 ?_
      refine g_idiv (u := nI (jb / 10)) m64_44 (by decide) (pk_div (a := jb) (d := 10) (by omega) (by decide) (by decide)) ?_
      refine h_ias (k := 3) (p := 35) (j := ja) m64_45 rfl (t_3 _ _) (rfl) (by omega) (Nat.le_of_ble_eq_true rfl) ?_
      refine g_aload_n m64_46 rfl ?_
      refine h_gfR (c := 33) (k := 0) (p := 32) m64_47 rfl (t_0 _ _) rfl (Nat.le_of_ble_eq_true rfl) ?_
      refine h_gfR (c := 36) (k := 1) (p := 33) m64_50 rfl (t_1 _ _) rfl (Nat.le_of_ble_eq_true rfl) ?_
      refine g_iload_n m64_53 rfl ?_
      refine g_iload_n m64_54 rfl ?_
      refine g_bipush m64_55 ?_
      refine g_irem (u := nI (jb % 10)) m64_57 (by decide) (pk_rem (a := jb) (d := 10) (by omega) (by decide) (by decide)) ?_
      refine h_ias (k := 4) (p := 36) (j := ja) m64_58 rfl (t_4 _ _) (rfl) (by omega) (Nat.le_of_ble_eq_true rfl) ?_
      refine g_iload_n m64_59 rfl ?_
      refine g_iret m64_60 rt_64 ?_
      exact hY ja jb rfl (by omega) rfl (by omega)
    · skip
      refine gwr ?_
      refine h_if_neT (xi := 0) (zi := 0) m64_14 rfl rfl (by decide) ?_
      refine g_aload_n m64_17 rfl ?_
      refine g_iconst m64_18 ?_
      refine h_cv (k := 0) (p := 32) (args := [.int (1)]) (rest := []) m64_19 cn_55 (Nat.le_of_ble_eq_true rfl) rfl rfl rfl (t_0 _ _) (Nat.le_of_ble_eq_true rfl) ?_
      refine c_error (e := 1) (by decide) (by decide) ?_
      refine gwr ?_
      refine g_iret m64_22 rt_64 ?_
      exact hE1 (by omega)
  · skip
    refine gwr ?_
    refine h_if_eqT (xi := 0) (zi := 0) m64_5 rfl rfl (by decide) ?_
    refine g_aload_n m64_17 rfl ?_
    refine g_iconst m64_18 ?_
    refine h_cv (k := 0) (p := 32) (args := [.int (1)]) (rest := []) m64_19 cn_55 (Nat.le_of_ble_eq_true rfl) rfl rfl rfl (t_0 _ _) (Nat.le_of_ble_eq_true rfl) ?_
    refine c_error (e := 1) (by decide) (by decide) ?_
    refine gwr ?_
    refine g_iret m64_22 rt_64 ?_
    exact hE1 (by omega)
set_option maxRecDepth 20000 in
set_option maxHeartbeats 40000000 in
theorem m_become {a b : Int32} {n : Nat} (hd : m 58 2 = nI n) (hn : n ≤ 8) (hE1 : (a.toInt < 0 ∨ (n : Int) ≤ a.toInt ∨ b.toInt < 0 ∨ 69 < b.toInt) → Q (some (.int (-1000000001))) (H (ers m 1) ln N)) (hY : ∀ i k : Nat, a = nI i → i < n → b = nI k → k ≤ 69 → Q (some (.int (m 58 (16 + 6 * i)))) (H (upm (upm m 58 (16 + 6 * i + 1) (nI (k % 10))) 58 (16 + 6 * i) (nI (k / 10))) ln N)) : WP xs (d + 3) 135 0 0 [.ref (89), .int (a), .int (b)] (H m ln N) Q := by
  refine wp_x mx_135 (L := [some (.ref (89)), some (.int (a)), some (.int (b))]) (Nat.le_of_ble_eq_true rfl) rfl ?_
  refine g_aload_n m135_0 rfl ?_
  refine g_iload_n m135_1 rfl ?_
  refine h_cv (k := 57) (p := 89) (args := [.int (a)]) (rest := []) m135_2 cn_113 (Nat.le_of_ble_eq_true rfl) rfl rfl rfl (t_57 _ _) (Nat.le_of_ble_eq_true rfl) ?_
  refine c_isDinerM hd hn (fun ja ea a_16 => ?_) (fun a_16 => ?_)
  · subst ea
    refine gwr ?_
    refine h_if_eqF (xi := 1) (zi := 0) m135_5 rfl rfl (by decide) ?_
    refine g_iload_n m135_8 rfl ?_
    refine g_iconst m135_9 ?_
    refine g_bipush m135_10 ?_
    refine g_cs (args := [.int (b), .int (0), .int (69)]) (rest := []) 0 (Or.inl rfl) m135_12 (Nat.le_of_ble_eq_true rfl) rfl rfl (Nat.le_of_ble_eq_true rfl) ?_
    refine c_in (A := 0) (B := 69) rfl rfl (by decide) (fun jb eb a_17 a_17' => ?_) (fun a_17 => ?_)
    · subst eb
      refine gwr ?_
      refine h_if_neF (xi := 1) (zi := 0) m135_15 rfl rfl (by decide) ?_
      refine g_aload_n m135_25 rfl ?_
      refine g_iload_n m135_26 rfl ?_
      refine g_iconst m135_27 ?_
      refine g_iload_n m135_28 rfl ?_
      refine g_bipush m135_29 ?_
      refine g_irem (u := nI (jb % 10)) m135_31 (by decide) (pk_rem (a := jb) (d := 10) (by omega) (by decide) (by decide)) ?_
      refine h_cv (k := 57) (p := 89) (args := [.int (nI (ja)), .int (1), .int (nI (jb % 10))]) (rest := []) m135_32 cn_112 (Nat.le_of_ble_eq_true rfl) rfl rfl rfl (t_57 _ _) (Nat.le_of_ble_eq_true rfl) ?_
      refine c_gets (w := 1) (by omega) (by decide) ?_
      refine gwr0 ?_
      refine g_aload_n m135_35 rfl ?_
      refine g_bipush m135_36 ?_
      refine g_bipush m135_38 ?_
      refine g_iload_n m135_40 rfl ?_
      refine g_imul (u := nI (6 * ja)) m135_41 (pk_mul 6 ja) ?_
      refine g_iadd (u := nI (16 + (6 * ja))) m135_42 (nI_add 16 (6 * ja)) ?_
      refine g_iload_n m135_43 rfl ?_
      refine g_bipush m135_44 ?_
      refine g_idiv (u := nI (jb / 10)) m135_46 (by decide) (pk_div (a := jb) (d := 10) (by omega) (by decide) (by decide)) ?_
      refine h_cv (k := 57) (p := 89) (args := [.int (nI (16 + (6 * ja))), .int (nI (jb / 10))]) (rest := []) m135_47 cn_114 (Nat.le_of_ble_eq_true rfl) rfl rfl rfl (t_57 _ _) (Nat.le_of_ble_eq_true rfl) ?_
      refine c_becomes (a := 16 + (6 * ja)) (by omega) ?_
      refine gwr ?_
      refine g_iret m135_50 rt_135 ?_
      rw [upm_j _ _ (by omega)]
      exact hY ja jb rfl (by omega) rfl (by omega)
    · skip
      refine gwr ?_
      refine h_if_neT (xi := 0) (zi := 0) m135_15 rfl rfl (by decide) ?_
      refine g_aload_n m135_18 rfl ?_
      refine g_ldci m135_19 rfl ?_
      refine h_cv (k := 57) (p := 89) (args := [.int (-1000000001)]) (rest := []) m135_21 cn_108 (Nat.le_of_ble_eq_true rfl) rfl rfl rfl (t_57 _ _) (Nat.le_of_ble_eq_true rfl) ?_
      refine c_errs (e := 1) (by decide) (by decide) (by decide) ?_
      refine gwr ?_
      refine g_iret m135_24 rt_135 ?_
      exact hE1 (by omega)
  · skip
    refine gwr ?_
    refine h_if_eqT (xi := 0) (zi := 0) m135_5 rfl rfl (by decide) ?_
    refine g_aload_n m135_18 rfl ?_
    refine g_ldci m135_19 rfl ?_
    refine h_cv (k := 57) (p := 89) (args := [.int (-1000000001)]) (rest := []) m135_21 cn_108 (Nat.le_of_ble_eq_true rfl) rfl rfl rfl (t_57 _ _) (Nat.le_of_ble_eq_true rfl) ?_
    refine c_errs (e := 1) (by decide) (by decide) (by decide) ?_
    refine gwr ?_
    refine g_iret m135_24 rt_135 ?_
    exact hE1 (by omega)
set_option maxRecDepth 20000 in
set_option maxHeartbeats 40000000 in
theorem x_seed {v : Int32} (hY : Q (some (.int (m 37 0))) (H (upm m 37 0 v) ln N)) : WP xs (d + 1) 90 0 0 [.ref (32), .int (v)] (H m ln N) Q := by
  refine wp_x mx_90 (L := [some (.ref (32)), some (.int (v)), none]) (Nat.le_of_ble_eq_true rfl) rfl ?_
  refine g_aload_n m90_0 rfl ?_
  refine h_gfR (c := 69) (k := 0) (p := 32) m90_1 rfl (t_0 _ _) rfl (Nat.le_of_ble_eq_true rfl) ?_
  refine h_gfI (k := 37) (p := 69) m90_4 rfl (t_37 _ _) rfl rfl ?_
  refine g_istore_n (L2 := [some (.ref (32)), some (.int (v)), some (.int (m (37) 0))]) m90_7 rfl rfl ?_
  refine g_aload_n m90_8 rfl ?_
  refine h_gfR (c := 69) (k := 0) (p := 32) m90_9 rfl (t_0 _ _) rfl (Nat.le_of_ble_eq_true rfl) ?_
  refine g_iload_n m90_12 rfl ?_
  refine h_pfI (k := 37) (p := 69) m90_13 rfl (t_37 _ _) rfl trivial ?_
  refine g_iload_n m90_16 rfl ?_
  refine g_iret m90_17 rt_90 ?_
  exact hY
set_option maxRecDepth 20000 in
set_option maxHeartbeats 40000000 in
theorem m_seed {v : Int32} (hY : Q (some (.int (m 58 1))) (H (upm m 58 1 v) ln N)) : WP xs (d + 2) 170 0 0 [.ref (89), .int (v)] (H m ln N) Q := by
  refine wp_x mx_170 (L := [some (.ref (89)), some (.int (v)), none]) (Nat.le_of_ble_eq_true rfl) rfl ?_
  refine g_aload_n m170_0 rfl ?_
  refine h_gfR (c := 90) (k := 57) (p := 89) m170_1 rfl (t_57 _ _) rfl (Nat.le_of_ble_eq_true rfl) ?_
  refine g_iconst m170_4 ?_
  refine h_ial (k := 58) (p := 90) (j := 1) m170_5 rfl (t_58 _ _) (rfl) (by omega) (Nat.le_of_ble_eq_true rfl) (rfl) ?_
  refine g_istore_n (L2 := [some (.ref (89)), some (.int (v)), some (.int (m (58) (1)))]) m170_6 rfl rfl ?_
  refine g_aload_n m170_7 rfl ?_
  refine h_gfR (c := 90) (k := 57) (p := 89) m170_8 rfl (t_57 _ _) rfl (Nat.le_of_ble_eq_true rfl) ?_
  refine g_iconst m170_11 ?_
  refine g_iload_n m170_12 rfl ?_
  refine h_ias (k := 58) (p := 90) (j := 1) m170_13 rfl (t_58 _ _) (rfl) (by omega) (Nat.le_of_ble_eq_true rfl) ?_
  refine g_iload_n m170_14 rfl ?_
  refine g_iret m170_15 rt_170 ?_
  exact hY
set_option maxRecDepth 20000 in
set_option maxHeartbeats 40000000 in
theorem x_trace {v : Int32} {b : Nat} (hb : m 45 4 = nI b) (hb4 : b ≤ 40) (hE2 : (v.toInt < 0 ∨ (b : Int) ≤ v.toInt) → Q (some (.int (-1000000000 - nI 2))) (H (erm m 2) ln N)) (hY : ∀ j : Nat, v = nI j → j < b → Q (some (.int (m 46 j))) (H m ln N)) : WP xs (d + 2) 94 0 0 [.ref (32), .int (v)] (H m ln N) Q := by
  refine wp_x mx_94 (L := [some (.ref (32)), some (.int (v))]) (Nat.le_of_ble_eq_true rfl) rfl ?_
  by_cases hv : v.toInt < 0 ∨ (b : Int) ≤ v.toInt
  · skip
    refine g_iload_n m94_0 rfl ?_
    refine h_if_lt (xi := v.toInt) (zi := 0) m94_1 rfl rfl (fun c1 => ?_) (fun c1 => ?_)
    · skip
      refine g_aload_n m94_15 rfl ?_
      refine g_iconst m94_16 ?_
      refine h_cv (k := 0) (p := 32) (args := [.int (2)]) (rest := []) m94_17 cn_55 (Nat.le_of_ble_eq_true rfl) rfl rfl rfl (t_0 _ _) (Nat.le_of_ble_eq_true rfl) ?_
      refine c_error (e := 2) (by decide) (by decide) ?_
      refine gwr ?_
      refine g_iret m94_20 rt_94 ?_
      exact hE2 (by omega)
    · skip
      refine g_iload_n m94_4 rfl ?_
      refine g_aload_n m94_5 rfl ?_
      refine h_gfR (c := 77) (k := 0) (p := 32) m94_6 rfl (t_0 _ _) rfl (Nat.le_of_ble_eq_true rfl) ?_
      refine h_gfI (k := 45) (p := 77) m94_9 rfl (t_45 _ _) rfl (hb) ?_
      refine h_ic_lt (xi := v.toInt) (zi := ((b : Nat) : Int)) m94_12 rfl (nI_toInt (by omega)) (fun c2 => ?_) (fun c2 => ?_)
      · skip
        exfalso
        omega
      · skip
        refine g_aload_n m94_15 rfl ?_
        refine g_iconst m94_16 ?_
        refine h_cv (k := 0) (p := 32) (args := [.int (2)]) (rest := []) m94_17 cn_55 (Nat.le_of_ble_eq_true rfl) rfl rfl rfl (t_0 _ _) (Nat.le_of_ble_eq_true rfl) ?_
        refine c_error (e := 2) (by decide) (by decide) ?_
        refine gwr ?_
        refine g_iret m94_20 rt_94 ?_
        exact hE2 (by omega)
  · obtain ⟨j, ⟨h1, h2⟩, h3⟩ := nat_of (x := v) (lo := 0) (hi := b) (by omega) (by omega)
    have e : v.toInt = (j : Int) := by rw [h3]; exact nI_toInt (by omega)
    obtain rfl : v = nI j := h3
    refine g_iload_n m94_0 rfl ?_
    refine h_if_ltF (xi := ((j : Nat) : Int)) (zi := 0) m94_1 (nI_toInt (by omega)) rfl (by omega) ?_
    refine g_iload_n m94_4 rfl ?_
    refine g_aload_n m94_5 rfl ?_
    refine h_gfR (c := 77) (k := 0) (p := 32) m94_6 rfl (t_0 _ _) rfl (Nat.le_of_ble_eq_true rfl) ?_
    refine h_gfI (k := 45) (p := 77) m94_9 rfl (t_45 _ _) rfl (hb) ?_
    refine h_ic_ltT (xi := ((j : Nat) : Int)) (zi := ((b : Nat) : Int)) m94_12 (nI_toInt (by omega)) (nI_toInt (by omega)) (by omega) ?_
    refine g_aload_n m94_21 rfl ?_
    refine h_gfR (c := 77) (k := 0) (p := 32) m94_22 rfl (t_0 _ _) rfl (Nat.le_of_ble_eq_true rfl) ?_
    refine h_gfR (c := 78) (k := 45) (p := 77) m94_25 rfl (t_45 _ _) rfl (Nat.le_of_ble_eq_true rfl) ?_
    refine g_iload_n m94_28 rfl ?_
    refine h_ial (k := 46) (p := 78) (j := j) m94_29 rfl (t_46 _ _) (rfl) (by omega) (Nat.le_of_ble_eq_true rfl) (rfl) ?_
    refine g_iret m94_30 rt_94 ?_
    exact hY j rfl (by omega)
set_option maxRecDepth 20000 in
set_option maxHeartbeats 40000000 in
theorem m_trace {v : Int32} {b : Nat} (hb : m 57 21 = nI b) (hb4 : b ≤ 40) (hE2 : (v.toInt < 0 ∨ (b : Int) ≤ v.toInt) → Q (some (.int (-1000000002))) (H (ers m 2) ln N)) (hY : ∀ j : Nat, v = nI j → j < b → Q (some (.int (m 68 j))) (H m ln N)) : WP xs (d + 2) 177 0 0 [.ref (89), .int (v)] (H m ln N) Q := by
  refine wp_x mx_177 (L := [some (.ref (89)), some (.int (v))]) (Nat.le_of_ble_eq_true rfl) rfl ?_
  refine g_iload_n m177_0 rfl ?_
  refine g_iconst m177_1 ?_
  refine g_aload_n m177_2 rfl ?_
  refine h_gfI (k := 57) (p := 89) m177_3 rfl (t_57 _ _) rfl (hb) ?_
  refine g_iconst m177_6 ?_
  refine g_isub m177_7 rfl ?_
  refine g_cs (args := [.int (v), .int (0), .int (((nI (b)) - (1 : Int32)))]) (rest := []) 0 (Or.inl rfl) m177_8 (Nat.le_of_ble_eq_true rfl) rfl rfl (Nat.le_of_ble_eq_true rfl) ?_
  refine c_inI (A := 0) (B := (b : Int) - 1) (vi := v.toInt) rfl (by rw [sub_k (a := b) (b := 1) (nI_toInt (by omega)) rfl (by omega) (by omega)]) rfl (fun a1 => ?_) (fun a1 => ?_)
  · obtain ⟨j, ⟨h1, h2⟩, h3⟩ := nat_of (x := v) (lo := 0) (hi := b) (by omega) (by omega)
    have e : v.toInt = (j : Int) := by rw [h3]; exact nI_toInt (by omega)
    obtain rfl : v = nI j := h3
    refine gwr ?_
    refine h_if_eqF (xi := 1) (zi := 0) m177_11 rfl rfl (by decide) ?_
    refine g_aload_n m177_14 rfl ?_
    refine h_gfR (c := 100) (k := 57) (p := 89) m177_15 rfl (t_57 _ _) rfl (Nat.le_of_ble_eq_true rfl) ?_
    refine g_iload_n m177_18 rfl ?_
    refine h_ial (k := 68) (p := 100) (j := j) m177_19 rfl (t_68 _ _) (rfl) (by omega) (Nat.le_of_ble_eq_true rfl) (rfl) ?_
    refine g_goto m177_20 ?_
    refine g_iret m177_29 rt_177 ?_
    exact hY j rfl (by omega)
  · skip
    refine gwr ?_
    refine h_if_eqT (xi := 0) (zi := 0) m177_11 rfl rfl (by decide) ?_
    refine g_aload_n m177_23 rfl ?_
    refine g_ldci m177_24 rfl ?_
    refine h_cv (k := 57) (p := 89) (args := [.int (-1000000002)]) (rest := []) m177_26 cn_108 (Nat.le_of_ble_eq_true rfl) rfl rfl rfl (t_57 _ _) (Nat.le_of_ble_eq_true rfl) ?_
    refine c_errs (e := 2) (by decide) (by decide) (by decide) ?_
    refine gwr ?_
    refine g_iret m177_29 rt_177 ?_
    exact hE2 (by omega)
set_option maxRecDepth 20000 in
set_option maxHeartbeats 40000000 in
theorem x_tell {v : Int32} {w : Nat} (hw : m 37 4 = nI w) (hw2 : w ≤ 20) (hE4 : (w = 20) → Q (some (.int (-1000000000 - nI 4))) (H (erm m 4) ln N)) (hY : w < 20 → Q (some (.int (nI (w + 1)))) (H (upm (upm m 39 w v) 37 4 (nI (w + 1))) ln N)) : WP xs (d + 2) 102 0 0 [.ref (32), .int (v)] (H m ln N) Q := by
  refine wp_x mx_102 (L := [some (.ref (32)), some (.int (v))]) (Nat.le_of_ble_eq_true rfl) rfl ?_
  refine g_aload_n m102_0 rfl ?_
  refine h_gfR (c := 69) (k := 0) (p := 32) m102_1 rfl (t_0 _ _) rfl (Nat.le_of_ble_eq_true rfl) ?_
  refine h_gfI (k := 37) (p := 69) m102_4 rfl (t_37 _ _) rfl (hw) ?_
  refine g_bipush m102_7 ?_
  refine h_ic_lt (xi := ((w : Nat) : Int)) (zi := 20) m102_9 (nI_toInt (by omega)) rfl (fun c1 => ?_) (fun c1 => ?_)
  · skip
    refine g_aload_n m102_18 rfl ?_
    refine h_gfR (c := 69) (k := 0) (p := 32) m102_19 rfl (t_0 _ _) rfl (Nat.le_of_ble_eq_true rfl) ?_
    refine h_gfR (c := 71) (k := 37) (p := 69) m102_22 rfl (t_37 _ _) rfl (Nat.le_of_ble_eq_true rfl) ?_
    refine g_aload_n m102_25 rfl ?_
    refine h_gfR (c := 69) (k := 0) (p := 32) m102_26 rfl (t_0 _ _) rfl (Nat.le_of_ble_eq_true rfl) ?_
    refine h_gfI (k := 37) (p := 69) m102_29 rfl (t_37 _ _) rfl (hw) ?_
    refine g_iload_n m102_32 rfl ?_
    refine h_ias (k := 39) (p := 71) (j := w) m102_33 rfl (t_39 _ _) (rfl) (by omega) (Nat.le_of_ble_eq_true rfl) ?_
    refine g_aload_n m102_34 rfl ?_
    refine h_gfR (c := 69) (k := 0) (p := 32) m102_35 rfl (t_0 _ _) rfl (Nat.le_of_ble_eq_true rfl) ?_
    refine g_dup m102_38 rfl ?_
    refine h_gfI (k := 37) (p := 69) m102_39 rfl (t_37 _ _) rfl (hw) ?_
    refine g_iconst m102_42 ?_
    refine g_iadd (u := nI (w + 1)) m102_43 (nI_add w 1) ?_
    refine h_pfI (k := 37) (p := 69) m102_44 rfl (t_37 _ _) rfl trivial ?_
    refine g_aload_n m102_47 rfl ?_
    refine h_gfR (c := 69) (k := 0) (p := 32) m102_48 rfl (t_0 _ _) rfl (Nat.le_of_ble_eq_true rfl) ?_
    refine h_gfI (k := 37) (p := 69) m102_51 rfl (t_37 _ _) rfl (rfl) ?_
    refine g_iret m102_54 rt_102 ?_
    exact hY (by omega)
  · skip
    refine g_aload_n m102_12 rfl ?_
    refine g_iconst m102_13 ?_
    refine h_cv (k := 0) (p := 32) (args := [.int (4)]) (rest := []) m102_14 cn_55 (Nat.le_of_ble_eq_true rfl) rfl rfl rfl (t_0 _ _) (Nat.le_of_ble_eq_true rfl) ?_
    refine c_error (e := 4) (by decide) (by decide) ?_
    refine gwr ?_
    refine g_iret m102_17 rt_102 ?_
    exact hE4 (by omega)
set_option maxRecDepth 20000 in
set_option maxHeartbeats 40000000 in
theorem m_tell {v : Int32} {w : Nat} (hw : m 58 4 = nI w) (hw2 : w ≤ 20) (hE4 : (w = 20) → Q (some (.int (-1000000004))) (H (ers m 4) ln N)) (hY : w < 20 → Q (some (.int (nI (w + 1)))) (H (upm (upm m 58 (114 + w) v) 58 4 (nI (w + 1))) ln N)) : WP xs (d + 2) 186 0 0 [.ref (89), .int (v)] (H m ln N) Q := by
  refine wp_x mx_186 (L := [some (.ref (89)), some (.int (v))]) (Nat.le_of_ble_eq_true rfl) rfl ?_
  refine g_aload_n m186_0 rfl ?_
  refine h_gfR (c := 90) (k := 57) (p := 89) m186_1 rfl (t_57 _ _) rfl (Nat.le_of_ble_eq_true rfl) ?_
  refine g_iconst m186_4 ?_
  refine h_ial (k := 58) (p := 90) (j := 4) m186_5 rfl (t_58 _ _) (rfl) (by omega) (Nat.le_of_ble_eq_true rfl) (hw) ?_
  refine g_bipush m186_6 ?_
  refine h_ic_ne (xi := ((w : Nat) : Int)) (zi := 20) m186_8 (nI_toInt (by omega)) rfl (fun c1 => ?_) (fun c1 => ?_)
  · skip
    refine g_aload_n m186_11 rfl ?_
    refine g_ldci m186_12 rfl ?_
    refine h_cv (k := 57) (p := 89) (args := [.int (-1000000004)]) (rest := []) m186_14 cn_108 (Nat.le_of_ble_eq_true rfl) rfl rfl rfl (t_57 _ _) (Nat.le_of_ble_eq_true rfl) ?_
    refine c_errs (e := 4) (by decide) (by decide) (by decide) ?_
    refine gwr ?_
    refine g_iret m186_17 rt_186 ?_
    exact hE4 (by omega)
  · skip
    refine g_aload_n m186_18 rfl ?_
    refine h_gfR (c := 90) (k := 57) (p := 89) m186_19 rfl (t_57 _ _) rfl (Nat.le_of_ble_eq_true rfl) ?_
    refine g_bipush m186_22 ?_
    refine g_aload_n m186_24 rfl ?_
    refine h_gfR (c := 90) (k := 57) (p := 89) m186_25 rfl (t_57 _ _) rfl (Nat.le_of_ble_eq_true rfl) ?_
    refine g_iconst m186_28 ?_
    refine h_ial (k := 58) (p := 90) (j := 4) m186_29 rfl (t_58 _ _) (rfl) (by omega) (Nat.le_of_ble_eq_true rfl) (hw) ?_
    refine g_iadd (u := nI (114 + w)) m186_30 (nI_add 114 w) ?_
    refine g_iload_n m186_31 rfl ?_
    refine h_ias (k := 58) (p := 90) (j := 114 + w) m186_32 rfl (t_58 _ _) (rfl) (by omega) (Nat.le_of_ble_eq_true rfl) ?_
    refine g_aload_n m186_33 rfl ?_
    refine h_gfR (c := 90) (k := 57) (p := 89) m186_34 rfl (t_57 _ _) rfl (Nat.le_of_ble_eq_true rfl) ?_
    refine g_iconst m186_37 ?_
    refine g_dup2 m186_38 rfl rfl ?_
    refine h_ial (k := 58) (p := 90) (j := 4) m186_39 rfl (t_58 _ _) (rfl) (by omega) (Nat.le_of_ble_eq_true rfl) ((upm_j _ _ (by omega)).trans hw) ?_
    refine g_iconst m186_40 ?_
    refine g_iadd (u := nI (w + 1)) m186_41 (nI_add w 1) ?_
    refine h_ias (k := 58) (p := 90) (j := 4) m186_42 rfl (t_58 _ _) (rfl) (by omega) (Nat.le_of_ble_eq_true rfl) ?_
    refine g_aload_n m186_43 rfl ?_
    refine h_gfR (c := 90) (k := 57) (p := 89) m186_44 rfl (t_57 _ _) rfl (Nat.le_of_ble_eq_true rfl) ?_
    refine g_iconst m186_47 ?_
    refine h_ial (k := 58) (p := 90) (j := 4) m186_48 rfl (t_58 _ _) (rfl) (by omega) (Nat.le_of_ble_eq_true rfl) (upm_self _ _ _ _) ?_
    refine g_iret m186_49 rt_186 ?_
    exact hY (by omega)
set_option maxRecDepth 20000 in
set_option maxHeartbeats 40000000 in
theorem x_told {v : Int32} (hE1 : (v.toInt < 1 ∨ 5 < v.toInt) → Q (some (.int (-1000000000 - nI 1))) (H (erm m 1) ln N)) (hY : ∀ j : Nat, v = nI j → 1 ≤ j → j ≤ 5 → Q (some (.int (m 56 j))) (H m ln N)) : WP xs (d + 2) 105 0 0 [.ref (32), .int (v)] (H m ln N) Q := by
  refine wp_x mx_105 (L := [some (.ref (32)), some (.int (v))]) (Nat.le_of_ble_eq_true rfl) rfl ?_
  by_cases hv : v.toInt < 1 ∨ 5 < v.toInt
  · skip
    refine g_iload_n m105_0 rfl ?_
    refine g_iconst m105_1 ?_
    refine h_ic_lt (xi := v.toInt) (zi := 1) m105_2 rfl rfl (fun c1 => ?_) (fun c1 => ?_)
    · skip
      refine g_aload_n m105_10 rfl ?_
      refine g_iconst m105_11 ?_
      refine h_cv (k := 0) (p := 32) (args := [.int (1)]) (rest := []) m105_12 cn_55 (Nat.le_of_ble_eq_true rfl) rfl rfl rfl (t_0 _ _) (Nat.le_of_ble_eq_true rfl) ?_
      refine c_error (e := 1) (by decide) (by decide) ?_
      refine gwr ?_
      refine g_iret m105_15 rt_105 ?_
      exact hE1 (by omega)
    · skip
      refine g_iload_n m105_5 rfl ?_
      refine g_iconst m105_6 ?_
      refine h_ic_le (xi := v.toInt) (zi := 5) m105_7 rfl rfl (fun c2 => ?_) (fun c2 => ?_)
      · skip
        exfalso
        omega
      · skip
        refine g_aload_n m105_10 rfl ?_
        refine g_iconst m105_11 ?_
        refine h_cv (k := 0) (p := 32) (args := [.int (1)]) (rest := []) m105_12 cn_55 (Nat.le_of_ble_eq_true rfl) rfl rfl rfl (t_0 _ _) (Nat.le_of_ble_eq_true rfl) ?_
        refine c_error (e := 1) (by decide) (by decide) ?_
        refine gwr ?_
        refine g_iret m105_15 rt_105 ?_
        exact hE1 (by omega)
  · obtain ⟨j, ⟨h1, h2⟩, h3⟩ := nat_of (x := v) (lo := 1) (hi := 5) (by omega) (by omega)
    have e : v.toInt = (j : Int) := by rw [h3]; exact nI_toInt (by omega)
    obtain rfl : v = nI j := h3
    refine g_iload_n m105_0 rfl ?_
    refine g_iconst m105_1 ?_
    refine h_ic_ltF (xi := ((j : Nat) : Int)) (zi := 1) m105_2 (nI_toInt (by omega)) rfl (by omega) ?_
    refine g_iload_n m105_5 rfl ?_
    refine g_iconst m105_6 ?_
    refine h_ic_leT (xi := ((j : Nat) : Int)) (zi := 5) m105_7 (nI_toInt (by omega)) rfl (by omega) ?_
    refine g_aload_n m105_16 rfl ?_
    refine h_gfR (c := 88) (k := 0) (p := 32) m105_17 rfl (t_0 _ _) rfl (Nat.le_of_ble_eq_true rfl) ?_
    refine g_iload_n m105_20 rfl ?_
    refine h_ial (k := 56) (p := 88) (j := j) m105_21 rfl (t_56 _ _) (rfl) (by omega) (Nat.le_of_ble_eq_true rfl) (rfl) ?_
    refine g_iret m105_22 rt_105 ?_
    exact hY j rfl (by omega) (by omega)
set_option maxRecDepth 20000 in
set_option maxHeartbeats 40000000 in
theorem m_told {v : Int32} (hE1 : (v.toInt < 1 ∨ 5 < v.toInt) → Q (some (.int (-1000000001))) (H (ers m 1) ln N)) (hY : ∀ j : Nat, v = nI j → 1 ≤ j → j ≤ 5 → Q (some (.int (m 62 j))) (H m ln N)) : WP xs (d + 2) 189 0 0 [.ref (89), .int (v)] (H m ln N) Q := by
  refine wp_x mx_189 (L := [some (.ref (89)), some (.int (v))]) (Nat.le_of_ble_eq_true rfl) rfl ?_
  refine g_iload_n m189_0 rfl ?_
  refine g_iconst m189_1 ?_
  refine g_iconst m189_2 ?_
  refine g_cs (args := [.int (v), .int (1), .int (5)]) (rest := []) 0 (Or.inl rfl) m189_3 (Nat.le_of_ble_eq_true rfl) rfl rfl (Nat.le_of_ble_eq_true rfl) ?_
  refine c_in (A := 1) (B := 5) rfl rfl (by decide) (fun jv ev a_18 a_18' => ?_) (fun a_18 => ?_)
  · subst ev
    refine gwr ?_
    refine h_if_eqF (xi := 1) (zi := 0) m189_6 rfl rfl (by decide) ?_
    refine g_aload_n m189_9 rfl ?_
    refine h_gfR (c := 94) (k := 57) (p := 89) m189_10 rfl (t_57 _ _) rfl (Nat.le_of_ble_eq_true rfl) ?_
    refine g_iload_n m189_13 rfl ?_
    refine h_ial (k := 62) (p := 94) (j := jv) m189_14 rfl (t_62 _ _) (rfl) (by omega) (Nat.le_of_ble_eq_true rfl) (rfl) ?_
    refine g_goto m189_15 ?_
    refine g_iret m189_24 rt_189 ?_
    exact hY jv rfl (by omega) (by omega)
  · skip
    refine gwr ?_
    refine h_if_eqT (xi := 0) (zi := 0) m189_6 rfl rfl (by decide) ?_
    refine g_aload_n m189_18 rfl ?_
    refine g_ldci m189_19 rfl ?_
    refine h_cv (k := 57) (p := 89) (args := [.int (-1000000001)]) (rest := []) m189_21 cn_108 (Nat.le_of_ble_eq_true rfl) rfl rfl rfl (t_57 _ _) (Nat.le_of_ble_eq_true rfl) ?_
    refine c_errs (e := 1) (by decide) (by decide) (by decide) ?_
    refine gwr ?_
    refine g_iret m189_24 rt_189 ?_
    exact hE1 (by omega)
end
end
section
/-! PUBLIC METHODS: of a diner, faces -/
theorem AtX.back {m m2 : MW} {t : Nat} (h : AtX m t (vw m t) m2) : EqM m m2 := by
  intro k j q
  rw [h k j q]
  unfold putT vw
  by_cases h1 : 1 + 9 * t ≤ k ∧ k < 10 + 9 * t
  · rw [if_pos h1, show k - (1 + 9 * t) + 1 + 9 * t = k by omega]
  · rw [if_neg h1]
theorem AtY.back {m m2 : MW} (h : AtY m (vr (m 58)) m2) : EqM m m2 := by
  intro k j q
  rw [h k j q]
  unfold upmR
  by_cases h1 : k = 58
  · rw [if_pos h1, rowU_vr, h1]
  · rw [if_neg h1]
theorem c_face0 {i : Nat} {Q : QT} {m : MW} {xs : List Int32} {d N : Nat} {ln : Nat → Nat} (hL : LawsOk m ln N) (hix : LawIx N (m 1 11)) (hi : i < 8) (hk : leI (m 3 i) 6) (hQ : ∀ m2, EqM m m2 → Q (some (.int (faceF (lkF m ln (m 1 11)) (vw m 0) i))) (H m2 ln N)) : WP xs (d + 3) 34 0 0 [.ref 33, .int (nI i)] (H m ln N) Q :=
  c_face (t := 0) (m0 := m) (X := vw m 0) (by decide) hL (AtX.self m 0) rfl hix hi hk (fun m2 h => hQ m2 (AtX.back h))
section
variable {xs : List Int32} {d : Nat} {h : AH} {Q : QT} {m : MW} {ln : Nat → Nat} {N : Nat}
set_option maxRecDepth 20000 in
set_option maxHeartbeats 40000000 in
theorem x_ofDiner {a b : Int32} {n : Nat} (hd : m 1 10 = nI n) (hn : n ≤ 8) (h01 : ∀ j, j < 8 → m 8 j = 0 ∨ m 8 j = 1) (hW : WF (vw m 0)) (hL : LawsOk m ln N) (hix : LawIx N (m 1 11)) (hE1 : (a.toInt < 0 ∨ (n : Int) ≤ a.toInt ∨ b.toInt < 0 ∨ 6 < b.toInt) → Q (some (.int (-1000000000 - nI 1))) (H (erm m 1) ln N)) (hY : ∀ i k : Nat, a = nI i → i < n → b = nI k → k ≤ 5 → Q (some (.int (m (3 + k) i))) (H m ln N)) (hF : ∀ i : Nat, a = nI i → i < n → b = 6 → ∀ m2, EqM m m2 → Q (some (.int (faceF (lkF m ln (m 1 11)) (vw m 0) i))) (H m2 ln N)) : WP xs (d + 4) 61 0 0 [.ref (32), .int (a), .int (b)] (H m ln N) Q := by
  refine wp_x mx_61 (L := [some (.ref (32)), some (.int (a)), some (.int (b))]) (Nat.le_of_ble_eq_true rfl) rfl ?_
  refine g_aload_n m61_0 rfl ?_
  refine g_iload_n m61_1 rfl ?_
  refine h_cv (k := 0) (p := 32) (args := [.int (a)]) (rest := []) m61_2 cn_60 (Nat.le_of_ble_eq_true rfl) rfl rfl rfl (t_0 _ _) (Nat.le_of_ble_eq_true rfl) ?_
  refine c_isDiner hd hn (fun ja ea a_1 => ?_) (fun a_1 => ?_)
  · subst ea
    refine gwr ?_
    refine h_if_neF (xi := 1) (zi := 0) m61_5 rfl rfl (by decide) ?_
    refine g_iload_n m61_14 rfl ?_
    by_cases hsw : b.toInt < 0 ∨ 6 < b.toInt
    · refine gs m61_15 ?_
      refine ifT (by show b.toInt < 0 ∨ 6 < b.toInt; exact hsw) ?_
      refine gwpc (pc' := 133) rfl ?_
      refine g_aload_n m61_133 rfl ?_
      refine g_iconst m61_134 ?_
      refine h_cv (k := 0) (p := 32) (args := [.int (1)]) (rest := []) m61_135 cn_55 (Nat.le_of_ble_eq_true rfl) rfl rfl rfl (t_0 _ _) (Nat.le_of_ble_eq_true rfl) ?_
      refine c_error (e := 1) (by decide) (by decide) ?_
      refine gwr ?_
      refine g_iret m61_138 rt_61 ?_
      exact hE1 (by omega)
    · skip
      obtain ⟨kk, ⟨hkk1, hkk2⟩, hkk3⟩ := nat_of (x := b) (lo := 0) (hi := 6) (by omega) (by omega)
      obtain rfl : b = nI kk := hkk3
      rcases (show kk = 0 ∨ kk = 1 ∨ kk = 2 ∨ kk = 3 ∨ kk = 4 ∨ kk = 5 ∨ kk = 6 by omega) with rfl | rfl | rfl | rfl | rfl | rfl | rfl
      · skip
        refine gs m61_15 ?_
        refine gwpc (pc' := 56) rfl ?_
        refine g_aload_n m61_56 rfl ?_
        refine h_gfR (c := 33) (k := 0) (p := 32) m61_57 rfl (t_0 _ _) rfl (Nat.le_of_ble_eq_true rfl) ?_
        refine h_gfR (c := 35) (k := 1) (p := 33) m61_60 rfl (t_1 _ _) rfl (Nat.le_of_ble_eq_true rfl) ?_
        refine g_iload_n m61_63 rfl ?_
        refine h_ial (k := 3) (p := 35) (j := ja) m61_64 rfl (t_3 _ _) (rfl) (by omega) (Nat.le_of_ble_eq_true rfl) (rfl) ?_
        refine g_iret m61_65 rt_61 ?_
        exact hY ja 0 rfl (by omega) rfl (by decide)
      · skip
        refine gs m61_15 ?_
        refine gwpc (pc' := 66) rfl ?_
        refine g_aload_n m61_66 rfl ?_
        refine h_gfR (c := 33) (k := 0) (p := 32) m61_67 rfl (t_0 _ _) rfl (Nat.le_of_ble_eq_true rfl) ?_
        refine h_gfR (c := 36) (k := 1) (p := 33) m61_70 rfl (t_1 _ _) rfl (Nat.le_of_ble_eq_true rfl) ?_
        refine g_iload_n m61_73 rfl ?_
        refine h_ial (k := 4) (p := 36) (j := ja) m61_74 rfl (t_4 _ _) (rfl) (by omega) (Nat.le_of_ble_eq_true rfl) (rfl) ?_
        refine g_iret m61_75 rt_61 ?_
        exact hY ja 1 rfl (by omega) rfl (by decide)
      · skip
        refine gs m61_15 ?_
        refine gwpc (pc' := 76) rfl ?_
        refine g_aload_n m61_76 rfl ?_
        refine h_gfR (c := 33) (k := 0) (p := 32) m61_77 rfl (t_0 _ _) rfl (Nat.le_of_ble_eq_true rfl) ?_
        refine h_gfR (c := 37) (k := 1) (p := 33) m61_80 rfl (t_1 _ _) rfl (Nat.le_of_ble_eq_true rfl) ?_
        refine g_iload_n m61_83 rfl ?_
        refine h_ial (k := 5) (p := 37) (j := ja) m61_84 rfl (t_5 _ _) (rfl) (by omega) (Nat.le_of_ble_eq_true rfl) (rfl) ?_
        refine g_iret m61_85 rt_61 ?_
        exact hY ja 2 rfl (by omega) rfl (by decide)
      · skip
        refine gs m61_15 ?_
        refine gwpc (pc' := 86) rfl ?_
        refine g_aload_n m61_86 rfl ?_
        refine h_gfR (c := 33) (k := 0) (p := 32) m61_87 rfl (t_0 _ _) rfl (Nat.le_of_ble_eq_true rfl) ?_
        refine h_gfR (c := 38) (k := 1) (p := 33) m61_90 rfl (t_1 _ _) rfl (Nat.le_of_ble_eq_true rfl) ?_
        refine g_iload_n m61_93 rfl ?_
        refine h_ial (k := 6) (p := 38) (j := ja) m61_94 rfl (t_6 _ _) (rfl) (by omega) (Nat.le_of_ble_eq_true rfl) (rfl) ?_
        refine g_iret m61_95 rt_61 ?_
        exact hY ja 3 rfl (by omega) rfl (by decide)
      · skip
        refine gs m61_15 ?_
        refine gwpc (pc' := 96) rfl ?_
        refine g_aload_n m61_96 rfl ?_
        refine h_gfR (c := 33) (k := 0) (p := 32) m61_97 rfl (t_0 _ _) rfl (Nat.le_of_ble_eq_true rfl) ?_
        refine h_gfR (c := 39) (k := 1) (p := 33) m61_100 rfl (t_1 _ _) rfl (Nat.le_of_ble_eq_true rfl) ?_
        refine g_iload_n m61_103 rfl ?_
        refine h_ial (k := 7) (p := 39) (j := ja) m61_104 rfl (t_7 _ _) (rfl) (by omega) (Nat.le_of_ble_eq_true rfl) (rfl) ?_
        refine g_iret m61_105 rt_61 ?_
        exact hY ja 4 rfl (by omega) rfl (by decide)
      · skip
        refine gs m61_15 ?_
        refine gwpc (pc' := 106) rfl ?_
        refine g_aload_n m61_106 rfl ?_
        refine h_gfR (c := 33) (k := 0) (p := 32) m61_107 rfl (t_0 _ _) rfl (Nat.le_of_ble_eq_true rfl) ?_
        refine h_gfR (c := 40) (k := 1) (p := 33) m61_110 rfl (t_1 _ _) rfl (Nat.le_of_ble_eq_true rfl) ?_
        refine g_iload_n m61_113 rfl ?_
        refine h_bal (k := 8) (p := 40) (j := ja) m61_114 rfl (t_8 _ _) (rfl) (by omega) (Nat.le_of_ble_eq_true rfl) (rfl) ?_
        refine h_if_eq (xi := _) (zi := 0) m61_115 rfl rfl (fun c1 => ?_) (fun c1 => ?_)
        · skip
          refine g_iconst m61_122 ?_
          refine g_iret m61_123 rt_61 ?_
          have e : m 8 ja = 0 := (h01 ja (by omega)).resolve_right (fun q => by rw [q] at c1; exact absurd c1 (by decide))
          have h9 := hY ja 5 rfl (by omega) rfl (by decide)
          rw [show m (3 + 5) ja = 0 from e] at h9
          exact h9
        · skip
          refine g_iconst m61_118 ?_
          refine g_goto m61_119 ?_
          refine g_iret m61_123 rt_61 ?_
          have e : m 8 ja = 1 := (h01 ja (by omega)).resolve_left (fun q => by rw [q] at c1; exact absurd c1 (by decide))
          have h9 := hY ja 5 rfl (by omega) rfl (by decide)
          rw [show m (3 + 5) ja = 1 from e] at h9
          exact h9
      · skip
        refine gs m61_15 ?_
        refine gwpc (pc' := 124) rfl ?_
        refine g_aload_n m61_124 rfl ?_
        refine h_gfR (c := 33) (k := 0) (p := 32) m61_125 rfl (t_0 _ _) rfl (Nat.le_of_ble_eq_true rfl) ?_
        refine g_iload_n m61_128 rfl ?_
        refine h_cv (k := 1) (p := 33) (args := [.int (nI (ja))]) (rest := []) m61_129 cn_34 (Nat.le_of_ble_eq_true rfl) rfl rfl rfl (t_1 _ _) (Nat.le_of_ble_eq_true rfl) ?_
        refine c_face0 hL hix (by omega) ((hW.2.2 ja (by omega)).2.1) (fun m2 hE => ?_)
        refine gwr ?_
        refine g_iret m61_132 rt_61 ?_
        exact hF ja rfl (by omega) rfl m2 hE
  · skip
    refine gwr ?_
    refine h_if_neT (xi := 0) (zi := 0) m61_5 rfl rfl (by decide) ?_
    refine g_aload_n m61_8 rfl ?_
    refine g_iconst m61_9 ?_
    refine h_cv (k := 0) (p := 32) (args := [.int (1)]) (rest := []) m61_10 cn_55 (Nat.le_of_ble_eq_true rfl) rfl rfl rfl (t_0 _ _) (Nat.le_of_ble_eq_true rfl) ?_
    refine c_error (e := 1) (by decide) (by decide) ?_
    refine gwr ?_
    refine g_iret m61_13 rt_61 ?_
    exact hE1 (by omega)
set_option maxRecDepth 20000 in
set_option maxHeartbeats 40000000 in
theorem m_ofDiner {a b : Int32} {n : Nat} (hd : m 58 2 = nI n) (hn : n ≤ 8) (hX0 : TxOk (m 58) 0) (hWY : WF (vr (m 58))) (hE1 : (a.toInt < 0 ∨ (n : Int) ≤ a.toInt ∨ b.toInt < 0 ∨ 6 < b.toInt) → Q (some (.int (-1000000001))) (H (ers m 1) ln N)) (hY : ∀ i k : Nat, a = nI i → i < n → b = nI k → k ≤ 5 → Q (some (.int (m 58 (16 + 6 * i + k)))) (H m ln N)) (hF : ∀ i : Nat, a = nI i → i < n → b = 6 → ∀ m2, EqM m m2 → Q (some (.int (faceF (rkF (m 58)) (vr (m 58)) i))) (H m2 ln N)) : WP xs (d + 813) 133 0 0 [.ref (89), .int (a), .int (b)] (H m ln N) Q := by
  refine wp_x mx_133 (L := [some (.ref (89)), some (.int (a)), some (.int (b))]) (Nat.le_of_ble_eq_true rfl) rfl ?_
  refine g_aload_n m133_0 rfl ?_
  refine g_iload_n m133_1 rfl ?_
  refine h_cv (k := 57) (p := 89) (args := [.int (a)]) (rest := []) m133_2 cn_113 (Nat.le_of_ble_eq_true rfl) rfl rfl rfl (t_57 _ _) (Nat.le_of_ble_eq_true rfl) ?_
  refine c_isDinerM hd hn (fun ja ea a_2 => ?_) (fun a_2 => ?_)
  · subst ea
    refine gwr ?_
    refine h_if_eqF (xi := 1) (zi := 0) m133_5 rfl rfl (by decide) ?_
    refine g_iload_n m133_8 rfl ?_
    refine g_iconst m133_9 ?_
    refine g_bipush m133_10 ?_
    refine g_cs (args := [.int (b), .int (0), .int (6)]) (rest := []) 0 (Or.inl rfl) m133_12 (Nat.le_of_ble_eq_true rfl) rfl rfl (Nat.le_of_ble_eq_true rfl) ?_
    refine c_in (A := 0) (B := 6) rfl rfl (by decide) (fun jb eb a_3 a_3' => ?_) (fun a_3 => ?_)
    · subst eb
      refine gwr ?_
      refine h_if_neF (xi := 1) (zi := 0) m133_15 rfl rfl (by decide) ?_
      refine g_iload_n m133_25 rfl ?_
      refine g_bipush m133_26 ?_
      refine h_ic_ge (xi := ((jb : Nat) : Int)) (zi := 6) m133_28 (nI_toInt (by omega)) rfl (fun c1 => ?_) (fun c1 => ?_)
      · skip
        refine g_aload_n m133_40 rfl ?_
        refine g_iload_n m133_41 rfl ?_
        refine h_cv (k := 57) (p := 89) (args := [.int (nI (ja))]) (rest := []) m133_42 cn_132 (Nat.le_of_ble_eq_true rfl) rfl rfl rfl (t_57 _ _) (Nat.le_of_ble_eq_true rfl) ?_
        refine c_faceM (AtY.self m) hX0 (by omega) ((hWY.2.2 ja (by omega)).2.1) (fun m2 hA => ?_)
        refine gwr ?_
        refine g_iret m133_45 rt_133 ?_
        obtain rfl : jb = 6 := by omega
        exact hF ja rfl (by omega) rfl m2 hA.back
      · skip
        refine g_aload_n m133_31 rfl ?_
        refine g_iload_n m133_32 rfl ?_
        refine g_iload_n m133_33 rfl ?_
        refine h_cv (k := 57) (p := 89) (args := [.int (nI (ja)), .int (nI (jb))]) (rest := []) m133_34 cn_111 (Nat.le_of_ble_eq_true rfl) rfl rfl rfl (t_57 _ _) (Nat.le_of_ble_eq_true rfl) ?_
        refine c_its (w := jb) (by omega) (by omega) ?_
        refine gwr ?_
        refine g_goto m133_37 ?_
        refine g_iret m133_45 rt_133 ?_
        exact hY ja jb rfl (by omega) rfl (by omega)
    · skip
      refine gwr ?_
      refine h_if_neT (xi := 0) (zi := 0) m133_15 rfl rfl (by decide) ?_
      refine g_aload_n m133_18 rfl ?_
      refine g_ldci m133_19 rfl ?_
      refine h_cv (k := 57) (p := 89) (args := [.int (-1000000001)]) (rest := []) m133_21 cn_108 (Nat.le_of_ble_eq_true rfl) rfl rfl rfl (t_57 _ _) (Nat.le_of_ble_eq_true rfl) ?_
      refine c_errs (e := 1) (by decide) (by decide) (by decide) ?_
      refine gwr ?_
      refine g_iret m133_24 rt_133 ?_
      exact hE1 (by omega)
  · skip
    refine gwr ?_
    refine h_if_eqT (xi := 0) (zi := 0) m133_5 rfl rfl (by decide) ?_
    refine g_aload_n m133_18 rfl ?_
    refine g_ldci m133_19 rfl ?_
    refine h_cv (k := 57) (p := 89) (args := [.int (-1000000001)]) (rest := []) m133_21 cn_108 (Nat.le_of_ble_eq_true rfl) rfl rfl rfl (t_57 _ _) (Nat.le_of_ble_eq_true rfl) ?_
    refine c_errs (e := 1) (by decide) (by decide) (by decide) ?_
    refine gwr ?_
    refine g_iret m133_24 rt_133 ?_
    exact hE1 (by omega)
set_option maxRecDepth 20000 in
set_option maxHeartbeats 40000000 in
theorem x_change {a b c : Int32} {n : Nat} (hd : m 1 10 = nI n) (hn : n ≤ 8) (h01 : ∀ j, j < 8 → m 8 j = 0 ∨ m 8 j = 1) (hE1 : (a.toInt < 0 ∨ (n : Int) ≤ a.toInt ∨ b.toInt < 0 ∨ 3 < b.toInt ∨ c.toInt < 0 ∨ (b.toInt = 0 ∧ 99 < c.toInt) ∨ (b.toInt = 1 ∧ 9 < c.toInt) ∨ (b.toInt = 2 ∧ 99 < c.toInt) ∨ (b.toInt = 3 ∧ 1 < c.toInt)) → Q (some (.int (-1000000000 - nI 1))) (H (erm m 1) ln N)) (hY : ∀ i k z : Nat, a = nI i → i < n → b = nI k → k ≤ 3 → c = nI z → z ≤ 99 → (k = 1 → z ≤ 9) → (k = 3 → z ≤ 1) → Q (some (.int (m (5 + k) i))) (H (upm m (5 + k) i (nI z)) ln N)) : WP xs (d + 2) 63 0 0 [.ref (32), .int (a), .int (b), .int (c)] (H m ln N) Q := by
  refine wp_x mx_63 (L := [some (.ref (32)), some (.int (a)), some (.int (b)), some (.int (c)), none, none]) (Nat.le_of_ble_eq_true rfl) rfl ?_
  by_cases hb : b.toInt < 0 ∨ 3 < b.toInt
  · skip
    refine g_aload_n m63_0 rfl ?_
    refine g_iload_n m63_1 rfl ?_
    refine h_cv (k := 0) (p := 32) (args := [.int (a)]) (rest := []) m63_2 cn_60 (Nat.le_of_ble_eq_true rfl) rfl rfl rfl (t_0 _ _) (Nat.le_of_ble_eq_true rfl) ?_
    refine c_isDiner hd hn (fun ja ea a_4 => ?_) (fun a_4 => ?_)
    · subst ea
      refine gwr ?_
      refine h_if_eqF (xi := 1) (zi := 0) m63_5 rfl rfl (by decide) ?_
      refine g_iload_n m63_8 rfl ?_
      refine g_iconst m63_9 ?_
      refine g_cs (args := [.int (b), .int (3)]) (rest := []) 0 (Or.inl rfl) m63_10 (Nat.le_of_ble_eq_true rfl) rfl rfl (Nat.le_of_ble_eq_true rfl) ?_
      refine c_withinI (M := 3) (vi := b.toInt) rfl rfl (fun q => absurd q (by omega)) (fun _ => ?_)
      refine gwr ?_
      refine h_if_eqT (xi := 0) (zi := 0) m63_13 rfl rfl (by decide) ?_
      refine g_aload_n m63_27 rfl ?_
      refine g_iconst m63_28 ?_
      refine h_cv (k := 0) (p := 32) (args := [.int (1)]) (rest := []) m63_29 cn_55 (Nat.le_of_ble_eq_true rfl) rfl rfl rfl (t_0 _ _) (Nat.le_of_ble_eq_true rfl) ?_
      refine c_error (e := 1) (by decide) (by decide) ?_
      refine gwr ?_
      refine g_iret m63_32 rt_63 ?_
      exact hE1 (by omega)
    · skip
      refine gwr ?_
      refine h_if_eqT (xi := 0) (zi := 0) m63_5 rfl rfl (by decide) ?_
      refine g_aload_n m63_27 rfl ?_
      refine g_iconst m63_28 ?_
      refine h_cv (k := 0) (p := 32) (args := [.int (1)]) (rest := []) m63_29 cn_55 (Nat.le_of_ble_eq_true rfl) rfl rfl rfl (t_0 _ _) (Nat.le_of_ble_eq_true rfl) ?_
      refine c_error (e := 1) (by decide) (by decide) ?_
      refine gwr ?_
      refine g_iret m63_32 rt_63 ?_
      exact hE1 (by omega)
  · skip
    obtain ⟨kb, ⟨hkb1, hkb2⟩, hkb3⟩ := nat_of (x := b) (lo := 0) (hi := 3) (by omega) (by omega)
    obtain rfl : b = nI kb := hkb3
    rcases (show kb = 0 ∨ kb = 1 ∨ kb = 2 ∨ kb = 3 by omega) with rfl | rfl | rfl | rfl
    · have ebk : (nI 0).toInt = 0 := rfl
      refine gwl (L' := [some (.ref (32)), some (.int (a)), some (.int (0)), some (.int (c)), none, none]) rfl ?_
      refine g_aload_n m63_0 rfl ?_
      refine g_iload_n m63_1 rfl ?_
      refine h_cv (k := 0) (p := 32) (args := [.int (a)]) (rest := []) m63_2 cn_60 (Nat.le_of_ble_eq_true rfl) rfl rfl rfl (t_0 _ _) (Nat.le_of_ble_eq_true rfl) ?_
      refine c_isDiner hd hn (fun ja ea a_5 => ?_) (fun a_5 => ?_)
      · subst ea
        refine gwr ?_
        refine h_if_eqF (xi := 1) (zi := 0) m63_5 rfl rfl (by decide) ?_
        refine g_iload_n m63_8 rfl ?_
        refine g_iconst m63_9 ?_
        refine g_cs (args := [.int (0), .int (3)]) (rest := []) 0 (Or.inl rfl) m63_10 (Nat.le_of_ble_eq_true rfl) rfl rfl (Nat.le_of_ble_eq_true rfl) ?_
        refine c_withinI (M := 3) (vi := 0) rfl rfl (fun _ => ?_) (fun q => absurd q (by decide))
        refine gwr ?_
        refine h_if_eqF (xi := 1) (zi := 0) m63_13 rfl rfl (by decide) ?_
        refine g_iload_n m63_16 rfl ?_
        refine g_iload_n m63_17 rfl ?_
        refine g_cs (args := [.int (0)]) (rest := [.int (c)]) 0 (Or.inl rfl) m63_18 (Nat.le_of_ble_eq_true rfl) rfl rfl (Nat.le_of_ble_eq_true rfl) ?_
        refine c_mostToChangeTo (j := 0) (by decide) ?_
        refine gwr ?_
        refine gwst (st' := [.int 99, .int c]) rfl ?_
        refine g_cs (args := [.int (c), .int (99)]) (rest := []) 0 (Or.inl rfl) m63_21 (Nat.le_of_ble_eq_true rfl) rfl rfl (Nat.le_of_ble_eq_true rfl) ?_
        refine c_within (M := 99) rfl (fun jc ec a_7 => ?_) (fun a_7 => ?_)
        · subst ec
          refine gwr ?_
          refine h_if_neF (xi := 1) (zi := 0) m63_24 rfl rfl (by decide) ?_
          refine g_iload_n m63_33 rfl ?_
          refine g_iconst m63_34 ?_
          refine h_ic_neF (xi := 0) (zi := 3) m63_35 rfl rfl (by decide) ?_
          refine g_iload_n m63_79 rfl ?_
          refine h_if_neT (xi := 0) (zi := 0) m63_80 rfl rfl (by decide) ?_
          refine g_aload_n m63_83 rfl ?_
          refine h_gfR (c := 33) (k := 0) (p := 32) m63_84 rfl (t_0 _ _) rfl (Nat.le_of_ble_eq_true rfl) ?_
          refine h_gfR (c := 37) (k := 1) (p := 33) m63_87 rfl (t_1 _ _) rfl (Nat.le_of_ble_eq_true rfl) ?_
          refine g_goto m63_90 ?_
          refine g_astore (L2 := [some (.ref (32)), some (.int (nI (ja))), some (.int (0)), some (.int (nI (jc))), some (.ref (37)), none]) m63_115 rfl rfl ?_
          refine g_aload m63_117 rfl ?_
          refine g_iload_n m63_119 rfl ?_
          refine h_ial (k := 5) (p := 37) (j := ja) m63_120 rfl (t_5 _ _) (rfl) (by omega) (Nat.le_of_ble_eq_true rfl) (rfl) ?_
          refine g_istore (L2 := [some (.ref (32)), some (.int (nI (ja))), some (.int (0)), some (.int (nI (jc))), some (.ref (37)), some (.int (m (5) (ja)))]) m63_121 rfl rfl ?_
          refine g_aload m63_123 rfl ?_
          refine g_iload_n m63_125 rfl ?_
          refine g_iload_n m63_126 rfl ?_
          refine h_ias (k := 5) (p := 37) (j := ja) m63_127 rfl (t_5 _ _) (rfl) (by omega) (Nat.le_of_ble_eq_true rfl) ?_
          refine g_iload m63_128 rfl ?_
          refine g_iret m63_130 rt_63 ?_
          exact hY ja 0 jc rfl (by omega) rfl (by decide) rfl (by omega) (by omega) (by omega)
        · skip
          refine gwr ?_
          refine h_if_neT (xi := 0) (zi := 0) m63_24 rfl rfl (by decide) ?_
          refine g_aload_n m63_27 rfl ?_
          refine g_iconst m63_28 ?_
          refine h_cv (k := 0) (p := 32) (args := [.int (1)]) (rest := []) m63_29 cn_55 (Nat.le_of_ble_eq_true rfl) rfl rfl rfl (t_0 _ _) (Nat.le_of_ble_eq_true rfl) ?_
          refine c_error (e := 1) (by decide) (by decide) ?_
          refine gwr ?_
          refine g_iret m63_32 rt_63 ?_
          exact hE1 (by omega)
      · skip
        refine gwr ?_
        refine h_if_eqT (xi := 0) (zi := 0) m63_5 rfl rfl (by decide) ?_
        refine g_aload_n m63_27 rfl ?_
        refine g_iconst m63_28 ?_
        refine h_cv (k := 0) (p := 32) (args := [.int (1)]) (rest := []) m63_29 cn_55 (Nat.le_of_ble_eq_true rfl) rfl rfl rfl (t_0 _ _) (Nat.le_of_ble_eq_true rfl) ?_
        refine c_error (e := 1) (by decide) (by decide) ?_
        refine gwr ?_
        refine g_iret m63_32 rt_63 ?_
        exact hE1 (by omega)
    · have ebk : (nI 1).toInt = 1 := rfl
      refine gwl (L' := [some (.ref (32)), some (.int (a)), some (.int (1)), some (.int (c)), none, none]) rfl ?_
      refine g_aload_n m63_0 rfl ?_
      refine g_iload_n m63_1 rfl ?_
      refine h_cv (k := 0) (p := 32) (args := [.int (a)]) (rest := []) m63_2 cn_60 (Nat.le_of_ble_eq_true rfl) rfl rfl rfl (t_0 _ _) (Nat.le_of_ble_eq_true rfl) ?_
      refine c_isDiner hd hn (fun ja ea a_8 => ?_) (fun a_8 => ?_)
      · subst ea
        refine gwr ?_
        refine h_if_eqF (xi := 1) (zi := 0) m63_5 rfl rfl (by decide) ?_
        refine g_iload_n m63_8 rfl ?_
        refine g_iconst m63_9 ?_
        refine g_cs (args := [.int (1), .int (3)]) (rest := []) 0 (Or.inl rfl) m63_10 (Nat.le_of_ble_eq_true rfl) rfl rfl (Nat.le_of_ble_eq_true rfl) ?_
        refine c_withinI (M := 3) (vi := 1) rfl rfl (fun _ => ?_) (fun q => absurd q (by decide))
        refine gwr ?_
        refine h_if_eqF (xi := 1) (zi := 0) m63_13 rfl rfl (by decide) ?_
        refine g_iload_n m63_16 rfl ?_
        refine g_iload_n m63_17 rfl ?_
        refine g_cs (args := [.int (1)]) (rest := [.int (c)]) 0 (Or.inl rfl) m63_18 (Nat.le_of_ble_eq_true rfl) rfl rfl (Nat.le_of_ble_eq_true rfl) ?_
        refine c_mostToChangeTo (j := 1) (by decide) ?_
        refine gwr ?_
        refine gwst (st' := [.int 9, .int c]) rfl ?_
        refine g_cs (args := [.int (c), .int (9)]) (rest := []) 0 (Or.inl rfl) m63_21 (Nat.le_of_ble_eq_true rfl) rfl rfl (Nat.le_of_ble_eq_true rfl) ?_
        refine c_within (M := 9) rfl (fun jc ec a_10 => ?_) (fun a_10 => ?_)
        · subst ec
          refine gwr ?_
          refine h_if_neF (xi := 1) (zi := 0) m63_24 rfl rfl (by decide) ?_
          refine g_iload_n m63_33 rfl ?_
          refine g_iconst m63_34 ?_
          refine h_ic_neF (xi := 1) (zi := 3) m63_35 rfl rfl (by decide) ?_
          refine g_iload_n m63_79 rfl ?_
          refine h_if_neF (xi := 1) (zi := 0) m63_80 rfl rfl (by decide) ?_
          refine g_iload_n m63_93 rfl ?_
          refine g_iconst m63_94 ?_
          refine h_ic_neT (xi := 1) (zi := 1) m63_95 rfl rfl (by decide) ?_
          refine g_aload_n m63_98 rfl ?_
          refine h_gfR (c := 33) (k := 0) (p := 32) m63_99 rfl (t_0 _ _) rfl (Nat.le_of_ble_eq_true rfl) ?_
          refine h_gfR (c := 38) (k := 1) (p := 33) m63_102 rfl (t_1 _ _) rfl (Nat.le_of_ble_eq_true rfl) ?_
          refine g_goto m63_105 ?_
          refine g_astore (L2 := [some (.ref (32)), some (.int (nI (ja))), some (.int (1)), some (.int (nI (jc))), some (.ref (38)), none]) m63_115 rfl rfl ?_
          refine g_aload m63_117 rfl ?_
          refine g_iload_n m63_119 rfl ?_
          refine h_ial (k := 6) (p := 38) (j := ja) m63_120 rfl (t_6 _ _) (rfl) (by omega) (Nat.le_of_ble_eq_true rfl) (rfl) ?_
          refine g_istore (L2 := [some (.ref (32)), some (.int (nI (ja))), some (.int (1)), some (.int (nI (jc))), some (.ref (38)), some (.int (m (6) (ja)))]) m63_121 rfl rfl ?_
          refine g_aload m63_123 rfl ?_
          refine g_iload_n m63_125 rfl ?_
          refine g_iload_n m63_126 rfl ?_
          refine h_ias (k := 6) (p := 38) (j := ja) m63_127 rfl (t_6 _ _) (rfl) (by omega) (Nat.le_of_ble_eq_true rfl) ?_
          refine g_iload m63_128 rfl ?_
          refine g_iret m63_130 rt_63 ?_
          exact hY ja 1 jc rfl (by omega) rfl (by decide) rfl (by omega) (by omega) (by omega)
        · skip
          refine gwr ?_
          refine h_if_neT (xi := 0) (zi := 0) m63_24 rfl rfl (by decide) ?_
          refine g_aload_n m63_27 rfl ?_
          refine g_iconst m63_28 ?_
          refine h_cv (k := 0) (p := 32) (args := [.int (1)]) (rest := []) m63_29 cn_55 (Nat.le_of_ble_eq_true rfl) rfl rfl rfl (t_0 _ _) (Nat.le_of_ble_eq_true rfl) ?_
          refine c_error (e := 1) (by decide) (by decide) ?_
          refine gwr ?_
          refine g_iret m63_32 rt_63 ?_
          exact hE1 (by omega)
      · skip
        refine gwr ?_
        refine h_if_eqT (xi := 0) (zi := 0) m63_5 rfl rfl (by decide) ?_
        refine g_aload_n m63_27 rfl ?_
        refine g_iconst m63_28 ?_
        refine h_cv (k := 0) (p := 32) (args := [.int (1)]) (rest := []) m63_29 cn_55 (Nat.le_of_ble_eq_true rfl) rfl rfl rfl (t_0 _ _) (Nat.le_of_ble_eq_true rfl) ?_
        refine c_error (e := 1) (by decide) (by decide) ?_
        refine gwr ?_
        refine g_iret m63_32 rt_63 ?_
        exact hE1 (by omega)
    · have ebk : (nI 2).toInt = 2 := rfl
      refine gwl (L' := [some (.ref (32)), some (.int (a)), some (.int (2)), some (.int (c)), none, none]) rfl ?_
      refine g_aload_n m63_0 rfl ?_
      refine g_iload_n m63_1 rfl ?_
      refine h_cv (k := 0) (p := 32) (args := [.int (a)]) (rest := []) m63_2 cn_60 (Nat.le_of_ble_eq_true rfl) rfl rfl rfl (t_0 _ _) (Nat.le_of_ble_eq_true rfl) ?_
      refine c_isDiner hd hn (fun ja ea a_11 => ?_) (fun a_11 => ?_)
      · subst ea
        refine gwr ?_
        refine h_if_eqF (xi := 1) (zi := 0) m63_5 rfl rfl (by decide) ?_
        refine g_iload_n m63_8 rfl ?_
        refine g_iconst m63_9 ?_
        refine g_cs (args := [.int (2), .int (3)]) (rest := []) 0 (Or.inl rfl) m63_10 (Nat.le_of_ble_eq_true rfl) rfl rfl (Nat.le_of_ble_eq_true rfl) ?_
        refine c_withinI (M := 3) (vi := 2) rfl rfl (fun _ => ?_) (fun q => absurd q (by decide))
        refine gwr ?_
        refine h_if_eqF (xi := 1) (zi := 0) m63_13 rfl rfl (by decide) ?_
        refine g_iload_n m63_16 rfl ?_
        refine g_iload_n m63_17 rfl ?_
        refine g_cs (args := [.int (2)]) (rest := [.int (c)]) 0 (Or.inl rfl) m63_18 (Nat.le_of_ble_eq_true rfl) rfl rfl (Nat.le_of_ble_eq_true rfl) ?_
        refine c_mostToChangeTo (j := 2) (by decide) ?_
        refine gwr ?_
        refine gwst (st' := [.int 99, .int c]) rfl ?_
        refine g_cs (args := [.int (c), .int (99)]) (rest := []) 0 (Or.inl rfl) m63_21 (Nat.le_of_ble_eq_true rfl) rfl rfl (Nat.le_of_ble_eq_true rfl) ?_
        refine c_within (M := 99) rfl (fun jc ec a_13 => ?_) (fun a_13 => ?_)
        · subst ec
          refine gwr ?_
          refine h_if_neF (xi := 1) (zi := 0) m63_24 rfl rfl (by decide) ?_
          refine g_iload_n m63_33 rfl ?_
          refine g_iconst m63_34 ?_
          refine h_ic_neF (xi := 2) (zi := 3) m63_35 rfl rfl (by decide) ?_
          refine g_iload_n m63_79 rfl ?_
          refine h_if_neF (xi := 2) (zi := 0) m63_80 rfl rfl (by decide) ?_
          refine g_iload_n m63_93 rfl ?_
          refine g_iconst m63_94 ?_
          refine h_ic_neF (xi := 2) (zi := 1) m63_95 rfl rfl (by decide) ?_
          refine g_aload_n m63_108 rfl ?_
          refine h_gfR (c := 33) (k := 0) (p := 32) m63_109 rfl (t_0 _ _) rfl (Nat.le_of_ble_eq_true rfl) ?_
          refine h_gfR (c := 39) (k := 1) (p := 33) m63_112 rfl (t_1 _ _) rfl (Nat.le_of_ble_eq_true rfl) ?_
          refine g_astore (L2 := [some (.ref (32)), some (.int (nI (ja))), some (.int (2)), some (.int (nI (jc))), some (.ref (39)), none]) m63_115 rfl rfl ?_
          refine g_aload m63_117 rfl ?_
          refine g_iload_n m63_119 rfl ?_
          refine h_ial (k := 7) (p := 39) (j := ja) m63_120 rfl (t_7 _ _) (rfl) (by omega) (Nat.le_of_ble_eq_true rfl) (rfl) ?_
          refine g_istore (L2 := [some (.ref (32)), some (.int (nI (ja))), some (.int (2)), some (.int (nI (jc))), some (.ref (39)), some (.int (m (7) (ja)))]) m63_121 rfl rfl ?_
          refine g_aload m63_123 rfl ?_
          refine g_iload_n m63_125 rfl ?_
          refine g_iload_n m63_126 rfl ?_
          refine h_ias (k := 7) (p := 39) (j := ja) m63_127 rfl (t_7 _ _) (rfl) (by omega) (Nat.le_of_ble_eq_true rfl) ?_
          refine g_iload m63_128 rfl ?_
          refine g_iret m63_130 rt_63 ?_
          exact hY ja 2 jc rfl (by omega) rfl (by decide) rfl (by omega) (by omega) (by omega)
        · skip
          refine gwr ?_
          refine h_if_neT (xi := 0) (zi := 0) m63_24 rfl rfl (by decide) ?_
          refine g_aload_n m63_27 rfl ?_
          refine g_iconst m63_28 ?_
          refine h_cv (k := 0) (p := 32) (args := [.int (1)]) (rest := []) m63_29 cn_55 (Nat.le_of_ble_eq_true rfl) rfl rfl rfl (t_0 _ _) (Nat.le_of_ble_eq_true rfl) ?_
          refine c_error (e := 1) (by decide) (by decide) ?_
          refine gwr ?_
          refine g_iret m63_32 rt_63 ?_
          exact hE1 (by omega)
      · skip
        refine gwr ?_
        refine h_if_eqT (xi := 0) (zi := 0) m63_5 rfl rfl (by decide) ?_
        refine g_aload_n m63_27 rfl ?_
        refine g_iconst m63_28 ?_
        refine h_cv (k := 0) (p := 32) (args := [.int (1)]) (rest := []) m63_29 cn_55 (Nat.le_of_ble_eq_true rfl) rfl rfl rfl (t_0 _ _) (Nat.le_of_ble_eq_true rfl) ?_
        refine c_error (e := 1) (by decide) (by decide) ?_
        refine gwr ?_
        refine g_iret m63_32 rt_63 ?_
        exact hE1 (by omega)
    · have ebk : (nI 3).toInt = 3 := rfl
      refine gwl (L' := [some (.ref (32)), some (.int (a)), some (.int (3)), some (.int (c)), none, none]) rfl ?_
      refine g_aload_n m63_0 rfl ?_
      refine g_iload_n m63_1 rfl ?_
      refine h_cv (k := 0) (p := 32) (args := [.int (a)]) (rest := []) m63_2 cn_60 (Nat.le_of_ble_eq_true rfl) rfl rfl rfl (t_0 _ _) (Nat.le_of_ble_eq_true rfl) ?_
      refine c_isDiner hd hn (fun ja ea a_14 => ?_) (fun a_14 => ?_)
      · subst ea
        refine gwr ?_
        refine h_if_eqF (xi := 1) (zi := 0) m63_5 rfl rfl (by decide) ?_
        refine g_iload_n m63_8 rfl ?_
        refine g_iconst m63_9 ?_
        refine g_cs (args := [.int (3), .int (3)]) (rest := []) 0 (Or.inl rfl) m63_10 (Nat.le_of_ble_eq_true rfl) rfl rfl (Nat.le_of_ble_eq_true rfl) ?_
        refine c_withinI (M := 3) (vi := 3) rfl rfl (fun _ => ?_) (fun q => absurd q (by decide))
        refine gwr ?_
        refine h_if_eqF (xi := 1) (zi := 0) m63_13 rfl rfl (by decide) ?_
        refine g_iload_n m63_16 rfl ?_
        refine g_iload_n m63_17 rfl ?_
        refine g_cs (args := [.int (3)]) (rest := [.int (c)]) 0 (Or.inl rfl) m63_18 (Nat.le_of_ble_eq_true rfl) rfl rfl (Nat.le_of_ble_eq_true rfl) ?_
        refine c_mostToChangeTo (j := 3) (by decide) ?_
        refine gwr ?_
        refine gwst (st' := [.int 1, .int c]) rfl ?_
        refine g_cs (args := [.int (c), .int (1)]) (rest := []) 0 (Or.inl rfl) m63_21 (Nat.le_of_ble_eq_true rfl) rfl rfl (Nat.le_of_ble_eq_true rfl) ?_
        refine c_within (M := 1) rfl (fun jc ec a_16 => ?_) (fun a_16 => ?_)
        · subst ec
          refine gwr ?_
          refine h_if_neF (xi := 1) (zi := 0) m63_24 rfl rfl (by decide) ?_
          refine g_iload_n m63_33 rfl ?_
          refine g_iconst m63_34 ?_
          refine h_ic_neT (xi := 3) (zi := 3) m63_35 rfl rfl (by decide) ?_
          refine g_aload_n m63_38 rfl ?_
          refine h_gfR (c := 33) (k := 0) (p := 32) m63_39 rfl (t_0 _ _) rfl (Nat.le_of_ble_eq_true rfl) ?_
          refine h_gfR (c := 40) (k := 1) (p := 33) m63_42 rfl (t_1 _ _) rfl (Nat.le_of_ble_eq_true rfl) ?_
          refine g_iload_n m63_45 rfl ?_
          refine h_bal (k := 8) (p := 40) (j := ja) m63_46 rfl (t_8 _ _) (rfl) (by omega) (Nat.le_of_ble_eq_true rfl) (rfl) ?_
          refine h_if_eq (xi := _) (zi := 0) m63_47 rfl rfl (fun c1 => ?_) (fun c1 => ?_)
          · skip
            refine g_iconst m63_54 ?_
            refine g_istore (L2 := [some (.ref (32)), some (.int (nI (ja))), some (.int (3)), some (.int (nI (jc))), some (.int (0)), none]) m63_55 rfl rfl ?_
            refine g_aload_n m63_57 rfl ?_
            refine h_gfR (c := 33) (k := 0) (p := 32) m63_58 rfl (t_0 _ _) rfl (Nat.le_of_ble_eq_true rfl) ?_
            refine h_gfR (c := 40) (k := 1) (p := 33) m63_61 rfl (t_1 _ _) rfl (Nat.le_of_ble_eq_true rfl) ?_
            refine g_iload_n m63_64 rfl ?_
            refine g_iload_n m63_65 rfl ?_
            refine g_iconst m63_66 ?_
            refine h_ic_ne (xi := ((jc : Nat) : Int)) (zi := 1) m63_67 (nI_toInt (by omega)) rfl (fun c2 => ?_) (fun c2 => ?_)
            · skip
              refine g_iconst m63_70 ?_
              refine g_goto m63_71 ?_
              refine h_bas (k := 8) (p := 40) (j := ja) m63_75 rfl (t_8 _ _) (rfl) (by omega) (Nat.le_of_ble_eq_true rfl) (Or.inr rfl) ?_
              refine g_iload m63_76 rfl ?_
              refine g_iret m63_78 rt_63 ?_
              have e1 : m 8 ja = 0 := (h01 ja (by omega)).resolve_right (fun q => by rw [q] at c1; exact absurd c1 (by decide))
              obtain rfl : jc = 1 := by omega
              have h9 := hY ja 3 1 rfl (by omega) rfl (by decide) rfl (by decide) (by decide) (by decide)
              rw [show m (5 + 3) ja = 0 from e1] at h9
              exact h9
            · skip
              refine g_iconst m63_74 ?_
              refine h_bas (k := 8) (p := 40) (j := ja) m63_75 rfl (t_8 _ _) (rfl) (by omega) (Nat.le_of_ble_eq_true rfl) (Or.inl rfl) ?_
              refine g_iload m63_76 rfl ?_
              refine g_iret m63_78 rt_63 ?_
              have e1 : m 8 ja = 0 := (h01 ja (by omega)).resolve_right (fun q => by rw [q] at c1; exact absurd c1 (by decide))
              obtain rfl : jc = 0 := by omega
              have h9 := hY ja 3 0 rfl (by omega) rfl (by decide) rfl (by decide) (by decide) (by decide)
              rw [show m (5 + 3) ja = 0 from e1] at h9
              exact h9
          · skip
            refine g_iconst m63_50 ?_
            refine g_goto m63_51 ?_
            refine g_istore (L2 := [some (.ref (32)), some (.int (nI (ja))), some (.int (3)), some (.int (nI (jc))), some (.int (1)), none]) m63_55 rfl rfl ?_
            refine g_aload_n m63_57 rfl ?_
            refine h_gfR (c := 33) (k := 0) (p := 32) m63_58 rfl (t_0 _ _) rfl (Nat.le_of_ble_eq_true rfl) ?_
            refine h_gfR (c := 40) (k := 1) (p := 33) m63_61 rfl (t_1 _ _) rfl (Nat.le_of_ble_eq_true rfl) ?_
            refine g_iload_n m63_64 rfl ?_
            refine g_iload_n m63_65 rfl ?_
            refine g_iconst m63_66 ?_
            refine h_ic_ne (xi := ((jc : Nat) : Int)) (zi := 1) m63_67 (nI_toInt (by omega)) rfl (fun c3 => ?_) (fun c3 => ?_)
            · skip
              refine g_iconst m63_70 ?_
              refine g_goto m63_71 ?_
              refine h_bas (k := 8) (p := 40) (j := ja) m63_75 rfl (t_8 _ _) (rfl) (by omega) (Nat.le_of_ble_eq_true rfl) (Or.inr rfl) ?_
              refine g_iload m63_76 rfl ?_
              refine g_iret m63_78 rt_63 ?_
              have e1 : m 8 ja = 1 := (h01 ja (by omega)).resolve_left (fun q => by rw [q] at c1; exact absurd c1 (by decide))
              obtain rfl : jc = 1 := by omega
              have h9 := hY ja 3 1 rfl (by omega) rfl (by decide) rfl (by decide) (by decide) (by decide)
              rw [show m (5 + 3) ja = 1 from e1] at h9
              exact h9
            · skip
              refine g_iconst m63_74 ?_
              refine h_bas (k := 8) (p := 40) (j := ja) m63_75 rfl (t_8 _ _) (rfl) (by omega) (Nat.le_of_ble_eq_true rfl) (Or.inl rfl) ?_
              refine g_iload m63_76 rfl ?_
              refine g_iret m63_78 rt_63 ?_
              have e1 : m 8 ja = 1 := (h01 ja (by omega)).resolve_left (fun q => by rw [q] at c1; exact absurd c1 (by decide))
              obtain rfl : jc = 0 := by omega
              have h9 := hY ja 3 0 rfl (by omega) rfl (by decide) rfl (by decide) (by decide) (by decide)
              rw [show m (5 + 3) ja = 1 from e1] at h9
              exact h9
        · skip
          refine gwr ?_
          refine h_if_neT (xi := 0) (zi := 0) m63_24 rfl rfl (by decide) ?_
          refine g_aload_n m63_27 rfl ?_
          refine g_iconst m63_28 ?_
          refine h_cv (k := 0) (p := 32) (args := [.int (1)]) (rest := []) m63_29 cn_55 (Nat.le_of_ble_eq_true rfl) rfl rfl rfl (t_0 _ _) (Nat.le_of_ble_eq_true rfl) ?_
          refine c_error (e := 1) (by decide) (by decide) ?_
          refine gwr ?_
          refine g_iret m63_32 rt_63 ?_
          exact hE1 (by omega)
      · skip
        refine gwr ?_
        refine h_if_eqT (xi := 0) (zi := 0) m63_5 rfl rfl (by decide) ?_
        refine g_aload_n m63_27 rfl ?_
        refine g_iconst m63_28 ?_
        refine h_cv (k := 0) (p := 32) (args := [.int (1)]) (rest := []) m63_29 cn_55 (Nat.le_of_ble_eq_true rfl) rfl rfl rfl (t_0 _ _) (Nat.le_of_ble_eq_true rfl) ?_
        refine c_error (e := 1) (by decide) (by decide) ?_
        refine gwr ?_
        refine g_iret m63_32 rt_63 ?_
        exact hE1 (by omega)
set_option maxRecDepth 20000 in
set_option maxHeartbeats 40000000 in
theorem m_change {a b c : Int32} {n : Nat} (hd : m 58 2 = nI n) (hn : n ≤ 8) (hE1 : (a.toInt < 0 ∨ (n : Int) ≤ a.toInt ∨ b.toInt < 0 ∨ 3 < b.toInt ∨ c.toInt < 0 ∨ (b.toInt = 0 ∧ 99 < c.toInt) ∨ (b.toInt = 1 ∧ 9 < c.toInt) ∨ (b.toInt = 2 ∧ 99 < c.toInt) ∨ (b.toInt = 3 ∧ 1 < c.toInt)) → Q (some (.int (-1000000001))) (H (ers m 1) ln N)) (hY : ∀ i k z : Nat, a = nI i → i < n → b = nI k → k ≤ 3 → c = nI z → z ≤ 99 → (k = 1 → z ≤ 9) → (k = 3 → z ≤ 1) → Q (some (.int (m 58 (16 + 6 * i + 2 + k)))) (H (upm m 58 (16 + 6 * i + 2 + k) (nI z)) ln N)) : WP xs (d + 3) 134 0 0 [.ref (89), .int (a), .int (b), .int (c)] (H m ln N) Q := by
  refine wp_x mx_134 (L := [some (.ref (89)), some (.int (a)), some (.int (b)), some (.int (c)), none]) (Nat.le_of_ble_eq_true rfl) rfl ?_
  by_cases hb : b.toInt < 0 ∨ 3 < b.toInt
  · skip
    refine g_iload_n m134_0 rfl ?_
    refine h_if_eqF (xi := b.toInt) (zi := 0) m134_1 rfl rfl (by omega) ?_
    refine g_iload_n m134_4 rfl ?_
    refine g_iconst m134_5 ?_
    refine h_ic_neF (xi := b.toInt) (zi := 2) m134_6 rfl rfl (by omega) ?_
    refine g_iload_n m134_19 rfl ?_
    refine g_iconst m134_20 ?_
    refine h_ic_neF (xi := b.toInt) (zi := 1) m134_21 rfl rfl (by omega) ?_
    refine g_iload_n m134_34 rfl ?_
    refine g_iconst m134_35 ?_
    refine h_ic_neF (xi := b.toInt) (zi := 3) m134_36 rfl rfl (by omega) ?_
    refine g_iconst m134_52 ?_
    refine g_istore (L2 := [some (.ref (89)), some (.int (a)), some (.int (b)), some (.int (c)), some (.int (0))]) m134_53 rfl rfl ?_
    refine g_aload_n m134_55 rfl ?_
    refine g_iload_n m134_56 rfl ?_
    refine h_cv (k := 57) (p := 89) (args := [.int (a)]) (rest := []) m134_57 cn_113 (Nat.le_of_ble_eq_true rfl) rfl rfl rfl (t_57 _ _) (Nat.le_of_ble_eq_true rfl) ?_
    refine c_isDinerM hd hn (fun ja ea a_17 => ?_) (fun a_17 => ?_)
    · subst ea
      refine gwr ?_
      refine h_if_eqF (xi := 1) (zi := 0) m134_60 rfl rfl (by decide) ?_
      refine g_iload m134_63 rfl ?_
      refine h_if_eqT (xi := 0) (zi := 0) m134_65 rfl rfl (by decide) ?_
      refine g_aload_n m134_87 rfl ?_
      refine g_ldci m134_88 rfl ?_
      refine h_cv (k := 57) (p := 89) (args := [.int (-1000000001)]) (rest := []) m134_90 cn_108 (Nat.le_of_ble_eq_true rfl) rfl rfl rfl (t_57 _ _) (Nat.le_of_ble_eq_true rfl) ?_
      refine c_errs (e := 1) (by decide) (by decide) (by decide) ?_
      refine gwr ?_
      refine g_iret m134_93 rt_134 ?_
      exact hE1 (by omega)
    · skip
      refine gwr ?_
      refine h_if_eqT (xi := 0) (zi := 0) m134_60 rfl rfl (by decide) ?_
      refine g_aload_n m134_87 rfl ?_
      refine g_ldci m134_88 rfl ?_
      refine h_cv (k := 57) (p := 89) (args := [.int (-1000000001)]) (rest := []) m134_90 cn_108 (Nat.le_of_ble_eq_true rfl) rfl rfl rfl (t_57 _ _) (Nat.le_of_ble_eq_true rfl) ?_
      refine c_errs (e := 1) (by decide) (by decide) (by decide) ?_
      refine gwr ?_
      refine g_iret m134_93 rt_134 ?_
      exact hE1 (by omega)
  · skip
    obtain ⟨kb, ⟨hkb1, hkb2⟩, hkb3⟩ := nat_of (x := b) (lo := 0) (hi := 3) (by omega) (by omega)
    obtain rfl : b = nI kb := hkb3
    rcases (show kb = 0 ∨ kb = 1 ∨ kb = 2 ∨ kb = 3 by omega) with rfl | rfl | rfl | rfl
    · have ebk : (nI 0).toInt = 0 := rfl
      refine gwl (L' := [some (.ref (89)), some (.int (a)), some (.int (0)), some (.int (c)), none]) rfl ?_
      refine g_iload_n m134_0 rfl ?_
      refine h_if_eqT (xi := 0) (zi := 0) m134_1 rfl rfl (by decide) ?_
      refine g_iload_n m134_9 rfl ?_
      refine g_iconst m134_10 ?_
      refine g_bipush m134_11 ?_
      refine g_cs (args := [.int (c), .int (0), .int (99)]) (rest := []) 0 (Or.inl rfl) m134_13 (Nat.le_of_ble_eq_true rfl) rfl rfl (Nat.le_of_ble_eq_true rfl) ?_
      refine c_in (A := 0) (B := 99) rfl rfl (by decide) (fun jc ec a_18 a_18' => ?_) (fun a_18 => ?_)
      · subst ec
        refine gwr ?_
        refine g_goto m134_16 ?_
        refine g_istore (L2 := [some (.ref (89)), some (.int (a)), some (.int (0)), some (.int (nI (jc))), some (.int (1))]) m134_53 rfl rfl ?_
        refine g_aload_n m134_55 rfl ?_
        refine g_iload_n m134_56 rfl ?_
        refine h_cv (k := 57) (p := 89) (args := [.int (a)]) (rest := []) m134_57 cn_113 (Nat.le_of_ble_eq_true rfl) rfl rfl rfl (t_57 _ _) (Nat.le_of_ble_eq_true rfl) ?_
        refine c_isDinerM hd hn (fun ja ea a_19 => ?_) (fun a_19 => ?_)
        · subst ea
          refine gwr ?_
          refine h_if_eqF (xi := 1) (zi := 0) m134_60 rfl rfl (by decide) ?_
          refine g_iload m134_63 rfl ?_
          refine h_if_eqF (xi := 1) (zi := 0) m134_65 rfl rfl (by decide) ?_
          refine g_aload_n m134_68 rfl ?_
          refine g_bipush m134_69 ?_
          refine g_bipush m134_71 ?_
          refine g_iload_n m134_73 rfl ?_
          refine g_imul (u := nI (6 * ja)) m134_74 (pk_mul 6 ja) ?_
          refine g_iadd (u := nI (16 + (6 * ja))) m134_75 (nI_add 16 (6 * ja)) ?_
          refine g_iconst m134_76 ?_
          refine g_iadd (u := nI ((16 + (6 * ja)) + 2)) m134_77 (nI_add (16 + (6 * ja)) 2) ?_
          refine g_iload_n m134_78 rfl ?_
          refine g_iadd (u := nI (((16 + (6 * ja)) + 2) + 0)) m134_79 (nI_add ((16 + (6 * ja)) + 2) 0) ?_
          refine g_iload_n m134_80 rfl ?_
          refine h_cv (k := 57) (p := 89) (args := [.int (nI (((16 + (6 * ja)) + 2) + 0)), .int (nI (jc))]) (rest := []) m134_81 cn_114 (Nat.le_of_ble_eq_true rfl) rfl rfl rfl (t_57 _ _) (Nat.le_of_ble_eq_true rfl) ?_
          refine c_becomes (a := 16 + 6 * ja + 2 + 0) (by omega) ?_
          refine gwr ?_
          refine g_goto m134_84 ?_
          refine g_iret m134_93 rt_134 ?_
          exact hY ja 0 jc rfl (by omega) rfl (by decide) rfl (by omega) (by omega) (by omega)
        · skip
          refine gwr ?_
          refine h_if_eqT (xi := 0) (zi := 0) m134_60 rfl rfl (by decide) ?_
          refine g_aload_n m134_87 rfl ?_
          refine g_ldci m134_88 rfl ?_
          refine h_cv (k := 57) (p := 89) (args := [.int (-1000000001)]) (rest := []) m134_90 cn_108 (Nat.le_of_ble_eq_true rfl) rfl rfl rfl (t_57 _ _) (Nat.le_of_ble_eq_true rfl) ?_
          refine c_errs (e := 1) (by decide) (by decide) (by decide) ?_
          refine gwr ?_
          refine g_iret m134_93 rt_134 ?_
          exact hE1 (by omega)
      · skip
        refine gwr ?_
        refine g_goto m134_16 ?_
        refine g_istore (L2 := [some (.ref (89)), some (.int (a)), some (.int (0)), some (.int (c)), some (.int (0))]) m134_53 rfl rfl ?_
        refine g_aload_n m134_55 rfl ?_
        refine g_iload_n m134_56 rfl ?_
        refine h_cv (k := 57) (p := 89) (args := [.int (a)]) (rest := []) m134_57 cn_113 (Nat.le_of_ble_eq_true rfl) rfl rfl rfl (t_57 _ _) (Nat.le_of_ble_eq_true rfl) ?_
        refine c_isDinerM hd hn (fun ja ea a_20 => ?_) (fun a_20 => ?_)
        · subst ea
          refine gwr ?_
          refine h_if_eqF (xi := 1) (zi := 0) m134_60 rfl rfl (by decide) ?_
          refine g_iload m134_63 rfl ?_
          refine h_if_eqT (xi := 0) (zi := 0) m134_65 rfl rfl (by decide) ?_
          refine g_aload_n m134_87 rfl ?_
          refine g_ldci m134_88 rfl ?_
          refine h_cv (k := 57) (p := 89) (args := [.int (-1000000001)]) (rest := []) m134_90 cn_108 (Nat.le_of_ble_eq_true rfl) rfl rfl rfl (t_57 _ _) (Nat.le_of_ble_eq_true rfl) ?_
          refine c_errs (e := 1) (by decide) (by decide) (by decide) ?_
          refine gwr ?_
          refine g_iret m134_93 rt_134 ?_
          exact hE1 (by omega)
        · skip
          refine gwr ?_
          refine h_if_eqT (xi := 0) (zi := 0) m134_60 rfl rfl (by decide) ?_
          refine g_aload_n m134_87 rfl ?_
          refine g_ldci m134_88 rfl ?_
          refine h_cv (k := 57) (p := 89) (args := [.int (-1000000001)]) (rest := []) m134_90 cn_108 (Nat.le_of_ble_eq_true rfl) rfl rfl rfl (t_57 _ _) (Nat.le_of_ble_eq_true rfl) ?_
          refine c_errs (e := 1) (by decide) (by decide) (by decide) ?_
          refine gwr ?_
          refine g_iret m134_93 rt_134 ?_
          exact hE1 (by omega)
    · have ebk : (nI 1).toInt = 1 := rfl
      refine gwl (L' := [some (.ref (89)), some (.int (a)), some (.int (1)), some (.int (c)), none]) rfl ?_
      refine g_iload_n m134_0 rfl ?_
      refine h_if_eqF (xi := 1) (zi := 0) m134_1 rfl rfl (by decide) ?_
      refine g_iload_n m134_4 rfl ?_
      refine g_iconst m134_5 ?_
      refine h_ic_neF (xi := 1) (zi := 2) m134_6 rfl rfl (by decide) ?_
      refine g_iload_n m134_19 rfl ?_
      refine g_iconst m134_20 ?_
      refine h_ic_neT (xi := 1) (zi := 1) m134_21 rfl rfl (by decide) ?_
      refine g_iload_n m134_24 rfl ?_
      refine g_iconst m134_25 ?_
      refine g_bipush m134_26 ?_
      refine g_cs (args := [.int (c), .int (0), .int (9)]) (rest := []) 0 (Or.inl rfl) m134_28 (Nat.le_of_ble_eq_true rfl) rfl rfl (Nat.le_of_ble_eq_true rfl) ?_
      refine c_in (A := 0) (B := 9) rfl rfl (by decide) (fun jc ec a_21 a_21' => ?_) (fun a_21 => ?_)
      · subst ec
        refine gwr ?_
        refine g_goto m134_31 ?_
        refine g_istore (L2 := [some (.ref (89)), some (.int (a)), some (.int (1)), some (.int (nI (jc))), some (.int (1))]) m134_53 rfl rfl ?_
        refine g_aload_n m134_55 rfl ?_
        refine g_iload_n m134_56 rfl ?_
        refine h_cv (k := 57) (p := 89) (args := [.int (a)]) (rest := []) m134_57 cn_113 (Nat.le_of_ble_eq_true rfl) rfl rfl rfl (t_57 _ _) (Nat.le_of_ble_eq_true rfl) ?_
        refine c_isDinerM hd hn (fun ja ea a_22 => ?_) (fun a_22 => ?_)
        · subst ea
          refine gwr ?_
          refine h_if_eqF (xi := 1) (zi := 0) m134_60 rfl rfl (by decide) ?_
          refine g_iload m134_63 rfl ?_
          refine h_if_eqF (xi := 1) (zi := 0) m134_65 rfl rfl (by decide) ?_
          refine g_aload_n m134_68 rfl ?_
          refine g_bipush m134_69 ?_
          refine g_bipush m134_71 ?_
          refine g_iload_n m134_73 rfl ?_
          refine g_imul (u := nI (6 * ja)) m134_74 (pk_mul 6 ja) ?_
          refine g_iadd (u := nI (16 + (6 * ja))) m134_75 (nI_add 16 (6 * ja)) ?_
          refine g_iconst m134_76 ?_
          refine g_iadd (u := nI ((16 + (6 * ja)) + 2)) m134_77 (nI_add (16 + (6 * ja)) 2) ?_
          refine g_iload_n m134_78 rfl ?_
          refine g_iadd (u := nI (((16 + (6 * ja)) + 2) + 1)) m134_79 (nI_add ((16 + (6 * ja)) + 2) 1) ?_
          refine g_iload_n m134_80 rfl ?_
          refine h_cv (k := 57) (p := 89) (args := [.int (nI (((16 + (6 * ja)) + 2) + 1)), .int (nI (jc))]) (rest := []) m134_81 cn_114 (Nat.le_of_ble_eq_true rfl) rfl rfl rfl (t_57 _ _) (Nat.le_of_ble_eq_true rfl) ?_
          refine c_becomes (a := 16 + 6 * ja + 2 + 1) (by omega) ?_
          refine gwr ?_
          refine g_goto m134_84 ?_
          refine g_iret m134_93 rt_134 ?_
          exact hY ja 1 jc rfl (by omega) rfl (by decide) rfl (by omega) (by omega) (by omega)
        · skip
          refine gwr ?_
          refine h_if_eqT (xi := 0) (zi := 0) m134_60 rfl rfl (by decide) ?_
          refine g_aload_n m134_87 rfl ?_
          refine g_ldci m134_88 rfl ?_
          refine h_cv (k := 57) (p := 89) (args := [.int (-1000000001)]) (rest := []) m134_90 cn_108 (Nat.le_of_ble_eq_true rfl) rfl rfl rfl (t_57 _ _) (Nat.le_of_ble_eq_true rfl) ?_
          refine c_errs (e := 1) (by decide) (by decide) (by decide) ?_
          refine gwr ?_
          refine g_iret m134_93 rt_134 ?_
          exact hE1 (by omega)
      · skip
        refine gwr ?_
        refine g_goto m134_31 ?_
        refine g_istore (L2 := [some (.ref (89)), some (.int (a)), some (.int (1)), some (.int (c)), some (.int (0))]) m134_53 rfl rfl ?_
        refine g_aload_n m134_55 rfl ?_
        refine g_iload_n m134_56 rfl ?_
        refine h_cv (k := 57) (p := 89) (args := [.int (a)]) (rest := []) m134_57 cn_113 (Nat.le_of_ble_eq_true rfl) rfl rfl rfl (t_57 _ _) (Nat.le_of_ble_eq_true rfl) ?_
        refine c_isDinerM hd hn (fun ja ea a_23 => ?_) (fun a_23 => ?_)
        · subst ea
          refine gwr ?_
          refine h_if_eqF (xi := 1) (zi := 0) m134_60 rfl rfl (by decide) ?_
          refine g_iload m134_63 rfl ?_
          refine h_if_eqT (xi := 0) (zi := 0) m134_65 rfl rfl (by decide) ?_
          refine g_aload_n m134_87 rfl ?_
          refine g_ldci m134_88 rfl ?_
          refine h_cv (k := 57) (p := 89) (args := [.int (-1000000001)]) (rest := []) m134_90 cn_108 (Nat.le_of_ble_eq_true rfl) rfl rfl rfl (t_57 _ _) (Nat.le_of_ble_eq_true rfl) ?_
          refine c_errs (e := 1) (by decide) (by decide) (by decide) ?_
          refine gwr ?_
          refine g_iret m134_93 rt_134 ?_
          exact hE1 (by omega)
        · skip
          refine gwr ?_
          refine h_if_eqT (xi := 0) (zi := 0) m134_60 rfl rfl (by decide) ?_
          refine g_aload_n m134_87 rfl ?_
          refine g_ldci m134_88 rfl ?_
          refine h_cv (k := 57) (p := 89) (args := [.int (-1000000001)]) (rest := []) m134_90 cn_108 (Nat.le_of_ble_eq_true rfl) rfl rfl rfl (t_57 _ _) (Nat.le_of_ble_eq_true rfl) ?_
          refine c_errs (e := 1) (by decide) (by decide) (by decide) ?_
          refine gwr ?_
          refine g_iret m134_93 rt_134 ?_
          exact hE1 (by omega)
    · have ebk : (nI 2).toInt = 2 := rfl
      refine gwl (L' := [some (.ref (89)), some (.int (a)), some (.int (2)), some (.int (c)), none]) rfl ?_
      refine g_iload_n m134_0 rfl ?_
      refine h_if_eqF (xi := 2) (zi := 0) m134_1 rfl rfl (by decide) ?_
      refine g_iload_n m134_4 rfl ?_
      refine g_iconst m134_5 ?_
      refine h_ic_neT (xi := 2) (zi := 2) m134_6 rfl rfl (by decide) ?_
      refine g_iload_n m134_9 rfl ?_
      refine g_iconst m134_10 ?_
      refine g_bipush m134_11 ?_
      refine g_cs (args := [.int (c), .int (0), .int (99)]) (rest := []) 0 (Or.inl rfl) m134_13 (Nat.le_of_ble_eq_true rfl) rfl rfl (Nat.le_of_ble_eq_true rfl) ?_
      refine c_in (A := 0) (B := 99) rfl rfl (by decide) (fun jc ec a_24 a_24' => ?_) (fun a_24 => ?_)
      · subst ec
        refine gwr ?_
        refine g_goto m134_16 ?_
        refine g_istore (L2 := [some (.ref (89)), some (.int (a)), some (.int (2)), some (.int (nI (jc))), some (.int (1))]) m134_53 rfl rfl ?_
        refine g_aload_n m134_55 rfl ?_
        refine g_iload_n m134_56 rfl ?_
        refine h_cv (k := 57) (p := 89) (args := [.int (a)]) (rest := []) m134_57 cn_113 (Nat.le_of_ble_eq_true rfl) rfl rfl rfl (t_57 _ _) (Nat.le_of_ble_eq_true rfl) ?_
        refine c_isDinerM hd hn (fun ja ea a_25 => ?_) (fun a_25 => ?_)
        · subst ea
          refine gwr ?_
          refine h_if_eqF (xi := 1) (zi := 0) m134_60 rfl rfl (by decide) ?_
          refine g_iload m134_63 rfl ?_
          refine h_if_eqF (xi := 1) (zi := 0) m134_65 rfl rfl (by decide) ?_
          refine g_aload_n m134_68 rfl ?_
          refine g_bipush m134_69 ?_
          refine g_bipush m134_71 ?_
          refine g_iload_n m134_73 rfl ?_
          refine g_imul (u := nI (6 * ja)) m134_74 (pk_mul 6 ja) ?_
          refine g_iadd (u := nI (16 + (6 * ja))) m134_75 (nI_add 16 (6 * ja)) ?_
          refine g_iconst m134_76 ?_
          refine g_iadd (u := nI ((16 + (6 * ja)) + 2)) m134_77 (nI_add (16 + (6 * ja)) 2) ?_
          refine g_iload_n m134_78 rfl ?_
          refine g_iadd (u := nI (((16 + (6 * ja)) + 2) + 2)) m134_79 (nI_add ((16 + (6 * ja)) + 2) 2) ?_
          refine g_iload_n m134_80 rfl ?_
          refine h_cv (k := 57) (p := 89) (args := [.int (nI (((16 + (6 * ja)) + 2) + 2)), .int (nI (jc))]) (rest := []) m134_81 cn_114 (Nat.le_of_ble_eq_true rfl) rfl rfl rfl (t_57 _ _) (Nat.le_of_ble_eq_true rfl) ?_
          refine c_becomes (a := 16 + 6 * ja + 2 + 2) (by omega) ?_
          refine gwr ?_
          refine g_goto m134_84 ?_
          refine g_iret m134_93 rt_134 ?_
          exact hY ja 2 jc rfl (by omega) rfl (by decide) rfl (by omega) (by omega) (by omega)
        · skip
          refine gwr ?_
          refine h_if_eqT (xi := 0) (zi := 0) m134_60 rfl rfl (by decide) ?_
          refine g_aload_n m134_87 rfl ?_
          refine g_ldci m134_88 rfl ?_
          refine h_cv (k := 57) (p := 89) (args := [.int (-1000000001)]) (rest := []) m134_90 cn_108 (Nat.le_of_ble_eq_true rfl) rfl rfl rfl (t_57 _ _) (Nat.le_of_ble_eq_true rfl) ?_
          refine c_errs (e := 1) (by decide) (by decide) (by decide) ?_
          refine gwr ?_
          refine g_iret m134_93 rt_134 ?_
          exact hE1 (by omega)
      · skip
        refine gwr ?_
        refine g_goto m134_16 ?_
        refine g_istore (L2 := [some (.ref (89)), some (.int (a)), some (.int (2)), some (.int (c)), some (.int (0))]) m134_53 rfl rfl ?_
        refine g_aload_n m134_55 rfl ?_
        refine g_iload_n m134_56 rfl ?_
        refine h_cv (k := 57) (p := 89) (args := [.int (a)]) (rest := []) m134_57 cn_113 (Nat.le_of_ble_eq_true rfl) rfl rfl rfl (t_57 _ _) (Nat.le_of_ble_eq_true rfl) ?_
        refine c_isDinerM hd hn (fun ja ea a_26 => ?_) (fun a_26 => ?_)
        · subst ea
          refine gwr ?_
          refine h_if_eqF (xi := 1) (zi := 0) m134_60 rfl rfl (by decide) ?_
          refine g_iload m134_63 rfl ?_
          refine h_if_eqT (xi := 0) (zi := 0) m134_65 rfl rfl (by decide) ?_
          refine g_aload_n m134_87 rfl ?_
          refine g_ldci m134_88 rfl ?_
          refine h_cv (k := 57) (p := 89) (args := [.int (-1000000001)]) (rest := []) m134_90 cn_108 (Nat.le_of_ble_eq_true rfl) rfl rfl rfl (t_57 _ _) (Nat.le_of_ble_eq_true rfl) ?_
          refine c_errs (e := 1) (by decide) (by decide) (by decide) ?_
          refine gwr ?_
          refine g_iret m134_93 rt_134 ?_
          exact hE1 (by omega)
        · skip
          refine gwr ?_
          refine h_if_eqT (xi := 0) (zi := 0) m134_60 rfl rfl (by decide) ?_
          refine g_aload_n m134_87 rfl ?_
          refine g_ldci m134_88 rfl ?_
          refine h_cv (k := 57) (p := 89) (args := [.int (-1000000001)]) (rest := []) m134_90 cn_108 (Nat.le_of_ble_eq_true rfl) rfl rfl rfl (t_57 _ _) (Nat.le_of_ble_eq_true rfl) ?_
          refine c_errs (e := 1) (by decide) (by decide) (by decide) ?_
          refine gwr ?_
          refine g_iret m134_93 rt_134 ?_
          exact hE1 (by omega)
    · have ebk : (nI 3).toInt = 3 := rfl
      refine gwl (L' := [some (.ref (89)), some (.int (a)), some (.int (3)), some (.int (c)), none]) rfl ?_
      refine g_iload_n m134_0 rfl ?_
      refine h_if_eqF (xi := 3) (zi := 0) m134_1 rfl rfl (by decide) ?_
      refine g_iload_n m134_4 rfl ?_
      refine g_iconst m134_5 ?_
      refine h_ic_neF (xi := 3) (zi := 2) m134_6 rfl rfl (by decide) ?_
      refine g_iload_n m134_19 rfl ?_
      refine g_iconst m134_20 ?_
      refine h_ic_neF (xi := 3) (zi := 1) m134_21 rfl rfl (by decide) ?_
      refine g_iload_n m134_34 rfl ?_
      refine g_iconst m134_35 ?_
      refine h_ic_neT (xi := 3) (zi := 3) m134_36 rfl rfl (by decide) ?_
      refine g_iload_n m134_39 rfl ?_
      refine g_iconst m134_40 ?_
      refine g_iconst m134_41 ?_
      refine g_cs (args := [.int (c), .int (0), .int (1)]) (rest := []) 0 (Or.inl rfl) m134_42 (Nat.le_of_ble_eq_true rfl) rfl rfl (Nat.le_of_ble_eq_true rfl) ?_
      refine c_in (A := 0) (B := 1) rfl rfl (by decide) (fun jc ec a_27 a_27' => ?_) (fun a_27 => ?_)
      · subst ec
        refine gwr ?_
        refine h_if_eqF (xi := 1) (zi := 0) m134_45 rfl rfl (by decide) ?_
        refine g_iconst m134_48 ?_
        refine g_goto m134_49 ?_
        refine g_istore (L2 := [some (.ref (89)), some (.int (a)), some (.int (3)), some (.int (nI (jc))), some (.int (1))]) m134_53 rfl rfl ?_
        refine g_aload_n m134_55 rfl ?_
        refine g_iload_n m134_56 rfl ?_
        refine h_cv (k := 57) (p := 89) (args := [.int (a)]) (rest := []) m134_57 cn_113 (Nat.le_of_ble_eq_true rfl) rfl rfl rfl (t_57 _ _) (Nat.le_of_ble_eq_true rfl) ?_
        refine c_isDinerM hd hn (fun ja ea a_28 => ?_) (fun a_28 => ?_)
        · subst ea
          refine gwr ?_
          refine h_if_eqF (xi := 1) (zi := 0) m134_60 rfl rfl (by decide) ?_
          refine g_iload m134_63 rfl ?_
          refine h_if_eqF (xi := 1) (zi := 0) m134_65 rfl rfl (by decide) ?_
          refine g_aload_n m134_68 rfl ?_
          refine g_bipush m134_69 ?_
          refine g_bipush m134_71 ?_
          refine g_iload_n m134_73 rfl ?_
          refine g_imul (u := nI (6 * ja)) m134_74 (pk_mul 6 ja) ?_
          refine g_iadd (u := nI (16 + (6 * ja))) m134_75 (nI_add 16 (6 * ja)) ?_
          refine g_iconst m134_76 ?_
          refine g_iadd (u := nI ((16 + (6 * ja)) + 2)) m134_77 (nI_add (16 + (6 * ja)) 2) ?_
          refine g_iload_n m134_78 rfl ?_
          refine g_iadd (u := nI (((16 + (6 * ja)) + 2) + 3)) m134_79 (nI_add ((16 + (6 * ja)) + 2) 3) ?_
          refine g_iload_n m134_80 rfl ?_
          refine h_cv (k := 57) (p := 89) (args := [.int (nI (((16 + (6 * ja)) + 2) + 3)), .int (nI (jc))]) (rest := []) m134_81 cn_114 (Nat.le_of_ble_eq_true rfl) rfl rfl rfl (t_57 _ _) (Nat.le_of_ble_eq_true rfl) ?_
          refine c_becomes (a := 16 + 6 * ja + 2 + 3) (by omega) ?_
          refine gwr ?_
          refine g_goto m134_84 ?_
          refine g_iret m134_93 rt_134 ?_
          exact hY ja 3 jc rfl (by omega) rfl (by decide) rfl (by omega) (by omega) (by omega)
        · skip
          refine gwr ?_
          refine h_if_eqT (xi := 0) (zi := 0) m134_60 rfl rfl (by decide) ?_
          refine g_aload_n m134_87 rfl ?_
          refine g_ldci m134_88 rfl ?_
          refine h_cv (k := 57) (p := 89) (args := [.int (-1000000001)]) (rest := []) m134_90 cn_108 (Nat.le_of_ble_eq_true rfl) rfl rfl rfl (t_57 _ _) (Nat.le_of_ble_eq_true rfl) ?_
          refine c_errs (e := 1) (by decide) (by decide) (by decide) ?_
          refine gwr ?_
          refine g_iret m134_93 rt_134 ?_
          exact hE1 (by omega)
      · skip
        refine gwr ?_
        refine h_if_eqT (xi := 0) (zi := 0) m134_45 rfl rfl (by decide) ?_
        refine g_iconst m134_52 ?_
        refine g_istore (L2 := [some (.ref (89)), some (.int (a)), some (.int (3)), some (.int (c)), some (.int (0))]) m134_53 rfl rfl ?_
        refine g_aload_n m134_55 rfl ?_
        refine g_iload_n m134_56 rfl ?_
        refine h_cv (k := 57) (p := 89) (args := [.int (a)]) (rest := []) m134_57 cn_113 (Nat.le_of_ble_eq_true rfl) rfl rfl rfl (t_57 _ _) (Nat.le_of_ble_eq_true rfl) ?_
        refine c_isDinerM hd hn (fun ja ea a_29 => ?_) (fun a_29 => ?_)
        · subst ea
          refine gwr ?_
          refine h_if_eqF (xi := 1) (zi := 0) m134_60 rfl rfl (by decide) ?_
          refine g_iload m134_63 rfl ?_
          refine h_if_eqT (xi := 0) (zi := 0) m134_65 rfl rfl (by decide) ?_
          refine g_aload_n m134_87 rfl ?_
          refine g_ldci m134_88 rfl ?_
          refine h_cv (k := 57) (p := 89) (args := [.int (-1000000001)]) (rest := []) m134_90 cn_108 (Nat.le_of_ble_eq_true rfl) rfl rfl rfl (t_57 _ _) (Nat.le_of_ble_eq_true rfl) ?_
          refine c_errs (e := 1) (by decide) (by decide) (by decide) ?_
          refine gwr ?_
          refine g_iret m134_93 rt_134 ?_
          exact hE1 (by omega)
        · skip
          refine gwr ?_
          refine h_if_eqT (xi := 0) (zi := 0) m134_60 rfl rfl (by decide) ?_
          refine g_aload_n m134_87 rfl ?_
          refine g_ldci m134_88 rfl ?_
          refine h_cv (k := 57) (p := 89) (args := [.int (-1000000001)]) (rest := []) m134_90 cn_108 (Nat.le_of_ble_eq_true rfl) rfl rfl rfl (t_57 _ _) (Nat.le_of_ble_eq_true rfl) ?_
          refine c_errs (e := 1) (by decide) (by decide) (by decide) ?_
          refine gwr ?_
          refine g_iret m134_93 rt_134 ?_
          exact hE1 (by omega)
set_option maxRecDepth 20000 in
set_option maxHeartbeats 40000000 in
theorem x_next (hW : WF (vw m 0)) (hL : LawsOk m ln N) (hix : LawIx N (m 1 11)) (hY : ∀ m2, (∀ k j, ¬ (1 ≤ k ∧ k < 10) → ¬ minor k j → m2 k j = m k j) → (∀ j, j < 8 → ∀ i, m2 (j + 1 + 9 * 0) i = vw m 0 j i) → Q (some (.int (nI (setF (lkF m ln (m 1 11)) (vw m 0))))) (H m2 ln N)) : WP xs (d + 6) 73 0 0 [.ref (32)] (H m ln N) Q := by
  refine wp_x mx_73 (L := [some (.ref (32))]) (Nat.le_of_ble_eq_true rfl) rfl ?_
  refine g_aload_n m73_0 rfl ?_
  refine h_gfR (c := 33) (k := 0) (p := 32) m73_1 rfl (t_0 _ _) rfl (Nat.le_of_ble_eq_true rfl) ?_
  refine h_cv (k := 1) (p := 33) (args := []) (rest := []) m73_4 cn_36 (Nat.le_of_ble_eq_true rfl) rfl rfl rfl (t_1 _ _) (Nat.le_of_ble_eq_true rfl) ?_
  refine c_seeFaces (t := 0) (m0 := m) (X := vw m 0) (by decide) hL (AtX.self m 0) rfl hix hW (fun m1 hA1 => ?_)
  refine gwr0 ?_
  refine g_aload_n m73_7 rfl ?_
  refine h_gfR (c := 33) (k := 0) (p := 32) m73_8 rfl (t_0 _ _) rfl (Nat.le_of_ble_eq_true rfl) ?_
  refine h_cv (k := 1) (p := 33) (args := []) (rest := []) m73_11 cn_38 (Nat.le_of_ble_eq_true rfl) rfl rfl rfl (t_1 _ _) (Nat.le_of_ble_eq_true rfl) ?_
  obtain ⟨n, hn, hd⟩ := hW.1
  have hnn : nOf (vw m 0) = n := by unfold nOf; rw [hd]; exact nI_clamp (by omega)
  rw [hnn] at hA1
  refine c_served (t := 0) (by decide) hA1 hn ((facesX_8 _ _ _ 0 (by decide) 10).trans hd) ?_
  rw [set_f hnn]
  refine gwr ?_
  refine g_iret m73_14 rt_73 ?_
  have hset : setF (lkF m ln (m 1 11)) (vw m 0) = bitsF (svF (lkF m ln (m 1 11)) (vw m 0)) n := by unfold setF; rw [hnn]
  rw [hset] at hY
  exact hY m1 (fun k j q1 q2 => (hA1.out (by omega) q2)) (fun j hj i => (hA1.rd (by decide) (by omega)).trans (facesX_8 _ _ _ j (by omega) i))
set_option maxRecDepth 20000 in
set_option maxHeartbeats 40000000 in
theorem m_next (hX0 : TxOk (m 58) 0) (hWY : WF (vr (m 58))) (hY : ∀ m2, EqM m m2 → Q (some (.int (nI (setF (rkF (m 58)) (vr (m 58)))))) (H m2 ln N)) : WP xs (d + 815) 151 0 0 [.ref (89)] (H m ln N) Q := by
  refine wp_x mx_151 (L := [some (.ref (89))]) (Nat.le_of_ble_eq_true rfl) rfl ?_
  refine g_aload_n m151_0 rfl ?_
  refine h_cv (k := 57) (p := 89) (args := []) (rest := []) m151_1 cn_143 (Nat.le_of_ble_eq_true rfl) rfl rfl rfl (t_57 _ _) (Nat.le_of_ble_eq_true rfl) ?_
  refine c_servedM (AtY.self m) hX0 hWY (fun m2 hA => ?_)
  refine gwr ?_
  refine g_iret m151_4 rt_151 ?_
  exact hY m2 hA.back
theorem ahead_f {F : Nat → Int32} {X : MW} {n i : Nat} (hi : i < n) : aheadF (facesX F X n 8) (facesX F X n 7) n i = aheadF F (X 7) n i := by
  have e7 : facesX F X n 7 = X 7 := by
    funext k
    exact facesX_8 _ X n 7 (by decide) k
  have e8 : ∀ o, o < n → facesX F X n 8 o = F o := fun o ho => by
    unfold facesX
    rw [if_pos ⟨rfl, ho⟩]
  rw [e7]
  exact cntF_c n (fun o ho => by
    unfold isAhead
    rw [e8 i hi, e8 o ho])
set_option maxRecDepth 20000 in
set_option maxHeartbeats 40000000 in
theorem x_rank {a : Int32} {n : Nat} (hd : m 1 10 = nI n) (hn : n ≤ 8) (hW : WF (vw m 0)) (hL : LawsOk m ln N) (hix : LawIx N (m 1 11)) (hE1 : (a.toInt < 0 ∨ (n : Int) ≤ a.toInt) → Q (some (.int (-1000000000 - nI 1))) (H (erm m 1) ln N)) (hE3 : ∀ i : Nat, a = nI i → i < n → ¬ (m 8 i).toInt = 0 → Q (some (.int (-1000000000 - nI 3))) (H (erm m 3) ln N)) (hY : ∀ i : Nat, a = nI i → i < n → (m 8 i).toInt = 0 → ∀ m2, (∀ k j, ¬ (1 ≤ k ∧ k < 10) → ¬ minor k j → m2 k j = m k j) → (∀ j, j < 8 → ∀ i, m2 (j + 1 + 9 * 0) i = vw m 0 j i) → Q (some (.int (nI (aheadF (faceF (lkF m ln (m 1 11)) (vw m 0)) (vw m 0 7) n i)))) (H m2 ln N)) : WP xs (d + 5) 83 0 0 [.ref (32), .int (a)] (H m ln N) Q := by
  refine wp_x mx_83 (L := [some (.ref (32)), some (.int (a))]) (Nat.le_of_ble_eq_true rfl) rfl ?_
  refine g_aload_n m83_0 rfl ?_
  refine g_iload_n m83_1 rfl ?_
  refine h_cv (k := 0) (p := 32) (args := [.int (a)]) (rest := []) m83_2 cn_60 (Nat.le_of_ble_eq_true rfl) rfl rfl rfl (t_0 _ _) (Nat.le_of_ble_eq_true rfl) ?_
  refine c_isDiner hd hn (fun ja ea a_30 => ?_) (fun a_30 => ?_)
  · subst ea
    refine gwr ?_
    refine h_if_neF (xi := 1) (zi := 0) m83_5 rfl rfl (by decide) ?_
    refine g_aload_n m83_14 rfl ?_
    refine h_gfR (c := 33) (k := 0) (p := 32) m83_15 rfl (t_0 _ _) rfl (Nat.le_of_ble_eq_true rfl) ?_
    refine h_gfR (c := 40) (k := 1) (p := 33) m83_18 rfl (t_1 _ _) rfl (Nat.le_of_ble_eq_true rfl) ?_
    refine g_iload_n m83_21 rfl ?_
    refine h_bal (k := 8) (p := 40) (j := ja) m83_22 rfl (t_8 _ _) (rfl) (by omega) (Nat.le_of_ble_eq_true rfl) (rfl) ?_
    refine h_if_eq (xi := _) (zi := 0) m83_23 rfl rfl (fun c1 => ?_) (fun c1 => ?_)
    · skip
      refine g_aload_n m83_32 rfl ?_
      refine h_gfR (c := 33) (k := 0) (p := 32) m83_33 rfl (t_0 _ _) rfl (Nat.le_of_ble_eq_true rfl) ?_
      refine h_cv (k := 1) (p := 33) (args := []) (rest := []) m83_36 cn_36 (Nat.le_of_ble_eq_true rfl) rfl rfl rfl (t_1 _ _) (Nat.le_of_ble_eq_true rfl) ?_
      refine c_seeFaces (t := 0) (m0 := m) (X := vw m 0) (by decide) hL (AtX.self m 0) rfl hix hW (fun m1 hA1 => ?_)
      refine gwr0 ?_
      refine g_aload_n m83_39 rfl ?_
      refine h_gfR (c := 33) (k := 0) (p := 32) m83_40 rfl (t_0 _ _) rfl (Nat.le_of_ble_eq_true rfl) ?_
      refine g_iload_n m83_43 rfl ?_
      refine h_cv (k := 1) (p := 33) (args := [.int (nI (ja))]) (rest := []) m83_44 cn_37 (Nat.le_of_ble_eq_true rfl) rfl rfl rfl (t_1 _ _) (Nat.le_of_ble_eq_true rfl) ?_
      have hdv : vw m 0 0 10 = nI n := hd
      have hnn : nOf (vw m 0) = n := by unfold nOf; rw [hdv]; exact nI_clamp (by omega)
      rw [hnn] at hA1
      refine c_aheadOf (t := 0) (by decide) hA1 (by omega) hn ((facesX_8 _ _ _ 0 (by decide) 10).trans hdv) ?_
      rw [ahead_f (by omega)]
      refine gwr ?_
      refine g_iret m83_47 rt_83 ?_
      exact hY ja rfl (by omega) (by assumption) m1 (fun k j q1 q2 => (hA1.out (by omega) q2)) (fun j hj i => (hA1.rd (by decide) (by omega)).trans (facesX_8 _ _ _ j (by omega) i))
    · skip
      refine g_aload_n m83_26 rfl ?_
      refine g_iconst m83_27 ?_
      refine h_cv (k := 0) (p := 32) (args := [.int (3)]) (rest := []) m83_28 cn_55 (Nat.le_of_ble_eq_true rfl) rfl rfl rfl (t_0 _ _) (Nat.le_of_ble_eq_true rfl) ?_
      refine c_error (e := 3) (by decide) (by decide) ?_
      refine gwr ?_
      refine g_iret m83_31 rt_83 ?_
      exact hE3 ja rfl (by omega) (by assumption)
  · skip
    refine gwr ?_
    refine h_if_neT (xi := 0) (zi := 0) m83_5 rfl rfl (by decide) ?_
    refine g_aload_n m83_8 rfl ?_
    refine g_iconst m83_9 ?_
    refine h_cv (k := 0) (p := 32) (args := [.int (1)]) (rest := []) m83_10 cn_55 (Nat.le_of_ble_eq_true rfl) rfl rfl rfl (t_0 _ _) (Nat.le_of_ble_eq_true rfl) ?_
    refine c_error (e := 1) (by decide) (by decide) ?_
    refine gwr ?_
    refine g_iret m83_13 rt_83 ?_
    exact hE1 (by omega)
set_option maxRecDepth 20000 in
set_option maxHeartbeats 40000000 in
theorem m_rank {a : Int32} {n : Nat} (hd : m 58 2 = nI n) (hn : n ≤ 8) (hX0 : TxOk (m 58) 0) (hWY : WF (vr (m 58))) (hE1 : (a.toInt < 0 ∨ (n : Int) ≤ a.toInt) → Q (some (.int (-1000000001))) (H (ers m 1) ln N)) (hE3 : ∀ i : Nat, a = nI i → i < n → (m 58 (16 + 6 * i + 5)).toInt = 1 → Q (some (.int (-1000000003))) (H (ers m 3) ln N)) (hY : ∀ i : Nat, a = nI i → i < n → ¬ (m 58 (16 + 6 * i + 5)).toInt = 1 → ∀ m2, EqM m m2 → Q (some (.int (nI (aheadF (faceF (rkF (m 58)) (vr (m 58))) (vr (m 58) 7) n i)))) (H m2 ln N)) : WP xs (d + 814) 163 0 0 [.ref (89), .int (a)] (H m ln N) Q := by
  refine wp_x mx_163 (L := [some (.ref (89)), some (.int (a))]) (Nat.le_of_ble_eq_true rfl) rfl ?_
  refine g_aload_n m163_0 rfl ?_
  refine g_iload_n m163_1 rfl ?_
  refine h_cv (k := 57) (p := 89) (args := [.int (a)]) (rest := []) m163_2 cn_113 (Nat.le_of_ble_eq_true rfl) rfl rfl rfl (t_57 _ _) (Nat.le_of_ble_eq_true rfl) ?_
  refine c_isDinerM hd hn (fun ja ea a_31 => ?_) (fun a_31 => ?_)
  · subst ea
    refine gwr ?_
    refine h_if_neF (xi := 1) (zi := 0) m163_5 rfl rfl (by decide) ?_
    refine g_aload_n m163_15 rfl ?_
    refine g_iload_n m163_16 rfl ?_
    refine g_iconst m163_17 ?_
    refine h_cv (k := 57) (p := 89) (args := [.int (nI (ja)), .int (5)]) (rest := []) m163_18 cn_111 (Nat.le_of_ble_eq_true rfl) rfl rfl rfl (t_57 _ _) (Nat.le_of_ble_eq_true rfl) ?_
    refine c_its (w := 5) (by omega) (by omega) ?_
    refine gwr ?_
    refine g_iconst m163_21 ?_
    refine h_ic_ne (xi := _) (zi := 1) m163_22 rfl rfl (fun c1 => ?_) (fun c1 => ?_)
    · skip
      refine g_aload_n m163_25 rfl ?_
      refine g_ldci m163_26 rfl ?_
      refine h_cv (k := 57) (p := 89) (args := [.int (-1000000003)]) (rest := []) m163_28 cn_108 (Nat.le_of_ble_eq_true rfl) rfl rfl rfl (t_57 _ _) (Nat.le_of_ble_eq_true rfl) ?_
      refine c_errs (e := 3) (by decide) (by decide) (by decide) ?_
      refine gwr ?_
      refine g_goto m163_31 ?_
      refine g_iret m163_39 rt_163 ?_
      exact hE3 ja rfl (by omega) (by assumption)
    · skip
      refine g_aload_n m163_34 rfl ?_
      refine g_iload_n m163_35 rfl ?_
      refine h_cv (k := 57) (p := 89) (args := [.int (nI (ja))]) (rest := []) m163_36 cn_142 (Nat.le_of_ble_eq_true rfl) rfl rfl rfl (t_57 _ _) (Nat.le_of_ble_eq_true rfl) ?_
      have hdv : vr (m 58) 0 10 = nI n := hd
      have hnn : nOf (vr (m 58)) = n := by unfold nOf; rw [hdv]; exact nI_clamp (by omega)
      refine c_ahead (AtY.self m) hX0 hWY (by omega) (fun m2 hA => ?_)
      rw [hnn]
      refine gwr ?_
      refine g_iret m163_39 rt_163 ?_
      exact hY ja rfl (by omega) (by assumption) m2 hA.back
  · skip
    refine gwr ?_
    refine h_if_neT (xi := 0) (zi := 0) m163_5 rfl rfl (by decide) ?_
    refine g_aload_n m163_8 rfl ?_
    refine g_ldci m163_9 rfl ?_
    refine h_cv (k := 57) (p := 89) (args := [.int (-1000000001)]) (rest := []) m163_11 cn_108 (Nat.le_of_ble_eq_true rfl) rfl rfl rfl (t_57 _ _) (Nat.le_of_ble_eq_true rfl) ?_
    refine c_errs (e := 1) (by decide) (by decide) (by decide) ?_
    refine gwr ?_
    refine g_iret m163_14 rt_163 ?_
    exact hE1 (by omega)
end
end
section
/-! PUBLIC METHODS: steps, laws, images, counts -/
section
variable {xs : List Int32} {d : Nat} {h : AH} {Q : QT} {m : MW} {ln : Nat → Nat} {N : Nat}
set_option maxRecDepth 20000 in
set_option maxHeartbeats 40000000 in
theorem x_steps {v : Int32} {n st : Nat} (hd : m 1 10 = nI n) (hn : n ≤ 8) (hst : m 1 9 = nI st) (hst9 : st ≤ 9999) (hW : WF (vw m 0)) (hL : LawsOk m ln N) (hix : LawIx N (m 1 11)) (hiy : LawIx N (m 1 12)) (hE1 : (v.toInt < 1 ∨ 60 < v.toInt) → Q (some (.int (-1000000000 - nI 1))) (H (erm m 1) ln N)) (hE3 : (∃ k : Nat, v = nI k ∧ k ≤ 60 ∧ 9999 < st + k) → Q (some (.int (-1000000000 - nI 3))) (H (erm m 3) ln N)) (hY : ∀ k : Nat, v = nI k → 1 ≤ k → k ≤ 60 → st + k ≤ 9999 → ∀ X2 m2, Eq8 (stepN (lkF m ln (m 1 11)) (blF m ln (m 1 12)) (vw m 0) k) X2 → AtX m 0 X2 m2 → Q (some (.int (sumF (X2 4) n))) (H m2 ln N)) : WP xs (d + 7) 70 0 0 [.ref (32), .int (v)] (H m ln N) Q := by
  refine wp_x mx_70 (L := [some (.ref (32)), some (.int (v))]) (Nat.le_of_ble_eq_true rfl) rfl ?_
  by_cases hv : v.toInt < 1 ∨ 60 < v.toInt
  · skip
    refine g_iload_n m70_0 rfl ?_
    refine g_iconst m70_1 ?_
    refine h_ic_lt (xi := v.toInt) (zi := 1) m70_2 rfl rfl (fun c1 => ?_) (fun c1 => ?_)
    · skip
      refine g_aload_n m70_11 rfl ?_
      refine g_iconst m70_12 ?_
      refine h_cv (k := 0) (p := 32) (args := [.int (1)]) (rest := []) m70_13 cn_55 (Nat.le_of_ble_eq_true rfl) rfl rfl rfl (t_0 _ _) (Nat.le_of_ble_eq_true rfl) ?_
      refine c_error (e := 1) (by decide) (by decide) ?_
      refine gwr ?_
      refine g_iret m70_16 rt_70 ?_
      exact hE1 (by omega)
    · skip
      refine g_iload_n m70_5 rfl ?_
      refine g_bipush m70_6 ?_
      refine h_ic_le (xi := v.toInt) (zi := 60) m70_8 rfl rfl (fun c2 => ?_) (fun c2 => ?_)
      · skip
        exfalso
        omega
      · skip
        refine g_aload_n m70_11 rfl ?_
        refine g_iconst m70_12 ?_
        refine h_cv (k := 0) (p := 32) (args := [.int (1)]) (rest := []) m70_13 cn_55 (Nat.le_of_ble_eq_true rfl) rfl rfl rfl (t_0 _ _) (Nat.le_of_ble_eq_true rfl) ?_
        refine c_error (e := 1) (by decide) (by decide) ?_
        refine gwr ?_
        refine g_iret m70_16 rt_70 ?_
        exact hE1 (by omega)
  · skip
    obtain ⟨k, ⟨hk1, hk2⟩, hk3⟩ := nat_of (x := v) (lo := 1) (hi := 60) (by omega) (by omega)
    obtain rfl : v = nI k := hk3
    have ek : (nI k).toInt = (k : Int) := nI_toInt (by omega)
    refine g_iload_n m70_0 rfl ?_
    refine g_iconst m70_1 ?_
    refine h_ic_ltF (xi := ((k : Nat) : Int)) (zi := 1) m70_2 (nI_toInt (by omega)) rfl (by omega) ?_
    refine g_iload_n m70_5 rfl ?_
    refine g_bipush m70_6 ?_
    refine h_ic_leT (xi := ((k : Nat) : Int)) (zi := 60) m70_8 (nI_toInt (by omega)) rfl (by omega) ?_
    refine g_aload_n m70_17 rfl ?_
    refine h_gfR (c := 33) (k := 0) (p := 32) m70_18 rfl (t_0 _ _) rfl (Nat.le_of_ble_eq_true rfl) ?_
    refine h_gfI (k := 1) (p := 33) m70_21 rfl (t_1 _ _) rfl (hst) ?_
    refine g_sipush m70_24 ?_
    refine g_iload_n m70_27 rfl ?_
    refine g_isub (u := nI (9999 - k)) m70_28 (pk_sub (a := 9999) (b := k) (by omega)) ?_
    refine h_ic_le (xi := ((st : Nat) : Int)) (zi := ((9999 - k : Nat) : Int)) m70_29 (nI_toInt (by omega)) (nI_toInt (by omega)) (fun c3 => ?_) (fun c3 => ?_)
    · skip
      refine g_aload_n m70_38 rfl ?_
      refine h_gfR (c := 33) (k := 0) (p := 32) m70_39 rfl (t_0 _ _) rfl (Nat.le_of_ble_eq_true rfl) ?_
      refine g_iload_n m70_42 rfl ?_
      refine h_cv (k := 1) (p := 33) (args := [.int (nI (k))]) (rest := []) m70_43 cn_41 (Nat.le_of_ble_eq_true rfl) rfl rfl rfl (t_1 _ _) (Nat.le_of_ble_eq_true rfl) ?_
      refine c_goOn (t := 0) (m0 := m) (X := vw m 0) (by decide) hL (AtX.self m 0) rfl hix rfl hiy hW (by omega) (fun X2 m2 h8 hA => ?_)
      refine gwr0 ?_
      refine g_aload_n m70_46 rfl ?_
      refine h_gfR (c := 33) (k := 0) (p := 32) m70_47 rfl (t_0 _ _) rfl (Nat.le_of_ble_eq_true rfl) ?_
      refine h_cv (k := 1) (p := 33) (args := []) (rest := []) m70_50 cn_45 (Nat.le_of_ble_eq_true rfl) rfl rfl rfl (t_1 _ _) (Nat.le_of_ble_eq_true rfl) ?_
      refine c_hungerOfAll (t := 0) (by decide) hA hn ((h8 0 (by decide) 10).trans ((stepN_0 _ _ _ (by decide) k).trans hd)) ?_
      refine gwr ?_
      refine g_iret m70_53 rt_70 ?_
      exact hY k rfl (by omega) (by omega) (by omega) X2 m2 h8 hA
    · skip
      refine g_aload_n m70_32 rfl ?_
      refine g_iconst m70_33 ?_
      refine h_cv (k := 0) (p := 32) (args := [.int (3)]) (rest := []) m70_34 cn_55 (Nat.le_of_ble_eq_true rfl) rfl rfl rfl (t_0 _ _) (Nat.le_of_ble_eq_true rfl) ?_
      refine c_error (e := 3) (by decide) (by decide) ?_
      refine gwr ?_
      refine g_iret m70_37 rt_70 ?_
      exact hE3 ⟨k, rfl, by omega, by omega⟩
set_option maxRecDepth 20000 in
set_option maxHeartbeats 40000000 in
theorem m_steps {v : Int32} {n st : Nat} (hd : m 58 2 = nI n) (hn : n ≤ 8) (hst : m 58 0 = nI st) (hst9 : st ≤ 9999) (hX0 : TxOk (m 58) 0) (hX1 : TxOk (m 58) 1) (hWY : WF (vr (m 58))) (hE1 : (v.toInt < 1 ∨ 60 < v.toInt) → Q (some (.int (-1000000001))) (H (ers m 1) ln N)) (hE3 : (∃ k : Nat, v = nI k ∧ k ≤ 60 ∧ 9999 < st + k) → Q (some (.int (-1000000003))) (H (ers m 3) ln N)) (hY : ∀ k : Nat, v = nI k → 1 ≤ k → k ≤ 60 → st + k ≤ 9999 → ∀ m2, AtY m (stepN (rkF (m 58)) (rbF (m 58)) (vr (m 58)) k) m2 → Q (some (.int (sumF (stepN (rkF (m 58)) (rbF (m 58)) (vr (m 58)) k 4) n))) (H m2 ln N)) : WP xs (d + 817) 148 0 0 [.ref (89), .int (v)] (H m ln N) Q := by
  refine wp_x mx_148 (L := [some (.ref (89)), some (.int (v))]) (Nat.le_of_ble_eq_true rfl) rfl ?_
  refine g_iload_n m148_0 rfl ?_
  refine g_iconst m148_1 ?_
  refine g_bipush m148_2 ?_
  refine g_cs (args := [.int (v), .int (1), .int (60)]) (rest := []) 0 (Or.inl rfl) m148_4 (Nat.le_of_ble_eq_true rfl) rfl rfl (Nat.le_of_ble_eq_true rfl) ?_
  refine c_in (A := 1) (B := 60) rfl rfl (by decide) (fun jv ev a_1 a_1' => ?_) (fun a_1 => ?_)
  · subst ev
    refine gwr ?_
    refine h_if_neF (xi := 1) (zi := 0) m148_7 rfl rfl (by decide) ?_
    refine g_aload_n m148_17 rfl ?_
    refine h_gfR (c := 90) (k := 57) (p := 89) m148_18 rfl (t_57 _ _) rfl (Nat.le_of_ble_eq_true rfl) ?_
    refine g_iconst m148_21 ?_
    refine h_ial (k := 58) (p := 90) (j := 0) m148_22 rfl (t_58 _ _) (rfl) (by omega) (Nat.le_of_ble_eq_true rfl) (hst) ?_
    refine g_iload_n m148_23 rfl ?_
    refine g_iadd (u := nI (st + jv)) m148_24 (nI_add st jv) ?_
    refine g_sipush m148_25 ?_
    refine h_ic_le (xi := ((st + jv : Nat) : Int)) (zi := 9999) m148_28 (nI_toInt (by omega)) rfl (fun c1 => ?_) (fun c1 => ?_)
    · skip
      refine g_aload_n m148_38 rfl ?_
      refine g_iload_n m148_39 rfl ?_
      refine h_cv (k := 57) (p := 89) (args := [.int (nI (jv))]) (rest := []) m148_40 cn_146 (Nat.le_of_ble_eq_true rfl) rfl rfl rfl (t_57 _ _) (Nat.le_of_ble_eq_true rfl) ?_
      refine c_passes (AtY.self m) hX0 hX1 hWY (by omega) (fun m2 hA => ?_)
      refine gwr0 ?_
      refine g_aload_n m148_43 rfl ?_
      refine g_iconst m148_44 ?_
      refine h_cv (k := 57) (p := 89) (args := [.int (2)]) (rest := []) m148_45 cn_147 (Nat.le_of_ble_eq_true rfl) rfl rfl rfl (t_57 _ _) (Nat.le_of_ble_eq_true rfl) ?_
      refine c_sumOf (w := 2) hA (by decide) hn ((stepN_0 _ _ _ (by decide) jv).trans hd) ?_
      refine gwr ?_
      refine g_iret m148_48 rt_148 ?_
      exact hY jv rfl (by omega) (by omega) (by omega) m2 hA
    · skip
      refine g_aload_n m148_31 rfl ?_
      refine g_ldci m148_32 rfl ?_
      refine h_cv (k := 57) (p := 89) (args := [.int (-1000000003)]) (rest := []) m148_34 cn_108 (Nat.le_of_ble_eq_true rfl) rfl rfl rfl (t_57 _ _) (Nat.le_of_ble_eq_true rfl) ?_
      refine c_errs (e := 3) (by decide) (by decide) (by decide) ?_
      refine gwr ?_
      refine g_iret m148_37 rt_148 ?_
      exact hE3 ⟨jv, rfl, by omega, by omega⟩
  · skip
    refine gwr ?_
    refine h_if_neT (xi := 0) (zi := 0) m148_7 rfl rfl (by decide) ?_
    refine g_aload_n m148_10 rfl ?_
    refine g_ldci m148_11 rfl ?_
    refine h_cv (k := 57) (p := 89) (args := [.int (-1000000001)]) (rest := []) m148_13 cn_108 (Nat.le_of_ble_eq_true rfl) rfl rfl rfl (t_57 _ _) (Nat.le_of_ble_eq_true rfl) ?_
    refine c_errs (e := 1) (by decide) (by decide) (by decide) ?_
    refine gwr ?_
    refine g_iret m148_16 rt_148 ?_
    exact hE1 (by omega)
set_option maxRecDepth 20000 in
set_option maxHeartbeats 40000000 in
theorem x_law {v a b c : Int32} (hW : WF (vw m 0)) (hL : LawsOk m ln N) (hix : LawIx N (m 1 11)) (hiy : LawIx N (m 1 12)) (hE1 : (v.toInt < 0 ∨ 1 < v.toInt) → Q (some (.int (-1000000000 - nI 1))) (H (erm m 1) ln N)) (hY0 : v = nI 0 → ∀ m2, EqM m m2 → Q (some (.int ((lkF m ln (m 1 11)) a b c))) (H m2 ln N)) (hY1 : v = nI 1 → ∀ m2, EqM m m2 → Q (some (.int ((blF m ln (m 1 12)) a b c))) (H m2 ln N)) : WP xs (d + 3) 69 0 0 [.ref (32), .int (v), .int (a), .int (b), .int (c)] (H m ln N) Q := by
  refine wp_x mx_69 (L := [some (.ref (32)), some (.int (v)), some (.int (a)), some (.int (b)), some (.int (c))]) (Nat.le_of_ble_eq_true rfl) rfl ?_
  refine g_iload_n m69_0 rfl ?_
  refine g_iconst m69_1 ?_
  refine g_cs (args := [.int (v), .int (1)]) (rest := []) 0 (Or.inl rfl) m69_2 (Nat.le_of_ble_eq_true rfl) rfl rfl (Nat.le_of_ble_eq_true rfl) ?_
  refine c_within (M := 1) rfl (fun jv ev a_2 => ?_) (fun a_2 => ?_)
  · subst ev
    refine gwr ?_
    refine h_if_neF (xi := 1) (zi := 0) m69_5 rfl rfl (by decide) ?_
    refine g_iload_n m69_14 rfl ?_
    refine h_if_ne (xi := ((jv : Nat) : Int)) (zi := 0) m69_15 (nI_toInt (by omega)) rfl (fun c1 => ?_) (fun c1 => ?_)
    · skip
      refine g_aload_n m69_18 rfl ?_
      refine h_gfR (c := 33) (k := 0) (p := 32) m69_19 rfl (t_0 _ _) rfl (Nat.le_of_ble_eq_true rfl) ?_
      refine g_iload_n m69_22 rfl ?_
      refine g_iload_n m69_23 rfl ?_
      refine g_iload m69_24 rfl ?_
      refine h_cv (k := 1) (p := 33) (args := [.int (a), .int (b), .int (c)]) (rest := []) m69_26 cn_32 (Nat.le_of_ble_eq_true rfl) rfl rfl rfl (t_1 _ _) (Nat.le_of_ble_eq_true rfl) ?_
      refine c_looksBy (t := 0) (m0 := m) (X := vw m 0) (by decide) hL (AtX.self m 0) rfl hix (fun m2 hA => ?_)
      refine gwr ?_
      refine g_goto m69_29 ?_
      refine g_iret m69_43 rt_69 ?_
      obtain rfl : jv = 0 := by omega
      exact hY0 rfl m2 (AtX.back hA)
    · skip
      refine g_aload_n m69_32 rfl ?_
      refine h_gfR (c := 33) (k := 0) (p := 32) m69_33 rfl (t_0 _ _) rfl (Nat.le_of_ble_eq_true rfl) ?_
      refine g_iload_n m69_36 rfl ?_
      refine g_iload_n m69_37 rfl ?_
      refine g_iload m69_38 rfl ?_
      refine h_cv (k := 1) (p := 33) (args := [.int (a), .int (b), .int (c)]) (rest := []) m69_40 cn_33 (Nat.le_of_ble_eq_true rfl) rfl rfl rfl (t_1 _ _) (Nat.le_of_ble_eq_true rfl) ?_
      refine c_billBy (t := 0) (m0 := m) (X := vw m 0) (by decide) hL (AtX.self m 0) rfl hiy (fun m2 hA => ?_)
      refine gwr ?_
      refine g_iret m69_43 rt_69 ?_
      obtain rfl : jv = 1 := by omega
      exact hY1 rfl m2 (AtX.back hA)
  · skip
    refine gwr ?_
    refine h_if_neT (xi := 0) (zi := 0) m69_5 rfl rfl (by decide) ?_
    refine g_aload_n m69_8 rfl ?_
    refine g_iconst m69_9 ?_
    refine h_cv (k := 0) (p := 32) (args := [.int (1)]) (rest := []) m69_10 cn_55 (Nat.le_of_ble_eq_true rfl) rfl rfl rfl (t_0 _ _) (Nat.le_of_ble_eq_true rfl) ?_
    refine c_error (e := 1) (by decide) (by decide) ?_
    refine gwr ?_
    refine g_iret m69_13 rt_69 ?_
    exact hE1 (by omega)
set_option maxRecDepth 20000 in
set_option maxHeartbeats 40000000 in
theorem m_law {v a b c : Int32} (hX0 : TxOk (m 58) 0) (hX1 : TxOk (m 58) 1) (hE1 : (v.toInt < 0 ∨ 1 < v.toInt) → Q (some (.int (-1000000001))) (H (ers m 1) ln N)) (hY0 : v = nI 0 → ∀ m2, EqM m m2 → Q (some (.int ((rkF (m 58)) a b c))) (H m2 ln N)) (hY1 : v = nI 1 → ∀ m2, EqM m m2 → Q (some (.int ((rbF (m 58)) a b c))) (H m2 ln N)) : WP xs (d + 812) 138 0 0 [.ref (89), .int (v), .int (a), .int (b), .int (c)] (H m ln N) Q := by
  refine wp_x mx_138 (L := [some (.ref (89)), some (.int (v)), some (.int (a)), some (.int (b)), some (.int (c))]) (Nat.le_of_ble_eq_true rfl) rfl ?_
  refine g_iload_n m138_0 rfl ?_
  refine g_iconst m138_1 ?_
  refine g_iconst m138_2 ?_
  refine g_cs (args := [.int (v), .int (0), .int (1)]) (rest := []) 0 (Or.inl rfl) m138_3 (Nat.le_of_ble_eq_true rfl) rfl rfl (Nat.le_of_ble_eq_true rfl) ?_
  refine c_in (A := 0) (B := 1) rfl rfl (by decide) (fun jv ev a_3 a_3' => ?_) (fun a_3 => ?_)
  · subst ev
    refine gwr ?_
    refine h_if_eqF (xi := 1) (zi := 0) m138_6 rfl rfl (by decide) ?_
    refine g_aload_n m138_9 rfl ?_
    refine g_iload_n m138_10 rfl ?_
    refine g_iload_n m138_11 rfl ?_
    refine g_iload_n m138_12 rfl ?_
    refine g_iload m138_13 rfl ?_
    refine h_cv (k := 57) (p := 89) (args := [.int (nI (jv)), .int (a), .int (b), .int (c)]) (rest := []) m138_15 cn_131 (Nat.le_of_ble_eq_true rfl) rfl rfl rfl (t_57 _ _) (Nat.le_of_ble_eq_true rfl) ?_
    rcases (show jv = 0 ∨ jv = 1 by omega) with rfl | rfl
    · refine c_lawOf0 (AtY.self m) hX0 (fun m2 hA => ?_)
      refine gwr ?_
      refine g_goto m138_18 ?_
      refine g_iret m138_27 rt_138 ?_
      exact hY0 rfl m2 hA.back
    · refine c_lawOf1 (AtY.self m) hX1 (fun m2 hA => ?_)
      refine gwr ?_
      refine g_goto m138_18 ?_
      refine g_iret m138_27 rt_138 ?_
      exact hY1 rfl m2 hA.back
  · skip
    refine gwr ?_
    refine h_if_eqT (xi := 0) (zi := 0) m138_6 rfl rfl (by decide) ?_
    refine g_aload_n m138_21 rfl ?_
    refine g_ldci m138_22 rfl ?_
    refine h_cv (k := 57) (p := 89) (args := [.int (-1000000001)]) (rest := []) m138_24 cn_108 (Nat.le_of_ble_eq_true rfl) rfl rfl rfl (t_57 _ _) (Nat.le_of_ble_eq_true rfl) ?_
    refine c_errs (e := 1) (by decide) (by decide) (by decide) ?_
    refine gwr ?_
    refine g_iret m138_27 rt_138 ?_
    exact hE1 (by omega)
set_option maxRecDepth 20000 in
set_option maxHeartbeats 40000000 in
theorem x_image {im : Nat} (h01 : ∀ j, j < 8 → m 8 j = 0 ∨ m 8 j = 1) (him : m 0 6 = nI im) (hY : Q (some (.int (nI (im + 1)))) (H (upm (deskM (takeM m 3 0) 40 37) 0 6 (nI (im + 1))) ln N)) : WP xs (d + 2) 100 0 0 [.ref (32)] (H m ln N) Q := by
  refine wp_x mx_100 (L := [some (.ref (32))]) (Nat.le_of_ble_eq_true rfl) rfl ?_
  refine g_aload_n m100_0 rfl ?_
  refine h_gfR (c := 60) (k := 0) (p := 32) m100_1 rfl (t_0 _ _) rfl (Nat.le_of_ble_eq_true rfl) ?_
  refine g_aload_n m100_4 rfl ?_
  refine h_gfR (c := 33) (k := 0) (p := 32) m100_5 rfl (t_0 _ _) rfl (Nat.le_of_ble_eq_true rfl) ?_
  refine h_cv (k := 28) (p := 60) (args := [.ref (33)]) (rest := []) m100_8 cn_31 (Nat.le_of_ble_eq_true rfl) rfl rfl rfl (t_28 _ _) (Nat.le_of_ble_eq_true rfl) ?_
  refine c_take30 h01 ?_
  refine gwr0 ?_
  refine g_aload_n m100_11 rfl ?_
  refine h_gfR (c := 72) (k := 0) (p := 32) m100_12 rfl (t_0 _ _) rfl (Nat.le_of_ble_eq_true rfl) ?_
  refine g_aload_n m100_15 rfl ?_
  refine h_gfR (c := 69) (k := 0) (p := 32) m100_16 rfl (t_0 _ _) rfl (Nat.le_of_ble_eq_true rfl) ?_
  refine h_cv (k := 40) (p := 72) (args := [.ref (69)]) (rest := []) m100_19 cn_11 (Nat.le_of_ble_eq_true rfl) rfl rfl rfl (t_40 _ _) (Nat.le_of_ble_eq_true rfl) ?_
  refine c_dtake40 ?_
  refine gwr0 ?_
  refine g_aload_n m100_22 rfl ?_
  refine g_dup m100_23 rfl ?_
  refine h_gfI (k := 0) (p := 32) m100_24 rfl (t_0 _ _) rfl (him) ?_
  refine g_iconst m100_27 ?_
  refine g_iadd (u := nI (im + 1)) m100_28 (nI_add im 1) ?_
  refine h_pfI (k := 0) (p := 32) m100_29 rfl (t_0 _ _) rfl trivial ?_
  refine g_aload_n m100_32 rfl ?_
  refine h_gfI (k := 0) (p := 32) m100_33 rfl (t_0 _ _) rfl (rfl) ?_
  refine g_iret m100_36 rt_100 ?_
  exact hY
set_option maxRecDepth 20000 in
set_option maxHeartbeats 40000000 in
theorem x_restore {im : Nat} (him : m 0 6 = nI im) (hi9 : im ≤ 600) (h01 : im ≠ 0 → ∀ j, j < 8 → m 35 j = 0 ∨ m 35 j = 1) (hE2 : (im = 0) → Q (some (.int (-1000000000 - nI 2))) (H (erm m 2) ln N)) (hY : im ≠ 0 → Q (some (.int (m 28 9))) (H (deskM (takeM m 0 3) 37 40) ln N)) : WP xs (d + 2) 101 0 0 [.ref (32)] (H m ln N) Q := by
  refine wp_x mx_101 (L := [some (.ref (32))]) (Nat.le_of_ble_eq_true rfl) rfl ?_
  refine g_aload_n m101_0 rfl ?_
  refine h_gfI (k := 0) (p := 32) m101_1 rfl (t_0 _ _) rfl (him) ?_
  refine h_if_ne (xi := ((im : Nat) : Int)) (zi := 0) m101_4 (nI_toInt (by omega)) rfl (fun c1 => ?_) (fun c1 => ?_)
  · skip
    refine g_aload_n m101_7 rfl ?_
    refine g_iconst m101_8 ?_
    refine h_cv (k := 0) (p := 32) (args := [.int (2)]) (rest := []) m101_9 cn_55 (Nat.le_of_ble_eq_true rfl) rfl rfl rfl (t_0 _ _) (Nat.le_of_ble_eq_true rfl) ?_
    refine c_error (e := 2) (by decide) (by decide) ?_
    refine gwr ?_
    refine g_iret m101_12 rt_101 ?_
    exact hE2 (by omega)
  · skip
    refine g_aload_n m101_13 rfl ?_
    refine h_gfR (c := 33) (k := 0) (p := 32) m101_14 rfl (t_0 _ _) rfl (Nat.le_of_ble_eq_true rfl) ?_
    refine g_aload_n m101_17 rfl ?_
    refine h_gfR (c := 60) (k := 0) (p := 32) m101_18 rfl (t_0 _ _) rfl (Nat.le_of_ble_eq_true rfl) ?_
    refine h_cv (k := 1) (p := 33) (args := [.ref (60)]) (rest := []) m101_21 cn_31 (Nat.le_of_ble_eq_true rfl) rfl rfl rfl (t_1 _ _) (Nat.le_of_ble_eq_true rfl) ?_
    refine c_take03 (h01 (by omega)) ?_
    refine gwr0 ?_
    refine g_aload_n m101_24 rfl ?_
    refine h_gfR (c := 69) (k := 0) (p := 32) m101_25 rfl (t_0 _ _) rfl (Nat.le_of_ble_eq_true rfl) ?_
    refine g_aload_n m101_28 rfl ?_
    refine h_gfR (c := 72) (k := 0) (p := 32) m101_29 rfl (t_0 _ _) rfl (Nat.le_of_ble_eq_true rfl) ?_
    refine h_cv (k := 37) (p := 69) (args := [.ref (72)]) (rest := []) m101_32 cn_11 (Nat.le_of_ble_eq_true rfl) rfl rfl rfl (t_37 _ _) (Nat.le_of_ble_eq_true rfl) ?_
    refine c_dtake37 ?_
    refine gwr0 ?_
    refine g_aload_n m101_35 rfl ?_
    refine h_gfR (c := 33) (k := 0) (p := 32) m101_36 rfl (t_0 _ _) rfl (Nat.le_of_ble_eq_true rfl) ?_
    refine h_gfI (k := 1) (p := 33) m101_39 rfl (t_1 _ _) rfl rfl ?_
    refine g_iret m101_42 rt_101 ?_
    exact hY (by omega)
set_option maxRecDepth 20000 in
set_option maxHeartbeats 40000000 in
theorem m_image {im : Nat} (him : m 57 5 = nI im) (hY : Q (some (.int (nI (im + 1)))) (H (upm (upm (upmR m 59 (m 58)) 57 4 1) 57 5 (nI (im + 1))) ln N)) : WP xs (d + 2) 184 0 0 [.ref (89)] (H m ln N) Q := by
  refine wp_x mx_184 (L := [some (.ref (89))]) (Nat.le_of_ble_eq_true rfl) rfl ?_
  refine g_aload_n m184_0 rfl ?_
  refine g_aload_n m184_1 rfl ?_
  refine h_gfR (c := 90) (k := 57) (p := 89) m184_2 rfl (t_57 _ _) rfl (Nat.le_of_ble_eq_true rfl) ?_
  refine g_aload_n m184_5 rfl ?_
  refine h_gfR (c := 91) (k := 57) (p := 89) m184_6 rfl (t_57 _ _) rfl (Nat.le_of_ble_eq_true rfl) ?_
  refine h_cv (k := 57) (p := 89) (args := [.ref (90), .ref (91)]) (rest := []) m184_9 cn_110 (Nat.le_of_ble_eq_true rfl) rfl rfl rfl (t_57 _ _) (Nat.le_of_ble_eq_true rfl) ?_
  refine c_moveRow (k1 := 58) (k2 := 59) rfl rfl (t_58 _ _) (t_59 _ _) (by decide) ?_
  refine gwr0 ?_
  refine g_aload_n m184_12 rfl ?_
  refine g_iconst m184_13 ?_
  refine h_pfI (k := 57) (p := 89) m184_14 rfl (t_57 _ _) rfl (Or.inr rfl) ?_
  refine g_aload_n m184_17 rfl ?_
  refine g_dup m184_18 rfl ?_
  refine h_gfI (k := 57) (p := 89) m184_19 rfl (t_57 _ _) rfl (him) ?_
  refine g_iconst m184_22 ?_
  refine g_iadd (u := nI (im + 1)) m184_23 (nI_add im 1) ?_
  refine h_pfI (k := 57) (p := 89) m184_24 rfl (t_57 _ _) rfl trivial ?_
  refine g_aload_n m184_27 rfl ?_
  refine h_gfI (k := 57) (p := 89) m184_28 rfl (t_57 _ _) rfl (rfl) ?_
  refine g_iret m184_31 rt_184 ?_
  exact hY
set_option maxRecDepth 20000 in
set_option maxHeartbeats 40000000 in
theorem m_restore {im : Nat} (hk : m 57 4 = (if im = 0 then 0 else 1)) (hE2 : (im = 0) → Q (some (.int (-1000000002))) (H (ers m 2) ln N)) (hY : im ≠ 0 → Q (some (.int (m 59 0))) (H (upmR m 58 (m 59)) ln N)) : WP xs (d + 2) 185 0 0 [.ref (89)] (H m ln N) Q := by
  refine wp_x mx_185 (L := [some (.ref (89))]) (Nat.le_of_ble_eq_true rfl) rfl ?_
  by_cases h0 : im = 0
  · have h4 : m 57 4 = 0 := by rw [hk, if_pos h0]
    refine g_aload_n m185_0 rfl ?_
    refine h_gfI (k := 57) (p := 89) m185_1 rfl (t_57 _ _) rfl (h4) ?_
    refine h_if_neT (xi := 0) (zi := 0) m185_4 rfl rfl (by decide) ?_
    refine g_aload_n m185_7 rfl ?_
    refine g_ldci m185_8 rfl ?_
    refine h_cv (k := 57) (p := 89) (args := [.int (-1000000002)]) (rest := []) m185_10 cn_108 (Nat.le_of_ble_eq_true rfl) rfl rfl rfl (t_57 _ _) (Nat.le_of_ble_eq_true rfl) ?_
    refine c_errs (e := 2) (by decide) (by decide) (by decide) ?_
    refine gwr ?_
    refine g_iret m185_13 rt_185 ?_
    exact hE2 h0
  · have h4 : m 57 4 = 1 := by rw [hk, if_neg h0]
    refine g_aload_n m185_0 rfl ?_
    refine h_gfI (k := 57) (p := 89) m185_1 rfl (t_57 _ _) rfl (h4) ?_
    refine h_if_neF (xi := 1) (zi := 0) m185_4 rfl rfl (by decide) ?_
    refine g_aload_n m185_14 rfl ?_
    refine g_aload_n m185_15 rfl ?_
    refine h_gfR (c := 91) (k := 57) (p := 89) m185_16 rfl (t_57 _ _) rfl (Nat.le_of_ble_eq_true rfl) ?_
    refine g_aload_n m185_19 rfl ?_
    refine h_gfR (c := 90) (k := 57) (p := 89) m185_20 rfl (t_57 _ _) rfl (Nat.le_of_ble_eq_true rfl) ?_
    refine h_cv (k := 57) (p := 89) (args := [.ref (91), .ref (90)]) (rest := []) m185_23 cn_110 (Nat.le_of_ble_eq_true rfl) rfl rfl rfl (t_57 _ _) (Nat.le_of_ble_eq_true rfl) ?_
    refine c_moveRow (k1 := 59) (k2 := 58) rfl rfl (t_59 _ _) (t_58 _ _) (by decide) ?_
    refine gwr0 ?_
    refine g_aload_n m185_26 rfl ?_
    refine h_gfR (c := 90) (k := 57) (p := 89) m185_27 rfl (t_57 _ _) rfl (Nat.le_of_ble_eq_true rfl) ?_
    refine g_iconst m185_30 ?_
    refine h_ial (k := 58) (p := 90) (j := 0) m185_31 rfl (t_58 _ _) (rfl) (by omega) (Nat.le_of_ble_eq_true rfl) (rfl) ?_
    refine g_iret m185_32 rt_185 ?_
    exact hY h0
set_option maxRecDepth 20000 in
set_option maxHeartbeats 40000000 in
theorem c_goneOnes {t n : Nat} {m0 X : MW} (ht : t < 4) (hA : AtX m0 t X m) (hn : n ≤ 8) (hd : X 0 10 = nI n) (h01 : ∀ j, j < 8 → X 7 j = 0 ∨ X 7 j = 1) (hQ : Q (some (.int (sumF (X 7) n))) (H m ln N)) : WP xs (d + 1) 48 0 0 [.ref (33 + 9 * t)] (H m ln N) Q := by
  refine wp_x mx_48 (L := [some (.ref (33 + 9 * t)), none, none]) (Nat.le_of_ble_eq_true rfl) rfl ?_
  have key : ∀ (r : Nat) (q : Nat), q + r = n → gw xs (WP xs (d)) 48 Q 4 [some (.ref (33 + 9 * t)), some (.int (sumF (X 7) q)), some (.int (nI (q)))] [] (H m ln N) 0 0 := by
    intro r
    induction r with
    | zero =>
      intro q hq
      obtain rfl : q = n := by omega
      refine g_iload_n m48_4 rfl ?_
      refine g_aload_n m48_5 rfl ?_
      refine h_gfI (k := 1 + 9 * t) (p := 33 + 9 * t) m48_6 (pT 1 _) (tT ht) rfl ((hA.rd ht (j := 0) (i := 10) (by decide)).trans (hd)) ?_
      refine h_ic_geT (xi := ((q : Nat) : Int)) (zi := ((q : Nat) : Int)) m48_9 (nI_toInt (by omega)) (nI_toInt (by omega)) (by omega) ?_
      refine g_iload_n m48_30 rfl ?_
      refine g_iret m48_31 rt_48 ?_
      exact hQ
    | succ r ih =>
      intro q hq
      refine g_iload_n m48_4 rfl ?_
      refine g_aload_n m48_5 rfl ?_
      refine h_gfI (k := 1 + 9 * t) (p := 33 + 9 * t) m48_6 (pT 1 _) (tT ht) rfl ((hA.rd ht (j := 0) (i := 10) (by decide)).trans (hd)) ?_
      refine h_ic_geF (xi := ((q : Nat) : Int)) (zi := ((n : Nat) : Int)) m48_9 (nI_toInt (by omega)) (nI_toInt (by omega)) (by omega) ?_
      refine g_aload_n m48_12 rfl ?_
      refine h_gfR (c := 40 + 9 * t) (k := 1 + 9 * t) (p := 33 + 9 * t) m48_13 (pT 1 _) (tT ht) rfl (le3 (Nat.le_of_ble_eq_true rfl)) ?_
      refine g_iload_n m48_16 rfl ?_
      refine h_bal (k := 8 + 9 * t) (p := 40 + 9 * t) (j := q) m48_17 (pT 8 _) (tA7 ht) (rfl) (by omega) (Nat.le_of_ble_eq_true rfl) (hA.rd ht (j := 7) (i := q) (by decide)) ?_
      refine h_if_eq (xi := _) (zi := 0) m48_18 rfl rfl (fun c1 => ?_) (fun c1 => ?_)
      · skip
        refine g_iinc (L2 := [some (.ref (33 + 9 * t)), some (.int (sumF (X 7) q)), some (.int (nI (q + 1)))]) m48_24 rfl (nI_1 _) rfl rfl ?_
        refine g_goto m48_27 ?_
        have e : sumF (X 7) (q + 1) = sumF (X 7) q := by
          show sumF (X 7) q + X 7 q = _
          rw [(h01 q (by omega)).resolve_right (fun z => by rw [z] at c1; exact absurd c1 (by decide))]
          simp
        have h9 := ih (q + 1) (by omega)
        rw [e] at h9
        exact h9
      · skip
        refine g_iinc (L2 := [some (.ref (33 + 9 * t)), some (.int _), some (.int (nI (q)))]) m48_21 rfl rfl rfl rfl ?_
        refine g_iinc (L2 := [some (.ref (33 + 9 * t)), some (.int _), some (.int (nI (q + 1)))]) m48_24 rfl (nI_1 _) rfl rfl ?_
        refine g_goto m48_27 ?_
        have e : sumF (X 7) (q + 1) = sumF (X 7) q + 1 := by
          show sumF (X 7) q + X 7 q = _
          rw [(h01 q (by omega)).resolve_left (fun z => by rw [z] at c1; exact absurd rfl c1)]
        have h9 := ih (q + 1) (by omega)
        rw [e] at h9
        exact h9
  refine g_iconst m48_0 ?_
  refine g_istore_n (L2 := [some (.ref (33 + 9 * t)), some (.int (0)), none]) m48_1 rfl rfl ?_
  refine g_iconst m48_2 ?_
  refine g_istore_n (L2 := [some (.ref (33 + 9 * t)), some (.int (0)), some (.int (0))]) m48_3 rfl rfl ?_
  exact key n 0 (by omega)
def cntX (m : MW) (n k : Nat) : Int32 := if k = 0 then m 1 10 else if k = 1 then m 1 8 else if k = 2 then m 1 9 else if k = 3 then sumF (m 5) n else if k = 4 then sumF (m 7) n else if k = 5 then sumF (m 8) n else if k = 6 then m 37 2 else if k = 7 then m 37 4 else if k = 8 then m 45 4 else m 37 0
def cntY (m : MW) (n k : Nat) : Int32 := if k = 0 then m 58 2 else if k = 1 then m 58 7 else if k = 2 then m 58 0 else if k = 3 then sumF (vr (m 58) 4) n else if k = 4 then sumF (vr (m 58) 6) n else if k = 5 then sumF (vr (m 58) 7) n else if k = 6 then m 58 3 else if k = 7 then m 58 4 else if k = 8 then m 57 21 else m 58 1
set_option maxRecDepth 20000 in
set_option maxHeartbeats 40000000 in
theorem x_count {v : Int32} {n : Nat} (hd : m 1 10 = nI n) (hn : n ≤ 8) (h01 : ∀ j, j < 8 → m 8 j = 0 ∨ m 8 j = 1) (hE1 : (v.toInt < 0 ∨ 9 < v.toInt) → Q (some (.int (-1000000000 - nI 1))) (H (erm m 1) ln N)) (hY : ∀ k : Nat, v = nI k → k ≤ 9 → Q (some (.int (cntX m n k))) (H m ln N)) : WP xs (d + 3) 104 0 0 [.ref (32), .int (v)] (H m ln N) Q := by
  refine wp_x mx_104 (L := [some (.ref (32)), some (.int (v))]) (Nat.le_of_ble_eq_true rfl) rfl ?_
  refine g_iload_n m104_0 rfl ?_
  by_cases hsw : v.toInt < 0 ∨ 9 < v.toInt
  · refine gs m104_1 ?_
    refine ifT (by show v.toInt < 0 ∨ 9 < v.toInt; exact hsw) ?_
    refine gwpc (pc' := 136) rfl ?_
    refine g_aload_n m104_136 rfl ?_
    refine g_iconst m104_137 ?_
    refine h_cv (k := 0) (p := 32) (args := [.int (1)]) (rest := []) m104_138 cn_55 (Nat.le_of_ble_eq_true rfl) rfl rfl rfl (t_0 _ _) (Nat.le_of_ble_eq_true rfl) ?_
    refine c_error (e := 1) (by decide) (by decide) ?_
    refine gwr ?_
    refine g_iret m104_141 rt_104 ?_
    exact hE1 (by omega)
  · skip
    obtain ⟨kk, ⟨hkk1, hkk2⟩, hkk3⟩ := nat_of (x := v) (lo := 0) (hi := 9) (by omega) (by omega)
    obtain rfl : v = nI kk := hkk3
    rcases (show kk = 0 ∨ kk = 1 ∨ kk = 2 ∨ kk = 3 ∨ kk = 4 ∨ kk = 5 ∨ kk = 6 ∨ kk = 7 ∨ kk = 8 ∨ kk = 9 by omega) with rfl | rfl | rfl | rfl | rfl | rfl | rfl | rfl | rfl | rfl
    · skip
      refine gs m104_1 ?_
      refine gwpc (pc' := 56) rfl ?_
      refine g_aload_n m104_56 rfl ?_
      refine h_gfR (c := 33) (k := 0) (p := 32) m104_57 rfl (t_0 _ _) rfl (Nat.le_of_ble_eq_true rfl) ?_
      refine h_gfI (k := 1) (p := 33) m104_60 rfl (t_1 _ _) rfl rfl ?_
      refine g_iret m104_63 rt_104 ?_
      exact hY 0 rfl (by decide)
    · skip
      refine gs m104_1 ?_
      refine gwpc (pc' := 64) rfl ?_
      refine g_aload_n m104_64 rfl ?_
      refine h_gfR (c := 33) (k := 0) (p := 32) m104_65 rfl (t_0 _ _) rfl (Nat.le_of_ble_eq_true rfl) ?_
      refine h_gfI (k := 1) (p := 33) m104_68 rfl (t_1 _ _) rfl rfl ?_
      refine g_iret m104_71 rt_104 ?_
      exact hY 1 rfl (by decide)
    · skip
      refine gs m104_1 ?_
      refine gwpc (pc' := 72) rfl ?_
      refine g_aload_n m104_72 rfl ?_
      refine h_gfR (c := 33) (k := 0) (p := 32) m104_73 rfl (t_0 _ _) rfl (Nat.le_of_ble_eq_true rfl) ?_
      refine h_gfI (k := 1) (p := 33) m104_76 rfl (t_1 _ _) rfl rfl ?_
      refine g_iret m104_79 rt_104 ?_
      exact hY 2 rfl (by decide)
    · skip
      refine gs m104_1 ?_
      refine gwpc (pc' := 80) rfl ?_
      refine g_aload_n m104_80 rfl ?_
      refine h_gfR (c := 33) (k := 0) (p := 32) m104_81 rfl (t_0 _ _) rfl (Nat.le_of_ble_eq_true rfl) ?_
      refine h_cv (k := 1) (p := 33) (args := []) (rest := []) m104_84 cn_45 (Nat.le_of_ble_eq_true rfl) rfl rfl rfl (t_1 _ _) (Nat.le_of_ble_eq_true rfl) ?_
      refine c_hungerOfAll (t := 0) (m0 := m) (X := vw m 0) (by decide) (AtX.self m 0) hn hd ?_
      refine gwr ?_
      refine g_iret m104_87 rt_104 ?_
      exact hY 3 rfl (by decide)
    · skip
      refine gs m104_1 ?_
      refine gwpc (pc' := 88) rfl ?_
      refine g_aload_n m104_88 rfl ?_
      refine h_gfR (c := 33) (k := 0) (p := 32) m104_89 rfl (t_0 _ _) rfl (Nat.le_of_ble_eq_true rfl) ?_
      refine h_cv (k := 1) (p := 33) (args := []) (rest := []) m104_92 cn_47 (Nat.le_of_ble_eq_true rfl) rfl rfl rfl (t_1 _ _) (Nat.le_of_ble_eq_true rfl) ?_
      refine c_hadByAll (t := 0) (m0 := m) (X := vw m 0) (by decide) (AtX.self m 0) hn hd ?_
      refine gwr ?_
      refine g_iret m104_95 rt_104 ?_
      exact hY 4 rfl (by decide)
    · skip
      refine gs m104_1 ?_
      refine gwpc (pc' := 96) rfl ?_
      refine g_aload_n m104_96 rfl ?_
      refine h_gfR (c := 33) (k := 0) (p := 32) m104_97 rfl (t_0 _ _) rfl (Nat.le_of_ble_eq_true rfl) ?_
      refine h_cv (k := 1) (p := 33) (args := []) (rest := []) m104_100 cn_48 (Nat.le_of_ble_eq_true rfl) rfl rfl rfl (t_1 _ _) (Nat.le_of_ble_eq_true rfl) ?_
      refine c_goneOnes (t := 0) (m0 := m) (X := vw m 0) (by decide) (AtX.self m 0) hn hd h01 ?_
      refine gwr ?_
      refine g_iret m104_103 rt_104 ?_
      exact hY 5 rfl (by decide)
    · skip
      refine gs m104_1 ?_
      refine gwpc (pc' := 104) rfl ?_
      refine g_aload_n m104_104 rfl ?_
      refine h_gfR (c := 69) (k := 0) (p := 32) m104_105 rfl (t_0 _ _) rfl (Nat.le_of_ble_eq_true rfl) ?_
      refine h_gfI (k := 37) (p := 69) m104_108 rfl (t_37 _ _) rfl rfl ?_
      refine g_iret m104_111 rt_104 ?_
      exact hY 6 rfl (by decide)
    · skip
      refine gs m104_1 ?_
      refine gwpc (pc' := 112) rfl ?_
      refine g_aload_n m104_112 rfl ?_
      refine h_gfR (c := 69) (k := 0) (p := 32) m104_113 rfl (t_0 _ _) rfl (Nat.le_of_ble_eq_true rfl) ?_
      refine h_gfI (k := 37) (p := 69) m104_116 rfl (t_37 _ _) rfl rfl ?_
      refine g_iret m104_119 rt_104 ?_
      exact hY 7 rfl (by decide)
    · skip
      refine gs m104_1 ?_
      refine gwpc (pc' := 120) rfl ?_
      refine g_aload_n m104_120 rfl ?_
      refine h_gfR (c := 77) (k := 0) (p := 32) m104_121 rfl (t_0 _ _) rfl (Nat.le_of_ble_eq_true rfl) ?_
      refine h_gfI (k := 45) (p := 77) m104_124 rfl (t_45 _ _) rfl rfl ?_
      refine g_iret m104_127 rt_104 ?_
      exact hY 8 rfl (by decide)
    · skip
      refine gs m104_1 ?_
      refine gwpc (pc' := 128) rfl ?_
      refine g_aload_n m104_128 rfl ?_
      refine h_gfR (c := 69) (k := 0) (p := 32) m104_129 rfl (t_0 _ _) rfl (Nat.le_of_ble_eq_true rfl) ?_
      refine h_gfI (k := 37) (p := 69) m104_132 rfl (t_37 _ _) rfl rfl ?_
      refine g_iret m104_135 rt_104 ?_
      exact hY 9 rfl (by decide)
set_option maxRecDepth 20000 in
set_option maxHeartbeats 40000000 in
theorem m_count {v : Int32} {n : Nat} (hd : m 58 2 = nI n) (hn : n ≤ 8) (hE1 : (v.toInt < 0 ∨ 9 < v.toInt) → Q (some (.int (-1000000001))) (H (ers m 1) ln N)) (hY : ∀ k : Nat, v = nI k → k ≤ 9 → Q (some (.int (cntY m n k))) (H m ln N)) : WP xs (d + 3) 188 0 0 [.ref (89), .int (v)] (H m ln N) Q := by
  refine wp_x mx_188 (L := [some (.ref (89)), some (.int (v))]) (Nat.le_of_ble_eq_true rfl) rfl ?_
  refine g_iload_n m188_0 rfl ?_
  by_cases hsw : v.toInt < 0 ∨ 9 < v.toInt
  · refine gs m188_1 ?_
    refine ifT (by show v.toInt < 0 ∨ 9 < v.toInt; exact hsw) ?_
    refine gwpc (pc' := 122) rfl ?_
    refine g_aload_n m188_122 rfl ?_
    refine g_ldci m188_123 rfl ?_
    refine h_cv (k := 57) (p := 89) (args := [.int (-1000000001)]) (rest := []) m188_125 cn_108 (Nat.le_of_ble_eq_true rfl) rfl rfl rfl (t_57 _ _) (Nat.le_of_ble_eq_true rfl) ?_
    refine c_errs (e := 1) (by decide) (by decide) (by decide) ?_
    refine gwr ?_
    refine g_iret m188_128 rt_188 ?_
    exact hE1 (by omega)
  · skip
    obtain ⟨kk, ⟨hkk1, hkk2⟩, hkk3⟩ := nat_of (x := v) (lo := 0) (hi := 9) (by omega) (by omega)
    obtain rfl : v = nI kk := hkk3
    rcases (show kk = 0 ∨ kk = 1 ∨ kk = 2 ∨ kk = 3 ∨ kk = 4 ∨ kk = 5 ∨ kk = 6 ∨ kk = 7 ∨ kk = 8 ∨ kk = 9 by omega) with rfl | rfl | rfl | rfl | rfl | rfl | rfl | rfl | rfl | rfl
    · skip
      refine gs m188_1 ?_
      refine gwpc (pc' := 56) rfl ?_
      refine g_aload_n m188_56 rfl ?_
      refine h_gfR (c := 90) (k := 57) (p := 89) m188_57 rfl (t_57 _ _) rfl (Nat.le_of_ble_eq_true rfl) ?_
      refine g_iconst m188_60 ?_
      refine h_ial (k := 58) (p := 90) (j := 2) m188_61 rfl (t_58 _ _) (rfl) (by omega) (Nat.le_of_ble_eq_true rfl) (rfl) ?_
      refine g_iret m188_62 rt_188 ?_
      exact hY 0 rfl (by decide)
    · skip
      refine gs m188_1 ?_
      refine gwpc (pc' := 63) rfl ?_
      refine g_aload_n m188_63 rfl ?_
      refine h_gfR (c := 90) (k := 57) (p := 89) m188_64 rfl (t_57 _ _) rfl (Nat.le_of_ble_eq_true rfl) ?_
      refine g_bipush m188_67 ?_
      refine h_ial (k := 58) (p := 90) (j := 7) m188_69 rfl (t_58 _ _) (rfl) (by omega) (Nat.le_of_ble_eq_true rfl) (rfl) ?_
      refine g_iret m188_70 rt_188 ?_
      exact hY 1 rfl (by decide)
    · skip
      refine gs m188_1 ?_
      refine gwpc (pc' := 71) rfl ?_
      refine g_aload_n m188_71 rfl ?_
      refine h_gfR (c := 90) (k := 57) (p := 89) m188_72 rfl (t_57 _ _) rfl (Nat.le_of_ble_eq_true rfl) ?_
      refine g_iconst m188_75 ?_
      refine h_ial (k := 58) (p := 90) (j := 0) m188_76 rfl (t_58 _ _) (rfl) (by omega) (Nat.le_of_ble_eq_true rfl) (rfl) ?_
      refine g_iret m188_77 rt_188 ?_
      exact hY 2 rfl (by decide)
    · skip
      refine gs m188_1 ?_
      refine gwpc (pc' := 78) rfl ?_
      refine g_aload_n m188_78 rfl ?_
      refine g_iconst m188_79 ?_
      refine h_cv (k := 57) (p := 89) (args := [.int (2)]) (rest := []) m188_80 cn_147 (Nat.le_of_ble_eq_true rfl) rfl rfl rfl (t_57 _ _) (Nat.le_of_ble_eq_true rfl) ?_
      refine c_sumOf (w := 2) (AtY.self m) (by decide) hn hd ?_
      refine gwr ?_
      refine g_iret m188_83 rt_188 ?_
      exact hY 3 rfl (by decide)
    · skip
      refine gs m188_1 ?_
      refine gwpc (pc' := 84) rfl ?_
      refine g_aload_n m188_84 rfl ?_
      refine g_iconst m188_85 ?_
      refine h_cv (k := 57) (p := 89) (args := [.int (4)]) (rest := []) m188_86 cn_147 (Nat.le_of_ble_eq_true rfl) rfl rfl rfl (t_57 _ _) (Nat.le_of_ble_eq_true rfl) ?_
      refine c_sumOf (w := 4) (AtY.self m) (by decide) hn hd ?_
      refine gwr ?_
      refine g_iret m188_89 rt_188 ?_
      exact hY 4 rfl (by decide)
    · skip
      refine gs m188_1 ?_
      refine gwpc (pc' := 90) rfl ?_
      refine g_aload_n m188_90 rfl ?_
      refine g_iconst m188_91 ?_
      refine h_cv (k := 57) (p := 89) (args := [.int (5)]) (rest := []) m188_92 cn_147 (Nat.le_of_ble_eq_true rfl) rfl rfl rfl (t_57 _ _) (Nat.le_of_ble_eq_true rfl) ?_
      refine c_sumOf (w := 5) (AtY.self m) (by decide) hn hd ?_
      refine gwr ?_
      refine g_iret m188_95 rt_188 ?_
      exact hY 5 rfl (by decide)
    · skip
      refine gs m188_1 ?_
      refine gwpc (pc' := 96) rfl ?_
      refine g_aload_n m188_96 rfl ?_
      refine h_gfR (c := 90) (k := 57) (p := 89) m188_97 rfl (t_57 _ _) rfl (Nat.le_of_ble_eq_true rfl) ?_
      refine g_iconst m188_100 ?_
      refine h_ial (k := 58) (p := 90) (j := 3) m188_101 rfl (t_58 _ _) (rfl) (by omega) (Nat.le_of_ble_eq_true rfl) (rfl) ?_
      refine g_iret m188_102 rt_188 ?_
      exact hY 6 rfl (by decide)
    · skip
      refine gs m188_1 ?_
      refine gwpc (pc' := 103) rfl ?_
      refine g_aload_n m188_103 rfl ?_
      refine h_gfR (c := 90) (k := 57) (p := 89) m188_104 rfl (t_57 _ _) rfl (Nat.le_of_ble_eq_true rfl) ?_
      refine g_iconst m188_107 ?_
      refine h_ial (k := 58) (p := 90) (j := 4) m188_108 rfl (t_58 _ _) (rfl) (by omega) (Nat.le_of_ble_eq_true rfl) (rfl) ?_
      refine g_iret m188_109 rt_188 ?_
      exact hY 7 rfl (by decide)
    · skip
      refine gs m188_1 ?_
      refine gwpc (pc' := 110) rfl ?_
      refine g_aload_n m188_110 rfl ?_
      refine h_gfI (k := 57) (p := 89) m188_111 rfl (t_57 _ _) rfl rfl ?_
      refine g_iret m188_114 rt_188 ?_
      exact hY 8 rfl (by decide)
    · skip
      refine gs m188_1 ?_
      refine gwpc (pc' := 115) rfl ?_
      refine g_aload_n m188_115 rfl ?_
      refine h_gfR (c := 90) (k := 57) (p := 89) m188_116 rfl (t_57 _ _) rfl (Nat.le_of_ble_eq_true rfl) ?_
      refine g_iconst m188_119 ?_
      refine h_ial (k := 58) (p := 90) (j := 1) m188_120 rfl (t_58 _ _) (rfl) (by omega) (Nat.le_of_ble_eq_true rfl) (rfl) ?_
      refine g_iret m188_121 rt_188 ?_
      exact hY 9 rfl (by decide)
end
end
section
/-! WHAT WOULD BE, in numbers -/
theorem had_step {LK BL : LF} {X : MW} (w : WF X) {i : Nat} (hi : i < 8) : (X 6 i).toInt ≤ (stepF LK BL X 6 i).toInt := by
  have hp : ∀ k, k ≤ 8 → (X 6 i).toInt ≤ (passN LK BL (svF LK X) X k 6 i).toInt := by
    intro k
    induction k with
    | zero => intro _; exact Int.le_refl _
    | succ k ih =>
      intro hk
      have h1 := ih (by omega)
      rw [passN_s]
      split
      · by_cases e : i = k
        · subst e
          rw [passF_6]
          have e6 : passN LK BL (svF LK X) X i 6 i = X 6 i := passN_o _ _ _ _ _ (by omega)
          unfold hadF
          rw [e6]
          split
          · obtain ⟨c, hc, he⟩ := (w.2.2 i hi).2.2.2.2.2.1
            have e9 : (99 : Int32).toInt = 99 := rfl
            rw [he, nI_1]
            unfold heldF
            rw [nI_toInt (n := c + 1) (by omega), nI_toInt (n := c) (by omega), if_neg (by omega)]
            split
            · omega
            · rw [nI_toInt (n := c + 1) (by omega)]
              omega
          · exact Int.le_refl _
        · rw [passF_o _ _ _ _ _ (Or.inl e)]
          exact h1
      · exact h1
  have e : stepF LK BL X 6 i = passN LK BL (svF LK X) X (nOf X) 6 i := by
    unfold stepF
    exact upm_k _ _ (by decide)
  rw [e]
  exact hp _ (nOf_le w)
theorem had_mono {LK BL : LF} {X : MW} (w : WF X) {i : Nat} (hi : i < 8) (q : Nat) : ∀ r, (stepN LK BL X q 6 i).toInt ≤ (stepN LK BL X (q + r) 6 i).toInt
  | 0 => Int.le_refl _
  | r + 1 => Int.le_trans (had_mono w hi q r) (had_step (WF_stepN w (q + r)) hi)
/-- what has more after n steps -/
def moreN (LK BL : LF) (X : MW) (n i : Nat) : Bool := decide ((X 6 i).toInt < (stepN LK BL X n 6 i).toInt)
/-- the shams of a set set -/
def shamX (X : MW) (a : Nat) (s : Int32) : MW := fun j k => if j = 5 ∧ k < nOf X ∧ a.testBit k = true then s else X j k
theorem WF_sham {X : MW} {i : Nat} {s : Int32} (w : WF X) (hs : leI s 9) : WF (upm X 5 i s) := by
  refine ⟨?_, ?_, fun k hk => ?_⟩
  · rw [upm_k _ _ (by decide)]
    exact w.1
  · rw [upm_k _ _ (by decide)]
    exact w.2.1
  · obtain ⟨w1, w2, w3, w4, w5, w6, w7⟩ := w.2.2 k hk
    have e : ∀ j k, j ≠ 5 → upm X 5 i s j k = X j k := fun j k h => upm_k _ _ h
    rw [e 1 k (by decide), e 2 k (by decide), e 3 k (by decide), e 4 k (by decide), e 6 k (by decide), e 7 k (by decide)]
    refine ⟨w1, w2, w3, w4, ?_, w6, w7⟩
    unfold upm
    split
    · exact hs
    · exact w5
theorem WF_shamX {X : MW} {a : Nat} {s : Int32} (w : WF X) (hs : leI s 9) : WF (shamX X a s) := by
  have e : ∀ j k, j ≠ 5 → shamX X a s j k = X j k := fun j k h => if_neg (fun q => h q.1)
  refine ⟨?_, ?_, fun k hk => ?_⟩
  · rw [e 0 10 (by decide)]
    exact w.1
  · rw [e 0 8 (by decide)]
    exact w.2.1
  · obtain ⟨w1, w2, w3, w4, w5, w6, w7⟩ := w.2.2 k hk
    rw [e 1 k (by decide), e 2 k (by decide), e 3 k (by decide), e 4 k (by decide), e 6 k (by decide), e 7 k (by decide)]
    refine ⟨w1, w2, w3, w4, ?_, w6, w7⟩
    unfold shamX
    split
    · exact hs
    · exact w5
theorem shamX_1 {X : MW} {i : Nat} {s : Int32} (hi : i < nOf X) (j k : Nat) : shamX X (2 ^ i) s j k = upm X 5 i s j k := by
  unfold shamX upm
  by_cases h : j = 5 ∧ k = i
  · obtain ⟨rfl, rfl⟩ := h
    rw [if_pos ⟨rfl, hi, by rw [Nat.testBit_two_pow_self]⟩, if_pos ⟨rfl, rfl⟩]
  · rw [if_neg h, if_neg (fun q => h ⟨q.1, by
      have h2 := q.2.2
      rw [Nat.testBit_two_pow] at h2
      have := of_decide_eq_true h2
      omega⟩)]
/-- class's table for thinking -/
def FrT (m m2 : MW) : Prop := ∀ k j, ¬ (10 ≤ k ∧ k < 28) → ¬ minor k j → m2 k j = m k j
theorem FrT.of {m m2 X2 : MW} (h : AtX (takeM m 1 0) 1 X2 m2) : FrT m m2 := fun k j h1 h2 => (h.out (by omega) h2).trans (congrFun (take_o m 1 0 (by omega)) j)
theorem FrT.rf {m : MW} : FrT m m := fun _ _ _ _ => rfl
theorem FrT.tr {m m2 m3 : MW} (h : FrT m m2) (h2 : FrT m2 m3) : FrT m m3 := fun k j a b => (h2 k j a b).trans (h k j a b)
theorem FrT.row {m m2 : MW} (h : FrT m m2) {k : Nat} (h1 : ¬ (10 ≤ k ∧ k < 28)) (h2 : k < 57) : m2 k = m k := funext fun j => h k j h1 (fun q => by rcases q with q | q <;> omega)
theorem FrT.vw0 {m m2 : MW} (h : FrT m m2) {j : Nat} (hj : j < 9) : vw m2 0 j = vw m 0 j := h.row (by omega) (by omega)
theorem FrT.cod {m m2 : MW} (h : FrT m m2) (ln : Nat → Nat) : codL m2 ln = codL m ln := by
  funext i
  unfold codL
  apply List.map_congr_left
  intro j _
  exact h _ _ (by omega) (fun q => by rcases q with q | q <;> omega)
theorem FrT.laws {m m2 : MW} (h : FrT m m2) {ln : Nat → Nat} {N : Nat} (q : LawsOk m ln N) : LawsOk m2 ln N := ⟨q.1, fun i hi => by rw [h.cod]; exact q.2 i hi⟩
theorem FrT.lk {m m2 : MW} (h : FrT m m2) (ln : Nat → Nat) (x : Int32) : lkF m2 ln x = lkF m ln x := by rw [lkC_e, lkC_e, h.cod]
theorem FrT.bl {m m2 : MW} (h : FrT m m2) (ln : Nat → Nat) (x : Int32) : blF m2 ln x = blF m ln x := by rw [blC_e, blC_e, h.cod]
theorem FrT.wf {m m2 : MW} (h : FrT m m2) (w : WF (vw m 0)) : WF (vw m2 0) := WF_c (fun j hj i => by rw [h.vw0 (by omega)]) w
theorem FrT.tk {m : MW} : FrT m (takeM m 1 0) := fun k j h1 _ => congrFun (take_o m 1 0 (by omega)) j
/-- the table for thinking, just taken over: contracts' premises -/
theorem tk_l {m : MW} {ln : Nat → Nat} {N : Nat} (h : LawsOk m ln N) (t s : Nat) (ht : t < 4) : LawsOk (takeM m t s) ln N := ⟨h.1, fun i hi => by rw [take_cod m t s ht]; exact h.2 i hi⟩
theorem tk_lk (m : MW) (t s : Nat) (ht : t < 4) (ln : Nat → Nat) (x : Int32) : lkF (takeM m t s) ln x = lkF m ln x := by rw [lkC_e, lkC_e, take_cod m t s ht]
theorem tk_bl (m : MW) (t s : Nat) (ht : t < 4) (ln : Nat → Nat) (x : Int32) : blF (takeM m t s) ln x = blF m ln x := by rw [blC_e, blC_e, take_cod m t s ht]
theorem firstF_8 {LK BL : LF} {X Y : MW} (h : Eq8 X Y) (i : Nat) : ∀ r q, firstF LK BL Y i r q = firstF LK BL X i r q
  | 0, _ => rfl
  | r + 1, q => by
    have e : moreAt LK BL Y i q = moreAt LK BL X i q := by
      unfold moreAt
      rw [h 6 (by decide), stepN_8 h q 6 (by decide)]
    show (if moreAt LK BL Y i q = true then q else firstF LK BL Y i r (q + 1)) = (if moreAt LK BL X i q = true then q else firstF LK BL X i r (q + 1))
    rw [e, firstF_8 h i r (q + 1)]
end
section
/-! WHAT WOULD BE: the class -/
def whatF (k : Nat) : Nat := if k = 0 then 4 else if k = 1 then 6 else 7
section
variable {xs : List Int32} {d : Nat} {h : AH} {Q : QT} {m : MW} {ln : Nat → Nat} {N : Nat}
set_option maxRecDepth 20000 in
set_option maxHeartbeats 40000000 in
theorem c_think (h01 : ∀ j, j < 8 → m 8 j = 0 ∨ m 8 j = 1) (hQ : Q (some (.ref 42)) (H (takeM m 1 0) ln N)) : WP xs (d + 2) 74 0 0 [.ref (32)] (H m ln N) Q := by
  refine wp_x mx_74 (L := [some (.ref (32))]) (Nat.le_of_ble_eq_true rfl) rfl ?_
  refine g_aload_n m74_0 rfl ?_
  refine h_gfR (c := 42) (k := 0) (p := 32) m74_1 rfl (t_0 _ _) rfl (Nat.le_of_ble_eq_true rfl) ?_
  refine g_aload_n m74_4 rfl ?_
  refine h_gfR (c := 33) (k := 0) (p := 32) m74_5 rfl (t_0 _ _) rfl (Nat.le_of_ble_eq_true rfl) ?_
  refine h_cv (k := 10) (p := 42) (args := [.ref (33)]) (rest := []) m74_8 cn_31 (Nat.le_of_ble_eq_true rfl) rfl rfl rfl (t_10 _ _) (Nat.le_of_ble_eq_true rfl) ?_
  refine c_take10 h01 ?_
  refine gwr0 ?_
  refine g_aload_n m74_11 rfl ?_
  refine h_gfR (c := 42) (k := 0) (p := 32) m74_12 rfl (t_0 _ _) rfl (Nat.le_of_ble_eq_true rfl) ?_
  refine g_aret m74_15 ?_
  exact hQ
set_option maxRecDepth 20000 in
set_option maxHeartbeats 40000000 in
theorem x_then {v a b : Int32} {n : Nat} (hd : m 1 10 = nI n) (hn : n ≤ 8) (h01 : ∀ j, j < 8 → m 8 j = 0 ∨ m 8 j = 1) (hW : WF (vw m 0)) (hL : LawsOk m ln N) (hix : LawIx N (m 1 11)) (hiy : LawIx N (m 1 12)) (hE1 : (v.toInt < 0 ∨ 60 < v.toInt ∨ a.toInt < 0 ∨ (n : Int) ≤ a.toInt ∨ b.toInt < 0 ∨ 2 < b.toInt) → Q (some (.int (-1000000000 - nI 1))) (H (erm m 1) ln N)) (hY : ∀ q i k : Nat, v = nI q → q ≤ 60 → a = nI i → i < n → b = nI k → k ≤ 2 → ∀ m2, FrT m m2 → Q (some (.int (stepN (lkF m ln (m 1 11)) (blF m ln (m 1 12)) (vw m 0) q (whatF k) i))) (H m2 ln N)) : WP xs (d + 7) 75 0 0 [.ref (32), .int (v), .int (a), .int (b)] (H m ln N) Q := by
  refine wp_x mx_75 (L := [some (.ref (32)), some (.int (v)), some (.int (a)), some (.int (b)), none]) (Nat.le_of_ble_eq_true rfl) rfl ?_
  refine g_iload_n m75_0 rfl ?_
  refine g_bipush m75_1 ?_
  refine g_cs (args := [.int (v), .int (60)]) (rest := []) 0 (Or.inl rfl) m75_3 (Nat.le_of_ble_eq_true rfl) rfl rfl (Nat.le_of_ble_eq_true rfl) ?_
  refine c_within (M := 60) rfl (fun jv ev a_1 => ?_) (fun a_1 => ?_)
  · subst ev
    refine gwr ?_
    refine h_if_eqF (xi := 1) (zi := 0) m75_6 rfl rfl (by decide) ?_
    refine g_aload_n m75_9 rfl ?_
    refine g_iload_n m75_10 rfl ?_
    refine h_cv (k := 0) (p := 32) (args := [.int (a)]) (rest := []) m75_11 cn_60 (Nat.le_of_ble_eq_true rfl) rfl rfl rfl (t_0 _ _) (Nat.le_of_ble_eq_true rfl) ?_
    refine c_isDiner hd hn (fun ja ea a_2 => ?_) (fun a_2 => ?_)
    · subst ea
      refine gwr ?_
      refine h_if_eqF (xi := 1) (zi := 0) m75_14 rfl rfl (by decide) ?_
      refine g_iload_n m75_17 rfl ?_
      refine g_iconst m75_18 ?_
      refine g_cs (args := [.int (b), .int (2)]) (rest := []) 0 (Or.inl rfl) m75_19 (Nat.le_of_ble_eq_true rfl) rfl rfl (Nat.le_of_ble_eq_true rfl) ?_
      refine c_within (M := 2) rfl (fun jb eb a_3 => ?_) (fun a_3 => ?_)
      · subst eb
        refine gwr ?_
        refine h_if_neF (xi := 1) (zi := 0) m75_22 rfl rfl (by decide) ?_
        refine g_aload_n m75_31 rfl ?_
        refine h_cv (k := 0) (p := 32) (args := []) (rest := []) m75_32 cn_74 (Nat.le_of_ble_eq_true rfl) rfl rfl rfl (t_0 _ _) (Nat.le_of_ble_eq_true rfl) ?_
        refine c_think h01 ?_
        have hL1 : LawsOk (takeM m 1 0) ln N := tk_l hL 1 0 (by decide)
        have elk := tk_lk m 1 0 (by decide) ln (m 1 11)
        have ebl := tk_bl m 1 0 (by decide) ln (m 1 12)
        have h80 := take_8 m 1 0
        have hW1 : WF (vw (takeM m 1 0) 1) := WF_c h80 hW
        refine gwr ?_
        refine g_astore (L2 := [some (.ref (32)), some (.int (nI (jv))), some (.int (nI (ja))), some (.int (nI (jb))), some (.ref (42))]) m75_35 rfl rfl ?_
        refine g_aload m75_37 rfl ?_
        refine g_iload_n m75_39 rfl ?_
        refine h_cv (k := 10) (p := 42) (args := [.int (nI (jv))]) (rest := []) m75_40 cn_41 (Nat.le_of_ble_eq_true rfl) rfl rfl rfl (t_10 _ _) (Nat.le_of_ble_eq_true rfl) ?_
        refine c_goOn (n := jv) (x := m 1 11) (y := m 1 12) (t := 1) (m0 := takeM m 1 0) (X := vw (takeM m 1 0) 1) (by decide) hL1 (AtX.self _ 1) rfl hix rfl hiy hW1 (by omega) (fun X2 m2 h8 hA => ?_)
        rw [elk, ebl] at h8
        have h8 := (stepN_8 (LK := (lkF m ln (m 1 11))) (BL := (blF m ln (m 1 12))) h80 jv).tr h8
        refine gwr0 ?_
        refine g_iload_n m75_43 rfl ?_
        rcases (show jb = 0 ∨ jb = 1 ∨ jb = 2 by omega) with rfl | rfl | rfl
        · skip
          refine gs m75_44 ?_
          refine gwpc (pc' := 72) rfl ?_
          refine g_aload m75_72 rfl ?_
          refine h_gfR (c := 46) (k := 10) (p := 42) m75_74 rfl (t_10 _ _) rfl (Nat.le_of_ble_eq_true rfl) ?_
          refine g_iload_n m75_77 rfl ?_
          refine h_ial (k := 14) (p := 46) (j := ja) m75_78 rfl (t_14 _ _) (rfl) (by omega) (Nat.le_of_ble_eq_true rfl) (hA.rd (by decide) (j := 4) (i := ja) (by decide)) ?_
          refine g_iret m75_79 rt_75 ?_
          have h9 := hY jv ja 0 rfl (by omega) rfl (by omega) rfl (by decide) m2 (FrT.of hA)
          rw [show whatF 0 = 4 from rfl, ← h8 4 (by decide)] at h9
          exact h9
        · skip
          refine gs m75_44 ?_
          refine gwpc (pc' := 80) rfl ?_
          refine g_aload m75_80 rfl ?_
          refine h_gfR (c := 48) (k := 10) (p := 42) m75_82 rfl (t_10 _ _) rfl (Nat.le_of_ble_eq_true rfl) ?_
          refine g_iload_n m75_85 rfl ?_
          refine h_ial (k := 16) (p := 48) (j := ja) m75_86 rfl (t_16 _ _) (rfl) (by omega) (Nat.le_of_ble_eq_true rfl) (hA.rd (by decide) (j := 6) (i := ja) (by decide)) ?_
          refine g_iret m75_87 rt_75 ?_
          have h9 := hY jv ja 1 rfl (by omega) rfl (by omega) rfl (by decide) m2 (FrT.of hA)
          rw [show whatF 1 = 6 from rfl, ← h8 6 (by decide)] at h9
          exact h9
        · skip
          refine gs m75_44 ?_
          refine gwpc (pc' := 88) rfl ?_
          refine g_aload m75_88 rfl ?_
          refine h_gfR (c := 49) (k := 10) (p := 42) m75_90 rfl (t_10 _ _) rfl (Nat.le_of_ble_eq_true rfl) ?_
          refine g_iload_n m75_93 rfl ?_
          refine h_bal (k := 17) (p := 49) (j := ja) m75_94 rfl (t_17 _ _) (rfl) (by omega) (Nat.le_of_ble_eq_true rfl) (hA.rd (by decide) (j := 7) (i := ja) (by decide)) ?_
          refine h_if_eq (xi := _) (zi := 0) m75_95 rfl rfl (fun c1 => ?_) (fun c1 => ?_)
          · skip
            refine g_iconst m75_102 ?_
            refine g_iret m75_103 rt_75 ?_
            have h7 := ((WF_stepN (LK := (lkF m ln (m 1 11))) (BL := (blF m ln (m 1 12))) hW jv).2.2 ja (by omega)).2.2.2.2.2.2
            rw [← h8 7 (by decide)] at h7
            have e : X2 7 ja = 0 := h7.resolve_right (fun q => by rw [q] at c1; exact absurd c1 (by decide))
            rw [h8 7 (by decide)] at e
            have h9 := hY jv ja 2 rfl (by omega) rfl (by omega) rfl (by decide) m2 (FrT.of hA)
            rw [show whatF 2 = 7 from rfl, e] at h9
            exact h9
          · skip
            refine g_iconst m75_98 ?_
            refine g_goto m75_99 ?_
            refine g_iret m75_103 rt_75 ?_
            have h7 := ((WF_stepN (LK := (lkF m ln (m 1 11))) (BL := (blF m ln (m 1 12))) hW jv).2.2 ja (by omega)).2.2.2.2.2.2
            rw [← h8 7 (by decide)] at h7
            have e : X2 7 ja = 1 := h7.resolve_left (fun q => by rw [q] at c1; exact absurd c1 (by decide))
            rw [h8 7 (by decide)] at e
            have h9 := hY jv ja 2 rfl (by omega) rfl (by omega) rfl (by decide) m2 (FrT.of hA)
            rw [show whatF 2 = 7 from rfl, e] at h9
            exact h9
      · skip
        refine gwr ?_
        refine h_if_neT (xi := 0) (zi := 0) m75_22 rfl rfl (by decide) ?_
        refine g_aload_n m75_25 rfl ?_
        refine g_iconst m75_26 ?_
        refine h_cv (k := 0) (p := 32) (args := [.int (1)]) (rest := []) m75_27 cn_55 (Nat.le_of_ble_eq_true rfl) rfl rfl rfl (t_0 _ _) (Nat.le_of_ble_eq_true rfl) ?_
        refine c_error (e := 1) (by decide) (by decide) ?_
        refine gwr ?_
        refine g_iret m75_30 rt_75 ?_
        exact hE1 (by omega)
    · skip
      refine gwr ?_
      refine h_if_eqT (xi := 0) (zi := 0) m75_14 rfl rfl (by decide) ?_
      refine g_aload_n m75_25 rfl ?_
      refine g_iconst m75_26 ?_
      refine h_cv (k := 0) (p := 32) (args := [.int (1)]) (rest := []) m75_27 cn_55 (Nat.le_of_ble_eq_true rfl) rfl rfl rfl (t_0 _ _) (Nat.le_of_ble_eq_true rfl) ?_
      refine c_error (e := 1) (by decide) (by decide) ?_
      refine gwr ?_
      refine g_iret m75_30 rt_75 ?_
      exact hE1 (by omega)
  · skip
    refine gwr ?_
    refine h_if_eqT (xi := 0) (zi := 0) m75_6 rfl rfl (by decide) ?_
    refine g_aload_n m75_25 rfl ?_
    refine g_iconst m75_26 ?_
    refine h_cv (k := 0) (p := 32) (args := [.int (1)]) (rest := []) m75_27 cn_55 (Nat.le_of_ble_eq_true rfl) rfl rfl rfl (t_0 _ _) (Nat.le_of_ble_eq_true rfl) ?_
    refine c_error (e := 1) (by decide) (by decide) ?_
    refine gwr ?_
    refine g_iret m75_30 rt_75 ?_
    exact hE1 (by omega)
theorem firstF_le {LK BL : LF} {X : MW} {i : Nat} : ∀ r q, firstF LK BL X i r q ≤ q + r - 1
  | 0, q => Nat.zero_le _
  | r + 1, q => by
    show (if moreAt LK BL X i q = true then q else firstF LK BL X i r (q + 1)) ≤ q + (r + 1) - 1
    have h := firstF_le (LK := LK) (BL := BL) (X := X) (i := i) r (q + 1)
    split <;> omega
set_option maxRecDepth 20000 in
set_option maxHeartbeats 40000000 in
theorem x_first {a : Int32} {n : Nat} (hd : m 1 10 = nI n) (hn : n ≤ 8) (h01 : ∀ j, j < 8 → m 8 j = 0 ∨ m 8 j = 1) (hW : WF (vw m 0)) (hL : LawsOk m ln N) (hix : LawIx N (m 1 11)) (hiy : LawIx N (m 1 12)) (hE1 : (a.toInt < 0 ∨ (n : Int) ≤ a.toInt) → Q (some (.int (-1000000000 - nI 1))) (H (erm m 1) ln N)) (hE2 : ∀ i : Nat, a = nI i → i < n → (firstF (lkF m ln (m 1 11)) (blF m ln (m 1 12)) (vw m 0) i 60 1) = 0 → ∀ m2, FrT m m2 → Q (some (.int (-1000000000 - nI 2))) (H (erm m2 2) ln N)) (hY : ∀ i : Nat, a = nI i → i < n → (firstF (lkF m ln (m 1 11)) (blF m ln (m 1 12)) (vw m 0) i 60 1) ≠ 0 → ∀ m2, FrT m m2 → Q (some (.int (nI (firstF (lkF m ln (m 1 11)) (blF m ln (m 1 12)) (vw m 0) i 60 1)))) (H m2 ln N)) : WP xs (d + 7) 76 0 0 [.ref (32), .int (a)] (H m ln N) Q := by
  refine wp_x mx_76 (L := [some (.ref (32)), some (.int (a)), none]) (Nat.le_of_ble_eq_true rfl) rfl ?_
  refine g_aload_n m76_0 rfl ?_
  refine g_iload_n m76_1 rfl ?_
  refine h_cv (k := 0) (p := 32) (args := [.int (a)]) (rest := []) m76_2 cn_60 (Nat.le_of_ble_eq_true rfl) rfl rfl rfl (t_0 _ _) (Nat.le_of_ble_eq_true rfl) ?_
  refine c_isDiner hd hn (fun ja ea a_4 => ?_) (fun a_4 => ?_)
  · subst ea
    refine gwr ?_
    refine h_if_neF (xi := 1) (zi := 0) m76_5 rfl rfl (by decide) ?_
    refine g_aload_n m76_14 rfl ?_
    refine h_cv (k := 0) (p := 32) (args := []) (rest := []) m76_15 cn_74 (Nat.le_of_ble_eq_true rfl) rfl rfl rfl (t_0 _ _) (Nat.le_of_ble_eq_true rfl) ?_
    refine c_think h01 ?_
    have hL1 : LawsOk (takeM m 1 0) ln N := tk_l hL 1 0 (by decide)
    have elk := tk_lk m 1 0 (by decide) ln (m 1 11)
    have ebl := tk_bl m 1 0 (by decide) ln (m 1 12)
    have h80 := take_8 m 1 0
    have hW1 : WF (vw (takeM m 1 0) 1) := WF_c h80 hW
    refine gwr ?_
    refine g_iload_n m76_18 rfl ?_
    refine g_bipush m76_19 ?_
    refine h_cv (k := 10) (p := 42) (args := [.int (nI (ja)), .int (60)]) (rest := []) m76_21 cn_42 (Nat.le_of_ble_eq_true rfl) rfl rfl rfl (t_10 _ _) (Nat.le_of_ble_eq_true rfl) ?_
    refine c_stepWithMore (n := 60) (x := m 1 11) (y := m 1 12) (t := 1) (m0 := takeM m 1 0) (X := vw (takeM m 1 0) 1) (by decide) hL1 (AtX.self _ 1) rfl hix rfl hiy hW1 (by omega) (by omega) (fun X2 m2 hA => ?_)
    rw [elk, ebl, firstF_8 h80]
    have hfl : firstF (lkF m ln (m 1 11)) (blF m ln (m 1 12)) (vw m 0) ja 60 1 ≤ 60 := firstF_le 60 1
    refine gwr ?_
    refine g_istore_n (L2 := [some (.ref (32)), some (.int (nI (ja))), some (.int (nI (firstF (lkF m ln (m 1 11)) (blF m ln (m 1 12)) (vw m 0) ja 60 1)))]) m76_24 rfl rfl ?_
    refine g_iload_n m76_25 rfl ?_
    refine h_if_ne (xi := ((firstF (lkF m ln (m 1 11)) (blF m ln (m 1 12)) (vw m 0) ja 60 1 : Nat) : Int)) (zi := 0) m76_26 (nI_toInt (by omega)) rfl (fun c1 => ?_) (fun c1 => ?_)
    · skip
      refine g_aload_n m76_29 rfl ?_
      refine g_iconst m76_30 ?_
      refine h_cv (k := 0) (p := 32) (args := [.int (2)]) (rest := []) m76_31 cn_55 (Nat.le_of_ble_eq_true rfl) rfl rfl rfl (t_0 _ _) (Nat.le_of_ble_eq_true rfl) ?_
      refine c_error (e := 2) (by decide) (by decide) ?_
      refine gwr ?_
      refine g_goto m76_34 ?_
      refine g_iret m76_38 rt_76 ?_
      exact hE2 ja rfl (by omega) (by omega) m2 (FrT.of hA)
    · skip
      refine g_iload_n m76_37 rfl ?_
      refine g_iret m76_38 rt_76 ?_
      exact hY ja rfl (by omega) (by omega) m2 (FrT.of hA)
  · skip
    refine gwr ?_
    refine h_if_neT (xi := 0) (zi := 0) m76_5 rfl rfl (by decide) ?_
    refine g_aload_n m76_8 rfl ?_
    refine g_iconst m76_9 ?_
    refine h_cv (k := 0) (p := 32) (args := [.int (1)]) (rest := []) m76_10 cn_55 (Nat.le_of_ble_eq_true rfl) rfl rfl rfl (t_0 _ _) (Nat.le_of_ble_eq_true rfl) ?_
    refine c_error (e := 1) (by decide) (by decide) ?_
    refine gwr ?_
    refine g_iret m76_13 rt_76 ?_
    exact hE1 (by omega)
set_option maxRecDepth 20000 in
set_option maxHeartbeats 40000000 in
theorem x_never {n : Nat} (hd : m 1 10 = nI n) (hn : n ≤ 8) (h01 : ∀ j, j < 8 → m 8 j = 0 ∨ m 8 j = 1) (hW : WF (vw m 0)) (hL : LawsOk m ln N) (hix : LawIx N (m 1 11)) (hiy : LawIx N (m 1 12)) (hY : ∀ m2, FrT m m2 → Q (some (.int (nI (bitsF (fun i => !(moreN (lkF m ln (m 1 11)) (blF m ln (m 1 12)) (vw m 0) 60 i)) n)))) (H m2 ln N)) : WP xs (d + 7) 77 0 0 [.ref (32)] (H m ln N) Q := by
  refine wp_x mx_77 (L := [some (.ref (32)), none, none, none]) (Nat.le_of_ble_eq_true rfl) rfl ?_
  have hb : ∀ q, bitsF (fun i => !(moreN (lkF m ln (m 1 11)) (blF m ln (m 1 12)) (vw m 0) 60 i)) q < 2 ^ q := bitsF_lt _
  refine g_aload_n m77_0 rfl ?_
  refine h_cv (k := 0) (p := 32) (args := []) (rest := []) m77_1 cn_74 (Nat.le_of_ble_eq_true rfl) rfl rfl rfl (t_0 _ _) (Nat.le_of_ble_eq_true rfl) ?_
  refine c_think h01 ?_
  have hL1 : LawsOk (takeM m 1 0) ln N := tk_l hL 1 0 (by decide)
  have elk := tk_lk m 1 0 (by decide) ln (m 1 11)
  have ebl := tk_bl m 1 0 (by decide) ln (m 1 12)
  have h80 := take_8 m 1 0
  have hW1 : WF (vw (takeM m 1 0) 1) := WF_c h80 hW
  refine gwr ?_
  refine g_astore_n (L2 := [some (.ref (32)), some (.ref (42)), none, none]) m77_4 rfl rfl ?_
  refine g_aload_n m77_5 rfl ?_
  refine g_bipush m77_6 ?_
  refine h_cv (k := 10) (p := 42) (args := [.int (60)]) (rest := []) m77_8 cn_41 (Nat.le_of_ble_eq_true rfl) rfl rfl rfl (t_10 _ _) (Nat.le_of_ble_eq_true rfl) ?_
  refine c_goOn (n := 60) (x := m 1 11) (y := m 1 12) (t := 1) (m0 := takeM m 1 0) (X := vw (takeM m 1 0) 1) (by decide) hL1 (AtX.self _ 1) rfl hix rfl hiy hW1 (by omega) (fun X2 m2 h8 hA => ?_)
  rw [elk, ebl] at h8
  have h8 := (stepN_8 (LK := (lkF m ln (m 1 11))) (BL := (blF m ln (m 1 12))) h80 60).tr h8
  refine gwr0 ?_
  refine g_iconst m77_11 ?_
  refine g_istore_n (L2 := [some (.ref (32)), some (.ref (42)), some (.int (0)), none]) m77_12 rfl rfl ?_
  refine g_iconst m77_13 ?_
  refine g_istore_n (L2 := [some (.ref (32)), some (.ref (42)), some (.int (0)), some (.int (0))]) m77_14 rfl rfl ?_
  have hF := FrT.of hA
  have hd2 : m2 1 10 = nI n := (hF 1 10 (by omega) (fun q => by rcases q with q | q <;> omega)).trans hd
  have key : ∀ (r : Nat) (q : Nat), q + r = n → gw xs (WP xs (d + 6)) 77 Q 15 [some (.ref (32)), some (.ref (42)), some (.int (nI (bitsF (fun i => !(moreN (lkF m ln (m 1 11)) (blF m ln (m 1 12)) (vw m 0) 60 i)) q))), some (.int (nI (q)))] [] (H m2 ln N) 0 0 := by
    intro r
    induction r with
    | zero =>
      intro q hq
      obtain rfl : q = n := by omega
      refine g_iload_n m77_15 rfl ?_
      refine g_aload_n m77_16 rfl ?_
      refine h_gfR (c := 33) (k := 0) (p := 32) m77_17 rfl (t_0 _ _) rfl (Nat.le_of_ble_eq_true rfl) ?_
      refine h_gfI (k := 1) (p := 33) m77_20 rfl (t_1 _ _) rfl (hd2) ?_
      refine h_ic_geT (xi := ((q : Nat) : Int)) (zi := ((q : Nat) : Int)) m77_23 (nI_toInt (by omega)) (nI_toInt (by omega)) (by omega) ?_
      refine g_iload_n m77_56 rfl ?_
      refine g_iret m77_57 rt_77 ?_
      exact hY m2 hF
    | succ r ih =>
      intro q hq
      refine g_iload_n m77_15 rfl ?_
      refine g_aload_n m77_16 rfl ?_
      refine h_gfR (c := 33) (k := 0) (p := 32) m77_17 rfl (t_0 _ _) rfl (Nat.le_of_ble_eq_true rfl) ?_
      refine h_gfI (k := 1) (p := 33) m77_20 rfl (t_1 _ _) rfl (hd2) ?_
      refine h_ic_geF (xi := ((q : Nat) : Int)) (zi := ((n : Nat) : Int)) m77_23 (nI_toInt (by omega)) (nI_toInt (by omega)) (by omega) ?_
      refine g_aload_n m77_26 rfl ?_
      refine h_gfR (c := 48) (k := 10) (p := 42) m77_27 rfl (t_10 _ _) rfl (Nat.le_of_ble_eq_true rfl) ?_
      refine g_iload_n m77_30 rfl ?_
      refine h_ial (k := 16) (p := 48) (j := q) m77_31 rfl (t_16 _ _) (rfl) (by omega) (Nat.le_of_ble_eq_true rfl) ((hA.rd (by decide) (j := 6) (i := q) (by decide)).trans (h8 6 (by decide) q)) ?_
      refine g_aload_n m77_32 rfl ?_
      refine h_gfR (c := 33) (k := 0) (p := 32) m77_33 rfl (t_0 _ _) rfl (Nat.le_of_ble_eq_true rfl) ?_
      refine h_gfR (c := 39) (k := 1) (p := 33) m77_36 rfl (t_1 _ _) rfl (Nat.le_of_ble_eq_true rfl) ?_
      refine g_iload_n m77_39 rfl ?_
      refine h_ial (k := 7) (p := 39) (j := q) m77_40 rfl (t_7 _ _) (rfl) (by omega) (Nat.le_of_ble_eq_true rfl) (show m2 7 q = vw m 0 6 q from hF 7 q (by omega) (fun z => by rcases z with z | z <;> omega)) ?_
      refine h_ic_gt (xi := _) (zi := _) m77_41 rfl rfl (fun c1 => ?_) (fun c1 => ?_)
      · skip
        refine g_iinc (L2 := [some (.ref (32)), some (.ref (42)), some (.int (nI (bitsF (fun i => !(moreN (lkF m ln (m 1 11)) (blF m ln (m 1 12)) (vw m 0) 60 i)) q))), some (.int (nI (q + 1)))]) m77_50 rfl (nI_1 _) rfl rfl ?_
        refine g_goto m77_53 ?_
        have e : bitsF (fun i => !(moreN (lkF m ln (m 1 11)) (blF m ln (m 1 12)) (vw m 0) 60 i)) (q + 1) = bitsF (fun i => !(moreN (lkF m ln (m 1 11)) (blF m ln (m 1 12)) (vw m 0) 60 i)) q := bits_n (by show ¬ (!(moreN _ _ _ 60 q)) = true; rw [moreN, decide_eq_true (by omega)]; decide)
        have h9 := ih (q + 1) (by omega)
        rw [e] at h9
        exact h9
      · skip
        refine g_iload_n m77_44 rfl ?_
        refine g_iconst m77_45 ?_
        refine g_iload_n m77_46 rfl ?_
        refine g_ishl m77_47 rfl ?_
        refine g_ior (u := nI (bitsF (fun i => !(moreN (lkF m ln (m 1 11)) (blF m ln (m 1 12)) (vw m 0) 60 i)) q + 2 ^ q)) m77_48 (bit_or q (by omega) _ (hb q)) ?_
        refine g_istore_n (L2 := [some (.ref (32)), some (.ref (42)), some (.int (nI (bitsF (fun i => !(moreN (lkF m ln (m 1 11)) (blF m ln (m 1 12)) (vw m 0) 60 i)) q + 2 ^ q))), some (.int (nI (q)))]) m77_49 rfl rfl ?_
        refine g_iinc (L2 := [some (.ref (32)), some (.ref (42)), some (.int (nI (bitsF (fun i => !(moreN (lkF m ln (m 1 11)) (blF m ln (m 1 12)) (vw m 0) 60 i)) q + 2 ^ q))), some (.int (nI (q + 1)))]) m77_50 rfl (nI_1 _) rfl rfl ?_
        refine g_goto m77_53 ?_
        have e : bitsF (fun i => !(moreN (lkF m ln (m 1 11)) (blF m ln (m 1 12)) (vw m 0) 60 i)) (q + 1) = bitsF (fun i => !(moreN (lkF m ln (m 1 11)) (blF m ln (m 1 12)) (vw m 0) 60 i)) q + 2 ^ q := bits_y (by show (!(moreN _ _ _ 60 q)) = true; rw [moreN, decide_eq_false (by omega)]; rfl)
        have h9 := ih (q + 1) (by omega)
        rw [e] at h9
        exact h9
  exact key n 0 (by omega)
set_option maxRecDepth 20000 in
set_option maxHeartbeats 40000000 in
theorem x_meals {v : Int32} {n : Nat} (hd : m 1 10 = nI n) (hn : n ≤ 8) (h01 : ∀ j, j < 8 → m 8 j = 0 ∨ m 8 j = 1) (hW : WF (vw m 0)) (hL : LawsOk m ln N) (hix : LawIx N (m 1 11)) (hiy : LawIx N (m 1 12)) (hE1 : (v.toInt < 0 ∨ 60 < v.toInt) → Q (some (.int (-1000000000 - nI 1))) (H (erm m 1) ln N)) (hY : ∀ q : Nat, v = nI q → q ≤ 60 → ∀ m2, FrT m m2 → Q (some (.int (sumF (stepN (lkF m ln (m 1 11)) (blF m ln (m 1 12)) (vw m 0) q 6) n - sumF (vw m 0 6) n))) (H m2 ln N)) : WP xs (d + 7) 87 0 0 [.ref (32), .int (v)] (H m ln N) Q := by
  refine wp_x mx_87 (L := [some (.ref (32)), some (.int (v)), none]) (Nat.le_of_ble_eq_true rfl) rfl ?_
  refine g_iload_n m87_0 rfl ?_
  refine g_bipush m87_1 ?_
  refine g_cs (args := [.int (v), .int (60)]) (rest := []) 0 (Or.inl rfl) m87_3 (Nat.le_of_ble_eq_true rfl) rfl rfl (Nat.le_of_ble_eq_true rfl) ?_
  refine c_within (M := 60) rfl (fun jv ev a_5 => ?_) (fun a_5 => ?_)
  · subst ev
    refine gwr ?_
    refine h_if_neF (xi := 1) (zi := 0) m87_6 rfl rfl (by decide) ?_
    refine g_aload_n m87_15 rfl ?_
    refine h_cv (k := 0) (p := 32) (args := []) (rest := []) m87_16 cn_74 (Nat.le_of_ble_eq_true rfl) rfl rfl rfl (t_0 _ _) (Nat.le_of_ble_eq_true rfl) ?_
    refine c_think h01 ?_
    have hL1 : LawsOk (takeM m 1 0) ln N := tk_l hL 1 0 (by decide)
    have elk := tk_lk m 1 0 (by decide) ln (m 1 11)
    have ebl := tk_bl m 1 0 (by decide) ln (m 1 12)
    have h80 := take_8 m 1 0
    have hW1 : WF (vw (takeM m 1 0) 1) := WF_c h80 hW
    refine gwr ?_
    refine g_astore_n (L2 := [some (.ref (32)), some (.int (nI (jv))), some (.ref (42))]) m87_19 rfl rfl ?_
    refine g_aload_n m87_20 rfl ?_
    refine g_iload_n m87_21 rfl ?_
    refine h_cv (k := 10) (p := 42) (args := [.int (nI (jv))]) (rest := []) m87_22 cn_41 (Nat.le_of_ble_eq_true rfl) rfl rfl rfl (t_10 _ _) (Nat.le_of_ble_eq_true rfl) ?_
    refine c_goOn (n := jv) (x := m 1 11) (y := m 1 12) (t := 1) (m0 := takeM m 1 0) (X := vw (takeM m 1 0) 1) (by decide) hL1 (AtX.self _ 1) rfl hix rfl hiy hW1 (by omega) (fun X2 m2 h8 hA => ?_)
    rw [elk, ebl] at h8
    have h8 := (stepN_8 (LK := (lkF m ln (m 1 11))) (BL := (blF m ln (m 1 12))) h80 jv).tr h8
    refine gwr0 ?_
    refine g_aload_n m87_25 rfl ?_
    refine h_cv (k := 10) (p := 42) (args := []) (rest := []) m87_26 cn_47 (Nat.le_of_ble_eq_true rfl) rfl rfl rfl (t_10 _ _) (Nat.le_of_ble_eq_true rfl) ?_
    refine c_hadByAll (t := 1) (by decide) hA hn ((h8 0 (by decide) 10).trans ((stepN_0 _ _ _ (by decide) jv).trans hd)) ?_
    rw [show X2 6 = stepN (lkF m ln (m 1 11)) (blF m ln (m 1 12)) (vw m 0) jv 6 from funext (h8 6 (by decide))]
    refine gwr ?_
    refine g_aload_n m87_29 rfl ?_
    refine h_gfR (c := 33) (k := 0) (p := 32) m87_30 rfl (t_0 _ _) rfl (Nat.le_of_ble_eq_true rfl) ?_
    refine h_cv (k := 1) (p := 33) (args := []) (rest := [.int (sumF (stepN (lkF m ln (m 1 11)) (blF m ln (m 1 12)) (vw m 0) jv 6) n)]) m87_33 cn_47 (Nat.le_of_ble_eq_true rfl) rfl rfl rfl (t_1 _ _) (Nat.le_of_ble_eq_true rfl) ?_
    have hF := FrT.of hA
    refine c_hadByAll (t := 0) (m0 := m2) (X := vw m2 0) (by decide) (AtX.self m2 0) hn ((hF 1 10 (by omega) (fun q => by rcases q with q | q <;> omega)).trans hd) ?_
    rw [hF.vw0 (by decide)]
    refine gwr ?_
    refine g_isub m87_36 rfl ?_
    refine g_iret m87_37 rt_87 ?_
    exact hY jv rfl (by omega) m2 hF
  · skip
    refine gwr ?_
    refine h_if_neT (xi := 0) (zi := 0) m87_6 rfl rfl (by decide) ?_
    refine g_aload_n m87_9 rfl ?_
    refine g_iconst m87_10 ?_
    refine h_cv (k := 0) (p := 32) (args := [.int (1)]) (rest := []) m87_11 cn_55 (Nat.le_of_ble_eq_true rfl) rfl rfl rfl (t_0 _ _) (Nat.le_of_ble_eq_true rfl) ?_
    refine c_error (e := 1) (by decide) (by decide) ?_
    refine gwr ?_
    refine g_iret m87_14 rt_87 ?_
    exact hE1 (by omega)
end
end
section
/-! WHAT WOULD BE: the class, thought again and again -/
def leastF (p : Nat → Bool) : Nat → Nat → Option Nat
  | 0, _ => none
  | r + 1, s => if p s = true then some s else leastF p r (s + 1)
theorem moreN_8 {LK BL : LF} {X Y : MW} (h : Eq8 X Y) (n i : Nat) : moreN LK BL Y n i = moreN LK BL X n i := by
  unfold moreN
  rw [h 6 (by decide), stepN_8 h n 6 (by decide)]
theorem c_dec {p : Prop} {_ : Decidable p} (h : decide p = true) : p := of_decide_eq_true h
def maxF (w : Nat → Int32) : Nat → Int
  | 0 => 0
  | n + 1 => max (maxF w n) (w n).toInt
theorem maxF_lt {w : Nat → Int32} {v : Int} (hv : 0 < v) : ∀ n, maxF w n < v ↔ ∀ i, i < n → (w i).toInt < v
  | 0 => ⟨fun _ i h => absurd h (Nat.not_lt_zero i), fun _ => hv⟩
  | n + 1 => by
    have ih := maxF_lt (w := w) hv n
    show max (maxF w n) (w n).toInt < v ↔ _
    constructor
    · intro h i hi
      by_cases e : i = n
      · subst e
        omega
      · exact ih.mp (by omega) i (by omega)
    · intro h
      have h1 := ih.mpr (fun i hi => h i (by omega))
      have h2 := h n (by omega)
      omega
theorem least_y {p : Nat → Bool} {r s : Nat} (h : p s = true) : leastF p (r + 1) s = some s := if_pos h
theorem least_n {p : Nat → Bool} {r s : Nat} (h : ¬ p s = true) : leastF p (r + 1) s = leastF p r (s + 1) := if_neg h
section
variable {xs : List Int32} {d : Nat} {h : AH} {Q : QT} {m : MW} {ln : Nat → Nat} {N : Nat}
set_option maxRecDepth 20000 in
set_option maxHeartbeats 40000000 in
theorem c_isFedBy {t n i : Nat} {m0 X : MW} {x y s : Int32} (ht : t < 4) (hL : LawsOk m0 ln N) (hA : AtX m0 t X m) (hx : X 0 11 = x) (hix : LawIx N x) (hy : X 0 12 = y) (hiy : LawIx N y) (hW : WF X) (hi : i < 8) (hn6 : n ≤ 100) (hs : leI s 9) (hT : moreN (lkF m0 ln x) (blF m0 ln y) (upm X 5 i s) n i = true → ∀ X2 m2, AtX m0 t X2 m2 → Q (some (.int 1)) (H m2 ln N)) (hF : ¬ moreN (lkF m0 ln x) (blF m0 ln y) (upm X 5 i s) n i = true → ∀ X2 m2, AtX m0 t X2 m2 → Q (some (.int 0)) (H m2 ln N)) : WP xs (d + 6) 43 0 0 [.ref (33 + 9 * t), .int (nI (i)), .int (nI (n)), .int (s)] (H m ln N) Q := by
  refine wp_x mx_43 (L := [some (.ref (33 + 9 * t)), some (.int (nI (i))), some (.int (nI (n))), some (.int (s)), none, none]) (Nat.le_of_ble_eq_true rfl) rfl ?_
  have hWs : WF (upm X 5 i s) := WF_sham hW hs
  refine g_aload_n m43_0 rfl ?_
  refine h_gfR (c := 38 + 9 * t) (k := 1 + 9 * t) (p := 33 + 9 * t) m43_1 (pT 1 _) (tT ht) rfl (le3 (Nat.le_of_ble_eq_true rfl)) ?_
  refine g_iload_n m43_4 rfl ?_
  refine g_iload_n m43_5 rfl ?_
  refine h_ias (k := 6 + 9 * t) (p := 38 + 9 * t) (j := i) m43_6 (pT 6 _) (tA5 ht) (rfl) (by omega) (Nat.le_of_ble_eq_true rfl) ?_
  have hAu1 := hA.up ht (j := 5) (by decide) i s
  refine g_aload_n m43_7 rfl ?_
  refine h_gfR (c := 39 + 9 * t) (k := 1 + 9 * t) (p := 33 + 9 * t) m43_8 (pT 1 _) (tT ht) rfl (le3 (Nat.le_of_ble_eq_true rfl)) ?_
  refine g_iload_n m43_11 rfl ?_
  refine h_ial (k := 7 + 9 * t) (p := 39 + 9 * t) (j := i) m43_12 (pT 7 _) (tA6 ht) (rfl) (by omega) (Nat.le_of_ble_eq_true rfl) (hAu1.rd ht (j := 6) (i := i) (by decide)) ?_
  refine g_istore (L2 := [some (.ref (33 + 9 * t)), some (.int (nI (i))), some (.int (nI (n))), some (.int (s)), some (.int ((upm X 5 i s) 6 i)), none]) m43_13 rfl rfl ?_
  refine g_iconst m43_15 ?_
  refine g_istore (L2 := [some (.ref (33 + 9 * t)), some (.int (nI (i))), some (.int (nI (n))), some (.int (s)), some (.int ((upm X 5 i s) 6 i)), some (.int (0))]) m43_16 rfl rfl ?_
  have key : ∀ (r : Nat) (q : Nat) (m2 X2 : MW), q + r = n → Eq8 (stepN (lkF m0 ln x) (blF m0 ln y) (upm X 5 i s) q) X2 → AtX m0 t X2 m2 → gw xs (WP xs (d + 5)) 43 Q 18 [some (.ref (33 + 9 * t)), some (.int (nI (i))), some (.int (nI (n))), some (.int (s)), some (.int (X 6 i)), some (.int (nI (q)))] [] (H m2 ln N) 0 0 := by
    intro r
    induction r with
    | zero =>
      intro q m2 X2 hq h8 hA2
      obtain rfl : q = n := by omega
      refine g_iload m43_18 rfl ?_
      refine g_iload_n m43_20 rfl ?_
      refine h_ic_geT (xi := ((q : Nat) : Int)) (zi := ((q : Nat) : Int)) m43_21 (nI_toInt (by omega)) (nI_toInt (by omega)) (by omega) ?_
      refine g_aload_n m43_46 rfl ?_
      refine h_gfR (c := 39 + 9 * t) (k := 1 + 9 * t) (p := 33 + 9 * t) m43_47 (pT 1 _) (tT ht) rfl (le3 (Nat.le_of_ble_eq_true rfl)) ?_
      refine g_iload_n m43_50 rfl ?_
      refine h_ial (k := 7 + 9 * t) (p := 39 + 9 * t) (j := i) m43_51 (pT 7 _) (tA6 ht) (rfl) (by omega) (Nat.le_of_ble_eq_true rfl) (hA2.rd ht (j := 6) (i := i) (by decide)) ?_
      refine g_iload m43_52 rfl ?_
      refine h_ic_le (xi := _) (zi := _) m43_54 rfl rfl (fun c2 => ?_) (fun c2 => ?_)
      · skip
        refine g_iconst m43_61 ?_
        refine g_zret m43_62 rt_43 (Or.inl rfl) ?_
        have e6 : X2 6 i = stepN (lkF m0 ln x) (blF m0 ln y) (upm X 5 i s) q 6 i := h8 6 (by decide) i
        have e66 : (upm X 5 i s) 6 i = X 6 i := upm_k _ _ (by decide)
        rw [e6] at c2
        exact hF (by unfold moreN; rw [e66, decide_eq_true_eq]; omega) _ _ hA2
      · skip
        refine g_iconst m43_57 ?_
        refine g_goto m43_58 ?_
        refine g_zret m43_62 rt_43 (Or.inr rfl) ?_
        have e6 : X2 6 i = stepN (lkF m0 ln x) (blF m0 ln y) (upm X 5 i s) q 6 i := h8 6 (by decide) i
        have e66 : (upm X 5 i s) 6 i = X 6 i := upm_k _ _ (by decide)
        rw [e6] at c2
        exact hT (by unfold moreN; rw [e66]; exact decide_eq_true (by omega)) _ _ hA2
    | succ r ih =>
      intro q m2 X2 hq h8 hA2
      refine g_iload m43_18 rfl ?_
      refine g_iload_n m43_20 rfl ?_
      refine h_ic_geF (xi := ((q : Nat) : Int)) (zi := ((n : Nat) : Int)) m43_21 (nI_toInt (by omega)) (nI_toInt (by omega)) (by omega) ?_
      refine g_aload_n m43_24 rfl ?_
      refine h_gfR (c := 39 + 9 * t) (k := 1 + 9 * t) (p := 33 + 9 * t) m43_25 (pT 1 _) (tT ht) rfl (le3 (Nat.le_of_ble_eq_true rfl)) ?_
      refine g_iload_n m43_28 rfl ?_
      refine h_ial (k := 7 + 9 * t) (p := 39 + 9 * t) (j := i) m43_29 (pT 7 _) (tA6 ht) (rfl) (by omega) (Nat.le_of_ble_eq_true rfl) (hA2.rd ht (j := 6) (i := i) (by decide)) ?_
      refine g_iload m43_30 rfl ?_
      refine h_ic_gt (xi := _) (zi := _) m43_32 rfl rfl (fun c3 => ?_) (fun c3 => ?_)
      · skip
        refine g_aload_n m43_46 rfl ?_
        refine h_gfR (c := 39 + 9 * t) (k := 1 + 9 * t) (p := 33 + 9 * t) m43_47 (pT 1 _) (tT ht) rfl (le3 (Nat.le_of_ble_eq_true rfl)) ?_
        refine g_iload_n m43_50 rfl ?_
        refine h_ial (k := 7 + 9 * t) (p := 39 + 9 * t) (j := i) m43_51 (pT 7 _) (tA6 ht) (rfl) (by omega) (Nat.le_of_ble_eq_true rfl) (hA2.rd ht (j := 6) (i := i) (by decide)) ?_
        refine g_iload m43_52 rfl ?_
        refine h_ic_le (xi := _) (zi := _) m43_54 rfl rfl (fun c4 => ?_) (fun c4 => ?_)
        · skip
          refine g_iconst m43_61 ?_
          refine g_zret m43_62 rt_43 (Or.inl rfl) ?_
          have e6 : X2 6 i = stepN (lkF m0 ln x) (blF m0 ln y) (upm X 5 i s) q 6 i := h8 6 (by decide) i
          have e66 : (upm X 5 i s) 6 i = X 6 i := upm_k _ _ (by decide)
          have h9 := had_mono (LK := (lkF m0 ln x)) (BL := (blF m0 ln y)) hWs hi q (n - q)
          rw [show q + (n - q) = n by omega, ← e6] at h9
          exfalso
          omega
        · skip
          refine g_iconst m43_57 ?_
          refine g_goto m43_58 ?_
          refine g_zret m43_62 rt_43 (Or.inr rfl) ?_
          have e6 : X2 6 i = stepN (lkF m0 ln x) (blF m0 ln y) (upm X 5 i s) q 6 i := h8 6 (by decide) i
          have e66 : (upm X 5 i s) 6 i = X 6 i := upm_k _ _ (by decide)
          have h9 := had_mono (LK := (lkF m0 ln x)) (BL := (blF m0 ln y)) hWs hi q (n - q)
          rw [show q + (n - q) = n by omega, ← e6] at h9
          exact hT (by unfold moreN; rw [e66]; exact decide_eq_true (by omega)) _ _ hA2
      · skip
        refine g_aload_n m43_35 rfl ?_
        refine h_cv (k := 1 + 9 * t) (p := 33 + 9 * t) (args := []) (rest := []) m43_36 cn_40 (Nat.le_of_ble_eq_true rfl) rfl rfl (pT 1 _) (tT ht) (Nat.le_of_ble_eq_true rfl) ?_
        refine c_serveStep ht hL hA2 ((h8 0 (by decide) 11).trans ((stepN_0 _ _ _ (by decide) q).trans hx)) hix ((h8 0 (by decide) 12).trans ((stepN_0 _ _ _ (by decide) q).trans hy)) hiy (WF_c h8 (WF_stepN hWs q)) (fun X3 m3 e8 hA3 => ?_)
        refine gwr ?_
        refine g_pop m43_39 rfl ?_
        refine g_iinc (L2 := [some (.ref (33 + 9 * t)), some (.int (nI (i))), some (.int (nI (n))), some (.int (s)), some (.int (X 6 i)), some (.int (nI (q + 1)))]) m43_40 rfl (nI_1 _) rfl rfl ?_
        refine g_goto m43_43 ?_
        exact ih (q + 1) _ _ (by omega) ((stepF_8 h8).tr e8) hA3
  exact key n 0 _ _ (by omega) Eq8.rf hAu1
set_option maxRecDepth 20000 in
set_option maxHeartbeats 40000000 in
theorem x_sham {a v : Int32} {n : Nat} (hd : m 1 10 = nI n) (hn : n ≤ 8) (h01 : ∀ j, j < 8 → m 8 j = 0 ∨ m 8 j = 1) (hW : WF (vw m 0)) (hL : LawsOk m ln N) (hix : LawIx N (m 1 11)) (hiy : LawIx N (m 1 12)) (hE1 : (a.toInt < 0 ∨ (n : Int) ≤ a.toInt ∨ v.toInt < 1 ∨ 60 < v.toInt) → Q (some (.int (-1000000000 - nI 1))) (H (erm m 1) ln N)) (hE2 : ∀ i k : Nat, a = nI i → i < n → v = nI k → 1 ≤ k → k ≤ 60 → leastF (fun s => moreN (lkF m ln (m 1 11)) (blF m ln (m 1 12)) (upm (vw m 0) 5 i (nI s)) k i) 10 0 = none → ∀ m2, FrT m m2 → Q (some (.int (-1000000000 - nI 2))) (H (erm m2 2) ln N)) (hY : ∀ i k s : Nat, a = nI i → i < n → v = nI k → 1 ≤ k → k ≤ 60 → leastF (fun s => moreN (lkF m ln (m 1 11)) (blF m ln (m 1 12)) (upm (vw m 0) 5 i (nI s)) k i) 10 0 = some s → ∀ m2, FrT m m2 → Q (some (.int (nI s))) (H m2 ln N)) : WP xs (d + 7) 78 0 0 [.ref (32), .int (a), .int (v)] (H m ln N) Q := by
  refine wp_x mx_78 (L := [some (.ref (32)), some (.int (a)), some (.int (v)), none]) (Nat.le_of_ble_eq_true rfl) rfl ?_
  by_cases hv : v.toInt < 1 ∨ 60 < v.toInt
  · skip
    refine g_aload_n m78_0 rfl ?_
    refine g_iload_n m78_1 rfl ?_
    refine h_cv (k := 0) (p := 32) (args := [.int (a)]) (rest := []) m78_2 cn_60 (Nat.le_of_ble_eq_true rfl) rfl rfl rfl (t_0 _ _) (Nat.le_of_ble_eq_true rfl) ?_
    refine c_isDiner hd hn (fun ja ea a_1 => ?_) (fun a_1 => ?_)
    · subst ea
      refine gwr ?_
      refine h_if_eqF (xi := 1) (zi := 0) m78_5 rfl rfl (by decide) ?_
      refine g_iload_n m78_8 rfl ?_
      refine g_iconst m78_9 ?_
      refine h_ic_lt (xi := v.toInt) (zi := 1) m78_10 rfl rfl (fun c1 => ?_) (fun c1 => ?_)
      · skip
        refine g_aload_n m78_19 rfl ?_
        refine g_iconst m78_20 ?_
        refine h_cv (k := 0) (p := 32) (args := [.int (1)]) (rest := []) m78_21 cn_55 (Nat.le_of_ble_eq_true rfl) rfl rfl rfl (t_0 _ _) (Nat.le_of_ble_eq_true rfl) ?_
        refine c_error (e := 1) (by decide) (by decide) ?_
        refine gwr ?_
        refine g_iret m78_24 rt_78 ?_
        exact hE1 (by omega)
      · skip
        refine g_iload_n m78_13 rfl ?_
        refine g_bipush m78_14 ?_
        refine h_ic_le (xi := v.toInt) (zi := 60) m78_16 rfl rfl (fun c2 => ?_) (fun c2 => ?_)
        · skip
          exfalso
          omega
        · skip
          refine g_aload_n m78_19 rfl ?_
          refine g_iconst m78_20 ?_
          refine h_cv (k := 0) (p := 32) (args := [.int (1)]) (rest := []) m78_21 cn_55 (Nat.le_of_ble_eq_true rfl) rfl rfl rfl (t_0 _ _) (Nat.le_of_ble_eq_true rfl) ?_
          refine c_error (e := 1) (by decide) (by decide) ?_
          refine gwr ?_
          refine g_iret m78_24 rt_78 ?_
          exact hE1 (by omega)
    · skip
      refine gwr ?_
      refine h_if_eqT (xi := 0) (zi := 0) m78_5 rfl rfl (by decide) ?_
      refine g_aload_n m78_19 rfl ?_
      refine g_iconst m78_20 ?_
      refine h_cv (k := 0) (p := 32) (args := [.int (1)]) (rest := []) m78_21 cn_55 (Nat.le_of_ble_eq_true rfl) rfl rfl rfl (t_0 _ _) (Nat.le_of_ble_eq_true rfl) ?_
      refine c_error (e := 1) (by decide) (by decide) ?_
      refine gwr ?_
      refine g_iret m78_24 rt_78 ?_
      exact hE1 (by omega)
  · skip
    obtain ⟨k, ⟨hk1, hk2⟩, hk3⟩ := nat_of (x := v) (lo := 1) (hi := 60) (by omega) (by omega)
    obtain rfl : v = nI k := hk3
    have ek : (nI k).toInt = (k : Int) := nI_toInt (by omega)
    refine g_aload_n m78_0 rfl ?_
    refine g_iload_n m78_1 rfl ?_
    refine h_cv (k := 0) (p := 32) (args := [.int (a)]) (rest := []) m78_2 cn_60 (Nat.le_of_ble_eq_true rfl) rfl rfl rfl (t_0 _ _) (Nat.le_of_ble_eq_true rfl) ?_
    refine c_isDiner hd hn (fun ja ea a_2 => ?_) (fun a_2 => ?_)
    · subst ea
      refine gwr ?_
      refine h_if_eqF (xi := 1) (zi := 0) m78_5 rfl rfl (by decide) ?_
      refine g_iload_n m78_8 rfl ?_
      refine g_iconst m78_9 ?_
      refine h_ic_ltF (xi := ((k : Nat) : Int)) (zi := 1) m78_10 (nI_toInt (by omega)) rfl (by omega) ?_
      refine g_iload_n m78_13 rfl ?_
      refine g_bipush m78_14 ?_
      refine h_ic_leT (xi := ((k : Nat) : Int)) (zi := 60) m78_16 (nI_toInt (by omega)) rfl (by omega) ?_
      refine g_iconst m78_25 ?_
      refine g_istore_n (L2 := [some (.ref (32)), some (.int (nI (ja))), some (.int (nI (k))), some (.int (0))]) m78_26 rfl rfl ?_
      have key : ∀ (r : Nat) (s : Nat) (m2 : MW), s + r = 10 → FrT m m2 → leastF (fun s => moreN (lkF m ln (m 1 11)) (blF m ln (m 1 12)) (upm (vw m 0) 5 ja (nI s)) k ja) r s = leastF (fun s => moreN (lkF m ln (m 1 11)) (blF m ln (m 1 12)) (upm (vw m 0) 5 ja (nI s)) k ja) 10 0 → gw xs (WP xs (d + 6)) 78 Q 27 [some (.ref (32)), some (.int (nI (ja))), some (.int (nI (k))), some (.int (nI (s)))] [] (H m2 ln N) 0 0 := by
        intro r
        induction r with
        | zero =>
          intro s m2 hs hF hfin
          obtain rfl : s = 10 := by omega
          refine g_iload_n m78_27 rfl ?_
          refine g_bipush m78_28 ?_
          refine h_ic_geT (xi := ((10 : Nat) : Int)) (zi := 10) m78_30 (nI_toInt (by omega)) rfl (by omega) ?_
          refine g_aload_n m78_54 rfl ?_
          refine g_iconst m78_55 ?_
          refine h_cv (k := 0) (p := 32) (args := [.int (2)]) (rest := []) m78_56 cn_55 (Nat.le_of_ble_eq_true rfl) rfl rfl rfl (t_0 _ _) (Nat.le_of_ble_eq_true rfl) ?_
          refine c_error (e := 2) (by decide) (by decide) ?_
          refine gwr ?_
          refine g_iret m78_59 rt_78 ?_
          exact hE2 ja k rfl (by omega) rfl (by omega) (by omega) hfin.symm m2 hF
        | succ r ih =>
          intro s m2 hs hF hfin
          refine g_iload_n m78_27 rfl ?_
          refine g_bipush m78_28 ?_
          refine h_ic_geF (xi := ((s : Nat) : Int)) (zi := 10) m78_30 (nI_toInt (by omega)) rfl (by omega) ?_
          refine g_aload_n m78_33 rfl ?_
          refine h_cv (k := 0) (p := 32) (args := []) (rest := []) m78_34 cn_74 (Nat.le_of_ble_eq_true rfl) rfl rfl rfl (t_0 _ _) (Nat.le_of_ble_eq_true rfl) ?_
          have hd2 : m2 1 10 = nI n := (hF 1 10 (by omega) (fun q => by rcases q with q | q <;> omega)).trans hd
          have h012 : ∀ j, j < 8 → m2 8 j = 0 ∨ m2 8 j = 1 := fun j hj => by rw [hF 8 j (by omega) (fun q => by rcases q with q | q <;> omega)]; exact h01 j hj
          have hL2 := hF.laws hL
          have e11 : m2 1 11 = m 1 11 := hF 1 11 (by omega) (fun q => by rcases q with q | q <;> omega)
          have e12 : m2 1 12 = m 1 12 := hF 1 12 (by omega) (fun q => by rcases q with q | q <;> omega)
          have hL1 : LawsOk (takeM m2 1 0) ln N := tk_l hL2 1 0 (by decide)
          have elk := (tk_lk m2 1 0 (by decide) ln (m 1 11)).trans (hF.lk ln _)
          have ebl := (tk_bl m2 1 0 (by decide) ln (m 1 12)).trans (hF.bl ln _)
          have h80 : Eq8 (vw m 0) (vw (takeM m2 1 0) 1) := Eq8.tr (fun j hj i => congrFun (hF.vw0 (by omega)) i) (take_8 m2 1 0)
          have hW1 : WF (vw (takeM m2 1 0) 1) := WF_c h80 hW
          refine c_think h012 ?_
          refine gwr ?_
          refine g_iload_n m78_37 rfl ?_
          refine g_iload_n m78_38 rfl ?_
          refine g_iload_n m78_39 rfl ?_
          refine h_cv (k := 10) (p := 42) (args := [.int (nI (ja)), .int (nI (k)), .int (nI (s))]) (rest := []) m78_40 cn_43 (Nat.le_of_ble_eq_true rfl) rfl rfl rfl (t_10 _ _) (Nat.le_of_ble_eq_true rfl) ?_
          refine c_isFedBy (x := m 1 11) (y := m 1 12) (t := 1) (m0 := takeM m2 1 0) (X := vw (takeM m2 1 0) 1) (s := nI s) (by decide) hL1 (AtX.self _ 1) e11 hix e12 hiy hW1 (by omega) (by omega) ⟨s, by omega, rfl⟩ (fun hm X2 m3 hA => ?_) (fun hm X2 m3 hA => ?_)
          · rw [elk, ebl, moreN_8 (h80.up 5 ja (nI s))] at hm
            have hF3 := hF.tr (FrT.of hA)
            rw [least_y (p := (fun s => moreN (lkF m ln (m 1 11)) (blF m ln (m 1 12)) (upm (vw m 0) 5 ja (nI s)) k ja)) (s := s) hm] at hfin
            refine gwr ?_
            refine h_if_eqF (xi := 1) (zi := 0) m78_43 rfl rfl (by decide) ?_
            refine g_iload_n m78_46 rfl ?_
            refine g_iret m78_47 rt_78 ?_
            exact hY ja k s rfl (by omega) rfl (by omega) (by omega) hfin.symm m3 hF3
          · rw [elk, ebl, moreN_8 (h80.up 5 ja (nI s))] at hm
            have hF3 := hF.tr (FrT.of hA)
            rw [least_n (p := (fun s => moreN (lkF m ln (m 1 11)) (blF m ln (m 1 12)) (upm (vw m 0) 5 ja (nI s)) k ja)) (s := s) hm] at hfin
            refine gwr ?_
            refine h_if_eqT (xi := 0) (zi := 0) m78_43 rfl rfl (by decide) ?_
            refine g_iinc (L2 := [some (.ref (32)), some (.int (nI (ja))), some (.int (nI (k))), some (.int (nI (s + 1)))]) m78_48 rfl (nI_1 _) rfl rfl ?_
            refine g_goto m78_51 ?_
            exact ih (s + 1) _ (by omega) hF3 hfin
      exact key 10 0 _ (by omega) FrT.rf rfl
    · skip
      refine gwr ?_
      refine h_if_eqT (xi := 0) (zi := 0) m78_5 rfl rfl (by decide) ?_
      refine g_aload_n m78_19 rfl ?_
      refine g_iconst m78_20 ?_
      refine h_cv (k := 0) (p := 32) (args := [.int (1)]) (rest := []) m78_21 cn_55 (Nat.le_of_ble_eq_true rfl) rfl rfl rfl (t_0 _ _) (Nat.le_of_ble_eq_true rfl) ?_
      refine c_error (e := 1) (by decide) (by decide) ?_
      refine gwr ?_
      refine g_iret m78_24 rt_78 ?_
      exact hE1 (by omega)
set_option maxRecDepth 20000 in
set_option maxHeartbeats 40000000 in
theorem c_commonDivisor {a : Nat} (ha : a ≤ 10) (hQ : Q (some (.int (nI (Nat.gcd a 10)))) h) : WP xs (d + 1) 88 0 0 [.int (nI (a)), .int (10)] h Q := by
  refine wp_x mx_88 (L := [some (.int (nI (a))), some (.int (10)), none]) (Nat.le_of_ble_eq_true rfl) rfl ?_
  rcases (show a = 0 ∨ a = 1 ∨ a = 2 ∨ a = 3 ∨ a = 4 ∨ a = 5 ∨ a = 6 ∨ a = 7 ∨ a = 8 ∨ a = 9 ∨ a = 10 by omega) with rfl | rfl | rfl | rfl | rfl | rfl | rfl | rfl | rfl | rfl | rfl
  · skip
    refine gwl (L' := [some (.int 0), some (.int 10), none]) rfl ?_
    refine g_iload_n m88_0 rfl ?_
    refine g_istore_n (L2 := [some (.int (0)), some (.int (10)), some (.int (10))]) m88_1 rfl rfl ?_
    refine g_iload_n m88_2 rfl ?_
    refine g_iconst m88_3 ?_
    refine h_ic_leF (xi := 10) (zi := 1) m88_4 rfl rfl (by decide) ?_
    refine g_iload_n m88_7 rfl ?_
    refine g_iload_n m88_8 rfl ?_
    refine g_irem (u := (0 : Int32)) m88_9 (by decide) (by decide) ?_
    refine h_if_neT (xi := 0) (zi := 0) m88_10 rfl rfl (by decide) ?_
    refine g_iload_n m88_13 rfl ?_
    refine g_iload_n m88_14 rfl ?_
    refine g_irem (u := (0 : Int32)) m88_15 (by decide) (by decide) ?_
    refine h_if_neT (xi := 0) (zi := 0) m88_16 rfl rfl (by decide) ?_
    refine g_iload_n m88_19 rfl ?_
    refine g_iret m88_20 rt_88 ?_
    exact hQ
  · skip
    refine gwl (L' := [some (.int 1), some (.int 10), none]) rfl ?_
    refine g_iload_n m88_0 rfl ?_
    refine g_istore_n (L2 := [some (.int (1)), some (.int (10)), some (.int (10))]) m88_1 rfl rfl ?_
    refine g_iload_n m88_2 rfl ?_
    refine g_iconst m88_3 ?_
    refine h_ic_leF (xi := 10) (zi := 1) m88_4 rfl rfl (by decide) ?_
    refine g_iload_n m88_7 rfl ?_
    refine g_iload_n m88_8 rfl ?_
    refine g_irem (u := (1 : Int32)) m88_9 (by decide) (by decide) ?_
    refine h_if_neF (xi := 1) (zi := 0) m88_10 rfl rfl (by decide) ?_
    refine g_iinc (x2 := (9 : Int32)) (L2 := [some (.int (1)), some (.int (10)), some (.int (9))]) m88_21 rfl (by decide) rfl rfl ?_
    refine g_goto m88_24 ?_
    refine g_iload_n m88_2 rfl ?_
    refine g_iconst m88_3 ?_
    refine h_ic_leF (xi := 9) (zi := 1) m88_4 rfl rfl (by decide) ?_
    refine g_iload_n m88_7 rfl ?_
    refine g_iload_n m88_8 rfl ?_
    refine g_irem (u := (1 : Int32)) m88_9 (by decide) (by decide) ?_
    refine h_if_neF (xi := 1) (zi := 0) m88_10 rfl rfl (by decide) ?_
    refine g_iinc (x2 := (8 : Int32)) (L2 := [some (.int (1)), some (.int (10)), some (.int (8))]) m88_21 rfl (by decide) rfl rfl ?_
    refine g_goto m88_24 ?_
    refine g_iload_n m88_2 rfl ?_
    refine g_iconst m88_3 ?_
    refine h_ic_leF (xi := 8) (zi := 1) m88_4 rfl rfl (by decide) ?_
    refine g_iload_n m88_7 rfl ?_
    refine g_iload_n m88_8 rfl ?_
    refine g_irem (u := (1 : Int32)) m88_9 (by decide) (by decide) ?_
    refine h_if_neF (xi := 1) (zi := 0) m88_10 rfl rfl (by decide) ?_
    refine g_iinc (x2 := (7 : Int32)) (L2 := [some (.int (1)), some (.int (10)), some (.int (7))]) m88_21 rfl (by decide) rfl rfl ?_
    refine g_goto m88_24 ?_
    refine g_iload_n m88_2 rfl ?_
    refine g_iconst m88_3 ?_
    refine h_ic_leF (xi := 7) (zi := 1) m88_4 rfl rfl (by decide) ?_
    refine g_iload_n m88_7 rfl ?_
    refine g_iload_n m88_8 rfl ?_
    refine g_irem (u := (1 : Int32)) m88_9 (by decide) (by decide) ?_
    refine h_if_neF (xi := 1) (zi := 0) m88_10 rfl rfl (by decide) ?_
    refine g_iinc (x2 := (6 : Int32)) (L2 := [some (.int (1)), some (.int (10)), some (.int (6))]) m88_21 rfl (by decide) rfl rfl ?_
    refine g_goto m88_24 ?_
    refine g_iload_n m88_2 rfl ?_
    refine g_iconst m88_3 ?_
    refine h_ic_leF (xi := 6) (zi := 1) m88_4 rfl rfl (by decide) ?_
    refine g_iload_n m88_7 rfl ?_
    refine g_iload_n m88_8 rfl ?_
    refine g_irem (u := (1 : Int32)) m88_9 (by decide) (by decide) ?_
    refine h_if_neF (xi := 1) (zi := 0) m88_10 rfl rfl (by decide) ?_
    refine g_iinc (x2 := (5 : Int32)) (L2 := [some (.int (1)), some (.int (10)), some (.int (5))]) m88_21 rfl (by decide) rfl rfl ?_
    refine g_goto m88_24 ?_
    refine g_iload_n m88_2 rfl ?_
    refine g_iconst m88_3 ?_
    refine h_ic_leF (xi := 5) (zi := 1) m88_4 rfl rfl (by decide) ?_
    refine g_iload_n m88_7 rfl ?_
    refine g_iload_n m88_8 rfl ?_
    refine g_irem (u := (1 : Int32)) m88_9 (by decide) (by decide) ?_
    refine h_if_neF (xi := 1) (zi := 0) m88_10 rfl rfl (by decide) ?_
    refine g_iinc (x2 := (4 : Int32)) (L2 := [some (.int (1)), some (.int (10)), some (.int (4))]) m88_21 rfl (by decide) rfl rfl ?_
    refine g_goto m88_24 ?_
    refine g_iload_n m88_2 rfl ?_
    refine g_iconst m88_3 ?_
    refine h_ic_leF (xi := 4) (zi := 1) m88_4 rfl rfl (by decide) ?_
    refine g_iload_n m88_7 rfl ?_
    refine g_iload_n m88_8 rfl ?_
    refine g_irem (u := (1 : Int32)) m88_9 (by decide) (by decide) ?_
    refine h_if_neF (xi := 1) (zi := 0) m88_10 rfl rfl (by decide) ?_
    refine g_iinc (x2 := (3 : Int32)) (L2 := [some (.int (1)), some (.int (10)), some (.int (3))]) m88_21 rfl (by decide) rfl rfl ?_
    refine g_goto m88_24 ?_
    refine g_iload_n m88_2 rfl ?_
    refine g_iconst m88_3 ?_
    refine h_ic_leF (xi := 3) (zi := 1) m88_4 rfl rfl (by decide) ?_
    refine g_iload_n m88_7 rfl ?_
    refine g_iload_n m88_8 rfl ?_
    refine g_irem (u := (1 : Int32)) m88_9 (by decide) (by decide) ?_
    refine h_if_neF (xi := 1) (zi := 0) m88_10 rfl rfl (by decide) ?_
    refine g_iinc (x2 := (2 : Int32)) (L2 := [some (.int (1)), some (.int (10)), some (.int (2))]) m88_21 rfl (by decide) rfl rfl ?_
    refine g_goto m88_24 ?_
    refine g_iload_n m88_2 rfl ?_
    refine g_iconst m88_3 ?_
    refine h_ic_leF (xi := 2) (zi := 1) m88_4 rfl rfl (by decide) ?_
    refine g_iload_n m88_7 rfl ?_
    refine g_iload_n m88_8 rfl ?_
    refine g_irem (u := (1 : Int32)) m88_9 (by decide) (by decide) ?_
    refine h_if_neF (xi := 1) (zi := 0) m88_10 rfl rfl (by decide) ?_
    refine g_iinc (x2 := (1 : Int32)) (L2 := [some (.int (1)), some (.int (10)), some (.int (1))]) m88_21 rfl (by decide) rfl rfl ?_
    refine g_goto m88_24 ?_
    refine g_iload_n m88_2 rfl ?_
    refine g_iconst m88_3 ?_
    refine h_ic_leT (xi := 1) (zi := 1) m88_4 rfl rfl (by decide) ?_
    refine g_iconst m88_27 ?_
    refine g_iret m88_28 rt_88 ?_
    exact hQ
  · skip
    refine gwl (L' := [some (.int 2), some (.int 10), none]) rfl ?_
    refine g_iload_n m88_0 rfl ?_
    refine g_istore_n (L2 := [some (.int (2)), some (.int (10)), some (.int (10))]) m88_1 rfl rfl ?_
    refine g_iload_n m88_2 rfl ?_
    refine g_iconst m88_3 ?_
    refine h_ic_leF (xi := 10) (zi := 1) m88_4 rfl rfl (by decide) ?_
    refine g_iload_n m88_7 rfl ?_
    refine g_iload_n m88_8 rfl ?_
    refine g_irem (u := (2 : Int32)) m88_9 (by decide) (by decide) ?_
    refine h_if_neF (xi := 2) (zi := 0) m88_10 rfl rfl (by decide) ?_
    refine g_iinc (x2 := (9 : Int32)) (L2 := [some (.int (2)), some (.int (10)), some (.int (9))]) m88_21 rfl (by decide) rfl rfl ?_
    refine g_goto m88_24 ?_
    refine g_iload_n m88_2 rfl ?_
    refine g_iconst m88_3 ?_
    refine h_ic_leF (xi := 9) (zi := 1) m88_4 rfl rfl (by decide) ?_
    refine g_iload_n m88_7 rfl ?_
    refine g_iload_n m88_8 rfl ?_
    refine g_irem (u := (2 : Int32)) m88_9 (by decide) (by decide) ?_
    refine h_if_neF (xi := 2) (zi := 0) m88_10 rfl rfl (by decide) ?_
    refine g_iinc (x2 := (8 : Int32)) (L2 := [some (.int (2)), some (.int (10)), some (.int (8))]) m88_21 rfl (by decide) rfl rfl ?_
    refine g_goto m88_24 ?_
    refine g_iload_n m88_2 rfl ?_
    refine g_iconst m88_3 ?_
    refine h_ic_leF (xi := 8) (zi := 1) m88_4 rfl rfl (by decide) ?_
    refine g_iload_n m88_7 rfl ?_
    refine g_iload_n m88_8 rfl ?_
    refine g_irem (u := (2 : Int32)) m88_9 (by decide) (by decide) ?_
    refine h_if_neF (xi := 2) (zi := 0) m88_10 rfl rfl (by decide) ?_
    refine g_iinc (x2 := (7 : Int32)) (L2 := [some (.int (2)), some (.int (10)), some (.int (7))]) m88_21 rfl (by decide) rfl rfl ?_
    refine g_goto m88_24 ?_
    refine g_iload_n m88_2 rfl ?_
    refine g_iconst m88_3 ?_
    refine h_ic_leF (xi := 7) (zi := 1) m88_4 rfl rfl (by decide) ?_
    refine g_iload_n m88_7 rfl ?_
    refine g_iload_n m88_8 rfl ?_
    refine g_irem (u := (2 : Int32)) m88_9 (by decide) (by decide) ?_
    refine h_if_neF (xi := 2) (zi := 0) m88_10 rfl rfl (by decide) ?_
    refine g_iinc (x2 := (6 : Int32)) (L2 := [some (.int (2)), some (.int (10)), some (.int (6))]) m88_21 rfl (by decide) rfl rfl ?_
    refine g_goto m88_24 ?_
    refine g_iload_n m88_2 rfl ?_
    refine g_iconst m88_3 ?_
    refine h_ic_leF (xi := 6) (zi := 1) m88_4 rfl rfl (by decide) ?_
    refine g_iload_n m88_7 rfl ?_
    refine g_iload_n m88_8 rfl ?_
    refine g_irem (u := (2 : Int32)) m88_9 (by decide) (by decide) ?_
    refine h_if_neF (xi := 2) (zi := 0) m88_10 rfl rfl (by decide) ?_
    refine g_iinc (x2 := (5 : Int32)) (L2 := [some (.int (2)), some (.int (10)), some (.int (5))]) m88_21 rfl (by decide) rfl rfl ?_
    refine g_goto m88_24 ?_
    refine g_iload_n m88_2 rfl ?_
    refine g_iconst m88_3 ?_
    refine h_ic_leF (xi := 5) (zi := 1) m88_4 rfl rfl (by decide) ?_
    refine g_iload_n m88_7 rfl ?_
    refine g_iload_n m88_8 rfl ?_
    refine g_irem (u := (2 : Int32)) m88_9 (by decide) (by decide) ?_
    refine h_if_neF (xi := 2) (zi := 0) m88_10 rfl rfl (by decide) ?_
    refine g_iinc (x2 := (4 : Int32)) (L2 := [some (.int (2)), some (.int (10)), some (.int (4))]) m88_21 rfl (by decide) rfl rfl ?_
    refine g_goto m88_24 ?_
    refine g_iload_n m88_2 rfl ?_
    refine g_iconst m88_3 ?_
    refine h_ic_leF (xi := 4) (zi := 1) m88_4 rfl rfl (by decide) ?_
    refine g_iload_n m88_7 rfl ?_
    refine g_iload_n m88_8 rfl ?_
    refine g_irem (u := (2 : Int32)) m88_9 (by decide) (by decide) ?_
    refine h_if_neF (xi := 2) (zi := 0) m88_10 rfl rfl (by decide) ?_
    refine g_iinc (x2 := (3 : Int32)) (L2 := [some (.int (2)), some (.int (10)), some (.int (3))]) m88_21 rfl (by decide) rfl rfl ?_
    refine g_goto m88_24 ?_
    refine g_iload_n m88_2 rfl ?_
    refine g_iconst m88_3 ?_
    refine h_ic_leF (xi := 3) (zi := 1) m88_4 rfl rfl (by decide) ?_
    refine g_iload_n m88_7 rfl ?_
    refine g_iload_n m88_8 rfl ?_
    refine g_irem (u := (2 : Int32)) m88_9 (by decide) (by decide) ?_
    refine h_if_neF (xi := 2) (zi := 0) m88_10 rfl rfl (by decide) ?_
    refine g_iinc (x2 := (2 : Int32)) (L2 := [some (.int (2)), some (.int (10)), some (.int (2))]) m88_21 rfl (by decide) rfl rfl ?_
    refine g_goto m88_24 ?_
    refine g_iload_n m88_2 rfl ?_
    refine g_iconst m88_3 ?_
    refine h_ic_leF (xi := 2) (zi := 1) m88_4 rfl rfl (by decide) ?_
    refine g_iload_n m88_7 rfl ?_
    refine g_iload_n m88_8 rfl ?_
    refine g_irem (u := (0 : Int32)) m88_9 (by decide) (by decide) ?_
    refine h_if_neT (xi := 0) (zi := 0) m88_10 rfl rfl (by decide) ?_
    refine g_iload_n m88_13 rfl ?_
    refine g_iload_n m88_14 rfl ?_
    refine g_irem (u := (0 : Int32)) m88_15 (by decide) (by decide) ?_
    refine h_if_neT (xi := 0) (zi := 0) m88_16 rfl rfl (by decide) ?_
    refine g_iload_n m88_19 rfl ?_
    refine g_iret m88_20 rt_88 ?_
    exact hQ
  · skip
    refine gwl (L' := [some (.int 3), some (.int 10), none]) rfl ?_
    refine g_iload_n m88_0 rfl ?_
    refine g_istore_n (L2 := [some (.int (3)), some (.int (10)), some (.int (10))]) m88_1 rfl rfl ?_
    refine g_iload_n m88_2 rfl ?_
    refine g_iconst m88_3 ?_
    refine h_ic_leF (xi := 10) (zi := 1) m88_4 rfl rfl (by decide) ?_
    refine g_iload_n m88_7 rfl ?_
    refine g_iload_n m88_8 rfl ?_
    refine g_irem (u := (3 : Int32)) m88_9 (by decide) (by decide) ?_
    refine h_if_neF (xi := 3) (zi := 0) m88_10 rfl rfl (by decide) ?_
    refine g_iinc (x2 := (9 : Int32)) (L2 := [some (.int (3)), some (.int (10)), some (.int (9))]) m88_21 rfl (by decide) rfl rfl ?_
    refine g_goto m88_24 ?_
    refine g_iload_n m88_2 rfl ?_
    refine g_iconst m88_3 ?_
    refine h_ic_leF (xi := 9) (zi := 1) m88_4 rfl rfl (by decide) ?_
    refine g_iload_n m88_7 rfl ?_
    refine g_iload_n m88_8 rfl ?_
    refine g_irem (u := (3 : Int32)) m88_9 (by decide) (by decide) ?_
    refine h_if_neF (xi := 3) (zi := 0) m88_10 rfl rfl (by decide) ?_
    refine g_iinc (x2 := (8 : Int32)) (L2 := [some (.int (3)), some (.int (10)), some (.int (8))]) m88_21 rfl (by decide) rfl rfl ?_
    refine g_goto m88_24 ?_
    refine g_iload_n m88_2 rfl ?_
    refine g_iconst m88_3 ?_
    refine h_ic_leF (xi := 8) (zi := 1) m88_4 rfl rfl (by decide) ?_
    refine g_iload_n m88_7 rfl ?_
    refine g_iload_n m88_8 rfl ?_
    refine g_irem (u := (3 : Int32)) m88_9 (by decide) (by decide) ?_
    refine h_if_neF (xi := 3) (zi := 0) m88_10 rfl rfl (by decide) ?_
    refine g_iinc (x2 := (7 : Int32)) (L2 := [some (.int (3)), some (.int (10)), some (.int (7))]) m88_21 rfl (by decide) rfl rfl ?_
    refine g_goto m88_24 ?_
    refine g_iload_n m88_2 rfl ?_
    refine g_iconst m88_3 ?_
    refine h_ic_leF (xi := 7) (zi := 1) m88_4 rfl rfl (by decide) ?_
    refine g_iload_n m88_7 rfl ?_
    refine g_iload_n m88_8 rfl ?_
    refine g_irem (u := (3 : Int32)) m88_9 (by decide) (by decide) ?_
    refine h_if_neF (xi := 3) (zi := 0) m88_10 rfl rfl (by decide) ?_
    refine g_iinc (x2 := (6 : Int32)) (L2 := [some (.int (3)), some (.int (10)), some (.int (6))]) m88_21 rfl (by decide) rfl rfl ?_
    refine g_goto m88_24 ?_
    refine g_iload_n m88_2 rfl ?_
    refine g_iconst m88_3 ?_
    refine h_ic_leF (xi := 6) (zi := 1) m88_4 rfl rfl (by decide) ?_
    refine g_iload_n m88_7 rfl ?_
    refine g_iload_n m88_8 rfl ?_
    refine g_irem (u := (3 : Int32)) m88_9 (by decide) (by decide) ?_
    refine h_if_neF (xi := 3) (zi := 0) m88_10 rfl rfl (by decide) ?_
    refine g_iinc (x2 := (5 : Int32)) (L2 := [some (.int (3)), some (.int (10)), some (.int (5))]) m88_21 rfl (by decide) rfl rfl ?_
    refine g_goto m88_24 ?_
    refine g_iload_n m88_2 rfl ?_
    refine g_iconst m88_3 ?_
    refine h_ic_leF (xi := 5) (zi := 1) m88_4 rfl rfl (by decide) ?_
    refine g_iload_n m88_7 rfl ?_
    refine g_iload_n m88_8 rfl ?_
    refine g_irem (u := (3 : Int32)) m88_9 (by decide) (by decide) ?_
    refine h_if_neF (xi := 3) (zi := 0) m88_10 rfl rfl (by decide) ?_
    refine g_iinc (x2 := (4 : Int32)) (L2 := [some (.int (3)), some (.int (10)), some (.int (4))]) m88_21 rfl (by decide) rfl rfl ?_
    refine g_goto m88_24 ?_
    refine g_iload_n m88_2 rfl ?_
    refine g_iconst m88_3 ?_
    refine h_ic_leF (xi := 4) (zi := 1) m88_4 rfl rfl (by decide) ?_
    refine g_iload_n m88_7 rfl ?_
    refine g_iload_n m88_8 rfl ?_
    refine g_irem (u := (3 : Int32)) m88_9 (by decide) (by decide) ?_
    refine h_if_neF (xi := 3) (zi := 0) m88_10 rfl rfl (by decide) ?_
    refine g_iinc (x2 := (3 : Int32)) (L2 := [some (.int (3)), some (.int (10)), some (.int (3))]) m88_21 rfl (by decide) rfl rfl ?_
    refine g_goto m88_24 ?_
    refine g_iload_n m88_2 rfl ?_
    refine g_iconst m88_3 ?_
    refine h_ic_leF (xi := 3) (zi := 1) m88_4 rfl rfl (by decide) ?_
    refine g_iload_n m88_7 rfl ?_
    refine g_iload_n m88_8 rfl ?_
    refine g_irem (u := (0 : Int32)) m88_9 (by decide) (by decide) ?_
    refine h_if_neT (xi := 0) (zi := 0) m88_10 rfl rfl (by decide) ?_
    refine g_iload_n m88_13 rfl ?_
    refine g_iload_n m88_14 rfl ?_
    refine g_irem (u := (1 : Int32)) m88_15 (by decide) (by decide) ?_
    refine h_if_neF (xi := 1) (zi := 0) m88_16 rfl rfl (by decide) ?_
    refine g_iinc (x2 := (2 : Int32)) (L2 := [some (.int (3)), some (.int (10)), some (.int (2))]) m88_21 rfl (by decide) rfl rfl ?_
    refine g_goto m88_24 ?_
    refine g_iload_n m88_2 rfl ?_
    refine g_iconst m88_3 ?_
    refine h_ic_leF (xi := 2) (zi := 1) m88_4 rfl rfl (by decide) ?_
    refine g_iload_n m88_7 rfl ?_
    refine g_iload_n m88_8 rfl ?_
    refine g_irem (u := (1 : Int32)) m88_9 (by decide) (by decide) ?_
    refine h_if_neF (xi := 1) (zi := 0) m88_10 rfl rfl (by decide) ?_
    refine g_iinc (x2 := (1 : Int32)) (L2 := [some (.int (3)), some (.int (10)), some (.int (1))]) m88_21 rfl (by decide) rfl rfl ?_
    refine g_goto m88_24 ?_
    refine g_iload_n m88_2 rfl ?_
    refine g_iconst m88_3 ?_
    refine h_ic_leT (xi := 1) (zi := 1) m88_4 rfl rfl (by decide) ?_
    refine g_iconst m88_27 ?_
    refine g_iret m88_28 rt_88 ?_
    exact hQ
  · skip
    refine gwl (L' := [some (.int 4), some (.int 10), none]) rfl ?_
    refine g_iload_n m88_0 rfl ?_
    refine g_istore_n (L2 := [some (.int (4)), some (.int (10)), some (.int (10))]) m88_1 rfl rfl ?_
    refine g_iload_n m88_2 rfl ?_
    refine g_iconst m88_3 ?_
    refine h_ic_leF (xi := 10) (zi := 1) m88_4 rfl rfl (by decide) ?_
    refine g_iload_n m88_7 rfl ?_
    refine g_iload_n m88_8 rfl ?_
    refine g_irem (u := (4 : Int32)) m88_9 (by decide) (by decide) ?_
    refine h_if_neF (xi := 4) (zi := 0) m88_10 rfl rfl (by decide) ?_
    refine g_iinc (x2 := (9 : Int32)) (L2 := [some (.int (4)), some (.int (10)), some (.int (9))]) m88_21 rfl (by decide) rfl rfl ?_
    refine g_goto m88_24 ?_
    refine g_iload_n m88_2 rfl ?_
    refine g_iconst m88_3 ?_
    refine h_ic_leF (xi := 9) (zi := 1) m88_4 rfl rfl (by decide) ?_
    refine g_iload_n m88_7 rfl ?_
    refine g_iload_n m88_8 rfl ?_
    refine g_irem (u := (4 : Int32)) m88_9 (by decide) (by decide) ?_
    refine h_if_neF (xi := 4) (zi := 0) m88_10 rfl rfl (by decide) ?_
    refine g_iinc (x2 := (8 : Int32)) (L2 := [some (.int (4)), some (.int (10)), some (.int (8))]) m88_21 rfl (by decide) rfl rfl ?_
    refine g_goto m88_24 ?_
    refine g_iload_n m88_2 rfl ?_
    refine g_iconst m88_3 ?_
    refine h_ic_leF (xi := 8) (zi := 1) m88_4 rfl rfl (by decide) ?_
    refine g_iload_n m88_7 rfl ?_
    refine g_iload_n m88_8 rfl ?_
    refine g_irem (u := (4 : Int32)) m88_9 (by decide) (by decide) ?_
    refine h_if_neF (xi := 4) (zi := 0) m88_10 rfl rfl (by decide) ?_
    refine g_iinc (x2 := (7 : Int32)) (L2 := [some (.int (4)), some (.int (10)), some (.int (7))]) m88_21 rfl (by decide) rfl rfl ?_
    refine g_goto m88_24 ?_
    refine g_iload_n m88_2 rfl ?_
    refine g_iconst m88_3 ?_
    refine h_ic_leF (xi := 7) (zi := 1) m88_4 rfl rfl (by decide) ?_
    refine g_iload_n m88_7 rfl ?_
    refine g_iload_n m88_8 rfl ?_
    refine g_irem (u := (4 : Int32)) m88_9 (by decide) (by decide) ?_
    refine h_if_neF (xi := 4) (zi := 0) m88_10 rfl rfl (by decide) ?_
    refine g_iinc (x2 := (6 : Int32)) (L2 := [some (.int (4)), some (.int (10)), some (.int (6))]) m88_21 rfl (by decide) rfl rfl ?_
    refine g_goto m88_24 ?_
    refine g_iload_n m88_2 rfl ?_
    refine g_iconst m88_3 ?_
    refine h_ic_leF (xi := 6) (zi := 1) m88_4 rfl rfl (by decide) ?_
    refine g_iload_n m88_7 rfl ?_
    refine g_iload_n m88_8 rfl ?_
    refine g_irem (u := (4 : Int32)) m88_9 (by decide) (by decide) ?_
    refine h_if_neF (xi := 4) (zi := 0) m88_10 rfl rfl (by decide) ?_
    refine g_iinc (x2 := (5 : Int32)) (L2 := [some (.int (4)), some (.int (10)), some (.int (5))]) m88_21 rfl (by decide) rfl rfl ?_
    refine g_goto m88_24 ?_
    refine g_iload_n m88_2 rfl ?_
    refine g_iconst m88_3 ?_
    refine h_ic_leF (xi := 5) (zi := 1) m88_4 rfl rfl (by decide) ?_
    refine g_iload_n m88_7 rfl ?_
    refine g_iload_n m88_8 rfl ?_
    refine g_irem (u := (4 : Int32)) m88_9 (by decide) (by decide) ?_
    refine h_if_neF (xi := 4) (zi := 0) m88_10 rfl rfl (by decide) ?_
    refine g_iinc (x2 := (4 : Int32)) (L2 := [some (.int (4)), some (.int (10)), some (.int (4))]) m88_21 rfl (by decide) rfl rfl ?_
    refine g_goto m88_24 ?_
    refine g_iload_n m88_2 rfl ?_
    refine g_iconst m88_3 ?_
    refine h_ic_leF (xi := 4) (zi := 1) m88_4 rfl rfl (by decide) ?_
    refine g_iload_n m88_7 rfl ?_
    refine g_iload_n m88_8 rfl ?_
    refine g_irem (u := (0 : Int32)) m88_9 (by decide) (by decide) ?_
    refine h_if_neT (xi := 0) (zi := 0) m88_10 rfl rfl (by decide) ?_
    refine g_iload_n m88_13 rfl ?_
    refine g_iload_n m88_14 rfl ?_
    refine g_irem (u := (2 : Int32)) m88_15 (by decide) (by decide) ?_
    refine h_if_neF (xi := 2) (zi := 0) m88_16 rfl rfl (by decide) ?_
    refine g_iinc (x2 := (3 : Int32)) (L2 := [some (.int (4)), some (.int (10)), some (.int (3))]) m88_21 rfl (by decide) rfl rfl ?_
    refine g_goto m88_24 ?_
    refine g_iload_n m88_2 rfl ?_
    refine g_iconst m88_3 ?_
    refine h_ic_leF (xi := 3) (zi := 1) m88_4 rfl rfl (by decide) ?_
    refine g_iload_n m88_7 rfl ?_
    refine g_iload_n m88_8 rfl ?_
    refine g_irem (u := (1 : Int32)) m88_9 (by decide) (by decide) ?_
    refine h_if_neF (xi := 1) (zi := 0) m88_10 rfl rfl (by decide) ?_
    refine g_iinc (x2 := (2 : Int32)) (L2 := [some (.int (4)), some (.int (10)), some (.int (2))]) m88_21 rfl (by decide) rfl rfl ?_
    refine g_goto m88_24 ?_
    refine g_iload_n m88_2 rfl ?_
    refine g_iconst m88_3 ?_
    refine h_ic_leF (xi := 2) (zi := 1) m88_4 rfl rfl (by decide) ?_
    refine g_iload_n m88_7 rfl ?_
    refine g_iload_n m88_8 rfl ?_
    refine g_irem (u := (0 : Int32)) m88_9 (by decide) (by decide) ?_
    refine h_if_neT (xi := 0) (zi := 0) m88_10 rfl rfl (by decide) ?_
    refine g_iload_n m88_13 rfl ?_
    refine g_iload_n m88_14 rfl ?_
    refine g_irem (u := (0 : Int32)) m88_15 (by decide) (by decide) ?_
    refine h_if_neT (xi := 0) (zi := 0) m88_16 rfl rfl (by decide) ?_
    refine g_iload_n m88_19 rfl ?_
    refine g_iret m88_20 rt_88 ?_
    exact hQ
  · skip
    refine gwl (L' := [some (.int 5), some (.int 10), none]) rfl ?_
    refine g_iload_n m88_0 rfl ?_
    refine g_istore_n (L2 := [some (.int (5)), some (.int (10)), some (.int (10))]) m88_1 rfl rfl ?_
    refine g_iload_n m88_2 rfl ?_
    refine g_iconst m88_3 ?_
    refine h_ic_leF (xi := 10) (zi := 1) m88_4 rfl rfl (by decide) ?_
    refine g_iload_n m88_7 rfl ?_
    refine g_iload_n m88_8 rfl ?_
    refine g_irem (u := (5 : Int32)) m88_9 (by decide) (by decide) ?_
    refine h_if_neF (xi := 5) (zi := 0) m88_10 rfl rfl (by decide) ?_
    refine g_iinc (x2 := (9 : Int32)) (L2 := [some (.int (5)), some (.int (10)), some (.int (9))]) m88_21 rfl (by decide) rfl rfl ?_
    refine g_goto m88_24 ?_
    refine g_iload_n m88_2 rfl ?_
    refine g_iconst m88_3 ?_
    refine h_ic_leF (xi := 9) (zi := 1) m88_4 rfl rfl (by decide) ?_
    refine g_iload_n m88_7 rfl ?_
    refine g_iload_n m88_8 rfl ?_
    refine g_irem (u := (5 : Int32)) m88_9 (by decide) (by decide) ?_
    refine h_if_neF (xi := 5) (zi := 0) m88_10 rfl rfl (by decide) ?_
    refine g_iinc (x2 := (8 : Int32)) (L2 := [some (.int (5)), some (.int (10)), some (.int (8))]) m88_21 rfl (by decide) rfl rfl ?_
    refine g_goto m88_24 ?_
    refine g_iload_n m88_2 rfl ?_
    refine g_iconst m88_3 ?_
    refine h_ic_leF (xi := 8) (zi := 1) m88_4 rfl rfl (by decide) ?_
    refine g_iload_n m88_7 rfl ?_
    refine g_iload_n m88_8 rfl ?_
    refine g_irem (u := (5 : Int32)) m88_9 (by decide) (by decide) ?_
    refine h_if_neF (xi := 5) (zi := 0) m88_10 rfl rfl (by decide) ?_
    refine g_iinc (x2 := (7 : Int32)) (L2 := [some (.int (5)), some (.int (10)), some (.int (7))]) m88_21 rfl (by decide) rfl rfl ?_
    refine g_goto m88_24 ?_
    refine g_iload_n m88_2 rfl ?_
    refine g_iconst m88_3 ?_
    refine h_ic_leF (xi := 7) (zi := 1) m88_4 rfl rfl (by decide) ?_
    refine g_iload_n m88_7 rfl ?_
    refine g_iload_n m88_8 rfl ?_
    refine g_irem (u := (5 : Int32)) m88_9 (by decide) (by decide) ?_
    refine h_if_neF (xi := 5) (zi := 0) m88_10 rfl rfl (by decide) ?_
    refine g_iinc (x2 := (6 : Int32)) (L2 := [some (.int (5)), some (.int (10)), some (.int (6))]) m88_21 rfl (by decide) rfl rfl ?_
    refine g_goto m88_24 ?_
    refine g_iload_n m88_2 rfl ?_
    refine g_iconst m88_3 ?_
    refine h_ic_leF (xi := 6) (zi := 1) m88_4 rfl rfl (by decide) ?_
    refine g_iload_n m88_7 rfl ?_
    refine g_iload_n m88_8 rfl ?_
    refine g_irem (u := (5 : Int32)) m88_9 (by decide) (by decide) ?_
    refine h_if_neF (xi := 5) (zi := 0) m88_10 rfl rfl (by decide) ?_
    refine g_iinc (x2 := (5 : Int32)) (L2 := [some (.int (5)), some (.int (10)), some (.int (5))]) m88_21 rfl (by decide) rfl rfl ?_
    refine g_goto m88_24 ?_
    refine g_iload_n m88_2 rfl ?_
    refine g_iconst m88_3 ?_
    refine h_ic_leF (xi := 5) (zi := 1) m88_4 rfl rfl (by decide) ?_
    refine g_iload_n m88_7 rfl ?_
    refine g_iload_n m88_8 rfl ?_
    refine g_irem (u := (0 : Int32)) m88_9 (by decide) (by decide) ?_
    refine h_if_neT (xi := 0) (zi := 0) m88_10 rfl rfl (by decide) ?_
    refine g_iload_n m88_13 rfl ?_
    refine g_iload_n m88_14 rfl ?_
    refine g_irem (u := (0 : Int32)) m88_15 (by decide) (by decide) ?_
    refine h_if_neT (xi := 0) (zi := 0) m88_16 rfl rfl (by decide) ?_
    refine g_iload_n m88_19 rfl ?_
    refine g_iret m88_20 rt_88 ?_
    exact hQ
  · skip
    refine gwl (L' := [some (.int 6), some (.int 10), none]) rfl ?_
    refine g_iload_n m88_0 rfl ?_
    refine g_istore_n (L2 := [some (.int (6)), some (.int (10)), some (.int (10))]) m88_1 rfl rfl ?_
    refine g_iload_n m88_2 rfl ?_
    refine g_iconst m88_3 ?_
    refine h_ic_leF (xi := 10) (zi := 1) m88_4 rfl rfl (by decide) ?_
    refine g_iload_n m88_7 rfl ?_
    refine g_iload_n m88_8 rfl ?_
    refine g_irem (u := (6 : Int32)) m88_9 (by decide) (by decide) ?_
    refine h_if_neF (xi := 6) (zi := 0) m88_10 rfl rfl (by decide) ?_
    refine g_iinc (x2 := (9 : Int32)) (L2 := [some (.int (6)), some (.int (10)), some (.int (9))]) m88_21 rfl (by decide) rfl rfl ?_
    refine g_goto m88_24 ?_
    refine g_iload_n m88_2 rfl ?_
    refine g_iconst m88_3 ?_
    refine h_ic_leF (xi := 9) (zi := 1) m88_4 rfl rfl (by decide) ?_
    refine g_iload_n m88_7 rfl ?_
    refine g_iload_n m88_8 rfl ?_
    refine g_irem (u := (6 : Int32)) m88_9 (by decide) (by decide) ?_
    refine h_if_neF (xi := 6) (zi := 0) m88_10 rfl rfl (by decide) ?_
    refine g_iinc (x2 := (8 : Int32)) (L2 := [some (.int (6)), some (.int (10)), some (.int (8))]) m88_21 rfl (by decide) rfl rfl ?_
    refine g_goto m88_24 ?_
    refine g_iload_n m88_2 rfl ?_
    refine g_iconst m88_3 ?_
    refine h_ic_leF (xi := 8) (zi := 1) m88_4 rfl rfl (by decide) ?_
    refine g_iload_n m88_7 rfl ?_
    refine g_iload_n m88_8 rfl ?_
    refine g_irem (u := (6 : Int32)) m88_9 (by decide) (by decide) ?_
    refine h_if_neF (xi := 6) (zi := 0) m88_10 rfl rfl (by decide) ?_
    refine g_iinc (x2 := (7 : Int32)) (L2 := [some (.int (6)), some (.int (10)), some (.int (7))]) m88_21 rfl (by decide) rfl rfl ?_
    refine g_goto m88_24 ?_
    refine g_iload_n m88_2 rfl ?_
    refine g_iconst m88_3 ?_
    refine h_ic_leF (xi := 7) (zi := 1) m88_4 rfl rfl (by decide) ?_
    refine g_iload_n m88_7 rfl ?_
    refine g_iload_n m88_8 rfl ?_
    refine g_irem (u := (6 : Int32)) m88_9 (by decide) (by decide) ?_
    refine h_if_neF (xi := 6) (zi := 0) m88_10 rfl rfl (by decide) ?_
    refine g_iinc (x2 := (6 : Int32)) (L2 := [some (.int (6)), some (.int (10)), some (.int (6))]) m88_21 rfl (by decide) rfl rfl ?_
    refine g_goto m88_24 ?_
    refine g_iload_n m88_2 rfl ?_
    refine g_iconst m88_3 ?_
    refine h_ic_leF (xi := 6) (zi := 1) m88_4 rfl rfl (by decide) ?_
    refine g_iload_n m88_7 rfl ?_
    refine g_iload_n m88_8 rfl ?_
    refine g_irem (u := (0 : Int32)) m88_9 (by decide) (by decide) ?_
    refine h_if_neT (xi := 0) (zi := 0) m88_10 rfl rfl (by decide) ?_
    refine g_iload_n m88_13 rfl ?_
    refine g_iload_n m88_14 rfl ?_
    refine g_irem (u := (4 : Int32)) m88_15 (by decide) (by decide) ?_
    refine h_if_neF (xi := 4) (zi := 0) m88_16 rfl rfl (by decide) ?_
    refine g_iinc (x2 := (5 : Int32)) (L2 := [some (.int (6)), some (.int (10)), some (.int (5))]) m88_21 rfl (by decide) rfl rfl ?_
    refine g_goto m88_24 ?_
    refine g_iload_n m88_2 rfl ?_
    refine g_iconst m88_3 ?_
    refine h_ic_leF (xi := 5) (zi := 1) m88_4 rfl rfl (by decide) ?_
    refine g_iload_n m88_7 rfl ?_
    refine g_iload_n m88_8 rfl ?_
    refine g_irem (u := (1 : Int32)) m88_9 (by decide) (by decide) ?_
    refine h_if_neF (xi := 1) (zi := 0) m88_10 rfl rfl (by decide) ?_
    refine g_iinc (x2 := (4 : Int32)) (L2 := [some (.int (6)), some (.int (10)), some (.int (4))]) m88_21 rfl (by decide) rfl rfl ?_
    refine g_goto m88_24 ?_
    refine g_iload_n m88_2 rfl ?_
    refine g_iconst m88_3 ?_
    refine h_ic_leF (xi := 4) (zi := 1) m88_4 rfl rfl (by decide) ?_
    refine g_iload_n m88_7 rfl ?_
    refine g_iload_n m88_8 rfl ?_
    refine g_irem (u := (2 : Int32)) m88_9 (by decide) (by decide) ?_
    refine h_if_neF (xi := 2) (zi := 0) m88_10 rfl rfl (by decide) ?_
    refine g_iinc (x2 := (3 : Int32)) (L2 := [some (.int (6)), some (.int (10)), some (.int (3))]) m88_21 rfl (by decide) rfl rfl ?_
    refine g_goto m88_24 ?_
    refine g_iload_n m88_2 rfl ?_
    refine g_iconst m88_3 ?_
    refine h_ic_leF (xi := 3) (zi := 1) m88_4 rfl rfl (by decide) ?_
    refine g_iload_n m88_7 rfl ?_
    refine g_iload_n m88_8 rfl ?_
    refine g_irem (u := (0 : Int32)) m88_9 (by decide) (by decide) ?_
    refine h_if_neT (xi := 0) (zi := 0) m88_10 rfl rfl (by decide) ?_
    refine g_iload_n m88_13 rfl ?_
    refine g_iload_n m88_14 rfl ?_
    refine g_irem (u := (1 : Int32)) m88_15 (by decide) (by decide) ?_
    refine h_if_neF (xi := 1) (zi := 0) m88_16 rfl rfl (by decide) ?_
    refine g_iinc (x2 := (2 : Int32)) (L2 := [some (.int (6)), some (.int (10)), some (.int (2))]) m88_21 rfl (by decide) rfl rfl ?_
    refine g_goto m88_24 ?_
    refine g_iload_n m88_2 rfl ?_
    refine g_iconst m88_3 ?_
    refine h_ic_leF (xi := 2) (zi := 1) m88_4 rfl rfl (by decide) ?_
    refine g_iload_n m88_7 rfl ?_
    refine g_iload_n m88_8 rfl ?_
    refine g_irem (u := (0 : Int32)) m88_9 (by decide) (by decide) ?_
    refine h_if_neT (xi := 0) (zi := 0) m88_10 rfl rfl (by decide) ?_
    refine g_iload_n m88_13 rfl ?_
    refine g_iload_n m88_14 rfl ?_
    refine g_irem (u := (0 : Int32)) m88_15 (by decide) (by decide) ?_
    refine h_if_neT (xi := 0) (zi := 0) m88_16 rfl rfl (by decide) ?_
    refine g_iload_n m88_19 rfl ?_
    refine g_iret m88_20 rt_88 ?_
    exact hQ
  · skip
    refine gwl (L' := [some (.int 7), some (.int 10), none]) rfl ?_
    refine g_iload_n m88_0 rfl ?_
    refine g_istore_n (L2 := [some (.int (7)), some (.int (10)), some (.int (10))]) m88_1 rfl rfl ?_
    refine g_iload_n m88_2 rfl ?_
    refine g_iconst m88_3 ?_
    refine h_ic_leF (xi := 10) (zi := 1) m88_4 rfl rfl (by decide) ?_
    refine g_iload_n m88_7 rfl ?_
    refine g_iload_n m88_8 rfl ?_
    refine g_irem (u := (7 : Int32)) m88_9 (by decide) (by decide) ?_
    refine h_if_neF (xi := 7) (zi := 0) m88_10 rfl rfl (by decide) ?_
    refine g_iinc (x2 := (9 : Int32)) (L2 := [some (.int (7)), some (.int (10)), some (.int (9))]) m88_21 rfl (by decide) rfl rfl ?_
    refine g_goto m88_24 ?_
    refine g_iload_n m88_2 rfl ?_
    refine g_iconst m88_3 ?_
    refine h_ic_leF (xi := 9) (zi := 1) m88_4 rfl rfl (by decide) ?_
    refine g_iload_n m88_7 rfl ?_
    refine g_iload_n m88_8 rfl ?_
    refine g_irem (u := (7 : Int32)) m88_9 (by decide) (by decide) ?_
    refine h_if_neF (xi := 7) (zi := 0) m88_10 rfl rfl (by decide) ?_
    refine g_iinc (x2 := (8 : Int32)) (L2 := [some (.int (7)), some (.int (10)), some (.int (8))]) m88_21 rfl (by decide) rfl rfl ?_
    refine g_goto m88_24 ?_
    refine g_iload_n m88_2 rfl ?_
    refine g_iconst m88_3 ?_
    refine h_ic_leF (xi := 8) (zi := 1) m88_4 rfl rfl (by decide) ?_
    refine g_iload_n m88_7 rfl ?_
    refine g_iload_n m88_8 rfl ?_
    refine g_irem (u := (7 : Int32)) m88_9 (by decide) (by decide) ?_
    refine h_if_neF (xi := 7) (zi := 0) m88_10 rfl rfl (by decide) ?_
    refine g_iinc (x2 := (7 : Int32)) (L2 := [some (.int (7)), some (.int (10)), some (.int (7))]) m88_21 rfl (by decide) rfl rfl ?_
    refine g_goto m88_24 ?_
    refine g_iload_n m88_2 rfl ?_
    refine g_iconst m88_3 ?_
    refine h_ic_leF (xi := 7) (zi := 1) m88_4 rfl rfl (by decide) ?_
    refine g_iload_n m88_7 rfl ?_
    refine g_iload_n m88_8 rfl ?_
    refine g_irem (u := (0 : Int32)) m88_9 (by decide) (by decide) ?_
    refine h_if_neT (xi := 0) (zi := 0) m88_10 rfl rfl (by decide) ?_
    refine g_iload_n m88_13 rfl ?_
    refine g_iload_n m88_14 rfl ?_
    refine g_irem (u := (3 : Int32)) m88_15 (by decide) (by decide) ?_
    refine h_if_neF (xi := 3) (zi := 0) m88_16 rfl rfl (by decide) ?_
    refine g_iinc (x2 := (6 : Int32)) (L2 := [some (.int (7)), some (.int (10)), some (.int (6))]) m88_21 rfl (by decide) rfl rfl ?_
    refine g_goto m88_24 ?_
    refine g_iload_n m88_2 rfl ?_
    refine g_iconst m88_3 ?_
    refine h_ic_leF (xi := 6) (zi := 1) m88_4 rfl rfl (by decide) ?_
    refine g_iload_n m88_7 rfl ?_
    refine g_iload_n m88_8 rfl ?_
    refine g_irem (u := (1 : Int32)) m88_9 (by decide) (by decide) ?_
    refine h_if_neF (xi := 1) (zi := 0) m88_10 rfl rfl (by decide) ?_
    refine g_iinc (x2 := (5 : Int32)) (L2 := [some (.int (7)), some (.int (10)), some (.int (5))]) m88_21 rfl (by decide) rfl rfl ?_
    refine g_goto m88_24 ?_
    refine g_iload_n m88_2 rfl ?_
    refine g_iconst m88_3 ?_
    refine h_ic_leF (xi := 5) (zi := 1) m88_4 rfl rfl (by decide) ?_
    refine g_iload_n m88_7 rfl ?_
    refine g_iload_n m88_8 rfl ?_
    refine g_irem (u := (2 : Int32)) m88_9 (by decide) (by decide) ?_
    refine h_if_neF (xi := 2) (zi := 0) m88_10 rfl rfl (by decide) ?_
    refine g_iinc (x2 := (4 : Int32)) (L2 := [some (.int (7)), some (.int (10)), some (.int (4))]) m88_21 rfl (by decide) rfl rfl ?_
    refine g_goto m88_24 ?_
    refine g_iload_n m88_2 rfl ?_
    refine g_iconst m88_3 ?_
    refine h_ic_leF (xi := 4) (zi := 1) m88_4 rfl rfl (by decide) ?_
    refine g_iload_n m88_7 rfl ?_
    refine g_iload_n m88_8 rfl ?_
    refine g_irem (u := (3 : Int32)) m88_9 (by decide) (by decide) ?_
    refine h_if_neF (xi := 3) (zi := 0) m88_10 rfl rfl (by decide) ?_
    refine g_iinc (x2 := (3 : Int32)) (L2 := [some (.int (7)), some (.int (10)), some (.int (3))]) m88_21 rfl (by decide) rfl rfl ?_
    refine g_goto m88_24 ?_
    refine g_iload_n m88_2 rfl ?_
    refine g_iconst m88_3 ?_
    refine h_ic_leF (xi := 3) (zi := 1) m88_4 rfl rfl (by decide) ?_
    refine g_iload_n m88_7 rfl ?_
    refine g_iload_n m88_8 rfl ?_
    refine g_irem (u := (1 : Int32)) m88_9 (by decide) (by decide) ?_
    refine h_if_neF (xi := 1) (zi := 0) m88_10 rfl rfl (by decide) ?_
    refine g_iinc (x2 := (2 : Int32)) (L2 := [some (.int (7)), some (.int (10)), some (.int (2))]) m88_21 rfl (by decide) rfl rfl ?_
    refine g_goto m88_24 ?_
    refine g_iload_n m88_2 rfl ?_
    refine g_iconst m88_3 ?_
    refine h_ic_leF (xi := 2) (zi := 1) m88_4 rfl rfl (by decide) ?_
    refine g_iload_n m88_7 rfl ?_
    refine g_iload_n m88_8 rfl ?_
    refine g_irem (u := (1 : Int32)) m88_9 (by decide) (by decide) ?_
    refine h_if_neF (xi := 1) (zi := 0) m88_10 rfl rfl (by decide) ?_
    refine g_iinc (x2 := (1 : Int32)) (L2 := [some (.int (7)), some (.int (10)), some (.int (1))]) m88_21 rfl (by decide) rfl rfl ?_
    refine g_goto m88_24 ?_
    refine g_iload_n m88_2 rfl ?_
    refine g_iconst m88_3 ?_
    refine h_ic_leT (xi := 1) (zi := 1) m88_4 rfl rfl (by decide) ?_
    refine g_iconst m88_27 ?_
    refine g_iret m88_28 rt_88 ?_
    exact hQ
  · skip
    refine gwl (L' := [some (.int 8), some (.int 10), none]) rfl ?_
    refine g_iload_n m88_0 rfl ?_
    refine g_istore_n (L2 := [some (.int (8)), some (.int (10)), some (.int (10))]) m88_1 rfl rfl ?_
    refine g_iload_n m88_2 rfl ?_
    refine g_iconst m88_3 ?_
    refine h_ic_leF (xi := 10) (zi := 1) m88_4 rfl rfl (by decide) ?_
    refine g_iload_n m88_7 rfl ?_
    refine g_iload_n m88_8 rfl ?_
    refine g_irem (u := (8 : Int32)) m88_9 (by decide) (by decide) ?_
    refine h_if_neF (xi := 8) (zi := 0) m88_10 rfl rfl (by decide) ?_
    refine g_iinc (x2 := (9 : Int32)) (L2 := [some (.int (8)), some (.int (10)), some (.int (9))]) m88_21 rfl (by decide) rfl rfl ?_
    refine g_goto m88_24 ?_
    refine g_iload_n m88_2 rfl ?_
    refine g_iconst m88_3 ?_
    refine h_ic_leF (xi := 9) (zi := 1) m88_4 rfl rfl (by decide) ?_
    refine g_iload_n m88_7 rfl ?_
    refine g_iload_n m88_8 rfl ?_
    refine g_irem (u := (8 : Int32)) m88_9 (by decide) (by decide) ?_
    refine h_if_neF (xi := 8) (zi := 0) m88_10 rfl rfl (by decide) ?_
    refine g_iinc (x2 := (8 : Int32)) (L2 := [some (.int (8)), some (.int (10)), some (.int (8))]) m88_21 rfl (by decide) rfl rfl ?_
    refine g_goto m88_24 ?_
    refine g_iload_n m88_2 rfl ?_
    refine g_iconst m88_3 ?_
    refine h_ic_leF (xi := 8) (zi := 1) m88_4 rfl rfl (by decide) ?_
    refine g_iload_n m88_7 rfl ?_
    refine g_iload_n m88_8 rfl ?_
    refine g_irem (u := (0 : Int32)) m88_9 (by decide) (by decide) ?_
    refine h_if_neT (xi := 0) (zi := 0) m88_10 rfl rfl (by decide) ?_
    refine g_iload_n m88_13 rfl ?_
    refine g_iload_n m88_14 rfl ?_
    refine g_irem (u := (2 : Int32)) m88_15 (by decide) (by decide) ?_
    refine h_if_neF (xi := 2) (zi := 0) m88_16 rfl rfl (by decide) ?_
    refine g_iinc (x2 := (7 : Int32)) (L2 := [some (.int (8)), some (.int (10)), some (.int (7))]) m88_21 rfl (by decide) rfl rfl ?_
    refine g_goto m88_24 ?_
    refine g_iload_n m88_2 rfl ?_
    refine g_iconst m88_3 ?_
    refine h_ic_leF (xi := 7) (zi := 1) m88_4 rfl rfl (by decide) ?_
    refine g_iload_n m88_7 rfl ?_
    refine g_iload_n m88_8 rfl ?_
    refine g_irem (u := (1 : Int32)) m88_9 (by decide) (by decide) ?_
    refine h_if_neF (xi := 1) (zi := 0) m88_10 rfl rfl (by decide) ?_
    refine g_iinc (x2 := (6 : Int32)) (L2 := [some (.int (8)), some (.int (10)), some (.int (6))]) m88_21 rfl (by decide) rfl rfl ?_
    refine g_goto m88_24 ?_
    refine g_iload_n m88_2 rfl ?_
    refine g_iconst m88_3 ?_
    refine h_ic_leF (xi := 6) (zi := 1) m88_4 rfl rfl (by decide) ?_
    refine g_iload_n m88_7 rfl ?_
    refine g_iload_n m88_8 rfl ?_
    refine g_irem (u := (2 : Int32)) m88_9 (by decide) (by decide) ?_
    refine h_if_neF (xi := 2) (zi := 0) m88_10 rfl rfl (by decide) ?_
    refine g_iinc (x2 := (5 : Int32)) (L2 := [some (.int (8)), some (.int (10)), some (.int (5))]) m88_21 rfl (by decide) rfl rfl ?_
    refine g_goto m88_24 ?_
    refine g_iload_n m88_2 rfl ?_
    refine g_iconst m88_3 ?_
    refine h_ic_leF (xi := 5) (zi := 1) m88_4 rfl rfl (by decide) ?_
    refine g_iload_n m88_7 rfl ?_
    refine g_iload_n m88_8 rfl ?_
    refine g_irem (u := (3 : Int32)) m88_9 (by decide) (by decide) ?_
    refine h_if_neF (xi := 3) (zi := 0) m88_10 rfl rfl (by decide) ?_
    refine g_iinc (x2 := (4 : Int32)) (L2 := [some (.int (8)), some (.int (10)), some (.int (4))]) m88_21 rfl (by decide) rfl rfl ?_
    refine g_goto m88_24 ?_
    refine g_iload_n m88_2 rfl ?_
    refine g_iconst m88_3 ?_
    refine h_ic_leF (xi := 4) (zi := 1) m88_4 rfl rfl (by decide) ?_
    refine g_iload_n m88_7 rfl ?_
    refine g_iload_n m88_8 rfl ?_
    refine g_irem (u := (0 : Int32)) m88_9 (by decide) (by decide) ?_
    refine h_if_neT (xi := 0) (zi := 0) m88_10 rfl rfl (by decide) ?_
    refine g_iload_n m88_13 rfl ?_
    refine g_iload_n m88_14 rfl ?_
    refine g_irem (u := (2 : Int32)) m88_15 (by decide) (by decide) ?_
    refine h_if_neF (xi := 2) (zi := 0) m88_16 rfl rfl (by decide) ?_
    refine g_iinc (x2 := (3 : Int32)) (L2 := [some (.int (8)), some (.int (10)), some (.int (3))]) m88_21 rfl (by decide) rfl rfl ?_
    refine g_goto m88_24 ?_
    refine g_iload_n m88_2 rfl ?_
    refine g_iconst m88_3 ?_
    refine h_ic_leF (xi := 3) (zi := 1) m88_4 rfl rfl (by decide) ?_
    refine g_iload_n m88_7 rfl ?_
    refine g_iload_n m88_8 rfl ?_
    refine g_irem (u := (2 : Int32)) m88_9 (by decide) (by decide) ?_
    refine h_if_neF (xi := 2) (zi := 0) m88_10 rfl rfl (by decide) ?_
    refine g_iinc (x2 := (2 : Int32)) (L2 := [some (.int (8)), some (.int (10)), some (.int (2))]) m88_21 rfl (by decide) rfl rfl ?_
    refine g_goto m88_24 ?_
    refine g_iload_n m88_2 rfl ?_
    refine g_iconst m88_3 ?_
    refine h_ic_leF (xi := 2) (zi := 1) m88_4 rfl rfl (by decide) ?_
    refine g_iload_n m88_7 rfl ?_
    refine g_iload_n m88_8 rfl ?_
    refine g_irem (u := (0 : Int32)) m88_9 (by decide) (by decide) ?_
    refine h_if_neT (xi := 0) (zi := 0) m88_10 rfl rfl (by decide) ?_
    refine g_iload_n m88_13 rfl ?_
    refine g_iload_n m88_14 rfl ?_
    refine g_irem (u := (0 : Int32)) m88_15 (by decide) (by decide) ?_
    refine h_if_neT (xi := 0) (zi := 0) m88_16 rfl rfl (by decide) ?_
    refine g_iload_n m88_19 rfl ?_
    refine g_iret m88_20 rt_88 ?_
    exact hQ
  · skip
    refine gwl (L' := [some (.int 9), some (.int 10), none]) rfl ?_
    refine g_iload_n m88_0 rfl ?_
    refine g_istore_n (L2 := [some (.int (9)), some (.int (10)), some (.int (10))]) m88_1 rfl rfl ?_
    refine g_iload_n m88_2 rfl ?_
    refine g_iconst m88_3 ?_
    refine h_ic_leF (xi := 10) (zi := 1) m88_4 rfl rfl (by decide) ?_
    refine g_iload_n m88_7 rfl ?_
    refine g_iload_n m88_8 rfl ?_
    refine g_irem (u := (9 : Int32)) m88_9 (by decide) (by decide) ?_
    refine h_if_neF (xi := 9) (zi := 0) m88_10 rfl rfl (by decide) ?_
    refine g_iinc (x2 := (9 : Int32)) (L2 := [some (.int (9)), some (.int (10)), some (.int (9))]) m88_21 rfl (by decide) rfl rfl ?_
    refine g_goto m88_24 ?_
    refine g_iload_n m88_2 rfl ?_
    refine g_iconst m88_3 ?_
    refine h_ic_leF (xi := 9) (zi := 1) m88_4 rfl rfl (by decide) ?_
    refine g_iload_n m88_7 rfl ?_
    refine g_iload_n m88_8 rfl ?_
    refine g_irem (u := (0 : Int32)) m88_9 (by decide) (by decide) ?_
    refine h_if_neT (xi := 0) (zi := 0) m88_10 rfl rfl (by decide) ?_
    refine g_iload_n m88_13 rfl ?_
    refine g_iload_n m88_14 rfl ?_
    refine g_irem (u := (1 : Int32)) m88_15 (by decide) (by decide) ?_
    refine h_if_neF (xi := 1) (zi := 0) m88_16 rfl rfl (by decide) ?_
    refine g_iinc (x2 := (8 : Int32)) (L2 := [some (.int (9)), some (.int (10)), some (.int (8))]) m88_21 rfl (by decide) rfl rfl ?_
    refine g_goto m88_24 ?_
    refine g_iload_n m88_2 rfl ?_
    refine g_iconst m88_3 ?_
    refine h_ic_leF (xi := 8) (zi := 1) m88_4 rfl rfl (by decide) ?_
    refine g_iload_n m88_7 rfl ?_
    refine g_iload_n m88_8 rfl ?_
    refine g_irem (u := (1 : Int32)) m88_9 (by decide) (by decide) ?_
    refine h_if_neF (xi := 1) (zi := 0) m88_10 rfl rfl (by decide) ?_
    refine g_iinc (x2 := (7 : Int32)) (L2 := [some (.int (9)), some (.int (10)), some (.int (7))]) m88_21 rfl (by decide) rfl rfl ?_
    refine g_goto m88_24 ?_
    refine g_iload_n m88_2 rfl ?_
    refine g_iconst m88_3 ?_
    refine h_ic_leF (xi := 7) (zi := 1) m88_4 rfl rfl (by decide) ?_
    refine g_iload_n m88_7 rfl ?_
    refine g_iload_n m88_8 rfl ?_
    refine g_irem (u := (2 : Int32)) m88_9 (by decide) (by decide) ?_
    refine h_if_neF (xi := 2) (zi := 0) m88_10 rfl rfl (by decide) ?_
    refine g_iinc (x2 := (6 : Int32)) (L2 := [some (.int (9)), some (.int (10)), some (.int (6))]) m88_21 rfl (by decide) rfl rfl ?_
    refine g_goto m88_24 ?_
    refine g_iload_n m88_2 rfl ?_
    refine g_iconst m88_3 ?_
    refine h_ic_leF (xi := 6) (zi := 1) m88_4 rfl rfl (by decide) ?_
    refine g_iload_n m88_7 rfl ?_
    refine g_iload_n m88_8 rfl ?_
    refine g_irem (u := (3 : Int32)) m88_9 (by decide) (by decide) ?_
    refine h_if_neF (xi := 3) (zi := 0) m88_10 rfl rfl (by decide) ?_
    refine g_iinc (x2 := (5 : Int32)) (L2 := [some (.int (9)), some (.int (10)), some (.int (5))]) m88_21 rfl (by decide) rfl rfl ?_
    refine g_goto m88_24 ?_
    refine g_iload_n m88_2 rfl ?_
    refine g_iconst m88_3 ?_
    refine h_ic_leF (xi := 5) (zi := 1) m88_4 rfl rfl (by decide) ?_
    refine g_iload_n m88_7 rfl ?_
    refine g_iload_n m88_8 rfl ?_
    refine g_irem (u := (4 : Int32)) m88_9 (by decide) (by decide) ?_
    refine h_if_neF (xi := 4) (zi := 0) m88_10 rfl rfl (by decide) ?_
    refine g_iinc (x2 := (4 : Int32)) (L2 := [some (.int (9)), some (.int (10)), some (.int (4))]) m88_21 rfl (by decide) rfl rfl ?_
    refine g_goto m88_24 ?_
    refine g_iload_n m88_2 rfl ?_
    refine g_iconst m88_3 ?_
    refine h_ic_leF (xi := 4) (zi := 1) m88_4 rfl rfl (by decide) ?_
    refine g_iload_n m88_7 rfl ?_
    refine g_iload_n m88_8 rfl ?_
    refine g_irem (u := (1 : Int32)) m88_9 (by decide) (by decide) ?_
    refine h_if_neF (xi := 1) (zi := 0) m88_10 rfl rfl (by decide) ?_
    refine g_iinc (x2 := (3 : Int32)) (L2 := [some (.int (9)), some (.int (10)), some (.int (3))]) m88_21 rfl (by decide) rfl rfl ?_
    refine g_goto m88_24 ?_
    refine g_iload_n m88_2 rfl ?_
    refine g_iconst m88_3 ?_
    refine h_ic_leF (xi := 3) (zi := 1) m88_4 rfl rfl (by decide) ?_
    refine g_iload_n m88_7 rfl ?_
    refine g_iload_n m88_8 rfl ?_
    refine g_irem (u := (0 : Int32)) m88_9 (by decide) (by decide) ?_
    refine h_if_neT (xi := 0) (zi := 0) m88_10 rfl rfl (by decide) ?_
    refine g_iload_n m88_13 rfl ?_
    refine g_iload_n m88_14 rfl ?_
    refine g_irem (u := (1 : Int32)) m88_15 (by decide) (by decide) ?_
    refine h_if_neF (xi := 1) (zi := 0) m88_16 rfl rfl (by decide) ?_
    refine g_iinc (x2 := (2 : Int32)) (L2 := [some (.int (9)), some (.int (10)), some (.int (2))]) m88_21 rfl (by decide) rfl rfl ?_
    refine g_goto m88_24 ?_
    refine g_iload_n m88_2 rfl ?_
    refine g_iconst m88_3 ?_
    refine h_ic_leF (xi := 2) (zi := 1) m88_4 rfl rfl (by decide) ?_
    refine g_iload_n m88_7 rfl ?_
    refine g_iload_n m88_8 rfl ?_
    refine g_irem (u := (1 : Int32)) m88_9 (by decide) (by decide) ?_
    refine h_if_neF (xi := 1) (zi := 0) m88_10 rfl rfl (by decide) ?_
    refine g_iinc (x2 := (1 : Int32)) (L2 := [some (.int (9)), some (.int (10)), some (.int (1))]) m88_21 rfl (by decide) rfl rfl ?_
    refine g_goto m88_24 ?_
    refine g_iload_n m88_2 rfl ?_
    refine g_iconst m88_3 ?_
    refine h_ic_leT (xi := 1) (zi := 1) m88_4 rfl rfl (by decide) ?_
    refine g_iconst m88_27 ?_
    refine g_iret m88_28 rt_88 ?_
    exact hQ
  · skip
    refine gwl (L' := [some (.int 10), some (.int 10), none]) rfl ?_
    refine g_iload_n m88_0 rfl ?_
    refine g_istore_n (L2 := [some (.int (10)), some (.int (10)), some (.int (10))]) m88_1 rfl rfl ?_
    refine g_iload_n m88_2 rfl ?_
    refine g_iconst m88_3 ?_
    refine h_ic_leF (xi := 10) (zi := 1) m88_4 rfl rfl (by decide) ?_
    refine g_iload_n m88_7 rfl ?_
    refine g_iload_n m88_8 rfl ?_
    refine g_irem (u := (0 : Int32)) m88_9 (by decide) (by decide) ?_
    refine h_if_neT (xi := 0) (zi := 0) m88_10 rfl rfl (by decide) ?_
    refine g_iload_n m88_13 rfl ?_
    refine g_iload_n m88_14 rfl ?_
    refine g_irem (u := (0 : Int32)) m88_15 (by decide) (by decide) ?_
    refine h_if_neT (xi := 0) (zi := 0) m88_16 rfl rfl (by decide) ?_
    refine g_iload_n m88_19 rfl ?_
    refine g_iret m88_20 rt_88 ?_
    exact hQ
set_option maxRecDepth 20000 in
set_option maxHeartbeats 40000000 in
theorem x_odds {a v b : Int32} {n : Nat} (hd : m 1 10 = nI n) (hn : n ≤ 8) (h01 : ∀ j, j < 8 → m 8 j = 0 ∨ m 8 j = 1) (hW : WF (vw m 0)) (hL : LawsOk m ln N) (hix : LawIx N (m 1 11)) (hiy : LawIx N (m 1 12)) (hE1 : (a.toInt < 0 ∨ (n : Int) ≤ a.toInt ∨ v.toInt < 0 ∨ 60 < v.toInt ∨ b.toInt < 0 ∨ 1 < b.toInt) → Q (some (.int (-1000000000 - nI 1))) (H (erm m 1) ln N)) (hY0 : ∀ i k : Nat, a = nI i → i < n → v = nI k → k ≤ 60 → b = nI 0 → ∀ m2, FrT m m2 → Q (some (.int (nI ((cntF (fun s => moreN (lkF m ln (m 1 11)) (blF m ln (m 1 12)) (upm (vw m 0) 5 i (nI s)) k i) 10) / Nat.gcd (cntF (fun s => moreN (lkF m ln (m 1 11)) (blF m ln (m 1 12)) (upm (vw m 0) 5 i (nI s)) k i) 10) 10)))) (H m2 ln N)) (hY1 : ∀ i k : Nat, a = nI i → i < n → v = nI k → k ≤ 60 → b = nI 1 → ∀ m2, FrT m m2 → Q (some (.int (nI (10 / Nat.gcd (cntF (fun s => moreN (lkF m ln (m 1 11)) (blF m ln (m 1 12)) (upm (vw m 0) 5 i (nI s)) k i) 10) 10)))) (H m2 ln N))  : WP xs (d + 7) 89 0 0 [.ref (32), .int (a), .int (v), .int (b)] (H m ln N) Q := by
  refine wp_x mx_89 (L := [some (.ref (32)), some (.int (a)), some (.int (v)), some (.int (b)), none, none]) (Nat.le_of_ble_eq_true rfl) rfl ?_
  refine g_aload_n m89_0 rfl ?_
  refine g_iload_n m89_1 rfl ?_
  refine h_cv (k := 0) (p := 32) (args := [.int (a)]) (rest := []) m89_2 cn_60 (Nat.le_of_ble_eq_true rfl) rfl rfl rfl (t_0 _ _) (Nat.le_of_ble_eq_true rfl) ?_
  refine c_isDiner hd hn (fun ja ea a_3 => ?_) (fun a_3 => ?_)
  · subst ea
    refine gwr ?_
    refine h_if_eqF (xi := 1) (zi := 0) m89_5 rfl rfl (by decide) ?_
    refine g_iload_n m89_8 rfl ?_
    refine g_bipush m89_9 ?_
    refine g_cs (args := [.int (v), .int (60)]) (rest := []) 0 (Or.inl rfl) m89_11 (Nat.le_of_ble_eq_true rfl) rfl rfl (Nat.le_of_ble_eq_true rfl) ?_
    refine c_within (M := 60) rfl (fun jv ev a_4 => ?_) (fun a_4 => ?_)
    · subst ev
      refine gwr ?_
      refine h_if_eqF (xi := 1) (zi := 0) m89_14 rfl rfl (by decide) ?_
      refine g_iload_n m89_17 rfl ?_
      refine g_iconst m89_18 ?_
      refine g_cs (args := [.int (b), .int (1)]) (rest := []) 0 (Or.inl rfl) m89_19 (Nat.le_of_ble_eq_true rfl) rfl rfl (Nat.le_of_ble_eq_true rfl) ?_
      refine c_within (M := 1) rfl (fun jb eb a_5 => ?_) (fun a_5 => ?_)
      · subst eb
        refine gwr ?_
        refine h_if_neF (xi := 1) (zi := 0) m89_22 rfl rfl (by decide) ?_
        refine g_iconst m89_31 ?_
        refine g_istore (L2 := [some (.ref (32)), some (.int (nI (ja))), some (.int (nI (jv))), some (.int (nI (jb))), some (.int (0)), none]) m89_32 rfl rfl ?_
        refine g_iconst m89_34 ?_
        refine g_istore (L2 := [some (.ref (32)), some (.int (nI (ja))), some (.int (nI (jv))), some (.int (nI (jb))), some (.int (0)), some (.int (0))]) m89_35 rfl rfl ?_
        have hb10 : ∀ q, cntF (fun s => moreN (lkF m ln (m 1 11)) (blF m ln (m 1 12)) (upm (vw m 0) 5 ja (nI s)) jv ja) q ≤ q := cntF_le _
        have key : ∀ (r : Nat) (s : Nat) (m2 : MW), s + r = 10 → FrT m m2 → gw xs (WP xs (d + 6)) 89 Q 37 [some (.ref (32)), some (.int (nI (ja))), some (.int (nI (jv))), some (.int (nI (jb))), some (.int (nI (cntF (fun s => moreN (lkF m ln (m 1 11)) (blF m ln (m 1 12)) (upm (vw m 0) 5 ja (nI s)) jv ja) s))), some (.int (nI (s)))] [] (H m2 ln N) 0 0 := by
          intro r
          induction r with
          | zero =>
            intro s m2 hs hF
            obtain rfl : s = 10 := by omega
            refine g_iload m89_37 rfl ?_
            refine g_bipush m89_39 ?_
            refine h_ic_geT (xi := ((10 : Nat) : Int)) (zi := 10) m89_41 (nI_toInt (by omega)) rfl (by omega) ?_
            refine g_iload m89_67 rfl ?_
            refine g_bipush m89_69 ?_
            refine g_cs (args := [.int (nI (cntF (fun s => moreN (lkF m ln (m 1 11)) (blF m ln (m 1 12)) (upm (vw m 0) 5 ja (nI s)) jv ja) 10)), .int (10)]) (rest := []) 0 (Or.inl rfl) m89_71 (Nat.le_of_ble_eq_true rfl) rfl rfl (Nat.le_of_ble_eq_true rfl) ?_
            refine c_commonDivisor (hb10 10) ?_
            have hg1 : 0 < Nat.gcd (cntF (fun s => moreN (lkF m ln (m 1 11)) (blF m ln (m 1 12)) (upm (vw m 0) 5 ja (nI s)) jv ja) 10) 10 := Nat.gcd_pos_of_pos_right _ (by decide)
            have hg2 : Nat.gcd (cntF (fun s => moreN (lkF m ln (m 1 11)) (blF m ln (m 1 12)) (upm (vw m 0) 5 ja (nI s)) jv ja) 10) 10 ≤ 10 := Nat.gcd_le_right _ (by decide)
            refine gwr ?_
            refine g_istore (L2 := [some (.ref (32)), some (.int (nI (ja))), some (.int (nI (jv))), some (.int (nI (jb))), some (.int (nI (cntF (fun s => moreN (lkF m ln (m 1 11)) (blF m ln (m 1 12)) (upm (vw m 0) 5 ja (nI s)) jv ja) 10))), some (.int (nI (Nat.gcd (cntF (fun s => moreN (lkF m ln (m 1 11)) (blF m ln (m 1 12)) (upm (vw m 0) 5 ja (nI s)) jv ja) 10) 10)))]) m89_74 rfl rfl ?_
            refine g_iload_n m89_76 rfl ?_
            refine h_if_ne (xi := ((jb : Nat) : Int)) (zi := 0) m89_77 (nI_toInt (by omega)) rfl (fun c1 => ?_) (fun c1 => ?_)
            · skip
              refine g_iload m89_80 rfl ?_
              refine g_goto m89_82 ?_
              refine g_iload m89_87 rfl ?_
              refine g_idiv (u := nI ((cntF (fun s => moreN (lkF m ln (m 1 11)) (blF m ln (m 1 12)) (upm (vw m 0) 5 ja (nI s)) jv ja) 10) / (Nat.gcd (cntF (fun s => moreN (lkF m ln (m 1 11)) (blF m ln (m 1 12)) (upm (vw m 0) 5 ja (nI s)) jv ja) 10) 10))) m89_89 (nI_ne0 hg1 (by omega)) (pk_div (a := (cntF (fun s => moreN (lkF m ln (m 1 11)) (blF m ln (m 1 12)) (upm (vw m 0) 5 ja (nI s)) jv ja) 10)) (d := (Nat.gcd (cntF (fun s => moreN (lkF m ln (m 1 11)) (blF m ln (m 1 12)) (upm (vw m 0) 5 ja (nI s)) jv ja) 10) 10)) (by have := hb10 10; omega) hg1 (by omega)) ?_
              refine g_iret m89_90 rt_89 ?_
              obtain rfl : jb = 0 := by omega
              exact hY0 ja jv rfl (by omega) rfl (by omega) rfl m2 hF
            · skip
              refine g_bipush m89_85 ?_
              refine g_iload m89_87 rfl ?_
              refine g_idiv (u := nI (10 / (Nat.gcd (cntF (fun s => moreN (lkF m ln (m 1 11)) (blF m ln (m 1 12)) (upm (vw m 0) 5 ja (nI s)) jv ja) 10) 10))) m89_89 (nI_ne0 hg1 (by omega)) (pk_div (a := 10) (d := (Nat.gcd (cntF (fun s => moreN (lkF m ln (m 1 11)) (blF m ln (m 1 12)) (upm (vw m 0) 5 ja (nI s)) jv ja) 10) 10)) (by have := hb10 10; omega) hg1 (by omega)) ?_
              refine g_iret m89_90 rt_89 ?_
              obtain rfl : jb = 1 := by omega
              exact hY1 ja jv rfl (by omega) rfl (by omega) rfl m2 hF
          | succ r ih =>
            intro s m2 hs hF
            refine g_iload m89_37 rfl ?_
            refine g_bipush m89_39 ?_
            refine h_ic_geF (xi := ((s : Nat) : Int)) (zi := 10) m89_41 (nI_toInt (by omega)) rfl (by omega) ?_
            refine g_aload_n m89_44 rfl ?_
            refine h_cv (k := 0) (p := 32) (args := []) (rest := []) m89_45 cn_74 (Nat.le_of_ble_eq_true rfl) rfl rfl rfl (t_0 _ _) (Nat.le_of_ble_eq_true rfl) ?_
            have hd2 : m2 1 10 = nI n := (hF 1 10 (by omega) (fun q => by rcases q with q | q <;> omega)).trans hd
            have h012 : ∀ j, j < 8 → m2 8 j = 0 ∨ m2 8 j = 1 := fun j hj => by rw [hF 8 j (by omega) (fun q => by rcases q with q | q <;> omega)]; exact h01 j hj
            have hL2 := hF.laws hL
            have e11 : m2 1 11 = m 1 11 := hF 1 11 (by omega) (fun q => by rcases q with q | q <;> omega)
            have e12 : m2 1 12 = m 1 12 := hF 1 12 (by omega) (fun q => by rcases q with q | q <;> omega)
            have hL1 : LawsOk (takeM m2 1 0) ln N := tk_l hL2 1 0 (by decide)
            have elk := (tk_lk m2 1 0 (by decide) ln (m 1 11)).trans (hF.lk ln _)
            have ebl := (tk_bl m2 1 0 (by decide) ln (m 1 12)).trans (hF.bl ln _)
            have h80 : Eq8 (vw m 0) (vw (takeM m2 1 0) 1) := Eq8.tr (fun j hj i => congrFun (hF.vw0 (by omega)) i) (take_8 m2 1 0)
            have hW1 : WF (vw (takeM m2 1 0) 1) := WF_c h80 hW
            refine c_think h012 ?_
            refine gwr ?_
            refine g_iload_n m89_48 rfl ?_
            refine g_iload_n m89_49 rfl ?_
            refine g_iload m89_50 rfl ?_
            refine h_cv (k := 10) (p := 42) (args := [.int (nI (ja)), .int (nI (jv)), .int (nI (s))]) (rest := []) m89_52 cn_43 (Nat.le_of_ble_eq_true rfl) rfl rfl rfl (t_10 _ _) (Nat.le_of_ble_eq_true rfl) ?_
            refine c_isFedBy (x := m 1 11) (y := m 1 12) (t := 1) (m0 := takeM m2 1 0) (X := vw (takeM m2 1 0) 1) (s := nI s) (by decide) hL1 (AtX.self _ 1) e11 hix e12 hiy hW1 (by omega) (by omega) ⟨s, by omega, rfl⟩ (fun hm X2 m3 hA => ?_) (fun hm X2 m3 hA => ?_)
            · rw [elk, ebl, moreN_8 (h80.up 5 ja (nI s))] at hm
              have hF3 := hF.tr (FrT.of hA)
              have ec := cnt_y (p := (fun s => moreN (lkF m ln (m 1 11)) (blF m ln (m 1 12)) (upm (vw m 0) 5 ja (nI s)) jv ja)) (q := s) hm
              refine gwr ?_
              refine h_if_eqF (xi := 1) (zi := 0) m89_55 rfl rfl (by decide) ?_
              refine g_iinc (L2 := [some (.ref (32)), some (.int (nI (ja))), some (.int (nI (jv))), some (.int (nI (jb))), some (.int (nI ((cntF (fun s => moreN (lkF m ln (m 1 11)) (blF m ln (m 1 12)) (upm (vw m 0) 5 ja (nI s)) jv ja) s) + 1))), some (.int (nI (s)))]) m89_58 rfl (nI_1 _) rfl rfl ?_
              refine g_iinc (L2 := [some (.ref (32)), some (.int (nI (ja))), some (.int (nI (jv))), some (.int (nI (jb))), some (.int (nI ((cntF (fun s => moreN (lkF m ln (m 1 11)) (blF m ln (m 1 12)) (upm (vw m 0) 5 ja (nI s)) jv ja) s) + 1))), some (.int (nI (s + 1)))]) m89_61 rfl (nI_1 _) rfl rfl ?_
              refine g_goto m89_64 ?_
              have h9 := ih (s + 1) _ (by omega) hF3
              rw [ec] at h9
              exact h9
            · rw [elk, ebl, moreN_8 (h80.up 5 ja (nI s))] at hm
              have hF3 := hF.tr (FrT.of hA)
              have ec := cnt_n (p := (fun s => moreN (lkF m ln (m 1 11)) (blF m ln (m 1 12)) (upm (vw m 0) 5 ja (nI s)) jv ja)) (q := s) hm
              refine gwr ?_
              refine h_if_eqT (xi := 0) (zi := 0) m89_55 rfl rfl (by decide) ?_
              refine g_iinc (L2 := [some (.ref (32)), some (.int (nI (ja))), some (.int (nI (jv))), some (.int (nI (jb))), some (.int (nI (cntF (fun s => moreN (lkF m ln (m 1 11)) (blF m ln (m 1 12)) (upm (vw m 0) 5 ja (nI s)) jv ja) s))), some (.int (nI (s + 1)))]) m89_61 rfl (nI_1 _) rfl rfl ?_
              refine g_goto m89_64 ?_
              have h9 := ih (s + 1) _ (by omega) hF3
              rw [ec] at h9
              exact h9
        exact key 10 0 _ (by omega) FrT.rf
      · skip
        refine gwr ?_
        refine h_if_neT (xi := 0) (zi := 0) m89_22 rfl rfl (by decide) ?_
        refine g_aload_n m89_25 rfl ?_
        refine g_iconst m89_26 ?_
        refine h_cv (k := 0) (p := 32) (args := [.int (1)]) (rest := []) m89_27 cn_55 (Nat.le_of_ble_eq_true rfl) rfl rfl rfl (t_0 _ _) (Nat.le_of_ble_eq_true rfl) ?_
        refine c_error (e := 1) (by decide) (by decide) ?_
        refine gwr ?_
        refine g_iret m89_30 rt_89 ?_
        exact hE1 (by omega)
    · skip
      refine gwr ?_
      refine h_if_eqT (xi := 0) (zi := 0) m89_14 rfl rfl (by decide) ?_
      refine g_aload_n m89_25 rfl ?_
      refine g_iconst m89_26 ?_
      refine h_cv (k := 0) (p := 32) (args := [.int (1)]) (rest := []) m89_27 cn_55 (Nat.le_of_ble_eq_true rfl) rfl rfl rfl (t_0 _ _) (Nat.le_of_ble_eq_true rfl) ?_
      refine c_error (e := 1) (by decide) (by decide) ?_
      refine gwr ?_
      refine g_iret m89_30 rt_89 ?_
      exact hE1 (by omega)
  · skip
    refine gwr ?_
    refine h_if_eqT (xi := 0) (zi := 0) m89_5 rfl rfl (by decide) ?_
    refine g_aload_n m89_25 rfl ?_
    refine g_iconst m89_26 ?_
    refine h_cv (k := 0) (p := 32) (args := [.int (1)]) (rest := []) m89_27 cn_55 (Nat.le_of_ble_eq_true rfl) rfl rfl rfl (t_0 _ _) (Nat.le_of_ble_eq_true rfl) ?_
    refine c_error (e := 1) (by decide) (by decide) ?_
    refine gwr ?_
    refine g_iret m89_30 rt_89 ?_
    exact hE1 (by omega)
end
end
section
/-! WHAT WOULD BE: the class, the rest -/
theorem nx_sl : ∀ l, l < 32 → (((nI l).toUInt32 &&& Int32.toUInt32 31).toBitVec % 32).toNat = l := by decide +kernel
theorem bit_set {a n : Nat} (hn : n ≤ 8) : ((nI a).toUInt32 >>> ((nI n).toUInt32 &&& Int32.toUInt32 31)).toInt32 = 0 → a < 2 ^ 31 → a < 2 ^ n := by
  intro h ha
  rw [pk_ushrN (by omega) (nI n) n (nx_sl n (by omega))] at h
  have h1 : a / 2 ^ n < 2 ^ 31 := Nat.lt_of_le_of_lt (Nat.div_le_self _ _) ha
  have h2 : a / 2 ^ n = 0 := by
    by_cases e : a / 2 ^ n = 0
    · exact e
    · exact absurd h (nI_ne0 (Nat.pos_of_ne_zero e) h1)
  have h3 : 0 < 2 ^ n := Nat.lt_of_lt_of_le (by decide : 0 < 2 ^ 0) (Nat.pow_le_pow_right (by decide) (Nat.zero_le n))
  exact (Nat.div_eq_zero_iff_lt h3).mp h2
def allF (p : Nat → Bool) : Nat → Bool
  | 0 => true
  | n + 1 => allF p n && p n
theorem all_y {p : Nat → Bool} {n : Nat} : allF p n = true ↔ ∀ i, i < n → p i = true := by
  induction n with
  | zero => exact ⟨fun _ i h => absurd h (Nat.not_lt_zero i), fun _ => rfl⟩
  | succ n ih =>
    show (allF p n && p n) = true ↔ _
    rw [Bool.and_eq_true, ih]
    constructor
    · intro h i hi
      by_cases e : i = n
      · subst e
        exact h.2
      · exact h.1 i (by omega)
    · intro h
      exact ⟨fun i hi => h i (by omega), h n (by omega)⟩
section
variable {xs : List Int32} {d : Nat} {h : AH} {Q : QT} {m : MW} {ln : Nat → Nat} {N : Nat}
set_option maxRecDepth 20000 in
set_option maxHeartbeats 40000000 in
theorem x_cramps {a v : Int32} {n : Nat} (hd : m 1 10 = nI n) (hn : n ≤ 8) (h01 : ∀ j, j < 8 → m 8 j = 0 ∨ m 8 j = 1) (hW : WF (vw m 0)) (hL : LawsOk m ln N) (hix : LawIx N (m 1 11)) (hiy : LawIx N (m 1 12)) (hE1 : (a.toInt < 0 ∨ (n : Int) ≤ a.toInt ∨ v.toInt < 0 ∨ 60 < v.toInt) → Q (some (.int (-1000000000 - nI 1))) (H (erm m 1) ln N)) (hY : ∀ i k : Nat, a = nI i → i < n → v = nI k → k ≤ 60 → ∀ m2, FrT m m2 → Q (some (.int (nI (cntF (fun q => decide (50 ≤ (stepN (lkF m ln (m 1 11)) (blF m ln (m 1 12)) (vw m 0) (q + 1) 4 i).toInt)) k)))) (H m2 ln N)) : WP xs (d + 7) 85 0 0 [.ref (32), .int (a), .int (v)] (H m ln N) Q := by
  refine wp_x mx_85 (L := [some (.ref (32)), some (.int (a)), some (.int (v)), none, none, none]) (Nat.le_of_ble_eq_true rfl) rfl ?_
  refine g_aload_n m85_0 rfl ?_
  refine g_iload_n m85_1 rfl ?_
  refine h_cv (k := 0) (p := 32) (args := [.int (a)]) (rest := []) m85_2 cn_60 (Nat.le_of_ble_eq_true rfl) rfl rfl rfl (t_0 _ _) (Nat.le_of_ble_eq_true rfl) ?_
  refine c_isDiner hd hn (fun ja ea a_1 => ?_) (fun a_1 => ?_)
  · subst ea
    refine gwr ?_
    refine h_if_eqF (xi := 1) (zi := 0) m85_5 rfl rfl (by decide) ?_
    refine g_iload_n m85_8 rfl ?_
    refine g_bipush m85_9 ?_
    refine g_cs (args := [.int (v), .int (60)]) (rest := []) 0 (Or.inl rfl) m85_11 (Nat.le_of_ble_eq_true rfl) rfl rfl (Nat.le_of_ble_eq_true rfl) ?_
    refine c_within (M := 60) rfl (fun jv ev a_2 => ?_) (fun a_2 => ?_)
    · subst ev
      refine gwr ?_
      refine h_if_neF (xi := 1) (zi := 0) m85_14 rfl rfl (by decide) ?_
      refine g_aload_n m85_23 rfl ?_
      refine h_cv (k := 0) (p := 32) (args := []) (rest := []) m85_24 cn_74 (Nat.le_of_ble_eq_true rfl) rfl rfl rfl (t_0 _ _) (Nat.le_of_ble_eq_true rfl) ?_
      refine c_think h01 ?_
      have hL1 : LawsOk (takeM m 1 0) ln N := tk_l hL 1 0 (by decide)
      have elk := tk_lk m 1 0 (by decide) ln (m 1 11)
      have ebl := tk_bl m 1 0 (by decide) ln (m 1 12)
      have h80 := take_8 m 1 0
      have hW1 : WF (vw (takeM m 1 0) 1) := WF_c h80 hW
      refine gwr ?_
      refine g_astore_n (L2 := [some (.ref (32)), some (.int (nI (ja))), some (.int (nI (jv))), some (.ref (42)), none, none]) m85_27 rfl rfl ?_
      refine g_iconst m85_28 ?_
      refine g_istore (L2 := [some (.ref (32)), some (.int (nI (ja))), some (.int (nI (jv))), some (.ref (42)), some (.int (0)), none]) m85_29 rfl rfl ?_
      refine g_iconst m85_31 ?_
      refine g_istore (L2 := [some (.ref (32)), some (.int (nI (ja))), some (.int (nI (jv))), some (.ref (42)), some (.int (0)), some (.int (0))]) m85_32 rfl rfl ?_
      have key : ∀ (r : Nat) (q : Nat) (m2 X2 : MW), q + r = jv → Eq8 (stepN (lkF m ln (m 1 11)) (blF m ln (m 1 12)) (vw m 0) q) X2 → AtX (takeM m 1 0) 1 X2 m2 → gw xs (WP xs (d + 6)) 85 Q 34 [some (.ref (32)), some (.int (nI (ja))), some (.int (nI (jv))), some (.ref (42)), some (.int (nI (cntF (fun q => decide (50 ≤ (stepN (lkF m ln (m 1 11)) (blF m ln (m 1 12)) (vw m 0) (q + 1) 4 ja).toInt)) q))), some (.int (nI (q)))] [] (H m2 ln N) 0 0 := by
        intro r
        induction r with
        | zero =>
          intro q m2 X2 hq h8 hA
          obtain rfl : q = jv := by omega
          refine g_iload m85_34 rfl ?_
          refine g_iload_n m85_36 rfl ?_
          refine h_ic_geT (xi := ((q : Nat) : Int)) (zi := ((q : Nat) : Int)) m85_37 (nI_toInt (by omega)) (nI_toInt (by omega)) (by omega) ?_
          refine g_iload m85_65 rfl ?_
          refine g_iret m85_67 rt_85 ?_
          exact hY ja q rfl (by omega) rfl (by omega) m2 (FrT.of hA)
        | succ r ih =>
          intro q m2 X2 hq h8 hA
          refine g_iload m85_34 rfl ?_
          refine g_iload_n m85_36 rfl ?_
          refine h_ic_geF (xi := ((q : Nat) : Int)) (zi := ((jv : Nat) : Int)) m85_37 (nI_toInt (by omega)) (nI_toInt (by omega)) (by omega) ?_
          refine g_aload_n m85_40 rfl ?_
          refine h_cv (k := 10) (p := 42) (args := []) (rest := []) m85_41 cn_40 (Nat.le_of_ble_eq_true rfl) rfl rfl rfl (t_10 _ _) (Nat.le_of_ble_eq_true rfl) ?_
          refine c_serveStep (x := m 1 11) (y := m 1 12) (t := 1) (by decide) hL1 hA ((h8 0 (by decide) 11).trans (stepN_0 _ _ _ (by decide) q)) hix ((h8 0 (by decide) 12).trans (stepN_0 _ _ _ (by decide) q)) hiy (WF_c h8 (WF_stepN hW q)) (fun X3 m3 e8 hA3 => ?_)
          rw [elk, ebl] at e8
          have h83 : Eq8 (stepN (lkF m ln (m 1 11)) (blF m ln (m 1 12)) (vw m 0) (q + 1)) X3 := (stepF_8 h8).tr e8
          refine gwr ?_
          refine g_pop m85_44 rfl ?_
          refine g_aload_n m85_45 rfl ?_
          refine h_gfR (c := 46) (k := 10) (p := 42) m85_46 rfl (t_10 _ _) rfl (Nat.le_of_ble_eq_true rfl) ?_
          refine g_iload_n m85_49 rfl ?_
          refine h_ial (k := 14) (p := 46) (j := ja) m85_50 rfl (t_14 _ _) (rfl) (by omega) (Nat.le_of_ble_eq_true rfl) ((hA3.rd (by decide) (j := 4) (i := ja) (by decide)).trans (h83 4 (by decide) ja)) ?_
          refine g_bipush m85_51 ?_
          refine h_ic_lt (xi := _) (zi := 50) m85_53 rfl rfl (fun c1 => ?_) (fun c1 => ?_)
          · skip
            refine g_iinc (L2 := [some (.ref (32)), some (.int (nI (ja))), some (.int (nI (jv))), some (.ref (42)), some (.int (nI (cntF (fun q => decide (50 ≤ (stepN (lkF m ln (m 1 11)) (blF m ln (m 1 12)) (vw m 0) (q + 1) 4 ja).toInt)) q))), some (.int (nI (q + 1)))]) m85_59 rfl (nI_1 _) rfl rfl ?_
            refine g_goto m85_62 ?_
            have ec := cnt_n (p := (fun q => decide (50 ≤ (stepN (lkF m ln (m 1 11)) (blF m ln (m 1 12)) (vw m 0) (q + 1) 4 ja).toInt))) (q := q) (by rw [decide_eq_true_eq]; omega)
            have h9 := ih (q + 1) _ _ (by omega) h83 hA3
            rw [ec] at h9
            exact h9
          · skip
            refine g_iinc (L2 := [some (.ref (32)), some (.int (nI (ja))), some (.int (nI (jv))), some (.ref (42)), some (.int (nI ((cntF (fun q => decide (50 ≤ (stepN (lkF m ln (m 1 11)) (blF m ln (m 1 12)) (vw m 0) (q + 1) 4 ja).toInt)) q) + 1))), some (.int (nI (q)))]) m85_56 rfl (nI_1 _) rfl rfl ?_
            refine g_iinc (L2 := [some (.ref (32)), some (.int (nI (ja))), some (.int (nI (jv))), some (.ref (42)), some (.int (nI ((cntF (fun q => decide (50 ≤ (stepN (lkF m ln (m 1 11)) (blF m ln (m 1 12)) (vw m 0) (q + 1) 4 ja).toInt)) q) + 1))), some (.int (nI (q + 1)))]) m85_59 rfl (nI_1 _) rfl rfl ?_
            refine g_goto m85_62 ?_
            have ec := cnt_y (p := (fun q => decide (50 ≤ (stepN (lkF m ln (m 1 11)) (blF m ln (m 1 12)) (vw m 0) (q + 1) 4 ja).toInt))) (q := q) (decide_eq_true (by omega))
            have h9 := ih (q + 1) _ _ (by omega) h83 hA3
            rw [ec] at h9
            exact h9
      exact key jv 0 _ _ (by omega) h80 (AtX.self _ 1)
    · skip
      refine gwr ?_
      refine h_if_neT (xi := 0) (zi := 0) m85_14 rfl rfl (by decide) ?_
      refine g_aload_n m85_17 rfl ?_
      refine g_iconst m85_18 ?_
      refine h_cv (k := 0) (p := 32) (args := [.int (1)]) (rest := []) m85_19 cn_55 (Nat.le_of_ble_eq_true rfl) rfl rfl rfl (t_0 _ _) (Nat.le_of_ble_eq_true rfl) ?_
      refine c_error (e := 1) (by decide) (by decide) ?_
      refine gwr ?_
      refine g_iret m85_22 rt_85 ?_
      exact hE1 (by omega)
  · skip
    refine gwr ?_
    refine h_if_eqT (xi := 0) (zi := 0) m85_5 rfl rfl (by decide) ?_
    refine g_aload_n m85_17 rfl ?_
    refine g_iconst m85_18 ?_
    refine h_cv (k := 0) (p := 32) (args := [.int (1)]) (rest := []) m85_19 cn_55 (Nat.le_of_ble_eq_true rfl) rfl rfl rfl (t_0 _ _) (Nat.le_of_ble_eq_true rfl) ?_
    refine c_error (e := 1) (by decide) (by decide) ?_
    refine gwr ?_
    refine g_iret m85_22 rt_85 ?_
    exact hE1 (by omega)
set_option maxRecDepth 20000 in
set_option maxHeartbeats 40000000 in
theorem c_greatestHunger {t n : Nat} {m0 X : MW} (ht : t < 4) (hA : AtX m0 t X m) (hn : n ≤ 8) (hd : X 0 10 = nI n) (hQ : ∀ w : Int32, w.toInt = maxF (X 4) n → Q (some (.int w)) (H m ln N)) : WP xs (d + 1) 46 0 0 [.ref (33 + 9 * t)] (H m ln N) Q := by
  refine wp_x mx_46 (L := [some (.ref (33 + 9 * t)), none, none]) (Nat.le_of_ble_eq_true rfl) rfl ?_
  have key : ∀ (r : Nat) (q : Nat) (w : Int32), q + r = n → w.toInt = maxF (X 4) q → gw xs (WP xs (d)) 46 Q 4 [some (.ref (33 + 9 * t)), some (.int (w)), some (.int (nI (q)))] [] (H m ln N) 0 0 := by
    intro r
    induction r with
    | zero =>
      intro q w hq hw
      obtain rfl : q = n := by omega
      refine g_iload_n m46_4 rfl ?_
      refine g_aload_n m46_5 rfl ?_
      refine h_gfI (k := 1 + 9 * t) (p := 33 + 9 * t) m46_6 (pT 1 _) (tT ht) rfl ((hA.rd ht (j := 0) (i := 10) (by decide)).trans (hd)) ?_
      refine h_ic_geT (xi := ((q : Nat) : Int)) (zi := ((q : Nat) : Int)) m46_9 (nI_toInt (by omega)) (nI_toInt (by omega)) (by omega) ?_
      refine g_iload_n m46_29 rfl ?_
      refine g_iret m46_30 rt_46 ?_
      exact hQ w hw
    | succ r ih =>
      intro q w hq hw
      refine g_iload_n m46_4 rfl ?_
      refine g_aload_n m46_5 rfl ?_
      refine h_gfI (k := 1 + 9 * t) (p := 33 + 9 * t) m46_6 (pT 1 _) (tT ht) rfl ((hA.rd ht (j := 0) (i := 10) (by decide)).trans (hd)) ?_
      refine h_ic_geF (xi := ((q : Nat) : Int)) (zi := ((n : Nat) : Int)) m46_9 (nI_toInt (by omega)) (nI_toInt (by omega)) (by omega) ?_
      refine g_iload_n m46_12 rfl ?_
      refine g_aload_n m46_13 rfl ?_
      refine h_gfR (c := 37 + 9 * t) (k := 1 + 9 * t) (p := 33 + 9 * t) m46_14 (pT 1 _) (tT ht) rfl (le3 (Nat.le_of_ble_eq_true rfl)) ?_
      refine g_iload_n m46_17 rfl ?_
      refine h_ial (k := 5 + 9 * t) (p := 37 + 9 * t) (j := q) m46_18 (pT 5 _) (tA4 ht) (rfl) (by omega) (Nat.le_of_ble_eq_true rfl) (hA.rd ht (j := 4) (i := q) (by decide)) ?_
      refine g_max m46_19 (Nat.le_of_ble_eq_true rfl) rfl ?_
      refine g_istore_n (L2 := [some (.ref (33 + 9 * t)), some (.int _), some (.int (nI (q)))]) m46_22 rfl rfl ?_
      refine g_iinc (L2 := [some (.ref (33 + 9 * t)), some (.int _), some (.int (nI (q + 1)))]) m46_23 rfl (nI_1 _) rfl rfl ?_
      refine g_goto m46_26 ?_
      refine ih (q + 1) _ (by omega) ?_
      show Int32.toInt (if w < X 4 q then X 4 q else w) = max (maxF (X 4) q) (X 4 q).toInt
      by_cases hlt : w < X 4 q
      · rw [if_pos hlt]
        have := (lt_k rfl rfl).mp hlt
        omega
      · rw [if_neg hlt]
        have : ¬ w.toInt < (X 4 q).toInt := fun z => hlt ((lt_k rfl rfl).mpr z)
        omega
  refine g_iconst m46_0 ?_
  refine g_istore_n (L2 := [some (.ref (33 + 9 * t)), some (.int (0)), none]) m46_1 rfl rfl ?_
  refine g_iconst m46_2 ?_
  refine g_istore_n (L2 := [some (.ref (33 + 9 * t)), some (.int (0)), some (.int (0))]) m46_3 rfl rfl ?_
  exact key n 0 0 (by omega) rfl
theorem WF_w {X : MW} {w : Nat} (h : WF X) (h1 : 1 ≤ w) (h4 : w ≤ 4) : WF (upm X 0 8 (nI w)) := by
  refine ⟨?_, ⟨w, h1, h4, upm_self _ _ _ _⟩, fun k hk => ?_⟩
  · rw [upm_j _ _ (by decide)]
    exact h.1
  · have e : ∀ j k, j ≠ 0 → upm X 0 8 (nI w) j k = X j k := fun j k h => upm_k _ _ h
    rw [e 1 k (by decide), e 2 k (by decide), e 3 k (by decide), e 4 k (by decide), e 5 k (by decide), e 6 k (by decide), e 7 k (by decide)]
    exact h.2.2 k hk
set_option maxRecDepth 20000 in
set_option maxHeartbeats 40000000 in
theorem x_enough {v b : Int32} {n : Nat} (hd : m 1 10 = nI n) (hn : n ≤ 8) (h01 : ∀ j, j < 8 → m 8 j = 0 ∨ m 8 j = 1) (hW : WF (vw m 0)) (hL : LawsOk m ln N) (hix : LawIx N (m 1 11)) (hiy : LawIx N (m 1 12)) (hE1 : (v.toInt < 1 ∨ 99 < v.toInt ∨ b.toInt < 0 ∨ 60 < b.toInt) → Q (some (.int (-1000000000 - nI 1))) (H (erm m 1) ln N)) (hE2 : ∀ k : Nat, b = nI k → k ≤ 60 → 1 ≤ v.toInt → v.toInt ≤ 99 → leastF (fun w => allF (fun i => decide ((stepN (lkF m ln (m 1 11)) (blF m ln (m 1 12)) (upm (vw m 0) 0 8 (nI w)) k 4 i).toInt < v.toInt)) n) 4 1 = none → ∀ m2, FrT m m2 → Q (some (.int (-1000000000 - nI 2))) (H (erm m2 2) ln N)) (hY : ∀ k w : Nat, b = nI k → k ≤ 60 → 1 ≤ v.toInt → v.toInt ≤ 99 → leastF (fun w => allF (fun i => decide ((stepN (lkF m ln (m 1 11)) (blF m ln (m 1 12)) (upm (vw m 0) 0 8 (nI w)) k 4 i).toInt < v.toInt)) n) 4 1 = some w → ∀ m2, FrT m m2 → Q (some (.int (nI w))) (H m2 ln N)) : WP xs (d + 7) 86 0 0 [.ref (32), .int (v), .int (b)] (H m ln N) Q := by
  refine wp_x mx_86 (L := [some (.ref (32)), some (.int (v)), some (.int (b)), none, none]) (Nat.le_of_ble_eq_true rfl) rfl ?_
  refine g_iload_n m86_0 rfl ?_
  refine g_iconst m86_1 ?_
  refine h_ic_lt (xi := v.toInt) (zi := 1) m86_2 rfl rfl (fun c1 => ?_) (fun c1 => ?_)
  · skip
    refine g_aload_n m86_20 rfl ?_
    refine g_iconst m86_21 ?_
    refine h_cv (k := 0) (p := 32) (args := [.int (1)]) (rest := []) m86_22 cn_55 (Nat.le_of_ble_eq_true rfl) rfl rfl rfl (t_0 _ _) (Nat.le_of_ble_eq_true rfl) ?_
    refine c_error (e := 1) (by decide) (by decide) ?_
    refine gwr ?_
    refine g_iret m86_25 rt_86 ?_
    exact hE1 (by omega)
  · skip
    refine g_iload_n m86_5 rfl ?_
    refine g_bipush m86_6 ?_
    refine h_ic_gt (xi := v.toInt) (zi := 99) m86_8 rfl rfl (fun c2 => ?_) (fun c2 => ?_)
    · skip
      refine g_aload_n m86_20 rfl ?_
      refine g_iconst m86_21 ?_
      refine h_cv (k := 0) (p := 32) (args := [.int (1)]) (rest := []) m86_22 cn_55 (Nat.le_of_ble_eq_true rfl) rfl rfl rfl (t_0 _ _) (Nat.le_of_ble_eq_true rfl) ?_
      refine c_error (e := 1) (by decide) (by decide) ?_
      refine gwr ?_
      refine g_iret m86_25 rt_86 ?_
      exact hE1 (by omega)
    · skip
      refine g_iload_n m86_11 rfl ?_
      refine g_bipush m86_12 ?_
      refine g_cs (args := [.int (b), .int (60)]) (rest := []) 0 (Or.inl rfl) m86_14 (Nat.le_of_ble_eq_true rfl) rfl rfl (Nat.le_of_ble_eq_true rfl) ?_
      refine c_within (M := 60) rfl (fun jb eb a_3 => ?_) (fun a_3 => ?_)
      · subst eb
        refine gwr ?_
        refine h_if_neF (xi := 1) (zi := 0) m86_17 rfl rfl (by decide) ?_
        refine g_iconst m86_26 ?_
        refine g_istore_n (L2 := [some (.ref (32)), some (.int (v)), some (.int (nI (jb))), some (.int (1)), none]) m86_27 rfl rfl ?_
        have key : ∀ (r : Nat) (w : Nat) (o4 : Option Value) (m2 : MW), w + r = 5 → 1 ≤ w → FrT m m2 → leastF (fun w => allF (fun i => decide ((stepN (lkF m ln (m 1 11)) (blF m ln (m 1 12)) (upm (vw m 0) 0 8 (nI w)) jb 4 i).toInt < v.toInt)) n) r w = leastF (fun w => allF (fun i => decide ((stepN (lkF m ln (m 1 11)) (blF m ln (m 1 12)) (upm (vw m 0) 0 8 (nI w)) jb 4 i).toInt < v.toInt)) n) 4 1 → gw xs (WP xs (d + 6)) 86 Q 28 [some (.ref (32)), some (.int (v)), some (.int (nI (jb))), some (.int (nI (w))), o4] [] (H m2 ln N) 0 0 := by
          intro r
          induction r with
          | zero =>
            intro w o4 m2 hw hw1 hF hfin
            obtain rfl : w = 5 := by omega
            refine g_iload_n m86_28 rfl ?_
            refine g_iconst m86_29 ?_
            refine h_ic_gtT (xi := ((5 : Nat) : Int)) (zi := 4) m86_30 (nI_toInt (by omega)) rfl (by omega) ?_
            refine g_aload_n m86_68 rfl ?_
            refine g_iconst m86_69 ?_
            refine h_cv (k := 0) (p := 32) (args := [.int (2)]) (rest := []) m86_70 cn_55 (Nat.le_of_ble_eq_true rfl) rfl rfl rfl (t_0 _ _) (Nat.le_of_ble_eq_true rfl) ?_
            refine c_error (e := 2) (by decide) (by decide) ?_
            refine gwr ?_
            refine g_iret m86_73 rt_86 ?_
            exact hE2 jb rfl (by omega) (by omega) (by omega) hfin.symm m2 hF
          | succ r ih =>
            intro w o4 m2 hw hw1 hF hfin
            refine g_iload_n m86_28 rfl ?_
            refine g_iconst m86_29 ?_
            refine h_ic_gtF (xi := ((w : Nat) : Int)) (zi := 4) m86_30 (nI_toInt (by omega)) rfl (by omega) ?_
            refine g_aload_n m86_33 rfl ?_
            refine h_cv (k := 0) (p := 32) (args := []) (rest := []) m86_34 cn_74 (Nat.le_of_ble_eq_true rfl) rfl rfl rfl (t_0 _ _) (Nat.le_of_ble_eq_true rfl) ?_
            have hd2 : m2 1 10 = nI n := (hF 1 10 (by omega) (fun q => by rcases q with q | q <;> omega)).trans hd
            have h012 : ∀ j, j < 8 → m2 8 j = 0 ∨ m2 8 j = 1 := fun j hj => by rw [hF 8 j (by omega) (fun q => by rcases q with q | q <;> omega)]; exact h01 j hj
            have hL2 := hF.laws hL
            have e11 : m2 1 11 = m 1 11 := hF 1 11 (by omega) (fun q => by rcases q with q | q <;> omega)
            have e12 : m2 1 12 = m 1 12 := hF 1 12 (by omega) (fun q => by rcases q with q | q <;> omega)
            have hL1 : LawsOk (takeM m2 1 0) ln N := tk_l hL2 1 0 (by decide)
            have elk := (tk_lk m2 1 0 (by decide) ln (m 1 11)).trans (hF.lk ln _)
            have ebl := (tk_bl m2 1 0 (by decide) ln (m 1 12)).trans (hF.bl ln _)
            have h80 : Eq8 (vw m 0) (vw (takeM m2 1 0) 1) := Eq8.tr (fun j hj i => congrFun (hF.vw0 (by omega)) i) (take_8 m2 1 0)
            have hW1 : WF (vw (takeM m2 1 0) 1) := WF_c h80 hW
            refine c_think h012 ?_
            have hAw := (AtX.self (takeM m2 1 0) 1).up (by decide) (j := 0) (by decide) 8 (nI w)
            have h8w : Eq8 (upm (vw m 0) 0 8 (nI w)) (upm (vw (takeM m2 1 0) 1) 0 8 (nI w)) := h80.up 0 8 (nI w)
            have hWw : WF (upm (vw m 0) 0 8 (nI w)) := WF_w hW (by omega) (by omega)
            refine gwr ?_
            refine g_astore (L2 := [some (.ref (32)), some (.int (v)), some (.int (nI (jb))), some (.int (nI (w))), some (.ref (42))]) m86_37 rfl rfl ?_
            refine g_aload m86_39 rfl ?_
            refine g_iload_n m86_41 rfl ?_
            refine h_pfI (k := 10) (p := 42) m86_42 rfl (t_10 _ _) rfl trivial ?_
            refine g_aload m86_45 rfl ?_
            refine g_iload_n m86_47 rfl ?_
            refine h_cv (k := 10) (p := 42) (args := [.int (nI (jb))]) (rest := []) m86_48 cn_41 (Nat.le_of_ble_eq_true rfl) rfl rfl rfl (t_10 _ _) (Nat.le_of_ble_eq_true rfl) ?_
            refine c_goOn (n := jb) (x := m 1 11) (y := m 1 12) (t := 1) (m0 := takeM m2 1 0) (by decide) hL1 hAw e11 hix e12 hiy (WF_c h8w hWw) (by omega) (fun X2 m3 h8 hA => ?_)
            rw [elk, ebl] at h8
            have h83 := (stepN_8 (LK := (lkF m ln (m 1 11))) (BL := (blF m ln (m 1 12))) h8w jb).tr h8
            have hF3 := hF.tr (FrT.of hA)
            refine gwr0 ?_
            refine g_aload m86_51 rfl ?_
            refine h_cv (k := 10) (p := 42) (args := []) (rest := []) m86_53 cn_46 (Nat.le_of_ble_eq_true rfl) rfl rfl rfl (t_10 _ _) (Nat.le_of_ble_eq_true rfl) ?_
            refine c_greatestHunger (t := 1) (by decide) hA hn ((h83 0 (by decide) 10).trans ((stepN_0 _ _ _ (by decide) jb).trans hd)) (fun z hz => ?_)
            have hiff := maxF_lt (w := X2 4) (v := v.toInt) (by omega) n
            refine gwr ?_
            refine g_iload_n m86_56 rfl ?_
            refine h_ic_ge (xi := maxF (X2 4) n) (zi := v.toInt) m86_57 hz rfl (fun c3 => ?_) (fun c3 => ?_)
            · skip
              refine g_iinc (L2 := [some (.ref (32)), some (.int (v)), some (.int (nI (jb))), some (.int (nI (w + 1))), some (.ref (42))]) m86_62 rfl (nI_1 _) rfl rfl ?_
              refine g_goto m86_65 ?_
              have hm : ¬ (fun w => allF (fun i => decide ((stepN (lkF m ln (m 1 11)) (blF m ln (m 1 12)) (upm (vw m 0) 0 8 (nI w)) jb 4 i).toInt < v.toInt)) n) w = true := by
                intro h
                have h4 := all_y.mp h
                exact absurd (hiff.mpr (fun i hi => by rw [h83 4 (by decide)]; exact of_decide_eq_true (h4 i hi))) (by omega)
              rw [least_n (p := (fun w => allF (fun i => decide ((stepN (lkF m ln (m 1 11)) (blF m ln (m 1 12)) (upm (vw m 0) 0 8 (nI w)) jb 4 i).toInt < v.toInt)) n)) (s := w) hm] at hfin
              exact ih (w + 1) _ _ (by omega) (by omega) hF3 hfin
            · skip
              refine g_iload_n m86_60 rfl ?_
              refine g_iret m86_61 rt_86 ?_
              have hm : (fun w => allF (fun i => decide ((stepN (lkF m ln (m 1 11)) (blF m ln (m 1 12)) (upm (vw m 0) 0 8 (nI w)) jb 4 i).toInt < v.toInt)) n) w = true := all_y.mpr (fun i hi => decide_eq_true (by have := hiff.mp (by omega) i hi; rw [h83 4 (by decide)] at this; exact this))
              rw [least_y (p := (fun w => allF (fun i => decide ((stepN (lkF m ln (m 1 11)) (blF m ln (m 1 12)) (upm (vw m 0) 0 8 (nI w)) jb 4 i).toInt < v.toInt)) n)) (s := w) hm] at hfin
              exact hY jb w rfl (by omega) (by omega) (by omega) hfin.symm m3 hF3
        exact key 4 1 _ _ (by omega) (by omega) FrT.rf rfl
      · skip
        refine gwr ?_
        refine h_if_neT (xi := 0) (zi := 0) m86_17 rfl rfl (by decide) ?_
        refine g_aload_n m86_20 rfl ?_
        refine g_iconst m86_21 ?_
        refine h_cv (k := 0) (p := 32) (args := [.int (1)]) (rest := []) m86_22 cn_55 (Nat.le_of_ble_eq_true rfl) rfl rfl rfl (t_0 _ _) (Nat.le_of_ble_eq_true rfl) ?_
        refine c_error (e := 1) (by decide) (by decide) ?_
        refine gwr ?_
        refine g_iret m86_25 rt_86 ?_
        exact hE1 (by omega)
set_option maxRecDepth 20000 in
set_option maxHeartbeats 40000000 in
theorem x_check {n w : Nat} (hd : m 1 10 = nI n) (hn : n ≤ 8) (h01 : ∀ j, j < 8 → m 8 j = 0 ∨ m 8 j = 1) (hW : WF (vw m 0)) (hL : LawsOk m ln N) (hix : LawIx N (m 1 11)) (hiy : LawIx N (m 1 12)) (hw : m 37 4 = nI w) (hw2 : w ≤ 20) (hN : leastF (fun q => !(decide ((sumF (stepN (lkF m ln (m 1 11)) (blF m ln (m 1 12)) (vw m 0) (q + 1) 4) n).toInt = (m 39 q).toInt))) w 0 = none → ∀ m2, FrT (upm m 37 4 0) m2 → Q (some (.int 0)) (H m2 ln N)) (hY : ∀ q : Nat, leastF (fun q => !(decide ((sumF (stepN (lkF m ln (m 1 11)) (blF m ln (m 1 12)) (vw m 0) (q + 1) 4) n).toInt = (m 39 q).toInt))) w 0 = some q → q < w → ∀ m2, FrT (upm m 37 4 0) m2 → Q (some (.int (nI (1 + q)))) (H m2 ln N)) : WP xs (d + 7) 103 0 0 [.ref (32)] (H m ln N) Q := by
  refine wp_x mx_103 (L := [some (.ref (32)), none, none, none]) (Nat.le_of_ble_eq_true rfl) rfl ?_
  refine g_aload_n m103_0 rfl ?_
  refine h_gfR (c := 69) (k := 0) (p := 32) m103_1 rfl (t_0 _ _) rfl (Nat.le_of_ble_eq_true rfl) ?_
  refine h_gfI (k := 37) (p := 69) m103_4 rfl (t_37 _ _) rfl (hw) ?_
  refine g_istore_n (L2 := [some (.ref (32)), some (.int (nI (w))), none, none]) m103_7 rfl rfl ?_
  refine g_aload_n m103_8 rfl ?_
  refine h_gfR (c := 69) (k := 0) (p := 32) m103_9 rfl (t_0 _ _) rfl (Nat.le_of_ble_eq_true rfl) ?_
  refine g_iconst m103_12 ?_
  refine h_pfI (k := 37) (p := 69) m103_13 rfl (t_37 _ _) rfl trivial ?_
  refine g_aload_n m103_16 rfl ?_
  refine h_cv (k := 0) (p := 32) (args := []) (rest := []) m103_17 cn_74 (Nat.le_of_ble_eq_true rfl) rfl rfl rfl (t_0 _ _) (Nat.le_of_ble_eq_true rfl) ?_
  have hFm : ∀ k, k ≠ 37 → (upm m 37 4 0) k = m k := fun k h => row_up m _ h
  have hcd : codL (upm m 37 4 0) ln = codL m ln := by
    funext i
    unfold codL
    rw [hFm _ (by omega)]
  have hvw : vw (upm m 37 4 0) 0 = vw m 0 ∨ True := Or.inr trivial
  have hLm : LawsOk (upm m 37 4 0) ln N := ⟨hL.1, fun i hi => by rw [hcd]; exact hL.2 i hi⟩
  have hL1 : LawsOk (takeM (upm m 37 4 0) 1 0) ln N := tk_l hLm 1 0 (by decide)
  have elk : lkF (takeM (upm m 37 4 0) 1 0) ln (m 1 11) = (lkF m ln (m 1 11)) := (tk_lk _ 1 0 (by decide) ln (m 1 11)).trans (by rw [lkC_e, lkC_e, hcd])
  have ebl : blF (takeM (upm m 37 4 0) 1 0) ln (m 1 12) = (blF m ln (m 1 12)) := (tk_bl _ 1 0 (by decide) ln (m 1 12)).trans (by rw [blC_e, blC_e, hcd])
  have h80 : Eq8 (vw m 0) (vw (takeM (upm m 37 4 0) 1 0) 1) := Eq8.tr (fun j hj i => congrFun (hFm _ (by omega)) i) (take_8 (upm m 37 4 0) 1 0)
  refine c_think (fun j hj => h01 j hj) ?_
  refine gwr ?_
  refine g_astore_n (L2 := [some (.ref (32)), some (.int (nI (w))), some (.ref (42)), none]) m103_20 rfl rfl ?_
  refine g_iconst m103_21 ?_
  refine g_istore_n (L2 := [some (.ref (32)), some (.int (nI (w))), some (.ref (42)), some (.int (0))]) m103_22 rfl rfl ?_
  have key : ∀ (r : Nat) (q : Nat) (m2 X2 : MW), q + r = w → Eq8 (stepN (lkF m ln (m 1 11)) (blF m ln (m 1 12)) (vw m 0) q) X2 → AtX (takeM (upm m 37 4 0) 1 0) 1 X2 m2 → leastF (fun q => !(decide ((sumF (stepN (lkF m ln (m 1 11)) (blF m ln (m 1 12)) (vw m 0) (q + 1) 4) n).toInt = (m 39 q).toInt))) r q = leastF (fun q => !(decide ((sumF (stepN (lkF m ln (m 1 11)) (blF m ln (m 1 12)) (vw m 0) (q + 1) 4) n).toInt = (m 39 q).toInt))) w 0 → gw xs (WP xs (d + 6)) 103 Q 23 [some (.ref (32)), some (.int (nI (w))), some (.ref (42)), some (.int (nI (q)))] [] (H m2 ln N) 0 0 := by
    intro r
    induction r with
    | zero =>
      intro q m2 X2 hq h8 hA hfin
      obtain rfl : q = w := by omega
      refine g_iload_n m103_23 rfl ?_
      refine g_iload_n m103_24 rfl ?_
      refine h_ic_geT (xi := ((q : Nat) : Int)) (zi := ((q : Nat) : Int)) m103_25 (nI_toInt (by omega)) (nI_toInt (by omega)) (by omega) ?_
      refine g_iconst m103_59 ?_
      refine g_iret m103_60 rt_103 ?_
      exact hN hfin.symm m2 (FrT.of hA)
    | succ r ih =>
      intro q m2 X2 hq h8 hA hfin
      refine g_iload_n m103_23 rfl ?_
      refine g_iload_n m103_24 rfl ?_
      refine h_ic_geF (xi := ((q : Nat) : Int)) (zi := ((w : Nat) : Int)) m103_25 (nI_toInt (by omega)) (nI_toInt (by omega)) (by omega) ?_
      refine g_aload_n m103_28 rfl ?_
      refine h_cv (k := 10) (p := 42) (args := []) (rest := []) m103_29 cn_40 (Nat.le_of_ble_eq_true rfl) rfl rfl rfl (t_10 _ _) (Nat.le_of_ble_eq_true rfl) ?_
      refine c_serveStep (x := m 1 11) (y := m 1 12) (t := 1) (by decide) hL1 hA ((h8 0 (by decide) 11).trans (stepN_0 _ _ _ (by decide) q)) hix ((h8 0 (by decide) 12).trans (stepN_0 _ _ _ (by decide) q)) hiy (WF_c h8 (WF_stepN hW q)) (fun X3 m3 e8 hA3 => ?_)
      rw [elk, ebl] at e8
      have h83 : Eq8 (stepN (lkF m ln (m 1 11)) (blF m ln (m 1 12)) (vw m 0) (q + 1)) X3 := (stepF_8 h8).tr e8
      have e39 : m3 39 q = m 39 q := (FrT.of hA3) 39 q (by omega) (fun z => by rcases z with z | z <;> omega)
      refine gwr ?_
      refine g_pop m103_32 rfl ?_
      refine g_aload_n m103_33 rfl ?_
      refine h_cv (k := 10) (p := 42) (args := []) (rest := []) m103_34 cn_45 (Nat.le_of_ble_eq_true rfl) rfl rfl rfl (t_10 _ _) (Nat.le_of_ble_eq_true rfl) ?_
      refine c_hungerOfAll (t := 1) (by decide) hA3 hn ((h83 0 (by decide) 10).trans ((stepN_0 _ _ _ (by decide) (q + 1)).trans hd)) ?_
      rw [show X3 4 = stepN (lkF m ln (m 1 11)) (blF m ln (m 1 12)) (vw m 0) (q + 1) 4 from funext (h83 4 (by decide))]
      refine gwr ?_
      refine g_aload_n m103_37 rfl ?_
      refine h_gfR (c := 69) (k := 0) (p := 32) m103_38 rfl (t_0 _ _) rfl (Nat.le_of_ble_eq_true rfl) ?_
      refine h_gfR (c := 71) (k := 37) (p := 69) m103_41 rfl (t_37 _ _) rfl (Nat.le_of_ble_eq_true rfl) ?_
      refine g_iload_n m103_44 rfl ?_
      refine h_ial (k := 39) (p := 71) (j := q) m103_45 rfl (t_39 _ _) (rfl) (by omega) (Nat.le_of_ble_eq_true rfl) (e39) ?_
      refine h_ic_eq (xi := _) (zi := _) m103_46 rfl rfl (fun c1 => ?_) (fun c1 => ?_)
      · skip
        refine g_iinc (L2 := [some (.ref (32)), some (.int (nI (w))), some (.ref (42)), some (.int (nI (q + 1)))]) m103_53 rfl (nI_1 _) rfl rfl ?_
        refine g_goto m103_56 ?_
        have hm : ¬ (fun q => !(decide ((sumF (stepN (lkF m ln (m 1 11)) (blF m ln (m 1 12)) (vw m 0) (q + 1) 4) n).toInt = (m 39 q).toInt))) q = true := by
          show ¬ (!(decide _)) = true
          rw [decide_eq_true c1]
          decide
        rw [least_n (p := (fun q => !(decide ((sumF (stepN (lkF m ln (m 1 11)) (blF m ln (m 1 12)) (vw m 0) (q + 1) 4) n).toInt = (m 39 q).toInt)))) (s := q) hm] at hfin
        exact ih (q + 1) _ _ (by omega) h83 hA3 hfin
      · skip
        refine g_iconst m103_49 ?_
        refine g_iload_n m103_50 rfl ?_
        refine g_iadd (u := nI (1 + q)) m103_51 (nI_add 1 q) ?_
        refine g_iret m103_52 rt_103 ?_
        have hm : (fun q => !(decide ((sumF (stepN (lkF m ln (m 1 11)) (blF m ln (m 1 12)) (vw m 0) (q + 1) 4) n).toInt = (m 39 q).toInt))) q = true := by
          show (!(decide _)) = true
          rw [decide_eq_false c1]
          rfl
        rw [least_y (p := (fun q => !(decide ((sumF (stepN (lkF m ln (m 1 11)) (blF m ln (m 1 12)) (vw m 0) (q + 1) 4) n).toInt = (m 39 q).toInt)))) (s := q) hm] at hfin
        exact hY q hfin.symm (by omega) m3 (FrT.of hA3)
  exact key w 0 _ _ (by omega) h80 (AtX.self _ 1) rfl
end
end
