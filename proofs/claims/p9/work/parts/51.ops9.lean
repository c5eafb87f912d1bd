/-! SHEETS -/
theorem zr_M (m : MW) (s : Nat) (b l : Int32) : zrQ (upm (upm m (48 + 2 * s) 0 b) (48 + 2 * s) 1 l) (49 + 2 * s) 0 40 = zrM m s b l := by
  funext k j
  exact if_c ⟨fun z => ⟨z.1, by omega⟩, fun z => ⟨z.1, by omega⟩⟩
theorem min_n {a b : Nat} (ha : a < 2147483648) (hb : b < 2147483648) : (if nI b < nI a then nI b else nI a) = nI (min a b) := by
  have e := lt_k (nI_toInt (n := b) (by omega)) (nI_toInt (n := a) (by omega))
  by_cases h : b < a
  · rw [if_pos (e.mpr (by omega)), Nat.min_eq_right (by omega)]
  · rw [if_neg (fun z => h (by have := e.mp z; omega)), Nat.min_eq_left (by omega)]
def runF (p : Nat → Bool) : Nat → Nat → Nat
  | 0, s => s
  | r + 1, s => if p s = true then runF p r (s + 1) else s
theorem run_y {p : Nat → Bool} {r s : Nat} (h : p s = true) : runF p (r + 1) s = runF p r (s + 1) := if_pos h
theorem run_n {p : Nat → Bool} {r s : Nat} (h : ¬ p s = true) : runF p (r + 1) s = s := if_neg h
theorem runF_le (p : Nat → Bool) : ∀ r s, runF p r s ≤ s + r
  | 0, s => Nat.le_refl _
  | r + 1, s => by
    show (if p s = true then runF p r (s + 1) else s) ≤ s + (r + 1)
    have := runF_le p r (s + 1)
    split <;> omega
theorem runF_c {p q : Nat → Bool} : ∀ r s, (∀ i, s ≤ i → i < s + r → q i = p i) → runF q r s = runF p r s
  | 0, _, _ => rfl
  | r + 1, s, h => by
    show (if q s = true then runF q r (s + 1) else s) = (if p s = true then runF p r (s + 1) else s)
    rw [h s (Nat.le_refl _) (by omega), runF_c r (s + 1) (fun i a b => h i (by omega) (by omega))]
def shM (m : MW) (c : Nat) : Nat → MW
  | 0 => m
  | q + 1 => upm (shM m c q) 6 q (m c q)
theorem shM_o (m : MW) (c : Nat) {k : Nat} (h : k ≠ 6) : ∀ q, shM m c q k = m k
  | 0 => rfl
  | q + 1 => (row_up _ _ h).trans (shM_o m c h q)
def sgM (m : MW) (c : Nat) : Nat → MW
  | 0 => m
  | q + 1 => upm (sgM m c q) 58 (16 + 6 * q + 3) (m 65 (c + q))
theorem sgM_o (m : MW) (c : Nat) {k : Nat} (h : k ≠ 58) : ∀ q, sgM m c q k = m k
  | 0 => rfl
  | q + 1 => (row_up _ _ h).trans (sgM_o m c h q)
theorem sgM_j (m : MW) (c : Nat) {j : Nat} (h : j < 16) : ∀ q, sgM m c q 58 j = m 58 j
  | 0 => rfl
  | q + 1 => (upm_j _ _ (by omega)).trans (sgM_j m c h q)
section
variable {xs : List Int32} {d : Nat} {h : AH} {Q : QT} {m : MW} {ln : Nat → Nat} {N : Nat}
set_option maxRecDepth 20000 in
set_option maxHeartbeats 40000000 in
theorem c_fill {s : Nat} (hs : s < 4) (hQ : Q none (H (zrQ m (49 + 2 * s) 0 40) ln N)) : WP xs (d + 1) 9 0 0 [.ref (81 + 2 * s), .int ((0 : Int32))] (H m ln N) Q := by
  refine wp_x mx_9 (L := [some (.ref (81 + 2 * s)), some (.int ((0 : Int32))), none, none]) (Nat.le_of_ble_eq_true rfl) rfl ?_
  refine g_iconst m9_0 ?_
  refine g_istore_n (L2 := [some (.ref (81 + 2 * s)), some (.int ((0 : Int32))), some (.int (0)), none]) m9_1 rfl rfl ?_
  refine g_aload_n m9_2 rfl ?_
  refine h_alen (k := 49 + 2 * s) (p := 81 + 2 * s) m9_3 (pSn _) (tSn hs) (Or.inl rfl) ?_
  refine g_istore_n (L2 := [some (.ref (81 + 2 * s)), some (.int ((0 : Int32))), some (.int (0)), some (.int (nI (40)))]) m9_4 rfl rfl ?_
  have key : ∀ (r : Nat) (q : Nat), q + r = 40 → gw xs (WP xs (d)) 9 Q 5 [some (.ref (81 + 2 * s)), some (.int ((0 : Int32))), some (.int (nI (q))), some (.int (nI (40)))] [] (H (zrQ m (49 + 2 * s) 0 q) ln N) 0 0 := by
    intro r
    induction r with
    | zero =>
      intro q hq
      obtain rfl : q = 40 := by omega
      refine g_iload_n m9_5 rfl ?_
      refine g_iload_n m9_6 rfl ?_
      refine h_ic_geT (xi := ((40 : Nat) : Int)) (zi := ((40 : Nat) : Int)) m9_7 (nI_toInt (by omega)) (nI_toInt (by omega)) (by omega) ?_
      refine g_vret m9_20 ?_
      exact hQ
    | succ r ih =>
      intro q hq
      refine g_iload_n m9_5 rfl ?_
      refine g_iload_n m9_6 rfl ?_
      refine h_ic_geF (xi := ((q : Nat) : Int)) (zi := ((40 : Nat) : Int)) m9_7 (nI_toInt (by omega)) (nI_toInt (by omega)) (by omega) ?_
      refine g_aload_n m9_10 rfl ?_
      refine g_iload_n m9_11 rfl ?_
      refine g_iload_n m9_12 rfl ?_
      refine h_ias (k := 49 + 2 * s) (p := 81 + 2 * s) (j := q) m9_13 (pSn _) (tSn hs) (rfl) (by omega) (Nat.le_of_ble_eq_true rfl) ?_
      refine g_iinc (L2 := [some (.ref (81 + 2 * s)), some (.int ((0 : Int32))), some (.int (nI (q + 1))), some (.int (nI (40)))]) m9_14 rfl (nI_1 _) rfl rfl ?_
      refine g_goto m9_17 ?_
      have h9 := ih (q + 1) (by omega)
      rw [← zrQ_s, Nat.zero_add] at h9
      exact h9
  have h9 := key 40 0 (by omega)
  rw [zrQ_0] at h9
  exact h9
set_option maxRecDepth 20000 in
set_option maxHeartbeats 40000000 in
theorem c_lay {s : Nat} {b l : Int32} (hs : s < 4) (hQ : Q none (H (zrM m s b l) ln N)) : WP xs (d + 2) 27 0 0 [.ref (80 + 2 * s), .int (b), .int (l)] (H m ln N) Q := by
  refine wp_x mx_27 (L := [some (.ref (80 + 2 * s)), some (.int (b)), some (.int (l))]) (Nat.le_of_ble_eq_true rfl) rfl ?_
  refine g_aload_n m27_0 rfl ?_
  refine g_iload_n m27_1 rfl ?_
  refine h_pfI (k := 48 + 2 * s) (p := 80 + 2 * s) m27_2 (pSo _) (tSo hs) rfl trivial ?_
  refine g_aload_n m27_5 rfl ?_
  refine g_iload_n m27_6 rfl ?_
  refine h_pfI (k := 48 + 2 * s) (p := 80 + 2 * s) m27_7 (pSo _) (tSo hs) rfl trivial ?_
  refine g_aload_n m27_10 rfl ?_
  refine h_gfR (c := 81 + 2 * s) (k := 48 + 2 * s) (p := 80 + 2 * s) m27_11 (pSo _) (tSo hs) rfl (le3 (Nat.le_of_ble_eq_true rfl)) ?_
  refine g_iconst m27_14 ?_
  refine g_cs (args := [.ref (81 + 2 * s), .int (0)]) (rest := []) 0 (Or.inl rfl) m27_15 (Nat.le_of_ble_eq_true rfl) rfl rfl (Nat.le_of_ble_eq_true rfl) ?_
  refine c_fill hs ?_
  rw [zr_M]
  refine gwr0 ?_
  refine g_vret m27_18 ?_
  exact hQ
set_option maxRecDepth 20000 in
set_option maxHeartbeats 40000000 in
theorem x_sheet {a b v : Int32} (hE1 : (a.toInt < 0 ∨ 3 < a.toInt ∨ ¬ (b.toInt = 0 ∨ b.toInt = 8 ∨ b.toInt = 16 ∨ b.toInt = 32) ∨ (b.toInt ≠ 0 ∧ 40 < v.toInt)) → Q (some (.int (-1000000000 - nI 1))) (H (erm m 1) ln N)) (hE3 : (∃ s : Nat, a = nI s ∧ s < 4 ∧ (b.toInt = 0 ∨ b.toInt = 8 ∨ b.toInt = 16 ∨ b.toInt = 32) ∧ b.toInt ≠ 0 ∧ v.toInt < 0) → Q (some (.int (-1000000000 - nI 3))) (H (erm m 3) ln N)) (hY0 : ∀ s : Nat, a = nI s → s < 4 → b.toInt = 0 → Q (some (.int 1)) (H (zrM m s 0 0) ln N)) (hY1 : ∀ s : Nat, a = nI s → s < 4 → (b.toInt = 0 ∨ b.toInt = 8 ∨ b.toInt = 16 ∨ b.toInt = 32) → b.toInt ≠ 0 → 0 ≤ v.toInt → v.toInt ≤ 40 → Q (some (.int 1)) (H (zrM m s b v) ln N)) : WP xs (d + 3) 95 0 0 [.ref (32), .int (a), .int (b), .int (v)] (H m ln N) Q := by
  refine wp_x mx_95 (L := [some (.ref (32)), some (.int (a)), some (.int (b)), some (.int (v))]) (Nat.le_of_ble_eq_true rfl) rfl ?_
  refine g_iload_n m95_0 rfl ?_
  refine g_iconst m95_1 ?_
  refine g_cs (args := [.int (a), .int (3)]) (rest := []) 0 (Or.inl rfl) m95_2 (Nat.le_of_ble_eq_true rfl) rfl rfl (Nat.le_of_ble_eq_true rfl) ?_
  refine c_within (M := 3) rfl (fun ja ea a_1 => ?_) (fun a_1 => ?_)
  · subst ea
    refine gwr ?_
    refine h_if_eqF (xi := 1) (zi := 0) m95_5 rfl rfl (by decide) ?_
    refine g_iload_n m95_8 rfl ?_
    refine h_if_eq (xi := b.toInt) (zi := 0) m95_9 rfl rfl (fun c1 => ?_) (fun c1 => ?_)
    · skip
      refine g_iload_n m95_36 rfl ?_
      refine h_if_ne (xi := b.toInt) (zi := 0) m95_37 rfl rfl (fun c2 => ?_) (fun c2 => ?_)
      · skip
        refine g_aload_n m95_40 rfl ?_
        refine h_gfR (c := 79) (k := 0) (p := 32) m95_41 rfl (t_0 _ _) rfl (Nat.le_of_ble_eq_true rfl) ?_
        refine g_iload_n m95_44 rfl ?_
        have hs : ja < 4 := by omega
        refine h_aald (j := ja) (c := 80 + 2 * ja) m95_45 rfl (t_47 _ _) (rfl) (sh_at hs) (le3 (Nat.le_of_ble_eq_true rfl)) (Nat.le_of_ble_eq_true rfl) ?_
        refine g_iconst m95_46 ?_
        refine g_iconst m95_47 ?_
        refine h_cv (k := 48 + 2 * ja) (p := 80 + 2 * ja) (args := [.int (0), .int (0)]) (rest := []) m95_48 cn_27 (Nat.le_of_ble_eq_true rfl) rfl rfl (pSo _) (tSo hs) (Nat.le_of_ble_eq_true rfl) ?_
        refine c_lay hs ?_
        refine gwr0 ?_
        refine g_iconst m95_51 ?_
        refine g_iret m95_52 rt_95 ?_
        first | (exfalso; omega) | (exact hY0 ja rfl (by omega) (by omega))
      · skip
        refine g_iload_n m95_53 rfl ?_
        refine h_if_ge (xi := v.toInt) (zi := 0) m95_54 rfl rfl (fun c3 => ?_) (fun c3 => ?_)
        · skip
          refine g_iload_n m95_63 rfl ?_
          refine g_bipush m95_64 ?_
          refine h_ic_le (xi := v.toInt) (zi := 40) m95_66 rfl rfl (fun c4 => ?_) (fun c4 => ?_)
          · skip
            refine g_aload_n m95_75 rfl ?_
            refine h_gfR (c := 79) (k := 0) (p := 32) m95_76 rfl (t_0 _ _) rfl (Nat.le_of_ble_eq_true rfl) ?_
            refine g_iload_n m95_79 rfl ?_
            have hs : ja < 4 := by omega
            refine h_aald (j := ja) (c := 80 + 2 * ja) m95_80 rfl (t_47 _ _) (rfl) (sh_at hs) (le3 (Nat.le_of_ble_eq_true rfl)) (Nat.le_of_ble_eq_true rfl) ?_
            refine g_iload_n m95_81 rfl ?_
            refine g_iload_n m95_82 rfl ?_
            refine h_cv (k := 48 + 2 * ja) (p := 80 + 2 * ja) (args := [.int (b), .int (v)]) (rest := []) m95_83 cn_27 (Nat.le_of_ble_eq_true rfl) rfl rfl (pSo _) (tSo hs) (Nat.le_of_ble_eq_true rfl) ?_
            refine c_lay hs ?_
            refine gwr0 ?_
            refine g_iconst m95_86 ?_
            refine g_iret m95_87 rt_95 ?_
            first | (exfalso; omega) | (exact hY1 ja rfl (by omega) (by omega) (by omega) (by omega) (by omega))
          · skip
            refine g_aload_n m95_69 rfl ?_
            refine g_iconst m95_70 ?_
            refine h_cv (k := 0) (p := 32) (args := [.int (1)]) (rest := []) m95_71 cn_55 (Nat.le_of_ble_eq_true rfl) rfl rfl rfl (t_0 _ _) (Nat.le_of_ble_eq_true rfl) ?_
            refine c_error (e := 1) (by decide) (by decide) ?_
            refine gwr ?_
            refine g_iret m95_74 rt_95 ?_
            first | (exfalso; omega) | (exact hE1 (by omega))
        · skip
          refine g_aload_n m95_57 rfl ?_
          refine g_iconst m95_58 ?_
          refine h_cv (k := 0) (p := 32) (args := [.int (3)]) (rest := []) m95_59 cn_55 (Nat.le_of_ble_eq_true rfl) rfl rfl rfl (t_0 _ _) (Nat.le_of_ble_eq_true rfl) ?_
          refine c_error (e := 3) (by decide) (by decide) ?_
          refine gwr ?_
          refine g_iret m95_62 rt_95 ?_
          first | (exfalso; omega) | (exact hE3 ⟨ja, rfl, by omega, by omega, by omega, by omega⟩)
    · skip
      refine g_iload_n m95_12 rfl ?_
      refine g_bipush m95_13 ?_
      refine h_ic_eq (xi := b.toInt) (zi := 8) m95_15 rfl rfl (fun c5 => ?_) (fun c5 => ?_)
      · skip
        refine g_iload_n m95_36 rfl ?_
        refine h_if_ne (xi := b.toInt) (zi := 0) m95_37 rfl rfl (fun c6 => ?_) (fun c6 => ?_)
        · skip
          refine g_aload_n m95_40 rfl ?_
          refine h_gfR (c := 79) (k := 0) (p := 32) m95_41 rfl (t_0 _ _) rfl (Nat.le_of_ble_eq_true rfl) ?_
          refine g_iload_n m95_44 rfl ?_
          have hs : ja < 4 := by omega
          refine h_aald (j := ja) (c := 80 + 2 * ja) m95_45 rfl (t_47 _ _) (rfl) (sh_at hs) (le3 (Nat.le_of_ble_eq_true rfl)) (Nat.le_of_ble_eq_true rfl) ?_
          refine g_iconst m95_46 ?_
          refine g_iconst m95_47 ?_
          refine h_cv (k := 48 + 2 * ja) (p := 80 + 2 * ja) (args := [.int (0), .int (0)]) (rest := []) m95_48 cn_27 (Nat.le_of_ble_eq_true rfl) rfl rfl (pSo _) (tSo hs) (Nat.le_of_ble_eq_true rfl) ?_
          refine c_lay hs ?_
          refine gwr0 ?_
          refine g_iconst m95_51 ?_
          refine g_iret m95_52 rt_95 ?_
          first | (exfalso; omega) | (exact hY0 ja rfl (by omega) (by omega))
        · skip
          refine g_iload_n m95_53 rfl ?_
          refine h_if_ge (xi := v.toInt) (zi := 0) m95_54 rfl rfl (fun c7 => ?_) (fun c7 => ?_)
          · skip
            refine g_iload_n m95_63 rfl ?_
            refine g_bipush m95_64 ?_
            refine h_ic_le (xi := v.toInt) (zi := 40) m95_66 rfl rfl (fun c8 => ?_) (fun c8 => ?_)
            · skip
              refine g_aload_n m95_75 rfl ?_
              refine h_gfR (c := 79) (k := 0) (p := 32) m95_76 rfl (t_0 _ _) rfl (Nat.le_of_ble_eq_true rfl) ?_
              refine g_iload_n m95_79 rfl ?_
              have hs : ja < 4 := by omega
              refine h_aald (j := ja) (c := 80 + 2 * ja) m95_80 rfl (t_47 _ _) (rfl) (sh_at hs) (le3 (Nat.le_of_ble_eq_true rfl)) (Nat.le_of_ble_eq_true rfl) ?_
              refine g_iload_n m95_81 rfl ?_
              refine g_iload_n m95_82 rfl ?_
              refine h_cv (k := 48 + 2 * ja) (p := 80 + 2 * ja) (args := [.int (b), .int (v)]) (rest := []) m95_83 cn_27 (Nat.le_of_ble_eq_true rfl) rfl rfl (pSo _) (tSo hs) (Nat.le_of_ble_eq_true rfl) ?_
              refine c_lay hs ?_
              refine gwr0 ?_
              refine g_iconst m95_86 ?_
              refine g_iret m95_87 rt_95 ?_
              first | (exfalso; omega) | (exact hY1 ja rfl (by omega) (by omega) (by omega) (by omega) (by omega))
            · skip
              refine g_aload_n m95_69 rfl ?_
              refine g_iconst m95_70 ?_
              refine h_cv (k := 0) (p := 32) (args := [.int (1)]) (rest := []) m95_71 cn_55 (Nat.le_of_ble_eq_true rfl) rfl rfl rfl (t_0 _ _) (Nat.le_of_ble_eq_true rfl) ?_
              refine c_error (e := 1) (by decide) (by decide) ?_
              refine gwr ?_
              refine g_iret m95_74 rt_95 ?_
              first | (exfalso; omega) | (exact hE1 (by omega))
          · skip
            refine g_aload_n m95_57 rfl ?_
            refine g_iconst m95_58 ?_
            refine h_cv (k := 0) (p := 32) (args := [.int (3)]) (rest := []) m95_59 cn_55 (Nat.le_of_ble_eq_true rfl) rfl rfl rfl (t_0 _ _) (Nat.le_of_ble_eq_true rfl) ?_
            refine c_error (e := 3) (by decide) (by decide) ?_
            refine gwr ?_
            refine g_iret m95_62 rt_95 ?_
            first | (exfalso; omega) | (exact hE3 ⟨ja, rfl, by omega, by omega, by omega, by omega⟩)
      · skip
        refine g_iload_n m95_18 rfl ?_
        refine g_bipush m95_19 ?_
        refine h_ic_eq (xi := b.toInt) (zi := 16) m95_21 rfl rfl (fun c9 => ?_) (fun c9 => ?_)
        · skip
          refine g_iload_n m95_36 rfl ?_
          refine h_if_ne (xi := b.toInt) (zi := 0) m95_37 rfl rfl (fun c10 => ?_) (fun c10 => ?_)
          · skip
            refine g_aload_n m95_40 rfl ?_
            refine h_gfR (c := 79) (k := 0) (p := 32) m95_41 rfl (t_0 _ _) rfl (Nat.le_of_ble_eq_true rfl) ?_
            refine g_iload_n m95_44 rfl ?_
            have hs : ja < 4 := by omega
            refine h_aald (j := ja) (c := 80 + 2 * ja) m95_45 rfl (t_47 _ _) (rfl) (sh_at hs) (le3 (Nat.le_of_ble_eq_true rfl)) (Nat.le_of_ble_eq_true rfl) ?_
            refine g_iconst m95_46 ?_
            refine g_iconst m95_47 ?_
            refine h_cv (k := 48 + 2 * ja) (p := 80 + 2 * ja) (args := [.int (0), .int (0)]) (rest := []) m95_48 cn_27 (Nat.le_of_ble_eq_true rfl) rfl rfl (pSo _) (tSo hs) (Nat.le_of_ble_eq_true rfl) ?_
            refine c_lay hs ?_
            refine gwr0 ?_
            refine g_iconst m95_51 ?_
            refine g_iret m95_52 rt_95 ?_
            first | (exfalso; omega) | (exact hY0 ja rfl (by omega) (by omega))
          · skip
            refine g_iload_n m95_53 rfl ?_
            refine h_if_ge (xi := v.toInt) (zi := 0) m95_54 rfl rfl (fun c11 => ?_) (fun c11 => ?_)
            · skip
              refine g_iload_n m95_63 rfl ?_
              refine g_bipush m95_64 ?_
              refine h_ic_le (xi := v.toInt) (zi := 40) m95_66 rfl rfl (fun c12 => ?_) (fun c12 => ?_)
              · skip
                refine g_aload_n m95_75 rfl ?_
                refine h_gfR (c := 79) (k := 0) (p := 32) m95_76 rfl (t_0 _ _) rfl (Nat.le_of_ble_eq_true rfl) ?_
                refine g_iload_n m95_79 rfl ?_
                have hs : ja < 4 := by omega
                refine h_aald (j := ja) (c := 80 + 2 * ja) m95_80 rfl (t_47 _ _) (rfl) (sh_at hs) (le3 (Nat.le_of_ble_eq_true rfl)) (Nat.le_of_ble_eq_true rfl) ?_
                refine g_iload_n m95_81 rfl ?_
                refine g_iload_n m95_82 rfl ?_
                refine h_cv (k := 48 + 2 * ja) (p := 80 + 2 * ja) (args := [.int (b), .int (v)]) (rest := []) m95_83 cn_27 (Nat.le_of_ble_eq_true rfl) rfl rfl (pSo _) (tSo hs) (Nat.le_of_ble_eq_true rfl) ?_
                refine c_lay hs ?_
                refine gwr0 ?_
                refine g_iconst m95_86 ?_
                refine g_iret m95_87 rt_95 ?_
                first | (exfalso; omega) | (exact hY1 ja rfl (by omega) (by omega) (by omega) (by omega) (by omega))
              · skip
                refine g_aload_n m95_69 rfl ?_
                refine g_iconst m95_70 ?_
                refine h_cv (k := 0) (p := 32) (args := [.int (1)]) (rest := []) m95_71 cn_55 (Nat.le_of_ble_eq_true rfl) rfl rfl rfl (t_0 _ _) (Nat.le_of_ble_eq_true rfl) ?_
                refine c_error (e := 1) (by decide) (by decide) ?_
                refine gwr ?_
                refine g_iret m95_74 rt_95 ?_
                first | (exfalso; omega) | (exact hE1 (by omega))
            · skip
              refine g_aload_n m95_57 rfl ?_
              refine g_iconst m95_58 ?_
              refine h_cv (k := 0) (p := 32) (args := [.int (3)]) (rest := []) m95_59 cn_55 (Nat.le_of_ble_eq_true rfl) rfl rfl rfl (t_0 _ _) (Nat.le_of_ble_eq_true rfl) ?_
              refine c_error (e := 3) (by decide) (by decide) ?_
              refine gwr ?_
              refine g_iret m95_62 rt_95 ?_
              first | (exfalso; omega) | (exact hE3 ⟨ja, rfl, by omega, by omega, by omega, by omega⟩)
        · skip
          refine g_iload_n m95_24 rfl ?_
          refine g_bipush m95_25 ?_
          refine h_ic_eq (xi := b.toInt) (zi := 32) m95_27 rfl rfl (fun c13 => ?_) (fun c13 => ?_)
          · skip
            refine g_iload_n m95_36 rfl ?_
            refine h_if_ne (xi := b.toInt) (zi := 0) m95_37 rfl rfl (fun c14 => ?_) (fun c14 => ?_)
            · skip
              refine g_aload_n m95_40 rfl ?_
              refine h_gfR (c := 79) (k := 0) (p := 32) m95_41 rfl (t_0 _ _) rfl (Nat.le_of_ble_eq_true rfl) ?_
              refine g_iload_n m95_44 rfl ?_
              have hs : ja < 4 := by omega
              refine h_aald (j := ja) (c := 80 + 2 * ja) m95_45 rfl (t_47 _ _) (rfl) (sh_at hs) (le3 (Nat.le_of_ble_eq_true rfl)) (Nat.le_of_ble_eq_true rfl) ?_
              refine g_iconst m95_46 ?_
              refine g_iconst m95_47 ?_
              refine h_cv (k := 48 + 2 * ja) (p := 80 + 2 * ja) (args := [.int (0), .int (0)]) (rest := []) m95_48 cn_27 (Nat.le_of_ble_eq_true rfl) rfl rfl (pSo _) (tSo hs) (Nat.le_of_ble_eq_true rfl) ?_
              refine c_lay hs ?_
              refine gwr0 ?_
              refine g_iconst m95_51 ?_
              refine g_iret m95_52 rt_95 ?_
              first | (exfalso; omega) | (exact hY0 ja rfl (by omega) (by omega))
            · skip
              refine g_iload_n m95_53 rfl ?_
              refine h_if_ge (xi := v.toInt) (zi := 0) m95_54 rfl rfl (fun c15 => ?_) (fun c15 => ?_)
              · skip
                refine g_iload_n m95_63 rfl ?_
                refine g_bipush m95_64 ?_
                refine h_ic_le (xi := v.toInt) (zi := 40) m95_66 rfl rfl (fun c16 => ?_) (fun c16 => ?_)
                · skip
                  refine g_aload_n m95_75 rfl ?_
                  refine h_gfR (c := 79) (k := 0) (p := 32) m95_76 rfl (t_0 _ _) rfl (Nat.le_of_ble_eq_true rfl) ?_
                  refine g_iload_n m95_79 rfl ?_
                  have hs : ja < 4 := by omega
                  refine h_aald (j := ja) (c := 80 + 2 * ja) m95_80 rfl (t_47 _ _) (rfl) (sh_at hs) (le3 (Nat.le_of_ble_eq_true rfl)) (Nat.le_of_ble_eq_true rfl) ?_
                  refine g_iload_n m95_81 rfl ?_
                  refine g_iload_n m95_82 rfl ?_
                  refine h_cv (k := 48 + 2 * ja) (p := 80 + 2 * ja) (args := [.int (b), .int (v)]) (rest := []) m95_83 cn_27 (Nat.le_of_ble_eq_true rfl) rfl rfl (pSo _) (tSo hs) (Nat.le_of_ble_eq_true rfl) ?_
                  refine c_lay hs ?_
                  refine gwr0 ?_
                  refine g_iconst m95_86 ?_
                  refine g_iret m95_87 rt_95 ?_
                  first | (exfalso; omega) | (exact hY1 ja rfl (by omega) (by omega) (by omega) (by omega) (by omega))
                · skip
                  refine g_aload_n m95_69 rfl ?_
                  refine g_iconst m95_70 ?_
                  refine h_cv (k := 0) (p := 32) (args := [.int (1)]) (rest := []) m95_71 cn_55 (Nat.le_of_ble_eq_true rfl) rfl rfl rfl (t_0 _ _) (Nat.le_of_ble_eq_true rfl) ?_
                  refine c_error (e := 1) (by decide) (by decide) ?_
                  refine gwr ?_
                  refine g_iret m95_74 rt_95 ?_
                  first | (exfalso; omega) | (exact hE1 (by omega))
              · skip
                refine g_aload_n m95_57 rfl ?_
                refine g_iconst m95_58 ?_
                refine h_cv (k := 0) (p := 32) (args := [.int (3)]) (rest := []) m95_59 cn_55 (Nat.le_of_ble_eq_true rfl) rfl rfl rfl (t_0 _ _) (Nat.le_of_ble_eq_true rfl) ?_
                refine c_error (e := 3) (by decide) (by decide) ?_
                refine gwr ?_
                refine g_iret m95_62 rt_95 ?_
                first | (exfalso; omega) | (exact hE3 ⟨ja, rfl, by omega, by omega, by omega, by omega⟩)
          · skip
            refine g_aload_n m95_30 rfl ?_
            refine g_iconst m95_31 ?_
            refine h_cv (k := 0) (p := 32) (args := [.int (1)]) (rest := []) m95_32 cn_55 (Nat.le_of_ble_eq_true rfl) rfl rfl rfl (t_0 _ _) (Nat.le_of_ble_eq_true rfl) ?_
            refine c_error (e := 1) (by decide) (by decide) ?_
            refine gwr ?_
            refine g_iret m95_35 rt_95 ?_
            first | (exfalso; omega) | (exact hE1 (by omega))
  · skip
    refine gwr ?_
    refine h_if_eqT (xi := 0) (zi := 0) m95_5 rfl rfl (by decide) ?_
    refine g_aload_n m95_30 rfl ?_
    refine g_iconst m95_31 ?_
    refine h_cv (k := 0) (p := 32) (args := [.int (1)]) (rest := []) m95_32 cn_55 (Nat.le_of_ble_eq_true rfl) rfl rfl rfl (t_0 _ _) (Nat.le_of_ble_eq_true rfl) ?_
    refine c_error (e := 1) (by decide) (by decide) ?_
    refine gwr ?_
    refine g_iret m95_35 rt_95 ?_
    first | (exfalso; omega) | (exact hE1 (by omega))
set_option maxRecDepth 20000 in
set_option maxHeartbeats 40000000 in
theorem m_sheet {a b v : Int32} (hE1 : (a.toInt < 0 ∨ 3 < a.toInt ∨ ¬ (b.toInt = 0 ∨ b.toInt = 8 ∨ b.toInt = 16 ∨ b.toInt = 32) ∨ (b.toInt ≠ 0 ∧ 40 < v.toInt)) → Q (some (.int (-1000000001))) (H (ers m 1) ln N)) (hE3 : (∃ s : Nat, a = nI s ∧ s < 4 ∧ (b.toInt = 0 ∨ b.toInt = 8 ∨ b.toInt = 16 ∨ b.toInt = 32) ∧ b.toInt ≠ 0 ∧ v.toInt < 0) → Q (some (.int (-1000000003))) (H (ers m 3) ln N)) (hY0 : ∀ s : Nat, a = nI s → s < 4 → b.toInt = 0 → Q (some (.int 1)) (H (zrQ (upm (upm m 63 s b) 64 s 0) 65 (40 * s) 40) ln N)) (hY1 : ∀ s : Nat, a = nI s → s < 4 → (b.toInt = 0 ∨ b.toInt = 8 ∨ b.toInt = 16 ∨ b.toInt = 32) → b.toInt ≠ 0 → 0 ≤ v.toInt → v.toInt ≤ 40 → Q (some (.int 1)) (H (zrQ (upm (upm m 63 s b) 64 s v) 65 (40 * s) 40) ln N)) : WP xs (d + 3) 179 0 0 [.ref (89), .int (a), .int (b), .int (v)] (H m ln N) Q := by
  refine wp_x mx_179 (L := [some (.ref (89)), some (.int (a)), some (.int (b)), some (.int (v)), none]) (Nat.le_of_ble_eq_true rfl) rfl ?_
  refine g_iload_n m179_0 rfl ?_
  refine g_cs (args := [.int (a)]) (rest := []) 0 (Or.inl rfl) m179_1 (Nat.le_of_ble_eq_true rfl) rfl rfl (Nat.le_of_ble_eq_true rfl) ?_
  refine c_isSheet (fun ja ea a_2 => ?_) (fun a_2 => ?_)
  · subst ea
    refine gwr ?_
    refine h_if_eqF (xi := 1) (zi := 0) m179_4 rfl rfl (by decide) ?_
    refine g_iload_n m179_7 rfl ?_
    refine h_if_eq (xi := b.toInt) (zi := 0) m179_8 rfl rfl (fun c1 => ?_) (fun c1 => ?_)
    · skip
      refine g_iload_n m179_36 rfl ?_
      refine h_if_eq (xi := b.toInt) (zi := 0) m179_37 rfl rfl (fun c2 => ?_) (fun c2 => ?_)
      · skip
        refine g_iload_n m179_51 rfl ?_
        refine h_if_eq (xi := b.toInt) (zi := 0) m179_52 rfl rfl (fun c3 => ?_) (fun c3 => ?_)
        · skip
          refine g_aload_n m179_68 rfl ?_
          refine h_gfR (c := 95) (k := 57) (p := 89) m179_69 rfl (t_57 _ _) rfl (Nat.le_of_ble_eq_true rfl) ?_
          refine g_iload_n m179_72 rfl ?_
          refine g_iload_n m179_73 rfl ?_
          refine h_ias (k := 63) (p := 95) (j := ja) m179_74 rfl (t_63 _ _) (rfl) (by omega) (Nat.le_of_ble_eq_true rfl) ?_
          refine g_aload_n m179_75 rfl ?_
          refine h_gfR (c := 96) (k := 57) (p := 89) m179_76 rfl (t_57 _ _) rfl (Nat.le_of_ble_eq_true rfl) ?_
          refine g_iload_n m179_79 rfl ?_
          refine g_iload_n m179_80 rfl ?_
          refine h_if_ne (xi := b.toInt) (zi := 0) m179_81 rfl rfl (fun c4 => ?_) (fun c4 => ?_)
          · skip
            refine g_iconst m179_84 ?_
            refine g_goto m179_85 ?_
            refine h_ias (k := 64) (p := 96) (j := ja) m179_89 rfl (t_64 _ _) (rfl) (by omega) (Nat.le_of_ble_eq_true rfl) ?_
            refine g_iconst m179_90 ?_
            refine g_istore (L2 := [some (.ref (89)), some (.int (nI (ja))), some (.int (b)), some (.int (v)), some (.int (0))]) m179_91 rfl rfl ?_
            have hs : ja < 4 := by omega
            have key : ∀ (r : Nat) (q : Nat), q + r = 40 → gw xs (WP xs (d + 2)) 179 Q 93 [some (.ref (89)), some (.int (nI (ja))), some (.int (b)), some (.int (v)), some (.int (nI (q)))] [] (H (zrQ (upm (upm m (63) (ja) b) (64) (ja) (0 : Int32)) 65 (40 * ja) q) ln N) 0 0 := by
              intro r
              induction r with
              | zero =>
                intro q hq
                obtain rfl : q = 40 := by omega
                refine g_iload m179_93 rfl ?_
                refine g_bipush m179_95 ?_
                refine h_ic_geT (xi := ((40 : Nat) : Int)) (zi := 40) m179_97 (nI_toInt (by omega)) rfl (by omega) ?_
                refine g_iconst m179_119 ?_
                refine g_iret m179_120 rt_179 ?_
                first | (exfalso; omega) | (exact hY0 ja rfl (by omega) (by omega))
              | succ r ih =>
                intro q hq
                refine g_iload m179_93 rfl ?_
                refine g_bipush m179_95 ?_
                refine h_ic_geF (xi := ((q : Nat) : Int)) (zi := 40) m179_97 (nI_toInt (by omega)) rfl (by omega) ?_
                refine g_aload_n m179_100 rfl ?_
                refine h_gfR (c := 97) (k := 57) (p := 89) m179_101 rfl (t_57 _ _) rfl (Nat.le_of_ble_eq_true rfl) ?_
                refine g_bipush m179_104 ?_
                refine g_iload_n m179_106 rfl ?_
                refine g_imul (u := nI (40 * ja)) m179_107 (pk_mul 40 ja) ?_
                refine g_iload m179_108 rfl ?_
                refine g_iadd (u := nI ((40 * ja) + q)) m179_110 (nI_add (40 * ja) q) ?_
                refine g_iconst m179_111 ?_
                refine h_ias (k := 65) (p := 97) (j := (40 * ja) + q) m179_112 rfl (t_65 _ _) (rfl) (by omega) (Nat.le_of_ble_eq_true rfl) ?_
                refine g_iinc (L2 := [some (.ref (89)), some (.int (nI (ja))), some (.int (b)), some (.int (v)), some (.int (nI (q + 1)))]) m179_113 rfl (nI_1 _) rfl rfl ?_
                refine g_goto m179_116 ?_
                have h9 := ih (q + 1) (by omega)
                rw [← zrQ_s] at h9
                exact h9
            have h9 := key 40 0 (by omega)
            rw [zrQ_0] at h9
            exact h9
          · skip
            refine g_iload_n m179_88 rfl ?_
            refine h_ias (k := 64) (p := 96) (j := ja) m179_89 rfl (t_64 _ _) (rfl) (by omega) (Nat.le_of_ble_eq_true rfl) ?_
            refine g_iconst m179_90 ?_
            refine g_istore (L2 := [some (.ref (89)), some (.int (nI (ja))), some (.int (b)), some (.int (v)), some (.int (0))]) m179_91 rfl rfl ?_
            have hs : ja < 4 := by omega
            have key : ∀ (r : Nat) (q : Nat), q + r = 40 → gw xs (WP xs (d + 2)) 179 Q 93 [some (.ref (89)), some (.int (nI (ja))), some (.int (b)), some (.int (v)), some (.int (nI (q)))] [] (H (zrQ (upm (upm m (63) (ja) b) (64) (ja) v) 65 (40 * ja) q) ln N) 0 0 := by
              intro r
              induction r with
              | zero =>
                intro q hq
                obtain rfl : q = 40 := by omega
                refine g_iload m179_93 rfl ?_
                refine g_bipush m179_95 ?_
                refine h_ic_geT (xi := ((40 : Nat) : Int)) (zi := 40) m179_97 (nI_toInt (by omega)) rfl (by omega) ?_
                refine g_iconst m179_119 ?_
                refine g_iret m179_120 rt_179 ?_
                first | (exfalso; omega) | (exact hY1 ja rfl (by omega) (by omega) (by omega) (by omega) (by omega))
              | succ r ih =>
                intro q hq
                refine g_iload m179_93 rfl ?_
                refine g_bipush m179_95 ?_
                refine h_ic_geF (xi := ((q : Nat) : Int)) (zi := 40) m179_97 (nI_toInt (by omega)) rfl (by omega) ?_
                refine g_aload_n m179_100 rfl ?_
                refine h_gfR (c := 97) (k := 57) (p := 89) m179_101 rfl (t_57 _ _) rfl (Nat.le_of_ble_eq_true rfl) ?_
                refine g_bipush m179_104 ?_
                refine g_iload_n m179_106 rfl ?_
                refine g_imul (u := nI (40 * ja)) m179_107 (pk_mul 40 ja) ?_
                refine g_iload m179_108 rfl ?_
                refine g_iadd (u := nI ((40 * ja) + q)) m179_110 (nI_add (40 * ja) q) ?_
                refine g_iconst m179_111 ?_
                refine h_ias (k := 65) (p := 97) (j := (40 * ja) + q) m179_112 rfl (t_65 _ _) (rfl) (by omega) (Nat.le_of_ble_eq_true rfl) ?_
                refine g_iinc (L2 := [some (.ref (89)), some (.int (nI (ja))), some (.int (b)), some (.int (v)), some (.int (nI (q + 1)))]) m179_113 rfl (nI_1 _) rfl rfl ?_
                refine g_goto m179_116 ?_
                have h9 := ih (q + 1) (by omega)
                rw [← zrQ_s] at h9
                exact h9
            have h9 := key 40 0 (by omega)
            rw [zrQ_0] at h9
            exact h9
        · skip
          refine g_iload_n m179_55 rfl ?_
          refine g_bipush m179_56 ?_
          refine h_ic_le (xi := v.toInt) (zi := 40) m179_58 rfl rfl (fun c5 => ?_) (fun c5 => ?_)
          · skip
            refine g_aload_n m179_68 rfl ?_
            refine h_gfR (c := 95) (k := 57) (p := 89) m179_69 rfl (t_57 _ _) rfl (Nat.le_of_ble_eq_true rfl) ?_
            refine g_iload_n m179_72 rfl ?_
            refine g_iload_n m179_73 rfl ?_
            refine h_ias (k := 63) (p := 95) (j := ja) m179_74 rfl (t_63 _ _) (rfl) (by omega) (Nat.le_of_ble_eq_true rfl) ?_
            refine g_aload_n m179_75 rfl ?_
            refine h_gfR (c := 96) (k := 57) (p := 89) m179_76 rfl (t_57 _ _) rfl (Nat.le_of_ble_eq_true rfl) ?_
            refine g_iload_n m179_79 rfl ?_
            refine g_iload_n m179_80 rfl ?_
            refine h_if_ne (xi := b.toInt) (zi := 0) m179_81 rfl rfl (fun c6 => ?_) (fun c6 => ?_)
            · skip
              refine g_iconst m179_84 ?_
              refine g_goto m179_85 ?_
              refine h_ias (k := 64) (p := 96) (j := ja) m179_89 rfl (t_64 _ _) (rfl) (by omega) (Nat.le_of_ble_eq_true rfl) ?_
              refine g_iconst m179_90 ?_
              refine g_istore (L2 := [some (.ref (89)), some (.int (nI (ja))), some (.int (b)), some (.int (v)), some (.int (0))]) m179_91 rfl rfl ?_
              have hs : ja < 4 := by omega
              have key : ∀ (r : Nat) (q : Nat), q + r = 40 → gw xs (WP xs (d + 2)) 179 Q 93 [some (.ref (89)), some (.int (nI (ja))), some (.int (b)), some (.int (v)), some (.int (nI (q)))] [] (H (zrQ (upm (upm m (63) (ja) b) (64) (ja) (0 : Int32)) 65 (40 * ja) q) ln N) 0 0 := by
                intro r
                induction r with
                | zero =>
                  intro q hq
                  obtain rfl : q = 40 := by omega
                  refine g_iload m179_93 rfl ?_
                  refine g_bipush m179_95 ?_
                  refine h_ic_geT (xi := ((40 : Nat) : Int)) (zi := 40) m179_97 (nI_toInt (by omega)) rfl (by omega) ?_
                  refine g_iconst m179_119 ?_
                  refine g_iret m179_120 rt_179 ?_
                  first | (exfalso; omega) | (exact hY0 ja rfl (by omega) (by omega))
                | succ r ih =>
                  intro q hq
                  refine g_iload m179_93 rfl ?_
                  refine g_bipush m179_95 ?_
                  refine h_ic_geF (xi := ((q : Nat) : Int)) (zi := 40) m179_97 (nI_toInt (by omega)) rfl (by omega) ?_
                  refine g_aload_n m179_100 rfl ?_
                  refine h_gfR (c := 97) (k := 57) (p := 89) m179_101 rfl (t_57 _ _) rfl (Nat.le_of_ble_eq_true rfl) ?_
                  refine g_bipush m179_104 ?_
                  refine g_iload_n m179_106 rfl ?_
                  refine g_imul (u := nI (40 * ja)) m179_107 (pk_mul 40 ja) ?_
                  refine g_iload m179_108 rfl ?_
                  refine g_iadd (u := nI ((40 * ja) + q)) m179_110 (nI_add (40 * ja) q) ?_
                  refine g_iconst m179_111 ?_
                  refine h_ias (k := 65) (p := 97) (j := (40 * ja) + q) m179_112 rfl (t_65 _ _) (rfl) (by omega) (Nat.le_of_ble_eq_true rfl) ?_
                  refine g_iinc (L2 := [some (.ref (89)), some (.int (nI (ja))), some (.int (b)), some (.int (v)), some (.int (nI (q + 1)))]) m179_113 rfl (nI_1 _) rfl rfl ?_
                  refine g_goto m179_116 ?_
                  have h9 := ih (q + 1) (by omega)
                  rw [← zrQ_s] at h9
                  exact h9
              have h9 := key 40 0 (by omega)
              rw [zrQ_0] at h9
              exact h9
            · skip
              refine g_iload_n m179_88 rfl ?_
              refine h_ias (k := 64) (p := 96) (j := ja) m179_89 rfl (t_64 _ _) (rfl) (by omega) (Nat.le_of_ble_eq_true rfl) ?_
              refine g_iconst m179_90 ?_
              refine g_istore (L2 := [some (.ref (89)), some (.int (nI (ja))), some (.int (b)), some (.int (v)), some (.int (0))]) m179_91 rfl rfl ?_
              have hs : ja < 4 := by omega
              have key : ∀ (r : Nat) (q : Nat), q + r = 40 → gw xs (WP xs (d + 2)) 179 Q 93 [some (.ref (89)), some (.int (nI (ja))), some (.int (b)), some (.int (v)), some (.int (nI (q)))] [] (H (zrQ (upm (upm m (63) (ja) b) (64) (ja) v) 65 (40 * ja) q) ln N) 0 0 := by
                intro r
                induction r with
                | zero =>
                  intro q hq
                  obtain rfl : q = 40 := by omega
                  refine g_iload m179_93 rfl ?_
                  refine g_bipush m179_95 ?_
                  refine h_ic_geT (xi := ((40 : Nat) : Int)) (zi := 40) m179_97 (nI_toInt (by omega)) rfl (by omega) ?_
                  refine g_iconst m179_119 ?_
                  refine g_iret m179_120 rt_179 ?_
                  first | (exfalso; omega) | (exact hY1 ja rfl (by omega) (by omega) (by omega) (by omega) (by omega))
                | succ r ih =>
                  intro q hq
                  refine g_iload m179_93 rfl ?_
                  refine g_bipush m179_95 ?_
                  refine h_ic_geF (xi := ((q : Nat) : Int)) (zi := 40) m179_97 (nI_toInt (by omega)) rfl (by omega) ?_
                  refine g_aload_n m179_100 rfl ?_
                  refine h_gfR (c := 97) (k := 57) (p := 89) m179_101 rfl (t_57 _ _) rfl (Nat.le_of_ble_eq_true rfl) ?_
                  refine g_bipush m179_104 ?_
                  refine g_iload_n m179_106 rfl ?_
                  refine g_imul (u := nI (40 * ja)) m179_107 (pk_mul 40 ja) ?_
                  refine g_iload m179_108 rfl ?_
                  refine g_iadd (u := nI ((40 * ja) + q)) m179_110 (nI_add (40 * ja) q) ?_
                  refine g_iconst m179_111 ?_
                  refine h_ias (k := 65) (p := 97) (j := (40 * ja) + q) m179_112 rfl (t_65 _ _) (rfl) (by omega) (Nat.le_of_ble_eq_true rfl) ?_
                  refine g_iinc (L2 := [some (.ref (89)), some (.int (nI (ja))), some (.int (b)), some (.int (v)), some (.int (nI (q + 1)))]) m179_113 rfl (nI_1 _) rfl rfl ?_
                  refine g_goto m179_116 ?_
                  have h9 := ih (q + 1) (by omega)
                  rw [← zrQ_s] at h9
                  exact h9
              have h9 := key 40 0 (by omega)
              rw [zrQ_0] at h9
              exact h9
          · skip
            refine g_aload_n m179_61 rfl ?_
            refine g_ldci m179_62 rfl ?_
            refine h_cv (k := 57) (p := 89) (args := [.int (-1000000001)]) (rest := []) m179_64 cn_108 (Nat.le_of_ble_eq_true rfl) rfl rfl rfl (t_57 _ _) (Nat.le_of_ble_eq_true rfl) ?_
            refine c_errs (e := 1) (by decide) (by decide) (by decide) ?_
            refine gwr ?_
            refine g_iret m179_67 rt_179 ?_
            first | (exfalso; omega) | (exact hE1 (by omega))
      · skip
        refine g_iload_n m179_40 rfl ?_
        refine h_if_ge (xi := v.toInt) (zi := 0) m179_41 rfl rfl (fun c7 => ?_) (fun c7 => ?_)
        · skip
          refine g_iload_n m179_51 rfl ?_
          refine h_if_eq (xi := b.toInt) (zi := 0) m179_52 rfl rfl (fun c8 => ?_) (fun c8 => ?_)
          · skip
            refine g_aload_n m179_68 rfl ?_
            refine h_gfR (c := 95) (k := 57) (p := 89) m179_69 rfl (t_57 _ _) rfl (Nat.le_of_ble_eq_true rfl) ?_
            refine g_iload_n m179_72 rfl ?_
            refine g_iload_n m179_73 rfl ?_
            refine h_ias (k := 63) (p := 95) (j := ja) m179_74 rfl (t_63 _ _) (rfl) (by omega) (Nat.le_of_ble_eq_true rfl) ?_
            refine g_aload_n m179_75 rfl ?_
            refine h_gfR (c := 96) (k := 57) (p := 89) m179_76 rfl (t_57 _ _) rfl (Nat.le_of_ble_eq_true rfl) ?_
            refine g_iload_n m179_79 rfl ?_
            refine g_iload_n m179_80 rfl ?_
            refine h_if_ne (xi := b.toInt) (zi := 0) m179_81 rfl rfl (fun c9 => ?_) (fun c9 => ?_)
            · skip
              refine g_iconst m179_84 ?_
              refine g_goto m179_85 ?_
              refine h_ias (k := 64) (p := 96) (j := ja) m179_89 rfl (t_64 _ _) (rfl) (by omega) (Nat.le_of_ble_eq_true rfl) ?_
              refine g_iconst m179_90 ?_
              refine g_istore (L2 := [some (.ref (89)), some (.int (nI (ja))), some (.int (b)), some (.int (v)), some (.int (0))]) m179_91 rfl rfl ?_
              have hs : ja < 4 := by omega
              have key : ∀ (r : Nat) (q : Nat), q + r = 40 → gw xs (WP xs (d + 2)) 179 Q 93 [some (.ref (89)), some (.int (nI (ja))), some (.int (b)), some (.int (v)), some (.int (nI (q)))] [] (H (zrQ (upm (upm m (63) (ja) b) (64) (ja) (0 : Int32)) 65 (40 * ja) q) ln N) 0 0 := by
                intro r
                induction r with
                | zero =>
                  intro q hq
                  obtain rfl : q = 40 := by omega
                  refine g_iload m179_93 rfl ?_
                  refine g_bipush m179_95 ?_
                  refine h_ic_geT (xi := ((40 : Nat) : Int)) (zi := 40) m179_97 (nI_toInt (by omega)) rfl (by omega) ?_
                  refine g_iconst m179_119 ?_
                  refine g_iret m179_120 rt_179 ?_
                  first | (exfalso; omega) | (exact hY0 ja rfl (by omega) (by omega))
                | succ r ih =>
                  intro q hq
                  refine g_iload m179_93 rfl ?_
                  refine g_bipush m179_95 ?_
                  refine h_ic_geF (xi := ((q : Nat) : Int)) (zi := 40) m179_97 (nI_toInt (by omega)) rfl (by omega) ?_
                  refine g_aload_n m179_100 rfl ?_
                  refine h_gfR (c := 97) (k := 57) (p := 89) m179_101 rfl (t_57 _ _) rfl (Nat.le_of_ble_eq_true rfl) ?_
                  refine g_bipush m179_104 ?_
                  refine g_iload_n m179_106 rfl ?_
                  refine g_imul (u := nI (40 * ja)) m179_107 (pk_mul 40 ja) ?_
                  refine g_iload m179_108 rfl ?_
                  refine g_iadd (u := nI ((40 * ja) + q)) m179_110 (nI_add (40 * ja) q) ?_
                  refine g_iconst m179_111 ?_
                  refine h_ias (k := 65) (p := 97) (j := (40 * ja) + q) m179_112 rfl (t_65 _ _) (rfl) (by omega) (Nat.le_of_ble_eq_true rfl) ?_
                  refine g_iinc (L2 := [some (.ref (89)), some (.int (nI (ja))), some (.int (b)), some (.int (v)), some (.int (nI (q + 1)))]) m179_113 rfl (nI_1 _) rfl rfl ?_
                  refine g_goto m179_116 ?_
                  have h9 := ih (q + 1) (by omega)
                  rw [← zrQ_s] at h9
                  exact h9
              have h9 := key 40 0 (by omega)
              rw [zrQ_0] at h9
              exact h9
            · skip
              refine g_iload_n m179_88 rfl ?_
              refine h_ias (k := 64) (p := 96) (j := ja) m179_89 rfl (t_64 _ _) (rfl) (by omega) (Nat.le_of_ble_eq_true rfl) ?_
              refine g_iconst m179_90 ?_
              refine g_istore (L2 := [some (.ref (89)), some (.int (nI (ja))), some (.int (b)), some (.int (v)), some (.int (0))]) m179_91 rfl rfl ?_
              have hs : ja < 4 := by omega
              have key : ∀ (r : Nat) (q : Nat), q + r = 40 → gw xs (WP xs (d + 2)) 179 Q 93 [some (.ref (89)), some (.int (nI (ja))), some (.int (b)), some (.int (v)), some (.int (nI (q)))] [] (H (zrQ (upm (upm m (63) (ja) b) (64) (ja) v) 65 (40 * ja) q) ln N) 0 0 := by
                intro r
                induction r with
                | zero =>
                  intro q hq
                  obtain rfl : q = 40 := by omega
                  refine g_iload m179_93 rfl ?_
                  refine g_bipush m179_95 ?_
                  refine h_ic_geT (xi := ((40 : Nat) : Int)) (zi := 40) m179_97 (nI_toInt (by omega)) rfl (by omega) ?_
                  refine g_iconst m179_119 ?_
                  refine g_iret m179_120 rt_179 ?_
                  first | (exfalso; omega) | (exact hY1 ja rfl (by omega) (by omega) (by omega) (by omega) (by omega))
                | succ r ih =>
                  intro q hq
                  refine g_iload m179_93 rfl ?_
                  refine g_bipush m179_95 ?_
                  refine h_ic_geF (xi := ((q : Nat) : Int)) (zi := 40) m179_97 (nI_toInt (by omega)) rfl (by omega) ?_
                  refine g_aload_n m179_100 rfl ?_
                  refine h_gfR (c := 97) (k := 57) (p := 89) m179_101 rfl (t_57 _ _) rfl (Nat.le_of_ble_eq_true rfl) ?_
                  refine g_bipush m179_104 ?_
                  refine g_iload_n m179_106 rfl ?_
                  refine g_imul (u := nI (40 * ja)) m179_107 (pk_mul 40 ja) ?_
                  refine g_iload m179_108 rfl ?_
                  refine g_iadd (u := nI ((40 * ja) + q)) m179_110 (nI_add (40 * ja) q) ?_
                  refine g_iconst m179_111 ?_
                  refine h_ias (k := 65) (p := 97) (j := (40 * ja) + q) m179_112 rfl (t_65 _ _) (rfl) (by omega) (Nat.le_of_ble_eq_true rfl) ?_
                  refine g_iinc (L2 := [some (.ref (89)), some (.int (nI (ja))), some (.int (b)), some (.int (v)), some (.int (nI (q + 1)))]) m179_113 rfl (nI_1 _) rfl rfl ?_
                  refine g_goto m179_116 ?_
                  have h9 := ih (q + 1) (by omega)
                  rw [← zrQ_s] at h9
                  exact h9
              have h9 := key 40 0 (by omega)
              rw [zrQ_0] at h9
              exact h9
          · skip
            refine g_iload_n m179_55 rfl ?_
            refine g_bipush m179_56 ?_
            refine h_ic_le (xi := v.toInt) (zi := 40) m179_58 rfl rfl (fun c10 => ?_) (fun c10 => ?_)
            · skip
              refine g_aload_n m179_68 rfl ?_
              refine h_gfR (c := 95) (k := 57) (p := 89) m179_69 rfl (t_57 _ _) rfl (Nat.le_of_ble_eq_true rfl) ?_
              refine g_iload_n m179_72 rfl ?_
              refine g_iload_n m179_73 rfl ?_
              refine h_ias (k := 63) (p := 95) (j := ja) m179_74 rfl (t_63 _ _) (rfl) (by omega) (Nat.le_of_ble_eq_true rfl) ?_
              refine g_aload_n m179_75 rfl ?_
              refine h_gfR (c := 96) (k := 57) (p := 89) m179_76 rfl (t_57 _ _) rfl (Nat.le_of_ble_eq_true rfl) ?_
              refine g_iload_n m179_79 rfl ?_
              refine g_iload_n m179_80 rfl ?_
              refine h_if_ne (xi := b.toInt) (zi := 0) m179_81 rfl rfl (fun c11 => ?_) (fun c11 => ?_)
              · skip
                refine g_iconst m179_84 ?_
                refine g_goto m179_85 ?_
                refine h_ias (k := 64) (p := 96) (j := ja) m179_89 rfl (t_64 _ _) (rfl) (by omega) (Nat.le_of_ble_eq_true rfl) ?_
                refine g_iconst m179_90 ?_
                refine g_istore (L2 := [some (.ref (89)), some (.int (nI (ja))), some (.int (b)), some (.int (v)), some (.int (0))]) m179_91 rfl rfl ?_
                have hs : ja < 4 := by omega
                have key : ∀ (r : Nat) (q : Nat), q + r = 40 → gw xs (WP xs (d + 2)) 179 Q 93 [some (.ref (89)), some (.int (nI (ja))), some (.int (b)), some (.int (v)), some (.int (nI (q)))] [] (H (zrQ (upm (upm m (63) (ja) b) (64) (ja) (0 : Int32)) 65 (40 * ja) q) ln N) 0 0 := by
                  intro r
                  induction r with
                  | zero =>
                    intro q hq
                    obtain rfl : q = 40 := by omega
                    refine g_iload m179_93 rfl ?_
                    refine g_bipush m179_95 ?_
                    refine h_ic_geT (xi := ((40 : Nat) : Int)) (zi := 40) m179_97 (nI_toInt (by omega)) rfl (by omega) ?_
                    refine g_iconst m179_119 ?_
                    refine g_iret m179_120 rt_179 ?_
                    first | (exfalso; omega) | (exact hY0 ja rfl (by omega) (by omega))
                  | succ r ih =>
                    intro q hq
                    refine g_iload m179_93 rfl ?_
                    refine g_bipush m179_95 ?_
                    refine h_ic_geF (xi := ((q : Nat) : Int)) (zi := 40) m179_97 (nI_toInt (by omega)) rfl (by omega) ?_
                    refine g_aload_n m179_100 rfl ?_
                    refine h_gfR (c := 97) (k := 57) (p := 89) m179_101 rfl (t_57 _ _) rfl (Nat.le_of_ble_eq_true rfl) ?_
                    refine g_bipush m179_104 ?_
                    refine g_iload_n m179_106 rfl ?_
                    refine g_imul (u := nI (40 * ja)) m179_107 (pk_mul 40 ja) ?_
                    refine g_iload m179_108 rfl ?_
                    refine g_iadd (u := nI ((40 * ja) + q)) m179_110 (nI_add (40 * ja) q) ?_
                    refine g_iconst m179_111 ?_
                    refine h_ias (k := 65) (p := 97) (j := (40 * ja) + q) m179_112 rfl (t_65 _ _) (rfl) (by omega) (Nat.le_of_ble_eq_true rfl) ?_
                    refine g_iinc (L2 := [some (.ref (89)), some (.int (nI (ja))), some (.int (b)), some (.int (v)), some (.int (nI (q + 1)))]) m179_113 rfl (nI_1 _) rfl rfl ?_
                    refine g_goto m179_116 ?_
                    have h9 := ih (q + 1) (by omega)
                    rw [← zrQ_s] at h9
                    exact h9
                have h9 := key 40 0 (by omega)
                rw [zrQ_0] at h9
                exact h9
              · skip
                refine g_iload_n m179_88 rfl ?_
                refine h_ias (k := 64) (p := 96) (j := ja) m179_89 rfl (t_64 _ _) (rfl) (by omega) (Nat.le_of_ble_eq_true rfl) ?_
                refine g_iconst m179_90 ?_
                refine g_istore (L2 := [some (.ref (89)), some (.int (nI (ja))), some (.int (b)), some (.int (v)), some (.int (0))]) m179_91 rfl rfl ?_
                have hs : ja < 4 := by omega
                have key : ∀ (r : Nat) (q : Nat), q + r = 40 → gw xs (WP xs (d + 2)) 179 Q 93 [some (.ref (89)), some (.int (nI (ja))), some (.int (b)), some (.int (v)), some (.int (nI (q)))] [] (H (zrQ (upm (upm m (63) (ja) b) (64) (ja) v) 65 (40 * ja) q) ln N) 0 0 := by
                  intro r
                  induction r with
                  | zero =>
                    intro q hq
                    obtain rfl : q = 40 := by omega
                    refine g_iload m179_93 rfl ?_
                    refine g_bipush m179_95 ?_
                    refine h_ic_geT (xi := ((40 : Nat) : Int)) (zi := 40) m179_97 (nI_toInt (by omega)) rfl (by omega) ?_
                    refine g_iconst m179_119 ?_
                    refine g_iret m179_120 rt_179 ?_
                    first | (exfalso; omega) | (exact hY1 ja rfl (by omega) (by omega) (by omega) (by omega) (by omega))
                  | succ r ih =>
                    intro q hq
                    refine g_iload m179_93 rfl ?_
                    refine g_bipush m179_95 ?_
                    refine h_ic_geF (xi := ((q : Nat) : Int)) (zi := 40) m179_97 (nI_toInt (by omega)) rfl (by omega) ?_
                    refine g_aload_n m179_100 rfl ?_
                    refine h_gfR (c := 97) (k := 57) (p := 89) m179_101 rfl (t_57 _ _) rfl (Nat.le_of_ble_eq_true rfl) ?_
                    refine g_bipush m179_104 ?_
                    refine g_iload_n m179_106 rfl ?_
                    refine g_imul (u := nI (40 * ja)) m179_107 (pk_mul 40 ja) ?_
                    refine g_iload m179_108 rfl ?_
                    refine g_iadd (u := nI ((40 * ja) + q)) m179_110 (nI_add (40 * ja) q) ?_
                    refine g_iconst m179_111 ?_
                    refine h_ias (k := 65) (p := 97) (j := (40 * ja) + q) m179_112 rfl (t_65 _ _) (rfl) (by omega) (Nat.le_of_ble_eq_true rfl) ?_
                    refine g_iinc (L2 := [some (.ref (89)), some (.int (nI (ja))), some (.int (b)), some (.int (v)), some (.int (nI (q + 1)))]) m179_113 rfl (nI_1 _) rfl rfl ?_
                    refine g_goto m179_116 ?_
                    have h9 := ih (q + 1) (by omega)
                    rw [← zrQ_s] at h9
                    exact h9
                have h9 := key 40 0 (by omega)
                rw [zrQ_0] at h9
                exact h9
            · skip
              refine g_aload_n m179_61 rfl ?_
              refine g_ldci m179_62 rfl ?_
              refine h_cv (k := 57) (p := 89) (args := [.int (-1000000001)]) (rest := []) m179_64 cn_108 (Nat.le_of_ble_eq_true rfl) rfl rfl rfl (t_57 _ _) (Nat.le_of_ble_eq_true rfl) ?_
              refine c_errs (e := 1) (by decide) (by decide) (by decide) ?_
              refine gwr ?_
              refine g_iret m179_67 rt_179 ?_
              first | (exfalso; omega) | (exact hE1 (by omega))
        · skip
          refine g_aload_n m179_44 rfl ?_
          refine g_ldci m179_45 rfl ?_
          refine h_cv (k := 57) (p := 89) (args := [.int (-1000000003)]) (rest := []) m179_47 cn_108 (Nat.le_of_ble_eq_true rfl) rfl rfl rfl (t_57 _ _) (Nat.le_of_ble_eq_true rfl) ?_
          refine c_errs (e := 3) (by decide) (by decide) (by decide) ?_
          refine gwr ?_
          refine g_iret m179_50 rt_179 ?_
          first | (exfalso; omega) | (exact hE3 ⟨ja, rfl, by omega, by omega, by omega, by omega⟩)
    · skip
      refine g_iload_n m179_11 rfl ?_
      refine g_bipush m179_12 ?_
      refine h_ic_eq (xi := b.toInt) (zi := 8) m179_14 rfl rfl (fun c12 => ?_) (fun c12 => ?_)
      · skip
        refine g_iload_n m179_36 rfl ?_
        refine h_if_eq (xi := b.toInt) (zi := 0) m179_37 rfl rfl (fun c13 => ?_) (fun c13 => ?_)
        · skip
          refine g_iload_n m179_51 rfl ?_
          refine h_if_eq (xi := b.toInt) (zi := 0) m179_52 rfl rfl (fun c14 => ?_) (fun c14 => ?_)
          · skip
            refine g_aload_n m179_68 rfl ?_
            refine h_gfR (c := 95) (k := 57) (p := 89) m179_69 rfl (t_57 _ _) rfl (Nat.le_of_ble_eq_true rfl) ?_
            refine g_iload_n m179_72 rfl ?_
            refine g_iload_n m179_73 rfl ?_
            refine h_ias (k := 63) (p := 95) (j := ja) m179_74 rfl (t_63 _ _) (rfl) (by omega) (Nat.le_of_ble_eq_true rfl) ?_
            refine g_aload_n m179_75 rfl ?_
            refine h_gfR (c := 96) (k := 57) (p := 89) m179_76 rfl (t_57 _ _) rfl (Nat.le_of_ble_eq_true rfl) ?_
            refine g_iload_n m179_79 rfl ?_
            refine g_iload_n m179_80 rfl ?_
            refine h_if_ne (xi := b.toInt) (zi := 0) m179_81 rfl rfl (fun c15 => ?_) (fun c15 => ?_)
            · skip
              refine g_iconst m179_84 ?_
              refine g_goto m179_85 ?_
              refine h_ias (k := 64) (p := 96) (j := ja) m179_89 rfl (t_64 _ _) (rfl) (by omega) (Nat.le_of_ble_eq_true rfl) ?_
              refine g_iconst m179_90 ?_
              refine g_istore (L2 := [some (.ref (89)), some (.int (nI (ja))), some (.int (b)), some (.int (v)), some (.int (0))]) m179_91 rfl rfl ?_
              have hs : ja < 4 := by omega
              have key : ∀ (r : Nat) (q : Nat), q + r = 40 → gw xs (WP xs (d + 2)) 179 Q 93 [some (.ref (89)), some (.int (nI (ja))), some (.int (b)), some (.int (v)), some (.int (nI (q)))] [] (H (zrQ (upm (upm m (63) (ja) b) (64) (ja) (0 : Int32)) 65 (40 * ja) q) ln N) 0 0 := by
                intro r
                induction r with
                | zero =>
                  intro q hq
                  obtain rfl : q = 40 := by omega
                  refine g_iload m179_93 rfl ?_
                  refine g_bipush m179_95 ?_
                  refine h_ic_geT (xi := ((40 : Nat) : Int)) (zi := 40) m179_97 (nI_toInt (by omega)) rfl (by omega) ?_
                  refine g_iconst m179_119 ?_
                  refine g_iret m179_120 rt_179 ?_
                  first | (exfalso; omega) | (exact hY0 ja rfl (by omega) (by omega))
                | succ r ih =>
                  intro q hq
                  refine g_iload m179_93 rfl ?_
                  refine g_bipush m179_95 ?_
                  refine h_ic_geF (xi := ((q : Nat) : Int)) (zi := 40) m179_97 (nI_toInt (by omega)) rfl (by omega) ?_
                  refine g_aload_n m179_100 rfl ?_
                  refine h_gfR (c := 97) (k := 57) (p := 89) m179_101 rfl (t_57 _ _) rfl (Nat.le_of_ble_eq_true rfl) ?_
                  refine g_bipush m179_104 ?_
                  refine g_iload_n m179_106 rfl ?_
                  refine g_imul (u := nI (40 * ja)) m179_107 (pk_mul 40 ja) ?_
                  refine g_iload m179_108 rfl ?_
                  refine g_iadd (u := nI ((40 * ja) + q)) m179_110 (nI_add (40 * ja) q) ?_
                  refine g_iconst m179_111 ?_
                  refine h_ias (k := 65) (p := 97) (j := (40 * ja) + q) m179_112 rfl (t_65 _ _) (rfl) (by omega) (Nat.le_of_ble_eq_true rfl) ?_
                  refine g_iinc (L2 := [some (.ref (89)), some (.int (nI (ja))), some (.int (b)), some (.int (v)), some (.int (nI (q + 1)))]) m179_113 rfl (nI_1 _) rfl rfl ?_
                  refine g_goto m179_116 ?_
                  have h9 := ih (q + 1) (by omega)
                  rw [← zrQ_s] at h9
                  exact h9
              have h9 := key 40 0 (by omega)
              rw [zrQ_0] at h9
              exact h9
            · skip
              refine g_iload_n m179_88 rfl ?_
              refine h_ias (k := 64) (p := 96) (j := ja) m179_89 rfl (t_64 _ _) (rfl) (by omega) (Nat.le_of_ble_eq_true rfl) ?_
              refine g_iconst m179_90 ?_
              refine g_istore (L2 := [some (.ref (89)), some (.int (nI (ja))), some (.int (b)), some (.int (v)), some (.int (0))]) m179_91 rfl rfl ?_
              have hs : ja < 4 := by omega
              have key : ∀ (r : Nat) (q : Nat), q + r = 40 → gw xs (WP xs (d + 2)) 179 Q 93 [some (.ref (89)), some (.int (nI (ja))), some (.int (b)), some (.int (v)), some (.int (nI (q)))] [] (H (zrQ (upm (upm m (63) (ja) b) (64) (ja) v) 65 (40 * ja) q) ln N) 0 0 := by
                intro r
                induction r with
                | zero =>
                  intro q hq
                  obtain rfl : q = 40 := by omega
                  refine g_iload m179_93 rfl ?_
                  refine g_bipush m179_95 ?_
                  refine h_ic_geT (xi := ((40 : Nat) : Int)) (zi := 40) m179_97 (nI_toInt (by omega)) rfl (by omega) ?_
                  refine g_iconst m179_119 ?_
                  refine g_iret m179_120 rt_179 ?_
                  first | (exfalso; omega) | (exact hY1 ja rfl (by omega) (by omega) (by omega) (by omega) (by omega))
                | succ r ih =>
                  intro q hq
                  refine g_iload m179_93 rfl ?_
                  refine g_bipush m179_95 ?_
                  refine h_ic_geF (xi := ((q : Nat) : Int)) (zi := 40) m179_97 (nI_toInt (by omega)) rfl (by omega) ?_
                  refine g_aload_n m179_100 rfl ?_
                  refine h_gfR (c := 97) (k := 57) (p := 89) m179_101 rfl (t_57 _ _) rfl (Nat.le_of_ble_eq_true rfl) ?_
                  refine g_bipush m179_104 ?_
                  refine g_iload_n m179_106 rfl ?_
                  refine g_imul (u := nI (40 * ja)) m179_107 (pk_mul 40 ja) ?_
                  refine g_iload m179_108 rfl ?_
                  refine g_iadd (u := nI ((40 * ja) + q)) m179_110 (nI_add (40 * ja) q) ?_
                  refine g_iconst m179_111 ?_
                  refine h_ias (k := 65) (p := 97) (j := (40 * ja) + q) m179_112 rfl (t_65 _ _) (rfl) (by omega) (Nat.le_of_ble_eq_true rfl) ?_
                  refine g_iinc (L2 := [some (.ref (89)), some (.int (nI (ja))), some (.int (b)), some (.int (v)), some (.int (nI (q + 1)))]) m179_113 rfl (nI_1 _) rfl rfl ?_
                  refine g_goto m179_116 ?_
                  have h9 := ih (q + 1) (by omega)
                  rw [← zrQ_s] at h9
                  exact h9
              have h9 := key 40 0 (by omega)
              rw [zrQ_0] at h9
              exact h9
          · skip
            refine g_iload_n m179_55 rfl ?_
            refine g_bipush m179_56 ?_
            refine h_ic_le (xi := v.toInt) (zi := 40) m179_58 rfl rfl (fun c16 => ?_) (fun c16 => ?_)
            · skip
              refine g_aload_n m179_68 rfl ?_
              refine h_gfR (c := 95) (k := 57) (p := 89) m179_69 rfl (t_57 _ _) rfl (Nat.le_of_ble_eq_true rfl) ?_
              refine g_iload_n m179_72 rfl ?_
              refine g_iload_n m179_73 rfl ?_
              refine h_ias (k := 63) (p := 95) (j := ja) m179_74 rfl (t_63 _ _) (rfl) (by omega) (Nat.le_of_ble_eq_true rfl) ?_
              refine g_aload_n m179_75 rfl ?_
              refine h_gfR (c := 96) (k := 57) (p := 89) m179_76 rfl (t_57 _ _) rfl (Nat.le_of_ble_eq_true rfl) ?_
              refine g_iload_n m179_79 rfl ?_
              refine g_iload_n m179_80 rfl ?_
              refine h_if_ne (xi := b.toInt) (zi := 0) m179_81 rfl rfl (fun c17 => ?_) (fun c17 => ?_)
              · skip
                refine g_iconst m179_84 ?_
                refine g_goto m179_85 ?_
                refine h_ias (k := 64) (p := 96) (j := ja) m179_89 rfl (t_64 _ _) (rfl) (by omega) (Nat.le_of_ble_eq_true rfl) ?_
                refine g_iconst m179_90 ?_
                refine g_istore (L2 := [some (.ref (89)), some (.int (nI (ja))), some (.int (b)), some (.int (v)), some (.int (0))]) m179_91 rfl rfl ?_
                have hs : ja < 4 := by omega
                have key : ∀ (r : Nat) (q : Nat), q + r = 40 → gw xs (WP xs (d + 2)) 179 Q 93 [some (.ref (89)), some (.int (nI (ja))), some (.int (b)), some (.int (v)), some (.int (nI (q)))] [] (H (zrQ (upm (upm m (63) (ja) b) (64) (ja) (0 : Int32)) 65 (40 * ja) q) ln N) 0 0 := by
                  intro r
                  induction r with
                  | zero =>
                    intro q hq
                    obtain rfl : q = 40 := by omega
                    refine g_iload m179_93 rfl ?_
                    refine g_bipush m179_95 ?_
                    refine h_ic_geT (xi := ((40 : Nat) : Int)) (zi := 40) m179_97 (nI_toInt (by omega)) rfl (by omega) ?_
                    refine g_iconst m179_119 ?_
                    refine g_iret m179_120 rt_179 ?_
                    first | (exfalso; omega) | (exact hY0 ja rfl (by omega) (by omega))
                  | succ r ih =>
                    intro q hq
                    refine g_iload m179_93 rfl ?_
                    refine g_bipush m179_95 ?_
                    refine h_ic_geF (xi := ((q : Nat) : Int)) (zi := 40) m179_97 (nI_toInt (by omega)) rfl (by omega) ?_
                    refine g_aload_n m179_100 rfl ?_
                    refine h_gfR (c := 97) (k := 57) (p := 89) m179_101 rfl (t_57 _ _) rfl (Nat.le_of_ble_eq_true rfl) ?_
                    refine g_bipush m179_104 ?_
                    refine g_iload_n m179_106 rfl ?_
                    refine g_imul (u := nI (40 * ja)) m179_107 (pk_mul 40 ja) ?_
                    refine g_iload m179_108 rfl ?_
                    refine g_iadd (u := nI ((40 * ja) + q)) m179_110 (nI_add (40 * ja) q) ?_
                    refine g_iconst m179_111 ?_
                    refine h_ias (k := 65) (p := 97) (j := (40 * ja) + q) m179_112 rfl (t_65 _ _) (rfl) (by omega) (Nat.le_of_ble_eq_true rfl) ?_
                    refine g_iinc (L2 := [some (.ref (89)), some (.int (nI (ja))), some (.int (b)), some (.int (v)), some (.int (nI (q + 1)))]) m179_113 rfl (nI_1 _) rfl rfl ?_
                    refine g_goto m179_116 ?_
                    have h9 := ih (q + 1) (by omega)
                    rw [← zrQ_s] at h9
                    exact h9
                have h9 := key 40 0 (by omega)
                rw [zrQ_0] at h9
                exact h9
              · skip
                refine g_iload_n m179_88 rfl ?_
                refine h_ias (k := 64) (p := 96) (j := ja) m179_89 rfl (t_64 _ _) (rfl) (by omega) (Nat.le_of_ble_eq_true rfl) ?_
                refine g_iconst m179_90 ?_
                refine g_istore (L2 := [some (.ref (89)), some (.int (nI (ja))), some (.int (b)), some (.int (v)), some (.int (0))]) m179_91 rfl rfl ?_
                have hs : ja < 4 := by omega
                have key : ∀ (r : Nat) (q : Nat), q + r = 40 → gw xs (WP xs (d + 2)) 179 Q 93 [some (.ref (89)), some (.int (nI (ja))), some (.int (b)), some (.int (v)), some (.int (nI (q)))] [] (H (zrQ (upm (upm m (63) (ja) b) (64) (ja) v) 65 (40 * ja) q) ln N) 0 0 := by
                  intro r
                  induction r with
                  | zero =>
                    intro q hq
                    obtain rfl : q = 40 := by omega
                    refine g_iload m179_93 rfl ?_
                    refine g_bipush m179_95 ?_
                    refine h_ic_geT (xi := ((40 : Nat) : Int)) (zi := 40) m179_97 (nI_toInt (by omega)) rfl (by omega) ?_
                    refine g_iconst m179_119 ?_
                    refine g_iret m179_120 rt_179 ?_
                    first | (exfalso; omega) | (exact hY1 ja rfl (by omega) (by omega) (by omega) (by omega) (by omega))
                  | succ r ih =>
                    intro q hq
                    refine g_iload m179_93 rfl ?_
                    refine g_bipush m179_95 ?_
                    refine h_ic_geF (xi := ((q : Nat) : Int)) (zi := 40) m179_97 (nI_toInt (by omega)) rfl (by omega) ?_
                    refine g_aload_n m179_100 rfl ?_
                    refine h_gfR (c := 97) (k := 57) (p := 89) m179_101 rfl (t_57 _ _) rfl (Nat.le_of_ble_eq_true rfl) ?_
                    refine g_bipush m179_104 ?_
                    refine g_iload_n m179_106 rfl ?_
                    refine g_imul (u := nI (40 * ja)) m179_107 (pk_mul 40 ja) ?_
                    refine g_iload m179_108 rfl ?_
                    refine g_iadd (u := nI ((40 * ja) + q)) m179_110 (nI_add (40 * ja) q) ?_
                    refine g_iconst m179_111 ?_
                    refine h_ias (k := 65) (p := 97) (j := (40 * ja) + q) m179_112 rfl (t_65 _ _) (rfl) (by omega) (Nat.le_of_ble_eq_true rfl) ?_
                    refine g_iinc (L2 := [some (.ref (89)), some (.int (nI (ja))), some (.int (b)), some (.int (v)), some (.int (nI (q + 1)))]) m179_113 rfl (nI_1 _) rfl rfl ?_
                    refine g_goto m179_116 ?_
                    have h9 := ih (q + 1) (by omega)
                    rw [← zrQ_s] at h9
                    exact h9
                have h9 := key 40 0 (by omega)
                rw [zrQ_0] at h9
                exact h9
            · skip
              refine g_aload_n m179_61 rfl ?_
              refine g_ldci m179_62 rfl ?_
              refine h_cv (k := 57) (p := 89) (args := [.int (-1000000001)]) (rest := []) m179_64 cn_108 (Nat.le_of_ble_eq_true rfl) rfl rfl rfl (t_57 _ _) (Nat.le_of_ble_eq_true rfl) ?_
              refine c_errs (e := 1) (by decide) (by decide) (by decide) ?_
              refine gwr ?_
              refine g_iret m179_67 rt_179 ?_
              first | (exfalso; omega) | (exact hE1 (by omega))
        · skip
          refine g_iload_n m179_40 rfl ?_
          refine h_if_ge (xi := v.toInt) (zi := 0) m179_41 rfl rfl (fun c18 => ?_) (fun c18 => ?_)
          · skip
            refine g_iload_n m179_51 rfl ?_
            refine h_if_eq (xi := b.toInt) (zi := 0) m179_52 rfl rfl (fun c19 => ?_) (fun c19 => ?_)
            · skip
              refine g_aload_n m179_68 rfl ?_
              refine h_gfR (c := 95) (k := 57) (p := 89) m179_69 rfl (t_57 _ _) rfl (Nat.le_of_ble_eq_true rfl) ?_
              refine g_iload_n m179_72 rfl ?_
              refine g_iload_n m179_73 rfl ?_
              refine h_ias (k := 63) (p := 95) (j := ja) m179_74 rfl (t_63 _ _) (rfl) (by omega) (Nat.le_of_ble_eq_true rfl) ?_
              refine g_aload_n m179_75 rfl ?_
              refine h_gfR (c := 96) (k := 57) (p := 89) m179_76 rfl (t_57 _ _) rfl (Nat.le_of_ble_eq_true rfl) ?_
              refine g_iload_n m179_79 rfl ?_
              refine g_iload_n m179_80 rfl ?_
              refine h_if_ne (xi := b.toInt) (zi := 0) m179_81 rfl rfl (fun c20 => ?_) (fun c20 => ?_)
              · skip
                refine g_iconst m179_84 ?_
                refine g_goto m179_85 ?_
                refine h_ias (k := 64) (p := 96) (j := ja) m179_89 rfl (t_64 _ _) (rfl) (by omega) (Nat.le_of_ble_eq_true rfl) ?_
                refine g_iconst m179_90 ?_
                refine g_istore (L2 := [some (.ref (89)), some (.int (nI (ja))), some (.int (b)), some (.int (v)), some (.int (0))]) m179_91 rfl rfl ?_
                have hs : ja < 4 := by omega
                have key : ∀ (r : Nat) (q : Nat), q + r = 40 → gw xs (WP xs (d + 2)) 179 Q 93 [some (.ref (89)), some (.int (nI (ja))), some (.int (b)), some (.int (v)), some (.int (nI (q)))] [] (H (zrQ (upm (upm m (63) (ja) b) (64) (ja) (0 : Int32)) 65 (40 * ja) q) ln N) 0 0 := by
                  intro r
                  induction r with
                  | zero =>
                    intro q hq
                    obtain rfl : q = 40 := by omega
                    refine g_iload m179_93 rfl ?_
                    refine g_bipush m179_95 ?_
                    refine h_ic_geT (xi := ((40 : Nat) : Int)) (zi := 40) m179_97 (nI_toInt (by omega)) rfl (by omega) ?_
                    refine g_iconst m179_119 ?_
                    refine g_iret m179_120 rt_179 ?_
                    first | (exfalso; omega) | (exact hY0 ja rfl (by omega) (by omega))
                  | succ r ih =>
                    intro q hq
                    refine g_iload m179_93 rfl ?_
                    refine g_bipush m179_95 ?_
                    refine h_ic_geF (xi := ((q : Nat) : Int)) (zi := 40) m179_97 (nI_toInt (by omega)) rfl (by omega) ?_
                    refine g_aload_n m179_100 rfl ?_
                    refine h_gfR (c := 97) (k := 57) (p := 89) m179_101 rfl (t_57 _ _) rfl (Nat.le_of_ble_eq_true rfl) ?_
                    refine g_bipush m179_104 ?_
                    refine g_iload_n m179_106 rfl ?_
                    refine g_imul (u := nI (40 * ja)) m179_107 (pk_mul 40 ja) ?_
                    refine g_iload m179_108 rfl ?_
                    refine g_iadd (u := nI ((40 * ja) + q)) m179_110 (nI_add (40 * ja) q) ?_
                    refine g_iconst m179_111 ?_
                    refine h_ias (k := 65) (p := 97) (j := (40 * ja) + q) m179_112 rfl (t_65 _ _) (rfl) (by omega) (Nat.le_of_ble_eq_true rfl) ?_
                    refine g_iinc (L2 := [some (.ref (89)), some (.int (nI (ja))), some (.int (b)), some (.int (v)), some (.int (nI (q + 1)))]) m179_113 rfl (nI_1 _) rfl rfl ?_
                    refine g_goto m179_116 ?_
                    have h9 := ih (q + 1) (by omega)
                    rw [← zrQ_s] at h9
                    exact h9
                have h9 := key 40 0 (by omega)
                rw [zrQ_0] at h9
                exact h9
              · skip
                refine g_iload_n m179_88 rfl ?_
                refine h_ias (k := 64) (p := 96) (j := ja) m179_89 rfl (t_64 _ _) (rfl) (by omega) (Nat.le_of_ble_eq_true rfl) ?_
                refine g_iconst m179_90 ?_
                refine g_istore (L2 := [some (.ref (89)), some (.int (nI (ja))), some (.int (b)), some (.int (v)), some (.int (0))]) m179_91 rfl rfl ?_
                have hs : ja < 4 := by omega
                have key : ∀ (r : Nat) (q : Nat), q + r = 40 → gw xs (WP xs (d + 2)) 179 Q 93 [some (.ref (89)), some (.int (nI (ja))), some (.int (b)), some (.int (v)), some (.int (nI (q)))] [] (H (zrQ (upm (upm m (63) (ja) b) (64) (ja) v) 65 (40 * ja) q) ln N) 0 0 := by
                  intro r
                  induction r with
                  | zero =>
                    intro q hq
                    obtain rfl : q = 40 := by omega
                    refine g_iload m179_93 rfl ?_
                    refine g_bipush m179_95 ?_
                    refine h_ic_geT (xi := ((40 : Nat) : Int)) (zi := 40) m179_97 (nI_toInt (by omega)) rfl (by omega) ?_
                    refine g_iconst m179_119 ?_
                    refine g_iret m179_120 rt_179 ?_
                    first | (exfalso; omega) | (exact hY1 ja rfl (by omega) (by omega) (by omega) (by omega) (by omega))
                  | succ r ih =>
                    intro q hq
                    refine g_iload m179_93 rfl ?_
                    refine g_bipush m179_95 ?_
                    refine h_ic_geF (xi := ((q : Nat) : Int)) (zi := 40) m179_97 (nI_toInt (by omega)) rfl (by omega) ?_
                    refine g_aload_n m179_100 rfl ?_
                    refine h_gfR (c := 97) (k := 57) (p := 89) m179_101 rfl (t_57 _ _) rfl (Nat.le_of_ble_eq_true rfl) ?_
                    refine g_bipush m179_104 ?_
                    refine g_iload_n m179_106 rfl ?_
                    refine g_imul (u := nI (40 * ja)) m179_107 (pk_mul 40 ja) ?_
                    refine g_iload m179_108 rfl ?_
                    refine g_iadd (u := nI ((40 * ja) + q)) m179_110 (nI_add (40 * ja) q) ?_
                    refine g_iconst m179_111 ?_
                    refine h_ias (k := 65) (p := 97) (j := (40 * ja) + q) m179_112 rfl (t_65 _ _) (rfl) (by omega) (Nat.le_of_ble_eq_true rfl) ?_
                    refine g_iinc (L2 := [some (.ref (89)), some (.int (nI (ja))), some (.int (b)), some (.int (v)), some (.int (nI (q + 1)))]) m179_113 rfl (nI_1 _) rfl rfl ?_
                    refine g_goto m179_116 ?_
                    have h9 := ih (q + 1) (by omega)
                    rw [← zrQ_s] at h9
                    exact h9
                have h9 := key 40 0 (by omega)
                rw [zrQ_0] at h9
                exact h9
            · skip
              refine g_iload_n m179_55 rfl ?_
              refine g_bipush m179_56 ?_
              refine h_ic_le (xi := v.toInt) (zi := 40) m179_58 rfl rfl (fun c21 => ?_) (fun c21 => ?_)
              · skip
                refine g_aload_n m179_68 rfl ?_
                refine h_gfR (c := 95) (k := 57) (p := 89) m179_69 rfl (t_57 _ _) rfl (Nat.le_of_ble_eq_true rfl) ?_
                refine g_iload_n m179_72 rfl ?_
                refine g_iload_n m179_73 rfl ?_
                refine h_ias (k := 63) (p := 95) (j := ja) m179_74 rfl (t_63 _ _) (rfl) (by omega) (Nat.le_of_ble_eq_true rfl) ?_
                refine g_aload_n m179_75 rfl ?_
                refine h_gfR (c := 96) (k := 57) (p := 89) m179_76 rfl (t_57 _ _) rfl (Nat.le_of_ble_eq_true rfl) ?_
                refine g_iload_n m179_79 rfl ?_
                refine g_iload_n m179_80 rfl ?_
                refine h_if_ne (xi := b.toInt) (zi := 0) m179_81 rfl rfl (fun c22 => ?_) (fun c22 => ?_)
                · skip
                  refine g_iconst m179_84 ?_
                  refine g_goto m179_85 ?_
                  refine h_ias (k := 64) (p := 96) (j := ja) m179_89 rfl (t_64 _ _) (rfl) (by omega) (Nat.le_of_ble_eq_true rfl) ?_
                  refine g_iconst m179_90 ?_
                  refine g_istore (L2 := [some (.ref (89)), some (.int (nI (ja))), some (.int (b)), some (.int (v)), some (.int (0))]) m179_91 rfl rfl ?_
                  have hs : ja < 4 := by omega
                  have key : ∀ (r : Nat) (q : Nat), q + r = 40 → gw xs (WP xs (d + 2)) 179 Q 93 [some (.ref (89)), some (.int (nI (ja))), some (.int (b)), some (.int (v)), some (.int (nI (q)))] [] (H (zrQ (upm (upm m (63) (ja) b) (64) (ja) (0 : Int32)) 65 (40 * ja) q) ln N) 0 0 := by
                    intro r
                    induction r with
                    | zero =>
                      intro q hq
                      obtain rfl : q = 40 := by omega
                      refine g_iload m179_93 rfl ?_
                      refine g_bipush m179_95 ?_
                      refine h_ic_geT (xi := ((40 : Nat) : Int)) (zi := 40) m179_97 (nI_toInt (by omega)) rfl (by omega) ?_
                      refine g_iconst m179_119 ?_
                      refine g_iret m179_120 rt_179 ?_
                      first | (exfalso; omega) | (exact hY0 ja rfl (by omega) (by omega))
                    | succ r ih =>
                      intro q hq
                      refine g_iload m179_93 rfl ?_
                      refine g_bipush m179_95 ?_
                      refine h_ic_geF (xi := ((q : Nat) : Int)) (zi := 40) m179_97 (nI_toInt (by omega)) rfl (by omega) ?_
                      refine g_aload_n m179_100 rfl ?_
                      refine h_gfR (c := 97) (k := 57) (p := 89) m179_101 rfl (t_57 _ _) rfl (Nat.le_of_ble_eq_true rfl) ?_
                      refine g_bipush m179_104 ?_
                      refine g_iload_n m179_106 rfl ?_
                      refine g_imul (u := nI (40 * ja)) m179_107 (pk_mul 40 ja) ?_
                      refine g_iload m179_108 rfl ?_
                      refine g_iadd (u := nI ((40 * ja) + q)) m179_110 (nI_add (40 * ja) q) ?_
                      refine g_iconst m179_111 ?_
                      refine h_ias (k := 65) (p := 97) (j := (40 * ja) + q) m179_112 rfl (t_65 _ _) (rfl) (by omega) (Nat.le_of_ble_eq_true rfl) ?_
                      refine g_iinc (L2 := [some (.ref (89)), some (.int (nI (ja))), some (.int (b)), some (.int (v)), some (.int (nI (q + 1)))]) m179_113 rfl (nI_1 _) rfl rfl ?_
                      refine g_goto m179_116 ?_
                      have h9 := ih (q + 1) (by omega)
                      rw [← zrQ_s] at h9
                      exact h9
                  have h9 := key 40 0 (by omega)
                  rw [zrQ_0] at h9
                  exact h9
                · skip
                  refine g_iload_n m179_88 rfl ?_
                  refine h_ias (k := 64) (p := 96) (j := ja) m179_89 rfl (t_64 _ _) (rfl) (by omega) (Nat.le_of_ble_eq_true rfl) ?_
                  refine g_iconst m179_90 ?_
                  refine g_istore (L2 := [some (.ref (89)), some (.int (nI (ja))), some (.int (b)), some (.int (v)), some (.int (0))]) m179_91 rfl rfl ?_
                  have hs : ja < 4 := by omega
                  have key : ∀ (r : Nat) (q : Nat), q + r = 40 → gw xs (WP xs (d + 2)) 179 Q 93 [some (.ref (89)), some (.int (nI (ja))), some (.int (b)), some (.int (v)), some (.int (nI (q)))] [] (H (zrQ (upm (upm m (63) (ja) b) (64) (ja) v) 65 (40 * ja) q) ln N) 0 0 := by
                    intro r
                    induction r with
                    | zero =>
                      intro q hq
                      obtain rfl : q = 40 := by omega
                      refine g_iload m179_93 rfl ?_
                      refine g_bipush m179_95 ?_
                      refine h_ic_geT (xi := ((40 : Nat) : Int)) (zi := 40) m179_97 (nI_toInt (by omega)) rfl (by omega) ?_
                      refine g_iconst m179_119 ?_
                      refine g_iret m179_120 rt_179 ?_
                      first | (exfalso; omega) | (exact hY1 ja rfl (by omega) (by omega) (by omega) (by omega) (by omega))
                    | succ r ih =>
                      intro q hq
                      refine g_iload m179_93 rfl ?_
                      refine g_bipush m179_95 ?_
                      refine h_ic_geF (xi := ((q : Nat) : Int)) (zi := 40) m179_97 (nI_toInt (by omega)) rfl (by omega) ?_
                      refine g_aload_n m179_100 rfl ?_
                      refine h_gfR (c := 97) (k := 57) (p := 89) m179_101 rfl (t_57 _ _) rfl (Nat.le_of_ble_eq_true rfl) ?_
                      refine g_bipush m179_104 ?_
                      refine g_iload_n m179_106 rfl ?_
                      refine g_imul (u := nI (40 * ja)) m179_107 (pk_mul 40 ja) ?_
                      refine g_iload m179_108 rfl ?_
                      refine g_iadd (u := nI ((40 * ja) + q)) m179_110 (nI_add (40 * ja) q) ?_
                      refine g_iconst m179_111 ?_
                      refine h_ias (k := 65) (p := 97) (j := (40 * ja) + q) m179_112 rfl (t_65 _ _) (rfl) (by omega) (Nat.le_of_ble_eq_true rfl) ?_
                      refine g_iinc (L2 := [some (.ref (89)), some (.int (nI (ja))), some (.int (b)), some (.int (v)), some (.int (nI (q + 1)))]) m179_113 rfl (nI_1 _) rfl rfl ?_
                      refine g_goto m179_116 ?_
                      have h9 := ih (q + 1) (by omega)
                      rw [← zrQ_s] at h9
                      exact h9
                  have h9 := key 40 0 (by omega)
                  rw [zrQ_0] at h9
                  exact h9
              · skip
                refine g_aload_n m179_61 rfl ?_
                refine g_ldci m179_62 rfl ?_
                refine h_cv (k := 57) (p := 89) (args := [.int (-1000000001)]) (rest := []) m179_64 cn_108 (Nat.le_of_ble_eq_true rfl) rfl rfl rfl (t_57 _ _) (Nat.le_of_ble_eq_true rfl) ?_
                refine c_errs (e := 1) (by decide) (by decide) (by decide) ?_
                refine gwr ?_
                refine g_iret m179_67 rt_179 ?_
                first | (exfalso; omega) | (exact hE1 (by omega))
          · skip
            refine g_aload_n m179_44 rfl ?_
            refine g_ldci m179_45 rfl ?_
            refine h_cv (k := 57) (p := 89) (args := [.int (-1000000003)]) (rest := []) m179_47 cn_108 (Nat.le_of_ble_eq_true rfl) rfl rfl rfl (t_57 _ _) (Nat.le_of_ble_eq_true rfl) ?_
            refine c_errs (e := 3) (by decide) (by decide) (by decide) ?_
            refine gwr ?_
            refine g_iret m179_50 rt_179 ?_
            first | (exfalso; omega) | (exact hE3 ⟨ja, rfl, by omega, by omega, by omega, by omega⟩)
      · skip
        refine g_iload_n m179_17 rfl ?_
        refine g_bipush m179_18 ?_
        refine h_ic_eq (xi := b.toInt) (zi := 16) m179_20 rfl rfl (fun c23 => ?_) (fun c23 => ?_)
        · skip
          refine g_iload_n m179_36 rfl ?_
          refine h_if_eq (xi := b.toInt) (zi := 0) m179_37 rfl rfl (fun c24 => ?_) (fun c24 => ?_)
          · skip
            refine g_iload_n m179_51 rfl ?_
            refine h_if_eq (xi := b.toInt) (zi := 0) m179_52 rfl rfl (fun c25 => ?_) (fun c25 => ?_)
            · skip
              refine g_aload_n m179_68 rfl ?_
              refine h_gfR (c := 95) (k := 57) (p := 89) m179_69 rfl (t_57 _ _) rfl (Nat.le_of_ble_eq_true rfl) ?_
              refine g_iload_n m179_72 rfl ?_
              refine g_iload_n m179_73 rfl ?_
              refine h_ias (k := 63) (p := 95) (j := ja) m179_74 rfl (t_63 _ _) (rfl) (by omega) (Nat.le_of_ble_eq_true rfl) ?_
              refine g_aload_n m179_75 rfl ?_
              refine h_gfR (c := 96) (k := 57) (p := 89) m179_76 rfl (t_57 _ _) rfl (Nat.le_of_ble_eq_true rfl) ?_
              refine g_iload_n m179_79 rfl ?_
              refine g_iload_n m179_80 rfl ?_
              refine h_if_ne (xi := b.toInt) (zi := 0) m179_81 rfl rfl (fun c26 => ?_) (fun c26 => ?_)
              · skip
                refine g_iconst m179_84 ?_
                refine g_goto m179_85 ?_
                refine h_ias (k := 64) (p := 96) (j := ja) m179_89 rfl (t_64 _ _) (rfl) (by omega) (Nat.le_of_ble_eq_true rfl) ?_
                refine g_iconst m179_90 ?_
                refine g_istore (L2 := [some (.ref (89)), some (.int (nI (ja))), some (.int (b)), some (.int (v)), some (.int (0))]) m179_91 rfl rfl ?_
                have hs : ja < 4 := by omega
                have key : ∀ (r : Nat) (q : Nat), q + r = 40 → gw xs (WP xs (d + 2)) 179 Q 93 [some (.ref (89)), some (.int (nI (ja))), some (.int (b)), some (.int (v)), some (.int (nI (q)))] [] (H (zrQ (upm (upm m (63) (ja) b) (64) (ja) (0 : Int32)) 65 (40 * ja) q) ln N) 0 0 := by
                  intro r
                  induction r with
                  | zero =>
                    intro q hq
                    obtain rfl : q = 40 := by omega
                    refine g_iload m179_93 rfl ?_
                    refine g_bipush m179_95 ?_
                    refine h_ic_geT (xi := ((40 : Nat) : Int)) (zi := 40) m179_97 (nI_toInt (by omega)) rfl (by omega) ?_
                    refine g_iconst m179_119 ?_
                    refine g_iret m179_120 rt_179 ?_
                    first | (exfalso; omega) | (exact hY0 ja rfl (by omega) (by omega))
                  | succ r ih =>
                    intro q hq
                    refine g_iload m179_93 rfl ?_
                    refine g_bipush m179_95 ?_
                    refine h_ic_geF (xi := ((q : Nat) : Int)) (zi := 40) m179_97 (nI_toInt (by omega)) rfl (by omega) ?_
                    refine g_aload_n m179_100 rfl ?_
                    refine h_gfR (c := 97) (k := 57) (p := 89) m179_101 rfl (t_57 _ _) rfl (Nat.le_of_ble_eq_true rfl) ?_
                    refine g_bipush m179_104 ?_
                    refine g_iload_n m179_106 rfl ?_
                    refine g_imul (u := nI (40 * ja)) m179_107 (pk_mul 40 ja) ?_
                    refine g_iload m179_108 rfl ?_
                    refine g_iadd (u := nI ((40 * ja) + q)) m179_110 (nI_add (40 * ja) q) ?_
                    refine g_iconst m179_111 ?_
                    refine h_ias (k := 65) (p := 97) (j := (40 * ja) + q) m179_112 rfl (t_65 _ _) (rfl) (by omega) (Nat.le_of_ble_eq_true rfl) ?_
                    refine g_iinc (L2 := [some (.ref (89)), some (.int (nI (ja))), some (.int (b)), some (.int (v)), some (.int (nI (q + 1)))]) m179_113 rfl (nI_1 _) rfl rfl ?_
                    refine g_goto m179_116 ?_
                    have h9 := ih (q + 1) (by omega)
                    rw [← zrQ_s] at h9
                    exact h9
                have h9 := key 40 0 (by omega)
                rw [zrQ_0] at h9
                exact h9
              · skip
                refine g_iload_n m179_88 rfl ?_
                refine h_ias (k := 64) (p := 96) (j := ja) m179_89 rfl (t_64 _ _) (rfl) (by omega) (Nat.le_of_ble_eq_true rfl) ?_
                refine g_iconst m179_90 ?_
                refine g_istore (L2 := [some (.ref (89)), some (.int (nI (ja))), some (.int (b)), some (.int (v)), some (.int (0))]) m179_91 rfl rfl ?_
                have hs : ja < 4 := by omega
                have key : ∀ (r : Nat) (q : Nat), q + r = 40 → gw xs (WP xs (d + 2)) 179 Q 93 [some (.ref (89)), some (.int (nI (ja))), some (.int (b)), some (.int (v)), some (.int (nI (q)))] [] (H (zrQ (upm (upm m (63) (ja) b) (64) (ja) v) 65 (40 * ja) q) ln N) 0 0 := by
                  intro r
                  induction r with
                  | zero =>
                    intro q hq
                    obtain rfl : q = 40 := by omega
                    refine g_iload m179_93 rfl ?_
                    refine g_bipush m179_95 ?_
                    refine h_ic_geT (xi := ((40 : Nat) : Int)) (zi := 40) m179_97 (nI_toInt (by omega)) rfl (by omega) ?_
                    refine g_iconst m179_119 ?_
                    refine g_iret m179_120 rt_179 ?_
                    first | (exfalso; omega) | (exact hY1 ja rfl (by omega) (by omega) (by omega) (by omega) (by omega))
                  | succ r ih =>
                    intro q hq
                    refine g_iload m179_93 rfl ?_
                    refine g_bipush m179_95 ?_
                    refine h_ic_geF (xi := ((q : Nat) : Int)) (zi := 40) m179_97 (nI_toInt (by omega)) rfl (by omega) ?_
                    refine g_aload_n m179_100 rfl ?_
                    refine h_gfR (c := 97) (k := 57) (p := 89) m179_101 rfl (t_57 _ _) rfl (Nat.le_of_ble_eq_true rfl) ?_
                    refine g_bipush m179_104 ?_
                    refine g_iload_n m179_106 rfl ?_
                    refine g_imul (u := nI (40 * ja)) m179_107 (pk_mul 40 ja) ?_
                    refine g_iload m179_108 rfl ?_
                    refine g_iadd (u := nI ((40 * ja) + q)) m179_110 (nI_add (40 * ja) q) ?_
                    refine g_iconst m179_111 ?_
                    refine h_ias (k := 65) (p := 97) (j := (40 * ja) + q) m179_112 rfl (t_65 _ _) (rfl) (by omega) (Nat.le_of_ble_eq_true rfl) ?_
                    refine g_iinc (L2 := [some (.ref (89)), some (.int (nI (ja))), some (.int (b)), some (.int (v)), some (.int (nI (q + 1)))]) m179_113 rfl (nI_1 _) rfl rfl ?_
                    refine g_goto m179_116 ?_
                    have h9 := ih (q + 1) (by omega)
                    rw [← zrQ_s] at h9
                    exact h9
                have h9 := key 40 0 (by omega)
                rw [zrQ_0] at h9
                exact h9
            · skip
              refine g_iload_n m179_55 rfl ?_
              refine g_bipush m179_56 ?_
              refine h_ic_le (xi := v.toInt) (zi := 40) m179_58 rfl rfl (fun c27 => ?_) (fun c27 => ?_)
              · skip
                refine g_aload_n m179_68 rfl ?_
                refine h_gfR (c := 95) (k := 57) (p := 89) m179_69 rfl (t_57 _ _) rfl (Nat.le_of_ble_eq_true rfl) ?_
                refine g_iload_n m179_72 rfl ?_
                refine g_iload_n m179_73 rfl ?_
                refine h_ias (k := 63) (p := 95) (j := ja) m179_74 rfl (t_63 _ _) (rfl) (by omega) (Nat.le_of_ble_eq_true rfl) ?_
                refine g_aload_n m179_75 rfl ?_
                refine h_gfR (c := 96) (k := 57) (p := 89) m179_76 rfl (t_57 _ _) rfl (Nat.le_of_ble_eq_true rfl) ?_
                refine g_iload_n m179_79 rfl ?_
                refine g_iload_n m179_80 rfl ?_
                refine h_if_ne (xi := b.toInt) (zi := 0) m179_81 rfl rfl (fun c28 => ?_) (fun c28 => ?_)
                · skip
                  refine g_iconst m179_84 ?_
                  refine g_goto m179_85 ?_
                  refine h_ias (k := 64) (p := 96) (j := ja) m179_89 rfl (t_64 _ _) (rfl) (by omega) (Nat.le_of_ble_eq_true rfl) ?_
                  refine g_iconst m179_90 ?_
                  refine g_istore (L2 := [some (.ref (89)), some (.int (nI (ja))), some (.int (b)), some (.int (v)), some (.int (0))]) m179_91 rfl rfl ?_
                  have hs : ja < 4 := by omega
                  have key : ∀ (r : Nat) (q : Nat), q + r = 40 → gw xs (WP xs (d + 2)) 179 Q 93 [some (.ref (89)), some (.int (nI (ja))), some (.int (b)), some (.int (v)), some (.int (nI (q)))] [] (H (zrQ (upm (upm m (63) (ja) b) (64) (ja) (0 : Int32)) 65 (40 * ja) q) ln N) 0 0 := by
                    intro r
                    induction r with
                    | zero =>
                      intro q hq
                      obtain rfl : q = 40 := by omega
                      refine g_iload m179_93 rfl ?_
                      refine g_bipush m179_95 ?_
                      refine h_ic_geT (xi := ((40 : Nat) : Int)) (zi := 40) m179_97 (nI_toInt (by omega)) rfl (by omega) ?_
                      refine g_iconst m179_119 ?_
                      refine g_iret m179_120 rt_179 ?_
                      first | (exfalso; omega) | (exact hY0 ja rfl (by omega) (by omega))
                    | succ r ih =>
                      intro q hq
                      refine g_iload m179_93 rfl ?_
                      refine g_bipush m179_95 ?_
                      refine h_ic_geF (xi := ((q : Nat) : Int)) (zi := 40) m179_97 (nI_toInt (by omega)) rfl (by omega) ?_
                      refine g_aload_n m179_100 rfl ?_
                      refine h_gfR (c := 97) (k := 57) (p := 89) m179_101 rfl (t_57 _ _) rfl (Nat.le_of_ble_eq_true rfl) ?_
                      refine g_bipush m179_104 ?_
                      refine g_iload_n m179_106 rfl ?_
                      refine g_imul (u := nI (40 * ja)) m179_107 (pk_mul 40 ja) ?_
                      refine g_iload m179_108 rfl ?_
                      refine g_iadd (u := nI ((40 * ja) + q)) m179_110 (nI_add (40 * ja) q) ?_
                      refine g_iconst m179_111 ?_
                      refine h_ias (k := 65) (p := 97) (j := (40 * ja) + q) m179_112 rfl (t_65 _ _) (rfl) (by omega) (Nat.le_of_ble_eq_true rfl) ?_
                      refine g_iinc (L2 := [some (.ref (89)), some (.int (nI (ja))), some (.int (b)), some (.int (v)), some (.int (nI (q + 1)))]) m179_113 rfl (nI_1 _) rfl rfl ?_
                      refine g_goto m179_116 ?_
                      have h9 := ih (q + 1) (by omega)
                      rw [← zrQ_s] at h9
                      exact h9
                  have h9 := key 40 0 (by omega)
                  rw [zrQ_0] at h9
                  exact h9
                · skip
                  refine g_iload_n m179_88 rfl ?_
                  refine h_ias (k := 64) (p := 96) (j := ja) m179_89 rfl (t_64 _ _) (rfl) (by omega) (Nat.le_of_ble_eq_true rfl) ?_
                  refine g_iconst m179_90 ?_
                  refine g_istore (L2 := [some (.ref (89)), some (.int (nI (ja))), some (.int (b)), some (.int (v)), some (.int (0))]) m179_91 rfl rfl ?_
                  have hs : ja < 4 := by omega
                  have key : ∀ (r : Nat) (q : Nat), q + r = 40 → gw xs (WP xs (d + 2)) 179 Q 93 [some (.ref (89)), some (.int (nI (ja))), some (.int (b)), some (.int (v)), some (.int (nI (q)))] [] (H (zrQ (upm (upm m (63) (ja) b) (64) (ja) v) 65 (40 * ja) q) ln N) 0 0 := by
                    intro r
                    induction r with
                    | zero =>
                      intro q hq
                      obtain rfl : q = 40 := by omega
                      refine g_iload m179_93 rfl ?_
                      refine g_bipush m179_95 ?_
                      refine h_ic_geT (xi := ((40 : Nat) : Int)) (zi := 40) m179_97 (nI_toInt (by omega)) rfl (by omega) ?_
                      refine g_iconst m179_119 ?_
                      refine g_iret m179_120 rt_179 ?_
                      first | (exfalso; omega) | (exact hY1 ja rfl (by omega) (by omega) (by omega) (by omega) (by omega))
                    | succ r ih =>
                      intro q hq
                      refine g_iload m179_93 rfl ?_
                      refine g_bipush m179_95 ?_
                      refine h_ic_geF (xi := ((q : Nat) : Int)) (zi := 40) m179_97 (nI_toInt (by omega)) rfl (by omega) ?_
                      refine g_aload_n m179_100 rfl ?_
                      refine h_gfR (c := 97) (k := 57) (p := 89) m179_101 rfl (t_57 _ _) rfl (Nat.le_of_ble_eq_true rfl) ?_
                      refine g_bipush m179_104 ?_
                      refine g_iload_n m179_106 rfl ?_
                      refine g_imul (u := nI (40 * ja)) m179_107 (pk_mul 40 ja) ?_
                      refine g_iload m179_108 rfl ?_
                      refine g_iadd (u := nI ((40 * ja) + q)) m179_110 (nI_add (40 * ja) q) ?_
                      refine g_iconst m179_111 ?_
                      refine h_ias (k := 65) (p := 97) (j := (40 * ja) + q) m179_112 rfl (t_65 _ _) (rfl) (by omega) (Nat.le_of_ble_eq_true rfl) ?_
                      refine g_iinc (L2 := [some (.ref (89)), some (.int (nI (ja))), some (.int (b)), some (.int (v)), some (.int (nI (q + 1)))]) m179_113 rfl (nI_1 _) rfl rfl ?_
                      refine g_goto m179_116 ?_
                      have h9 := ih (q + 1) (by omega)
                      rw [← zrQ_s] at h9
                      exact h9
                  have h9 := key 40 0 (by omega)
                  rw [zrQ_0] at h9
                  exact h9
              · skip
                refine g_aload_n m179_61 rfl ?_
                refine g_ldci m179_62 rfl ?_
                refine h_cv (k := 57) (p := 89) (args := [.int (-1000000001)]) (rest := []) m179_64 cn_108 (Nat.le_of_ble_eq_true rfl) rfl rfl rfl (t_57 _ _) (Nat.le_of_ble_eq_true rfl) ?_
                refine c_errs (e := 1) (by decide) (by decide) (by decide) ?_
                refine gwr ?_
                refine g_iret m179_67 rt_179 ?_
                first | (exfalso; omega) | (exact hE1 (by omega))
          · skip
            refine g_iload_n m179_40 rfl ?_
            refine h_if_ge (xi := v.toInt) (zi := 0) m179_41 rfl rfl (fun c29 => ?_) (fun c29 => ?_)
            · skip
              refine g_iload_n m179_51 rfl ?_
              refine h_if_eq (xi := b.toInt) (zi := 0) m179_52 rfl rfl (fun c30 => ?_) (fun c30 => ?_)
              · skip
                refine g_aload_n m179_68 rfl ?_
                refine h_gfR (c := 95) (k := 57) (p := 89) m179_69 rfl (t_57 _ _) rfl (Nat.le_of_ble_eq_true rfl) ?_
                refine g_iload_n m179_72 rfl ?_
                refine g_iload_n m179_73 rfl ?_
                refine h_ias (k := 63) (p := 95) (j := ja) m179_74 rfl (t_63 _ _) (rfl) (by omega) (Nat.le_of_ble_eq_true rfl) ?_
                refine g_aload_n m179_75 rfl ?_
                refine h_gfR (c := 96) (k := 57) (p := 89) m179_76 rfl (t_57 _ _) rfl (Nat.le_of_ble_eq_true rfl) ?_
                refine g_iload_n m179_79 rfl ?_
                refine g_iload_n m179_80 rfl ?_
                refine h_if_ne (xi := b.toInt) (zi := 0) m179_81 rfl rfl (fun c31 => ?_) (fun c31 => ?_)
                · skip
                  refine g_iconst m179_84 ?_
                  refine g_goto m179_85 ?_
                  refine h_ias (k := 64) (p := 96) (j := ja) m179_89 rfl (t_64 _ _) (rfl) (by omega) (Nat.le_of_ble_eq_true rfl) ?_
                  refine g_iconst m179_90 ?_
                  refine g_istore (L2 := [some (.ref (89)), some (.int (nI (ja))), some (.int (b)), some (.int (v)), some (.int (0))]) m179_91 rfl rfl ?_
                  have hs : ja < 4 := by omega
                  have key : ∀ (r : Nat) (q : Nat), q + r = 40 → gw xs (WP xs (d + 2)) 179 Q 93 [some (.ref (89)), some (.int (nI (ja))), some (.int (b)), some (.int (v)), some (.int (nI (q)))] [] (H (zrQ (upm (upm m (63) (ja) b) (64) (ja) (0 : Int32)) 65 (40 * ja) q) ln N) 0 0 := by
                    intro r
                    induction r with
                    | zero =>
                      intro q hq
                      obtain rfl : q = 40 := by omega
                      refine g_iload m179_93 rfl ?_
                      refine g_bipush m179_95 ?_
                      refine h_ic_geT (xi := ((40 : Nat) : Int)) (zi := 40) m179_97 (nI_toInt (by omega)) rfl (by omega) ?_
                      refine g_iconst m179_119 ?_
                      refine g_iret m179_120 rt_179 ?_
                      first | (exfalso; omega) | (exact hY0 ja rfl (by omega) (by omega))
                    | succ r ih =>
                      intro q hq
                      refine g_iload m179_93 rfl ?_
                      refine g_bipush m179_95 ?_
                      refine h_ic_geF (xi := ((q : Nat) : Int)) (zi := 40) m179_97 (nI_toInt (by omega)) rfl (by omega) ?_
                      refine g_aload_n m179_100 rfl ?_
                      refine h_gfR (c := 97) (k := 57) (p := 89) m179_101 rfl (t_57 _ _) rfl (Nat.le_of_ble_eq_true rfl) ?_
                      refine g_bipush m179_104 ?_
                      refine g_iload_n m179_106 rfl ?_
                      refine g_imul (u := nI (40 * ja)) m179_107 (pk_mul 40 ja) ?_
                      refine g_iload m179_108 rfl ?_
                      refine g_iadd (u := nI ((40 * ja) + q)) m179_110 (nI_add (40 * ja) q) ?_
                      refine g_iconst m179_111 ?_
                      refine h_ias (k := 65) (p := 97) (j := (40 * ja) + q) m179_112 rfl (t_65 _ _) (rfl) (by omega) (Nat.le_of_ble_eq_true rfl) ?_
                      refine g_iinc (L2 := [some (.ref (89)), some (.int (nI (ja))), some (.int (b)), some (.int (v)), some (.int (nI (q + 1)))]) m179_113 rfl (nI_1 _) rfl rfl ?_
                      refine g_goto m179_116 ?_
                      have h9 := ih (q + 1) (by omega)
                      rw [← zrQ_s] at h9
                      exact h9
                  have h9 := key 40 0 (by omega)
                  rw [zrQ_0] at h9
                  exact h9
                · skip
                  refine g_iload_n m179_88 rfl ?_
                  refine h_ias (k := 64) (p := 96) (j := ja) m179_89 rfl (t_64 _ _) (rfl) (by omega) (Nat.le_of_ble_eq_true rfl) ?_
                  refine g_iconst m179_90 ?_
                  refine g_istore (L2 := [some (.ref (89)), some (.int (nI (ja))), some (.int (b)), some (.int (v)), some (.int (0))]) m179_91 rfl rfl ?_
                  have hs : ja < 4 := by omega
                  have key : ∀ (r : Nat) (q : Nat), q + r = 40 → gw xs (WP xs (d + 2)) 179 Q 93 [some (.ref (89)), some (.int (nI (ja))), some (.int (b)), some (.int (v)), some (.int (nI (q)))] [] (H (zrQ (upm (upm m (63) (ja) b) (64) (ja) v) 65 (40 * ja) q) ln N) 0 0 := by
                    intro r
                    induction r with
                    | zero =>
                      intro q hq
                      obtain rfl : q = 40 := by omega
                      refine g_iload m179_93 rfl ?_
                      refine g_bipush m179_95 ?_
                      refine h_ic_geT (xi := ((40 : Nat) : Int)) (zi := 40) m179_97 (nI_toInt (by omega)) rfl (by omega) ?_
                      refine g_iconst m179_119 ?_
                      refine g_iret m179_120 rt_179 ?_
                      first | (exfalso; omega) | (exact hY1 ja rfl (by omega) (by omega) (by omega) (by omega) (by omega))
                    | succ r ih =>
                      intro q hq
                      refine g_iload m179_93 rfl ?_
                      refine g_bipush m179_95 ?_
                      refine h_ic_geF (xi := ((q : Nat) : Int)) (zi := 40) m179_97 (nI_toInt (by omega)) rfl (by omega) ?_
                      refine g_aload_n m179_100 rfl ?_
                      refine h_gfR (c := 97) (k := 57) (p := 89) m179_101 rfl (t_57 _ _) rfl (Nat.le_of_ble_eq_true rfl) ?_
                      refine g_bipush m179_104 ?_
                      refine g_iload_n m179_106 rfl ?_
                      refine g_imul (u := nI (40 * ja)) m179_107 (pk_mul 40 ja) ?_
                      refine g_iload m179_108 rfl ?_
                      refine g_iadd (u := nI ((40 * ja) + q)) m179_110 (nI_add (40 * ja) q) ?_
                      refine g_iconst m179_111 ?_
                      refine h_ias (k := 65) (p := 97) (j := (40 * ja) + q) m179_112 rfl (t_65 _ _) (rfl) (by omega) (Nat.le_of_ble_eq_true rfl) ?_
                      refine g_iinc (L2 := [some (.ref (89)), some (.int (nI (ja))), some (.int (b)), some (.int (v)), some (.int (nI (q + 1)))]) m179_113 rfl (nI_1 _) rfl rfl ?_
                      refine g_goto m179_116 ?_
                      have h9 := ih (q + 1) (by omega)
                      rw [← zrQ_s] at h9
                      exact h9
                  have h9 := key 40 0 (by omega)
                  rw [zrQ_0] at h9
                  exact h9
              · skip
                refine g_iload_n m179_55 rfl ?_
                refine g_bipush m179_56 ?_
                refine h_ic_le (xi := v.toInt) (zi := 40) m179_58 rfl rfl (fun c32 => ?_) (fun c32 => ?_)
                · skip
                  refine g_aload_n m179_68 rfl ?_
                  refine h_gfR (c := 95) (k := 57) (p := 89) m179_69 rfl (t_57 _ _) rfl (Nat.le_of_ble_eq_true rfl) ?_
                  refine g_iload_n m179_72 rfl ?_
                  refine g_iload_n m179_73 rfl ?_
                  refine h_ias (k := 63) (p := 95) (j := ja) m179_74 rfl (t_63 _ _) (rfl) (by omega) (Nat.le_of_ble_eq_true rfl) ?_
                  refine g_aload_n m179_75 rfl ?_
                  refine h_gfR (c := 96) (k := 57) (p := 89) m179_76 rfl (t_57 _ _) rfl (Nat.le_of_ble_eq_true rfl) ?_
                  refine g_iload_n m179_79 rfl ?_
                  refine g_iload_n m179_80 rfl ?_
                  refine h_if_ne (xi := b.toInt) (zi := 0) m179_81 rfl rfl (fun c33 => ?_) (fun c33 => ?_)
                  · skip
                    refine g_iconst m179_84 ?_
                    refine g_goto m179_85 ?_
                    refine h_ias (k := 64) (p := 96) (j := ja) m179_89 rfl (t_64 _ _) (rfl) (by omega) (Nat.le_of_ble_eq_true rfl) ?_
                    refine g_iconst m179_90 ?_
                    refine g_istore (L2 := [some (.ref (89)), some (.int (nI (ja))), some (.int (b)), some (.int (v)), some (.int (0))]) m179_91 rfl rfl ?_
                    have hs : ja < 4 := by omega
                    have key : ∀ (r : Nat) (q : Nat), q + r = 40 → gw xs (WP xs (d + 2)) 179 Q 93 [some (.ref (89)), some (.int (nI (ja))), some (.int (b)), some (.int (v)), some (.int (nI (q)))] [] (H (zrQ (upm (upm m (63) (ja) b) (64) (ja) (0 : Int32)) 65 (40 * ja) q) ln N) 0 0 := by
                      intro r
                      induction r with
                      | zero =>
                        intro q hq
                        obtain rfl : q = 40 := by omega
                        refine g_iload m179_93 rfl ?_
                        refine g_bipush m179_95 ?_
                        refine h_ic_geT (xi := ((40 : Nat) : Int)) (zi := 40) m179_97 (nI_toInt (by omega)) rfl (by omega) ?_
                        refine g_iconst m179_119 ?_
                        refine g_iret m179_120 rt_179 ?_
                        first | (exfalso; omega) | (exact hY0 ja rfl (by omega) (by omega))
                      | succ r ih =>
                        intro q hq
                        refine g_iload m179_93 rfl ?_
                        refine g_bipush m179_95 ?_
                        refine h_ic_geF (xi := ((q : Nat) : Int)) (zi := 40) m179_97 (nI_toInt (by omega)) rfl (by omega) ?_
                        refine g_aload_n m179_100 rfl ?_
                        refine h_gfR (c := 97) (k := 57) (p := 89) m179_101 rfl (t_57 _ _) rfl (Nat.le_of_ble_eq_true rfl) ?_
                        refine g_bipush m179_104 ?_
                        refine g_iload_n m179_106 rfl ?_
                        refine g_imul (u := nI (40 * ja)) m179_107 (pk_mul 40 ja) ?_
                        refine g_iload m179_108 rfl ?_
                        refine g_iadd (u := nI ((40 * ja) + q)) m179_110 (nI_add (40 * ja) q) ?_
                        refine g_iconst m179_111 ?_
                        refine h_ias (k := 65) (p := 97) (j := (40 * ja) + q) m179_112 rfl (t_65 _ _) (rfl) (by omega) (Nat.le_of_ble_eq_true rfl) ?_
                        refine g_iinc (L2 := [some (.ref (89)), some (.int (nI (ja))), some (.int (b)), some (.int (v)), some (.int (nI (q + 1)))]) m179_113 rfl (nI_1 _) rfl rfl ?_
                        refine g_goto m179_116 ?_
                        have h9 := ih (q + 1) (by omega)
                        rw [← zrQ_s] at h9
                        exact h9
                    have h9 := key 40 0 (by omega)
                    rw [zrQ_0] at h9
                    exact h9
                  · skip
                    refine g_iload_n m179_88 rfl ?_
                    refine h_ias (k := 64) (p := 96) (j := ja) m179_89 rfl (t_64 _ _) (rfl) (by omega) (Nat.le_of_ble_eq_true rfl) ?_
                    refine g_iconst m179_90 ?_
                    refine g_istore (L2 := [some (.ref (89)), some (.int (nI (ja))), some (.int (b)), some (.int (v)), some (.int (0))]) m179_91 rfl rfl ?_
                    have hs : ja < 4 := by omega
                    have key : ∀ (r : Nat) (q : Nat), q + r = 40 → gw xs (WP xs (d + 2)) 179 Q 93 [some (.ref (89)), some (.int (nI (ja))), some (.int (b)), some (.int (v)), some (.int (nI (q)))] [] (H (zrQ (upm (upm m (63) (ja) b) (64) (ja) v) 65 (40 * ja) q) ln N) 0 0 := by
                      intro r
                      induction r with
                      | zero =>
                        intro q hq
                        obtain rfl : q = 40 := by omega
                        refine g_iload m179_93 rfl ?_
                        refine g_bipush m179_95 ?_
                        refine h_ic_geT (xi := ((40 : Nat) : Int)) (zi := 40) m179_97 (nI_toInt (by omega)) rfl (by omega) ?_
                        refine g_iconst m179_119 ?_
                        refine g_iret m179_120 rt_179 ?_
                        first | (exfalso; omega) | (exact hY1 ja rfl (by omega) (by omega) (by omega) (by omega) (by omega))
                      | succ r ih =>
                        intro q hq
                        refine g_iload m179_93 rfl ?_
                        refine g_bipush m179_95 ?_
                        refine h_ic_geF (xi := ((q : Nat) : Int)) (zi := 40) m179_97 (nI_toInt (by omega)) rfl (by omega) ?_
                        refine g_aload_n m179_100 rfl ?_
                        refine h_gfR (c := 97) (k := 57) (p := 89) m179_101 rfl (t_57 _ _) rfl (Nat.le_of_ble_eq_true rfl) ?_
                        refine g_bipush m179_104 ?_
                        refine g_iload_n m179_106 rfl ?_
                        refine g_imul (u := nI (40 * ja)) m179_107 (pk_mul 40 ja) ?_
                        refine g_iload m179_108 rfl ?_
                        refine g_iadd (u := nI ((40 * ja) + q)) m179_110 (nI_add (40 * ja) q) ?_
                        refine g_iconst m179_111 ?_
                        refine h_ias (k := 65) (p := 97) (j := (40 * ja) + q) m179_112 rfl (t_65 _ _) (rfl) (by omega) (Nat.le_of_ble_eq_true rfl) ?_
                        refine g_iinc (L2 := [some (.ref (89)), some (.int (nI (ja))), some (.int (b)), some (.int (v)), some (.int (nI (q + 1)))]) m179_113 rfl (nI_1 _) rfl rfl ?_
                        refine g_goto m179_116 ?_
                        have h9 := ih (q + 1) (by omega)
                        rw [← zrQ_s] at h9
                        exact h9
                    have h9 := key 40 0 (by omega)
                    rw [zrQ_0] at h9
                    exact h9
                · skip
                  refine g_aload_n m179_61 rfl ?_
                  refine g_ldci m179_62 rfl ?_
                  refine h_cv (k := 57) (p := 89) (args := [.int (-1000000001)]) (rest := []) m179_64 cn_108 (Nat.le_of_ble_eq_true rfl) rfl rfl rfl (t_57 _ _) (Nat.le_of_ble_eq_true rfl) ?_
                  refine c_errs (e := 1) (by decide) (by decide) (by decide) ?_
                  refine gwr ?_
                  refine g_iret m179_67 rt_179 ?_
                  first | (exfalso; omega) | (exact hE1 (by omega))
            · skip
              refine g_aload_n m179_44 rfl ?_
              refine g_ldci m179_45 rfl ?_
              refine h_cv (k := 57) (p := 89) (args := [.int (-1000000003)]) (rest := []) m179_47 cn_108 (Nat.le_of_ble_eq_true rfl) rfl rfl rfl (t_57 _ _) (Nat.le_of_ble_eq_true rfl) ?_
              refine c_errs (e := 3) (by decide) (by decide) (by decide) ?_
              refine gwr ?_
              refine g_iret m179_50 rt_179 ?_
              first | (exfalso; omega) | (exact hE3 ⟨ja, rfl, by omega, by omega, by omega, by omega⟩)
        · skip
          refine g_iload_n m179_23 rfl ?_
          refine g_bipush m179_24 ?_
          refine h_ic_eq (xi := b.toInt) (zi := 32) m179_26 rfl rfl (fun c34 => ?_) (fun c34 => ?_)
          · skip
            refine g_iload_n m179_36 rfl ?_
            refine h_if_eq (xi := b.toInt) (zi := 0) m179_37 rfl rfl (fun c35 => ?_) (fun c35 => ?_)
            · skip
              refine g_iload_n m179_51 rfl ?_
              refine h_if_eq (xi := b.toInt) (zi := 0) m179_52 rfl rfl (fun c36 => ?_) (fun c36 => ?_)
              · skip
                refine g_aload_n m179_68 rfl ?_
                refine h_gfR (c := 95) (k := 57) (p := 89) m179_69 rfl (t_57 _ _) rfl (Nat.le_of_ble_eq_true rfl) ?_
                refine g_iload_n m179_72 rfl ?_
                refine g_iload_n m179_73 rfl ?_
                refine h_ias (k := 63) (p := 95) (j := ja) m179_74 rfl (t_63 _ _) (rfl) (by omega) (Nat.le_of_ble_eq_true rfl) ?_
                refine g_aload_n m179_75 rfl ?_
                refine h_gfR (c := 96) (k := 57) (p := 89) m179_76 rfl (t_57 _ _) rfl (Nat.le_of_ble_eq_true rfl) ?_
                refine g_iload_n m179_79 rfl ?_
                refine g_iload_n m179_80 rfl ?_
                refine h_if_ne (xi := b.toInt) (zi := 0) m179_81 rfl rfl (fun c37 => ?_) (fun c37 => ?_)
                · skip
                  refine g_iconst m179_84 ?_
                  refine g_goto m179_85 ?_
                  refine h_ias (k := 64) (p := 96) (j := ja) m179_89 rfl (t_64 _ _) (rfl) (by omega) (Nat.le_of_ble_eq_true rfl) ?_
                  refine g_iconst m179_90 ?_
                  refine g_istore (L2 := [some (.ref (89)), some (.int (nI (ja))), some (.int (b)), some (.int (v)), some (.int (0))]) m179_91 rfl rfl ?_
                  have hs : ja < 4 := by omega
                  have key : ∀ (r : Nat) (q : Nat), q + r = 40 → gw xs (WP xs (d + 2)) 179 Q 93 [some (.ref (89)), some (.int (nI (ja))), some (.int (b)), some (.int (v)), some (.int (nI (q)))] [] (H (zrQ (upm (upm m (63) (ja) b) (64) (ja) (0 : Int32)) 65 (40 * ja) q) ln N) 0 0 := by
                    intro r
                    induction r with
                    | zero =>
                      intro q hq
                      obtain rfl : q = 40 := by omega
                      refine g_iload m179_93 rfl ?_
                      refine g_bipush m179_95 ?_
                      refine h_ic_geT (xi := ((40 : Nat) : Int)) (zi := 40) m179_97 (nI_toInt (by omega)) rfl (by omega) ?_
                      refine g_iconst m179_119 ?_
                      refine g_iret m179_120 rt_179 ?_
                      first | (exfalso; omega) | (exact hY0 ja rfl (by omega) (by omega))
                    | succ r ih =>
                      intro q hq
                      refine g_iload m179_93 rfl ?_
                      refine g_bipush m179_95 ?_
                      refine h_ic_geF (xi := ((q : Nat) : Int)) (zi := 40) m179_97 (nI_toInt (by omega)) rfl (by omega) ?_
                      refine g_aload_n m179_100 rfl ?_
                      refine h_gfR (c := 97) (k := 57) (p := 89) m179_101 rfl (t_57 _ _) rfl (Nat.le_of_ble_eq_true rfl) ?_
                      refine g_bipush m179_104 ?_
                      refine g_iload_n m179_106 rfl ?_
                      refine g_imul (u := nI (40 * ja)) m179_107 (pk_mul 40 ja) ?_
                      refine g_iload m179_108 rfl ?_
                      refine g_iadd (u := nI ((40 * ja) + q)) m179_110 (nI_add (40 * ja) q) ?_
                      refine g_iconst m179_111 ?_
                      refine h_ias (k := 65) (p := 97) (j := (40 * ja) + q) m179_112 rfl (t_65 _ _) (rfl) (by omega) (Nat.le_of_ble_eq_true rfl) ?_
                      refine g_iinc (L2 := [some (.ref (89)), some (.int (nI (ja))), some (.int (b)), some (.int (v)), some (.int (nI (q + 1)))]) m179_113 rfl (nI_1 _) rfl rfl ?_
                      refine g_goto m179_116 ?_
                      have h9 := ih (q + 1) (by omega)
                      rw [← zrQ_s] at h9
                      exact h9
                  have h9 := key 40 0 (by omega)
                  rw [zrQ_0] at h9
                  exact h9
                · skip
                  refine g_iload_n m179_88 rfl ?_
                  refine h_ias (k := 64) (p := 96) (j := ja) m179_89 rfl (t_64 _ _) (rfl) (by omega) (Nat.le_of_ble_eq_true rfl) ?_
                  refine g_iconst m179_90 ?_
                  refine g_istore (L2 := [some (.ref (89)), some (.int (nI (ja))), some (.int (b)), some (.int (v)), some (.int (0))]) m179_91 rfl rfl ?_
                  have hs : ja < 4 := by omega
                  have key : ∀ (r : Nat) (q : Nat), q + r = 40 → gw xs (WP xs (d + 2)) 179 Q 93 [some (.ref (89)), some (.int (nI (ja))), some (.int (b)), some (.int (v)), some (.int (nI (q)))] [] (H (zrQ (upm (upm m (63) (ja) b) (64) (ja) v) 65 (40 * ja) q) ln N) 0 0 := by
                    intro r
                    induction r with
                    | zero =>
                      intro q hq
                      obtain rfl : q = 40 := by omega
                      refine g_iload m179_93 rfl ?_
                      refine g_bipush m179_95 ?_
                      refine h_ic_geT (xi := ((40 : Nat) : Int)) (zi := 40) m179_97 (nI_toInt (by omega)) rfl (by omega) ?_
                      refine g_iconst m179_119 ?_
                      refine g_iret m179_120 rt_179 ?_
                      first | (exfalso; omega) | (exact hY1 ja rfl (by omega) (by omega) (by omega) (by omega) (by omega))
                    | succ r ih =>
                      intro q hq
                      refine g_iload m179_93 rfl ?_
                      refine g_bipush m179_95 ?_
                      refine h_ic_geF (xi := ((q : Nat) : Int)) (zi := 40) m179_97 (nI_toInt (by omega)) rfl (by omega) ?_
                      refine g_aload_n m179_100 rfl ?_
                      refine h_gfR (c := 97) (k := 57) (p := 89) m179_101 rfl (t_57 _ _) rfl (Nat.le_of_ble_eq_true rfl) ?_
                      refine g_bipush m179_104 ?_
                      refine g_iload_n m179_106 rfl ?_
                      refine g_imul (u := nI (40 * ja)) m179_107 (pk_mul 40 ja) ?_
                      refine g_iload m179_108 rfl ?_
                      refine g_iadd (u := nI ((40 * ja) + q)) m179_110 (nI_add (40 * ja) q) ?_
                      refine g_iconst m179_111 ?_
                      refine h_ias (k := 65) (p := 97) (j := (40 * ja) + q) m179_112 rfl (t_65 _ _) (rfl) (by omega) (Nat.le_of_ble_eq_true rfl) ?_
                      refine g_iinc (L2 := [some (.ref (89)), some (.int (nI (ja))), some (.int (b)), some (.int (v)), some (.int (nI (q + 1)))]) m179_113 rfl (nI_1 _) rfl rfl ?_
                      refine g_goto m179_116 ?_
                      have h9 := ih (q + 1) (by omega)
                      rw [← zrQ_s] at h9
                      exact h9
                  have h9 := key 40 0 (by omega)
                  rw [zrQ_0] at h9
                  exact h9
              · skip
                refine g_iload_n m179_55 rfl ?_
                refine g_bipush m179_56 ?_
                refine h_ic_le (xi := v.toInt) (zi := 40) m179_58 rfl rfl (fun c38 => ?_) (fun c38 => ?_)
                · skip
                  refine g_aload_n m179_68 rfl ?_
                  refine h_gfR (c := 95) (k := 57) (p := 89) m179_69 rfl (t_57 _ _) rfl (Nat.le_of_ble_eq_true rfl) ?_
                  refine g_iload_n m179_72 rfl ?_
                  refine g_iload_n m179_73 rfl ?_
                  refine h_ias (k := 63) (p := 95) (j := ja) m179_74 rfl (t_63 _ _) (rfl) (by omega) (Nat.le_of_ble_eq_true rfl) ?_
                  refine g_aload_n m179_75 rfl ?_
                  refine h_gfR (c := 96) (k := 57) (p := 89) m179_76 rfl (t_57 _ _) rfl (Nat.le_of_ble_eq_true rfl) ?_
                  refine g_iload_n m179_79 rfl ?_
                  refine g_iload_n m179_80 rfl ?_
                  refine h_if_ne (xi := b.toInt) (zi := 0) m179_81 rfl rfl (fun c39 => ?_) (fun c39 => ?_)
                  · skip
                    refine g_iconst m179_84 ?_
                    refine g_goto m179_85 ?_
                    refine h_ias (k := 64) (p := 96) (j := ja) m179_89 rfl (t_64 _ _) (rfl) (by omega) (Nat.le_of_ble_eq_true rfl) ?_
                    refine g_iconst m179_90 ?_
                    refine g_istore (L2 := [some (.ref (89)), some (.int (nI (ja))), some (.int (b)), some (.int (v)), some (.int (0))]) m179_91 rfl rfl ?_
                    have hs : ja < 4 := by omega
                    have key : ∀ (r : Nat) (q : Nat), q + r = 40 → gw xs (WP xs (d + 2)) 179 Q 93 [some (.ref (89)), some (.int (nI (ja))), some (.int (b)), some (.int (v)), some (.int (nI (q)))] [] (H (zrQ (upm (upm m (63) (ja) b) (64) (ja) (0 : Int32)) 65 (40 * ja) q) ln N) 0 0 := by
                      intro r
                      induction r with
                      | zero =>
                        intro q hq
                        obtain rfl : q = 40 := by omega
                        refine g_iload m179_93 rfl ?_
                        refine g_bipush m179_95 ?_
                        refine h_ic_geT (xi := ((40 : Nat) : Int)) (zi := 40) m179_97 (nI_toInt (by omega)) rfl (by omega) ?_
                        refine g_iconst m179_119 ?_
                        refine g_iret m179_120 rt_179 ?_
                        first | (exfalso; omega) | (exact hY0 ja rfl (by omega) (by omega))
                      | succ r ih =>
                        intro q hq
                        refine g_iload m179_93 rfl ?_
                        refine g_bipush m179_95 ?_
                        refine h_ic_geF (xi := ((q : Nat) : Int)) (zi := 40) m179_97 (nI_toInt (by omega)) rfl (by omega) ?_
                        refine g_aload_n m179_100 rfl ?_
                        refine h_gfR (c := 97) (k := 57) (p := 89) m179_101 rfl (t_57 _ _) rfl (Nat.le_of_ble_eq_true rfl) ?_
                        refine g_bipush m179_104 ?_
                        refine g_iload_n m179_106 rfl ?_
                        refine g_imul (u := nI (40 * ja)) m179_107 (pk_mul 40 ja) ?_
                        refine g_iload m179_108 rfl ?_
                        refine g_iadd (u := nI ((40 * ja) + q)) m179_110 (nI_add (40 * ja) q) ?_
                        refine g_iconst m179_111 ?_
                        refine h_ias (k := 65) (p := 97) (j := (40 * ja) + q) m179_112 rfl (t_65 _ _) (rfl) (by omega) (Nat.le_of_ble_eq_true rfl) ?_
                        refine g_iinc (L2 := [some (.ref (89)), some (.int (nI (ja))), some (.int (b)), some (.int (v)), some (.int (nI (q + 1)))]) m179_113 rfl (nI_1 _) rfl rfl ?_
                        refine g_goto m179_116 ?_
                        have h9 := ih (q + 1) (by omega)
                        rw [← zrQ_s] at h9
                        exact h9
                    have h9 := key 40 0 (by omega)
                    rw [zrQ_0] at h9
                    exact h9
                  · skip
                    refine g_iload_n m179_88 rfl ?_
                    refine h_ias (k := 64) (p := 96) (j := ja) m179_89 rfl (t_64 _ _) (rfl) (by omega) (Nat.le_of_ble_eq_true rfl) ?_
                    refine g_iconst m179_90 ?_
                    refine g_istore (L2 := [some (.ref (89)), some (.int (nI (ja))), some (.int (b)), some (.int (v)), some (.int (0))]) m179_91 rfl rfl ?_
                    have hs : ja < 4 := by omega
                    have key : ∀ (r : Nat) (q : Nat), q + r = 40 → gw xs (WP xs (d + 2)) 179 Q 93 [some (.ref (89)), some (.int (nI (ja))), some (.int (b)), some (.int (v)), some (.int (nI (q)))] [] (H (zrQ (upm (upm m (63) (ja) b) (64) (ja) v) 65 (40 * ja) q) ln N) 0 0 := by
                      intro r
                      induction r with
                      | zero =>
                        intro q hq
                        obtain rfl : q = 40 := by omega
                        refine g_iload m179_93 rfl ?_
                        refine g_bipush m179_95 ?_
                        refine h_ic_geT (xi := ((40 : Nat) : Int)) (zi := 40) m179_97 (nI_toInt (by omega)) rfl (by omega) ?_
                        refine g_iconst m179_119 ?_
                        refine g_iret m179_120 rt_179 ?_
                        first | (exfalso; omega) | (exact hY1 ja rfl (by omega) (by omega) (by omega) (by omega) (by omega))
                      | succ r ih =>
                        intro q hq
                        refine g_iload m179_93 rfl ?_
                        refine g_bipush m179_95 ?_
                        refine h_ic_geF (xi := ((q : Nat) : Int)) (zi := 40) m179_97 (nI_toInt (by omega)) rfl (by omega) ?_
                        refine g_aload_n m179_100 rfl ?_
                        refine h_gfR (c := 97) (k := 57) (p := 89) m179_101 rfl (t_57 _ _) rfl (Nat.le_of_ble_eq_true rfl) ?_
                        refine g_bipush m179_104 ?_
                        refine g_iload_n m179_106 rfl ?_
                        refine g_imul (u := nI (40 * ja)) m179_107 (pk_mul 40 ja) ?_
                        refine g_iload m179_108 rfl ?_
                        refine g_iadd (u := nI ((40 * ja) + q)) m179_110 (nI_add (40 * ja) q) ?_
                        refine g_iconst m179_111 ?_
                        refine h_ias (k := 65) (p := 97) (j := (40 * ja) + q) m179_112 rfl (t_65 _ _) (rfl) (by omega) (Nat.le_of_ble_eq_true rfl) ?_
                        refine g_iinc (L2 := [some (.ref (89)), some (.int (nI (ja))), some (.int (b)), some (.int (v)), some (.int (nI (q + 1)))]) m179_113 rfl (nI_1 _) rfl rfl ?_
                        refine g_goto m179_116 ?_
                        have h9 := ih (q + 1) (by omega)
                        rw [← zrQ_s] at h9
                        exact h9
                    have h9 := key 40 0 (by omega)
                    rw [zrQ_0] at h9
                    exact h9
                · skip
                  refine g_aload_n m179_61 rfl ?_
                  refine g_ldci m179_62 rfl ?_
                  refine h_cv (k := 57) (p := 89) (args := [.int (-1000000001)]) (rest := []) m179_64 cn_108 (Nat.le_of_ble_eq_true rfl) rfl rfl rfl (t_57 _ _) (Nat.le_of_ble_eq_true rfl) ?_
                  refine c_errs (e := 1) (by decide) (by decide) (by decide) ?_
                  refine gwr ?_
                  refine g_iret m179_67 rt_179 ?_
                  first | (exfalso; omega) | (exact hE1 (by omega))
            · skip
              refine g_iload_n m179_40 rfl ?_
              refine h_if_ge (xi := v.toInt) (zi := 0) m179_41 rfl rfl (fun c40 => ?_) (fun c40 => ?_)
              · skip
                refine g_iload_n m179_51 rfl ?_
                refine h_if_eq (xi := b.toInt) (zi := 0) m179_52 rfl rfl (fun c41 => ?_) (fun c41 => ?_)
                · skip
                  refine g_aload_n m179_68 rfl ?_
                  refine h_gfR (c := 95) (k := 57) (p := 89) m179_69 rfl (t_57 _ _) rfl (Nat.le_of_ble_eq_true rfl) ?_
                  refine g_iload_n m179_72 rfl ?_
                  refine g_iload_n m179_73 rfl ?_
                  refine h_ias (k := 63) (p := 95) (j := ja) m179_74 rfl (t_63 _ _) (rfl) (by omega) (Nat.le_of_ble_eq_true rfl) ?_
                  refine g_aload_n m179_75 rfl ?_
                  refine h_gfR (c := 96) (k := 57) (p := 89) m179_76 rfl (t_57 _ _) rfl (Nat.le_of_ble_eq_true rfl) ?_
                  refine g_iload_n m179_79 rfl ?_
                  refine g_iload_n m179_80 rfl ?_
                  refine h_if_ne (xi := b.toInt) (zi := 0) m179_81 rfl rfl (fun c42 => ?_) (fun c42 => ?_)
                  · skip
                    refine g_iconst m179_84 ?_
                    refine g_goto m179_85 ?_
                    refine h_ias (k := 64) (p := 96) (j := ja) m179_89 rfl (t_64 _ _) (rfl) (by omega) (Nat.le_of_ble_eq_true rfl) ?_
                    refine g_iconst m179_90 ?_
                    refine g_istore (L2 := [some (.ref (89)), some (.int (nI (ja))), some (.int (b)), some (.int (v)), some (.int (0))]) m179_91 rfl rfl ?_
                    have hs : ja < 4 := by omega
                    have key : ∀ (r : Nat) (q : Nat), q + r = 40 → gw xs (WP xs (d + 2)) 179 Q 93 [some (.ref (89)), some (.int (nI (ja))), some (.int (b)), some (.int (v)), some (.int (nI (q)))] [] (H (zrQ (upm (upm m (63) (ja) b) (64) (ja) (0 : Int32)) 65 (40 * ja) q) ln N) 0 0 := by
                      intro r
                      induction r with
                      | zero =>
                        intro q hq
                        obtain rfl : q = 40 := by omega
                        refine g_iload m179_93 rfl ?_
                        refine g_bipush m179_95 ?_
                        refine h_ic_geT (xi := ((40 : Nat) : Int)) (zi := 40) m179_97 (nI_toInt (by omega)) rfl (by omega) ?_
                        refine g_iconst m179_119 ?_
                        refine g_iret m179_120 rt_179 ?_
                        first | (exfalso; omega) | (exact hY0 ja rfl (by omega) (by omega))
                      | succ r ih =>
                        intro q hq
                        refine g_iload m179_93 rfl ?_
                        refine g_bipush m179_95 ?_
                        refine h_ic_geF (xi := ((q : Nat) : Int)) (zi := 40) m179_97 (nI_toInt (by omega)) rfl (by omega) ?_
                        refine g_aload_n m179_100 rfl ?_
                        refine h_gfR (c := 97) (k := 57) (p := 89) m179_101 rfl (t_57 _ _) rfl (Nat.le_of_ble_eq_true rfl) ?_
                        refine g_bipush m179_104 ?_
                        refine g_iload_n m179_106 rfl ?_
                        refine g_imul (u := nI (40 * ja)) m179_107 (pk_mul 40 ja) ?_
                        refine g_iload m179_108 rfl ?_
                        refine g_iadd (u := nI ((40 * ja) + q)) m179_110 (nI_add (40 * ja) q) ?_
                        refine g_iconst m179_111 ?_
                        refine h_ias (k := 65) (p := 97) (j := (40 * ja) + q) m179_112 rfl (t_65 _ _) (rfl) (by omega) (Nat.le_of_ble_eq_true rfl) ?_
                        refine g_iinc (L2 := [some (.ref (89)), some (.int (nI (ja))), some (.int (b)), some (.int (v)), some (.int (nI (q + 1)))]) m179_113 rfl (nI_1 _) rfl rfl ?_
                        refine g_goto m179_116 ?_
                        have h9 := ih (q + 1) (by omega)
                        rw [← zrQ_s] at h9
                        exact h9
                    have h9 := key 40 0 (by omega)
                    rw [zrQ_0] at h9
                    exact h9
                  · skip
                    refine g_iload_n m179_88 rfl ?_
                    refine h_ias (k := 64) (p := 96) (j := ja) m179_89 rfl (t_64 _ _) (rfl) (by omega) (Nat.le_of_ble_eq_true rfl) ?_
                    refine g_iconst m179_90 ?_
                    refine g_istore (L2 := [some (.ref (89)), some (.int (nI (ja))), some (.int (b)), some (.int (v)), some (.int (0))]) m179_91 rfl rfl ?_
                    have hs : ja < 4 := by omega
                    have key : ∀ (r : Nat) (q : Nat), q + r = 40 → gw xs (WP xs (d + 2)) 179 Q 93 [some (.ref (89)), some (.int (nI (ja))), some (.int (b)), some (.int (v)), some (.int (nI (q)))] [] (H (zrQ (upm (upm m (63) (ja) b) (64) (ja) v) 65 (40 * ja) q) ln N) 0 0 := by
                      intro r
                      induction r with
                      | zero =>
                        intro q hq
                        obtain rfl : q = 40 := by omega
                        refine g_iload m179_93 rfl ?_
                        refine g_bipush m179_95 ?_
                        refine h_ic_geT (xi := ((40 : Nat) : Int)) (zi := 40) m179_97 (nI_toInt (by omega)) rfl (by omega) ?_
                        refine g_iconst m179_119 ?_
                        refine g_iret m179_120 rt_179 ?_
                        first | (exfalso; omega) | (exact hY1 ja rfl (by omega) (by omega) (by omega) (by omega) (by omega))
                      | succ r ih =>
                        intro q hq
                        refine g_iload m179_93 rfl ?_
                        refine g_bipush m179_95 ?_
                        refine h_ic_geF (xi := ((q : Nat) : Int)) (zi := 40) m179_97 (nI_toInt (by omega)) rfl (by omega) ?_
                        refine g_aload_n m179_100 rfl ?_
                        refine h_gfR (c := 97) (k := 57) (p := 89) m179_101 rfl (t_57 _ _) rfl (Nat.le_of_ble_eq_true rfl) ?_
                        refine g_bipush m179_104 ?_
                        refine g_iload_n m179_106 rfl ?_
                        refine g_imul (u := nI (40 * ja)) m179_107 (pk_mul 40 ja) ?_
                        refine g_iload m179_108 rfl ?_
                        refine g_iadd (u := nI ((40 * ja) + q)) m179_110 (nI_add (40 * ja) q) ?_
                        refine g_iconst m179_111 ?_
                        refine h_ias (k := 65) (p := 97) (j := (40 * ja) + q) m179_112 rfl (t_65 _ _) (rfl) (by omega) (Nat.le_of_ble_eq_true rfl) ?_
                        refine g_iinc (L2 := [some (.ref (89)), some (.int (nI (ja))), some (.int (b)), some (.int (v)), some (.int (nI (q + 1)))]) m179_113 rfl (nI_1 _) rfl rfl ?_
                        refine g_goto m179_116 ?_
                        have h9 := ih (q + 1) (by omega)
                        rw [← zrQ_s] at h9
                        exact h9
                    have h9 := key 40 0 (by omega)
                    rw [zrQ_0] at h9
                    exact h9
                · skip
                  refine g_iload_n m179_55 rfl ?_
                  refine g_bipush m179_56 ?_
                  refine h_ic_le (xi := v.toInt) (zi := 40) m179_58 rfl rfl (fun c43 => ?_) (fun c43 => ?_)
                  · skip
                    refine g_aload_n m179_68 rfl ?_
                    refine h_gfR (c := 95) (k := 57) (p := 89) m179_69 rfl (t_57 _ _) rfl (Nat.le_of_ble_eq_true rfl) ?_
                    refine g_iload_n m179_72 rfl ?_
                    refine g_iload_n m179_73 rfl ?_
                    refine h_ias (k := 63) (p := 95) (j := ja) m179_74 rfl (t_63 _ _) (rfl) (by omega) (Nat.le_of_ble_eq_true rfl) ?_
                    refine g_aload_n m179_75 rfl ?_
                    refine h_gfR (c := 96) (k := 57) (p := 89) m179_76 rfl (t_57 _ _) rfl (Nat.le_of_ble_eq_true rfl) ?_
                    refine g_iload_n m179_79 rfl ?_
                    refine g_iload_n m179_80 rfl ?_
                    refine h_if_ne (xi := b.toInt) (zi := 0) m179_81 rfl rfl (fun c44 => ?_) (fun c44 => ?_)
                    · skip
                      refine g_iconst m179_84 ?_
                      refine g_goto m179_85 ?_
                      refine h_ias (k := 64) (p := 96) (j := ja) m179_89 rfl (t_64 _ _) (rfl) (by omega) (Nat.le_of_ble_eq_true rfl) ?_
                      refine g_iconst m179_90 ?_
                      refine g_istore (L2 := [some (.ref (89)), some (.int (nI (ja))), some (.int (b)), some (.int (v)), some (.int (0))]) m179_91 rfl rfl ?_
                      have hs : ja < 4 := by omega
                      have key : ∀ (r : Nat) (q : Nat), q + r = 40 → gw xs (WP xs (d + 2)) 179 Q 93 [some (.ref (89)), some (.int (nI (ja))), some (.int (b)), some (.int (v)), some (.int (nI (q)))] [] (H (zrQ (upm (upm m (63) (ja) b) (64) (ja) (0 : Int32)) 65 (40 * ja) q) ln N) 0 0 := by
                        intro r
                        induction r with
                        | zero =>
                          intro q hq
                          obtain rfl : q = 40 := by omega
                          refine g_iload m179_93 rfl ?_
                          refine g_bipush m179_95 ?_
                          refine h_ic_geT (xi := ((40 : Nat) : Int)) (zi := 40) m179_97 (nI_toInt (by omega)) rfl (by omega) ?_
                          refine g_iconst m179_119 ?_
                          refine g_iret m179_120 rt_179 ?_
                          first | (exfalso; omega) | (exact hY0 ja rfl (by omega) (by omega))
                        | succ r ih =>
                          intro q hq
                          refine g_iload m179_93 rfl ?_
                          refine g_bipush m179_95 ?_
                          refine h_ic_geF (xi := ((q : Nat) : Int)) (zi := 40) m179_97 (nI_toInt (by omega)) rfl (by omega) ?_
                          refine g_aload_n m179_100 rfl ?_
                          refine h_gfR (c := 97) (k := 57) (p := 89) m179_101 rfl (t_57 _ _) rfl (Nat.le_of_ble_eq_true rfl) ?_
                          refine g_bipush m179_104 ?_
                          refine g_iload_n m179_106 rfl ?_
                          refine g_imul (u := nI (40 * ja)) m179_107 (pk_mul 40 ja) ?_
                          refine g_iload m179_108 rfl ?_
                          refine g_iadd (u := nI ((40 * ja) + q)) m179_110 (nI_add (40 * ja) q) ?_
                          refine g_iconst m179_111 ?_
                          refine h_ias (k := 65) (p := 97) (j := (40 * ja) + q) m179_112 rfl (t_65 _ _) (rfl) (by omega) (Nat.le_of_ble_eq_true rfl) ?_
                          refine g_iinc (L2 := [some (.ref (89)), some (.int (nI (ja))), some (.int (b)), some (.int (v)), some (.int (nI (q + 1)))]) m179_113 rfl (nI_1 _) rfl rfl ?_
                          refine g_goto m179_116 ?_
                          have h9 := ih (q + 1) (by omega)
                          rw [← zrQ_s] at h9
                          exact h9
                      have h9 := key 40 0 (by omega)
                      rw [zrQ_0] at h9
                      exact h9
                    · skip
                      refine g_iload_n m179_88 rfl ?_
                      refine h_ias (k := 64) (p := 96) (j := ja) m179_89 rfl (t_64 _ _) (rfl) (by omega) (Nat.le_of_ble_eq_true rfl) ?_
                      refine g_iconst m179_90 ?_
                      refine g_istore (L2 := [some (.ref (89)), some (.int (nI (ja))), some (.int (b)), some (.int (v)), some (.int (0))]) m179_91 rfl rfl ?_
                      have hs : ja < 4 := by omega
                      have key : ∀ (r : Nat) (q : Nat), q + r = 40 → gw xs (WP xs (d + 2)) 179 Q 93 [some (.ref (89)), some (.int (nI (ja))), some (.int (b)), some (.int (v)), some (.int (nI (q)))] [] (H (zrQ (upm (upm m (63) (ja) b) (64) (ja) v) 65 (40 * ja) q) ln N) 0 0 := by
                        intro r
                        induction r with
                        | zero =>
                          intro q hq
                          obtain rfl : q = 40 := by omega
                          refine g_iload m179_93 rfl ?_
                          refine g_bipush m179_95 ?_
                          refine h_ic_geT (xi := ((40 : Nat) : Int)) (zi := 40) m179_97 (nI_toInt (by omega)) rfl (by omega) ?_
                          refine g_iconst m179_119 ?_
                          refine g_iret m179_120 rt_179 ?_
                          first | (exfalso; omega) | (exact hY1 ja rfl (by omega) (by omega) (by omega) (by omega) (by omega))
                        | succ r ih =>
                          intro q hq
                          refine g_iload m179_93 rfl ?_
                          refine g_bipush m179_95 ?_
                          refine h_ic_geF (xi := ((q : Nat) : Int)) (zi := 40) m179_97 (nI_toInt (by omega)) rfl (by omega) ?_
                          refine g_aload_n m179_100 rfl ?_
                          refine h_gfR (c := 97) (k := 57) (p := 89) m179_101 rfl (t_57 _ _) rfl (Nat.le_of_ble_eq_true rfl) ?_
                          refine g_bipush m179_104 ?_
                          refine g_iload_n m179_106 rfl ?_
                          refine g_imul (u := nI (40 * ja)) m179_107 (pk_mul 40 ja) ?_
                          refine g_iload m179_108 rfl ?_
                          refine g_iadd (u := nI ((40 * ja) + q)) m179_110 (nI_add (40 * ja) q) ?_
                          refine g_iconst m179_111 ?_
                          refine h_ias (k := 65) (p := 97) (j := (40 * ja) + q) m179_112 rfl (t_65 _ _) (rfl) (by omega) (Nat.le_of_ble_eq_true rfl) ?_
                          refine g_iinc (L2 := [some (.ref (89)), some (.int (nI (ja))), some (.int (b)), some (.int (v)), some (.int (nI (q + 1)))]) m179_113 rfl (nI_1 _) rfl rfl ?_
                          refine g_goto m179_116 ?_
                          have h9 := ih (q + 1) (by omega)
                          rw [← zrQ_s] at h9
                          exact h9
                      have h9 := key 40 0 (by omega)
                      rw [zrQ_0] at h9
                      exact h9
                  · skip
                    refine g_aload_n m179_61 rfl ?_
                    refine g_ldci m179_62 rfl ?_
                    refine h_cv (k := 57) (p := 89) (args := [.int (-1000000001)]) (rest := []) m179_64 cn_108 (Nat.le_of_ble_eq_true rfl) rfl rfl rfl (t_57 _ _) (Nat.le_of_ble_eq_true rfl) ?_
                    refine c_errs (e := 1) (by decide) (by decide) (by decide) ?_
                    refine gwr ?_
                    refine g_iret m179_67 rt_179 ?_
                    first | (exfalso; omega) | (exact hE1 (by omega))
              · skip
                refine g_aload_n m179_44 rfl ?_
                refine g_ldci m179_45 rfl ?_
                refine h_cv (k := 57) (p := 89) (args := [.int (-1000000003)]) (rest := []) m179_47 cn_108 (Nat.le_of_ble_eq_true rfl) rfl rfl rfl (t_57 _ _) (Nat.le_of_ble_eq_true rfl) ?_
                refine c_errs (e := 3) (by decide) (by decide) (by decide) ?_
                refine gwr ?_
                refine g_iret m179_50 rt_179 ?_
                first | (exfalso; omega) | (exact hE3 ⟨ja, rfl, by omega, by omega, by omega, by omega⟩)
          · skip
            refine g_aload_n m179_29 rfl ?_
            refine g_ldci m179_30 rfl ?_
            refine h_cv (k := 57) (p := 89) (args := [.int (-1000000001)]) (rest := []) m179_32 cn_108 (Nat.le_of_ble_eq_true rfl) rfl rfl rfl (t_57 _ _) (Nat.le_of_ble_eq_true rfl) ?_
            refine c_errs (e := 1) (by decide) (by decide) (by decide) ?_
            refine gwr ?_
            refine g_iret m179_35 rt_179 ?_
            first | (exfalso; omega) | (exact hE1 (by omega))
  · skip
    refine gwr ?_
    refine h_if_eqT (xi := 0) (zi := 0) m179_4 rfl rfl (by decide) ?_
    refine g_aload_n m179_29 rfl ?_
    refine g_ldci m179_30 rfl ?_
    refine h_cv (k := 57) (p := 89) (args := [.int (-1000000001)]) (rest := []) m179_32 cn_108 (Nat.le_of_ble_eq_true rfl) rfl rfl rfl (t_57 _ _) (Nat.le_of_ble_eq_true rfl) ?_
    refine c_errs (e := 1) (by decide) (by decide) (by decide) ?_
    refine gwr ?_
    refine g_iret m179_35 rt_179 ?_
    first | (exfalso; omega) | (exact hE1 (by omega))
set_option maxRecDepth 20000 in
set_option maxHeartbeats 40000000 in
theorem c_lowest {s b : Nat} {v : Int32} (hs : s < 4) (hb : b = 0 ∨ b = 8 ∨ b = 16 ∨ b = 32) (hbm : m (48 + 2 * s) 0 = nI b) (hQ : Q (some (.int (lowF b v))) (H m ln N)) : WP xs (d + 1) 28 0 0 [.ref (80 + 2 * s), .int (v)] (H m ln N) Q := by
  refine wp_x mx_28 (L := [some (.ref (80 + 2 * s)), some (.int (v))]) (Nat.le_of_ble_eq_true rfl) rfl ?_
  rcases hb with rfl | rfl | rfl | rfl
  · skip
    refine g_aload_n m28_0 rfl ?_
    refine h_gfI (k := 48 + 2 * s) (p := 80 + 2 * s) m28_1 (pSo _) (tSo hs) rfl (hbm) ?_
    refine g_bipush m28_4 ?_
    refine h_ic_neF (xi := 0) (zi := 8) m28_6 rfl rfl (by decide) ?_
    refine g_aload_n m28_17 rfl ?_
    refine h_gfI (k := 48 + 2 * s) (p := 80 + 2 * s) m28_18 (pSo _) (tSo hs) rfl (hbm) ?_
    refine g_bipush m28_21 ?_
    refine h_ic_neF (xi := 0) (zi := 16) m28_23 rfl rfl (by decide) ?_
    refine g_iload_n m28_33 rfl ?_
    refine g_iret m28_34 rt_28 ?_
    exact hQ
  · skip
    refine g_aload_n m28_0 rfl ?_
    refine h_gfI (k := 48 + 2 * s) (p := 80 + 2 * s) m28_1 (pSo _) (tSo hs) rfl (hbm) ?_
    refine g_bipush m28_4 ?_
    refine h_ic_neT (xi := 8) (zi := 8) m28_6 rfl rfl (by decide) ?_
    refine g_iload_n m28_9 rfl ?_
    refine g_sipush m28_10 ?_
    refine g_iand m28_13 rfl ?_
    refine g_goto m28_14 ?_
    refine g_iret m28_34 rt_28 ?_
    exact hQ
  · skip
    refine g_aload_n m28_0 rfl ?_
    refine h_gfI (k := 48 + 2 * s) (p := 80 + 2 * s) m28_1 (pSo _) (tSo hs) rfl (hbm) ?_
    refine g_bipush m28_4 ?_
    refine h_ic_neF (xi := 16) (zi := 8) m28_6 rfl rfl (by decide) ?_
    refine g_aload_n m28_17 rfl ?_
    refine h_gfI (k := 48 + 2 * s) (p := 80 + 2 * s) m28_18 (pSo _) (tSo hs) rfl (hbm) ?_
    refine g_bipush m28_21 ?_
    refine h_ic_neT (xi := 16) (zi := 16) m28_23 rfl rfl (by decide) ?_
    refine g_iload_n m28_26 rfl ?_
    refine g_ldci m28_27 rfl ?_
    refine g_iand m28_29 rfl ?_
    refine g_goto m28_30 ?_
    refine g_iret m28_34 rt_28 ?_
    exact hQ
  · skip
    refine g_aload_n m28_0 rfl ?_
    refine h_gfI (k := 48 + 2 * s) (p := 80 + 2 * s) m28_1 (pSo _) (tSo hs) rfl (hbm) ?_
    refine g_bipush m28_4 ?_
    refine h_ic_neF (xi := 32) (zi := 8) m28_6 rfl rfl (by decide) ?_
    refine g_aload_n m28_17 rfl ?_
    refine h_gfI (k := 48 + 2 * s) (p := 80 + 2 * s) m28_18 (pSo _) (tSo hs) rfl (hbm) ?_
    refine g_bipush m28_21 ?_
    refine h_ic_neF (xi := 32) (zi := 16) m28_23 rfl rfl (by decide) ?_
    refine g_iload_n m28_33 rfl ?_
    refine g_iret m28_34 rt_28 ?_
    exact hQ
set_option maxRecDepth 20000 in
set_option maxHeartbeats 40000000 in
theorem c_narrow {b : Nat} {v : Int32} (hb : b = 0 ∨ b = 8 ∨ b = 16 ∨ b = 32) (hQ : Q (some (.int (narF b v))) h) : WP xs (d + 1) 178 0 0 [.int (nI (b)), .int (v)] h Q := by
  refine wp_x mx_178 (L := [some (.int (nI (b))), some (.int (v))]) (Nat.le_of_ble_eq_true rfl) rfl ?_
  rcases hb with rfl | rfl | rfl | rfl
  · skip
    refine gwl (L' := [some (.int (0)), some (.int (v))]) rfl ?_
    refine g_iload_n m178_0 rfl ?_
    refine g_bipush m178_1 ?_
    refine h_ic_neF (xi := 0) (zi := 8) m178_3 rfl rfl (by decide) ?_
    refine g_iload_n m178_11 rfl ?_
    refine g_bipush m178_12 ?_
    refine h_ic_neF (xi := 0) (zi := 16) m178_14 rfl rfl (by decide) ?_
    refine g_iload_n m178_22 rfl ?_
    refine g_iret m178_23 rt_178 ?_
    exact hQ
  · skip
    refine gwl (L' := [some (.int (8)), some (.int (v))]) rfl ?_
    refine g_iload_n m178_0 rfl ?_
    refine g_bipush m178_1 ?_
    refine h_ic_neT (xi := 8) (zi := 8) m178_3 rfl rfl (by decide) ?_
    refine g_iload_n m178_6 rfl ?_
    refine g_i2b m178_7 rfl ?_
    refine g_goto m178_8 ?_
    refine g_iret m178_23 rt_178 ?_
    exact hQ
  · skip
    refine gwl (L' := [some (.int (16)), some (.int (v))]) rfl ?_
    refine g_iload_n m178_0 rfl ?_
    refine g_bipush m178_1 ?_
    refine h_ic_neF (xi := 16) (zi := 8) m178_3 rfl rfl (by decide) ?_
    refine g_iload_n m178_11 rfl ?_
    refine g_bipush m178_12 ?_
    refine h_ic_neT (xi := 16) (zi := 16) m178_14 rfl rfl (by decide) ?_
    refine g_iload_n m178_17 rfl ?_
    refine g_i2s m178_18 rfl ?_
    refine g_goto m178_19 ?_
    refine g_iret m178_23 rt_178 ?_
    exact hQ
  · skip
    refine gwl (L' := [some (.int (32)), some (.int (v))]) rfl ?_
    refine g_iload_n m178_0 rfl ?_
    refine g_bipush m178_1 ?_
    refine h_ic_neF (xi := 32) (zi := 8) m178_3 rfl rfl (by decide) ?_
    refine g_iload_n m178_11 rfl ?_
    refine g_bipush m178_12 ?_
    refine h_ic_neF (xi := 32) (zi := 16) m178_14 rfl rfl (by decide) ?_
    refine g_iload_n m178_22 rfl ?_
    refine g_iret m178_23 rt_178 ?_
    exact hQ
set_option maxRecDepth 20000 in
set_option maxHeartbeats 40000000 in
theorem x_put {a i v : Int32} {B Ln : Nat → Nat} (hB : ∀ s, s < 4 → (B s = 0 ∨ B s = 8 ∨ B s = 16 ∨ B s = 32) ∧ Ln s ≤ 40 ∧ m (48 + 2 * s) 0 = nI (B s) ∧ m (48 + 2 * s) 1 = nI (Ln s)) (hE1 : ((a.toInt < 0 ∨ 3 < a.toInt) ∨ ∃ s : Nat, a = nI s ∧ s < 4 ∧ B s ≠ 0 ∧ (i.toInt < 0 ∨ (Ln s : Int) ≤ i.toInt)) → Q (some (.int (-1000000000 - nI 1))) (H (erm m 1) ln N)) (hE2 : (∃ s : Nat, a = nI s ∧ s < 4 ∧ B s = 0) → Q (some (.int (-1000000000 - nI 2))) (H (erm m 2) ln N)) (hY : ∀ s i2 : Nat, a = nI s → s < 4 → B s ≠ 0 → i = nI i2 → i2 < Ln s → Q (some (.int 1)) (H (upm m (49 + 2 * s) i2 (lowF (B s) v)) ln N)) : WP xs (d + 3) 96 0 0 [.ref (32), .int (a), .int (i), .int (v)] (H m ln N) Q := by
  refine wp_x mx_96 (L := [some (.ref (32)), some (.int (a)), some (.int (i)), some (.int (v)), none]) (Nat.le_of_ble_eq_true rfl) rfl ?_
  refine g_iload_n m96_0 rfl ?_
  refine g_iconst m96_1 ?_
  refine g_cs (args := [.int (a), .int (3)]) (rest := []) 0 (Or.inl rfl) m96_2 (Nat.le_of_ble_eq_true rfl) rfl rfl (Nat.le_of_ble_eq_true rfl) ?_
  refine c_within (M := 3) rfl (fun ja ea a_3 => ?_) (fun a_3 => ?_)
  · subst ea
    refine gwr ?_
    refine h_if_neF (xi := 1) (zi := 0) m96_5 rfl rfl (by decide) ?_
    refine g_aload_n m96_14 rfl ?_
    refine h_gfR (c := 79) (k := 0) (p := 32) m96_15 rfl (t_0 _ _) rfl (Nat.le_of_ble_eq_true rfl) ?_
    refine g_iload_n m96_18 rfl ?_
    have hs : ja < 4 := by omega
    have hBa := hB ja hs
    refine h_aald (j := ja) (c := 80 + 2 * ja) m96_19 rfl (t_47 _ _) (rfl) (sh_at hs) (le3 (Nat.le_of_ble_eq_true rfl)) (Nat.le_of_ble_eq_true rfl) ?_
    refine g_astore (L2 := [some (.ref (32)), some (.int (nI (ja))), some (.int (i)), some (.int (v)), some (.ref (80 + 2 * ja))]) m96_20 rfl rfl ?_
    refine g_aload m96_22 rfl ?_
    refine h_gfI (k := 48 + 2 * ja) (p := 80 + 2 * ja) m96_24 (pSo _) (tSo hs) rfl (hBa.2.2.1) ?_
    refine h_if_ne (xi := ((B ja : Nat) : Int)) (zi := 0) m96_27 (nI_toInt (by omega)) rfl (fun c1 => ?_) (fun c1 => ?_)
    · skip
      refine g_aload_n m96_30 rfl ?_
      refine g_iconst m96_31 ?_
      refine h_cv (k := 0) (p := 32) (args := [.int (2)]) (rest := []) m96_32 cn_55 (Nat.le_of_ble_eq_true rfl) rfl rfl rfl (t_0 _ _) (Nat.le_of_ble_eq_true rfl) ?_
      refine c_error (e := 2) (by decide) (by decide) ?_
      refine gwr ?_
      refine g_iret m96_35 rt_96 ?_
      exact hE2 ⟨ja, rfl, by omega, by omega⟩
    · skip
      refine g_iload_n m96_36 rfl ?_
      refine h_if_lt (xi := i.toInt) (zi := 0) m96_37 rfl rfl (fun c2 => ?_) (fun c2 => ?_)
      · skip
        refine g_aload_n m96_49 rfl ?_
        refine g_iconst m96_50 ?_
        refine h_cv (k := 0) (p := 32) (args := [.int (1)]) (rest := []) m96_51 cn_55 (Nat.le_of_ble_eq_true rfl) rfl rfl rfl (t_0 _ _) (Nat.le_of_ble_eq_true rfl) ?_
        refine c_error (e := 1) (by decide) (by decide) ?_
        refine gwr ?_
        refine g_iret m96_54 rt_96 ?_
        first | (exact hE1 (Or.inl (by omega))) | (exact hE1 (Or.inr ⟨ja, rfl, by omega, by omega, by omega⟩))
      · skip
        refine g_iload_n m96_40 rfl ?_
        refine g_aload m96_41 rfl ?_
        refine h_gfI (k := 48 + 2 * ja) (p := 80 + 2 * ja) m96_43 (pSo _) (tSo hs) rfl (hBa.2.2.2) ?_
        refine h_ic_lt (xi := i.toInt) (zi := ((Ln ja : Nat) : Int)) m96_46 rfl (nI_toInt (by omega)) (fun c3 => ?_) (fun c3 => ?_)
        · skip
          obtain ⟨ji, ⟨hi1, hi2⟩, hi3⟩ := nat_of (x := i) (lo := 0) (hi := Ln ja) (by omega) (by omega)
          have ei : i.toInt = (ji : Int) := by rw [hi3]; exact nI_toInt (by omega)
          obtain rfl : i = nI ji := hi3
          refine g_aload m96_55 rfl ?_
          refine h_gfR (c := 81 + 2 * ja) (k := 48 + 2 * ja) (p := 80 + 2 * ja) m96_57 (pSo _) (tSo hs) rfl (le3 (Nat.le_of_ble_eq_true rfl)) ?_
          refine g_iload_n m96_60 rfl ?_
          refine g_aload m96_61 rfl ?_
          refine g_iload_n m96_63 rfl ?_
          refine h_cv (k := 48 + 2 * ja) (p := 80 + 2 * ja) (args := [.int (v)]) (rest := [.int (nI (ji)), .ref (81 + 2 * ja)]) m96_64 cn_28 (Nat.le_of_ble_eq_true rfl) rfl rfl (pSo _) (tSo hs) (Nat.le_of_ble_eq_true rfl) ?_
          refine c_lowest hs hBa.1 hBa.2.2.1 ?_
          refine gwr ?_
          refine h_ias (k := 49 + 2 * ja) (p := 81 + 2 * ja) (j := ji) m96_67 (pSn _) (tSn hs) (rfl) (by omega) (Nat.le_of_ble_eq_true rfl) ?_
          refine g_iconst m96_68 ?_
          refine g_iret m96_69 rt_96 ?_
          exact hY ja ji rfl (by omega) (by omega) rfl (by omega)
        · skip
          refine g_aload_n m96_49 rfl ?_
          refine g_iconst m96_50 ?_
          refine h_cv (k := 0) (p := 32) (args := [.int (1)]) (rest := []) m96_51 cn_55 (Nat.le_of_ble_eq_true rfl) rfl rfl rfl (t_0 _ _) (Nat.le_of_ble_eq_true rfl) ?_
          refine c_error (e := 1) (by decide) (by decide) ?_
          refine gwr ?_
          refine g_iret m96_54 rt_96 ?_
          first | (exact hE1 (Or.inl (by omega))) | (exact hE1 (Or.inr ⟨ja, rfl, by omega, by omega, by omega⟩))
  · skip
    refine gwr ?_
    refine h_if_neT (xi := 0) (zi := 0) m96_5 rfl rfl (by decide) ?_
    refine g_aload_n m96_8 rfl ?_
    refine g_iconst m96_9 ?_
    refine h_cv (k := 0) (p := 32) (args := [.int (1)]) (rest := []) m96_10 cn_55 (Nat.le_of_ble_eq_true rfl) rfl rfl rfl (t_0 _ _) (Nat.le_of_ble_eq_true rfl) ?_
    refine c_error (e := 1) (by decide) (by decide) ?_
    refine gwr ?_
    refine g_iret m96_13 rt_96 ?_
    first | (exact hE1 (Or.inl (by omega))) | (exact hE1 (Or.inr ⟨ja, rfl, by omega, by omega, by omega⟩))
set_option maxRecDepth 20000 in
set_option maxHeartbeats 40000000 in
theorem m_put {a i v : Int32} {B Ln : Nat → Nat} (hB : ∀ s, s < 4 → (B s = 0 ∨ B s = 8 ∨ B s = 16 ∨ B s = 32) ∧ Ln s ≤ 40 ∧ m 63 s = nI (B s) ∧ m 64 s = nI (Ln s)) (hE1 : ((a.toInt < 0 ∨ 3 < a.toInt) ∨ ∃ s : Nat, a = nI s ∧ s < 4 ∧ B s ≠ 0 ∧ (i.toInt < 0 ∨ (Ln s : Int) ≤ i.toInt)) → Q (some (.int (-1000000001))) (H (ers m 1) ln N)) (hE2 : (∃ s : Nat, a = nI s ∧ s < 4 ∧ B s = 0) → Q (some (.int (-1000000002))) (H (ers m 2) ln N)) (hY : ∀ s i2 : Nat, a = nI s → s < 4 → B s ≠ 0 → i = nI i2 → i2 < Ln s → Q (some (.int 1)) (H (upm m 65 (40 * s + i2) (narF (B s) v)) ln N)) : WP xs (d + 3) 180 0 0 [.ref (89), .int (a), .int (i), .int (v)] (H m ln N) Q := by
  refine wp_x mx_180 (L := [some (.ref (89)), some (.int (a)), some (.int (i)), some (.int (v))]) (Nat.le_of_ble_eq_true rfl) rfl ?_
  refine g_iload_n m180_0 rfl ?_
  refine g_cs (args := [.int (a)]) (rest := []) 0 (Or.inl rfl) m180_1 (Nat.le_of_ble_eq_true rfl) rfl rfl (Nat.le_of_ble_eq_true rfl) ?_
  refine c_isSheet (fun ja ea a_4 => ?_) (fun a_4 => ?_)
  · subst ea
    refine gwr ?_
    refine h_if_neF (xi := 1) (zi := 0) m180_4 rfl rfl (by decide) ?_
    refine g_aload_n m180_14 rfl ?_
    refine h_gfR (c := 95) (k := 57) (p := 89) m180_15 rfl (t_57 _ _) rfl (Nat.le_of_ble_eq_true rfl) ?_
    refine g_iload_n m180_18 rfl ?_
    have hs : ja < 4 := by omega
    have hBa := hB ja hs
    refine h_ial (k := 63) (p := 95) (j := ja) m180_19 rfl (t_63 _ _) (rfl) (by omega) (Nat.le_of_ble_eq_true rfl) (hBa.2.2.1) ?_
    refine h_if_ne (xi := ((B ja : Nat) : Int)) (zi := 0) m180_20 (nI_toInt (by omega)) rfl (fun c1 => ?_) (fun c1 => ?_)
    · skip
      refine g_aload_n m180_23 rfl ?_
      refine g_ldci m180_24 rfl ?_
      refine h_cv (k := 57) (p := 89) (args := [.int (-1000000002)]) (rest := []) m180_26 cn_108 (Nat.le_of_ble_eq_true rfl) rfl rfl rfl (t_57 _ _) (Nat.le_of_ble_eq_true rfl) ?_
      refine c_errs (e := 2) (by decide) (by decide) (by decide) ?_
      refine gwr ?_
      refine g_iret m180_29 rt_180 ?_
      exact hE2 ⟨ja, rfl, by omega, by omega⟩
    · skip
      refine g_iload_n m180_30 rfl ?_
      refine g_iconst m180_31 ?_
      refine g_aload_n m180_32 rfl ?_
      refine h_gfR (c := 96) (k := 57) (p := 89) m180_33 rfl (t_57 _ _) rfl (Nat.le_of_ble_eq_true rfl) ?_
      refine g_iload_n m180_36 rfl ?_
      refine h_ial (k := 64) (p := 96) (j := ja) m180_37 rfl (t_64 _ _) (rfl) (by omega) (Nat.le_of_ble_eq_true rfl) (hBa.2.2.2) ?_
      refine g_iconst m180_38 ?_
      refine g_isub m180_39 rfl ?_
      refine g_cs (args := [.int (i), .int (0), .int ((nI (Ln ja) - 1))]) (rest := []) 0 (Or.inl rfl) m180_40 (Nat.le_of_ble_eq_true rfl) rfl rfl (Nat.le_of_ble_eq_true rfl) ?_
      refine c_in (A := 0) (B := (((Ln ja : Nat) : Int) - 1)) rfl (by rw [sub_k (a := ((Ln ja : Nat) : Int)) (b := 1) (nI_toInt (by omega)) rfl (by omega) (by omega)]) (by decide) (fun ji ei a_5 a_5' => ?_) (fun a_5 => ?_)
      · subst ei
        refine gwr ?_
        refine h_if_neF (xi := 1) (zi := 0) m180_43 rfl rfl (by decide) ?_
        refine g_aload_n m180_53 rfl ?_
        refine h_gfR (c := 97) (k := 57) (p := 89) m180_54 rfl (t_57 _ _) rfl (Nat.le_of_ble_eq_true rfl) ?_
        refine g_bipush m180_57 ?_
        refine g_iload_n m180_59 rfl ?_
        refine g_imul (u := nI (40 * ja)) m180_60 (pk_mul 40 ja) ?_
        refine g_iload_n m180_61 rfl ?_
        refine g_iadd (u := nI ((40 * ja) + ji)) m180_62 (nI_add (40 * ja) ji) ?_
        refine g_aload_n m180_63 rfl ?_
        refine h_gfR (c := 95) (k := 57) (p := 89) m180_64 rfl (t_57 _ _) rfl (Nat.le_of_ble_eq_true rfl) ?_
        refine g_iload_n m180_67 rfl ?_
        refine h_ial (k := 63) (p := 95) (j := ja) m180_68 rfl (t_63 _ _) (rfl) (by omega) (Nat.le_of_ble_eq_true rfl) (hBa.2.2.1) ?_
        refine g_iload_n m180_69 rfl ?_
        refine g_cs (args := [.int (nI (B ja)), .int (v)]) (rest := [.int (nI ((40 * ja) + ji)), .ref (97)]) 0 (Or.inl rfl) m180_70 (Nat.le_of_ble_eq_true rfl) rfl rfl (Nat.le_of_ble_eq_true rfl) ?_
        refine c_narrow hBa.1 ?_
        refine gwr ?_
        refine h_ias (k := 65) (p := 97) (j := (40 * ja) + ji) m180_73 rfl (t_65 _ _) (rfl) (by omega) (Nat.le_of_ble_eq_true rfl) ?_
        refine g_iconst m180_74 ?_
        refine g_iret m180_75 rt_180 ?_
        exact hY ja ji rfl (by omega) (by omega) rfl (by omega)
      · skip
        refine gwr ?_
        refine h_if_neT (xi := 0) (zi := 0) m180_43 rfl rfl (by decide) ?_
        refine g_aload_n m180_46 rfl ?_
        refine g_ldci m180_47 rfl ?_
        refine h_cv (k := 57) (p := 89) (args := [.int (-1000000001)]) (rest := []) m180_49 cn_108 (Nat.le_of_ble_eq_true rfl) rfl rfl rfl (t_57 _ _) (Nat.le_of_ble_eq_true rfl) ?_
        refine c_errs (e := 1) (by decide) (by decide) (by decide) ?_
        refine gwr ?_
        refine g_iret m180_52 rt_180 ?_
        first | (exact hE1 (Or.inl (by omega))) | (exact hE1 (Or.inr ⟨ja, rfl, by omega, by omega, by omega⟩))
  · skip
    refine gwr ?_
    refine h_if_neT (xi := 0) (zi := 0) m180_4 rfl rfl (by decide) ?_
    refine g_aload_n m180_7 rfl ?_
    refine g_ldci m180_8 rfl ?_
    refine h_cv (k := 57) (p := 89) (args := [.int (-1000000001)]) (rest := []) m180_10 cn_108 (Nat.le_of_ble_eq_true rfl) rfl rfl rfl (t_57 _ _) (Nat.le_of_ble_eq_true rfl) ?_
    refine c_errs (e := 1) (by decide) (by decide) (by decide) ?_
    refine gwr ?_
    refine g_iret m180_13 rt_180 ?_
    first | (exact hE1 (Or.inl (by omega))) | (exact hE1 (Or.inr ⟨ja, rfl, by omega, by omega, by omega⟩))
set_option maxRecDepth 20000 in
set_option maxHeartbeats 40000000 in
theorem x_shams {a : Int32} {n : Nat} {B Ln : Nat → Nat} (hd : m 1 10 = nI n) (hn : n ≤ 8) (hB : ∀ s, s < 4 → (B s = 0 ∨ B s = 8 ∨ B s = 16 ∨ B s = 32) ∧ Ln s ≤ 40 ∧ m (48 + 2 * s) 0 = nI (B s) ∧ m (48 + 2 * s) 1 = nI (Ln s)) (hE1 : (a.toInt < 0 ∨ 3 < a.toInt) → Q (some (.int (-1000000000 - nI 1))) (H (erm m 1) ln N)) (hE2 : (∃ s : Nat, a = nI s ∧ s < 4 ∧ B s = 0) → Q (some (.int (-1000000000 - nI 2))) (H (erm m 2) ln N)) (hY : ∀ s : Nat, a = nI s → s < 4 → B s ≠ 0 → Q (some (.int (nI (runF (fun q => decide (0 ≤ (m (49 + 2 * s) q).toInt ∧ (m (49 + 2 * s) q).toInt ≤ 9)) (min (Ln s) n) 0)))) (H (shM m (49 + 2 * s) (runF (fun q => decide (0 ≤ (m (49 + 2 * s) q).toInt ∧ (m (49 + 2 * s) q).toInt ≤ 9)) (min (Ln s) n) 0)) ln N)) : WP xs (d + 2) 98 0 0 [.ref (32), .int (a)] (H m ln N) Q := by
  refine wp_x mx_98 (L := [some (.ref (32)), some (.int (a)), none, none, none]) (Nat.le_of_ble_eq_true rfl) rfl ?_
  refine g_iload_n m98_0 rfl ?_
  refine g_iconst m98_1 ?_
  refine g_cs (args := [.int (a), .int (3)]) (rest := []) 0 (Or.inl rfl) m98_2 (Nat.le_of_ble_eq_true rfl) rfl rfl (Nat.le_of_ble_eq_true rfl) ?_
  refine c_within (M := 3) rfl (fun ja ea a_6 => ?_) (fun a_6 => ?_)
  · subst ea
    refine gwr ?_
    refine h_if_neF (xi := 1) (zi := 0) m98_5 rfl rfl (by decide) ?_
    refine g_aload_n m98_14 rfl ?_
    refine h_gfR (c := 79) (k := 0) (p := 32) m98_15 rfl (t_0 _ _) rfl (Nat.le_of_ble_eq_true rfl) ?_
    refine g_iload_n m98_18 rfl ?_
    have hs : ja < 4 := by omega
    have hBa := hB ja hs
    refine h_aald (j := ja) (c := 80 + 2 * ja) m98_19 rfl (t_47 _ _) (rfl) (sh_at hs) (le3 (Nat.le_of_ble_eq_true rfl)) (Nat.le_of_ble_eq_true rfl) ?_
    refine g_astore_n (L2 := [some (.ref (32)), some (.int (nI (ja))), some (.ref (80 + 2 * ja)), none, none]) m98_20 rfl rfl ?_
    refine g_aload_n m98_21 rfl ?_
    refine h_gfI (k := 48 + 2 * ja) (p := 80 + 2 * ja) m98_22 (pSo _) (tSo hs) rfl (hBa.2.2.1) ?_
    refine h_if_ne (xi := ((B ja : Nat) : Int)) (zi := 0) m98_25 (nI_toInt (by omega)) rfl (fun c1 => ?_) (fun c1 => ?_)
    · skip
      refine g_aload_n m98_28 rfl ?_
      refine g_iconst m98_29 ?_
      refine h_cv (k := 0) (p := 32) (args := [.int (2)]) (rest := []) m98_30 cn_55 (Nat.le_of_ble_eq_true rfl) rfl rfl rfl (t_0 _ _) (Nat.le_of_ble_eq_true rfl) ?_
      refine c_error (e := 2) (by decide) (by decide) ?_
      refine gwr ?_
      refine g_iret m98_33 rt_98 ?_
      exact hE2 ⟨ja, rfl, by omega, by omega⟩
    · skip
      refine g_aload_n m98_34 rfl ?_
      refine h_gfI (k := 48 + 2 * ja) (p := 80 + 2 * ja) m98_35 (pSo _) (tSo hs) rfl (hBa.2.2.2) ?_
      refine g_aload_n m98_38 rfl ?_
      refine h_gfR (c := 33) (k := 0) (p := 32) m98_39 rfl (t_0 _ _) rfl (Nat.le_of_ble_eq_true rfl) ?_
      refine h_gfI (k := 1) (p := 33) m98_42 rfl (t_1 _ _) rfl (hd) ?_
      refine g_min (u := nI (min (Ln ja) n)) m98_45 (Nat.le_of_ble_eq_true rfl) (min_n (by omega) (by omega)) ?_
      refine g_istore_n (L2 := [some (.ref (32)), some (.int (nI (ja))), some (.ref (80 + 2 * ja)), some (.int (nI (min (Ln ja) n))), none]) m98_48 rfl rfl ?_
      refine g_iconst m98_49 ?_
      refine g_istore (L2 := [some (.ref (32)), some (.int (nI (ja))), some (.ref (80 + 2 * ja)), some (.int (nI (min (Ln ja) n))), some (.int (0))]) m98_50 rfl rfl ?_
      have key : ∀ (r : Nat) (q : Nat), q + r = min (Ln ja) n → runF (fun q => decide (0 ≤ (m (49 + 2 * ja) q).toInt ∧ (m (49 + 2 * ja) q).toInt ≤ 9)) r q = runF (fun q => decide (0 ≤ (m (49 + 2 * ja) q).toInt ∧ (m (49 + 2 * ja) q).toInt ≤ 9)) (min (Ln ja) n) 0 → gw xs (WP xs (d + 1)) 98 Q 52 [some (.ref (32)), some (.int (nI (ja))), some (.ref (80 + 2 * ja)), some (.int (nI (min (Ln ja) n))), some (.int (nI (q)))] [] (H (shM m (49 + 2 * ja) q) ln N) 0 0 := by
        intro r
        induction r with
        | zero =>
          intro q hq hfin
          have hmn : min (Ln ja) n = q := by omega
          refine g_iload m98_52 rfl ?_
          refine g_iload_n m98_54 rfl ?_
          refine h_ic_geT (xi := ((q : Nat) : Int)) (zi := ((min (Ln ja) n : Nat) : Int)) m98_55 (nI_toInt (by omega)) (nI_toInt (by omega)) (by omega) ?_
          refine g_iload_n m98_99 rfl ?_
          refine g_iret m98_100 rt_98 ?_
          rw [hmn]
          have h9 := hY ja rfl (by omega) (by omega)
          rw [← hfin] at h9
          exact h9
        | succ r ih =>
          intro q hq hfin
          refine g_iload m98_52 rfl ?_
          refine g_iload_n m98_54 rfl ?_
          refine h_ic_geF (xi := ((q : Nat) : Int)) (zi := ((min (Ln ja) n : Nat) : Int)) m98_55 (nI_toInt (by omega)) (nI_toInt (by omega)) (by omega) ?_
          refine g_aload_n m98_58 rfl ?_
          refine h_gfR (c := 81 + 2 * ja) (k := 48 + 2 * ja) (p := 80 + 2 * ja) m98_59 (pSo _) (tSo hs) rfl (le3 (Nat.le_of_ble_eq_true rfl)) ?_
          refine g_iload m98_62 rfl ?_
          refine h_ial (k := 49 + 2 * ja) (p := 81 + 2 * ja) (j := q) m98_64 (pSn _) (tSn hs) (rfl) (by omega) (Nat.le_of_ble_eq_true rfl) (congrFun (shM_o m (49 + 2 * ja) (by omega) q) q) ?_
          refine g_bipush m98_65 ?_
          refine g_cs (args := [.int (m (49 + 2 * ja) q), .int (9)]) (rest := []) 0 (Or.inl rfl) m98_67 (Nat.le_of_ble_eq_true rfl) rfl rfl (Nat.le_of_ble_eq_true rfl) ?_
          refine c_withinI (M := 9) (vi := (m (49 + 2 * ja) q).toInt) rfl rfl (fun a_7 => ?_) (fun a_7 => ?_)
          · rw [run_y (p := (fun q => decide (0 ≤ (m (49 + 2 * ja) q).toInt ∧ (m (49 + 2 * ja) q).toInt ≤ 9))) (decide_eq_true a_7)] at hfin
            refine gwr ?_
            refine h_if_neF (xi := 1) (zi := 0) m98_70 rfl rfl (by decide) ?_
            refine g_aload_n m98_76 rfl ?_
            refine h_gfR (c := 33) (k := 0) (p := 32) m98_77 rfl (t_0 _ _) rfl (Nat.le_of_ble_eq_true rfl) ?_
            refine h_gfR (c := 38) (k := 1) (p := 33) m98_80 rfl (t_1 _ _) rfl (Nat.le_of_ble_eq_true rfl) ?_
            refine g_iload m98_83 rfl ?_
            refine g_aload_n m98_85 rfl ?_
            refine h_gfR (c := 81 + 2 * ja) (k := 48 + 2 * ja) (p := 80 + 2 * ja) m98_86 (pSo _) (tSo hs) rfl (le3 (Nat.le_of_ble_eq_true rfl)) ?_
            refine g_iload m98_89 rfl ?_
            refine h_ial (k := 49 + 2 * ja) (p := 81 + 2 * ja) (j := q) m98_91 (pSn _) (tSn hs) (rfl) (by omega) (Nat.le_of_ble_eq_true rfl) (congrFun (shM_o m (49 + 2 * ja) (by omega) q) q) ?_
            refine h_ias (k := 6) (p := 38) (j := q) m98_92 rfl (t_6 _ _) (rfl) (by omega) (Nat.le_of_ble_eq_true rfl) ?_
            refine g_iinc (L2 := [some (.ref (32)), some (.int (nI (ja))), some (.ref (80 + 2 * ja)), some (.int (nI (min (Ln ja) n))), some (.int (nI (q + 1)))]) m98_93 rfl (nI_1 _) rfl rfl ?_
            refine g_goto m98_96 ?_
            exact ih (q + 1) (by omega) hfin
          · rw [run_n (p := (fun q => decide (0 ≤ (m (49 + 2 * ja) q).toInt ∧ (m (49 + 2 * ja) q).toInt ≤ 9))) (by show ¬ decide _ = true; rw [decide_eq_true_eq]; omega)] at hfin
            refine gwr ?_
            refine h_if_neT (xi := 0) (zi := 0) m98_70 rfl rfl (by decide) ?_
            refine g_iload m98_73 rfl ?_
            refine g_iret m98_75 rt_98 ?_
            have h9 := hY ja rfl (by omega) (by omega)
            rw [← hfin] at h9
            exact h9
      exact key (min (Ln ja) n) 0 (by omega) rfl
  · skip
    refine gwr ?_
    refine h_if_neT (xi := 0) (zi := 0) m98_5 rfl rfl (by decide) ?_
    refine g_aload_n m98_8 rfl ?_
    refine g_iconst m98_9 ?_
    refine h_cv (k := 0) (p := 32) (args := [.int (1)]) (rest := []) m98_10 cn_55 (Nat.le_of_ble_eq_true rfl) rfl rfl rfl (t_0 _ _) (Nat.le_of_ble_eq_true rfl) ?_
    refine c_error (e := 1) (by decide) (by decide) ?_
    refine gwr ?_
    refine g_iret m98_13 rt_98 ?_
    exact hE1 (by omega)
set_option maxRecDepth 20000 in
set_option maxHeartbeats 40000000 in
theorem m_shams {a : Int32} {n : Nat} {B Ln : Nat → Nat} (hd : m 58 2 = nI n) (hn : n ≤ 8) (hB : ∀ s, s < 4 → (B s = 0 ∨ B s = 8 ∨ B s = 16 ∨ B s = 32) ∧ Ln s ≤ 40 ∧ m 63 s = nI (B s) ∧ m 64 s = nI (Ln s)) (hE1 : (a.toInt < 0 ∨ 3 < a.toInt) → Q (some (.int (-1000000001))) (H (ers m 1) ln N)) (hE2 : (∃ s : Nat, a = nI s ∧ s < 4 ∧ B s = 0) → Q (some (.int (-1000000002))) (H (ers m 2) ln N)) (hY : ∀ s : Nat, a = nI s → s < 4 → B s ≠ 0 → Q (some (.int (nI (runF (fun q => decide (0 ≤ (m 65 (40 * s + q)).toInt ∧ (m 65 (40 * s + q)).toInt ≤ 9)) (min (Ln s) n) 0)))) (H (sgM m (40 * s) (runF (fun q => decide (0 ≤ (m 65 (40 * s + q)).toInt ∧ (m 65 (40 * s + q)).toInt ≤ 9)) (min (Ln s) n) 0)) ln N)) : WP xs (d + 3) 182 0 0 [.ref (89), .int (a)] (H m ln N) Q := by
  refine wp_x mx_182 (L := [some (.ref (89)), some (.int (a)), none]) (Nat.le_of_ble_eq_true rfl) rfl ?_
  refine g_iload_n m182_0 rfl ?_
  refine g_cs (args := [.int (a)]) (rest := []) 0 (Or.inl rfl) m182_1 (Nat.le_of_ble_eq_true rfl) rfl rfl (Nat.le_of_ble_eq_true rfl) ?_
  refine c_isSheet (fun ja ea a_8 => ?_) (fun a_8 => ?_)
  · subst ea
    refine gwr ?_
    refine h_if_neF (xi := 1) (zi := 0) m182_4 rfl rfl (by decide) ?_
    refine g_aload_n m182_14 rfl ?_
    refine h_gfR (c := 95) (k := 57) (p := 89) m182_15 rfl (t_57 _ _) rfl (Nat.le_of_ble_eq_true rfl) ?_
    refine g_iload_n m182_18 rfl ?_
    have hs : ja < 4 := by omega
    have hBa := hB ja hs
    refine h_ial (k := 63) (p := 95) (j := ja) m182_19 rfl (t_63 _ _) (rfl) (by omega) (Nat.le_of_ble_eq_true rfl) (hBa.2.2.1) ?_
    refine h_if_ne (xi := ((B ja : Nat) : Int)) (zi := 0) m182_20 (nI_toInt (by omega)) rfl (fun c1 => ?_) (fun c1 => ?_)
    · skip
      refine g_aload_n m182_23 rfl ?_
      refine g_ldci m182_24 rfl ?_
      refine h_cv (k := 57) (p := 89) (args := [.int (-1000000002)]) (rest := []) m182_26 cn_108 (Nat.le_of_ble_eq_true rfl) rfl rfl rfl (t_57 _ _) (Nat.le_of_ble_eq_true rfl) ?_
      refine c_errs (e := 2) (by decide) (by decide) (by decide) ?_
      refine gwr ?_
      refine g_iret m182_29 rt_182 ?_
      exact hE2 ⟨ja, rfl, by omega, by omega⟩
    · skip
      refine g_iconst m182_30 ?_
      refine g_istore_n (L2 := [some (.ref (89)), some (.int (nI (ja))), some (.int (0))]) m182_31 rfl rfl ?_
      have key : ∀ (r : Nat) (q : Nat), q + r = min (Ln ja) n → runF (fun q => decide (0 ≤ (m 65 (40 * ja + q)).toInt ∧ (m 65 (40 * ja + q)).toInt ≤ 9)) r q = runF (fun q => decide (0 ≤ (m 65 (40 * ja + q)).toInt ∧ (m 65 (40 * ja + q)).toInt ≤ 9)) (min (Ln ja) n) 0 → gw xs (WP xs (d + 2)) 182 Q 32 [some (.ref (89)), some (.int (nI (ja))), some (.int (nI (q)))] [] (H (sgM m (40 * ja) q) ln N) 0 0 := by
        intro r
        induction r with
        | zero =>
          intro q hq hfin
          refine g_iload_n m182_32 rfl ?_
          refine g_aload_n m182_33 rfl ?_
          refine h_gfR (c := 96) (k := 57) (p := 89) m182_34 rfl (t_57 _ _) rfl (Nat.le_of_ble_eq_true rfl) ?_
          refine g_iload_n m182_37 rfl ?_
          refine h_ial (k := 64) (p := 96) (j := ja) m182_38 rfl (t_64 _ _) (rfl) (by omega) (Nat.le_of_ble_eq_true rfl) ((congrFun (sgM_o m (40 * ja) (by decide) q) ja).trans hBa.2.2.2) ?_
          refine h_ic_ge (xi := ((q : Nat) : Int)) (zi := ((Ln ja : Nat) : Int)) m182_39 (nI_toInt (by omega)) (nI_toInt (by omega)) (fun c2 => ?_) (fun c2 => ?_)
          · skip
            refine g_iload_n m182_93 rfl ?_
            refine g_iret m182_94 rt_182 ?_
            have h9 := hY ja rfl (by omega) (by omega)
            rw [← hfin] at h9
            exact h9
          · skip
            refine g_aload_n m182_42 rfl ?_
            refine g_iload_n m182_43 rfl ?_
            refine h_cv (k := 57) (p := 89) (args := [.int (nI (q))]) (rest := []) m182_44 cn_113 (Nat.le_of_ble_eq_true rfl) rfl rfl rfl (t_57 _ _) (Nat.le_of_ble_eq_true rfl) ?_
            have eq_ : (nI q).toInt = (q : Int) := nI_toInt (by omega)
            refine c_isDinerM ((sgM_j m (40 * ja) (by decide) q).trans hd) hn (fun j ej a_9 => ?_) (fun a_9 => ?_)
            · have ej2 : (j : Int) = (q : Int) := by rw [← eq_, ej]; exact (nI_toInt (by omega)).symm
              refine gwr ?_
              refine h_if_eqF (xi := 1) (zi := 0) m182_47 rfl rfl (by decide) ?_
              refine g_aload_n m182_50 rfl ?_
              refine h_gfR (c := 97) (k := 57) (p := 89) m182_51 rfl (t_57 _ _) rfl (Nat.le_of_ble_eq_true rfl) ?_
              refine g_bipush m182_54 ?_
              refine g_iload_n m182_56 rfl ?_
              refine g_imul (u := nI (40 * ja)) m182_57 (pk_mul 40 ja) ?_
              refine g_iload_n m182_58 rfl ?_
              refine g_iadd (u := nI ((40 * ja) + q)) m182_59 (nI_add (40 * ja) q) ?_
              refine h_ial (k := 65) (p := 97) (j := (40 * ja) + q) m182_60 rfl (t_65 _ _) (rfl) (by omega) (Nat.le_of_ble_eq_true rfl) (congrFun (sgM_o m (40 * ja) (by decide) q) (40 * ja + q)) ?_
              refine g_iconst m182_61 ?_
              refine g_bipush m182_62 ?_
              refine g_cs (args := [.int (m 65 (40 * ja + q)), .int (0), .int (9)]) (rest := []) 0 (Or.inl rfl) m182_64 (Nat.le_of_ble_eq_true rfl) rfl rfl (Nat.le_of_ble_eq_true rfl) ?_
              exfalso
              omega
            · skip
              refine gwr ?_
              refine h_if_eqT (xi := 0) (zi := 0) m182_47 rfl rfl (by decide) ?_
              refine g_iload_n m182_93 rfl ?_
              refine g_iret m182_94 rt_182 ?_
              have h9 := hY ja rfl (by omega) (by omega)
              rw [← hfin] at h9
              exact h9
        | succ r ih =>
          intro q hq hfin
          refine g_iload_n m182_32 rfl ?_
          refine g_aload_n m182_33 rfl ?_
          refine h_gfR (c := 96) (k := 57) (p := 89) m182_34 rfl (t_57 _ _) rfl (Nat.le_of_ble_eq_true rfl) ?_
          refine g_iload_n m182_37 rfl ?_
          refine h_ial (k := 64) (p := 96) (j := ja) m182_38 rfl (t_64 _ _) (rfl) (by omega) (Nat.le_of_ble_eq_true rfl) ((congrFun (sgM_o m (40 * ja) (by decide) q) ja).trans hBa.2.2.2) ?_
          refine h_ic_geF (xi := ((q : Nat) : Int)) (zi := ((Ln ja : Nat) : Int)) m182_39 (nI_toInt (by omega)) (nI_toInt (by omega)) (by omega) ?_
          refine g_aload_n m182_42 rfl ?_
          refine g_iload_n m182_43 rfl ?_
          refine h_cv (k := 57) (p := 89) (args := [.int (nI (q))]) (rest := []) m182_44 cn_113 (Nat.le_of_ble_eq_true rfl) rfl rfl rfl (t_57 _ _) (Nat.le_of_ble_eq_true rfl) ?_
          have eq_ : (nI q).toInt = (q : Int) := nI_toInt (by omega)
          refine c_isDinerM ((sgM_j m (40 * ja) (by decide) q).trans hd) hn (fun j ej a_10 => ?_) (fun a_10 => absurd a_10 (by omega))
          refine gwr ?_
          refine h_if_eqF (xi := 1) (zi := 0) m182_47 rfl rfl (by decide) ?_
          refine g_aload_n m182_50 rfl ?_
          refine h_gfR (c := 97) (k := 57) (p := 89) m182_51 rfl (t_57 _ _) rfl (Nat.le_of_ble_eq_true rfl) ?_
          refine g_bipush m182_54 ?_
          refine g_iload_n m182_56 rfl ?_
          refine g_imul (u := nI (40 * ja)) m182_57 (pk_mul 40 ja) ?_
          refine g_iload_n m182_58 rfl ?_
          refine g_iadd (u := nI ((40 * ja) + q)) m182_59 (nI_add (40 * ja) q) ?_
          refine h_ial (k := 65) (p := 97) (j := (40 * ja) + q) m182_60 rfl (t_65 _ _) (rfl) (by omega) (Nat.le_of_ble_eq_true rfl) (congrFun (sgM_o m (40 * ja) (by decide) q) (40 * ja + q)) ?_
          refine g_iconst m182_61 ?_
          refine g_bipush m182_62 ?_
          refine g_cs (args := [.int (m 65 (40 * ja + q)), .int (0), .int (9)]) (rest := []) 0 (Or.inl rfl) m182_64 (Nat.le_of_ble_eq_true rfl) rfl rfl (Nat.le_of_ble_eq_true rfl) ?_
          refine c_inI (A := 0) (B := 9) (vi := (m 65 (40 * ja + q)).toInt) rfl rfl rfl (fun a_11 => ?_) (fun a_11 => ?_)
          · first | (exfalso; omega) | rw [run_y (p := (fun q => decide (0 ≤ (m 65 (40 * ja + q)).toInt ∧ (m 65 (40 * ja + q)).toInt ≤ 9))) (decide_eq_true a_11)] at hfin
            refine gwr ?_
            refine h_if_eqF (xi := 1) (zi := 0) m182_67 rfl rfl (by decide) ?_
            refine g_aload_n m182_70 rfl ?_
            refine g_iload_n m182_71 rfl ?_
            refine g_iconst m182_72 ?_
            refine g_aload_n m182_73 rfl ?_
            refine h_gfR (c := 97) (k := 57) (p := 89) m182_74 rfl (t_57 _ _) rfl (Nat.le_of_ble_eq_true rfl) ?_
            refine g_bipush m182_77 ?_
            refine g_iload_n m182_79 rfl ?_
            refine g_imul (u := nI (40 * ja)) m182_80 (pk_mul 40 ja) ?_
            refine g_iload_n m182_81 rfl ?_
            refine g_iadd (u := nI ((40 * ja) + q)) m182_82 (nI_add (40 * ja) q) ?_
            refine h_ial (k := 65) (p := 97) (j := (40 * ja) + q) m182_83 rfl (t_65 _ _) (rfl) (by omega) (Nat.le_of_ble_eq_true rfl) (congrFun (sgM_o m (40 * ja) (by decide) q) (40 * ja + q)) ?_
            refine h_cv (k := 57) (p := 89) (args := [.int (nI (q)), .int (3), .int (m 65 (40 * ja + q))]) (rest := []) m182_84 cn_112 (Nat.le_of_ble_eq_true rfl) rfl rfl rfl (t_57 _ _) (Nat.le_of_ble_eq_true rfl) ?_
            refine c_gets (w := 3) (by omega) (by decide) ?_
            refine gwr0 ?_
            refine g_iinc (L2 := [some (.ref (89)), some (.int (nI (ja))), some (.int (nI (q + 1)))]) m182_87 rfl (nI_1 _) rfl rfl ?_
            refine g_goto m182_90 ?_
            exact ih (q + 1) (by omega) hfin
          · first | (exfalso; omega) | rw [run_n (p := (fun q => decide (0 ≤ (m 65 (40 * ja + q)).toInt ∧ (m 65 (40 * ja + q)).toInt ≤ 9))) (by show ¬ decide _ = true; rw [decide_eq_true_eq]; omega)] at hfin
            refine gwr ?_
            refine h_if_eqT (xi := 0) (zi := 0) m182_67 rfl rfl (by decide) ?_
            refine g_iload_n m182_93 rfl ?_
            refine g_iret m182_94 rt_182 ?_
            have h9 := hY ja rfl (by omega) (by omega)
            rw [← hfin] at h9
            exact h9
      exact key (min (Ln ja) n) 0 (by omega) rfl
  · skip
    refine gwr ?_
    refine h_if_neT (xi := 0) (zi := 0) m182_4 rfl rfl (by decide) ?_
    refine g_aload_n m182_7 rfl ?_
    refine g_ldci m182_8 rfl ?_
    refine h_cv (k := 57) (p := 89) (args := [.int (-1000000001)]) (rest := []) m182_10 cn_108 (Nat.le_of_ble_eq_true rfl) rfl rfl rfl (t_57 _ _) (Nat.le_of_ble_eq_true rfl) ?_
    refine c_errs (e := 1) (by decide) (by decide) (by decide) ?_
    refine gwr ?_
    refine g_iret m182_13 rt_182 ?_
    exact hE1 (by omega)
end
