/-! VOICES -/
def lgM (m : MW) (b : Nat) : List Nat → MW
  | [] => m
  | c :: cs => lgM (upm (upm m 46 b (nI c)) 45 4 (nI (b + 1))) (b + 1) cs
theorem lgM_o {m : MW} {b : Nat} {j : Nat} (h : j ≠ 4) (cs : List Nat) : lgM m b cs 45 j = m 45 j := by
  induction cs generalizing m b with
  | nil => rfl
  | cons c cs ih => exact ih.trans ((upm_j _ _ h).trans (upm_k _ _ (by decide)))
theorem lgM_4 {m : MW} {b : Nat} (h : m 45 4 = nI b) (cs : List Nat) : lgM m b cs 45 4 = nI (b + cs.length) := by
  induction cs generalizing m b with
  | nil => exact h
  | cons c cs ih => rw [show b + (c :: cs).length = b + 1 + cs.length by simp only [List.length_cons]; omega]; exact ih (upm_self _ _ _ _)
theorem lgM_a {m : MW} {b : Nat} (cs cs2 : List Nat) : lgM (lgM m b cs) (b + cs.length) cs2 = lgM m b (cs ++ cs2) := by
  induction cs generalizing m b with
  | nil => rfl
  | cons c cs ih => rw [show b + (c :: cs).length = b + 1 + cs.length by simp only [List.length_cons]; omega]; exact ih
def lgR (m : MW) (b : Nat) : List Nat → MW
  | [] => m
  | c :: cs => lgR (upm (upm m 68 b (nI c)) 57 21 (nI (b + 1))) (b + 1) cs
theorem lgR_o {m : MW} {b : Nat} {j : Nat} (h : j ≠ 21) (cs : List Nat) : lgR m b cs 57 j = m 57 j := by
  induction cs generalizing m b with
  | nil => rfl
  | cons c cs ih => exact ih.trans ((upm_j _ _ h).trans (upm_k _ _ (by decide)))
theorem lgR_4 {m : MW} {b : Nat} (h : m 57 21 = nI b) (cs : List Nat) : lgR m b cs 57 21 = nI (b + cs.length) := by
  induction cs generalizing m b with
  | nil => exact h
  | cons c cs ih => rw [show b + (c :: cs).length = b + 1 + cs.length by simp only [List.length_cons]; omega]; exact ih (upm_self _ _ _ _)
theorem lgR_a {m : MW} {b : Nat} (cs cs2 : List Nat) : lgR (lgR m b cs) (b + cs.length) cs2 = lgR m b (cs ++ cs2) := by
  induction cs generalizing m b with
  | nil => rfl
  | cons c cs ih => rw [show b + (c :: cs).length = b + 1 + cs.length by simp only [List.length_cons]; omega]; exact ih
section
variable {xs : List Int32} {d : Nat} {h : AH} {Q : QT} {m : MW} {ln : Nat → Nat} {N : Nat}
set_option maxRecDepth 20000 in
set_option maxHeartbeats 40000000 in
theorem c_begin {b c : Nat} (hb : m 45 4 = nI b) (hb40 : b < 40) (hQ : Q none (H (lgM m b [c]) ln N)) : WP xs (d + 1) 50 0 0 [.ref (77), .int (nI (c))] (H m ln N) Q := by
  refine wp_x mx_50 (L := [some (.ref (77)), some (.int (nI (c)))]) (Nat.le_of_ble_eq_true rfl) rfl ?_
  refine g_aload_n m50_0 rfl ?_
  refine h_gfI (k := 45) (p := 77) m50_1 rfl (t_45 _ _) rfl (hb) ?_
  refine g_bipush m50_4 ?_
  refine h_ic_geF (xi := ((b : Nat) : Int)) (zi := 40) m50_6 (nI_toInt (by omega)) rfl (by omega) ?_
  refine g_aload_n m50_9 rfl ?_
  refine h_gfR (c := 78) (k := 45) (p := 77) m50_10 rfl (t_45 _ _) rfl (Nat.le_of_ble_eq_true rfl) ?_
  refine g_aload_n m50_13 rfl ?_
  refine h_gfI (k := 45) (p := 77) m50_14 rfl (t_45 _ _) rfl (hb) ?_
  refine g_iload_n m50_17 rfl ?_
  refine h_ias (k := 46) (p := 78) (j := b) m50_18 rfl (t_46 _ _) (rfl) (by omega) (Nat.le_of_ble_eq_true rfl) ?_
  refine g_aload_n m50_19 rfl ?_
  refine g_dup m50_20 rfl ?_
  refine h_gfI (k := 45) (p := 77) m50_21 rfl (t_45 _ _) rfl ((upm_k _ _ (by decide)).trans hb) ?_
  refine g_iconst m50_24 ?_
  refine g_iadd (u := nI (b + 1)) m50_25 (nI_add b 1) ?_
  refine h_pfI (k := 45) (p := 77) m50_26 rfl (t_45 _ _) rfl trivial ?_
  refine g_vret m50_29 ?_
  exact hQ
set_option maxRecDepth 20000 in
set_option maxHeartbeats 40000000 in
theorem c_ran {b c : Nat} (hb : m 57 21 = nI b) (hb40 : b < 40) (hQ : Q none (H (lgR m b [c]) ln N)) : WP xs (d + 1) 171 0 0 [.ref (89), .int (nI (c))] (H m ln N) Q := by
  refine wp_x mx_171 (L := [some (.ref (89)), some (.int (nI (c)))]) (Nat.le_of_ble_eq_true rfl) rfl ?_
  refine g_aload_n m171_0 rfl ?_
  refine h_gfI (k := 57) (p := 89) m171_1 rfl (t_57 _ _) rfl (hb) ?_
  refine g_bipush m171_4 ?_
  refine h_ic_geF (xi := ((b : Nat) : Int)) (zi := 40) m171_6 (nI_toInt (by omega)) rfl (by omega) ?_
  refine g_aload_n m171_9 rfl ?_
  refine h_gfR (c := 100) (k := 57) (p := 89) m171_10 rfl (t_57 _ _) rfl (Nat.le_of_ble_eq_true rfl) ?_
  refine g_aload_n m171_13 rfl ?_
  refine h_gfI (k := 57) (p := 89) m171_14 rfl (t_57 _ _) rfl (hb) ?_
  refine g_iload_n m171_17 rfl ?_
  refine h_ias (k := 68) (p := 100) (j := b) m171_18 rfl (t_68 _ _) (rfl) (by omega) (Nat.le_of_ble_eq_true rfl) ?_
  refine g_aload_n m171_19 rfl ?_
  refine g_dup m171_20 rfl ?_
  refine h_gfI (k := 57) (p := 89) m171_21 rfl (t_57 _ _) rfl ((upm_k _ _ (by decide)).trans hb) ?_
  refine g_iconst m171_24 ?_
  refine g_iadd (u := nI (b + 1)) m171_25 (nI_add b 1) ?_
  refine h_pfI (k := 57) (p := 89) m171_26 rfl (t_57 _ _) rfl trivial ?_
  refine g_vret m171_29 ?_
  exact hQ
set_option maxRecDepth 20000 in
set_option maxHeartbeats 40000000 in
theorem c_own_0_0 (hQ : Q (some (.int 0)) h) : WP xs (d + 2) 91 0 0 [.int (0), .int (0)] h Q := by
  refine wp_x mx_91 (L := [some (.int (0)), some (.int (0)), none, none]) (Nat.le_of_ble_eq_true rfl) rfl ?_
  refine g_iload_n m91_0 rfl ?_
  refine g_istore_n (L2 := [some (.int (0)), some (.int (0)), some (.int (0)), none]) m91_1 rfl rfl ?_
  refine g_iconst m91_2 ?_
  refine g_istore_n (L2 := [some (.int (0)), some (.int (0)), some (.int (0)), some (.int (0))]) m91_3 rfl rfl ?_
  refine g_iload_n m91_4 rfl ?_
  refine g_bipush m91_5 ?_
  refine h_ic_geF (xi := 0) (zi := 7) m91_7 rfl rfl (by decide) ?_
  refine g_iload_n m91_10 rfl ?_
  refine g_bipush m91_11 ?_
  refine g_cs (args := [.int (0), .int (6)]) (rest := []) 0 (Or.inl rfl) m91_13 (Nat.le_of_ble_eq_true rfl) rfl rfl (Nat.le_of_ble_eq_true rfl) ?_
  refine c_withinI (M := 6) (vi := 0) rfl rfl (fun _ => ?_) (fun q => absurd q (by decide))
  refine gwr ?_
  refine h_if_eqF (xi := 1) (zi := 0) m91_16 rfl rfl (by decide) ?_
  refine g_gst m91_19 rfl ?_
  refine g_iconst m91_22 ?_
  refine g_iload_n m91_23 rfl ?_
  refine g_imul (u := (0 : Int32)) m91_24 (by decide) ?_
  refine g_iload_n m91_25 rfl ?_
  refine g_iadd (u := (0 : Int32)) m91_26 (by decide) ?_
  refine g_iald (x := (10 : Int32)) m91_27 rfl (show vp_in (nI 0) 28 from vp_in_nI (by decide) (by decide)) (by decide +kernel) ?_
  refine h_if_eqF (xi := 10) (zi := 0) m91_28 rfl rfl (by decide) ?_
  refine g_iload_n m91_31 rfl ?_
  refine g_iret m91_32 rt_91 ?_
  exact hQ
set_option maxRecDepth 20000 in
set_option maxHeartbeats 40000000 in
theorem c_own_0_1 (hQ : Q (some (.int 1)) h) : WP xs (d + 2) 91 0 0 [.int (0), .int (1)] h Q := by
  refine wp_x mx_91 (L := [some (.int (0)), some (.int (1)), none, none]) (Nat.le_of_ble_eq_true rfl) rfl ?_
  refine g_iload_n m91_0 rfl ?_
  refine g_istore_n (L2 := [some (.int (0)), some (.int (1)), some (.int (1)), none]) m91_1 rfl rfl ?_
  refine g_iconst m91_2 ?_
  refine g_istore_n (L2 := [some (.int (0)), some (.int (1)), some (.int (1)), some (.int (0))]) m91_3 rfl rfl ?_
  refine g_iload_n m91_4 rfl ?_
  refine g_bipush m91_5 ?_
  refine h_ic_geF (xi := 0) (zi := 7) m91_7 rfl rfl (by decide) ?_
  refine g_iload_n m91_10 rfl ?_
  refine g_bipush m91_11 ?_
  refine g_cs (args := [.int (1), .int (6)]) (rest := []) 0 (Or.inl rfl) m91_13 (Nat.le_of_ble_eq_true rfl) rfl rfl (Nat.le_of_ble_eq_true rfl) ?_
  refine c_withinI (M := 6) (vi := 1) rfl rfl (fun _ => ?_) (fun q => absurd q (by decide))
  refine gwr ?_
  refine h_if_eqF (xi := 1) (zi := 0) m91_16 rfl rfl (by decide) ?_
  refine g_gst m91_19 rfl ?_
  refine g_iconst m91_22 ?_
  refine g_iload_n m91_23 rfl ?_
  refine g_imul (u := (4 : Int32)) m91_24 (by decide) ?_
  refine g_iload_n m91_25 rfl ?_
  refine g_iadd (u := (4 : Int32)) m91_26 (by decide) ?_
  refine g_iald (x := (20 : Int32)) m91_27 rfl (show vp_in (nI 4) 28 from vp_in_nI (by decide) (by decide)) (by decide +kernel) ?_
  refine h_if_eqF (xi := 20) (zi := 0) m91_28 rfl rfl (by decide) ?_
  refine g_iload_n m91_31 rfl ?_
  refine g_iret m91_32 rt_91 ?_
  exact hQ
set_option maxRecDepth 20000 in
set_option maxHeartbeats 40000000 in
theorem c_own_0_2 (hQ : Q (some (.int 0)) h) : WP xs (d + 2) 91 0 0 [.int (0), .int (2)] h Q := by
  refine wp_x mx_91 (L := [some (.int (0)), some (.int (2)), none, none]) (Nat.le_of_ble_eq_true rfl) rfl ?_
  refine g_iload_n m91_0 rfl ?_
  refine g_istore_n (L2 := [some (.int (0)), some (.int (2)), some (.int (2)), none]) m91_1 rfl rfl ?_
  refine g_iconst m91_2 ?_
  refine g_istore_n (L2 := [some (.int (0)), some (.int (2)), some (.int (2)), some (.int (0))]) m91_3 rfl rfl ?_
  refine g_iload_n m91_4 rfl ?_
  refine g_bipush m91_5 ?_
  refine h_ic_geF (xi := 0) (zi := 7) m91_7 rfl rfl (by decide) ?_
  refine g_iload_n m91_10 rfl ?_
  refine g_bipush m91_11 ?_
  refine g_cs (args := [.int (2), .int (6)]) (rest := []) 0 (Or.inl rfl) m91_13 (Nat.le_of_ble_eq_true rfl) rfl rfl (Nat.le_of_ble_eq_true rfl) ?_
  refine c_withinI (M := 6) (vi := 2) rfl rfl (fun _ => ?_) (fun q => absurd q (by decide))
  refine gwr ?_
  refine h_if_eqF (xi := 1) (zi := 0) m91_16 rfl rfl (by decide) ?_
  refine g_gst m91_19 rfl ?_
  refine g_iconst m91_22 ?_
  refine g_iload_n m91_23 rfl ?_
  refine g_imul (u := (8 : Int32)) m91_24 (by decide) ?_
  refine g_iload_n m91_25 rfl ?_
  refine g_iadd (u := (8 : Int32)) m91_26 (by decide) ?_
  refine g_iald (x := (0 : Int32)) m91_27 rfl (show vp_in (nI 8) 28 from vp_in_nI (by decide) (by decide)) (by decide +kernel) ?_
  refine h_if_eqT (xi := 0) (zi := 0) m91_28 rfl rfl (by decide) ?_
  refine g_gst m91_33 rfl ?_
  refine g_iload_n m91_36 rfl ?_
  refine g_iald (x := (0 : Int32)) m91_37 rfl (show vp_in (nI 2) 7 from vp_in_nI (by decide) (by decide)) (by decide +kernel) ?_
  refine g_istore_n (L2 := [some (.int (0)), some (.int (2)), some (.int (0)), some (.int (0))]) m91_38 rfl rfl ?_
  refine g_iinc (x2 := (1 : Int32)) (L2 := [some (.int (0)), some (.int (2)), some (.int (0)), some (.int (1))]) m91_39 rfl (by decide) rfl rfl ?_
  refine g_goto m91_42 ?_
  refine g_iload_n m91_4 rfl ?_
  refine g_bipush m91_5 ?_
  refine h_ic_geF (xi := 1) (zi := 7) m91_7 rfl rfl (by decide) ?_
  refine g_iload_n m91_10 rfl ?_
  refine g_bipush m91_11 ?_
  refine g_cs (args := [.int (0), .int (6)]) (rest := []) 0 (Or.inl rfl) m91_13 (Nat.le_of_ble_eq_true rfl) rfl rfl (Nat.le_of_ble_eq_true rfl) ?_
  refine c_withinI (M := 6) (vi := 0) rfl rfl (fun _ => ?_) (fun q => absurd q (by decide))
  refine gwr ?_
  refine h_if_eqF (xi := 1) (zi := 0) m91_16 rfl rfl (by decide) ?_
  refine g_gst m91_19 rfl ?_
  refine g_iconst m91_22 ?_
  refine g_iload_n m91_23 rfl ?_
  refine g_imul (u := (0 : Int32)) m91_24 (by decide) ?_
  refine g_iload_n m91_25 rfl ?_
  refine g_iadd (u := (0 : Int32)) m91_26 (by decide) ?_
  refine g_iald (x := (10 : Int32)) m91_27 rfl (show vp_in (nI 0) 28 from vp_in_nI (by decide) (by decide)) (by decide +kernel) ?_
  refine h_if_eqF (xi := 10) (zi := 0) m91_28 rfl rfl (by decide) ?_
  refine g_iload_n m91_31 rfl ?_
  refine g_iret m91_32 rt_91 ?_
  exact hQ
set_option maxRecDepth 20000 in
set_option maxHeartbeats 40000000 in
theorem c_own_0_3 (hQ : Q (some (.int 0)) h) : WP xs (d + 2) 91 0 0 [.int (0), .int (3)] h Q := by
  refine wp_x mx_91 (L := [some (.int (0)), some (.int (3)), none, none]) (Nat.le_of_ble_eq_true rfl) rfl ?_
  refine g_iload_n m91_0 rfl ?_
  refine g_istore_n (L2 := [some (.int (0)), some (.int (3)), some (.int (3)), none]) m91_1 rfl rfl ?_
  refine g_iconst m91_2 ?_
  refine g_istore_n (L2 := [some (.int (0)), some (.int (3)), some (.int (3)), some (.int (0))]) m91_3 rfl rfl ?_
  refine g_iload_n m91_4 rfl ?_
  refine g_bipush m91_5 ?_
  refine h_ic_geF (xi := 0) (zi := 7) m91_7 rfl rfl (by decide) ?_
  refine g_iload_n m91_10 rfl ?_
  refine g_bipush m91_11 ?_
  refine g_cs (args := [.int (3), .int (6)]) (rest := []) 0 (Or.inl rfl) m91_13 (Nat.le_of_ble_eq_true rfl) rfl rfl (Nat.le_of_ble_eq_true rfl) ?_
  refine c_withinI (M := 6) (vi := 3) rfl rfl (fun _ => ?_) (fun q => absurd q (by decide))
  refine gwr ?_
  refine h_if_eqF (xi := 1) (zi := 0) m91_16 rfl rfl (by decide) ?_
  refine g_gst m91_19 rfl ?_
  refine g_iconst m91_22 ?_
  refine g_iload_n m91_23 rfl ?_
  refine g_imul (u := (12 : Int32)) m91_24 (by decide) ?_
  refine g_iload_n m91_25 rfl ?_
  refine g_iadd (u := (12 : Int32)) m91_26 (by decide) ?_
  refine g_iald (x := (0 : Int32)) m91_27 rfl (show vp_in (nI 12) 28 from vp_in_nI (by decide) (by decide)) (by decide +kernel) ?_
  refine h_if_eqT (xi := 0) (zi := 0) m91_28 rfl rfl (by decide) ?_
  refine g_gst m91_33 rfl ?_
  refine g_iload_n m91_36 rfl ?_
  refine g_iald (x := (0 : Int32)) m91_37 rfl (show vp_in (nI 3) 7 from vp_in_nI (by decide) (by decide)) (by decide +kernel) ?_
  refine g_istore_n (L2 := [some (.int (0)), some (.int (3)), some (.int (0)), some (.int (0))]) m91_38 rfl rfl ?_
  refine g_iinc (x2 := (1 : Int32)) (L2 := [some (.int (0)), some (.int (3)), some (.int (0)), some (.int (1))]) m91_39 rfl (by decide) rfl rfl ?_
  refine g_goto m91_42 ?_
  refine g_iload_n m91_4 rfl ?_
  refine g_bipush m91_5 ?_
  refine h_ic_geF (xi := 1) (zi := 7) m91_7 rfl rfl (by decide) ?_
  refine g_iload_n m91_10 rfl ?_
  refine g_bipush m91_11 ?_
  refine g_cs (args := [.int (0), .int (6)]) (rest := []) 0 (Or.inl rfl) m91_13 (Nat.le_of_ble_eq_true rfl) rfl rfl (Nat.le_of_ble_eq_true rfl) ?_
  refine c_withinI (M := 6) (vi := 0) rfl rfl (fun _ => ?_) (fun q => absurd q (by decide))
  refine gwr ?_
  refine h_if_eqF (xi := 1) (zi := 0) m91_16 rfl rfl (by decide) ?_
  refine g_gst m91_19 rfl ?_
  refine g_iconst m91_22 ?_
  refine g_iload_n m91_23 rfl ?_
  refine g_imul (u := (0 : Int32)) m91_24 (by decide) ?_
  refine g_iload_n m91_25 rfl ?_
  refine g_iadd (u := (0 : Int32)) m91_26 (by decide) ?_
  refine g_iald (x := (10 : Int32)) m91_27 rfl (show vp_in (nI 0) 28 from vp_in_nI (by decide) (by decide)) (by decide +kernel) ?_
  refine h_if_eqF (xi := 10) (zi := 0) m91_28 rfl rfl (by decide) ?_
  refine g_iload_n m91_31 rfl ?_
  refine g_iret m91_32 rt_91 ?_
  exact hQ
set_option maxRecDepth 20000 in
set_option maxHeartbeats 40000000 in
theorem c_own_0_4 (hQ : Q (some (.int 1)) h) : WP xs (d + 2) 91 0 0 [.int (0), .int (4)] h Q := by
  refine wp_x mx_91 (L := [some (.int (0)), some (.int (4)), none, none]) (Nat.le_of_ble_eq_true rfl) rfl ?_
  refine g_iload_n m91_0 rfl ?_
  refine g_istore_n (L2 := [some (.int (0)), some (.int (4)), some (.int (4)), none]) m91_1 rfl rfl ?_
  refine g_iconst m91_2 ?_
  refine g_istore_n (L2 := [some (.int (0)), some (.int (4)), some (.int (4)), some (.int (0))]) m91_3 rfl rfl ?_
  refine g_iload_n m91_4 rfl ?_
  refine g_bipush m91_5 ?_
  refine h_ic_geF (xi := 0) (zi := 7) m91_7 rfl rfl (by decide) ?_
  refine g_iload_n m91_10 rfl ?_
  refine g_bipush m91_11 ?_
  refine g_cs (args := [.int (4), .int (6)]) (rest := []) 0 (Or.inl rfl) m91_13 (Nat.le_of_ble_eq_true rfl) rfl rfl (Nat.le_of_ble_eq_true rfl) ?_
  refine c_withinI (M := 6) (vi := 4) rfl rfl (fun _ => ?_) (fun q => absurd q (by decide))
  refine gwr ?_
  refine h_if_eqF (xi := 1) (zi := 0) m91_16 rfl rfl (by decide) ?_
  refine g_gst m91_19 rfl ?_
  refine g_iconst m91_22 ?_
  refine g_iload_n m91_23 rfl ?_
  refine g_imul (u := (16 : Int32)) m91_24 (by decide) ?_
  refine g_iload_n m91_25 rfl ?_
  refine g_iadd (u := (16 : Int32)) m91_26 (by decide) ?_
  refine g_iald (x := (0 : Int32)) m91_27 rfl (show vp_in (nI 16) 28 from vp_in_nI (by decide) (by decide)) (by decide +kernel) ?_
  refine h_if_eqT (xi := 0) (zi := 0) m91_28 rfl rfl (by decide) ?_
  refine g_gst m91_33 rfl ?_
  refine g_iload_n m91_36 rfl ?_
  refine g_iald (x := (1 : Int32)) m91_37 rfl (show vp_in (nI 4) 7 from vp_in_nI (by decide) (by decide)) (by decide +kernel) ?_
  refine g_istore_n (L2 := [some (.int (0)), some (.int (4)), some (.int (1)), some (.int (0))]) m91_38 rfl rfl ?_
  refine g_iinc (x2 := (1 : Int32)) (L2 := [some (.int (0)), some (.int (4)), some (.int (1)), some (.int (1))]) m91_39 rfl (by decide) rfl rfl ?_
  refine g_goto m91_42 ?_
  refine g_iload_n m91_4 rfl ?_
  refine g_bipush m91_5 ?_
  refine h_ic_geF (xi := 1) (zi := 7) m91_7 rfl rfl (by decide) ?_
  refine g_iload_n m91_10 rfl ?_
  refine g_bipush m91_11 ?_
  refine g_cs (args := [.int (1), .int (6)]) (rest := []) 0 (Or.inl rfl) m91_13 (Nat.le_of_ble_eq_true rfl) rfl rfl (Nat.le_of_ble_eq_true rfl) ?_
  refine c_withinI (M := 6) (vi := 1) rfl rfl (fun _ => ?_) (fun q => absurd q (by decide))
  refine gwr ?_
  refine h_if_eqF (xi := 1) (zi := 0) m91_16 rfl rfl (by decide) ?_
  refine g_gst m91_19 rfl ?_
  refine g_iconst m91_22 ?_
  refine g_iload_n m91_23 rfl ?_
  refine g_imul (u := (4 : Int32)) m91_24 (by decide) ?_
  refine g_iload_n m91_25 rfl ?_
  refine g_iadd (u := (4 : Int32)) m91_26 (by decide) ?_
  refine g_iald (x := (20 : Int32)) m91_27 rfl (show vp_in (nI 4) 28 from vp_in_nI (by decide) (by decide)) (by decide +kernel) ?_
  refine h_if_eqF (xi := 20) (zi := 0) m91_28 rfl rfl (by decide) ?_
  refine g_iload_n m91_31 rfl ?_
  refine g_iret m91_32 rt_91 ?_
  exact hQ
set_option maxRecDepth 20000 in
set_option maxHeartbeats 40000000 in
theorem c_own_0_5 (hQ : Q (some (.int 0)) h) : WP xs (d + 2) 91 0 0 [.int (0), .int (5)] h Q := by
  refine wp_x mx_91 (L := [some (.int (0)), some (.int (5)), none, none]) (Nat.le_of_ble_eq_true rfl) rfl ?_
  refine g_iload_n m91_0 rfl ?_
  refine g_istore_n (L2 := [some (.int (0)), some (.int (5)), some (.int (5)), none]) m91_1 rfl rfl ?_
  refine g_iconst m91_2 ?_
  refine g_istore_n (L2 := [some (.int (0)), some (.int (5)), some (.int (5)), some (.int (0))]) m91_3 rfl rfl ?_
  refine g_iload_n m91_4 rfl ?_
  refine g_bipush m91_5 ?_
  refine h_ic_geF (xi := 0) (zi := 7) m91_7 rfl rfl (by decide) ?_
  refine g_iload_n m91_10 rfl ?_
  refine g_bipush m91_11 ?_
  refine g_cs (args := [.int (5), .int (6)]) (rest := []) 0 (Or.inl rfl) m91_13 (Nat.le_of_ble_eq_true rfl) rfl rfl (Nat.le_of_ble_eq_true rfl) ?_
  refine c_withinI (M := 6) (vi := 5) rfl rfl (fun _ => ?_) (fun q => absurd q (by decide))
  refine gwr ?_
  refine h_if_eqF (xi := 1) (zi := 0) m91_16 rfl rfl (by decide) ?_
  refine g_gst m91_19 rfl ?_
  refine g_iconst m91_22 ?_
  refine g_iload_n m91_23 rfl ?_
  refine g_imul (u := (20 : Int32)) m91_24 (by decide) ?_
  refine g_iload_n m91_25 rfl ?_
  refine g_iadd (u := (20 : Int32)) m91_26 (by decide) ?_
  refine g_iald (x := (0 : Int32)) m91_27 rfl (show vp_in (nI 20) 28 from vp_in_nI (by decide) (by decide)) (by decide +kernel) ?_
  refine h_if_eqT (xi := 0) (zi := 0) m91_28 rfl rfl (by decide) ?_
  refine g_gst m91_33 rfl ?_
  refine g_iload_n m91_36 rfl ?_
  refine g_iald (x := (2 : Int32)) m91_37 rfl (show vp_in (nI 5) 7 from vp_in_nI (by decide) (by decide)) (by decide +kernel) ?_
  refine g_istore_n (L2 := [some (.int (0)), some (.int (5)), some (.int (2)), some (.int (0))]) m91_38 rfl rfl ?_
  refine g_iinc (x2 := (1 : Int32)) (L2 := [some (.int (0)), some (.int (5)), some (.int (2)), some (.int (1))]) m91_39 rfl (by decide) rfl rfl ?_
  refine g_goto m91_42 ?_
  refine g_iload_n m91_4 rfl ?_
  refine g_bipush m91_5 ?_
  refine h_ic_geF (xi := 1) (zi := 7) m91_7 rfl rfl (by decide) ?_
  refine g_iload_n m91_10 rfl ?_
  refine g_bipush m91_11 ?_
  refine g_cs (args := [.int (2), .int (6)]) (rest := []) 0 (Or.inl rfl) m91_13 (Nat.le_of_ble_eq_true rfl) rfl rfl (Nat.le_of_ble_eq_true rfl) ?_
  refine c_withinI (M := 6) (vi := 2) rfl rfl (fun _ => ?_) (fun q => absurd q (by decide))
  refine gwr ?_
  refine h_if_eqF (xi := 1) (zi := 0) m91_16 rfl rfl (by decide) ?_
  refine g_gst m91_19 rfl ?_
  refine g_iconst m91_22 ?_
  refine g_iload_n m91_23 rfl ?_
  refine g_imul (u := (8 : Int32)) m91_24 (by decide) ?_
  refine g_iload_n m91_25 rfl ?_
  refine g_iadd (u := (8 : Int32)) m91_26 (by decide) ?_
  refine g_iald (x := (0 : Int32)) m91_27 rfl (show vp_in (nI 8) 28 from vp_in_nI (by decide) (by decide)) (by decide +kernel) ?_
  refine h_if_eqT (xi := 0) (zi := 0) m91_28 rfl rfl (by decide) ?_
  refine g_gst m91_33 rfl ?_
  refine g_iload_n m91_36 rfl ?_
  refine g_iald (x := (0 : Int32)) m91_37 rfl (show vp_in (nI 2) 7 from vp_in_nI (by decide) (by decide)) (by decide +kernel) ?_
  refine g_istore_n (L2 := [some (.int (0)), some (.int (5)), some (.int (0)), some (.int (1))]) m91_38 rfl rfl ?_
  refine g_iinc (x2 := (2 : Int32)) (L2 := [some (.int (0)), some (.int (5)), some (.int (0)), some (.int (2))]) m91_39 rfl (by decide) rfl rfl ?_
  refine g_goto m91_42 ?_
  refine g_iload_n m91_4 rfl ?_
  refine g_bipush m91_5 ?_
  refine h_ic_geF (xi := 2) (zi := 7) m91_7 rfl rfl (by decide) ?_
  refine g_iload_n m91_10 rfl ?_
  refine g_bipush m91_11 ?_
  refine g_cs (args := [.int (0), .int (6)]) (rest := []) 0 (Or.inl rfl) m91_13 (Nat.le_of_ble_eq_true rfl) rfl rfl (Nat.le_of_ble_eq_true rfl) ?_
  refine c_withinI (M := 6) (vi := 0) rfl rfl (fun _ => ?_) (fun q => absurd q (by decide))
  refine gwr ?_
  refine h_if_eqF (xi := 1) (zi := 0) m91_16 rfl rfl (by decide) ?_
  refine g_gst m91_19 rfl ?_
  refine g_iconst m91_22 ?_
  refine g_iload_n m91_23 rfl ?_
  refine g_imul (u := (0 : Int32)) m91_24 (by decide) ?_
  refine g_iload_n m91_25 rfl ?_
  refine g_iadd (u := (0 : Int32)) m91_26 (by decide) ?_
  refine g_iald (x := (10 : Int32)) m91_27 rfl (show vp_in (nI 0) 28 from vp_in_nI (by decide) (by decide)) (by decide +kernel) ?_
  refine h_if_eqF (xi := 10) (zi := 0) m91_28 rfl rfl (by decide) ?_
  refine g_iload_n m91_31 rfl ?_
  refine g_iret m91_32 rt_91 ?_
  exact hQ
set_option maxRecDepth 20000 in
set_option maxHeartbeats 40000000 in
theorem c_own_0_6 (hQ : Q (some (.int 0)) h) : WP xs (d + 2) 91 0 0 [.int (0), .int (6)] h Q := by
  refine wp_x mx_91 (L := [some (.int (0)), some (.int (6)), none, none]) (Nat.le_of_ble_eq_true rfl) rfl ?_
  refine g_iload_n m91_0 rfl ?_
  refine g_istore_n (L2 := [some (.int (0)), some (.int (6)), some (.int (6)), none]) m91_1 rfl rfl ?_
  refine g_iconst m91_2 ?_
  refine g_istore_n (L2 := [some (.int (0)), some (.int (6)), some (.int (6)), some (.int (0))]) m91_3 rfl rfl ?_
  refine g_iload_n m91_4 rfl ?_
  refine g_bipush m91_5 ?_
  refine h_ic_geF (xi := 0) (zi := 7) m91_7 rfl rfl (by decide) ?_
  refine g_iload_n m91_10 rfl ?_
  refine g_bipush m91_11 ?_
  refine g_cs (args := [.int (6), .int (6)]) (rest := []) 0 (Or.inl rfl) m91_13 (Nat.le_of_ble_eq_true rfl) rfl rfl (Nat.le_of_ble_eq_true rfl) ?_
  refine c_withinI (M := 6) (vi := 6) rfl rfl (fun _ => ?_) (fun q => absurd q (by decide))
  refine gwr ?_
  refine h_if_eqF (xi := 1) (zi := 0) m91_16 rfl rfl (by decide) ?_
  refine g_gst m91_19 rfl ?_
  refine g_iconst m91_22 ?_
  refine g_iload_n m91_23 rfl ?_
  refine g_imul (u := (24 : Int32)) m91_24 (by decide) ?_
  refine g_iload_n m91_25 rfl ?_
  refine g_iadd (u := (24 : Int32)) m91_26 (by decide) ?_
  refine g_iald (x := (0 : Int32)) m91_27 rfl (show vp_in (nI 24) 28 from vp_in_nI (by decide) (by decide)) (by decide +kernel) ?_
  refine h_if_eqT (xi := 0) (zi := 0) m91_28 rfl rfl (by decide) ?_
  refine g_gst m91_33 rfl ?_
  refine g_iload_n m91_36 rfl ?_
  refine g_iald (x := (3 : Int32)) m91_37 rfl (show vp_in (nI 6) 7 from vp_in_nI (by decide) (by decide)) (by decide +kernel) ?_
  refine g_istore_n (L2 := [some (.int (0)), some (.int (6)), some (.int (3)), some (.int (0))]) m91_38 rfl rfl ?_
  refine g_iinc (x2 := (1 : Int32)) (L2 := [some (.int (0)), some (.int (6)), some (.int (3)), some (.int (1))]) m91_39 rfl (by decide) rfl rfl ?_
  refine g_goto m91_42 ?_
  refine g_iload_n m91_4 rfl ?_
  refine g_bipush m91_5 ?_
  refine h_ic_geF (xi := 1) (zi := 7) m91_7 rfl rfl (by decide) ?_
  refine g_iload_n m91_10 rfl ?_
  refine g_bipush m91_11 ?_
  refine g_cs (args := [.int (3), .int (6)]) (rest := []) 0 (Or.inl rfl) m91_13 (Nat.le_of_ble_eq_true rfl) rfl rfl (Nat.le_of_ble_eq_true rfl) ?_
  refine c_withinI (M := 6) (vi := 3) rfl rfl (fun _ => ?_) (fun q => absurd q (by decide))
  refine gwr ?_
  refine h_if_eqF (xi := 1) (zi := 0) m91_16 rfl rfl (by decide) ?_
  refine g_gst m91_19 rfl ?_
  refine g_iconst m91_22 ?_
  refine g_iload_n m91_23 rfl ?_
  refine g_imul (u := (12 : Int32)) m91_24 (by decide) ?_
  refine g_iload_n m91_25 rfl ?_
  refine g_iadd (u := (12 : Int32)) m91_26 (by decide) ?_
  refine g_iald (x := (0 : Int32)) m91_27 rfl (show vp_in (nI 12) 28 from vp_in_nI (by decide) (by decide)) (by decide +kernel) ?_
  refine h_if_eqT (xi := 0) (zi := 0) m91_28 rfl rfl (by decide) ?_
  refine g_gst m91_33 rfl ?_
  refine g_iload_n m91_36 rfl ?_
  refine g_iald (x := (0 : Int32)) m91_37 rfl (show vp_in (nI 3) 7 from vp_in_nI (by decide) (by decide)) (by decide +kernel) ?_
  refine g_istore_n (L2 := [some (.int (0)), some (.int (6)), some (.int (0)), some (.int (1))]) m91_38 rfl rfl ?_
  refine g_iinc (x2 := (2 : Int32)) (L2 := [some (.int (0)), some (.int (6)), some (.int (0)), some (.int (2))]) m91_39 rfl (by decide) rfl rfl ?_
  refine g_goto m91_42 ?_
  refine g_iload_n m91_4 rfl ?_
  refine g_bipush m91_5 ?_
  refine h_ic_geF (xi := 2) (zi := 7) m91_7 rfl rfl (by decide) ?_
  refine g_iload_n m91_10 rfl ?_
  refine g_bipush m91_11 ?_
  refine g_cs (args := [.int (0), .int (6)]) (rest := []) 0 (Or.inl rfl) m91_13 (Nat.le_of_ble_eq_true rfl) rfl rfl (Nat.le_of_ble_eq_true rfl) ?_
  refine c_withinI (M := 6) (vi := 0) rfl rfl (fun _ => ?_) (fun q => absurd q (by decide))
  refine gwr ?_
  refine h_if_eqF (xi := 1) (zi := 0) m91_16 rfl rfl (by decide) ?_
  refine g_gst m91_19 rfl ?_
  refine g_iconst m91_22 ?_
  refine g_iload_n m91_23 rfl ?_
  refine g_imul (u := (0 : Int32)) m91_24 (by decide) ?_
  refine g_iload_n m91_25 rfl ?_
  refine g_iadd (u := (0 : Int32)) m91_26 (by decide) ?_
  refine g_iald (x := (10 : Int32)) m91_27 rfl (show vp_in (nI 0) 28 from vp_in_nI (by decide) (by decide)) (by decide +kernel) ?_
  refine h_if_eqF (xi := 10) (zi := 0) m91_28 rfl rfl (by decide) ?_
  refine g_iload_n m91_31 rfl ?_
  refine g_iret m91_32 rt_91 ?_
  exact hQ
set_option maxRecDepth 20000 in
set_option maxHeartbeats 40000000 in
theorem c_own_1_0 (hQ : Q (some (.int 0)) h) : WP xs (d + 2) 91 0 0 [.int (1), .int (0)] h Q := by
  refine wp_x mx_91 (L := [some (.int (1)), some (.int (0)), none, none]) (Nat.le_of_ble_eq_true rfl) rfl ?_
  refine g_iload_n m91_0 rfl ?_
  refine g_istore_n (L2 := [some (.int (1)), some (.int (0)), some (.int (0)), none]) m91_1 rfl rfl ?_
  refine g_iconst m91_2 ?_
  refine g_istore_n (L2 := [some (.int (1)), some (.int (0)), some (.int (0)), some (.int (0))]) m91_3 rfl rfl ?_
  refine g_iload_n m91_4 rfl ?_
  refine g_bipush m91_5 ?_
  refine h_ic_geF (xi := 0) (zi := 7) m91_7 rfl rfl (by decide) ?_
  refine g_iload_n m91_10 rfl ?_
  refine g_bipush m91_11 ?_
  refine g_cs (args := [.int (0), .int (6)]) (rest := []) 0 (Or.inl rfl) m91_13 (Nat.le_of_ble_eq_true rfl) rfl rfl (Nat.le_of_ble_eq_true rfl) ?_
  refine c_withinI (M := 6) (vi := 0) rfl rfl (fun _ => ?_) (fun q => absurd q (by decide))
  refine gwr ?_
  refine h_if_eqF (xi := 1) (zi := 0) m91_16 rfl rfl (by decide) ?_
  refine g_gst m91_19 rfl ?_
  refine g_iconst m91_22 ?_
  refine g_iload_n m91_23 rfl ?_
  refine g_imul (u := (0 : Int32)) m91_24 (by decide) ?_
  refine g_iload_n m91_25 rfl ?_
  refine g_iadd (u := (1 : Int32)) m91_26 (by decide) ?_
  refine g_iald (x := (11 : Int32)) m91_27 rfl (show vp_in (nI 1) 28 from vp_in_nI (by decide) (by decide)) (by decide +kernel) ?_
  refine h_if_eqF (xi := 11) (zi := 0) m91_28 rfl rfl (by decide) ?_
  refine g_iload_n m91_31 rfl ?_
  refine g_iret m91_32 rt_91 ?_
  exact hQ
set_option maxRecDepth 20000 in
set_option maxHeartbeats 40000000 in
theorem c_own_1_1 (hQ : Q (some (.int 0)) h) : WP xs (d + 2) 91 0 0 [.int (1), .int (1)] h Q := by
  refine wp_x mx_91 (L := [some (.int (1)), some (.int (1)), none, none]) (Nat.le_of_ble_eq_true rfl) rfl ?_
  refine g_iload_n m91_0 rfl ?_
  refine g_istore_n (L2 := [some (.int (1)), some (.int (1)), some (.int (1)), none]) m91_1 rfl rfl ?_
  refine g_iconst m91_2 ?_
  refine g_istore_n (L2 := [some (.int (1)), some (.int (1)), some (.int (1)), some (.int (0))]) m91_3 rfl rfl ?_
  refine g_iload_n m91_4 rfl ?_
  refine g_bipush m91_5 ?_
  refine h_ic_geF (xi := 0) (zi := 7) m91_7 rfl rfl (by decide) ?_
  refine g_iload_n m91_10 rfl ?_
  refine g_bipush m91_11 ?_
  refine g_cs (args := [.int (1), .int (6)]) (rest := []) 0 (Or.inl rfl) m91_13 (Nat.le_of_ble_eq_true rfl) rfl rfl (Nat.le_of_ble_eq_true rfl) ?_
  refine c_withinI (M := 6) (vi := 1) rfl rfl (fun _ => ?_) (fun q => absurd q (by decide))
  refine gwr ?_
  refine h_if_eqF (xi := 1) (zi := 0) m91_16 rfl rfl (by decide) ?_
  refine g_gst m91_19 rfl ?_
  refine g_iconst m91_22 ?_
  refine g_iload_n m91_23 rfl ?_
  refine g_imul (u := (4 : Int32)) m91_24 (by decide) ?_
  refine g_iload_n m91_25 rfl ?_
  refine g_iadd (u := (5 : Int32)) m91_26 (by decide) ?_
  refine g_iald (x := (0 : Int32)) m91_27 rfl (show vp_in (nI 5) 28 from vp_in_nI (by decide) (by decide)) (by decide +kernel) ?_
  refine h_if_eqT (xi := 0) (zi := 0) m91_28 rfl rfl (by decide) ?_
  refine g_gst m91_33 rfl ?_
  refine g_iload_n m91_36 rfl ?_
  refine g_iald (x := (0 : Int32)) m91_37 rfl (show vp_in (nI 1) 7 from vp_in_nI (by decide) (by decide)) (by decide +kernel) ?_
  refine g_istore_n (L2 := [some (.int (1)), some (.int (1)), some (.int (0)), some (.int (0))]) m91_38 rfl rfl ?_
  refine g_iinc (x2 := (1 : Int32)) (L2 := [some (.int (1)), some (.int (1)), some (.int (0)), some (.int (1))]) m91_39 rfl (by decide) rfl rfl ?_
  refine g_goto m91_42 ?_
  refine g_iload_n m91_4 rfl ?_
  refine g_bipush m91_5 ?_
  refine h_ic_geF (xi := 1) (zi := 7) m91_7 rfl rfl (by decide) ?_
  refine g_iload_n m91_10 rfl ?_
  refine g_bipush m91_11 ?_
  refine g_cs (args := [.int (0), .int (6)]) (rest := []) 0 (Or.inl rfl) m91_13 (Nat.le_of_ble_eq_true rfl) rfl rfl (Nat.le_of_ble_eq_true rfl) ?_
  refine c_withinI (M := 6) (vi := 0) rfl rfl (fun _ => ?_) (fun q => absurd q (by decide))
  refine gwr ?_
  refine h_if_eqF (xi := 1) (zi := 0) m91_16 rfl rfl (by decide) ?_
  refine g_gst m91_19 rfl ?_
  refine g_iconst m91_22 ?_
  refine g_iload_n m91_23 rfl ?_
  refine g_imul (u := (0 : Int32)) m91_24 (by decide) ?_
  refine g_iload_n m91_25 rfl ?_
  refine g_iadd (u := (1 : Int32)) m91_26 (by decide) ?_
  refine g_iald (x := (11 : Int32)) m91_27 rfl (show vp_in (nI 1) 28 from vp_in_nI (by decide) (by decide)) (by decide +kernel) ?_
  refine h_if_eqF (xi := 11) (zi := 0) m91_28 rfl rfl (by decide) ?_
  refine g_iload_n m91_31 rfl ?_
  refine g_iret m91_32 rt_91 ?_
  exact hQ
set_option maxRecDepth 20000 in
set_option maxHeartbeats 40000000 in
theorem c_own_1_2 (hQ : Q (some (.int 2)) h) : WP xs (d + 2) 91 0 0 [.int (1), .int (2)] h Q := by
  refine wp_x mx_91 (L := [some (.int (1)), some (.int (2)), none, none]) (Nat.le_of_ble_eq_true rfl) rfl ?_
  refine g_iload_n m91_0 rfl ?_
  refine g_istore_n (L2 := [some (.int (1)), some (.int (2)), some (.int (2)), none]) m91_1 rfl rfl ?_
  refine g_iconst m91_2 ?_
  refine g_istore_n (L2 := [some (.int (1)), some (.int (2)), some (.int (2)), some (.int (0))]) m91_3 rfl rfl ?_
  refine g_iload_n m91_4 rfl ?_
  refine g_bipush m91_5 ?_
  refine h_ic_geF (xi := 0) (zi := 7) m91_7 rfl rfl (by decide) ?_
  refine g_iload_n m91_10 rfl ?_
  refine g_bipush m91_11 ?_
  refine g_cs (args := [.int (2), .int (6)]) (rest := []) 0 (Or.inl rfl) m91_13 (Nat.le_of_ble_eq_true rfl) rfl rfl (Nat.le_of_ble_eq_true rfl) ?_
  refine c_withinI (M := 6) (vi := 2) rfl rfl (fun _ => ?_) (fun q => absurd q (by decide))
  refine gwr ?_
  refine h_if_eqF (xi := 1) (zi := 0) m91_16 rfl rfl (by decide) ?_
  refine g_gst m91_19 rfl ?_
  refine g_iconst m91_22 ?_
  refine g_iload_n m91_23 rfl ?_
  refine g_imul (u := (8 : Int32)) m91_24 (by decide) ?_
  refine g_iload_n m91_25 rfl ?_
  refine g_iadd (u := (9 : Int32)) m91_26 (by decide) ?_
  refine g_iald (x := (30 : Int32)) m91_27 rfl (show vp_in (nI 9) 28 from vp_in_nI (by decide) (by decide)) (by decide +kernel) ?_
  refine h_if_eqF (xi := 30) (zi := 0) m91_28 rfl rfl (by decide) ?_
  refine g_iload_n m91_31 rfl ?_
  refine g_iret m91_32 rt_91 ?_
  exact hQ
set_option maxRecDepth 20000 in
set_option maxHeartbeats 40000000 in
theorem c_own_1_3 (hQ : Q (some (.int 0)) h) : WP xs (d + 2) 91 0 0 [.int (1), .int (3)] h Q := by
  refine wp_x mx_91 (L := [some (.int (1)), some (.int (3)), none, none]) (Nat.le_of_ble_eq_true rfl) rfl ?_
  refine g_iload_n m91_0 rfl ?_
  refine g_istore_n (L2 := [some (.int (1)), some (.int (3)), some (.int (3)), none]) m91_1 rfl rfl ?_
  refine g_iconst m91_2 ?_
  refine g_istore_n (L2 := [some (.int (1)), some (.int (3)), some (.int (3)), some (.int (0))]) m91_3 rfl rfl ?_
  refine g_iload_n m91_4 rfl ?_
  refine g_bipush m91_5 ?_
  refine h_ic_geF (xi := 0) (zi := 7) m91_7 rfl rfl (by decide) ?_
  refine g_iload_n m91_10 rfl ?_
  refine g_bipush m91_11 ?_
  refine g_cs (args := [.int (3), .int (6)]) (rest := []) 0 (Or.inl rfl) m91_13 (Nat.le_of_ble_eq_true rfl) rfl rfl (Nat.le_of_ble_eq_true rfl) ?_
  refine c_withinI (M := 6) (vi := 3) rfl rfl (fun _ => ?_) (fun q => absurd q (by decide))
  refine gwr ?_
  refine h_if_eqF (xi := 1) (zi := 0) m91_16 rfl rfl (by decide) ?_
  refine g_gst m91_19 rfl ?_
  refine g_iconst m91_22 ?_
  refine g_iload_n m91_23 rfl ?_
  refine g_imul (u := (12 : Int32)) m91_24 (by decide) ?_
  refine g_iload_n m91_25 rfl ?_
  refine g_iadd (u := (13 : Int32)) m91_26 (by decide) ?_
  refine g_iald (x := (0 : Int32)) m91_27 rfl (show vp_in (nI 13) 28 from vp_in_nI (by decide) (by decide)) (by decide +kernel) ?_
  refine h_if_eqT (xi := 0) (zi := 0) m91_28 rfl rfl (by decide) ?_
  refine g_gst m91_33 rfl ?_
  refine g_iload_n m91_36 rfl ?_
  refine g_iald (x := (0 : Int32)) m91_37 rfl (show vp_in (nI 3) 7 from vp_in_nI (by decide) (by decide)) (by decide +kernel) ?_
  refine g_istore_n (L2 := [some (.int (1)), some (.int (3)), some (.int (0)), some (.int (0))]) m91_38 rfl rfl ?_
  refine g_iinc (x2 := (1 : Int32)) (L2 := [some (.int (1)), some (.int (3)), some (.int (0)), some (.int (1))]) m91_39 rfl (by decide) rfl rfl ?_
  refine g_goto m91_42 ?_
  refine g_iload_n m91_4 rfl ?_
  refine g_bipush m91_5 ?_
  refine h_ic_geF (xi := 1) (zi := 7) m91_7 rfl rfl (by decide) ?_
  refine g_iload_n m91_10 rfl ?_
  refine g_bipush m91_11 ?_
  refine g_cs (args := [.int (0), .int (6)]) (rest := []) 0 (Or.inl rfl) m91_13 (Nat.le_of_ble_eq_true rfl) rfl rfl (Nat.le_of_ble_eq_true rfl) ?_
  refine c_withinI (M := 6) (vi := 0) rfl rfl (fun _ => ?_) (fun q => absurd q (by decide))
  refine gwr ?_
  refine h_if_eqF (xi := 1) (zi := 0) m91_16 rfl rfl (by decide) ?_
  refine g_gst m91_19 rfl ?_
  refine g_iconst m91_22 ?_
  refine g_iload_n m91_23 rfl ?_
  refine g_imul (u := (0 : Int32)) m91_24 (by decide) ?_
  refine g_iload_n m91_25 rfl ?_
  refine g_iadd (u := (1 : Int32)) m91_26 (by decide) ?_
  refine g_iald (x := (11 : Int32)) m91_27 rfl (show vp_in (nI 1) 28 from vp_in_nI (by decide) (by decide)) (by decide +kernel) ?_
  refine h_if_eqF (xi := 11) (zi := 0) m91_28 rfl rfl (by decide) ?_
  refine g_iload_n m91_31 rfl ?_
  refine g_iret m91_32 rt_91 ?_
  exact hQ
set_option maxRecDepth 20000 in
set_option maxHeartbeats 40000000 in
theorem c_own_1_4 (hQ : Q (some (.int 0)) h) : WP xs (d + 2) 91 0 0 [.int (1), .int (4)] h Q := by
  refine wp_x mx_91 (L := [some (.int (1)), some (.int (4)), none, none]) (Nat.le_of_ble_eq_true rfl) rfl ?_
  refine g_iload_n m91_0 rfl ?_
  refine g_istore_n (L2 := [some (.int (1)), some (.int (4)), some (.int (4)), none]) m91_1 rfl rfl ?_
  refine g_iconst m91_2 ?_
  refine g_istore_n (L2 := [some (.int (1)), some (.int (4)), some (.int (4)), some (.int (0))]) m91_3 rfl rfl ?_
  refine g_iload_n m91_4 rfl ?_
  refine g_bipush m91_5 ?_
  refine h_ic_geF (xi := 0) (zi := 7) m91_7 rfl rfl (by decide) ?_
  refine g_iload_n m91_10 rfl ?_
  refine g_bipush m91_11 ?_
  refine g_cs (args := [.int (4), .int (6)]) (rest := []) 0 (Or.inl rfl) m91_13 (Nat.le_of_ble_eq_true rfl) rfl rfl (Nat.le_of_ble_eq_true rfl) ?_
  refine c_withinI (M := 6) (vi := 4) rfl rfl (fun _ => ?_) (fun q => absurd q (by decide))
  refine gwr ?_
  refine h_if_eqF (xi := 1) (zi := 0) m91_16 rfl rfl (by decide) ?_
  refine g_gst m91_19 rfl ?_
  refine g_iconst m91_22 ?_
  refine g_iload_n m91_23 rfl ?_
  refine g_imul (u := (16 : Int32)) m91_24 (by decide) ?_
  refine g_iload_n m91_25 rfl ?_
  refine g_iadd (u := (17 : Int32)) m91_26 (by decide) ?_
  refine g_iald (x := (0 : Int32)) m91_27 rfl (show vp_in (nI 17) 28 from vp_in_nI (by decide) (by decide)) (by decide +kernel) ?_
  refine h_if_eqT (xi := 0) (zi := 0) m91_28 rfl rfl (by decide) ?_
  refine g_gst m91_33 rfl ?_
  refine g_iload_n m91_36 rfl ?_
  refine g_iald (x := (1 : Int32)) m91_37 rfl (show vp_in (nI 4) 7 from vp_in_nI (by decide) (by decide)) (by decide +kernel) ?_
  refine g_istore_n (L2 := [some (.int (1)), some (.int (4)), some (.int (1)), some (.int (0))]) m91_38 rfl rfl ?_
  refine g_iinc (x2 := (1 : Int32)) (L2 := [some (.int (1)), some (.int (4)), some (.int (1)), some (.int (1))]) m91_39 rfl (by decide) rfl rfl ?_
  refine g_goto m91_42 ?_
  refine g_iload_n m91_4 rfl ?_
  refine g_bipush m91_5 ?_
  refine h_ic_geF (xi := 1) (zi := 7) m91_7 rfl rfl (by decide) ?_
  refine g_iload_n m91_10 rfl ?_
  refine g_bipush m91_11 ?_
  refine g_cs (args := [.int (1), .int (6)]) (rest := []) 0 (Or.inl rfl) m91_13 (Nat.le_of_ble_eq_true rfl) rfl rfl (Nat.le_of_ble_eq_true rfl) ?_
  refine c_withinI (M := 6) (vi := 1) rfl rfl (fun _ => ?_) (fun q => absurd q (by decide))
  refine gwr ?_
  refine h_if_eqF (xi := 1) (zi := 0) m91_16 rfl rfl (by decide) ?_
  refine g_gst m91_19 rfl ?_
  refine g_iconst m91_22 ?_
  refine g_iload_n m91_23 rfl ?_
  refine g_imul (u := (4 : Int32)) m91_24 (by decide) ?_
  refine g_iload_n m91_25 rfl ?_
  refine g_iadd (u := (5 : Int32)) m91_26 (by decide) ?_
  refine g_iald (x := (0 : Int32)) m91_27 rfl (show vp_in (nI 5) 28 from vp_in_nI (by decide) (by decide)) (by decide +kernel) ?_
  refine h_if_eqT (xi := 0) (zi := 0) m91_28 rfl rfl (by decide) ?_
  refine g_gst m91_33 rfl ?_
  refine g_iload_n m91_36 rfl ?_
  refine g_iald (x := (0 : Int32)) m91_37 rfl (show vp_in (nI 1) 7 from vp_in_nI (by decide) (by decide)) (by decide +kernel) ?_
  refine g_istore_n (L2 := [some (.int (1)), some (.int (4)), some (.int (0)), some (.int (1))]) m91_38 rfl rfl ?_
  refine g_iinc (x2 := (2 : Int32)) (L2 := [some (.int (1)), some (.int (4)), some (.int (0)), some (.int (2))]) m91_39 rfl (by decide) rfl rfl ?_
  refine g_goto m91_42 ?_
  refine g_iload_n m91_4 rfl ?_
  refine g_bipush m91_5 ?_
  refine h_ic_geF (xi := 2) (zi := 7) m91_7 rfl rfl (by decide) ?_
  refine g_iload_n m91_10 rfl ?_
  refine g_bipush m91_11 ?_
  refine g_cs (args := [.int (0), .int (6)]) (rest := []) 0 (Or.inl rfl) m91_13 (Nat.le_of_ble_eq_true rfl) rfl rfl (Nat.le_of_ble_eq_true rfl) ?_
  refine c_withinI (M := 6) (vi := 0) rfl rfl (fun _ => ?_) (fun q => absurd q (by decide))
  refine gwr ?_
  refine h_if_eqF (xi := 1) (zi := 0) m91_16 rfl rfl (by decide) ?_
  refine g_gst m91_19 rfl ?_
  refine g_iconst m91_22 ?_
  refine g_iload_n m91_23 rfl ?_
  refine g_imul (u := (0 : Int32)) m91_24 (by decide) ?_
  refine g_iload_n m91_25 rfl ?_
  refine g_iadd (u := (1 : Int32)) m91_26 (by decide) ?_
  refine g_iald (x := (11 : Int32)) m91_27 rfl (show vp_in (nI 1) 28 from vp_in_nI (by decide) (by decide)) (by decide +kernel) ?_
  refine h_if_eqF (xi := 11) (zi := 0) m91_28 rfl rfl (by decide) ?_
  refine g_iload_n m91_31 rfl ?_
  refine g_iret m91_32 rt_91 ?_
  exact hQ
set_option maxRecDepth 20000 in
set_option maxHeartbeats 40000000 in
theorem c_own_1_5 (hQ : Q (some (.int 5)) h) : WP xs (d + 2) 91 0 0 [.int (1), .int (5)] h Q := by
  refine wp_x mx_91 (L := [some (.int (1)), some (.int (5)), none, none]) (Nat.le_of_ble_eq_true rfl) rfl ?_
  refine g_iload_n m91_0 rfl ?_
  refine g_istore_n (L2 := [some (.int (1)), some (.int (5)), some (.int (5)), none]) m91_1 rfl rfl ?_
  refine g_iconst m91_2 ?_
  refine g_istore_n (L2 := [some (.int (1)), some (.int (5)), some (.int (5)), some (.int (0))]) m91_3 rfl rfl ?_
  refine g_iload_n m91_4 rfl ?_
  refine g_bipush m91_5 ?_
  refine h_ic_geF (xi := 0) (zi := 7) m91_7 rfl rfl (by decide) ?_
  refine g_iload_n m91_10 rfl ?_
  refine g_bipush m91_11 ?_
  refine g_cs (args := [.int (5), .int (6)]) (rest := []) 0 (Or.inl rfl) m91_13 (Nat.le_of_ble_eq_true rfl) rfl rfl (Nat.le_of_ble_eq_true rfl) ?_
  refine c_withinI (M := 6) (vi := 5) rfl rfl (fun _ => ?_) (fun q => absurd q (by decide))
  refine gwr ?_
  refine h_if_eqF (xi := 1) (zi := 0) m91_16 rfl rfl (by decide) ?_
  refine g_gst m91_19 rfl ?_
  refine g_iconst m91_22 ?_
  refine g_iload_n m91_23 rfl ?_
  refine g_imul (u := (20 : Int32)) m91_24 (by decide) ?_
  refine g_iload_n m91_25 rfl ?_
  refine g_iadd (u := (21 : Int32)) m91_26 (by decide) ?_
  refine g_iald (x := (60 : Int32)) m91_27 rfl (show vp_in (nI 21) 28 from vp_in_nI (by decide) (by decide)) (by decide +kernel) ?_
  refine h_if_eqF (xi := 60) (zi := 0) m91_28 rfl rfl (by decide) ?_
  refine g_iload_n m91_31 rfl ?_
  refine g_iret m91_32 rt_91 ?_
  exact hQ
set_option maxRecDepth 20000 in
set_option maxHeartbeats 40000000 in
theorem c_own_1_6 (hQ : Q (some (.int 0)) h) : WP xs (d + 2) 91 0 0 [.int (1), .int (6)] h Q := by
  refine wp_x mx_91 (L := [some (.int (1)), some (.int (6)), none, none]) (Nat.le_of_ble_eq_true rfl) rfl ?_
  refine g_iload_n m91_0 rfl ?_
  refine g_istore_n (L2 := [some (.int (1)), some (.int (6)), some (.int (6)), none]) m91_1 rfl rfl ?_
  refine g_iconst m91_2 ?_
  refine g_istore_n (L2 := [some (.int (1)), some (.int (6)), some (.int (6)), some (.int (0))]) m91_3 rfl rfl ?_
  refine g_iload_n m91_4 rfl ?_
  refine g_bipush m91_5 ?_
  refine h_ic_geF (xi := 0) (zi := 7) m91_7 rfl rfl (by decide) ?_
  refine g_iload_n m91_10 rfl ?_
  refine g_bipush m91_11 ?_
  refine g_cs (args := [.int (6), .int (6)]) (rest := []) 0 (Or.inl rfl) m91_13 (Nat.le_of_ble_eq_true rfl) rfl rfl (Nat.le_of_ble_eq_true rfl) ?_
  refine c_withinI (M := 6) (vi := 6) rfl rfl (fun _ => ?_) (fun q => absurd q (by decide))
  refine gwr ?_
  refine h_if_eqF (xi := 1) (zi := 0) m91_16 rfl rfl (by decide) ?_
  refine g_gst m91_19 rfl ?_
  refine g_iconst m91_22 ?_
  refine g_iload_n m91_23 rfl ?_
  refine g_imul (u := (24 : Int32)) m91_24 (by decide) ?_
  refine g_iload_n m91_25 rfl ?_
  refine g_iadd (u := (25 : Int32)) m91_26 (by decide) ?_
  refine g_iald (x := (0 : Int32)) m91_27 rfl (show vp_in (nI 25) 28 from vp_in_nI (by decide) (by decide)) (by decide +kernel) ?_
  refine h_if_eqT (xi := 0) (zi := 0) m91_28 rfl rfl (by decide) ?_
  refine g_gst m91_33 rfl ?_
  refine g_iload_n m91_36 rfl ?_
  refine g_iald (x := (3 : Int32)) m91_37 rfl (show vp_in (nI 6) 7 from vp_in_nI (by decide) (by decide)) (by decide +kernel) ?_
  refine g_istore_n (L2 := [some (.int (1)), some (.int (6)), some (.int (3)), some (.int (0))]) m91_38 rfl rfl ?_
  refine g_iinc (x2 := (1 : Int32)) (L2 := [some (.int (1)), some (.int (6)), some (.int (3)), some (.int (1))]) m91_39 rfl (by decide) rfl rfl ?_
  refine g_goto m91_42 ?_
  refine g_iload_n m91_4 rfl ?_
  refine g_bipush m91_5 ?_
  refine h_ic_geF (xi := 1) (zi := 7) m91_7 rfl rfl (by decide) ?_
  refine g_iload_n m91_10 rfl ?_
  refine g_bipush m91_11 ?_
  refine g_cs (args := [.int (3), .int (6)]) (rest := []) 0 (Or.inl rfl) m91_13 (Nat.le_of_ble_eq_true rfl) rfl rfl (Nat.le_of_ble_eq_true rfl) ?_
  refine c_withinI (M := 6) (vi := 3) rfl rfl (fun _ => ?_) (fun q => absurd q (by decide))
  refine gwr ?_
  refine h_if_eqF (xi := 1) (zi := 0) m91_16 rfl rfl (by decide) ?_
  refine g_gst m91_19 rfl ?_
  refine g_iconst m91_22 ?_
  refine g_iload_n m91_23 rfl ?_
  refine g_imul (u := (12 : Int32)) m91_24 (by decide) ?_
  refine g_iload_n m91_25 rfl ?_
  refine g_iadd (u := (13 : Int32)) m91_26 (by decide) ?_
  refine g_iald (x := (0 : Int32)) m91_27 rfl (show vp_in (nI 13) 28 from vp_in_nI (by decide) (by decide)) (by decide +kernel) ?_
  refine h_if_eqT (xi := 0) (zi := 0) m91_28 rfl rfl (by decide) ?_
  refine g_gst m91_33 rfl ?_
  refine g_iload_n m91_36 rfl ?_
  refine g_iald (x := (0 : Int32)) m91_37 rfl (show vp_in (nI 3) 7 from vp_in_nI (by decide) (by decide)) (by decide +kernel) ?_
  refine g_istore_n (L2 := [some (.int (1)), some (.int (6)), some (.int (0)), some (.int (1))]) m91_38 rfl rfl ?_
  refine g_iinc (x2 := (2 : Int32)) (L2 := [some (.int (1)), some (.int (6)), some (.int (0)), some (.int (2))]) m91_39 rfl (by decide) rfl rfl ?_
  refine g_goto m91_42 ?_
  refine g_iload_n m91_4 rfl ?_
  refine g_bipush m91_5 ?_
  refine h_ic_geF (xi := 2) (zi := 7) m91_7 rfl rfl (by decide) ?_
  refine g_iload_n m91_10 rfl ?_
  refine g_bipush m91_11 ?_
  refine g_cs (args := [.int (0), .int (6)]) (rest := []) 0 (Or.inl rfl) m91_13 (Nat.le_of_ble_eq_true rfl) rfl rfl (Nat.le_of_ble_eq_true rfl) ?_
  refine c_withinI (M := 6) (vi := 0) rfl rfl (fun _ => ?_) (fun q => absurd q (by decide))
  refine gwr ?_
  refine h_if_eqF (xi := 1) (zi := 0) m91_16 rfl rfl (by decide) ?_
  refine g_gst m91_19 rfl ?_
  refine g_iconst m91_22 ?_
  refine g_iload_n m91_23 rfl ?_
  refine g_imul (u := (0 : Int32)) m91_24 (by decide) ?_
  refine g_iload_n m91_25 rfl ?_
  refine g_iadd (u := (1 : Int32)) m91_26 (by decide) ?_
  refine g_iald (x := (11 : Int32)) m91_27 rfl (show vp_in (nI 1) 28 from vp_in_nI (by decide) (by decide)) (by decide +kernel) ?_
  refine h_if_eqF (xi := 11) (zi := 0) m91_28 rfl rfl (by decide) ?_
  refine g_iload_n m91_31 rfl ?_
  refine g_iret m91_32 rt_91 ?_
  exact hQ
set_option maxRecDepth 20000 in
set_option maxHeartbeats 40000000 in
theorem c_own_2_0 (hQ : Q (some (.int 0)) h) : WP xs (d + 2) 91 0 0 [.int (2), .int (0)] h Q := by
  refine wp_x mx_91 (L := [some (.int (2)), some (.int (0)), none, none]) (Nat.le_of_ble_eq_true rfl) rfl ?_
  refine g_iload_n m91_0 rfl ?_
  refine g_istore_n (L2 := [some (.int (2)), some (.int (0)), some (.int (0)), none]) m91_1 rfl rfl ?_
  refine g_iconst m91_2 ?_
  refine g_istore_n (L2 := [some (.int (2)), some (.int (0)), some (.int (0)), some (.int (0))]) m91_3 rfl rfl ?_
  refine g_iload_n m91_4 rfl ?_
  refine g_bipush m91_5 ?_
  refine h_ic_geF (xi := 0) (zi := 7) m91_7 rfl rfl (by decide) ?_
  refine g_iload_n m91_10 rfl ?_
  refine g_bipush m91_11 ?_
  refine g_cs (args := [.int (0), .int (6)]) (rest := []) 0 (Or.inl rfl) m91_13 (Nat.le_of_ble_eq_true rfl) rfl rfl (Nat.le_of_ble_eq_true rfl) ?_
  refine c_withinI (M := 6) (vi := 0) rfl rfl (fun _ => ?_) (fun q => absurd q (by decide))
  refine gwr ?_
  refine h_if_eqF (xi := 1) (zi := 0) m91_16 rfl rfl (by decide) ?_
  refine g_gst m91_19 rfl ?_
  refine g_iconst m91_22 ?_
  refine g_iload_n m91_23 rfl ?_
  refine g_imul (u := (0 : Int32)) m91_24 (by decide) ?_
  refine g_iload_n m91_25 rfl ?_
  refine g_iadd (u := (2 : Int32)) m91_26 (by decide) ?_
  refine g_iald (x := (12 : Int32)) m91_27 rfl (show vp_in (nI 2) 28 from vp_in_nI (by decide) (by decide)) (by decide +kernel) ?_
  refine h_if_eqF (xi := 12) (zi := 0) m91_28 rfl rfl (by decide) ?_
  refine g_iload_n m91_31 rfl ?_
  refine g_iret m91_32 rt_91 ?_
  exact hQ
set_option maxRecDepth 20000 in
set_option maxHeartbeats 40000000 in
theorem c_own_2_1 (hQ : Q (some (.int 0)) h) : WP xs (d + 2) 91 0 0 [.int (2), .int (1)] h Q := by
  refine wp_x mx_91 (L := [some (.int (2)), some (.int (1)), none, none]) (Nat.le_of_ble_eq_true rfl) rfl ?_
  refine g_iload_n m91_0 rfl ?_
  refine g_istore_n (L2 := [some (.int (2)), some (.int (1)), some (.int (1)), none]) m91_1 rfl rfl ?_
  refine g_iconst m91_2 ?_
  refine g_istore_n (L2 := [some (.int (2)), some (.int (1)), some (.int (1)), some (.int (0))]) m91_3 rfl rfl ?_
  refine g_iload_n m91_4 rfl ?_
  refine g_bipush m91_5 ?_
  refine h_ic_geF (xi := 0) (zi := 7) m91_7 rfl rfl (by decide) ?_
  refine g_iload_n m91_10 rfl ?_
  refine g_bipush m91_11 ?_
  refine g_cs (args := [.int (1), .int (6)]) (rest := []) 0 (Or.inl rfl) m91_13 (Nat.le_of_ble_eq_true rfl) rfl rfl (Nat.le_of_ble_eq_true rfl) ?_
  refine c_withinI (M := 6) (vi := 1) rfl rfl (fun _ => ?_) (fun q => absurd q (by decide))
  refine gwr ?_
  refine h_if_eqF (xi := 1) (zi := 0) m91_16 rfl rfl (by decide) ?_
  refine g_gst m91_19 rfl ?_
  refine g_iconst m91_22 ?_
  refine g_iload_n m91_23 rfl ?_
  refine g_imul (u := (4 : Int32)) m91_24 (by decide) ?_
  refine g_iload_n m91_25 rfl ?_
  refine g_iadd (u := (6 : Int32)) m91_26 (by decide) ?_
  refine g_iald (x := (0 : Int32)) m91_27 rfl (show vp_in (nI 6) 28 from vp_in_nI (by decide) (by decide)) (by decide +kernel) ?_
  refine h_if_eqT (xi := 0) (zi := 0) m91_28 rfl rfl (by decide) ?_
  refine g_gst m91_33 rfl ?_
  refine g_iload_n m91_36 rfl ?_
  refine g_iald (x := (0 : Int32)) m91_37 rfl (show vp_in (nI 1) 7 from vp_in_nI (by decide) (by decide)) (by decide +kernel) ?_
  refine g_istore_n (L2 := [some (.int (2)), some (.int (1)), some (.int (0)), some (.int (0))]) m91_38 rfl rfl ?_
  refine g_iinc (x2 := (1 : Int32)) (L2 := [some (.int (2)), some (.int (1)), some (.int (0)), some (.int (1))]) m91_39 rfl (by decide) rfl rfl ?_
  refine g_goto m91_42 ?_
  refine g_iload_n m91_4 rfl ?_
  refine g_bipush m91_5 ?_
  refine h_ic_geF (xi := 1) (zi := 7) m91_7 rfl rfl (by decide) ?_
  refine g_iload_n m91_10 rfl ?_
  refine g_bipush m91_11 ?_
  refine g_cs (args := [.int (0), .int (6)]) (rest := []) 0 (Or.inl rfl) m91_13 (Nat.le_of_ble_eq_true rfl) rfl rfl (Nat.le_of_ble_eq_true rfl) ?_
  refine c_withinI (M := 6) (vi := 0) rfl rfl (fun _ => ?_) (fun q => absurd q (by decide))
  refine gwr ?_
  refine h_if_eqF (xi := 1) (zi := 0) m91_16 rfl rfl (by decide) ?_
  refine g_gst m91_19 rfl ?_
  refine g_iconst m91_22 ?_
  refine g_iload_n m91_23 rfl ?_
  refine g_imul (u := (0 : Int32)) m91_24 (by decide) ?_
  refine g_iload_n m91_25 rfl ?_
  refine g_iadd (u := (2 : Int32)) m91_26 (by decide) ?_
  refine g_iald (x := (12 : Int32)) m91_27 rfl (show vp_in (nI 2) 28 from vp_in_nI (by decide) (by decide)) (by decide +kernel) ?_
  refine h_if_eqF (xi := 12) (zi := 0) m91_28 rfl rfl (by decide) ?_
  refine g_iload_n m91_31 rfl ?_
  refine g_iret m91_32 rt_91 ?_
  exact hQ
set_option maxRecDepth 20000 in
set_option maxHeartbeats 40000000 in
theorem c_own_2_2 (hQ : Q (some (.int 0)) h) : WP xs (d + 2) 91 0 0 [.int (2), .int (2)] h Q := by
  refine wp_x mx_91 (L := [some (.int (2)), some (.int (2)), none, none]) (Nat.le_of_ble_eq_true rfl) rfl ?_
  refine g_iload_n m91_0 rfl ?_
  refine g_istore_n (L2 := [some (.int (2)), some (.int (2)), some (.int (2)), none]) m91_1 rfl rfl ?_
  refine g_iconst m91_2 ?_
  refine g_istore_n (L2 := [some (.int (2)), some (.int (2)), some (.int (2)), some (.int (0))]) m91_3 rfl rfl ?_
  refine g_iload_n m91_4 rfl ?_
  refine g_bipush m91_5 ?_
  refine h_ic_geF (xi := 0) (zi := 7) m91_7 rfl rfl (by decide) ?_
  refine g_iload_n m91_10 rfl ?_
  refine g_bipush m91_11 ?_
  refine g_cs (args := [.int (2), .int (6)]) (rest := []) 0 (Or.inl rfl) m91_13 (Nat.le_of_ble_eq_true rfl) rfl rfl (Nat.le_of_ble_eq_true rfl) ?_
  refine c_withinI (M := 6) (vi := 2) rfl rfl (fun _ => ?_) (fun q => absurd q (by decide))
  refine gwr ?_
  refine h_if_eqF (xi := 1) (zi := 0) m91_16 rfl rfl (by decide) ?_
  refine g_gst m91_19 rfl ?_
  refine g_iconst m91_22 ?_
  refine g_iload_n m91_23 rfl ?_
  refine g_imul (u := (8 : Int32)) m91_24 (by decide) ?_
  refine g_iload_n m91_25 rfl ?_
  refine g_iadd (u := (10 : Int32)) m91_26 (by decide) ?_
  refine g_iald (x := (0 : Int32)) m91_27 rfl (show vp_in (nI 10) 28 from vp_in_nI (by decide) (by decide)) (by decide +kernel) ?_
  refine h_if_eqT (xi := 0) (zi := 0) m91_28 rfl rfl (by decide) ?_
  refine g_gst m91_33 rfl ?_
  refine g_iload_n m91_36 rfl ?_
  refine g_iald (x := (0 : Int32)) m91_37 rfl (show vp_in (nI 2) 7 from vp_in_nI (by decide) (by decide)) (by decide +kernel) ?_
  refine g_istore_n (L2 := [some (.int (2)), some (.int (2)), some (.int (0)), some (.int (0))]) m91_38 rfl rfl ?_
  refine g_iinc (x2 := (1 : Int32)) (L2 := [some (.int (2)), some (.int (2)), some (.int (0)), some (.int (1))]) m91_39 rfl (by decide) rfl rfl ?_
  refine g_goto m91_42 ?_
  refine g_iload_n m91_4 rfl ?_
  refine g_bipush m91_5 ?_
  refine h_ic_geF (xi := 1) (zi := 7) m91_7 rfl rfl (by decide) ?_
  refine g_iload_n m91_10 rfl ?_
  refine g_bipush m91_11 ?_
  refine g_cs (args := [.int (0), .int (6)]) (rest := []) 0 (Or.inl rfl) m91_13 (Nat.le_of_ble_eq_true rfl) rfl rfl (Nat.le_of_ble_eq_true rfl) ?_
  refine c_withinI (M := 6) (vi := 0) rfl rfl (fun _ => ?_) (fun q => absurd q (by decide))
  refine gwr ?_
  refine h_if_eqF (xi := 1) (zi := 0) m91_16 rfl rfl (by decide) ?_
  refine g_gst m91_19 rfl ?_
  refine g_iconst m91_22 ?_
  refine g_iload_n m91_23 rfl ?_
  refine g_imul (u := (0 : Int32)) m91_24 (by decide) ?_
  refine g_iload_n m91_25 rfl ?_
  refine g_iadd (u := (2 : Int32)) m91_26 (by decide) ?_
  refine g_iald (x := (12 : Int32)) m91_27 rfl (show vp_in (nI 2) 28 from vp_in_nI (by decide) (by decide)) (by decide +kernel) ?_
  refine h_if_eqF (xi := 12) (zi := 0) m91_28 rfl rfl (by decide) ?_
  refine g_iload_n m91_31 rfl ?_
  refine g_iret m91_32 rt_91 ?_
  exact hQ
set_option maxRecDepth 20000 in
set_option maxHeartbeats 40000000 in
theorem c_own_2_3 (hQ : Q (some (.int 3)) h) : WP xs (d + 2) 91 0 0 [.int (2), .int (3)] h Q := by
  refine wp_x mx_91 (L := [some (.int (2)), some (.int (3)), none, none]) (Nat.le_of_ble_eq_true rfl) rfl ?_
  refine g_iload_n m91_0 rfl ?_
  refine g_istore_n (L2 := [some (.int (2)), some (.int (3)), some (.int (3)), none]) m91_1 rfl rfl ?_
  refine g_iconst m91_2 ?_
  refine g_istore_n (L2 := [some (.int (2)), some (.int (3)), some (.int (3)), some (.int (0))]) m91_3 rfl rfl ?_
  refine g_iload_n m91_4 rfl ?_
  refine g_bipush m91_5 ?_
  refine h_ic_geF (xi := 0) (zi := 7) m91_7 rfl rfl (by decide) ?_
  refine g_iload_n m91_10 rfl ?_
  refine g_bipush m91_11 ?_
  refine g_cs (args := [.int (3), .int (6)]) (rest := []) 0 (Or.inl rfl) m91_13 (Nat.le_of_ble_eq_true rfl) rfl rfl (Nat.le_of_ble_eq_true rfl) ?_
  refine c_withinI (M := 6) (vi := 3) rfl rfl (fun _ => ?_) (fun q => absurd q (by decide))
  refine gwr ?_
  refine h_if_eqF (xi := 1) (zi := 0) m91_16 rfl rfl (by decide) ?_
  refine g_gst m91_19 rfl ?_
  refine g_iconst m91_22 ?_
  refine g_iload_n m91_23 rfl ?_
  refine g_imul (u := (12 : Int32)) m91_24 (by decide) ?_
  refine g_iload_n m91_25 rfl ?_
  refine g_iadd (u := (14 : Int32)) m91_26 (by decide) ?_
  refine g_iald (x := (40 : Int32)) m91_27 rfl (show vp_in (nI 14) 28 from vp_in_nI (by decide) (by decide)) (by decide +kernel) ?_
  refine h_if_eqF (xi := 40) (zi := 0) m91_28 rfl rfl (by decide) ?_
  refine g_iload_n m91_31 rfl ?_
  refine g_iret m91_32 rt_91 ?_
  exact hQ
set_option maxRecDepth 20000 in
set_option maxHeartbeats 40000000 in
theorem c_own_2_4 (hQ : Q (some (.int 0)) h) : WP xs (d + 2) 91 0 0 [.int (2), .int (4)] h Q := by
  refine wp_x mx_91 (L := [some (.int (2)), some (.int (4)), none, none]) (Nat.le_of_ble_eq_true rfl) rfl ?_
  refine g_iload_n m91_0 rfl ?_
  refine g_istore_n (L2 := [some (.int (2)), some (.int (4)), some (.int (4)), none]) m91_1 rfl rfl ?_
  refine g_iconst m91_2 ?_
  refine g_istore_n (L2 := [some (.int (2)), some (.int (4)), some (.int (4)), some (.int (0))]) m91_3 rfl rfl ?_
  refine g_iload_n m91_4 rfl ?_
  refine g_bipush m91_5 ?_
  refine h_ic_geF (xi := 0) (zi := 7) m91_7 rfl rfl (by decide) ?_
  refine g_iload_n m91_10 rfl ?_
  refine g_bipush m91_11 ?_
  refine g_cs (args := [.int (4), .int (6)]) (rest := []) 0 (Or.inl rfl) m91_13 (Nat.le_of_ble_eq_true rfl) rfl rfl (Nat.le_of_ble_eq_true rfl) ?_
  refine c_withinI (M := 6) (vi := 4) rfl rfl (fun _ => ?_) (fun q => absurd q (by decide))
  refine gwr ?_
  refine h_if_eqF (xi := 1) (zi := 0) m91_16 rfl rfl (by decide) ?_
  refine g_gst m91_19 rfl ?_
  refine g_iconst m91_22 ?_
  refine g_iload_n m91_23 rfl ?_
  refine g_imul (u := (16 : Int32)) m91_24 (by decide) ?_
  refine g_iload_n m91_25 rfl ?_
  refine g_iadd (u := (18 : Int32)) m91_26 (by decide) ?_
  refine g_iald (x := (0 : Int32)) m91_27 rfl (show vp_in (nI 18) 28 from vp_in_nI (by decide) (by decide)) (by decide +kernel) ?_
  refine h_if_eqT (xi := 0) (zi := 0) m91_28 rfl rfl (by decide) ?_
  refine g_gst m91_33 rfl ?_
  refine g_iload_n m91_36 rfl ?_
  refine g_iald (x := (1 : Int32)) m91_37 rfl (show vp_in (nI 4) 7 from vp_in_nI (by decide) (by decide)) (by decide +kernel) ?_
  refine g_istore_n (L2 := [some (.int (2)), some (.int (4)), some (.int (1)), some (.int (0))]) m91_38 rfl rfl ?_
  refine g_iinc (x2 := (1 : Int32)) (L2 := [some (.int (2)), some (.int (4)), some (.int (1)), some (.int (1))]) m91_39 rfl (by decide) rfl rfl ?_
  refine g_goto m91_42 ?_
  refine g_iload_n m91_4 rfl ?_
  refine g_bipush m91_5 ?_
  refine h_ic_geF (xi := 1) (zi := 7) m91_7 rfl rfl (by decide) ?_
  refine g_iload_n m91_10 rfl ?_
  refine g_bipush m91_11 ?_
  refine g_cs (args := [.int (1), .int (6)]) (rest := []) 0 (Or.inl rfl) m91_13 (Nat.le_of_ble_eq_true rfl) rfl rfl (Nat.le_of_ble_eq_true rfl) ?_
  refine c_withinI (M := 6) (vi := 1) rfl rfl (fun _ => ?_) (fun q => absurd q (by decide))
  refine gwr ?_
  refine h_if_eqF (xi := 1) (zi := 0) m91_16 rfl rfl (by decide) ?_
  refine g_gst m91_19 rfl ?_
  refine g_iconst m91_22 ?_
  refine g_iload_n m91_23 rfl ?_
  refine g_imul (u := (4 : Int32)) m91_24 (by decide) ?_
  refine g_iload_n m91_25 rfl ?_
  refine g_iadd (u := (6 : Int32)) m91_26 (by decide) ?_
  refine g_iald (x := (0 : Int32)) m91_27 rfl (show vp_in (nI 6) 28 from vp_in_nI (by decide) (by decide)) (by decide +kernel) ?_
  refine h_if_eqT (xi := 0) (zi := 0) m91_28 rfl rfl (by decide) ?_
  refine g_gst m91_33 rfl ?_
  refine g_iload_n m91_36 rfl ?_
  refine g_iald (x := (0 : Int32)) m91_37 rfl (show vp_in (nI 1) 7 from vp_in_nI (by decide) (by decide)) (by decide +kernel) ?_
  refine g_istore_n (L2 := [some (.int (2)), some (.int (4)), some (.int (0)), some (.int (1))]) m91_38 rfl rfl ?_
  refine g_iinc (x2 := (2 : Int32)) (L2 := [some (.int (2)), some (.int (4)), some (.int (0)), some (.int (2))]) m91_39 rfl (by decide) rfl rfl ?_
  refine g_goto m91_42 ?_
  refine g_iload_n m91_4 rfl ?_
  refine g_bipush m91_5 ?_
  refine h_ic_geF (xi := 2) (zi := 7) m91_7 rfl rfl (by decide) ?_
  refine g_iload_n m91_10 rfl ?_
  refine g_bipush m91_11 ?_
  refine g_cs (args := [.int (0), .int (6)]) (rest := []) 0 (Or.inl rfl) m91_13 (Nat.le_of_ble_eq_true rfl) rfl rfl (Nat.le_of_ble_eq_true rfl) ?_
  refine c_withinI (M := 6) (vi := 0) rfl rfl (fun _ => ?_) (fun q => absurd q (by decide))
  refine gwr ?_
  refine h_if_eqF (xi := 1) (zi := 0) m91_16 rfl rfl (by decide) ?_
  refine g_gst m91_19 rfl ?_
  refine g_iconst m91_22 ?_
  refine g_iload_n m91_23 rfl ?_
  refine g_imul (u := (0 : Int32)) m91_24 (by decide) ?_
  refine g_iload_n m91_25 rfl ?_
  refine g_iadd (u := (2 : Int32)) m91_26 (by decide) ?_
  refine g_iald (x := (12 : Int32)) m91_27 rfl (show vp_in (nI 2) 28 from vp_in_nI (by decide) (by decide)) (by decide +kernel) ?_
  refine h_if_eqF (xi := 12) (zi := 0) m91_28 rfl rfl (by decide) ?_
  refine g_iload_n m91_31 rfl ?_
  refine g_iret m91_32 rt_91 ?_
  exact hQ
set_option maxRecDepth 20000 in
set_option maxHeartbeats 40000000 in
theorem c_own_2_5 (hQ : Q (some (.int 0)) h) : WP xs (d + 2) 91 0 0 [.int (2), .int (5)] h Q := by
  refine wp_x mx_91 (L := [some (.int (2)), some (.int (5)), none, none]) (Nat.le_of_ble_eq_true rfl) rfl ?_
  refine g_iload_n m91_0 rfl ?_
  refine g_istore_n (L2 := [some (.int (2)), some (.int (5)), some (.int (5)), none]) m91_1 rfl rfl ?_
  refine g_iconst m91_2 ?_
  refine g_istore_n (L2 := [some (.int (2)), some (.int (5)), some (.int (5)), some (.int (0))]) m91_3 rfl rfl ?_
  refine g_iload_n m91_4 rfl ?_
  refine g_bipush m91_5 ?_
  refine h_ic_geF (xi := 0) (zi := 7) m91_7 rfl rfl (by decide) ?_
  refine g_iload_n m91_10 rfl ?_
  refine g_bipush m91_11 ?_
  refine g_cs (args := [.int (5), .int (6)]) (rest := []) 0 (Or.inl rfl) m91_13 (Nat.le_of_ble_eq_true rfl) rfl rfl (Nat.le_of_ble_eq_true rfl) ?_
  refine c_withinI (M := 6) (vi := 5) rfl rfl (fun _ => ?_) (fun q => absurd q (by decide))
  refine gwr ?_
  refine h_if_eqF (xi := 1) (zi := 0) m91_16 rfl rfl (by decide) ?_
  refine g_gst m91_19 rfl ?_
  refine g_iconst m91_22 ?_
  refine g_iload_n m91_23 rfl ?_
  refine g_imul (u := (20 : Int32)) m91_24 (by decide) ?_
  refine g_iload_n m91_25 rfl ?_
  refine g_iadd (u := (22 : Int32)) m91_26 (by decide) ?_
  refine g_iald (x := (0 : Int32)) m91_27 rfl (show vp_in (nI 22) 28 from vp_in_nI (by decide) (by decide)) (by decide +kernel) ?_
  refine h_if_eqT (xi := 0) (zi := 0) m91_28 rfl rfl (by decide) ?_
  refine g_gst m91_33 rfl ?_
  refine g_iload_n m91_36 rfl ?_
  refine g_iald (x := (2 : Int32)) m91_37 rfl (show vp_in (nI 5) 7 from vp_in_nI (by decide) (by decide)) (by decide +kernel) ?_
  refine g_istore_n (L2 := [some (.int (2)), some (.int (5)), some (.int (2)), some (.int (0))]) m91_38 rfl rfl ?_
  refine g_iinc (x2 := (1 : Int32)) (L2 := [some (.int (2)), some (.int (5)), some (.int (2)), some (.int (1))]) m91_39 rfl (by decide) rfl rfl ?_
  refine g_goto m91_42 ?_
  refine g_iload_n m91_4 rfl ?_
  refine g_bipush m91_5 ?_
  refine h_ic_geF (xi := 1) (zi := 7) m91_7 rfl rfl (by decide) ?_
  refine g_iload_n m91_10 rfl ?_
  refine g_bipush m91_11 ?_
  refine g_cs (args := [.int (2), .int (6)]) (rest := []) 0 (Or.inl rfl) m91_13 (Nat.le_of_ble_eq_true rfl) rfl rfl (Nat.le_of_ble_eq_true rfl) ?_
  refine c_withinI (M := 6) (vi := 2) rfl rfl (fun _ => ?_) (fun q => absurd q (by decide))
  refine gwr ?_
  refine h_if_eqF (xi := 1) (zi := 0) m91_16 rfl rfl (by decide) ?_
  refine g_gst m91_19 rfl ?_
  refine g_iconst m91_22 ?_
  refine g_iload_n m91_23 rfl ?_
  refine g_imul (u := (8 : Int32)) m91_24 (by decide) ?_
  refine g_iload_n m91_25 rfl ?_
  refine g_iadd (u := (10 : Int32)) m91_26 (by decide) ?_
  refine g_iald (x := (0 : Int32)) m91_27 rfl (show vp_in (nI 10) 28 from vp_in_nI (by decide) (by decide)) (by decide +kernel) ?_
  refine h_if_eqT (xi := 0) (zi := 0) m91_28 rfl rfl (by decide) ?_
  refine g_gst m91_33 rfl ?_
  refine g_iload_n m91_36 rfl ?_
  refine g_iald (x := (0 : Int32)) m91_37 rfl (show vp_in (nI 2) 7 from vp_in_nI (by decide) (by decide)) (by decide +kernel) ?_
  refine g_istore_n (L2 := [some (.int (2)), some (.int (5)), some (.int (0)), some (.int (1))]) m91_38 rfl rfl ?_
  refine g_iinc (x2 := (2 : Int32)) (L2 := [some (.int (2)), some (.int (5)), some (.int (0)), some (.int (2))]) m91_39 rfl (by decide) rfl rfl ?_
  refine g_goto m91_42 ?_
  refine g_iload_n m91_4 rfl ?_
  refine g_bipush m91_5 ?_
  refine h_ic_geF (xi := 2) (zi := 7) m91_7 rfl rfl (by decide) ?_
  refine g_iload_n m91_10 rfl ?_
  refine g_bipush m91_11 ?_
  refine g_cs (args := [.int (0), .int (6)]) (rest := []) 0 (Or.inl rfl) m91_13 (Nat.le_of_ble_eq_true rfl) rfl rfl (Nat.le_of_ble_eq_true rfl) ?_
  refine c_withinI (M := 6) (vi := 0) rfl rfl (fun _ => ?_) (fun q => absurd q (by decide))
  refine gwr ?_
  refine h_if_eqF (xi := 1) (zi := 0) m91_16 rfl rfl (by decide) ?_
  refine g_gst m91_19 rfl ?_
  refine g_iconst m91_22 ?_
  refine g_iload_n m91_23 rfl ?_
  refine g_imul (u := (0 : Int32)) m91_24 (by decide) ?_
  refine g_iload_n m91_25 rfl ?_
  refine g_iadd (u := (2 : Int32)) m91_26 (by decide) ?_
  refine g_iald (x := (12 : Int32)) m91_27 rfl (show vp_in (nI 2) 28 from vp_in_nI (by decide) (by decide)) (by decide +kernel) ?_
  refine h_if_eqF (xi := 12) (zi := 0) m91_28 rfl rfl (by decide) ?_
  refine g_iload_n m91_31 rfl ?_
  refine g_iret m91_32 rt_91 ?_
  exact hQ
set_option maxRecDepth 20000 in
set_option maxHeartbeats 40000000 in
theorem c_own_2_6 (hQ : Q (some (.int 6)) h) : WP xs (d + 2) 91 0 0 [.int (2), .int (6)] h Q := by
  refine wp_x mx_91 (L := [some (.int (2)), some (.int (6)), none, none]) (Nat.le_of_ble_eq_true rfl) rfl ?_
  refine g_iload_n m91_0 rfl ?_
  refine g_istore_n (L2 := [some (.int (2)), some (.int (6)), some (.int (6)), none]) m91_1 rfl rfl ?_
  refine g_iconst m91_2 ?_
  refine g_istore_n (L2 := [some (.int (2)), some (.int (6)), some (.int (6)), some (.int (0))]) m91_3 rfl rfl ?_
  refine g_iload_n m91_4 rfl ?_
  refine g_bipush m91_5 ?_
  refine h_ic_geF (xi := 0) (zi := 7) m91_7 rfl rfl (by decide) ?_
  refine g_iload_n m91_10 rfl ?_
  refine g_bipush m91_11 ?_
  refine g_cs (args := [.int (6), .int (6)]) (rest := []) 0 (Or.inl rfl) m91_13 (Nat.le_of_ble_eq_true rfl) rfl rfl (Nat.le_of_ble_eq_true rfl) ?_
  refine c_withinI (M := 6) (vi := 6) rfl rfl (fun _ => ?_) (fun q => absurd q (by decide))
  refine gwr ?_
  refine h_if_eqF (xi := 1) (zi := 0) m91_16 rfl rfl (by decide) ?_
  refine g_gst m91_19 rfl ?_
  refine g_iconst m91_22 ?_
  refine g_iload_n m91_23 rfl ?_
  refine g_imul (u := (24 : Int32)) m91_24 (by decide) ?_
  refine g_iload_n m91_25 rfl ?_
  refine g_iadd (u := (26 : Int32)) m91_26 (by decide) ?_
  refine g_iald (x := (70 : Int32)) m91_27 rfl (show vp_in (nI 26) 28 from vp_in_nI (by decide) (by decide)) (by decide +kernel) ?_
  refine h_if_eqF (xi := 70) (zi := 0) m91_28 rfl rfl (by decide) ?_
  refine g_iload_n m91_31 rfl ?_
  refine g_iret m91_32 rt_91 ?_
  exact hQ
set_option maxRecDepth 20000 in
set_option maxHeartbeats 40000000 in
theorem c_own_3_0 (hQ : Q (some (.int 0)) h) : WP xs (d + 2) 91 0 0 [.int (3), .int (0)] h Q := by
  refine wp_x mx_91 (L := [some (.int (3)), some (.int (0)), none, none]) (Nat.le_of_ble_eq_true rfl) rfl ?_
  refine g_iload_n m91_0 rfl ?_
  refine g_istore_n (L2 := [some (.int (3)), some (.int (0)), some (.int (0)), none]) m91_1 rfl rfl ?_
  refine g_iconst m91_2 ?_
  refine g_istore_n (L2 := [some (.int (3)), some (.int (0)), some (.int (0)), some (.int (0))]) m91_3 rfl rfl ?_
  refine g_iload_n m91_4 rfl ?_
  refine g_bipush m91_5 ?_
  refine h_ic_geF (xi := 0) (zi := 7) m91_7 rfl rfl (by decide) ?_
  refine g_iload_n m91_10 rfl ?_
  refine g_bipush m91_11 ?_
  refine g_cs (args := [.int (0), .int (6)]) (rest := []) 0 (Or.inl rfl) m91_13 (Nat.le_of_ble_eq_true rfl) rfl rfl (Nat.le_of_ble_eq_true rfl) ?_
  refine c_withinI (M := 6) (vi := 0) rfl rfl (fun _ => ?_) (fun q => absurd q (by decide))
  refine gwr ?_
  refine h_if_eqF (xi := 1) (zi := 0) m91_16 rfl rfl (by decide) ?_
  refine g_gst m91_19 rfl ?_
  refine g_iconst m91_22 ?_
  refine g_iload_n m91_23 rfl ?_
  refine g_imul (u := (0 : Int32)) m91_24 (by decide) ?_
  refine g_iload_n m91_25 rfl ?_
  refine g_iadd (u := (3 : Int32)) m91_26 (by decide) ?_
  refine g_iald (x := (13 : Int32)) m91_27 rfl (show vp_in (nI 3) 28 from vp_in_nI (by decide) (by decide)) (by decide +kernel) ?_
  refine h_if_eqF (xi := 13) (zi := 0) m91_28 rfl rfl (by decide) ?_
  refine g_iload_n m91_31 rfl ?_
  refine g_iret m91_32 rt_91 ?_
  exact hQ
set_option maxRecDepth 20000 in
set_option maxHeartbeats 40000000 in
theorem c_own_3_1 (hQ : Q (some (.int 0)) h) : WP xs (d + 2) 91 0 0 [.int (3), .int (1)] h Q := by
  refine wp_x mx_91 (L := [some (.int (3)), some (.int (1)), none, none]) (Nat.le_of_ble_eq_true rfl) rfl ?_
  refine g_iload_n m91_0 rfl ?_
  refine g_istore_n (L2 := [some (.int (3)), some (.int (1)), some (.int (1)), none]) m91_1 rfl rfl ?_
  refine g_iconst m91_2 ?_
  refine g_istore_n (L2 := [some (.int (3)), some (.int (1)), some (.int (1)), some (.int (0))]) m91_3 rfl rfl ?_
  refine g_iload_n m91_4 rfl ?_
  refine g_bipush m91_5 ?_
  refine h_ic_geF (xi := 0) (zi := 7) m91_7 rfl rfl (by decide) ?_
  refine g_iload_n m91_10 rfl ?_
  refine g_bipush m91_11 ?_
  refine g_cs (args := [.int (1), .int (6)]) (rest := []) 0 (Or.inl rfl) m91_13 (Nat.le_of_ble_eq_true rfl) rfl rfl (Nat.le_of_ble_eq_true rfl) ?_
  refine c_withinI (M := 6) (vi := 1) rfl rfl (fun _ => ?_) (fun q => absurd q (by decide))
  refine gwr ?_
  refine h_if_eqF (xi := 1) (zi := 0) m91_16 rfl rfl (by decide) ?_
  refine g_gst m91_19 rfl ?_
  refine g_iconst m91_22 ?_
  refine g_iload_n m91_23 rfl ?_
  refine g_imul (u := (4 : Int32)) m91_24 (by decide) ?_
  refine g_iload_n m91_25 rfl ?_
  refine g_iadd (u := (7 : Int32)) m91_26 (by decide) ?_
  refine g_iald (x := (0 : Int32)) m91_27 rfl (show vp_in (nI 7) 28 from vp_in_nI (by decide) (by decide)) (by decide +kernel) ?_
  refine h_if_eqT (xi := 0) (zi := 0) m91_28 rfl rfl (by decide) ?_
  refine g_gst m91_33 rfl ?_
  refine g_iload_n m91_36 rfl ?_
  refine g_iald (x := (0 : Int32)) m91_37 rfl (show vp_in (nI 1) 7 from vp_in_nI (by decide) (by decide)) (by decide +kernel) ?_
  refine g_istore_n (L2 := [some (.int (3)), some (.int (1)), some (.int (0)), some (.int (0))]) m91_38 rfl rfl ?_
  refine g_iinc (x2 := (1 : Int32)) (L2 := [some (.int (3)), some (.int (1)), some (.int (0)), some (.int (1))]) m91_39 rfl (by decide) rfl rfl ?_
  refine g_goto m91_42 ?_
  refine g_iload_n m91_4 rfl ?_
  refine g_bipush m91_5 ?_
  refine h_ic_geF (xi := 1) (zi := 7) m91_7 rfl rfl (by decide) ?_
  refine g_iload_n m91_10 rfl ?_
  refine g_bipush m91_11 ?_
  refine g_cs (args := [.int (0), .int (6)]) (rest := []) 0 (Or.inl rfl) m91_13 (Nat.le_of_ble_eq_true rfl) rfl rfl (Nat.le_of_ble_eq_true rfl) ?_
  refine c_withinI (M := 6) (vi := 0) rfl rfl (fun _ => ?_) (fun q => absurd q (by decide))
  refine gwr ?_
  refine h_if_eqF (xi := 1) (zi := 0) m91_16 rfl rfl (by decide) ?_
  refine g_gst m91_19 rfl ?_
  refine g_iconst m91_22 ?_
  refine g_iload_n m91_23 rfl ?_
  refine g_imul (u := (0 : Int32)) m91_24 (by decide) ?_
  refine g_iload_n m91_25 rfl ?_
  refine g_iadd (u := (3 : Int32)) m91_26 (by decide) ?_
  refine g_iald (x := (13 : Int32)) m91_27 rfl (show vp_in (nI 3) 28 from vp_in_nI (by decide) (by decide)) (by decide +kernel) ?_
  refine h_if_eqF (xi := 13) (zi := 0) m91_28 rfl rfl (by decide) ?_
  refine g_iload_n m91_31 rfl ?_
  refine g_iret m91_32 rt_91 ?_
  exact hQ
set_option maxRecDepth 20000 in
set_option maxHeartbeats 40000000 in
theorem c_own_3_2 (hQ : Q (some (.int 0)) h) : WP xs (d + 2) 91 0 0 [.int (3), .int (2)] h Q := by
  refine wp_x mx_91 (L := [some (.int (3)), some (.int (2)), none, none]) (Nat.le_of_ble_eq_true rfl) rfl ?_
  refine g_iload_n m91_0 rfl ?_
  refine g_istore_n (L2 := [some (.int (3)), some (.int (2)), some (.int (2)), none]) m91_1 rfl rfl ?_
  refine g_iconst m91_2 ?_
  refine g_istore_n (L2 := [some (.int (3)), some (.int (2)), some (.int (2)), some (.int (0))]) m91_3 rfl rfl ?_
  refine g_iload_n m91_4 rfl ?_
  refine g_bipush m91_5 ?_
  refine h_ic_geF (xi := 0) (zi := 7) m91_7 rfl rfl (by decide) ?_
  refine g_iload_n m91_10 rfl ?_
  refine g_bipush m91_11 ?_
  refine g_cs (args := [.int (2), .int (6)]) (rest := []) 0 (Or.inl rfl) m91_13 (Nat.le_of_ble_eq_true rfl) rfl rfl (Nat.le_of_ble_eq_true rfl) ?_
  refine c_withinI (M := 6) (vi := 2) rfl rfl (fun _ => ?_) (fun q => absurd q (by decide))
  refine gwr ?_
  refine h_if_eqF (xi := 1) (zi := 0) m91_16 rfl rfl (by decide) ?_
  refine g_gst m91_19 rfl ?_
  refine g_iconst m91_22 ?_
  refine g_iload_n m91_23 rfl ?_
  refine g_imul (u := (8 : Int32)) m91_24 (by decide) ?_
  refine g_iload_n m91_25 rfl ?_
  refine g_iadd (u := (11 : Int32)) m91_26 (by decide) ?_
  refine g_iald (x := (0 : Int32)) m91_27 rfl (show vp_in (nI 11) 28 from vp_in_nI (by decide) (by decide)) (by decide +kernel) ?_
  refine h_if_eqT (xi := 0) (zi := 0) m91_28 rfl rfl (by decide) ?_
  refine g_gst m91_33 rfl ?_
  refine g_iload_n m91_36 rfl ?_
  refine g_iald (x := (0 : Int32)) m91_37 rfl (show vp_in (nI 2) 7 from vp_in_nI (by decide) (by decide)) (by decide +kernel) ?_
  refine g_istore_n (L2 := [some (.int (3)), some (.int (2)), some (.int (0)), some (.int (0))]) m91_38 rfl rfl ?_
  refine g_iinc (x2 := (1 : Int32)) (L2 := [some (.int (3)), some (.int (2)), some (.int (0)), some (.int (1))]) m91_39 rfl (by decide) rfl rfl ?_
  refine g_goto m91_42 ?_
  refine g_iload_n m91_4 rfl ?_
  refine g_bipush m91_5 ?_
  refine h_ic_geF (xi := 1) (zi := 7) m91_7 rfl rfl (by decide) ?_
  refine g_iload_n m91_10 rfl ?_
  refine g_bipush m91_11 ?_
  refine g_cs (args := [.int (0), .int (6)]) (rest := []) 0 (Or.inl rfl) m91_13 (Nat.le_of_ble_eq_true rfl) rfl rfl (Nat.le_of_ble_eq_true rfl) ?_
  refine c_withinI (M := 6) (vi := 0) rfl rfl (fun _ => ?_) (fun q => absurd q (by decide))
  refine gwr ?_
  refine h_if_eqF (xi := 1) (zi := 0) m91_16 rfl rfl (by decide) ?_
  refine g_gst m91_19 rfl ?_
  refine g_iconst m91_22 ?_
  refine g_iload_n m91_23 rfl ?_
  refine g_imul (u := (0 : Int32)) m91_24 (by decide) ?_
  refine g_iload_n m91_25 rfl ?_
  refine g_iadd (u := (3 : Int32)) m91_26 (by decide) ?_
  refine g_iald (x := (13 : Int32)) m91_27 rfl (show vp_in (nI 3) 28 from vp_in_nI (by decide) (by decide)) (by decide +kernel) ?_
  refine h_if_eqF (xi := 13) (zi := 0) m91_28 rfl rfl (by decide) ?_
  refine g_iload_n m91_31 rfl ?_
  refine g_iret m91_32 rt_91 ?_
  exact hQ
set_option maxRecDepth 20000 in
set_option maxHeartbeats 40000000 in
theorem c_own_3_3 (hQ : Q (some (.int 0)) h) : WP xs (d + 2) 91 0 0 [.int (3), .int (3)] h Q := by
  refine wp_x mx_91 (L := [some (.int (3)), some (.int (3)), none, none]) (Nat.le_of_ble_eq_true rfl) rfl ?_
  refine g_iload_n m91_0 rfl ?_
  refine g_istore_n (L2 := [some (.int (3)), some (.int (3)), some (.int (3)), none]) m91_1 rfl rfl ?_
  refine g_iconst m91_2 ?_
  refine g_istore_n (L2 := [some (.int (3)), some (.int (3)), some (.int (3)), some (.int (0))]) m91_3 rfl rfl ?_
  refine g_iload_n m91_4 rfl ?_
  refine g_bipush m91_5 ?_
  refine h_ic_geF (xi := 0) (zi := 7) m91_7 rfl rfl (by decide) ?_
  refine g_iload_n m91_10 rfl ?_
  refine g_bipush m91_11 ?_
  refine g_cs (args := [.int (3), .int (6)]) (rest := []) 0 (Or.inl rfl) m91_13 (Nat.le_of_ble_eq_true rfl) rfl rfl (Nat.le_of_ble_eq_true rfl) ?_
  refine c_withinI (M := 6) (vi := 3) rfl rfl (fun _ => ?_) (fun q => absurd q (by decide))
  refine gwr ?_
  refine h_if_eqF (xi := 1) (zi := 0) m91_16 rfl rfl (by decide) ?_
  refine g_gst m91_19 rfl ?_
  refine g_iconst m91_22 ?_
  refine g_iload_n m91_23 rfl ?_
  refine g_imul (u := (12 : Int32)) m91_24 (by decide) ?_
  refine g_iload_n m91_25 rfl ?_
  refine g_iadd (u := (15 : Int32)) m91_26 (by decide) ?_
  refine g_iald (x := (0 : Int32)) m91_27 rfl (show vp_in (nI 15) 28 from vp_in_nI (by decide) (by decide)) (by decide +kernel) ?_
  refine h_if_eqT (xi := 0) (zi := 0) m91_28 rfl rfl (by decide) ?_
  refine g_gst m91_33 rfl ?_
  refine g_iload_n m91_36 rfl ?_
  refine g_iald (x := (0 : Int32)) m91_37 rfl (show vp_in (nI 3) 7 from vp_in_nI (by decide) (by decide)) (by decide +kernel) ?_
  refine g_istore_n (L2 := [some (.int (3)), some (.int (3)), some (.int (0)), some (.int (0))]) m91_38 rfl rfl ?_
  refine g_iinc (x2 := (1 : Int32)) (L2 := [some (.int (3)), some (.int (3)), some (.int (0)), some (.int (1))]) m91_39 rfl (by decide) rfl rfl ?_
  refine g_goto m91_42 ?_
  refine g_iload_n m91_4 rfl ?_
  refine g_bipush m91_5 ?_
  refine h_ic_geF (xi := 1) (zi := 7) m91_7 rfl rfl (by decide) ?_
  refine g_iload_n m91_10 rfl ?_
  refine g_bipush m91_11 ?_
  refine g_cs (args := [.int (0), .int (6)]) (rest := []) 0 (Or.inl rfl) m91_13 (Nat.le_of_ble_eq_true rfl) rfl rfl (Nat.le_of_ble_eq_true rfl) ?_
  refine c_withinI (M := 6) (vi := 0) rfl rfl (fun _ => ?_) (fun q => absurd q (by decide))
  refine gwr ?_
  refine h_if_eqF (xi := 1) (zi := 0) m91_16 rfl rfl (by decide) ?_
  refine g_gst m91_19 rfl ?_
  refine g_iconst m91_22 ?_
  refine g_iload_n m91_23 rfl ?_
  refine g_imul (u := (0 : Int32)) m91_24 (by decide) ?_
  refine g_iload_n m91_25 rfl ?_
  refine g_iadd (u := (3 : Int32)) m91_26 (by decide) ?_
  refine g_iald (x := (13 : Int32)) m91_27 rfl (show vp_in (nI 3) 28 from vp_in_nI (by decide) (by decide)) (by decide +kernel) ?_
  refine h_if_eqF (xi := 13) (zi := 0) m91_28 rfl rfl (by decide) ?_
  refine g_iload_n m91_31 rfl ?_
  refine g_iret m91_32 rt_91 ?_
  exact hQ
set_option maxRecDepth 20000 in
set_option maxHeartbeats 40000000 in
theorem c_own_3_4 (hQ : Q (some (.int 4)) h) : WP xs (d + 2) 91 0 0 [.int (3), .int (4)] h Q := by
  refine wp_x mx_91 (L := [some (.int (3)), some (.int (4)), none, none]) (Nat.le_of_ble_eq_true rfl) rfl ?_
  refine g_iload_n m91_0 rfl ?_
  refine g_istore_n (L2 := [some (.int (3)), some (.int (4)), some (.int (4)), none]) m91_1 rfl rfl ?_
  refine g_iconst m91_2 ?_
  refine g_istore_n (L2 := [some (.int (3)), some (.int (4)), some (.int (4)), some (.int (0))]) m91_3 rfl rfl ?_
  refine g_iload_n m91_4 rfl ?_
  refine g_bipush m91_5 ?_
  refine h_ic_geF (xi := 0) (zi := 7) m91_7 rfl rfl (by decide) ?_
  refine g_iload_n m91_10 rfl ?_
  refine g_bipush m91_11 ?_
  refine g_cs (args := [.int (4), .int (6)]) (rest := []) 0 (Or.inl rfl) m91_13 (Nat.le_of_ble_eq_true rfl) rfl rfl (Nat.le_of_ble_eq_true rfl) ?_
  refine c_withinI (M := 6) (vi := 4) rfl rfl (fun _ => ?_) (fun q => absurd q (by decide))
  refine gwr ?_
  refine h_if_eqF (xi := 1) (zi := 0) m91_16 rfl rfl (by decide) ?_
  refine g_gst m91_19 rfl ?_
  refine g_iconst m91_22 ?_
  refine g_iload_n m91_23 rfl ?_
  refine g_imul (u := (16 : Int32)) m91_24 (by decide) ?_
  refine g_iload_n m91_25 rfl ?_
  refine g_iadd (u := (19 : Int32)) m91_26 (by decide) ?_
  refine g_iald (x := (50 : Int32)) m91_27 rfl (show vp_in (nI 19) 28 from vp_in_nI (by decide) (by decide)) (by decide +kernel) ?_
  refine h_if_eqF (xi := 50) (zi := 0) m91_28 rfl rfl (by decide) ?_
  refine g_iload_n m91_31 rfl ?_
  refine g_iret m91_32 rt_91 ?_
  exact hQ
set_option maxRecDepth 20000 in
set_option maxHeartbeats 40000000 in
theorem c_own_3_5 (hQ : Q (some (.int 0)) h) : WP xs (d + 2) 91 0 0 [.int (3), .int (5)] h Q := by
  refine wp_x mx_91 (L := [some (.int (3)), some (.int (5)), none, none]) (Nat.le_of_ble_eq_true rfl) rfl ?_
  refine g_iload_n m91_0 rfl ?_
  refine g_istore_n (L2 := [some (.int (3)), some (.int (5)), some (.int (5)), none]) m91_1 rfl rfl ?_
  refine g_iconst m91_2 ?_
  refine g_istore_n (L2 := [some (.int (3)), some (.int (5)), some (.int (5)), some (.int (0))]) m91_3 rfl rfl ?_
  refine g_iload_n m91_4 rfl ?_
  refine g_bipush m91_5 ?_
  refine h_ic_geF (xi := 0) (zi := 7) m91_7 rfl rfl (by decide) ?_
  refine g_iload_n m91_10 rfl ?_
  refine g_bipush m91_11 ?_
  refine g_cs (args := [.int (5), .int (6)]) (rest := []) 0 (Or.inl rfl) m91_13 (Nat.le_of_ble_eq_true rfl) rfl rfl (Nat.le_of_ble_eq_true rfl) ?_
  refine c_withinI (M := 6) (vi := 5) rfl rfl (fun _ => ?_) (fun q => absurd q (by decide))
  refine gwr ?_
  refine h_if_eqF (xi := 1) (zi := 0) m91_16 rfl rfl (by decide) ?_
  refine g_gst m91_19 rfl ?_
  refine g_iconst m91_22 ?_
  refine g_iload_n m91_23 rfl ?_
  refine g_imul (u := (20 : Int32)) m91_24 (by decide) ?_
  refine g_iload_n m91_25 rfl ?_
  refine g_iadd (u := (23 : Int32)) m91_26 (by decide) ?_
  refine g_iald (x := (0 : Int32)) m91_27 rfl (show vp_in (nI 23) 28 from vp_in_nI (by decide) (by decide)) (by decide +kernel) ?_
  refine h_if_eqT (xi := 0) (zi := 0) m91_28 rfl rfl (by decide) ?_
  refine g_gst m91_33 rfl ?_
  refine g_iload_n m91_36 rfl ?_
  refine g_iald (x := (2 : Int32)) m91_37 rfl (show vp_in (nI 5) 7 from vp_in_nI (by decide) (by decide)) (by decide +kernel) ?_
  refine g_istore_n (L2 := [some (.int (3)), some (.int (5)), some (.int (2)), some (.int (0))]) m91_38 rfl rfl ?_
  refine g_iinc (x2 := (1 : Int32)) (L2 := [some (.int (3)), some (.int (5)), some (.int (2)), some (.int (1))]) m91_39 rfl (by decide) rfl rfl ?_
  refine g_goto m91_42 ?_
  refine g_iload_n m91_4 rfl ?_
  refine g_bipush m91_5 ?_
  refine h_ic_geF (xi := 1) (zi := 7) m91_7 rfl rfl (by decide) ?_
  refine g_iload_n m91_10 rfl ?_
  refine g_bipush m91_11 ?_
  refine g_cs (args := [.int (2), .int (6)]) (rest := []) 0 (Or.inl rfl) m91_13 (Nat.le_of_ble_eq_true rfl) rfl rfl (Nat.le_of_ble_eq_true rfl) ?_
  refine c_withinI (M := 6) (vi := 2) rfl rfl (fun _ => ?_) (fun q => absurd q (by decide))
  refine gwr ?_
  refine h_if_eqF (xi := 1) (zi := 0) m91_16 rfl rfl (by decide) ?_
  refine g_gst m91_19 rfl ?_
  refine g_iconst m91_22 ?_
  refine g_iload_n m91_23 rfl ?_
  refine g_imul (u := (8 : Int32)) m91_24 (by decide) ?_
  refine g_iload_n m91_25 rfl ?_
  refine g_iadd (u := (11 : Int32)) m91_26 (by decide) ?_
  refine g_iald (x := (0 : Int32)) m91_27 rfl (show vp_in (nI 11) 28 from vp_in_nI (by decide) (by decide)) (by decide +kernel) ?_
  refine h_if_eqT (xi := 0) (zi := 0) m91_28 rfl rfl (by decide) ?_
  refine g_gst m91_33 rfl ?_
  refine g_iload_n m91_36 rfl ?_
  refine g_iald (x := (0 : Int32)) m91_37 rfl (show vp_in (nI 2) 7 from vp_in_nI (by decide) (by decide)) (by decide +kernel) ?_
  refine g_istore_n (L2 := [some (.int (3)), some (.int (5)), some (.int (0)), some (.int (1))]) m91_38 rfl rfl ?_
  refine g_iinc (x2 := (2 : Int32)) (L2 := [some (.int (3)), some (.int (5)), some (.int (0)), some (.int (2))]) m91_39 rfl (by decide) rfl rfl ?_
  refine g_goto m91_42 ?_
  refine g_iload_n m91_4 rfl ?_
  refine g_bipush m91_5 ?_
  refine h_ic_geF (xi := 2) (zi := 7) m91_7 rfl rfl (by decide) ?_
  refine g_iload_n m91_10 rfl ?_
  refine g_bipush m91_11 ?_
  refine g_cs (args := [.int (0), .int (6)]) (rest := []) 0 (Or.inl rfl) m91_13 (Nat.le_of_ble_eq_true rfl) rfl rfl (Nat.le_of_ble_eq_true rfl) ?_
  refine c_withinI (M := 6) (vi := 0) rfl rfl (fun _ => ?_) (fun q => absurd q (by decide))
  refine gwr ?_
  refine h_if_eqF (xi := 1) (zi := 0) m91_16 rfl rfl (by decide) ?_
  refine g_gst m91_19 rfl ?_
  refine g_iconst m91_22 ?_
  refine g_iload_n m91_23 rfl ?_
  refine g_imul (u := (0 : Int32)) m91_24 (by decide) ?_
  refine g_iload_n m91_25 rfl ?_
  refine g_iadd (u := (3 : Int32)) m91_26 (by decide) ?_
  refine g_iald (x := (13 : Int32)) m91_27 rfl (show vp_in (nI 3) 28 from vp_in_nI (by decide) (by decide)) (by decide +kernel) ?_
  refine h_if_eqF (xi := 13) (zi := 0) m91_28 rfl rfl (by decide) ?_
  refine g_iload_n m91_31 rfl ?_
  refine g_iret m91_32 rt_91 ?_
  exact hQ
set_option maxRecDepth 20000 in
set_option maxHeartbeats 40000000 in
theorem c_own_3_6 (hQ : Q (some (.int 6)) h) : WP xs (d + 2) 91 0 0 [.int (3), .int (6)] h Q := by
  refine wp_x mx_91 (L := [some (.int (3)), some (.int (6)), none, none]) (Nat.le_of_ble_eq_true rfl) rfl ?_
  refine g_iload_n m91_0 rfl ?_
  refine g_istore_n (L2 := [some (.int (3)), some (.int (6)), some (.int (6)), none]) m91_1 rfl rfl ?_
  refine g_iconst m91_2 ?_
  refine g_istore_n (L2 := [some (.int (3)), some (.int (6)), some (.int (6)), some (.int (0))]) m91_3 rfl rfl ?_
  refine g_iload_n m91_4 rfl ?_
  refine g_bipush m91_5 ?_
  refine h_ic_geF (xi := 0) (zi := 7) m91_7 rfl rfl (by decide) ?_
  refine g_iload_n m91_10 rfl ?_
  refine g_bipush m91_11 ?_
  refine g_cs (args := [.int (6), .int (6)]) (rest := []) 0 (Or.inl rfl) m91_13 (Nat.le_of_ble_eq_true rfl) rfl rfl (Nat.le_of_ble_eq_true rfl) ?_
  refine c_withinI (M := 6) (vi := 6) rfl rfl (fun _ => ?_) (fun q => absurd q (by decide))
  refine gwr ?_
  refine h_if_eqF (xi := 1) (zi := 0) m91_16 rfl rfl (by decide) ?_
  refine g_gst m91_19 rfl ?_
  refine g_iconst m91_22 ?_
  refine g_iload_n m91_23 rfl ?_
  refine g_imul (u := (24 : Int32)) m91_24 (by decide) ?_
  refine g_iload_n m91_25 rfl ?_
  refine g_iadd (u := (27 : Int32)) m91_26 (by decide) ?_
  refine g_iald (x := (71 : Int32)) m91_27 rfl (show vp_in (nI 27) 28 from vp_in_nI (by decide) (by decide)) (by decide +kernel) ?_
  refine h_if_eqF (xi := 71) (zi := 0) m91_28 rfl rfl (by decide) ?_
  refine g_iload_n m91_31 rfl ?_
  refine g_iret m91_32 rt_91 ?_
  exact hQ
set_option maxRecDepth 20000 in
set_option maxHeartbeats 40000000 in
theorem c_sp_0_0_0 {b e : Nat} {x nv mv : Int32} (hb : m 45 4 = nI b) (hb40 : b + 1 ≤ 40) (hk : m 45 2 = nI 0) (h0 : m 45 0 = nv) (h1 : m 45 1 = mv) (he : e + 0 ≤ 30) (hQ : Q (some (.int (x + nv))) (H (lgM m b [10]) ln N)) : WP xs (d + 3) 92 0 0 [.ref (77), .int (0), .int (0), .int (x), .int (nI (e))] (H m ln N) Q := by
  refine wp_x mx_92 (L := [some (.ref (77)), some (.int (0)), some (.int (0)), some (.int (x)), some (.int (nI (e))), none, none, none, none, none]) (Nat.le_of_ble_eq_true rfl) rfl ?_
  refine g_iload_n m92_0 rfl ?_
  refine g_iload_n m92_1 rfl ?_
  refine g_cs (args := [.int (0), .int (0)]) (rest := []) 0 (Or.inl rfl) m92_2 (Nat.le_of_ble_eq_true rfl) rfl rfl (Nat.le_of_ble_eq_true rfl) ?_
  refine c_own_0_0 ?_
  refine gwr ?_
  refine g_istore (L2 := [some (.ref (77)), some (.int (0)), some (.int (0)), some (.int (x)), some (.int (nI (e))), some (.int (0)), none, none, none, none]) m92_5 rfl rfl ?_
  refine g_iload m92_7 rfl ?_
  refine h_if_ltF (xi := 0) (zi := 0) m92_9 rfl rfl (by decide) ?_
  refine g_iload m92_12 rfl ?_
  refine g_bipush m92_14 ?_
  refine h_ic_leT (xi := ((e : Nat) : Int)) (zi := 30) m92_16 (nI_toInt (by omega)) rfl (by omega) ?_
  refine g_gst m92_21 rfl ?_
  refine g_iconst m92_24 ?_
  refine g_iload m92_25 rfl ?_
  refine g_imul (u := (0 : Int32)) m92_27 (by decide) ?_
  refine g_iload_n m92_28 rfl ?_
  refine g_iadd (u := (0 : Int32)) m92_29 (by decide) ?_
  refine g_iald (x := (10 : Int32)) m92_30 rfl (show vp_in (nI 0) 28 from vp_in_nI (by decide) (by decide)) (by decide +kernel) ?_
  refine g_istore (L2 := [some (.ref (77)), some (.int (0)), some (.int (0)), some (.int (x)), some (.int (nI (e))), some (.int (0)), some (.int (10)), none, none, none]) m92_31 rfl rfl ?_
  refine g_aload_n m92_33 rfl ?_
  refine g_iload m92_34 rfl ?_
  refine h_cv (k := 45) (p := 77) (args := [.int (10)]) (rest := []) m92_36 cn_50 (Nat.le_of_ble_eq_true rfl) rfl rfl rfl (t_45 _ _) (Nat.le_of_ble_eq_true rfl) ?_
  refine c_begin (b := b) (c := 10) hb (by omega) ?_
  refine gwr0 ?_
  refine g_aload_n m92_39 rfl ?_
  refine h_gfI (k := 45) (p := 77) m92_40 rfl (t_45 _ _) rfl ((lgM_o (by decide) [10]).trans hk) ?_
  refine g_istore (L2 := [some (.ref (77)), some (.int (0)), some (.int (0)), some (.int (x)), some (.int (nI (e))), some (.int (0)), some (.int (10)), some (.int (0)), none, none]) m92_43 rfl rfl ?_
  refine g_gst m92_45 rfl ?_
  refine g_iload m92_48 rfl ?_
  refine g_iald (x := (-1 : Int32)) m92_50 rfl (show vp_in (nI 0) 7 from vp_in_nI (by decide) (by decide)) (by decide +kernel) ?_
  refine g_istore (L2 := [some (.ref (77)), some (.int (0)), some (.int (0)), some (.int (x)), some (.int (nI (e))), some (.int (0)), some (.int (10)), some (.int (0)), some (.int (-1)), none]) m92_51 rfl rfl ?_
  refine g_iload m92_53 rfl ?_
  refine g_iconst m92_55 ?_
  refine g_iadd (u := nI (e + 1)) m92_56 (nI_add e 1) ?_
  refine g_istore (L2 := [some (.ref (77)), some (.int (0)), some (.int (0)), some (.int (x)), some (.int (nI (e))), some (.int (0)), some (.int (10)), some (.int (0)), some (.int (-1)), some (.int (nI (e + 1)))]) m92_57 rfl rfl ?_
  refine g_iload m92_59 rfl ?_
  refine gs m92_61 ?_
  refine gwpc (pc' := 160) rfl ?_
  refine g_iload_n m92_160 rfl ?_
  refine g_aload_n m92_161 rfl ?_
  refine h_gfI (k := 45) (p := 77) m92_162 rfl (t_45 _ _) rfl ((lgM_o (by decide) [10]).trans h0) ?_
  refine g_iadd m92_165 rfl ?_
  refine g_iret m92_166 rt_92 ?_
  exact hQ
set_option maxRecDepth 20000 in
set_option maxHeartbeats 40000000 in
theorem c_sp_0_1_0 {b e : Nat} {x nv mv : Int32} (hb : m 45 4 = nI b) (hb40 : b + 2 ≤ 40) (hk : m 45 2 = nI 0) (h0 : m 45 0 = nv) (h1 : m 45 1 = mv) (he : e + 1 ≤ 30) (hQ : Q (some (.int ((x + nv) * (2 : Int32)))) (H (lgM m b [11, 10]) ln N)) : WP xs (d + 4) 92 0 0 [.ref (77), .int (1), .int (0), .int (x), .int (nI (e))] (H m ln N) Q := by
  refine wp_x mx_92 (L := [some (.ref (77)), some (.int (1)), some (.int (0)), some (.int (x)), some (.int (nI (e))), none, none, none, none, none]) (Nat.le_of_ble_eq_true rfl) rfl ?_
  refine g_iload_n m92_0 rfl ?_
  refine g_iload_n m92_1 rfl ?_
  refine g_cs (args := [.int (1), .int (0)]) (rest := []) 0 (Or.inl rfl) m92_2 (Nat.le_of_ble_eq_true rfl) rfl rfl (Nat.le_of_ble_eq_true rfl) ?_
  refine c_own_1_0 ?_
  refine gwr ?_
  refine g_istore (L2 := [some (.ref (77)), some (.int (1)), some (.int (0)), some (.int (x)), some (.int (nI (e))), some (.int (0)), none, none, none, none]) m92_5 rfl rfl ?_
  refine g_iload m92_7 rfl ?_
  refine h_if_ltF (xi := 0) (zi := 0) m92_9 rfl rfl (by decide) ?_
  refine g_iload m92_12 rfl ?_
  refine g_bipush m92_14 ?_
  refine h_ic_leT (xi := ((e : Nat) : Int)) (zi := 30) m92_16 (nI_toInt (by omega)) rfl (by omega) ?_
  refine g_gst m92_21 rfl ?_
  refine g_iconst m92_24 ?_
  refine g_iload m92_25 rfl ?_
  refine g_imul (u := (0 : Int32)) m92_27 (by decide) ?_
  refine g_iload_n m92_28 rfl ?_
  refine g_iadd (u := (1 : Int32)) m92_29 (by decide) ?_
  refine g_iald (x := (11 : Int32)) m92_30 rfl (show vp_in (nI 1) 28 from vp_in_nI (by decide) (by decide)) (by decide +kernel) ?_
  refine g_istore (L2 := [some (.ref (77)), some (.int (1)), some (.int (0)), some (.int (x)), some (.int (nI (e))), some (.int (0)), some (.int (11)), none, none, none]) m92_31 rfl rfl ?_
  refine g_aload_n m92_33 rfl ?_
  refine g_iload m92_34 rfl ?_
  refine h_cv (k := 45) (p := 77) (args := [.int (11)]) (rest := []) m92_36 cn_50 (Nat.le_of_ble_eq_true rfl) rfl rfl rfl (t_45 _ _) (Nat.le_of_ble_eq_true rfl) ?_
  refine c_begin (b := b) (c := 11) hb (by omega) ?_
  refine gwr0 ?_
  refine g_aload_n m92_39 rfl ?_
  refine h_gfI (k := 45) (p := 77) m92_40 rfl (t_45 _ _) rfl ((lgM_o (by decide) [11]).trans hk) ?_
  refine g_istore (L2 := [some (.ref (77)), some (.int (1)), some (.int (0)), some (.int (x)), some (.int (nI (e))), some (.int (0)), some (.int (11)), some (.int (0)), none, none]) m92_43 rfl rfl ?_
  refine g_gst m92_45 rfl ?_
  refine g_iload m92_48 rfl ?_
  refine g_iald (x := (-1 : Int32)) m92_50 rfl (show vp_in (nI 0) 7 from vp_in_nI (by decide) (by decide)) (by decide +kernel) ?_
  refine g_istore (L2 := [some (.ref (77)), some (.int (1)), some (.int (0)), some (.int (x)), some (.int (nI (e))), some (.int (0)), some (.int (11)), some (.int (0)), some (.int (-1)), none]) m92_51 rfl rfl ?_
  refine g_iload m92_53 rfl ?_
  refine g_iconst m92_55 ?_
  refine g_iadd (u := nI (e + 1)) m92_56 (nI_add e 1) ?_
  refine g_istore (L2 := [some (.ref (77)), some (.int (1)), some (.int (0)), some (.int (x)), some (.int (nI (e))), some (.int (0)), some (.int (11)), some (.int (0)), some (.int (-1)), some (.int (nI (e + 1)))]) m92_57 rfl rfl ?_
  refine g_iload m92_59 rfl ?_
  refine gs m92_61 ?_
  refine gwpc (pc' := 167) rfl ?_
  refine g_aload_n m92_167 rfl ?_
  refine g_iconst m92_168 ?_
  refine g_iload m92_169 rfl ?_
  refine g_iload_n m92_171 rfl ?_
  refine g_iload m92_172 rfl ?_
  refine g_cs (args := [.ref (77), .int (0), .int (0), .int (x), .int (nI (e + 1))]) (rest := []) 0 (Or.inl rfl) m92_174 (Nat.le_of_ble_eq_true rfl) rfl rfl (Nat.le_of_ble_eq_true rfl) ?_
  refine c_sp_0_0_0 (m := lgM m b [11]) (b := b + 1) (nv := nv) (mv := mv) (lgM_4 hb [11]) (by omega) ((lgM_o (by decide) [11]).trans hk) ((lgM_o (by decide) [11]).trans h0) ((lgM_o (by decide) [11]).trans h1) (by omega) ?_
  rw [show lgM (lgM m b [11]) (b + 1) [10] = lgM m b [11, 10] from lgM_a [11] [10]]
  refine gwr ?_
  refine g_iconst m92_177 ?_
  refine g_imul m92_178 rfl ?_
  refine g_iret m92_179 rt_92 ?_
  exact hQ
set_option maxRecDepth 20000 in
set_option maxHeartbeats 40000000 in
theorem c_sp_0_2_0 {b e : Nat} {x nv mv : Int32} (hb : m 45 4 = nI b) (hb40 : b + 1 ≤ 40) (hk : m 45 2 = nI 0) (h0 : m 45 0 = nv) (h1 : m 45 1 = mv) (he : e + 0 ≤ 30) (hQ : Q (some (.int (x - mv))) (H (lgM m b [12]) ln N)) : WP xs (d + 3) 92 0 0 [.ref (77), .int (2), .int (0), .int (x), .int (nI (e))] (H m ln N) Q := by
  refine wp_x mx_92 (L := [some (.ref (77)), some (.int (2)), some (.int (0)), some (.int (x)), some (.int (nI (e))), none, none, none, none, none]) (Nat.le_of_ble_eq_true rfl) rfl ?_
  refine g_iload_n m92_0 rfl ?_
  refine g_iload_n m92_1 rfl ?_
  refine g_cs (args := [.int (2), .int (0)]) (rest := []) 0 (Or.inl rfl) m92_2 (Nat.le_of_ble_eq_true rfl) rfl rfl (Nat.le_of_ble_eq_true rfl) ?_
  refine c_own_2_0 ?_
  refine gwr ?_
  refine g_istore (L2 := [some (.ref (77)), some (.int (2)), some (.int (0)), some (.int (x)), some (.int (nI (e))), some (.int (0)), none, none, none, none]) m92_5 rfl rfl ?_
  refine g_iload m92_7 rfl ?_
  refine h_if_ltF (xi := 0) (zi := 0) m92_9 rfl rfl (by decide) ?_
  refine g_iload m92_12 rfl ?_
  refine g_bipush m92_14 ?_
  refine h_ic_leT (xi := ((e : Nat) : Int)) (zi := 30) m92_16 (nI_toInt (by omega)) rfl (by omega) ?_
  refine g_gst m92_21 rfl ?_
  refine g_iconst m92_24 ?_
  refine g_iload m92_25 rfl ?_
  refine g_imul (u := (0 : Int32)) m92_27 (by decide) ?_
  refine g_iload_n m92_28 rfl ?_
  refine g_iadd (u := (2 : Int32)) m92_29 (by decide) ?_
  refine g_iald (x := (12 : Int32)) m92_30 rfl (show vp_in (nI 2) 28 from vp_in_nI (by decide) (by decide)) (by decide +kernel) ?_
  refine g_istore (L2 := [some (.ref (77)), some (.int (2)), some (.int (0)), some (.int (x)), some (.int (nI (e))), some (.int (0)), some (.int (12)), none, none, none]) m92_31 rfl rfl ?_
  refine g_aload_n m92_33 rfl ?_
  refine g_iload m92_34 rfl ?_
  refine h_cv (k := 45) (p := 77) (args := [.int (12)]) (rest := []) m92_36 cn_50 (Nat.le_of_ble_eq_true rfl) rfl rfl rfl (t_45 _ _) (Nat.le_of_ble_eq_true rfl) ?_
  refine c_begin (b := b) (c := 12) hb (by omega) ?_
  refine gwr0 ?_
  refine g_aload_n m92_39 rfl ?_
  refine h_gfI (k := 45) (p := 77) m92_40 rfl (t_45 _ _) rfl ((lgM_o (by decide) [12]).trans hk) ?_
  refine g_istore (L2 := [some (.ref (77)), some (.int (2)), some (.int (0)), some (.int (x)), some (.int (nI (e))), some (.int (0)), some (.int (12)), some (.int (0)), none, none]) m92_43 rfl rfl ?_
  refine g_gst m92_45 rfl ?_
  refine g_iload m92_48 rfl ?_
  refine g_iald (x := (-1 : Int32)) m92_50 rfl (show vp_in (nI 0) 7 from vp_in_nI (by decide) (by decide)) (by decide +kernel) ?_
  refine g_istore (L2 := [some (.ref (77)), some (.int (2)), some (.int (0)), some (.int (x)), some (.int (nI (e))), some (.int (0)), some (.int (12)), some (.int (0)), some (.int (-1)), none]) m92_51 rfl rfl ?_
  refine g_iload m92_53 rfl ?_
  refine g_iconst m92_55 ?_
  refine g_iadd (u := nI (e + 1)) m92_56 (nI_add e 1) ?_
  refine g_istore (L2 := [some (.ref (77)), some (.int (2)), some (.int (0)), some (.int (x)), some (.int (nI (e))), some (.int (0)), some (.int (12)), some (.int (0)), some (.int (-1)), some (.int (nI (e + 1)))]) m92_57 rfl rfl ?_
  refine g_iload m92_59 rfl ?_
  refine gs m92_61 ?_
  refine gwpc (pc' := 180) rfl ?_
  refine g_iload_n m92_180 rfl ?_
  refine g_aload_n m92_181 rfl ?_
  refine h_gfI (k := 45) (p := 77) m92_182 rfl (t_45 _ _) rfl ((lgM_o (by decide) [12]).trans h1) ?_
  refine g_isub m92_185 rfl ?_
  refine g_iret m92_186 rt_92 ?_
  exact hQ
set_option maxRecDepth 20000 in
set_option maxHeartbeats 40000000 in
theorem c_sp_0_3_0 {b e : Nat} {x nv mv : Int32} (hb : m 45 4 = nI b) (hb40 : b + 4 ≤ 40) (hk : m 45 2 = nI 0) (h0 : m 45 0 = nv) (h1 : m 45 1 = mv) (he : e + 2 ≤ 30) (hQ : Q (some (.int (((x + nv) * (2 : Int32)) ^^^ (x - mv)))) (H (lgM m b [13, 11, 10, 12]) ln N)) : WP xs (d + 5) 92 0 0 [.ref (77), .int (3), .int (0), .int (x), .int (nI (e))] (H m ln N) Q := by
  refine wp_x mx_92 (L := [some (.ref (77)), some (.int (3)), some (.int (0)), some (.int (x)), some (.int (nI (e))), none, none, none, none, none]) (Nat.le_of_ble_eq_true rfl) rfl ?_
  refine g_iload_n m92_0 rfl ?_
  refine g_iload_n m92_1 rfl ?_
  refine g_cs (args := [.int (3), .int (0)]) (rest := []) 0 (Or.inl rfl) m92_2 (Nat.le_of_ble_eq_true rfl) rfl rfl (Nat.le_of_ble_eq_true rfl) ?_
  refine c_own_3_0 ?_
  refine gwr ?_
  refine g_istore (L2 := [some (.ref (77)), some (.int (3)), some (.int (0)), some (.int (x)), some (.int (nI (e))), some (.int (0)), none, none, none, none]) m92_5 rfl rfl ?_
  refine g_iload m92_7 rfl ?_
  refine h_if_ltF (xi := 0) (zi := 0) m92_9 rfl rfl (by decide) ?_
  refine g_iload m92_12 rfl ?_
  refine g_bipush m92_14 ?_
  refine h_ic_leT (xi := ((e : Nat) : Int)) (zi := 30) m92_16 (nI_toInt (by omega)) rfl (by omega) ?_
  refine g_gst m92_21 rfl ?_
  refine g_iconst m92_24 ?_
  refine g_iload m92_25 rfl ?_
  refine g_imul (u := (0 : Int32)) m92_27 (by decide) ?_
  refine g_iload_n m92_28 rfl ?_
  refine g_iadd (u := (3 : Int32)) m92_29 (by decide) ?_
  refine g_iald (x := (13 : Int32)) m92_30 rfl (show vp_in (nI 3) 28 from vp_in_nI (by decide) (by decide)) (by decide +kernel) ?_
  refine g_istore (L2 := [some (.ref (77)), some (.int (3)), some (.int (0)), some (.int (x)), some (.int (nI (e))), some (.int (0)), some (.int (13)), none, none, none]) m92_31 rfl rfl ?_
  refine g_aload_n m92_33 rfl ?_
  refine g_iload m92_34 rfl ?_
  refine h_cv (k := 45) (p := 77) (args := [.int (13)]) (rest := []) m92_36 cn_50 (Nat.le_of_ble_eq_true rfl) rfl rfl rfl (t_45 _ _) (Nat.le_of_ble_eq_true rfl) ?_
  refine c_begin (b := b) (c := 13) hb (by omega) ?_
  refine gwr0 ?_
  refine g_aload_n m92_39 rfl ?_
  refine h_gfI (k := 45) (p := 77) m92_40 rfl (t_45 _ _) rfl ((lgM_o (by decide) [13]).trans hk) ?_
  refine g_istore (L2 := [some (.ref (77)), some (.int (3)), some (.int (0)), some (.int (x)), some (.int (nI (e))), some (.int (0)), some (.int (13)), some (.int (0)), none, none]) m92_43 rfl rfl ?_
  refine g_gst m92_45 rfl ?_
  refine g_iload m92_48 rfl ?_
  refine g_iald (x := (-1 : Int32)) m92_50 rfl (show vp_in (nI 0) 7 from vp_in_nI (by decide) (by decide)) (by decide +kernel) ?_
  refine g_istore (L2 := [some (.ref (77)), some (.int (3)), some (.int (0)), some (.int (x)), some (.int (nI (e))), some (.int (0)), some (.int (13)), some (.int (0)), some (.int (-1)), none]) m92_51 rfl rfl ?_
  refine g_iload m92_53 rfl ?_
  refine g_iconst m92_55 ?_
  refine g_iadd (u := nI (e + 1)) m92_56 (nI_add e 1) ?_
  refine g_istore (L2 := [some (.ref (77)), some (.int (3)), some (.int (0)), some (.int (x)), some (.int (nI (e))), some (.int (0)), some (.int (13)), some (.int (0)), some (.int (-1)), some (.int (nI (e + 1)))]) m92_57 rfl rfl ?_
  refine g_iload m92_59 rfl ?_
  refine gs m92_61 ?_
  refine gwpc (pc' := 187) rfl ?_
  refine g_aload_n m92_187 rfl ?_
  refine g_iconst m92_188 ?_
  refine g_iload m92_189 rfl ?_
  refine g_iload_n m92_191 rfl ?_
  refine g_iload m92_192 rfl ?_
  refine g_cs (args := [.ref (77), .int (1), .int (0), .int (x), .int (nI (e + 1))]) (rest := []) 0 (Or.inl rfl) m92_194 (Nat.le_of_ble_eq_true rfl) rfl rfl (Nat.le_of_ble_eq_true rfl) ?_
  refine c_sp_0_1_0 (m := lgM m b [13]) (b := b + 1) (nv := nv) (mv := mv) (lgM_4 hb [13]) (by omega) ((lgM_o (by decide) [13]).trans hk) ((lgM_o (by decide) [13]).trans h0) ((lgM_o (by decide) [13]).trans h1) (by omega) ?_
  rw [show lgM (lgM m b [13]) (b + 1) [11, 10] = lgM m b [13, 11, 10] from lgM_a [13] [11, 10]]
  refine gwr ?_
  refine g_aload_n m92_197 rfl ?_
  refine g_iconst m92_198 ?_
  refine g_iload m92_199 rfl ?_
  refine g_iload_n m92_201 rfl ?_
  refine g_iload m92_202 rfl ?_
  refine g_cs (args := [.ref (77), .int (2), .int (0), .int (x), .int (nI (e + 1))]) (rest := [.int (((x + nv) * (2 : Int32)))]) 0 (Or.inl rfl) m92_204 (Nat.le_of_ble_eq_true rfl) rfl rfl (Nat.le_of_ble_eq_true rfl) ?_
  refine c_sp_0_2_0 (m := lgM m b [13, 11, 10]) (b := b + 3) (nv := nv) (mv := mv) (lgM_4 hb [13, 11, 10]) (by omega) ((lgM_o (by decide) [13, 11, 10]).trans hk) ((lgM_o (by decide) [13, 11, 10]).trans h0) ((lgM_o (by decide) [13, 11, 10]).trans h1) (by omega) ?_
  rw [show lgM (lgM m b [13, 11, 10]) (b + 3) [12] = lgM m b [13, 11, 10, 12] from lgM_a [13, 11, 10] [12]]
  refine gwr ?_
  refine g_ixor m92_207 rfl ?_
  refine g_iret m92_208 rt_92 ?_
  exact hQ
set_option maxRecDepth 20000 in
set_option maxHeartbeats 40000000 in
theorem c_sp_1_0_0 {b e : Nat} {x nv mv : Int32} (hb : m 45 4 = nI b) (hb40 : b + 1 ≤ 40) (hk : m 45 2 = nI 1) (h0 : m 45 0 = nv) (h1 : m 45 1 = mv) (he : e + 0 ≤ 30) (hQ : Q (some (.int (x + nv))) (H (lgM m b [10]) ln N)) : WP xs (d + 3) 92 0 0 [.ref (77), .int (0), .int (0), .int (x), .int (nI (e))] (H m ln N) Q := by
  refine wp_x mx_92 (L := [some (.ref (77)), some (.int (0)), some (.int (0)), some (.int (x)), some (.int (nI (e))), none, none, none, none, none]) (Nat.le_of_ble_eq_true rfl) rfl ?_
  refine g_iload_n m92_0 rfl ?_
  refine g_iload_n m92_1 rfl ?_
  refine g_cs (args := [.int (0), .int (0)]) (rest := []) 0 (Or.inl rfl) m92_2 (Nat.le_of_ble_eq_true rfl) rfl rfl (Nat.le_of_ble_eq_true rfl) ?_
  refine c_own_0_0 ?_
  refine gwr ?_
  refine g_istore (L2 := [some (.ref (77)), some (.int (0)), some (.int (0)), some (.int (x)), some (.int (nI (e))), some (.int (0)), none, none, none, none]) m92_5 rfl rfl ?_
  refine g_iload m92_7 rfl ?_
  refine h_if_ltF (xi := 0) (zi := 0) m92_9 rfl rfl (by decide) ?_
  refine g_iload m92_12 rfl ?_
  refine g_bipush m92_14 ?_
  refine h_ic_leT (xi := ((e : Nat) : Int)) (zi := 30) m92_16 (nI_toInt (by omega)) rfl (by omega) ?_
  refine g_gst m92_21 rfl ?_
  refine g_iconst m92_24 ?_
  refine g_iload m92_25 rfl ?_
  refine g_imul (u := (0 : Int32)) m92_27 (by decide) ?_
  refine g_iload_n m92_28 rfl ?_
  refine g_iadd (u := (0 : Int32)) m92_29 (by decide) ?_
  refine g_iald (x := (10 : Int32)) m92_30 rfl (show vp_in (nI 0) 28 from vp_in_nI (by decide) (by decide)) (by decide +kernel) ?_
  refine g_istore (L2 := [some (.ref (77)), some (.int (0)), some (.int (0)), some (.int (x)), some (.int (nI (e))), some (.int (0)), some (.int (10)), none, none, none]) m92_31 rfl rfl ?_
  refine g_aload_n m92_33 rfl ?_
  refine g_iload m92_34 rfl ?_
  refine h_cv (k := 45) (p := 77) (args := [.int (10)]) (rest := []) m92_36 cn_50 (Nat.le_of_ble_eq_true rfl) rfl rfl rfl (t_45 _ _) (Nat.le_of_ble_eq_true rfl) ?_
  refine c_begin (b := b) (c := 10) hb (by omega) ?_
  refine gwr0 ?_
  refine g_aload_n m92_39 rfl ?_
  refine h_gfI (k := 45) (p := 77) m92_40 rfl (t_45 _ _) rfl ((lgM_o (by decide) [10]).trans hk) ?_
  refine g_istore (L2 := [some (.ref (77)), some (.int (0)), some (.int (0)), some (.int (x)), some (.int (nI (e))), some (.int (0)), some (.int (10)), some (.int (1)), none, none]) m92_43 rfl rfl ?_
  refine g_gst m92_45 rfl ?_
  refine g_iload m92_48 rfl ?_
  refine g_iald (x := (-1 : Int32)) m92_50 rfl (show vp_in (nI 0) 7 from vp_in_nI (by decide) (by decide)) (by decide +kernel) ?_
  refine g_istore (L2 := [some (.ref (77)), some (.int (0)), some (.int (0)), some (.int (x)), some (.int (nI (e))), some (.int (0)), some (.int (10)), some (.int (1)), some (.int (-1)), none]) m92_51 rfl rfl ?_
  refine g_iload m92_53 rfl ?_
  refine g_iconst m92_55 ?_
  refine g_iadd (u := nI (e + 1)) m92_56 (nI_add e 1) ?_
  refine g_istore (L2 := [some (.ref (77)), some (.int (0)), some (.int (0)), some (.int (x)), some (.int (nI (e))), some (.int (0)), some (.int (10)), some (.int (1)), some (.int (-1)), some (.int (nI (e + 1)))]) m92_57 rfl rfl ?_
  refine g_iload m92_59 rfl ?_
  refine gs m92_61 ?_
  refine gwpc (pc' := 160) rfl ?_
  refine g_iload_n m92_160 rfl ?_
  refine g_aload_n m92_161 rfl ?_
  refine h_gfI (k := 45) (p := 77) m92_162 rfl (t_45 _ _) rfl ((lgM_o (by decide) [10]).trans h0) ?_
  refine g_iadd m92_165 rfl ?_
  refine g_iret m92_166 rt_92 ?_
  exact hQ
set_option maxRecDepth 20000 in
set_option maxHeartbeats 40000000 in
theorem c_sp_1_0_1 {b e : Nat} {x nv mv : Int32} (hb : m 45 4 = nI b) (hb40 : b + 2 ≤ 40) (hk : m 45 2 = nI 1) (h0 : m 45 0 = nv) (h1 : m 45 1 = mv) (he : e + 1 ≤ 30) (hQ : Q (some (.int ((x + nv) * (3 : Int32)))) (H (lgM m b [20, 10]) ln N)) : WP xs (d + 4) 92 0 0 [.ref (77), .int (0), .int (1), .int (x), .int (nI (e))] (H m ln N) Q := by
  refine wp_x mx_92 (L := [some (.ref (77)), some (.int (0)), some (.int (1)), some (.int (x)), some (.int (nI (e))), none, none, none, none, none]) (Nat.le_of_ble_eq_true rfl) rfl ?_
  refine g_iload_n m92_0 rfl ?_
  refine g_iload_n m92_1 rfl ?_
  refine g_cs (args := [.int (0), .int (1)]) (rest := []) 0 (Or.inl rfl) m92_2 (Nat.le_of_ble_eq_true rfl) rfl rfl (Nat.le_of_ble_eq_true rfl) ?_
  refine c_own_0_1 ?_
  refine gwr ?_
  refine g_istore (L2 := [some (.ref (77)), some (.int (0)), some (.int (1)), some (.int (x)), some (.int (nI (e))), some (.int (1)), none, none, none, none]) m92_5 rfl rfl ?_
  refine g_iload m92_7 rfl ?_
  refine h_if_ltF (xi := 1) (zi := 0) m92_9 rfl rfl (by decide) ?_
  refine g_iload m92_12 rfl ?_
  refine g_bipush m92_14 ?_
  refine h_ic_leT (xi := ((e : Nat) : Int)) (zi := 30) m92_16 (nI_toInt (by omega)) rfl (by omega) ?_
  refine g_gst m92_21 rfl ?_
  refine g_iconst m92_24 ?_
  refine g_iload m92_25 rfl ?_
  refine g_imul (u := (4 : Int32)) m92_27 (by decide) ?_
  refine g_iload_n m92_28 rfl ?_
  refine g_iadd (u := (4 : Int32)) m92_29 (by decide) ?_
  refine g_iald (x := (20 : Int32)) m92_30 rfl (show vp_in (nI 4) 28 from vp_in_nI (by decide) (by decide)) (by decide +kernel) ?_
  refine g_istore (L2 := [some (.ref (77)), some (.int (0)), some (.int (1)), some (.int (x)), some (.int (nI (e))), some (.int (1)), some (.int (20)), none, none, none]) m92_31 rfl rfl ?_
  refine g_aload_n m92_33 rfl ?_
  refine g_iload m92_34 rfl ?_
  refine h_cv (k := 45) (p := 77) (args := [.int (20)]) (rest := []) m92_36 cn_50 (Nat.le_of_ble_eq_true rfl) rfl rfl rfl (t_45 _ _) (Nat.le_of_ble_eq_true rfl) ?_
  refine c_begin (b := b) (c := 20) hb (by omega) ?_
  refine gwr0 ?_
  refine g_aload_n m92_39 rfl ?_
  refine h_gfI (k := 45) (p := 77) m92_40 rfl (t_45 _ _) rfl ((lgM_o (by decide) [20]).trans hk) ?_
  refine g_istore (L2 := [some (.ref (77)), some (.int (0)), some (.int (1)), some (.int (x)), some (.int (nI (e))), some (.int (1)), some (.int (20)), some (.int (1)), none, none]) m92_43 rfl rfl ?_
  refine g_gst m92_45 rfl ?_
  refine g_iload m92_48 rfl ?_
  refine g_iald (x := (0 : Int32)) m92_50 rfl (show vp_in (nI 1) 7 from vp_in_nI (by decide) (by decide)) (by decide +kernel) ?_
  refine g_istore (L2 := [some (.ref (77)), some (.int (0)), some (.int (1)), some (.int (x)), some (.int (nI (e))), some (.int (1)), some (.int (20)), some (.int (1)), some (.int (0)), none]) m92_51 rfl rfl ?_
  refine g_iload m92_53 rfl ?_
  refine g_iconst m92_55 ?_
  refine g_iadd (u := nI (e + 1)) m92_56 (nI_add e 1) ?_
  refine g_istore (L2 := [some (.ref (77)), some (.int (0)), some (.int (1)), some (.int (x)), some (.int (nI (e))), some (.int (1)), some (.int (20)), some (.int (1)), some (.int (0)), some (.int (nI (e + 1)))]) m92_57 rfl rfl ?_
  refine g_iload m92_59 rfl ?_
  refine gs m92_61 ?_
  refine gwpc (pc' := 209) rfl ?_
  refine g_aload_n m92_209 rfl ?_
  refine g_iconst m92_210 ?_
  refine g_iload m92_211 rfl ?_
  refine g_iload_n m92_213 rfl ?_
  refine g_iload m92_214 rfl ?_
  refine g_cs (args := [.ref (77), .int (0), .int (0), .int (x), .int (nI (e + 1))]) (rest := []) 0 (Or.inl rfl) m92_216 (Nat.le_of_ble_eq_true rfl) rfl rfl (Nat.le_of_ble_eq_true rfl) ?_
  refine c_sp_1_0_0 (m := lgM m b [20]) (b := b + 1) (nv := nv) (mv := mv) (lgM_4 hb [20]) (by omega) ((lgM_o (by decide) [20]).trans hk) ((lgM_o (by decide) [20]).trans h0) ((lgM_o (by decide) [20]).trans h1) (by omega) ?_
  rw [show lgM (lgM m b [20]) (b + 1) [10] = lgM m b [20, 10] from lgM_a [20] [10]]
  refine gwr ?_
  refine g_iconst m92_219 ?_
  refine g_imul m92_220 rfl ?_
  refine g_iret m92_221 rt_92 ?_
  exact hQ
set_option maxRecDepth 20000 in
set_option maxHeartbeats 40000000 in
theorem c_sp_1_1_1 {b e : Nat} {x nv mv : Int32} (hb : m 45 4 = nI b) (hb40 : b + 3 ≤ 40) (hk : m 45 2 = nI 1) (h0 : m 45 0 = nv) (h1 : m 45 1 = mv) (he : e + 2 ≤ 30) (hQ : Q (some (.int (((x + nv) * (3 : Int32)) * (2 : Int32)))) (H (lgM m b [11, 20, 10]) ln N)) : WP xs (d + 5) 92 0 0 [.ref (77), .int (1), .int (1), .int (x), .int (nI (e))] (H m ln N) Q := by
  refine wp_x mx_92 (L := [some (.ref (77)), some (.int (1)), some (.int (1)), some (.int (x)), some (.int (nI (e))), none, none, none, none, none]) (Nat.le_of_ble_eq_true rfl) rfl ?_
  refine g_iload_n m92_0 rfl ?_
  refine g_iload_n m92_1 rfl ?_
  refine g_cs (args := [.int (1), .int (1)]) (rest := []) 0 (Or.inl rfl) m92_2 (Nat.le_of_ble_eq_true rfl) rfl rfl (Nat.le_of_ble_eq_true rfl) ?_
  refine c_own_1_1 ?_
  refine gwr ?_
  refine g_istore (L2 := [some (.ref (77)), some (.int (1)), some (.int (1)), some (.int (x)), some (.int (nI (e))), some (.int (0)), none, none, none, none]) m92_5 rfl rfl ?_
  refine g_iload m92_7 rfl ?_
  refine h_if_ltF (xi := 0) (zi := 0) m92_9 rfl rfl (by decide) ?_
  refine g_iload m92_12 rfl ?_
  refine g_bipush m92_14 ?_
  refine h_ic_leT (xi := ((e : Nat) : Int)) (zi := 30) m92_16 (nI_toInt (by omega)) rfl (by omega) ?_
  refine g_gst m92_21 rfl ?_
  refine g_iconst m92_24 ?_
  refine g_iload m92_25 rfl ?_
  refine g_imul (u := (0 : Int32)) m92_27 (by decide) ?_
  refine g_iload_n m92_28 rfl ?_
  refine g_iadd (u := (1 : Int32)) m92_29 (by decide) ?_
  refine g_iald (x := (11 : Int32)) m92_30 rfl (show vp_in (nI 1) 28 from vp_in_nI (by decide) (by decide)) (by decide +kernel) ?_
  refine g_istore (L2 := [some (.ref (77)), some (.int (1)), some (.int (1)), some (.int (x)), some (.int (nI (e))), some (.int (0)), some (.int (11)), none, none, none]) m92_31 rfl rfl ?_
  refine g_aload_n m92_33 rfl ?_
  refine g_iload m92_34 rfl ?_
  refine h_cv (k := 45) (p := 77) (args := [.int (11)]) (rest := []) m92_36 cn_50 (Nat.le_of_ble_eq_true rfl) rfl rfl rfl (t_45 _ _) (Nat.le_of_ble_eq_true rfl) ?_
  refine c_begin (b := b) (c := 11) hb (by omega) ?_
  refine gwr0 ?_
  refine g_aload_n m92_39 rfl ?_
  refine h_gfI (k := 45) (p := 77) m92_40 rfl (t_45 _ _) rfl ((lgM_o (by decide) [11]).trans hk) ?_
  refine g_istore (L2 := [some (.ref (77)), some (.int (1)), some (.int (1)), some (.int (x)), some (.int (nI (e))), some (.int (0)), some (.int (11)), some (.int (1)), none, none]) m92_43 rfl rfl ?_
  refine g_gst m92_45 rfl ?_
  refine g_iload m92_48 rfl ?_
  refine g_iald (x := (-1 : Int32)) m92_50 rfl (show vp_in (nI 0) 7 from vp_in_nI (by decide) (by decide)) (by decide +kernel) ?_
  refine g_istore (L2 := [some (.ref (77)), some (.int (1)), some (.int (1)), some (.int (x)), some (.int (nI (e))), some (.int (0)), some (.int (11)), some (.int (1)), some (.int (-1)), none]) m92_51 rfl rfl ?_
  refine g_iload m92_53 rfl ?_
  refine g_iconst m92_55 ?_
  refine g_iadd (u := nI (e + 1)) m92_56 (nI_add e 1) ?_
  refine g_istore (L2 := [some (.ref (77)), some (.int (1)), some (.int (1)), some (.int (x)), some (.int (nI (e))), some (.int (0)), some (.int (11)), some (.int (1)), some (.int (-1)), some (.int (nI (e + 1)))]) m92_57 rfl rfl ?_
  refine g_iload m92_59 rfl ?_
  refine gs m92_61 ?_
  refine gwpc (pc' := 167) rfl ?_
  refine g_aload_n m92_167 rfl ?_
  refine g_iconst m92_168 ?_
  refine g_iload m92_169 rfl ?_
  refine g_iload_n m92_171 rfl ?_
  refine g_iload m92_172 rfl ?_
  refine g_cs (args := [.ref (77), .int (0), .int (1), .int (x), .int (nI (e + 1))]) (rest := []) 0 (Or.inl rfl) m92_174 (Nat.le_of_ble_eq_true rfl) rfl rfl (Nat.le_of_ble_eq_true rfl) ?_
  refine c_sp_1_0_1 (m := lgM m b [11]) (b := b + 1) (nv := nv) (mv := mv) (lgM_4 hb [11]) (by omega) ((lgM_o (by decide) [11]).trans hk) ((lgM_o (by decide) [11]).trans h0) ((lgM_o (by decide) [11]).trans h1) (by omega) ?_
  rw [show lgM (lgM m b [11]) (b + 1) [20, 10] = lgM m b [11, 20, 10] from lgM_a [11] [20, 10]]
  refine gwr ?_
  refine g_iconst m92_177 ?_
  refine g_imul m92_178 rfl ?_
  refine g_iret m92_179 rt_92 ?_
  exact hQ
set_option maxRecDepth 20000 in
set_option maxHeartbeats 40000000 in
theorem c_sp_1_2_1 {b e : Nat} {x nv mv : Int32} (hb : m 45 4 = nI b) (hb40 : b + 1 ≤ 40) (hk : m 45 2 = nI 1) (h0 : m 45 0 = nv) (h1 : m 45 1 = mv) (he : e + 0 ≤ 30) (hQ : Q (some (.int (x - mv))) (H (lgM m b [12]) ln N)) : WP xs (d + 3) 92 0 0 [.ref (77), .int (2), .int (1), .int (x), .int (nI (e))] (H m ln N) Q := by
  refine wp_x mx_92 (L := [some (.ref (77)), some (.int (2)), some (.int (1)), some (.int (x)), some (.int (nI (e))), none, none, none, none, none]) (Nat.le_of_ble_eq_true rfl) rfl ?_
  refine g_iload_n m92_0 rfl ?_
  refine g_iload_n m92_1 rfl ?_
  refine g_cs (args := [.int (2), .int (1)]) (rest := []) 0 (Or.inl rfl) m92_2 (Nat.le_of_ble_eq_true rfl) rfl rfl (Nat.le_of_ble_eq_true rfl) ?_
  refine c_own_2_1 ?_
  refine gwr ?_
  refine g_istore (L2 := [some (.ref (77)), some (.int (2)), some (.int (1)), some (.int (x)), some (.int (nI (e))), some (.int (0)), none, none, none, none]) m92_5 rfl rfl ?_
  refine g_iload m92_7 rfl ?_
  refine h_if_ltF (xi := 0) (zi := 0) m92_9 rfl rfl (by decide) ?_
  refine g_iload m92_12 rfl ?_
  refine g_bipush m92_14 ?_
  refine h_ic_leT (xi := ((e : Nat) : Int)) (zi := 30) m92_16 (nI_toInt (by omega)) rfl (by omega) ?_
  refine g_gst m92_21 rfl ?_
  refine g_iconst m92_24 ?_
  refine g_iload m92_25 rfl ?_
  refine g_imul (u := (0 : Int32)) m92_27 (by decide) ?_
  refine g_iload_n m92_28 rfl ?_
  refine g_iadd (u := (2 : Int32)) m92_29 (by decide) ?_
  refine g_iald (x := (12 : Int32)) m92_30 rfl (show vp_in (nI 2) 28 from vp_in_nI (by decide) (by decide)) (by decide +kernel) ?_
  refine g_istore (L2 := [some (.ref (77)), some (.int (2)), some (.int (1)), some (.int (x)), some (.int (nI (e))), some (.int (0)), some (.int (12)), none, none, none]) m92_31 rfl rfl ?_
  refine g_aload_n m92_33 rfl ?_
  refine g_iload m92_34 rfl ?_
  refine h_cv (k := 45) (p := 77) (args := [.int (12)]) (rest := []) m92_36 cn_50 (Nat.le_of_ble_eq_true rfl) rfl rfl rfl (t_45 _ _) (Nat.le_of_ble_eq_true rfl) ?_
  refine c_begin (b := b) (c := 12) hb (by omega) ?_
  refine gwr0 ?_
  refine g_aload_n m92_39 rfl ?_
  refine h_gfI (k := 45) (p := 77) m92_40 rfl (t_45 _ _) rfl ((lgM_o (by decide) [12]).trans hk) ?_
  refine g_istore (L2 := [some (.ref (77)), some (.int (2)), some (.int (1)), some (.int (x)), some (.int (nI (e))), some (.int (0)), some (.int (12)), some (.int (1)), none, none]) m92_43 rfl rfl ?_
  refine g_gst m92_45 rfl ?_
  refine g_iload m92_48 rfl ?_
  refine g_iald (x := (-1 : Int32)) m92_50 rfl (show vp_in (nI 0) 7 from vp_in_nI (by decide) (by decide)) (by decide +kernel) ?_
  refine g_istore (L2 := [some (.ref (77)), some (.int (2)), some (.int (1)), some (.int (x)), some (.int (nI (e))), some (.int (0)), some (.int (12)), some (.int (1)), some (.int (-1)), none]) m92_51 rfl rfl ?_
  refine g_iload m92_53 rfl ?_
  refine g_iconst m92_55 ?_
  refine g_iadd (u := nI (e + 1)) m92_56 (nI_add e 1) ?_
  refine g_istore (L2 := [some (.ref (77)), some (.int (2)), some (.int (1)), some (.int (x)), some (.int (nI (e))), some (.int (0)), some (.int (12)), some (.int (1)), some (.int (-1)), some (.int (nI (e + 1)))]) m92_57 rfl rfl ?_
  refine g_iload m92_59 rfl ?_
  refine gs m92_61 ?_
  refine gwpc (pc' := 180) rfl ?_
  refine g_iload_n m92_180 rfl ?_
  refine g_aload_n m92_181 rfl ?_
  refine h_gfI (k := 45) (p := 77) m92_182 rfl (t_45 _ _) rfl ((lgM_o (by decide) [12]).trans h1) ?_
  refine g_isub m92_185 rfl ?_
  refine g_iret m92_186 rt_92 ?_
  exact hQ
set_option maxRecDepth 20000 in
set_option maxHeartbeats 40000000 in
theorem c_sp_1_3_1 {b e : Nat} {x nv mv : Int32} (hb : m 45 4 = nI b) (hb40 : b + 5 ≤ 40) (hk : m 45 2 = nI 1) (h0 : m 45 0 = nv) (h1 : m 45 1 = mv) (he : e + 3 ≤ 30) (hQ : Q (some (.int ((((x + nv) * (3 : Int32)) * (2 : Int32)) ^^^ (x - mv)))) (H (lgM m b [13, 11, 20, 10, 12]) ln N)) : WP xs (d + 6) 92 0 0 [.ref (77), .int (3), .int (1), .int (x), .int (nI (e))] (H m ln N) Q := by
  refine wp_x mx_92 (L := [some (.ref (77)), some (.int (3)), some (.int (1)), some (.int (x)), some (.int (nI (e))), none, none, none, none, none]) (Nat.le_of_ble_eq_true rfl) rfl ?_
  refine g_iload_n m92_0 rfl ?_
  refine g_iload_n m92_1 rfl ?_
  refine g_cs (args := [.int (3), .int (1)]) (rest := []) 0 (Or.inl rfl) m92_2 (Nat.le_of_ble_eq_true rfl) rfl rfl (Nat.le_of_ble_eq_true rfl) ?_
  refine c_own_3_1 ?_
  refine gwr ?_
  refine g_istore (L2 := [some (.ref (77)), some (.int (3)), some (.int (1)), some (.int (x)), some (.int (nI (e))), some (.int (0)), none, none, none, none]) m92_5 rfl rfl ?_
  refine g_iload m92_7 rfl ?_
  refine h_if_ltF (xi := 0) (zi := 0) m92_9 rfl rfl (by decide) ?_
  refine g_iload m92_12 rfl ?_
  refine g_bipush m92_14 ?_
  refine h_ic_leT (xi := ((e : Nat) : Int)) (zi := 30) m92_16 (nI_toInt (by omega)) rfl (by omega) ?_
  refine g_gst m92_21 rfl ?_
  refine g_iconst m92_24 ?_
  refine g_iload m92_25 rfl ?_
  refine g_imul (u := (0 : Int32)) m92_27 (by decide) ?_
  refine g_iload_n m92_28 rfl ?_
  refine g_iadd (u := (3 : Int32)) m92_29 (by decide) ?_
  refine g_iald (x := (13 : Int32)) m92_30 rfl (show vp_in (nI 3) 28 from vp_in_nI (by decide) (by decide)) (by decide +kernel) ?_
  refine g_istore (L2 := [some (.ref (77)), some (.int (3)), some (.int (1)), some (.int (x)), some (.int (nI (e))), some (.int (0)), some (.int (13)), none, none, none]) m92_31 rfl rfl ?_
  refine g_aload_n m92_33 rfl ?_
  refine g_iload m92_34 rfl ?_
  refine h_cv (k := 45) (p := 77) (args := [.int (13)]) (rest := []) m92_36 cn_50 (Nat.le_of_ble_eq_true rfl) rfl rfl rfl (t_45 _ _) (Nat.le_of_ble_eq_true rfl) ?_
  refine c_begin (b := b) (c := 13) hb (by omega) ?_
  refine gwr0 ?_
  refine g_aload_n m92_39 rfl ?_
  refine h_gfI (k := 45) (p := 77) m92_40 rfl (t_45 _ _) rfl ((lgM_o (by decide) [13]).trans hk) ?_
  refine g_istore (L2 := [some (.ref (77)), some (.int (3)), some (.int (1)), some (.int (x)), some (.int (nI (e))), some (.int (0)), some (.int (13)), some (.int (1)), none, none]) m92_43 rfl rfl ?_
  refine g_gst m92_45 rfl ?_
  refine g_iload m92_48 rfl ?_
  refine g_iald (x := (-1 : Int32)) m92_50 rfl (show vp_in (nI 0) 7 from vp_in_nI (by decide) (by decide)) (by decide +kernel) ?_
  refine g_istore (L2 := [some (.ref (77)), some (.int (3)), some (.int (1)), some (.int (x)), some (.int (nI (e))), some (.int (0)), some (.int (13)), some (.int (1)), some (.int (-1)), none]) m92_51 rfl rfl ?_
  refine g_iload m92_53 rfl ?_
  refine g_iconst m92_55 ?_
  refine g_iadd (u := nI (e + 1)) m92_56 (nI_add e 1) ?_
  refine g_istore (L2 := [some (.ref (77)), some (.int (3)), some (.int (1)), some (.int (x)), some (.int (nI (e))), some (.int (0)), some (.int (13)), some (.int (1)), some (.int (-1)), some (.int (nI (e + 1)))]) m92_57 rfl rfl ?_
  refine g_iload m92_59 rfl ?_
  refine gs m92_61 ?_
  refine gwpc (pc' := 187) rfl ?_
  refine g_aload_n m92_187 rfl ?_
  refine g_iconst m92_188 ?_
  refine g_iload m92_189 rfl ?_
  refine g_iload_n m92_191 rfl ?_
  refine g_iload m92_192 rfl ?_
  refine g_cs (args := [.ref (77), .int (1), .int (1), .int (x), .int (nI (e + 1))]) (rest := []) 0 (Or.inl rfl) m92_194 (Nat.le_of_ble_eq_true rfl) rfl rfl (Nat.le_of_ble_eq_true rfl) ?_
  refine c_sp_1_1_1 (m := lgM m b [13]) (b := b + 1) (nv := nv) (mv := mv) (lgM_4 hb [13]) (by omega) ((lgM_o (by decide) [13]).trans hk) ((lgM_o (by decide) [13]).trans h0) ((lgM_o (by decide) [13]).trans h1) (by omega) ?_
  rw [show lgM (lgM m b [13]) (b + 1) [11, 20, 10] = lgM m b [13, 11, 20, 10] from lgM_a [13] [11, 20, 10]]
  refine gwr ?_
  refine g_aload_n m92_197 rfl ?_
  refine g_iconst m92_198 ?_
  refine g_iload m92_199 rfl ?_
  refine g_iload_n m92_201 rfl ?_
  refine g_iload m92_202 rfl ?_
  refine g_cs (args := [.ref (77), .int (2), .int (1), .int (x), .int (nI (e + 1))]) (rest := [.int ((((x + nv) * (3 : Int32)) * (2 : Int32)))]) 0 (Or.inl rfl) m92_204 (Nat.le_of_ble_eq_true rfl) rfl rfl (Nat.le_of_ble_eq_true rfl) ?_
  refine c_sp_1_2_1 (m := lgM m b [13, 11, 20, 10]) (b := b + 4) (nv := nv) (mv := mv) (lgM_4 hb [13, 11, 20, 10]) (by omega) ((lgM_o (by decide) [13, 11, 20, 10]).trans hk) ((lgM_o (by decide) [13, 11, 20, 10]).trans h0) ((lgM_o (by decide) [13, 11, 20, 10]).trans h1) (by omega) ?_
  rw [show lgM (lgM m b [13, 11, 20, 10]) (b + 4) [12] = lgM m b [13, 11, 20, 10, 12] from lgM_a [13, 11, 20, 10] [12]]
  refine gwr ?_
  refine g_ixor m92_207 rfl ?_
  refine g_iret m92_208 rt_92 ?_
  exact hQ
set_option maxRecDepth 20000 in
set_option maxHeartbeats 40000000 in
theorem c_sp_2_0_2 {b e : Nat} {x nv mv : Int32} (hb : m 45 4 = nI b) (hb40 : b + 1 ≤ 40) (hk : m 45 2 = nI 2) (h0 : m 45 0 = nv) (h1 : m 45 1 = mv) (he : e + 0 ≤ 30) (hQ : Q (some (.int (x + nv))) (H (lgM m b [10]) ln N)) : WP xs (d + 3) 92 0 0 [.ref (77), .int (0), .int (2), .int (x), .int (nI (e))] (H m ln N) Q := by
  refine wp_x mx_92 (L := [some (.ref (77)), some (.int (0)), some (.int (2)), some (.int (x)), some (.int (nI (e))), none, none, none, none, none]) (Nat.le_of_ble_eq_true rfl) rfl ?_
  refine g_iload_n m92_0 rfl ?_
  refine g_iload_n m92_1 rfl ?_
  refine g_cs (args := [.int (0), .int (2)]) (rest := []) 0 (Or.inl rfl) m92_2 (Nat.le_of_ble_eq_true rfl) rfl rfl (Nat.le_of_ble_eq_true rfl) ?_
  refine c_own_0_2 ?_
  refine gwr ?_
  refine g_istore (L2 := [some (.ref (77)), some (.int (0)), some (.int (2)), some (.int (x)), some (.int (nI (e))), some (.int (0)), none, none, none, none]) m92_5 rfl rfl ?_
  refine g_iload m92_7 rfl ?_
  refine h_if_ltF (xi := 0) (zi := 0) m92_9 rfl rfl (by decide) ?_
  refine g_iload m92_12 rfl ?_
  refine g_bipush m92_14 ?_
  refine h_ic_leT (xi := ((e : Nat) : Int)) (zi := 30) m92_16 (nI_toInt (by omega)) rfl (by omega) ?_
  refine g_gst m92_21 rfl ?_
  refine g_iconst m92_24 ?_
  refine g_iload m92_25 rfl ?_
  refine g_imul (u := (0 : Int32)) m92_27 (by decide) ?_
  refine g_iload_n m92_28 rfl ?_
  refine g_iadd (u := (0 : Int32)) m92_29 (by decide) ?_
  refine g_iald (x := (10 : Int32)) m92_30 rfl (show vp_in (nI 0) 28 from vp_in_nI (by decide) (by decide)) (by decide +kernel) ?_
  refine g_istore (L2 := [some (.ref (77)), some (.int (0)), some (.int (2)), some (.int (x)), some (.int (nI (e))), some (.int (0)), some (.int (10)), none, none, none]) m92_31 rfl rfl ?_
  refine g_aload_n m92_33 rfl ?_
  refine g_iload m92_34 rfl ?_
  refine h_cv (k := 45) (p := 77) (args := [.int (10)]) (rest := []) m92_36 cn_50 (Nat.le_of_ble_eq_true rfl) rfl rfl rfl (t_45 _ _) (Nat.le_of_ble_eq_true rfl) ?_
  refine c_begin (b := b) (c := 10) hb (by omega) ?_
  refine gwr0 ?_
  refine g_aload_n m92_39 rfl ?_
  refine h_gfI (k := 45) (p := 77) m92_40 rfl (t_45 _ _) rfl ((lgM_o (by decide) [10]).trans hk) ?_
  refine g_istore (L2 := [some (.ref (77)), some (.int (0)), some (.int (2)), some (.int (x)), some (.int (nI (e))), some (.int (0)), some (.int (10)), some (.int (2)), none, none]) m92_43 rfl rfl ?_
  refine g_gst m92_45 rfl ?_
  refine g_iload m92_48 rfl ?_
  refine g_iald (x := (-1 : Int32)) m92_50 rfl (show vp_in (nI 0) 7 from vp_in_nI (by decide) (by decide)) (by decide +kernel) ?_
  refine g_istore (L2 := [some (.ref (77)), some (.int (0)), some (.int (2)), some (.int (x)), some (.int (nI (e))), some (.int (0)), some (.int (10)), some (.int (2)), some (.int (-1)), none]) m92_51 rfl rfl ?_
  refine g_iload m92_53 rfl ?_
  refine g_iconst m92_55 ?_
  refine g_iadd (u := nI (e + 1)) m92_56 (nI_add e 1) ?_
  refine g_istore (L2 := [some (.ref (77)), some (.int (0)), some (.int (2)), some (.int (x)), some (.int (nI (e))), some (.int (0)), some (.int (10)), some (.int (2)), some (.int (-1)), some (.int (nI (e + 1)))]) m92_57 rfl rfl ?_
  refine g_iload m92_59 rfl ?_
  refine gs m92_61 ?_
  refine gwpc (pc' := 160) rfl ?_
  refine g_iload_n m92_160 rfl ?_
  refine g_aload_n m92_161 rfl ?_
  refine h_gfI (k := 45) (p := 77) m92_162 rfl (t_45 _ _) rfl ((lgM_o (by decide) [10]).trans h0) ?_
  refine g_iadd m92_165 rfl ?_
  refine g_iret m92_166 rt_92 ?_
  exact hQ
set_option maxRecDepth 20000 in
set_option maxHeartbeats 40000000 in
theorem c_sp_2_1_0 {b e : Nat} {x nv mv : Int32} (hb : m 45 4 = nI b) (hb40 : b + 2 ≤ 40) (hk : m 45 2 = nI 2) (h0 : m 45 0 = nv) (h1 : m 45 1 = mv) (he : e + 1 ≤ 30) (hQ : Q (some (.int ((x + nv) * (2 : Int32)))) (H (lgM m b [11, 10]) ln N)) : WP xs (d + 4) 92 0 0 [.ref (77), .int (1), .int (0), .int (x), .int (nI (e))] (H m ln N) Q := by
  refine wp_x mx_92 (L := [some (.ref (77)), some (.int (1)), some (.int (0)), some (.int (x)), some (.int (nI (e))), none, none, none, none, none]) (Nat.le_of_ble_eq_true rfl) rfl ?_
  refine g_iload_n m92_0 rfl ?_
  refine g_iload_n m92_1 rfl ?_
  refine g_cs (args := [.int (1), .int (0)]) (rest := []) 0 (Or.inl rfl) m92_2 (Nat.le_of_ble_eq_true rfl) rfl rfl (Nat.le_of_ble_eq_true rfl) ?_
  refine c_own_1_0 ?_
  refine gwr ?_
  refine g_istore (L2 := [some (.ref (77)), some (.int (1)), some (.int (0)), some (.int (x)), some (.int (nI (e))), some (.int (0)), none, none, none, none]) m92_5 rfl rfl ?_
  refine g_iload m92_7 rfl ?_
  refine h_if_ltF (xi := 0) (zi := 0) m92_9 rfl rfl (by decide) ?_
  refine g_iload m92_12 rfl ?_
  refine g_bipush m92_14 ?_
  refine h_ic_leT (xi := ((e : Nat) : Int)) (zi := 30) m92_16 (nI_toInt (by omega)) rfl (by omega) ?_
  refine g_gst m92_21 rfl ?_
  refine g_iconst m92_24 ?_
  refine g_iload m92_25 rfl ?_
  refine g_imul (u := (0 : Int32)) m92_27 (by decide) ?_
  refine g_iload_n m92_28 rfl ?_
  refine g_iadd (u := (1 : Int32)) m92_29 (by decide) ?_
  refine g_iald (x := (11 : Int32)) m92_30 rfl (show vp_in (nI 1) 28 from vp_in_nI (by decide) (by decide)) (by decide +kernel) ?_
  refine g_istore (L2 := [some (.ref (77)), some (.int (1)), some (.int (0)), some (.int (x)), some (.int (nI (e))), some (.int (0)), some (.int (11)), none, none, none]) m92_31 rfl rfl ?_
  refine g_aload_n m92_33 rfl ?_
  refine g_iload m92_34 rfl ?_
  refine h_cv (k := 45) (p := 77) (args := [.int (11)]) (rest := []) m92_36 cn_50 (Nat.le_of_ble_eq_true rfl) rfl rfl rfl (t_45 _ _) (Nat.le_of_ble_eq_true rfl) ?_
  refine c_begin (b := b) (c := 11) hb (by omega) ?_
  refine gwr0 ?_
  refine g_aload_n m92_39 rfl ?_
  refine h_gfI (k := 45) (p := 77) m92_40 rfl (t_45 _ _) rfl ((lgM_o (by decide) [11]).trans hk) ?_
  refine g_istore (L2 := [some (.ref (77)), some (.int (1)), some (.int (0)), some (.int (x)), some (.int (nI (e))), some (.int (0)), some (.int (11)), some (.int (2)), none, none]) m92_43 rfl rfl ?_
  refine g_gst m92_45 rfl ?_
  refine g_iload m92_48 rfl ?_
  refine g_iald (x := (-1 : Int32)) m92_50 rfl (show vp_in (nI 0) 7 from vp_in_nI (by decide) (by decide)) (by decide +kernel) ?_
  refine g_istore (L2 := [some (.ref (77)), some (.int (1)), some (.int (0)), some (.int (x)), some (.int (nI (e))), some (.int (0)), some (.int (11)), some (.int (2)), some (.int (-1)), none]) m92_51 rfl rfl ?_
  refine g_iload m92_53 rfl ?_
  refine g_iconst m92_55 ?_
  refine g_iadd (u := nI (e + 1)) m92_56 (nI_add e 1) ?_
  refine g_istore (L2 := [some (.ref (77)), some (.int (1)), some (.int (0)), some (.int (x)), some (.int (nI (e))), some (.int (0)), some (.int (11)), some (.int (2)), some (.int (-1)), some (.int (nI (e + 1)))]) m92_57 rfl rfl ?_
  refine g_iload m92_59 rfl ?_
  refine gs m92_61 ?_
  refine gwpc (pc' := 167) rfl ?_
  refine g_aload_n m92_167 rfl ?_
  refine g_iconst m92_168 ?_
  refine g_iload m92_169 rfl ?_
  refine g_iload_n m92_171 rfl ?_
  refine g_iload m92_172 rfl ?_
  refine g_cs (args := [.ref (77), .int (0), .int (2), .int (x), .int (nI (e + 1))]) (rest := []) 0 (Or.inl rfl) m92_174 (Nat.le_of_ble_eq_true rfl) rfl rfl (Nat.le_of_ble_eq_true rfl) ?_
  refine c_sp_2_0_2 (m := lgM m b [11]) (b := b + 1) (nv := nv) (mv := mv) (lgM_4 hb [11]) (by omega) ((lgM_o (by decide) [11]).trans hk) ((lgM_o (by decide) [11]).trans h0) ((lgM_o (by decide) [11]).trans h1) (by omega) ?_
  rw [show lgM (lgM m b [11]) (b + 1) [10] = lgM m b [11, 10] from lgM_a [11] [10]]
  refine gwr ?_
  refine g_iconst m92_177 ?_
  refine g_imul m92_178 rfl ?_
  refine g_iret m92_179 rt_92 ?_
  exact hQ
set_option maxRecDepth 20000 in
set_option maxHeartbeats 40000000 in
theorem c_sp_2_2_2 {b e : Nat} {x nv mv : Int32} (hb : m 45 4 = nI b) (hb40 : b + 1 ≤ 40) (hk : m 45 2 = nI 2) (h0 : m 45 0 = nv) (h1 : m 45 1 = mv) (he : e + 0 ≤ 30) (hQ : Q (some (.int (x - mv))) (H (lgM m b [12]) ln N)) : WP xs (d + 3) 92 0 0 [.ref (77), .int (2), .int (2), .int (x), .int (nI (e))] (H m ln N) Q := by
  refine wp_x mx_92 (L := [some (.ref (77)), some (.int (2)), some (.int (2)), some (.int (x)), some (.int (nI (e))), none, none, none, none, none]) (Nat.le_of_ble_eq_true rfl) rfl ?_
  refine g_iload_n m92_0 rfl ?_
  refine g_iload_n m92_1 rfl ?_
  refine g_cs (args := [.int (2), .int (2)]) (rest := []) 0 (Or.inl rfl) m92_2 (Nat.le_of_ble_eq_true rfl) rfl rfl (Nat.le_of_ble_eq_true rfl) ?_
  refine c_own_2_2 ?_
  refine gwr ?_
  refine g_istore (L2 := [some (.ref (77)), some (.int (2)), some (.int (2)), some (.int (x)), some (.int (nI (e))), some (.int (0)), none, none, none, none]) m92_5 rfl rfl ?_
  refine g_iload m92_7 rfl ?_
  refine h_if_ltF (xi := 0) (zi := 0) m92_9 rfl rfl (by decide) ?_
  refine g_iload m92_12 rfl ?_
  refine g_bipush m92_14 ?_
  refine h_ic_leT (xi := ((e : Nat) : Int)) (zi := 30) m92_16 (nI_toInt (by omega)) rfl (by omega) ?_
  refine g_gst m92_21 rfl ?_
  refine g_iconst m92_24 ?_
  refine g_iload m92_25 rfl ?_
  refine g_imul (u := (0 : Int32)) m92_27 (by decide) ?_
  refine g_iload_n m92_28 rfl ?_
  refine g_iadd (u := (2 : Int32)) m92_29 (by decide) ?_
  refine g_iald (x := (12 : Int32)) m92_30 rfl (show vp_in (nI 2) 28 from vp_in_nI (by decide) (by decide)) (by decide +kernel) ?_
  refine g_istore (L2 := [some (.ref (77)), some (.int (2)), some (.int (2)), some (.int (x)), some (.int (nI (e))), some (.int (0)), some (.int (12)), none, none, none]) m92_31 rfl rfl ?_
  refine g_aload_n m92_33 rfl ?_
  refine g_iload m92_34 rfl ?_
  refine h_cv (k := 45) (p := 77) (args := [.int (12)]) (rest := []) m92_36 cn_50 (Nat.le_of_ble_eq_true rfl) rfl rfl rfl (t_45 _ _) (Nat.le_of_ble_eq_true rfl) ?_
  refine c_begin (b := b) (c := 12) hb (by omega) ?_
  refine gwr0 ?_
  refine g_aload_n m92_39 rfl ?_
  refine h_gfI (k := 45) (p := 77) m92_40 rfl (t_45 _ _) rfl ((lgM_o (by decide) [12]).trans hk) ?_
  refine g_istore (L2 := [some (.ref (77)), some (.int (2)), some (.int (2)), some (.int (x)), some (.int (nI (e))), some (.int (0)), some (.int (12)), some (.int (2)), none, none]) m92_43 rfl rfl ?_
  refine g_gst m92_45 rfl ?_
  refine g_iload m92_48 rfl ?_
  refine g_iald (x := (-1 : Int32)) m92_50 rfl (show vp_in (nI 0) 7 from vp_in_nI (by decide) (by decide)) (by decide +kernel) ?_
  refine g_istore (L2 := [some (.ref (77)), some (.int (2)), some (.int (2)), some (.int (x)), some (.int (nI (e))), some (.int (0)), some (.int (12)), some (.int (2)), some (.int (-1)), none]) m92_51 rfl rfl ?_
  refine g_iload m92_53 rfl ?_
  refine g_iconst m92_55 ?_
  refine g_iadd (u := nI (e + 1)) m92_56 (nI_add e 1) ?_
  refine g_istore (L2 := [some (.ref (77)), some (.int (2)), some (.int (2)), some (.int (x)), some (.int (nI (e))), some (.int (0)), some (.int (12)), some (.int (2)), some (.int (-1)), some (.int (nI (e + 1)))]) m92_57 rfl rfl ?_
  refine g_iload m92_59 rfl ?_
  refine gs m92_61 ?_
  refine gwpc (pc' := 180) rfl ?_
  refine g_iload_n m92_180 rfl ?_
  refine g_aload_n m92_181 rfl ?_
  refine h_gfI (k := 45) (p := 77) m92_182 rfl (t_45 _ _) rfl ((lgM_o (by decide) [12]).trans h1) ?_
  refine g_isub m92_185 rfl ?_
  refine g_iret m92_186 rt_92 ?_
  exact hQ
set_option maxRecDepth 20000 in
set_option maxHeartbeats 40000000 in
theorem c_sp_2_1_2 {b e : Nat} {x nv mv : Int32} (hb : m 45 4 = nI b) (hb40 : b + 4 ≤ 40) (hk : m 45 2 = nI 2) (h0 : m 45 0 = nv) (h1 : m 45 1 = mv) (he : e + 2 ≤ 30) (hQ : Q (some (.int (((x + nv) * (2 : Int32)) - ((1 : Int32) - mv)))) (H (lgM m b [30, 11, 10, 12]) ln N)) : WP xs (d + 5) 92 0 0 [.ref (77), .int (1), .int (2), .int (x), .int (nI (e))] (H m ln N) Q := by
  refine wp_x mx_92 (L := [some (.ref (77)), some (.int (1)), some (.int (2)), some (.int (x)), some (.int (nI (e))), none, none, none, none, none]) (Nat.le_of_ble_eq_true rfl) rfl ?_
  refine g_iload_n m92_0 rfl ?_
  refine g_iload_n m92_1 rfl ?_
  refine g_cs (args := [.int (1), .int (2)]) (rest := []) 0 (Or.inl rfl) m92_2 (Nat.le_of_ble_eq_true rfl) rfl rfl (Nat.le_of_ble_eq_true rfl) ?_
  refine c_own_1_2 ?_
  refine gwr ?_
  refine g_istore (L2 := [some (.ref (77)), some (.int (1)), some (.int (2)), some (.int (x)), some (.int (nI (e))), some (.int (2)), none, none, none, none]) m92_5 rfl rfl ?_
  refine g_iload m92_7 rfl ?_
  refine h_if_ltF (xi := 2) (zi := 0) m92_9 rfl rfl (by decide) ?_
  refine g_iload m92_12 rfl ?_
  refine g_bipush m92_14 ?_
  refine h_ic_leT (xi := ((e : Nat) : Int)) (zi := 30) m92_16 (nI_toInt (by omega)) rfl (by omega) ?_
  refine g_gst m92_21 rfl ?_
  refine g_iconst m92_24 ?_
  refine g_iload m92_25 rfl ?_
  refine g_imul (u := (8 : Int32)) m92_27 (by decide) ?_
  refine g_iload_n m92_28 rfl ?_
  refine g_iadd (u := (9 : Int32)) m92_29 (by decide) ?_
  refine g_iald (x := (30 : Int32)) m92_30 rfl (show vp_in (nI 9) 28 from vp_in_nI (by decide) (by decide)) (by decide +kernel) ?_
  refine g_istore (L2 := [some (.ref (77)), some (.int (1)), some (.int (2)), some (.int (x)), some (.int (nI (e))), some (.int (2)), some (.int (30)), none, none, none]) m92_31 rfl rfl ?_
  refine g_aload_n m92_33 rfl ?_
  refine g_iload m92_34 rfl ?_
  refine h_cv (k := 45) (p := 77) (args := [.int (30)]) (rest := []) m92_36 cn_50 (Nat.le_of_ble_eq_true rfl) rfl rfl rfl (t_45 _ _) (Nat.le_of_ble_eq_true rfl) ?_
  refine c_begin (b := b) (c := 30) hb (by omega) ?_
  refine gwr0 ?_
  refine g_aload_n m92_39 rfl ?_
  refine h_gfI (k := 45) (p := 77) m92_40 rfl (t_45 _ _) rfl ((lgM_o (by decide) [30]).trans hk) ?_
  refine g_istore (L2 := [some (.ref (77)), some (.int (1)), some (.int (2)), some (.int (x)), some (.int (nI (e))), some (.int (2)), some (.int (30)), some (.int (2)), none, none]) m92_43 rfl rfl ?_
  refine g_gst m92_45 rfl ?_
  refine g_iload m92_48 rfl ?_
  refine g_iald (x := (0 : Int32)) m92_50 rfl (show vp_in (nI 2) 7 from vp_in_nI (by decide) (by decide)) (by decide +kernel) ?_
  refine g_istore (L2 := [some (.ref (77)), some (.int (1)), some (.int (2)), some (.int (x)), some (.int (nI (e))), some (.int (2)), some (.int (30)), some (.int (2)), some (.int (0)), none]) m92_51 rfl rfl ?_
  refine g_iload m92_53 rfl ?_
  refine g_iconst m92_55 ?_
  refine g_iadd (u := nI (e + 1)) m92_56 (nI_add e 1) ?_
  refine g_istore (L2 := [some (.ref (77)), some (.int (1)), some (.int (2)), some (.int (x)), some (.int (nI (e))), some (.int (2)), some (.int (30)), some (.int (2)), some (.int (0)), some (.int (nI (e + 1)))]) m92_57 rfl rfl ?_
  refine g_iload m92_59 rfl ?_
  refine gs m92_61 ?_
  refine gwpc (pc' := 222) rfl ?_
  refine g_aload_n m92_222 rfl ?_
  refine g_iconst m92_223 ?_
  refine g_iload m92_224 rfl ?_
  refine g_iload_n m92_226 rfl ?_
  refine g_iload m92_227 rfl ?_
  refine g_cs (args := [.ref (77), .int (1), .int (0), .int (x), .int (nI (e + 1))]) (rest := []) 0 (Or.inl rfl) m92_229 (Nat.le_of_ble_eq_true rfl) rfl rfl (Nat.le_of_ble_eq_true rfl) ?_
  refine c_sp_2_1_0 (m := lgM m b [30]) (b := b + 1) (nv := nv) (mv := mv) (lgM_4 hb [30]) (by omega) ((lgM_o (by decide) [30]).trans hk) ((lgM_o (by decide) [30]).trans h0) ((lgM_o (by decide) [30]).trans h1) (by omega) ?_
  rw [show lgM (lgM m b [30]) (b + 1) [11, 10] = lgM m b [30, 11, 10] from lgM_a [30] [11, 10]]
  refine gwr ?_
  refine g_aload_n m92_232 rfl ?_
  refine g_iconst m92_233 ?_
  refine g_iload m92_234 rfl ?_
  refine g_iconst m92_236 ?_
  refine g_iload m92_237 rfl ?_
  refine g_cs (args := [.ref (77), .int (2), .int (2), .int (1), .int (nI (e + 1))]) (rest := [.int (((x + nv) * (2 : Int32)))]) 0 (Or.inl rfl) m92_239 (Nat.le_of_ble_eq_true rfl) rfl rfl (Nat.le_of_ble_eq_true rfl) ?_
  refine c_sp_2_2_2 (m := lgM m b [30, 11, 10]) (b := b + 3) (nv := nv) (mv := mv) (lgM_4 hb [30, 11, 10]) (by omega) ((lgM_o (by decide) [30, 11, 10]).trans hk) ((lgM_o (by decide) [30, 11, 10]).trans h0) ((lgM_o (by decide) [30, 11, 10]).trans h1) (by omega) ?_
  rw [show lgM (lgM m b [30, 11, 10]) (b + 3) [12] = lgM m b [30, 11, 10, 12] from lgM_a [30, 11, 10] [12]]
  refine gwr ?_
  refine g_isub m92_242 rfl ?_
  refine g_iret m92_243 rt_92 ?_
  exact hQ
set_option maxRecDepth 20000 in
set_option maxHeartbeats 40000000 in
theorem c_sp_2_3_2 {b e : Nat} {x nv mv : Int32} (hb : m 45 4 = nI b) (hb40 : b + 6 ≤ 40) (hk : m 45 2 = nI 2) (h0 : m 45 0 = nv) (h1 : m 45 1 = mv) (he : e + 3 ≤ 30) (hQ : Q (some (.int ((((x + nv) * (2 : Int32)) - ((1 : Int32) - mv)) ^^^ (x - mv)))) (H (lgM m b [13, 30, 11, 10, 12, 12]) ln N)) : WP xs (d + 6) 92 0 0 [.ref (77), .int (3), .int (2), .int (x), .int (nI (e))] (H m ln N) Q := by
  refine wp_x mx_92 (L := [some (.ref (77)), some (.int (3)), some (.int (2)), some (.int (x)), some (.int (nI (e))), none, none, none, none, none]) (Nat.le_of_ble_eq_true rfl) rfl ?_
  refine g_iload_n m92_0 rfl ?_
  refine g_iload_n m92_1 rfl ?_
  refine g_cs (args := [.int (3), .int (2)]) (rest := []) 0 (Or.inl rfl) m92_2 (Nat.le_of_ble_eq_true rfl) rfl rfl (Nat.le_of_ble_eq_true rfl) ?_
  refine c_own_3_2 ?_
  refine gwr ?_
  refine g_istore (L2 := [some (.ref (77)), some (.int (3)), some (.int (2)), some (.int (x)), some (.int (nI (e))), some (.int (0)), none, none, none, none]) m92_5 rfl rfl ?_
  refine g_iload m92_7 rfl ?_
  refine h_if_ltF (xi := 0) (zi := 0) m92_9 rfl rfl (by decide) ?_
  refine g_iload m92_12 rfl ?_
  refine g_bipush m92_14 ?_
  refine h_ic_leT (xi := ((e : Nat) : Int)) (zi := 30) m92_16 (nI_toInt (by omega)) rfl (by omega) ?_
  refine g_gst m92_21 rfl ?_
  refine g_iconst m92_24 ?_
  refine g_iload m92_25 rfl ?_
  refine g_imul (u := (0 : Int32)) m92_27 (by decide) ?_
  refine g_iload_n m92_28 rfl ?_
  refine g_iadd (u := (3 : Int32)) m92_29 (by decide) ?_
  refine g_iald (x := (13 : Int32)) m92_30 rfl (show vp_in (nI 3) 28 from vp_in_nI (by decide) (by decide)) (by decide +kernel) ?_
  refine g_istore (L2 := [some (.ref (77)), some (.int (3)), some (.int (2)), some (.int (x)), some (.int (nI (e))), some (.int (0)), some (.int (13)), none, none, none]) m92_31 rfl rfl ?_
  refine g_aload_n m92_33 rfl ?_
  refine g_iload m92_34 rfl ?_
  refine h_cv (k := 45) (p := 77) (args := [.int (13)]) (rest := []) m92_36 cn_50 (Nat.le_of_ble_eq_true rfl) rfl rfl rfl (t_45 _ _) (Nat.le_of_ble_eq_true rfl) ?_
  refine c_begin (b := b) (c := 13) hb (by omega) ?_
  refine gwr0 ?_
  refine g_aload_n m92_39 rfl ?_
  refine h_gfI (k := 45) (p := 77) m92_40 rfl (t_45 _ _) rfl ((lgM_o (by decide) [13]).trans hk) ?_
  refine g_istore (L2 := [some (.ref (77)), some (.int (3)), some (.int (2)), some (.int (x)), some (.int (nI (e))), some (.int (0)), some (.int (13)), some (.int (2)), none, none]) m92_43 rfl rfl ?_
  refine g_gst m92_45 rfl ?_
  refine g_iload m92_48 rfl ?_
  refine g_iald (x := (-1 : Int32)) m92_50 rfl (show vp_in (nI 0) 7 from vp_in_nI (by decide) (by decide)) (by decide +kernel) ?_
  refine g_istore (L2 := [some (.ref (77)), some (.int (3)), some (.int (2)), some (.int (x)), some (.int (nI (e))), some (.int (0)), some (.int (13)), some (.int (2)), some (.int (-1)), none]) m92_51 rfl rfl ?_
  refine g_iload m92_53 rfl ?_
  refine g_iconst m92_55 ?_
  refine g_iadd (u := nI (e + 1)) m92_56 (nI_add e 1) ?_
  refine g_istore (L2 := [some (.ref (77)), some (.int (3)), some (.int (2)), some (.int (x)), some (.int (nI (e))), some (.int (0)), some (.int (13)), some (.int (2)), some (.int (-1)), some (.int (nI (e + 1)))]) m92_57 rfl rfl ?_
  refine g_iload m92_59 rfl ?_
  refine gs m92_61 ?_
  refine gwpc (pc' := 187) rfl ?_
  refine g_aload_n m92_187 rfl ?_
  refine g_iconst m92_188 ?_
  refine g_iload m92_189 rfl ?_
  refine g_iload_n m92_191 rfl ?_
  refine g_iload m92_192 rfl ?_
  refine g_cs (args := [.ref (77), .int (1), .int (2), .int (x), .int (nI (e + 1))]) (rest := []) 0 (Or.inl rfl) m92_194 (Nat.le_of_ble_eq_true rfl) rfl rfl (Nat.le_of_ble_eq_true rfl) ?_
  refine c_sp_2_1_2 (m := lgM m b [13]) (b := b + 1) (nv := nv) (mv := mv) (lgM_4 hb [13]) (by omega) ((lgM_o (by decide) [13]).trans hk) ((lgM_o (by decide) [13]).trans h0) ((lgM_o (by decide) [13]).trans h1) (by omega) ?_
  rw [show lgM (lgM m b [13]) (b + 1) [30, 11, 10, 12] = lgM m b [13, 30, 11, 10, 12] from lgM_a [13] [30, 11, 10, 12]]
  refine gwr ?_
  refine g_aload_n m92_197 rfl ?_
  refine g_iconst m92_198 ?_
  refine g_iload m92_199 rfl ?_
  refine g_iload_n m92_201 rfl ?_
  refine g_iload m92_202 rfl ?_
  refine g_cs (args := [.ref (77), .int (2), .int (2), .int (x), .int (nI (e + 1))]) (rest := [.int ((((x + nv) * (2 : Int32)) - ((1 : Int32) - mv)))]) 0 (Or.inl rfl) m92_204 (Nat.le_of_ble_eq_true rfl) rfl rfl (Nat.le_of_ble_eq_true rfl) ?_
  refine c_sp_2_2_2 (m := lgM m b [13, 30, 11, 10, 12]) (b := b + 5) (nv := nv) (mv := mv) (lgM_4 hb [13, 30, 11, 10, 12]) (by omega) ((lgM_o (by decide) [13, 30, 11, 10, 12]).trans hk) ((lgM_o (by decide) [13, 30, 11, 10, 12]).trans h0) ((lgM_o (by decide) [13, 30, 11, 10, 12]).trans h1) (by omega) ?_
  rw [show lgM (lgM m b [13, 30, 11, 10, 12]) (b + 5) [12] = lgM m b [13, 30, 11, 10, 12, 12] from lgM_a [13, 30, 11, 10, 12] [12]]
  refine gwr ?_
  refine g_ixor m92_207 rfl ?_
  refine g_iret m92_208 rt_92 ?_
  exact hQ
set_option maxRecDepth 20000 in
set_option maxHeartbeats 40000000 in
theorem c_sp_3_0_3 {b e : Nat} {x nv mv : Int32} (hb : m 45 4 = nI b) (hb40 : b + 1 ≤ 40) (hk : m 45 2 = nI 3) (h0 : m 45 0 = nv) (h1 : m 45 1 = mv) (he : e + 0 ≤ 30) (hQ : Q (some (.int (x + nv))) (H (lgM m b [10]) ln N)) : WP xs (d + 3) 92 0 0 [.ref (77), .int (0), .int (3), .int (x), .int (nI (e))] (H m ln N) Q := by
  refine wp_x mx_92 (L := [some (.ref (77)), some (.int (0)), some (.int (3)), some (.int (x)), some (.int (nI (e))), none, none, none, none, none]) (Nat.le_of_ble_eq_true rfl) rfl ?_
  refine g_iload_n m92_0 rfl ?_
  refine g_iload_n m92_1 rfl ?_
  refine g_cs (args := [.int (0), .int (3)]) (rest := []) 0 (Or.inl rfl) m92_2 (Nat.le_of_ble_eq_true rfl) rfl rfl (Nat.le_of_ble_eq_true rfl) ?_
  refine c_own_0_3 ?_
  refine gwr ?_
  refine g_istore (L2 := [some (.ref (77)), some (.int (0)), some (.int (3)), some (.int (x)), some (.int (nI (e))), some (.int (0)), none, none, none, none]) m92_5 rfl rfl ?_
  refine g_iload m92_7 rfl ?_
  refine h_if_ltF (xi := 0) (zi := 0) m92_9 rfl rfl (by decide) ?_
  refine g_iload m92_12 rfl ?_
  refine g_bipush m92_14 ?_
  refine h_ic_leT (xi := ((e : Nat) : Int)) (zi := 30) m92_16 (nI_toInt (by omega)) rfl (by omega) ?_
  refine g_gst m92_21 rfl ?_
  refine g_iconst m92_24 ?_
  refine g_iload m92_25 rfl ?_
  refine g_imul (u := (0 : Int32)) m92_27 (by decide) ?_
  refine g_iload_n m92_28 rfl ?_
  refine g_iadd (u := (0 : Int32)) m92_29 (by decide) ?_
  refine g_iald (x := (10 : Int32)) m92_30 rfl (show vp_in (nI 0) 28 from vp_in_nI (by decide) (by decide)) (by decide +kernel) ?_
  refine g_istore (L2 := [some (.ref (77)), some (.int (0)), some (.int (3)), some (.int (x)), some (.int (nI (e))), some (.int (0)), some (.int (10)), none, none, none]) m92_31 rfl rfl ?_
  refine g_aload_n m92_33 rfl ?_
  refine g_iload m92_34 rfl ?_
  refine h_cv (k := 45) (p := 77) (args := [.int (10)]) (rest := []) m92_36 cn_50 (Nat.le_of_ble_eq_true rfl) rfl rfl rfl (t_45 _ _) (Nat.le_of_ble_eq_true rfl) ?_
  refine c_begin (b := b) (c := 10) hb (by omega) ?_
  refine gwr0 ?_
  refine g_aload_n m92_39 rfl ?_
  refine h_gfI (k := 45) (p := 77) m92_40 rfl (t_45 _ _) rfl ((lgM_o (by decide) [10]).trans hk) ?_
  refine g_istore (L2 := [some (.ref (77)), some (.int (0)), some (.int (3)), some (.int (x)), some (.int (nI (e))), some (.int (0)), some (.int (10)), some (.int (3)), none, none]) m92_43 rfl rfl ?_
  refine g_gst m92_45 rfl ?_
  refine g_iload m92_48 rfl ?_
  refine g_iald (x := (-1 : Int32)) m92_50 rfl (show vp_in (nI 0) 7 from vp_in_nI (by decide) (by decide)) (by decide +kernel) ?_
  refine g_istore (L2 := [some (.ref (77)), some (.int (0)), some (.int (3)), some (.int (x)), some (.int (nI (e))), some (.int (0)), some (.int (10)), some (.int (3)), some (.int (-1)), none]) m92_51 rfl rfl ?_
  refine g_iload m92_53 rfl ?_
  refine g_iconst m92_55 ?_
  refine g_iadd (u := nI (e + 1)) m92_56 (nI_add e 1) ?_
  refine g_istore (L2 := [some (.ref (77)), some (.int (0)), some (.int (3)), some (.int (x)), some (.int (nI (e))), some (.int (0)), some (.int (10)), some (.int (3)), some (.int (-1)), some (.int (nI (e + 1)))]) m92_57 rfl rfl ?_
  refine g_iload m92_59 rfl ?_
  refine gs m92_61 ?_
  refine gwpc (pc' := 160) rfl ?_
  refine g_iload_n m92_160 rfl ?_
  refine g_aload_n m92_161 rfl ?_
  refine h_gfI (k := 45) (p := 77) m92_162 rfl (t_45 _ _) rfl ((lgM_o (by decide) [10]).trans h0) ?_
  refine g_iadd m92_165 rfl ?_
  refine g_iret m92_166 rt_92 ?_
  exact hQ
set_option maxRecDepth 20000 in
set_option maxHeartbeats 40000000 in
theorem c_sp_3_1_3 {b e : Nat} {x nv mv : Int32} (hb : m 45 4 = nI b) (hb40 : b + 2 ≤ 40) (hk : m 45 2 = nI 3) (h0 : m 45 0 = nv) (h1 : m 45 1 = mv) (he : e + 1 ≤ 30) (hQ : Q (some (.int ((x + nv) * (2 : Int32)))) (H (lgM m b [11, 10]) ln N)) : WP xs (d + 4) 92 0 0 [.ref (77), .int (1), .int (3), .int (x), .int (nI (e))] (H m ln N) Q := by
  refine wp_x mx_92 (L := [some (.ref (77)), some (.int (1)), some (.int (3)), some (.int (x)), some (.int (nI (e))), none, none, none, none, none]) (Nat.le_of_ble_eq_true rfl) rfl ?_
  refine g_iload_n m92_0 rfl ?_
  refine g_iload_n m92_1 rfl ?_
  refine g_cs (args := [.int (1), .int (3)]) (rest := []) 0 (Or.inl rfl) m92_2 (Nat.le_of_ble_eq_true rfl) rfl rfl (Nat.le_of_ble_eq_true rfl) ?_
  refine c_own_1_3 ?_
  refine gwr ?_
  refine g_istore (L2 := [some (.ref (77)), some (.int (1)), some (.int (3)), some (.int (x)), some (.int (nI (e))), some (.int (0)), none, none, none, none]) m92_5 rfl rfl ?_
  refine g_iload m92_7 rfl ?_
  refine h_if_ltF (xi := 0) (zi := 0) m92_9 rfl rfl (by decide) ?_
  refine g_iload m92_12 rfl ?_
  refine g_bipush m92_14 ?_
  refine h_ic_leT (xi := ((e : Nat) : Int)) (zi := 30) m92_16 (nI_toInt (by omega)) rfl (by omega) ?_
  refine g_gst m92_21 rfl ?_
  refine g_iconst m92_24 ?_
  refine g_iload m92_25 rfl ?_
  refine g_imul (u := (0 : Int32)) m92_27 (by decide) ?_
  refine g_iload_n m92_28 rfl ?_
  refine g_iadd (u := (1 : Int32)) m92_29 (by decide) ?_
  refine g_iald (x := (11 : Int32)) m92_30 rfl (show vp_in (nI 1) 28 from vp_in_nI (by decide) (by decide)) (by decide +kernel) ?_
  refine g_istore (L2 := [some (.ref (77)), some (.int (1)), some (.int (3)), some (.int (x)), some (.int (nI (e))), some (.int (0)), some (.int (11)), none, none, none]) m92_31 rfl rfl ?_
  refine g_aload_n m92_33 rfl ?_
  refine g_iload m92_34 rfl ?_
  refine h_cv (k := 45) (p := 77) (args := [.int (11)]) (rest := []) m92_36 cn_50 (Nat.le_of_ble_eq_true rfl) rfl rfl rfl (t_45 _ _) (Nat.le_of_ble_eq_true rfl) ?_
  refine c_begin (b := b) (c := 11) hb (by omega) ?_
  refine gwr0 ?_
  refine g_aload_n m92_39 rfl ?_
  refine h_gfI (k := 45) (p := 77) m92_40 rfl (t_45 _ _) rfl ((lgM_o (by decide) [11]).trans hk) ?_
  refine g_istore (L2 := [some (.ref (77)), some (.int (1)), some (.int (3)), some (.int (x)), some (.int (nI (e))), some (.int (0)), some (.int (11)), some (.int (3)), none, none]) m92_43 rfl rfl ?_
  refine g_gst m92_45 rfl ?_
  refine g_iload m92_48 rfl ?_
  refine g_iald (x := (-1 : Int32)) m92_50 rfl (show vp_in (nI 0) 7 from vp_in_nI (by decide) (by decide)) (by decide +kernel) ?_
  refine g_istore (L2 := [some (.ref (77)), some (.int (1)), some (.int (3)), some (.int (x)), some (.int (nI (e))), some (.int (0)), some (.int (11)), some (.int (3)), some (.int (-1)), none]) m92_51 rfl rfl ?_
  refine g_iload m92_53 rfl ?_
  refine g_iconst m92_55 ?_
  refine g_iadd (u := nI (e + 1)) m92_56 (nI_add e 1) ?_
  refine g_istore (L2 := [some (.ref (77)), some (.int (1)), some (.int (3)), some (.int (x)), some (.int (nI (e))), some (.int (0)), some (.int (11)), some (.int (3)), some (.int (-1)), some (.int (nI (e + 1)))]) m92_57 rfl rfl ?_
  refine g_iload m92_59 rfl ?_
  refine gs m92_61 ?_
  refine gwpc (pc' := 167) rfl ?_
  refine g_aload_n m92_167 rfl ?_
  refine g_iconst m92_168 ?_
  refine g_iload m92_169 rfl ?_
  refine g_iload_n m92_171 rfl ?_
  refine g_iload m92_172 rfl ?_
  refine g_cs (args := [.ref (77), .int (0), .int (3), .int (x), .int (nI (e + 1))]) (rest := []) 0 (Or.inl rfl) m92_174 (Nat.le_of_ble_eq_true rfl) rfl rfl (Nat.le_of_ble_eq_true rfl) ?_
  refine c_sp_3_0_3 (m := lgM m b [11]) (b := b + 1) (nv := nv) (mv := mv) (lgM_4 hb [11]) (by omega) ((lgM_o (by decide) [11]).trans hk) ((lgM_o (by decide) [11]).trans h0) ((lgM_o (by decide) [11]).trans h1) (by omega) ?_
  rw [show lgM (lgM m b [11]) (b + 1) [10] = lgM m b [11, 10] from lgM_a [11] [10]]
  refine gwr ?_
  refine g_iconst m92_177 ?_
  refine g_imul m92_178 rfl ?_
  refine g_iret m92_179 rt_92 ?_
  exact hQ
set_option maxRecDepth 20000 in
set_option maxHeartbeats 40000000 in
theorem c_sp_3_2_0 {b e : Nat} {x nv mv : Int32} (hb : m 45 4 = nI b) (hb40 : b + 1 ≤ 40) (hk : m 45 2 = nI 3) (h0 : m 45 0 = nv) (h1 : m 45 1 = mv) (he : e + 0 ≤ 30) (hQ : Q (some (.int (x - mv))) (H (lgM m b [12]) ln N)) : WP xs (d + 3) 92 0 0 [.ref (77), .int (2), .int (0), .int (x), .int (nI (e))] (H m ln N) Q := by
  refine wp_x mx_92 (L := [some (.ref (77)), some (.int (2)), some (.int (0)), some (.int (x)), some (.int (nI (e))), none, none, none, none, none]) (Nat.le_of_ble_eq_true rfl) rfl ?_
  refine g_iload_n m92_0 rfl ?_
  refine g_iload_n m92_1 rfl ?_
  refine g_cs (args := [.int (2), .int (0)]) (rest := []) 0 (Or.inl rfl) m92_2 (Nat.le_of_ble_eq_true rfl) rfl rfl (Nat.le_of_ble_eq_true rfl) ?_
  refine c_own_2_0 ?_
  refine gwr ?_
  refine g_istore (L2 := [some (.ref (77)), some (.int (2)), some (.int (0)), some (.int (x)), some (.int (nI (e))), some (.int (0)), none, none, none, none]) m92_5 rfl rfl ?_
  refine g_iload m92_7 rfl ?_
  refine h_if_ltF (xi := 0) (zi := 0) m92_9 rfl rfl (by decide) ?_
  refine g_iload m92_12 rfl ?_
  refine g_bipush m92_14 ?_
  refine h_ic_leT (xi := ((e : Nat) : Int)) (zi := 30) m92_16 (nI_toInt (by omega)) rfl (by omega) ?_
  refine g_gst m92_21 rfl ?_
  refine g_iconst m92_24 ?_
  refine g_iload m92_25 rfl ?_
  refine g_imul (u := (0 : Int32)) m92_27 (by decide) ?_
  refine g_iload_n m92_28 rfl ?_
  refine g_iadd (u := (2 : Int32)) m92_29 (by decide) ?_
  refine g_iald (x := (12 : Int32)) m92_30 rfl (show vp_in (nI 2) 28 from vp_in_nI (by decide) (by decide)) (by decide +kernel) ?_
  refine g_istore (L2 := [some (.ref (77)), some (.int (2)), some (.int (0)), some (.int (x)), some (.int (nI (e))), some (.int (0)), some (.int (12)), none, none, none]) m92_31 rfl rfl ?_
  refine g_aload_n m92_33 rfl ?_
  refine g_iload m92_34 rfl ?_
  refine h_cv (k := 45) (p := 77) (args := [.int (12)]) (rest := []) m92_36 cn_50 (Nat.le_of_ble_eq_true rfl) rfl rfl rfl (t_45 _ _) (Nat.le_of_ble_eq_true rfl) ?_
  refine c_begin (b := b) (c := 12) hb (by omega) ?_
  refine gwr0 ?_
  refine g_aload_n m92_39 rfl ?_
  refine h_gfI (k := 45) (p := 77) m92_40 rfl (t_45 _ _) rfl ((lgM_o (by decide) [12]).trans hk) ?_
  refine g_istore (L2 := [some (.ref (77)), some (.int (2)), some (.int (0)), some (.int (x)), some (.int (nI (e))), some (.int (0)), some (.int (12)), some (.int (3)), none, none]) m92_43 rfl rfl ?_
  refine g_gst m92_45 rfl ?_
  refine g_iload m92_48 rfl ?_
  refine g_iald (x := (-1 : Int32)) m92_50 rfl (show vp_in (nI 0) 7 from vp_in_nI (by decide) (by decide)) (by decide +kernel) ?_
  refine g_istore (L2 := [some (.ref (77)), some (.int (2)), some (.int (0)), some (.int (x)), some (.int (nI (e))), some (.int (0)), some (.int (12)), some (.int (3)), some (.int (-1)), none]) m92_51 rfl rfl ?_
  refine g_iload m92_53 rfl ?_
  refine g_iconst m92_55 ?_
  refine g_iadd (u := nI (e + 1)) m92_56 (nI_add e 1) ?_
  refine g_istore (L2 := [some (.ref (77)), some (.int (2)), some (.int (0)), some (.int (x)), some (.int (nI (e))), some (.int (0)), some (.int (12)), some (.int (3)), some (.int (-1)), some (.int (nI (e + 1)))]) m92_57 rfl rfl ?_
  refine g_iload m92_59 rfl ?_
  refine gs m92_61 ?_
  refine gwpc (pc' := 180) rfl ?_
  refine g_iload_n m92_180 rfl ?_
  refine g_aload_n m92_181 rfl ?_
  refine h_gfI (k := 45) (p := 77) m92_182 rfl (t_45 _ _) rfl ((lgM_o (by decide) [12]).trans h1) ?_
  refine g_isub m92_185 rfl ?_
  refine g_iret m92_186 rt_92 ?_
  exact hQ
set_option maxRecDepth 20000 in
set_option maxHeartbeats 40000000 in
theorem c_sp_3_2_3 {b e : Nat} {x nv mv : Int32} (hb : m 45 4 = nI b) (hb40 : b + 2 ≤ 40) (hk : m 45 2 = nI 3) (h0 : m 45 0 = nv) (h1 : m 45 1 = mv) (he : e + 1 ≤ 30) (hQ : Q (some (.int (-(x - mv)))) (H (lgM m b [40, 12]) ln N)) : WP xs (d + 4) 92 0 0 [.ref (77), .int (2), .int (3), .int (x), .int (nI (e))] (H m ln N) Q := by
  refine wp_x mx_92 (L := [some (.ref (77)), some (.int (2)), some (.int (3)), some (.int (x)), some (.int (nI (e))), none, none, none, none, none]) (Nat.le_of_ble_eq_true rfl) rfl ?_
  refine g_iload_n m92_0 rfl ?_
  refine g_iload_n m92_1 rfl ?_
  refine g_cs (args := [.int (2), .int (3)]) (rest := []) 0 (Or.inl rfl) m92_2 (Nat.le_of_ble_eq_true rfl) rfl rfl (Nat.le_of_ble_eq_true rfl) ?_
  refine c_own_2_3 ?_
  refine gwr ?_
  refine g_istore (L2 := [some (.ref (77)), some (.int (2)), some (.int (3)), some (.int (x)), some (.int (nI (e))), some (.int (3)), none, none, none, none]) m92_5 rfl rfl ?_
  refine g_iload m92_7 rfl ?_
  refine h_if_ltF (xi := 3) (zi := 0) m92_9 rfl rfl (by decide) ?_
  refine g_iload m92_12 rfl ?_
  refine g_bipush m92_14 ?_
  refine h_ic_leT (xi := ((e : Nat) : Int)) (zi := 30) m92_16 (nI_toInt (by omega)) rfl (by omega) ?_
  refine g_gst m92_21 rfl ?_
  refine g_iconst m92_24 ?_
  refine g_iload m92_25 rfl ?_
  refine g_imul (u := (12 : Int32)) m92_27 (by decide) ?_
  refine g_iload_n m92_28 rfl ?_
  refine g_iadd (u := (14 : Int32)) m92_29 (by decide) ?_
  refine g_iald (x := (40 : Int32)) m92_30 rfl (show vp_in (nI 14) 28 from vp_in_nI (by decide) (by decide)) (by decide +kernel) ?_
  refine g_istore (L2 := [some (.ref (77)), some (.int (2)), some (.int (3)), some (.int (x)), some (.int (nI (e))), some (.int (3)), some (.int (40)), none, none, none]) m92_31 rfl rfl ?_
  refine g_aload_n m92_33 rfl ?_
  refine g_iload m92_34 rfl ?_
  refine h_cv (k := 45) (p := 77) (args := [.int (40)]) (rest := []) m92_36 cn_50 (Nat.le_of_ble_eq_true rfl) rfl rfl rfl (t_45 _ _) (Nat.le_of_ble_eq_true rfl) ?_
  refine c_begin (b := b) (c := 40) hb (by omega) ?_
  refine gwr0 ?_
  refine g_aload_n m92_39 rfl ?_
  refine h_gfI (k := 45) (p := 77) m92_40 rfl (t_45 _ _) rfl ((lgM_o (by decide) [40]).trans hk) ?_
  refine g_istore (L2 := [some (.ref (77)), some (.int (2)), some (.int (3)), some (.int (x)), some (.int (nI (e))), some (.int (3)), some (.int (40)), some (.int (3)), none, none]) m92_43 rfl rfl ?_
  refine g_gst m92_45 rfl ?_
  refine g_iload m92_48 rfl ?_
  refine g_iald (x := (0 : Int32)) m92_50 rfl (show vp_in (nI 3) 7 from vp_in_nI (by decide) (by decide)) (by decide +kernel) ?_
  refine g_istore (L2 := [some (.ref (77)), some (.int (2)), some (.int (3)), some (.int (x)), some (.int (nI (e))), some (.int (3)), some (.int (40)), some (.int (3)), some (.int (0)), none]) m92_51 rfl rfl ?_
  refine g_iload m92_53 rfl ?_
  refine g_iconst m92_55 ?_
  refine g_iadd (u := nI (e + 1)) m92_56 (nI_add e 1) ?_
  refine g_istore (L2 := [some (.ref (77)), some (.int (2)), some (.int (3)), some (.int (x)), some (.int (nI (e))), some (.int (3)), some (.int (40)), some (.int (3)), some (.int (0)), some (.int (nI (e + 1)))]) m92_57 rfl rfl ?_
  refine g_iload m92_59 rfl ?_
  refine gs m92_61 ?_
  refine gwpc (pc' := 244) rfl ?_
  refine g_aload_n m92_244 rfl ?_
  refine g_iconst m92_245 ?_
  refine g_iload m92_246 rfl ?_
  refine g_iload_n m92_248 rfl ?_
  refine g_iload m92_249 rfl ?_
  refine g_cs (args := [.ref (77), .int (2), .int (0), .int (x), .int (nI (e + 1))]) (rest := []) 0 (Or.inl rfl) m92_251 (Nat.le_of_ble_eq_true rfl) rfl rfl (Nat.le_of_ble_eq_true rfl) ?_
  refine c_sp_3_2_0 (m := lgM m b [40]) (b := b + 1) (nv := nv) (mv := mv) (lgM_4 hb [40]) (by omega) ((lgM_o (by decide) [40]).trans hk) ((lgM_o (by decide) [40]).trans h0) ((lgM_o (by decide) [40]).trans h1) (by omega) ?_
  rw [show lgM (lgM m b [40]) (b + 1) [12] = lgM m b [40, 12] from lgM_a [40] [12]]
  refine gwr ?_
  refine g_ineg m92_254 rfl ?_
  refine g_iret m92_255 rt_92 ?_
  exact hQ
set_option maxRecDepth 20000 in
set_option maxHeartbeats 40000000 in
theorem c_sp_3_3_3 {b e : Nat} {x nv mv : Int32} (hb : m 45 4 = nI b) (hb40 : b + 5 ≤ 40) (hk : m 45 2 = nI 3) (h0 : m 45 0 = nv) (h1 : m 45 1 = mv) (he : e + 2 ≤ 30) (hQ : Q (some (.int (((x + nv) * (2 : Int32)) ^^^ (-(x - mv))))) (H (lgM m b [13, 11, 10, 40, 12]) ln N)) : WP xs (d + 5) 92 0 0 [.ref (77), .int (3), .int (3), .int (x), .int (nI (e))] (H m ln N) Q := by
  refine wp_x mx_92 (L := [some (.ref (77)), some (.int (3)), some (.int (3)), some (.int (x)), some (.int (nI (e))), none, none, none, none, none]) (Nat.le_of_ble_eq_true rfl) rfl ?_
  refine g_iload_n m92_0 rfl ?_
  refine g_iload_n m92_1 rfl ?_
  refine g_cs (args := [.int (3), .int (3)]) (rest := []) 0 (Or.inl rfl) m92_2 (Nat.le_of_ble_eq_true rfl) rfl rfl (Nat.le_of_ble_eq_true rfl) ?_
  refine c_own_3_3 ?_
  refine gwr ?_
  refine g_istore (L2 := [some (.ref (77)), some (.int (3)), some (.int (3)), some (.int (x)), some (.int (nI (e))), some (.int (0)), none, none, none, none]) m92_5 rfl rfl ?_
  refine g_iload m92_7 rfl ?_
  refine h_if_ltF (xi := 0) (zi := 0) m92_9 rfl rfl (by decide) ?_
  refine g_iload m92_12 rfl ?_
  refine g_bipush m92_14 ?_
  refine h_ic_leT (xi := ((e : Nat) : Int)) (zi := 30) m92_16 (nI_toInt (by omega)) rfl (by omega) ?_
  refine g_gst m92_21 rfl ?_
  refine g_iconst m92_24 ?_
  refine g_iload m92_25 rfl ?_
  refine g_imul (u := (0 : Int32)) m92_27 (by decide) ?_
  refine g_iload_n m92_28 rfl ?_
  refine g_iadd (u := (3 : Int32)) m92_29 (by decide) ?_
  refine g_iald (x := (13 : Int32)) m92_30 rfl (show vp_in (nI 3) 28 from vp_in_nI (by decide) (by decide)) (by decide +kernel) ?_
  refine g_istore (L2 := [some (.ref (77)), some (.int (3)), some (.int (3)), some (.int (x)), some (.int (nI (e))), some (.int (0)), some (.int (13)), none, none, none]) m92_31 rfl rfl ?_
  refine g_aload_n m92_33 rfl ?_
  refine g_iload m92_34 rfl ?_
  refine h_cv (k := 45) (p := 77) (args := [.int (13)]) (rest := []) m92_36 cn_50 (Nat.le_of_ble_eq_true rfl) rfl rfl rfl (t_45 _ _) (Nat.le_of_ble_eq_true rfl) ?_
  refine c_begin (b := b) (c := 13) hb (by omega) ?_
  refine gwr0 ?_
  refine g_aload_n m92_39 rfl ?_
  refine h_gfI (k := 45) (p := 77) m92_40 rfl (t_45 _ _) rfl ((lgM_o (by decide) [13]).trans hk) ?_
  refine g_istore (L2 := [some (.ref (77)), some (.int (3)), some (.int (3)), some (.int (x)), some (.int (nI (e))), some (.int (0)), some (.int (13)), some (.int (3)), none, none]) m92_43 rfl rfl ?_
  refine g_gst m92_45 rfl ?_
  refine g_iload m92_48 rfl ?_
  refine g_iald (x := (-1 : Int32)) m92_50 rfl (show vp_in (nI 0) 7 from vp_in_nI (by decide) (by decide)) (by decide +kernel) ?_
  refine g_istore (L2 := [some (.ref (77)), some (.int (3)), some (.int (3)), some (.int (x)), some (.int (nI (e))), some (.int (0)), some (.int (13)), some (.int (3)), some (.int (-1)), none]) m92_51 rfl rfl ?_
  refine g_iload m92_53 rfl ?_
  refine g_iconst m92_55 ?_
  refine g_iadd (u := nI (e + 1)) m92_56 (nI_add e 1) ?_
  refine g_istore (L2 := [some (.ref (77)), some (.int (3)), some (.int (3)), some (.int (x)), some (.int (nI (e))), some (.int (0)), some (.int (13)), some (.int (3)), some (.int (-1)), some (.int (nI (e + 1)))]) m92_57 rfl rfl ?_
  refine g_iload m92_59 rfl ?_
  refine gs m92_61 ?_
  refine gwpc (pc' := 187) rfl ?_
  refine g_aload_n m92_187 rfl ?_
  refine g_iconst m92_188 ?_
  refine g_iload m92_189 rfl ?_
  refine g_iload_n m92_191 rfl ?_
  refine g_iload m92_192 rfl ?_
  refine g_cs (args := [.ref (77), .int (1), .int (3), .int (x), .int (nI (e + 1))]) (rest := []) 0 (Or.inl rfl) m92_194 (Nat.le_of_ble_eq_true rfl) rfl rfl (Nat.le_of_ble_eq_true rfl) ?_
  refine c_sp_3_1_3 (m := lgM m b [13]) (b := b + 1) (nv := nv) (mv := mv) (lgM_4 hb [13]) (by omega) ((lgM_o (by decide) [13]).trans hk) ((lgM_o (by decide) [13]).trans h0) ((lgM_o (by decide) [13]).trans h1) (by omega) ?_
  rw [show lgM (lgM m b [13]) (b + 1) [11, 10] = lgM m b [13, 11, 10] from lgM_a [13] [11, 10]]
  refine gwr ?_
  refine g_aload_n m92_197 rfl ?_
  refine g_iconst m92_198 ?_
  refine g_iload m92_199 rfl ?_
  refine g_iload_n m92_201 rfl ?_
  refine g_iload m92_202 rfl ?_
  refine g_cs (args := [.ref (77), .int (2), .int (3), .int (x), .int (nI (e + 1))]) (rest := [.int (((x + nv) * (2 : Int32)))]) 0 (Or.inl rfl) m92_204 (Nat.le_of_ble_eq_true rfl) rfl rfl (Nat.le_of_ble_eq_true rfl) ?_
  refine c_sp_3_2_3 (m := lgM m b [13, 11, 10]) (b := b + 3) (nv := nv) (mv := mv) (lgM_4 hb [13, 11, 10]) (by omega) ((lgM_o (by decide) [13, 11, 10]).trans hk) ((lgM_o (by decide) [13, 11, 10]).trans h0) ((lgM_o (by decide) [13, 11, 10]).trans h1) (by omega) ?_
  rw [show lgM (lgM m b [13, 11, 10]) (b + 3) [40, 12] = lgM m b [13, 11, 10, 40, 12] from lgM_a [13, 11, 10] [40, 12]]
  refine gwr ?_
  refine g_ixor m92_207 rfl ?_
  refine g_iret m92_208 rt_92 ?_
  exact hQ
set_option maxRecDepth 20000 in
set_option maxHeartbeats 40000000 in
theorem c_sp_4_0_0 {b e : Nat} {x nv mv : Int32} (hb : m 45 4 = nI b) (hb40 : b + 1 ≤ 40) (hk : m 45 2 = nI 4) (h0 : m 45 0 = nv) (h1 : m 45 1 = mv) (he : e + 0 ≤ 30) (hQ : Q (some (.int (x + nv))) (H (lgM m b [10]) ln N)) : WP xs (d + 3) 92 0 0 [.ref (77), .int (0), .int (0), .int (x), .int (nI (e))] (H m ln N) Q := by
  refine wp_x mx_92 (L := [some (.ref (77)), some (.int (0)), some (.int (0)), some (.int (x)), some (.int (nI (e))), none, none, none, none, none]) (Nat.le_of_ble_eq_true rfl) rfl ?_
  refine g_iload_n m92_0 rfl ?_
  refine g_iload_n m92_1 rfl ?_
  refine g_cs (args := [.int (0), .int (0)]) (rest := []) 0 (Or.inl rfl) m92_2 (Nat.le_of_ble_eq_true rfl) rfl rfl (Nat.le_of_ble_eq_true rfl) ?_
  refine c_own_0_0 ?_
  refine gwr ?_
  refine g_istore (L2 := [some (.ref (77)), some (.int (0)), some (.int (0)), some (.int (x)), some (.int (nI (e))), some (.int (0)), none, none, none, none]) m92_5 rfl rfl ?_
  refine g_iload m92_7 rfl ?_
  refine h_if_ltF (xi := 0) (zi := 0) m92_9 rfl rfl (by decide) ?_
  refine g_iload m92_12 rfl ?_
  refine g_bipush m92_14 ?_
  refine h_ic_leT (xi := ((e : Nat) : Int)) (zi := 30) m92_16 (nI_toInt (by omega)) rfl (by omega) ?_
  refine g_gst m92_21 rfl ?_
  refine g_iconst m92_24 ?_
  refine g_iload m92_25 rfl ?_
  refine g_imul (u := (0 : Int32)) m92_27 (by decide) ?_
  refine g_iload_n m92_28 rfl ?_
  refine g_iadd (u := (0 : Int32)) m92_29 (by decide) ?_
  refine g_iald (x := (10 : Int32)) m92_30 rfl (show vp_in (nI 0) 28 from vp_in_nI (by decide) (by decide)) (by decide +kernel) ?_
  refine g_istore (L2 := [some (.ref (77)), some (.int (0)), some (.int (0)), some (.int (x)), some (.int (nI (e))), some (.int (0)), some (.int (10)), none, none, none]) m92_31 rfl rfl ?_
  refine g_aload_n m92_33 rfl ?_
  refine g_iload m92_34 rfl ?_
  refine h_cv (k := 45) (p := 77) (args := [.int (10)]) (rest := []) m92_36 cn_50 (Nat.le_of_ble_eq_true rfl) rfl rfl rfl (t_45 _ _) (Nat.le_of_ble_eq_true rfl) ?_
  refine c_begin (b := b) (c := 10) hb (by omega) ?_
  refine gwr0 ?_
  refine g_aload_n m92_39 rfl ?_
  refine h_gfI (k := 45) (p := 77) m92_40 rfl (t_45 _ _) rfl ((lgM_o (by decide) [10]).trans hk) ?_
  refine g_istore (L2 := [some (.ref (77)), some (.int (0)), some (.int (0)), some (.int (x)), some (.int (nI (e))), some (.int (0)), some (.int (10)), some (.int (4)), none, none]) m92_43 rfl rfl ?_
  refine g_gst m92_45 rfl ?_
  refine g_iload m92_48 rfl ?_
  refine g_iald (x := (-1 : Int32)) m92_50 rfl (show vp_in (nI 0) 7 from vp_in_nI (by decide) (by decide)) (by decide +kernel) ?_
  refine g_istore (L2 := [some (.ref (77)), some (.int (0)), some (.int (0)), some (.int (x)), some (.int (nI (e))), some (.int (0)), some (.int (10)), some (.int (4)), some (.int (-1)), none]) m92_51 rfl rfl ?_
  refine g_iload m92_53 rfl ?_
  refine g_iconst m92_55 ?_
  refine g_iadd (u := nI (e + 1)) m92_56 (nI_add e 1) ?_
  refine g_istore (L2 := [some (.ref (77)), some (.int (0)), some (.int (0)), some (.int (x)), some (.int (nI (e))), some (.int (0)), some (.int (10)), some (.int (4)), some (.int (-1)), some (.int (nI (e + 1)))]) m92_57 rfl rfl ?_
  refine g_iload m92_59 rfl ?_
  refine gs m92_61 ?_
  refine gwpc (pc' := 160) rfl ?_
  refine g_iload_n m92_160 rfl ?_
  refine g_aload_n m92_161 rfl ?_
  refine h_gfI (k := 45) (p := 77) m92_162 rfl (t_45 _ _) rfl ((lgM_o (by decide) [10]).trans h0) ?_
  refine g_iadd m92_165 rfl ?_
  refine g_iret m92_166 rt_92 ?_
  exact hQ
set_option maxRecDepth 20000 in
set_option maxHeartbeats 40000000 in
theorem c_sp_4_0_4 {b e : Nat} {x nv mv : Int32} (hb : m 45 4 = nI b) (hb40 : b + 2 ≤ 40) (hk : m 45 2 = nI 4) (h0 : m 45 0 = nv) (h1 : m 45 1 = mv) (he : e + 1 ≤ 30) (hQ : Q (some (.int ((x + nv) * (3 : Int32)))) (H (lgM m b [20, 10]) ln N)) : WP xs (d + 4) 92 0 0 [.ref (77), .int (0), .int (4), .int (x), .int (nI (e))] (H m ln N) Q := by
  refine wp_x mx_92 (L := [some (.ref (77)), some (.int (0)), some (.int (4)), some (.int (x)), some (.int (nI (e))), none, none, none, none, none]) (Nat.le_of_ble_eq_true rfl) rfl ?_
  refine g_iload_n m92_0 rfl ?_
  refine g_iload_n m92_1 rfl ?_
  refine g_cs (args := [.int (0), .int (4)]) (rest := []) 0 (Or.inl rfl) m92_2 (Nat.le_of_ble_eq_true rfl) rfl rfl (Nat.le_of_ble_eq_true rfl) ?_
  refine c_own_0_4 ?_
  refine gwr ?_
  refine g_istore (L2 := [some (.ref (77)), some (.int (0)), some (.int (4)), some (.int (x)), some (.int (nI (e))), some (.int (1)), none, none, none, none]) m92_5 rfl rfl ?_
  refine g_iload m92_7 rfl ?_
  refine h_if_ltF (xi := 1) (zi := 0) m92_9 rfl rfl (by decide) ?_
  refine g_iload m92_12 rfl ?_
  refine g_bipush m92_14 ?_
  refine h_ic_leT (xi := ((e : Nat) : Int)) (zi := 30) m92_16 (nI_toInt (by omega)) rfl (by omega) ?_
  refine g_gst m92_21 rfl ?_
  refine g_iconst m92_24 ?_
  refine g_iload m92_25 rfl ?_
  refine g_imul (u := (4 : Int32)) m92_27 (by decide) ?_
  refine g_iload_n m92_28 rfl ?_
  refine g_iadd (u := (4 : Int32)) m92_29 (by decide) ?_
  refine g_iald (x := (20 : Int32)) m92_30 rfl (show vp_in (nI 4) 28 from vp_in_nI (by decide) (by decide)) (by decide +kernel) ?_
  refine g_istore (L2 := [some (.ref (77)), some (.int (0)), some (.int (4)), some (.int (x)), some (.int (nI (e))), some (.int (1)), some (.int (20)), none, none, none]) m92_31 rfl rfl ?_
  refine g_aload_n m92_33 rfl ?_
  refine g_iload m92_34 rfl ?_
  refine h_cv (k := 45) (p := 77) (args := [.int (20)]) (rest := []) m92_36 cn_50 (Nat.le_of_ble_eq_true rfl) rfl rfl rfl (t_45 _ _) (Nat.le_of_ble_eq_true rfl) ?_
  refine c_begin (b := b) (c := 20) hb (by omega) ?_
  refine gwr0 ?_
  refine g_aload_n m92_39 rfl ?_
  refine h_gfI (k := 45) (p := 77) m92_40 rfl (t_45 _ _) rfl ((lgM_o (by decide) [20]).trans hk) ?_
  refine g_istore (L2 := [some (.ref (77)), some (.int (0)), some (.int (4)), some (.int (x)), some (.int (nI (e))), some (.int (1)), some (.int (20)), some (.int (4)), none, none]) m92_43 rfl rfl ?_
  refine g_gst m92_45 rfl ?_
  refine g_iload m92_48 rfl ?_
  refine g_iald (x := (0 : Int32)) m92_50 rfl (show vp_in (nI 1) 7 from vp_in_nI (by decide) (by decide)) (by decide +kernel) ?_
  refine g_istore (L2 := [some (.ref (77)), some (.int (0)), some (.int (4)), some (.int (x)), some (.int (nI (e))), some (.int (1)), some (.int (20)), some (.int (4)), some (.int (0)), none]) m92_51 rfl rfl ?_
  refine g_iload m92_53 rfl ?_
  refine g_iconst m92_55 ?_
  refine g_iadd (u := nI (e + 1)) m92_56 (nI_add e 1) ?_
  refine g_istore (L2 := [some (.ref (77)), some (.int (0)), some (.int (4)), some (.int (x)), some (.int (nI (e))), some (.int (1)), some (.int (20)), some (.int (4)), some (.int (0)), some (.int (nI (e + 1)))]) m92_57 rfl rfl ?_
  refine g_iload m92_59 rfl ?_
  refine gs m92_61 ?_
  refine gwpc (pc' := 209) rfl ?_
  refine g_aload_n m92_209 rfl ?_
  refine g_iconst m92_210 ?_
  refine g_iload m92_211 rfl ?_
  refine g_iload_n m92_213 rfl ?_
  refine g_iload m92_214 rfl ?_
  refine g_cs (args := [.ref (77), .int (0), .int (0), .int (x), .int (nI (e + 1))]) (rest := []) 0 (Or.inl rfl) m92_216 (Nat.le_of_ble_eq_true rfl) rfl rfl (Nat.le_of_ble_eq_true rfl) ?_
  refine c_sp_4_0_0 (m := lgM m b [20]) (b := b + 1) (nv := nv) (mv := mv) (lgM_4 hb [20]) (by omega) ((lgM_o (by decide) [20]).trans hk) ((lgM_o (by decide) [20]).trans h0) ((lgM_o (by decide) [20]).trans h1) (by omega) ?_
  rw [show lgM (lgM m b [20]) (b + 1) [10] = lgM m b [20, 10] from lgM_a [20] [10]]
  refine gwr ?_
  refine g_iconst m92_219 ?_
  refine g_imul m92_220 rfl ?_
  refine g_iret m92_221 rt_92 ?_
  exact hQ
set_option maxRecDepth 20000 in
set_option maxHeartbeats 40000000 in
theorem c_sp_4_1_4 {b e : Nat} {x nv mv : Int32} (hb : m 45 4 = nI b) (hb40 : b + 3 ≤ 40) (hk : m 45 2 = nI 4) (h0 : m 45 0 = nv) (h1 : m 45 1 = mv) (he : e + 2 ≤ 30) (hQ : Q (some (.int (((x + nv) * (3 : Int32)) * (2 : Int32)))) (H (lgM m b [11, 20, 10]) ln N)) : WP xs (d + 5) 92 0 0 [.ref (77), .int (1), .int (4), .int (x), .int (nI (e))] (H m ln N) Q := by
  refine wp_x mx_92 (L := [some (.ref (77)), some (.int (1)), some (.int (4)), some (.int (x)), some (.int (nI (e))), none, none, none, none, none]) (Nat.le_of_ble_eq_true rfl) rfl ?_
  refine g_iload_n m92_0 rfl ?_
  refine g_iload_n m92_1 rfl ?_
  refine g_cs (args := [.int (1), .int (4)]) (rest := []) 0 (Or.inl rfl) m92_2 (Nat.le_of_ble_eq_true rfl) rfl rfl (Nat.le_of_ble_eq_true rfl) ?_
  refine c_own_1_4 ?_
  refine gwr ?_
  refine g_istore (L2 := [some (.ref (77)), some (.int (1)), some (.int (4)), some (.int (x)), some (.int (nI (e))), some (.int (0)), none, none, none, none]) m92_5 rfl rfl ?_
  refine g_iload m92_7 rfl ?_
  refine h_if_ltF (xi := 0) (zi := 0) m92_9 rfl rfl (by decide) ?_
  refine g_iload m92_12 rfl ?_
  refine g_bipush m92_14 ?_
  refine h_ic_leT (xi := ((e : Nat) : Int)) (zi := 30) m92_16 (nI_toInt (by omega)) rfl (by omega) ?_
  refine g_gst m92_21 rfl ?_
  refine g_iconst m92_24 ?_
  refine g_iload m92_25 rfl ?_
  refine g_imul (u := (0 : Int32)) m92_27 (by decide) ?_
  refine g_iload_n m92_28 rfl ?_
  refine g_iadd (u := (1 : Int32)) m92_29 (by decide) ?_
  refine g_iald (x := (11 : Int32)) m92_30 rfl (show vp_in (nI 1) 28 from vp_in_nI (by decide) (by decide)) (by decide +kernel) ?_
  refine g_istore (L2 := [some (.ref (77)), some (.int (1)), some (.int (4)), some (.int (x)), some (.int (nI (e))), some (.int (0)), some (.int (11)), none, none, none]) m92_31 rfl rfl ?_
  refine g_aload_n m92_33 rfl ?_
  refine g_iload m92_34 rfl ?_
  refine h_cv (k := 45) (p := 77) (args := [.int (11)]) (rest := []) m92_36 cn_50 (Nat.le_of_ble_eq_true rfl) rfl rfl rfl (t_45 _ _) (Nat.le_of_ble_eq_true rfl) ?_
  refine c_begin (b := b) (c := 11) hb (by omega) ?_
  refine gwr0 ?_
  refine g_aload_n m92_39 rfl ?_
  refine h_gfI (k := 45) (p := 77) m92_40 rfl (t_45 _ _) rfl ((lgM_o (by decide) [11]).trans hk) ?_
  refine g_istore (L2 := [some (.ref (77)), some (.int (1)), some (.int (4)), some (.int (x)), some (.int (nI (e))), some (.int (0)), some (.int (11)), some (.int (4)), none, none]) m92_43 rfl rfl ?_
  refine g_gst m92_45 rfl ?_
  refine g_iload m92_48 rfl ?_
  refine g_iald (x := (-1 : Int32)) m92_50 rfl (show vp_in (nI 0) 7 from vp_in_nI (by decide) (by decide)) (by decide +kernel) ?_
  refine g_istore (L2 := [some (.ref (77)), some (.int (1)), some (.int (4)), some (.int (x)), some (.int (nI (e))), some (.int (0)), some (.int (11)), some (.int (4)), some (.int (-1)), none]) m92_51 rfl rfl ?_
  refine g_iload m92_53 rfl ?_
  refine g_iconst m92_55 ?_
  refine g_iadd (u := nI (e + 1)) m92_56 (nI_add e 1) ?_
  refine g_istore (L2 := [some (.ref (77)), some (.int (1)), some (.int (4)), some (.int (x)), some (.int (nI (e))), some (.int (0)), some (.int (11)), some (.int (4)), some (.int (-1)), some (.int (nI (e + 1)))]) m92_57 rfl rfl ?_
  refine g_iload m92_59 rfl ?_
  refine gs m92_61 ?_
  refine gwpc (pc' := 167) rfl ?_
  refine g_aload_n m92_167 rfl ?_
  refine g_iconst m92_168 ?_
  refine g_iload m92_169 rfl ?_
  refine g_iload_n m92_171 rfl ?_
  refine g_iload m92_172 rfl ?_
  refine g_cs (args := [.ref (77), .int (0), .int (4), .int (x), .int (nI (e + 1))]) (rest := []) 0 (Or.inl rfl) m92_174 (Nat.le_of_ble_eq_true rfl) rfl rfl (Nat.le_of_ble_eq_true rfl) ?_
  refine c_sp_4_0_4 (m := lgM m b [11]) (b := b + 1) (nv := nv) (mv := mv) (lgM_4 hb [11]) (by omega) ((lgM_o (by decide) [11]).trans hk) ((lgM_o (by decide) [11]).trans h0) ((lgM_o (by decide) [11]).trans h1) (by omega) ?_
  rw [show lgM (lgM m b [11]) (b + 1) [20, 10] = lgM m b [11, 20, 10] from lgM_a [11] [20, 10]]
  refine gwr ?_
  refine g_iconst m92_177 ?_
  refine g_imul m92_178 rfl ?_
  refine g_iret m92_179 rt_92 ?_
  exact hQ
set_option maxRecDepth 20000 in
set_option maxHeartbeats 40000000 in
theorem c_sp_4_2_4 {b e : Nat} {x nv mv : Int32} (hb : m 45 4 = nI b) (hb40 : b + 1 ≤ 40) (hk : m 45 2 = nI 4) (h0 : m 45 0 = nv) (h1 : m 45 1 = mv) (he : e + 0 ≤ 30) (hQ : Q (some (.int (x - mv))) (H (lgM m b [12]) ln N)) : WP xs (d + 3) 92 0 0 [.ref (77), .int (2), .int (4), .int (x), .int (nI (e))] (H m ln N) Q := by
  refine wp_x mx_92 (L := [some (.ref (77)), some (.int (2)), some (.int (4)), some (.int (x)), some (.int (nI (e))), none, none, none, none, none]) (Nat.le_of_ble_eq_true rfl) rfl ?_
  refine g_iload_n m92_0 rfl ?_
  refine g_iload_n m92_1 rfl ?_
  refine g_cs (args := [.int (2), .int (4)]) (rest := []) 0 (Or.inl rfl) m92_2 (Nat.le_of_ble_eq_true rfl) rfl rfl (Nat.le_of_ble_eq_true rfl) ?_
  refine c_own_2_4 ?_
  refine gwr ?_
  refine g_istore (L2 := [some (.ref (77)), some (.int (2)), some (.int (4)), some (.int (x)), some (.int (nI (e))), some (.int (0)), none, none, none, none]) m92_5 rfl rfl ?_
  refine g_iload m92_7 rfl ?_
  refine h_if_ltF (xi := 0) (zi := 0) m92_9 rfl rfl (by decide) ?_
  refine g_iload m92_12 rfl ?_
  refine g_bipush m92_14 ?_
  refine h_ic_leT (xi := ((e : Nat) : Int)) (zi := 30) m92_16 (nI_toInt (by omega)) rfl (by omega) ?_
  refine g_gst m92_21 rfl ?_
  refine g_iconst m92_24 ?_
  refine g_iload m92_25 rfl ?_
  refine g_imul (u := (0 : Int32)) m92_27 (by decide) ?_
  refine g_iload_n m92_28 rfl ?_
  refine g_iadd (u := (2 : Int32)) m92_29 (by decide) ?_
  refine g_iald (x := (12 : Int32)) m92_30 rfl (show vp_in (nI 2) 28 from vp_in_nI (by decide) (by decide)) (by decide +kernel) ?_
  refine g_istore (L2 := [some (.ref (77)), some (.int (2)), some (.int (4)), some (.int (x)), some (.int (nI (e))), some (.int (0)), some (.int (12)), none, none, none]) m92_31 rfl rfl ?_
  refine g_aload_n m92_33 rfl ?_
  refine g_iload m92_34 rfl ?_
  refine h_cv (k := 45) (p := 77) (args := [.int (12)]) (rest := []) m92_36 cn_50 (Nat.le_of_ble_eq_true rfl) rfl rfl rfl (t_45 _ _) (Nat.le_of_ble_eq_true rfl) ?_
  refine c_begin (b := b) (c := 12) hb (by omega) ?_
  refine gwr0 ?_
  refine g_aload_n m92_39 rfl ?_
  refine h_gfI (k := 45) (p := 77) m92_40 rfl (t_45 _ _) rfl ((lgM_o (by decide) [12]).trans hk) ?_
  refine g_istore (L2 := [some (.ref (77)), some (.int (2)), some (.int (4)), some (.int (x)), some (.int (nI (e))), some (.int (0)), some (.int (12)), some (.int (4)), none, none]) m92_43 rfl rfl ?_
  refine g_gst m92_45 rfl ?_
  refine g_iload m92_48 rfl ?_
  refine g_iald (x := (-1 : Int32)) m92_50 rfl (show vp_in (nI 0) 7 from vp_in_nI (by decide) (by decide)) (by decide +kernel) ?_
  refine g_istore (L2 := [some (.ref (77)), some (.int (2)), some (.int (4)), some (.int (x)), some (.int (nI (e))), some (.int (0)), some (.int (12)), some (.int (4)), some (.int (-1)), none]) m92_51 rfl rfl ?_
  refine g_iload m92_53 rfl ?_
  refine g_iconst m92_55 ?_
  refine g_iadd (u := nI (e + 1)) m92_56 (nI_add e 1) ?_
  refine g_istore (L2 := [some (.ref (77)), some (.int (2)), some (.int (4)), some (.int (x)), some (.int (nI (e))), some (.int (0)), some (.int (12)), some (.int (4)), some (.int (-1)), some (.int (nI (e + 1)))]) m92_57 rfl rfl ?_
  refine g_iload m92_59 rfl ?_
  refine gs m92_61 ?_
  refine gwpc (pc' := 180) rfl ?_
  refine g_iload_n m92_180 rfl ?_
  refine g_aload_n m92_181 rfl ?_
  refine h_gfI (k := 45) (p := 77) m92_182 rfl (t_45 _ _) rfl ((lgM_o (by decide) [12]).trans h1) ?_
  refine g_isub m92_185 rfl ?_
  refine g_iret m92_186 rt_92 ?_
  exact hQ
set_option maxRecDepth 20000 in
set_option maxHeartbeats 40000000 in
theorem c_sp_4_3_1 {b e : Nat} {x nv mv : Int32} (hb : m 45 4 = nI b) (hb40 : b + 5 ≤ 40) (hk : m 45 2 = nI 4) (h0 : m 45 0 = nv) (h1 : m 45 1 = mv) (he : e + 3 ≤ 30) (hQ : Q (some (.int ((((x + nv) * (3 : Int32)) * (2 : Int32)) ^^^ (x - mv)))) (H (lgM m b [13, 11, 20, 10, 12]) ln N)) : WP xs (d + 6) 92 0 0 [.ref (77), .int (3), .int (1), .int (x), .int (nI (e))] (H m ln N) Q := by
  refine wp_x mx_92 (L := [some (.ref (77)), some (.int (3)), some (.int (1)), some (.int (x)), some (.int (nI (e))), none, none, none, none, none]) (Nat.le_of_ble_eq_true rfl) rfl ?_
  refine g_iload_n m92_0 rfl ?_
  refine g_iload_n m92_1 rfl ?_
  refine g_cs (args := [.int (3), .int (1)]) (rest := []) 0 (Or.inl rfl) m92_2 (Nat.le_of_ble_eq_true rfl) rfl rfl (Nat.le_of_ble_eq_true rfl) ?_
  refine c_own_3_1 ?_
  refine gwr ?_
  refine g_istore (L2 := [some (.ref (77)), some (.int (3)), some (.int (1)), some (.int (x)), some (.int (nI (e))), some (.int (0)), none, none, none, none]) m92_5 rfl rfl ?_
  refine g_iload m92_7 rfl ?_
  refine h_if_ltF (xi := 0) (zi := 0) m92_9 rfl rfl (by decide) ?_
  refine g_iload m92_12 rfl ?_
  refine g_bipush m92_14 ?_
  refine h_ic_leT (xi := ((e : Nat) : Int)) (zi := 30) m92_16 (nI_toInt (by omega)) rfl (by omega) ?_
  refine g_gst m92_21 rfl ?_
  refine g_iconst m92_24 ?_
  refine g_iload m92_25 rfl ?_
  refine g_imul (u := (0 : Int32)) m92_27 (by decide) ?_
  refine g_iload_n m92_28 rfl ?_
  refine g_iadd (u := (3 : Int32)) m92_29 (by decide) ?_
  refine g_iald (x := (13 : Int32)) m92_30 rfl (show vp_in (nI 3) 28 from vp_in_nI (by decide) (by decide)) (by decide +kernel) ?_
  refine g_istore (L2 := [some (.ref (77)), some (.int (3)), some (.int (1)), some (.int (x)), some (.int (nI (e))), some (.int (0)), some (.int (13)), none, none, none]) m92_31 rfl rfl ?_
  refine g_aload_n m92_33 rfl ?_
  refine g_iload m92_34 rfl ?_
  refine h_cv (k := 45) (p := 77) (args := [.int (13)]) (rest := []) m92_36 cn_50 (Nat.le_of_ble_eq_true rfl) rfl rfl rfl (t_45 _ _) (Nat.le_of_ble_eq_true rfl) ?_
  refine c_begin (b := b) (c := 13) hb (by omega) ?_
  refine gwr0 ?_
  refine g_aload_n m92_39 rfl ?_
  refine h_gfI (k := 45) (p := 77) m92_40 rfl (t_45 _ _) rfl ((lgM_o (by decide) [13]).trans hk) ?_
  refine g_istore (L2 := [some (.ref (77)), some (.int (3)), some (.int (1)), some (.int (x)), some (.int (nI (e))), some (.int (0)), some (.int (13)), some (.int (4)), none, none]) m92_43 rfl rfl ?_
  refine g_gst m92_45 rfl ?_
  refine g_iload m92_48 rfl ?_
  refine g_iald (x := (-1 : Int32)) m92_50 rfl (show vp_in (nI 0) 7 from vp_in_nI (by decide) (by decide)) (by decide +kernel) ?_
  refine g_istore (L2 := [some (.ref (77)), some (.int (3)), some (.int (1)), some (.int (x)), some (.int (nI (e))), some (.int (0)), some (.int (13)), some (.int (4)), some (.int (-1)), none]) m92_51 rfl rfl ?_
  refine g_iload m92_53 rfl ?_
  refine g_iconst m92_55 ?_
  refine g_iadd (u := nI (e + 1)) m92_56 (nI_add e 1) ?_
  refine g_istore (L2 := [some (.ref (77)), some (.int (3)), some (.int (1)), some (.int (x)), some (.int (nI (e))), some (.int (0)), some (.int (13)), some (.int (4)), some (.int (-1)), some (.int (nI (e + 1)))]) m92_57 rfl rfl ?_
  refine g_iload m92_59 rfl ?_
  refine gs m92_61 ?_
  refine gwpc (pc' := 187) rfl ?_
  refine g_aload_n m92_187 rfl ?_
  refine g_iconst m92_188 ?_
  refine g_iload m92_189 rfl ?_
  refine g_iload_n m92_191 rfl ?_
  refine g_iload m92_192 rfl ?_
  refine g_cs (args := [.ref (77), .int (1), .int (4), .int (x), .int (nI (e + 1))]) (rest := []) 0 (Or.inl rfl) m92_194 (Nat.le_of_ble_eq_true rfl) rfl rfl (Nat.le_of_ble_eq_true rfl) ?_
  refine c_sp_4_1_4 (m := lgM m b [13]) (b := b + 1) (nv := nv) (mv := mv) (lgM_4 hb [13]) (by omega) ((lgM_o (by decide) [13]).trans hk) ((lgM_o (by decide) [13]).trans h0) ((lgM_o (by decide) [13]).trans h1) (by omega) ?_
  rw [show lgM (lgM m b [13]) (b + 1) [11, 20, 10] = lgM m b [13, 11, 20, 10] from lgM_a [13] [11, 20, 10]]
  refine gwr ?_
  refine g_aload_n m92_197 rfl ?_
  refine g_iconst m92_198 ?_
  refine g_iload m92_199 rfl ?_
  refine g_iload_n m92_201 rfl ?_
  refine g_iload m92_202 rfl ?_
  refine g_cs (args := [.ref (77), .int (2), .int (4), .int (x), .int (nI (e + 1))]) (rest := [.int ((((x + nv) * (3 : Int32)) * (2 : Int32)))]) 0 (Or.inl rfl) m92_204 (Nat.le_of_ble_eq_true rfl) rfl rfl (Nat.le_of_ble_eq_true rfl) ?_
  refine c_sp_4_2_4 (m := lgM m b [13, 11, 20, 10]) (b := b + 4) (nv := nv) (mv := mv) (lgM_4 hb [13, 11, 20, 10]) (by omega) ((lgM_o (by decide) [13, 11, 20, 10]).trans hk) ((lgM_o (by decide) [13, 11, 20, 10]).trans h0) ((lgM_o (by decide) [13, 11, 20, 10]).trans h1) (by omega) ?_
  rw [show lgM (lgM m b [13, 11, 20, 10]) (b + 4) [12] = lgM m b [13, 11, 20, 10, 12] from lgM_a [13, 11, 20, 10] [12]]
  refine gwr ?_
  refine g_ixor m92_207 rfl ?_
  refine g_iret m92_208 rt_92 ?_
  exact hQ
set_option maxRecDepth 20000 in
set_option maxHeartbeats 40000000 in
theorem c_sp_4_3_4 {b e : Nat} {x nv mv : Int32} (hb : m 45 4 = nI b) (hb40 : b + 8 ≤ 40) (hk : m 45 2 = nI 4) (h0 : m 45 0 = nv) (h1 : m 45 1 = mv) (he : e + 4 ≤ 30) (hQ : Q (some (.int (((((x + nv) * (3 : Int32)) * (2 : Int32)) ^^^ (x - mv)) - (((2 : Int32) + nv) * (3 : Int32))))) (H (lgM m b [50, 13, 11, 20, 10, 12, 20, 10]) ln N)) : WP xs (d + 7) 92 0 0 [.ref (77), .int (3), .int (4), .int (x), .int (nI (e))] (H m ln N) Q := by
  refine wp_x mx_92 (L := [some (.ref (77)), some (.int (3)), some (.int (4)), some (.int (x)), some (.int (nI (e))), none, none, none, none, none]) (Nat.le_of_ble_eq_true rfl) rfl ?_
  refine g_iload_n m92_0 rfl ?_
  refine g_iload_n m92_1 rfl ?_
  refine g_cs (args := [.int (3), .int (4)]) (rest := []) 0 (Or.inl rfl) m92_2 (Nat.le_of_ble_eq_true rfl) rfl rfl (Nat.le_of_ble_eq_true rfl) ?_
  refine c_own_3_4 ?_
  refine gwr ?_
  refine g_istore (L2 := [some (.ref (77)), some (.int (3)), some (.int (4)), some (.int (x)), some (.int (nI (e))), some (.int (4)), none, none, none, none]) m92_5 rfl rfl ?_
  refine g_iload m92_7 rfl ?_
  refine h_if_ltF (xi := 4) (zi := 0) m92_9 rfl rfl (by decide) ?_
  refine g_iload m92_12 rfl ?_
  refine g_bipush m92_14 ?_
  refine h_ic_leT (xi := ((e : Nat) : Int)) (zi := 30) m92_16 (nI_toInt (by omega)) rfl (by omega) ?_
  refine g_gst m92_21 rfl ?_
  refine g_iconst m92_24 ?_
  refine g_iload m92_25 rfl ?_
  refine g_imul (u := (16 : Int32)) m92_27 (by decide) ?_
  refine g_iload_n m92_28 rfl ?_
  refine g_iadd (u := (19 : Int32)) m92_29 (by decide) ?_
  refine g_iald (x := (50 : Int32)) m92_30 rfl (show vp_in (nI 19) 28 from vp_in_nI (by decide) (by decide)) (by decide +kernel) ?_
  refine g_istore (L2 := [some (.ref (77)), some (.int (3)), some (.int (4)), some (.int (x)), some (.int (nI (e))), some (.int (4)), some (.int (50)), none, none, none]) m92_31 rfl rfl ?_
  refine g_aload_n m92_33 rfl ?_
  refine g_iload m92_34 rfl ?_
  refine h_cv (k := 45) (p := 77) (args := [.int (50)]) (rest := []) m92_36 cn_50 (Nat.le_of_ble_eq_true rfl) rfl rfl rfl (t_45 _ _) (Nat.le_of_ble_eq_true rfl) ?_
  refine c_begin (b := b) (c := 50) hb (by omega) ?_
  refine gwr0 ?_
  refine g_aload_n m92_39 rfl ?_
  refine h_gfI (k := 45) (p := 77) m92_40 rfl (t_45 _ _) rfl ((lgM_o (by decide) [50]).trans hk) ?_
  refine g_istore (L2 := [some (.ref (77)), some (.int (3)), some (.int (4)), some (.int (x)), some (.int (nI (e))), some (.int (4)), some (.int (50)), some (.int (4)), none, none]) m92_43 rfl rfl ?_
  refine g_gst m92_45 rfl ?_
  refine g_iload m92_48 rfl ?_
  refine g_iald (x := (1 : Int32)) m92_50 rfl (show vp_in (nI 4) 7 from vp_in_nI (by decide) (by decide)) (by decide +kernel) ?_
  refine g_istore (L2 := [some (.ref (77)), some (.int (3)), some (.int (4)), some (.int (x)), some (.int (nI (e))), some (.int (4)), some (.int (50)), some (.int (4)), some (.int (1)), none]) m92_51 rfl rfl ?_
  refine g_iload m92_53 rfl ?_
  refine g_iconst m92_55 ?_
  refine g_iadd (u := nI (e + 1)) m92_56 (nI_add e 1) ?_
  refine g_istore (L2 := [some (.ref (77)), some (.int (3)), some (.int (4)), some (.int (x)), some (.int (nI (e))), some (.int (4)), some (.int (50)), some (.int (4)), some (.int (1)), some (.int (nI (e + 1)))]) m92_57 rfl rfl ?_
  refine g_iload m92_59 rfl ?_
  refine gs m92_61 ?_
  refine gwpc (pc' := 256) rfl ?_
  refine g_aload_n m92_256 rfl ?_
  refine g_iconst m92_257 ?_
  refine g_iload m92_258 rfl ?_
  refine g_iload_n m92_260 rfl ?_
  refine g_iload m92_261 rfl ?_
  refine g_cs (args := [.ref (77), .int (3), .int (1), .int (x), .int (nI (e + 1))]) (rest := []) 0 (Or.inl rfl) m92_263 (Nat.le_of_ble_eq_true rfl) rfl rfl (Nat.le_of_ble_eq_true rfl) ?_
  refine c_sp_4_3_1 (m := lgM m b [50]) (b := b + 1) (nv := nv) (mv := mv) (lgM_4 hb [50]) (by omega) ((lgM_o (by decide) [50]).trans hk) ((lgM_o (by decide) [50]).trans h0) ((lgM_o (by decide) [50]).trans h1) (by omega) ?_
  rw [show lgM (lgM m b [50]) (b + 1) [13, 11, 20, 10, 12] = lgM m b [50, 13, 11, 20, 10, 12] from lgM_a [50] [13, 11, 20, 10, 12]]
  refine gwr ?_
  refine g_aload_n m92_266 rfl ?_
  refine g_iconst m92_267 ?_
  refine g_iload m92_268 rfl ?_
  refine g_iconst m92_270 ?_
  refine g_iload m92_271 rfl ?_
  refine g_cs (args := [.ref (77), .int (0), .int (4), .int (2), .int (nI (e + 1))]) (rest := [.int (((((x + nv) * (3 : Int32)) * (2 : Int32)) ^^^ (x - mv)))]) 0 (Or.inl rfl) m92_273 (Nat.le_of_ble_eq_true rfl) rfl rfl (Nat.le_of_ble_eq_true rfl) ?_
  refine c_sp_4_0_4 (m := lgM m b [50, 13, 11, 20, 10, 12]) (b := b + 6) (nv := nv) (mv := mv) (lgM_4 hb [50, 13, 11, 20, 10, 12]) (by omega) ((lgM_o (by decide) [50, 13, 11, 20, 10, 12]).trans hk) ((lgM_o (by decide) [50, 13, 11, 20, 10, 12]).trans h0) ((lgM_o (by decide) [50, 13, 11, 20, 10, 12]).trans h1) (by omega) ?_
  rw [show lgM (lgM m b [50, 13, 11, 20, 10, 12]) (b + 6) [20, 10] = lgM m b [50, 13, 11, 20, 10, 12, 20, 10] from lgM_a [50, 13, 11, 20, 10, 12] [20, 10]]
  refine gwr ?_
  refine g_isub m92_276 rfl ?_
  refine g_iret m92_277 rt_92 ?_
  exact hQ
set_option maxRecDepth 20000 in
set_option maxHeartbeats 40000000 in
theorem c_sp_5_0_5 {b e : Nat} {x nv mv : Int32} (hb : m 45 4 = nI b) (hb40 : b + 1 ≤ 40) (hk : m 45 2 = nI 5) (h0 : m 45 0 = nv) (h1 : m 45 1 = mv) (he : e + 0 ≤ 30) (hQ : Q (some (.int (x + nv))) (H (lgM m b [10]) ln N)) : WP xs (d + 3) 92 0 0 [.ref (77), .int (0), .int (5), .int (x), .int (nI (e))] (H m ln N) Q := by
  refine wp_x mx_92 (L := [some (.ref (77)), some (.int (0)), some (.int (5)), some (.int (x)), some (.int (nI (e))), none, none, none, none, none]) (Nat.le_of_ble_eq_true rfl) rfl ?_
  refine g_iload_n m92_0 rfl ?_
  refine g_iload_n m92_1 rfl ?_
  refine g_cs (args := [.int (0), .int (5)]) (rest := []) 0 (Or.inl rfl) m92_2 (Nat.le_of_ble_eq_true rfl) rfl rfl (Nat.le_of_ble_eq_true rfl) ?_
  refine c_own_0_5 ?_
  refine gwr ?_
  refine g_istore (L2 := [some (.ref (77)), some (.int (0)), some (.int (5)), some (.int (x)), some (.int (nI (e))), some (.int (0)), none, none, none, none]) m92_5 rfl rfl ?_
  refine g_iload m92_7 rfl ?_
  refine h_if_ltF (xi := 0) (zi := 0) m92_9 rfl rfl (by decide) ?_
  refine g_iload m92_12 rfl ?_
  refine g_bipush m92_14 ?_
  refine h_ic_leT (xi := ((e : Nat) : Int)) (zi := 30) m92_16 (nI_toInt (by omega)) rfl (by omega) ?_
  refine g_gst m92_21 rfl ?_
  refine g_iconst m92_24 ?_
  refine g_iload m92_25 rfl ?_
  refine g_imul (u := (0 : Int32)) m92_27 (by decide) ?_
  refine g_iload_n m92_28 rfl ?_
  refine g_iadd (u := (0 : Int32)) m92_29 (by decide) ?_
  refine g_iald (x := (10 : Int32)) m92_30 rfl (show vp_in (nI 0) 28 from vp_in_nI (by decide) (by decide)) (by decide +kernel) ?_
  refine g_istore (L2 := [some (.ref (77)), some (.int (0)), some (.int (5)), some (.int (x)), some (.int (nI (e))), some (.int (0)), some (.int (10)), none, none, none]) m92_31 rfl rfl ?_
  refine g_aload_n m92_33 rfl ?_
  refine g_iload m92_34 rfl ?_
  refine h_cv (k := 45) (p := 77) (args := [.int (10)]) (rest := []) m92_36 cn_50 (Nat.le_of_ble_eq_true rfl) rfl rfl rfl (t_45 _ _) (Nat.le_of_ble_eq_true rfl) ?_
  refine c_begin (b := b) (c := 10) hb (by omega) ?_
  refine gwr0 ?_
  refine g_aload_n m92_39 rfl ?_
  refine h_gfI (k := 45) (p := 77) m92_40 rfl (t_45 _ _) rfl ((lgM_o (by decide) [10]).trans hk) ?_
  refine g_istore (L2 := [some (.ref (77)), some (.int (0)), some (.int (5)), some (.int (x)), some (.int (nI (e))), some (.int (0)), some (.int (10)), some (.int (5)), none, none]) m92_43 rfl rfl ?_
  refine g_gst m92_45 rfl ?_
  refine g_iload m92_48 rfl ?_
  refine g_iald (x := (-1 : Int32)) m92_50 rfl (show vp_in (nI 0) 7 from vp_in_nI (by decide) (by decide)) (by decide +kernel) ?_
  refine g_istore (L2 := [some (.ref (77)), some (.int (0)), some (.int (5)), some (.int (x)), some (.int (nI (e))), some (.int (0)), some (.int (10)), some (.int (5)), some (.int (-1)), none]) m92_51 rfl rfl ?_
  refine g_iload m92_53 rfl ?_
  refine g_iconst m92_55 ?_
  refine g_iadd (u := nI (e + 1)) m92_56 (nI_add e 1) ?_
  refine g_istore (L2 := [some (.ref (77)), some (.int (0)), some (.int (5)), some (.int (x)), some (.int (nI (e))), some (.int (0)), some (.int (10)), some (.int (5)), some (.int (-1)), some (.int (nI (e + 1)))]) m92_57 rfl rfl ?_
  refine g_iload m92_59 rfl ?_
  refine gs m92_61 ?_
  refine gwpc (pc' := 160) rfl ?_
  refine g_iload_n m92_160 rfl ?_
  refine g_aload_n m92_161 rfl ?_
  refine h_gfI (k := 45) (p := 77) m92_162 rfl (t_45 _ _) rfl ((lgM_o (by decide) [10]).trans h0) ?_
  refine g_iadd m92_165 rfl ?_
  refine g_iret m92_166 rt_92 ?_
  exact hQ
set_option maxRecDepth 20000 in
set_option maxHeartbeats 40000000 in
theorem c_sp_5_1_0 {b e : Nat} {x nv mv : Int32} (hb : m 45 4 = nI b) (hb40 : b + 2 ≤ 40) (hk : m 45 2 = nI 5) (h0 : m 45 0 = nv) (h1 : m 45 1 = mv) (he : e + 1 ≤ 30) (hQ : Q (some (.int ((x + nv) * (2 : Int32)))) (H (lgM m b [11, 10]) ln N)) : WP xs (d + 4) 92 0 0 [.ref (77), .int (1), .int (0), .int (x), .int (nI (e))] (H m ln N) Q := by
  refine wp_x mx_92 (L := [some (.ref (77)), some (.int (1)), some (.int (0)), some (.int (x)), some (.int (nI (e))), none, none, none, none, none]) (Nat.le_of_ble_eq_true rfl) rfl ?_
  refine g_iload_n m92_0 rfl ?_
  refine g_iload_n m92_1 rfl ?_
  refine g_cs (args := [.int (1), .int (0)]) (rest := []) 0 (Or.inl rfl) m92_2 (Nat.le_of_ble_eq_true rfl) rfl rfl (Nat.le_of_ble_eq_true rfl) ?_
  refine c_own_1_0 ?_
  refine gwr ?_
  refine g_istore (L2 := [some (.ref (77)), some (.int (1)), some (.int (0)), some (.int (x)), some (.int (nI (e))), some (.int (0)), none, none, none, none]) m92_5 rfl rfl ?_
  refine g_iload m92_7 rfl ?_
  refine h_if_ltF (xi := 0) (zi := 0) m92_9 rfl rfl (by decide) ?_
  refine g_iload m92_12 rfl ?_
  refine g_bipush m92_14 ?_
  refine h_ic_leT (xi := ((e : Nat) : Int)) (zi := 30) m92_16 (nI_toInt (by omega)) rfl (by omega) ?_
  refine g_gst m92_21 rfl ?_
  refine g_iconst m92_24 ?_
  refine g_iload m92_25 rfl ?_
  refine g_imul (u := (0 : Int32)) m92_27 (by decide) ?_
  refine g_iload_n m92_28 rfl ?_
  refine g_iadd (u := (1 : Int32)) m92_29 (by decide) ?_
  refine g_iald (x := (11 : Int32)) m92_30 rfl (show vp_in (nI 1) 28 from vp_in_nI (by decide) (by decide)) (by decide +kernel) ?_
  refine g_istore (L2 := [some (.ref (77)), some (.int (1)), some (.int (0)), some (.int (x)), some (.int (nI (e))), some (.int (0)), some (.int (11)), none, none, none]) m92_31 rfl rfl ?_
  refine g_aload_n m92_33 rfl ?_
  refine g_iload m92_34 rfl ?_
  refine h_cv (k := 45) (p := 77) (args := [.int (11)]) (rest := []) m92_36 cn_50 (Nat.le_of_ble_eq_true rfl) rfl rfl rfl (t_45 _ _) (Nat.le_of_ble_eq_true rfl) ?_
  refine c_begin (b := b) (c := 11) hb (by omega) ?_
  refine gwr0 ?_
  refine g_aload_n m92_39 rfl ?_
  refine h_gfI (k := 45) (p := 77) m92_40 rfl (t_45 _ _) rfl ((lgM_o (by decide) [11]).trans hk) ?_
  refine g_istore (L2 := [some (.ref (77)), some (.int (1)), some (.int (0)), some (.int (x)), some (.int (nI (e))), some (.int (0)), some (.int (11)), some (.int (5)), none, none]) m92_43 rfl rfl ?_
  refine g_gst m92_45 rfl ?_
  refine g_iload m92_48 rfl ?_
  refine g_iald (x := (-1 : Int32)) m92_50 rfl (show vp_in (nI 0) 7 from vp_in_nI (by decide) (by decide)) (by decide +kernel) ?_
  refine g_istore (L2 := [some (.ref (77)), some (.int (1)), some (.int (0)), some (.int (x)), some (.int (nI (e))), some (.int (0)), some (.int (11)), some (.int (5)), some (.int (-1)), none]) m92_51 rfl rfl ?_
  refine g_iload m92_53 rfl ?_
  refine g_iconst m92_55 ?_
  refine g_iadd (u := nI (e + 1)) m92_56 (nI_add e 1) ?_
  refine g_istore (L2 := [some (.ref (77)), some (.int (1)), some (.int (0)), some (.int (x)), some (.int (nI (e))), some (.int (0)), some (.int (11)), some (.int (5)), some (.int (-1)), some (.int (nI (e + 1)))]) m92_57 rfl rfl ?_
  refine g_iload m92_59 rfl ?_
  refine gs m92_61 ?_
  refine gwpc (pc' := 167) rfl ?_
  refine g_aload_n m92_167 rfl ?_
  refine g_iconst m92_168 ?_
  refine g_iload m92_169 rfl ?_
  refine g_iload_n m92_171 rfl ?_
  refine g_iload m92_172 rfl ?_
  refine g_cs (args := [.ref (77), .int (0), .int (5), .int (x), .int (nI (e + 1))]) (rest := []) 0 (Or.inl rfl) m92_174 (Nat.le_of_ble_eq_true rfl) rfl rfl (Nat.le_of_ble_eq_true rfl) ?_
  refine c_sp_5_0_5 (m := lgM m b [11]) (b := b + 1) (nv := nv) (mv := mv) (lgM_4 hb [11]) (by omega) ((lgM_o (by decide) [11]).trans hk) ((lgM_o (by decide) [11]).trans h0) ((lgM_o (by decide) [11]).trans h1) (by omega) ?_
  rw [show lgM (lgM m b [11]) (b + 1) [10] = lgM m b [11, 10] from lgM_a [11] [10]]
  refine gwr ?_
  refine g_iconst m92_177 ?_
  refine g_imul m92_178 rfl ?_
  refine g_iret m92_179 rt_92 ?_
  exact hQ
set_option maxRecDepth 20000 in
set_option maxHeartbeats 40000000 in
theorem c_sp_5_2_5 {b e : Nat} {x nv mv : Int32} (hb : m 45 4 = nI b) (hb40 : b + 1 ≤ 40) (hk : m 45 2 = nI 5) (h0 : m 45 0 = nv) (h1 : m 45 1 = mv) (he : e + 0 ≤ 30) (hQ : Q (some (.int (x - mv))) (H (lgM m b [12]) ln N)) : WP xs (d + 3) 92 0 0 [.ref (77), .int (2), .int (5), .int (x), .int (nI (e))] (H m ln N) Q := by
  refine wp_x mx_92 (L := [some (.ref (77)), some (.int (2)), some (.int (5)), some (.int (x)), some (.int (nI (e))), none, none, none, none, none]) (Nat.le_of_ble_eq_true rfl) rfl ?_
  refine g_iload_n m92_0 rfl ?_
  refine g_iload_n m92_1 rfl ?_
  refine g_cs (args := [.int (2), .int (5)]) (rest := []) 0 (Or.inl rfl) m92_2 (Nat.le_of_ble_eq_true rfl) rfl rfl (Nat.le_of_ble_eq_true rfl) ?_
  refine c_own_2_5 ?_
  refine gwr ?_
  refine g_istore (L2 := [some (.ref (77)), some (.int (2)), some (.int (5)), some (.int (x)), some (.int (nI (e))), some (.int (0)), none, none, none, none]) m92_5 rfl rfl ?_
  refine g_iload m92_7 rfl ?_
  refine h_if_ltF (xi := 0) (zi := 0) m92_9 rfl rfl (by decide) ?_
  refine g_iload m92_12 rfl ?_
  refine g_bipush m92_14 ?_
  refine h_ic_leT (xi := ((e : Nat) : Int)) (zi := 30) m92_16 (nI_toInt (by omega)) rfl (by omega) ?_
  refine g_gst m92_21 rfl ?_
  refine g_iconst m92_24 ?_
  refine g_iload m92_25 rfl ?_
  refine g_imul (u := (0 : Int32)) m92_27 (by decide) ?_
  refine g_iload_n m92_28 rfl ?_
  refine g_iadd (u := (2 : Int32)) m92_29 (by decide) ?_
  refine g_iald (x := (12 : Int32)) m92_30 rfl (show vp_in (nI 2) 28 from vp_in_nI (by decide) (by decide)) (by decide +kernel) ?_
  refine g_istore (L2 := [some (.ref (77)), some (.int (2)), some (.int (5)), some (.int (x)), some (.int (nI (e))), some (.int (0)), some (.int (12)), none, none, none]) m92_31 rfl rfl ?_
  refine g_aload_n m92_33 rfl ?_
  refine g_iload m92_34 rfl ?_
  refine h_cv (k := 45) (p := 77) (args := [.int (12)]) (rest := []) m92_36 cn_50 (Nat.le_of_ble_eq_true rfl) rfl rfl rfl (t_45 _ _) (Nat.le_of_ble_eq_true rfl) ?_
  refine c_begin (b := b) (c := 12) hb (by omega) ?_
  refine gwr0 ?_
  refine g_aload_n m92_39 rfl ?_
  refine h_gfI (k := 45) (p := 77) m92_40 rfl (t_45 _ _) rfl ((lgM_o (by decide) [12]).trans hk) ?_
  refine g_istore (L2 := [some (.ref (77)), some (.int (2)), some (.int (5)), some (.int (x)), some (.int (nI (e))), some (.int (0)), some (.int (12)), some (.int (5)), none, none]) m92_43 rfl rfl ?_
  refine g_gst m92_45 rfl ?_
  refine g_iload m92_48 rfl ?_
  refine g_iald (x := (-1 : Int32)) m92_50 rfl (show vp_in (nI 0) 7 from vp_in_nI (by decide) (by decide)) (by decide +kernel) ?_
  refine g_istore (L2 := [some (.ref (77)), some (.int (2)), some (.int (5)), some (.int (x)), some (.int (nI (e))), some (.int (0)), some (.int (12)), some (.int (5)), some (.int (-1)), none]) m92_51 rfl rfl ?_
  refine g_iload m92_53 rfl ?_
  refine g_iconst m92_55 ?_
  refine g_iadd (u := nI (e + 1)) m92_56 (nI_add e 1) ?_
  refine g_istore (L2 := [some (.ref (77)), some (.int (2)), some (.int (5)), some (.int (x)), some (.int (nI (e))), some (.int (0)), some (.int (12)), some (.int (5)), some (.int (-1)), some (.int (nI (e + 1)))]) m92_57 rfl rfl ?_
  refine g_iload m92_59 rfl ?_
  refine gs m92_61 ?_
  refine gwpc (pc' := 180) rfl ?_
  refine g_iload_n m92_180 rfl ?_
  refine g_aload_n m92_181 rfl ?_
  refine h_gfI (k := 45) (p := 77) m92_182 rfl (t_45 _ _) rfl ((lgM_o (by decide) [12]).trans h1) ?_
  refine g_isub m92_185 rfl ?_
  refine g_iret m92_186 rt_92 ?_
  exact hQ
set_option maxRecDepth 20000 in
set_option maxHeartbeats 40000000 in
theorem c_sp_5_1_2 {b e : Nat} {x nv mv : Int32} (hb : m 45 4 = nI b) (hb40 : b + 4 ≤ 40) (hk : m 45 2 = nI 5) (h0 : m 45 0 = nv) (h1 : m 45 1 = mv) (he : e + 2 ≤ 30) (hQ : Q (some (.int (((x + nv) * (2 : Int32)) - ((1 : Int32) - mv)))) (H (lgM m b [30, 11, 10, 12]) ln N)) : WP xs (d + 5) 92 0 0 [.ref (77), .int (1), .int (2), .int (x), .int (nI (e))] (H m ln N) Q := by
  refine wp_x mx_92 (L := [some (.ref (77)), some (.int (1)), some (.int (2)), some (.int (x)), some (.int (nI (e))), none, none, none, none, none]) (Nat.le_of_ble_eq_true rfl) rfl ?_
  refine g_iload_n m92_0 rfl ?_
  refine g_iload_n m92_1 rfl ?_
  refine g_cs (args := [.int (1), .int (2)]) (rest := []) 0 (Or.inl rfl) m92_2 (Nat.le_of_ble_eq_true rfl) rfl rfl (Nat.le_of_ble_eq_true rfl) ?_
  refine c_own_1_2 ?_
  refine gwr ?_
  refine g_istore (L2 := [some (.ref (77)), some (.int (1)), some (.int (2)), some (.int (x)), some (.int (nI (e))), some (.int (2)), none, none, none, none]) m92_5 rfl rfl ?_
  refine g_iload m92_7 rfl ?_
  refine h_if_ltF (xi := 2) (zi := 0) m92_9 rfl rfl (by decide) ?_
  refine g_iload m92_12 rfl ?_
  refine g_bipush m92_14 ?_
  refine h_ic_leT (xi := ((e : Nat) : Int)) (zi := 30) m92_16 (nI_toInt (by omega)) rfl (by omega) ?_
  refine g_gst m92_21 rfl ?_
  refine g_iconst m92_24 ?_
  refine g_iload m92_25 rfl ?_
  refine g_imul (u := (8 : Int32)) m92_27 (by decide) ?_
  refine g_iload_n m92_28 rfl ?_
  refine g_iadd (u := (9 : Int32)) m92_29 (by decide) ?_
  refine g_iald (x := (30 : Int32)) m92_30 rfl (show vp_in (nI 9) 28 from vp_in_nI (by decide) (by decide)) (by decide +kernel) ?_
  refine g_istore (L2 := [some (.ref (77)), some (.int (1)), some (.int (2)), some (.int (x)), some (.int (nI (e))), some (.int (2)), some (.int (30)), none, none, none]) m92_31 rfl rfl ?_
  refine g_aload_n m92_33 rfl ?_
  refine g_iload m92_34 rfl ?_
  refine h_cv (k := 45) (p := 77) (args := [.int (30)]) (rest := []) m92_36 cn_50 (Nat.le_of_ble_eq_true rfl) rfl rfl rfl (t_45 _ _) (Nat.le_of_ble_eq_true rfl) ?_
  refine c_begin (b := b) (c := 30) hb (by omega) ?_
  refine gwr0 ?_
  refine g_aload_n m92_39 rfl ?_
  refine h_gfI (k := 45) (p := 77) m92_40 rfl (t_45 _ _) rfl ((lgM_o (by decide) [30]).trans hk) ?_
  refine g_istore (L2 := [some (.ref (77)), some (.int (1)), some (.int (2)), some (.int (x)), some (.int (nI (e))), some (.int (2)), some (.int (30)), some (.int (5)), none, none]) m92_43 rfl rfl ?_
  refine g_gst m92_45 rfl ?_
  refine g_iload m92_48 rfl ?_
  refine g_iald (x := (0 : Int32)) m92_50 rfl (show vp_in (nI 2) 7 from vp_in_nI (by decide) (by decide)) (by decide +kernel) ?_
  refine g_istore (L2 := [some (.ref (77)), some (.int (1)), some (.int (2)), some (.int (x)), some (.int (nI (e))), some (.int (2)), some (.int (30)), some (.int (5)), some (.int (0)), none]) m92_51 rfl rfl ?_
  refine g_iload m92_53 rfl ?_
  refine g_iconst m92_55 ?_
  refine g_iadd (u := nI (e + 1)) m92_56 (nI_add e 1) ?_
  refine g_istore (L2 := [some (.ref (77)), some (.int (1)), some (.int (2)), some (.int (x)), some (.int (nI (e))), some (.int (2)), some (.int (30)), some (.int (5)), some (.int (0)), some (.int (nI (e + 1)))]) m92_57 rfl rfl ?_
  refine g_iload m92_59 rfl ?_
  refine gs m92_61 ?_
  refine gwpc (pc' := 222) rfl ?_
  refine g_aload_n m92_222 rfl ?_
  refine g_iconst m92_223 ?_
  refine g_iload m92_224 rfl ?_
  refine g_iload_n m92_226 rfl ?_
  refine g_iload m92_227 rfl ?_
  refine g_cs (args := [.ref (77), .int (1), .int (0), .int (x), .int (nI (e + 1))]) (rest := []) 0 (Or.inl rfl) m92_229 (Nat.le_of_ble_eq_true rfl) rfl rfl (Nat.le_of_ble_eq_true rfl) ?_
  refine c_sp_5_1_0 (m := lgM m b [30]) (b := b + 1) (nv := nv) (mv := mv) (lgM_4 hb [30]) (by omega) ((lgM_o (by decide) [30]).trans hk) ((lgM_o (by decide) [30]).trans h0) ((lgM_o (by decide) [30]).trans h1) (by omega) ?_
  rw [show lgM (lgM m b [30]) (b + 1) [11, 10] = lgM m b [30, 11, 10] from lgM_a [30] [11, 10]]
  refine gwr ?_
  refine g_aload_n m92_232 rfl ?_
  refine g_iconst m92_233 ?_
  refine g_iload m92_234 rfl ?_
  refine g_iconst m92_236 ?_
  refine g_iload m92_237 rfl ?_
  refine g_cs (args := [.ref (77), .int (2), .int (5), .int (1), .int (nI (e + 1))]) (rest := [.int (((x + nv) * (2 : Int32)))]) 0 (Or.inl rfl) m92_239 (Nat.le_of_ble_eq_true rfl) rfl rfl (Nat.le_of_ble_eq_true rfl) ?_
  refine c_sp_5_2_5 (m := lgM m b [30, 11, 10]) (b := b + 3) (nv := nv) (mv := mv) (lgM_4 hb [30, 11, 10]) (by omega) ((lgM_o (by decide) [30, 11, 10]).trans hk) ((lgM_o (by decide) [30, 11, 10]).trans h0) ((lgM_o (by decide) [30, 11, 10]).trans h1) (by omega) ?_
  rw [show lgM (lgM m b [30, 11, 10]) (b + 3) [12] = lgM m b [30, 11, 10, 12] from lgM_a [30, 11, 10] [12]]
  refine gwr ?_
  refine g_isub m92_242 rfl ?_
  refine g_iret m92_243 rt_92 ?_
  exact hQ
set_option maxRecDepth 20000 in
set_option maxHeartbeats 40000000 in
theorem c_sp_5_1_5 {b e : Nat} {x nv mv : Int32} (hb : m 45 4 = nI b) (hb40 : b + 5 ≤ 40) (hk : m 45 2 = nI 5) (h0 : m 45 0 = nv) (h1 : m 45 1 = mv) (he : e + 3 ≤ 30) (hQ : Q (some (.int ((((x + (1 : Int32)) + nv) * (2 : Int32)) - ((1 : Int32) - mv)))) (H (lgM m b [60, 30, 11, 10, 12]) ln N)) : WP xs (d + 6) 92 0 0 [.ref (77), .int (1), .int (5), .int (x), .int (nI (e))] (H m ln N) Q := by
  refine wp_x mx_92 (L := [some (.ref (77)), some (.int (1)), some (.int (5)), some (.int (x)), some (.int (nI (e))), none, none, none, none, none]) (Nat.le_of_ble_eq_true rfl) rfl ?_
  refine g_iload_n m92_0 rfl ?_
  refine g_iload_n m92_1 rfl ?_
  refine g_cs (args := [.int (1), .int (5)]) (rest := []) 0 (Or.inl rfl) m92_2 (Nat.le_of_ble_eq_true rfl) rfl rfl (Nat.le_of_ble_eq_true rfl) ?_
  refine c_own_1_5 ?_
  refine gwr ?_
  refine g_istore (L2 := [some (.ref (77)), some (.int (1)), some (.int (5)), some (.int (x)), some (.int (nI (e))), some (.int (5)), none, none, none, none]) m92_5 rfl rfl ?_
  refine g_iload m92_7 rfl ?_
  refine h_if_ltF (xi := 5) (zi := 0) m92_9 rfl rfl (by decide) ?_
  refine g_iload m92_12 rfl ?_
  refine g_bipush m92_14 ?_
  refine h_ic_leT (xi := ((e : Nat) : Int)) (zi := 30) m92_16 (nI_toInt (by omega)) rfl (by omega) ?_
  refine g_gst m92_21 rfl ?_
  refine g_iconst m92_24 ?_
  refine g_iload m92_25 rfl ?_
  refine g_imul (u := (20 : Int32)) m92_27 (by decide) ?_
  refine g_iload_n m92_28 rfl ?_
  refine g_iadd (u := (21 : Int32)) m92_29 (by decide) ?_
  refine g_iald (x := (60 : Int32)) m92_30 rfl (show vp_in (nI 21) 28 from vp_in_nI (by decide) (by decide)) (by decide +kernel) ?_
  refine g_istore (L2 := [some (.ref (77)), some (.int (1)), some (.int (5)), some (.int (x)), some (.int (nI (e))), some (.int (5)), some (.int (60)), none, none, none]) m92_31 rfl rfl ?_
  refine g_aload_n m92_33 rfl ?_
  refine g_iload m92_34 rfl ?_
  refine h_cv (k := 45) (p := 77) (args := [.int (60)]) (rest := []) m92_36 cn_50 (Nat.le_of_ble_eq_true rfl) rfl rfl rfl (t_45 _ _) (Nat.le_of_ble_eq_true rfl) ?_
  refine c_begin (b := b) (c := 60) hb (by omega) ?_
  refine gwr0 ?_
  refine g_aload_n m92_39 rfl ?_
  refine h_gfI (k := 45) (p := 77) m92_40 rfl (t_45 _ _) rfl ((lgM_o (by decide) [60]).trans hk) ?_
  refine g_istore (L2 := [some (.ref (77)), some (.int (1)), some (.int (5)), some (.int (x)), some (.int (nI (e))), some (.int (5)), some (.int (60)), some (.int (5)), none, none]) m92_43 rfl rfl ?_
  refine g_gst m92_45 rfl ?_
  refine g_iload m92_48 rfl ?_
  refine g_iald (x := (2 : Int32)) m92_50 rfl (show vp_in (nI 5) 7 from vp_in_nI (by decide) (by decide)) (by decide +kernel) ?_
  refine g_istore (L2 := [some (.ref (77)), some (.int (1)), some (.int (5)), some (.int (x)), some (.int (nI (e))), some (.int (5)), some (.int (60)), some (.int (5)), some (.int (2)), none]) m92_51 rfl rfl ?_
  refine g_iload m92_53 rfl ?_
  refine g_iconst m92_55 ?_
  refine g_iadd (u := nI (e + 1)) m92_56 (nI_add e 1) ?_
  refine g_istore (L2 := [some (.ref (77)), some (.int (1)), some (.int (5)), some (.int (x)), some (.int (nI (e))), some (.int (5)), some (.int (60)), some (.int (5)), some (.int (2)), some (.int (nI (e + 1)))]) m92_57 rfl rfl ?_
  refine g_iload m92_59 rfl ?_
  refine gs m92_61 ?_
  refine gwpc (pc' := 278) rfl ?_
  refine g_aload_n m92_278 rfl ?_
  refine g_iconst m92_279 ?_
  refine g_iload m92_280 rfl ?_
  refine g_iload_n m92_282 rfl ?_
  refine g_iconst m92_283 ?_
  refine g_iadd m92_284 rfl ?_
  refine g_iload m92_285 rfl ?_
  refine g_cs (args := [.ref (77), .int (1), .int (2), .int ((x + (1 : Int32))), .int (nI (e + 1))]) (rest := []) 0 (Or.inl rfl) m92_287 (Nat.le_of_ble_eq_true rfl) rfl rfl (Nat.le_of_ble_eq_true rfl) ?_
  refine c_sp_5_1_2 (m := lgM m b [60]) (b := b + 1) (nv := nv) (mv := mv) (lgM_4 hb [60]) (by omega) ((lgM_o (by decide) [60]).trans hk) ((lgM_o (by decide) [60]).trans h0) ((lgM_o (by decide) [60]).trans h1) (by omega) ?_
  rw [show lgM (lgM m b [60]) (b + 1) [30, 11, 10, 12] = lgM m b [60, 30, 11, 10, 12] from lgM_a [60] [30, 11, 10, 12]]
  refine gwr ?_
  refine g_iret m92_290 rt_92 ?_
  exact hQ
set_option maxRecDepth 20000 in
set_option maxHeartbeats 40000000 in
theorem c_sp_5_3_5 {b e : Nat} {x nv mv : Int32} (hb : m 45 4 = nI b) (hb40 : b + 7 ≤ 40) (hk : m 45 2 = nI 5) (h0 : m 45 0 = nv) (h1 : m 45 1 = mv) (he : e + 4 ≤ 30) (hQ : Q (some (.int (((((x + (1 : Int32)) + nv) * (2 : Int32)) - ((1 : Int32) - mv)) ^^^ (x - mv)))) (H (lgM m b [13, 60, 30, 11, 10, 12, 12]) ln N)) : WP xs (d + 7) 92 0 0 [.ref (77), .int (3), .int (5), .int (x), .int (nI (e))] (H m ln N) Q := by
  refine wp_x mx_92 (L := [some (.ref (77)), some (.int (3)), some (.int (5)), some (.int (x)), some (.int (nI (e))), none, none, none, none, none]) (Nat.le_of_ble_eq_true rfl) rfl ?_
  refine g_iload_n m92_0 rfl ?_
  refine g_iload_n m92_1 rfl ?_
  refine g_cs (args := [.int (3), .int (5)]) (rest := []) 0 (Or.inl rfl) m92_2 (Nat.le_of_ble_eq_true rfl) rfl rfl (Nat.le_of_ble_eq_true rfl) ?_
  refine c_own_3_5 ?_
  refine gwr ?_
  refine g_istore (L2 := [some (.ref (77)), some (.int (3)), some (.int (5)), some (.int (x)), some (.int (nI (e))), some (.int (0)), none, none, none, none]) m92_5 rfl rfl ?_
  refine g_iload m92_7 rfl ?_
  refine h_if_ltF (xi := 0) (zi := 0) m92_9 rfl rfl (by decide) ?_
  refine g_iload m92_12 rfl ?_
  refine g_bipush m92_14 ?_
  refine h_ic_leT (xi := ((e : Nat) : Int)) (zi := 30) m92_16 (nI_toInt (by omega)) rfl (by omega) ?_
  refine g_gst m92_21 rfl ?_
  refine g_iconst m92_24 ?_
  refine g_iload m92_25 rfl ?_
  refine g_imul (u := (0 : Int32)) m92_27 (by decide) ?_
  refine g_iload_n m92_28 rfl ?_
  refine g_iadd (u := (3 : Int32)) m92_29 (by decide) ?_
  refine g_iald (x := (13 : Int32)) m92_30 rfl (show vp_in (nI 3) 28 from vp_in_nI (by decide) (by decide)) (by decide +kernel) ?_
  refine g_istore (L2 := [some (.ref (77)), some (.int (3)), some (.int (5)), some (.int (x)), some (.int (nI (e))), some (.int (0)), some (.int (13)), none, none, none]) m92_31 rfl rfl ?_
  refine g_aload_n m92_33 rfl ?_
  refine g_iload m92_34 rfl ?_
  refine h_cv (k := 45) (p := 77) (args := [.int (13)]) (rest := []) m92_36 cn_50 (Nat.le_of_ble_eq_true rfl) rfl rfl rfl (t_45 _ _) (Nat.le_of_ble_eq_true rfl) ?_
  refine c_begin (b := b) (c := 13) hb (by omega) ?_
  refine gwr0 ?_
  refine g_aload_n m92_39 rfl ?_
  refine h_gfI (k := 45) (p := 77) m92_40 rfl (t_45 _ _) rfl ((lgM_o (by decide) [13]).trans hk) ?_
  refine g_istore (L2 := [some (.ref (77)), some (.int (3)), some (.int (5)), some (.int (x)), some (.int (nI (e))), some (.int (0)), some (.int (13)), some (.int (5)), none, none]) m92_43 rfl rfl ?_
  refine g_gst m92_45 rfl ?_
  refine g_iload m92_48 rfl ?_
  refine g_iald (x := (-1 : Int32)) m92_50 rfl (show vp_in (nI 0) 7 from vp_in_nI (by decide) (by decide)) (by decide +kernel) ?_
  refine g_istore (L2 := [some (.ref (77)), some (.int (3)), some (.int (5)), some (.int (x)), some (.int (nI (e))), some (.int (0)), some (.int (13)), some (.int (5)), some (.int (-1)), none]) m92_51 rfl rfl ?_
  refine g_iload m92_53 rfl ?_
  refine g_iconst m92_55 ?_
  refine g_iadd (u := nI (e + 1)) m92_56 (nI_add e 1) ?_
  refine g_istore (L2 := [some (.ref (77)), some (.int (3)), some (.int (5)), some (.int (x)), some (.int (nI (e))), some (.int (0)), some (.int (13)), some (.int (5)), some (.int (-1)), some (.int (nI (e + 1)))]) m92_57 rfl rfl ?_
  refine g_iload m92_59 rfl ?_
  refine gs m92_61 ?_
  refine gwpc (pc' := 187) rfl ?_
  refine g_aload_n m92_187 rfl ?_
  refine g_iconst m92_188 ?_
  refine g_iload m92_189 rfl ?_
  refine g_iload_n m92_191 rfl ?_
  refine g_iload m92_192 rfl ?_
  refine g_cs (args := [.ref (77), .int (1), .int (5), .int (x), .int (nI (e + 1))]) (rest := []) 0 (Or.inl rfl) m92_194 (Nat.le_of_ble_eq_true rfl) rfl rfl (Nat.le_of_ble_eq_true rfl) ?_
  refine c_sp_5_1_5 (m := lgM m b [13]) (b := b + 1) (nv := nv) (mv := mv) (lgM_4 hb [13]) (by omega) ((lgM_o (by decide) [13]).trans hk) ((lgM_o (by decide) [13]).trans h0) ((lgM_o (by decide) [13]).trans h1) (by omega) ?_
  rw [show lgM (lgM m b [13]) (b + 1) [60, 30, 11, 10, 12] = lgM m b [13, 60, 30, 11, 10, 12] from lgM_a [13] [60, 30, 11, 10, 12]]
  refine gwr ?_
  refine g_aload_n m92_197 rfl ?_
  refine g_iconst m92_198 ?_
  refine g_iload m92_199 rfl ?_
  refine g_iload_n m92_201 rfl ?_
  refine g_iload m92_202 rfl ?_
  refine g_cs (args := [.ref (77), .int (2), .int (5), .int (x), .int (nI (e + 1))]) (rest := [.int (((((x + (1 : Int32)) + nv) * (2 : Int32)) - ((1 : Int32) - mv)))]) 0 (Or.inl rfl) m92_204 (Nat.le_of_ble_eq_true rfl) rfl rfl (Nat.le_of_ble_eq_true rfl) ?_
  refine c_sp_5_2_5 (m := lgM m b [13, 60, 30, 11, 10, 12]) (b := b + 6) (nv := nv) (mv := mv) (lgM_4 hb [13, 60, 30, 11, 10, 12]) (by omega) ((lgM_o (by decide) [13, 60, 30, 11, 10, 12]).trans hk) ((lgM_o (by decide) [13, 60, 30, 11, 10, 12]).trans h0) ((lgM_o (by decide) [13, 60, 30, 11, 10, 12]).trans h1) (by omega) ?_
  rw [show lgM (lgM m b [13, 60, 30, 11, 10, 12]) (b + 6) [12] = lgM m b [13, 60, 30, 11, 10, 12, 12] from lgM_a [13, 60, 30, 11, 10, 12] [12]]
  refine gwr ?_
  refine g_ixor m92_207 rfl ?_
  refine g_iret m92_208 rt_92 ?_
  exact hQ
set_option maxRecDepth 20000 in
set_option maxHeartbeats 40000000 in
theorem c_sp_6_0_6 {b e : Nat} {x nv mv : Int32} (hb : m 45 4 = nI b) (hb40 : b + 1 ≤ 40) (hk : m 45 2 = nI 6) (h0 : m 45 0 = nv) (h1 : m 45 1 = mv) (he : e + 0 ≤ 30) (hQ : Q (some (.int (x + nv))) (H (lgM m b [10]) ln N)) : WP xs (d + 3) 92 0 0 [.ref (77), .int (0), .int (6), .int (x), .int (nI (e))] (H m ln N) Q := by
  refine wp_x mx_92 (L := [some (.ref (77)), some (.int (0)), some (.int (6)), some (.int (x)), some (.int (nI (e))), none, none, none, none, none]) (Nat.le_of_ble_eq_true rfl) rfl ?_
  refine g_iload_n m92_0 rfl ?_
  refine g_iload_n m92_1 rfl ?_
  refine g_cs (args := [.int (0), .int (6)]) (rest := []) 0 (Or.inl rfl) m92_2 (Nat.le_of_ble_eq_true rfl) rfl rfl (Nat.le_of_ble_eq_true rfl) ?_
  refine c_own_0_6 ?_
  refine gwr ?_
  refine g_istore (L2 := [some (.ref (77)), some (.int (0)), some (.int (6)), some (.int (x)), some (.int (nI (e))), some (.int (0)), none, none, none, none]) m92_5 rfl rfl ?_
  refine g_iload m92_7 rfl ?_
  refine h_if_ltF (xi := 0) (zi := 0) m92_9 rfl rfl (by decide) ?_
  refine g_iload m92_12 rfl ?_
  refine g_bipush m92_14 ?_
  refine h_ic_leT (xi := ((e : Nat) : Int)) (zi := 30) m92_16 (nI_toInt (by omega)) rfl (by omega) ?_
  refine g_gst m92_21 rfl ?_
  refine g_iconst m92_24 ?_
  refine g_iload m92_25 rfl ?_
  refine g_imul (u := (0 : Int32)) m92_27 (by decide) ?_
  refine g_iload_n m92_28 rfl ?_
  refine g_iadd (u := (0 : Int32)) m92_29 (by decide) ?_
  refine g_iald (x := (10 : Int32)) m92_30 rfl (show vp_in (nI 0) 28 from vp_in_nI (by decide) (by decide)) (by decide +kernel) ?_
  refine g_istore (L2 := [some (.ref (77)), some (.int (0)), some (.int (6)), some (.int (x)), some (.int (nI (e))), some (.int (0)), some (.int (10)), none, none, none]) m92_31 rfl rfl ?_
  refine g_aload_n m92_33 rfl ?_
  refine g_iload m92_34 rfl ?_
  refine h_cv (k := 45) (p := 77) (args := [.int (10)]) (rest := []) m92_36 cn_50 (Nat.le_of_ble_eq_true rfl) rfl rfl rfl (t_45 _ _) (Nat.le_of_ble_eq_true rfl) ?_
  refine c_begin (b := b) (c := 10) hb (by omega) ?_
  refine gwr0 ?_
  refine g_aload_n m92_39 rfl ?_
  refine h_gfI (k := 45) (p := 77) m92_40 rfl (t_45 _ _) rfl ((lgM_o (by decide) [10]).trans hk) ?_
  refine g_istore (L2 := [some (.ref (77)), some (.int (0)), some (.int (6)), some (.int (x)), some (.int (nI (e))), some (.int (0)), some (.int (10)), some (.int (6)), none, none]) m92_43 rfl rfl ?_
  refine g_gst m92_45 rfl ?_
  refine g_iload m92_48 rfl ?_
  refine g_iald (x := (-1 : Int32)) m92_50 rfl (show vp_in (nI 0) 7 from vp_in_nI (by decide) (by decide)) (by decide +kernel) ?_
  refine g_istore (L2 := [some (.ref (77)), some (.int (0)), some (.int (6)), some (.int (x)), some (.int (nI (e))), some (.int (0)), some (.int (10)), some (.int (6)), some (.int (-1)), none]) m92_51 rfl rfl ?_
  refine g_iload m92_53 rfl ?_
  refine g_iconst m92_55 ?_
  refine g_iadd (u := nI (e + 1)) m92_56 (nI_add e 1) ?_
  refine g_istore (L2 := [some (.ref (77)), some (.int (0)), some (.int (6)), some (.int (x)), some (.int (nI (e))), some (.int (0)), some (.int (10)), some (.int (6)), some (.int (-1)), some (.int (nI (e + 1)))]) m92_57 rfl rfl ?_
  refine g_iload m92_59 rfl ?_
  refine gs m92_61 ?_
  refine gwpc (pc' := 160) rfl ?_
  refine g_iload_n m92_160 rfl ?_
  refine g_aload_n m92_161 rfl ?_
  refine h_gfI (k := 45) (p := 77) m92_162 rfl (t_45 _ _) rfl ((lgM_o (by decide) [10]).trans h0) ?_
  refine g_iadd m92_165 rfl ?_
  refine g_iret m92_166 rt_92 ?_
  exact hQ
set_option maxRecDepth 20000 in
set_option maxHeartbeats 40000000 in
theorem c_sp_6_1_6 {b e : Nat} {x nv mv : Int32} (hb : m 45 4 = nI b) (hb40 : b + 2 ≤ 40) (hk : m 45 2 = nI 6) (h0 : m 45 0 = nv) (h1 : m 45 1 = mv) (he : e + 1 ≤ 30) (hQ : Q (some (.int ((x + nv) * (2 : Int32)))) (H (lgM m b [11, 10]) ln N)) : WP xs (d + 4) 92 0 0 [.ref (77), .int (1), .int (6), .int (x), .int (nI (e))] (H m ln N) Q := by
  refine wp_x mx_92 (L := [some (.ref (77)), some (.int (1)), some (.int (6)), some (.int (x)), some (.int (nI (e))), none, none, none, none, none]) (Nat.le_of_ble_eq_true rfl) rfl ?_
  refine g_iload_n m92_0 rfl ?_
  refine g_iload_n m92_1 rfl ?_
  refine g_cs (args := [.int (1), .int (6)]) (rest := []) 0 (Or.inl rfl) m92_2 (Nat.le_of_ble_eq_true rfl) rfl rfl (Nat.le_of_ble_eq_true rfl) ?_
  refine c_own_1_6 ?_
  refine gwr ?_
  refine g_istore (L2 := [some (.ref (77)), some (.int (1)), some (.int (6)), some (.int (x)), some (.int (nI (e))), some (.int (0)), none, none, none, none]) m92_5 rfl rfl ?_
  refine g_iload m92_7 rfl ?_
  refine h_if_ltF (xi := 0) (zi := 0) m92_9 rfl rfl (by decide) ?_
  refine g_iload m92_12 rfl ?_
  refine g_bipush m92_14 ?_
  refine h_ic_leT (xi := ((e : Nat) : Int)) (zi := 30) m92_16 (nI_toInt (by omega)) rfl (by omega) ?_
  refine g_gst m92_21 rfl ?_
  refine g_iconst m92_24 ?_
  refine g_iload m92_25 rfl ?_
  refine g_imul (u := (0 : Int32)) m92_27 (by decide) ?_
  refine g_iload_n m92_28 rfl ?_
  refine g_iadd (u := (1 : Int32)) m92_29 (by decide) ?_
  refine g_iald (x := (11 : Int32)) m92_30 rfl (show vp_in (nI 1) 28 from vp_in_nI (by decide) (by decide)) (by decide +kernel) ?_
  refine g_istore (L2 := [some (.ref (77)), some (.int (1)), some (.int (6)), some (.int (x)), some (.int (nI (e))), some (.int (0)), some (.int (11)), none, none, none]) m92_31 rfl rfl ?_
  refine g_aload_n m92_33 rfl ?_
  refine g_iload m92_34 rfl ?_
  refine h_cv (k := 45) (p := 77) (args := [.int (11)]) (rest := []) m92_36 cn_50 (Nat.le_of_ble_eq_true rfl) rfl rfl rfl (t_45 _ _) (Nat.le_of_ble_eq_true rfl) ?_
  refine c_begin (b := b) (c := 11) hb (by omega) ?_
  refine gwr0 ?_
  refine g_aload_n m92_39 rfl ?_
  refine h_gfI (k := 45) (p := 77) m92_40 rfl (t_45 _ _) rfl ((lgM_o (by decide) [11]).trans hk) ?_
  refine g_istore (L2 := [some (.ref (77)), some (.int (1)), some (.int (6)), some (.int (x)), some (.int (nI (e))), some (.int (0)), some (.int (11)), some (.int (6)), none, none]) m92_43 rfl rfl ?_
  refine g_gst m92_45 rfl ?_
  refine g_iload m92_48 rfl ?_
  refine g_iald (x := (-1 : Int32)) m92_50 rfl (show vp_in (nI 0) 7 from vp_in_nI (by decide) (by decide)) (by decide +kernel) ?_
  refine g_istore (L2 := [some (.ref (77)), some (.int (1)), some (.int (6)), some (.int (x)), some (.int (nI (e))), some (.int (0)), some (.int (11)), some (.int (6)), some (.int (-1)), none]) m92_51 rfl rfl ?_
  refine g_iload m92_53 rfl ?_
  refine g_iconst m92_55 ?_
  refine g_iadd (u := nI (e + 1)) m92_56 (nI_add e 1) ?_
  refine g_istore (L2 := [some (.ref (77)), some (.int (1)), some (.int (6)), some (.int (x)), some (.int (nI (e))), some (.int (0)), some (.int (11)), some (.int (6)), some (.int (-1)), some (.int (nI (e + 1)))]) m92_57 rfl rfl ?_
  refine g_iload m92_59 rfl ?_
  refine gs m92_61 ?_
  refine gwpc (pc' := 167) rfl ?_
  refine g_aload_n m92_167 rfl ?_
  refine g_iconst m92_168 ?_
  refine g_iload m92_169 rfl ?_
  refine g_iload_n m92_171 rfl ?_
  refine g_iload m92_172 rfl ?_
  refine g_cs (args := [.ref (77), .int (0), .int (6), .int (x), .int (nI (e + 1))]) (rest := []) 0 (Or.inl rfl) m92_174 (Nat.le_of_ble_eq_true rfl) rfl rfl (Nat.le_of_ble_eq_true rfl) ?_
  refine c_sp_6_0_6 (m := lgM m b [11]) (b := b + 1) (nv := nv) (mv := mv) (lgM_4 hb [11]) (by omega) ((lgM_o (by decide) [11]).trans hk) ((lgM_o (by decide) [11]).trans h0) ((lgM_o (by decide) [11]).trans h1) (by omega) ?_
  rw [show lgM (lgM m b [11]) (b + 1) [10] = lgM m b [11, 10] from lgM_a [11] [10]]
  refine gwr ?_
  refine g_iconst m92_177 ?_
  refine g_imul m92_178 rfl ?_
  refine g_iret m92_179 rt_92 ?_
  exact hQ
set_option maxRecDepth 20000 in
set_option maxHeartbeats 40000000 in
theorem c_sp_6_2_0 {b e : Nat} {x nv mv : Int32} (hb : m 45 4 = nI b) (hb40 : b + 1 ≤ 40) (hk : m 45 2 = nI 6) (h0 : m 45 0 = nv) (h1 : m 45 1 = mv) (he : e + 0 ≤ 30) (hQ : Q (some (.int (x - mv))) (H (lgM m b [12]) ln N)) : WP xs (d + 3) 92 0 0 [.ref (77), .int (2), .int (0), .int (x), .int (nI (e))] (H m ln N) Q := by
  refine wp_x mx_92 (L := [some (.ref (77)), some (.int (2)), some (.int (0)), some (.int (x)), some (.int (nI (e))), none, none, none, none, none]) (Nat.le_of_ble_eq_true rfl) rfl ?_
  refine g_iload_n m92_0 rfl ?_
  refine g_iload_n m92_1 rfl ?_
  refine g_cs (args := [.int (2), .int (0)]) (rest := []) 0 (Or.inl rfl) m92_2 (Nat.le_of_ble_eq_true rfl) rfl rfl (Nat.le_of_ble_eq_true rfl) ?_
  refine c_own_2_0 ?_
  refine gwr ?_
  refine g_istore (L2 := [some (.ref (77)), some (.int (2)), some (.int (0)), some (.int (x)), some (.int (nI (e))), some (.int (0)), none, none, none, none]) m92_5 rfl rfl ?_
  refine g_iload m92_7 rfl ?_
  refine h_if_ltF (xi := 0) (zi := 0) m92_9 rfl rfl (by decide) ?_
  refine g_iload m92_12 rfl ?_
  refine g_bipush m92_14 ?_
  refine h_ic_leT (xi := ((e : Nat) : Int)) (zi := 30) m92_16 (nI_toInt (by omega)) rfl (by omega) ?_
  refine g_gst m92_21 rfl ?_
  refine g_iconst m92_24 ?_
  refine g_iload m92_25 rfl ?_
  refine g_imul (u := (0 : Int32)) m92_27 (by decide) ?_
  refine g_iload_n m92_28 rfl ?_
  refine g_iadd (u := (2 : Int32)) m92_29 (by decide) ?_
  refine g_iald (x := (12 : Int32)) m92_30 rfl (show vp_in (nI 2) 28 from vp_in_nI (by decide) (by decide)) (by decide +kernel) ?_
  refine g_istore (L2 := [some (.ref (77)), some (.int (2)), some (.int (0)), some (.int (x)), some (.int (nI (e))), some (.int (0)), some (.int (12)), none, none, none]) m92_31 rfl rfl ?_
  refine g_aload_n m92_33 rfl ?_
  refine g_iload m92_34 rfl ?_
  refine h_cv (k := 45) (p := 77) (args := [.int (12)]) (rest := []) m92_36 cn_50 (Nat.le_of_ble_eq_true rfl) rfl rfl rfl (t_45 _ _) (Nat.le_of_ble_eq_true rfl) ?_
  refine c_begin (b := b) (c := 12) hb (by omega) ?_
  refine gwr0 ?_
  refine g_aload_n m92_39 rfl ?_
  refine h_gfI (k := 45) (p := 77) m92_40 rfl (t_45 _ _) rfl ((lgM_o (by decide) [12]).trans hk) ?_
  refine g_istore (L2 := [some (.ref (77)), some (.int (2)), some (.int (0)), some (.int (x)), some (.int (nI (e))), some (.int (0)), some (.int (12)), some (.int (6)), none, none]) m92_43 rfl rfl ?_
  refine g_gst m92_45 rfl ?_
  refine g_iload m92_48 rfl ?_
  refine g_iald (x := (-1 : Int32)) m92_50 rfl (show vp_in (nI 0) 7 from vp_in_nI (by decide) (by decide)) (by decide +kernel) ?_
  refine g_istore (L2 := [some (.ref (77)), some (.int (2)), some (.int (0)), some (.int (x)), some (.int (nI (e))), some (.int (0)), some (.int (12)), some (.int (6)), some (.int (-1)), none]) m92_51 rfl rfl ?_
  refine g_iload m92_53 rfl ?_
  refine g_iconst m92_55 ?_
  refine g_iadd (u := nI (e + 1)) m92_56 (nI_add e 1) ?_
  refine g_istore (L2 := [some (.ref (77)), some (.int (2)), some (.int (0)), some (.int (x)), some (.int (nI (e))), some (.int (0)), some (.int (12)), some (.int (6)), some (.int (-1)), some (.int (nI (e + 1)))]) m92_57 rfl rfl ?_
  refine g_iload m92_59 rfl ?_
  refine gs m92_61 ?_
  refine gwpc (pc' := 180) rfl ?_
  refine g_iload_n m92_180 rfl ?_
  refine g_aload_n m92_181 rfl ?_
  refine h_gfI (k := 45) (p := 77) m92_182 rfl (t_45 _ _) rfl ((lgM_o (by decide) [12]).trans h1) ?_
  refine g_isub m92_185 rfl ?_
  refine g_iret m92_186 rt_92 ?_
  exact hQ
set_option maxRecDepth 20000 in
set_option maxHeartbeats 40000000 in
theorem c_sp_6_2_3 {b e : Nat} {x nv mv : Int32} (hb : m 45 4 = nI b) (hb40 : b + 2 ≤ 40) (hk : m 45 2 = nI 6) (h0 : m 45 0 = nv) (h1 : m 45 1 = mv) (he : e + 1 ≤ 30) (hQ : Q (some (.int (-(x - mv)))) (H (lgM m b [40, 12]) ln N)) : WP xs (d + 4) 92 0 0 [.ref (77), .int (2), .int (3), .int (x), .int (nI (e))] (H m ln N) Q := by
  refine wp_x mx_92 (L := [some (.ref (77)), some (.int (2)), some (.int (3)), some (.int (x)), some (.int (nI (e))), none, none, none, none, none]) (Nat.le_of_ble_eq_true rfl) rfl ?_
  refine g_iload_n m92_0 rfl ?_
  refine g_iload_n m92_1 rfl ?_
  refine g_cs (args := [.int (2), .int (3)]) (rest := []) 0 (Or.inl rfl) m92_2 (Nat.le_of_ble_eq_true rfl) rfl rfl (Nat.le_of_ble_eq_true rfl) ?_
  refine c_own_2_3 ?_
  refine gwr ?_
  refine g_istore (L2 := [some (.ref (77)), some (.int (2)), some (.int (3)), some (.int (x)), some (.int (nI (e))), some (.int (3)), none, none, none, none]) m92_5 rfl rfl ?_
  refine g_iload m92_7 rfl ?_
  refine h_if_ltF (xi := 3) (zi := 0) m92_9 rfl rfl (by decide) ?_
  refine g_iload m92_12 rfl ?_
  refine g_bipush m92_14 ?_
  refine h_ic_leT (xi := ((e : Nat) : Int)) (zi := 30) m92_16 (nI_toInt (by omega)) rfl (by omega) ?_
  refine g_gst m92_21 rfl ?_
  refine g_iconst m92_24 ?_
  refine g_iload m92_25 rfl ?_
  refine g_imul (u := (12 : Int32)) m92_27 (by decide) ?_
  refine g_iload_n m92_28 rfl ?_
  refine g_iadd (u := (14 : Int32)) m92_29 (by decide) ?_
  refine g_iald (x := (40 : Int32)) m92_30 rfl (show vp_in (nI 14) 28 from vp_in_nI (by decide) (by decide)) (by decide +kernel) ?_
  refine g_istore (L2 := [some (.ref (77)), some (.int (2)), some (.int (3)), some (.int (x)), some (.int (nI (e))), some (.int (3)), some (.int (40)), none, none, none]) m92_31 rfl rfl ?_
  refine g_aload_n m92_33 rfl ?_
  refine g_iload m92_34 rfl ?_
  refine h_cv (k := 45) (p := 77) (args := [.int (40)]) (rest := []) m92_36 cn_50 (Nat.le_of_ble_eq_true rfl) rfl rfl rfl (t_45 _ _) (Nat.le_of_ble_eq_true rfl) ?_
  refine c_begin (b := b) (c := 40) hb (by omega) ?_
  refine gwr0 ?_
  refine g_aload_n m92_39 rfl ?_
  refine h_gfI (k := 45) (p := 77) m92_40 rfl (t_45 _ _) rfl ((lgM_o (by decide) [40]).trans hk) ?_
  refine g_istore (L2 := [some (.ref (77)), some (.int (2)), some (.int (3)), some (.int (x)), some (.int (nI (e))), some (.int (3)), some (.int (40)), some (.int (6)), none, none]) m92_43 rfl rfl ?_
  refine g_gst m92_45 rfl ?_
  refine g_iload m92_48 rfl ?_
  refine g_iald (x := (0 : Int32)) m92_50 rfl (show vp_in (nI 3) 7 from vp_in_nI (by decide) (by decide)) (by decide +kernel) ?_
  refine g_istore (L2 := [some (.ref (77)), some (.int (2)), some (.int (3)), some (.int (x)), some (.int (nI (e))), some (.int (3)), some (.int (40)), some (.int (6)), some (.int (0)), none]) m92_51 rfl rfl ?_
  refine g_iload m92_53 rfl ?_
  refine g_iconst m92_55 ?_
  refine g_iadd (u := nI (e + 1)) m92_56 (nI_add e 1) ?_
  refine g_istore (L2 := [some (.ref (77)), some (.int (2)), some (.int (3)), some (.int (x)), some (.int (nI (e))), some (.int (3)), some (.int (40)), some (.int (6)), some (.int (0)), some (.int (nI (e + 1)))]) m92_57 rfl rfl ?_
  refine g_iload m92_59 rfl ?_
  refine gs m92_61 ?_
  refine gwpc (pc' := 244) rfl ?_
  refine g_aload_n m92_244 rfl ?_
  refine g_iconst m92_245 ?_
  refine g_iload m92_246 rfl ?_
  refine g_iload_n m92_248 rfl ?_
  refine g_iload m92_249 rfl ?_
  refine g_cs (args := [.ref (77), .int (2), .int (0), .int (x), .int (nI (e + 1))]) (rest := []) 0 (Or.inl rfl) m92_251 (Nat.le_of_ble_eq_true rfl) rfl rfl (Nat.le_of_ble_eq_true rfl) ?_
  refine c_sp_6_2_0 (m := lgM m b [40]) (b := b + 1) (nv := nv) (mv := mv) (lgM_4 hb [40]) (by omega) ((lgM_o (by decide) [40]).trans hk) ((lgM_o (by decide) [40]).trans h0) ((lgM_o (by decide) [40]).trans h1) (by omega) ?_
  rw [show lgM (lgM m b [40]) (b + 1) [12] = lgM m b [40, 12] from lgM_a [40] [12]]
  refine gwr ?_
  refine g_ineg m92_254 rfl ?_
  refine g_iret m92_255 rt_92 ?_
  exact hQ
set_option maxRecDepth 20000 in
set_option maxHeartbeats 40000000 in
theorem c_sp_6_2_6 {b e : Nat} {x nv mv : Int32} (hb : m 45 4 = nI b) (hb40 : b + 3 ≤ 40) (hk : m 45 2 = nI 6) (h0 : m 45 0 = nv) (h1 : m 45 1 = mv) (he : e + 2 ≤ 30) (hQ : Q (some (.int ((-(x - mv)) ^^^ nv))) (H (lgM m b [70, 40, 12]) ln N)) : WP xs (d + 5) 92 0 0 [.ref (77), .int (2), .int (6), .int (x), .int (nI (e))] (H m ln N) Q := by
  refine wp_x mx_92 (L := [some (.ref (77)), some (.int (2)), some (.int (6)), some (.int (x)), some (.int (nI (e))), none, none, none, none, none]) (Nat.le_of_ble_eq_true rfl) rfl ?_
  refine g_iload_n m92_0 rfl ?_
  refine g_iload_n m92_1 rfl ?_
  refine g_cs (args := [.int (2), .int (6)]) (rest := []) 0 (Or.inl rfl) m92_2 (Nat.le_of_ble_eq_true rfl) rfl rfl (Nat.le_of_ble_eq_true rfl) ?_
  refine c_own_2_6 ?_
  refine gwr ?_
  refine g_istore (L2 := [some (.ref (77)), some (.int (2)), some (.int (6)), some (.int (x)), some (.int (nI (e))), some (.int (6)), none, none, none, none]) m92_5 rfl rfl ?_
  refine g_iload m92_7 rfl ?_
  refine h_if_ltF (xi := 6) (zi := 0) m92_9 rfl rfl (by decide) ?_
  refine g_iload m92_12 rfl ?_
  refine g_bipush m92_14 ?_
  refine h_ic_leT (xi := ((e : Nat) : Int)) (zi := 30) m92_16 (nI_toInt (by omega)) rfl (by omega) ?_
  refine g_gst m92_21 rfl ?_
  refine g_iconst m92_24 ?_
  refine g_iload m92_25 rfl ?_
  refine g_imul (u := (24 : Int32)) m92_27 (by decide) ?_
  refine g_iload_n m92_28 rfl ?_
  refine g_iadd (u := (26 : Int32)) m92_29 (by decide) ?_
  refine g_iald (x := (70 : Int32)) m92_30 rfl (show vp_in (nI 26) 28 from vp_in_nI (by decide) (by decide)) (by decide +kernel) ?_
  refine g_istore (L2 := [some (.ref (77)), some (.int (2)), some (.int (6)), some (.int (x)), some (.int (nI (e))), some (.int (6)), some (.int (70)), none, none, none]) m92_31 rfl rfl ?_
  refine g_aload_n m92_33 rfl ?_
  refine g_iload m92_34 rfl ?_
  refine h_cv (k := 45) (p := 77) (args := [.int (70)]) (rest := []) m92_36 cn_50 (Nat.le_of_ble_eq_true rfl) rfl rfl rfl (t_45 _ _) (Nat.le_of_ble_eq_true rfl) ?_
  refine c_begin (b := b) (c := 70) hb (by omega) ?_
  refine gwr0 ?_
  refine g_aload_n m92_39 rfl ?_
  refine h_gfI (k := 45) (p := 77) m92_40 rfl (t_45 _ _) rfl ((lgM_o (by decide) [70]).trans hk) ?_
  refine g_istore (L2 := [some (.ref (77)), some (.int (2)), some (.int (6)), some (.int (x)), some (.int (nI (e))), some (.int (6)), some (.int (70)), some (.int (6)), none, none]) m92_43 rfl rfl ?_
  refine g_gst m92_45 rfl ?_
  refine g_iload m92_48 rfl ?_
  refine g_iald (x := (3 : Int32)) m92_50 rfl (show vp_in (nI 6) 7 from vp_in_nI (by decide) (by decide)) (by decide +kernel) ?_
  refine g_istore (L2 := [some (.ref (77)), some (.int (2)), some (.int (6)), some (.int (x)), some (.int (nI (e))), some (.int (6)), some (.int (70)), some (.int (6)), some (.int (3)), none]) m92_51 rfl rfl ?_
  refine g_iload m92_53 rfl ?_
  refine g_iconst m92_55 ?_
  refine g_iadd (u := nI (e + 1)) m92_56 (nI_add e 1) ?_
  refine g_istore (L2 := [some (.ref (77)), some (.int (2)), some (.int (6)), some (.int (x)), some (.int (nI (e))), some (.int (6)), some (.int (70)), some (.int (6)), some (.int (3)), some (.int (nI (e + 1)))]) m92_57 rfl rfl ?_
  refine g_iload m92_59 rfl ?_
  refine gs m92_61 ?_
  refine gwpc (pc' := 291) rfl ?_
  refine g_aload_n m92_291 rfl ?_
  refine g_iconst m92_292 ?_
  refine g_iload m92_293 rfl ?_
  refine g_iload_n m92_295 rfl ?_
  refine g_iload m92_296 rfl ?_
  refine g_cs (args := [.ref (77), .int (2), .int (3), .int (x), .int (nI (e + 1))]) (rest := []) 0 (Or.inl rfl) m92_298 (Nat.le_of_ble_eq_true rfl) rfl rfl (Nat.le_of_ble_eq_true rfl) ?_
  refine c_sp_6_2_3 (m := lgM m b [70]) (b := b + 1) (nv := nv) (mv := mv) (lgM_4 hb [70]) (by omega) ((lgM_o (by decide) [70]).trans hk) ((lgM_o (by decide) [70]).trans h0) ((lgM_o (by decide) [70]).trans h1) (by omega) ?_
  rw [show lgM (lgM m b [70]) (b + 1) [40, 12] = lgM m b [70, 40, 12] from lgM_a [70] [40, 12]]
  refine gwr ?_
  refine g_aload_n m92_301 rfl ?_
  refine h_gfI (k := 45) (p := 77) m92_302 rfl (t_45 _ _) rfl ((lgM_o (by decide) [70, 40, 12]).trans h0) ?_
  refine g_ixor m92_305 rfl ?_
  refine g_iret m92_306 rt_92 ?_
  exact hQ
set_option maxRecDepth 20000 in
set_option maxHeartbeats 40000000 in
theorem c_sp_6_3_3 {b e : Nat} {x nv mv : Int32} (hb : m 45 4 = nI b) (hb40 : b + 6 ≤ 40) (hk : m 45 2 = nI 6) (h0 : m 45 0 = nv) (h1 : m 45 1 = mv) (he : e + 3 ≤ 30) (hQ : Q (some (.int (((x + nv) * (2 : Int32)) ^^^ ((-(x - mv)) ^^^ nv)))) (H (lgM m b [13, 11, 10, 70, 40, 12]) ln N)) : WP xs (d + 6) 92 0 0 [.ref (77), .int (3), .int (3), .int (x), .int (nI (e))] (H m ln N) Q := by
  refine wp_x mx_92 (L := [some (.ref (77)), some (.int (3)), some (.int (3)), some (.int (x)), some (.int (nI (e))), none, none, none, none, none]) (Nat.le_of_ble_eq_true rfl) rfl ?_
  refine g_iload_n m92_0 rfl ?_
  refine g_iload_n m92_1 rfl ?_
  refine g_cs (args := [.int (3), .int (3)]) (rest := []) 0 (Or.inl rfl) m92_2 (Nat.le_of_ble_eq_true rfl) rfl rfl (Nat.le_of_ble_eq_true rfl) ?_
  refine c_own_3_3 ?_
  refine gwr ?_
  refine g_istore (L2 := [some (.ref (77)), some (.int (3)), some (.int (3)), some (.int (x)), some (.int (nI (e))), some (.int (0)), none, none, none, none]) m92_5 rfl rfl ?_
  refine g_iload m92_7 rfl ?_
  refine h_if_ltF (xi := 0) (zi := 0) m92_9 rfl rfl (by decide) ?_
  refine g_iload m92_12 rfl ?_
  refine g_bipush m92_14 ?_
  refine h_ic_leT (xi := ((e : Nat) : Int)) (zi := 30) m92_16 (nI_toInt (by omega)) rfl (by omega) ?_
  refine g_gst m92_21 rfl ?_
  refine g_iconst m92_24 ?_
  refine g_iload m92_25 rfl ?_
  refine g_imul (u := (0 : Int32)) m92_27 (by decide) ?_
  refine g_iload_n m92_28 rfl ?_
  refine g_iadd (u := (3 : Int32)) m92_29 (by decide) ?_
  refine g_iald (x := (13 : Int32)) m92_30 rfl (show vp_in (nI 3) 28 from vp_in_nI (by decide) (by decide)) (by decide +kernel) ?_
  refine g_istore (L2 := [some (.ref (77)), some (.int (3)), some (.int (3)), some (.int (x)), some (.int (nI (e))), some (.int (0)), some (.int (13)), none, none, none]) m92_31 rfl rfl ?_
  refine g_aload_n m92_33 rfl ?_
  refine g_iload m92_34 rfl ?_
  refine h_cv (k := 45) (p := 77) (args := [.int (13)]) (rest := []) m92_36 cn_50 (Nat.le_of_ble_eq_true rfl) rfl rfl rfl (t_45 _ _) (Nat.le_of_ble_eq_true rfl) ?_
  refine c_begin (b := b) (c := 13) hb (by omega) ?_
  refine gwr0 ?_
  refine g_aload_n m92_39 rfl ?_
  refine h_gfI (k := 45) (p := 77) m92_40 rfl (t_45 _ _) rfl ((lgM_o (by decide) [13]).trans hk) ?_
  refine g_istore (L2 := [some (.ref (77)), some (.int (3)), some (.int (3)), some (.int (x)), some (.int (nI (e))), some (.int (0)), some (.int (13)), some (.int (6)), none, none]) m92_43 rfl rfl ?_
  refine g_gst m92_45 rfl ?_
  refine g_iload m92_48 rfl ?_
  refine g_iald (x := (-1 : Int32)) m92_50 rfl (show vp_in (nI 0) 7 from vp_in_nI (by decide) (by decide)) (by decide +kernel) ?_
  refine g_istore (L2 := [some (.ref (77)), some (.int (3)), some (.int (3)), some (.int (x)), some (.int (nI (e))), some (.int (0)), some (.int (13)), some (.int (6)), some (.int (-1)), none]) m92_51 rfl rfl ?_
  refine g_iload m92_53 rfl ?_
  refine g_iconst m92_55 ?_
  refine g_iadd (u := nI (e + 1)) m92_56 (nI_add e 1) ?_
  refine g_istore (L2 := [some (.ref (77)), some (.int (3)), some (.int (3)), some (.int (x)), some (.int (nI (e))), some (.int (0)), some (.int (13)), some (.int (6)), some (.int (-1)), some (.int (nI (e + 1)))]) m92_57 rfl rfl ?_
  refine g_iload m92_59 rfl ?_
  refine gs m92_61 ?_
  refine gwpc (pc' := 187) rfl ?_
  refine g_aload_n m92_187 rfl ?_
  refine g_iconst m92_188 ?_
  refine g_iload m92_189 rfl ?_
  refine g_iload_n m92_191 rfl ?_
  refine g_iload m92_192 rfl ?_
  refine g_cs (args := [.ref (77), .int (1), .int (6), .int (x), .int (nI (e + 1))]) (rest := []) 0 (Or.inl rfl) m92_194 (Nat.le_of_ble_eq_true rfl) rfl rfl (Nat.le_of_ble_eq_true rfl) ?_
  refine c_sp_6_1_6 (m := lgM m b [13]) (b := b + 1) (nv := nv) (mv := mv) (lgM_4 hb [13]) (by omega) ((lgM_o (by decide) [13]).trans hk) ((lgM_o (by decide) [13]).trans h0) ((lgM_o (by decide) [13]).trans h1) (by omega) ?_
  rw [show lgM (lgM m b [13]) (b + 1) [11, 10] = lgM m b [13, 11, 10] from lgM_a [13] [11, 10]]
  refine gwr ?_
  refine g_aload_n m92_197 rfl ?_
  refine g_iconst m92_198 ?_
  refine g_iload m92_199 rfl ?_
  refine g_iload_n m92_201 rfl ?_
  refine g_iload m92_202 rfl ?_
  refine g_cs (args := [.ref (77), .int (2), .int (6), .int (x), .int (nI (e + 1))]) (rest := [.int (((x + nv) * (2 : Int32)))]) 0 (Or.inl rfl) m92_204 (Nat.le_of_ble_eq_true rfl) rfl rfl (Nat.le_of_ble_eq_true rfl) ?_
  refine c_sp_6_2_6 (m := lgM m b [13, 11, 10]) (b := b + 3) (nv := nv) (mv := mv) (lgM_4 hb [13, 11, 10]) (by omega) ((lgM_o (by decide) [13, 11, 10]).trans hk) ((lgM_o (by decide) [13, 11, 10]).trans h0) ((lgM_o (by decide) [13, 11, 10]).trans h1) (by omega) ?_
  rw [show lgM (lgM m b [13, 11, 10]) (b + 3) [70, 40, 12] = lgM m b [13, 11, 10, 70, 40, 12] from lgM_a [13, 11, 10] [70, 40, 12]]
  refine gwr ?_
  refine g_ixor m92_207 rfl ?_
  refine g_iret m92_208 rt_92 ?_
  exact hQ
set_option maxRecDepth 20000 in
set_option maxHeartbeats 40000000 in
theorem c_sp_6_3_6 {b e : Nat} {x nv mv : Int32} (hb : m 45 4 = nI b) (hb40 : b + 9 ≤ 40) (hk : m 45 2 = nI 6) (h0 : m 45 0 = nv) (h1 : m 45 1 = mv) (he : e + 4 ≤ 30) (hQ : Q (some (.int (((x + nv) * (2 : Int32)) - (((x + nv) * (2 : Int32)) ^^^ ((-(x - mv)) ^^^ nv))))) (H (lgM m b [71, 11, 10, 13, 11, 10, 70, 40, 12]) ln N)) : WP xs (d + 7) 92 0 0 [.ref (77), .int (3), .int (6), .int (x), .int (nI (e))] (H m ln N) Q := by
  refine wp_x mx_92 (L := [some (.ref (77)), some (.int (3)), some (.int (6)), some (.int (x)), some (.int (nI (e))), none, none, none, none, none]) (Nat.le_of_ble_eq_true rfl) rfl ?_
  refine g_iload_n m92_0 rfl ?_
  refine g_iload_n m92_1 rfl ?_
  refine g_cs (args := [.int (3), .int (6)]) (rest := []) 0 (Or.inl rfl) m92_2 (Nat.le_of_ble_eq_true rfl) rfl rfl (Nat.le_of_ble_eq_true rfl) ?_
  refine c_own_3_6 ?_
  refine gwr ?_
  refine g_istore (L2 := [some (.ref (77)), some (.int (3)), some (.int (6)), some (.int (x)), some (.int (nI (e))), some (.int (6)), none, none, none, none]) m92_5 rfl rfl ?_
  refine g_iload m92_7 rfl ?_
  refine h_if_ltF (xi := 6) (zi := 0) m92_9 rfl rfl (by decide) ?_
  refine g_iload m92_12 rfl ?_
  refine g_bipush m92_14 ?_
  refine h_ic_leT (xi := ((e : Nat) : Int)) (zi := 30) m92_16 (nI_toInt (by omega)) rfl (by omega) ?_
  refine g_gst m92_21 rfl ?_
  refine g_iconst m92_24 ?_
  refine g_iload m92_25 rfl ?_
  refine g_imul (u := (24 : Int32)) m92_27 (by decide) ?_
  refine g_iload_n m92_28 rfl ?_
  refine g_iadd (u := (27 : Int32)) m92_29 (by decide) ?_
  refine g_iald (x := (71 : Int32)) m92_30 rfl (show vp_in (nI 27) 28 from vp_in_nI (by decide) (by decide)) (by decide +kernel) ?_
  refine g_istore (L2 := [some (.ref (77)), some (.int (3)), some (.int (6)), some (.int (x)), some (.int (nI (e))), some (.int (6)), some (.int (71)), none, none, none]) m92_31 rfl rfl ?_
  refine g_aload_n m92_33 rfl ?_
  refine g_iload m92_34 rfl ?_
  refine h_cv (k := 45) (p := 77) (args := [.int (71)]) (rest := []) m92_36 cn_50 (Nat.le_of_ble_eq_true rfl) rfl rfl rfl (t_45 _ _) (Nat.le_of_ble_eq_true rfl) ?_
  refine c_begin (b := b) (c := 71) hb (by omega) ?_
  refine gwr0 ?_
  refine g_aload_n m92_39 rfl ?_
  refine h_gfI (k := 45) (p := 77) m92_40 rfl (t_45 _ _) rfl ((lgM_o (by decide) [71]).trans hk) ?_
  refine g_istore (L2 := [some (.ref (77)), some (.int (3)), some (.int (6)), some (.int (x)), some (.int (nI (e))), some (.int (6)), some (.int (71)), some (.int (6)), none, none]) m92_43 rfl rfl ?_
  refine g_gst m92_45 rfl ?_
  refine g_iload m92_48 rfl ?_
  refine g_iald (x := (3 : Int32)) m92_50 rfl (show vp_in (nI 6) 7 from vp_in_nI (by decide) (by decide)) (by decide +kernel) ?_
  refine g_istore (L2 := [some (.ref (77)), some (.int (3)), some (.int (6)), some (.int (x)), some (.int (nI (e))), some (.int (6)), some (.int (71)), some (.int (6)), some (.int (3)), none]) m92_51 rfl rfl ?_
  refine g_iload m92_53 rfl ?_
  refine g_iconst m92_55 ?_
  refine g_iadd (u := nI (e + 1)) m92_56 (nI_add e 1) ?_
  refine g_istore (L2 := [some (.ref (77)), some (.int (3)), some (.int (6)), some (.int (x)), some (.int (nI (e))), some (.int (6)), some (.int (71)), some (.int (6)), some (.int (3)), some (.int (nI (e + 1)))]) m92_57 rfl rfl ?_
  refine g_iload m92_59 rfl ?_
  refine gs m92_61 ?_
  refine gwpc (pc' := 307) rfl ?_
  refine g_aload_n m92_307 rfl ?_
  refine g_iconst m92_308 ?_
  refine g_iload m92_309 rfl ?_
  refine g_iload_n m92_311 rfl ?_
  refine g_iload m92_312 rfl ?_
  refine g_cs (args := [.ref (77), .int (1), .int (6), .int (x), .int (nI (e + 1))]) (rest := []) 0 (Or.inl rfl) m92_314 (Nat.le_of_ble_eq_true rfl) rfl rfl (Nat.le_of_ble_eq_true rfl) ?_
  refine c_sp_6_1_6 (m := lgM m b [71]) (b := b + 1) (nv := nv) (mv := mv) (lgM_4 hb [71]) (by omega) ((lgM_o (by decide) [71]).trans hk) ((lgM_o (by decide) [71]).trans h0) ((lgM_o (by decide) [71]).trans h1) (by omega) ?_
  rw [show lgM (lgM m b [71]) (b + 1) [11, 10] = lgM m b [71, 11, 10] from lgM_a [71] [11, 10]]
  refine gwr ?_
  refine g_aload_n m92_317 rfl ?_
  refine g_iconst m92_318 ?_
  refine g_iload m92_319 rfl ?_
  refine g_iload_n m92_321 rfl ?_
  refine g_iload m92_322 rfl ?_
  refine g_cs (args := [.ref (77), .int (3), .int (3), .int (x), .int (nI (e + 1))]) (rest := [.int (((x + nv) * (2 : Int32)))]) 0 (Or.inl rfl) m92_324 (Nat.le_of_ble_eq_true rfl) rfl rfl (Nat.le_of_ble_eq_true rfl) ?_
  refine c_sp_6_3_3 (m := lgM m b [71, 11, 10]) (b := b + 3) (nv := nv) (mv := mv) (lgM_4 hb [71, 11, 10]) (by omega) ((lgM_o (by decide) [71, 11, 10]).trans hk) ((lgM_o (by decide) [71, 11, 10]).trans h0) ((lgM_o (by decide) [71, 11, 10]).trans h1) (by omega) ?_
  rw [show lgM (lgM m b [71, 11, 10]) (b + 3) [13, 11, 10, 70, 40, 12] = lgM m b [71, 11, 10, 13, 11, 10, 70, 40, 12] from lgM_a [71, 11, 10] [13, 11, 10, 70, 40, 12]]
  refine gwr ?_
  refine g_isub m92_327 rfl ?_
  refine g_iret m92_328 rt_92 ?_
  exact hQ
end
