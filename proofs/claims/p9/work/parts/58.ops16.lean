/-! BYTES FED -/
def byF (w : Int64) (i : Nat) : Nat := w.toBitVec.toNat / 2 ^ (8 * i) % 256
theorem sl64 : ∀ i, i < 8 → ((((nI (8 * i)).toInt64.toUInt64 &&& Int64.toUInt64 63)).toBitVec % 64).toNat = 8 * i := by decide +kernel
theorem sl64s : ∀ i, i < 8 → ((nI (8 * i)).toInt64 &&& 63).toBitVec.smod 64 = BitVec.ofNat 64 (8 * i) := by decide +kernel
theorem byC (w : Int64) (i : Nat) (hi : i < 8) : ((w.toUInt64 >>> ((nI (8 * i)).toInt64.toUInt64 &&& Int64.toUInt64 63)).toInt64).toInt32 &&& 255 = nI (byF w i) := by
  refine Int32.toBitVec_inj.mp (BitVec.eq_of_getLsbD_eq ?_)
  intro j hj
  show (((w.toBitVec >>> ((((nI (8 * i)).toInt64.toUInt64 &&& Int64.toUInt64 63)).toBitVec % 64)).signExtend 32) &&& 255#32).getLsbD j = (BitVec.ofNat 32 (byF w i)).getLsbD j
  have h255 : (255#32).getLsbD j = decide (j < 8) := by
    rw [BitVec.getLsbD_ofNat, show 255 = 2 ^ 8 - 1 from rfl, Nat.testBit_two_pow_sub_one]
    simp [hj]
  rw [BitVec.getLsbD_and, h255, BitVec.getLsbD_signExtend, BitVec.ushiftRight_eq', BitVec.getLsbD_ushiftRight, sl64 i hi, BitVec.getLsbD_ofNat]
  unfold byF
  rw [show 256 = 2 ^ 8 from rfl, Nat.testBit_mod_two_pow, Nat.testBit_div_two_pow]
  simp [hj, BitVec.getLsbD, show j < 64 by omega, Bool.and_comm, Nat.add_comm]
theorem byM (w : Int64) (i : Nat) (hi : i < 8) : ((w >>> ((nI (8 * i)).toInt64 &&& 63)) &&& Int64.ofNat 255).toInt32 = nI (byF w i) := by
  refine Int32.toBitVec_inj.mp (BitVec.eq_of_getLsbD_eq ?_)
  intro j hj
  show (((w.toBitVec.sshiftRight' (((nI (8 * i)).toInt64 &&& 63).toBitVec.smod 64)) &&& 255#64).signExtend 32).getLsbD j = (BitVec.ofNat 32 (byF w i)).getLsbD j
  have h255 : (255#64).getLsbD j = decide (j < 8) := by
    rw [BitVec.getLsbD_ofNat, show 255 = 2 ^ 8 - 1 from rfl, Nat.testBit_two_pow_sub_one]
    simp [show j < 64 by omega]
  rw [sl64s i hi, BitVec.getLsbD_signExtend, BitVec.getLsbD_and, h255, BitVec.getLsbD_ofNat]
  have e : (BitVec.ofNat 64 (8 * i)).toNat = 8 * i := by rw [BitVec.toNat_ofNat]; omega
  unfold byF
  rw [show 256 = 2 ^ 8 from rfl, Nat.testBit_mod_two_pow, Nat.testBit_div_two_pow]
  unfold BitVec.sshiftRight'
  rw [e, BitVec.getLsbD_sshiftRight]
  by_cases h8 : j < 8
  · simp [hj, BitVec.getLsbD, h8, show j < 64 by omega, show ¬ 64 ≤ j by omega, Nat.add_comm]
    intro h
    omega
  · simp [h8]
    intro h1 h2
    omega
theorem byF_lt (w : Int64) (i : Nat) : byF w i < 256 := Nat.mod_lt _ (by decide)
def fdM (m : MW) (f : Nat) (w : Int64) : Nat → MW
  | 0 => m
  | q + 1 => upm (upm (fdM m f w q) 38 (f + q) (nI (byF w q))) 37 2 (nI (f + q + 1))
theorem fdM_f {m : MW} {f : Nat} {w : Int64} (h : m 37 2 = nI f) : ∀ q, fdM m f w q 37 2 = nI (f + q)
  | 0 => h
  | q + 1 => upm_self _ _ _ _
def fdR (m : MW) (f : Nat) (w : Int64) : Nat → MW
  | 0 => m
  | q + 1 => upm (upm (fdR m f w q) 58 (64 + (f + q)) (nI (byF w q))) 58 3 (nI (f + q + 1))
theorem fdR_f {m : MW} {f : Nat} {w : Int64} (h : m 58 3 = nI f) : ∀ q, fdR m f w q 58 3 = nI (f + q)
  | 0 => h
  | q + 1 => upm_self _ _ _ _
section
variable {xs : List Int32} {d : Nat} {h : AH} {Q : QT} {m : MW} {ln : Nat → Nat} {N : Nat}
set_option maxRecDepth 20000 in
set_option maxHeartbeats 40000000 in
theorem x_feed {w : Int64} {v : Int32} {f : Nat} (hf : m 37 2 = nI f) (hf50 : f ≤ 50) (hE1 : (v.toInt < 1 ∨ 8 < v.toInt) → Q (some (.int (-1000000000 - nI 1))) (H (erm m 1) ln N)) (hE4 : (∃ k : Nat, v = nI k ∧ k ≤ 8 ∧ 50 < f + k) → Q (some (.int (-1000000000 - nI 4))) (H (erm m 4) ln N)) (hY : ∀ k : Nat, v = nI k → 1 ≤ k → k ≤ 8 → f + k ≤ 50 → Q (some (.int (nI (f + k)))) (H (fdM m f w k) ln N)) : WP xs (d + 2) 67 0 0 [.ref (32), .long w, .int (v)] (H m ln N) Q := by
  refine wp_x mx_67 (L := [some (.ref (32)), some (.long w), none, some (.int (v)), none]) (Nat.le_of_ble_eq_true rfl) rfl ?_
  by_cases hv : v.toInt < 1 ∨ 8 < v.toInt
  · skip
    refine g_iload_n m67_0 rfl ?_
    refine g_iconst m67_1 ?_
    refine h_ic_lt (xi := v.toInt) (zi := 1) m67_2 rfl rfl (fun c1 => ?_) (fun c1 => ?_)
    · skip
      refine g_aload_n m67_11 rfl ?_
      refine g_iconst m67_12 ?_
      refine h_cv (k := 0) (p := 32) (args := [.int (1)]) (rest := []) m67_13 cn_55 (Nat.le_of_ble_eq_true rfl) rfl rfl rfl (t_0 _ _) (Nat.le_of_ble_eq_true rfl) ?_
      refine c_error (e := 1) (by decide) (by decide) ?_
      refine gwr ?_
      refine g_iret m67_16 rt_67 ?_
      exact hE1 (by omega)
    · skip
      refine g_iload_n m67_5 rfl ?_
      refine g_bipush m67_6 ?_
      refine h_ic_le (xi := v.toInt) (zi := 8) m67_8 rfl rfl (fun c2 => ?_) (fun c2 => ?_)
      · skip
        exfalso
        omega
      · skip
        refine g_aload_n m67_11 rfl ?_
        refine g_iconst m67_12 ?_
        refine h_cv (k := 0) (p := 32) (args := [.int (1)]) (rest := []) m67_13 cn_55 (Nat.le_of_ble_eq_true rfl) rfl rfl rfl (t_0 _ _) (Nat.le_of_ble_eq_true rfl) ?_
        refine c_error (e := 1) (by decide) (by decide) ?_
        refine gwr ?_
        refine g_iret m67_16 rt_67 ?_
        exact hE1 (by omega)
  · skip
    obtain ⟨k, ⟨hk1, hk2⟩, hk3⟩ := nat_of (x := v) (lo := 1) (hi := 8) (by omega) (by omega)
    obtain rfl : v = nI k := hk3
    have ek : (nI k).toInt = (k : Int) := nI_toInt (by omega)
    refine g_iload_n m67_0 rfl ?_
    refine g_iconst m67_1 ?_
    refine h_ic_ltF (xi := ((k : Nat) : Int)) (zi := 1) m67_2 (nI_toInt (by omega)) rfl (by omega) ?_
    refine g_iload_n m67_5 rfl ?_
    refine g_bipush m67_6 ?_
    refine h_ic_leT (xi := ((k : Nat) : Int)) (zi := 8) m67_8 (nI_toInt (by omega)) rfl (by omega) ?_
    refine g_aload_n m67_17 rfl ?_
    refine h_gfR (c := 69) (k := 0) (p := 32) m67_18 rfl (t_0 _ _) rfl (Nat.le_of_ble_eq_true rfl) ?_
    refine h_gfI (k := 37) (p := 69) m67_21 rfl (t_37 _ _) rfl (hf) ?_
    refine g_bipush m67_24 ?_
    refine g_iload_n m67_26 rfl ?_
    refine g_isub (u := nI (50 - k)) m67_27 (pk_sub (a := 50) (b := k) (by omega)) ?_
    refine h_ic_le (xi := ((f : Nat) : Int)) (zi := ((50 - k : Nat) : Int)) m67_28 (nI_toInt (by omega)) (nI_toInt (by omega)) (fun c3 => ?_) (fun c3 => ?_)
    · skip
      refine g_iconst m67_37 ?_
      refine g_istore (L2 := [some (.ref (32)), some (.long w), none, some (.int (nI (k))), some (.int (0))]) m67_38 rfl rfl ?_
      have key : ∀ (r : Nat) (q : Nat), q + r = k → gw xs (WP xs (d + 1)) 67 Q 40 [some (.ref (32)), some (.long w), none, some (.int (nI (k))), some (.int (nI (q)))] [] (H (fdM m f w q) ln N) 0 0 := by
        intro r
        induction r with
        | zero =>
          intro q hq
          obtain rfl : q = k := by omega
          refine g_iload m67_40 rfl ?_
          refine g_iload_n m67_42 rfl ?_
          refine h_ic_geT (xi := ((q : Nat) : Int)) (zi := ((q : Nat) : Int)) m67_43 (nI_toInt (by omega)) (nI_toInt (by omega)) (by omega) ?_
          refine g_aload_n m67_92 rfl ?_
          refine h_gfR (c := 69) (k := 0) (p := 32) m67_93 rfl (t_0 _ _) rfl (Nat.le_of_ble_eq_true rfl) ?_
          refine h_gfI (k := 37) (p := 69) m67_96 rfl (t_37 _ _) rfl (fdM_f hf q) ?_
          refine g_iret m67_99 rt_67 ?_
          exact hY q rfl (by omega) (by omega) (by omega)
        | succ r ih =>
          intro q hq
          refine g_iload m67_40 rfl ?_
          refine g_iload_n m67_42 rfl ?_
          refine h_ic_geF (xi := ((q : Nat) : Int)) (zi := ((k : Nat) : Int)) m67_43 (nI_toInt (by omega)) (nI_toInt (by omega)) (by omega) ?_
          refine g_aload_n m67_46 rfl ?_
          refine h_gfR (c := 69) (k := 0) (p := 32) m67_47 rfl (t_0 _ _) rfl (Nat.le_of_ble_eq_true rfl) ?_
          refine h_gfR (c := 70) (k := 37) (p := 69) m67_50 rfl (t_37 _ _) rfl (Nat.le_of_ble_eq_true rfl) ?_
          refine g_aload_n m67_53 rfl ?_
          refine h_gfR (c := 69) (k := 0) (p := 32) m67_54 rfl (t_0 _ _) rfl (Nat.le_of_ble_eq_true rfl) ?_
          refine h_gfI (k := 37) (p := 69) m67_57 rfl (t_37 _ _) rfl (fdM_f hf q) ?_
          refine g_lload_n m67_60 rfl ?_
          refine g_bipush m67_61 ?_
          refine g_iload m67_63 rfl ?_
          refine g_imul (u := nI (8 * q)) m67_65 (pk_mul 8 q) ?_
          refine g_lushr m67_66 ?_
          refine g_l2i m67_67 ?_
          refine g_sipush m67_68 ?_
          refine g_iand (u := nI (byF w q)) m67_71 (byC w q (by omega)) ?_
          refine h_ias (k := 38) (p := 70) (j := f + q) m67_72 rfl (t_38 _ _) (rfl) (by omega) (Nat.le_of_ble_eq_true rfl) ?_
          refine g_aload_n m67_73 rfl ?_
          refine h_gfR (c := 69) (k := 0) (p := 32) m67_74 rfl (t_0 _ _) rfl (Nat.le_of_ble_eq_true rfl) ?_
          refine g_dup m67_77 rfl ?_
          refine h_gfI (k := 37) (p := 69) m67_78 rfl (t_37 _ _) rfl ((upm_k _ _ (by decide)).trans (fdM_f hf q)) ?_
          refine g_iconst m67_81 ?_
          refine g_iadd (u := nI ((f + q) + 1)) m67_82 (nI_add (f + q) 1) ?_
          refine h_pfI (k := 37) (p := 69) m67_83 rfl (t_37 _ _) rfl trivial ?_
          refine g_iinc (L2 := [some (.ref (32)), some (.long w), none, some (.int (nI (k))), some (.int (nI (q + 1)))]) m67_86 rfl (nI_1 _) rfl rfl ?_
          refine g_goto m67_89 ?_
          exact ih (q + 1) (by omega)
      exact key k 0 (by omega)
    · skip
      refine g_aload_n m67_31 rfl ?_
      refine g_iconst m67_32 ?_
      refine h_cv (k := 0) (p := 32) (args := [.int (4)]) (rest := []) m67_33 cn_55 (Nat.le_of_ble_eq_true rfl) rfl rfl rfl (t_0 _ _) (Nat.le_of_ble_eq_true rfl) ?_
      refine c_error (e := 4) (by decide) (by decide) ?_
      refine gwr ?_
      refine g_iret m67_36 rt_67 ?_
      exact hE4 ⟨k, rfl, by omega, by omega⟩
set_option maxRecDepth 20000 in
set_option maxHeartbeats 40000000 in
theorem m_feed {w : Int64} {v : Int32} {f : Nat} (hf : m 58 3 = nI f) (hf50 : f ≤ 50) (hE1 : (v.toInt < 1 ∨ 8 < v.toInt) → Q (some (.int (-1000000001))) (H (ers m 1) ln N)) (hE4 : (∃ k : Nat, v = nI k ∧ k ≤ 8 ∧ 50 < f + k) → Q (some (.int (-1000000004))) (H (ers m 4) ln N)) (hY : ∀ k : Nat, v = nI k → 1 ≤ k → k ≤ 8 → f + k ≤ 50 → Q (some (.int (nI (f + k)))) (H (fdR m f w k) ln N)) : WP xs (d + 2) 139 0 0 [.ref (89), .long w, .int (v)] (H m ln N) Q := by
  refine wp_x mx_139 (L := [some (.ref (89)), some (.long w), none, some (.int (v)), none]) (Nat.le_of_ble_eq_true rfl) rfl ?_
  refine g_iload_n m139_0 rfl ?_
  refine g_iconst m139_1 ?_
  refine g_bipush m139_2 ?_
  refine g_cs (args := [.int (v), .int (1), .int (8)]) (rest := []) 0 (Or.inl rfl) m139_4 (Nat.le_of_ble_eq_true rfl) rfl rfl (Nat.le_of_ble_eq_true rfl) ?_
  refine c_in (A := 1) (B := 8) rfl rfl (by decide) (fun jv ev a_1 a_1' => ?_) (fun a_1 => ?_)
  · subst ev
    refine gwr ?_
    refine h_if_neF (xi := 1) (zi := 0) m139_7 rfl rfl (by decide) ?_
    refine g_aload_n m139_17 rfl ?_
    refine h_gfR (c := 90) (k := 57) (p := 89) m139_18 rfl (t_57 _ _) rfl (Nat.le_of_ble_eq_true rfl) ?_
    refine g_iconst m139_21 ?_
    refine h_ial (k := 58) (p := 90) (j := 3) m139_22 rfl (t_58 _ _) (rfl) (by omega) (Nat.le_of_ble_eq_true rfl) (hf) ?_
    refine g_iload_n m139_23 rfl ?_
    refine g_iadd (u := nI (f + jv)) m139_24 (nI_add f jv) ?_
    refine g_bipush m139_25 ?_
    refine h_ic_le (xi := ((f + jv : Nat) : Int)) (zi := 50) m139_27 (nI_toInt (by omega)) rfl (fun c1 => ?_) (fun c1 => ?_)
    · skip
      refine g_iconst m139_37 ?_
      refine g_istore (L2 := [some (.ref (89)), some (.long w), none, some (.int (nI (jv))), some (.int (0))]) m139_38 rfl rfl ?_
      have key : ∀ (r : Nat) (q : Nat), q + r = jv → gw xs (WP xs (d + 1)) 139 Q 40 [some (.ref (89)), some (.long w), none, some (.int (nI (jv))), some (.int (nI (q)))] [] (H (fdR m f w q) ln N) 0 0 := by
        intro r
        induction r with
        | zero =>
          intro q hq
          obtain rfl : q = jv := by omega
          refine g_iload m139_40 rfl ?_
          refine g_iload_n m139_42 rfl ?_
          refine h_ic_geT (xi := ((q : Nat) : Int)) (zi := ((q : Nat) : Int)) m139_43 (nI_toInt (by omega)) (nI_toInt (by omega)) (by omega) ?_
          refine g_aload_n m139_88 rfl ?_
          refine h_gfR (c := 90) (k := 57) (p := 89) m139_89 rfl (t_57 _ _) rfl (Nat.le_of_ble_eq_true rfl) ?_
          refine g_iconst m139_92 ?_
          refine h_ial (k := 58) (p := 90) (j := 3) m139_93 rfl (t_58 _ _) (rfl) (by omega) (Nat.le_of_ble_eq_true rfl) (fdR_f hf q) ?_
          refine g_iret m139_94 rt_139 ?_
          exact hY q rfl (by omega) (by omega) (by omega)
        | succ r ih =>
          intro q hq
          refine g_iload m139_40 rfl ?_
          refine g_iload_n m139_42 rfl ?_
          refine h_ic_geF (xi := ((q : Nat) : Int)) (zi := ((jv : Nat) : Int)) m139_43 (nI_toInt (by omega)) (nI_toInt (by omega)) (by omega) ?_
          refine g_aload_n m139_46 rfl ?_
          refine h_gfR (c := 90) (k := 57) (p := 89) m139_47 rfl (t_57 _ _) rfl (Nat.le_of_ble_eq_true rfl) ?_
          refine g_bipush m139_50 ?_
          refine g_aload_n m139_52 rfl ?_
          refine h_gfR (c := 90) (k := 57) (p := 89) m139_53 rfl (t_57 _ _) rfl (Nat.le_of_ble_eq_true rfl) ?_
          refine g_iconst m139_56 ?_
          refine h_ial (k := 58) (p := 90) (j := 3) m139_57 rfl (t_58 _ _) (rfl) (by omega) (Nat.le_of_ble_eq_true rfl) (fdR_f hf q) ?_
          refine g_iadd (u := nI (64 + (f + q))) m139_58 (nI_add 64 (f + q)) ?_
          refine g_lload_n m139_59 rfl ?_
          refine g_bipush m139_60 ?_
          refine g_iload m139_62 rfl ?_
          refine g_imul (u := nI (8 * q)) m139_64 (pk_mul 8 q) ?_
          refine g_lshr m139_65 ?_
          refine g_ldc2 m139_66 ?_
          refine g_land m139_69 ?_
          refine g_l2i m139_70 ?_
          rw [byM w q (by omega)]
          refine h_ias (k := 58) (p := 90) (j := 64 + (f + q)) m139_71 rfl (t_58 _ _) (rfl) (by omega) (Nat.le_of_ble_eq_true rfl) ?_
          refine g_aload_n m139_72 rfl ?_
          refine h_gfR (c := 90) (k := 57) (p := 89) m139_73 rfl (t_57 _ _) rfl (Nat.le_of_ble_eq_true rfl) ?_
          refine g_iconst m139_76 ?_
          refine g_dup2 m139_77 rfl rfl ?_
          refine h_ial (k := 58) (p := 90) (j := 3) m139_78 rfl (t_58 _ _) (rfl) (by omega) (Nat.le_of_ble_eq_true rfl) ((upm_j _ _ (by omega)).trans (fdR_f hf q)) ?_
          refine g_iconst m139_79 ?_
          refine g_iadd (u := nI ((f + q) + 1)) m139_80 (nI_add (f + q) 1) ?_
          refine h_ias (k := 58) (p := 90) (j := 3) m139_81 rfl (t_58 _ _) (rfl) (by omega) (Nat.le_of_ble_eq_true rfl) ?_
          refine g_iinc (L2 := [some (.ref (89)), some (.long w), none, some (.int (nI (jv))), some (.int (nI (q + 1)))]) m139_82 rfl (nI_1 _) rfl rfl ?_
          refine g_goto m139_85 ?_
          exact ih (q + 1) (by omega)
      exact key jv 0 (by omega)
    · skip
      refine g_aload_n m139_30 rfl ?_
      refine g_ldci m139_31 rfl ?_
      refine h_cv (k := 57) (p := 89) (args := [.int (-1000000004)]) (rest := []) m139_33 cn_108 (Nat.le_of_ble_eq_true rfl) rfl rfl rfl (t_57 _ _) (Nat.le_of_ble_eq_true rfl) ?_
      refine c_errs (e := 4) (by decide) (by decide) (by decide) ?_
      refine gwr ?_
      refine g_iret m139_36 rt_139 ?_
      exact hE4 ⟨jv, rfl, by omega, by omega⟩
  · skip
    refine gwr ?_
    refine h_if_neT (xi := 0) (zi := 0) m139_7 rfl rfl (by decide) ?_
    refine g_aload_n m139_10 rfl ?_
    refine g_ldci m139_11 rfl ?_
    refine h_cv (k := 57) (p := 89) (args := [.int (-1000000001)]) (rest := []) m139_13 cn_108 (Nat.le_of_ble_eq_true rfl) rfl rfl rfl (t_57 _ _) (Nat.le_of_ble_eq_true rfl) ?_
    refine c_errs (e := 1) (by decide) (by decide) (by decide) ?_
    refine gwr ?_
    refine g_iret m139_16 rt_139 ?_
    exact hE1 (by omega)
end
