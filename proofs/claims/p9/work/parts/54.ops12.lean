/-! WHAT WOULD BE: the reference, again and again -/
theorem ls_P {a n : Nat} {p : Nat → Bool} (hn : n ≤ 8) (ha : a < 2 ^ n) : (nI a &&& (nI (bitsF p n) ^^^ (-1 : Int32))).toInt = 0 ↔ allF (fun w => !(Nat.testBit a w) || p w) n = true := by
  have h8 : 2 ^ n ≤ 256 := Nat.pow_le_pow_right (n := 2) (by decide) hn
  have e := and_no (a := a) (f := bitsF p n) (by omega)
  rw [e, all_y]
  constructor
  · intro h w hw
    cases haw : a.testBit w
    · rfl
    · have h2 := h w (by omega) haw
      rw [bitsF_t p n w hw] at h2
      rw [h2]
      rfl
  · intro h w hw haw
    have hwn : w < n := by
      by_cases c : w < n
      · exact c
      · have h3 : 2 ^ n ≤ 2 ^ w := Nat.pow_le_pow_right (by decide) (by omega)
        rw [Nat.testBit_lt_two_pow (by omega)] at haw
        exact absurd haw (by decide)
    have h2 := h w hwn
    rw [haw] at h2
    rw [bitsF_t p n w hwn]
    simpa using h2
theorem shamX_e {X : MW} {n i : Nat} {s : Int32} (hnn : nOf X = n) (hi : i < n) : shamX X (2 ^ i) s = upm X 5 i s := funext fun j => funext fun w => shamX_1 (by omega) j w
theorem sham_one {LK BL : LF} {X : MW} {n i k : Nat} {s : Int32} (hnn : nOf X = n) (hi : i < n) : allF (fun w => !(Nat.testBit (2 ^ i) w) || moreN LK BL (shamX X (2 ^ i) s) k w) n = moreN LK BL (upm X 5 i s) k i := by
  rw [shamX_e hnn hi, Bool.eq_iff_iff, all_y]
  constructor
  · intro h
    have h2 := h i hi
    rw [Nat.testBit_two_pow_self] at h2
    simpa using h2
  · intro h w hw
    rw [Nat.testBit_two_pow]
    by_cases e : i = w
    · subst e
      rw [h]
      simp
    · rw [decide_eq_false e]
      rfl
theorem vr_4 {m : MW} {v : Int32} : vr (upm m 58 4 v 58) = vr (m 58) := by
  funext j i
  unfold vr
  split
  · rw [upm_j _ _ (by decide), upm_j _ _ (by decide), upm_j _ _ (by decide)]
  · exact upm_j _ _ (by omega)
  · exact upm_j _ _ (by omega)
theorem tx_4 {m : MW} {v : Int32} (u : Nat) : txW (upm m 58 4 v 58) u = txW (m 58) u ∧ upm m 58 4 v 58 (5 + u) = m 58 (5 + u) := ⟨funext fun j => upm_j _ _ (by omega), upm_j _ _ (by omega)⟩
theorem TxOk.up4 {m : MW} {v : Int32} {u : Nat} (h : TxOk (m 58) u) : TxOk (upm m 58 4 v 58) u := by
  unfold TxOk
  rw [(tx_4 u).1, (tx_4 u).2]
  exact h
theorem rk_4 {m : MW} {v : Int32} : rkF (upm m 58 4 v 58) = rkF (m 58) := by
  have h := tx_4 (m := m) (v := v) 0
  unfold rkF nW
  rw [h.1]
  rw [show upm m 58 4 v 58 (5 + 0) = m 58 (5 + 0) from h.2]
  first | done | rfl
theorem rb_4 {m : MW} {v : Int32} : rbF (upm m 58 4 v 58) = rbF (m 58) := by
  have h := tx_4 (m := m) (v := v) 1
  unfold rbF nW
  rw [h.1]
  rw [show upm m 58 4 v 58 (5 + 1) = m 58 (5 + 1) from h.2]
  first | done | rfl
section
variable {xs : List Int32} {d : Nat} {h : AH} {Q : QT} {m : MW} {ln : Nat → Nat} {N : Nat}
set_option maxRecDepth 20000 in
set_option maxHeartbeats 40000000 in
theorem m_never {n : Nat} (hd : m 58 2 = nI n) (hn : n ≤ 8) (hX0 : TxOk (m 58) 0) (hX1 : TxOk (m 58) 1) (hWY : WF (vr (m 58))) (hY : ∀ m2, FrP m m2 → Q (some (.int (nI (bitsF (fun i => !(moreN (rkF (m 58)) (rbF (m 58)) (vr (m 58)) 60 i)) n)))) (H m2 ln N)) : WP xs (d + 818) 156 0 0 [.ref (89)] (H m ln N) Q := by
  refine wp_x mx_156 (L := [some (.ref (89))]) (Nat.le_of_ble_eq_true rfl) rfl ?_
  refine g_iconst m156_0 ?_
  refine g_aload_n m156_1 rfl ?_
  refine h_gfR (c := 90) (k := 57) (p := 89) m156_2 rfl (t_57 _ _) rfl (Nat.le_of_ble_eq_true rfl) ?_
  refine g_iconst m156_5 ?_
  refine h_ial (k := 58) (p := 90) (j := 2) m156_6 rfl (t_58 _ _) (rfl) (by omega) (Nat.le_of_ble_eq_true rfl) (hd) ?_
  refine g_ishl m156_7 rfl ?_
  refine g_iconst m156_8 ?_
  refine g_isub m156_9 rfl ?_
  refine g_aload_n m156_10 rfl ?_
  refine g_iconst m156_11 ?_
  refine g_iconst m156_12 ?_
  refine g_bipush m156_13 ?_
  refine h_cv (k := 57) (p := 89) (args := [.int (0), .int (-1), .int (60)]) (rest := [.int _]) m156_15 cn_155 (Nat.le_of_ble_eq_true rfl) rfl rfl rfl (t_57 _ _) (Nat.le_of_ble_eq_true rfl) ?_
  refine c_fedN (k := 60) hd hn hX0 hX1 hWY (by decide) (fun m2 hF => ?_)
  refine gwr ?_
  refine g_iconst m156_18 ?_
  refine g_ixor m156_19 rfl ?_
  refine g_iand (u := nI (2 ^ n - 1 - bitsF (moreN (rkF (m 58)) (rbF (m 58)) (vr (m 58)) 60) n)) m156_20 (and_not n (by omega) _ (bitsF_lt _ n)) ?_
  refine g_iret m156_21 rt_156 ?_
  rw [bits_not]
  exact hY m2 hF
set_option maxRecDepth 20000 in
set_option maxHeartbeats 40000000 in
theorem c_leastSham {n a k : Nat} (hd : m 58 2 = nI n) (hn : n ≤ 8) (hX0 : TxOk (m 58) 0) (hX1 : TxOk (m 58) 1) (hWY : WF (vr (m 58))) (ha : a < 2 ^ n) (hk : k ≤ 100) (hN : leastF (fun s => allF (fun w => !(Nat.testBit a w) || moreN (rkF (m 58)) (rbF (m 58)) (shamX (vr (m 58)) a (nI s)) k w) n) 10 0 = none → ∀ m2, FrP m m2 → Q (some (.int (-1))) (H m2 ln N)) (hY : ∀ s : Nat, s ≤ 9 → leastF (fun s => allF (fun w => !(Nat.testBit a w) || moreN (rkF (m 58)) (rbF (m 58)) (shamX (vr (m 58)) a (nI s)) k w) n) 10 0 = some s → ∀ m2, FrP m m2 → Q (some (.int (nI s))) (H m2 ln N)) : WP xs (d + 818) 157 0 0 [.ref (89), .int (nI (a)), .int (nI (k))] (H m ln N) Q := by
  refine wp_x mx_157 (L := [some (.ref (89)), some (.int (nI (a))), some (.int (nI (k))), none]) (Nat.le_of_ble_eq_true rfl) rfl ?_
  have h8 : 2 ^ n ≤ 256 := Nat.pow_le_pow_right (n := 2) (by decide) hn
  refine g_iconst m157_0 ?_
  refine g_istore_n (L2 := [some (.ref (89)), some (.int (nI (a))), some (.int (nI (k))), some (.int (0))]) m157_1 rfl rfl ?_
  have key : ∀ (r : Nat) (s : Nat) (m2 : MW), s + r = 10 → FrP m m2 → leastF (fun s => allF (fun w => !(Nat.testBit a w) || moreN (rkF (m 58)) (rbF (m 58)) (shamX (vr (m 58)) a (nI s)) k w) n) r s = leastF (fun s => allF (fun w => !(Nat.testBit a w) || moreN (rkF (m 58)) (rbF (m 58)) (shamX (vr (m 58)) a (nI s)) k w) n) 10 0 → gw xs (WP xs (d + 817)) 157 Q 2 [some (.ref (89)), some (.int (nI (a))), some (.int (nI (k))), some (.int (nI (s)))] [] (H m2 ln N) 0 0 := by
    intro r
    induction r with
    | zero =>
      intro s m2 hs hF hfin
      obtain rfl : s = 10 := by omega
      refine g_iload_n m157_2 rfl ?_
      refine g_bipush m157_3 ?_
      refine h_ic_gtT (xi := ((10 : Nat) : Int)) (zi := 9) m157_5 (nI_toInt (by omega)) rfl (by omega) ?_
      refine g_iload_n m157_28 rfl ?_
      refine g_bipush m157_29 ?_
      refine h_ic_leF (xi := ((10 : Nat) : Int)) (zi := 9) m157_31 (nI_toInt (by omega)) rfl (by omega) ?_
      refine g_iconst m157_34 ?_
      refine g_goto m157_35 ?_
      refine g_iret m157_39 rt_157 ?_
      exact hN hfin.symm m2 hF
    | succ r ih =>
      intro s m2 hs hF hfin
      refine g_iload_n m157_2 rfl ?_
      refine g_bipush m157_3 ?_
      refine h_ic_gtF (xi := ((s : Nat) : Int)) (zi := 9) m157_5 (nI_toInt (by omega)) rfl (by omega) ?_
      refine g_iload_n m157_8 rfl ?_
      refine g_aload_n m157_9 rfl ?_
      refine g_iload_n m157_10 rfl ?_
      refine g_iload_n m157_11 rfl ?_
      refine g_iload_n m157_12 rfl ?_
      refine h_cv (k := 57) (p := 89) (args := [.int (nI (a)), .int (nI (s)), .int (nI (k))]) (rest := [.int (nI (a))]) m157_13 cn_155 (Nat.le_of_ble_eq_true rfl) rfl rfl rfl (t_57 _ _) (Nat.le_of_ble_eq_true rfl) ?_
      have e58 : m2 58 = m 58 := hF.row
      refine c_fedS (n := n) (a := a) (s := s) (k := k) (by rw [e58]; exact hd) hn (by rw [e58]; exact hX0) (by rw [e58]; exact hX1) (by rw [e58]; exact hWY) (by omega) (by omega) (by omega) (fun m3 hF2 => ?_)
      rw [e58]
      have hF3 := hF.tr hF2
      refine gwr ?_
      refine g_iconst m157_16 ?_
      refine g_ixor m157_17 rfl ?_
      refine g_iand m157_18 rfl ?_
      refine h_if_eq (xi := _) (zi := 0) m157_19 rfl rfl (fun c1 => ?_) (fun c1 => ?_)
      · skip
        refine g_iload_n m157_28 rfl ?_
        refine g_bipush m157_29 ?_
        refine h_ic_leT (xi := ((s : Nat) : Int)) (zi := 9) m157_31 (nI_toInt (by omega)) rfl (by omega) ?_
        refine g_iload_n m157_38 rfl ?_
        refine g_iret m157_39 rt_157 ?_
        have hm : (fun s => allF (fun w => !(Nat.testBit a w) || moreN (rkF (m 58)) (rbF (m 58)) (shamX (vr (m 58)) a (nI s)) k w) n) s = true := (ls_P hn ha).mp c1
        rw [least_y (p := (fun s => allF (fun w => !(Nat.testBit a w) || moreN (rkF (m 58)) (rbF (m 58)) (shamX (vr (m 58)) a (nI s)) k w) n)) (s := s) hm] at hfin
        exact hY s (by omega) hfin.symm m3 hF3
      · skip
        refine g_iinc (L2 := [some (.ref (89)), some (.int (nI (a))), some (.int (nI (k))), some (.int (nI (s + 1)))]) m157_22 rfl (nI_1 _) rfl rfl ?_
        refine g_goto m157_25 ?_
        have hm : ¬ (fun s => allF (fun w => !(Nat.testBit a w) || moreN (rkF (m 58)) (rbF (m 58)) (shamX (vr (m 58)) a (nI s)) k w) n) s = true := fun z => c1 ((ls_P hn ha).mpr z)
        rw [least_n (p := (fun s => allF (fun w => !(Nat.testBit a w) || moreN (rkF (m 58)) (rbF (m 58)) (shamX (vr (m 58)) a (nI s)) k w) n)) (s := s) hm] at hfin
        exact ih (s + 1) _ (by omega) hF3 hfin
  exact key 10 0 m (by omega) FrP.rf rfl
set_option maxRecDepth 20000 in
set_option maxHeartbeats 40000000 in
theorem m_sham {a v : Int32} {n : Nat} (hd : m 58 2 = nI n) (hn : n ≤ 8) (hX0 : TxOk (m 58) 0) (hX1 : TxOk (m 58) 1) (hWY : WF (vr (m 58))) (hE1 : (a.toInt < 0 ∨ (n : Int) ≤ a.toInt ∨ v.toInt < 1 ∨ 60 < v.toInt) → Q (some (.int (-1000000001))) (H (ers m 1) ln N)) (hE2 : ∀ i k : Nat, a = nI i → i < n → v = nI k → 1 ≤ k → k ≤ 60 → leastF (fun s => moreN (rkF (m 58)) (rbF (m 58)) (upm (vr (m 58)) 5 i (nI s)) k i) 10 0 = none → ∀ m2, FrP m m2 → Q (some (.int (-1000000002))) (H (ers m2 2) ln N)) (hY : ∀ i k s : Nat, a = nI i → i < n → v = nI k → 1 ≤ k → k ≤ 60 → leastF (fun s => moreN (rkF (m 58)) (rbF (m 58)) (upm (vr (m 58)) 5 i (nI s)) k i) 10 0 = some s → ∀ m2, FrP m m2 → Q (some (.int (nI s))) (H m2 ln N)) : WP xs (d + 819) 158 0 0 [.ref (89), .int (a), .int (v)] (H m ln N) Q := by
  refine wp_x mx_158 (L := [some (.ref (89)), some (.int (a)), some (.int (v)), none]) (Nat.le_of_ble_eq_true rfl) rfl ?_
  have hnn : nOf (vr (m 58)) = n := by unfold nOf; rw [show (vr (m 58)) 0 10 = nI n from hd]; exact nI_clamp (by omega)
  refine g_aload_n m158_0 rfl ?_
  refine g_iload_n m158_1 rfl ?_
  refine h_cv (k := 57) (p := 89) (args := [.int (a)]) (rest := []) m158_2 cn_113 (Nat.le_of_ble_eq_true rfl) rfl rfl rfl (t_57 _ _) (Nat.le_of_ble_eq_true rfl) ?_
  refine c_isDinerM hd hn (fun ja ea a_1 => ?_) (fun a_1 => ?_)
  · subst ea
    refine gwr ?_
    refine h_if_eqF (xi := 1) (zi := 0) m158_5 rfl rfl (by decide) ?_
    refine g_iload_n m158_8 rfl ?_
    refine g_iconst m158_9 ?_
    refine g_bipush m158_10 ?_
    refine g_cs (args := [.int (v), .int (1), .int (60)]) (rest := []) 0 (Or.inl rfl) m158_12 (Nat.le_of_ble_eq_true rfl) rfl rfl (Nat.le_of_ble_eq_true rfl) ?_
    refine c_in (A := 1) (B := 60) rfl rfl (by decide) (fun jv ev a_2 a_2' => ?_) (fun a_2 => ?_)
    · subst ev
      refine gwr ?_
      refine h_if_neF (xi := 1) (zi := 0) m158_15 rfl rfl (by decide) ?_
      refine g_aload_n m158_25 rfl ?_
      refine g_iconst m158_26 ?_
      refine g_iload_n m158_27 rfl ?_
      refine g_ishl (u := nI (2 ^ ja)) m158_28 (bit_1 ja (by omega)) ?_
      refine g_iload_n m158_29 rfl ?_
      refine h_cv (k := 57) (p := 89) (args := [.int (nI (2 ^ ja)), .int (nI (jv))]) (rest := []) m158_30 cn_157 (Nat.le_of_ble_eq_true rfl) rfl rfl rfl (t_57 _ _) (Nat.le_of_ble_eq_true rfl) ?_
      have hp : 2 ^ ja < 2 ^ n := Nat.pow_lt_pow_right (by decide) (by omega)
      refine c_leastSham (n := n) (a := 2 ^ ja) (k := jv) hd hn hX0 hX1 hWY (by omega) (by omega) (fun hls m2 hF => ?_) (fun s hs hls m2 hF => ?_)
      · skip
        refine gwr ?_
        refine g_istore_n (L2 := [some (.ref (89)), some (.int (nI (ja))), some (.int (nI (jv))), some (.int (-1))]) m158_33 rfl rfl ?_
        refine g_iload_n m158_34 rfl ?_
        refine h_if_geF (xi := (-1)) (zi := 0) m158_35 rfl rfl (by decide) ?_
        refine g_aload_n m158_38 rfl ?_
        refine g_ldci m158_39 rfl ?_
        refine h_cv (k := 57) (p := 89) (args := [.int (-1000000002)]) (rest := []) m158_41 cn_108 (Nat.le_of_ble_eq_true rfl) rfl rfl rfl (t_57 _ _) (Nat.le_of_ble_eq_true rfl) ?_
        refine c_errs (e := 2) (by decide) (by decide) (by decide) ?_
        refine gwr ?_
        refine g_goto m158_44 ?_
        refine g_iret m158_48 rt_158 ?_
        rw [leastF_c (p := (fun s => moreN (rkF (m 58)) (rbF (m 58)) (upm (vr (m 58)) 5 ja (nI s)) jv ja)) (fun s => sham_one hnn (by omega)) 10 0] at hls
        exact hE2 ja jv rfl (by omega) rfl (by omega) (by omega) hls m2 hF
      · skip
        refine gwr ?_
        refine g_istore_n (L2 := [some (.ref (89)), some (.int (nI (ja))), some (.int (nI (jv))), some (.int (nI (s)))]) m158_33 rfl rfl ?_
        refine g_iload_n m158_34 rfl ?_
        refine h_if_geT (xi := ((s : Nat) : Int)) (zi := 0) m158_35 (nI_toInt (by omega)) rfl (by omega) ?_
        refine g_iload_n m158_47 rfl ?_
        refine g_iret m158_48 rt_158 ?_
        rw [leastF_c (p := (fun s => moreN (rkF (m 58)) (rbF (m 58)) (upm (vr (m 58)) 5 ja (nI s)) jv ja)) (fun s => sham_one hnn (by omega)) 10 0] at hls
        exact hY ja jv s rfl (by omega) rfl (by omega) (by omega) hls m2 hF
    · skip
      refine gwr ?_
      refine h_if_neT (xi := 0) (zi := 0) m158_15 rfl rfl (by decide) ?_
      refine g_aload_n m158_18 rfl ?_
      refine g_ldci m158_19 rfl ?_
      refine h_cv (k := 57) (p := 89) (args := [.int (-1000000001)]) (rest := []) m158_21 cn_108 (Nat.le_of_ble_eq_true rfl) rfl rfl rfl (t_57 _ _) (Nat.le_of_ble_eq_true rfl) ?_
      refine c_errs (e := 1) (by decide) (by decide) (by decide) ?_
      refine gwr ?_
      refine g_iret m158_24 rt_158 ?_
      exact hE1 (by omega)
  · skip
    refine gwr ?_
    refine h_if_eqT (xi := 0) (zi := 0) m158_5 rfl rfl (by decide) ?_
    refine g_aload_n m158_18 rfl ?_
    refine g_ldci m158_19 rfl ?_
    refine h_cv (k := 57) (p := 89) (args := [.int (-1000000001)]) (rest := []) m158_21 cn_108 (Nat.le_of_ble_eq_true rfl) rfl rfl rfl (t_57 _ _) (Nat.le_of_ble_eq_true rfl) ?_
    refine c_errs (e := 1) (by decide) (by decide) (by decide) ?_
    refine gwr ?_
    refine g_iret m158_24 rt_158 ?_
    exact hE1 (by omega)
set_option maxRecDepth 20000 in
set_option maxHeartbeats 40000000 in
theorem m_alike {a v : Int32} {n : Nat} (hd : m 58 2 = nI n) (hn : n ≤ 8) (hX0 : TxOk (m 58) 0) (hX1 : TxOk (m 58) 1) (hWY : WF (vr (m 58))) (hE1 : (a.toInt < 0 ∨ ((2 ^ n : Nat) : Int) ≤ a.toInt ∨ v.toInt < 1 ∨ 60 < v.toInt) → Q (some (.int (-1000000001))) (H (ers m 1) ln N)) (hE2 : ∀ i k : Nat, a = nI i → i < 2 ^ n → v = nI k → 1 ≤ k → k ≤ 60 → leastF (fun s => allF (fun w => !(Nat.testBit i w) || moreN (rkF (m 58)) (rbF (m 58)) (shamX (vr (m 58)) i (nI s)) k w) n) 10 0 = none → ∀ m2, FrP m m2 → Q (some (.int (-1000000002))) (H (ers m2 2) ln N)) (hY : ∀ i k s : Nat, a = nI i → i < 2 ^ n → v = nI k → 1 ≤ k → k ≤ 60 → leastF (fun s => allF (fun w => !(Nat.testBit i w) || moreN (rkF (m 58)) (rbF (m 58)) (shamX (vr (m 58)) i (nI s)) k w) n) 10 0 = some s → ∀ m2, FrP m m2 → Q (some (.int (nI s))) (H m2 ln N)) : WP xs (d + 819) 159 0 0 [.ref (89), .int (a), .int (v)] (H m ln N) Q := by
  refine wp_x mx_159 (L := [some (.ref (89)), some (.int (a)), some (.int (v)), none]) (Nat.le_of_ble_eq_true rfl) rfl ?_
  have hp8 : 2 ^ n ≤ 256 := Nat.pow_le_pow_right (n := 2) (by decide) hn
  have hp0 := Nat.two_pow_pos n
  refine g_iload_n m159_0 rfl ?_
  refine g_iconst m159_1 ?_
  refine g_iconst m159_2 ?_
  refine g_aload_n m159_3 rfl ?_
  refine h_gfR (c := 90) (k := 57) (p := 89) m159_4 rfl (t_57 _ _) rfl (Nat.le_of_ble_eq_true rfl) ?_
  refine g_iconst m159_7 ?_
  refine h_ial (k := 58) (p := 90) (j := 2) m159_8 rfl (t_58 _ _) (rfl) (by omega) (Nat.le_of_ble_eq_true rfl) (hd) ?_
  refine g_ishl (u := nI (2 ^ n)) m159_9 (bit_1 n (by omega)) ?_
  refine g_iconst m159_10 ?_
  refine g_isub m159_11 rfl ?_
  refine g_cs (args := [.int (a), .int (0), .int ((nI (2 ^ n) - 1))]) (rest := []) 0 (Or.inl rfl) m159_12 (Nat.le_of_ble_eq_true rfl) rfl rfl (Nat.le_of_ble_eq_true rfl) ?_
  refine c_in (A := 0) (B := (((2 ^ n : Nat) : Int) - 1)) rfl (by rw [sub_k (a := ((2 ^ n : Nat) : Int)) (b := 1) (nI_toInt (by omega)) rfl (by omega) (by omega)]) (by decide) (fun ja ea a_3 a_3' => ?_) (fun a_3 => ?_)
  · subst ea
    refine gwr ?_
    refine h_if_eqF (xi := 1) (zi := 0) m159_15 rfl rfl (by decide) ?_
    refine g_iload_n m159_18 rfl ?_
    refine g_iconst m159_19 ?_
    refine g_bipush m159_20 ?_
    refine g_cs (args := [.int (v), .int (1), .int (60)]) (rest := []) 0 (Or.inl rfl) m159_22 (Nat.le_of_ble_eq_true rfl) rfl rfl (Nat.le_of_ble_eq_true rfl) ?_
    refine c_in (A := 1) (B := 60) rfl rfl (by decide) (fun jv ev a_4 a_4' => ?_) (fun a_4 => ?_)
    · subst ev
      refine gwr ?_
      refine h_if_neF (xi := 1) (zi := 0) m159_25 rfl rfl (by decide) ?_
      refine g_aload_n m159_35 rfl ?_
      refine g_iload_n m159_36 rfl ?_
      refine g_iload_n m159_37 rfl ?_
      refine h_cv (k := 57) (p := 89) (args := [.int (nI (ja)), .int (nI (jv))]) (rest := []) m159_38 cn_157 (Nat.le_of_ble_eq_true rfl) rfl rfl rfl (t_57 _ _) (Nat.le_of_ble_eq_true rfl) ?_
      refine c_leastSham (n := n) (a := ja) (k := jv) hd hn hX0 hX1 hWY (by omega) (by omega) (fun hls m2 hF => ?_) (fun s hs hls m2 hF => ?_)
      · skip
        refine gwr ?_
        refine g_istore_n (L2 := [some (.ref (89)), some (.int (nI (ja))), some (.int (nI (jv))), some (.int (-1))]) m159_41 rfl rfl ?_
        refine g_iload_n m159_42 rfl ?_
        refine h_if_geF (xi := (-1)) (zi := 0) m159_43 rfl rfl (by decide) ?_
        refine g_aload_n m159_46 rfl ?_
        refine g_ldci m159_47 rfl ?_
        refine h_cv (k := 57) (p := 89) (args := [.int (-1000000002)]) (rest := []) m159_49 cn_108 (Nat.le_of_ble_eq_true rfl) rfl rfl rfl (t_57 _ _) (Nat.le_of_ble_eq_true rfl) ?_
        refine c_errs (e := 2) (by decide) (by decide) (by decide) ?_
        refine gwr ?_
        refine g_goto m159_52 ?_
        refine g_iret m159_56 rt_159 ?_
        exact hE2 ja jv rfl (by omega) rfl (by omega) (by omega) hls m2 hF
      · skip
        refine gwr ?_
        refine g_istore_n (L2 := [some (.ref (89)), some (.int (nI (ja))), some (.int (nI (jv))), some (.int (nI (s)))]) m159_41 rfl rfl ?_
        refine g_iload_n m159_42 rfl ?_
        refine h_if_geT (xi := ((s : Nat) : Int)) (zi := 0) m159_43 (nI_toInt (by omega)) rfl (by omega) ?_
        refine g_iload_n m159_55 rfl ?_
        refine g_iret m159_56 rt_159 ?_
        exact hY ja jv s rfl (by omega) rfl (by omega) (by omega) hls m2 hF
    · skip
      refine gwr ?_
      refine h_if_neT (xi := 0) (zi := 0) m159_25 rfl rfl (by decide) ?_
      refine g_aload_n m159_28 rfl ?_
      refine g_ldci m159_29 rfl ?_
      refine h_cv (k := 57) (p := 89) (args := [.int (-1000000001)]) (rest := []) m159_31 cn_108 (Nat.le_of_ble_eq_true rfl) rfl rfl rfl (t_57 _ _) (Nat.le_of_ble_eq_true rfl) ?_
      refine c_errs (e := 1) (by decide) (by decide) (by decide) ?_
      refine gwr ?_
      refine g_iret m159_34 rt_159 ?_
      exact hE1 (by omega)
  · skip
    refine gwr ?_
    refine h_if_eqT (xi := 0) (zi := 0) m159_15 rfl rfl (by decide) ?_
    refine g_aload_n m159_28 rfl ?_
    refine g_ldci m159_29 rfl ?_
    refine h_cv (k := 57) (p := 89) (args := [.int (-1000000001)]) (rest := []) m159_31 cn_108 (Nat.le_of_ble_eq_true rfl) rfl rfl rfl (t_57 _ _) (Nat.le_of_ble_eq_true rfl) ?_
    refine c_errs (e := 1) (by decide) (by decide) (by decide) ?_
    refine gwr ?_
    refine g_iret m159_34 rt_159 ?_
    exact hE1 (by omega)
set_option maxRecDepth 20000 in
set_option maxHeartbeats 40000000 in
theorem c_divisor {a : Nat} (ha : a ≤ 10) (hQ : Q (some (.int (nI (Nat.gcd a 10)))) h) : WP xs (d + 1) 168 0 0 [.int (nI (a)), .int (10)] h Q := by
  refine wp_x mx_168 (L := [some (.int (nI (a))), some (.int (10)), none, none, none]) (Nat.le_of_ble_eq_true rfl) rfl ?_
  rcases (show a = 0 ∨ a = 1 ∨ a = 2 ∨ a = 3 ∨ a = 4 ∨ a = 5 ∨ a = 6 ∨ a = 7 ∨ a = 8 ∨ a = 9 ∨ a = 10 by omega) with rfl | rfl | rfl | rfl | rfl | rfl | rfl | rfl | rfl | rfl | rfl
  · skip
    refine gwl (L' := [some (.int 0), some (.int 10), none, none, none]) rfl ?_
    refine g_iload_n m168_0 rfl ?_
    refine g_istore_n (L2 := [some (.int (0)), some (.int (10)), some (.int (0)), none, none]) m168_1 rfl rfl ?_
    refine g_iload_n m168_2 rfl ?_
    refine g_istore_n (L2 := [some (.int (0)), some (.int (10)), some (.int (0)), some (.int (10)), none]) m168_3 rfl rfl ?_
    refine g_iload_n m168_4 rfl ?_
    refine h_if_eqF (xi := 10) (zi := 0) m168_5 rfl rfl (by decide) ?_
    refine g_iload_n m168_8 rfl ?_
    refine g_iload_n m168_9 rfl ?_
    refine g_irem (u := (0 : Int32)) m168_10 (by decide) (by decide) ?_
    refine g_istore (L2 := [some (.int (0)), some (.int (10)), some (.int (0)), some (.int (10)), some (.int (0))]) m168_11 rfl rfl ?_
    refine g_iload_n m168_13 rfl ?_
    refine g_istore_n (L2 := [some (.int (0)), some (.int (10)), some (.int (10)), some (.int (10)), some (.int (0))]) m168_14 rfl rfl ?_
    refine g_iload m168_15 rfl ?_
    refine g_istore_n (L2 := [some (.int (0)), some (.int (10)), some (.int (10)), some (.int (0)), some (.int (0))]) m168_17 rfl rfl ?_
    refine g_goto m168_18 ?_
    refine g_iload_n m168_4 rfl ?_
    refine h_if_eqT (xi := 0) (zi := 0) m168_5 rfl rfl (by decide) ?_
    refine g_iload_n m168_21 rfl ?_
    refine g_iret m168_22 rt_168 ?_
    exact hQ
  · skip
    refine gwl (L' := [some (.int 1), some (.int 10), none, none, none]) rfl ?_
    refine g_iload_n m168_0 rfl ?_
    refine g_istore_n (L2 := [some (.int (1)), some (.int (10)), some (.int (1)), none, none]) m168_1 rfl rfl ?_
    refine g_iload_n m168_2 rfl ?_
    refine g_istore_n (L2 := [some (.int (1)), some (.int (10)), some (.int (1)), some (.int (10)), none]) m168_3 rfl rfl ?_
    refine g_iload_n m168_4 rfl ?_
    refine h_if_eqF (xi := 10) (zi := 0) m168_5 rfl rfl (by decide) ?_
    refine g_iload_n m168_8 rfl ?_
    refine g_iload_n m168_9 rfl ?_
    refine g_irem (u := (1 : Int32)) m168_10 (by decide) (by decide) ?_
    refine g_istore (L2 := [some (.int (1)), some (.int (10)), some (.int (1)), some (.int (10)), some (.int (1))]) m168_11 rfl rfl ?_
    refine g_iload_n m168_13 rfl ?_
    refine g_istore_n (L2 := [some (.int (1)), some (.int (10)), some (.int (10)), some (.int (10)), some (.int (1))]) m168_14 rfl rfl ?_
    refine g_iload m168_15 rfl ?_
    refine g_istore_n (L2 := [some (.int (1)), some (.int (10)), some (.int (10)), some (.int (1)), some (.int (1))]) m168_17 rfl rfl ?_
    refine g_goto m168_18 ?_
    refine g_iload_n m168_4 rfl ?_
    refine h_if_eqF (xi := 1) (zi := 0) m168_5 rfl rfl (by decide) ?_
    refine g_iload_n m168_8 rfl ?_
    refine g_iload_n m168_9 rfl ?_
    refine g_irem (u := (0 : Int32)) m168_10 (by decide) (by decide) ?_
    refine g_istore (L2 := [some (.int (1)), some (.int (10)), some (.int (10)), some (.int (1)), some (.int (0))]) m168_11 rfl rfl ?_
    refine g_iload_n m168_13 rfl ?_
    refine g_istore_n (L2 := [some (.int (1)), some (.int (10)), some (.int (1)), some (.int (1)), some (.int (0))]) m168_14 rfl rfl ?_
    refine g_iload m168_15 rfl ?_
    refine g_istore_n (L2 := [some (.int (1)), some (.int (10)), some (.int (1)), some (.int (0)), some (.int (0))]) m168_17 rfl rfl ?_
    refine g_goto m168_18 ?_
    refine g_iload_n m168_4 rfl ?_
    refine h_if_eqT (xi := 0) (zi := 0) m168_5 rfl rfl (by decide) ?_
    refine g_iload_n m168_21 rfl ?_
    refine g_iret m168_22 rt_168 ?_
    exact hQ
  · skip
    refine gwl (L' := [some (.int 2), some (.int 10), none, none, none]) rfl ?_
    refine g_iload_n m168_0 rfl ?_
    refine g_istore_n (L2 := [some (.int (2)), some (.int (10)), some (.int (2)), none, none]) m168_1 rfl rfl ?_
    refine g_iload_n m168_2 rfl ?_
    refine g_istore_n (L2 := [some (.int (2)), some (.int (10)), some (.int (2)), some (.int (10)), none]) m168_3 rfl rfl ?_
    refine g_iload_n m168_4 rfl ?_
    refine h_if_eqF (xi := 10) (zi := 0) m168_5 rfl rfl (by decide) ?_
    refine g_iload_n m168_8 rfl ?_
    refine g_iload_n m168_9 rfl ?_
    refine g_irem (u := (2 : Int32)) m168_10 (by decide) (by decide) ?_
    refine g_istore (L2 := [some (.int (2)), some (.int (10)), some (.int (2)), some (.int (10)), some (.int (2))]) m168_11 rfl rfl ?_
    refine g_iload_n m168_13 rfl ?_
    refine g_istore_n (L2 := [some (.int (2)), some (.int (10)), some (.int (10)), some (.int (10)), some (.int (2))]) m168_14 rfl rfl ?_
    refine g_iload m168_15 rfl ?_
    refine g_istore_n (L2 := [some (.int (2)), some (.int (10)), some (.int (10)), some (.int (2)), some (.int (2))]) m168_17 rfl rfl ?_
    refine g_goto m168_18 ?_
    refine g_iload_n m168_4 rfl ?_
    refine h_if_eqF (xi := 2) (zi := 0) m168_5 rfl rfl (by decide) ?_
    refine g_iload_n m168_8 rfl ?_
    refine g_iload_n m168_9 rfl ?_
    refine g_irem (u := (0 : Int32)) m168_10 (by decide) (by decide) ?_
    refine g_istore (L2 := [some (.int (2)), some (.int (10)), some (.int (10)), some (.int (2)), some (.int (0))]) m168_11 rfl rfl ?_
    refine g_iload_n m168_13 rfl ?_
    refine g_istore_n (L2 := [some (.int (2)), some (.int (10)), some (.int (2)), some (.int (2)), some (.int (0))]) m168_14 rfl rfl ?_
    refine g_iload m168_15 rfl ?_
    refine g_istore_n (L2 := [some (.int (2)), some (.int (10)), some (.int (2)), some (.int (0)), some (.int (0))]) m168_17 rfl rfl ?_
    refine g_goto m168_18 ?_
    refine g_iload_n m168_4 rfl ?_
    refine h_if_eqT (xi := 0) (zi := 0) m168_5 rfl rfl (by decide) ?_
    refine g_iload_n m168_21 rfl ?_
    refine g_iret m168_22 rt_168 ?_
    exact hQ
  · skip
    refine gwl (L' := [some (.int 3), some (.int 10), none, none, none]) rfl ?_
    refine g_iload_n m168_0 rfl ?_
    refine g_istore_n (L2 := [some (.int (3)), some (.int (10)), some (.int (3)), none, none]) m168_1 rfl rfl ?_
    refine g_iload_n m168_2 rfl ?_
    refine g_istore_n (L2 := [some (.int (3)), some (.int (10)), some (.int (3)), some (.int (10)), none]) m168_3 rfl rfl ?_
    refine g_iload_n m168_4 rfl ?_
    refine h_if_eqF (xi := 10) (zi := 0) m168_5 rfl rfl (by decide) ?_
    refine g_iload_n m168_8 rfl ?_
    refine g_iload_n m168_9 rfl ?_
    refine g_irem (u := (3 : Int32)) m168_10 (by decide) (by decide) ?_
    refine g_istore (L2 := [some (.int (3)), some (.int (10)), some (.int (3)), some (.int (10)), some (.int (3))]) m168_11 rfl rfl ?_
    refine g_iload_n m168_13 rfl ?_
    refine g_istore_n (L2 := [some (.int (3)), some (.int (10)), some (.int (10)), some (.int (10)), some (.int (3))]) m168_14 rfl rfl ?_
    refine g_iload m168_15 rfl ?_
    refine g_istore_n (L2 := [some (.int (3)), some (.int (10)), some (.int (10)), some (.int (3)), some (.int (3))]) m168_17 rfl rfl ?_
    refine g_goto m168_18 ?_
    refine g_iload_n m168_4 rfl ?_
    refine h_if_eqF (xi := 3) (zi := 0) m168_5 rfl rfl (by decide) ?_
    refine g_iload_n m168_8 rfl ?_
    refine g_iload_n m168_9 rfl ?_
    refine g_irem (u := (1 : Int32)) m168_10 (by decide) (by decide) ?_
    refine g_istore (L2 := [some (.int (3)), some (.int (10)), some (.int (10)), some (.int (3)), some (.int (1))]) m168_11 rfl rfl ?_
    refine g_iload_n m168_13 rfl ?_
    refine g_istore_n (L2 := [some (.int (3)), some (.int (10)), some (.int (3)), some (.int (3)), some (.int (1))]) m168_14 rfl rfl ?_
    refine g_iload m168_15 rfl ?_
    refine g_istore_n (L2 := [some (.int (3)), some (.int (10)), some (.int (3)), some (.int (1)), some (.int (1))]) m168_17 rfl rfl ?_
    refine g_goto m168_18 ?_
    refine g_iload_n m168_4 rfl ?_
    refine h_if_eqF (xi := 1) (zi := 0) m168_5 rfl rfl (by decide) ?_
    refine g_iload_n m168_8 rfl ?_
    refine g_iload_n m168_9 rfl ?_
    refine g_irem (u := (0 : Int32)) m168_10 (by decide) (by decide) ?_
    refine g_istore (L2 := [some (.int (3)), some (.int (10)), some (.int (3)), some (.int (1)), some (.int (0))]) m168_11 rfl rfl ?_
    refine g_iload_n m168_13 rfl ?_
    refine g_istore_n (L2 := [some (.int (3)), some (.int (10)), some (.int (1)), some (.int (1)), some (.int (0))]) m168_14 rfl rfl ?_
    refine g_iload m168_15 rfl ?_
    refine g_istore_n (L2 := [some (.int (3)), some (.int (10)), some (.int (1)), some (.int (0)), some (.int (0))]) m168_17 rfl rfl ?_
    refine g_goto m168_18 ?_
    refine g_iload_n m168_4 rfl ?_
    refine h_if_eqT (xi := 0) (zi := 0) m168_5 rfl rfl (by decide) ?_
    refine g_iload_n m168_21 rfl ?_
    refine g_iret m168_22 rt_168 ?_
    exact hQ
  · skip
    refine gwl (L' := [some (.int 4), some (.int 10), none, none, none]) rfl ?_
    refine g_iload_n m168_0 rfl ?_
    refine g_istore_n (L2 := [some (.int (4)), some (.int (10)), some (.int (4)), none, none]) m168_1 rfl rfl ?_
    refine g_iload_n m168_2 rfl ?_
    refine g_istore_n (L2 := [some (.int (4)), some (.int (10)), some (.int (4)), some (.int (10)), none]) m168_3 rfl rfl ?_
    refine g_iload_n m168_4 rfl ?_
    refine h_if_eqF (xi := 10) (zi := 0) m168_5 rfl rfl (by decide) ?_
    refine g_iload_n m168_8 rfl ?_
    refine g_iload_n m168_9 rfl ?_
    refine g_irem (u := (4 : Int32)) m168_10 (by decide) (by decide) ?_
    refine g_istore (L2 := [some (.int (4)), some (.int (10)), some (.int (4)), some (.int (10)), some (.int (4))]) m168_11 rfl rfl ?_
    refine g_iload_n m168_13 rfl ?_
    refine g_istore_n (L2 := [some (.int (4)), some (.int (10)), some (.int (10)), some (.int (10)), some (.int (4))]) m168_14 rfl rfl ?_
    refine g_iload m168_15 rfl ?_
    refine g_istore_n (L2 := [some (.int (4)), some (.int (10)), some (.int (10)), some (.int (4)), some (.int (4))]) m168_17 rfl rfl ?_
    refine g_goto m168_18 ?_
    refine g_iload_n m168_4 rfl ?_
    refine h_if_eqF (xi := 4) (zi := 0) m168_5 rfl rfl (by decide) ?_
    refine g_iload_n m168_8 rfl ?_
    refine g_iload_n m168_9 rfl ?_
    refine g_irem (u := (2 : Int32)) m168_10 (by decide) (by decide) ?_
    refine g_istore (L2 := [some (.int (4)), some (.int (10)), some (.int (10)), some (.int (4)), some (.int (2))]) m168_11 rfl rfl ?_
    refine g_iload_n m168_13 rfl ?_
    refine g_istore_n (L2 := [some (.int (4)), some (.int (10)), some (.int (4)), some (.int (4)), some (.int (2))]) m168_14 rfl rfl ?_
    refine g_iload m168_15 rfl ?_
    refine g_istore_n (L2 := [some (.int (4)), some (.int (10)), some (.int (4)), some (.int (2)), some (.int (2))]) m168_17 rfl rfl ?_
    refine g_goto m168_18 ?_
    refine g_iload_n m168_4 rfl ?_
    refine h_if_eqF (xi := 2) (zi := 0) m168_5 rfl rfl (by decide) ?_
    refine g_iload_n m168_8 rfl ?_
    refine g_iload_n m168_9 rfl ?_
    refine g_irem (u := (0 : Int32)) m168_10 (by decide) (by decide) ?_
    refine g_istore (L2 := [some (.int (4)), some (.int (10)), some (.int (4)), some (.int (2)), some (.int (0))]) m168_11 rfl rfl ?_
    refine g_iload_n m168_13 rfl ?_
    refine g_istore_n (L2 := [some (.int (4)), some (.int (10)), some (.int (2)), some (.int (2)), some (.int (0))]) m168_14 rfl rfl ?_
    refine g_iload m168_15 rfl ?_
    refine g_istore_n (L2 := [some (.int (4)), some (.int (10)), some (.int (2)), some (.int (0)), some (.int (0))]) m168_17 rfl rfl ?_
    refine g_goto m168_18 ?_
    refine g_iload_n m168_4 rfl ?_
    refine h_if_eqT (xi := 0) (zi := 0) m168_5 rfl rfl (by decide) ?_
    refine g_iload_n m168_21 rfl ?_
    refine g_iret m168_22 rt_168 ?_
    exact hQ
  · skip
    refine gwl (L' := [some (.int 5), some (.int 10), none, none, none]) rfl ?_
    refine g_iload_n m168_0 rfl ?_
    refine g_istore_n (L2 := [some (.int (5)), some (.int (10)), some (.int (5)), none, none]) m168_1 rfl rfl ?_
    refine g_iload_n m168_2 rfl ?_
    refine g_istore_n (L2 := [some (.int (5)), some (.int (10)), some (.int (5)), some (.int (10)), none]) m168_3 rfl rfl ?_
    refine g_iload_n m168_4 rfl ?_
    refine h_if_eqF (xi := 10) (zi := 0) m168_5 rfl rfl (by decide) ?_
    refine g_iload_n m168_8 rfl ?_
    refine g_iload_n m168_9 rfl ?_
    refine g_irem (u := (5 : Int32)) m168_10 (by decide) (by decide) ?_
    refine g_istore (L2 := [some (.int (5)), some (.int (10)), some (.int (5)), some (.int (10)), some (.int (5))]) m168_11 rfl rfl ?_
    refine g_iload_n m168_13 rfl ?_
    refine g_istore_n (L2 := [some (.int (5)), some (.int (10)), some (.int (10)), some (.int (10)), some (.int (5))]) m168_14 rfl rfl ?_
    refine g_iload m168_15 rfl ?_
    refine g_istore_n (L2 := [some (.int (5)), some (.int (10)), some (.int (10)), some (.int (5)), some (.int (5))]) m168_17 rfl rfl ?_
    refine g_goto m168_18 ?_
    refine g_iload_n m168_4 rfl ?_
    refine h_if_eqF (xi := 5) (zi := 0) m168_5 rfl rfl (by decide) ?_
    refine g_iload_n m168_8 rfl ?_
    refine g_iload_n m168_9 rfl ?_
    refine g_irem (u := (0 : Int32)) m168_10 (by decide) (by decide) ?_
    refine g_istore (L2 := [some (.int (5)), some (.int (10)), some (.int (10)), some (.int (5)), some (.int (0))]) m168_11 rfl rfl ?_
    refine g_iload_n m168_13 rfl ?_
    refine g_istore_n (L2 := [some (.int (5)), some (.int (10)), some (.int (5)), some (.int (5)), some (.int (0))]) m168_14 rfl rfl ?_
    refine g_iload m168_15 rfl ?_
    refine g_istore_n (L2 := [some (.int (5)), some (.int (10)), some (.int (5)), some (.int (0)), some (.int (0))]) m168_17 rfl rfl ?_
    refine g_goto m168_18 ?_
    refine g_iload_n m168_4 rfl ?_
    refine h_if_eqT (xi := 0) (zi := 0) m168_5 rfl rfl (by decide) ?_
    refine g_iload_n m168_21 rfl ?_
    refine g_iret m168_22 rt_168 ?_
    exact hQ
  · skip
    refine gwl (L' := [some (.int 6), some (.int 10), none, none, none]) rfl ?_
    refine g_iload_n m168_0 rfl ?_
    refine g_istore_n (L2 := [some (.int (6)), some (.int (10)), some (.int (6)), none, none]) m168_1 rfl rfl ?_
    refine g_iload_n m168_2 rfl ?_
    refine g_istore_n (L2 := [some (.int (6)), some (.int (10)), some (.int (6)), some (.int (10)), none]) m168_3 rfl rfl ?_
    refine g_iload_n m168_4 rfl ?_
    refine h_if_eqF (xi := 10) (zi := 0) m168_5 rfl rfl (by decide) ?_
    refine g_iload_n m168_8 rfl ?_
    refine g_iload_n m168_9 rfl ?_
    refine g_irem (u := (6 : Int32)) m168_10 (by decide) (by decide) ?_
    refine g_istore (L2 := [some (.int (6)), some (.int (10)), some (.int (6)), some (.int (10)), some (.int (6))]) m168_11 rfl rfl ?_
    refine g_iload_n m168_13 rfl ?_
    refine g_istore_n (L2 := [some (.int (6)), some (.int (10)), some (.int (10)), some (.int (10)), some (.int (6))]) m168_14 rfl rfl ?_
    refine g_iload m168_15 rfl ?_
    refine g_istore_n (L2 := [some (.int (6)), some (.int (10)), some (.int (10)), some (.int (6)), some (.int (6))]) m168_17 rfl rfl ?_
    refine g_goto m168_18 ?_
    refine g_iload_n m168_4 rfl ?_
    refine h_if_eqF (xi := 6) (zi := 0) m168_5 rfl rfl (by decide) ?_
    refine g_iload_n m168_8 rfl ?_
    refine g_iload_n m168_9 rfl ?_
    refine g_irem (u := (4 : Int32)) m168_10 (by decide) (by decide) ?_
    refine g_istore (L2 := [some (.int (6)), some (.int (10)), some (.int (10)), some (.int (6)), some (.int (4))]) m168_11 rfl rfl ?_
    refine g_iload_n m168_13 rfl ?_
    refine g_istore_n (L2 := [some (.int (6)), some (.int (10)), some (.int (6)), some (.int (6)), some (.int (4))]) m168_14 rfl rfl ?_
    refine g_iload m168_15 rfl ?_
    refine g_istore_n (L2 := [some (.int (6)), some (.int (10)), some (.int (6)), some (.int (4)), some (.int (4))]) m168_17 rfl rfl ?_
    refine g_goto m168_18 ?_
    refine g_iload_n m168_4 rfl ?_
    refine h_if_eqF (xi := 4) (zi := 0) m168_5 rfl rfl (by decide) ?_
    refine g_iload_n m168_8 rfl ?_
    refine g_iload_n m168_9 rfl ?_
    refine g_irem (u := (2 : Int32)) m168_10 (by decide) (by decide) ?_
    refine g_istore (L2 := [some (.int (6)), some (.int (10)), some (.int (6)), some (.int (4)), some (.int (2))]) m168_11 rfl rfl ?_
    refine g_iload_n m168_13 rfl ?_
    refine g_istore_n (L2 := [some (.int (6)), some (.int (10)), some (.int (4)), some (.int (4)), some (.int (2))]) m168_14 rfl rfl ?_
    refine g_iload m168_15 rfl ?_
    refine g_istore_n (L2 := [some (.int (6)), some (.int (10)), some (.int (4)), some (.int (2)), some (.int (2))]) m168_17 rfl rfl ?_
    refine g_goto m168_18 ?_
    refine g_iload_n m168_4 rfl ?_
    refine h_if_eqF (xi := 2) (zi := 0) m168_5 rfl rfl (by decide) ?_
    refine g_iload_n m168_8 rfl ?_
    refine g_iload_n m168_9 rfl ?_
    refine g_irem (u := (0 : Int32)) m168_10 (by decide) (by decide) ?_
    refine g_istore (L2 := [some (.int (6)), some (.int (10)), some (.int (4)), some (.int (2)), some (.int (0))]) m168_11 rfl rfl ?_
    refine g_iload_n m168_13 rfl ?_
    refine g_istore_n (L2 := [some (.int (6)), some (.int (10)), some (.int (2)), some (.int (2)), some (.int (0))]) m168_14 rfl rfl ?_
    refine g_iload m168_15 rfl ?_
    refine g_istore_n (L2 := [some (.int (6)), some (.int (10)), some (.int (2)), some (.int (0)), some (.int (0))]) m168_17 rfl rfl ?_
    refine g_goto m168_18 ?_
    refine g_iload_n m168_4 rfl ?_
    refine h_if_eqT (xi := 0) (zi := 0) m168_5 rfl rfl (by decide) ?_
    refine g_iload_n m168_21 rfl ?_
    refine g_iret m168_22 rt_168 ?_
    exact hQ
  · skip
    refine gwl (L' := [some (.int 7), some (.int 10), none, none, none]) rfl ?_
    refine g_iload_n m168_0 rfl ?_
    refine g_istore_n (L2 := [some (.int (7)), some (.int (10)), some (.int (7)), none, none]) m168_1 rfl rfl ?_
    refine g_iload_n m168_2 rfl ?_
    refine g_istore_n (L2 := [some (.int (7)), some (.int (10)), some (.int (7)), some (.int (10)), none]) m168_3 rfl rfl ?_
    refine g_iload_n m168_4 rfl ?_
    refine h_if_eqF (xi := 10) (zi := 0) m168_5 rfl rfl (by decide) ?_
    refine g_iload_n m168_8 rfl ?_
    refine g_iload_n m168_9 rfl ?_
    refine g_irem (u := (7 : Int32)) m168_10 (by decide) (by decide) ?_
    refine g_istore (L2 := [some (.int (7)), some (.int (10)), some (.int (7)), some (.int (10)), some (.int (7))]) m168_11 rfl rfl ?_
    refine g_iload_n m168_13 rfl ?_
    refine g_istore_n (L2 := [some (.int (7)), some (.int (10)), some (.int (10)), some (.int (10)), some (.int (7))]) m168_14 rfl rfl ?_
    refine g_iload m168_15 rfl ?_
    refine g_istore_n (L2 := [some (.int (7)), some (.int (10)), some (.int (10)), some (.int (7)), some (.int (7))]) m168_17 rfl rfl ?_
    refine g_goto m168_18 ?_
    refine g_iload_n m168_4 rfl ?_
    refine h_if_eqF (xi := 7) (zi := 0) m168_5 rfl rfl (by decide) ?_
    refine g_iload_n m168_8 rfl ?_
    refine g_iload_n m168_9 rfl ?_
    refine g_irem (u := (3 : Int32)) m168_10 (by decide) (by decide) ?_
    refine g_istore (L2 := [some (.int (7)), some (.int (10)), some (.int (10)), some (.int (7)), some (.int (3))]) m168_11 rfl rfl ?_
    refine g_iload_n m168_13 rfl ?_
    refine g_istore_n (L2 := [some (.int (7)), some (.int (10)), some (.int (7)), some (.int (7)), some (.int (3))]) m168_14 rfl rfl ?_
    refine g_iload m168_15 rfl ?_
    refine g_istore_n (L2 := [some (.int (7)), some (.int (10)), some (.int (7)), some (.int (3)), some (.int (3))]) m168_17 rfl rfl ?_
    refine g_goto m168_18 ?_
    refine g_iload_n m168_4 rfl ?_
    refine h_if_eqF (xi := 3) (zi := 0) m168_5 rfl rfl (by decide) ?_
    refine g_iload_n m168_8 rfl ?_
    refine g_iload_n m168_9 rfl ?_
    refine g_irem (u := (1 : Int32)) m168_10 (by decide) (by decide) ?_
    refine g_istore (L2 := [some (.int (7)), some (.int (10)), some (.int (7)), some (.int (3)), some (.int (1))]) m168_11 rfl rfl ?_
    refine g_iload_n m168_13 rfl ?_
    refine g_istore_n (L2 := [some (.int (7)), some (.int (10)), some (.int (3)), some (.int (3)), some (.int (1))]) m168_14 rfl rfl ?_
    refine g_iload m168_15 rfl ?_
    refine g_istore_n (L2 := [some (.int (7)), some (.int (10)), some (.int (3)), some (.int (1)), some (.int (1))]) m168_17 rfl rfl ?_
    refine g_goto m168_18 ?_
    refine g_iload_n m168_4 rfl ?_
    refine h_if_eqF (xi := 1) (zi := 0) m168_5 rfl rfl (by decide) ?_
    refine g_iload_n m168_8 rfl ?_
    refine g_iload_n m168_9 rfl ?_
    refine g_irem (u := (0 : Int32)) m168_10 (by decide) (by decide) ?_
    refine g_istore (L2 := [some (.int (7)), some (.int (10)), some (.int (3)), some (.int (1)), some (.int (0))]) m168_11 rfl rfl ?_
    refine g_iload_n m168_13 rfl ?_
    refine g_istore_n (L2 := [some (.int (7)), some (.int (10)), some (.int (1)), some (.int (1)), some (.int (0))]) m168_14 rfl rfl ?_
    refine g_iload m168_15 rfl ?_
    refine g_istore_n (L2 := [some (.int (7)), some (.int (10)), some (.int (1)), some (.int (0)), some (.int (0))]) m168_17 rfl rfl ?_
    refine g_goto m168_18 ?_
    refine g_iload_n m168_4 rfl ?_
    refine h_if_eqT (xi := 0) (zi := 0) m168_5 rfl rfl (by decide) ?_
    refine g_iload_n m168_21 rfl ?_
    refine g_iret m168_22 rt_168 ?_
    exact hQ
  · skip
    refine gwl (L' := [some (.int 8), some (.int 10), none, none, none]) rfl ?_
    refine g_iload_n m168_0 rfl ?_
    refine g_istore_n (L2 := [some (.int (8)), some (.int (10)), some (.int (8)), none, none]) m168_1 rfl rfl ?_
    refine g_iload_n m168_2 rfl ?_
    refine g_istore_n (L2 := [some (.int (8)), some (.int (10)), some (.int (8)), some (.int (10)), none]) m168_3 rfl rfl ?_
    refine g_iload_n m168_4 rfl ?_
    refine h_if_eqF (xi := 10) (zi := 0) m168_5 rfl rfl (by decide) ?_
    refine g_iload_n m168_8 rfl ?_
    refine g_iload_n m168_9 rfl ?_
    refine g_irem (u := (8 : Int32)) m168_10 (by decide) (by decide) ?_
    refine g_istore (L2 := [some (.int (8)), some (.int (10)), some (.int (8)), some (.int (10)), some (.int (8))]) m168_11 rfl rfl ?_
    refine g_iload_n m168_13 rfl ?_
    refine g_istore_n (L2 := [some (.int (8)), some (.int (10)), some (.int (10)), some (.int (10)), some (.int (8))]) m168_14 rfl rfl ?_
    refine g_iload m168_15 rfl ?_
    refine g_istore_n (L2 := [some (.int (8)), some (.int (10)), some (.int (10)), some (.int (8)), some (.int (8))]) m168_17 rfl rfl ?_
    refine g_goto m168_18 ?_
    refine g_iload_n m168_4 rfl ?_
    refine h_if_eqF (xi := 8) (zi := 0) m168_5 rfl rfl (by decide) ?_
    refine g_iload_n m168_8 rfl ?_
    refine g_iload_n m168_9 rfl ?_
    refine g_irem (u := (2 : Int32)) m168_10 (by decide) (by decide) ?_
    refine g_istore (L2 := [some (.int (8)), some (.int (10)), some (.int (10)), some (.int (8)), some (.int (2))]) m168_11 rfl rfl ?_
    refine g_iload_n m168_13 rfl ?_
    refine g_istore_n (L2 := [some (.int (8)), some (.int (10)), some (.int (8)), some (.int (8)), some (.int (2))]) m168_14 rfl rfl ?_
    refine g_iload m168_15 rfl ?_
    refine g_istore_n (L2 := [some (.int (8)), some (.int (10)), some (.int (8)), some (.int (2)), some (.int (2))]) m168_17 rfl rfl ?_
    refine g_goto m168_18 ?_
    refine g_iload_n m168_4 rfl ?_
    refine h_if_eqF (xi := 2) (zi := 0) m168_5 rfl rfl (by decide) ?_
    refine g_iload_n m168_8 rfl ?_
    refine g_iload_n m168_9 rfl ?_
    refine g_irem (u := (0 : Int32)) m168_10 (by decide) (by decide) ?_
    refine g_istore (L2 := [some (.int (8)), some (.int (10)), some (.int (8)), some (.int (2)), some (.int (0))]) m168_11 rfl rfl ?_
    refine g_iload_n m168_13 rfl ?_
    refine g_istore_n (L2 := [some (.int (8)), some (.int (10)), some (.int (2)), some (.int (2)), some (.int (0))]) m168_14 rfl rfl ?_
    refine g_iload m168_15 rfl ?_
    refine g_istore_n (L2 := [some (.int (8)), some (.int (10)), some (.int (2)), some (.int (0)), some (.int (0))]) m168_17 rfl rfl ?_
    refine g_goto m168_18 ?_
    refine g_iload_n m168_4 rfl ?_
    refine h_if_eqT (xi := 0) (zi := 0) m168_5 rfl rfl (by decide) ?_
    refine g_iload_n m168_21 rfl ?_
    refine g_iret m168_22 rt_168 ?_
    exact hQ
  · skip
    refine gwl (L' := [some (.int 9), some (.int 10), none, none, none]) rfl ?_
    refine g_iload_n m168_0 rfl ?_
    refine g_istore_n (L2 := [some (.int (9)), some (.int (10)), some (.int (9)), none, none]) m168_1 rfl rfl ?_
    refine g_iload_n m168_2 rfl ?_
    refine g_istore_n (L2 := [some (.int (9)), some (.int (10)), some (.int (9)), some (.int (10)), none]) m168_3 rfl rfl ?_
    refine g_iload_n m168_4 rfl ?_
    refine h_if_eqF (xi := 10) (zi := 0) m168_5 rfl rfl (by decide) ?_
    refine g_iload_n m168_8 rfl ?_
    refine g_iload_n m168_9 rfl ?_
    refine g_irem (u := (9 : Int32)) m168_10 (by decide) (by decide) ?_
    refine g_istore (L2 := [some (.int (9)), some (.int (10)), some (.int (9)), some (.int (10)), some (.int (9))]) m168_11 rfl rfl ?_
    refine g_iload_n m168_13 rfl ?_
    refine g_istore_n (L2 := [some (.int (9)), some (.int (10)), some (.int (10)), some (.int (10)), some (.int (9))]) m168_14 rfl rfl ?_
    refine g_iload m168_15 rfl ?_
    refine g_istore_n (L2 := [some (.int (9)), some (.int (10)), some (.int (10)), some (.int (9)), some (.int (9))]) m168_17 rfl rfl ?_
    refine g_goto m168_18 ?_
    refine g_iload_n m168_4 rfl ?_
    refine h_if_eqF (xi := 9) (zi := 0) m168_5 rfl rfl (by decide) ?_
    refine g_iload_n m168_8 rfl ?_
    refine g_iload_n m168_9 rfl ?_
    refine g_irem (u := (1 : Int32)) m168_10 (by decide) (by decide) ?_
    refine g_istore (L2 := [some (.int (9)), some (.int (10)), some (.int (10)), some (.int (9)), some (.int (1))]) m168_11 rfl rfl ?_
    refine g_iload_n m168_13 rfl ?_
    refine g_istore_n (L2 := [some (.int (9)), some (.int (10)), some (.int (9)), some (.int (9)), some (.int (1))]) m168_14 rfl rfl ?_
    refine g_iload m168_15 rfl ?_
    refine g_istore_n (L2 := [some (.int (9)), some (.int (10)), some (.int (9)), some (.int (1)), some (.int (1))]) m168_17 rfl rfl ?_
    refine g_goto m168_18 ?_
    refine g_iload_n m168_4 rfl ?_
    refine h_if_eqF (xi := 1) (zi := 0) m168_5 rfl rfl (by decide) ?_
    refine g_iload_n m168_8 rfl ?_
    refine g_iload_n m168_9 rfl ?_
    refine g_irem (u := (0 : Int32)) m168_10 (by decide) (by decide) ?_
    refine g_istore (L2 := [some (.int (9)), some (.int (10)), some (.int (9)), some (.int (1)), some (.int (0))]) m168_11 rfl rfl ?_
    refine g_iload_n m168_13 rfl ?_
    refine g_istore_n (L2 := [some (.int (9)), some (.int (10)), some (.int (1)), some (.int (1)), some (.int (0))]) m168_14 rfl rfl ?_
    refine g_iload m168_15 rfl ?_
    refine g_istore_n (L2 := [some (.int (9)), some (.int (10)), some (.int (1)), some (.int (0)), some (.int (0))]) m168_17 rfl rfl ?_
    refine g_goto m168_18 ?_
    refine g_iload_n m168_4 rfl ?_
    refine h_if_eqT (xi := 0) (zi := 0) m168_5 rfl rfl (by decide) ?_
    refine g_iload_n m168_21 rfl ?_
    refine g_iret m168_22 rt_168 ?_
    exact hQ
  · skip
    refine gwl (L' := [some (.int 10), some (.int 10), none, none, none]) rfl ?_
    refine g_iload_n m168_0 rfl ?_
    refine g_istore_n (L2 := [some (.int (10)), some (.int (10)), some (.int (10)), none, none]) m168_1 rfl rfl ?_
    refine g_iload_n m168_2 rfl ?_
    refine g_istore_n (L2 := [some (.int (10)), some (.int (10)), some (.int (10)), some (.int (10)), none]) m168_3 rfl rfl ?_
    refine g_iload_n m168_4 rfl ?_
    refine h_if_eqF (xi := 10) (zi := 0) m168_5 rfl rfl (by decide) ?_
    refine g_iload_n m168_8 rfl ?_
    refine g_iload_n m168_9 rfl ?_
    refine g_irem (u := (0 : Int32)) m168_10 (by decide) (by decide) ?_
    refine g_istore (L2 := [some (.int (10)), some (.int (10)), some (.int (10)), some (.int (10)), some (.int (0))]) m168_11 rfl rfl ?_
    refine g_iload_n m168_13 rfl ?_
    refine g_istore_n (L2 := [some (.int (10)), some (.int (10)), some (.int (10)), some (.int (10)), some (.int (0))]) m168_14 rfl rfl ?_
    refine g_iload m168_15 rfl ?_
    refine g_istore_n (L2 := [some (.int (10)), some (.int (10)), some (.int (10)), some (.int (0)), some (.int (0))]) m168_17 rfl rfl ?_
    refine g_goto m168_18 ?_
    refine g_iload_n m168_4 rfl ?_
    refine h_if_eqT (xi := 0) (zi := 0) m168_5 rfl rfl (by decide) ?_
    refine g_iload_n m168_21 rfl ?_
    refine g_iret m168_22 rt_168 ?_
    exact hQ
set_option maxRecDepth 20000 in
set_option maxHeartbeats 40000000 in
theorem m_odds {a v b : Int32} {n : Nat} (hd : m 58 2 = nI n) (hn : n ≤ 8) (hX0 : TxOk (m 58) 0) (hX1 : TxOk (m 58) 1) (hWY : WF (vr (m 58))) (hE1 : (a.toInt < 0 ∨ (n : Int) ≤ a.toInt ∨ v.toInt < 0 ∨ 60 < v.toInt ∨ b.toInt < 0 ∨ 1 < b.toInt) → Q (some (.int (-1000000001))) (H (ers m 1) ln N)) (hY0 : ∀ i k : Nat, a = nI i → i < n → v = nI k → k ≤ 60 → b = nI 0 → ∀ m2, FrP m m2 → Q (some (.int (nI ((cntF (fun s => moreN (rkF (m 58)) (rbF (m 58)) (upm (vr (m 58)) 5 i (nI s)) k i) 10) / Nat.gcd (cntF (fun s => moreN (rkF (m 58)) (rbF (m 58)) (upm (vr (m 58)) 5 i (nI s)) k i) 10) 10)))) (H m2 ln N)) (hY1 : ∀ i k : Nat, a = nI i → i < n → v = nI k → k ≤ 60 → b = nI 1 → ∀ m2, FrP m m2 → Q (some (.int (nI (10 / Nat.gcd (cntF (fun s => moreN (rkF (m 58)) (rbF (m 58)) (upm (vr (m 58)) 5 i (nI s)) k i) 10) 10)))) (H m2 ln N))  : WP xs (d + 818) 169 0 0 [.ref (89), .int (a), .int (v), .int (b)] (H m ln N) Q := by
  refine wp_x mx_169 (L := [some (.ref (89)), some (.int (a)), some (.int (v)), some (.int (b)), none, none]) (Nat.le_of_ble_eq_true rfl) rfl ?_
  have hnn : nOf (vr (m 58)) = n := by unfold nOf; rw [show (vr (m 58)) 0 10 = nI n from hd]; exact nI_clamp (by omega)
  refine g_aload_n m169_0 rfl ?_
  refine g_iload_n m169_1 rfl ?_
  refine h_cv (k := 57) (p := 89) (args := [.int (a)]) (rest := []) m169_2 cn_113 (Nat.le_of_ble_eq_true rfl) rfl rfl rfl (t_57 _ _) (Nat.le_of_ble_eq_true rfl) ?_
  refine c_isDinerM hd hn (fun ja ea a_5 => ?_) (fun a_5 => ?_)
  · subst ea
    refine gwr ?_
    refine h_if_eqF (xi := 1) (zi := 0) m169_5 rfl rfl (by decide) ?_
    refine g_iload_n m169_8 rfl ?_
    refine g_iconst m169_9 ?_
    refine g_bipush m169_10 ?_
    refine g_cs (args := [.int (v), .int (0), .int (60)]) (rest := []) 0 (Or.inl rfl) m169_12 (Nat.le_of_ble_eq_true rfl) rfl rfl (Nat.le_of_ble_eq_true rfl) ?_
    refine c_in (A := 0) (B := 60) rfl rfl (by decide) (fun jv ev a_6 a_6' => ?_) (fun a_6 => ?_)
    · subst ev
      refine gwr ?_
      refine h_if_eqF (xi := 1) (zi := 0) m169_15 rfl rfl (by decide) ?_
      refine g_iload_n m169_18 rfl ?_
      refine g_iconst m169_19 ?_
      refine g_iconst m169_20 ?_
      refine g_cs (args := [.int (b), .int (0), .int (1)]) (rest := []) 0 (Or.inl rfl) m169_21 (Nat.le_of_ble_eq_true rfl) rfl rfl (Nat.le_of_ble_eq_true rfl) ?_
      refine c_in (A := 0) (B := 1) rfl rfl (by decide) (fun jb eb a_7 a_7' => ?_) (fun a_7 => ?_)
      · subst eb
        refine gwr ?_
        refine h_if_neF (xi := 1) (zi := 0) m169_24 rfl rfl (by decide) ?_
        refine g_iconst m169_34 ?_
        refine g_istore (L2 := [some (.ref (89)), some (.int (nI (ja))), some (.int (nI (jv))), some (.int (nI (jb))), some (.int (0)), none]) m169_35 rfl rfl ?_
        refine g_iconst m169_37 ?_
        refine g_istore (L2 := [some (.ref (89)), some (.int (nI (ja))), some (.int (nI (jv))), some (.int (nI (jb))), some (.int (0)), some (.int (0))]) m169_38 rfl rfl ?_
        have hb10 : ∀ q, cntF (fun s => moreN (rkF (m 58)) (rbF (m 58)) (upm (vr (m 58)) 5 ja (nI s)) jv ja) q ≤ q := cntF_le _
        have hp : 2 ^ ja < 2 ^ 8 := Nat.pow_lt_pow_right (by decide) (by omega)
        have key : ∀ (r : Nat) (s : Nat) (m2 : MW), s + r = 10 → FrP m m2 → gw xs (WP xs (d + 817)) 169 Q 40 [some (.ref (89)), some (.int (nI (ja))), some (.int (nI (jv))), some (.int (nI (jb))), some (.int (nI (cntF (fun s => moreN (rkF (m 58)) (rbF (m 58)) (upm (vr (m 58)) 5 ja (nI s)) jv ja) s))), some (.int (nI (s)))] [] (H m2 ln N) 0 0 := by
          intro r
          induction r with
          | zero =>
            intro s m2 hs hF
            obtain rfl : s = 10 := by omega
            refine g_iload m169_40 rfl ?_
            refine g_bipush m169_42 ?_
            refine h_ic_gtT (xi := ((10 : Nat) : Int)) (zi := 9) m169_44 (nI_toInt (by omega)) rfl (by omega) ?_
            refine g_iload m169_72 rfl ?_
            refine g_bipush m169_74 ?_
            refine g_cs (args := [.int (nI (cntF (fun s => moreN (rkF (m 58)) (rbF (m 58)) (upm (vr (m 58)) 5 ja (nI s)) jv ja) 10)), .int (10)]) (rest := []) 0 (Or.inl rfl) m169_76 (Nat.le_of_ble_eq_true rfl) rfl rfl (Nat.le_of_ble_eq_true rfl) ?_
            refine c_divisor (hb10 10) ?_
            have hg1 : 0 < Nat.gcd (cntF (fun s => moreN (rkF (m 58)) (rbF (m 58)) (upm (vr (m 58)) 5 ja (nI s)) jv ja) 10) 10 := Nat.gcd_pos_of_pos_right _ (by decide)
            have hg2 : Nat.gcd (cntF (fun s => moreN (rkF (m 58)) (rbF (m 58)) (upm (vr (m 58)) 5 ja (nI s)) jv ja) 10) 10 ≤ 10 := Nat.gcd_le_right _ (by decide)
            refine gwr ?_
            refine g_istore (L2 := [some (.ref (89)), some (.int (nI (ja))), some (.int (nI (jv))), some (.int (nI (jb))), some (.int (nI (cntF (fun s => moreN (rkF (m 58)) (rbF (m 58)) (upm (vr (m 58)) 5 ja (nI s)) jv ja) 10))), some (.int (nI (Nat.gcd (cntF (fun s => moreN (rkF (m 58)) (rbF (m 58)) (upm (vr (m 58)) 5 ja (nI s)) jv ja) 10) 10)))]) m169_79 rfl rfl ?_
            refine g_iload_n m169_81 rfl ?_
            refine h_if_ne (xi := ((jb : Nat) : Int)) (zi := 0) m169_82 (nI_toInt (by omega)) rfl (fun c1 => ?_) (fun c1 => ?_)
            · skip
              refine g_iload m169_85 rfl ?_
              refine g_iload m169_87 rfl ?_
              refine g_idiv (u := nI ((cntF (fun s => moreN (rkF (m 58)) (rbF (m 58)) (upm (vr (m 58)) 5 ja (nI s)) jv ja) 10) / (Nat.gcd (cntF (fun s => moreN (rkF (m 58)) (rbF (m 58)) (upm (vr (m 58)) 5 ja (nI s)) jv ja) 10) 10))) m169_89 (nI_ne0 hg1 (by omega)) (pk_div (a := (cntF (fun s => moreN (rkF (m 58)) (rbF (m 58)) (upm (vr (m 58)) 5 ja (nI s)) jv ja) 10)) (d := (Nat.gcd (cntF (fun s => moreN (rkF (m 58)) (rbF (m 58)) (upm (vr (m 58)) 5 ja (nI s)) jv ja) 10) 10)) (by have := hb10 10; omega) hg1 (by omega)) ?_
              refine g_goto m169_90 ?_
              refine g_iret m169_98 rt_169 ?_
              obtain rfl : jb = 0 := by omega
              exact hY0 ja jv rfl (by omega) rfl (by omega) rfl m2 hF
            · skip
              refine g_bipush m169_93 ?_
              refine g_iload m169_95 rfl ?_
              refine g_idiv (u := nI (10 / (Nat.gcd (cntF (fun s => moreN (rkF (m 58)) (rbF (m 58)) (upm (vr (m 58)) 5 ja (nI s)) jv ja) 10) 10))) m169_97 (nI_ne0 hg1 (by omega)) (pk_div (a := 10) (d := (Nat.gcd (cntF (fun s => moreN (rkF (m 58)) (rbF (m 58)) (upm (vr (m 58)) 5 ja (nI s)) jv ja) 10) 10)) (by have := hb10 10; omega) hg1 (by omega)) ?_
              refine g_iret m169_98 rt_169 ?_
              obtain rfl : jb = 1 := by omega
              exact hY1 ja jv rfl (by omega) rfl (by omega) rfl m2 hF
          | succ r ih =>
            intro s m2 hs hF
            refine g_iload m169_40 rfl ?_
            refine g_bipush m169_42 ?_
            refine h_ic_gtF (xi := ((s : Nat) : Int)) (zi := 9) m169_44 (nI_toInt (by omega)) rfl (by omega) ?_
            refine g_iload m169_47 rfl ?_
            refine g_aload_n m169_49 rfl ?_
            refine g_iconst m169_50 ?_
            refine g_iload_n m169_51 rfl ?_
            refine g_ishl (u := nI (2 ^ ja)) m169_52 (bit_1 ja (by omega)) ?_
            refine g_iload m169_53 rfl ?_
            refine g_iload_n m169_55 rfl ?_
            refine h_cv (k := 57) (p := 89) (args := [.int (nI (2 ^ ja)), .int (nI (s)), .int (nI (jv))]) (rest := [.int (nI (cntF (fun s => moreN (rkF (m 58)) (rbF (m 58)) (upm (vr (m 58)) 5 ja (nI s)) jv ja) s))]) m169_56 cn_155 (Nat.le_of_ble_eq_true rfl) rfl rfl rfl (t_57 _ _) (Nat.le_of_ble_eq_true rfl) ?_
            have e58 : m2 58 = m 58 := hF.row
            refine c_fedS (n := n) (a := 2 ^ ja) (s := s) (k := jv) (by rw [e58]; exact hd) hn (by rw [e58]; exact hX0) (by rw [e58]; exact hX1) (by rw [e58]; exact hWY) (by omega) (by omega) (by omega) (fun m3 hF2 => ?_)
            rw [e58]
            have hF3 := hF.tr hF2
            refine gwr ?_
            refine g_iload_n m169_59 rfl ?_
            refine g_ishr m169_60 rfl ?_
            refine g_iconst m169_61 ?_
            have h256 : (bitsF (moreN (rkF (m 58)) (rbF (m 58)) (shamX (vr (m 58)) (2 ^ ja) (nI s)) jv) n) < 256 := Nat.lt_of_lt_of_le (bitsF_lt _ n) (show 2 ^ n ≤ 2 ^ 8 from Nat.pow_le_pow_right (by decide) hn)
            refine g_iand (u := if Nat.testBit (bitsF (moreN (rkF (m 58)) (rbF (m 58)) (shamX (vr (m 58)) (2 ^ ja) (nI s)) jv) n) ja = true then 1 else 0) m169_62 (bit_sh ja (by omega) _ h256) ?_
            rw [bitsF_t _ _ _ (show ja < n by omega), shamX_e hnn (show ja < n by omega)]
            by_cases hb : (fun s => moreN (rkF (m 58)) (rbF (m 58)) (upm (vr (m 58)) 5 ja (nI s)) jv ja) s = true
            · rw [if_pos hb]
              have ec := cnt_y (p := (fun s => moreN (rkF (m 58)) (rbF (m 58)) (upm (vr (m 58)) 5 ja (nI s)) jv ja)) (q := s) hb
              refine g_iadd (u := nI ((cntF (fun s => moreN (rkF (m 58)) (rbF (m 58)) (upm (vr (m 58)) 5 ja (nI s)) jv ja) s) + 1)) m169_63 (nI_add (cntF (fun s => moreN (rkF (m 58)) (rbF (m 58)) (upm (vr (m 58)) 5 ja (nI s)) jv ja) s) 1) ?_
              refine g_istore (L2 := [some (.ref (89)), some (.int (nI (ja))), some (.int (nI (jv))), some (.int (nI (jb))), some (.int (nI ((cntF (fun s => moreN (rkF (m 58)) (rbF (m 58)) (upm (vr (m 58)) 5 ja (nI s)) jv ja) s) + 1))), some (.int (nI (s)))]) m169_64 rfl rfl ?_
              refine g_iinc (L2 := [some (.ref (89)), some (.int (nI (ja))), some (.int (nI (jv))), some (.int (nI (jb))), some (.int (nI ((cntF (fun s => moreN (rkF (m 58)) (rbF (m 58)) (upm (vr (m 58)) 5 ja (nI s)) jv ja) s) + 1))), some (.int (nI (s + 1)))]) m169_66 rfl (nI_1 _) rfl rfl ?_
              refine g_goto m169_69 ?_
              have h9 := ih (s + 1) _ (by omega) hF3
              rw [ec] at h9
              exact h9
            · rw [if_neg hb]
              have ec := cnt_n (p := (fun s => moreN (rkF (m 58)) (rbF (m 58)) (upm (vr (m 58)) 5 ja (nI s)) jv ja)) (q := s) hb
              refine g_iadd (u := nI ((cntF (fun s => moreN (rkF (m 58)) (rbF (m 58)) (upm (vr (m 58)) 5 ja (nI s)) jv ja) s) + 0)) m169_63 (nI_add (cntF (fun s => moreN (rkF (m 58)) (rbF (m 58)) (upm (vr (m 58)) 5 ja (nI s)) jv ja) s) 0) ?_
              refine g_istore (L2 := [some (.ref (89)), some (.int (nI (ja))), some (.int (nI (jv))), some (.int (nI (jb))), some (.int (nI ((cntF (fun s => moreN (rkF (m 58)) (rbF (m 58)) (upm (vr (m 58)) 5 ja (nI s)) jv ja) s) + 0))), some (.int (nI (s)))]) m169_64 rfl rfl ?_
              refine g_iinc (L2 := [some (.ref (89)), some (.int (nI (ja))), some (.int (nI (jv))), some (.int (nI (jb))), some (.int (nI ((cntF (fun s => moreN (rkF (m 58)) (rbF (m 58)) (upm (vr (m 58)) 5 ja (nI s)) jv ja) s) + 0))), some (.int (nI (s + 1)))]) m169_66 rfl (nI_1 _) rfl rfl ?_
              refine g_goto m169_69 ?_
              have h9 := ih (s + 1) _ (by omega) hF3
              rw [ec] at h9
              exact h9
        exact key 10 0 m (by omega) FrP.rf
      · skip
        refine gwr ?_
        refine h_if_neT (xi := 0) (zi := 0) m169_24 rfl rfl (by decide) ?_
        refine g_aload_n m169_27 rfl ?_
        refine g_ldci m169_28 rfl ?_
        refine h_cv (k := 57) (p := 89) (args := [.int (-1000000001)]) (rest := []) m169_30 cn_108 (Nat.le_of_ble_eq_true rfl) rfl rfl rfl (t_57 _ _) (Nat.le_of_ble_eq_true rfl) ?_
        refine c_errs (e := 1) (by decide) (by decide) (by decide) ?_
        refine gwr ?_
        refine g_iret m169_33 rt_169 ?_
        exact hE1 (by omega)
    · skip
      refine gwr ?_
      refine h_if_eqT (xi := 0) (zi := 0) m169_15 rfl rfl (by decide) ?_
      refine g_aload_n m169_27 rfl ?_
      refine g_ldci m169_28 rfl ?_
      refine h_cv (k := 57) (p := 89) (args := [.int (-1000000001)]) (rest := []) m169_30 cn_108 (Nat.le_of_ble_eq_true rfl) rfl rfl rfl (t_57 _ _) (Nat.le_of_ble_eq_true rfl) ?_
      refine c_errs (e := 1) (by decide) (by decide) (by decide) ?_
      refine gwr ?_
      refine g_iret m169_33 rt_169 ?_
      exact hE1 (by omega)
  · skip
    refine gwr ?_
    refine h_if_eqT (xi := 0) (zi := 0) m169_5 rfl rfl (by decide) ?_
    refine g_aload_n m169_27 rfl ?_
    refine g_ldci m169_28 rfl ?_
    refine h_cv (k := 57) (p := 89) (args := [.int (-1000000001)]) (rest := []) m169_30 cn_108 (Nat.le_of_ble_eq_true rfl) rfl rfl rfl (t_57 _ _) (Nat.le_of_ble_eq_true rfl) ?_
    refine c_errs (e := 1) (by decide) (by decide) (by decide) ?_
    refine gwr ?_
    refine g_iret m169_33 rt_169 ?_
    exact hE1 (by omega)
set_option maxRecDepth 20000 in
set_option maxHeartbeats 40000000 in
theorem m_cramps {a v : Int32} {n : Nat} (hd : m 58 2 = nI n) (hn : n ≤ 8) (hX0 : TxOk (m 58) 0) (hX1 : TxOk (m 58) 1) (hWY : WF (vr (m 58))) (hE1 : (a.toInt < 0 ∨ (n : Int) ≤ a.toInt ∨ v.toInt < 0 ∨ 60 < v.toInt) → Q (some (.int (-1000000001))) (H (ers m 1) ln N)) (hY : ∀ i k : Nat, a = nI i → i < n → v = nI k → k ≤ 60 → ∀ m2, FrP m m2 → Q (some (.int (nI (cntF (fun q => decide (50 ≤ (stepN (rkF (m 58)) (rbF (m 58)) (vr (m 58)) (q + 1) 4 i).toInt)) k)))) (H m2 ln N)) : WP xs (d + 818) 165 0 0 [.ref (89), .int (a), .int (v)] (H m ln N) Q := by
  refine wp_x mx_165 (L := [some (.ref (89)), some (.int (a)), some (.int (v)), none, none]) (Nat.le_of_ble_eq_true rfl) rfl ?_
  refine g_aload_n m165_0 rfl ?_
  refine g_iload_n m165_1 rfl ?_
  refine h_cv (k := 57) (p := 89) (args := [.int (a)]) (rest := []) m165_2 cn_113 (Nat.le_of_ble_eq_true rfl) rfl rfl rfl (t_57 _ _) (Nat.le_of_ble_eq_true rfl) ?_
  refine c_isDinerM hd hn (fun ja ea a_8 => ?_) (fun a_8 => ?_)
  · subst ea
    refine gwr ?_
    refine h_if_eqF (xi := 1) (zi := 0) m165_5 rfl rfl (by decide) ?_
    refine g_iload_n m165_8 rfl ?_
    refine g_iconst m165_9 ?_
    refine g_bipush m165_10 ?_
    refine g_cs (args := [.int (v), .int (0), .int (60)]) (rest := []) 0 (Or.inl rfl) m165_12 (Nat.le_of_ble_eq_true rfl) rfl rfl (Nat.le_of_ble_eq_true rfl) ?_
    refine c_in (A := 0) (B := 60) rfl rfl (by decide) (fun jv ev a_9 a_9' => ?_) (fun a_9 => ?_)
    · subst ev
      refine gwr ?_
      refine h_if_neF (xi := 1) (zi := 0) m165_15 rfl rfl (by decide) ?_
      refine g_iconst m165_25 ?_
      refine g_istore_n (L2 := [some (.ref (89)), some (.int (nI (ja))), some (.int (nI (jv))), some (.int (0)), none]) m165_26 rfl rfl ?_
      refine g_aload_n m165_27 rfl ?_
      refine g_aload_n m165_28 rfl ?_
      refine h_gfR (c := 90) (k := 57) (p := 89) m165_29 rfl (t_57 _ _) rfl (Nat.le_of_ble_eq_true rfl) ?_
      refine g_aload_n m165_32 rfl ?_
      refine h_gfR (c := 92) (k := 57) (p := 89) m165_33 rfl (t_57 _ _) rfl (Nat.le_of_ble_eq_true rfl) ?_
      refine h_cv (k := 57) (p := 89) (args := [.ref (90), .ref (92)]) (rest := []) m165_36 cn_110 (Nat.le_of_ble_eq_true rfl) rfl rfl rfl (t_57 _ _) (Nat.le_of_ble_eq_true rfl) ?_
      refine c_moveRow (k1 := 58) (k2 := 60) rfl rfl (t_58 _ _) (t_60 _ _) (by decide) ?_
      have h58 : (upmR m 60 (m 58)) 58 = m 58 := thR_58 _ _
      have hAt := thR_A m
      have hX0t : TxOk ((upmR m 60 (m 58)) 58) 0 := by rw [h58]; exact hX0
      have hX1t : TxOk ((upmR m 60 (m 58)) 58) 1 := by rw [h58]; exact hX1
      refine gwr0 ?_
      refine g_iconst m165_39 ?_
      refine g_istore (L2 := [some (.ref (89)), some (.int (nI (ja))), some (.int (nI (jv))), some (.int (0)), some (.int (0))]) m165_40 rfl rfl ?_
      have key : ∀ (r : Nat) (q : Nat) (m2 : MW), q + r = jv → AtY (upmR m 60 (m 58)) (stepN (rkF (m 58)) (rbF (m 58)) (vr (m 58)) q) m2 → gw xs (WP xs (d + 817)) 165 Q 42 [some (.ref (89)), some (.int (nI (ja))), some (.int (nI (jv))), some (.int (nI (cntF (fun q => decide (50 ≤ (stepN (rkF (m 58)) (rbF (m 58)) (vr (m 58)) (q + 1) 4 ja).toInt)) q))), some (.int (nI (q)))] [] (H m2 ln N) 0 0 := by
        intro r
        induction r with
        | zero =>
          intro q m2 hq hA
          obtain rfl : q = jv := by omega
          refine g_iload m165_42 rfl ?_
          refine g_iload_n m165_44 rfl ?_
          refine h_ic_geT (xi := ((q : Nat) : Int)) (zi := ((q : Nat) : Int)) m165_45 (nI_toInt (by omega)) (nI_toInt (by omega)) (by omega) ?_
          refine g_aload_n m165_77 rfl ?_
          refine g_aload_n m165_78 rfl ?_
          refine h_gfR (c := 92) (k := 57) (p := 89) m165_79 rfl (t_57 _ _) rfl (Nat.le_of_ble_eq_true rfl) ?_
          refine g_aload_n m165_82 rfl ?_
          refine h_gfR (c := 90) (k := 57) (p := 89) m165_83 rfl (t_57 _ _) rfl (Nat.le_of_ble_eq_true rfl) ?_
          refine h_cv (k := 57) (p := 89) (args := [.ref (92), .ref (90)]) (rest := []) m165_86 cn_110 (Nat.le_of_ble_eq_true rfl) rfl rfl rfl (t_57 _ _) (Nat.le_of_ble_eq_true rfl) ?_
          refine c_moveRow (k1 := 60) (k2 := 58) rfl rfl (t_60 _ _) (t_58 _ _) (by decide) ?_
          have hFb := FrP.back hA
          refine gwr0 ?_
          refine g_iload_n m165_89 rfl ?_
          refine g_iret m165_90 rt_165 ?_
          exact hY ja q rfl (by omega) rfl (by omega) _ hFb
        | succ r ih =>
          intro q m2 hq hA
          refine g_iload m165_42 rfl ?_
          refine g_iload_n m165_44 rfl ?_
          refine h_ic_geF (xi := ((q : Nat) : Int)) (zi := ((jv : Nat) : Int)) m165_45 (nI_toInt (by omega)) (nI_toInt (by omega)) (by omega) ?_
          refine g_aload_n m165_48 rfl ?_
          refine h_cv (k := 57) (p := 89) (args := []) (rest := []) m165_49 cn_145 (Nat.le_of_ble_eq_true rfl) rfl rfl rfl (t_57 _ _) (Nat.le_of_ble_eq_true rfl) ?_
          refine c_oneStep hA hX0t hX1t (WF_stepN hWY q) (fun m3 hA3 => ?_)
          rw [h58] at hA3
          have hA3 : AtY (upmR m 60 (m 58)) (stepN (rkF (m 58)) (rbF (m 58)) (vr (m 58)) (q + 1)) m3 := hA3
          refine gwr0 ?_
          refine g_iload_n m165_52 rfl ?_
          refine g_aload_n m165_53 rfl ?_
          refine g_iload_n m165_54 rfl ?_
          refine g_iconst m165_55 ?_
          refine h_cv (k := 57) (p := 89) (args := [.int (nI (ja)), .int (2)]) (rest := [.int (nI (cntF (fun q => decide (50 ≤ (stepN (rkF (m 58)) (rbF (m 58)) (vr (m 58)) (q + 1) 4 ja).toInt)) q))]) m165_56 cn_111 (Nat.le_of_ble_eq_true rfl) rfl rfl rfl (t_57 _ _) (Nat.le_of_ble_eq_true rfl) ?_
          refine c_its (w := 2) (by omega) (by decide) ?_
          rw [hA3.rd (i := ja) (c := 2) (by omega) (by decide)]
          refine gwr ?_
          refine g_bipush m165_59 ?_
          refine h_ic_lt (xi := _) (zi := 50) m165_61 rfl rfl (fun c1 => ?_) (fun c1 => ?_)
          · skip
            refine g_iconst m165_68 ?_
            refine g_iadd (u := nI ((cntF (fun q => decide (50 ≤ (stepN (rkF (m 58)) (rbF (m 58)) (vr (m 58)) (q + 1) 4 ja).toInt)) q) + 0)) m165_69 (nI_add (cntF (fun q => decide (50 ≤ (stepN (rkF (m 58)) (rbF (m 58)) (vr (m 58)) (q + 1) 4 ja).toInt)) q) 0) ?_
            refine g_istore_n (L2 := [some (.ref (89)), some (.int (nI (ja))), some (.int (nI (jv))), some (.int (nI ((cntF (fun q => decide (50 ≤ (stepN (rkF (m 58)) (rbF (m 58)) (vr (m 58)) (q + 1) 4 ja).toInt)) q) + 0))), some (.int (nI (q)))]) m165_70 rfl rfl ?_
            refine g_iinc (L2 := [some (.ref (89)), some (.int (nI (ja))), some (.int (nI (jv))), some (.int (nI ((cntF (fun q => decide (50 ≤ (stepN (rkF (m 58)) (rbF (m 58)) (vr (m 58)) (q + 1) 4 ja).toInt)) q) + 0))), some (.int (nI (q + 1)))]) m165_71 rfl (nI_1 _) rfl rfl ?_
            refine g_goto m165_74 ?_
            have hc8 :  ((stepN (rkF (m 58)) (rbF (m 58)) (vr (m 58)) (q + 1) 4 ja).toInt < 50) := c1
            have ec := cnt_n (p := (fun q => decide (50 ≤ (stepN (rkF (m 58)) (rbF (m 58)) (vr (m 58)) (q + 1) 4 ja).toInt))) (q := q) (by rw [decide_eq_true_eq]; omega)
            have h9 := ih (q + 1) _ (by omega) hA3
            rw [ec] at h9
            exact h9
          · skip
            refine g_iconst m165_64 ?_
            refine g_goto m165_65 ?_
            refine g_iadd (u := nI ((cntF (fun q => decide (50 ≤ (stepN (rkF (m 58)) (rbF (m 58)) (vr (m 58)) (q + 1) 4 ja).toInt)) q) + 1)) m165_69 (nI_add (cntF (fun q => decide (50 ≤ (stepN (rkF (m 58)) (rbF (m 58)) (vr (m 58)) (q + 1) 4 ja).toInt)) q) 1) ?_
            refine g_istore_n (L2 := [some (.ref (89)), some (.int (nI (ja))), some (.int (nI (jv))), some (.int (nI ((cntF (fun q => decide (50 ≤ (stepN (rkF (m 58)) (rbF (m 58)) (vr (m 58)) (q + 1) 4 ja).toInt)) q) + 1))), some (.int (nI (q)))]) m165_70 rfl rfl ?_
            refine g_iinc (L2 := [some (.ref (89)), some (.int (nI (ja))), some (.int (nI (jv))), some (.int (nI ((cntF (fun q => decide (50 ≤ (stepN (rkF (m 58)) (rbF (m 58)) (vr (m 58)) (q + 1) 4 ja).toInt)) q) + 1))), some (.int (nI (q + 1)))]) m165_71 rfl (nI_1 _) rfl rfl ?_
            refine g_goto m165_74 ?_
            have hc8 : ¬ ((stepN (rkF (m 58)) (rbF (m 58)) (vr (m 58)) (q + 1) 4 ja).toInt < 50) := c1
            have ec := cnt_y (p := (fun q => decide (50 ≤ (stepN (rkF (m 58)) (rbF (m 58)) (vr (m 58)) (q + 1) 4 ja).toInt))) (q := q) (decide_eq_true (by omega))
            have h9 := ih (q + 1) _ (by omega) hA3
            rw [ec] at h9
            exact h9
      exact key jv 0 _ (by omega) hAt
    · skip
      refine gwr ?_
      refine h_if_neT (xi := 0) (zi := 0) m165_15 rfl rfl (by decide) ?_
      refine g_aload_n m165_18 rfl ?_
      refine g_ldci m165_19 rfl ?_
      refine h_cv (k := 57) (p := 89) (args := [.int (-1000000001)]) (rest := []) m165_21 cn_108 (Nat.le_of_ble_eq_true rfl) rfl rfl rfl (t_57 _ _) (Nat.le_of_ble_eq_true rfl) ?_
      refine c_errs (e := 1) (by decide) (by decide) (by decide) ?_
      refine gwr ?_
      refine g_iret m165_24 rt_165 ?_
      exact hE1 (by omega)
  · skip
    refine gwr ?_
    refine h_if_eqT (xi := 0) (zi := 0) m165_5 rfl rfl (by decide) ?_
    refine g_aload_n m165_18 rfl ?_
    refine g_ldci m165_19 rfl ?_
    refine h_cv (k := 57) (p := 89) (args := [.int (-1000000001)]) (rest := []) m165_21 cn_108 (Nat.le_of_ble_eq_true rfl) rfl rfl rfl (t_57 _ _) (Nat.le_of_ble_eq_true rfl) ?_
    refine c_errs (e := 1) (by decide) (by decide) (by decide) ?_
    refine gwr ?_
    refine g_iret m165_24 rt_165 ?_
    exact hE1 (by omega)
set_option maxRecDepth 20000 in
set_option maxHeartbeats 40000000 in
theorem m_meals {v : Int32} {n : Nat} (hd : m 58 2 = nI n) (hn : n ≤ 8) (hX0 : TxOk (m 58) 0) (hX1 : TxOk (m 58) 1) (hWY : WF (vr (m 58))) (hE1 : (v.toInt < 0 ∨ 60 < v.toInt) → Q (some (.int (-1000000001))) (H (ers m 1) ln N)) (hY : ∀ q : Nat, v = nI q → q ≤ 60 → ∀ m2, FrP m m2 → Q (some (.int (sumF ((stepN (rkF (m 58)) (rbF (m 58)) (vr (m 58)) q) 6) n - sumF ((vr (m 58)) 6) n))) (H m2 ln N)) : WP xs (d + 817) 167 0 0 [.ref (89), .int (v)] (H m ln N) Q := by
  refine wp_x mx_167 (L := [some (.ref (89)), some (.int (v)), none, none]) (Nat.le_of_ble_eq_true rfl) rfl ?_
  refine g_iload_n m167_0 rfl ?_
  refine g_iconst m167_1 ?_
  refine g_bipush m167_2 ?_
  refine g_cs (args := [.int (v), .int (0), .int (60)]) (rest := []) 0 (Or.inl rfl) m167_4 (Nat.le_of_ble_eq_true rfl) rfl rfl (Nat.le_of_ble_eq_true rfl) ?_
  refine c_in (A := 0) (B := 60) rfl rfl (by decide) (fun jv ev a_10 a_10' => ?_) (fun a_10 => ?_)
  · subst ev
    refine gwr ?_
    refine h_if_neF (xi := 1) (zi := 0) m167_7 rfl rfl (by decide) ?_
    refine g_aload_n m167_17 rfl ?_
    refine g_iconst m167_18 ?_
    refine h_cv (k := 57) (p := 89) (args := [.int (4)]) (rest := []) m167_19 cn_147 (Nat.le_of_ble_eq_true rfl) rfl rfl rfl (t_57 _ _) (Nat.le_of_ble_eq_true rfl) ?_
    refine c_sumOf (w := 4) (AtY.self m) (by decide) hn hd ?_
    refine gwr ?_
    refine g_istore_n (L2 := [some (.ref (89)), some (.int (nI (jv))), some (.int (sumF ((vr (m 58)) 6) n)), none]) m167_22 rfl rfl ?_
    refine g_aload_n m167_23 rfl ?_
    refine g_aload_n m167_24 rfl ?_
    refine h_gfR (c := 90) (k := 57) (p := 89) m167_25 rfl (t_57 _ _) rfl (Nat.le_of_ble_eq_true rfl) ?_
    refine g_aload_n m167_28 rfl ?_
    refine h_gfR (c := 92) (k := 57) (p := 89) m167_29 rfl (t_57 _ _) rfl (Nat.le_of_ble_eq_true rfl) ?_
    refine h_cv (k := 57) (p := 89) (args := [.ref (90), .ref (92)]) (rest := []) m167_32 cn_110 (Nat.le_of_ble_eq_true rfl) rfl rfl rfl (t_57 _ _) (Nat.le_of_ble_eq_true rfl) ?_
    refine c_moveRow (k1 := 58) (k2 := 60) rfl rfl (t_58 _ _) (t_60 _ _) (by decide) ?_
    have h58 : (upmR m 60 (m 58)) 58 = m 58 := thR_58 _ _
    have hAt := thR_A m
    have hX0t : TxOk ((upmR m 60 (m 58)) 58) 0 := by rw [h58]; exact hX0
    have hX1t : TxOk ((upmR m 60 (m 58)) 58) 1 := by rw [h58]; exact hX1
    refine gwr0 ?_
    refine g_aload_n m167_35 rfl ?_
    refine g_iload_n m167_36 rfl ?_
    refine h_cv (k := 57) (p := 89) (args := [.int (nI (jv))]) (rest := []) m167_37 cn_146 (Nat.le_of_ble_eq_true rfl) rfl rfl rfl (t_57 _ _) (Nat.le_of_ble_eq_true rfl) ?_
    refine c_passes hAt hX0t hX1t hWY (n := jv) (by omega) (fun m2 hA2 => ?_)
    rw [h58] at hA2
    refine gwr0 ?_
    refine g_aload_n m167_40 rfl ?_
    refine g_iconst m167_41 ?_
    refine h_cv (k := 57) (p := 89) (args := [.int (4)]) (rest := []) m167_42 cn_147 (Nat.le_of_ble_eq_true rfl) rfl rfl rfl (t_57 _ _) (Nat.le_of_ble_eq_true rfl) ?_
    refine c_sumOf (w := 4) hA2 (by decide) hn ((stepN_0 _ _ _ (by decide) jv).trans hd) ?_
    refine gwr ?_
    refine g_istore_n (L2 := [some (.ref (89)), some (.int (nI (jv))), some (.int (sumF ((vr (m 58)) 6) n)), some (.int (sumF ((stepN (rkF (m 58)) (rbF (m 58)) (vr (m 58)) jv) 6) n))]) m167_45 rfl rfl ?_
    refine g_aload_n m167_46 rfl ?_
    refine g_aload_n m167_47 rfl ?_
    refine h_gfR (c := 92) (k := 57) (p := 89) m167_48 rfl (t_57 _ _) rfl (Nat.le_of_ble_eq_true rfl) ?_
    refine g_aload_n m167_51 rfl ?_
    refine h_gfR (c := 90) (k := 57) (p := 89) m167_52 rfl (t_57 _ _) rfl (Nat.le_of_ble_eq_true rfl) ?_
    refine h_cv (k := 57) (p := 89) (args := [.ref (92), .ref (90)]) (rest := []) m167_55 cn_110 (Nat.le_of_ble_eq_true rfl) rfl rfl rfl (t_57 _ _) (Nat.le_of_ble_eq_true rfl) ?_
    refine c_moveRow (k1 := 60) (k2 := 58) rfl rfl (t_60 _ _) (t_58 _ _) (by decide) ?_
    have hFb := FrP.back hA2
    refine gwr0 ?_
    refine g_iload_n m167_58 rfl ?_
    refine g_iload_n m167_59 rfl ?_
    refine g_isub m167_60 rfl ?_
    refine g_iret m167_61 rt_167 ?_
    exact hY jv rfl (by omega) _ hFb
  · skip
    refine gwr ?_
    refine h_if_neT (xi := 0) (zi := 0) m167_7 rfl rfl (by decide) ?_
    refine g_aload_n m167_10 rfl ?_
    refine g_ldci m167_11 rfl ?_
    refine h_cv (k := 57) (p := 89) (args := [.int (-1000000001)]) (rest := []) m167_13 cn_108 (Nat.le_of_ble_eq_true rfl) rfl rfl rfl (t_57 _ _) (Nat.le_of_ble_eq_true rfl) ?_
    refine c_errs (e := 1) (by decide) (by decide) (by decide) ?_
    refine gwr ?_
    refine g_iret m167_16 rt_167 ?_
    exact hE1 (by omega)
set_option maxRecDepth 20000 in
set_option maxHeartbeats 40000000 in
theorem m_check {n w : Nat} (hd : m 58 2 = nI n) (hn : n ≤ 8) (hX0 : TxOk (m 58) 0) (hX1 : TxOk (m 58) 1) (hWY : WF (vr (m 58))) (hw : m 58 4 = nI w) (hw2 : w ≤ 20) (hN : leastF (fun q => !(decide ((sumF (stepN (rkF (m 58)) (rbF (m 58)) (vr (m 58)) (q + 1) 4) n).toInt = (m 58 (114 + q)).toInt))) w 0 = none → ∀ m2, FrP (upm m 58 4 0) m2 → Q (some (.int 0)) (H m2 ln N)) (hY : ∀ q : Nat, leastF (fun q => !(decide ((sumF (stepN (rkF (m 58)) (rbF (m 58)) (vr (m 58)) (q + 1) 4) n).toInt = (m 58 (114 + q)).toInt))) w 0 = some q → q < w → ∀ m2, FrP (upm m 58 4 0) m2 → Q (some (.int (nI (1 + q)))) (H m2 ln N)) : WP xs (d + 818) 187 0 0 [.ref (89)] (H m ln N) Q := by
  refine wp_x mx_187 (L := [some (.ref (89)), none, none, none]) (Nat.le_of_ble_eq_true rfl) rfl ?_
  refine g_aload_n m187_0 rfl ?_
  refine h_gfR (c := 90) (k := 57) (p := 89) m187_1 rfl (t_57 _ _) rfl (Nat.le_of_ble_eq_true rfl) ?_
  refine g_iconst m187_4 ?_
  refine h_ial (k := 58) (p := 90) (j := 4) m187_5 rfl (t_58 _ _) (rfl) (by omega) (Nat.le_of_ble_eq_true rfl) (hw) ?_
  refine g_istore_n (L2 := [some (.ref (89)), some (.int (nI (w))), none, none]) m187_6 rfl rfl ?_
  refine g_aload_n m187_7 rfl ?_
  refine h_gfR (c := 90) (k := 57) (p := 89) m187_8 rfl (t_57 _ _) rfl (Nat.le_of_ble_eq_true rfl) ?_
  refine g_iconst m187_11 ?_
  refine g_iconst m187_12 ?_
  refine h_ias (k := 58) (p := 90) (j := 4) m187_13 rfl (t_58 _ _) (rfl) (by omega) (Nat.le_of_ble_eq_true rfl) ?_
  refine g_aload_n m187_14 rfl ?_
  refine g_aload_n m187_15 rfl ?_
  refine h_gfR (c := 90) (k := 57) (p := 89) m187_16 rfl (t_57 _ _) rfl (Nat.le_of_ble_eq_true rfl) ?_
  refine g_aload_n m187_19 rfl ?_
  refine h_gfR (c := 92) (k := 57) (p := 89) m187_20 rfl (t_57 _ _) rfl (Nat.le_of_ble_eq_true rfl) ?_
  refine h_cv (k := 57) (p := 89) (args := [.ref (90), .ref (92)]) (rest := []) m187_23 cn_110 (Nat.le_of_ble_eq_true rfl) rfl rfl rfl (t_57 _ _) (Nat.le_of_ble_eq_true rfl) ?_
  refine c_moveRow (k1 := 58) (k2 := 60) rfl rfl (t_58 _ _) (t_60 _ _) (by decide) ?_
  have h58 : (upmR (upm m 58 4 0) 60 ((upm m 58 4 0) 58)) 58 = (upm m 58 4 0) 58 := thR_58 _ _
  have hAt := thR_A (upm m 58 4 0)
  rw [vr_4] at hAt
  have hX0t : TxOk ((upmR (upm m 58 4 0) 60 ((upm m 58 4 0) 58)) 58) 0 := by rw [h58]; exact hX0.up4
  have hX1t : TxOk ((upmR (upm m 58 4 0) 60 ((upm m 58 4 0) 58)) 58) 1 := by rw [h58]; exact hX1.up4
  refine gwr0 ?_
  refine g_iconst m187_26 ?_
  refine g_istore_n (L2 := [some (.ref (89)), some (.int (nI (w))), some (.int (0)), none]) m187_27 rfl rfl ?_
  refine g_iconst m187_28 ?_
  refine g_istore_n (L2 := [some (.ref (89)), some (.int (nI (w))), some (.int (0)), some (.int (1))]) m187_29 rfl rfl ?_
  have key : ∀ (r : Nat) (q : Nat) (m2 : MW), q + r = w → AtY (upmR (upm m 58 4 0) 60 ((upm m 58 4 0) 58)) (stepN (rkF (m 58)) (rbF (m 58)) (vr (m 58)) q) m2 → leastF (fun q => !(decide ((sumF (stepN (rkF (m 58)) (rbF (m 58)) (vr (m 58)) (q + 1) 4) n).toInt = (m 58 (114 + q)).toInt))) r q = leastF (fun q => !(decide ((sumF (stepN (rkF (m 58)) (rbF (m 58)) (vr (m 58)) (q + 1) 4) n).toInt = (m 58 (114 + q)).toInt))) w 0 → gw xs (WP xs (d + 817)) 187 Q 30 [some (.ref (89)), some (.int (nI (w))), some (.int (nI (q))), some (.int ((1 : Int32)))] [] (H m2 ln N) 0 0 := by
    intro r
    induction r with
    | zero =>
      intro q m2 hq hA hfin
      obtain rfl : q = w := by omega
      refine g_iload_n m187_30 rfl ?_
      refine g_iload_n m187_31 rfl ?_
      refine h_ic_geT (xi := ((q : Nat) : Int)) (zi := ((q : Nat) : Int)) m187_32 (nI_toInt (by omega)) (nI_toInt (by omega)) (by omega) ?_
      refine g_aload_n m187_81 rfl ?_
      refine g_aload_n m187_82 rfl ?_
      refine h_gfR (c := 92) (k := 57) (p := 89) m187_83 rfl (t_57 _ _) rfl (Nat.le_of_ble_eq_true rfl) ?_
      refine g_aload_n m187_86 rfl ?_
      refine h_gfR (c := 90) (k := 57) (p := 89) m187_87 rfl (t_57 _ _) rfl (Nat.le_of_ble_eq_true rfl) ?_
      refine h_cv (k := 57) (p := 89) (args := [.ref (92), .ref (90)]) (rest := []) m187_90 cn_110 (Nat.le_of_ble_eq_true rfl) rfl rfl rfl (t_57 _ _) (Nat.le_of_ble_eq_true rfl) ?_
      refine c_moveRow (k1 := 60) (k2 := 58) rfl rfl (t_60 _ _) (t_58 _ _) (by decide) ?_
      have hFb := FrP.back hA
      refine gwr0 ?_
      refine g_iload_n m187_93 rfl ?_
      refine h_if_eqF (xi := 1) (zi := 0) m187_94 rfl rfl (by decide) ?_
      refine g_iconst m187_97 ?_
      refine g_goto m187_98 ?_
      refine g_iret m187_104 rt_187 ?_
      exact hN hfin.symm _ hFb
    | succ r ih =>
      intro q m2 hq hA hfin
      refine g_iload_n m187_30 rfl ?_
      refine g_iload_n m187_31 rfl ?_
      refine h_ic_geF (xi := ((q : Nat) : Int)) (zi := ((w : Nat) : Int)) m187_32 (nI_toInt (by omega)) (nI_toInt (by omega)) (by omega) ?_
      refine g_iload_n m187_35 rfl ?_
      refine h_if_eqF (xi := 1) (zi := 0) m187_36 rfl rfl (by decide) ?_
      refine g_aload_n m187_39 rfl ?_
      refine h_cv (k := 57) (p := 89) (args := []) (rest := []) m187_40 cn_145 (Nat.le_of_ble_eq_true rfl) rfl rfl rfl (t_57 _ _) (Nat.le_of_ble_eq_true rfl) ?_
      refine c_oneStep hA hX0t hX1t (WF_stepN hWY q) (fun m3 hA3 => ?_)
      rw [h58, rk_4, rb_4] at hA3
      have hA3 : AtY (upmR (upm m 58 4 0) 60 ((upm m 58 4 0) 58)) (stepN (rkF (m 58)) (rbF (m 58)) (vr (m 58)) (q + 1)) m3 := hA3
      have e114 : m3 58 (114 + q) = m 58 (114 + q) := (hA3.rw (by omega)).trans ((congrFun h58 _).trans (upm_j _ _ (by omega)))
      refine gwr0 ?_
      refine g_aload_n m187_43 rfl ?_
      refine g_iconst m187_44 ?_
      refine h_cv (k := 57) (p := 89) (args := [.int (2)]) (rest := []) m187_45 cn_147 (Nat.le_of_ble_eq_true rfl) rfl rfl rfl (t_57 _ _) (Nat.le_of_ble_eq_true rfl) ?_
      refine c_sumOf (w := 2) hA3 (by decide) hn ((stepN_0 _ _ _ (by decide) (q + 1)).trans hd) ?_
      refine gwr ?_
      refine g_aload_n m187_48 rfl ?_
      refine h_gfR (c := 90) (k := 57) (p := 89) m187_49 rfl (t_57 _ _) rfl (Nat.le_of_ble_eq_true rfl) ?_
      refine g_bipush m187_52 ?_
      refine g_iload_n m187_54 rfl ?_
      refine g_iadd (u := nI (114 + q)) m187_55 (nI_add 114 q) ?_
      refine h_ial (k := 58) (p := 90) (j := 114 + q) m187_56 rfl (t_58 _ _) (rfl) (by omega) (Nat.le_of_ble_eq_true rfl) (e114) ?_
      refine h_ic_ne (xi := _) (zi := _) m187_57 rfl rfl (fun c1 => ?_) (fun c1 => ?_)
      · skip
        refine g_iconst m187_60 ?_
        refine g_goto m187_61 ?_
        refine g_istore_n (L2 := [some (.ref (89)), some (.int (nI (w))), some (.int (nI (q))), some (.int (1))]) m187_65 rfl rfl ?_
        refine g_iload_n m187_66 rfl ?_
        refine g_iload_n m187_67 rfl ?_
        refine h_if_eqF (xi := 1) (zi := 0) m187_68 rfl rfl (by decide) ?_
        refine g_iconst m187_71 ?_
        refine g_goto m187_72 ?_
        refine g_iadd (u := nI (q + 1)) m187_76 (nI_add q 1) ?_
        refine g_istore_n (L2 := [some (.ref (89)), some (.int (nI (w))), some (.int (nI (q + 1))), some (.int (1))]) m187_77 rfl rfl ?_
        refine g_goto m187_78 ?_
        have hm : ¬ (fun q => !(decide ((sumF (stepN (rkF (m 58)) (rbF (m 58)) (vr (m 58)) (q + 1) 4) n).toInt = (m 58 (114 + q)).toInt))) q = true := by
          show ¬ (!(decide _)) = true
          rw [decide_eq_true c1]
          decide
        rw [least_n (p := (fun q => !(decide ((sumF (stepN (rkF (m 58)) (rbF (m 58)) (vr (m 58)) (q + 1) 4) n).toInt = (m 58 (114 + q)).toInt)))) (s := q) hm] at hfin
        exact ih (q + 1) _ (by omega) hA3 hfin
      · skip
        refine g_iconst m187_64 ?_
        refine g_istore_n (L2 := [some (.ref (89)), some (.int (nI (w))), some (.int (nI (q))), some (.int (0))]) m187_65 rfl rfl ?_
        refine g_iload_n m187_66 rfl ?_
        refine g_iload_n m187_67 rfl ?_
        refine h_if_eqT (xi := 0) (zi := 0) m187_68 rfl rfl (by decide) ?_
        refine g_iconst m187_75 ?_
        refine g_iadd (u := nI (q + 0)) m187_76 (nI_add q 0) ?_
        refine g_istore_n (L2 := [some (.ref (89)), some (.int (nI (w))), some (.int (nI (q + 0))), some (.int (0))]) m187_77 rfl rfl ?_
        refine g_goto m187_78 ?_
        have hm : (fun q => !(decide ((sumF (stepN (rkF (m 58)) (rbF (m 58)) (vr (m 58)) (q + 1) 4) n).toInt = (m 58 (114 + q)).toInt))) q = true := by
          show (!(decide _)) = true
          rw [decide_eq_false c1]
          rfl
        rw [least_y (p := (fun q => !(decide ((sumF (stepN (rkF (m 58)) (rbF (m 58)) (vr (m 58)) (q + 1) 4) n).toInt = (m 58 (114 + q)).toInt)))) (s := q) hm] at hfin
        refine g_iload_n m187_30 rfl ?_
        refine g_iload_n m187_31 rfl ?_
        refine h_ic_ge (xi := ((q + 0 : Nat) : Int)) (zi := ((w : Nat) : Int)) m187_32 (nI_toInt (by omega)) (nI_toInt (by omega)) (fun c2 => ?_) (fun c2 => ?_)
        · skip
          refine g_aload_n m187_81 rfl ?_
          refine g_aload_n m187_82 rfl ?_
          refine h_gfR (c := 92) (k := 57) (p := 89) m187_83 rfl (t_57 _ _) rfl (Nat.le_of_ble_eq_true rfl) ?_
          refine g_aload_n m187_86 rfl ?_
          refine h_gfR (c := 90) (k := 57) (p := 89) m187_87 rfl (t_57 _ _) rfl (Nat.le_of_ble_eq_true rfl) ?_
          refine h_cv (k := 57) (p := 89) (args := [.ref (92), .ref (90)]) (rest := []) m187_90 cn_110 (Nat.le_of_ble_eq_true rfl) rfl rfl rfl (t_57 _ _) (Nat.le_of_ble_eq_true rfl) ?_
          refine c_moveRow (k1 := 60) (k2 := 58) rfl rfl (t_60 _ _) (t_58 _ _) (by decide) ?_
          have hFb := FrP.back hA3
          refine gwr0 ?_
          refine g_iload_n m187_93 rfl ?_
          refine h_if_eqT (xi := 0) (zi := 0) m187_94 rfl rfl (by decide) ?_
          refine g_iconst m187_101 ?_
          refine g_iload_n m187_102 rfl ?_
          refine g_iadd (u := nI (1 + (q + 0))) m187_103 (nI_add 1 (q + 0)) ?_
          refine g_iret m187_104 rt_187 ?_
          exact hY q hfin.symm (by omega) _ hFb
        · skip
          refine g_iload_n m187_35 rfl ?_
          refine h_if_eqT (xi := 0) (zi := 0) m187_36 rfl rfl (by decide) ?_
          refine g_aload_n m187_81 rfl ?_
          refine g_aload_n m187_82 rfl ?_
          refine h_gfR (c := 92) (k := 57) (p := 89) m187_83 rfl (t_57 _ _) rfl (Nat.le_of_ble_eq_true rfl) ?_
          refine g_aload_n m187_86 rfl ?_
          refine h_gfR (c := 90) (k := 57) (p := 89) m187_87 rfl (t_57 _ _) rfl (Nat.le_of_ble_eq_true rfl) ?_
          refine h_cv (k := 57) (p := 89) (args := [.ref (92), .ref (90)]) (rest := []) m187_90 cn_110 (Nat.le_of_ble_eq_true rfl) rfl rfl rfl (t_57 _ _) (Nat.le_of_ble_eq_true rfl) ?_
          refine c_moveRow (k1 := 60) (k2 := 58) rfl rfl (t_60 _ _) (t_58 _ _) (by decide) ?_
          have hFb := FrP.back hA3
          refine gwr0 ?_
          refine g_iload_n m187_93 rfl ?_
          refine h_if_eqT (xi := 0) (zi := 0) m187_94 rfl rfl (by decide) ?_
          refine g_iconst m187_101 ?_
          refine g_iload_n m187_102 rfl ?_
          refine g_iadd (u := nI (1 + (q + 0))) m187_103 (nI_add 1 (q + 0)) ?_
          refine g_iret m187_104 rt_187 ?_
          exact hY q hfin.symm (by omega) _ hFb
  exact key w 0 _ (by omega) hAt rfl
end
