/-! THE REFERENCE'S WALKER -/
/-- the walker: use u, at place p of n bytes, op open, the names' numbers a b c; g: good -/
def WkS (m : MW) (u n p op : Nat) (a b c : Int32) (g : Bool) : Prop := m 57 7 = nI u ∧ m 57 8 = nI p ∧ m 57 9 = nI n ∧ m 57 10 = nI op ∧ m 57 11 = a ∧ m 57 12 = b ∧ m 57 13 = c ∧ m 57 14 = (if g = true then 1 else 0)
def FrW (m m2 : MW) : Prop := ∀ k j, ¬ (k = 57 ∧ (j = 8 ∨ j = 10 ∨ j = 14)) → m2 k j = m k j
theorem FrW.rf {m : MW} : FrW m m := fun _ _ _ => rfl
theorem FrW.tr {m m2 m3 : MW} (h : FrW m m2) (h2 : FrW m2 m3) : FrW m m3 := fun k j q => (h2 k j q).trans (h k j q)
theorem FrW.up {m m2 : MW} (h : FrW m m2) {j : Nat} (x : Int32) (hk : j = 8 ∨ j = 10 ∨ j = 14) : FrW m (upm m2 57 j x) := by
  intro k2 j2 q
  unfold upm
  by_cases e : k2 = 57 ∧ j2 = j
  · exact absurd ⟨e.1, by rw [e.2]; exact hk⟩ q
  · rw [if_neg e, h k2 j2 q]
def BT (m : MW) (u : Nat) : Nat → Int32 := fun j => m 58 (134 + 50 * u + j)
theorem FrW.bt {m m2 : MW} (h : FrW m m2) (u : Nat) : BT m2 u = BT m u := funext fun j => h 58 _ (by omega)
def TapW (m : MW) (u : Nat) : Prop := ∀ j, j < 50 → leI (BT m u j) 255
theorem FrW.tap {m m2 : MW} (h : FrW m m2) {u : Nat} (t : TapW m u) : TapW m2 u := fun j hj => by rw [h.bt u]; exact t j hj
theorem btW_y {B : Nat → Int32} {n p c : Nat} (hp : p < n) (h : B p = nI c) (hc : c < 256) : bt B n p = (c : Int) := by
  unfold bt
  rw [if_pos hp, h, nI_toInt (by omega)]
def valK (k a b c : Int32) : Int32 := if k = 0 then a else if k = 1 then b else c
/-- behind a walk that gives r and the number v -/
def WOut (m : MW) (op : Nat) (a b c : Int32) (r : PR3) (v : Int32) (m2 : MW) : Prop := FrW m m2 ∧ m2 57 8 = nI r.2.1 ∧ m2 57 10 = nI op ∧ m2 57 14 = (if r.2.2 = true then 1 else 0) ∧ (r.2.2 = true → ∀ s, evS a b c r.1 s = some (v :: s))
section
variable {xs : List Int32} {d : Nat} {h : AH} {Q : QT} {m : MW} {ln : Nat → Nat} {N : Nat}
set_option maxRecDepth 20000 in
set_option maxHeartbeats 40000000 in
theorem c_byteAt {u n q : Nat} (h7 : m 57 7 = nI u) (h9 : m 57 9 = nI n) (hu : u ≤ 1) (hq : q ≤ n) (hn : n ≤ 50) (hT : TapW m u) (h1 : q < n → ∀ z, z < 256 → BT m u q = nI z → Q (some (.int (nI z))) (H m ln N)) (h2 : n ≤ q → Q (some (.int (-1))) (H m ln N)) : WP xs (d + 1) 119 0 0 [.ref (89), .int (nI (q))] (H m ln N) Q := by
  refine wp_x mx_119 (L := [some (.ref (89)), some (.int (nI (q)))]) (Nat.le_of_ble_eq_true rfl) rfl ?_
  refine g_iload_n m119_0 rfl ?_
  refine g_aload_n m119_1 rfl ?_
  refine h_gfI (k := 57) (p := 89) m119_2 rfl (t_57 _ _) rfl (h9) ?_
  refine h_ic_ge (xi := ((q : Nat) : Int)) (zi := ((n : Nat) : Int)) m119_5 (nI_toInt (by omega)) (nI_toInt (by omega)) (fun c1 => ?_) (fun c1 => ?_)
  · skip
    refine g_iconst m119_29 ?_
    refine g_iret m119_30 rt_119 ?_
    exact h2 (by omega)
  · skip
    refine g_aload_n m119_8 rfl ?_
    refine h_gfR (c := 90) (k := 57) (p := 89) m119_9 rfl (t_57 _ _) rfl (Nat.le_of_ble_eq_true rfl) ?_
    refine g_sipush m119_12 ?_
    refine g_bipush m119_15 ?_
    refine g_aload_n m119_17 rfl ?_
    refine h_gfI (k := 57) (p := 89) m119_18 rfl (t_57 _ _) rfl (h7) ?_
    refine g_imul (u := nI (50 * u)) m119_21 (pk_mul 50 u) ?_
    refine g_iadd (u := nI (134 + (50 * u))) m119_22 (nI_add 134 (50 * u)) ?_
    refine g_iload_n m119_23 rfl ?_
    refine g_iadd (u := nI ((134 + (50 * u)) + q)) m119_24 (nI_add (134 + (50 * u)) q) ?_
    obtain ⟨z, hz, hze⟩ := hT q (by omega)
    refine h_ial (k := 58) (p := 90) (j := (134 + (50 * u)) + q) m119_25 rfl (t_58 _ _) (rfl) (by omega) (Nat.le_of_ble_eq_true rfl) (hze) ?_
    refine g_goto m119_26 ?_
    refine g_iret m119_30 rt_119 ?_
    exact h1 (by omega) z (by omega) hze
set_option maxRecDepth 20000 in
set_option maxHeartbeats 40000000 in
theorem c_isDigitM {v : Int32} {vi : Int} (hv : v.toInt = vi) (hT : isDig vi = true → Q (some (.int 1)) h) (hF : ¬ isDig vi = true → Q (some (.int 0)) h) : WP xs (d + 2) 120 0 0 [.int (v)] h Q := by
  refine wp_x mx_120 (L := [some (.int (v))]) (Nat.le_of_ble_eq_true rfl) rfl ?_
  refine g_iload_n m120_0 rfl ?_
  refine g_bipush m120_1 ?_
  refine g_bipush m120_3 ?_
  refine g_cs (args := [.int (v), .int (48), .int (57)]) (rest := []) 0 (Or.inl rfl) m120_5 (Nat.le_of_ble_eq_true rfl) rfl rfl (Nat.le_of_ble_eq_true rfl) ?_
  refine c_inI (A := 48) (B := 57) (vi := vi) rfl rfl hv (fun a1 => ?_) (fun a1 => ?_)
  · skip
    refine gwr ?_
    refine g_zret m120_8 rt_120 (Or.inr rfl) ?_
    exact hT (by unfold isDig; exact decide_eq_true (by omega))
  · skip
    refine gwr ?_
    refine g_zret m120_8 rt_120 (Or.inl rfl) ?_
    exact hF (by unfold isDig; rw [decide_eq_true_eq]; omega)
set_option maxRecDepth 20000 in
set_option maxHeartbeats 40000000 in
theorem c_fails (hQ : Q (some (.int 0)) (H (upm m 57 14 0) ln N)) : WP xs (d + 1) 122 0 0 [.ref (89)] (H m ln N) Q := by
  refine wp_x mx_122 (L := [some (.ref (89))]) (Nat.le_of_ble_eq_true rfl) rfl ?_
  refine g_aload_n m122_0 rfl ?_
  refine g_iconst m122_1 ?_
  refine h_pfI (k := 57) (p := 89) m122_2 rfl (t_57 _ _) rfl (Or.inl rfl) ?_
  refine g_iconst m122_5 ?_
  refine g_iret m122_6 rt_122 ?_
  exact hQ
set_option maxRecDepth 20000 in
set_option maxHeartbeats 40000000 in
theorem c_number {u n p op : Nat} {a b c : Int32} (hK : WkS m u n p op a b c true) (hp : p ≤ n) (hn : n ≤ 50) (hT : TapW m u) (hu : u ≤ 1) (hQ : ∀ m2, FrW m m2 → WkS m2 u n (numP (BT m u) n 4 0 p).2 op a b c true → Q (some (.int (nI (numP (BT m u) n 4 0 p).1))) (H m2 ln N)) : WP xs (d + 3) 121 0 0 [.ref (89)] (H m ln N) Q := by
  refine wp_x mx_121 (L := [some (.ref (89)), none, none]) (Nat.le_of_ble_eq_true rfl) rfl ?_
  have key : ∀ (r q v p2 : Nat) (m2 : MW), q + r = 4 → p ≤ p2 → p2 ≤ n → WkS m2 u n p2 op a b c true → FrW m m2 → v < 10 ^ q → numP (BT m u) n r v p2 = numP (BT m u) n 4 0 p → gw xs (WP xs (d + 2)) 121 Q 4 [some (.ref (89)), some (.int (nI (v))), some (.int (nI (q)))] [] (H m2 ln N) 0 0 := by
    intro r
    induction r with
    | zero =>
      intro q v p2 m2 hq hp1 hp2 hK2 hF2 hv hnum
      have hnum : (v, p2) = numP (BT m u) n 4 0 p := hnum
      refine g_iload_n m121_4 rfl ?_
      refine g_iconst m121_5 ?_
      refine h_ic_geT (xi := ((q : Nat) : Int)) (zi := 4) m121_6 (nI_toInt (by omega)) rfl (by omega) ?_
      refine g_iload_n m121_56 rfl ?_
      refine g_iret m121_57 rt_121 ?_
      rw [← hnum] at hQ
      exact hQ _ hF2 hK2
    | succ r ih =>
      intro q v p2 m2 hq hp1 hp2 hK2 hF2 hv hnum
      have hT2 := hF2.tap hT
      have hv4 : v < 10 ^ 4 := Nat.lt_of_lt_of_le hv (Nat.pow_le_pow_right (by decide) (by omega))
      refine g_iload_n m121_4 rfl ?_
      refine g_iconst m121_5 ?_
      refine h_ic_geF (xi := ((q : Nat) : Int)) (zi := 4) m121_6 (nI_toInt (by omega)) rfl (by omega) ?_
      refine g_aload_n m121_9 rfl ?_
      refine g_aload_n m121_10 rfl ?_
      refine h_gfI (k := 57) (p := 89) m121_11 rfl (t_57 _ _) rfl (hK2.2.1) ?_
      refine h_cv (k := 57) (p := 89) (args := [.int (nI (p2))]) (rest := []) m121_14 cn_119 (Nat.le_of_ble_eq_true rfl) rfl rfl rfl (t_57 _ _) (Nat.le_of_ble_eq_true rfl) ?_
      refine c_byteAt hK2.1 hK2.2.2.1 hu hp2 hn hT2 (fun hpn z hz hze => ?_) (fun hpn => ?_)
      · have hbt : bt (BT m u) n p2 = (z : Int) := btW_y hpn (by rw [← hF2.bt u]; exact hze) hz
        refine gwr ?_
        refine g_cs (args := [.int (nI (z))]) (rest := []) 0 (Or.inl rfl) m121_17 (Nat.le_of_ble_eq_true rfl) rfl rfl (Nat.le_of_ble_eq_true rfl) ?_
        refine c_isDigitM (vi := ((z : Nat) : Int)) (nI_toInt (by omega)) (fun a_1 => ?_) (fun a_1 => ?_)
        · skip
          have hd9 := isDig_e a_1
          refine gwr ?_
          refine h_if_eqF (xi := 1) (zi := 0) m121_20 rfl rfl (by decide) ?_
          refine g_bipush m121_23 ?_
          refine g_iload_n m121_25 rfl ?_
          refine g_imul (u := nI (10 * v)) m121_26 (pk_mul 10 v) ?_
          refine g_aload_n m121_27 rfl ?_
          refine g_aload_n m121_28 rfl ?_
          refine h_gfI (k := 57) (p := 89) m121_29 rfl (t_57 _ _) rfl (hK2.2.1) ?_
          refine h_cv (k := 57) (p := 89) (args := [.int (nI (p2))]) (rest := [.int (nI (10 * v))]) m121_32 cn_119 (Nat.le_of_ble_eq_true rfl) rfl rfl rfl (t_57 _ _) (Nat.le_of_ble_eq_true rfl) ?_
          refine c_byteAt hK2.1 hK2.2.2.1 hu hp2 hn hT2 (fun hpn z2 hz2 hze2 => ?_) (fun hpn2 => absurd hpn2 (by omega))
          obtain rfl : z2 = z := (nI_eq (by omega) (by omega)).mp (hze2.symm.trans hze)
          refine gwr ?_
          refine g_iadd (u := nI ((10 * v) + z2)) m121_35 (nI_add (10 * v) z2) ?_
          refine g_bipush m121_36 ?_
          refine g_isub (u := nI (((10 * v) + z2) - 48)) m121_38 (pk_sub (a := ((10 * v) + z2)) (b := 48) (by omega)) ?_
          refine g_istore_n (L2 := [some (.ref (89)), some (.int (nI (((10 * v) + z2) - 48))), some (.int (nI (q)))]) m121_39 rfl rfl ?_
          refine g_aload_n m121_40 rfl ?_
          refine g_dup m121_41 rfl ?_
          refine h_gfI (k := 57) (p := 89) m121_42 rfl (t_57 _ _) rfl (hK2.2.1) ?_
          refine g_iconst m121_45 ?_
          refine g_iadd (u := nI (p2 + 1)) m121_46 (nI_add p2 1) ?_
          refine h_pfI (k := 57) (p := 89) m121_47 rfl (t_57 _ _) rfl trivial ?_
          refine g_iinc (L2 := [some (.ref (89)), some (.int (nI (((10 * v) + z2) - 48))), some (.int (nI (q + 1)))]) m121_50 rfl (nI_1 _) rfl rfl ?_
          refine g_goto m121_53 ?_
          refine ih (q + 1) _ (p2 + 1) _ (by omega) (by omega) (by omega) ⟨hK2.1, rfl, hK2.2.2.1, hK2.2.2.2.1, hK2.2.2.2.2.1, hK2.2.2.2.2.2.1, hK2.2.2.2.2.2.2.1, hK2.2.2.2.2.2.2.2⟩ (hF2.up _ (Or.inl rfl)) ?_ ?_
          · rw [Nat.pow_succ]
            omega
          · rw [← hnum]
            show _ = if isDig (bt (BT m u) n p2) = true then _ else _
            rw [hbt, if_pos a_1]
            congr 1
            omega
        · skip
          refine gwr ?_
          refine h_if_eqT (xi := 0) (zi := 0) m121_20 rfl rfl (by decide) ?_
          refine g_iload_n m121_56 rfl ?_
          refine g_iret m121_57 rt_121 ?_
          have hnum : (v, p2) = numP (BT m u) n 4 0 p := by
            rw [← hnum]
            show _ = if isDig (bt (BT m u) n p2) = true then _ else _
            rw [hbt, if_neg a_1]
          rw [← hnum] at hQ
          exact hQ _ hF2 hK2
      · have hbt : bt (BT m u) n p2 = -1 := bt_n hpn
        refine gwr ?_
        refine g_cs (args := [.int (-1)]) (rest := []) 0 (Or.inl rfl) m121_17 (Nat.le_of_ble_eq_true rfl) rfl rfl (Nat.le_of_ble_eq_true rfl) ?_
        refine c_isDigitM (vi := (-1)) rfl (fun a_2 => ?_) (fun a_2 => ?_)
        · skip
          exact absurd a_2 (by decide)
        · skip
          refine gwr ?_
          refine h_if_eqT (xi := 0) (zi := 0) m121_20 rfl rfl (by decide) ?_
          refine g_iload_n m121_56 rfl ?_
          refine g_iret m121_57 rt_121 ?_
          have hnum : (v, p2) = numP (BT m u) n 4 0 p := by
            rw [← hnum]
            show _ = if isDig (bt (BT m u) n p2) = true then _ else _
            rw [hbt, if_neg a_2]
          rw [← hnum] at hQ
          exact hQ _ hF2 hK2
  refine g_iconst m121_0 ?_
  refine g_istore_n (L2 := [some (.ref (89)), some (.int (0)), none]) m121_1 rfl rfl ?_
  refine g_iconst m121_2 ?_
  refine g_istore_n (L2 := [some (.ref (89)), some (.int (0)), some (.int (0))]) m121_3 rfl rfl ?_
  exact key 4 0 0 p m rfl (Nat.le_refl _) hp hK FrW.rf (by decide) rfl
set_option maxRecDepth 20000 in
set_option maxHeartbeats 40000000 in
theorem c_named {u n p op : Nat} {a b c : Int32} {v : Int32} {vi : Int} (hv : v.toInt = vi) (hK : WkS m u n p op a b c true) (hp : p ≤ n) (hn : n ≤ 50) (hu : u ≤ 1) (h1 : ∀ k, nameP u vi = some k → Q (some (.int (valK k a b c))) (H (upm m 57 8 (nI (p + 1))) ln N)) (hF : nameP u vi = none → Q (some (.int 0)) (H (upm m 57 14 0) ln N)) : WP xs (d + 2) 123 0 0 [.ref (89), .int (v)] (H m ln N) Q := by
  refine wp_x mx_123 (L := [some (.ref (89)), some (.int (v)), none, none, none]) (Nat.le_of_ble_eq_true rfl) rfl ?_
  rcases (show u = 0 ∨ u = 1 by omega) with rfl | rfl
  · skip
    refine g_iload_n m123_0 rfl ?_
    refine g_bipush m123_1 ?_
    refine h_ic_ne (xi := vi) (zi := 104) m123_3 hv rfl (fun c1 => ?_) (fun c1 => ?_)
    · skip
      refine g_iconst m123_6 ?_
      refine g_goto m123_7 ?_
      refine g_istore_n (L2 := [some (.ref (89)), some (.int (v)), some (.int (1)), none, none]) m123_11 rfl rfl ?_
      refine g_iload_n m123_12 rfl ?_
      refine g_aload_n m123_13 rfl ?_
      refine h_gfI (k := 57) (p := 89) m123_14 rfl (t_57 _ _) rfl (hK.1) ?_
      refine h_if_neT (xi := 0) (zi := 0) m123_17 rfl rfl (by decide) ?_
      refine g_bipush m123_20 ?_
      refine g_goto m123_22 ?_
      refine h_ic_ne (xi := vi) (zi := 99) m123_27 hv rfl (fun c2 => ?_) (fun c2 => ?_)
      · skip
        refine g_iconst m123_30 ?_
        refine g_goto m123_31 ?_
        refine g_istore_n (L2 := [some (.ref (89)), some (.int (v)), some (.int (1)), some (.int (1)), none]) m123_35 rfl rfl ?_
        refine g_iload_n m123_36 rfl ?_
        refine g_aload_n m123_37 rfl ?_
        refine h_gfI (k := 57) (p := 89) m123_38 rfl (t_57 _ _) rfl (hK.1) ?_
        refine h_if_neT (xi := 0) (zi := 0) m123_41 rfl rfl (by decide) ?_
        refine g_bipush m123_44 ?_
        refine g_goto m123_46 ?_
        refine h_ic_ne (xi := vi) (zi := 115) m123_51 hv rfl (fun c3 => ?_) (fun c3 => ?_)
        · skip
          refine g_iconst m123_54 ?_
          refine g_goto m123_55 ?_
          refine g_istore (L2 := [some (.ref (89)), some (.int (v)), some (.int (1)), some (.int (1)), some (.int (1))]) m123_59 rfl rfl ?_
          refine g_iload_n m123_61 rfl ?_
          refine h_if_neF (xi := 1) (zi := 0) m123_62 rfl rfl (by decide) ?_
          refine g_aload_n m123_79 rfl ?_
          refine g_dup m123_80 rfl ?_
          refine h_gfI (k := 57) (p := 89) m123_81 rfl (t_57 _ _) rfl (hK.2.1) ?_
          refine g_iconst m123_84 ?_
          refine g_iadd (u := nI (p + 1)) m123_85 (nI_add p 1) ?_
          refine h_pfI (k := 57) (p := 89) m123_86 rfl (t_57 _ _) rfl trivial ?_
          refine g_iload_n m123_89 rfl ?_
          refine h_if_eqF (xi := 1) (zi := 0) m123_90 rfl rfl (by decide) ?_
          refine g_aload_n m123_93 rfl ?_
          refine h_gfI (k := 57) (p := 89) m123_94 rfl (t_57 _ _) rfl (hK.2.2.2.2.1) ?_
          refine g_goto m123_97 ?_
          refine g_iret m123_115 rt_123 ?_
          exact h1 0 (by unfold nameP; rw [show nam1 0 = 99 from rfl, show nam2 0 = 115 from rfl]; (repeat' split) <;> first | rfl | omega)
        · skip
          refine g_iconst m123_58 ?_
          refine g_istore (L2 := [some (.ref (89)), some (.int (v)), some (.int (1)), some (.int (1)), some (.int (0))]) m123_59 rfl rfl ?_
          refine g_iload_n m123_61 rfl ?_
          refine h_if_neF (xi := 1) (zi := 0) m123_62 rfl rfl (by decide) ?_
          refine g_aload_n m123_79 rfl ?_
          refine g_dup m123_80 rfl ?_
          refine h_gfI (k := 57) (p := 89) m123_81 rfl (t_57 _ _) rfl (hK.2.1) ?_
          refine g_iconst m123_84 ?_
          refine g_iadd (u := nI (p + 1)) m123_85 (nI_add p 1) ?_
          refine h_pfI (k := 57) (p := 89) m123_86 rfl (t_57 _ _) rfl trivial ?_
          refine g_iload_n m123_89 rfl ?_
          refine h_if_eqF (xi := 1) (zi := 0) m123_90 rfl rfl (by decide) ?_
          refine g_aload_n m123_93 rfl ?_
          refine h_gfI (k := 57) (p := 89) m123_94 rfl (t_57 _ _) rfl (hK.2.2.2.2.1) ?_
          refine g_goto m123_97 ?_
          refine g_iret m123_115 rt_123 ?_
          exact h1 0 (by unfold nameP; rw [show nam1 0 = 99 from rfl, show nam2 0 = 115 from rfl]; (repeat' split) <;> first | rfl | omega)
      · skip
        refine g_iconst m123_34 ?_
        refine g_istore_n (L2 := [some (.ref (89)), some (.int (v)), some (.int (1)), some (.int (0)), none]) m123_35 rfl rfl ?_
        refine g_iload_n m123_36 rfl ?_
        refine g_aload_n m123_37 rfl ?_
        refine h_gfI (k := 57) (p := 89) m123_38 rfl (t_57 _ _) rfl (hK.1) ?_
        refine h_if_neT (xi := 0) (zi := 0) m123_41 rfl rfl (by decide) ?_
        refine g_bipush m123_44 ?_
        refine g_goto m123_46 ?_
        refine h_ic_ne (xi := vi) (zi := 115) m123_51 hv rfl (fun c4 => ?_) (fun c4 => ?_)
        · skip
          refine g_iconst m123_54 ?_
          refine g_goto m123_55 ?_
          refine g_istore (L2 := [some (.ref (89)), some (.int (v)), some (.int (1)), some (.int (0)), some (.int (1))]) m123_59 rfl rfl ?_
          refine g_iload_n m123_61 rfl ?_
          refine h_if_neF (xi := 1) (zi := 0) m123_62 rfl rfl (by decide) ?_
          refine g_aload_n m123_79 rfl ?_
          refine g_dup m123_80 rfl ?_
          refine h_gfI (k := 57) (p := 89) m123_81 rfl (t_57 _ _) rfl (hK.2.1) ?_
          refine g_iconst m123_84 ?_
          refine g_iadd (u := nI (p + 1)) m123_85 (nI_add p 1) ?_
          refine h_pfI (k := 57) (p := 89) m123_86 rfl (t_57 _ _) rfl trivial ?_
          refine g_iload_n m123_89 rfl ?_
          refine h_if_eqF (xi := 1) (zi := 0) m123_90 rfl rfl (by decide) ?_
          refine g_aload_n m123_93 rfl ?_
          refine h_gfI (k := 57) (p := 89) m123_94 rfl (t_57 _ _) rfl (hK.2.2.2.2.1) ?_
          refine g_goto m123_97 ?_
          refine g_iret m123_115 rt_123 ?_
          exact h1 0 (by unfold nameP; rw [show nam1 0 = 99 from rfl, show nam2 0 = 115 from rfl]; (repeat' split) <;> first | rfl | omega)
        · skip
          refine g_iconst m123_58 ?_
          refine g_istore (L2 := [some (.ref (89)), some (.int (v)), some (.int (1)), some (.int (0)), some (.int (0))]) m123_59 rfl rfl ?_
          refine g_iload_n m123_61 rfl ?_
          refine h_if_neF (xi := 1) (zi := 0) m123_62 rfl rfl (by decide) ?_
          refine g_aload_n m123_79 rfl ?_
          refine g_dup m123_80 rfl ?_
          refine h_gfI (k := 57) (p := 89) m123_81 rfl (t_57 _ _) rfl (hK.2.1) ?_
          refine g_iconst m123_84 ?_
          refine g_iadd (u := nI (p + 1)) m123_85 (nI_add p 1) ?_
          refine h_pfI (k := 57) (p := 89) m123_86 rfl (t_57 _ _) rfl trivial ?_
          refine g_iload_n m123_89 rfl ?_
          refine h_if_eqF (xi := 1) (zi := 0) m123_90 rfl rfl (by decide) ?_
          refine g_aload_n m123_93 rfl ?_
          refine h_gfI (k := 57) (p := 89) m123_94 rfl (t_57 _ _) rfl (hK.2.2.2.2.1) ?_
          refine g_goto m123_97 ?_
          refine g_iret m123_115 rt_123 ?_
          exact h1 0 (by unfold nameP; rw [show nam1 0 = 99 from rfl, show nam2 0 = 115 from rfl]; (repeat' split) <;> first | rfl | omega)
    · skip
      refine g_iconst m123_10 ?_
      refine g_istore_n (L2 := [some (.ref (89)), some (.int (v)), some (.int (0)), none, none]) m123_11 rfl rfl ?_
      refine g_iload_n m123_12 rfl ?_
      refine g_aload_n m123_13 rfl ?_
      refine h_gfI (k := 57) (p := 89) m123_14 rfl (t_57 _ _) rfl (hK.1) ?_
      refine h_if_neT (xi := 0) (zi := 0) m123_17 rfl rfl (by decide) ?_
      refine g_bipush m123_20 ?_
      refine g_goto m123_22 ?_
      refine h_ic_ne (xi := vi) (zi := 99) m123_27 hv rfl (fun c5 => ?_) (fun c5 => ?_)
      · skip
        refine g_iconst m123_30 ?_
        refine g_goto m123_31 ?_
        refine g_istore_n (L2 := [some (.ref (89)), some (.int (v)), some (.int (0)), some (.int (1)), none]) m123_35 rfl rfl ?_
        refine g_iload_n m123_36 rfl ?_
        refine g_aload_n m123_37 rfl ?_
        refine h_gfI (k := 57) (p := 89) m123_38 rfl (t_57 _ _) rfl (hK.1) ?_
        refine h_if_neT (xi := 0) (zi := 0) m123_41 rfl rfl (by decide) ?_
        refine g_bipush m123_44 ?_
        refine g_goto m123_46 ?_
        refine h_ic_ne (xi := vi) (zi := 115) m123_51 hv rfl (fun c6 => ?_) (fun c6 => ?_)
        · skip
          refine g_iconst m123_54 ?_
          refine g_goto m123_55 ?_
          refine g_istore (L2 := [some (.ref (89)), some (.int (v)), some (.int (0)), some (.int (1)), some (.int (1))]) m123_59 rfl rfl ?_
          refine g_iload_n m123_61 rfl ?_
          refine h_if_neT (xi := 0) (zi := 0) m123_62 rfl rfl (by decide) ?_
          refine g_iload_n m123_65 rfl ?_
          refine h_if_neF (xi := 1) (zi := 0) m123_66 rfl rfl (by decide) ?_
          refine g_aload_n m123_79 rfl ?_
          refine g_dup m123_80 rfl ?_
          refine h_gfI (k := 57) (p := 89) m123_81 rfl (t_57 _ _) rfl (hK.2.1) ?_
          refine g_iconst m123_84 ?_
          refine g_iadd (u := nI (p + 1)) m123_85 (nI_add p 1) ?_
          refine h_pfI (k := 57) (p := 89) m123_86 rfl (t_57 _ _) rfl trivial ?_
          refine g_iload_n m123_89 rfl ?_
          refine h_if_eqT (xi := 0) (zi := 0) m123_90 rfl rfl (by decide) ?_
          refine g_iload_n m123_100 rfl ?_
          refine h_if_eqF (xi := 1) (zi := 0) m123_101 rfl rfl (by decide) ?_
          refine g_aload_n m123_104 rfl ?_
          refine h_gfI (k := 57) (p := 89) m123_105 rfl (t_57 _ _) rfl (hK.2.2.2.2.2.1) ?_
          refine g_goto m123_108 ?_
          refine g_iret m123_115 rt_123 ?_
          exact h1 1 (by unfold nameP; rw [show nam1 0 = 99 from rfl, show nam2 0 = 115 from rfl]; (repeat' split) <;> first | rfl | omega)
        · skip
          refine g_iconst m123_58 ?_
          refine g_istore (L2 := [some (.ref (89)), some (.int (v)), some (.int (0)), some (.int (1)), some (.int (0))]) m123_59 rfl rfl ?_
          refine g_iload_n m123_61 rfl ?_
          refine h_if_neT (xi := 0) (zi := 0) m123_62 rfl rfl (by decide) ?_
          refine g_iload_n m123_65 rfl ?_
          refine h_if_neF (xi := 1) (zi := 0) m123_66 rfl rfl (by decide) ?_
          refine g_aload_n m123_79 rfl ?_
          refine g_dup m123_80 rfl ?_
          refine h_gfI (k := 57) (p := 89) m123_81 rfl (t_57 _ _) rfl (hK.2.1) ?_
          refine g_iconst m123_84 ?_
          refine g_iadd (u := nI (p + 1)) m123_85 (nI_add p 1) ?_
          refine h_pfI (k := 57) (p := 89) m123_86 rfl (t_57 _ _) rfl trivial ?_
          refine g_iload_n m123_89 rfl ?_
          refine h_if_eqT (xi := 0) (zi := 0) m123_90 rfl rfl (by decide) ?_
          refine g_iload_n m123_100 rfl ?_
          refine h_if_eqF (xi := 1) (zi := 0) m123_101 rfl rfl (by decide) ?_
          refine g_aload_n m123_104 rfl ?_
          refine h_gfI (k := 57) (p := 89) m123_105 rfl (t_57 _ _) rfl (hK.2.2.2.2.2.1) ?_
          refine g_goto m123_108 ?_
          refine g_iret m123_115 rt_123 ?_
          exact h1 1 (by unfold nameP; rw [show nam1 0 = 99 from rfl, show nam2 0 = 115 from rfl]; (repeat' split) <;> first | rfl | omega)
      · skip
        refine g_iconst m123_34 ?_
        refine g_istore_n (L2 := [some (.ref (89)), some (.int (v)), some (.int (0)), some (.int (0)), none]) m123_35 rfl rfl ?_
        refine g_iload_n m123_36 rfl ?_
        refine g_aload_n m123_37 rfl ?_
        refine h_gfI (k := 57) (p := 89) m123_38 rfl (t_57 _ _) rfl (hK.1) ?_
        refine h_if_neT (xi := 0) (zi := 0) m123_41 rfl rfl (by decide) ?_
        refine g_bipush m123_44 ?_
        refine g_goto m123_46 ?_
        refine h_ic_ne (xi := vi) (zi := 115) m123_51 hv rfl (fun c7 => ?_) (fun c7 => ?_)
        · skip
          refine g_iconst m123_54 ?_
          refine g_goto m123_55 ?_
          refine g_istore (L2 := [some (.ref (89)), some (.int (v)), some (.int (0)), some (.int (0)), some (.int (1))]) m123_59 rfl rfl ?_
          refine g_iload_n m123_61 rfl ?_
          refine h_if_neT (xi := 0) (zi := 0) m123_62 rfl rfl (by decide) ?_
          refine g_iload_n m123_65 rfl ?_
          refine h_if_neT (xi := 0) (zi := 0) m123_66 rfl rfl (by decide) ?_
          refine g_iload m123_69 rfl ?_
          refine h_if_neF (xi := 1) (zi := 0) m123_71 rfl rfl (by decide) ?_
          refine g_aload_n m123_79 rfl ?_
          refine g_dup m123_80 rfl ?_
          refine h_gfI (k := 57) (p := 89) m123_81 rfl (t_57 _ _) rfl (hK.2.1) ?_
          refine g_iconst m123_84 ?_
          refine g_iadd (u := nI (p + 1)) m123_85 (nI_add p 1) ?_
          refine h_pfI (k := 57) (p := 89) m123_86 rfl (t_57 _ _) rfl trivial ?_
          refine g_iload_n m123_89 rfl ?_
          refine h_if_eqT (xi := 0) (zi := 0) m123_90 rfl rfl (by decide) ?_
          refine g_iload_n m123_100 rfl ?_
          refine h_if_eqT (xi := 0) (zi := 0) m123_101 rfl rfl (by decide) ?_
          refine g_aload_n m123_111 rfl ?_
          refine h_gfI (k := 57) (p := 89) m123_112 rfl (t_57 _ _) rfl (hK.2.2.2.2.2.2.1) ?_
          refine g_iret m123_115 rt_123 ?_
          exact h1 2 (by unfold nameP; rw [show nam1 0 = 99 from rfl, show nam2 0 = 115 from rfl]; (repeat' split) <;> first | rfl | omega)
        · skip
          refine g_iconst m123_58 ?_
          refine g_istore (L2 := [some (.ref (89)), some (.int (v)), some (.int (0)), some (.int (0)), some (.int (0))]) m123_59 rfl rfl ?_
          refine g_iload_n m123_61 rfl ?_
          refine h_if_neT (xi := 0) (zi := 0) m123_62 rfl rfl (by decide) ?_
          refine g_iload_n m123_65 rfl ?_
          refine h_if_neT (xi := 0) (zi := 0) m123_66 rfl rfl (by decide) ?_
          refine g_iload m123_69 rfl ?_
          refine h_if_neT (xi := 0) (zi := 0) m123_71 rfl rfl (by decide) ?_
          refine g_aload_n m123_74 rfl ?_
          refine h_cv (k := 57) (p := 89) (args := []) (rest := []) m123_75 cn_122 (Nat.le_of_ble_eq_true rfl) rfl rfl rfl (t_57 _ _) (Nat.le_of_ble_eq_true rfl) ?_
          refine c_fails ?_
          refine gwr ?_
          refine g_iret m123_78 rt_123 ?_
          exact hF (by unfold nameP; rw [show nam1 0 = 99 from rfl, show nam2 0 = 115 from rfl]; (repeat' split) <;> first | rfl | omega)
  · skip
    refine g_iload_n m123_0 rfl ?_
    refine g_bipush m123_1 ?_
    refine h_ic_ne (xi := vi) (zi := 104) m123_3 hv rfl (fun c8 => ?_) (fun c8 => ?_)
    · skip
      refine g_iconst m123_6 ?_
      refine g_goto m123_7 ?_
      refine g_istore_n (L2 := [some (.ref (89)), some (.int (v)), some (.int (1)), none, none]) m123_11 rfl rfl ?_
      refine g_iload_n m123_12 rfl ?_
      refine g_aload_n m123_13 rfl ?_
      refine h_gfI (k := 57) (p := 89) m123_14 rfl (t_57 _ _) rfl (hK.1) ?_
      refine h_if_neF (xi := 1) (zi := 0) m123_17 rfl rfl (by decide) ?_
      refine g_bipush m123_25 ?_
      refine h_ic_ne (xi := vi) (zi := 102) m123_27 hv rfl (fun c9 => ?_) (fun c9 => ?_)
      · skip
        refine g_iconst m123_30 ?_
        refine g_goto m123_31 ?_
        refine g_istore_n (L2 := [some (.ref (89)), some (.int (v)), some (.int (1)), some (.int (1)), none]) m123_35 rfl rfl ?_
        refine g_iload_n m123_36 rfl ?_
        refine g_aload_n m123_37 rfl ?_
        refine h_gfI (k := 57) (p := 89) m123_38 rfl (t_57 _ _) rfl (hK.1) ?_
        refine h_if_neF (xi := 1) (zi := 0) m123_41 rfl rfl (by decide) ?_
        refine g_bipush m123_49 ?_
        refine h_ic_ne (xi := vi) (zi := 99) m123_51 hv rfl (fun c10 => ?_) (fun c10 => ?_)
        · skip
          refine g_iconst m123_54 ?_
          refine g_goto m123_55 ?_
          refine g_istore (L2 := [some (.ref (89)), some (.int (v)), some (.int (1)), some (.int (1)), some (.int (1))]) m123_59 rfl rfl ?_
          refine g_iload_n m123_61 rfl ?_
          refine h_if_neF (xi := 1) (zi := 0) m123_62 rfl rfl (by decide) ?_
          refine g_aload_n m123_79 rfl ?_
          refine g_dup m123_80 rfl ?_
          refine h_gfI (k := 57) (p := 89) m123_81 rfl (t_57 _ _) rfl (hK.2.1) ?_
          refine g_iconst m123_84 ?_
          refine g_iadd (u := nI (p + 1)) m123_85 (nI_add p 1) ?_
          refine h_pfI (k := 57) (p := 89) m123_86 rfl (t_57 _ _) rfl trivial ?_
          refine g_iload_n m123_89 rfl ?_
          refine h_if_eqF (xi := 1) (zi := 0) m123_90 rfl rfl (by decide) ?_
          refine g_aload_n m123_93 rfl ?_
          refine h_gfI (k := 57) (p := 89) m123_94 rfl (t_57 _ _) rfl (hK.2.2.2.2.1) ?_
          refine g_goto m123_97 ?_
          refine g_iret m123_115 rt_123 ?_
          exact h1 0 (by unfold nameP; rw [show nam1 1 = 102 from rfl, show nam2 1 = 99 from rfl]; (repeat' split) <;> first | rfl | omega)
        · skip
          refine g_iconst m123_58 ?_
          refine g_istore (L2 := [some (.ref (89)), some (.int (v)), some (.int (1)), some (.int (1)), some (.int (0))]) m123_59 rfl rfl ?_
          refine g_iload_n m123_61 rfl ?_
          refine h_if_neF (xi := 1) (zi := 0) m123_62 rfl rfl (by decide) ?_
          refine g_aload_n m123_79 rfl ?_
          refine g_dup m123_80 rfl ?_
          refine h_gfI (k := 57) (p := 89) m123_81 rfl (t_57 _ _) rfl (hK.2.1) ?_
          refine g_iconst m123_84 ?_
          refine g_iadd (u := nI (p + 1)) m123_85 (nI_add p 1) ?_
          refine h_pfI (k := 57) (p := 89) m123_86 rfl (t_57 _ _) rfl trivial ?_
          refine g_iload_n m123_89 rfl ?_
          refine h_if_eqF (xi := 1) (zi := 0) m123_90 rfl rfl (by decide) ?_
          refine g_aload_n m123_93 rfl ?_
          refine h_gfI (k := 57) (p := 89) m123_94 rfl (t_57 _ _) rfl (hK.2.2.2.2.1) ?_
          refine g_goto m123_97 ?_
          refine g_iret m123_115 rt_123 ?_
          exact h1 0 (by unfold nameP; rw [show nam1 1 = 102 from rfl, show nam2 1 = 99 from rfl]; (repeat' split) <;> first | rfl | omega)
      · skip
        refine g_iconst m123_34 ?_
        refine g_istore_n (L2 := [some (.ref (89)), some (.int (v)), some (.int (1)), some (.int (0)), none]) m123_35 rfl rfl ?_
        refine g_iload_n m123_36 rfl ?_
        refine g_aload_n m123_37 rfl ?_
        refine h_gfI (k := 57) (p := 89) m123_38 rfl (t_57 _ _) rfl (hK.1) ?_
        refine h_if_neF (xi := 1) (zi := 0) m123_41 rfl rfl (by decide) ?_
        refine g_bipush m123_49 ?_
        refine h_ic_ne (xi := vi) (zi := 99) m123_51 hv rfl (fun c11 => ?_) (fun c11 => ?_)
        · skip
          refine g_iconst m123_54 ?_
          refine g_goto m123_55 ?_
          refine g_istore (L2 := [some (.ref (89)), some (.int (v)), some (.int (1)), some (.int (0)), some (.int (1))]) m123_59 rfl rfl ?_
          refine g_iload_n m123_61 rfl ?_
          refine h_if_neF (xi := 1) (zi := 0) m123_62 rfl rfl (by decide) ?_
          refine g_aload_n m123_79 rfl ?_
          refine g_dup m123_80 rfl ?_
          refine h_gfI (k := 57) (p := 89) m123_81 rfl (t_57 _ _) rfl (hK.2.1) ?_
          refine g_iconst m123_84 ?_
          refine g_iadd (u := nI (p + 1)) m123_85 (nI_add p 1) ?_
          refine h_pfI (k := 57) (p := 89) m123_86 rfl (t_57 _ _) rfl trivial ?_
          refine g_iload_n m123_89 rfl ?_
          refine h_if_eqF (xi := 1) (zi := 0) m123_90 rfl rfl (by decide) ?_
          refine g_aload_n m123_93 rfl ?_
          refine h_gfI (k := 57) (p := 89) m123_94 rfl (t_57 _ _) rfl (hK.2.2.2.2.1) ?_
          refine g_goto m123_97 ?_
          refine g_iret m123_115 rt_123 ?_
          exact h1 0 (by unfold nameP; rw [show nam1 1 = 102 from rfl, show nam2 1 = 99 from rfl]; (repeat' split) <;> first | rfl | omega)
        · skip
          refine g_iconst m123_58 ?_
          refine g_istore (L2 := [some (.ref (89)), some (.int (v)), some (.int (1)), some (.int (0)), some (.int (0))]) m123_59 rfl rfl ?_
          refine g_iload_n m123_61 rfl ?_
          refine h_if_neF (xi := 1) (zi := 0) m123_62 rfl rfl (by decide) ?_
          refine g_aload_n m123_79 rfl ?_
          refine g_dup m123_80 rfl ?_
          refine h_gfI (k := 57) (p := 89) m123_81 rfl (t_57 _ _) rfl (hK.2.1) ?_
          refine g_iconst m123_84 ?_
          refine g_iadd (u := nI (p + 1)) m123_85 (nI_add p 1) ?_
          refine h_pfI (k := 57) (p := 89) m123_86 rfl (t_57 _ _) rfl trivial ?_
          refine g_iload_n m123_89 rfl ?_
          refine h_if_eqF (xi := 1) (zi := 0) m123_90 rfl rfl (by decide) ?_
          refine g_aload_n m123_93 rfl ?_
          refine h_gfI (k := 57) (p := 89) m123_94 rfl (t_57 _ _) rfl (hK.2.2.2.2.1) ?_
          refine g_goto m123_97 ?_
          refine g_iret m123_115 rt_123 ?_
          exact h1 0 (by unfold nameP; rw [show nam1 1 = 102 from rfl, show nam2 1 = 99 from rfl]; (repeat' split) <;> first | rfl | omega)
    · skip
      refine g_iconst m123_10 ?_
      refine g_istore_n (L2 := [some (.ref (89)), some (.int (v)), some (.int (0)), none, none]) m123_11 rfl rfl ?_
      refine g_iload_n m123_12 rfl ?_
      refine g_aload_n m123_13 rfl ?_
      refine h_gfI (k := 57) (p := 89) m123_14 rfl (t_57 _ _) rfl (hK.1) ?_
      refine h_if_neF (xi := 1) (zi := 0) m123_17 rfl rfl (by decide) ?_
      refine g_bipush m123_25 ?_
      refine h_ic_ne (xi := vi) (zi := 102) m123_27 hv rfl (fun c12 => ?_) (fun c12 => ?_)
      · skip
        refine g_iconst m123_30 ?_
        refine g_goto m123_31 ?_
        refine g_istore_n (L2 := [some (.ref (89)), some (.int (v)), some (.int (0)), some (.int (1)), none]) m123_35 rfl rfl ?_
        refine g_iload_n m123_36 rfl ?_
        refine g_aload_n m123_37 rfl ?_
        refine h_gfI (k := 57) (p := 89) m123_38 rfl (t_57 _ _) rfl (hK.1) ?_
        refine h_if_neF (xi := 1) (zi := 0) m123_41 rfl rfl (by decide) ?_
        refine g_bipush m123_49 ?_
        refine h_ic_ne (xi := vi) (zi := 99) m123_51 hv rfl (fun c13 => ?_) (fun c13 => ?_)
        · skip
          refine g_iconst m123_54 ?_
          refine g_goto m123_55 ?_
          refine g_istore (L2 := [some (.ref (89)), some (.int (v)), some (.int (0)), some (.int (1)), some (.int (1))]) m123_59 rfl rfl ?_
          refine g_iload_n m123_61 rfl ?_
          refine h_if_neT (xi := 0) (zi := 0) m123_62 rfl rfl (by decide) ?_
          refine g_iload_n m123_65 rfl ?_
          refine h_if_neF (xi := 1) (zi := 0) m123_66 rfl rfl (by decide) ?_
          refine g_aload_n m123_79 rfl ?_
          refine g_dup m123_80 rfl ?_
          refine h_gfI (k := 57) (p := 89) m123_81 rfl (t_57 _ _) rfl (hK.2.1) ?_
          refine g_iconst m123_84 ?_
          refine g_iadd (u := nI (p + 1)) m123_85 (nI_add p 1) ?_
          refine h_pfI (k := 57) (p := 89) m123_86 rfl (t_57 _ _) rfl trivial ?_
          refine g_iload_n m123_89 rfl ?_
          refine h_if_eqT (xi := 0) (zi := 0) m123_90 rfl rfl (by decide) ?_
          refine g_iload_n m123_100 rfl ?_
          refine h_if_eqF (xi := 1) (zi := 0) m123_101 rfl rfl (by decide) ?_
          refine g_aload_n m123_104 rfl ?_
          refine h_gfI (k := 57) (p := 89) m123_105 rfl (t_57 _ _) rfl (hK.2.2.2.2.2.1) ?_
          refine g_goto m123_108 ?_
          refine g_iret m123_115 rt_123 ?_
          exact h1 1 (by unfold nameP; rw [show nam1 1 = 102 from rfl, show nam2 1 = 99 from rfl]; (repeat' split) <;> first | rfl | omega)
        · skip
          refine g_iconst m123_58 ?_
          refine g_istore (L2 := [some (.ref (89)), some (.int (v)), some (.int (0)), some (.int (1)), some (.int (0))]) m123_59 rfl rfl ?_
          refine g_iload_n m123_61 rfl ?_
          refine h_if_neT (xi := 0) (zi := 0) m123_62 rfl rfl (by decide) ?_
          refine g_iload_n m123_65 rfl ?_
          refine h_if_neF (xi := 1) (zi := 0) m123_66 rfl rfl (by decide) ?_
          refine g_aload_n m123_79 rfl ?_
          refine g_dup m123_80 rfl ?_
          refine h_gfI (k := 57) (p := 89) m123_81 rfl (t_57 _ _) rfl (hK.2.1) ?_
          refine g_iconst m123_84 ?_
          refine g_iadd (u := nI (p + 1)) m123_85 (nI_add p 1) ?_
          refine h_pfI (k := 57) (p := 89) m123_86 rfl (t_57 _ _) rfl trivial ?_
          refine g_iload_n m123_89 rfl ?_
          refine h_if_eqT (xi := 0) (zi := 0) m123_90 rfl rfl (by decide) ?_
          refine g_iload_n m123_100 rfl ?_
          refine h_if_eqF (xi := 1) (zi := 0) m123_101 rfl rfl (by decide) ?_
          refine g_aload_n m123_104 rfl ?_
          refine h_gfI (k := 57) (p := 89) m123_105 rfl (t_57 _ _) rfl (hK.2.2.2.2.2.1) ?_
          refine g_goto m123_108 ?_
          refine g_iret m123_115 rt_123 ?_
          exact h1 1 (by unfold nameP; rw [show nam1 1 = 102 from rfl, show nam2 1 = 99 from rfl]; (repeat' split) <;> first | rfl | omega)
      · skip
        refine g_iconst m123_34 ?_
        refine g_istore_n (L2 := [some (.ref (89)), some (.int (v)), some (.int (0)), some (.int (0)), none]) m123_35 rfl rfl ?_
        refine g_iload_n m123_36 rfl ?_
        refine g_aload_n m123_37 rfl ?_
        refine h_gfI (k := 57) (p := 89) m123_38 rfl (t_57 _ _) rfl (hK.1) ?_
        refine h_if_neF (xi := 1) (zi := 0) m123_41 rfl rfl (by decide) ?_
        refine g_bipush m123_49 ?_
        refine h_ic_ne (xi := vi) (zi := 99) m123_51 hv rfl (fun c14 => ?_) (fun c14 => ?_)
        · skip
          refine g_iconst m123_54 ?_
          refine g_goto m123_55 ?_
          refine g_istore (L2 := [some (.ref (89)), some (.int (v)), some (.int (0)), some (.int (0)), some (.int (1))]) m123_59 rfl rfl ?_
          refine g_iload_n m123_61 rfl ?_
          refine h_if_neT (xi := 0) (zi := 0) m123_62 rfl rfl (by decide) ?_
          refine g_iload_n m123_65 rfl ?_
          refine h_if_neT (xi := 0) (zi := 0) m123_66 rfl rfl (by decide) ?_
          refine g_iload m123_69 rfl ?_
          refine h_if_neF (xi := 1) (zi := 0) m123_71 rfl rfl (by decide) ?_
          refine g_aload_n m123_79 rfl ?_
          refine g_dup m123_80 rfl ?_
          refine h_gfI (k := 57) (p := 89) m123_81 rfl (t_57 _ _) rfl (hK.2.1) ?_
          refine g_iconst m123_84 ?_
          refine g_iadd (u := nI (p + 1)) m123_85 (nI_add p 1) ?_
          refine h_pfI (k := 57) (p := 89) m123_86 rfl (t_57 _ _) rfl trivial ?_
          refine g_iload_n m123_89 rfl ?_
          refine h_if_eqT (xi := 0) (zi := 0) m123_90 rfl rfl (by decide) ?_
          refine g_iload_n m123_100 rfl ?_
          refine h_if_eqT (xi := 0) (zi := 0) m123_101 rfl rfl (by decide) ?_
          refine g_aload_n m123_111 rfl ?_
          refine h_gfI (k := 57) (p := 89) m123_112 rfl (t_57 _ _) rfl (hK.2.2.2.2.2.2.1) ?_
          refine g_iret m123_115 rt_123 ?_
          exact h1 2 (by unfold nameP; rw [show nam1 1 = 102 from rfl, show nam2 1 = 99 from rfl]; (repeat' split) <;> first | rfl | omega)
        · skip
          refine g_iconst m123_58 ?_
          refine g_istore (L2 := [some (.ref (89)), some (.int (v)), some (.int (0)), some (.int (0)), some (.int (0))]) m123_59 rfl rfl ?_
          refine g_iload_n m123_61 rfl ?_
          refine h_if_neT (xi := 0) (zi := 0) m123_62 rfl rfl (by decide) ?_
          refine g_iload_n m123_65 rfl ?_
          refine h_if_neT (xi := 0) (zi := 0) m123_66 rfl rfl (by decide) ?_
          refine g_iload m123_69 rfl ?_
          refine h_if_neT (xi := 0) (zi := 0) m123_71 rfl rfl (by decide) ?_
          refine g_aload_n m123_74 rfl ?_
          refine h_cv (k := 57) (p := 89) (args := []) (rest := []) m123_75 cn_122 (Nat.le_of_ble_eq_true rfl) rfl rfl rfl (t_57 _ _) (Nat.le_of_ble_eq_true rfl) ?_
          refine c_fails ?_
          refine gwr ?_
          refine g_iret m123_78 rt_123 ?_
          exact hF (by unfold nameP; rw [show nam1 1 = 102 from rfl, show nam2 1 = 99 from rfl]; (repeat' split) <;> first | rfl | omega)
end
