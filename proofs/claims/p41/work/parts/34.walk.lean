section
/-! THE REFERENCE'S WALKER -/
/-- the walker: use u, at place p of n bytes, op open, the names' numbers a b c; g: good -/
def WkS (m : MW) (u n p op : Nat) (a b c : Int32) (g : Bool) : Prop := m 57 7 = nI u ∧ m 57 8 = nI p ∧ m 57 9 = nI n ∧ m 57 10 = nI op ∧ m 57 11 = a ∧ m 57 12 = b ∧ m 57 13 = c ∧ m 57 14 = (if g = true then 1 else 0)
def FrW (m m2 : MW) : Prop := ∀ k j, ¬ (k = 57 ∧ (j = 8 ∨ j = 10 ∨ j = 14)) → m2 k j = m k j
theorem FrW.rf {m : MW} : FrW m m := fun _ _ _ => rfl
theorem FrW.tr {m m2 m3 : MW} (h : FrW m m2) (h2 : FrW m2 m3) : FrW m m3 := fun k j q => (h2 k j q).trans (h k j q)
theorem FrW.up {m m2 : MW} (h : FrW m m2) {j : Nat} (x : Int32) (hk : j = 8 ∨ j = 10 ∨ j = 14) : FrW m (upm m2 57 j x) := by
  intro k2 j2 q
  unfold upm
  by_cases e : k2 = 57 ∧ j2 = j
  · exact absurd ⟨e.1, by rw [e.2]; exact hk⟩ q
  · rw [if_neg e, h k2 j2 q]
def BT (m : MW) (u : Nat) : Nat → Int32 := fun j => m 58 (134 + 50 * u + j)
theorem FrW.bt {m m2 : MW} (h : FrW m m2) (u : Nat) : BT m2 u = BT m u := funext fun j => h 58 _ (by omega)
def TapW (m : MW) (u : Nat) : Prop := ∀ j, j < 50 → leI (BT m u j) 255
theorem FrW.tap {m m2 : MW} (h : FrW m m2) {u : Nat} (t : TapW m u) : TapW m2 u := fun j hj => by rw [h.bt u]; exact t j hj
theorem btW_y {B : Nat → Int32} {n p c : Nat} (hp : p < n) (h : B p = nI c) (hc : c < 256) : bt B n p = (c : Int) := by
  unfold bt
  rw [if_pos hp, h, nI_toInt (by omega)]
def valK (k a b c : Int32) : Int32 := if k = 0 then a else if k = 1 then b else c
/-- behind a walk that gives r and the number v -/
def WOut (m : MW) (op : Nat) (a b c : Int32) (r : PR3) (v : Int32) (m2 : MW) : Prop := FrW m m2 ∧ m2 57 8 = nI r.2.1 ∧ m2 57 10 = nI op ∧ m2 57 14 = (if r.2.2 = true then 1 else 0) ∧ (r.2.2 = true → ∀ s, evS a b c r.1 s = some (v :: s))
section
variable {xs : List Int32} {d : Nat} {h : AH} {Q : QT} {m : MW} {ln : Nat → Nat} {N : Nat}
set_option maxRecDepth 20000 in
set_option maxHeartbeats 40000000 in
theorem c_byteAt {u n q : Nat} (h7 : m 57 7 = nI u) (h9 : m 57 9 = nI n) (hu : u ≤ 1) (hq : q ≤ n) (hn : n ≤ 50) (hT : TapW m u) (h1 : q < n → ∀ z, z < 256 → BT m u q = nI z → Q (some (.int (nI z))) (H m ln N)) (h2 : n ≤ q → Q (some (.int (-1))) (H m ln N)) : WP xs (d + 1) 119 0 0 [.ref (89), .int (nI (q))] (H m ln N) Q := by
  refine wp_x mx_119 (L := [some (.ref (89)), some (.int (nI (q)))]) (Nat.le_of_ble_eq_true rfl) rfl ?_
  refine g_iload_n m119_0 rfl ?_
  refine g_aload_n m119_1 rfl ?_
  refine h_gfI (k := 57) (p := 89) m119_2 rfl (t_57 _ _) rfl (h9) ?_
  refine h_ic_ge (xi := ((q : Nat) : Int)) (zi := ((n : Nat) : Int)) m119_5 (nI_toInt (by omega)) (nI_toInt (by omega)) (fun c1 => ?_) (fun c1 => ?_)
  · skip
    refine g_iconst m119_29 ?_
    refine g_iret m119_30 rt_119 ?_
    exact h2 (by omega)
  · skip
    refine g_aload_n m119_8 rfl ?_
    refine h_gfR (c := 90) (k := 57) (p := 89) m119_9 rfl (t_57 _ _) rfl (Nat.le_of_ble_eq_true rfl) ?_
    refine g_sipush m119_12 ?_
    refine g_bipush m119_15 ?_
    refine g_aload_n m119_17 rfl ?_
    refine h_gfI (k := 57) (p := 89) m119_18 rfl (t_57 _ _) rfl (h7) ?_
    refine g_imul (u := nI (50 * u)) m119_21 (pk_mul 50 u) ?_
    refine g_iadd (u := nI (134 + (50 * u))) m119_22 (nI_add 134 (50 * u)) ?_
    refine g_iload_n m119_23 rfl ?_
    refine g_iadd (u := nI ((134 + (50 * u)) + q)) m119_24 (nI_add (134 + (50 * u)) q) ?_
    obtain ⟨z, hz, hze⟩ := hT q (by omega)
    refine h_ial (k := 58) (p := 90) (j := (134 + (50 * u)) + q) m119_25 rfl (t_58 _ _) (rfl) (by omega) (Nat.le_of_ble_eq_true rfl) (hze) ?_
    refine g_goto m119_26 ?_
    refine g_iret m119_30 rt_119 ?_
    exact h1 (by omega) z (by omega) hze
set_option maxRecDepth 20000 in
set_option maxHeartbeats 40000000 in
theorem c_isDigitM {v : Int32} {vi : Int} (hv : v.toInt = vi) (hT : isDig vi = true → Q (some (.int 1)) h) (hF : ¬ isDig vi = true → Q (some (.int 0)) h) : WP xs (d + 2) 120 0 0 [.int (v)] h Q := by
  refine wp_x mx_120 (L := [some (.int (v))]) (Nat.le_of_ble_eq_true rfl) rfl ?_
  refine g_iload_n m120_0 rfl ?_
  refine g_bipush m120_1 ?_
  refine g_bipush m120_3 ?_
  refine g_cs (args := [.int (v), .int (48), .int (57)]) (rest := []) 0 (Or.inl rfl) m120_5 (Nat.le_of_ble_eq_true rfl) rfl rfl (Nat.le_of_ble_eq_true rfl) ?_
  refine c_inI (A := 48) (B := 57) (vi := vi) rfl rfl hv (fun a1 => ?_) (fun a1 => ?_)
  · skip
    refine gwr ?_
    refine g_zret m120_8 rt_120 (Or.inr rfl) ?_
    exact hT (by unfold isDig; exact decide_eq_true (by omega))
  · skip
    refine gwr ?_
    refine g_zret m120_8 rt_120 (Or.inl rfl) ?_
    exact hF (by unfold isDig; rw [decide_eq_true_eq]; omega)
set_option maxRecDepth 20000 in
set_option maxHeartbeats 40000000 in
theorem c_fails (hQ : Q (some (.int 0)) (H (upm m 57 14 0) ln N)) : WP xs (d + 1) 122 0 0 [.ref (89)] (H m ln N) Q := by
  refine wp_x mx_122 (L := [some (.ref (89))]) (Nat.le_of_ble_eq_true rfl) rfl ?_
  refine g_aload_n m122_0 rfl ?_
  refine g_iconst m122_1 ?_
  refine h_pfI (k := 57) (p := 89) m122_2 rfl (t_57 _ _) rfl (Or.inl rfl) ?_
  refine g_iconst m122_5 ?_
  refine g_iret m122_6 rt_122 ?_
  exact hQ
set_option maxRecDepth 20000 in
set_option maxHeartbeats 40000000 in
theorem c_number {u n p op : Nat} {a b c : Int32} (hK : WkS m u n p op a b c true) (hp : p ≤ n) (hn : n ≤ 50) (hT : TapW m u) (hu : u ≤ 1) (hQ : ∀ m2, FrW m m2 → WkS m2 u n (numP (BT m u) n 4 0 p).2 op a b c true → Q (some (.int (nI (numP (BT m u) n 4 0 p).1))) (H m2 ln N)) : WP xs (d + 3) 121 0 0 [.ref (89)] (H m ln N) Q := by
  refine wp_x mx_121 (L := [some (.ref (89)), none, none]) (Nat.le_of_ble_eq_true rfl) rfl ?_
  have key : ∀ (r q v p2 : Nat) (m2 : MW), q + r = 4 → p ≤ p2 → p2 ≤ n → WkS m2 u n p2 op a b c true → FrW m m2 → v < 10 ^ q → numP (BT m u) n r v p2 = numP (BT m u) n 4 0 p → gw xs (WP xs (d + 2)) 121 Q 4 [some (.ref (89)), some (.int (nI (v))), some (.int (nI (q)))] [] (H m2 ln N) 0 0 := by
    intro r
    induction r with
    | zero =>
      intro q v p2 m2 hq hp1 hp2 hK2 hF2 hv hnum
      have hnum : (v, p2) = numP (BT m u) n 4 0 p := hnum
      refine g_iload_n m121_4 rfl ?_
      refine g_iconst m121_5 ?_
      refine h_ic_geT (xi := ((q : Nat) : Int)) (zi := 4) m121_6 (nI_toInt (by omega)) rfl (by omega) ?_
      refine g_iload_n m121_56 rfl ?_
      refine g_iret m121_57 rt_121 ?_
      rw [← hnum] at hQ
      exact hQ _ hF2 hK2
    | succ r ih =>
      intro q v p2 m2 hq hp1 hp2 hK2 hF2 hv hnum
      have hT2 := hF2.tap hT
      have hv4 : v < 10 ^ 4 := Nat.lt_of_lt_of_le hv (Nat.pow_le_pow_right (by decide) (by omega))
      refine g_iload_n m121_4 rfl ?_
      refine g_iconst m121_5 ?_
      refine h_ic_geF (xi := ((q : Nat) : Int)) (zi := 4) m121_6 (nI_toInt (by omega)) rfl (by omega) ?_
      refine g_aload_n m121_9 rfl ?_
      refine g_aload_n m121_10 rfl ?_
      refine h_gfI (k := 57) (p := 89) m121_11 rfl (t_57 _ _) rfl (hK2.2.1) ?_
      refine h_cv (k := 57) (p := 89) (args := [.int (nI (p2))]) (rest := []) m121_14 cn_119 (Nat.le_of_ble_eq_true rfl) rfl rfl rfl (t_57 _ _) (Nat.le_of_ble_eq_true rfl) ?_
      refine c_byteAt hK2.1 hK2.2.2.1 hu hp2 hn hT2 (fun hpn z hz hze => ?_) (fun hpn => ?_)
      · have hbt : bt (BT m u) n p2 = (z : Int) := btW_y hpn (by rw [← hF2.bt u]; exact hze) hz
        refine gwr ?_
        refine g_cs (args := [.int (nI (z))]) (rest := []) 0 (Or.inl rfl) m121_17 (Nat.le_of_ble_eq_true rfl) rfl rfl (Nat.le_of_ble_eq_true rfl) ?_
        refine c_isDigitM (vi := ((z : Nat) : Int)) (nI_toInt (by omega)) (fun a_1 => ?_) (fun a_1 => ?_)
        · skip
          have hd9 := isDig_e a_1
          refine gwr ?_
          refine h_if_eqF (xi := 1) (zi := 0) m121_20 rfl rfl (by decide) ?_
          refine g_bipush m121_23 ?_
          refine g_iload_n m121_25 rfl ?_
          refine g_imul (u := nI (10 * v)) m121_26 (pk_mul 10 v) ?_
          refine g_aload_n m121_27 rfl ?_
          refine g_aload_n m121_28 rfl ?_
          refine h_gfI (k := 57) (p := 89) m121_29 rfl (t_57 _ _) rfl (hK2.2.1) ?_
          refine h_cv (k := 57) (p := 89) (args := [.int (nI (p2))]) (rest := [.int (nI (10 * v))]) m121_32 cn_119 (Nat.le_of_ble_eq_true rfl) rfl rfl rfl (t_57 _ _) (Nat.le_of_ble_eq_true rfl) ?_
          refine c_byteAt hK2.1 hK2.2.2.1 hu hp2 hn hT2 (fun hpn z2 hz2 hze2 => ?_) (fun hpn2 => absurd hpn2 (by omega))
          obtain rfl : z2 = z := (nI_eq (by omega) (by omega)).mp (hze2.symm.trans hze)
          refine gwr ?_
          refine g_iadd (u := nI ((10 * v) + z2)) m121_35 (nI_add (10 * v) z2) ?_
          refine g_bipush m121_36 ?_
          refine g_isub (u := nI (((10 * v) + z2) - 48)) m121_38 (pk_sub (a := ((10 * v) + z2)) (b := 48) (by omega)) ?_
          refine g_istore_n (L2 := [some (.ref (89)), some (.int (nI (((10 * v) + z2) - 48))), some (.int (nI (q)))]) m121_39 rfl rfl ?_
          refine g_aload_n m121_40 rfl ?_
          refine g_dup m121_41 rfl ?_
          refine h_gfI (k := 57) (p := 89) m121_42 rfl (t_57 _ _) rfl (hK2.2.1) ?_
          refine g_iconst m121_45 ?_
          refine g_iadd (u := nI (p2 + 1)) m121_46 (nI_add p2 1) ?_
          refine h_pfI (k := 57) (p := 89) m121_47 rfl (t_57 _ _) rfl trivial ?_
          refine g_iinc (L2 := [some (.ref (89)), some (.int (nI (((10 * v) + z2) - 48))), some (.int (nI (q + 1)))]) m121_50 rfl (nI_1 _) rfl rfl ?_
          refine g_goto m121_53 ?_
          refine ih (q + 1) _ (p2 + 1) _ (by omega) (by omega) (by omega) ⟨hK2.1, rfl, hK2.2.2.1, hK2.2.2.2.1, hK2.2.2.2.2.1, hK2.2.2.2.2.2.1, hK2.2.2.2.2.2.2.1, hK2.2.2.2.2.2.2.2⟩ (hF2.up _ (Or.inl rfl)) ?_ ?_
          · rw [Nat.pow_succ]
            omega
          · rw [← hnum]
            show _ = if isDig (bt (BT m u) n p2) = true then _ else _
            rw [hbt, if_pos a_1]
            congr 1
            omega
        · skip
          refine gwr ?_
          refine h_if_eqT (xi := 0) (zi := 0) m121_20 rfl rfl (by decide) ?_
          refine g_iload_n m121_56 rfl ?_
          refine g_iret m121_57 rt_121 ?_
          have hnum : (v, p2) = numP (BT m u) n 4 0 p := by
            rw [← hnum]
            show _ = if isDig (bt (BT m u) n p2) = true then _ else _
            rw [hbt, if_neg a_1]
          rw [← hnum] at hQ
          exact hQ _ hF2 hK2
      · have hbt : bt (BT m u) n p2 = -1 := bt_n hpn
        refine gwr ?_
        refine g_cs (args := [.int (-1)]) (rest := []) 0 (Or.inl rfl) m121_17 (Nat.le_of_ble_eq_true rfl) rfl rfl (Nat.le_of_ble_eq_true rfl) ?_
        refine c_isDigitM (vi := (-1)) rfl (fun a_2 => ?_) (fun a_2 => ?_)
        · skip
          exact absurd a_2 (by decide)
        · skip
          refine gwr ?_
          refine h_if_eqT (xi := 0) (zi := 0) m121_20 rfl rfl (by decide) ?_
          refine g_iload_n m121_56 rfl ?_
          refine g_iret m121_57 rt_121 ?_
          have hnum : (v, p2) = numP (BT m u) n 4 0 p := by
            rw [← hnum]
            show _ = if isDig (bt (BT m u) n p2) = true then _ else _
            rw [hbt, if_neg a_2]
          rw [← hnum] at hQ
          exact hQ _ hF2 hK2
  refine g_iconst m121_0 ?_
  refine g_istore_n (L2 := [some (.ref (89)), some (.int (0)), none]) m121_1 rfl rfl ?_
  refine g_iconst m121_2 ?_
  refine g_istore_n (L2 := [some (.ref (89)), some (.int (0)), some (.int (0))]) m121_3 rfl rfl ?_
  exact key 4 0 0 p m rfl (Nat.le_refl _) hp hK FrW.rf (by decide) rfl
set_option maxRecDepth 20000 in
set_option maxHeartbeats 40000000 in
theorem c_named {u n p op : Nat} {a b c : Int32} {v : Int32} {vi : Int} (hv : v.toInt = vi) (hK : WkS m u n p op a b c true) (hp : p ≤ n) (hn : n ≤ 50) (hu : u ≤ 1) (h1 : ∀ k, nameP u vi = some k → Q (some (.int (valK k a b c))) (H (upm m 57 8 (nI (p + 1))) ln N)) (hF : nameP u vi = none → Q (some (.int 0)) (H (upm m 57 14 0) ln N)) : WP xs (d + 2) 123 0 0 [.ref (89), .int (v)] (H m ln N) Q := by
  refine wp_x mx_123 (L := [some (.ref (89)), some (.int (v)), none, none, none]) (Nat.le_of_ble_eq_true rfl) rfl ?_
  rcases (show u = 0 ∨ u = 1 by omega) with rfl | rfl
  · skip
    refine g_iload_n m123_0 rfl ?_
    refine g_bipush m123_1 ?_
    refine h_ic_ne (xi := vi) (zi := 104) m123_3 hv rfl (fun c1 => ?_) (fun c1 => ?_)
    · skip
      refine g_iconst m123_6 ?_
      refine g_goto m123_7 ?_
      refine g_istore_n (L2 := [some (.ref (89)), some (.int (v)), some (.int (1)), none, none]) m123_11 rfl rfl ?_
      refine g_iload_n m123_12 rfl ?_
      refine g_aload_n m123_13 rfl ?_
      refine h_gfI (k := 57) (p := 89) m123_14 rfl (t_57 _ _) rfl (hK.1) ?_
      refine h_if_neT (xi := 0) (zi := 0) m123_17 rfl rfl (by decide) ?_
      refine g_bipush m123_20 ?_
      refine g_goto m123_22 ?_
      refine h_ic_ne (xi := vi) (zi := 99) m123_27 hv rfl (fun c2 => ?_) (fun c2 => ?_)
      · skip
        refine g_iconst m123_30 ?_
        refine g_goto m123_31 ?_
        refine g_istore_n (L2 := [some (.ref (89)), some (.int (v)), some (.int (1)), some (.int (1)), none]) m123_35 rfl rfl ?_
        refine g_iload_n m123_36 rfl ?_
        refine g_aload_n m123_37 rfl ?_
        refine h_gfI (k := 57) (p := 89) m123_38 rfl (t_57 _ _) rfl (hK.1) ?_
        refine h_if_neT (xi := 0) (zi := 0) m123_41 rfl rfl (by decide) ?_
        refine g_bipush m123_44 ?_
        refine g_goto m123_46 ?_
        refine h_ic_ne (xi := vi) (zi := 115) m123_51 hv rfl (fun c3 => ?_) (fun c3 => ?_)
        · skip
          refine g_iconst m123_54 ?_
          refine g_goto m123_55 ?_
          refine g_istore (L2 := [some (.ref (89)), some (.int (v)), some (.int (1)), some (.int (1)), some (.int (1))]) m123_59 rfl rfl ?_
          refine g_iload_n m123_61 rfl ?_
          refine h_if_neF (xi := 1) (zi := 0) m123_62 rfl rfl (by decide) ?_
          refine g_aload_n m123_79 rfl ?_
          refine g_dup m123_80 rfl ?_
          refine h_gfI (k := 57) (p := 89) m123_81 rfl (t_57 _ _) rfl (hK.2.1) ?_
          refine g_iconst m123_84 ?_
          refine g_iadd (u := nI (p + 1)) m123_85 (nI_add p 1) ?_
          refine h_pfI (k := 57) (p := 89) m123_86 rfl (t_57 _ _) rfl trivial ?_
          refine g_iload_n m123_89 rfl ?_
          refine h_if_eqF (xi := 1) (zi := 0) m123_90 rfl rfl (by decide) ?_
          refine g_aload_n m123_93 rfl ?_
          refine h_gfI (k := 57) (p := 89) m123_94 rfl (t_57 _ _) rfl (hK.2.2.2.2.1) ?_
          refine g_goto m123_97 ?_
          refine g_iret m123_115 rt_123 ?_
          exact h1 0 (by unfold nameP; rw [show nam1 0 = 99 from rfl, show nam2 0 = 115 from rfl]; (repeat' split) <;> first | rfl | omega)
        · skip
          refine g_iconst m123_58 ?_
          refine g_istore (L2 := [some (.ref (89)), some (.int (v)), some (.int (1)), some (.int (1)), some (.int (0))]) m123_59 rfl rfl ?_
          refine g_iload_n m123_61 rfl ?_
          refine h_if_neF (xi := 1) (zi := 0) m123_62 rfl rfl (by decide) ?_
          refine g_aload_n m123_79 rfl ?_
          refine g_dup m123_80 rfl ?_
          refine h_gfI (k := 57) (p := 89) m123_81 rfl (t_57 _ _) rfl (hK.2.1) ?_
          refine g_iconst m123_84 ?_
          refine g_iadd (u := nI (p + 1)) m123_85 (nI_add p 1) ?_
          refine h_pfI (k := 57) (p := 89) m123_86 rfl (t_57 _ _) rfl trivial ?_
          refine g_iload_n m123_89 rfl ?_
          refine h_if_eqF (xi := 1) (zi := 0) m123_90 rfl rfl (by decide) ?_
          refine g_aload_n m123_93 rfl ?_
          refine h_gfI (k := 57) (p := 89) m123_94 rfl (t_57 _ _) rfl (hK.2.2.2.2.1) ?_
          refine g_goto m123_97 ?_
          refine g_iret m123_115 rt_123 ?_
          exact h1 0 (by unfold nameP; rw [show nam1 0 = 99 from rfl, show nam2 0 = 115 from rfl]; (repeat' split) <;> first | rfl | omega)
      · skip
        refine g_iconst m123_34 ?_
        refine g_istore_n (L2 := [some (.ref (89)), some (.int (v)), some (.int (1)), some (.int (0)), none]) m123_35 rfl rfl ?_
        refine g_iload_n m123_36 rfl ?_
        refine g_aload_n m123_37 rfl ?_
        refine h_gfI (k := 57) (p := 89) m123_38 rfl (t_57 _ _) rfl (hK.1) ?_
        refine h_if_neT (xi := 0) (zi := 0) m123_41 rfl rfl (by decide) ?_
        refine g_bipush m123_44 ?_
        refine g_goto m123_46 ?_
        refine h_ic_ne (xi := vi) (zi := 115) m123_51 hv rfl (fun c4 => ?_) (fun c4 => ?_)
        · skip
          refine g_iconst m123_54 ?_
          refine g_goto m123_55 ?_
          refine g_istore (L2 := [some (.ref (89)), some (.int (v)), some (.int (1)), some (.int (0)), some (.int (1))]) m123_59 rfl rfl ?_
          refine g_iload_n m123_61 rfl ?_
          refine h_if_neF (xi := 1) (zi := 0) m123_62 rfl rfl (by decide) ?_
          refine g_aload_n m123_79 rfl ?_
          refine g_dup m123_80 rfl ?_
          refine h_gfI (k := 57) (p := 89) m123_81 rfl (t_57 _ _) rfl (hK.2.1) ?_
          refine g_iconst m123_84 ?_
          refine g_iadd (u := nI (p + 1)) m123_85 (nI_add p 1) ?_
          refine h_pfI (k := 57) (p := 89) m123_86 rfl (t_57 _ _) rfl trivial ?_
          refine g_iload_n m123_89 rfl ?_
          refine h_if_eqF (xi := 1) (zi := 0) m123_90 rfl rfl (by decide) ?_
          refine g_aload_n m123_93 rfl ?_
          refine h_gfI (k := 57) (p := 89) m123_94 rfl (t_57 _ _) rfl (hK.2.2.2.2.1) ?_
          refine g_goto m123_97 ?_
          refine g_iret m123_115 rt_123 ?_
          exact h1 0 (by unfold nameP; rw [show nam1 0 = 99 from rfl, show nam2 0 = 115 from rfl]; (repeat' split) <;> first | rfl | omega)
        · skip
          refine g_iconst m123_58 ?_
          refine g_istore (L2 := [some (.ref (89)), some (.int (v)), some (.int (1)), some (.int (0)), some (.int (0))]) m123_59 rfl rfl ?_
          refine g_iload_n m123_61 rfl ?_
          refine h_if_neF (xi := 1) (zi := 0) m123_62 rfl rfl (by decide) ?_
          refine g_aload_n m123_79 rfl ?_
          refine g_dup m123_80 rfl ?_
          refine h_gfI (k := 57) (p := 89) m123_81 rfl (t_57 _ _) rfl (hK.2.1) ?_
          refine g_iconst m123_84 ?_
          refine g_iadd (u := nI (p + 1)) m123_85 (nI_add p 1) ?_
          refine h_pfI (k := 57) (p := 89) m123_86 rfl (t_57 _ _) rfl trivial ?_
          refine g_iload_n m123_89 rfl ?_
          refine h_if_eqF (xi := 1) (zi := 0) m123_90 rfl rfl (by decide) ?_
          refine g_aload_n m123_93 rfl ?_
          refine h_gfI (k := 57) (p := 89) m123_94 rfl (t_57 _ _) rfl (hK.2.2.2.2.1) ?_
          refine g_goto m123_97 ?_
          refine g_iret m123_115 rt_123 ?_
          exact h1 0 (by unfold nameP; rw [show nam1 0 = 99 from rfl, show nam2 0 = 115 from rfl]; (repeat' split) <;> first | rfl | omega)
    · skip
      refine g_iconst m123_10 ?_
      refine g_istore_n (L2 := [some (.ref (89)), some (.int (v)), some (.int (0)), none, none]) m123_11 rfl rfl ?_
      refine g_iload_n m123_12 rfl ?_
      refine g_aload_n m123_13 rfl ?_
      refine h_gfI (k := 57) (p := 89) m123_14 rfl (t_57 _ _) rfl (hK.1) ?_
      refine h_if_neT (xi := 0) (zi := 0) m123_17 rfl rfl (by decide) ?_
      refine g_bipush m123_20 ?_
      refine g_goto m123_22 ?_
      refine h_ic_ne (xi := vi) (zi := 99) m123_27 hv rfl (fun c5 => ?_) (fun c5 => ?_)
      · skip
        refine g_iconst m123_30 ?_
        refine g_goto m123_31 ?_
        refine g_istore_n (L2 := [some (.ref (89)), some (.int (v)), some (.int (0)), some (.int (1)), none]) m123_35 rfl rfl ?_
        refine g_iload_n m123_36 rfl ?_
        refine g_aload_n m123_37 rfl ?_
        refine h_gfI (k := 57) (p := 89) m123_38 rfl (t_57 _ _) rfl (hK.1) ?_
        refine h_if_neT (xi := 0) (zi := 0) m123_41 rfl rfl (by decide) ?_
        refine g_bipush m123_44 ?_
        refine g_goto m123_46 ?_
        refine h_ic_ne (xi := vi) (zi := 115) m123_51 hv rfl (fun c6 => ?_) (fun c6 => ?_)
        · skip
          refine g_iconst m123_54 ?_
          refine g_goto m123_55 ?_
          refine g_istore (L2 := [some (.ref (89)), some (.int (v)), some (.int (0)), some (.int (1)), some (.int (1))]) m123_59 rfl rfl ?_
          refine g_iload_n m123_61 rfl ?_
          refine h_if_neT (xi := 0) (zi := 0) m123_62 rfl rfl (by decide) ?_
          refine g_iload_n m123_65 rfl ?_
          refine h_if_neF (xi := 1) (zi := 0) m123_66 rfl rfl (by decide) ?_
          refine g_aload_n m123_79 rfl ?_
          refine g_dup m123_80 rfl ?_
          refine h_gfI (k := 57) (p := 89) m123_81 rfl (t_57 _ _) rfl (hK.2.1) ?_
          refine g_iconst m123_84 ?_
          refine g_iadd (u := nI (p + 1)) m123_85 (nI_add p 1) ?_
          refine h_pfI (k := 57) (p := 89) m123_86 rfl (t_57 _ _) rfl trivial ?_
          refine g_iload_n m123_89 rfl ?_
          refine h_if_eqT (xi := 0) (zi := 0) m123_90 rfl rfl (by decide) ?_
          refine g_iload_n m123_100 rfl ?_
          refine h_if_eqF (xi := 1) (zi := 0) m123_101 rfl rfl (by decide) ?_
          refine g_aload_n m123_104 rfl ?_
          refine h_gfI (k := 57) (p := 89) m123_105 rfl (t_57 _ _) rfl (hK.2.2.2.2.2.1) ?_
          refine g_goto m123_108 ?_
          refine g_iret m123_115 rt_123 ?_
          exact h1 1 (by unfold nameP; rw [show nam1 0 = 99 from rfl, show nam2 0 = 115 from rfl]; (repeat' split) <;> first | rfl | omega)
        · skip
          refine g_iconst m123_58 ?_
          refine g_istore (L2 := [some (.ref (89)), some (.int (v)), some (.int (0)), some (.int (1)), some (.int (0))]) m123_59 rfl rfl ?_
          refine g_iload_n m123_61 rfl ?_
          refine h_if_neT (xi := 0) (zi := 0) m123_62 rfl rfl (by decide) ?_
          refine g_iload_n m123_65 rfl ?_
          refine h_if_neF (xi := 1) (zi := 0) m123_66 rfl rfl (by decide) ?_
          refine g_aload_n m123_79 rfl ?_
          refine g_dup m123_80 rfl ?_
          refine h_gfI (k := 57) (p := 89) m123_81 rfl (t_57 _ _) rfl (hK.2.1) ?_
          refine g_iconst m123_84 ?_
          refine g_iadd (u := nI (p + 1)) m123_85 (nI_add p 1) ?_
          refine h_pfI (k := 57) (p := 89) m123_86 rfl (t_57 _ _) rfl trivial ?_
          refine g_iload_n m123_89 rfl ?_
          refine h_if_eqT (xi := 0) (zi := 0) m123_90 rfl rfl (by decide) ?_
          refine g_iload_n m123_100 rfl ?_
          refine h_if_eqF (xi := 1) (zi := 0) m123_101 rfl rfl (by decide) ?_
          refine g_aload_n m123_104 rfl ?_
          refine h_gfI (k := 57) (p := 89) m123_105 rfl (t_57 _ _) rfl (hK.2.2.2.2.2.1) ?_
          refine g_goto m123_108 ?_
          refine g_iret m123_115 rt_123 ?_
          exact h1 1 (by unfold nameP; rw [show nam1 0 = 99 from rfl, show nam2 0 = 115 from rfl]; (repeat' split) <;> first | rfl | omega)
      · skip
        refine g_iconst m123_34 ?_
        refine g_istore_n (L2 := [some (.ref (89)), some (.int (v)), some (.int (0)), some (.int (0)), none]) m123_35 rfl rfl ?_
        refine g_iload_n m123_36 rfl ?_
        refine g_aload_n m123_37 rfl ?_
        refine h_gfI (k := 57) (p := 89) m123_38 rfl (t_57 _ _) rfl (hK.1) ?_
        refine h_if_neT (xi := 0) (zi := 0) m123_41 rfl rfl (by decide) ?_
        refine g_bipush m123_44 ?_
        refine g_goto m123_46 ?_
        refine h_ic_ne (xi := vi) (zi := 115) m123_51 hv rfl (fun c7 => ?_) (fun c7 => ?_)
        · skip
          refine g_iconst m123_54 ?_
          refine g_goto m123_55 ?_
          refine g_istore (L2 := [some (.ref (89)), some (.int (v)), some (.int (0)), some (.int (0)), some (.int (1))]) m123_59 rfl rfl ?_
          refine g_iload_n m123_61 rfl ?_
          refine h_if_neT (xi := 0) (zi := 0) m123_62 rfl rfl (by decide) ?_
          refine g_iload_n m123_65 rfl ?_
          refine h_if_neT (xi := 0) (zi := 0) m123_66 rfl rfl (by decide) ?_
          refine g_iload m123_69 rfl ?_
          refine h_if_neF (xi := 1) (zi := 0) m123_71 rfl rfl (by decide) ?_
          refine g_aload_n m123_79 rfl ?_
          refine g_dup m123_80 rfl ?_
          refine h_gfI (k := 57) (p := 89) m123_81 rfl (t_57 _ _) rfl (hK.2.1) ?_
          refine g_iconst m123_84 ?_
          refine g_iadd (u := nI (p + 1)) m123_85 (nI_add p 1) ?_
          refine h_pfI (k := 57) (p := 89) m123_86 rfl (t_57 _ _) rfl trivial ?_
          refine g_iload_n m123_89 rfl ?_
          refine h_if_eqT (xi := 0) (zi := 0) m123_90 rfl rfl (by decide) ?_
          refine g_iload_n m123_100 rfl ?_
          refine h_if_eqT (xi := 0) (zi := 0) m123_101 rfl rfl (by decide) ?_
          refine g_aload_n m123_111 rfl ?_
          refine h_gfI (k := 57) (p := 89) m123_112 rfl (t_57 _ _) rfl (hK.2.2.2.2.2.2.1) ?_
          refine g_iret m123_115 rt_123 ?_
          exact h1 2 (by unfold nameP; rw [show nam1 0 = 99 from rfl, show nam2 0 = 115 from rfl]; (repeat' split) <;> first | rfl | omega)
        · skip
          refine g_iconst m123_58 ?_
          refine g_istore (L2 := [some (.ref (89)), some (.int (v)), some (.int (0)), some (.int (0)), some (.int (0))]) m123_59 rfl rfl ?_
          refine g_iload_n m123_61 rfl ?_
          refine h_if_neT (xi := 0) (zi := 0) m123_62 rfl rfl (by decide) ?_
          refine g_iload_n m123_65 rfl ?_
          refine h_if_neT (xi := 0) (zi := 0) m123_66 rfl rfl (by decide) ?_
          refine g_iload m123_69 rfl ?_
          refine h_if_neT (xi := 0) (zi := 0) m123_71 rfl rfl (by decide) ?_
          refine g_aload_n m123_74 rfl ?_
          refine h_cv (k := 57) (p := 89) (args := []) (rest := []) m123_75 cn_122 (Nat.le_of_ble_eq_true rfl) rfl rfl rfl (t_57 _ _) (Nat.le_of_ble_eq_true rfl) ?_
          refine c_fails ?_
          refine gwr ?_
          refine g_iret m123_78 rt_123 ?_
          exact hF (by unfold nameP; rw [show nam1 0 = 99 from rfl, show nam2 0 = 115 from rfl]; (repeat' split) <;> first | rfl | omega)
  · skip
    refine g_iload_n m123_0 rfl ?_
    refine g_bipush m123_1 ?_
    refine h_ic_ne (xi := vi) (zi := 104) m123_3 hv rfl (fun c8 => ?_) (fun c8 => ?_)
    · skip
      refine g_iconst m123_6 ?_
      refine g_goto m123_7 ?_
      refine g_istore_n (L2 := [some (.ref (89)), some (.int (v)), some (.int (1)), none, none]) m123_11 rfl rfl ?_
      refine g_iload_n m123_12 rfl ?_
      refine g_aload_n m123_13 rfl ?_
      refine h_gfI (k := 57) (p := 89) m123_14 rfl (t_57 _ _) rfl (hK.1) ?_
      refine h_if_neF (xi := 1) (zi := 0) m123_17 rfl rfl (by decide) ?_
      refine g_bipush m123_25 ?_
      refine h_ic_ne (xi := vi) (zi := 102) m123_27 hv rfl (fun c9 => ?_) (fun c9 => ?_)
      · skip
        refine g_iconst m123_30 ?_
        refine g_goto m123_31 ?_
        refine g_istore_n (L2 := [some (.ref (89)), some (.int (v)), some (.int (1)), some (.int (1)), none]) m123_35 rfl rfl ?_
        refine g_iload_n m123_36 rfl ?_
        refine g_aload_n m123_37 rfl ?_
        refine h_gfI (k := 57) (p := 89) m123_38 rfl (t_57 _ _) rfl (hK.1) ?_
        refine h_if_neF (xi := 1) (zi := 0) m123_41 rfl rfl (by decide) ?_
        refine g_bipush m123_49 ?_
        refine h_ic_ne (xi := vi) (zi := 99) m123_51 hv rfl (fun c10 => ?_) (fun c10 => ?_)
        · skip
          refine g_iconst m123_54 ?_
          refine g_goto m123_55 ?_
          refine g_istore (L2 := [some (.ref (89)), some (.int (v)), some (.int (1)), some (.int (1)), some (.int (1))]) m123_59 rfl rfl ?_
          refine g_iload_n m123_61 rfl ?_
          refine h_if_neF (xi := 1) (zi := 0) m123_62 rfl rfl (by decide) ?_
          refine g_aload_n m123_79 rfl ?_
          refine g_dup m123_80 rfl ?_
          refine h_gfI (k := 57) (p := 89) m123_81 rfl (t_57 _ _) rfl (hK.2.1) ?_
          refine g_iconst m123_84 ?_
          refine g_iadd (u := nI (p + 1)) m123_85 (nI_add p 1) ?_
          refine h_pfI (k := 57) (p := 89) m123_86 rfl (t_57 _ _) rfl trivial ?_
          refine g_iload_n m123_89 rfl ?_
          refine h_if_eqF (xi := 1) (zi := 0) m123_90 rfl rfl (by decide) ?_
          refine g_aload_n m123_93 rfl ?_
          refine h_gfI (k := 57) (p := 89) m123_94 rfl (t_57 _ _) rfl (hK.2.2.2.2.1) ?_
          refine g_goto m123_97 ?_
          refine g_iret m123_115 rt_123 ?_
          exact h1 0 (by unfold nameP; rw [show nam1 1 = 102 from rfl, show nam2 1 = 99 from rfl]; (repeat' split) <;> first | rfl | omega)
        · skip
          refine g_iconst m123_58 ?_
          refine g_istore (L2 := [some (.ref (89)), some (.int (v)), some (.int (1)), some (.int (1)), some (.int (0))]) m123_59 rfl rfl ?_
          refine g_iload_n m123_61 rfl ?_
          refine h_if_neF (xi := 1) (zi := 0) m123_62 rfl rfl (by decide) ?_
          refine g_aload_n m123_79 rfl ?_
          refine g_dup m123_80 rfl ?_
          refine h_gfI (k := 57) (p := 89) m123_81 rfl (t_57 _ _) rfl (hK.2.1) ?_
          refine g_iconst m123_84 ?_
          refine g_iadd (u := nI (p + 1)) m123_85 (nI_add p 1) ?_
          refine h_pfI (k := 57) (p := 89) m123_86 rfl (t_57 _ _) rfl trivial ?_
          refine g_iload_n m123_89 rfl ?_
          refine h_if_eqF (xi := 1) (zi := 0) m123_90 rfl rfl (by decide) ?_
          refine g_aload_n m123_93 rfl ?_
          refine h_gfI (k := 57) (p := 89) m123_94 rfl (t_57 _ _) rfl (hK.2.2.2.2.1) ?_
          refine g_goto m123_97 ?_
          refine g_iret m123_115 rt_123 ?_
          exact h1 0 (by unfold nameP; rw [show nam1 1 = 102 from rfl, show nam2 1 = 99 from rfl]; (repeat' split) <;> first | rfl | omega)
      · skip
        refine g_iconst m123_34 ?_
        refine g_istore_n (L2 := [some (.ref (89)), some (.int (v)), some (.int (1)), some (.int (0)), none]) m123_35 rfl rfl ?_
        refine g_iload_n m123_36 rfl ?_
        refine g_aload_n m123_37 rfl ?_
        refine h_gfI (k := 57) (p := 89) m123_38 rfl (t_57 _ _) rfl (hK.1) ?_
        refine h_if_neF (xi := 1) (zi := 0) m123_41 rfl rfl (by decide) ?_
        refine g_bipush m123_49 ?_
        refine h_ic_ne (xi := vi) (zi := 99) m123_51 hv rfl (fun c11 => ?_) (fun c11 => ?_)
        · skip
          refine g_iconst m123_54 ?_
          refine g_goto m123_55 ?_
          refine g_istore (L2 := [some (.ref (89)), some (.int (v)), some (.int (1)), some (.int (0)), some (.int (1))]) m123_59 rfl rfl ?_
          refine g_iload_n m123_61 rfl ?_
          refine h_if_neF (xi := 1) (zi := 0) m123_62 rfl rfl (by decide) ?_
          refine g_aload_n m123_79 rfl ?_
          refine g_dup m123_80 rfl ?_
          refine h_gfI (k := 57) (p := 89) m123_81 rfl (t_57 _ _) rfl (hK.2.1) ?_
          refine g_iconst m123_84 ?_
          refine g_iadd (u := nI (p + 1)) m123_85 (nI_add p 1) ?_
          refine h_pfI (k := 57) (p := 89) m123_86 rfl (t_57 _ _) rfl trivial ?_
          refine g_iload_n m123_89 rfl ?_
          refine h_if_eqF (xi := 1) (zi := 0) m123_90 rfl rfl (by decide) ?_
          refine g_aload_n m123_93 rfl ?_
          refine h_gfI (k := 57) (p := 89) m123_94 rfl (t_57 _ _) rfl (hK.2.2.2.2.1) ?_
          refine g_goto m123_97 ?_
          refine g_iret m123_115 rt_123 ?_
          exact h1 0 (by unfold nameP; rw [show nam1 1 = 102 from rfl, show nam2 1 = 99 from rfl]; (repeat' split) <;> first | rfl | omega)
        · skip
          refine g_iconst m123_58 ?_
          refine g_istore (L2 := [some (.ref (89)), some (.int (v)), some (.int (1)), some (.int (0)), some (.int (0))]) m123_59 rfl rfl ?_
          refine g_iload_n m123_61 rfl ?_
          refine h_if_neF (xi := 1) (zi := 0) m123_62 rfl rfl (by decide) ?_
          refine g_aload_n m123_79 rfl ?_
          refine g_dup m123_80 rfl ?_
          refine h_gfI (k := 57) (p := 89) m123_81 rfl (t_57 _ _) rfl (hK.2.1) ?_
          refine g_iconst m123_84 ?_
          refine g_iadd (u := nI (p + 1)) m123_85 (nI_add p 1) ?_
          refine h_pfI (k := 57) (p := 89) m123_86 rfl (t_57 _ _) rfl trivial ?_
          refine g_iload_n m123_89 rfl ?_
          refine h_if_eqF (xi := 1) (zi := 0) m123_90 rfl rfl (by decide) ?_
          refine g_aload_n m123_93 rfl ?_
          refine h_gfI (k := 57) (p := 89) m123_94 rfl (t_57 _ _) rfl (hK.2.2.2.2.1) ?_
          refine g_goto m123_97 ?_
          refine g_iret m123_115 rt_123 ?_
          exact h1 0 (by unfold nameP; rw [show nam1 1 = 102 from rfl, show nam2 1 = 99 from rfl]; (repeat' split) <;> first | rfl | omega)
    · skip
      refine g_iconst m123_10 ?_
      refine g_istore_n (L2 := [some (.ref (89)), some (.int (v)), some (.int (0)), none, none]) m123_11 rfl rfl ?_
      refine g_iload_n m123_12 rfl ?_
      refine g_aload_n m123_13 rfl ?_
      refine h_gfI (k := 57) (p := 89) m123_14 rfl (t_57 _ _) rfl (hK.1) ?_
      refine h_if_neF (xi := 1) (zi := 0) m123_17 rfl rfl (by decide) ?_
      refine g_bipush m123_25 ?_
      refine h_ic_ne (xi := vi) (zi := 102) m123_27 hv rfl (fun c12 => ?_) (fun c12 => ?_)
      · skip
        refine g_iconst m123_30 ?_
        refine g_goto m123_31 ?_
        refine g_istore_n (L2 := [some (.ref (89)), some (.int (v)), some (.int (0)), some (.int (1)), none]) m123_35 rfl rfl ?_
        refine g_iload_n m123_36 rfl ?_
        refine g_aload_n m123_37 rfl ?_
        refine h_gfI (k := 57) (p := 89) m123_38 rfl (t_57 _ _) rfl (hK.1) ?_
        refine h_if_neF (xi := 1) (zi := 0) m123_41 rfl rfl (by decide) ?_
        refine g_bipush m123_49 ?_
        refine h_ic_ne (xi := vi) (zi := 99) m123_51 hv rfl (fun c13 => ?_) (fun c13 => ?_)
        · skip
          refine g_iconst m123_54 ?_
          refine g_goto m123_55 ?_
          refine g_istore (L2 := [some (.ref (89)), some (.int (v)), some (.int (0)), some (.int (1)), some (.int (1))]) m123_59 rfl rfl ?_
          refine g_iload_n m123_61 rfl ?_
          refine h_if_neT (xi := 0) (zi := 0) m123_62 rfl rfl (by decide) ?_
          refine g_iload_n m123_65 rfl ?_
          refine h_if_neF (xi := 1) (zi := 0) m123_66 rfl rfl (by decide) ?_
          refine g_aload_n m123_79 rfl ?_
          refine g_dup m123_80 rfl ?_
          refine h_gfI (k := 57) (p := 89) m123_81 rfl (t_57 _ _) rfl (hK.2.1) ?_
          refine g_iconst m123_84 ?_
          refine g_iadd (u := nI (p + 1)) m123_85 (nI_add p 1) ?_
          refine h_pfI (k := 57) (p := 89) m123_86 rfl (t_57 _ _) rfl trivial ?_
          refine g_iload_n m123_89 rfl ?_
          refine h_if_eqT (xi := 0) (zi := 0) m123_90 rfl rfl (by decide) ?_
          refine g_iload_n m123_100 rfl ?_
          refine h_if_eqF (xi := 1) (zi := 0) m123_101 rfl rfl (by decide) ?_
          refine g_aload_n m123_104 rfl ?_
          refine h_gfI (k := 57) (p := 89) m123_105 rfl (t_57 _ _) rfl (hK.2.2.2.2.2.1) ?_
          refine g_goto m123_108 ?_
          refine g_iret m123_115 rt_123 ?_
          exact h1 1 (by unfold nameP; rw [show nam1 1 = 102 from rfl, show nam2 1 = 99 from rfl]; (repeat' split) <;> first | rfl | omega)
        · skip
          refine g_iconst m123_58 ?_
          refine g_istore (L2 := [some (.ref (89)), some (.int (v)), some (.int (0)), some (.int (1)), some (.int (0))]) m123_59 rfl rfl ?_
          refine g_iload_n m123_61 rfl ?_
          refine h_if_neT (xi := 0) (zi := 0) m123_62 rfl rfl (by decide) ?_
          refine g_iload_n m123_65 rfl ?_
          refine h_if_neF (xi := 1) (zi := 0) m123_66 rfl rfl (by decide) ?_
          refine g_aload_n m123_79 rfl ?_
          refine g_dup m123_80 rfl ?_
          refine h_gfI (k := 57) (p := 89) m123_81 rfl (t_57 _ _) rfl (hK.2.1) ?_
          refine g_iconst m123_84 ?_
          refine g_iadd (u := nI (p + 1)) m123_85 (nI_add p 1) ?_
          refine h_pfI (k := 57) (p := 89) m123_86 rfl (t_57 _ _) rfl trivial ?_
          refine g_iload_n m123_89 rfl ?_
          refine h_if_eqT (xi := 0) (zi := 0) m123_90 rfl rfl (by decide) ?_
          refine g_iload_n m123_100 rfl ?_
          refine h_if_eqF (xi := 1) (zi := 0) m123_101 rfl rfl (by decide) ?_
          refine g_aload_n m123_104 rfl ?_
          refine h_gfI (k := 57) (p := 89) m123_105 rfl (t_57 _ _) rfl (hK.2.2.2.2.2.1) ?_
          refine g_goto m123_108 ?_
          refine g_iret m123_115 rt_123 ?_
          exact h1 1 (by unfold nameP; rw [show nam1 1 = 102 from rfl, show nam2 1 = 99 from rfl]; (repeat' split) <;> first | rfl | omega)
      · skip
        refine g_iconst m123_34 ?_
        refine g_istore_n (L2 := [some (.ref (89)), some (.int (v)), some (.int (0)), some (.int (0)), none]) m123_35 rfl rfl ?_
        refine g_iload_n m123_36 rfl ?_
        refine g_aload_n m123_37 rfl ?_
        refine h_gfI (k := 57) (p := 89) m123_38 rfl (t_57 _ _) rfl (hK.1) ?_
        refine h_if_neF (xi := 1) (zi := 0) m123_41 rfl rfl (by decide) ?_
        refine g_bipush m123_49 ?_
        refine h_ic_ne (xi := vi) (zi := 99) m123_51 hv rfl (fun c14 => ?_) (fun c14 => ?_)
        · skip
          refine g_iconst m123_54 ?_
          refine g_goto m123_55 ?_
          refine g_istore (L2 := [some (.ref (89)), some (.int (v)), some (.int (0)), some (.int (0)), some (.int (1))]) m123_59 rfl rfl ?_
          refine g_iload_n m123_61 rfl ?_
          refine h_if_neT (xi := 0) (zi := 0) m123_62 rfl rfl (by decide) ?_
          refine g_iload_n m123_65 rfl ?_
          refine h_if_neT (xi := 0) (zi := 0) m123_66 rfl rfl (by decide) ?_
          refine g_iload m123_69 rfl ?_
          refine h_if_neF (xi := 1) (zi := 0) m123_71 rfl rfl (by decide) ?_
          refine g_aload_n m123_79 rfl ?_
          refine g_dup m123_80 rfl ?_
          refine h_gfI (k := 57) (p := 89) m123_81 rfl (t_57 _ _) rfl (hK.2.1) ?_
          refine g_iconst m123_84 ?_
          refine g_iadd (u := nI (p + 1)) m123_85 (nI_add p 1) ?_
          refine h_pfI (k := 57) (p := 89) m123_86 rfl (t_57 _ _) rfl trivial ?_
          refine g_iload_n m123_89 rfl ?_
          refine h_if_eqT (xi := 0) (zi := 0) m123_90 rfl rfl (by decide) ?_
          refine g_iload_n m123_100 rfl ?_
          refine h_if_eqT (xi := 0) (zi := 0) m123_101 rfl rfl (by decide) ?_
          refine g_aload_n m123_111 rfl ?_
          refine h_gfI (k := 57) (p := 89) m123_112 rfl (t_57 _ _) rfl (hK.2.2.2.2.2.2.1) ?_
          refine g_iret m123_115 rt_123 ?_
          exact h1 2 (by unfold nameP; rw [show nam1 1 = 102 from rfl, show nam2 1 = 99 from rfl]; (repeat' split) <;> first | rfl | omega)
        · skip
          refine g_iconst m123_58 ?_
          refine g_istore (L2 := [some (.ref (89)), some (.int (v)), some (.int (0)), some (.int (0)), some (.int (0))]) m123_59 rfl rfl ?_
          refine g_iload_n m123_61 rfl ?_
          refine h_if_neT (xi := 0) (zi := 0) m123_62 rfl rfl (by decide) ?_
          refine g_iload_n m123_65 rfl ?_
          refine h_if_neT (xi := 0) (zi := 0) m123_66 rfl rfl (by decide) ?_
          refine g_iload m123_69 rfl ?_
          refine h_if_neT (xi := 0) (zi := 0) m123_71 rfl rfl (by decide) ?_
          refine g_aload_n m123_74 rfl ?_
          refine h_cv (k := 57) (p := 89) (args := []) (rest := []) m123_75 cn_122 (Nat.le_of_ble_eq_true rfl) rfl rfl rfl (t_57 _ _) (Nat.le_of_ble_eq_true rfl) ?_
          refine c_fails ?_
          refine gwr ?_
          refine g_iret m123_78 rt_123 ?_
          exact hF (by unfold nameP; rw [show nam1 1 = 102 from rfl, show nam2 1 = 99 from rfl]; (repeat' split) <;> first | rfl | omega)
end
end
section
/-! THE REFERENCE'S WALKER: levels -/
def mOf (lv : Nat) : Nat := if lv = 0 then 128 else if lv = 1 then 129 else if lv = 2 then 124 else if lv = 3 then 127 else if lv = 4 then 126 else 125
def Wk (xs : List Int32) (ln : Nat → Nat) (N u n f lv : Nat) (a b c : Int32) : Prop := ∀ (m : MW) (Q : QT) (D op p : Nat), 2 * f + 9 ≤ D → op ≤ 5 → WkS m u n p op a b c true → p ≤ n → n ≤ 50 → TapW m u → 7 * (n - p) + 6 ≤ f + lv → (∀ v m2, WOut m op a b c (PL (BT m u) n u f lv op p) v m2 → Q (some (.int v)) (H m2 ln N)) → WP xs D (mOf lv) 0 0 [.ref 89] (H m ln N) Q
theorem ev_name {a b c : Int32} {u : Nat} {z : Int} {k : Int32} (h : nameP u z = some k) (s : List Int32) : evS a b c [k] s = some (valK k a b c :: s) := by
  unfold nameP at h
  split at h
  · cases h
    exact evS_1 ev_0
  · split at h
    · cases h
      exact evS_1 ev_1
    · split at h
      · cases h
        exact evS_1 ev_2
      · cases h
theorem ev_num {a b c : Int32} {x : Nat} (h : x < 10000) (s : List Int32) : evS a b c [nI (1000 + x)] s = some (nI x :: s) := by
  have e : nI (1000 + x) - 1000 = nI x := by
    have e2 := pk_sub (a := 1000 + x) (b := 1000) (by omega)
    rw [Nat.add_sub_cancel_left] at e2
    exact e2
  rw [← e]
  refine evS_1 (ev_n ?_ ?_ ?_ ?_)
  · exact nI_ne0 (by omega) (by omega)
  · intro e
    have h2 := (nI_eq (a := 1000 + x) (b := 1) (by omega) (by omega)).mp e
    omega
  · intro e
    have h2 := (nI_eq (a := 1000 + x) (b := 2) (by omega) (by omega)).mp e
    omega
  · rw [nI_toInt (by omega)]
    omega
theorem nam_33 {u : Nat} {z : Int} (h : z = 33 ∨ z = 40) : nameP u z = none := by
  unfold nameP
  have h1 : nam1 u = 99 ∨ nam1 u = 102 := by unfold nam1; split; exact Or.inl rfl; exact Or.inr rfl
  have h2 : nam2 u = 115 ∨ nam2 u = 99 := by unfold nam2; split; exact Or.inl rfl; exact Or.inr rfl
  rw [if_neg (by omega), if_neg (by omega), if_neg (by omega)]
theorem WOut.bin {m m2 m3 : MW} {op lv z : Nat} {a b c v v2 v3 : Int32} {r r2 : PR3} (h : WOut m op a b c r v m2) (ho : r.2.2 = true) (hm : FrW m2 m3) {m4 : MW} (h2 : WOut m3 op a b c r2 v2 m4) (hs : signP lv (z : Int) = true) (hv : binV (nI z) v v2 = v3) : WOut m op a b c (r.1 ++ r2.1 ++ [nI z], r2.2) v3 m4 := by
  subst hv
  refine ⟨(h.1.tr hm).tr h2.1, h2.2.1, h2.2.2.1, h2.2.2.2.1, fun hq s => ?_⟩
  show evS a b c (r.1 ++ r2.1 ++ [nI z]) s = _
  rw [evS_app, evS_app, h.2.2.2.2 ho s]
  show ((evS a b c r2.1 (v :: s)).bind _) = _
  rw [h2.2.2.2.2 hq (v :: s)]
  exact evS_1 (ev_bin (z := (z : Int)) hs)
theorem WkS.mv {m m2 m3 : MW} {u n p op op2 : Nat} {a b c v : Int32} {r : PR3} (hK : WkS m u n p op2 a b c true) (hm : FrW m m3) (h : WOut m3 op a b c r v m2) (ho : r.2.2 = true) : WkS m2 u n r.2.1 op a b c true := by
  have e := hm.tr h.1
  exact ⟨(e 57 7 (by omega)).trans hK.1, h.2.1, (e 57 9 (by omega)).trans hK.2.2.1, h.2.2.1, (e 57 11 (by omega)).trans hK.2.2.2.2.1, (e 57 12 (by omega)).trans hK.2.2.2.2.2.1, (e 57 13 (by omega)).trans hK.2.2.2.2.2.2.1, by have := h.2.2.2.1; rw [ho] at this; exact this⟩
theorem WkS.at {m m2 : MW} {u n p op : Nat} {a b c v : Int32} {r : PR3} (hK : WkS m u n p op a b c true) (h : WOut m op a b c r v m2) (ho : r.2.2 = true) : WkS m2 u n r.2.1 op a b c true := hK.mv FrW.rf h ho
theorem WOut.no {m m2 : MW} {op : Nat} {a b c v : Int32} {r : PR3} (h : WOut m op a b c r v m2) (ho : ¬ r.2.2 = true) : m2 57 14 = 0 := by
  have := h.2.2.2.1
  rw [if_neg ho] at this
  exact this
theorem bv_124 {p q : Int32} : binV (nI 124) p q = (if p.toInt ≠ 0 ∨ q.toInt ≠ 0 then 1 else 0) := rfl
theorem bv_38 {p q : Int32} : binV (nI 38) p q = (if p.toInt ≠ 0 ∧ q.toInt ≠ 0 then 1 else 0) := rfl
theorem bv_60 {p q : Int32} : binV (nI 60) p q = (if p.toInt < q.toInt then 1 else 0) := rfl
theorem bv_61 {p q : Int32} : binV (nI 61) p q = (if p.toInt = q.toInt then 1 else 0) := rfl
theorem bv_62 {p q : Int32} : binV (nI 62) p q = (if q.toInt < p.toInt then 1 else 0) := rfl
theorem bv_43 {p q : Int32} : binV (nI 43) p q = p + q := rfl
theorem bv_45 {p q : Int32} : binV (nI 45) p q = p - q := rfl
theorem bv_42 {p q : Int32} : binV (nI 42) p q = p * q := rfl
theorem bv_47 {p q : Int32} : binV (nI 47) p q = (if q.toInt = 0 then 0 else p / q) := rfl
theorem bv_37 {p q : Int32} : binV (nI 37) p q = (if q.toInt = 0 then 0 else p - p / q * q) := rfl
theorem sgl_0 {b : Int} (h : signP 0 b = true) : b = 124 := of_decide_eq_true h
theorem sgl_1 {b : Int} (h : signP 1 b = true) : b = 38 := of_decide_eq_true h
theorem sgl_2 {b : Int} (h : signP 2 b = true) : b = 60 ∨ b = 61 ∨ b = 62 := of_decide_eq_true h
theorem sgl_3 {b : Int} (h : signP 3 b = true) : b = 43 ∨ b = 45 := of_decide_eq_true h
theorem sgl_4 {b : Int} (h : signP 4 b = true) : b = 42 ∨ b = 47 ∨ b = 37 := of_decide_eq_true h
section
variable {xs : List Int32} {d : Nat} {h : AH} {Q : QT} {m : MW} {ln : Nat → Nat} {N : Nat}
set_option maxRecDepth 20000 in
set_option maxHeartbeats 40000000 in
theorem w_factor {u n f : Nat} {a b c : Int32} (hu : u ≤ 1) (ih5 : Wk xs ln N u n f 5 a b c) (ih0 : Wk xs ln N u n f 0 a b c) : Wk xs ln N u n (f + 1) 5 a b c := by
  intro m Q D op p hD hop hK hp hn hT hf hQ
  obtain ⟨d, rfl⟩ : ∃ d, D = d + 9 := ⟨D - 9, by omega⟩
  rw [PL_q] at hQ
  show WP xs (d + 9) 125 0 0 _ _ _
  refine wp_x mx_125 (L := [some (.ref (89)), none, none]) (Nat.le_of_ble_eq_true rfl) rfl ?_
  refine g_aload_n m125_0 rfl ?_
  refine g_aload_n m125_1 rfl ?_
  refine h_gfI (k := 57) (p := 89) m125_2 rfl (t_57 _ _) rfl (hK.2.1) ?_
  refine h_cv (k := 57) (p := 89) (args := [.int (nI (p))]) (rest := []) m125_5 cn_119 (Nat.le_of_ble_eq_true rfl) rfl rfl rfl (t_57 _ _) (Nat.le_of_ble_eq_true rfl) ?_
  refine c_byteAt hK.1 hK.2.2.1 hu hp hn hT (fun hpn z hz hze => ?_) (fun hpn => ?_)
  · have hbt : bt (BT m u) n p = (z : Int) := btW_y hpn hze hz
    refine gwr ?_
    refine g_istore_n (L2 := [some (.ref (89)), some (.int (nI (z))), none]) m125_8 rfl rfl ?_
    refine g_iload_n m125_9 rfl ?_
    refine g_cs (args := [.int (nI (z))]) (rest := []) 0 (Or.inl rfl) m125_10 (Nat.le_of_ble_eq_true rfl) rfl rfl (Nat.le_of_ble_eq_true rfl) ?_
    refine c_isDigitM (vi := ((z : Nat) : Int)) (nI_toInt (by omega)) (fun a_1 => ?_) (fun a_1 => ?_)
    · skip
      have hdg : isDig (bt (BT m u) n p) = true := by rw [hbt]; exact a_1
      refine gwr ?_
      refine h_if_eqF (xi := 1) (zi := 0) m125_13 rfl rfl (by decide) ?_
      refine g_aload_n m125_16 rfl ?_
      refine h_cv (k := 57) (p := 89) (args := []) (rest := []) m125_17 cn_121 (Nat.le_of_ble_eq_true rfl) rfl rfl rfl (t_57 _ _) (Nat.le_of_ble_eq_true rfl) ?_
      rw [PQ_dig hdg] at hQ
      refine c_number hK hp hn hT hu (fun m2 hF2 hK2 => ?_)
      have h4 := (numP_ok (BT m u) n 4 0 p hp).2.2
      refine gwr ?_
      refine g_iret m125_20 rt_125 ?_
      exact hQ _ _ ⟨hF2, hK2.2.1, hK2.2.2.2.1, hK2.2.2.2.2.2.2.2, fun _ s => ev_num (by omega) s⟩
    · have hdg : ¬ isDig (bt (BT m u) n p) = true := by rw [hbt]; exact a_1
      refine gwr ?_
      refine h_if_eqT (xi := 0) (zi := 0) m125_13 rfl rfl (by decide) ?_
      refine g_iload_n m125_21 rfl ?_
      refine g_bipush m125_22 ?_
      refine h_ic_eq (xi := ((z : Nat) : Int)) (zi := 33) m125_24 (nI_toInt (by omega)) rfl (fun c1 => ?_) (fun c1 => ?_)
      · skip
        refine g_aload_n m125_39 rfl ?_
        refine h_gfI (k := 57) (p := 89) m125_40 rfl (t_57 _ _) rfl (hK.2.2.2.1) ?_
        refine g_iconst m125_43 ?_
        refine h_ic_ne (xi := ((op : Nat) : Int)) (zi := 5) m125_44 (nI_toInt (by omega)) rfl (fun c2 => ?_) (fun c2 => ?_)
        · skip
          refine g_aload_n m125_47 rfl ?_
          refine h_cv (k := 57) (p := 89) (args := []) (rest := []) m125_48 cn_122 (Nat.le_of_ble_eq_true rfl) rfl rfl rfl (t_57 _ _) (Nat.le_of_ble_eq_true rfl) ?_
          rw [PQ_no hdg (nam_33 (by omega)) (by omega) (by omega)] at hQ
          refine c_fails ?_
          refine gwr ?_
          refine g_iret m125_51 rt_125 ?_
          exact hQ _ _ ⟨FrW.rf.up _ (Or.inr (Or.inr rfl)), hK.2.1, hK.2.2.2.1, rfl, fun q => by cases q⟩
        · skip
          refine g_aload_n m125_52 rfl ?_
          refine g_dup m125_53 rfl ?_
          refine h_gfI (k := 57) (p := 89) m125_54 rfl (t_57 _ _) rfl (hK.2.2.2.1) ?_
          refine g_iconst m125_57 ?_
          refine g_iadd (u := nI (op + 1)) m125_58 (nI_add op 1) ?_
          refine h_pfI (k := 57) (p := 89) m125_59 rfl (t_57 _ _) rfl trivial ?_
          refine g_aload_n m125_62 rfl ?_
          refine g_dup m125_63 rfl ?_
          refine h_gfI (k := 57) (p := 89) m125_64 rfl (t_57 _ _) rfl (hK.2.1) ?_
          refine g_iconst m125_67 ?_
          refine g_iadd (u := nI (p + 1)) m125_68 (nI_add p 1) ?_
          refine h_pfI (k := 57) (p := 89) m125_69 rfl (t_57 _ _) rfl trivial ?_
          refine g_iload_n m125_72 rfl ?_
          refine g_bipush m125_73 ?_
          refine h_ic_ne (xi := ((z : Nat) : Int)) (zi := 33) m125_75 (nI_toInt (by omega)) rfl (fun c3 => ?_) (fun c3 => ?_)
          · skip
            refine g_aload_n m125_78 rfl ?_
            refine h_cv (k := 57) (p := 89) (args := []) (rest := []) m125_79 cn_125 (Nat.le_of_ble_eq_true rfl) rfl rfl rfl (t_57 _ _) (Nat.le_of_ble_eq_true rfl) ?_
            have hK1 : WkS (upm (upm m 57 10 (nI (op + 1))) 57 8 (nI (p + 1))) u n (p + 1) (op + 1) a b c true := ⟨hK.1, rfl, hK.2.2.1, rfl, hK.2.2.2.2.1, hK.2.2.2.2.2.1, hK.2.2.2.2.2.2.1, hK.2.2.2.2.2.2.2⟩
            have hF1 : FrW m (upm (upm m 57 10 (nI (op + 1))) 57 8 (nI (p + 1))) := (FrW.rf.up _ (Or.inr (Or.inl rfl))).up _ (Or.inl rfl)
            have ht1 : BT (upm (upm m 57 10 (nI (op + 1))) 57 8 (nI (p + 1))) u = BT m u := hF1.bt u
            have hT1 := hF1.tap hT
            rw [PQ_not hdg (nam_33 (by omega)) ⟨by omega, by omega⟩] at hQ
            refine ih5 _ _ _ (op + 1) (p + 1) (by omega) (by omega) hK1 (by omega) hn hT1 (by omega) (fun v m2 ho2 => ?_)
            rw [ht1] at ho2
            generalize PL (BT m u) n u f 5 (op + 1) (p + 1) = r at *
            refine gwr ?_
            refine g_goto m125_82 ?_
            refine g_istore_n (L2 := [some (.ref (89)), some (.int (nI (z))), some (.int (v))]) m125_89 rfl rfl ?_
            refine g_aload_n m125_90 rfl ?_
            refine g_dup m125_91 rfl ?_
            refine h_gfI (k := 57) (p := 89) m125_92 rfl (t_57 _ _) rfl (ho2.2.2.1) ?_
            refine g_iconst m125_95 ?_
            refine g_isub (u := nI op) m125_96 (nI_pred op) ?_
            refine h_pfI (k := 57) (p := 89) m125_97 rfl (t_57 _ _) rfl trivial ?_
            refine g_iload_n m125_100 rfl ?_
            refine g_bipush m125_101 ?_
            refine h_ic_neT (xi := ((z : Nat) : Int)) (zi := 33) m125_103 (nI_toInt (by omega)) rfl (by omega) ?_
            refine g_iload_n m125_106 rfl ?_
            refine h_if_ne (xi := _) (zi := 0) m125_107 rfl rfl (fun c4 => ?_) (fun c4 => ?_)
            · skip
              refine g_iconst m125_110 ?_
              refine g_goto m125_111 ?_
              refine g_iret m125_115 rt_125 ?_
              refine hQ _ _ ⟨(hF1.tr ho2.1).up _ (Or.inr (Or.inl rfl)), ho2.2.1, rfl, ho2.2.2.2.1, fun q s => ?_⟩
              show evS a b c (r.1 ++ [33]) s = _
              rw [evS_app, ho2.2.2.2.2 q s]
              show evS a b c [33] (v :: s) = _
              rw [evS_1 ev_33, if_pos (by omega)]
            · skip
              refine g_iconst m125_114 ?_
              refine g_iret m125_115 rt_125 ?_
              refine hQ _ _ ⟨(hF1.tr ho2.1).up _ (Or.inr (Or.inl rfl)), ho2.2.1, rfl, ho2.2.2.2.1, fun q s => ?_⟩
              show evS a b c (r.1 ++ [33]) s = _
              rw [evS_app, ho2.2.2.2.2 q s]
              show evS a b c [33] (v :: s) = _
              rw [evS_1 ev_33, if_neg (by omega)]
          · skip
            refine g_aload_n m125_85 rfl ?_
            refine h_cv (k := 57) (p := 89) (args := []) (rest := []) m125_86 cn_128 (Nat.le_of_ble_eq_true rfl) rfl rfl rfl (t_57 _ _) (Nat.le_of_ble_eq_true rfl) ?_
            have hK1 : WkS (upm (upm m 57 10 (nI (op + 1))) 57 8 (nI (p + 1))) u n (p + 1) (op + 1) a b c true := ⟨hK.1, rfl, hK.2.2.1, rfl, hK.2.2.2.2.1, hK.2.2.2.2.2.1, hK.2.2.2.2.2.2.1, hK.2.2.2.2.2.2.2⟩
            have hF1 : FrW m (upm (upm m 57 10 (nI (op + 1))) 57 8 (nI (p + 1))) := (FrW.rf.up _ (Or.inr (Or.inl rfl))).up _ (Or.inl rfl)
            have ht1 : BT (upm (upm m 57 10 (nI (op + 1))) 57 8 (nI (p + 1))) u = BT m u := hF1.bt u
            have hT1 := hF1.tap hT
            rw [PQ_par hdg (nam_33 (by omega)) ⟨by omega, by omega⟩] at hQ
            refine ih0 _ _ _ (op + 1) (p + 1) (by omega) (by omega) hK1 (by omega) hn hT1 (by omega) (fun v m2 ho2 => ?_)
            rw [ht1] at ho2
            have hg := PL_ok (BT m u) n u f 0 (op + 1) (p + 1) (by omega)
            generalize PL (BT m u) n u f 0 (op + 1) (p + 1) = r at *
            obtain ⟨g1, g2, g3⟩ := hg
            have hFa : FrW m (upm m2 57 10 (nI op)) := (hF1.tr ho2.1).up _ (Or.inr (Or.inl rfl))
            by_cases hrk : r.2.2 = true
            · skip
              have hKa : WkS (upm m2 57 10 (nI op)) u n r.2.1 op a b c true := by
                have hK2 := WkS.mv hK1 FrW.rf ho2 hrk
                exact ⟨hK2.1, hK2.2.1, hK2.2.2.1, rfl, hK2.2.2.2.2.1, hK2.2.2.2.2.2.1, hK2.2.2.2.2.2.2.1, hK2.2.2.2.2.2.2.2⟩
              have hTa := hFa.tap hT
              refine gwr ?_
              refine g_istore_n (L2 := [some (.ref (89)), some (.int (nI (z))), some (.int (v))]) m125_89 rfl rfl ?_
              refine g_aload_n m125_90 rfl ?_
              refine g_dup m125_91 rfl ?_
              refine h_gfI (k := 57) (p := 89) m125_92 rfl (t_57 _ _) rfl (ho2.2.2.1) ?_
              refine g_iconst m125_95 ?_
              refine g_isub (u := nI op) m125_96 (nI_pred op) ?_
              refine h_pfI (k := 57) (p := 89) m125_97 rfl (t_57 _ _) rfl trivial ?_
              refine g_iload_n m125_100 rfl ?_
              refine g_bipush m125_101 ?_
              refine h_ic_neF (xi := ((z : Nat) : Int)) (zi := 33) m125_103 (nI_toInt (by omega)) rfl (by omega) ?_
              refine g_aload_n m125_116 rfl ?_
              refine h_gfI (k := 57) (p := 89) m125_117 rfl (t_57 _ _) rfl (hKa.2.2.2.2.2.2.2) ?_
              refine h_if_eqF (xi := 1) (zi := 0) m125_120 rfl rfl (by decide) ?_
              refine g_aload_n m125_123 rfl ?_
              refine g_aload_n m125_124 rfl ?_
              refine h_gfI (k := 57) (p := 89) m125_125 rfl (t_57 _ _) rfl (hKa.2.1) ?_
              refine h_cv (k := 57) (p := 89) (args := [.int (nI (r.2.1))]) (rest := []) m125_128 cn_119 (Nat.le_of_ble_eq_true rfl) rfl rfl rfl (t_57 _ _) (Nat.le_of_ble_eq_true rfl) ?_
              refine c_byteAt hKa.1 hKa.2.2.1 hu g2 hn hTa (fun hpn3 z3 hz3 hze3 => ?_) (fun hpn3 => ?_)
              · have hbt3 : bt (BT m u) n r.2.1 = (z3 : Int) := btW_y hpn3 (by rw [← hFa.bt u]; exact hze3) hz3
                refine gwr ?_
                refine g_bipush m125_131 ?_
                refine h_ic_ne (xi := ((z3 : Nat) : Int)) (zi := 41) m125_133 (nI_toInt (by omega)) rfl (fun c5 => ?_) (fun c5 => ?_)
                · skip
                  refine g_aload_n m125_136 rfl ?_
                  refine g_dup m125_137 rfl ?_
                  refine h_gfI (k := 57) (p := 89) m125_138 rfl (t_57 _ _) rfl (hKa.2.1) ?_
                  refine g_iconst m125_141 ?_
                  refine g_iadd (u := nI ((r.2.1) + 1)) m125_142 (nI_add (r.2.1) 1) ?_
                  refine h_pfI (k := 57) (p := 89) m125_143 rfl (t_57 _ _) rfl trivial ?_
                  refine g_iload_n m125_146 rfl ?_
                  refine g_iret m125_147 rt_125 ?_
                  rw [if_pos ⟨hrk, by omega⟩] at hQ
                  exact hQ _ _ ⟨hFa.up _ (Or.inl rfl), rfl, hKa.2.2.2.1, hKa.2.2.2.2.2.2.2, fun _ s => ho2.2.2.2.2 hrk s⟩
                · skip
                  refine g_aload_n m125_148 rfl ?_
                  refine h_cv (k := 57) (p := 89) (args := []) (rest := []) m125_149 cn_122 (Nat.le_of_ble_eq_true rfl) rfl rfl rfl (t_57 _ _) (Nat.le_of_ble_eq_true rfl) ?_
                  rw [if_neg (by intro q; have := q.2; omega)] at hQ
                  refine c_fails ?_
                  refine gwr ?_
                  refine g_iret m125_152 rt_125 ?_
                  exact hQ _ _ ⟨hFa.up _ (Or.inr (Or.inr rfl)), ho2.2.1, rfl, rfl, fun q => by cases q⟩
              · have hbt3 : bt (BT m u) n r.2.1 = -1 := bt_n hpn3
                refine gwr ?_
                refine g_bipush m125_131 ?_
                refine h_ic_neF (xi := (-1)) (zi := 41) m125_133 rfl rfl (by decide) ?_
                refine g_aload_n m125_148 rfl ?_
                refine h_cv (k := 57) (p := 89) (args := []) (rest := []) m125_149 cn_122 (Nat.le_of_ble_eq_true rfl) rfl rfl rfl (t_57 _ _) (Nat.le_of_ble_eq_true rfl) ?_
                rw [if_neg (by intro q; have := q.2; omega)] at hQ
                refine c_fails ?_
                refine gwr ?_
                refine g_iret m125_152 rt_125 ?_
                exact hQ _ _ ⟨hFa.up _ (Or.inr (Or.inr rfl)), ho2.2.1, rfl, rfl, fun q => by cases q⟩
            · skip
              have h14 : (upm m2 57 10 (nI op)) 57 14 = 0 := ho2.no hrk
              refine gwr ?_
              refine g_istore_n (L2 := [some (.ref (89)), some (.int (nI (z))), some (.int (v))]) m125_89 rfl rfl ?_
              refine g_aload_n m125_90 rfl ?_
              refine g_dup m125_91 rfl ?_
              refine h_gfI (k := 57) (p := 89) m125_92 rfl (t_57 _ _) rfl (ho2.2.2.1) ?_
              refine g_iconst m125_95 ?_
              refine g_isub (u := nI op) m125_96 (nI_pred op) ?_
              refine h_pfI (k := 57) (p := 89) m125_97 rfl (t_57 _ _) rfl trivial ?_
              refine g_iload_n m125_100 rfl ?_
              refine g_bipush m125_101 ?_
              refine h_ic_neF (xi := ((z : Nat) : Int)) (zi := 33) m125_103 (nI_toInt (by omega)) rfl (by omega) ?_
              refine g_aload_n m125_116 rfl ?_
              refine h_gfI (k := 57) (p := 89) m125_117 rfl (t_57 _ _) rfl (h14) ?_
              refine h_if_eqT (xi := 0) (zi := 0) m125_120 rfl rfl (by decide) ?_
              refine g_aload_n m125_148 rfl ?_
              refine h_cv (k := 57) (p := 89) (args := []) (rest := []) m125_149 cn_122 (Nat.le_of_ble_eq_true rfl) rfl rfl rfl (t_57 _ _) (Nat.le_of_ble_eq_true rfl) ?_
              rw [if_neg (by intro q; exact hrk q.1)] at hQ
              refine c_fails ?_
              refine gwr ?_
              refine g_iret m125_152 rt_125 ?_
              exact hQ _ _ ⟨hFa.up _ (Or.inr (Or.inr rfl)), ho2.2.1, rfl, rfl, fun q => by cases q⟩
      · skip
        refine g_iload_n m125_27 rfl ?_
        refine g_bipush m125_28 ?_
        refine h_ic_eq (xi := ((z : Nat) : Int)) (zi := 40) m125_30 (nI_toInt (by omega)) rfl (fun c6 => ?_) (fun c6 => ?_)
        · skip
          refine g_aload_n m125_39 rfl ?_
          refine h_gfI (k := 57) (p := 89) m125_40 rfl (t_57 _ _) rfl (hK.2.2.2.1) ?_
          refine g_iconst m125_43 ?_
          refine h_ic_ne (xi := ((op : Nat) : Int)) (zi := 5) m125_44 (nI_toInt (by omega)) rfl (fun c7 => ?_) (fun c7 => ?_)
          · skip
            refine g_aload_n m125_47 rfl ?_
            refine h_cv (k := 57) (p := 89) (args := []) (rest := []) m125_48 cn_122 (Nat.le_of_ble_eq_true rfl) rfl rfl rfl (t_57 _ _) (Nat.le_of_ble_eq_true rfl) ?_
            rw [PQ_no hdg (nam_33 (by omega)) (by omega) (by omega)] at hQ
            refine c_fails ?_
            refine gwr ?_
            refine g_iret m125_51 rt_125 ?_
            exact hQ _ _ ⟨FrW.rf.up _ (Or.inr (Or.inr rfl)), hK.2.1, hK.2.2.2.1, rfl, fun q => by cases q⟩
          · skip
            refine g_aload_n m125_52 rfl ?_
            refine g_dup m125_53 rfl ?_
            refine h_gfI (k := 57) (p := 89) m125_54 rfl (t_57 _ _) rfl (hK.2.2.2.1) ?_
            refine g_iconst m125_57 ?_
            refine g_iadd (u := nI (op + 1)) m125_58 (nI_add op 1) ?_
            refine h_pfI (k := 57) (p := 89) m125_59 rfl (t_57 _ _) rfl trivial ?_
            refine g_aload_n m125_62 rfl ?_
            refine g_dup m125_63 rfl ?_
            refine h_gfI (k := 57) (p := 89) m125_64 rfl (t_57 _ _) rfl (hK.2.1) ?_
            refine g_iconst m125_67 ?_
            refine g_iadd (u := nI (p + 1)) m125_68 (nI_add p 1) ?_
            refine h_pfI (k := 57) (p := 89) m125_69 rfl (t_57 _ _) rfl trivial ?_
            refine g_iload_n m125_72 rfl ?_
            refine g_bipush m125_73 ?_
            refine h_ic_ne (xi := ((z : Nat) : Int)) (zi := 33) m125_75 (nI_toInt (by omega)) rfl (fun c8 => ?_) (fun c8 => ?_)
            · skip
              refine g_aload_n m125_78 rfl ?_
              refine h_cv (k := 57) (p := 89) (args := []) (rest := []) m125_79 cn_125 (Nat.le_of_ble_eq_true rfl) rfl rfl rfl (t_57 _ _) (Nat.le_of_ble_eq_true rfl) ?_
              have hK1 : WkS (upm (upm m 57 10 (nI (op + 1))) 57 8 (nI (p + 1))) u n (p + 1) (op + 1) a b c true := ⟨hK.1, rfl, hK.2.2.1, rfl, hK.2.2.2.2.1, hK.2.2.2.2.2.1, hK.2.2.2.2.2.2.1, hK.2.2.2.2.2.2.2⟩
              have hF1 : FrW m (upm (upm m 57 10 (nI (op + 1))) 57 8 (nI (p + 1))) := (FrW.rf.up _ (Or.inr (Or.inl rfl))).up _ (Or.inl rfl)
              have ht1 : BT (upm (upm m 57 10 (nI (op + 1))) 57 8 (nI (p + 1))) u = BT m u := hF1.bt u
              have hT1 := hF1.tap hT
              rw [PQ_not hdg (nam_33 (by omega)) ⟨by omega, by omega⟩] at hQ
              refine ih5 _ _ _ (op + 1) (p + 1) (by omega) (by omega) hK1 (by omega) hn hT1 (by omega) (fun v m2 ho2 => ?_)
              rw [ht1] at ho2
              generalize PL (BT m u) n u f 5 (op + 1) (p + 1) = r at *
              refine gwr ?_
              refine g_goto m125_82 ?_
              refine g_istore_n (L2 := [some (.ref (89)), some (.int (nI (z))), some (.int (v))]) m125_89 rfl rfl ?_
              refine g_aload_n m125_90 rfl ?_
              refine g_dup m125_91 rfl ?_
              refine h_gfI (k := 57) (p := 89) m125_92 rfl (t_57 _ _) rfl (ho2.2.2.1) ?_
              refine g_iconst m125_95 ?_
              refine g_isub (u := nI op) m125_96 (nI_pred op) ?_
              refine h_pfI (k := 57) (p := 89) m125_97 rfl (t_57 _ _) rfl trivial ?_
              refine g_iload_n m125_100 rfl ?_
              refine g_bipush m125_101 ?_
              refine h_ic_neT (xi := ((z : Nat) : Int)) (zi := 33) m125_103 (nI_toInt (by omega)) rfl (by omega) ?_
              refine g_iload_n m125_106 rfl ?_
              refine h_if_ne (xi := _) (zi := 0) m125_107 rfl rfl (fun c9 => ?_) (fun c9 => ?_)
              · skip
                refine g_iconst m125_110 ?_
                refine g_goto m125_111 ?_
                refine g_iret m125_115 rt_125 ?_
                refine hQ _ _ ⟨(hF1.tr ho2.1).up _ (Or.inr (Or.inl rfl)), ho2.2.1, rfl, ho2.2.2.2.1, fun q s => ?_⟩
                show evS a b c (r.1 ++ [33]) s = _
                rw [evS_app, ho2.2.2.2.2 q s]
                show evS a b c [33] (v :: s) = _
                rw [evS_1 ev_33, if_pos (by omega)]
              · skip
                refine g_iconst m125_114 ?_
                refine g_iret m125_115 rt_125 ?_
                refine hQ _ _ ⟨(hF1.tr ho2.1).up _ (Or.inr (Or.inl rfl)), ho2.2.1, rfl, ho2.2.2.2.1, fun q s => ?_⟩
                show evS a b c (r.1 ++ [33]) s = _
                rw [evS_app, ho2.2.2.2.2 q s]
                show evS a b c [33] (v :: s) = _
                rw [evS_1 ev_33, if_neg (by omega)]
            · skip
              refine g_aload_n m125_85 rfl ?_
              refine h_cv (k := 57) (p := 89) (args := []) (rest := []) m125_86 cn_128 (Nat.le_of_ble_eq_true rfl) rfl rfl rfl (t_57 _ _) (Nat.le_of_ble_eq_true rfl) ?_
              have hK1 : WkS (upm (upm m 57 10 (nI (op + 1))) 57 8 (nI (p + 1))) u n (p + 1) (op + 1) a b c true := ⟨hK.1, rfl, hK.2.2.1, rfl, hK.2.2.2.2.1, hK.2.2.2.2.2.1, hK.2.2.2.2.2.2.1, hK.2.2.2.2.2.2.2⟩
              have hF1 : FrW m (upm (upm m 57 10 (nI (op + 1))) 57 8 (nI (p + 1))) := (FrW.rf.up _ (Or.inr (Or.inl rfl))).up _ (Or.inl rfl)
              have ht1 : BT (upm (upm m 57 10 (nI (op + 1))) 57 8 (nI (p + 1))) u = BT m u := hF1.bt u
              have hT1 := hF1.tap hT
              rw [PQ_par hdg (nam_33 (by omega)) ⟨by omega, by omega⟩] at hQ
              refine ih0 _ _ _ (op + 1) (p + 1) (by omega) (by omega) hK1 (by omega) hn hT1 (by omega) (fun v m2 ho2 => ?_)
              rw [ht1] at ho2
              have hg := PL_ok (BT m u) n u f 0 (op + 1) (p + 1) (by omega)
              generalize PL (BT m u) n u f 0 (op + 1) (p + 1) = r at *
              obtain ⟨g1, g2, g3⟩ := hg
              have hFa : FrW m (upm m2 57 10 (nI op)) := (hF1.tr ho2.1).up _ (Or.inr (Or.inl rfl))
              by_cases hrk : r.2.2 = true
              · skip
                have hKa : WkS (upm m2 57 10 (nI op)) u n r.2.1 op a b c true := by
                  have hK2 := WkS.mv hK1 FrW.rf ho2 hrk
                  exact ⟨hK2.1, hK2.2.1, hK2.2.2.1, rfl, hK2.2.2.2.2.1, hK2.2.2.2.2.2.1, hK2.2.2.2.2.2.2.1, hK2.2.2.2.2.2.2.2⟩
                have hTa := hFa.tap hT
                refine gwr ?_
                refine g_istore_n (L2 := [some (.ref (89)), some (.int (nI (z))), some (.int (v))]) m125_89 rfl rfl ?_
                refine g_aload_n m125_90 rfl ?_
                refine g_dup m125_91 rfl ?_
                refine h_gfI (k := 57) (p := 89) m125_92 rfl (t_57 _ _) rfl (ho2.2.2.1) ?_
                refine g_iconst m125_95 ?_
                refine g_isub (u := nI op) m125_96 (nI_pred op) ?_
                refine h_pfI (k := 57) (p := 89) m125_97 rfl (t_57 _ _) rfl trivial ?_
                refine g_iload_n m125_100 rfl ?_
                refine g_bipush m125_101 ?_
                refine h_ic_neF (xi := ((z : Nat) : Int)) (zi := 33) m125_103 (nI_toInt (by omega)) rfl (by omega) ?_
                refine g_aload_n m125_116 rfl ?_
                refine h_gfI (k := 57) (p := 89) m125_117 rfl (t_57 _ _) rfl (hKa.2.2.2.2.2.2.2) ?_
                refine h_if_eqF (xi := 1) (zi := 0) m125_120 rfl rfl (by decide) ?_
                refine g_aload_n m125_123 rfl ?_
                refine g_aload_n m125_124 rfl ?_
                refine h_gfI (k := 57) (p := 89) m125_125 rfl (t_57 _ _) rfl (hKa.2.1) ?_
                refine h_cv (k := 57) (p := 89) (args := [.int (nI (r.2.1))]) (rest := []) m125_128 cn_119 (Nat.le_of_ble_eq_true rfl) rfl rfl rfl (t_57 _ _) (Nat.le_of_ble_eq_true rfl) ?_
                refine c_byteAt hKa.1 hKa.2.2.1 hu g2 hn hTa (fun hpn3 z3 hz3 hze3 => ?_) (fun hpn3 => ?_)
                · have hbt3 : bt (BT m u) n r.2.1 = (z3 : Int) := btW_y hpn3 (by rw [← hFa.bt u]; exact hze3) hz3
                  refine gwr ?_
                  refine g_bipush m125_131 ?_
                  refine h_ic_ne (xi := ((z3 : Nat) : Int)) (zi := 41) m125_133 (nI_toInt (by omega)) rfl (fun c10 => ?_) (fun c10 => ?_)
                  · skip
                    refine g_aload_n m125_136 rfl ?_
                    refine g_dup m125_137 rfl ?_
                    refine h_gfI (k := 57) (p := 89) m125_138 rfl (t_57 _ _) rfl (hKa.2.1) ?_
                    refine g_iconst m125_141 ?_
                    refine g_iadd (u := nI ((r.2.1) + 1)) m125_142 (nI_add (r.2.1) 1) ?_
                    refine h_pfI (k := 57) (p := 89) m125_143 rfl (t_57 _ _) rfl trivial ?_
                    refine g_iload_n m125_146 rfl ?_
                    refine g_iret m125_147 rt_125 ?_
                    rw [if_pos ⟨hrk, by omega⟩] at hQ
                    exact hQ _ _ ⟨hFa.up _ (Or.inl rfl), rfl, hKa.2.2.2.1, hKa.2.2.2.2.2.2.2, fun _ s => ho2.2.2.2.2 hrk s⟩
                  · skip
                    refine g_aload_n m125_148 rfl ?_
                    refine h_cv (k := 57) (p := 89) (args := []) (rest := []) m125_149 cn_122 (Nat.le_of_ble_eq_true rfl) rfl rfl rfl (t_57 _ _) (Nat.le_of_ble_eq_true rfl) ?_
                    rw [if_neg (by intro q; have := q.2; omega)] at hQ
                    refine c_fails ?_
                    refine gwr ?_
                    refine g_iret m125_152 rt_125 ?_
                    exact hQ _ _ ⟨hFa.up _ (Or.inr (Or.inr rfl)), ho2.2.1, rfl, rfl, fun q => by cases q⟩
                · have hbt3 : bt (BT m u) n r.2.1 = -1 := bt_n hpn3
                  refine gwr ?_
                  refine g_bipush m125_131 ?_
                  refine h_ic_neF (xi := (-1)) (zi := 41) m125_133 rfl rfl (by decide) ?_
                  refine g_aload_n m125_148 rfl ?_
                  refine h_cv (k := 57) (p := 89) (args := []) (rest := []) m125_149 cn_122 (Nat.le_of_ble_eq_true rfl) rfl rfl rfl (t_57 _ _) (Nat.le_of_ble_eq_true rfl) ?_
                  rw [if_neg (by intro q; have := q.2; omega)] at hQ
                  refine c_fails ?_
                  refine gwr ?_
                  refine g_iret m125_152 rt_125 ?_
                  exact hQ _ _ ⟨hFa.up _ (Or.inr (Or.inr rfl)), ho2.2.1, rfl, rfl, fun q => by cases q⟩
              · skip
                have h14 : (upm m2 57 10 (nI op)) 57 14 = 0 := ho2.no hrk
                refine gwr ?_
                refine g_istore_n (L2 := [some (.ref (89)), some (.int (nI (z))), some (.int (v))]) m125_89 rfl rfl ?_
                refine g_aload_n m125_90 rfl ?_
                refine g_dup m125_91 rfl ?_
                refine h_gfI (k := 57) (p := 89) m125_92 rfl (t_57 _ _) rfl (ho2.2.2.1) ?_
                refine g_iconst m125_95 ?_
                refine g_isub (u := nI op) m125_96 (nI_pred op) ?_
                refine h_pfI (k := 57) (p := 89) m125_97 rfl (t_57 _ _) rfl trivial ?_
                refine g_iload_n m125_100 rfl ?_
                refine g_bipush m125_101 ?_
                refine h_ic_neF (xi := ((z : Nat) : Int)) (zi := 33) m125_103 (nI_toInt (by omega)) rfl (by omega) ?_
                refine g_aload_n m125_116 rfl ?_
                refine h_gfI (k := 57) (p := 89) m125_117 rfl (t_57 _ _) rfl (h14) ?_
                refine h_if_eqT (xi := 0) (zi := 0) m125_120 rfl rfl (by decide) ?_
                refine g_aload_n m125_148 rfl ?_
                refine h_cv (k := 57) (p := 89) (args := []) (rest := []) m125_149 cn_122 (Nat.le_of_ble_eq_true rfl) rfl rfl rfl (t_57 _ _) (Nat.le_of_ble_eq_true rfl) ?_
                rw [if_neg (by intro q; exact hrk q.1)] at hQ
                refine c_fails ?_
                refine gwr ?_
                refine g_iret m125_152 rt_125 ?_
                exact hQ _ _ ⟨hFa.up _ (Or.inr (Or.inr rfl)), ho2.2.1, rfl, rfl, fun q => by cases q⟩
        · skip
          refine g_aload_n m125_33 rfl ?_
          refine g_iload_n m125_34 rfl ?_
          refine h_cv (k := 57) (p := 89) (args := [.int (nI (z))]) (rest := []) m125_35 cn_123 (Nat.le_of_ble_eq_true rfl) rfl rfl rfl (t_57 _ _) (Nat.le_of_ble_eq_true rfl) ?_
          refine c_named (vi := ((z : Nat) : Int)) (nI_toInt (by omega)) hK hp hn hu (fun k hk => ?_) (fun hnn => ?_)
          · rw [PQ_nam hdg (by rw [hbt]; exact hk)] at hQ
            refine gwr ?_
            refine g_iret m125_38 rt_125 ?_
            exact hQ _ _ ⟨FrW.rf.up _ (Or.inl rfl), rfl, hK.2.2.2.1, hK.2.2.2.2.2.2.2, fun _ s => ev_name hk s⟩
          · rw [PQ_no hdg (by rw [hbt]; exact hnn) (by omega) (by omega)] at hQ
            refine gwr ?_
            refine g_iret m125_38 rt_125 ?_
            exact hQ _ _ ⟨FrW.rf.up _ (Or.inr (Or.inr rfl)), hK.2.1, hK.2.2.2.1, rfl, fun q => by cases q⟩
  · have hbt : bt (BT m u) n p = -1 := bt_n hpn
    refine gwr ?_
    refine g_istore_n (L2 := [some (.ref (89)), some (.int (-1)), none]) m125_8 rfl rfl ?_
    refine g_iload_n m125_9 rfl ?_
    refine g_cs (args := [.int (-1)]) (rest := []) 0 (Or.inl rfl) m125_10 (Nat.le_of_ble_eq_true rfl) rfl rfl (Nat.le_of_ble_eq_true rfl) ?_
    refine c_isDigitM (vi := (-1)) rfl (fun a_2 => ?_) (fun a_2 => ?_)
    · skip
      exact absurd a_2 (by decide)
    · have hdg : ¬ isDig (bt (BT m u) n p) = true := by rw [hbt]; exact a_2
      refine gwr ?_
      refine h_if_eqT (xi := 0) (zi := 0) m125_13 rfl rfl (by decide) ?_
      refine g_iload_n m125_21 rfl ?_
      refine g_bipush m125_22 ?_
      refine h_ic_eqF (xi := (-1)) (zi := 33) m125_24 rfl rfl (by decide) ?_
      refine g_iload_n m125_27 rfl ?_
      refine g_bipush m125_28 ?_
      refine h_ic_eqF (xi := (-1)) (zi := 40) m125_30 rfl rfl (by decide) ?_
      refine g_aload_n m125_33 rfl ?_
      refine g_iload_n m125_34 rfl ?_
      refine h_cv (k := 57) (p := 89) (args := [.int (-1)]) (rest := []) m125_35 cn_123 (Nat.le_of_ble_eq_true rfl) rfl rfl rfl (t_57 _ _) (Nat.le_of_ble_eq_true rfl) ?_
      refine c_named (vi := (-1)) rfl hK hp hn hu (fun k hk => ?_) (fun hnn => ?_)
      · rw [PQ_nam hdg (by rw [hbt]; exact hk)] at hQ
        refine gwr ?_
        refine g_iret m125_38 rt_125 ?_
        exact hQ _ _ ⟨FrW.rf.up _ (Or.inl rfl), rfl, hK.2.2.2.1, hK.2.2.2.2.2.2.2, fun _ s => ev_name hk s⟩
      · rw [PQ_no hdg (by rw [hbt]; exact hnn) (by omega) (by omega)] at hQ
        refine gwr ?_
        refine g_iret m125_38 rt_125 ?_
        exact hQ _ _ ⟨FrW.rf.up _ (Or.inr (Or.inr rfl)), hK.2.1, hK.2.2.2.1, rfl, fun q => by cases q⟩
set_option maxRecDepth 20000 in
set_option maxHeartbeats 40000000 in
theorem w_126 {u n f : Nat} {a b c : Int32} (hu : u ≤ 1) (ih : Wk xs ln N u n f 5 a b c) : Wk xs ln N u n (f + 1) 4 a b c := by
  intro m Q D op p hD hop hK hp hn hT hf hQ
  obtain ⟨d, rfl⟩ : ∃ d, D = d + 9 := ⟨D - 9, by omega⟩
  rw [PL_l _ _ _ _ _ _ (show 4 < 5 by decide)] at hQ
  show WP xs (d + 9) 126 0 0 _ _ _
  refine wp_x mx_126 (L := [some (.ref (89)), none, none, none]) (Nat.le_of_ble_eq_true rfl) rfl ?_
  refine g_aload_n m126_0 rfl ?_
  refine h_cv (k := 57) (p := 89) (args := []) (rest := []) m126_1 cn_125 (Nat.le_of_ble_eq_true rfl) rfl rfl rfl (t_57 _ _) (Nat.le_of_ble_eq_true rfl) ?_
  refine ih _ _ _ op p (by omega) hop hK hp hn hT (by omega) (fun v1 m1 ho1 => ?_)
  have hg1 := PL_ok (BT m u) n u f 5 op p hp
  refine gwr ?_
  refine g_istore_n (L2 := [some (.ref (89)), some (.int (v1)), none, none]) m126_4 rfl rfl ?_
  rw [if_neg (by decide)] at hQ
  have key : ∀ (k i : Nat) (o2 o3 : Option Value) (r : PR3) (v : Int32) (m2 : MW), i + k = 50 → WOut m op a b c r v m2 → GoodR n p r → (r.2.2 = true → p + 2 * i + 1 ≤ r.2.1) → PLoop (PL (BT m u) n u f 5 op) (BT m u) n 4 k r = PLoop (PL (BT m u) n u f 5 op) (BT m u) n 4 50 (PL (BT m u) n u f 5 op p) → gw xs (WP xs (d + 8)) 126 Q 5 [some (.ref (89)), some (.int (v)), o2, o3] [] (H m2 ln N) 0 0 := by
    intro k
    induction k with
    | zero =>
      intro i o2 o3 r v m2 hi ho hg hpl hfin
      have hfin2 : r = _ := hfin
      obtain ⟨g1, g2, g3⟩ := hg
      by_cases hrk : r.2.2 = true
      · have := hpl hrk
        omega
      · have h14 := ho.no hrk
        refine g_aload_n m126_5 rfl ?_
        refine h_gfI (k := 57) (p := 89) m126_6 rfl (t_57 _ _) rfl (h14) ?_
        refine h_if_eqT (xi := 0) (zi := 0) m126_9 rfl rfl (by decide) ?_
        refine g_iload_n m126_114 rfl ?_
        refine g_iret m126_115 rt_126 ?_
        exact hQ _ _ (by rw [← hfin2]; exact ho)
    | succ k ihk =>
      intro i o2 o3 r v m2 hi ho hg hpl hfin
      obtain ⟨g1, g2, g3⟩ := hg
      by_cases hrk : r.2.2 = true
      · have hK2 := hK.at ho hrk
        have hF2 := ho.1
        have hT2 := hF2.tap hT
        have hpl1 := hpl hrk
        obtain ⟨g4, g5, g6⟩ := g3 hrk
        refine g_aload_n m126_5 rfl ?_
        refine h_gfI (k := 57) (p := 89) m126_6 rfl (t_57 _ _) rfl (hK2.2.2.2.2.2.2.2) ?_
        refine h_if_eqF (xi := 1) (zi := 0) m126_9 rfl rfl (by decide) ?_
        refine g_aload_n m126_12 rfl ?_
        refine g_aload_n m126_13 rfl ?_
        refine h_gfI (k := 57) (p := 89) m126_14 rfl (t_57 _ _) rfl (hK2.2.1) ?_
        refine h_cv (k := 57) (p := 89) (args := [.int (nI (r.2.1))]) (rest := []) m126_17 cn_119 (Nat.le_of_ble_eq_true rfl) rfl rfl rfl (t_57 _ _) (Nat.le_of_ble_eq_true rfl) ?_
        refine c_byteAt hK2.1 hK2.2.2.1 hu g2 hn hT2 (fun hpn z hz hze => ?_) (fun hpn => ?_)
        · have hbt : bt (BT m u) n r.2.1 = (z : Int) := btW_y hpn (by rw [← hF2.bt u]; exact hze) hz
          refine gwr ?_
          refine g_bipush m126_20 ?_
          refine h_ic_eq (xi := ((z : Nat) : Int)) (zi := 42) m126_22 (nI_toInt (by omega)) rfl (fun c1 => ?_) (fun c1 => ?_)
          · skip
            obtain rfl : z = 42 := by omega
            rw [PLoop_y (k := k) ⟨hrk, by rw [hbt]; rfl⟩, hbt, ofInt_n] at hfin
            refine g_aload_n m126_51 rfl ?_
            refine g_aload_n m126_52 rfl ?_
            refine h_gfI (k := 57) (p := 89) m126_53 rfl (t_57 _ _) rfl (hK2.2.1) ?_
            refine h_cv (k := 57) (p := 89) (args := [.int (nI (r.2.1))]) (rest := []) m126_56 cn_119 (Nat.le_of_ble_eq_true rfl) rfl rfl rfl (t_57 _ _) (Nat.le_of_ble_eq_true rfl) ?_
            refine c_byteAt hK2.1 hK2.2.2.1 hu g2 hn hT2 (fun hpn2 z2 hz2 hze2 => ?_) (fun hpn2 => absurd hpn2 (by omega))
            rw [show nI z2 = nI 42 from hze2.symm.trans hze]
            refine gwr ?_
            refine g_istore_n (L2 := [some (.ref (89)), some (.int (v)), some (.int (42)), o3]) m126_59 rfl rfl ?_
            refine g_aload_n m126_60 rfl ?_
            refine g_dup m126_61 rfl ?_
            refine h_gfI (k := 57) (p := 89) m126_62 rfl (t_57 _ _) rfl (hK2.2.1) ?_
            refine g_iconst m126_65 ?_
            refine g_iadd (u := nI ((r.2.1) + 1)) m126_66 (nI_add (r.2.1) 1) ?_
            refine h_pfI (k := 57) (p := 89) m126_67 rfl (t_57 _ _) rfl trivial ?_
            refine g_aload_n m126_70 rfl ?_
            refine h_cv (k := 57) (p := 89) (args := []) (rest := []) m126_71 cn_125 (Nat.le_of_ble_eq_true rfl) rfl rfl rfl (t_57 _ _) (Nat.le_of_ble_eq_true rfl) ?_
            have hK3 : WkS (upm m2 57 8 (nI (r.2.1 + 1))) u n (r.2.1 + 1) op a b c true := ⟨hK2.1, rfl, hK2.2.2.1, hK2.2.2.2.1, hK2.2.2.2.2.1, hK2.2.2.2.2.2.1, hK2.2.2.2.2.2.2.1, hK2.2.2.2.2.2.2.2⟩
            have hF3 : FrW m2 (upm m2 57 8 (nI (r.2.1 + 1))) := FrW.rf.up _ (Or.inl rfl)
            have ht3 : BT (upm m2 57 8 (nI (r.2.1 + 1))) u = BT m u := (hF2.tr hF3).bt u
            refine ih _ _ _ op (r.2.1 + 1) (by omega) hop hK3 (by omega) hn (hF3.tap hT2) (by omega) (fun v2 m4 ho4 => ?_)
            rw [ht3] at ho4
            have hg4 := PL_ok (BT m u) n u f 5 op (r.2.1 + 1) hpn
            refine gwr ?_
            refine g_istore_n (L2 := [some (.ref (89)), some (.int (v)), some (.int (42)), some (.int (v2))]) m126_74 rfl rfl ?_
            refine g_iload_n m126_75 rfl ?_
            refine g_bipush m126_76 ?_
            refine h_ic_neT (xi := 42) (zi := 42) m126_78 rfl rfl (by decide) ?_
            refine g_iload_n m126_81 rfl ?_
            refine g_iload_n m126_82 rfl ?_
            refine g_imul m126_83 rfl ?_
            refine g_goto m126_84 ?_
            refine g_istore_n (L2 := [some (.ref (89)), some (.int ((v * v2))), some (.int (42)), some (.int (v2))]) m126_110 rfl rfl ?_
            refine g_goto m126_111 ?_
            refine ihk (i + 1) _ _ _ _ _ (by omega) (ho.bin hrk hF3 ho4 (lv := 4) (z := 42) rfl (bv_42)) ?_ ?_ hfin
            · obtain ⟨q1, q2, q3⟩ := hg4
              refine ⟨by show p ≤ (PL (BT m u) n u f 5 op (r.2.1 + 1)).2.1; omega, q2, fun hk => ?_⟩
              obtain ⟨q4, q5, q6⟩ := q3 hk
              refine ⟨by show p < (PL (BT m u) n u f 5 op (r.2.1 + 1)).2.1; omega, CodeOk_bin (lv := 4) (z := ((42 : Nat) : Int)) g5 q5 rfl, ?_⟩
              show (r.1 ++ (PL (BT m u) n u f 5 op (r.2.1 + 1)).1 ++ [nI 42]).length ≤ (PL (BT m u) n u f 5 op (r.2.1 + 1)).2.1 - p
              rw [List.length_append, List.length_append, List.length_singleton]
              omega
            · intro hk
              have q4 := (hg4.2.2 hk).1
              show p + 2 * (i + 1) + 1 ≤ (PL (BT m u) n u f 5 op (r.2.1 + 1)).2.1
              omega
          · skip
            refine g_aload_n m126_25 rfl ?_
            refine g_aload_n m126_26 rfl ?_
            refine h_gfI (k := 57) (p := 89) m126_27 rfl (t_57 _ _) rfl (hK2.2.1) ?_
            refine h_cv (k := 57) (p := 89) (args := [.int (nI (r.2.1))]) (rest := []) m126_30 cn_119 (Nat.le_of_ble_eq_true rfl) rfl rfl rfl (t_57 _ _) (Nat.le_of_ble_eq_true rfl) ?_
            refine c_byteAt hK2.1 hK2.2.2.1 hu g2 hn hT2 (fun hpn2 z2 hz2 hze2 => ?_) (fun hpn2 => ?_)
            · rw [show nI z2 = nI z from hze2.symm.trans hze]
              refine gwr ?_
              refine g_bipush m126_33 ?_
              refine h_ic_eq (xi := ((z : Nat) : Int)) (zi := 47) m126_35 (nI_toInt (by omega)) rfl (fun c2 => ?_) (fun c2 => ?_)
              · skip
                obtain rfl : z = 47 := by omega
                rw [PLoop_y (k := k) ⟨hrk, by rw [hbt]; rfl⟩, hbt, ofInt_n] at hfin
                refine g_aload_n m126_51 rfl ?_
                refine g_aload_n m126_52 rfl ?_
                refine h_gfI (k := 57) (p := 89) m126_53 rfl (t_57 _ _) rfl (hK2.2.1) ?_
                refine h_cv (k := 57) (p := 89) (args := [.int (nI (r.2.1))]) (rest := []) m126_56 cn_119 (Nat.le_of_ble_eq_true rfl) rfl rfl rfl (t_57 _ _) (Nat.le_of_ble_eq_true rfl) ?_
                refine c_byteAt hK2.1 hK2.2.2.1 hu g2 hn hT2 (fun hpn2 z2 hz2 hze2 => ?_) (fun hpn2 => absurd hpn2 (by omega))
                rw [show nI z2 = nI 47 from hze2.symm.trans hze]
                refine gwr ?_
                refine g_istore_n (L2 := [some (.ref (89)), some (.int (v)), some (.int (47)), o3]) m126_59 rfl rfl ?_
                refine g_aload_n m126_60 rfl ?_
                refine g_dup m126_61 rfl ?_
                refine h_gfI (k := 57) (p := 89) m126_62 rfl (t_57 _ _) rfl (hK2.2.1) ?_
                refine g_iconst m126_65 ?_
                refine g_iadd (u := nI ((r.2.1) + 1)) m126_66 (nI_add (r.2.1) 1) ?_
                refine h_pfI (k := 57) (p := 89) m126_67 rfl (t_57 _ _) rfl trivial ?_
                refine g_aload_n m126_70 rfl ?_
                refine h_cv (k := 57) (p := 89) (args := []) (rest := []) m126_71 cn_125 (Nat.le_of_ble_eq_true rfl) rfl rfl rfl (t_57 _ _) (Nat.le_of_ble_eq_true rfl) ?_
                have hK3 : WkS (upm m2 57 8 (nI (r.2.1 + 1))) u n (r.2.1 + 1) op a b c true := ⟨hK2.1, rfl, hK2.2.2.1, hK2.2.2.2.1, hK2.2.2.2.2.1, hK2.2.2.2.2.2.1, hK2.2.2.2.2.2.2.1, hK2.2.2.2.2.2.2.2⟩
                have hF3 : FrW m2 (upm m2 57 8 (nI (r.2.1 + 1))) := FrW.rf.up _ (Or.inl rfl)
                have ht3 : BT (upm m2 57 8 (nI (r.2.1 + 1))) u = BT m u := (hF2.tr hF3).bt u
                refine ih _ _ _ op (r.2.1 + 1) (by omega) hop hK3 (by omega) hn (hF3.tap hT2) (by omega) (fun v2 m4 ho4 => ?_)
                rw [ht3] at ho4
                have hg4 := PL_ok (BT m u) n u f 5 op (r.2.1 + 1) hpn
                refine gwr ?_
                refine g_istore_n (L2 := [some (.ref (89)), some (.int (v)), some (.int (47)), some (.int (v2))]) m126_74 rfl rfl ?_
                refine g_iload_n m126_75 rfl ?_
                refine g_bipush m126_76 ?_
                refine h_ic_neF (xi := 47) (zi := 42) m126_78 rfl rfl (by decide) ?_
                refine g_iload_n m126_87 rfl ?_
                refine h_if_ne (xi := _) (zi := 0) m126_88 rfl rfl (fun c3 => ?_) (fun c3 => ?_)
                · skip
                  refine g_iconst m126_91 ?_
                  refine g_goto m126_92 ?_
                  refine g_istore_n (L2 := [some (.ref (89)), some (.int (0)), some (.int (47)), some (.int (v2))]) m126_110 rfl rfl ?_
                  refine g_goto m126_111 ?_
                  refine ihk (i + 1) _ _ _ _ _ (by omega) (ho.bin hrk hF3 ho4 (lv := 4) (z := 47) rfl (bv_47.trans (by simp [c3]))) ?_ ?_ hfin
                  · obtain ⟨q1, q2, q3⟩ := hg4
                    refine ⟨by show p ≤ (PL (BT m u) n u f 5 op (r.2.1 + 1)).2.1; omega, q2, fun hk => ?_⟩
                    obtain ⟨q4, q5, q6⟩ := q3 hk
                    refine ⟨by show p < (PL (BT m u) n u f 5 op (r.2.1 + 1)).2.1; omega, CodeOk_bin (lv := 4) (z := ((47 : Nat) : Int)) g5 q5 rfl, ?_⟩
                    show (r.1 ++ (PL (BT m u) n u f 5 op (r.2.1 + 1)).1 ++ [nI 47]).length ≤ (PL (BT m u) n u f 5 op (r.2.1 + 1)).2.1 - p
                    rw [List.length_append, List.length_append, List.length_singleton]
                    omega
                  · intro hk
                    have q4 := (hg4.2.2 hk).1
                    show p + 2 * (i + 1) + 1 ≤ (PL (BT m u) n u f 5 op (r.2.1 + 1)).2.1
                    omega
                · skip
                  refine g_iload_n m126_95 rfl ?_
                  refine g_bipush m126_96 ?_
                  refine h_ic_neT (xi := 47) (zi := 47) m126_98 rfl rfl (by decide) ?_
                  refine g_iload_n m126_101 rfl ?_
                  refine g_iload_n m126_102 rfl ?_
                  refine g_idiv m126_103 (fun z0 => by subst z0; exact absurd rfl (by assumption)) rfl ?_
                  refine g_goto m126_104 ?_
                  refine g_istore_n (L2 := [some (.ref (89)), some (.int ((v / v2))), some (.int (47)), some (.int (v2))]) m126_110 rfl rfl ?_
                  refine g_goto m126_111 ?_
                  refine ihk (i + 1) _ _ _ _ _ (by omega) (ho.bin hrk hF3 ho4 (lv := 4) (z := 47) rfl (bv_47.trans (by simp [c3]))) ?_ ?_ hfin
                  · obtain ⟨q1, q2, q3⟩ := hg4
                    refine ⟨by show p ≤ (PL (BT m u) n u f 5 op (r.2.1 + 1)).2.1; omega, q2, fun hk => ?_⟩
                    obtain ⟨q4, q5, q6⟩ := q3 hk
                    refine ⟨by show p < (PL (BT m u) n u f 5 op (r.2.1 + 1)).2.1; omega, CodeOk_bin (lv := 4) (z := ((47 : Nat) : Int)) g5 q5 rfl, ?_⟩
                    show (r.1 ++ (PL (BT m u) n u f 5 op (r.2.1 + 1)).1 ++ [nI 47]).length ≤ (PL (BT m u) n u f 5 op (r.2.1 + 1)).2.1 - p
                    rw [List.length_append, List.length_append, List.length_singleton]
                    omega
                  · intro hk
                    have q4 := (hg4.2.2 hk).1
                    show p + 2 * (i + 1) + 1 ≤ (PL (BT m u) n u f 5 op (r.2.1 + 1)).2.1
                    omega
              · skip
                refine g_aload_n m126_38 rfl ?_
                refine g_aload_n m126_39 rfl ?_
                refine h_gfI (k := 57) (p := 89) m126_40 rfl (t_57 _ _) rfl (hK2.2.1) ?_
                refine h_cv (k := 57) (p := 89) (args := [.int (nI (r.2.1))]) (rest := []) m126_43 cn_119 (Nat.le_of_ble_eq_true rfl) rfl rfl rfl (t_57 _ _) (Nat.le_of_ble_eq_true rfl) ?_
                refine c_byteAt hK2.1 hK2.2.2.1 hu g2 hn hT2 (fun hpn2 z2 hz2 hze2 => ?_) (fun hpn2 => ?_)
                · rw [show nI z2 = nI z from hze2.symm.trans hze]
                  refine gwr ?_
                  refine g_bipush m126_46 ?_
                  refine h_ic_ne (xi := ((z : Nat) : Int)) (zi := 37) m126_48 (nI_toInt (by omega)) rfl (fun c4 => ?_) (fun c4 => ?_)
                  · skip
                    obtain rfl : z = 37 := by omega
                    rw [PLoop_y (k := k) ⟨hrk, by rw [hbt]; rfl⟩, hbt, ofInt_n] at hfin
                    refine g_aload_n m126_51 rfl ?_
                    refine g_aload_n m126_52 rfl ?_
                    refine h_gfI (k := 57) (p := 89) m126_53 rfl (t_57 _ _) rfl (hK2.2.1) ?_
                    refine h_cv (k := 57) (p := 89) (args := [.int (nI (r.2.1))]) (rest := []) m126_56 cn_119 (Nat.le_of_ble_eq_true rfl) rfl rfl rfl (t_57 _ _) (Nat.le_of_ble_eq_true rfl) ?_
                    refine c_byteAt hK2.1 hK2.2.2.1 hu g2 hn hT2 (fun hpn2 z2 hz2 hze2 => ?_) (fun hpn2 => absurd hpn2 (by omega))
                    rw [show nI z2 = nI 37 from hze2.symm.trans hze]
                    refine gwr ?_
                    refine g_istore_n (L2 := [some (.ref (89)), some (.int (v)), some (.int (37)), o3]) m126_59 rfl rfl ?_
                    refine g_aload_n m126_60 rfl ?_
                    refine g_dup m126_61 rfl ?_
                    refine h_gfI (k := 57) (p := 89) m126_62 rfl (t_57 _ _) rfl (hK2.2.1) ?_
                    refine g_iconst m126_65 ?_
                    refine g_iadd (u := nI ((r.2.1) + 1)) m126_66 (nI_add (r.2.1) 1) ?_
                    refine h_pfI (k := 57) (p := 89) m126_67 rfl (t_57 _ _) rfl trivial ?_
                    refine g_aload_n m126_70 rfl ?_
                    refine h_cv (k := 57) (p := 89) (args := []) (rest := []) m126_71 cn_125 (Nat.le_of_ble_eq_true rfl) rfl rfl rfl (t_57 _ _) (Nat.le_of_ble_eq_true rfl) ?_
                    have hK3 : WkS (upm m2 57 8 (nI (r.2.1 + 1))) u n (r.2.1 + 1) op a b c true := ⟨hK2.1, rfl, hK2.2.2.1, hK2.2.2.2.1, hK2.2.2.2.2.1, hK2.2.2.2.2.2.1, hK2.2.2.2.2.2.2.1, hK2.2.2.2.2.2.2.2⟩
                    have hF3 : FrW m2 (upm m2 57 8 (nI (r.2.1 + 1))) := FrW.rf.up _ (Or.inl rfl)
                    have ht3 : BT (upm m2 57 8 (nI (r.2.1 + 1))) u = BT m u := (hF2.tr hF3).bt u
                    refine ih _ _ _ op (r.2.1 + 1) (by omega) hop hK3 (by omega) hn (hF3.tap hT2) (by omega) (fun v2 m4 ho4 => ?_)
                    rw [ht3] at ho4
                    have hg4 := PL_ok (BT m u) n u f 5 op (r.2.1 + 1) hpn
                    refine gwr ?_
                    refine g_istore_n (L2 := [some (.ref (89)), some (.int (v)), some (.int (37)), some (.int (v2))]) m126_74 rfl rfl ?_
                    refine g_iload_n m126_75 rfl ?_
                    refine g_bipush m126_76 ?_
                    refine h_ic_neF (xi := 37) (zi := 42) m126_78 rfl rfl (by decide) ?_
                    refine g_iload_n m126_87 rfl ?_
                    refine h_if_ne (xi := _) (zi := 0) m126_88 rfl rfl (fun c5 => ?_) (fun c5 => ?_)
                    · skip
                      refine g_iconst m126_91 ?_
                      refine g_goto m126_92 ?_
                      refine g_istore_n (L2 := [some (.ref (89)), some (.int (0)), some (.int (37)), some (.int (v2))]) m126_110 rfl rfl ?_
                      refine g_goto m126_111 ?_
                      refine ihk (i + 1) _ _ _ _ _ (by omega) (ho.bin hrk hF3 ho4 (lv := 4) (z := 37) rfl (bv_37.trans (by simp [c5]))) ?_ ?_ hfin
                      · obtain ⟨q1, q2, q3⟩ := hg4
                        refine ⟨by show p ≤ (PL (BT m u) n u f 5 op (r.2.1 + 1)).2.1; omega, q2, fun hk => ?_⟩
                        obtain ⟨q4, q5, q6⟩ := q3 hk
                        refine ⟨by show p < (PL (BT m u) n u f 5 op (r.2.1 + 1)).2.1; omega, CodeOk_bin (lv := 4) (z := ((37 : Nat) : Int)) g5 q5 rfl, ?_⟩
                        show (r.1 ++ (PL (BT m u) n u f 5 op (r.2.1 + 1)).1 ++ [nI 37]).length ≤ (PL (BT m u) n u f 5 op (r.2.1 + 1)).2.1 - p
                        rw [List.length_append, List.length_append, List.length_singleton]
                        omega
                      · intro hk
                        have q4 := (hg4.2.2 hk).1
                        show p + 2 * (i + 1) + 1 ≤ (PL (BT m u) n u f 5 op (r.2.1 + 1)).2.1
                        omega
                    · skip
                      refine g_iload_n m126_95 rfl ?_
                      refine g_bipush m126_96 ?_
                      refine h_ic_neF (xi := 37) (zi := 47) m126_98 rfl rfl (by decide) ?_
                      refine g_iload_n m126_107 rfl ?_
                      refine g_iload_n m126_108 rfl ?_
                      refine g_irem m126_109 (fun z0 => by subst z0; exact absurd rfl (by assumption)) rfl ?_
                      refine g_istore_n (L2 := [some (.ref (89)), some (.int _), some (.int (37)), some (.int (v2))]) m126_110 rfl rfl ?_
                      refine g_goto m126_111 ?_
                      refine ihk (i + 1) _ _ _ _ _ (by omega) (ho.bin hrk hF3 ho4 (lv := 4) (z := 37) rfl (bv_37.trans (by simp [c5]))) ?_ ?_ hfin
                      · obtain ⟨q1, q2, q3⟩ := hg4
                        refine ⟨by show p ≤ (PL (BT m u) n u f 5 op (r.2.1 + 1)).2.1; omega, q2, fun hk => ?_⟩
                        obtain ⟨q4, q5, q6⟩ := q3 hk
                        refine ⟨by show p < (PL (BT m u) n u f 5 op (r.2.1 + 1)).2.1; omega, CodeOk_bin (lv := 4) (z := ((37 : Nat) : Int)) g5 q5 rfl, ?_⟩
                        show (r.1 ++ (PL (BT m u) n u f 5 op (r.2.1 + 1)).1 ++ [nI 37]).length ≤ (PL (BT m u) n u f 5 op (r.2.1 + 1)).2.1 - p
                        rw [List.length_append, List.length_append, List.length_singleton]
                        omega
                      · intro hk
                        have q4 := (hg4.2.2 hk).1
                        show p + 2 * (i + 1) + 1 ≤ (PL (BT m u) n u f 5 op (r.2.1 + 1)).2.1
                        omega
                  · skip
                    refine g_iload_n m126_114 rfl ?_
                    refine g_iret m126_115 rt_126 ?_
                    rw [PLoop_n (fun q => by have hsg := q.2; rw [hbt] at hsg; have hin := sgl_4 hsg; omega)] at hfin
                    exact hQ _ _ (by rw [← hfin]; exact ho)
                · exact absurd hpn (by omega)
            · exact absurd hpn (by omega)
        · have hbt : bt (BT m u) n r.2.1 = -1 := bt_n hpn
          refine gwr ?_
          refine g_bipush m126_20 ?_
          refine h_ic_eqF (xi := (-1)) (zi := 42) m126_22 rfl rfl (by decide) ?_
          refine g_aload_n m126_25 rfl ?_
          refine g_aload_n m126_26 rfl ?_
          refine h_gfI (k := 57) (p := 89) m126_27 rfl (t_57 _ _) rfl (hK2.2.1) ?_
          refine h_cv (k := 57) (p := 89) (args := [.int (nI (r.2.1))]) (rest := []) m126_30 cn_119 (Nat.le_of_ble_eq_true rfl) rfl rfl rfl (t_57 _ _) (Nat.le_of_ble_eq_true rfl) ?_
          refine c_byteAt hK2.1 hK2.2.2.1 hu g2 hn hT2 (fun hpn2 z2 hz2 hze2 => ?_) (fun hpn2 => ?_)
          · exact absurd hpn2 (by omega)
          · skip
            refine gwr ?_
            refine g_bipush m126_33 ?_
            refine h_ic_eqF (xi := (-1)) (zi := 47) m126_35 rfl rfl (by decide) ?_
            refine g_aload_n m126_38 rfl ?_
            refine g_aload_n m126_39 rfl ?_
            refine h_gfI (k := 57) (p := 89) m126_40 rfl (t_57 _ _) rfl (hK2.2.1) ?_
            refine h_cv (k := 57) (p := 89) (args := [.int (nI (r.2.1))]) (rest := []) m126_43 cn_119 (Nat.le_of_ble_eq_true rfl) rfl rfl rfl (t_57 _ _) (Nat.le_of_ble_eq_true rfl) ?_
            refine c_byteAt hK2.1 hK2.2.2.1 hu g2 hn hT2 (fun hpn2 z2 hz2 hze2 => ?_) (fun hpn2 => ?_)
            · exact absurd hpn2 (by omega)
            · skip
              refine gwr ?_
              refine g_bipush m126_46 ?_
              refine h_ic_neF (xi := (-1)) (zi := 37) m126_48 rfl rfl (by decide) ?_
              refine g_iload_n m126_114 rfl ?_
              refine g_iret m126_115 rt_126 ?_
              rw [PLoop_n (fun q => by have hsg := q.2; rw [hbt] at hsg; have hin := sgl_4 hsg; omega)] at hfin
              exact hQ _ _ (by rw [← hfin]; exact ho)
      · have h14 := ho.no hrk
        rw [PLoop_n (fun q => hrk q.1)] at hfin
        refine g_aload_n m126_5 rfl ?_
        refine h_gfI (k := 57) (p := 89) m126_6 rfl (t_57 _ _) rfl (h14) ?_
        refine h_if_eqT (xi := 0) (zi := 0) m126_9 rfl rfl (by decide) ?_
        refine g_iload_n m126_114 rfl ?_
        refine g_iret m126_115 rt_126 ?_
        exact hQ _ _ (by rw [← hfin]; exact ho)
  exact key 50 0 _ _ _ _ _ (by omega) ho1 hg1 (fun hk => by have := (hg1.2.2 hk).1; omega) rfl
set_option maxRecDepth 20000 in
set_option maxHeartbeats 40000000 in
theorem w_127 {u n f : Nat} {a b c : Int32} (hu : u ≤ 1) (ih : Wk xs ln N u n f 4 a b c) : Wk xs ln N u n (f + 1) 3 a b c := by
  intro m Q D op p hD hop hK hp hn hT hf hQ
  obtain ⟨d, rfl⟩ : ∃ d, D = d + 9 := ⟨D - 9, by omega⟩
  rw [PL_l _ _ _ _ _ _ (show 3 < 5 by decide)] at hQ
  show WP xs (d + 9) 127 0 0 _ _ _
  refine wp_x mx_127 (L := [some (.ref (89)), none, none, none]) (Nat.le_of_ble_eq_true rfl) rfl ?_
  refine g_aload_n m127_0 rfl ?_
  refine h_cv (k := 57) (p := 89) (args := []) (rest := []) m127_1 cn_126 (Nat.le_of_ble_eq_true rfl) rfl rfl rfl (t_57 _ _) (Nat.le_of_ble_eq_true rfl) ?_
  refine ih _ _ _ op p (by omega) hop hK hp hn hT (by omega) (fun v1 m1 ho1 => ?_)
  have hg1 := PL_ok (BT m u) n u f 4 op p hp
  refine gwr ?_
  refine g_istore_n (L2 := [some (.ref (89)), some (.int (v1)), none, none]) m127_4 rfl rfl ?_
  rw [if_neg (by decide)] at hQ
  have key : ∀ (k i : Nat) (o2 o3 : Option Value) (r : PR3) (v : Int32) (m2 : MW), i + k = 50 → WOut m op a b c r v m2 → GoodR n p r → (r.2.2 = true → p + 2 * i + 1 ≤ r.2.1) → PLoop (PL (BT m u) n u f 4 op) (BT m u) n 3 k r = PLoop (PL (BT m u) n u f 4 op) (BT m u) n 3 50 (PL (BT m u) n u f 4 op p) → gw xs (WP xs (d + 8)) 127 Q 5 [some (.ref (89)), some (.int (v)), o2, o3] [] (H m2 ln N) 0 0 := by
    intro k
    induction k with
    | zero =>
      intro i o2 o3 r v m2 hi ho hg hpl hfin
      have hfin2 : r = _ := hfin
      obtain ⟨g1, g2, g3⟩ := hg
      by_cases hrk : r.2.2 = true
      · have := hpl hrk
        omega
      · have h14 := ho.no hrk
        refine g_aload_n m127_5 rfl ?_
        refine h_gfI (k := 57) (p := 89) m127_6 rfl (t_57 _ _) rfl (h14) ?_
        refine h_if_eqT (xi := 0) (zi := 0) m127_9 rfl rfl (by decide) ?_
        refine g_iload_n m127_81 rfl ?_
        refine g_iret m127_82 rt_127 ?_
        exact hQ _ _ (by rw [← hfin2]; exact ho)
    | succ k ihk =>
      intro i o2 o3 r v m2 hi ho hg hpl hfin
      obtain ⟨g1, g2, g3⟩ := hg
      by_cases hrk : r.2.2 = true
      · have hK2 := hK.at ho hrk
        have hF2 := ho.1
        have hT2 := hF2.tap hT
        have hpl1 := hpl hrk
        obtain ⟨g4, g5, g6⟩ := g3 hrk
        refine g_aload_n m127_5 rfl ?_
        refine h_gfI (k := 57) (p := 89) m127_6 rfl (t_57 _ _) rfl (hK2.2.2.2.2.2.2.2) ?_
        refine h_if_eqF (xi := 1) (zi := 0) m127_9 rfl rfl (by decide) ?_
        refine g_aload_n m127_12 rfl ?_
        refine g_aload_n m127_13 rfl ?_
        refine h_gfI (k := 57) (p := 89) m127_14 rfl (t_57 _ _) rfl (hK2.2.1) ?_
        refine h_cv (k := 57) (p := 89) (args := [.int (nI (r.2.1))]) (rest := []) m127_17 cn_119 (Nat.le_of_ble_eq_true rfl) rfl rfl rfl (t_57 _ _) (Nat.le_of_ble_eq_true rfl) ?_
        refine c_byteAt hK2.1 hK2.2.2.1 hu g2 hn hT2 (fun hpn z hz hze => ?_) (fun hpn => ?_)
        · have hbt : bt (BT m u) n r.2.1 = (z : Int) := btW_y hpn (by rw [← hF2.bt u]; exact hze) hz
          refine gwr ?_
          refine g_bipush m127_20 ?_
          refine h_ic_eq (xi := ((z : Nat) : Int)) (zi := 43) m127_22 (nI_toInt (by omega)) rfl (fun c1 => ?_) (fun c1 => ?_)
          · skip
            obtain rfl : z = 43 := by omega
            rw [PLoop_y (k := k) ⟨hrk, by rw [hbt]; rfl⟩, hbt, ofInt_n] at hfin
            refine g_aload_n m127_38 rfl ?_
            refine g_aload_n m127_39 rfl ?_
            refine h_gfI (k := 57) (p := 89) m127_40 rfl (t_57 _ _) rfl (hK2.2.1) ?_
            refine h_cv (k := 57) (p := 89) (args := [.int (nI (r.2.1))]) (rest := []) m127_43 cn_119 (Nat.le_of_ble_eq_true rfl) rfl rfl rfl (t_57 _ _) (Nat.le_of_ble_eq_true rfl) ?_
            refine c_byteAt hK2.1 hK2.2.2.1 hu g2 hn hT2 (fun hpn2 z2 hz2 hze2 => ?_) (fun hpn2 => absurd hpn2 (by omega))
            rw [show nI z2 = nI 43 from hze2.symm.trans hze]
            refine gwr ?_
            refine g_istore_n (L2 := [some (.ref (89)), some (.int (v)), some (.int (43)), o3]) m127_46 rfl rfl ?_
            refine g_aload_n m127_47 rfl ?_
            refine g_dup m127_48 rfl ?_
            refine h_gfI (k := 57) (p := 89) m127_49 rfl (t_57 _ _) rfl (hK2.2.1) ?_
            refine g_iconst m127_52 ?_
            refine g_iadd (u := nI ((r.2.1) + 1)) m127_53 (nI_add (r.2.1) 1) ?_
            refine h_pfI (k := 57) (p := 89) m127_54 rfl (t_57 _ _) rfl trivial ?_
            refine g_aload_n m127_57 rfl ?_
            refine h_cv (k := 57) (p := 89) (args := []) (rest := []) m127_58 cn_126 (Nat.le_of_ble_eq_true rfl) rfl rfl rfl (t_57 _ _) (Nat.le_of_ble_eq_true rfl) ?_
            have hK3 : WkS (upm m2 57 8 (nI (r.2.1 + 1))) u n (r.2.1 + 1) op a b c true := ⟨hK2.1, rfl, hK2.2.2.1, hK2.2.2.2.1, hK2.2.2.2.2.1, hK2.2.2.2.2.2.1, hK2.2.2.2.2.2.2.1, hK2.2.2.2.2.2.2.2⟩
            have hF3 : FrW m2 (upm m2 57 8 (nI (r.2.1 + 1))) := FrW.rf.up _ (Or.inl rfl)
            have ht3 : BT (upm m2 57 8 (nI (r.2.1 + 1))) u = BT m u := (hF2.tr hF3).bt u
            refine ih _ _ _ op (r.2.1 + 1) (by omega) hop hK3 (by omega) hn (hF3.tap hT2) (by omega) (fun v2 m4 ho4 => ?_)
            rw [ht3] at ho4
            have hg4 := PL_ok (BT m u) n u f 4 op (r.2.1 + 1) hpn
            refine gwr ?_
            refine g_istore_n (L2 := [some (.ref (89)), some (.int (v)), some (.int (43)), some (.int (v2))]) m127_61 rfl rfl ?_
            refine g_iload_n m127_62 rfl ?_
            refine g_bipush m127_63 ?_
            refine h_ic_neT (xi := 43) (zi := 43) m127_65 rfl rfl (by decide) ?_
            refine g_iload_n m127_68 rfl ?_
            refine g_iload_n m127_69 rfl ?_
            refine g_iadd m127_70 rfl ?_
            refine g_goto m127_71 ?_
            refine g_istore_n (L2 := [some (.ref (89)), some (.int ((v + v2))), some (.int (43)), some (.int (v2))]) m127_77 rfl rfl ?_
            refine g_goto m127_78 ?_
            refine ihk (i + 1) _ _ _ _ _ (by omega) (ho.bin hrk hF3 ho4 (lv := 3) (z := 43) rfl (bv_43)) ?_ ?_ hfin
            · obtain ⟨q1, q2, q3⟩ := hg4
              refine ⟨by show p ≤ (PL (BT m u) n u f 4 op (r.2.1 + 1)).2.1; omega, q2, fun hk => ?_⟩
              obtain ⟨q4, q5, q6⟩ := q3 hk
              refine ⟨by show p < (PL (BT m u) n u f 4 op (r.2.1 + 1)).2.1; omega, CodeOk_bin (lv := 3) (z := ((43 : Nat) : Int)) g5 q5 rfl, ?_⟩
              show (r.1 ++ (PL (BT m u) n u f 4 op (r.2.1 + 1)).1 ++ [nI 43]).length ≤ (PL (BT m u) n u f 4 op (r.2.1 + 1)).2.1 - p
              rw [List.length_append, List.length_append, List.length_singleton]
              omega
            · intro hk
              have q4 := (hg4.2.2 hk).1
              show p + 2 * (i + 1) + 1 ≤ (PL (BT m u) n u f 4 op (r.2.1 + 1)).2.1
              omega
          · skip
            refine g_aload_n m127_25 rfl ?_
            refine g_aload_n m127_26 rfl ?_
            refine h_gfI (k := 57) (p := 89) m127_27 rfl (t_57 _ _) rfl (hK2.2.1) ?_
            refine h_cv (k := 57) (p := 89) (args := [.int (nI (r.2.1))]) (rest := []) m127_30 cn_119 (Nat.le_of_ble_eq_true rfl) rfl rfl rfl (t_57 _ _) (Nat.le_of_ble_eq_true rfl) ?_
            refine c_byteAt hK2.1 hK2.2.2.1 hu g2 hn hT2 (fun hpn2 z2 hz2 hze2 => ?_) (fun hpn2 => ?_)
            · rw [show nI z2 = nI z from hze2.symm.trans hze]
              refine gwr ?_
              refine g_bipush m127_33 ?_
              refine h_ic_ne (xi := ((z : Nat) : Int)) (zi := 45) m127_35 (nI_toInt (by omega)) rfl (fun c2 => ?_) (fun c2 => ?_)
              · skip
                obtain rfl : z = 45 := by omega
                rw [PLoop_y (k := k) ⟨hrk, by rw [hbt]; rfl⟩, hbt, ofInt_n] at hfin
                refine g_aload_n m127_38 rfl ?_
                refine g_aload_n m127_39 rfl ?_
                refine h_gfI (k := 57) (p := 89) m127_40 rfl (t_57 _ _) rfl (hK2.2.1) ?_
                refine h_cv (k := 57) (p := 89) (args := [.int (nI (r.2.1))]) (rest := []) m127_43 cn_119 (Nat.le_of_ble_eq_true rfl) rfl rfl rfl (t_57 _ _) (Nat.le_of_ble_eq_true rfl) ?_
                refine c_byteAt hK2.1 hK2.2.2.1 hu g2 hn hT2 (fun hpn2 z2 hz2 hze2 => ?_) (fun hpn2 => absurd hpn2 (by omega))
                rw [show nI z2 = nI 45 from hze2.symm.trans hze]
                refine gwr ?_
                refine g_istore_n (L2 := [some (.ref (89)), some (.int (v)), some (.int (45)), o3]) m127_46 rfl rfl ?_
                refine g_aload_n m127_47 rfl ?_
                refine g_dup m127_48 rfl ?_
                refine h_gfI (k := 57) (p := 89) m127_49 rfl (t_57 _ _) rfl (hK2.2.1) ?_
                refine g_iconst m127_52 ?_
                refine g_iadd (u := nI ((r.2.1) + 1)) m127_53 (nI_add (r.2.1) 1) ?_
                refine h_pfI (k := 57) (p := 89) m127_54 rfl (t_57 _ _) rfl trivial ?_
                refine g_aload_n m127_57 rfl ?_
                refine h_cv (k := 57) (p := 89) (args := []) (rest := []) m127_58 cn_126 (Nat.le_of_ble_eq_true rfl) rfl rfl rfl (t_57 _ _) (Nat.le_of_ble_eq_true rfl) ?_
                have hK3 : WkS (upm m2 57 8 (nI (r.2.1 + 1))) u n (r.2.1 + 1) op a b c true := ⟨hK2.1, rfl, hK2.2.2.1, hK2.2.2.2.1, hK2.2.2.2.2.1, hK2.2.2.2.2.2.1, hK2.2.2.2.2.2.2.1, hK2.2.2.2.2.2.2.2⟩
                have hF3 : FrW m2 (upm m2 57 8 (nI (r.2.1 + 1))) := FrW.rf.up _ (Or.inl rfl)
                have ht3 : BT (upm m2 57 8 (nI (r.2.1 + 1))) u = BT m u := (hF2.tr hF3).bt u
                refine ih _ _ _ op (r.2.1 + 1) (by omega) hop hK3 (by omega) hn (hF3.tap hT2) (by omega) (fun v2 m4 ho4 => ?_)
                rw [ht3] at ho4
                have hg4 := PL_ok (BT m u) n u f 4 op (r.2.1 + 1) hpn
                refine gwr ?_
                refine g_istore_n (L2 := [some (.ref (89)), some (.int (v)), some (.int (45)), some (.int (v2))]) m127_61 rfl rfl ?_
                refine g_iload_n m127_62 rfl ?_
                refine g_bipush m127_63 ?_
                refine h_ic_neF (xi := 45) (zi := 43) m127_65 rfl rfl (by decide) ?_
                refine g_iload_n m127_74 rfl ?_
                refine g_iload_n m127_75 rfl ?_
                refine g_isub m127_76 rfl ?_
                refine g_istore_n (L2 := [some (.ref (89)), some (.int ((v - v2))), some (.int (45)), some (.int (v2))]) m127_77 rfl rfl ?_
                refine g_goto m127_78 ?_
                refine ihk (i + 1) _ _ _ _ _ (by omega) (ho.bin hrk hF3 ho4 (lv := 3) (z := 45) rfl (bv_45)) ?_ ?_ hfin
                · obtain ⟨q1, q2, q3⟩ := hg4
                  refine ⟨by show p ≤ (PL (BT m u) n u f 4 op (r.2.1 + 1)).2.1; omega, q2, fun hk => ?_⟩
                  obtain ⟨q4, q5, q6⟩ := q3 hk
                  refine ⟨by show p < (PL (BT m u) n u f 4 op (r.2.1 + 1)).2.1; omega, CodeOk_bin (lv := 3) (z := ((45 : Nat) : Int)) g5 q5 rfl, ?_⟩
                  show (r.1 ++ (PL (BT m u) n u f 4 op (r.2.1 + 1)).1 ++ [nI 45]).length ≤ (PL (BT m u) n u f 4 op (r.2.1 + 1)).2.1 - p
                  rw [List.length_append, List.length_append, List.length_singleton]
                  omega
                · intro hk
                  have q4 := (hg4.2.2 hk).1
                  show p + 2 * (i + 1) + 1 ≤ (PL (BT m u) n u f 4 op (r.2.1 + 1)).2.1
                  omega
              · skip
                refine g_iload_n m127_81 rfl ?_
                refine g_iret m127_82 rt_127 ?_
                rw [PLoop_n (fun q => by have hsg := q.2; rw [hbt] at hsg; have hin := sgl_3 hsg; omega)] at hfin
                exact hQ _ _ (by rw [← hfin]; exact ho)
            · exact absurd hpn (by omega)
        · have hbt : bt (BT m u) n r.2.1 = -1 := bt_n hpn
          refine gwr ?_
          refine g_bipush m127_20 ?_
          refine h_ic_eqF (xi := (-1)) (zi := 43) m127_22 rfl rfl (by decide) ?_
          refine g_aload_n m127_25 rfl ?_
          refine g_aload_n m127_26 rfl ?_
          refine h_gfI (k := 57) (p := 89) m127_27 rfl (t_57 _ _) rfl (hK2.2.1) ?_
          refine h_cv (k := 57) (p := 89) (args := [.int (nI (r.2.1))]) (rest := []) m127_30 cn_119 (Nat.le_of_ble_eq_true rfl) rfl rfl rfl (t_57 _ _) (Nat.le_of_ble_eq_true rfl) ?_
          refine c_byteAt hK2.1 hK2.2.2.1 hu g2 hn hT2 (fun hpn2 z2 hz2 hze2 => ?_) (fun hpn2 => ?_)
          · exact absurd hpn2 (by omega)
          · skip
            refine gwr ?_
            refine g_bipush m127_33 ?_
            refine h_ic_neF (xi := (-1)) (zi := 45) m127_35 rfl rfl (by decide) ?_
            refine g_iload_n m127_81 rfl ?_
            refine g_iret m127_82 rt_127 ?_
            rw [PLoop_n (fun q => by have hsg := q.2; rw [hbt] at hsg; have hin := sgl_3 hsg; omega)] at hfin
            exact hQ _ _ (by rw [← hfin]; exact ho)
      · have h14 := ho.no hrk
        rw [PLoop_n (fun q => hrk q.1)] at hfin
        refine g_aload_n m127_5 rfl ?_
        refine h_gfI (k := 57) (p := 89) m127_6 rfl (t_57 _ _) rfl (h14) ?_
        refine h_if_eqT (xi := 0) (zi := 0) m127_9 rfl rfl (by decide) ?_
        refine g_iload_n m127_81 rfl ?_
        refine g_iret m127_82 rt_127 ?_
        exact hQ _ _ (by rw [← hfin]; exact ho)
  exact key 50 0 _ _ _ _ _ (by omega) ho1 hg1 (fun hk => by have := (hg1.2.2 hk).1; omega) rfl
set_option maxRecDepth 20000 in
set_option maxHeartbeats 40000000 in
theorem w_124 {u n f : Nat} {a b c : Int32} (hu : u ≤ 1) (ih : Wk xs ln N u n f 3 a b c) : Wk xs ln N u n (f + 1) 2 a b c := by
  intro m Q D op p hD hop hK hp hn hT hf hQ
  obtain ⟨d, rfl⟩ : ∃ d, D = d + 9 := ⟨D - 9, by omega⟩
  rw [PL_l _ _ _ _ _ _ (show 2 < 5 by decide)] at hQ
  show WP xs (d + 9) 124 0 0 _ _ _
  refine wp_x mx_124 (L := [some (.ref (89)), none, none, none, none]) (Nat.le_of_ble_eq_true rfl) rfl ?_
  refine g_aload_n m124_0 rfl ?_
  refine h_cv (k := 57) (p := 89) (args := []) (rest := []) m124_1 cn_127 (Nat.le_of_ble_eq_true rfl) rfl rfl rfl (t_57 _ _) (Nat.le_of_ble_eq_true rfl) ?_
  refine ih _ _ _ op p (by omega) hop hK hp hn hT (by omega) (fun v1 m1 ho1 => ?_)
  have hg1 := PL_ok (BT m u) n u f 3 op p hp
  refine gwr ?_
  refine g_istore_n (L2 := [some (.ref (89)), some (.int (v1)), none, none, none]) m124_4 rfl rfl ?_
  rw [if_pos rfl] at hQ
  revert ho1 hg1 hQ
  generalize PL (BT m u) n u f 3 op p = r
  intro hQ ho1 hg1
  obtain ⟨g1, g2, g3⟩ := hg1
  by_cases hrk : r.2.2 = true
  · have hK2 := hK.at ho1 hrk
    have hF2 := ho1.1
    have hT2 := hF2.tap hT
    refine g_aload_n m124_5 rfl ?_
    refine h_gfI (k := 57) (p := 89) m124_6 rfl (t_57 _ _) rfl (hK2.2.2.2.2.2.2.2) ?_
    refine h_if_eqF (xi := 1) (zi := 0) m124_9 rfl rfl (by decide) ?_
    refine g_aload_n m124_12 rfl ?_
    refine g_aload_n m124_13 rfl ?_
    refine h_gfI (k := 57) (p := 89) m124_14 rfl (t_57 _ _) rfl (hK2.2.1) ?_
    refine h_cv (k := 57) (p := 89) (args := [.int (nI (r.2.1))]) (rest := []) m124_17 cn_119 (Nat.le_of_ble_eq_true rfl) rfl rfl rfl (t_57 _ _) (Nat.le_of_ble_eq_true rfl) ?_
    refine c_byteAt hK2.1 hK2.2.2.1 hu g2 hn hT2 (fun hpn z hz hze => ?_) (fun hpn => ?_)
    · have hbt : bt (BT m u) n r.2.1 = (z : Int) := btW_y hpn (by rw [← hF2.bt u]; exact hze) hz
      refine gwr ?_
      refine g_goto m124_20 ?_
      refine g_istore_n (L2 := [some (.ref (89)), some (.int (v1)), some (.int (nI (z))), none, none]) m124_24 rfl rfl ?_
      refine g_iload_n m124_25 rfl ?_
      refine g_bipush m124_26 ?_
      refine h_ic_eq (xi := ((z : Nat) : Int)) (zi := 60) m124_28 (nI_toInt (by omega)) rfl (fun c1 => ?_) (fun c1 => ?_)
      · skip
        obtain rfl : z = 60 := by omega
        rw [PLoop_y (k := 0) ⟨hrk, by rw [hbt]; rfl⟩, hbt, ofInt_n] at hQ
        refine gwl (L' := [some (.ref (89)), some (.int (v1)), some (.int (60)), none, none]) rfl ?_
        refine g_aload_n m124_45 rfl ?_
        refine g_dup m124_46 rfl ?_
        refine h_gfI (k := 57) (p := 89) m124_47 rfl (t_57 _ _) rfl (hK2.2.1) ?_
        refine g_iconst m124_50 ?_
        refine g_iadd (u := nI ((r.2.1) + 1)) m124_51 (nI_add (r.2.1) 1) ?_
        refine h_pfI (k := 57) (p := 89) m124_52 rfl (t_57 _ _) rfl trivial ?_
        refine g_aload_n m124_55 rfl ?_
        refine h_cv (k := 57) (p := 89) (args := []) (rest := []) m124_56 cn_127 (Nat.le_of_ble_eq_true rfl) rfl rfl rfl (t_57 _ _) (Nat.le_of_ble_eq_true rfl) ?_
        have hK3 : WkS (upm m1 57 8 (nI (r.2.1 + 1))) u n (r.2.1 + 1) op a b c true := ⟨hK2.1, rfl, hK2.2.2.1, hK2.2.2.2.1, hK2.2.2.2.2.1, hK2.2.2.2.2.2.1, hK2.2.2.2.2.2.2.1, hK2.2.2.2.2.2.2.2⟩
        have hF3 : FrW m1 (upm m1 57 8 (nI (r.2.1 + 1))) := FrW.rf.up _ (Or.inl rfl)
        have ht3 : BT (upm m1 57 8 (nI (r.2.1 + 1))) u = BT m u := (hF2.tr hF3).bt u
        refine ih _ _ _ op (r.2.1 + 1) (by omega) hop hK3 (by omega) hn (hF3.tap hT2) (by omega) (fun v2 m4 ho4 => ?_)
        rw [ht3] at ho4
        refine gwr ?_
        refine g_istore_n (L2 := [some (.ref (89)), some (.int (v1)), some (.int (60)), some (.int (v2)), none]) m124_59 rfl rfl ?_
        refine g_iload_n m124_60 rfl ?_
        refine g_bipush m124_61 ?_
        refine h_ic_neT (xi := 60) (zi := 60) m124_63 rfl rfl (by decide) ?_
        refine g_iload_n m124_66 rfl ?_
        refine g_iload_n m124_67 rfl ?_
        refine h_ic_ge (xi := _) (zi := _) m124_68 rfl rfl (fun c2 => ?_) (fun c2 => ?_)
        · skip
          refine g_iconst m124_75 ?_
          refine g_goto m124_76 ?_
          refine g_istore (L2 := [some (.ref (89)), some (.int (v1)), some (.int (60)), some (.int (v2)), some (.int (0))]) m124_108 rfl rfl ?_
          refine g_iload m124_110 rfl ?_
          refine h_if_eqT (xi := 0) (zi := 0) m124_112 rfl rfl (by decide) ?_
          refine g_iconst m124_119 ?_
          refine g_iret m124_120 rt_124 ?_
          exact hQ _ _ (ho1.bin hrk hF3 ho4 (lv := 2) (z := 60) rfl (bv_60.trans (by simp [c2])))
        · skip
          refine g_iconst m124_71 ?_
          refine g_goto m124_72 ?_
          refine g_istore (L2 := [some (.ref (89)), some (.int (v1)), some (.int (60)), some (.int (v2)), some (.int (1))]) m124_108 rfl rfl ?_
          refine g_iload m124_110 rfl ?_
          refine h_if_eqF (xi := 1) (zi := 0) m124_112 rfl rfl (by decide) ?_
          refine g_iconst m124_115 ?_
          refine g_goto m124_116 ?_
          refine g_iret m124_120 rt_124 ?_
          exact hQ _ _ (ho1.bin hrk hF3 ho4 (lv := 2) (z := 60) rfl (bv_60.trans (by simp [c2])))
      · skip
        refine g_iload_n m124_31 rfl ?_
        refine g_bipush m124_32 ?_
        refine h_ic_eq (xi := ((z : Nat) : Int)) (zi := 61) m124_34 (nI_toInt (by omega)) rfl (fun c3 => ?_) (fun c3 => ?_)
        · skip
          obtain rfl : z = 61 := by omega
          rw [PLoop_y (k := 0) ⟨hrk, by rw [hbt]; rfl⟩, hbt, ofInt_n] at hQ
          refine gwl (L' := [some (.ref (89)), some (.int (v1)), some (.int (61)), none, none]) rfl ?_
          refine g_aload_n m124_45 rfl ?_
          refine g_dup m124_46 rfl ?_
          refine h_gfI (k := 57) (p := 89) m124_47 rfl (t_57 _ _) rfl (hK2.2.1) ?_
          refine g_iconst m124_50 ?_
          refine g_iadd (u := nI ((r.2.1) + 1)) m124_51 (nI_add (r.2.1) 1) ?_
          refine h_pfI (k := 57) (p := 89) m124_52 rfl (t_57 _ _) rfl trivial ?_
          refine g_aload_n m124_55 rfl ?_
          refine h_cv (k := 57) (p := 89) (args := []) (rest := []) m124_56 cn_127 (Nat.le_of_ble_eq_true rfl) rfl rfl rfl (t_57 _ _) (Nat.le_of_ble_eq_true rfl) ?_
          have hK3 : WkS (upm m1 57 8 (nI (r.2.1 + 1))) u n (r.2.1 + 1) op a b c true := ⟨hK2.1, rfl, hK2.2.2.1, hK2.2.2.2.1, hK2.2.2.2.2.1, hK2.2.2.2.2.2.1, hK2.2.2.2.2.2.2.1, hK2.2.2.2.2.2.2.2⟩
          have hF3 : FrW m1 (upm m1 57 8 (nI (r.2.1 + 1))) := FrW.rf.up _ (Or.inl rfl)
          have ht3 : BT (upm m1 57 8 (nI (r.2.1 + 1))) u = BT m u := (hF2.tr hF3).bt u
          refine ih _ _ _ op (r.2.1 + 1) (by omega) hop hK3 (by omega) hn (hF3.tap hT2) (by omega) (fun v2 m4 ho4 => ?_)
          rw [ht3] at ho4
          refine gwr ?_
          refine g_istore_n (L2 := [some (.ref (89)), some (.int (v1)), some (.int (61)), some (.int (v2)), none]) m124_59 rfl rfl ?_
          refine g_iload_n m124_60 rfl ?_
          refine g_bipush m124_61 ?_
          refine h_ic_neF (xi := 61) (zi := 60) m124_63 rfl rfl (by decide) ?_
          refine g_iload_n m124_79 rfl ?_
          refine g_bipush m124_80 ?_
          refine h_ic_neT (xi := 61) (zi := 61) m124_82 rfl rfl (by decide) ?_
          refine g_iload_n m124_85 rfl ?_
          refine g_iload_n m124_86 rfl ?_
          refine h_ic_ne (xi := _) (zi := _) m124_87 rfl rfl (fun c4 => ?_) (fun c4 => ?_)
          · skip
            refine g_iconst m124_90 ?_
            refine g_goto m124_91 ?_
            refine g_istore (L2 := [some (.ref (89)), some (.int (v1)), some (.int (61)), some (.int (v2)), some (.int (1))]) m124_108 rfl rfl ?_
            refine g_iload m124_110 rfl ?_
            refine h_if_eqF (xi := 1) (zi := 0) m124_112 rfl rfl (by decide) ?_
            refine g_iconst m124_115 ?_
            refine g_goto m124_116 ?_
            refine g_iret m124_120 rt_124 ?_
            exact hQ _ _ (ho1.bin hrk hF3 ho4 (lv := 2) (z := 61) rfl (bv_61.trans (by simp [c4])))
          · skip
            refine g_iconst m124_94 ?_
            refine g_goto m124_95 ?_
            refine g_istore (L2 := [some (.ref (89)), some (.int (v1)), some (.int (61)), some (.int (v2)), some (.int (0))]) m124_108 rfl rfl ?_
            refine g_iload m124_110 rfl ?_
            refine h_if_eqT (xi := 0) (zi := 0) m124_112 rfl rfl (by decide) ?_
            refine g_iconst m124_119 ?_
            refine g_iret m124_120 rt_124 ?_
            exact hQ _ _ (ho1.bin hrk hF3 ho4 (lv := 2) (z := 61) rfl (bv_61.trans (by simp [c4])))
        · skip
          refine g_iload_n m124_37 rfl ?_
          refine g_bipush m124_38 ?_
          refine h_ic_eq (xi := ((z : Nat) : Int)) (zi := 62) m124_40 (nI_toInt (by omega)) rfl (fun c5 => ?_) (fun c5 => ?_)
          · skip
            obtain rfl : z = 62 := by omega
            rw [PLoop_y (k := 0) ⟨hrk, by rw [hbt]; rfl⟩, hbt, ofInt_n] at hQ
            refine gwl (L' := [some (.ref (89)), some (.int (v1)), some (.int (62)), none, none]) rfl ?_
            refine g_aload_n m124_45 rfl ?_
            refine g_dup m124_46 rfl ?_
            refine h_gfI (k := 57) (p := 89) m124_47 rfl (t_57 _ _) rfl (hK2.2.1) ?_
            refine g_iconst m124_50 ?_
            refine g_iadd (u := nI ((r.2.1) + 1)) m124_51 (nI_add (r.2.1) 1) ?_
            refine h_pfI (k := 57) (p := 89) m124_52 rfl (t_57 _ _) rfl trivial ?_
            refine g_aload_n m124_55 rfl ?_
            refine h_cv (k := 57) (p := 89) (args := []) (rest := []) m124_56 cn_127 (Nat.le_of_ble_eq_true rfl) rfl rfl rfl (t_57 _ _) (Nat.le_of_ble_eq_true rfl) ?_
            have hK3 : WkS (upm m1 57 8 (nI (r.2.1 + 1))) u n (r.2.1 + 1) op a b c true := ⟨hK2.1, rfl, hK2.2.2.1, hK2.2.2.2.1, hK2.2.2.2.2.1, hK2.2.2.2.2.2.1, hK2.2.2.2.2.2.2.1, hK2.2.2.2.2.2.2.2⟩
            have hF3 : FrW m1 (upm m1 57 8 (nI (r.2.1 + 1))) := FrW.rf.up _ (Or.inl rfl)
            have ht3 : BT (upm m1 57 8 (nI (r.2.1 + 1))) u = BT m u := (hF2.tr hF3).bt u
            refine ih _ _ _ op (r.2.1 + 1) (by omega) hop hK3 (by omega) hn (hF3.tap hT2) (by omega) (fun v2 m4 ho4 => ?_)
            rw [ht3] at ho4
            refine gwr ?_
            refine g_istore_n (L2 := [some (.ref (89)), some (.int (v1)), some (.int (62)), some (.int (v2)), none]) m124_59 rfl rfl ?_
            refine g_iload_n m124_60 rfl ?_
            refine g_bipush m124_61 ?_
            refine h_ic_neF (xi := 62) (zi := 60) m124_63 rfl rfl (by decide) ?_
            refine g_iload_n m124_79 rfl ?_
            refine g_bipush m124_80 ?_
            refine h_ic_neF (xi := 62) (zi := 61) m124_82 rfl rfl (by decide) ?_
            refine g_iload_n m124_98 rfl ?_
            refine g_iload_n m124_99 rfl ?_
            refine h_ic_le (xi := _) (zi := _) m124_100 rfl rfl (fun c6 => ?_) (fun c6 => ?_)
            · skip
              refine g_iconst m124_107 ?_
              refine g_istore (L2 := [some (.ref (89)), some (.int (v1)), some (.int (62)), some (.int (v2)), some (.int (0))]) m124_108 rfl rfl ?_
              refine g_iload m124_110 rfl ?_
              refine h_if_eqT (xi := 0) (zi := 0) m124_112 rfl rfl (by decide) ?_
              refine g_iconst m124_119 ?_
              refine g_iret m124_120 rt_124 ?_
              exact hQ _ _ (ho1.bin hrk hF3 ho4 (lv := 2) (z := 62) rfl (bv_62.trans (by simp [c6])))
            · skip
              refine g_iconst m124_103 ?_
              refine g_goto m124_104 ?_
              refine g_istore (L2 := [some (.ref (89)), some (.int (v1)), some (.int (62)), some (.int (v2)), some (.int (1))]) m124_108 rfl rfl ?_
              refine g_iload m124_110 rfl ?_
              refine h_if_eqF (xi := 1) (zi := 0) m124_112 rfl rfl (by decide) ?_
              refine g_iconst m124_115 ?_
              refine g_goto m124_116 ?_
              refine g_iret m124_120 rt_124 ?_
              exact hQ _ _ (ho1.bin hrk hF3 ho4 (lv := 2) (z := 62) rfl (bv_62.trans (by simp [c6])))
          · skip
            refine g_iload_n m124_43 rfl ?_
            refine g_iret m124_44 rt_124 ?_
            rw [PLoop_n (fun q => by have hsg := q.2; rw [hbt] at hsg; have hin := sgl_2 hsg; omega)] at hQ
            exact hQ _ _ ho1
    · have hbt : bt (BT m u) n r.2.1 = -1 := bt_n hpn
      refine gwr ?_
      refine g_goto m124_20 ?_
      refine g_istore_n (L2 := [some (.ref (89)), some (.int (v1)), some (.int (-1)), none, none]) m124_24 rfl rfl ?_
      refine g_iload_n m124_25 rfl ?_
      refine g_bipush m124_26 ?_
      refine h_ic_eqF (xi := (-1)) (zi := 60) m124_28 rfl rfl (by decide) ?_
      refine g_iload_n m124_31 rfl ?_
      refine g_bipush m124_32 ?_
      refine h_ic_eqF (xi := (-1)) (zi := 61) m124_34 rfl rfl (by decide) ?_
      refine g_iload_n m124_37 rfl ?_
      refine g_bipush m124_38 ?_
      refine h_ic_eqF (xi := (-1)) (zi := 62) m124_40 rfl rfl (by decide) ?_
      refine g_iload_n m124_43 rfl ?_
      refine g_iret m124_44 rt_124 ?_
      rw [PLoop_n (fun q => by have hsg := q.2; rw [hbt] at hsg; have hin := sgl_2 hsg; omega)] at hQ
      exact hQ _ _ ho1
  · have h14 := ho1.no hrk
    rw [PLoop_n (fun q => hrk q.1)] at hQ
    refine g_aload_n m124_5 rfl ?_
    refine h_gfI (k := 57) (p := 89) m124_6 rfl (t_57 _ _) rfl (h14) ?_
    refine h_if_eqT (xi := 0) (zi := 0) m124_9 rfl rfl (by decide) ?_
    refine g_iconst m124_23 ?_
    refine g_istore_n (L2 := [some (.ref (89)), some (.int (v1)), some (.int (-1)), none, none]) m124_24 rfl rfl ?_
    refine g_iload_n m124_25 rfl ?_
    refine g_bipush m124_26 ?_
    refine h_ic_eqF (xi := (-1)) (zi := 60) m124_28 rfl rfl (by decide) ?_
    refine g_iload_n m124_31 rfl ?_
    refine g_bipush m124_32 ?_
    refine h_ic_eqF (xi := (-1)) (zi := 61) m124_34 rfl rfl (by decide) ?_
    refine g_iload_n m124_37 rfl ?_
    refine g_bipush m124_38 ?_
    refine h_ic_eqF (xi := (-1)) (zi := 62) m124_40 rfl rfl (by decide) ?_
    refine g_iload_n m124_43 rfl ?_
    refine g_iret m124_44 rt_124 ?_
    exact hQ _ _ ho1
set_option maxRecDepth 20000 in
set_option maxHeartbeats 40000000 in
theorem w_129 {u n f : Nat} {a b c : Int32} (hu : u ≤ 1) (ih : Wk xs ln N u n f 2 a b c) : Wk xs ln N u n (f + 1) 1 a b c := by
  intro m Q D op p hD hop hK hp hn hT hf hQ
  obtain ⟨d, rfl⟩ : ∃ d, D = d + 9 := ⟨D - 9, by omega⟩
  rw [PL_l _ _ _ _ _ _ (show 1 < 5 by decide)] at hQ
  show WP xs (d + 9) 129 0 0 _ _ _
  refine wp_x mx_129 (L := [some (.ref (89)), none, none]) (Nat.le_of_ble_eq_true rfl) rfl ?_
  refine g_aload_n m129_0 rfl ?_
  refine h_cv (k := 57) (p := 89) (args := []) (rest := []) m129_1 cn_124 (Nat.le_of_ble_eq_true rfl) rfl rfl rfl (t_57 _ _) (Nat.le_of_ble_eq_true rfl) ?_
  refine ih _ _ _ op p (by omega) hop hK hp hn hT (by omega) (fun v1 m1 ho1 => ?_)
  have hg1 := PL_ok (BT m u) n u f 2 op p hp
  refine gwr ?_
  refine g_istore_n (L2 := [some (.ref (89)), some (.int (v1)), none]) m129_4 rfl rfl ?_
  rw [if_neg (by decide)] at hQ
  have key : ∀ (k i : Nat) (o2 : Option Value) (r : PR3) (v : Int32) (m2 : MW), i + k = 50 → WOut m op a b c r v m2 → GoodR n p r → (r.2.2 = true → p + 2 * i + 1 ≤ r.2.1) → PLoop (PL (BT m u) n u f 2 op) (BT m u) n 1 k r = PLoop (PL (BT m u) n u f 2 op) (BT m u) n 1 50 (PL (BT m u) n u f 2 op p) → gw xs (WP xs (d + 8)) 129 Q 5 [some (.ref (89)), some (.int (v)), o2] [] (H m2 ln N) 0 0 := by
    intro k
    induction k with
    | zero =>
      intro i o2 r v m2 hi ho hg hpl hfin
      have hfin2 : r = _ := hfin
      obtain ⟨g1, g2, g3⟩ := hg
      by_cases hrk : r.2.2 = true
      · have := hpl hrk
        omega
      · have h14 := ho.no hrk
        refine g_aload_n m129_5 rfl ?_
        refine h_gfI (k := 57) (p := 89) m129_6 rfl (t_57 _ _) rfl (h14) ?_
        refine h_if_eqT (xi := 0) (zi := 0) m129_9 rfl rfl (by decide) ?_
        refine g_iload_n m129_57 rfl ?_
        refine g_iret m129_58 rt_129 ?_
        exact hQ _ _ (by rw [← hfin2]; exact ho)
    | succ k ihk =>
      intro i o2 r v m2 hi ho hg hpl hfin
      obtain ⟨g1, g2, g3⟩ := hg
      by_cases hrk : r.2.2 = true
      · have hK2 := hK.at ho hrk
        have hF2 := ho.1
        have hT2 := hF2.tap hT
        have hpl1 := hpl hrk
        obtain ⟨g4, g5, g6⟩ := g3 hrk
        refine g_aload_n m129_5 rfl ?_
        refine h_gfI (k := 57) (p := 89) m129_6 rfl (t_57 _ _) rfl (hK2.2.2.2.2.2.2.2) ?_
        refine h_if_eqF (xi := 1) (zi := 0) m129_9 rfl rfl (by decide) ?_
        refine g_aload_n m129_12 rfl ?_
        refine g_aload_n m129_13 rfl ?_
        refine h_gfI (k := 57) (p := 89) m129_14 rfl (t_57 _ _) rfl (hK2.2.1) ?_
        refine h_cv (k := 57) (p := 89) (args := [.int (nI (r.2.1))]) (rest := []) m129_17 cn_119 (Nat.le_of_ble_eq_true rfl) rfl rfl rfl (t_57 _ _) (Nat.le_of_ble_eq_true rfl) ?_
        refine c_byteAt hK2.1 hK2.2.2.1 hu g2 hn hT2 (fun hpn z hz hze => ?_) (fun hpn => ?_)
        · have hbt : bt (BT m u) n r.2.1 = (z : Int) := btW_y hpn (by rw [← hF2.bt u]; exact hze) hz
          refine gwr ?_
          refine g_bipush m129_20 ?_
          refine h_ic_ne (xi := ((z : Nat) : Int)) (zi := 38) m129_22 (nI_toInt (by omega)) rfl (fun c1 => ?_) (fun c1 => ?_)
          · skip
            obtain rfl : z = 38 := by omega
            rw [PLoop_y (k := k) ⟨hrk, by rw [hbt]; rfl⟩, hbt, ofInt_n] at hfin
            refine g_aload_n m129_25 rfl ?_
            refine g_dup m129_26 rfl ?_
            refine h_gfI (k := 57) (p := 89) m129_27 rfl (t_57 _ _) rfl (hK2.2.1) ?_
            refine g_iconst m129_30 ?_
            refine g_iadd (u := nI ((r.2.1) + 1)) m129_31 (nI_add (r.2.1) 1) ?_
            refine h_pfI (k := 57) (p := 89) m129_32 rfl (t_57 _ _) rfl trivial ?_
            refine g_aload_n m129_35 rfl ?_
            refine h_cv (k := 57) (p := 89) (args := []) (rest := []) m129_36 cn_124 (Nat.le_of_ble_eq_true rfl) rfl rfl rfl (t_57 _ _) (Nat.le_of_ble_eq_true rfl) ?_
            have hK3 : WkS (upm m2 57 8 (nI (r.2.1 + 1))) u n (r.2.1 + 1) op a b c true := ⟨hK2.1, rfl, hK2.2.2.1, hK2.2.2.2.1, hK2.2.2.2.2.1, hK2.2.2.2.2.2.1, hK2.2.2.2.2.2.2.1, hK2.2.2.2.2.2.2.2⟩
            have hF3 : FrW m2 (upm m2 57 8 (nI (r.2.1 + 1))) := FrW.rf.up _ (Or.inl rfl)
            have ht3 : BT (upm m2 57 8 (nI (r.2.1 + 1))) u = BT m u := (hF2.tr hF3).bt u
            refine ih _ _ _ op (r.2.1 + 1) (by omega) hop hK3 (by omega) hn (hF3.tap hT2) (by omega) (fun v2 m4 ho4 => ?_)
            rw [ht3] at ho4
            have hg4 := PL_ok (BT m u) n u f 2 op (r.2.1 + 1) hpn
            refine gwr ?_
            refine g_istore_n (L2 := [some (.ref (89)), some (.int (v)), some (.int (v2))]) m129_39 rfl rfl ?_
            refine g_iload_n m129_40 rfl ?_
            refine h_if_eq (xi := _) (zi := 0) m129_41 rfl rfl (fun c2 => ?_) (fun c2 => ?_)
            · skip
              refine g_iconst m129_52 ?_
              refine g_istore_n (L2 := [some (.ref (89)), some (.int (0)), some (.int (v2))]) m129_53 rfl rfl ?_
              refine g_goto m129_54 ?_
              refine ihk (i + 1) _ _ _ _ (by omega) (ho.bin hrk hF3 ho4 (lv := 1) (z := 38) rfl (bv_38.trans (by simp [c2]))) ?_ ?_ hfin
              · obtain ⟨q1, q2, q3⟩ := hg4
                refine ⟨by show p ≤ (PL (BT m u) n u f 2 op (r.2.1 + 1)).2.1; omega, q2, fun hk => ?_⟩
                obtain ⟨q4, q5, q6⟩ := q3 hk
                refine ⟨by show p < (PL (BT m u) n u f 2 op (r.2.1 + 1)).2.1; omega, CodeOk_bin (lv := 1) (z := ((38 : Nat) : Int)) g5 q5 rfl, ?_⟩
                show (r.1 ++ (PL (BT m u) n u f 2 op (r.2.1 + 1)).1 ++ [nI 38]).length ≤ (PL (BT m u) n u f 2 op (r.2.1 + 1)).2.1 - p
                rw [List.length_append, List.length_append, List.length_singleton]
                omega
              · intro hk
                have q4 := (hg4.2.2 hk).1
                show p + 2 * (i + 1) + 1 ≤ (PL (BT m u) n u f 2 op (r.2.1 + 1)).2.1
                omega
            · skip
              refine g_iload_n m129_44 rfl ?_
              refine h_if_eq (xi := _) (zi := 0) m129_45 rfl rfl (fun c3 => ?_) (fun c3 => ?_)
              · skip
                refine g_iconst m129_52 ?_
                refine g_istore_n (L2 := [some (.ref (89)), some (.int (0)), some (.int (v2))]) m129_53 rfl rfl ?_
                refine g_goto m129_54 ?_
                refine ihk (i + 1) _ _ _ _ (by omega) (ho.bin hrk hF3 ho4 (lv := 1) (z := 38) rfl (bv_38.trans (by simp [c2, c3]))) ?_ ?_ hfin
                · obtain ⟨q1, q2, q3⟩ := hg4
                  refine ⟨by show p ≤ (PL (BT m u) n u f 2 op (r.2.1 + 1)).2.1; omega, q2, fun hk => ?_⟩
                  obtain ⟨q4, q5, q6⟩ := q3 hk
                  refine ⟨by show p < (PL (BT m u) n u f 2 op (r.2.1 + 1)).2.1; omega, CodeOk_bin (lv := 1) (z := ((38 : Nat) : Int)) g5 q5 rfl, ?_⟩
                  show (r.1 ++ (PL (BT m u) n u f 2 op (r.2.1 + 1)).1 ++ [nI 38]).length ≤ (PL (BT m u) n u f 2 op (r.2.1 + 1)).2.1 - p
                  rw [List.length_append, List.length_append, List.length_singleton]
                  omega
                · intro hk
                  have q4 := (hg4.2.2 hk).1
                  show p + 2 * (i + 1) + 1 ≤ (PL (BT m u) n u f 2 op (r.2.1 + 1)).2.1
                  omega
              · skip
                refine g_iconst m129_48 ?_
                refine g_goto m129_49 ?_
                refine g_istore_n (L2 := [some (.ref (89)), some (.int (1)), some (.int (v2))]) m129_53 rfl rfl ?_
                refine g_goto m129_54 ?_
                refine ihk (i + 1) _ _ _ _ (by omega) (ho.bin hrk hF3 ho4 (lv := 1) (z := 38) rfl (bv_38.trans (by simp [c2, c3]))) ?_ ?_ hfin
                · obtain ⟨q1, q2, q3⟩ := hg4
                  refine ⟨by show p ≤ (PL (BT m u) n u f 2 op (r.2.1 + 1)).2.1; omega, q2, fun hk => ?_⟩
                  obtain ⟨q4, q5, q6⟩ := q3 hk
                  refine ⟨by show p < (PL (BT m u) n u f 2 op (r.2.1 + 1)).2.1; omega, CodeOk_bin (lv := 1) (z := ((38 : Nat) : Int)) g5 q5 rfl, ?_⟩
                  show (r.1 ++ (PL (BT m u) n u f 2 op (r.2.1 + 1)).1 ++ [nI 38]).length ≤ (PL (BT m u) n u f 2 op (r.2.1 + 1)).2.1 - p
                  rw [List.length_append, List.length_append, List.length_singleton]
                  omega
                · intro hk
                  have q4 := (hg4.2.2 hk).1
                  show p + 2 * (i + 1) + 1 ≤ (PL (BT m u) n u f 2 op (r.2.1 + 1)).2.1
                  omega
          · skip
            refine g_iload_n m129_57 rfl ?_
            refine g_iret m129_58 rt_129 ?_
            rw [PLoop_n (fun q => by have hsg := q.2; rw [hbt] at hsg; have hin := sgl_1 hsg; omega)] at hfin
            exact hQ _ _ (by rw [← hfin]; exact ho)
        · have hbt : bt (BT m u) n r.2.1 = -1 := bt_n hpn
          refine gwr ?_
          refine g_bipush m129_20 ?_
          refine h_ic_neF (xi := (-1)) (zi := 38) m129_22 rfl rfl (by decide) ?_
          refine g_iload_n m129_57 rfl ?_
          refine g_iret m129_58 rt_129 ?_
          rw [PLoop_n (fun q => by have hsg := q.2; rw [hbt] at hsg; have hin := sgl_1 hsg; omega)] at hfin
          exact hQ _ _ (by rw [← hfin]; exact ho)
      · have h14 := ho.no hrk
        rw [PLoop_n (fun q => hrk q.1)] at hfin
        refine g_aload_n m129_5 rfl ?_
        refine h_gfI (k := 57) (p := 89) m129_6 rfl (t_57 _ _) rfl (h14) ?_
        refine h_if_eqT (xi := 0) (zi := 0) m129_9 rfl rfl (by decide) ?_
        refine g_iload_n m129_57 rfl ?_
        refine g_iret m129_58 rt_129 ?_
        exact hQ _ _ (by rw [← hfin]; exact ho)
  exact key 50 0 _ _ _ _ (by omega) ho1 hg1 (fun hk => by have := (hg1.2.2 hk).1; omega) rfl
set_option maxRecDepth 20000 in
set_option maxHeartbeats 40000000 in
theorem w_128 {u n f : Nat} {a b c : Int32} (hu : u ≤ 1) (ih : Wk xs ln N u n f 1 a b c) : Wk xs ln N u n (f + 1) 0 a b c := by
  intro m Q D op p hD hop hK hp hn hT hf hQ
  obtain ⟨d, rfl⟩ : ∃ d, D = d + 9 := ⟨D - 9, by omega⟩
  rw [PL_l _ _ _ _ _ _ (show 0 < 5 by decide)] at hQ
  show WP xs (d + 9) 128 0 0 _ _ _
  refine wp_x mx_128 (L := [some (.ref (89)), none, none]) (Nat.le_of_ble_eq_true rfl) rfl ?_
  refine g_aload_n m128_0 rfl ?_
  refine h_cv (k := 57) (p := 89) (args := []) (rest := []) m128_1 cn_129 (Nat.le_of_ble_eq_true rfl) rfl rfl rfl (t_57 _ _) (Nat.le_of_ble_eq_true rfl) ?_
  refine ih _ _ _ op p (by omega) hop hK hp hn hT (by omega) (fun v1 m1 ho1 => ?_)
  have hg1 := PL_ok (BT m u) n u f 1 op p hp
  refine gwr ?_
  refine g_istore_n (L2 := [some (.ref (89)), some (.int (v1)), none]) m128_4 rfl rfl ?_
  rw [if_neg (by decide)] at hQ
  have key : ∀ (k i : Nat) (o2 : Option Value) (r : PR3) (v : Int32) (m2 : MW), i + k = 50 → WOut m op a b c r v m2 → GoodR n p r → (r.2.2 = true → p + 2 * i + 1 ≤ r.2.1) → PLoop (PL (BT m u) n u f 1 op) (BT m u) n 0 k r = PLoop (PL (BT m u) n u f 1 op) (BT m u) n 0 50 (PL (BT m u) n u f 1 op p) → gw xs (WP xs (d + 8)) 128 Q 5 [some (.ref (89)), some (.int (v)), o2] [] (H m2 ln N) 0 0 := by
    intro k
    induction k with
    | zero =>
      intro i o2 r v m2 hi ho hg hpl hfin
      have hfin2 : r = _ := hfin
      obtain ⟨g1, g2, g3⟩ := hg
      by_cases hrk : r.2.2 = true
      · have := hpl hrk
        omega
      · have h14 := ho.no hrk
        refine g_aload_n m128_5 rfl ?_
        refine h_gfI (k := 57) (p := 89) m128_6 rfl (t_57 _ _) rfl (h14) ?_
        refine h_if_eqT (xi := 0) (zi := 0) m128_9 rfl rfl (by decide) ?_
        refine g_iload_n m128_57 rfl ?_
        refine g_iret m128_58 rt_128 ?_
        exact hQ _ _ (by rw [← hfin2]; exact ho)
    | succ k ihk =>
      intro i o2 r v m2 hi ho hg hpl hfin
      obtain ⟨g1, g2, g3⟩ := hg
      by_cases hrk : r.2.2 = true
      · have hK2 := hK.at ho hrk
        have hF2 := ho.1
        have hT2 := hF2.tap hT
        have hpl1 := hpl hrk
        obtain ⟨g4, g5, g6⟩ := g3 hrk
        refine g_aload_n m128_5 rfl ?_
        refine h_gfI (k := 57) (p := 89) m128_6 rfl (t_57 _ _) rfl (hK2.2.2.2.2.2.2.2) ?_
        refine h_if_eqF (xi := 1) (zi := 0) m128_9 rfl rfl (by decide) ?_
        refine g_aload_n m128_12 rfl ?_
        refine g_aload_n m128_13 rfl ?_
        refine h_gfI (k := 57) (p := 89) m128_14 rfl (t_57 _ _) rfl (hK2.2.1) ?_
        refine h_cv (k := 57) (p := 89) (args := [.int (nI (r.2.1))]) (rest := []) m128_17 cn_119 (Nat.le_of_ble_eq_true rfl) rfl rfl rfl (t_57 _ _) (Nat.le_of_ble_eq_true rfl) ?_
        refine c_byteAt hK2.1 hK2.2.2.1 hu g2 hn hT2 (fun hpn z hz hze => ?_) (fun hpn => ?_)
        · have hbt : bt (BT m u) n r.2.1 = (z : Int) := btW_y hpn (by rw [← hF2.bt u]; exact hze) hz
          refine gwr ?_
          refine g_bipush m128_20 ?_
          refine h_ic_ne (xi := ((z : Nat) : Int)) (zi := 124) m128_22 (nI_toInt (by omega)) rfl (fun c1 => ?_) (fun c1 => ?_)
          · skip
            obtain rfl : z = 124 := by omega
            rw [PLoop_y (k := k) ⟨hrk, by rw [hbt]; rfl⟩, hbt, ofInt_n] at hfin
            refine g_aload_n m128_25 rfl ?_
            refine g_dup m128_26 rfl ?_
            refine h_gfI (k := 57) (p := 89) m128_27 rfl (t_57 _ _) rfl (hK2.2.1) ?_
            refine g_iconst m128_30 ?_
            refine g_iadd (u := nI ((r.2.1) + 1)) m128_31 (nI_add (r.2.1) 1) ?_
            refine h_pfI (k := 57) (p := 89) m128_32 rfl (t_57 _ _) rfl trivial ?_
            refine g_aload_n m128_35 rfl ?_
            refine h_cv (k := 57) (p := 89) (args := []) (rest := []) m128_36 cn_129 (Nat.le_of_ble_eq_true rfl) rfl rfl rfl (t_57 _ _) (Nat.le_of_ble_eq_true rfl) ?_
            have hK3 : WkS (upm m2 57 8 (nI (r.2.1 + 1))) u n (r.2.1 + 1) op a b c true := ⟨hK2.1, rfl, hK2.2.2.1, hK2.2.2.2.1, hK2.2.2.2.2.1, hK2.2.2.2.2.2.1, hK2.2.2.2.2.2.2.1, hK2.2.2.2.2.2.2.2⟩
            have hF3 : FrW m2 (upm m2 57 8 (nI (r.2.1 + 1))) := FrW.rf.up _ (Or.inl rfl)
            have ht3 : BT (upm m2 57 8 (nI (r.2.1 + 1))) u = BT m u := (hF2.tr hF3).bt u
            refine ih _ _ _ op (r.2.1 + 1) (by omega) hop hK3 (by omega) hn (hF3.tap hT2) (by omega) (fun v2 m4 ho4 => ?_)
            rw [ht3] at ho4
            have hg4 := PL_ok (BT m u) n u f 1 op (r.2.1 + 1) hpn
            refine gwr ?_
            refine g_istore_n (L2 := [some (.ref (89)), some (.int (v)), some (.int (v2))]) m128_39 rfl rfl ?_
            refine g_iload_n m128_40 rfl ?_
            refine h_if_ne (xi := _) (zi := 0) m128_41 rfl rfl (fun c2 => ?_) (fun c2 => ?_)
            · skip
              refine g_iload_n m128_44 rfl ?_
              refine h_if_eq (xi := _) (zi := 0) m128_45 rfl rfl (fun c3 => ?_) (fun c3 => ?_)
              · skip
                refine g_iconst m128_52 ?_
                refine g_istore_n (L2 := [some (.ref (89)), some (.int (0)), some (.int (v2))]) m128_53 rfl rfl ?_
                refine g_goto m128_54 ?_
                refine ihk (i + 1) _ _ _ _ (by omega) (ho.bin hrk hF3 ho4 (lv := 0) (z := 124) rfl (bv_124.trans (by simp [c2, c3]))) ?_ ?_ hfin
                · obtain ⟨q1, q2, q3⟩ := hg4
                  refine ⟨by show p ≤ (PL (BT m u) n u f 1 op (r.2.1 + 1)).2.1; omega, q2, fun hk => ?_⟩
                  obtain ⟨q4, q5, q6⟩ := q3 hk
                  refine ⟨by show p < (PL (BT m u) n u f 1 op (r.2.1 + 1)).2.1; omega, CodeOk_bin (lv := 0) (z := ((124 : Nat) : Int)) g5 q5 rfl, ?_⟩
                  show (r.1 ++ (PL (BT m u) n u f 1 op (r.2.1 + 1)).1 ++ [nI 124]).length ≤ (PL (BT m u) n u f 1 op (r.2.1 + 1)).2.1 - p
                  rw [List.length_append, List.length_append, List.length_singleton]
                  omega
                · intro hk
                  have q4 := (hg4.2.2 hk).1
                  show p + 2 * (i + 1) + 1 ≤ (PL (BT m u) n u f 1 op (r.2.1 + 1)).2.1
                  omega
              · skip
                refine g_iconst m128_48 ?_
                refine g_goto m128_49 ?_
                refine g_istore_n (L2 := [some (.ref (89)), some (.int (1)), some (.int (v2))]) m128_53 rfl rfl ?_
                refine g_goto m128_54 ?_
                refine ihk (i + 1) _ _ _ _ (by omega) (ho.bin hrk hF3 ho4 (lv := 0) (z := 124) rfl (bv_124.trans (by simp [c2, c3]))) ?_ ?_ hfin
                · obtain ⟨q1, q2, q3⟩ := hg4
                  refine ⟨by show p ≤ (PL (BT m u) n u f 1 op (r.2.1 + 1)).2.1; omega, q2, fun hk => ?_⟩
                  obtain ⟨q4, q5, q6⟩ := q3 hk
                  refine ⟨by show p < (PL (BT m u) n u f 1 op (r.2.1 + 1)).2.1; omega, CodeOk_bin (lv := 0) (z := ((124 : Nat) : Int)) g5 q5 rfl, ?_⟩
                  show (r.1 ++ (PL (BT m u) n u f 1 op (r.2.1 + 1)).1 ++ [nI 124]).length ≤ (PL (BT m u) n u f 1 op (r.2.1 + 1)).2.1 - p
                  rw [List.length_append, List.length_append, List.length_singleton]
                  omega
                · intro hk
                  have q4 := (hg4.2.2 hk).1
                  show p + 2 * (i + 1) + 1 ≤ (PL (BT m u) n u f 1 op (r.2.1 + 1)).2.1
                  omega
            · skip
              refine g_iconst m128_48 ?_
              refine g_goto m128_49 ?_
              refine g_istore_n (L2 := [some (.ref (89)), some (.int (1)), some (.int (v2))]) m128_53 rfl rfl ?_
              refine g_goto m128_54 ?_
              refine ihk (i + 1) _ _ _ _ (by omega) (ho.bin hrk hF3 ho4 (lv := 0) (z := 124) rfl (bv_124.trans (by simp [c2]))) ?_ ?_ hfin
              · obtain ⟨q1, q2, q3⟩ := hg4
                refine ⟨by show p ≤ (PL (BT m u) n u f 1 op (r.2.1 + 1)).2.1; omega, q2, fun hk => ?_⟩
                obtain ⟨q4, q5, q6⟩ := q3 hk
                refine ⟨by show p < (PL (BT m u) n u f 1 op (r.2.1 + 1)).2.1; omega, CodeOk_bin (lv := 0) (z := ((124 : Nat) : Int)) g5 q5 rfl, ?_⟩
                show (r.1 ++ (PL (BT m u) n u f 1 op (r.2.1 + 1)).1 ++ [nI 124]).length ≤ (PL (BT m u) n u f 1 op (r.2.1 + 1)).2.1 - p
                rw [List.length_append, List.length_append, List.length_singleton]
                omega
              · intro hk
                have q4 := (hg4.2.2 hk).1
                show p + 2 * (i + 1) + 1 ≤ (PL (BT m u) n u f 1 op (r.2.1 + 1)).2.1
                omega
          · skip
            refine g_iload_n m128_57 rfl ?_
            refine g_iret m128_58 rt_128 ?_
            rw [PLoop_n (fun q => by have hsg := q.2; rw [hbt] at hsg; have hin := sgl_0 hsg; omega)] at hfin
            exact hQ _ _ (by rw [← hfin]; exact ho)
        · have hbt : bt (BT m u) n r.2.1 = -1 := bt_n hpn
          refine gwr ?_
          refine g_bipush m128_20 ?_
          refine h_ic_neF (xi := (-1)) (zi := 124) m128_22 rfl rfl (by decide) ?_
          refine g_iload_n m128_57 rfl ?_
          refine g_iret m128_58 rt_128 ?_
          rw [PLoop_n (fun q => by have hsg := q.2; rw [hbt] at hsg; have hin := sgl_0 hsg; omega)] at hfin
          exact hQ _ _ (by rw [← hfin]; exact ho)
      · have h14 := ho.no hrk
        rw [PLoop_n (fun q => hrk q.1)] at hfin
        refine g_aload_n m128_5 rfl ?_
        refine h_gfI (k := 57) (p := 89) m128_6 rfl (t_57 _ _) rfl (h14) ?_
        refine h_if_eqT (xi := 0) (zi := 0) m128_9 rfl rfl (by decide) ?_
        refine g_iload_n m128_57 rfl ?_
        refine g_iret m128_58 rt_128 ?_
        exact hQ _ _ (by rw [← hfin]; exact ho)
  exact key 50 0 _ _ _ _ (by omega) ho1 hg1 (fun hk => by have := (hg1.2.2 hk).1; omega) rfl
theorem w_all {u n : Nat} {a b c : Int32} (hu : u ≤ 1) : ∀ f lv, lv ≤ 5 → Wk xs ln N u n f lv a b c
  | 0, lv, hl => fun m Q D op p hD hop hK hp hn hT hf hQ => absurd hf (by omega)
  | f + 1, lv, hl => by
    have ih := w_all (n := n) (a := a) (b := b) (c := c) hu f
    rcases (show lv = 0 ∨ lv = 1 ∨ lv = 2 ∨ lv = 3 ∨ lv = 4 ∨ lv = 5 by omega) with rfl | rfl | rfl | rfl | rfl | rfl
    · exact w_128 hu (ih 1 (by omega))
    · exact w_129 hu (ih 2 (by omega))
    · exact w_124 hu (ih 3 (by omega))
    · exact w_127 hu (ih 4 (by omega))
    · exact w_126 hu (ih 5 (by omega))
    · exact w_factor hu (ih 5 (by omega)) (ih 0 (by omega))
end
end
section
/-! THE REFERENCE: laws, faces -/
def txW (w : Nat → Int32) (u : Nat) : Nat → Int32 := fun j => w (134 + 50 * u + j)
def nW (w : Nat → Int32) (u : Nat) : Nat := (w (5 + u)).toNatClampNeg
def rkF (w : Nat → Int32) : LF := fun h c s => heldF (if (w 5).toInt < 0 then c + 9 - h / 9 else valL (TR (txW w 0) (nW w 0) 0).1 h c s) 99
def rbF (w : Nat → Int32) : LF := fun h f c => if (w 6).toInt < 0 then 0 else heldF (valL (TR (txW w 1) (nW w 1) 1).1 h f c) 1
def TxOk (w : Nat → Int32) (u : Nat) : Prop := (w (5 + u)).toInt < 0 ∨ ∃ n, n ≤ 50 ∧ w (5 + u) = nI n ∧ (∀ j, j < 50 → leI (txW w u j) 255) ∧ isText (txW w u) n u
/-- the row w with the table Y in it -/
def rowU (w : Nat → Int32) (Y : MW) : Nat → Int32 := fun j => if j = 0 then Y 0 9 else if j = 7 then Y 0 8 else if j = 2 then Y 0 10 else if 8 ≤ j ∧ j < 16 then Y 1 (j - 8) else if 16 ≤ j ∧ j < 64 then Y (2 + (j - 16) % 6) ((j - 16) / 6) else w j
def vr (r : Nat → Int32) : MW := fun j i => match j with
  | 0 => if i = 8 then r 7 else if i = 9 then r 0 else if i = 10 then r 2 else 0
  | 1 => r (8 + i)
  | j + 2 => r (16 + 6 * i + j)
def AtY (m : MW) (Y m2 : MW) : Prop := EqM (upmR m 58 (rowU (m 58) Y)) m2
section
variable {m Y m2 m3 : MW}
theorem AtY.row (h : AtY m Y m2) (j : Nat) : m2 58 j = rowU (m 58) Y j := by
  rw [EqM.at2 h j (by decide) (by decide)]
  unfold upmR
  rw [if_pos rfl]
theorem AtY.r0 (h : AtY m Y m2) : m2 58 0 = Y 0 9 := h.row 0
theorem AtY.r7 (h : AtY m Y m2) : m2 58 7 = Y 0 8 := h.row 7
theorem AtY.r2 (h : AtY m Y m2) : m2 58 2 = Y 0 10 := h.row 2
theorem AtY.rf (h : AtY m Y m2) {i : Nat} (hi : i < 8) : m2 58 (8 + i) = Y 1 i := by
  rw [h.row]
  unfold rowU
  rw [if_neg (by omega), if_neg (by omega), if_neg (by omega), if_pos (by omega), Nat.add_sub_cancel_left]
theorem rowU_c (w : Nat → Int32) (Y : MW) {i c : Nat} (hi : i < 8) (hc : c < 6) : rowU w Y (16 + 6 * i + c) = Y (2 + c) i := by
  unfold rowU
  rw [if_neg (by omega), if_neg (by omega), if_neg (by omega), if_neg (by omega), if_pos (by omega), show (16 + 6 * i + c - 16) % 6 = c by omega, show (16 + 6 * i + c - 16) / 6 = i by omega]
theorem AtY.rd (h : AtY m Y m2) {i c : Nat} (hi : i < 8) (hc : c < 6) : m2 58 (16 + 6 * i + c) = Y (2 + c) i := by
  rw [h.row]
  exact rowU_c _ _ hi hc
theorem rowU_w (w : Nat → Int32) (Y : MW) {j : Nat} (hj : 64 ≤ j ∨ j = 1 ∨ (3 ≤ j ∧ j ≤ 6)) : rowU w Y j = w j := by
  unfold rowU
  rw [if_neg (by omega), if_neg (by omega), if_neg (by omega), if_neg (by omega), if_neg (by omega)]
theorem AtY.rw (h : AtY m Y m2) {j : Nat} (hj : 64 ≤ j ∨ j = 1 ∨ (3 ≤ j ∧ j ≤ 6)) : m2 58 j = m 58 j := by
  rw [h.row]
  exact rowU_w _ _ hj
theorem AtY.upr (h : AtY m Y m2) {j : Nat} (x : Int32) {Y2 : MW} (e : ∀ i, rowU (m 58) Y2 i = if i = j then x else rowU (m 58) Y i) : AtY m Y2 (upm m2 58 j x) := by
  have e2 : upmR m 58 (rowU (m 58) Y2) = upm (upmR m 58 (rowU (m 58) Y)) 58 j x := by
    funext k i
    show (if k = 58 then rowU (m 58) Y2 else m k) i = if k = 58 ∧ i = j then x else (if k = 58 then rowU (m 58) Y else m k) i
    by_cases hk : k = 58
    · subst hk
      simp [e i]
    · simp [hk]
  unfold AtY
  rw [e2]
  exact EqM.up h _ _ _
theorem AtY.up (h : AtY m Y m2) {i c : Nat} (hi : i < 8) (hc : c < 6) (x : Int32) : AtY m (upm Y (2 + c) i x) (upm m2 58 (16 + 6 * i + c) x) := by
  refine h.upr x (fun j => ?_)
  unfold rowU upm
  by_cases h0 : j = 0
  · subst h0
    simp [show ¬ 0 = 16 + 6 * i + c by omega, show ¬ 0 = 2 + c by omega]
  · by_cases h7 : j = 7
    · subst h7
      simp [show ¬ 7 = 16 + 6 * i + c by omega, show ¬ 0 = 2 + c by omega]
    · by_cases h2 : j = 2
      · subst h2
        simp [show ¬ 2 = 16 + 6 * i + c by omega, show ¬ 0 = 2 + c by omega]
      · rw [if_neg h0, if_neg h7, if_neg h2, if_neg h0, if_neg h7, if_neg h2]
        by_cases h8 : 8 ≤ j ∧ j < 16
        · rw [if_pos h8, if_pos h8, if_neg (by omega), if_neg (by omega)]
        · rw [if_neg h8, if_neg h8]
          by_cases h16 : 16 ≤ j ∧ j < 64
          · rw [if_pos h16, if_pos h16]
            by_cases e : j = 16 + 6 * i + c
            · rw [if_pos e, if_pos (by omega)]
            · rw [if_neg e, if_neg (by omega)]
          · rw [if_neg h16, if_neg h16, if_neg (by omega)]
theorem AtY.up9 (h : AtY m Y m2) (x : Int32) : AtY m (upm Y 0 9 x) (upm m2 58 0 x) := by
  refine h.upr x (fun j => ?_)
  unfold rowU upm
  by_cases h0 : j = 0
  · subst h0
    simp
  · simp [h0]
theorem AtY.up8 (h : AtY m Y m2) (x : Int32) : AtY m (upm Y 0 8 x) (upm m2 58 7 x) := by
  refine h.upr x (fun j => ?_)
  unfold rowU upm
  by_cases h0 : j = 0
  · subst h0
    simp
  · by_cases h7 : j = 7
    · subst h7
      simp
    · simp [h0, h7]
theorem AtY.eqm (h : AtY m Y m2) (h2 : EqM m2 m3) : AtY m Y m3 := EqM.tr h h2
theorem AtY.out (h : AtY m Y m2) {k j : Nat} (hk : k ≠ 58) (hq : ¬ minor k j) : m2 k j = m k j := by
  rw [h k j hq]
  unfold upmR
  rw [if_neg hk]
theorem rowU_vr (w : Nat → Int32) : rowU w (vr w) = w := by
  funext j
  unfold rowU
  by_cases h0 : j = 0
  · subst h0
    rfl
  · by_cases h7 : j = 7
    · subst h7
      rfl
    · by_cases h2 : j = 2
      · subst h2
        rfl
      · rw [if_neg h0, if_neg h7, if_neg h2]
        by_cases h8 : 8 ≤ j ∧ j < 16
        · rw [if_pos h8]
          show w (8 + (j - 8)) = w j
          rw [show 8 + (j - 8) = j by omega]
        · rw [if_neg h8]
          by_cases h16 : 16 ≤ j ∧ j < 64
          · rw [if_pos h16, Nat.add_comm 2]
            show w (16 + 6 * ((j - 16) / 6) + (j - 16) % 6) = w j
            rw [show 16 + 6 * ((j - 16) / 6) + (j - 16) % 6 = j by omega]
          · rw [if_neg h16]
theorem AtY.self (m : MW) : AtY m (vr (m 58)) m := by
  unfold AtY
  rw [rowU_vr]
  intro k j q
  unfold upmR
  by_cases h : k = 58
  · rw [if_pos h, h]
  · rw [if_neg h]
theorem AtY.tx (h : AtY m Y m2) (u : Nat) : BT m2 u = txW (m 58) u := funext fun j => h.rw (by omega)
theorem FrV_eq {m m2 : MW} (h : ∀ k j, ¬ (k = 57 ∧ 7 ≤ j ∧ j ≤ 14) → m2 k j = m k j) : EqM m m2 := fun k j q => h k j (fun q2 => q (Or.inr q2))
end
theorem valL_e {a b c v : Int32} {cs : List Int32} (h : ∀ s, evS a b c cs s = some (v :: s)) : valL cs a b c = v := by
  unfold valL
  rw [h []]
  rfl
section
variable {xs : List Int32} {d : Nat} {h : AH} {Q : QT} {m : MW} {ln : Nat → Nat} {N : Nat}
theorem c_itsY {i w : Nat} {m0 Y : MW} {x : Int32} (hA : AtY m0 Y m) (hi : i < 8) (hw : w < 6) (hv : Y (2 + w) i = x) (hQ : Q (some (.int x)) (H m ln N)) : WP xs (d + 1) 111 0 0 [.ref 89, .int (nI i), .int (nI w)] (H m ln N) Q := c_its hi hw (by rw [hA.rd hi hw, hv]; exact hQ)
theorem upm_ne {m : MW} {k j k2 j2 : Nat} {x : Int32} (h : ¬ (k2 = k ∧ j2 = j)) : upm m k j x k2 j2 = m k2 j2 := if_neg h
set_option maxRecDepth 20000 in
set_option maxHeartbeats 40000000 in
theorem c_walks {u n : Nat} {a b c : Int32} (hu : u ≤ 1) (hn : n ≤ 50) (hs : m 58 (5 + u) = nI n) (hT : TapW m u) (hQ : ∀ v m2, (∀ k j, ¬ (k = 57 ∧ 7 ≤ j ∧ j ≤ 14) → m2 k j = m k j) → m2 57 8 = nI (TR (BT m u) n u).2.1 → m2 57 14 = (if (TR (BT m u) n u).2.2 = true ∧ (TR (BT m u) n u).2.1 = n then 1 else 0) → ((TR (BT m u) n u).2.2 = true → ∀ s, evS a b c (TR (BT m u) n u).1 s = some (v :: s)) → Q (some (.int v)) (H m2 ln N)) : WP xs (d + 810) 130 0 0 [.ref (89), .int (nI (u)), .int (a), .int (b), .int (c)] (H m ln N) Q := by
  refine wp_x mx_130 (L := [some (.ref (89)), some (.int (nI (u))), some (.int (a)), some (.int (b)), some (.int (c)), none]) (Nat.le_of_ble_eq_true rfl) rfl ?_
  refine g_aload_n m130_0 rfl ?_
  refine g_iload_n m130_1 rfl ?_
  refine h_pfI (k := 57) (p := 89) m130_2 rfl (t_57 _ _) rfl trivial ?_
  refine g_aload_n m130_5 rfl ?_
  refine g_iconst m130_6 ?_
  refine h_pfI (k := 57) (p := 89) m130_7 rfl (t_57 _ _) rfl trivial ?_
  refine g_aload_n m130_10 rfl ?_
  refine g_aload_n m130_11 rfl ?_
  refine h_gfR (c := 90) (k := 57) (p := 89) m130_12 rfl (t_57 _ _) rfl (Nat.le_of_ble_eq_true rfl) ?_
  refine g_iconst m130_15 ?_
  refine g_iload_n m130_16 rfl ?_
  refine g_iadd (u := nI (5 + u)) m130_17 (nI_add 5 u) ?_
  refine h_ial (k := 58) (p := 90) (j := 5 + u) m130_18 rfl (t_58 _ _) (rfl) (by omega) (Nat.le_of_ble_eq_true rfl) (hs) ?_
  refine h_pfI (k := 57) (p := 89) m130_19 rfl (t_57 _ _) rfl trivial ?_
  refine g_aload_n m130_22 rfl ?_
  refine g_iconst m130_23 ?_
  refine h_pfI (k := 57) (p := 89) m130_24 rfl (t_57 _ _) rfl trivial ?_
  refine g_aload_n m130_27 rfl ?_
  refine g_iconst m130_28 ?_
  refine h_pfI (k := 57) (p := 89) m130_29 rfl (t_57 _ _) rfl (Or.inr rfl) ?_
  refine g_aload_n m130_32 rfl ?_
  refine g_iload_n m130_33 rfl ?_
  refine h_pfI (k := 57) (p := 89) m130_34 rfl (t_57 _ _) rfl trivial ?_
  refine g_aload_n m130_37 rfl ?_
  refine g_iload_n m130_38 rfl ?_
  refine h_pfI (k := 57) (p := 89) m130_39 rfl (t_57 _ _) rfl trivial ?_
  refine g_aload_n m130_42 rfl ?_
  refine g_iload m130_43 rfl ?_
  refine h_pfI (k := 57) (p := 89) m130_45 rfl (t_57 _ _) rfl trivial ?_
  refine g_aload_n m130_48 rfl ?_
  refine h_cv (k := 57) (p := 89) (args := []) (rest := []) m130_49 cn_128 (Nat.le_of_ble_eq_true rfl) rfl rfl rfl (t_57 _ _) (Nat.le_of_ble_eq_true rfl) ?_
  have hK : WkS (upm (upm (upm (upm (upm (upm (upm (upm m 57 7 (nI u)) 57 8 0) 57 9 (nI n)) 57 10 0) 57 14 1) 57 11 a) 57 12 b) 57 13 c) u n 0 0 a b c true := ⟨rfl, rfl, rfl, rfl, rfl, rfl, rfl, rfl⟩
  have hF1 : ∀ k j, ¬ (k = 57 ∧ 7 ≤ j ∧ j ≤ 14) → (upm (upm (upm (upm (upm (upm (upm (upm m 57 7 (nI u)) 57 8 0) 57 9 (nI n)) 57 10 0) 57 14 1) 57 11 a) 57 12 b) 57 13 c) k j = m k j := fun k j q => by
    rw [upm_ne (by omega), upm_ne (by omega), upm_ne (by omega), upm_ne (by omega), upm_ne (by omega), upm_ne (by omega), upm_ne (by omega), upm_ne (by omega)]
  have hbt : BT (upm (upm (upm (upm (upm (upm (upm (upm m 57 7 (nI u)) 57 8 0) 57 9 (nI n)) 57 10 0) 57 14 1) 57 11 a) 57 12 b) 57 13 c) u = BT m u := funext fun j => hF1 58 _ (by omega)
  have hT1 : TapW (upm (upm (upm (upm (upm (upm (upm (upm m 57 7 (nI u)) 57 8 0) 57 9 (nI n)) 57 10 0) 57 14 1) 57 11 a) 57 12 b) 57 13 c) u := fun j hj => by rw [hbt]; exact hT j hj
  refine w_all (n := n) (a := a) (b := b) (c := c) hu 400 0 (by decide) _ _ _ 0 0 (by omega) (by omega) hK (by omega) hn hT1 (by omega) (fun v m2 ho => ?_)
  rw [hbt] at ho
  obtain ⟨w1, w8, w10, w14, wv⟩ := ho
  have hF2 : ∀ k j, ¬ (k = 57 ∧ 7 ≤ j ∧ j ≤ 14) → m2 k j = m k j := fun k j q => (w1 k j (by omega)).trans (hF1 k j q)
  have hg := PL_ok (BT m u) n u 400 0 0 0 (by omega)
  have hle : (TR (BT m u) n u).2.1 ≤ n := hg.2.1
  have w9 : m2 57 9 = nI n := w1 57 9 (by omega)
  have w8 : m2 57 8 = nI (TR (BT m u) n u).2.1 := w8
  have wv : (TR (BT m u) n u).2.2 = true → ∀ s, evS a b c (TR (BT m u) n u).1 s = some (v :: s) := wv
  by_cases hok : (TR (BT m u) n u).2.2 = true
  · have w14b : m2 57 14 = 1 := by have h9 : m2 57 14 = (if (TR (BT m u) n u).2.2 = true then 1 else 0) := w14; rw [if_pos hok] at h9; exact h9
    refine gwr ?_
    refine g_istore (L2 := [some (.ref (89)), some (.int (nI (u))), some (.int (a)), some (.int (b)), some (.int (c)), some (.int (v))]) m130_52 rfl rfl ?_
    refine g_aload_n m130_54 rfl ?_
    refine g_aload_n m130_55 rfl ?_
    refine h_gfI (k := 57) (p := 89) m130_56 rfl (t_57 _ _) rfl (w14b) ?_
    refine h_if_eqF (xi := 1) (zi := 0) m130_59 rfl rfl (by decide) ?_
    refine g_aload_n m130_62 rfl ?_
    refine h_gfI (k := 57) (p := 89) m130_63 rfl (t_57 _ _) rfl (w8) ?_
    refine g_aload_n m130_66 rfl ?_
    refine h_gfI (k := 57) (p := 89) m130_67 rfl (t_57 _ _) rfl (w9) ?_
    refine h_ic_ne (xi := (((TR (BT m u) n u).2.1 : Nat) : Int)) (zi := ((n : Nat) : Int)) m130_70 (nI_toInt (by omega)) (nI_toInt (by omega)) (fun c1 => ?_) (fun c1 => ?_)
    · skip
      refine g_iconst m130_73 ?_
      refine g_goto m130_74 ?_
      refine h_pfI (k := 57) (p := 89) m130_78 rfl (t_57 _ _) rfl (Or.inr rfl) ?_
      refine g_iload m130_81 rfl ?_
      refine g_iret m130_83 rt_130 ?_
      exact hQ _ _ (fun k j q => (upm_ne (by omega)).trans (hF2 k j q)) w8 ((upm_self _ _ _ _).trans (if_pos ⟨hok, by omega⟩).symm) wv
    · skip
      refine g_iconst m130_77 ?_
      refine h_pfI (k := 57) (p := 89) m130_78 rfl (t_57 _ _) rfl (Or.inl rfl) ?_
      refine g_iload m130_81 rfl ?_
      refine g_iret m130_83 rt_130 ?_
      exact hQ _ _ (fun k j q => (upm_ne (by omega)).trans (hF2 k j q)) w8 ((upm_self _ _ _ _).trans (if_neg (fun q => absurd q.2 (by omega))).symm) wv
  · have w14b : m2 57 14 = 0 := by have h9 : m2 57 14 = (if (TR (BT m u) n u).2.2 = true then 1 else 0) := w14; rw [if_neg hok] at h9; exact h9
    refine gwr ?_
    refine g_istore (L2 := [some (.ref (89)), some (.int (nI (u))), some (.int (a)), some (.int (b)), some (.int (c)), some (.int (v))]) m130_52 rfl rfl ?_
    refine g_aload_n m130_54 rfl ?_
    refine g_aload_n m130_55 rfl ?_
    refine h_gfI (k := 57) (p := 89) m130_56 rfl (t_57 _ _) rfl (w14b) ?_
    refine h_if_eqT (xi := 0) (zi := 0) m130_59 rfl rfl (by decide) ?_
    refine g_iconst m130_77 ?_
    refine h_pfI (k := 57) (p := 89) m130_78 rfl (t_57 _ _) rfl (Or.inl rfl) ?_
    refine g_iload m130_81 rfl ?_
    refine g_iret m130_83 rt_130 ?_
    exact hQ _ _ (fun k j q => (upm_ne (by omega)).trans (hF2 k j q)) w8 ((upm_self _ _ _ _).trans (if_neg (fun q => hok q.1)).symm) wv
set_option maxRecDepth 20000 in
set_option maxHeartbeats 40000000 in
theorem c_lawOf0 {m0 Y : MW} {a b c : Int32} (hA : AtY m0 Y m) (hX0 : TxOk (m0 58) 0) (hQ : ∀ m2, AtY m0 Y m2 → Q (some (.int (rkF (m0 58) a b c))) (H m2 ln N)) : WP xs (d + 811) 131 0 0 [.ref (89), .int (0), .int (a), .int (b), .int (c)] (H m ln N) Q := by
  refine wp_x mx_131 (L := [some (.ref (89)), some (.int (0)), some (.int (a)), some (.int (b)), some (.int (c)), none]) (Nat.le_of_ble_eq_true rfl) rfl ?_
  have e5 : m 58 5 = m0 58 5 := hA.rw (by omega)
  by_cases hneg : (m0 58 5).toInt < 0
  · skip
    have e : rkF (m0 58) a b c = heldF (b + 9 - a / 9) 99 := by
      unfold rkF
      rw [if_pos hneg]
    rw [e] at hQ
    refine g_iload_n m131_0 rfl ?_
    refine h_if_neT (xi := 0) (zi := 0) m131_1 rfl rfl (by decide) ?_
    refine g_bipush m131_4 ?_
    refine g_goto m131_6 ?_
    refine g_istore (L2 := [some (.ref (89)), some (.int (0)), some (.int (a)), some (.int (b)), some (.int (c)), some (.int (99))]) m131_10 rfl rfl ?_
    refine g_aload_n m131_12 rfl ?_
    refine h_gfR (c := 90) (k := 57) (p := 89) m131_13 rfl (t_57 _ _) rfl (Nat.le_of_ble_eq_true rfl) ?_
    refine g_iconst m131_16 ?_
    refine g_iload_n m131_17 rfl ?_
    refine g_iadd (u := (5 : Int32)) m131_18 (by decide) ?_
    refine h_ial (k := 58) (p := 90) (j := 5) m131_19 rfl (t_58 _ _) (rfl) (by omega) (Nat.le_of_ble_eq_true rfl) (e5) ?_
    refine h_if_ltT (xi := (m0 58 5).toInt) (zi := 0) m131_20 rfl rfl (hneg) ?_
    refine g_iload_n m131_39 rfl ?_
    refine h_if_neT (xi := 0) (zi := 0) m131_40 rfl rfl (by decide) ?_
    refine g_iload_n m131_43 rfl ?_
    refine g_bipush m131_44 ?_
    refine g_iadd m131_46 rfl ?_
    refine g_iload_n m131_47 rfl ?_
    refine g_bipush m131_48 ?_
    refine g_idiv m131_50 (by decide) rfl ?_
    refine g_isub m131_51 rfl ?_
    refine g_iconst m131_52 ?_
    refine g_iload m131_53 rfl ?_
    refine g_cs (args := [.int (((b + (9 : Int32)) - (a / (9 : Int32)))), .int (0), .int (99)]) (rest := []) 0 (Or.inl rfl) m131_55 (Nat.le_of_ble_eq_true rfl) rfl rfl (Nat.le_of_ble_eq_true rfl) ?_
    refine c_heldM ?_
    refine gwr ?_
    refine g_goto m131_58 ?_
    refine g_iret m131_62 rt_131 ?_
    exact hQ _ hA
  · obtain ⟨n, hn, hne, hTx, hok⟩ : ∃ n, n ≤ 50 ∧ m0 58 5 = nI n ∧ (∀ j, j < 50 → leI (txW (m0 58) 0 j) 255) ∧ isText (txW (m0 58) 0) n 0 := hX0.resolve_left hneg
    have htx : BT m 0 = txW (m0 58) 0 := hA.tx 0
    have hnw : nW (m0 58) 0 = n := by
      unfold nW
      rw [show m0 58 (5 + 0) = nI n from hne]
      exact nI_clamp (by omega)
    refine g_iload_n m131_0 rfl ?_
    refine h_if_neT (xi := 0) (zi := 0) m131_1 rfl rfl (by decide) ?_
    refine g_bipush m131_4 ?_
    refine g_goto m131_6 ?_
    refine g_istore (L2 := [some (.ref (89)), some (.int (0)), some (.int (a)), some (.int (b)), some (.int (c)), some (.int (99))]) m131_10 rfl rfl ?_
    refine g_aload_n m131_12 rfl ?_
    refine h_gfR (c := 90) (k := 57) (p := 89) m131_13 rfl (t_57 _ _) rfl (Nat.le_of_ble_eq_true rfl) ?_
    refine g_iconst m131_16 ?_
    refine g_iload_n m131_17 rfl ?_
    refine g_iadd (u := (5 : Int32)) m131_18 (by decide) ?_
    refine h_ial (k := 58) (p := 90) (j := 5) m131_19 rfl (t_58 _ _) (rfl) (by omega) (Nat.le_of_ble_eq_true rfl) (e5) ?_
    refine h_if_ltF (xi := (m0 58 5).toInt) (zi := 0) m131_20 rfl rfl (hneg) ?_
    refine g_aload_n m131_23 rfl ?_
    refine g_iload_n m131_24 rfl ?_
    refine g_iload_n m131_25 rfl ?_
    refine g_iload_n m131_26 rfl ?_
    refine g_iload m131_27 rfl ?_
    refine h_cv (k := 57) (p := 89) (args := [.int (0), .int (a), .int (b), .int (c)]) (rest := []) m131_29 cn_130 (Nat.le_of_ble_eq_true rfl) rfl rfl rfl (t_57 _ _) (Nat.le_of_ble_eq_true rfl) ?_
    refine c_walks (u := 0) (by decide) hn (e5.trans hne) (fun j hj => by rw [htx]; exact hTx j hj) (fun v m2 hF w8 w14 wv => ?_)
    rw [htx] at wv
    have hv := valL_e (wv hok.1)
    have e : rkF (m0 58) a b c = heldF v 99 := by
      unfold rkF
      rw [if_neg hneg, hnw, hv]
    rw [e] at hQ
    refine gwr ?_
    refine g_iconst m131_32 ?_
    refine g_iload m131_33 rfl ?_
    refine g_cs (args := [.int (v), .int (0), .int (99)]) (rest := []) 0 (Or.inl rfl) m131_35 (Nat.le_of_ble_eq_true rfl) rfl rfl (Nat.le_of_ble_eq_true rfl) ?_
    refine c_heldM ?_
    refine gwr ?_
    refine g_iret m131_38 rt_131 ?_
    exact hQ _ (hA.eqm (FrV_eq hF))
set_option maxRecDepth 20000 in
set_option maxHeartbeats 40000000 in
theorem c_lawOf1 {m0 Y : MW} {a b c : Int32} (hA : AtY m0 Y m) (hX1 : TxOk (m0 58) 1) (hQ : ∀ m2, AtY m0 Y m2 → Q (some (.int (rbF (m0 58) a b c))) (H m2 ln N)) : WP xs (d + 811) 131 0 0 [.ref (89), .int (1), .int (a), .int (b), .int (c)] (H m ln N) Q := by
  refine wp_x mx_131 (L := [some (.ref (89)), some (.int (1)), some (.int (a)), some (.int (b)), some (.int (c)), none]) (Nat.le_of_ble_eq_true rfl) rfl ?_
  have e5 : m 58 6 = m0 58 6 := hA.rw (by omega)
  by_cases hneg : (m0 58 6).toInt < 0
  · skip
    have e : rbF (m0 58) a b c = 0 := by
      unfold rbF
      rw [if_pos hneg]
    rw [e] at hQ
    refine g_iload_n m131_0 rfl ?_
    refine h_if_neF (xi := 1) (zi := 0) m131_1 rfl rfl (by decide) ?_
    refine g_iconst m131_9 ?_
    refine g_istore (L2 := [some (.ref (89)), some (.int (1)), some (.int (a)), some (.int (b)), some (.int (c)), some (.int (1))]) m131_10 rfl rfl ?_
    refine g_aload_n m131_12 rfl ?_
    refine h_gfR (c := 90) (k := 57) (p := 89) m131_13 rfl (t_57 _ _) rfl (Nat.le_of_ble_eq_true rfl) ?_
    refine g_iconst m131_16 ?_
    refine g_iload_n m131_17 rfl ?_
    refine g_iadd (u := (6 : Int32)) m131_18 (by decide) ?_
    refine h_ial (k := 58) (p := 90) (j := 6) m131_19 rfl (t_58 _ _) (rfl) (by omega) (Nat.le_of_ble_eq_true rfl) (e5) ?_
    refine h_if_ltT (xi := (m0 58 6).toInt) (zi := 0) m131_20 rfl rfl (hneg) ?_
    refine g_iload_n m131_39 rfl ?_
    refine h_if_neF (xi := 1) (zi := 0) m131_40 rfl rfl (by decide) ?_
    refine g_iconst m131_61 ?_
    refine g_iret m131_62 rt_131 ?_
    exact hQ _ hA
  · obtain ⟨n, hn, hne, hTx, hok⟩ : ∃ n, n ≤ 50 ∧ m0 58 6 = nI n ∧ (∀ j, j < 50 → leI (txW (m0 58) 1 j) 255) ∧ isText (txW (m0 58) 1) n 1 := hX1.resolve_left hneg
    have htx : BT m 1 = txW (m0 58) 1 := hA.tx 1
    have hnw : nW (m0 58) 1 = n := by
      unfold nW
      rw [show m0 58 (5 + 1) = nI n from hne]
      exact nI_clamp (by omega)
    refine g_iload_n m131_0 rfl ?_
    refine h_if_neF (xi := 1) (zi := 0) m131_1 rfl rfl (by decide) ?_
    refine g_iconst m131_9 ?_
    refine g_istore (L2 := [some (.ref (89)), some (.int (1)), some (.int (a)), some (.int (b)), some (.int (c)), some (.int (1))]) m131_10 rfl rfl ?_
    refine g_aload_n m131_12 rfl ?_
    refine h_gfR (c := 90) (k := 57) (p := 89) m131_13 rfl (t_57 _ _) rfl (Nat.le_of_ble_eq_true rfl) ?_
    refine g_iconst m131_16 ?_
    refine g_iload_n m131_17 rfl ?_
    refine g_iadd (u := (6 : Int32)) m131_18 (by decide) ?_
    refine h_ial (k := 58) (p := 90) (j := 6) m131_19 rfl (t_58 _ _) (rfl) (by omega) (Nat.le_of_ble_eq_true rfl) (e5) ?_
    refine h_if_ltF (xi := (m0 58 6).toInt) (zi := 0) m131_20 rfl rfl (hneg) ?_
    refine g_aload_n m131_23 rfl ?_
    refine g_iload_n m131_24 rfl ?_
    refine g_iload_n m131_25 rfl ?_
    refine g_iload_n m131_26 rfl ?_
    refine g_iload m131_27 rfl ?_
    refine h_cv (k := 57) (p := 89) (args := [.int (1), .int (a), .int (b), .int (c)]) (rest := []) m131_29 cn_130 (Nat.le_of_ble_eq_true rfl) rfl rfl rfl (t_57 _ _) (Nat.le_of_ble_eq_true rfl) ?_
    refine c_walks (u := 1) (by decide) hn (e5.trans hne) (fun j hj => by rw [htx]; exact hTx j hj) (fun v m2 hF w8 w14 wv => ?_)
    rw [htx] at wv
    have hv := valL_e (wv hok.1)
    have e : rbF (m0 58) a b c = heldF v 1 := by
      unfold rbF
      rw [if_neg hneg, hnw, hv]
    rw [e] at hQ
    refine gwr ?_
    refine g_iconst m131_32 ?_
    refine g_iload m131_33 rfl ?_
    refine g_cs (args := [.int (v), .int (0), .int (1)]) (rest := []) 0 (Or.inl rfl) m131_35 (Nat.le_of_ble_eq_true rfl) rfl rfl (Nat.le_of_ble_eq_true rfl) ?_
    refine c_heldM ?_
    refine gwr ?_
    refine g_iret m131_38 rt_131 ?_
    exact hQ _ (hA.eqm (FrV_eq hF))
set_option maxRecDepth 20000 in
set_option maxHeartbeats 40000000 in
theorem c_faceM {i : Nat} {m0 Y : MW} (hA : AtY m0 Y m) (hX0 : TxOk (m0 58) 0) (hi : i < 8) (hk : leI (Y 2 i) 6) (hQ : ∀ m2, AtY m0 Y m2 → Q (some (.int (faceF (rkF (m0 58)) Y i))) (H m2 ln N)) : WP xs (d + 812) 132 0 0 [.ref (89), .int (nI (i))] (H m ln N) Q := by
  refine wp_x mx_132 (L := [some (.ref (89)), some (.int (nI (i))), none, none, none]) (Nat.le_of_ble_eq_true rfl) rfl ?_
  obtain ⟨kd, hkd, hke⟩ := hk
  refine g_aload_n m132_0 rfl ?_
  refine g_iload_n m132_1 rfl ?_
  refine g_iconst m132_2 ?_
  refine h_cv (k := 57) (p := 89) (args := [.int (nI (i)), .int (2)]) (rest := []) m132_3 cn_111 (Nat.le_of_ble_eq_true rfl) rfl rfl rfl (t_57 _ _) (Nat.le_of_ble_eq_true rfl) ?_
  refine c_itsY (w := 2) (x := Y 4 i) hA hi (by decide) rfl ?_
  refine gwr ?_
  refine g_istore_n (L2 := [some (.ref (89)), some (.int (nI (i))), some (.int (Y 4 i)), none, none]) m132_6 rfl rfl ?_
  refine g_aload_n m132_7 rfl ?_
  refine g_iload_n m132_8 rfl ?_
  refine g_iconst m132_9 ?_
  refine h_cv (k := 57) (p := 89) (args := [.int (nI (i)), .int (3)]) (rest := []) m132_10 cn_111 (Nat.le_of_ble_eq_true rfl) rfl rfl rfl (t_57 _ _) (Nat.le_of_ble_eq_true rfl) ?_
  refine c_itsY (w := 3) (x := Y 5 i) hA hi (by decide) rfl ?_
  refine gwr ?_
  refine g_istore_n (L2 := [some (.ref (89)), some (.int (nI (i))), some (.int (Y 4 i)), some (.int (Y 5 i)), none]) m132_13 rfl rfl ?_
  refine g_aload_n m132_14 rfl ?_
  refine g_iconst m132_15 ?_
  refine g_iload_n m132_16 rfl ?_
  refine g_aload_n m132_17 rfl ?_
  refine g_iload_n m132_18 rfl ?_
  refine g_iconst m132_19 ?_
  refine h_cv (k := 57) (p := 89) (args := [.int (nI (i)), .int (4)]) (rest := [.int (Y 4 i), .int (0), .ref (89)]) m132_20 cn_111 (Nat.le_of_ble_eq_true rfl) rfl rfl rfl (t_57 _ _) (Nat.le_of_ble_eq_true rfl) ?_
  refine c_itsY (w := 4) (x := Y 6 i) hA hi (by decide) rfl ?_
  refine gwr ?_
  refine g_aload_n m132_23 rfl ?_
  refine h_gfR (c := 90) (k := 57) (p := 89) m132_24 rfl (t_57 _ _) rfl (Nat.le_of_ble_eq_true rfl) ?_
  refine g_iconst m132_27 ?_
  refine h_ial (k := 58) (p := 90) (j := 0) m132_28 rfl (t_58 _ _) rfl (by omega) (Nat.le_of_ble_eq_true rfl) (hA.r0) ?_
  refine g_bipush m132_29 ?_
  refine g_irem m132_31 (by decide) rfl ?_
  refine h_cv (k := 57) (p := 89) (args := [.int (0), .int (Y 4 i), .int (Y 6 i), .int _]) (rest := []) m132_32 cn_131 (Nat.le_of_ble_eq_true rfl) rfl rfl rfl (t_57 _ _) (Nat.le_of_ble_eq_true rfl) ?_
  refine c_lawOf0 hA hX0 (fun m_1 hA_2 => ?_)
  refine gwr ?_
  refine g_istore (L2 := [some (.ref (89)), some (.int (nI (i))), some (.int (Y 4 i)), some (.int (Y 5 i)), some (.int (rkF (m0 58) (Y 4 i) (Y 6 i) _))]) m132_35 rfl rfl ?_
  refine g_aload_n m132_37 rfl ?_
  refine g_iload_n m132_38 rfl ?_
  refine g_iconst m132_39 ?_
  refine h_cv (k := 57) (p := 89) (args := [.int (nI (i)), .int (0)]) (rest := []) m132_40 cn_111 (Nat.le_of_ble_eq_true rfl) rfl rfl rfl (t_57 _ _) (Nat.le_of_ble_eq_true rfl) ?_
  refine c_itsY (w := 0) (x := nI (kd)) hA_2 hi (by decide) (hke) ?_
  refine gwr ?_
  rcases (show kd = 0 ∨ kd = 1 ∨ kd = 2 ∨ kd = 3 ∨ kd = 4 ∨ kd = 5 ∨ kd = 6 by omega) with rfl | rfl | rfl | rfl | rfl | rfl | rfl
  · skip
    refine gs m132_43 ?_
    refine gwpc (pc' := 157) rfl ?_
    refine g_iload m132_157 rfl ?_
    refine g_iload_n m132_159 rfl ?_
    refine g_iadd m132_160 rfl ?_
    refine g_iret m132_161 rt_132 ?_
    rw [show faceF (rkF (m0 58)) Y i = _ from fk_0 hke] at hQ
    exact hQ _ hA_2
  · skip
    refine gs m132_43 ?_
    refine gwpc (pc' := 80) rfl ?_
    refine g_iload m132_80 rfl ?_
    refine g_iload_n m132_82 rfl ?_
    refine g_iadd m132_83 rfl ?_
    refine g_aload_n m132_84 rfl ?_
    refine g_iload_n m132_85 rfl ?_
    refine g_iconst m132_86 ?_
    refine h_cv (k := 57) (p := 89) (args := [.int (nI (i)), .int (1)]) (rest := [.int ((rkF (m0 58) (Y 4 i) (Y 6 i) _ + Y 5 i))]) m132_87 cn_111 (Nat.le_of_ble_eq_true rfl) rfl rfl rfl (t_57 _ _) (Nat.le_of_ble_eq_true rfl) ?_
    refine c_itsY (w := 1) (x := Y 3 i) hA_2 hi (by decide) rfl ?_
    refine gwr ?_
    refine g_iadd m132_90 rfl ?_
    refine g_iret m132_91 rt_132 ?_
    rw [show faceF (rkF (m0 58)) Y i = _ from fk_1 hke] at hQ
    exact hQ _ hA_2
  · skip
    refine gs m132_43 ?_
    refine gwpc (pc' := 107) rfl ?_
    refine g_iload m132_107 rfl ?_
    refine g_iconst m132_109 ?_
    refine g_idiv m132_110 (by decide) rfl ?_
    refine g_iload_n m132_111 rfl ?_
    refine g_iadd m132_112 rfl ?_
    refine g_iret m132_113 rt_132 ?_
    rw [show faceF (rkF (m0 58)) Y i = _ from fk_2 hke] at hQ
    exact hQ _ hA_2
  · skip
    refine gs m132_43 ?_
    refine gwpc (pc' := 137) rfl ?_
    refine g_iload m132_137 rfl ?_
    refine g_iload_n m132_139 rfl ?_
    refine g_iadd m132_140 rfl ?_
    refine g_iload_n m132_141 rfl ?_
    refine g_iconst m132_142 ?_
    refine g_idiv m132_143 (by decide) rfl ?_
    refine g_isub m132_144 rfl ?_
    refine g_iret m132_145 rt_132 ?_
    rw [show faceF (rkF (m0 58)) Y i = _ from fk_3 hke] at hQ
    exact hQ _ hA_2
  · skip
    refine gs m132_43 ?_
    refine gwpc (pc' := 92) rfl ?_
    refine g_iload m132_92 rfl ?_
    refine g_iload_n m132_94 rfl ?_
    refine g_iadd m132_95 rfl ?_
    refine g_aload_n m132_96 rfl ?_
    refine g_iload_n m132_97 rfl ?_
    refine g_iconst m132_98 ?_
    refine h_cv (k := 57) (p := 89) (args := [.int (nI (i)), .int (1)]) (rest := [.int ((rkF (m0 58) (Y 4 i) (Y 6 i) _ + Y 5 i))]) m132_99 cn_111 (Nat.le_of_ble_eq_true rfl) rfl rfl rfl (t_57 _ _) (Nat.le_of_ble_eq_true rfl) ?_
    refine c_itsY (w := 1) (x := Y 3 i) hA_2 hi (by decide) rfl ?_
    refine gwr ?_
    refine g_iadd m132_102 rfl ?_
    refine g_bipush m132_103 ?_
    refine g_isub m132_105 rfl ?_
    refine g_iret m132_106 rt_132 ?_
    rw [show faceF (rkF (m0 58)) Y i = _ from fk_4 hke] at hQ
    exact hQ _ hA_2
  · skip
    refine gs m132_43 ?_
    refine gwpc (pc' := 114) rfl ?_
    refine g_iload m132_114 rfl ?_
    refine g_iconst m132_116 ?_
    refine g_idiv m132_117 (by decide) rfl ?_
    refine g_iload_n m132_118 rfl ?_
    refine g_iadd m132_119 rfl ?_
    refine g_aload_n m132_120 rfl ?_
    refine g_iload_n m132_121 rfl ?_
    refine g_iconst m132_122 ?_
    refine h_cv (k := 57) (p := 89) (args := [.int (nI (i)), .int (4)]) (rest := [.int (((rkF (m0 58) (Y 4 i) (Y 6 i) _ / (2 : Int32)) + Y 5 i))]) m132_123 cn_111 (Nat.le_of_ble_eq_true rfl) rfl rfl rfl (t_57 _ _) (Nat.le_of_ble_eq_true rfl) ?_
    refine c_itsY (w := 4) (x := Y 6 i) hA_2 hi (by decide) rfl ?_
    refine gwr ?_
    refine h_if_le (xi := _) (zi := 0) m132_126 rfl rfl (fun c5 => ?_) (fun c5 => ?_)
    · skip
      refine g_iconst m132_134 ?_
      refine g_iadd m132_135 rfl ?_
      refine g_iret m132_136 rt_132 ?_
      have e : faceF (rkF (m0 58)) Y i = _ := (fk_5 hke).trans (by rw [if_neg (by omega)])
      rw [e] at hQ
      exact hQ _ hA_2
    · skip
      refine g_bipush m132_129 ?_
      refine g_goto m132_131 ?_
      refine g_iadd m132_135 rfl ?_
      refine g_iret m132_136 rt_132 ?_
      have e : faceF (rkF (m0 58)) Y i = _ := (fk_5 hke).trans (by rw [if_pos (by omega)])
      rw [e] at hQ
      exact hQ _ hA_2
  · skip
    refine gs m132_43 ?_
    refine gwpc (pc' := 146) rfl ?_
    refine g_iload m132_146 rfl ?_
    refine g_iconst m132_148 ?_
    refine g_iload_n m132_149 rfl ?_
    refine g_imul m132_150 rfl ?_
    refine g_iadd m132_151 rfl ?_
    refine g_iload_n m132_152 rfl ?_
    refine g_iconst m132_153 ?_
    refine g_idiv m132_154 (by decide) rfl ?_
    refine g_isub m132_155 rfl ?_
    refine g_iret m132_156 rt_132 ?_
    rw [show faceF (rkF (m0 58)) Y i = _ from fk_6 hke] at hQ
    exact hQ _ hA_2
set_option maxRecDepth 20000 in
set_option maxHeartbeats 40000000 in
theorem c_growsM {i : Nat} {m0 Y : MW} (hA : AtY m0 Y m) (hi : i < 8) (hk : leI (Y 2 i) 6) (hQ : Q (some (.int (growsF Y i))) (H m ln N)) : WP xs (d + 2) 141 0 0 [.ref (89), .int (nI (i))] (H m ln N) Q := by
  refine wp_x mx_141 (L := [some (.ref (89)), some (.int (nI (i)))]) (Nat.le_of_ble_eq_true rfl) rfl ?_
  obtain ⟨kd, hkd, hke⟩ := hk
  refine g_aload_n m141_0 rfl ?_
  refine g_iload_n m141_1 rfl ?_
  refine g_iconst m141_2 ?_
  refine h_cv (k := 57) (p := 89) (args := [.int (nI (i)), .int (0)]) (rest := []) m141_3 cn_111 (Nat.le_of_ble_eq_true rfl) rfl rfl rfl (t_57 _ _) (Nat.le_of_ble_eq_true rfl) ?_
  refine c_itsY (w := 0) (x := nI (kd)) hA hi (by decide) (hke) ?_
  refine gwr ?_
  rcases (show kd = 0 ∨ kd = 1 ∨ kd = 2 ∨ kd = 3 ∨ kd = 4 ∨ kd = 5 ∨ kd = 6 by omega) with rfl | rfl | rfl | rfl | rfl | rfl | rfl
  · skip
    refine gs m141_6 ?_
    refine gwpc (pc' := 59) rfl ?_
    refine g_iconst m141_59 ?_
    refine g_iret m141_60 rt_141 ?_
    rw [show growsF Y i = _ from gk hke (by decide)] at hQ
    exact hQ
  · skip
    refine gs m141_6 ?_
    refine gwpc (pc' := 44) rfl ?_
    refine g_iconst m141_44 ?_
    refine g_iret m141_45 rt_141 ?_
    rw [show growsF Y i = _ from gk hke (by decide)] at hQ
    exact hQ
  · skip
    refine gs m141_6 ?_
    refine gwpc (pc' := 46) rfl ?_
    refine g_iconst m141_46 ?_
    refine g_iret m141_47 rt_141 ?_
    rw [show growsF Y i = _ from gk hke (by decide)] at hQ
    exact hQ
  · skip
    refine gs m141_6 ?_
    refine gwpc (pc' := 48) rfl ?_
    refine g_iconst m141_48 ?_
    refine g_aload_n m141_49 rfl ?_
    refine g_iload_n m141_50 rfl ?_
    refine g_iconst m141_51 ?_
    refine h_cv (k := 57) (p := 89) (args := [.int (nI (i)), .int (1)]) (rest := [.int (1)]) m141_52 cn_111 (Nat.le_of_ble_eq_true rfl) rfl rfl rfl (t_57 _ _) (Nat.le_of_ble_eq_true rfl) ?_
    refine c_itsY (w := 1) (x := Y 3 i) hA hi (by decide) rfl ?_
    refine gwr ?_
    refine g_iconst m141_55 ?_
    refine g_irem m141_56 (by decide) rfl ?_
    refine g_iadd m141_57 rfl ?_
    refine g_iret m141_58 rt_141 ?_
    rw [show growsF Y i = _ from gk hke (by decide)] at hQ
    exact hQ
  · skip
    refine gs m141_6 ?_
    refine gwpc (pc' := 44) rfl ?_
    refine g_iconst m141_44 ?_
    refine g_iret m141_45 rt_141 ?_
    rw [show growsF Y i = _ from gk hke (by decide)] at hQ
    exact hQ
  · skip
    refine gs m141_6 ?_
    refine gwpc (pc' := 46) rfl ?_
    refine g_iconst m141_46 ?_
    refine g_iret m141_47 rt_141 ?_
    rw [show growsF Y i = _ from gk hke (by decide)] at hQ
    exact hQ
  · skip
    refine gs m141_6 ?_
    refine gwpc (pc' := 48) rfl ?_
    refine g_iconst m141_48 ?_
    refine g_aload_n m141_49 rfl ?_
    refine g_iload_n m141_50 rfl ?_
    refine g_iconst m141_51 ?_
    refine h_cv (k := 57) (p := 89) (args := [.int (nI (i)), .int (1)]) (rest := [.int (1)]) m141_52 cn_111 (Nat.le_of_ble_eq_true rfl) rfl rfl rfl (t_57 _ _) (Nat.le_of_ble_eq_true rfl) ?_
    refine c_itsY (w := 1) (x := Y 3 i) hA hi (by decide) rfl ?_
    refine gwr ?_
    refine g_iconst m141_55 ?_
    refine g_irem m141_56 (by decide) rfl ?_
    refine g_iadd m141_57 rfl ?_
    refine g_iret m141_58 rt_141 ?_
    rw [show growsF Y i = _ from gk hke (by decide)] at hQ
    exact hQ
end
end
section
/-! THE REFERENCE: steps -/
theorem AtY.c {m Y Z m2 : MW} (h : AtY m Y m2) (e : ∀ j i, Z j i = Y j i) : AtY m Z m2 := by
  have e2 : Z = Y := funext fun j => funext fun i => e j i
  rw [e2]
  exact h
section
variable {xs : List Int32} {d : Nat} {h : AH} {Q : QT} {m : MW} {ln : Nat → Nat} {N : Nat}
set_option maxRecDepth 20000 in
set_option maxHeartbeats 40000000 in
theorem c_ahead {i : Nat} {m0 Y : MW} (hA : AtY m0 Y m) (hX0 : TxOk (m0 58) 0) (hW : WF Y) (hi : i < 8) (hQ : ∀ m2, AtY m0 Y m2 → Q (some (.int (nI (aheadF (faceF (rkF (m0 58)) Y) (Y 7) (nOf Y) i)))) (H m2 ln N)) : WP xs (d + 813) 142 0 0 [.ref (89), .int (nI (i))] (H m ln N) Q := by
  refine wp_x mx_142 (L := [some (.ref (89)), some (.int (nI (i))), none, none, none, none]) (Nat.le_of_ble_eq_true rfl) rfl ?_
  obtain ⟨n, hn, hd⟩ := hW.1
  have hnn : nOf Y = n := by unfold nOf; rw [hd]; exact nI_clamp (by omega)
  rw [hnn] at hQ
  have hb : ∀ q, cntF (isAhead (faceF (rkF (m0 58)) Y) (Y 7) i) q ≤ q := cntF_le _
  refine g_aload_n m142_0 rfl ?_
  refine g_iload_n m142_1 rfl ?_
  refine h_cv (k := 57) (p := 89) (args := [.int (nI (i))]) (rest := []) m142_2 cn_132 (Nat.le_of_ble_eq_true rfl) rfl rfl rfl (t_57 _ _) (Nat.le_of_ble_eq_true rfl) ?_
  refine c_faceM hA hX0 hi (hW.2.2 i hi).2.1 (fun m_1 hA_2 => ?_)
  refine gwr ?_
  refine g_istore_n (L2 := [some (.ref (89)), some (.int (nI (i))), some (.int (faceF (rkF (m0 58)) Y i)), none, none, none]) m142_5 rfl rfl ?_
  refine g_iconst m142_6 ?_
  refine g_istore_n (L2 := [some (.ref (89)), some (.int (nI (i))), some (.int (faceF (rkF (m0 58)) Y i)), some (.int (0)), none, none]) m142_7 rfl rfl ?_
  refine g_iconst m142_8 ?_
  refine g_istore (L2 := [some (.ref (89)), some (.int (nI (i))), some (.int (faceF (rkF (m0 58)) Y i)), some (.int (0)), some (.int (0)), none]) m142_9 rfl rfl ?_
  have key : ∀ (r : Nat) (q : Nat) (o5 : Option Value) (m2 : MW), q + r = n → AtY m0 Y m2 → gw xs (WP xs (d + 812)) 142 Q 11 [some (.ref (89)), some (.int (nI (i))), some (.int (faceF (rkF (m0 58)) Y i)), some (.int (nI (cntF (isAhead (faceF (rkF (m0 58)) Y) (Y 7) i) q))), some (.int (nI (q))), o5] [] (H m2 ln N) 0 0 := by
    intro r
    induction r with
    | zero =>
      intro q o5 m2 hq hA2
      obtain rfl : q = n := by omega
      refine g_iload m142_11 rfl ?_
      refine g_aload_n m142_13 rfl ?_
      refine h_gfR (c := 90) (k := 57) (p := 89) m142_14 rfl (t_57 _ _) rfl (Nat.le_of_ble_eq_true rfl) ?_
      refine g_iconst m142_17 ?_
      refine h_ial (k := 58) (p := 90) (j := 2) m142_18 rfl (t_58 _ _) rfl (by omega) (Nat.le_of_ble_eq_true rfl) ((hA2.r2).trans hd) ?_
      refine h_ic_geT (xi := ((q : Nat) : Int)) (zi := ((q : Nat) : Int)) m142_19 (nI_toInt (by omega)) (nI_toInt (by omega)) (by omega) ?_
      refine g_iload_n m142_78 rfl ?_
      refine g_iret m142_79 rt_142 ?_
      exact hQ _ hA2
    | succ r ih =>
      intro q o5 m2 hq hA2
      refine g_iload m142_11 rfl ?_
      refine g_aload_n m142_13 rfl ?_
      refine h_gfR (c := 90) (k := 57) (p := 89) m142_14 rfl (t_57 _ _) rfl (Nat.le_of_ble_eq_true rfl) ?_
      refine g_iconst m142_17 ?_
      refine h_ial (k := 58) (p := 90) (j := 2) m142_18 rfl (t_58 _ _) rfl (by omega) (Nat.le_of_ble_eq_true rfl) ((hA2.r2).trans hd) ?_
      refine h_ic_geF (xi := ((q : Nat) : Int)) (zi := ((n : Nat) : Int)) m142_19 (nI_toInt (by omega)) (nI_toInt (by omega)) (by omega) ?_
      refine g_aload_n m142_22 rfl ?_
      refine g_iload m142_23 rfl ?_
      refine g_iconst m142_25 ?_
      refine h_cv (k := 57) (p := 89) (args := [.int (nI (q)), .int (5)]) (rest := []) m142_26 cn_111 (Nat.le_of_ble_eq_true rfl) rfl rfl rfl (t_57 _ _) (Nat.le_of_ble_eq_true rfl) ?_
      refine c_itsY (w := 5) (x := Y 7 q) hA2 (by omega) (by decide) rfl ?_
      refine gwr ?_
      refine h_if_ne (xi := _) (zi := 0) m142_29 rfl rfl (fun c1 => ?_) (fun c1 => ?_)
      · skip
        refine g_iload m142_32 rfl ?_
        refine g_iload_n m142_34 rfl ?_
        refine h_ic_eq (xi := ((q : Nat) : Int)) (zi := ((i : Nat) : Int)) m142_35 (nI_toInt (by omega)) (nI_toInt (by omega)) (fun c2 => ?_) (fun c2 => ?_)
        · skip
          refine g_iinc (L2 := [some (.ref (89)), some (.int (nI (i))), some (.int (faceF (rkF (m0 58)) Y i)), some (.int (nI (cntF (isAhead (faceF (rkF (m0 58)) Y) (Y 7) i) q))), some (.int (nI (q + 1))), o5]) m142_72 rfl (nI_1 _) rfl rfl ?_
          refine g_goto m142_75 ?_
          have e : cntF (isAhead (faceF (rkF (m0 58)) Y) (Y 7) i) (q + 1) = cntF (isAhead (faceF (rkF (m0 58)) Y) (Y 7) i) q := cnt_n (by unfold isAhead; rw [decide_eq_true_eq]; first | omega | (have e0 : q = i := (by omega); subst e0; omega))
          have h9 := ih (q + 1) (o5) _ (by omega) hA2
          rw [e] at h9
          exact h9
        · skip
          refine g_aload_n m142_38 rfl ?_
          refine g_iload m142_39 rfl ?_
          refine h_cv (k := 57) (p := 89) (args := [.int (nI (q))]) (rest := []) m142_41 cn_132 (Nat.le_of_ble_eq_true rfl) rfl rfl rfl (t_57 _ _) (Nat.le_of_ble_eq_true rfl) ?_
          refine c_faceM hA2 hX0 (by omega) (hW.2.2 q (by omega)).2.1 (fun m_3 hA_4 => ?_)
          refine gwr ?_
          refine g_istore (L2 := [some (.ref (89)), some (.int (nI (i))), some (.int (faceF (rkF (m0 58)) Y i)), some (.int (nI (cntF (isAhead (faceF (rkF (m0 58)) Y) (Y 7) i) q))), some (.int (nI (q))), some (.int (faceF (rkF (m0 58)) Y q))]) m142_44 rfl rfl ?_
          refine g_iload_n m142_46 rfl ?_
          refine g_iload m142_47 rfl ?_
          refine g_iload_n m142_49 rfl ?_
          refine h_ic_gt (xi := _) (zi := _) m142_50 rfl rfl (fun c3 => ?_) (fun c3 => ?_)
          · skip
            refine g_iconst m142_65 ?_
            refine g_goto m142_66 ?_
            refine g_iadd (u := nI (cntF (isAhead (faceF (rkF (m0 58)) Y) (Y 7) i) q + 1)) m142_70 (nI_add _ 1) ?_
            refine g_istore_n (L2 := [some (.ref (89)), some (.int (nI (i))), some (.int (faceF (rkF (m0 58)) Y i)), some (.int (nI (cntF (isAhead (faceF (rkF (m0 58)) Y) (Y 7) i) q + 1))), some (.int (nI (q))), some (.int (faceF (rkF (m0 58)) Y q))]) m142_71 rfl rfl ?_
            refine g_iinc (L2 := [some (.ref (89)), some (.int (nI (i))), some (.int (faceF (rkF (m0 58)) Y i)), some (.int (nI (cntF (isAhead (faceF (rkF (m0 58)) Y) (Y 7) i) q + 1))), some (.int (nI (q + 1))), some (.int (faceF (rkF (m0 58)) Y q))]) m142_72 rfl (nI_1 _) rfl rfl ?_
            refine g_goto m142_75 ?_
            have e : cntF (isAhead (faceF (rkF (m0 58)) Y) (Y 7) i) (q + 1) = cntF (isAhead (faceF (rkF (m0 58)) Y) (Y 7) i) q + 1 := cnt_y (by unfold isAhead; exact decide_eq_true (by omega))
            have h9 := ih (q + 1) (some (.int (faceF (rkF (m0 58)) Y q))) _ (by omega) hA_4
            rw [e] at h9
            exact h9
          · skip
            refine g_iload m142_53 rfl ?_
            refine g_iload_n m142_55 rfl ?_
            refine h_ic_ne (xi := _) (zi := _) m142_56 rfl rfl (fun c4 => ?_) (fun c4 => ?_)
            · skip
              refine g_iload m142_59 rfl ?_
              refine g_iload_n m142_61 rfl ?_
              refine h_ic_ge (xi := ((q : Nat) : Int)) (zi := ((i : Nat) : Int)) m142_62 (nI_toInt (by omega)) (nI_toInt (by omega)) (fun c5 => ?_) (fun c5 => ?_)
              · skip
                refine g_iconst m142_69 ?_
                refine g_iadd (u := nI (cntF (isAhead (faceF (rkF (m0 58)) Y) (Y 7) i) q)) m142_70 (nI_add _ 0) ?_
                refine g_istore_n (L2 := [some (.ref (89)), some (.int (nI (i))), some (.int (faceF (rkF (m0 58)) Y i)), some (.int (nI (cntF (isAhead (faceF (rkF (m0 58)) Y) (Y 7) i) q))), some (.int (nI (q))), some (.int (faceF (rkF (m0 58)) Y q))]) m142_71 rfl rfl ?_
                refine g_iinc (L2 := [some (.ref (89)), some (.int (nI (i))), some (.int (faceF (rkF (m0 58)) Y i)), some (.int (nI (cntF (isAhead (faceF (rkF (m0 58)) Y) (Y 7) i) q))), some (.int (nI (q + 1))), some (.int (faceF (rkF (m0 58)) Y q))]) m142_72 rfl (nI_1 _) rfl rfl ?_
                refine g_goto m142_75 ?_
                have e : cntF (isAhead (faceF (rkF (m0 58)) Y) (Y 7) i) (q + 1) = cntF (isAhead (faceF (rkF (m0 58)) Y) (Y 7) i) q := cnt_n (by unfold isAhead; rw [decide_eq_true_eq]; first | omega | (have e0 : q = i := (by omega); subst e0; omega))
                have h9 := ih (q + 1) (some (.int (faceF (rkF (m0 58)) Y q))) _ (by omega) hA_4
                rw [e] at h9
                exact h9
              · skip
                refine g_iconst m142_65 ?_
                refine g_goto m142_66 ?_
                refine g_iadd (u := nI (cntF (isAhead (faceF (rkF (m0 58)) Y) (Y 7) i) q + 1)) m142_70 (nI_add _ 1) ?_
                refine g_istore_n (L2 := [some (.ref (89)), some (.int (nI (i))), some (.int (faceF (rkF (m0 58)) Y i)), some (.int (nI (cntF (isAhead (faceF (rkF (m0 58)) Y) (Y 7) i) q + 1))), some (.int (nI (q))), some (.int (faceF (rkF (m0 58)) Y q))]) m142_71 rfl rfl ?_
                refine g_iinc (L2 := [some (.ref (89)), some (.int (nI (i))), some (.int (faceF (rkF (m0 58)) Y i)), some (.int (nI (cntF (isAhead (faceF (rkF (m0 58)) Y) (Y 7) i) q + 1))), some (.int (nI (q + 1))), some (.int (faceF (rkF (m0 58)) Y q))]) m142_72 rfl (nI_1 _) rfl rfl ?_
                refine g_goto m142_75 ?_
                have e : cntF (isAhead (faceF (rkF (m0 58)) Y) (Y 7) i) (q + 1) = cntF (isAhead (faceF (rkF (m0 58)) Y) (Y 7) i) q + 1 := cnt_y (by unfold isAhead; exact decide_eq_true (by omega))
                have h9 := ih (q + 1) (some (.int (faceF (rkF (m0 58)) Y q))) _ (by omega) hA_4
                rw [e] at h9
                exact h9
            · skip
              refine g_iconst m142_69 ?_
              refine g_iadd (u := nI (cntF (isAhead (faceF (rkF (m0 58)) Y) (Y 7) i) q)) m142_70 (nI_add _ 0) ?_
              refine g_istore_n (L2 := [some (.ref (89)), some (.int (nI (i))), some (.int (faceF (rkF (m0 58)) Y i)), some (.int (nI (cntF (isAhead (faceF (rkF (m0 58)) Y) (Y 7) i) q))), some (.int (nI (q))), some (.int (faceF (rkF (m0 58)) Y q))]) m142_71 rfl rfl ?_
              refine g_iinc (L2 := [some (.ref (89)), some (.int (nI (i))), some (.int (faceF (rkF (m0 58)) Y i)), some (.int (nI (cntF (isAhead (faceF (rkF (m0 58)) Y) (Y 7) i) q))), some (.int (nI (q + 1))), some (.int (faceF (rkF (m0 58)) Y q))]) m142_72 rfl (nI_1 _) rfl rfl ?_
              refine g_goto m142_75 ?_
              have e : cntF (isAhead (faceF (rkF (m0 58)) Y) (Y 7) i) (q + 1) = cntF (isAhead (faceF (rkF (m0 58)) Y) (Y 7) i) q := cnt_n (by unfold isAhead; rw [decide_eq_true_eq]; first | omega | (have e0 : q = i := (by omega); subst e0; omega))
              have h9 := ih (q + 1) (some (.int (faceF (rkF (m0 58)) Y q))) _ (by omega) hA_4
              rw [e] at h9
              exact h9
      · skip
        refine g_iinc (L2 := [some (.ref (89)), some (.int (nI (i))), some (.int (faceF (rkF (m0 58)) Y i)), some (.int (nI (cntF (isAhead (faceF (rkF (m0 58)) Y) (Y 7) i) q))), some (.int (nI (q + 1))), o5]) m142_72 rfl (nI_1 _) rfl rfl ?_
        refine g_goto m142_75 ?_
        have e : cntF (isAhead (faceF (rkF (m0 58)) Y) (Y 7) i) (q + 1) = cntF (isAhead (faceF (rkF (m0 58)) Y) (Y 7) i) q := cnt_n (by unfold isAhead; rw [decide_eq_true_eq]; first | omega | (have e0 : q = i := (by omega); subst e0; omega))
        have h9 := ih (q + 1) (o5) _ (by omega) hA2
        rw [e] at h9
        exact h9
  exact key n 0 none _ (by omega) hA_2
theorem or_0 {a : Nat} : nI a ||| (0 : Int32) = nI a := by simp
set_option maxRecDepth 20000 in
set_option maxHeartbeats 40000000 in
theorem c_servedM {m0 Y : MW} (hA : AtY m0 Y m) (hX0 : TxOk (m0 58) 0) (hW : WF Y) (hQ : ∀ m2, AtY m0 Y m2 → Q (some (.int (nI (setF (rkF (m0 58)) Y)))) (H m2 ln N)) : WP xs (d + 814) 143 0 0 [.ref (89)] (H m ln N) Q := by
  refine wp_x mx_143 (L := [some (.ref (89)), none, none]) (Nat.le_of_ble_eq_true rfl) rfl ?_
  obtain ⟨n, hn, hd⟩ := hW.1
  have hnn : nOf Y = n := by unfold nOf; rw [hd]; exact nI_clamp (by omega)
  have hset : setF (rkF (m0 58)) Y = bitsF (svF (rkF (m0 58)) Y) n := by unfold setF; rw [hnn]
  rw [hset] at hQ
  have hb : ∀ q, bitsF (svF (rkF (m0 58)) Y) q < 2 ^ q := bitsF_lt _
  have key : ∀ (r : Nat) (q : Nat) (m2 : MW), q + r = n → AtY m0 Y m2 → gw xs (WP xs (d + 813)) 143 Q 4 [some (.ref (89)), some (.int (nI (bitsF (svF (rkF (m0 58)) Y) q))), some (.int (nI (q)))] [] (H m2 ln N) 0 0 := by
    intro r
    induction r with
    | zero =>
      intro q m2 hq hA2
      obtain rfl : q = n := by omega
      refine g_iload_n m143_4 rfl ?_
      refine g_aload_n m143_5 rfl ?_
      refine h_gfR (c := 90) (k := 57) (p := 89) m143_6 rfl (t_57 _ _) rfl (Nat.le_of_ble_eq_true rfl) ?_
      refine g_iconst m143_9 ?_
      refine h_ial (k := 58) (p := 90) (j := 2) m143_10 rfl (t_58 _ _) rfl (by omega) (Nat.le_of_ble_eq_true rfl) ((hA2.r2).trans hd) ?_
      refine h_ic_geT (xi := ((q : Nat) : Int)) (zi := ((q : Nat) : Int)) m143_11 (nI_toInt (by omega)) (nI_toInt (by omega)) (by omega) ?_
      refine g_iload_n m143_54 rfl ?_
      refine g_iret m143_55 rt_143 ?_
      exact hQ _ hA2
    | succ r ih =>
      intro q m2 hq hA2
      refine g_iload_n m143_4 rfl ?_
      refine g_aload_n m143_5 rfl ?_
      refine h_gfR (c := 90) (k := 57) (p := 89) m143_6 rfl (t_57 _ _) rfl (Nat.le_of_ble_eq_true rfl) ?_
      refine g_iconst m143_9 ?_
      refine h_ial (k := 58) (p := 90) (j := 2) m143_10 rfl (t_58 _ _) rfl (by omega) (Nat.le_of_ble_eq_true rfl) ((hA2.r2).trans hd) ?_
      refine h_ic_geF (xi := ((q : Nat) : Int)) (zi := ((n : Nat) : Int)) m143_11 (nI_toInt (by omega)) (nI_toInt (by omega)) (by omega) ?_
      refine g_iload_n m143_14 rfl ?_
      refine g_aload_n m143_15 rfl ?_
      refine g_iload_n m143_16 rfl ?_
      refine g_iconst m143_17 ?_
      refine h_cv (k := 57) (p := 89) (args := [.int (nI (q)), .int (5)]) (rest := [.int (nI (bitsF (svF (rkF (m0 58)) Y) q))]) m143_18 cn_111 (Nat.le_of_ble_eq_true rfl) rfl rfl rfl (t_57 _ _) (Nat.le_of_ble_eq_true rfl) ?_
      refine c_itsY (w := 5) (x := Y 7 q) hA2 (by omega) (by decide) rfl ?_
      refine gwr ?_
      refine h_if_ne (xi := _) (zi := 0) m143_21 rfl rfl (fun c1 => ?_) (fun c1 => ?_)
      · skip
        refine g_aload_n m143_24 rfl ?_
        refine g_iload_n m143_25 rfl ?_
        refine h_cv (k := 57) (p := 89) (args := [.int (nI (q))]) (rest := [.int (nI (bitsF (svF (rkF (m0 58)) Y) q))]) m143_26 cn_142 (Nat.le_of_ble_eq_true rfl) rfl rfl rfl (t_57 _ _) (Nat.le_of_ble_eq_true rfl) ?_
        refine c_ahead hA2 hX0 hW (by omega) (fun m_5 hA_6 => ?_)
        rw [hnn]
        have hcl : aheadF (faceF (rkF (m0 58)) Y) (Y 7) n q ≤ n := cntF_le _ n
        refine gwr ?_
        refine g_aload_n m143_29 rfl ?_
        refine h_gfR (c := 90) (k := 57) (p := 89) m143_30 rfl (t_57 _ _) rfl (Nat.le_of_ble_eq_true rfl) ?_
        refine g_bipush m143_33 ?_
        refine h_ial (k := 58) (p := 90) (j := 7) m143_35 rfl (t_58 _ _) rfl (by omega) (Nat.le_of_ble_eq_true rfl) (hA_6.r7) ?_
        refine h_ic_ge (xi := ((aheadF (faceF (rkF (m0 58)) Y) (Y 7) n q : Nat) : Int)) (zi := _) m143_36 (nI_toInt (by omega)) rfl (fun c2 => ?_) (fun c2 => ?_)
        · skip
          refine g_iconst m143_45 ?_
          refine g_ior (u := nI (bitsF (svF (rkF (m0 58)) Y) q)) m143_46 or_0 ?_
          refine g_istore_n (L2 := [some (.ref (89)), some (.int (nI (bitsF (svF (rkF (m0 58)) Y) q))), some (.int (nI (q)))]) m143_47 rfl rfl ?_
          refine g_iinc (L2 := [some (.ref (89)), some (.int (nI (bitsF (svF (rkF (m0 58)) Y) q))), some (.int (nI (q + 1)))]) m143_48 rfl (nI_1 _) rfl rfl ?_
          refine g_goto m143_51 ?_
          have e : bitsF (svF (rkF (m0 58)) Y) (q + 1) = bitsF (svF (rkF (m0 58)) Y) q := bits_n (by unfold svF isServed; rw [hnn, decide_eq_true_eq]; omega)
          have h9 := ih (q + 1) _ (by omega) hA_6
          rw [e] at h9
          exact h9
        · skip
          refine g_iconst m143_39 ?_
          refine g_iload_n m143_40 rfl ?_
          refine g_ishl m143_41 rfl ?_
          refine g_goto m143_42 ?_
          refine g_ior (u := nI (bitsF (svF (rkF (m0 58)) Y) q + 2 ^ q)) m143_46 (bit_or q (by omega) _ (hb q)) ?_
          refine g_istore_n (L2 := [some (.ref (89)), some (.int (nI (bitsF (svF (rkF (m0 58)) Y) q + 2 ^ q))), some (.int (nI (q)))]) m143_47 rfl rfl ?_
          refine g_iinc (L2 := [some (.ref (89)), some (.int (nI (bitsF (svF (rkF (m0 58)) Y) q + 2 ^ q))), some (.int (nI (q + 1)))]) m143_48 rfl (nI_1 _) rfl rfl ?_
          refine g_goto m143_51 ?_
          have e : bitsF (svF (rkF (m0 58)) Y) (q + 1) = bitsF (svF (rkF (m0 58)) Y) q + 2 ^ q := bits_y (by unfold svF isServed; rw [hnn]; exact decide_eq_true (by omega))
          have h9 := ih (q + 1) _ (by omega) hA_6
          rw [e] at h9
          exact h9
      · skip
        refine g_iconst m143_45 ?_
        refine g_ior (u := nI (bitsF (svF (rkF (m0 58)) Y) q)) m143_46 or_0 ?_
        refine g_istore_n (L2 := [some (.ref (89)), some (.int (nI (bitsF (svF (rkF (m0 58)) Y) q))), some (.int (nI (q)))]) m143_47 rfl rfl ?_
        refine g_iinc (L2 := [some (.ref (89)), some (.int (nI (bitsF (svF (rkF (m0 58)) Y) q))), some (.int (nI (q + 1)))]) m143_48 rfl (nI_1 _) rfl rfl ?_
        refine g_goto m143_51 ?_
        have e : bitsF (svF (rkF (m0 58)) Y) (q + 1) = bitsF (svF (rkF (m0 58)) Y) q := bits_n (by unfold svF isServed; rw [hnn, decide_eq_true_eq]; omega)
        have h9 := ih (q + 1) _ (by omega) hA2
        rw [e] at h9
        exact h9
  refine g_iconst m143_0 ?_
  refine g_istore_n (L2 := [some (.ref (89)), some (.int (0)), none]) m143_1 rfl rfl ?_
  refine g_iconst m143_2 ?_
  refine g_istore_n (L2 := [some (.ref (89)), some (.int (0)), some (.int (0))]) m143_3 rfl rfl ?_
  exact key n 0 _ (by omega) hA
set_option maxRecDepth 20000 in
set_option maxHeartbeats 40000000 in
theorem c_sits1 {i : Nat} {m0 Y : MW} (hA : AtY m0 Y m) (hX0 : TxOk (m0 58) 0) (hX1 : TxOk (m0 58) 1) (hW : WF Y) (hi : i < 8) (hQ : ∀ m2, AtY m0 (passF (rkF (m0 58)) (rbF (m0 58)) true Y i) m2 → Q none (H m2 ln N)) : WP xs (d + 813) 144 0 0 [.ref (89), .int (nI (i)), .int (1)] (H m ln N) Q := by
  refine wp_x mx_144 (L := [some (.ref (89)), some (.int (nI (i))), some (.int (1))]) (Nat.le_of_ble_eq_true rfl) rfl ?_
  obtain ⟨hf, hk, hm, hh, hs, hc, hg⟩ := hW.2.2 i hi
  obtain ⟨hcn, hc9, hce⟩ := hc
  have hclamp : (Y 6 i).toNatClampNeg = hcn := by rw [hce]; exact nI_clamp (by omega)
  have h1 : heldF (Y 4 i - Y 1 (hcn % 8)) 99 = hungF true Y i := by unfold hungF; rw [if_pos rfl, hclamp]
  have h2 : heldF (nI (hcn + 1)) 99 = hadF true Y i := by unfold hadF; rw [if_pos rfl, hce, nI_1]
  refine g_iload_n m144_0 rfl ?_
  refine h_if_eqF (xi := 1) (zi := 0) m144_1 rfl rfl (by decide) ?_
  refine g_aload_n m144_4 rfl ?_
  refine g_iload_n m144_5 rfl ?_
  refine g_iconst m144_6 ?_
  refine g_aload_n m144_7 rfl ?_
  refine g_iload_n m144_8 rfl ?_
  refine g_iconst m144_9 ?_
  refine h_cv (k := 57) (p := 89) (args := [.int (nI (i)), .int (2)]) (rest := [.int (2), .int (nI (i)), .ref (89)]) m144_10 cn_111 (Nat.le_of_ble_eq_true rfl) rfl rfl rfl (t_57 _ _) (Nat.le_of_ble_eq_true rfl) ?_
  refine c_itsY (w := 2) (x := Y 4 i) hA hi (by decide) rfl ?_
  refine gwr ?_
  refine g_aload_n m144_13 rfl ?_
  refine h_gfR (c := 90) (k := 57) (p := 89) m144_14 rfl (t_57 _ _) rfl (Nat.le_of_ble_eq_true rfl) ?_
  refine g_bipush m144_17 ?_
  refine g_aload_n m144_19 rfl ?_
  refine g_iload_n m144_20 rfl ?_
  refine g_iconst m144_21 ?_
  refine h_cv (k := 57) (p := 89) (args := [.int (nI (i)), .int (4)]) (rest := [.int (8), .ref (90), .int (Y 4 i), .int (2), .int (nI (i)), .ref (89)]) m144_22 cn_111 (Nat.le_of_ble_eq_true rfl) rfl rfl rfl (t_57 _ _) (Nat.le_of_ble_eq_true rfl) ?_
  refine c_itsY (w := 4) (x := nI (hcn)) hA hi (by decide) (hce) ?_
  refine gwr ?_
  refine g_bipush m144_25 ?_
  refine g_irem (u := nI (hcn % 8)) m144_27 (by decide) (pk_rem (a := hcn) (d := 8) (by omega) (by decide) (by decide)) ?_
  refine g_iadd (u := nI (8 + (hcn % 8))) m144_28 (nI_add 8 (hcn % 8)) ?_
  refine h_ial (k := 58) (p := 90) (j := 8 + (hcn % 8)) m144_29 rfl (t_58 _ _) rfl (by omega) (Nat.le_of_ble_eq_true rfl) (hA.rf (by omega)) ?_
  refine g_isub m144_30 rfl ?_
  refine g_iconst m144_31 ?_
  refine g_bipush m144_32 ?_
  refine g_cs (args := [.int ((Y 4 i - Y 1 (hcn % 8))), .int (0), .int (99)]) (rest := [.int (2), .int (nI (i)), .ref (89)]) 0 (Or.inl rfl) m144_34 (Nat.le_of_ble_eq_true rfl) rfl rfl (Nat.le_of_ble_eq_true rfl) ?_
  refine c_heldM ?_
  rw [h1]
  refine gwr ?_
  refine h_cv (k := 57) (p := 89) (args := [.int (nI (i)), .int (2), .int (hungF true Y i)]) (rest := []) m144_37 cn_112 (Nat.le_of_ble_eq_true rfl) rfl rfl rfl (t_57 _ _) (Nat.le_of_ble_eq_true rfl) ?_
  refine c_gets (w := 2) hi (by decide) ?_
  have hAu1 := hA.up (c := 2) hi (by decide) (hungF true Y i)
  refine gwr0 ?_
  refine g_aload_n m144_40 rfl ?_
  refine g_iload_n m144_41 rfl ?_
  refine g_iconst m144_42 ?_
  refine g_aload_n m144_43 rfl ?_
  refine g_iload_n m144_44 rfl ?_
  refine g_iconst m144_45 ?_
  refine h_cv (k := 57) (p := 89) (args := [.int (nI (i)), .int (4)]) (rest := [.int (4), .int (nI (i)), .ref (89)]) m144_46 cn_111 (Nat.le_of_ble_eq_true rfl) rfl rfl rfl (t_57 _ _) (Nat.le_of_ble_eq_true rfl) ?_
  refine c_itsY (w := 4) (x := nI (hcn)) hAu1 hi (by decide) (hce) ?_
  refine gwr ?_
  refine g_iconst m144_49 ?_
  refine g_iadd (u := nI (hcn + 1)) m144_50 (nI_add hcn 1) ?_
  refine g_iconst m144_51 ?_
  refine g_bipush m144_52 ?_
  refine g_cs (args := [.int (nI (hcn + 1)), .int (0), .int (99)]) (rest := [.int (4), .int (nI (i)), .ref (89)]) 0 (Or.inl rfl) m144_54 (Nat.le_of_ble_eq_true rfl) rfl rfl (Nat.le_of_ble_eq_true rfl) ?_
  refine c_heldM ?_
  rw [h2]
  refine gwr ?_
  refine h_cv (k := 57) (p := 89) (args := [.int (nI (i)), .int (4), .int (hadF true Y i)]) (rest := []) m144_57 cn_112 (Nat.le_of_ble_eq_true rfl) rfl rfl rfl (t_57 _ _) (Nat.le_of_ble_eq_true rfl) ?_
  refine c_gets (w := 4) hi (by decide) ?_
  have hAu2 := hAu1.up (c := 4) hi (by decide) (hadF true Y i)
  refine gwr0 ?_
  refine g_goto m144_60 ?_
  refine g_aload_n m144_87 rfl ?_
  refine g_iload_n m144_88 rfl ?_
  refine g_iconst m144_89 ?_
  refine g_aload_n m144_90 rfl ?_
  refine g_iconst m144_91 ?_
  refine g_aload_n m144_92 rfl ?_
  refine g_iload_n m144_93 rfl ?_
  refine g_iconst m144_94 ?_
  refine h_cv (k := 57) (p := 89) (args := [.int (nI (i)), .int (2)]) (rest := [.int (1), .ref (89), .int (5), .int (nI (i)), .ref (89)]) m144_95 cn_111 (Nat.le_of_ble_eq_true rfl) rfl rfl rfl (t_57 _ _) (Nat.le_of_ble_eq_true rfl) ?_
  refine c_itsY (w := 2) (x := (ateF true Y i) 4 i) hAu2 hi (by decide) rfl ?_
  refine gwr ?_
  refine g_aload_n m144_98 rfl ?_
  refine g_iload_n m144_99 rfl ?_
  refine h_cv (k := 57) (p := 89) (args := [.int (nI (i))]) (rest := [.int ((ateF true Y i) 4 i), .int (1), .ref (89), .int (5), .int (nI (i)), .ref (89)]) m144_100 cn_132 (Nat.le_of_ble_eq_true rfl) rfl rfl rfl (t_57 _ _) (Nat.le_of_ble_eq_true rfl) ?_
  refine c_faceM hAu2 hX0 hi hk (fun m_7 hA_8 => ?_)
  refine gwr ?_
  refine g_aload_n m144_103 rfl ?_
  refine g_iload_n m144_104 rfl ?_
  refine g_iconst m144_105 ?_
  refine h_cv (k := 57) (p := 89) (args := [.int (nI (i)), .int (4)]) (rest := [.int (faceF (rkF (m0 58)) (ateF true Y i) i), .int ((ateF true Y i) 4 i), .int (1), .ref (89), .int (5), .int (nI (i)), .ref (89)]) m144_106 cn_111 (Nat.le_of_ble_eq_true rfl) rfl rfl rfl (t_57 _ _) (Nat.le_of_ble_eq_true rfl) ?_
  refine c_itsY (w := 4) (x := (ateF true Y i) 6 i) hA_8 hi (by decide) rfl ?_
  refine gwr ?_
  refine h_cv (k := 57) (p := 89) (args := [.int (1), .int ((ateF true Y i) 4 i), .int (faceF (rkF (m0 58)) (ateF true Y i) i), .int ((ateF true Y i) 6 i)]) (rest := [.int (5), .int (nI (i)), .ref (89)]) m144_109 cn_131 (Nat.le_of_ble_eq_true rfl) rfl rfl rfl (t_57 _ _) (Nat.le_of_ble_eq_true rfl) ?_
  refine c_lawOf1 hA_8 hX1 (fun m_9 hA_10 => ?_)
  refine gwr ?_
  refine h_if_eq (xi := _) (zi := 0) m144_112 rfl rfl (fun c3 => ?_) (fun c3 => ?_)
  · skip
    refine g_iconst m144_119 ?_
    refine h_cv (k := 57) (p := 89) (args := [.int (nI (i)), .int (5), .int (0)]) (rest := []) m144_120 cn_112 (Nat.le_of_ble_eq_true rfl) rfl rfl rfl (t_57 _ _) (Nat.le_of_ble_eq_true rfl) ?_
    refine c_gets (w := 5) hi (by decide) ?_
    have hAu4 := hA_10.up (c := 5) hi (by decide) (0 : Int32)
    refine gwr0 ?_
    refine g_vret m144_123 ?_
    have e : passF (rkF (m0 58)) (rbF (m0 58)) true Y i = upm (ateF true Y i) 7 i 0 := by
      unfold passF goneF
      rw [if_pos (by exact c3)]
    exact hQ _ (by rw [e]; exact hAu4)
  · skip
    refine g_iconst m144_115 ?_
    refine g_goto m144_116 ?_
    refine h_cv (k := 57) (p := 89) (args := [.int (nI (i)), .int (5), .int (1)]) (rest := []) m144_120 cn_112 (Nat.le_of_ble_eq_true rfl) rfl rfl rfl (t_57 _ _) (Nat.le_of_ble_eq_true rfl) ?_
    refine c_gets (w := 5) hi (by decide) ?_
    have hAu5 := hA_10.up (c := 5) hi (by decide) (1 : Int32)
    refine gwr0 ?_
    refine g_vret m144_123 ?_
    have e : passF (rkF (m0 58)) (rbF (m0 58)) true Y i = upm (ateF true Y i) 7 i 1 := by
      unfold passF goneF
      rw [if_neg (by exact c3)]
    exact hQ _ (by rw [e]; exact hAu5)
set_option maxRecDepth 20000 in
set_option maxHeartbeats 40000000 in
theorem c_sits0 {i : Nat} {m0 Y : MW} (hA : AtY m0 Y m) (hX0 : TxOk (m0 58) 0) (hX1 : TxOk (m0 58) 1) (hW : WF Y) (hi : i < 8) (hQ : ∀ m2, AtY m0 (passF (rkF (m0 58)) (rbF (m0 58)) false Y i) m2 → Q none (H m2 ln N)) : WP xs (d + 813) 144 0 0 [.ref (89), .int (nI (i)), .int (0)] (H m ln N) Q := by
  refine wp_x mx_144 (L := [some (.ref (89)), some (.int (nI (i))), some (.int (0))]) (Nat.le_of_ble_eq_true rfl) rfl ?_
  obtain ⟨hf, hk, hm, hh, hs, hc, hg⟩ := hW.2.2 i hi
  obtain ⟨hcn, hc9, hce⟩ := hc
  have hclamp : (Y 6 i).toNatClampNeg = hcn := by rw [hce]; exact nI_clamp (by omega)
  have h1 : heldF (Y 4 i + growsF Y i) 99 = hungF false Y i := by unfold hungF; rw [if_neg (by decide)]
  refine g_iload_n m144_0 rfl ?_
  refine h_if_eqT (xi := 0) (zi := 0) m144_1 rfl rfl (by decide) ?_
  refine g_aload_n m144_63 rfl ?_
  refine g_iload_n m144_64 rfl ?_
  refine g_iconst m144_65 ?_
  refine g_aload_n m144_66 rfl ?_
  refine g_iload_n m144_67 rfl ?_
  refine g_iconst m144_68 ?_
  refine h_cv (k := 57) (p := 89) (args := [.int (nI (i)), .int (2)]) (rest := [.int (2), .int (nI (i)), .ref (89)]) m144_69 cn_111 (Nat.le_of_ble_eq_true rfl) rfl rfl rfl (t_57 _ _) (Nat.le_of_ble_eq_true rfl) ?_
  refine c_itsY (w := 2) (x := Y 4 i) hA hi (by decide) rfl ?_
  refine gwr ?_
  refine g_aload_n m144_72 rfl ?_
  refine g_iload_n m144_73 rfl ?_
  refine h_cv (k := 57) (p := 89) (args := [.int (nI (i))]) (rest := [.int (Y 4 i), .int (2), .int (nI (i)), .ref (89)]) m144_74 cn_141 (Nat.le_of_ble_eq_true rfl) rfl rfl rfl (t_57 _ _) (Nat.le_of_ble_eq_true rfl) ?_
  refine c_growsM hA hi hk ?_
  refine gwr ?_
  refine g_iadd m144_77 rfl ?_
  refine g_iconst m144_78 ?_
  refine g_bipush m144_79 ?_
  refine g_cs (args := [.int ((Y 4 i + growsF Y i)), .int (0), .int (99)]) (rest := [.int (2), .int (nI (i)), .ref (89)]) 0 (Or.inl rfl) m144_81 (Nat.le_of_ble_eq_true rfl) rfl rfl (Nat.le_of_ble_eq_true rfl) ?_
  refine c_heldM ?_
  rw [h1]
  refine gwr ?_
  refine h_cv (k := 57) (p := 89) (args := [.int (nI (i)), .int (2), .int (hungF false Y i)]) (rest := []) m144_84 cn_112 (Nat.le_of_ble_eq_true rfl) rfl rfl rfl (t_57 _ _) (Nat.le_of_ble_eq_true rfl) ?_
  refine c_gets (w := 2) hi (by decide) ?_
  have hAu1 := hA.up (c := 2) hi (by decide) (hungF false Y i)
  refine gwr0 ?_
  have hAu2 : AtY m0 (ateF false Y i) _ := hAu1.c (fun j k => ate_f Y i j k)
  refine g_aload_n m144_87 rfl ?_
  refine g_iload_n m144_88 rfl ?_
  refine g_iconst m144_89 ?_
  refine g_aload_n m144_90 rfl ?_
  refine g_iconst m144_91 ?_
  refine g_aload_n m144_92 rfl ?_
  refine g_iload_n m144_93 rfl ?_
  refine g_iconst m144_94 ?_
  refine h_cv (k := 57) (p := 89) (args := [.int (nI (i)), .int (2)]) (rest := [.int (1), .ref (89), .int (5), .int (nI (i)), .ref (89)]) m144_95 cn_111 (Nat.le_of_ble_eq_true rfl) rfl rfl rfl (t_57 _ _) (Nat.le_of_ble_eq_true rfl) ?_
  refine c_itsY (w := 2) (x := (ateF false Y i) 4 i) hAu2 hi (by decide) rfl ?_
  refine gwr ?_
  refine g_aload_n m144_98 rfl ?_
  refine g_iload_n m144_99 rfl ?_
  refine h_cv (k := 57) (p := 89) (args := [.int (nI (i))]) (rest := [.int ((ateF false Y i) 4 i), .int (1), .ref (89), .int (5), .int (nI (i)), .ref (89)]) m144_100 cn_132 (Nat.le_of_ble_eq_true rfl) rfl rfl rfl (t_57 _ _) (Nat.le_of_ble_eq_true rfl) ?_
  refine c_faceM hAu2 hX0 hi hk (fun m_11 hA_12 => ?_)
  refine gwr ?_
  refine g_aload_n m144_103 rfl ?_
  refine g_iload_n m144_104 rfl ?_
  refine g_iconst m144_105 ?_
  refine h_cv (k := 57) (p := 89) (args := [.int (nI (i)), .int (4)]) (rest := [.int (faceF (rkF (m0 58)) (ateF false Y i) i), .int ((ateF false Y i) 4 i), .int (1), .ref (89), .int (5), .int (nI (i)), .ref (89)]) m144_106 cn_111 (Nat.le_of_ble_eq_true rfl) rfl rfl rfl (t_57 _ _) (Nat.le_of_ble_eq_true rfl) ?_
  refine c_itsY (w := 4) (x := (ateF false Y i) 6 i) hA_12 hi (by decide) rfl ?_
  refine gwr ?_
  refine h_cv (k := 57) (p := 89) (args := [.int (1), .int ((ateF false Y i) 4 i), .int (faceF (rkF (m0 58)) (ateF false Y i) i), .int ((ateF false Y i) 6 i)]) (rest := [.int (5), .int (nI (i)), .ref (89)]) m144_109 cn_131 (Nat.le_of_ble_eq_true rfl) rfl rfl rfl (t_57 _ _) (Nat.le_of_ble_eq_true rfl) ?_
  refine c_lawOf1 hA_12 hX1 (fun m_13 hA_14 => ?_)
  refine gwr ?_
  refine h_if_eq (xi := _) (zi := 0) m144_112 rfl rfl (fun c3 => ?_) (fun c3 => ?_)
  · skip
    refine g_iconst m144_119 ?_
    refine h_cv (k := 57) (p := 89) (args := [.int (nI (i)), .int (5), .int (0)]) (rest := []) m144_120 cn_112 (Nat.le_of_ble_eq_true rfl) rfl rfl rfl (t_57 _ _) (Nat.le_of_ble_eq_true rfl) ?_
    refine c_gets (w := 5) hi (by decide) ?_
    have hAu4 := hA_14.up (c := 5) hi (by decide) (0 : Int32)
    refine gwr0 ?_
    refine g_vret m144_123 ?_
    have e : passF (rkF (m0 58)) (rbF (m0 58)) false Y i = upm (ateF false Y i) 7 i 0 := by
      unfold passF goneF
      rw [if_pos (by exact c3)]
    exact hQ _ (by rw [e]; exact hAu4)
  · skip
    refine g_iconst m144_115 ?_
    refine g_goto m144_116 ?_
    refine h_cv (k := 57) (p := 89) (args := [.int (nI (i)), .int (5), .int (1)]) (rest := []) m144_120 cn_112 (Nat.le_of_ble_eq_true rfl) rfl rfl rfl (t_57 _ _) (Nat.le_of_ble_eq_true rfl) ?_
    refine c_gets (w := 5) hi (by decide) ?_
    have hAu5 := hA_14.up (c := 5) hi (by decide) (1 : Int32)
    refine gwr0 ?_
    refine g_vret m144_123 ?_
    have e : passF (rkF (m0 58)) (rbF (m0 58)) false Y i = upm (ateF false Y i) 7 i 1 := by
      unfold passF goneF
      rw [if_neg (by exact c3)]
    exact hQ _ (by rw [e]; exact hAu5)
set_option maxRecDepth 20000 in
set_option maxHeartbeats 40000000 in
theorem c_oneStep {m0 Y : MW} (hA : AtY m0 Y m) (hX0 : TxOk (m0 58) 0) (hX1 : TxOk (m0 58) 1) (hW : WF Y) (hQ : ∀ m2, AtY m0 (stepF (rkF (m0 58)) (rbF (m0 58)) Y) m2 → Q none (H m2 ln N)) : WP xs (d + 815) 145 0 0 [.ref (89)] (H m ln N) Q := by
  refine wp_x mx_145 (L := [some (.ref (89)), none, none]) (Nat.le_of_ble_eq_true rfl) rfl ?_
  obtain ⟨n, hn, hd⟩ := hW.1
  have hnn : nOf Y = n := by unfold nOf; rw [hd]; exact nI_clamp (by omega)
  have hblt : ∀ q, bitsF (svF (rkF (m0 58)) Y) q < 2 ^ q := bitsF_lt _
  have h256 : bitsF (svF (rkF (m0 58)) Y) n < 256 := Nat.lt_of_lt_of_le (hblt n) (Nat.pow_le_pow_right (by decide) hn : 2 ^ n ≤ 2 ^ 8)
  have hset : setF (rkF (m0 58)) Y = bitsF (svF (rkF (m0 58)) Y) n := by unfold setF; rw [hnn]
  refine g_aload_n m145_0 rfl ?_
  refine h_cv (k := 57) (p := 89) (args := []) (rest := []) m145_1 cn_143 (Nat.le_of_ble_eq_true rfl) rfl rfl rfl (t_57 _ _) (Nat.le_of_ble_eq_true rfl) ?_
  refine c_servedM hA hX0 hW (fun m1 hA1 => ?_)
  rw [hset]
  refine gwr ?_
  refine g_istore_n (L2 := [some (.ref (89)), some (.int (nI (bitsF (svF (rkF (m0 58)) Y) n))), none]) m145_4 rfl rfl ?_
  refine g_iconst m145_5 ?_
  refine g_istore_n (L2 := [some (.ref (89)), some (.int (nI (bitsF (svF (rkF (m0 58)) Y) n))), some (.int (0))]) m145_6 rfl rfl ?_
  have key : ∀ (r : Nat) (q : Nat) (m2 : MW), q + r = n → AtY m0 (passN (rkF (m0 58)) (rbF (m0 58)) (svF (rkF (m0 58)) Y) Y q) m2 → gw xs (WP xs (d + 814)) 145 Q 7 [some (.ref (89)), some (.int (nI (bitsF (svF (rkF (m0 58)) Y) n))), some (.int (nI (q)))] [] (H m2 ln N) 0 0 := by
    intro r
    induction r with
    | zero =>
      intro q m2 hq hA2
      obtain rfl : q = n := by omega
      refine g_iload_n m145_7 rfl ?_
      refine g_aload_n m145_8 rfl ?_
      refine h_gfR (c := 90) (k := 57) (p := 89) m145_9 rfl (t_57 _ _) rfl (Nat.le_of_ble_eq_true rfl) ?_
      refine g_iconst m145_12 ?_
      refine h_ial (k := 58) (p := 90) (j := 2) m145_13 rfl (t_58 _ _) rfl (by omega) (Nat.le_of_ble_eq_true rfl) ((hA2.r2).trans ((passN_o _ _ _ _ _ (by omega)).trans hd)) ?_
      refine h_ic_geT (xi := ((q : Nat) : Int)) (zi := ((q : Nat) : Int)) m145_14 (nI_toInt (by omega)) (nI_toInt (by omega)) (by omega) ?_
      refine g_aload_n m145_51 rfl ?_
      refine h_gfR (c := 90) (k := 57) (p := 89) m145_52 rfl (t_57 _ _) rfl (Nat.le_of_ble_eq_true rfl) ?_
      refine g_iconst m145_55 ?_
      refine g_dup2 m145_56 rfl rfl ?_
      refine h_ial (k := 58) (p := 90) (j := 0) m145_57 rfl (t_58 _ _) rfl (by omega) (Nat.le_of_ble_eq_true rfl) (hA2.r0) ?_
      refine g_iconst m145_58 ?_
      refine g_iadd m145_59 rfl ?_
      refine h_ias (k := 58) (p := 90) (j := 0) m145_60 rfl (t_58 _ _) (rfl) (by omega) (Nat.le_of_ble_eq_true rfl) ?_
      refine g_vret m145_61 ?_
      have e9 : passN (rkF (m0 58)) (rbF (m0 58)) (svF (rkF (m0 58)) Y) Y q 0 9 = Y 0 9 := passN_o _ _ _ _ _ (by omega)
      have e : stepF (rkF (m0 58)) (rbF (m0 58)) Y = upm (passN (rkF (m0 58)) (rbF (m0 58)) (svF (rkF (m0 58)) Y) Y q) 0 9 (Y 0 9 + 1) := by unfold stepF; rw [hnn]
      refine hQ _ ?_
      rw [e, ← e9]
      exact hA2.up9 _
    | succ r ih =>
      intro q m2 hq hA2
      have h7 : passN (rkF (m0 58)) (rbF (m0 58)) (svF (rkF (m0 58)) Y) Y q 7 q = Y 7 q := passN_o _ _ _ _ _ (by omega)
      refine g_iload_n m145_7 rfl ?_
      refine g_aload_n m145_8 rfl ?_
      refine h_gfR (c := 90) (k := 57) (p := 89) m145_9 rfl (t_57 _ _) rfl (Nat.le_of_ble_eq_true rfl) ?_
      refine g_iconst m145_12 ?_
      refine h_ial (k := 58) (p := 90) (j := 2) m145_13 rfl (t_58 _ _) rfl (by omega) (Nat.le_of_ble_eq_true rfl) ((hA2.r2).trans ((passN_o _ _ _ _ _ (by omega)).trans hd)) ?_
      refine h_ic_geF (xi := ((q : Nat) : Int)) (zi := ((n : Nat) : Int)) m145_14 (nI_toInt (by omega)) (nI_toInt (by omega)) (by omega) ?_
      refine g_aload_n m145_17 rfl ?_
      refine g_iload_n m145_18 rfl ?_
      refine g_iconst m145_19 ?_
      refine h_cv (k := 57) (p := 89) (args := [.int (nI (q)), .int (5)]) (rest := []) m145_20 cn_111 (Nat.le_of_ble_eq_true rfl) rfl rfl rfl (t_57 _ _) (Nat.le_of_ble_eq_true rfl) ?_
      refine c_itsY (w := 5) (x := (passN (rkF (m0 58)) (rbF (m0 58)) (svF (rkF (m0 58)) Y) Y q) 7 q) hA2 (by omega) (by decide) rfl ?_
      refine gwr ?_
      refine h_if_ne (xi := _) (zi := 0) m145_23 rfl rfl (fun c1 => ?_) (fun c1 => ?_)
      · skip
        refine g_aload_n m145_26 rfl ?_
        refine g_iload_n m145_27 rfl ?_
        refine g_iload_n m145_28 rfl ?_
        refine g_iload_n m145_29 rfl ?_
        refine g_ishr m145_30 rfl ?_
        refine g_iconst m145_31 ?_
        refine g_iand (u := if (bitsF (svF (rkF (m0 58)) Y) n).testBit q = true then 1 else 0) m145_32 (bit_sh q (by omega) _ h256) ?_
        rw [bitsF_t _ _ _ (show q < n by omega)]
        cases hsv : svF (rkF (m0 58)) Y q
        · skip
          refine gwst (st' := [.int (0), .int (nI (q)), .ref (89)]) rfl ?_
          refine g_iconst m145_33 ?_
          refine h_ic_neF (xi := 0) (zi := 1) m145_34 rfl rfl (by decide) ?_
          refine g_iconst m145_41 ?_
          refine h_cv (k := 57) (p := 89) (args := [.int (nI (q)), .int (0)]) (rest := []) m145_42 cn_144 (Nat.le_of_ble_eq_true rfl) rfl rfl rfl (t_57 _ _) (Nat.le_of_ble_eq_true rfl) ?_
          refine c_sits0 hA2 hX0 hX1 (WF_passN hW q (by omega)) (by omega) (fun m_15 hA_16 => ?_)
          refine gwr0 ?_
          refine g_iinc (L2 := [some (.ref (89)), some (.int (nI (bitsF (svF (rkF (m0 58)) Y) n))), some (.int (nI (q + 1)))]) m145_45 rfl (nI_1 _) rfl rfl ?_
          refine g_goto m145_48 ?_
          exact ih (q + 1) _ (by omega) (by rw [passN_s, if_pos (by rw [← h7]; exact c1), hsv]; exact hA_16)
        · skip
          refine gwst (st' := [.int (1), .int (nI (q)), .ref (89)]) rfl ?_
          refine g_iconst m145_33 ?_
          refine h_ic_neT (xi := 1) (zi := 1) m145_34 rfl rfl (by decide) ?_
          refine g_iconst m145_37 ?_
          refine g_goto m145_38 ?_
          refine h_cv (k := 57) (p := 89) (args := [.int (nI (q)), .int (1)]) (rest := []) m145_42 cn_144 (Nat.le_of_ble_eq_true rfl) rfl rfl rfl (t_57 _ _) (Nat.le_of_ble_eq_true rfl) ?_
          refine c_sits1 hA2 hX0 hX1 (WF_passN hW q (by omega)) (by omega) (fun m_17 hA_18 => ?_)
          refine gwr0 ?_
          refine g_iinc (L2 := [some (.ref (89)), some (.int (nI (bitsF (svF (rkF (m0 58)) Y) n))), some (.int (nI (q + 1)))]) m145_45 rfl (nI_1 _) rfl rfl ?_
          refine g_goto m145_48 ?_
          exact ih (q + 1) _ (by omega) (by rw [passN_s, if_pos (by rw [← h7]; exact c1), hsv]; exact hA_18)
      · skip
        refine g_iinc (L2 := [some (.ref (89)), some (.int (nI (bitsF (svF (rkF (m0 58)) Y) n))), some (.int (nI (q + 1)))]) m145_45 rfl (nI_1 _) rfl rfl ?_
        refine g_goto m145_48 ?_
        exact ih (q + 1) _ (by omega) (by rw [passN_s, if_neg (by rw [← h7]; exact c1)]; exact hA2)
  exact key n 0 _ (by omega) hA1
set_option maxRecDepth 20000 in
set_option maxHeartbeats 40000000 in
theorem c_passes {n : Nat} {m0 Y : MW} (hA : AtY m0 Y m) (hX0 : TxOk (m0 58) 0) (hX1 : TxOk (m0 58) 1) (hW : WF Y) (hn6 : n ≤ 100) (hQ : ∀ m2, AtY m0 (stepN (rkF (m0 58)) (rbF (m0 58)) Y n) m2 → Q none (H m2 ln N)) : WP xs (d + 816) 146 0 0 [.ref (89), .int (nI (n))] (H m ln N) Q := by
  refine wp_x mx_146 (L := [some (.ref (89)), some (.int (nI (n))), none]) (Nat.le_of_ble_eq_true rfl) rfl ?_
  have key : ∀ (r : Nat) (q : Nat) (m2 : MW), q + r = n → AtY m0 (stepN (rkF (m0 58)) (rbF (m0 58)) Y q) m2 → gw xs (WP xs (d + 815)) 146 Q 2 [some (.ref (89)), some (.int (nI (n))), some (.int (nI (q)))] [] (H m2 ln N) 0 0 := by
    intro r
    induction r with
    | zero =>
      intro q m2 hq hA2
      obtain rfl : q = n := by omega
      refine g_iload_n m146_2 rfl ?_
      refine g_iload_n m146_3 rfl ?_
      refine h_ic_geT (xi := ((q : Nat) : Int)) (zi := ((q : Nat) : Int)) m146_4 (nI_toInt (by omega)) (nI_toInt (by omega)) (by omega) ?_
      refine g_vret m146_17 ?_
      exact hQ _ hA2
    | succ r ih =>
      intro q m2 hq hA2
      refine g_iload_n m146_2 rfl ?_
      refine g_iload_n m146_3 rfl ?_
      refine h_ic_geF (xi := ((q : Nat) : Int)) (zi := ((n : Nat) : Int)) m146_4 (nI_toInt (by omega)) (nI_toInt (by omega)) (by omega) ?_
      refine g_aload_n m146_7 rfl ?_
      refine h_cv (k := 57) (p := 89) (args := []) (rest := []) m146_8 cn_145 (Nat.le_of_ble_eq_true rfl) rfl rfl rfl (t_57 _ _) (Nat.le_of_ble_eq_true rfl) ?_
      refine c_oneStep hA2 hX0 hX1 (WF_stepN hW q) (fun m3 hA3 => ?_)
      refine gwr0 ?_
      refine g_iinc (L2 := [some (.ref (89)), some (.int (nI (n))), some (.int (nI (q + 1)))]) m146_11 rfl (nI_1 _) rfl rfl ?_
      refine g_goto m146_14 ?_
      exact ih (q + 1) _ (by omega) hA3
  refine g_iconst m146_0 ?_
  refine g_istore_n (L2 := [some (.ref (89)), some (.int (nI (n))), some (.int (0))]) m146_1 rfl rfl ?_
  exact key n 0 _ (by omega) hA
set_option maxRecDepth 20000 in
set_option maxHeartbeats 40000000 in
theorem c_sumOf {n w : Nat} {m0 Y : MW} (hA : AtY m0 Y m) (hw : w < 6) (hn : n ≤ 8) (hd : Y 0 10 = nI n) (hQ : Q (some (.int (sumF (Y (2 + w)) n))) (H m ln N)) : WP xs (d + 2) 147 0 0 [.ref (89), .int (nI (w))] (H m ln N) Q := by
  refine wp_x mx_147 (L := [some (.ref (89)), some (.int (nI (w))), none, none]) (Nat.le_of_ble_eq_true rfl) rfl ?_
  have key : ∀ (r : Nat) (q : Nat), q + r = n → gw xs (WP xs (d + 1)) 147 Q 4 [some (.ref (89)), some (.int (nI (w))), some (.int (sumF (Y (2 + w)) q)), some (.int (nI (q)))] [] (H m ln N) 0 0 := by
    intro r
    induction r with
    | zero =>
      intro q hq
      obtain rfl : q = n := by omega
      refine g_iload_n m147_4 rfl ?_
      refine g_aload_n m147_5 rfl ?_
      refine h_gfR (c := 90) (k := 57) (p := 89) m147_6 rfl (t_57 _ _) rfl (Nat.le_of_ble_eq_true rfl) ?_
      refine g_iconst m147_9 ?_
      refine h_ial (k := 58) (p := 90) (j := 2) m147_10 rfl (t_58 _ _) rfl (by omega) (Nat.le_of_ble_eq_true rfl) ((hA.r2).trans hd) ?_
      refine h_ic_geT (xi := ((q : Nat) : Int)) (zi := ((q : Nat) : Int)) m147_11 (nI_toInt (by omega)) (nI_toInt (by omega)) (by omega) ?_
      refine g_iload_n m147_29 rfl ?_
      refine g_iret m147_30 rt_147 ?_
      exact hQ
    | succ r ih =>
      intro q hq
      refine g_iload_n m147_4 rfl ?_
      refine g_aload_n m147_5 rfl ?_
      refine h_gfR (c := 90) (k := 57) (p := 89) m147_6 rfl (t_57 _ _) rfl (Nat.le_of_ble_eq_true rfl) ?_
      refine g_iconst m147_9 ?_
      refine h_ial (k := 58) (p := 90) (j := 2) m147_10 rfl (t_58 _ _) rfl (by omega) (Nat.le_of_ble_eq_true rfl) ((hA.r2).trans hd) ?_
      refine h_ic_geF (xi := ((q : Nat) : Int)) (zi := ((n : Nat) : Int)) m147_11 (nI_toInt (by omega)) (nI_toInt (by omega)) (by omega) ?_
      refine g_iload_n m147_14 rfl ?_
      refine g_aload_n m147_15 rfl ?_
      refine g_iload_n m147_16 rfl ?_
      refine g_iload_n m147_17 rfl ?_
      refine h_cv (k := 57) (p := 89) (args := [.int (nI (q)), .int (nI (w))]) (rest := [.int (sumF (Y (2 + w)) q)]) m147_18 cn_111 (Nat.le_of_ble_eq_true rfl) rfl rfl rfl (t_57 _ _) (Nat.le_of_ble_eq_true rfl) ?_
      refine c_itsY (x := Y (2 + w) q) hA (by omega) hw rfl ?_
      refine gwr ?_
      refine g_iadd m147_21 rfl ?_
      refine g_istore_n (L2 := [some (.ref (89)), some (.int (nI (w))), some (.int ((sumF (Y (2 + w)) q + Y (2 + w) q))), some (.int (nI (q)))]) m147_22 rfl rfl ?_
      refine g_iinc (L2 := [some (.ref (89)), some (.int (nI (w))), some (.int ((sumF (Y (2 + w)) q + Y (2 + w) q))), some (.int (nI (q + 1)))]) m147_23 rfl (nI_1 _) rfl rfl ?_
      refine g_goto m147_26 ?_
      exact ih (q + 1) (by omega)
  refine g_iconst m147_0 ?_
  refine g_istore_n (L2 := [some (.ref (89)), some (.int (nI (w))), some (.int (0)), none]) m147_1 rfl rfl ?_
  refine g_iconst m147_2 ?_
  refine g_istore_n (L2 := [some (.ref (89)), some (.int (nI (w))), some (.int (0)), some (.int (0))]) m147_3 rfl rfl ?_
  exact key n 0 (by omega)
end
end
section
/-! THE RELATION OF THE CLASS'S CELLS AND THE REFERENCE'S -/
/-- tables alike where it counts -/
def Eq7 (X Y : MW) : Prop := (∀ j, 1 ≤ j → j < 8 → ∀ i, i < 8 → Y j i = X j i) ∧ Y 0 8 = X 0 8 ∧ Y 0 9 = X 0 9 ∧ Y 0 10 = X 0 10
theorem Eq7.rf {X : MW} : Eq7 X X := ⟨fun _ _ _ _ _ => rfl, rfl, rfl, rfl⟩
theorem Eq7.sy {X Y : MW} (h : Eq7 X Y) : Eq7 Y X := ⟨fun j a b i c => (h.1 j a b i c).symm, h.2.1.symm, h.2.2.1.symm, h.2.2.2.symm⟩
theorem Eq7.tr {X Y Z : MW} (h : Eq7 X Y) (h2 : Eq7 Y Z) : Eq7 X Z := ⟨fun j a b i c => (h2.1 j a b i c).trans (h.1 j a b i c), h2.2.1.trans h.2.1, h2.2.2.1.trans h.2.2.1, h2.2.2.2.trans h.2.2.2⟩
theorem Eq8.e7 {X Y : MW} (h : Eq8 X Y) : Eq7 X Y := ⟨fun j _ b i _ => h j b i, h 0 (by decide) 8, h 0 (by decide) 9, h 0 (by decide) 10⟩
theorem Eq7.up {X Y : MW} (h : Eq7 X Y) (j i : Nat) (x : Int32) : Eq7 (upm X j i x) (upm Y j i x) := by
  have k : ∀ a b, (Y a b = X a b) → upm Y j i x a b = upm X j i x a b := fun a b e => by
    unfold upm
    by_cases q : a = j ∧ b = i
    · rw [if_pos q, if_pos q]
    · rw [if_neg q, if_neg q, e]
  exact ⟨fun a h1 h2 b h3 => k a b (h.1 a h1 h2 b h3), k 0 8 h.2.1, k 0 9 h.2.2.1, k 0 10 h.2.2.2⟩
section
variable {LK BL : LF} {sv : Bool} {X Y : MW} {i : Nat}
theorem WF_7 (h : Eq7 X Y) (w : WF X) : WF Y := by
  refine ⟨?_, ?_, fun i hi => ?_⟩
  · rw [h.2.2.2]
    exact w.1
  · rw [h.2.1]
    exact w.2.1
  · rw [h.1 1 (by decide) (by decide) i hi, h.1 2 (by decide) (by decide) i hi, h.1 3 (by decide) (by decide) i hi, h.1 4 (by decide) (by decide) i hi, h.1 5 (by decide) (by decide) i hi, h.1 6 (by decide) (by decide) i hi, h.1 7 (by decide) (by decide) i hi]
    exact w.2.2 i hi
theorem faceF_7 (h : Eq7 X Y) (hi : i < 8) : faceF LK Y i = faceF LK X i := faceF_c (fun j h1 h2 => h.1 j (by omega) (by omega) i hi) h.2.2.1
theorem hungF_7 (h : Eq7 X Y) (hi : i < 8) : hungF sv Y i = hungF sv X i := by
  unfold hungF growsF
  rw [h.1 4 (by decide) (by decide) i hi, h.1 6 (by decide) (by decide) i hi, h.1 2 (by decide) (by decide) i hi, h.1 3 (by decide) (by decide) i hi, h.1 1 (by decide) (by decide) _ (Nat.mod_lt _ (by decide))]
theorem hadF_7 (h : Eq7 X Y) (hi : i < 8) : hadF sv Y i = hadF sv X i := by
  unfold hadF
  rw [h.1 6 (by decide) (by decide) i hi]
theorem ateF_7 (h : Eq7 X Y) (hi : i < 8) : Eq7 (ateF sv X i) (ateF sv Y i) := by
  unfold ateF
  rw [hungF_7 h hi, hadF_7 h hi]
  exact (h.up _ _ _).up _ _ _
theorem goneF_7 (h : Eq7 X Y) (hi : i < 8) : goneF LK BL Y i = goneF LK BL X i := by
  unfold goneF
  rw [h.1 4 (by decide) (by decide) i hi, h.1 6 (by decide) (by decide) i hi, faceF_7 h hi]
theorem passF_7' (h : Eq7 X Y) (hi : i < 8) : Eq7 (passF LK BL sv X i) (passF LK BL sv Y i) := by
  unfold passF
  rw [goneF_7 (ateF_7 h hi) hi]
  exact (ateF_7 h hi).up _ _ _
theorem passN_c {sv sv2 : Nat → Bool} : ∀ k, (∀ i, i < k → sv2 i = sv i) → passN LK BL sv2 X k = passN LK BL sv X k
  | 0, _ => rfl
  | k + 1, h => by
    rw [passN_s, passN_s, passN_c k (fun i hi => h i (by omega)), h k (by omega)]
theorem passN_7 {sv : Nat → Bool} (h : Eq7 X Y) : ∀ k, k ≤ 8 → Eq7 (passN LK BL sv X k) (passN LK BL sv Y k)
  | 0, _ => h
  | k + 1, hk => by
    rw [passN_s, passN_s, h.1 7 (by decide) (by decide) k (by omega)]
    split
    · exact passF_7' (passN_7 h k (by omega)) (by omega)
    · exact passN_7 h k (by omega)
theorem nOf_7 (h : Eq7 X Y) : nOf Y = nOf X := by
  unfold nOf
  rw [h.2.2.2]
theorem nOf_le (w : WF X) : nOf X ≤ 8 := by
  obtain ⟨n, hn, hd⟩ := w.1
  unfold nOf
  rw [hd, nI_clamp (by omega)]
  exact hn
theorem svF_7 (h : Eq7 X Y) (w : WF X) (hi : i < nOf X) : svF LK Y i = svF LK X i := by
  have h8 := nOf_le w
  have ea : aheadF (faceF LK Y) (Y 7) (nOf X) i = aheadF (faceF LK X) (X 7) (nOf X) i := cntF_c _ (fun o ho => by
    unfold isAhead
    rw [faceF_7 h (by omega), faceF_7 h (by omega), h.1 7 (by decide) (by decide) o (by omega)])
  unfold svF isServed
  rw [nOf_7 h, ea, h.1 7 (by decide) (by decide) i (by omega), h.2.1]
theorem setF_7 (h : Eq7 X Y) (w : WF X) : setF LK Y = setF LK X := by
  unfold setF
  rw [nOf_7 h]
  exact bitsF_c _ (fun i hi => svF_7 h w hi)
theorem stepF_7 (h : Eq7 X Y) (w : WF X) : Eq7 (stepF LK BL X) (stepF LK BL Y) := by
  unfold stepF
  rw [nOf_7 h, h.2.2.1, passN_c (X := Y) (nOf X) (fun i hi => svF_7 h w hi)]
  exact (passN_7 h _ (nOf_le w)).up _ _ _
theorem stepN_7 (h : Eq7 X Y) (w : WF X) : ∀ k, Eq7 (stepN LK BL X k) (stepN LK BL Y k)
  | 0 => h
  | k + 1 => stepF_7 (stepN_7 h w k) (WF_stepN w k)
theorem sumF_c {a b : Nat → Int32} : ∀ n, (∀ i, i < n → b i = a i) → sumF b n = sumF a n
  | 0, _ => rfl
  | n + 1, h => by
    show sumF b n + b n = sumF a n + a n
    rw [sumF_c n (fun i hi => h i (by omega)), h n (by omega)]
end
/-- a law's number x in the table, the text of use u in the row -/
def TxR (cd : Nat → List Int32) (N : Nat) (x : Int32) (w : Nat → Int32) (u : Nat) : Prop := TxOk w u ∧ ((x = 0 ∧ (w (5 + u)).toInt < 0) ∨ ∃ i, i < N ∧ x = nI (i + 1) ∧ ¬ (w (5 + u)).toInt < 0 ∧ cd i = (TR (txW w u) (nW w u) u).1)
def lkC (cd : Nat → List Int32) (x : Int32) : LF := fun h c s => heldF (if x = 0 then c + 9 - h / 9 else valL (cd (x.toNatClampNeg - 1)) h c s) 99
def blC (cd : Nat → List Int32) (x : Int32) : LF := fun h f c => if x = 0 then 0 else heldF (valL (cd (x.toNatClampNeg - 1)) h f c) 1
theorem lkC_e (m : MW) (ln : Nat → Nat) (x : Int32) : lkF m ln x = lkC (codL m ln) x := rfl
theorem blC_e (m : MW) (ln : Nat → Nat) (x : Int32) : blF m ln x = blC (codL m ln) x := rfl
theorem TxR.ix {cd : Nat → List Int32} {N : Nat} {x : Int32} {w : Nat → Int32} {u : Nat} (h : TxR cd N x w u) : LawIx N x := by
  rcases h.2 with ⟨h0, _⟩ | ⟨i, hi, hx, _⟩
  · exact Or.inl h0
  · exact Or.inr ⟨i, hi, hx⟩
theorem TxR.lk {cd : Nat → List Int32} {N : Nat} {x : Int32} {w : Nat → Int32} (hN : N ≤ 600) (h : TxR cd N x w 0) : lkC cd x = rkF w := by
  funext a b c
  unfold lkC rkF
  rcases h.2 with ⟨h0, h1⟩ | ⟨i, hi, hx, h1, h2⟩
  · rw [if_pos h0, if_pos h1]
  · obtain ⟨_, hne, hcl⟩ := lawV_ix hx (by omega)
    rw [if_neg hne, if_neg h1, hcl, h2]
theorem TxR.bl {cd : Nat → List Int32} {N : Nat} {x : Int32} {w : Nat → Int32} (hN : N ≤ 600) (h : TxR cd N x w 1) : blC cd x = rbF w := by
  funext a b c
  unfold blC rbF
  rcases h.2 with ⟨h0, h1⟩ | ⟨i, hi, hx, h1, h2⟩
  · rw [if_pos h0, if_pos h1]
  · obtain ⟨_, hne, hcl⟩ := lawV_ix hx (by omega)
    rw [if_neg hne, if_neg h1, hcl, h2]
/-- a table and a desk of the class beside a row of the reference -/
def TbR (cd : Nat → List Int32) (N : Nat) (X : MW) (dk tp wt row : Nat → Int32) : Prop :=
  WF X ∧ leI (X 0 9) 9999 ∧ Eq7 X (vr row) ∧ row 1 = dk 0 ∧ (leI (dk 2) 50 ∧ row 3 = dk 2) ∧ (leI (dk 4) 20 ∧ row 4 = dk 4) ∧ (∀ j, j < 50 → leI (tp j) 255 ∧ row (64 + j) = tp j) ∧ (∀ j, j < 20 → row (114 + j) = wt j) ∧ TxR cd N (X 0 11) row 0 ∧ TxR cd N (X 0 12) row 1
def ImR (m : MW) (ln : Nat → Nat) (N q : Nat) : Prop := ∃ im, im ≤ q ∧ m 0 6 = nI im ∧ m 57 5 = nI im ∧ m 57 4 = (if im = 0 then 0 else 1) ∧ (im ≠ 0 → TbR (codL m ln) N (vw m 3) (m 40) (m 41) (m 42) (m 59))
def lowF (b : Nat) (v : Int32) : Int32 := if b = 8 then v &&& 255 else if b = 16 then v &&& 65535 else v
def narF (b : Nat) (v : Int32) : Int32 := if b = 8 then v.toInt8.toInt32 else if b = 16 then v.toInt16.toInt32 else v
def ShR (m : MW) : Prop := ∀ s, s < 4 → ∃ b l, (b = 0 ∨ b = 8 ∨ b = 16 ∨ b = 32) ∧ l ≤ 40 ∧ (b = 0 → l = 0) ∧ m (48 + 2 * s) 0 = nI b ∧ m 63 s = nI b ∧ m (48 + 2 * s) 1 = nI l ∧ m 64 s = nI l ∧ ∀ j, j < 40 → ∃ v, m 65 (40 * s + j) = narF b v ∧ m (49 + 2 * s) j = lowF b v
def ErR (m : MW) : Prop := ∀ e, 1 ≤ e → e ≤ 5 → m 62 e = m 56 e
def VoR (m : MW) : Prop := ∃ b, b ≤ 40 ∧ m 45 4 = nI b ∧ m 57 21 = nI b ∧ ∀ j, j < b → m 68 j = m 46 j
/-- after q calls -/
def Rel (m : MW) (ln : Nat → Nat) (N q : Nat) : Prop := q ≤ 512 ∧ N ≤ q ∧ LawsOk m ln N ∧ TbR (codL m ln) N (vw m 0) (m 37) (m 38) (m 39) (m 58) ∧ ImR m ln N q ∧ ShR m ∧ ErR m ∧ VoR m
end
