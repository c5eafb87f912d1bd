/-! THE REFERENCE'S WALKER: levels -/
def mOf (lv : Nat) : Nat := if lv = 0 then 128 else if lv = 1 then 129 else if lv = 2 then 124 else if lv = 3 then 127 else if lv = 4 then 126 else 125
def Wk (xs : List Int32) (ln : Nat → Nat) (N u n f lv : Nat) (a b c : Int32) : Prop := ∀ (m : MW) (Q : QT) (D op p : Nat), 2 * f + 9 ≤ D → op ≤ 5 → WkS m u n p op a b c true → p ≤ n → n ≤ 50 → TapW m u → 7 * (n - p) + 6 ≤ f + lv → (∀ v m2, WOut m op a b c (PL (BT m u) n u f lv op p) v m2 → Q (some (.int v)) (H m2 ln N)) → WP xs D (mOf lv) 0 0 [.ref 89] (H m ln N) Q
theorem ev_name {a b c : Int32} {u : Nat} {z : Int} {k : Int32} (h : nameP u z = some k) (s : List Int32) : evS a b c [k] s = some (valK k a b c :: s) := by
  unfold nameP at h
  split at h
  · cases h
    exact evS_1 ev_0
  · split at h
    · cases h
      exact evS_1 ev_1
    · split at h
      · cases h
        exact evS_1 ev_2
      · cases h
theorem ev_num {a b c : Int32} {x : Nat} (h : x < 10000) (s : List Int32) : evS a b c [nI (1000 + x)] s = some (nI x :: s) := by
  have e : nI (1000 + x) - 1000 = nI x := by
    have e2 := pk_sub (a := 1000 + x) (b := 1000) (by omega)
    rw [Nat.add_sub_cancel_left] at e2
    exact e2
  rw [← e]
  refine evS_1 (ev_n ?_ ?_ ?_ ?_)
  · exact nI_ne0 (by omega) (by omega)
  · intro e
    have h2 := (nI_eq (a := 1000 + x) (b := 1) (by omega) (by omega)).mp e
    omega
  · intro e
    have h2 := (nI_eq (a := 1000 + x) (b := 2) (by omega) (by omega)).mp e
    omega
  · rw [nI_toInt (by omega)]
    omega
theorem nam_33 {u : Nat} {z : Int} (h : z = 33 ∨ z = 40) : nameP u z = none := by
  unfold nameP
  have h1 : nam1 u = 99 ∨ nam1 u = 102 := by unfold nam1; split; exact Or.inl rfl; exact Or.inr rfl
  have h2 : nam2 u = 115 ∨ nam2 u = 99 := by unfold nam2; split; exact Or.inl rfl; exact Or.inr rfl
  rw [if_neg (by omega), if_neg (by omega), if_neg (by omega)]
theorem WOut.bin {m m2 m3 : MW} {op lv z : Nat} {a b c v v2 v3 : Int32} {r r2 : PR3} (h : WOut m op a b c r v m2) (ho : r.2.2 = true) (hm : FrW m2 m3) {m4 : MW} (h2 : WOut m3 op a b c r2 v2 m4) (hs : signP lv (z : Int) = true) (hv : binV (nI z) v v2 = v3) : WOut m op a b c (r.1 ++ r2.1 ++ [nI z], r2.2) v3 m4 := by
  subst hv
  refine ⟨(h.1.tr hm).tr h2.1, h2.2.1, h2.2.2.1, h2.2.2.2.1, fun hq s => ?_⟩
  show evS a b c (r.1 ++ r2.1 ++ [nI z]) s = _
  rw [evS_app, evS_app, h.2.2.2.2 ho s]
  show ((evS a b c r2.1 (v :: s)).bind _) = _
  rw [h2.2.2.2.2 hq (v :: s)]
  exact evS_1 (ev_bin (z := (z : Int)) hs)
theorem WkS.mv {m m2 m3 : MW} {u n p op op2 : Nat} {a b c v : Int32} {r : PR3} (hK : WkS m u n p op2 a b c true) (hm : FrW m m3) (h : WOut m3 op a b c r v m2) (ho : r.2.2 = true) : WkS m2 u n r.2.1 op a b c true := by
  have e := hm.tr h.1
  exact ⟨(e 57 7 (by omega)).trans hK.1, h.2.1, (e 57 9 (by omega)).trans hK.2.2.1, h.2.2.1, (e 57 11 (by omega)).trans hK.2.2.2.2.1, (e 57 12 (by omega)).trans hK.2.2.2.2.2.1, (e 57 13 (by omega)).trans hK.2.2.2.2.2.2.1, by have := h.2.2.2.1; rw [ho] at this; exact this⟩
theorem WkS.at {m m2 : MW} {u n p op : Nat} {a b c v : Int32} {r : PR3} (hK : WkS m u n p op a b c true) (h : WOut m op a b c r v m2) (ho : r.2.2 = true) : WkS m2 u n r.2.1 op a b c true := hK.mv FrW.rf h ho
theorem WOut.no {m m2 : MW} {op : Nat} {a b c v : Int32} {r : PR3} (h : WOut m op a b c r v m2) (ho : ¬ r.2.2 = true) : m2 57 14 = 0 := by
  have := h.2.2.2.1
  rw [if_neg ho] at this
  exact this
theorem bv_124 {p q : Int32} : binV (nI 124) p q = (if p.toInt ≠ 0 ∨ q.toInt ≠ 0 then 1 else 0) := rfl
theorem bv_38 {p q : Int32} : binV (nI 38) p q = (if p.toInt ≠ 0 ∧ q.toInt ≠ 0 then 1 else 0) := rfl
theorem bv_60 {p q : Int32} : binV (nI 60) p q = (if p.toInt < q.toInt then 1 else 0) := rfl
theorem bv_61 {p q : Int32} : binV (nI 61) p q = (if p.toInt = q.toInt then 1 else 0) := rfl
theorem bv_62 {p q : Int32} : binV (nI 62) p q = (if q.toInt < p.toInt then 1 else 0) := rfl
theorem bv_43 {p q : Int32} : binV (nI 43) p q = p + q := rfl
theorem bv_45 {p q : Int32} : binV (nI 45) p q = p - q := rfl
theorem bv_42 {p q : Int32} : binV (nI 42) p q = p * q := rfl
theorem bv_47 {p q : Int32} : binV (nI 47) p q = (if q.toInt = 0 then 0 else p / q) := rfl
theorem bv_37 {p q : Int32} : binV (nI 37) p q = (if q.toInt = 0 then 0 else p - p / q * q) := rfl
theorem sgl_0 {b : Int} (h : signP 0 b = true) : b = 124 := of_decide_eq_true h
theorem sgl_1 {b : Int} (h : signP 1 b = true) : b = 38 := of_decide_eq_true h
theorem sgl_2 {b : Int} (h : signP 2 b = true) : b = 60 ∨ b = 61 ∨ b = 62 := of_decide_eq_true h
theorem sgl_3 {b : Int} (h : signP 3 b = true) : b = 43 ∨ b = 45 := of_decide_eq_true h
theorem sgl_4 {b : Int} (h : signP 4 b = true) : b = 42 ∨ b = 47 ∨ b = 37 := of_decide_eq_true h
section
variable {xs : List Int32} {d : Nat} {h : AH} {Q : QT} {m : MW} {ln : Nat → Nat} {N : Nat}
set_option maxRecDepth 20000 in
set_option maxHeartbeats 40000000 in
theorem w_factor {u n f : Nat} {a b c : Int32} (hu : u ≤ 1) (ih5 : Wk xs ln N u n f 5 a b c) (ih0 : Wk xs ln N u n f 0 a b c) : Wk xs ln N u n (f + 1) 5 a b c := by
  intro m Q D op p hD hop hK hp hn hT hf hQ
  obtain ⟨d, rfl⟩ : ∃ d, D = d + 9 := ⟨D - 9, by omega⟩
  rw [PL_q] at hQ
  show WP xs (d + 9) 125 0 0 _ _ _
  refine wp_x mx_125 (L := [some (.ref (89)), none, none]) (Nat.le_of_ble_eq_true rfl) rfl ?_
  refine g_aload_n m125_0 rfl ?_
  refine g_aload_n m125_1 rfl ?_
  refine h_gfI (k := 57) (p := 89) m125_2 rfl (t_57 _ _) rfl (hK.2.1) ?_
  refine h_cv (k := 57) (p := 89) (args := [.int (nI (p))]) (rest := []) m125_5 cn_119 (Nat.le_of_ble_eq_true rfl) rfl rfl rfl (t_57 _ _) (Nat.le_of_ble_eq_true rfl) ?_
  refine c_byteAt hK.1 hK.2.2.1 hu hp hn hT (fun hpn z hz hze => ?_) (fun hpn => ?_)
  · have hbt : bt (BT m u) n p = (z : Int) := btW_y hpn hze hz
    refine gwr ?_
    refine g_istore_n (L2 := [some (.ref (89)), some (.int (nI (z))), none]) m125_8 rfl rfl ?_
    refine g_iload_n m125_9 rfl ?_
    refine g_cs (args := [.int (nI (z))]) (rest := []) 0 (Or.inl rfl) m125_10 (Nat.le_of_ble_eq_true rfl) rfl rfl (Nat.le_of_ble_eq_true rfl) ?_
    refine c_isDigitM (vi := ((z : Nat) : Int)) (nI_toInt (by omega)) (fun a_1 => ?_) (fun a_1 => ?_)
    · skip
      have hdg : isDig (bt (BT m u) n p) = true := by rw [hbt]; exact a_1
      refine gwr ?_
      refine h_if_eqF (xi := 1) (zi := 0) m125_13 rfl rfl (by decide) ?_
      refine g_aload_n m125_16 rfl ?_
      refine h_cv (k := 57) (p := 89) (args := []) (rest := []) m125_17 cn_121 (Nat.le_of_ble_eq_true rfl) rfl rfl rfl (t_57 _ _) (Nat.le_of_ble_eq_true rfl) ?_
      rw [PQ_dig hdg] at hQ
      refine c_number hK hp hn hT hu (fun m2 hF2 hK2 => ?_)
      have h4 := (numP_ok (BT m u) n 4 0 p hp).2.2
      refine gwr ?_
      refine g_iret m125_20 rt_125 ?_
      exact hQ _ _ ⟨hF2, hK2.2.1, hK2.2.2.2.1, hK2.2.2.2.2.2.2.2, fun _ s => ev_num (by omega) s⟩
    · have hdg : ¬ isDig (bt (BT m u) n p) = true := by rw [hbt]; exact a_1
      refine gwr ?_
      refine h_if_eqT (xi := 0) (zi := 0) m125_13 rfl rfl (by decide) ?_
      refine g_iload_n m125_21 rfl ?_
      refine g_bipush m125_22 ?_
      refine h_ic_eq (xi := ((z : Nat) : Int)) (zi := 33) m125_24 (nI_toInt (by omega)) rfl (fun c1 => ?_) (fun c1 => ?_)
      · skip
        refine g_aload_n m125_39 rfl ?_
        refine h_gfI (k := 57) (p := 89) m125_40 rfl (t_57 _ _) rfl (hK.2.2.2.1) ?_
        refine g_iconst m125_43 ?_
        refine h_ic_ne (xi := ((op : Nat) : Int)) (zi := 5) m125_44 (nI_toInt (by omega)) rfl (fun c2 => ?_) (fun c2 => ?_)
        · skip
          refine g_aload_n m125_47 rfl ?_
          refine h_cv (k := 57) (p := 89) (args := []) (rest := []) m125_48 cn_122 (Nat.le_of_ble_eq_true rfl) rfl rfl rfl (t_57 _ _) (Nat.le_of_ble_eq_true rfl) ?_
          rw [PQ_no hdg (nam_33 (by omega)) (by omega) (by omega)] at hQ
          refine c_fails ?_
          refine gwr ?_
          refine g_iret m125_51 rt_125 ?_
          exact hQ _ _ ⟨FrW.rf.up _ (Or.inr (Or.inr rfl)), hK.2.1, hK.2.2.2.1, rfl, fun q => by cases q⟩
        · skip
          refine g_aload_n m125_52 rfl ?_
          refine g_dup m125_53 rfl ?_
          refine h_gfI (k := 57) (p := 89) m125_54 rfl (t_57 _ _) rfl (hK.2.2.2.1) ?_
          refine g_iconst m125_57 ?_
          refine g_iadd (u := nI (op + 1)) m125_58 (nI_add op 1) ?_
          refine h_pfI (k := 57) (p := 89) m125_59 rfl (t_57 _ _) rfl trivial ?_
          refine g_aload_n m125_62 rfl ?_
          refine g_dup m125_63 rfl ?_
          refine h_gfI (k := 57) (p := 89) m125_64 rfl (t_57 _ _) rfl (hK.2.1) ?_
          refine g_iconst m125_67 ?_
          refine g_iadd (u := nI (p + 1)) m125_68 (nI_add p 1) ?_
          refine h_pfI (k := 57) (p := 89) m125_69 rfl (t_57 _ _) rfl trivial ?_
          refine g_iload_n m125_72 rfl ?_
          refine g_bipush m125_73 ?_
          refine h_ic_ne (xi := ((z : Nat) : Int)) (zi := 33) m125_75 (nI_toInt (by omega)) rfl (fun c3 => ?_) (fun c3 => ?_)
          · skip
            refine g_aload_n m125_78 rfl ?_
            refine h_cv (k := 57) (p := 89) (args := []) (rest := []) m125_79 cn_125 (Nat.le_of_ble_eq_true rfl) rfl rfl rfl (t_57 _ _) (Nat.le_of_ble_eq_true rfl) ?_
            have hK1 : WkS (upm (upm m 57 10 (nI (op + 1))) 57 8 (nI (p + 1))) u n (p + 1) (op + 1) a b c true := ⟨hK.1, rfl, hK.2.2.1, rfl, hK.2.2.2.2.1, hK.2.2.2.2.2.1, hK.2.2.2.2.2.2.1, hK.2.2.2.2.2.2.2⟩
            have hF1 : FrW m (upm (upm m 57 10 (nI (op + 1))) 57 8 (nI (p + 1))) := (FrW.rf.up _ (Or.inr (Or.inl rfl))).up _ (Or.inl rfl)
            have ht1 : BT (upm (upm m 57 10 (nI (op + 1))) 57 8 (nI (p + 1))) u = BT m u := hF1.bt u
            have hT1 := hF1.tap hT
            rw [PQ_not hdg (nam_33 (by omega)) ⟨by omega, by omega⟩] at hQ
            refine ih5 _ _ _ (op + 1) (p + 1) (by omega) (by omega) hK1 (by omega) hn hT1 (by omega) (fun v m2 ho2 => ?_)
            rw [ht1] at ho2
            generalize PL (BT m u) n u f 5 (op + 1) (p + 1) = r at *
            refine gwr ?_
            refine g_goto m125_82 ?_
            refine g_istore_n (L2 := [some (.ref (89)), some (.int (nI (z))), some (.int (v))]) m125_89 rfl rfl ?_
            refine g_aload_n m125_90 rfl ?_
            refine g_dup m125_91 rfl ?_
            refine h_gfI (k := 57) (p := 89) m125_92 rfl (t_57 _ _) rfl (ho2.2.2.1) ?_
            refine g_iconst m125_95 ?_
            refine g_isub (u := nI op) m125_96 (nI_pred op) ?_
            refine h_pfI (k := 57) (p := 89) m125_97 rfl (t_57 _ _) rfl trivial ?_
            refine g_iload_n m125_100 rfl ?_
            refine g_bipush m125_101 ?_
            refine h_ic_neT (xi := ((z : Nat) : Int)) (zi := 33) m125_103 (nI_toInt (by omega)) rfl (by omega) ?_
            refine g_iload_n m125_106 rfl ?_
            refine h_if_ne (xi := _) (zi := 0) m125_107 rfl rfl (fun c4 => ?_) (fun c4 => ?_)
            · skip
              refine g_iconst m125_110 ?_
              refine g_goto m125_111 ?_
              refine g_iret m125_115 rt_125 ?_
              refine hQ _ _ ⟨(hF1.tr ho2.1).up _ (Or.inr (Or.inl rfl)), ho2.2.1, rfl, ho2.2.2.2.1, fun q s => ?_⟩
              show evS a b c (r.1 ++ [33]) s = _
              rw [evS_app, ho2.2.2.2.2 q s]
              show evS a b c [33] (v :: s) = _
              rw [evS_1 ev_33, if_pos (by omega)]
            · skip
              refine g_iconst m125_114 ?_
              refine g_iret m125_115 rt_125 ?_
              refine hQ _ _ ⟨(hF1.tr ho2.1).up _ (Or.inr (Or.inl rfl)), ho2.2.1, rfl, ho2.2.2.2.1, fun q s => ?_⟩
              show evS a b c (r.1 ++ [33]) s = _
              rw [evS_app, ho2.2.2.2.2 q s]
              show evS a b c [33] (v :: s) = _
              rw [evS_1 ev_33, if_neg (by omega)]
          · skip
            refine g_aload_n m125_85 rfl ?_
            refine h_cv (k := 57) (p := 89) (args := []) (rest := []) m125_86 cn_128 (Nat.le_of_ble_eq_true rfl) rfl rfl rfl (t_57 _ _) (Nat.le_of_ble_eq_true rfl) ?_
            have hK1 : WkS (upm (upm m 57 10 (nI (op + 1))) 57 8 (nI (p + 1))) u n (p + 1) (op + 1) a b c true := ⟨hK.1, rfl, hK.2.2.1, rfl, hK.2.2.2.2.1, hK.2.2.2.2.2.1, hK.2.2.2.2.2.2.1, hK.2.2.2.2.2.2.2⟩
            have hF1 : FrW m (upm (upm m 57 10 (nI (op + 1))) 57 8 (nI (p + 1))) := (FrW.rf.up _ (Or.inr (Or.inl rfl))).up _ (Or.inl rfl)
            have ht1 : BT (upm (upm m 57 10 (nI (op + 1))) 57 8 (nI (p + 1))) u = BT m u := hF1.bt u
            have hT1 := hF1.tap hT
            rw [PQ_par hdg (nam_33 (by omega)) ⟨by omega, by omega⟩] at hQ
            refine ih0 _ _ _ (op + 1) (p + 1) (by omega) (by omega) hK1 (by omega) hn hT1 (by omega) (fun v m2 ho2 => ?_)
            rw [ht1] at ho2
            have hg := PL_ok (BT m u) n u f 0 (op + 1) (p + 1) (by omega)
            generalize PL (BT m u) n u f 0 (op + 1) (p + 1) = r at *
            obtain ⟨g1, g2, g3⟩ := hg
            have hFa : FrW m (upm m2 57 10 (nI op)) := (hF1.tr ho2.1).up _ (Or.inr (Or.inl rfl))
            by_cases hrk : r.2.2 = true
            · skip
              have hKa : WkS (upm m2 57 10 (nI op)) u n r.2.1 op a b c true := by
                have hK2 := WkS.mv hK1 FrW.rf ho2 hrk
                exact ⟨hK2.1, hK2.2.1, hK2.2.2.1, rfl, hK2.2.2.2.2.1, hK2.2.2.2.2.2.1, hK2.2.2.2.2.2.2.1, hK2.2.2.2.2.2.2.2⟩
              have hTa := hFa.tap hT
              refine gwr ?_
              refine g_istore_n (L2 := [some (.ref (89)), some (.int (nI (z))), some (.int (v))]) m125_89 rfl rfl ?_
              refine g_aload_n m125_90 rfl ?_
              refine g_dup m125_91 rfl ?_
              refine h_gfI (k := 57) (p := 89) m125_92 rfl (t_57 _ _) rfl (ho2.2.2.1) ?_
              refine g_iconst m125_95 ?_
              refine g_isub (u := nI op) m125_96 (nI_pred op) ?_
              refine h_pfI (k := 57) (p := 89) m125_97 rfl (t_57 _ _) rfl trivial ?_
              refine g_iload_n m125_100 rfl ?_
              refine g_bipush m125_101 ?_
              refine h_ic_neF (xi := ((z : Nat) : Int)) (zi := 33) m125_103 (nI_toInt (by omega)) rfl (by omega) ?_
              refine g_aload_n m125_116 rfl ?_
              refine h_gfI (k := 57) (p := 89) m125_117 rfl (t_57 _ _) rfl (hKa.2.2.2.2.2.2.2) ?_
              refine h_if_eqF (xi := 1) (zi := 0) m125_120 rfl rfl (by decide) ?_
              refine g_aload_n m125_123 rfl ?_
              refine g_aload_n m125_124 rfl ?_
              refine h_gfI (k := 57) (p := 89) m125_125 rfl (t_57 _ _) rfl (hKa.2.1) ?_
              refine h_cv (k := 57) (p := 89) (args := [.int (nI (r.2.1))]) (rest := []) m125_128 cn_119 (Nat.le_of_ble_eq_true rfl) rfl rfl rfl (t_57 _ _) (Nat.le_of_ble_eq_true rfl) ?_
              refine c_byteAt hKa.1 hKa.2.2.1 hu g2 hn hTa (fun hpn3 z3 hz3 hze3 => ?_) (fun hpn3 => ?_)
              · have hbt3 : bt (BT m u) n r.2.1 = (z3 : Int) := btW_y hpn3 (by rw [← hFa.bt u]; exact hze3) hz3
                refine gwr ?_
                refine g_bipush m125_131 ?_
                refine h_ic_ne (xi := ((z3 : Nat) : Int)) (zi := 41) m125_133 (nI_toInt (by omega)) rfl (fun c5 => ?_) (fun c5 => ?_)
                · skip
                  refine g_aload_n m125_136 rfl ?_
                  refine g_dup m125_137 rfl ?_
                  refine h_gfI (k := 57) (p := 89) m125_138 rfl (t_57 _ _) rfl (hKa.2.1) ?_
                  refine g_iconst m125_141 ?_
                  refine g_iadd (u := nI ((r.2.1) + 1)) m125_142 (nI_add (r.2.1) 1) ?_
                  refine h_pfI (k := 57) (p := 89) m125_143 rfl (t_57 _ _) rfl trivial ?_
                  refine g_iload_n m125_146 rfl ?_
                  refine g_iret m125_147 rt_125 ?_
                  rw [if_pos ⟨hrk, by omega⟩] at hQ
                  exact hQ _ _ ⟨hFa.up _ (Or.inl rfl), rfl, hKa.2.2.2.1, hKa.2.2.2.2.2.2.2, fun _ s => ho2.2.2.2.2 hrk s⟩
                · skip
                  refine g_aload_n m125_148 rfl ?_
                  refine h_cv (k := 57) (p := 89) (args := []) (rest := []) m125_149 cn_122 (Nat.le_of_ble_eq_true rfl) rfl rfl rfl (t_57 _ _) (Nat.le_of_ble_eq_true rfl) ?_
                  rw [if_neg (by intro q; have := q.2; omega)] at hQ
                  refine c_fails ?_
                  refine gwr ?_
                  refine g_iret m125_152 rt_125 ?_
                  exact hQ _ _ ⟨hFa.up _ (Or.inr (Or.inr rfl)), ho2.2.1, rfl, rfl, fun q => by cases q⟩
              · have hbt3 : bt (BT m u) n r.2.1 = -1 := bt_n hpn3
                refine gwr ?_
                refine g_bipush m125_131 ?_
                refine h_ic_neF (xi := (-1)) (zi := 41) m125_133 rfl rfl (by decide) ?_
                refine g_aload_n m125_148 rfl ?_
                refine h_cv (k := 57) (p := 89) (args := []) (rest := []) m125_149 cn_122 (Nat.le_of_ble_eq_true rfl) rfl rfl rfl (t_57 _ _) (Nat.le_of_ble_eq_true rfl) ?_
                rw [if_neg (by intro q; have := q.2; omega)] at hQ
                refine c_fails ?_
                refine gwr ?_
                refine g_iret m125_152 rt_125 ?_
                exact hQ _ _ ⟨hFa.up _ (Or.inr (Or.inr rfl)), ho2.2.1, rfl, rfl, fun q => by cases q⟩
            · skip
              have h14 : (upm m2 57 10 (nI op)) 57 14 = 0 := ho2.no hrk
              refine gwr ?_
              refine g_istore_n (L2 := [some (.ref (89)), some (.int (nI (z))), some (.int (v))]) m125_89 rfl rfl ?_
              refine g_aload_n m125_90 rfl ?_
              refine g_dup m125_91 rfl ?_
              refine h_gfI (k := 57) (p := 89) m125_92 rfl (t_57 _ _) rfl (ho2.2.2.1) ?_
              refine g_iconst m125_95 ?_
              refine g_isub (u := nI op) m125_96 (nI_pred op) ?_
              refine h_pfI (k := 57) (p := 89) m125_97 rfl (t_57 _ _) rfl trivial ?_
              refine g_iload_n m125_100 rfl ?_
              refine g_bipush m125_101 ?_
              refine h_ic_neF (xi := ((z : Nat) : Int)) (zi := 33) m125_103 (nI_toInt (by omega)) rfl (by omega) ?_
              refine g_aload_n m125_116 rfl ?_
              refine h_gfI (k := 57) (p := 89) m125_117 rfl (t_57 _ _) rfl (h14) ?_
              refine h_if_eqT (xi := 0) (zi := 0) m125_120 rfl rfl (by decide) ?_
              refine g_aload_n m125_148 rfl ?_
              refine h_cv (k := 57) (p := 89) (args := []) (rest := []) m125_149 cn_122 (Nat.le_of_ble_eq_true rfl) rfl rfl rfl (t_57 _ _) (Nat.le_of_ble_eq_true rfl) ?_
              rw [if_neg (by intro q; exact hrk q.1)] at hQ
              refine c_fails ?_
              refine gwr ?_
              refine g_iret m125_152 rt_125 ?_
              exact hQ _ _ ⟨hFa.up _ (Or.inr (Or.inr rfl)), ho2.2.1, rfl, rfl, fun q => by cases q⟩
      · skip
        refine g_iload_n m125_27 rfl ?_
        refine g_bipush m125_28 ?_
        refine h_ic_eq (xi := ((z : Nat) : Int)) (zi := 40) m125_30 (nI_toInt (by omega)) rfl (fun c6 => ?_) (fun c6 => ?_)
        · skip
          refine g_aload_n m125_39 rfl ?_
          refine h_gfI (k := 57) (p := 89) m125_40 rfl (t_57 _ _) rfl (hK.2.2.2.1) ?_
          refine g_iconst m125_43 ?_
          refine h_ic_ne (xi := ((op : Nat) : Int)) (zi := 5) m125_44 (nI_toInt (by omega)) rfl (fun c7 => ?_) (fun c7 => ?_)
          · skip
            refine g_aload_n m125_47 rfl ?_
            refine h_cv (k := 57) (p := 89) (args := []) (rest := []) m125_48 cn_122 (Nat.le_of_ble_eq_true rfl) rfl rfl rfl (t_57 _ _) (Nat.le_of_ble_eq_true rfl) ?_
            rw [PQ_no hdg (nam_33 (by omega)) (by omega) (by omega)] at hQ
            refine c_fails ?_
            refine gwr ?_
            refine g_iret m125_51 rt_125 ?_
            exact hQ _ _ ⟨FrW.rf.up _ (Or.inr (Or.inr rfl)), hK.2.1, hK.2.2.2.1, rfl, fun q => by cases q⟩
          · skip
            refine g_aload_n m125_52 rfl ?_
            refine g_dup m125_53 rfl ?_
            refine h_gfI (k := 57) (p := 89) m125_54 rfl (t_57 _ _) rfl (hK.2.2.2.1) ?_
            refine g_iconst m125_57 ?_
            refine g_iadd (u := nI (op + 1)) m125_58 (nI_add op 1) ?_
            refine h_pfI (k := 57) (p := 89) m125_59 rfl (t_57 _ _) rfl trivial ?_
            refine g_aload_n m125_62 rfl ?_
            refine g_dup m125_63 rfl ?_
            refine h_gfI (k := 57) (p := 89) m125_64 rfl (t_57 _ _) rfl (hK.2.1) ?_
            refine g_iconst m125_67 ?_
            refine g_iadd (u := nI (p + 1)) m125_68 (nI_add p 1) ?_
            refine h_pfI (k := 57) (p := 89) m125_69 rfl (t_57 _ _) rfl trivial ?_
            refine g_iload_n m125_72 rfl ?_
            refine g_bipush m125_73 ?_
            refine h_ic_ne (xi := ((z : Nat) : Int)) (zi := 33) m125_75 (nI_toInt (by omega)) rfl (fun c8 => ?_) (fun c8 => ?_)
            · skip
              refine g_aload_n m125_78 rfl ?_
              refine h_cv (k := 57) (p := 89) (args := []) (rest := []) m125_79 cn_125 (Nat.le_of_ble_eq_true rfl) rfl rfl rfl (t_57 _ _) (Nat.le_of_ble_eq_true rfl) ?_
              have hK1 : WkS (upm (upm m 57 10 (nI (op + 1))) 57 8 (nI (p + 1))) u n (p + 1) (op + 1) a b c true := ⟨hK.1, rfl, hK.2.2.1, rfl, hK.2.2.2.2.1, hK.2.2.2.2.2.1, hK.2.2.2.2.2.2.1, hK.2.2.2.2.2.2.2⟩
              have hF1 : FrW m (upm (upm m 57 10 (nI (op + 1))) 57 8 (nI (p + 1))) := (FrW.rf.up _ (Or.inr (Or.inl rfl))).up _ (Or.inl rfl)
              have ht1 : BT (upm (upm m 57 10 (nI (op + 1))) 57 8 (nI (p + 1))) u = BT m u := hF1.bt u
              have hT1 := hF1.tap hT
              rw [PQ_not hdg (nam_33 (by omega)) ⟨by omega, by omega⟩] at hQ
              refine ih5 _ _ _ (op + 1) (p + 1) (by omega) (by omega) hK1 (by omega) hn hT1 (by omega) (fun v m2 ho2 => ?_)
              rw [ht1] at ho2
              generalize PL (BT m u) n u f 5 (op + 1) (p + 1) = r at *
              refine gwr ?_
              refine g_goto m125_82 ?_
              refine g_istore_n (L2 := [some (.ref (89)), some (.int (nI (z))), some (.int (v))]) m125_89 rfl rfl ?_
              refine g_aload_n m125_90 rfl ?_
              refine g_dup m125_91 rfl ?_
              refine h_gfI (k := 57) (p := 89) m125_92 rfl (t_57 _ _) rfl (ho2.2.2.1) ?_
              refine g_iconst m125_95 ?_
              refine g_isub (u := nI op) m125_96 (nI_pred op) ?_
              refine h_pfI (k := 57) (p := 89) m125_97 rfl (t_57 _ _) rfl trivial ?_
              refine g_iload_n m125_100 rfl ?_
              refine g_bipush m125_101 ?_
              refine h_ic_neT (xi := ((z : Nat) : Int)) (zi := 33) m125_103 (nI_toInt (by omega)) rfl (by omega) ?_
              refine g_iload_n m125_106 rfl ?_
              refine h_if_ne (xi := _) (zi := 0) m125_107 rfl rfl (fun c9 => ?_) (fun c9 => ?_)
              · skip
                refine g_iconst m125_110 ?_
                refine g_goto m125_111 ?_
                refine g_iret m125_115 rt_125 ?_
                refine hQ _ _ ⟨(hF1.tr ho2.1).up _ (Or.inr (Or.inl rfl)), ho2.2.1, rfl, ho2.2.2.2.1, fun q s => ?_⟩
                show evS a b c (r.1 ++ [33]) s = _
                rw [evS_app, ho2.2.2.2.2 q s]
                show evS a b c [33] (v :: s) = _
                rw [evS_1 ev_33, if_pos (by omega)]
              · skip
                refine g_iconst m125_114 ?_
                refine g_iret m125_115 rt_125 ?_
                refine hQ _ _ ⟨(hF1.tr ho2.1).up _ (Or.inr (Or.inl rfl)), ho2.2.1, rfl, ho2.2.2.2.1, fun q s => ?_⟩
                show evS a b c (r.1 ++ [33]) s = _
                rw [evS_app, ho2.2.2.2.2 q s]
                show evS a b c [33] (v :: s) = _
                rw [evS_1 ev_33, if_neg (by omega)]
            · skip
              refine g_aload_n m125_85 rfl ?_
              refine h_cv (k := 57) (p := 89) (args := []) (rest := []) m125_86 cn_128 (Nat.le_of_ble_eq_true rfl) rfl rfl rfl (t_57 _ _) (Nat.le_of_ble_eq_true rfl) ?_
              have hK1 : WkS (upm (upm m 57 10 (nI (op + 1))) 57 8 (nI (p + 1))) u n (p + 1) (op + 1) a b c true := ⟨hK.1, rfl, hK.2.2.1, rfl, hK.2.2.2.2.1, hK.2.2.2.2.2.1, hK.2.2.2.2.2.2.1, hK.2.2.2.2.2.2.2⟩
              have hF1 : FrW m (upm (upm m 57 10 (nI (op + 1))) 57 8 (nI (p + 1))) := (FrW.rf.up _ (Or.inr (Or.inl rfl))).up _ (Or.inl rfl)
              have ht1 : BT (upm (upm m 57 10 (nI (op + 1))) 57 8 (nI (p + 1))) u = BT m u := hF1.bt u
              have hT1 := hF1.tap hT
              rw [PQ_par hdg (nam_33 (by omega)) ⟨by omega, by omega⟩] at hQ
              refine ih0 _ _ _ (op + 1) (p + 1) (by omega) (by omega) hK1 (by omega) hn hT1 (by omega) (fun v m2 ho2 => ?_)
              rw [ht1] at ho2
              have hg := PL_ok (BT m u) n u f 0 (op + 1) (p + 1) (by omega)
              generalize PL (BT m u) n u f 0 (op + 1) (p + 1) = r at *
              obtain ⟨g1, g2, g3⟩ := hg
              have hFa : FrW m (upm m2 57 10 (nI op)) := (hF1.tr ho2.1).up _ (Or.inr (Or.inl rfl))
              by_cases hrk : r.2.2 = true
              · skip
                have hKa : WkS (upm m2 57 10 (nI op)) u n r.2.1 op a b c true := by
                  have hK2 := WkS.mv hK1 FrW.rf ho2 hrk
                  exact ⟨hK2.1, hK2.2.1, hK2.2.2.1, rfl, hK2.2.2.2.2.1, hK2.2.2.2.2.2.1, hK2.2.2.2.2.2.2.1, hK2.2.2.2.2.2.2.2⟩
                have hTa := hFa.tap hT
                refine gwr ?_
                refine g_istore_n (L2 := [some (.ref (89)), some (.int (nI (z))), some (.int (v))]) m125_89 rfl rfl ?_
                refine g_aload_n m125_90 rfl ?_
                refine g_dup m125_91 rfl ?_
                refine h_gfI (k := 57) (p := 89) m125_92 rfl (t_57 _ _) rfl (ho2.2.2.1) ?_
                refine g_iconst m125_95 ?_
                refine g_isub (u := nI op) m125_96 (nI_pred op) ?_
                refine h_pfI (k := 57) (p := 89) m125_97 rfl (t_57 _ _) rfl trivial ?_
                refine g_iload_n m125_100 rfl ?_
                refine g_bipush m125_101 ?_
                refine h_ic_neF (xi := ((z : Nat) : Int)) (zi := 33) m125_103 (nI_toInt (by omega)) rfl (by omega) ?_
                refine g_aload_n m125_116 rfl ?_
                refine h_gfI (k := 57) (p := 89) m125_117 rfl (t_57 _ _) rfl (hKa.2.2.2.2.2.2.2) ?_
                refine h_if_eqF (xi := 1) (zi := 0) m125_120 rfl rfl (by decide) ?_
                refine g_aload_n m125_123 rfl ?_
                refine g_aload_n m125_124 rfl ?_
                refine h_gfI (k := 57) (p := 89) m125_125 rfl (t_57 _ _) rfl (hKa.2.1) ?_
                refine h_cv (k := 57) (p := 89) (args := [.int (nI (r.2.1))]) (rest := []) m125_128 cn_119 (Nat.le_of_ble_eq_true rfl) rfl rfl rfl (t_57 _ _) (Nat.le_of_ble_eq_true rfl) ?_
                refine c_byteAt hKa.1 hKa.2.2.1 hu g2 hn hTa (fun hpn3 z3 hz3 hze3 => ?_) (fun hpn3 => ?_)
                · have hbt3 : bt (BT m u) n r.2.1 = (z3 : Int) := btW_y hpn3 (by rw [← hFa.bt u]; exact hze3) hz3
                  refine gwr ?_
                  refine g_bipush m125_131 ?_
                  refine h_ic_ne (xi := ((z3 : Nat) : Int)) (zi := 41) m125_133 (nI_toInt (by omega)) rfl (fun c10 => ?_) (fun c10 => ?_)
                  · skip
                    refine g_aload_n m125_136 rfl ?_
                    refine g_dup m125_137 rfl ?_
                    refine h_gfI (k := 57) (p := 89) m125_138 rfl (t_57 _ _) rfl (hKa.2.1) ?_
                    refine g_iconst m125_141 ?_
                    refine g_iadd (u := nI ((r.2.1) + 1)) m125_142 (nI_add (r.2.1) 1) ?_
                    refine h_pfI (k := 57) (p := 89) m125_143 rfl (t_57 _ _) rfl trivial ?_
                    refine g_iload_n m125_146 rfl ?_
                    refine g_iret m125_147 rt_125 ?_
                    rw [if_pos ⟨hrk, by omega⟩] at hQ
                    exact hQ _ _ ⟨hFa.up _ (Or.inl rfl), rfl, hKa.2.2.2.1, hKa.2.2.2.2.2.2.2, fun _ s => ho2.2.2.2.2 hrk s⟩
                  · skip
                    refine g_aload_n m125_148 rfl ?_
                    refine h_cv (k := 57) (p := 89) (args := []) (rest := []) m125_149 cn_122 (Nat.le_of_ble_eq_true rfl) rfl rfl rfl (t_57 _ _) (Nat.le_of_ble_eq_true rfl) ?_
                    rw [if_neg (by intro q; have := q.2; omega)] at hQ
                    refine c_fails ?_
                    refine gwr ?_
                    refine g_iret m125_152 rt_125 ?_
                    exact hQ _ _ ⟨hFa.up _ (Or.inr (Or.inr rfl)), ho2.2.1, rfl, rfl, fun q => by cases q⟩
                · have hbt3 : bt (BT m u) n r.2.1 = -1 := bt_n hpn3
                  refine gwr ?_
                  refine g_bipush m125_131 ?_
                  refine h_ic_neF (xi := (-1)) (zi := 41) m125_133 rfl rfl (by decide) ?_
                  refine g_aload_n m125_148 rfl ?_
                  refine h_cv (k := 57) (p := 89) (args := []) (rest := []) m125_149 cn_122 (Nat.le_of_ble_eq_true rfl) rfl rfl rfl (t_57 _ _) (Nat.le_of_ble_eq_true rfl) ?_
                  rw [if_neg (by intro q; have := q.2; omega)] at hQ
                  refine c_fails ?_
                  refine gwr ?_
                  refine g_iret m125_152 rt_125 ?_
                  exact hQ _ _ ⟨hFa.up _ (Or.inr (Or.inr rfl)), ho2.2.1, rfl, rfl, fun q => by cases q⟩
              · skip
                have h14 : (upm m2 57 10 (nI op)) 57 14 = 0 := ho2.no hrk
                refine gwr ?_
                refine g_istore_n (L2 := [some (.ref (89)), some (.int (nI (z))), some (.int (v))]) m125_89 rfl rfl ?_
                refine g_aload_n m125_90 rfl ?_
                refine g_dup m125_91 rfl ?_
                refine h_gfI (k := 57) (p := 89) m125_92 rfl (t_57 _ _) rfl (ho2.2.2.1) ?_
                refine g_iconst m125_95 ?_
                refine g_isub (u := nI op) m125_96 (nI_pred op) ?_
                refine h_pfI (k := 57) (p := 89) m125_97 rfl (t_57 _ _) rfl trivial ?_
                refine g_iload_n m125_100 rfl ?_
                refine g_bipush m125_101 ?_
                refine h_ic_neF (xi := ((z : Nat) : Int)) (zi := 33) m125_103 (nI_toInt (by omega)) rfl (by omega) ?_
                refine g_aload_n m125_116 rfl ?_
                refine h_gfI (k := 57) (p := 89) m125_117 rfl (t_57 _ _) rfl (h14) ?_
                refine h_if_eqT (xi := 0) (zi := 0) m125_120 rfl rfl (by decide) ?_
                refine g_aload_n m125_148 rfl ?_
                refine h_cv (k := 57) (p := 89) (args := []) (rest := []) m125_149 cn_122 (Nat.le_of_ble_eq_true rfl) rfl rfl rfl (t_57 _ _) (Nat.le_of_ble_eq_true rfl) ?_
                rw [if_neg (by intro q; exact hrk q.1)] at hQ
                refine c_fails ?_
                refine gwr ?_
                refine g_iret m125_152 rt_125 ?_
                exact hQ _ _ ⟨hFa.up _ (Or.inr (Or.inr rfl)), ho2.2.1, rfl, rfl, fun q => by cases q⟩
        · skip
          refine g_aload_n m125_33 rfl ?_
          refine g_iload_n m125_34 rfl ?_
          refine h_cv (k := 57) (p := 89) (args := [.int (nI (z))]) (rest := []) m125_35 cn_123 (Nat.le_of_ble_eq_true rfl) rfl rfl rfl (t_57 _ _) (Nat.le_of_ble_eq_true rfl) ?_
          refine c_named (vi := ((z : Nat) : Int)) (nI_toInt (by omega)) hK hp hn hu (fun k hk => ?_) (fun hnn => ?_)
          · rw [PQ_nam hdg (by rw [hbt]; exact hk)] at hQ
            refine gwr ?_
            refine g_iret m125_38 rt_125 ?_
            exact hQ _ _ ⟨FrW.rf.up _ (Or.inl rfl), rfl, hK.2.2.2.1, hK.2.2.2.2.2.2.2, fun _ s => ev_name hk s⟩
          · rw [PQ_no hdg (by rw [hbt]; exact hnn) (by omega) (by omega)] at hQ
            refine gwr ?_
            refine g_iret m125_38 rt_125 ?_
            exact hQ _ _ ⟨FrW.rf.up _ (Or.inr (Or.inr rfl)), hK.2.1, hK.2.2.2.1, rfl, fun q => by cases q⟩
  · have hbt : bt (BT m u) n p = -1 := bt_n hpn
    refine gwr ?_
    refine g_istore_n (L2 := [some (.ref (89)), some (.int (-1)), none]) m125_8 rfl rfl ?_
    refine g_iload_n m125_9 rfl ?_
    refine g_cs (args := [.int (-1)]) (rest := []) 0 (Or.inl rfl) m125_10 (Nat.le_of_ble_eq_true rfl) rfl rfl (Nat.le_of_ble_eq_true rfl) ?_
    refine c_isDigitM (vi := (-1)) rfl (fun a_2 => ?_) (fun a_2 => ?_)
    · skip
      exact absurd a_2 (by decide)
    · have hdg : ¬ isDig (bt (BT m u) n p) = true := by rw [hbt]; exact a_2
      refine gwr ?_
      refine h_if_eqT (xi := 0) (zi := 0) m125_13 rfl rfl (by decide) ?_
      refine g_iload_n m125_21 rfl ?_
      refine g_bipush m125_22 ?_
      refine h_ic_eqF (xi := (-1)) (zi := 33) m125_24 rfl rfl (by decide) ?_
      refine g_iload_n m125_27 rfl ?_
      refine g_bipush m125_28 ?_
      refine h_ic_eqF (xi := (-1)) (zi := 40) m125_30 rfl rfl (by decide) ?_
      refine g_aload_n m125_33 rfl ?_
      refine g_iload_n m125_34 rfl ?_
      refine h_cv (k := 57) (p := 89) (args := [.int (-1)]) (rest := []) m125_35 cn_123 (Nat.le_of_ble_eq_true rfl) rfl rfl rfl (t_57 _ _) (Nat.le_of_ble_eq_true rfl) ?_
      refine c_named (vi := (-1)) rfl hK hp hn hu (fun k hk => ?_) (fun hnn => ?_)
      · rw [PQ_nam hdg (by rw [hbt]; exact hk)] at hQ
        refine gwr ?_
        refine g_iret m125_38 rt_125 ?_
        exact hQ _ _ ⟨FrW.rf.up _ (Or.inl rfl), rfl, hK.2.2.2.1, hK.2.2.2.2.2.2.2, fun _ s => ev_name hk s⟩
      · rw [PQ_no hdg (by rw [hbt]; exact hnn) (by omega) (by omega)] at hQ
        refine gwr ?_
        refine g_iret m125_38 rt_125 ?_
        exact hQ _ _ ⟨FrW.rf.up _ (Or.inr (Or.inr rfl)), hK.2.1, hK.2.2.2.1, rfl, fun q => by cases q⟩
set_option maxRecDepth 20000 in
set_option maxHeartbeats 40000000 in
theorem w_126 {u n f : Nat} {a b c : Int32} (hu : u ≤ 1) (ih : Wk xs ln N u n f 5 a b c) : Wk xs ln N u n (f + 1) 4 a b c := by
  intro m Q D op p hD hop hK hp hn hT hf hQ
  obtain ⟨d, rfl⟩ : ∃ d, D = d + 9 := ⟨D - 9, by omega⟩
  rw [PL_l _ _ _ _ _ _ (show 4 < 5 by decide)] at hQ
  show WP xs (d + 9) 126 0 0 _ _ _
  refine wp_x mx_126 (L := [some (.ref (89)), none, none, none]) (Nat.le_of_ble_eq_true rfl) rfl ?_
  refine g_aload_n m126_0 rfl ?_
  refine h_cv (k := 57) (p := 89) (args := []) (rest := []) m126_1 cn_125 (Nat.le_of_ble_eq_true rfl) rfl rfl rfl (t_57 _ _) (Nat.le_of_ble_eq_true rfl) ?_
  refine ih _ _ _ op p (by omega) hop hK hp hn hT (by omega) (fun v1 m1 ho1 => ?_)
  have hg1 := PL_ok (BT m u) n u f 5 op p hp
  refine gwr ?_
  refine g_istore_n (L2 := [some (.ref (89)), some (.int (v1)), none, none]) m126_4 rfl rfl ?_
  rw [if_neg (by decide)] at hQ
  have key : ∀ (k i : Nat) (o2 o3 : Option Value) (r : PR3) (v : Int32) (m2 : MW), i + k = 50 → WOut m op a b c r v m2 → GoodR n p r → (r.2.2 = true → p + 2 * i + 1 ≤ r.2.1) → PLoop (PL (BT m u) n u f 5 op) (BT m u) n 4 k r = PLoop (PL (BT m u) n u f 5 op) (BT m u) n 4 50 (PL (BT m u) n u f 5 op p) → gw xs (WP xs (d + 8)) 126 Q 5 [some (.ref (89)), some (.int (v)), o2, o3] [] (H m2 ln N) 0 0 := by
    intro k
    induction k with
    | zero =>
      intro i o2 o3 r v m2 hi ho hg hpl hfin
      have hfin2 : r = _ := hfin
      obtain ⟨g1, g2, g3⟩ := hg
      by_cases hrk : r.2.2 = true
      · have := hpl hrk
        omega
      · have h14 := ho.no hrk
        refine g_aload_n m126_5 rfl ?_
        refine h_gfI (k := 57) (p := 89) m126_6 rfl (t_57 _ _) rfl (h14) ?_
        refine h_if_eqT (xi := 0) (zi := 0) m126_9 rfl rfl (by decide) ?_
        refine g_iload_n m126_114 rfl ?_
        refine g_iret m126_115 rt_126 ?_
        exact hQ _ _ (by rw [← hfin2]; exact ho)
    | succ k ihk =>
      intro i o2 o3 r v m2 hi ho hg hpl hfin
      obtain ⟨g1, g2, g3⟩ := hg
      by_cases hrk : r.2.2 = true
      · have hK2 := hK.at ho hrk
        have hF2 := ho.1
        have hT2 := hF2.tap hT
        have hpl1 := hpl hrk
        obtain ⟨g4, g5, g6⟩ := g3 hrk
        refine g_aload_n m126_5 rfl ?_
        refine h_gfI (k := 57) (p := 89) m126_6 rfl (t_57 _ _) rfl (hK2.2.2.2.2.2.2.2) ?_
        refine h_if_eqF (xi := 1) (zi := 0) m126_9 rfl rfl (by decide) ?_
        refine g_aload_n m126_12 rfl ?_
        refine g_aload_n m126_13 rfl ?_
        refine h_gfI (k := 57) (p := 89) m126_14 rfl (t_57 _ _) rfl (hK2.2.1) ?_
        refine h_cv (k := 57) (p := 89) (args := [.int (nI (r.2.1))]) (rest := []) m126_17 cn_119 (Nat.le_of_ble_eq_true rfl) rfl rfl rfl (t_57 _ _) (Nat.le_of_ble_eq_true rfl) ?_
        refine c_byteAt hK2.1 hK2.2.2.1 hu g2 hn hT2 (fun hpn z hz hze => ?_) (fun hpn => ?_)
        · have hbt : bt (BT m u) n r.2.1 = (z : Int) := btW_y hpn (by rw [← hF2.bt u]; exact hze) hz
          refine gwr ?_
          refine g_bipush m126_20 ?_
          refine h_ic_eq (xi := ((z : Nat) : Int)) (zi := 42) m126_22 (nI_toInt (by omega)) rfl (fun c1 => ?_) (fun c1 => ?_)
          · skip
            obtain rfl : z = 42 := by omega
            rw [PLoop_y (k := k) ⟨hrk, by rw [hbt]; rfl⟩, hbt, ofInt_n] at hfin
            refine g_aload_n m126_51 rfl ?_
            refine g_aload_n m126_52 rfl ?_
            refine h_gfI (k := 57) (p := 89) m126_53 rfl (t_57 _ _) rfl (hK2.2.1) ?_
            refine h_cv (k := 57) (p := 89) (args := [.int (nI (r.2.1))]) (rest := []) m126_56 cn_119 (Nat.le_of_ble_eq_true rfl) rfl rfl rfl (t_57 _ _) (Nat.le_of_ble_eq_true rfl) ?_
            refine c_byteAt hK2.1 hK2.2.2.1 hu g2 hn hT2 (fun hpn2 z2 hz2 hze2 => ?_) (fun hpn2 => absurd hpn2 (by omega))
            rw [show nI z2 = nI 42 from hze2.symm.trans hze]
            refine gwr ?_
            refine g_istore_n (L2 := [some (.ref (89)), some (.int (v)), some (.int (42)), o3]) m126_59 rfl rfl ?_
            refine g_aload_n m126_60 rfl ?_
            refine g_dup m126_61 rfl ?_
            refine h_gfI (k := 57) (p := 89) m126_62 rfl (t_57 _ _) rfl (hK2.2.1) ?_
            refine g_iconst m126_65 ?_
            refine g_iadd (u := nI ((r.2.1) + 1)) m126_66 (nI_add (r.2.1) 1) ?_
            refine h_pfI (k := 57) (p := 89) m126_67 rfl (t_57 _ _) rfl trivial ?_
            refine g_aload_n m126_70 rfl ?_
            refine h_cv (k := 57) (p := 89) (args := []) (rest := []) m126_71 cn_125 (Nat.le_of_ble_eq_true rfl) rfl rfl rfl (t_57 _ _) (Nat.le_of_ble_eq_true rfl) ?_
            have hK3 : WkS (upm m2 57 8 (nI (r.2.1 + 1))) u n (r.2.1 + 1) op a b c true := ⟨hK2.1, rfl, hK2.2.2.1, hK2.2.2.2.1, hK2.2.2.2.2.1, hK2.2.2.2.2.2.1, hK2.2.2.2.2.2.2.1, hK2.2.2.2.2.2.2.2⟩
            have hF3 : FrW m2 (upm m2 57 8 (nI (r.2.1 + 1))) := FrW.rf.up _ (Or.inl rfl)
            have ht3 : BT (upm m2 57 8 (nI (r.2.1 + 1))) u = BT m u := (hF2.tr hF3).bt u
            refine ih _ _ _ op (r.2.1 + 1) (by omega) hop hK3 (by omega) hn (hF3.tap hT2) (by omega) (fun v2 m4 ho4 => ?_)
            rw [ht3] at ho4
            have hg4 := PL_ok (BT m u) n u f 5 op (r.2.1 + 1) hpn
            refine gwr ?_
            refine g_istore_n (L2 := [some (.ref (89)), some (.int (v)), some (.int (42)), some (.int (v2))]) m126_74 rfl rfl ?_
            refine g_iload_n m126_75 rfl ?_
            refine g_bipush m126_76 ?_
            refine h_ic_neT (xi := 42) (zi := 42) m126_78 rfl rfl (by decide) ?_
            refine g_iload_n m126_81 rfl ?_
            refine g_iload_n m126_82 rfl ?_
            refine g_imul m126_83 rfl ?_
            refine g_goto m126_84 ?_
            refine g_istore_n (L2 := [some (.ref (89)), some (.int ((v * v2))), some (.int (42)), some (.int (v2))]) m126_110 rfl rfl ?_
            refine g_goto m126_111 ?_
            refine ihk (i + 1) _ _ _ _ _ (by omega) (ho.bin hrk hF3 ho4 (lv := 4) (z := 42) rfl (bv_42)) ?_ ?_ hfin
            · obtain ⟨q1, q2, q3⟩ := hg4
              refine ⟨by show p ≤ (PL (BT m u) n u f 5 op (r.2.1 + 1)).2.1; omega, q2, fun hk => ?_⟩
              obtain ⟨q4, q5, q6⟩ := q3 hk
              refine ⟨by show p < (PL (BT m u) n u f 5 op (r.2.1 + 1)).2.1; omega, CodeOk_bin (lv := 4) (z := ((42 : Nat) : Int)) g5 q5 rfl, ?_⟩
              show (r.1 ++ (PL (BT m u) n u f 5 op (r.2.1 + 1)).1 ++ [nI 42]).length ≤ (PL (BT m u) n u f 5 op (r.2.1 + 1)).2.1 - p
              rw [List.length_append, List.length_append, List.length_singleton]
              omega
            · intro hk
              have q4 := (hg4.2.2 hk).1
              show p + 2 * (i + 1) + 1 ≤ (PL (BT m u) n u f 5 op (r.2.1 + 1)).2.1
              omega
          · skip
            refine g_aload_n m126_25 rfl ?_
            refine g_aload_n m126_26 rfl ?_
            refine h_gfI (k := 57) (p := 89) m126_27 rfl (t_57 _ _) rfl (hK2.2.1) ?_
            refine h_cv (k := 57) (p := 89) (args := [.int (nI (r.2.1))]) (rest := []) m126_30 cn_119 (Nat.le_of_ble_eq_true rfl) rfl rfl rfl (t_57 _ _) (Nat.le_of_ble_eq_true rfl) ?_
            refine c_byteAt hK2.1 hK2.2.2.1 hu g2 hn hT2 (fun hpn2 z2 hz2 hze2 => ?_) (fun hpn2 => ?_)
            · rw [show nI z2 = nI z from hze2.symm.trans hze]
              refine gwr ?_
              refine g_bipush m126_33 ?_
              refine h_ic_eq (xi := ((z : Nat) : Int)) (zi := 47) m126_35 (nI_toInt (by omega)) rfl (fun c2 => ?_) (fun c2 => ?_)
              · skip
                obtain rfl : z = 47 := by omega
                rw [PLoop_y (k := k) ⟨hrk, by rw [hbt]; rfl⟩, hbt, ofInt_n] at hfin
                refine g_aload_n m126_51 rfl ?_
                refine g_aload_n m126_52 rfl ?_
                refine h_gfI (k := 57) (p := 89) m126_53 rfl (t_57 _ _) rfl (hK2.2.1) ?_
                refine h_cv (k := 57) (p := 89) (args := [.int (nI (r.2.1))]) (rest := []) m126_56 cn_119 (Nat.le_of_ble_eq_true rfl) rfl rfl rfl (t_57 _ _) (Nat.le_of_ble_eq_true rfl) ?_
                refine c_byteAt hK2.1 hK2.2.2.1 hu g2 hn hT2 (fun hpn2 z2 hz2 hze2 => ?_) (fun hpn2 => absurd hpn2 (by omega))
                rw [show nI z2 = nI 47 from hze2.symm.trans hze]
                refine gwr ?_
                refine g_istore_n (L2 := [some (.ref (89)), some (.int (v)), some (.int (47)), o3]) m126_59 rfl rfl ?_
                refine g_aload_n m126_60 rfl ?_
                refine g_dup m126_61 rfl ?_
                refine h_gfI (k := 57) (p := 89) m126_62 rfl (t_57 _ _) rfl (hK2.2.1) ?_
                refine g_iconst m126_65 ?_
                refine g_iadd (u := nI ((r.2.1) + 1)) m126_66 (nI_add (r.2.1) 1) ?_
                refine h_pfI (k := 57) (p := 89) m126_67 rfl (t_57 _ _) rfl trivial ?_
                refine g_aload_n m126_70 rfl ?_
                refine h_cv (k := 57) (p := 89) (args := []) (rest := []) m126_71 cn_125 (Nat.le_of_ble_eq_true rfl) rfl rfl rfl (t_57 _ _) (Nat.le_of_ble_eq_true rfl) ?_
                have hK3 : WkS (upm m2 57 8 (nI (r.2.1 + 1))) u n (r.2.1 + 1) op a b c true := ⟨hK2.1, rfl, hK2.2.2.1, hK2.2.2.2.1, hK2.2.2.2.2.1, hK2.2.2.2.2.2.1, hK2.2.2.2.2.2.2.1, hK2.2.2.2.2.2.2.2⟩
                have hF3 : FrW m2 (upm m2 57 8 (nI (r.2.1 + 1))) := FrW.rf.up _ (Or.inl rfl)
                have ht3 : BT (upm m2 57 8 (nI (r.2.1 + 1))) u = BT m u := (hF2.tr hF3).bt u
                refine ih _ _ _ op (r.2.1 + 1) (by omega) hop hK3 (by omega) hn (hF3.tap hT2) (by omega) (fun v2 m4 ho4 => ?_)
                rw [ht3] at ho4
                have hg4 := PL_ok (BT m u) n u f 5 op (r.2.1 + 1) hpn
                refine gwr ?_
                refine g_istore_n (L2 := [some (.ref (89)), some (.int (v)), some (.int (47)), some (.int (v2))]) m126_74 rfl rfl ?_
                refine g_iload_n m126_75 rfl ?_
                refine g_bipush m126_76 ?_
                refine h_ic_neF (xi := 47) (zi := 42) m126_78 rfl rfl (by decide) ?_
                refine g_iload_n m126_87 rfl ?_
                refine h_if_ne (xi := _) (zi := 0) m126_88 rfl rfl (fun c3 => ?_) (fun c3 => ?_)
                · skip
                  refine g_iconst m126_91 ?_
                  refine g_goto m126_92 ?_
                  refine g_istore_n (L2 := [some (.ref (89)), some (.int (0)), some (.int (47)), some (.int (v2))]) m126_110 rfl rfl ?_
                  refine g_goto m126_111 ?_
                  refine ihk (i + 1) _ _ _ _ _ (by omega) (ho.bin hrk hF3 ho4 (lv := 4) (z := 47) rfl (bv_47.trans (by simp [c3]))) ?_ ?_ hfin
                  · obtain ⟨q1, q2, q3⟩ := hg4
                    refine ⟨by show p ≤ (PL (BT m u) n u f 5 op (r.2.1 + 1)).2.1; omega, q2, fun hk => ?_⟩
                    obtain ⟨q4, q5, q6⟩ := q3 hk
                    refine ⟨by show p < (PL (BT m u) n u f 5 op (r.2.1 + 1)).2.1; omega, CodeOk_bin (lv := 4) (z := ((47 : Nat) : Int)) g5 q5 rfl, ?_⟩
                    show (r.1 ++ (PL (BT m u) n u f 5 op (r.2.1 + 1)).1 ++ [nI 47]).length ≤ (PL (BT m u) n u f 5 op (r.2.1 + 1)).2.1 - p
                    rw [List.length_append, List.length_append, List.length_singleton]
                    omega
                  · intro hk
                    have q4 := (hg4.2.2 hk).1
                    show p + 2 * (i + 1) + 1 ≤ (PL (BT m u) n u f 5 op (r.2.1 + 1)).2.1
                    omega
                · skip
                  refine g_iload_n m126_95 rfl ?_
                  refine g_bipush m126_96 ?_
                  refine h_ic_neT (xi := 47) (zi := 47) m126_98 rfl rfl (by decide) ?_
                  refine g_iload_n m126_101 rfl ?_
                  refine g_iload_n m126_102 rfl ?_
                  refine g_idiv m126_103 (fun z0 => by subst z0; exact absurd rfl (by assumption)) rfl ?_
                  refine g_goto m126_104 ?_
                  refine g_istore_n (L2 := [some (.ref (89)), some (.int ((v / v2))), some (.int (47)), some (.int (v2))]) m126_110 rfl rfl ?_
                  refine g_goto m126_111 ?_
                  refine ihk (i + 1) _ _ _ _ _ (by omega) (ho.bin hrk hF3 ho4 (lv := 4) (z := 47) rfl (bv_47.trans (by simp [c3]))) ?_ ?_ hfin
                  · obtain ⟨q1, q2, q3⟩ := hg4
                    refine ⟨by show p ≤ (PL (BT m u) n u f 5 op (r.2.1 + 1)).2.1; omega, q2, fun hk => ?_⟩
                    obtain ⟨q4, q5, q6⟩ := q3 hk
                    refine ⟨by show p < (PL (BT m u) n u f 5 op (r.2.1 + 1)).2.1; omega, CodeOk_bin (lv := 4) (z := ((47 : Nat) : Int)) g5 q5 rfl, ?_⟩
                    show (r.1 ++ (PL (BT m u) n u f 5 op (r.2.1 + 1)).1 ++ [nI 47]).length ≤ (PL (BT m u) n u f 5 op (r.2.1 + 1)).2.1 - p
                    rw [List.length_append, List.length_append, List.length_singleton]
                    omega
                  · intro hk
                    have q4 := (hg4.2.2 hk).1
                    show p + 2 * (i + 1) + 1 ≤ (PL (BT m u) n u f 5 op (r.2.1 + 1)).2.1
                    omega
              · skip
                refine g_aload_n m126_38 rfl ?_
                refine g_aload_n m126_39 rfl ?_
                refine h_gfI (k := 57) (p := 89) m126_40 rfl (t_57 _ _) rfl (hK2.2.1) ?_
                refine h_cv (k := 57) (p := 89) (args := [.int (nI (r.2.1))]) (rest := []) m126_43 cn_119 (Nat.le_of_ble_eq_true rfl) rfl rfl rfl (t_57 _ _) (Nat.le_of_ble_eq_true rfl) ?_
                refine c_byteAt hK2.1 hK2.2.2.1 hu g2 hn hT2 (fun hpn2 z2 hz2 hze2 => ?_) (fun hpn2 => ?_)
                · rw [show nI z2 = nI z from hze2.symm.trans hze]
                  refine gwr ?_
                  refine g_bipush m126_46 ?_
                  refine h_ic_ne (xi := ((z : Nat) : Int)) (zi := 37) m126_48 (nI_toInt (by omega)) rfl (fun c4 => ?_) (fun c4 => ?_)
                  · skip
                    obtain rfl : z = 37 := by omega
                    rw [PLoop_y (k := k) ⟨hrk, by rw [hbt]; rfl⟩, hbt, ofInt_n] at hfin
                    refine g_aload_n m126_51 rfl ?_
                    refine g_aload_n m126_52 rfl ?_
                    refine h_gfI (k := 57) (p := 89) m126_53 rfl (t_57 _ _) rfl (hK2.2.1) ?_
                    refine h_cv (k := 57) (p := 89) (args := [.int (nI (r.2.1))]) (rest := []) m126_56 cn_119 (Nat.le_of_ble_eq_true rfl) rfl rfl rfl (t_57 _ _) (Nat.le_of_ble_eq_true rfl) ?_
                    refine c_byteAt hK2.1 hK2.2.2.1 hu g2 hn hT2 (fun hpn2 z2 hz2 hze2 => ?_) (fun hpn2 => absurd hpn2 (by omega))
                    rw [show nI z2 = nI 37 from hze2.symm.trans hze]
                    refine gwr ?_
                    refine g_istore_n (L2 := [some (.ref (89)), some (.int (v)), some (.int (37)), o3]) m126_59 rfl rfl ?_
                    refine g_aload_n m126_60 rfl ?_
                    refine g_dup m126_61 rfl ?_
                    refine h_gfI (k := 57) (p := 89) m126_62 rfl (t_57 _ _) rfl (hK2.2.1) ?_
                    refine g_iconst m126_65 ?_
                    refine g_iadd (u := nI ((r.2.1) + 1)) m126_66 (nI_add (r.2.1) 1) ?_
                    refine h_pfI (k := 57) (p := 89) m126_67 rfl (t_57 _ _) rfl trivial ?_
                    refine g_aload_n m126_70 rfl ?_
                    refine h_cv (k := 57) (p := 89) (args := []) (rest := []) m126_71 cn_125 (Nat.le_of_ble_eq_true rfl) rfl rfl rfl (t_57 _ _) (Nat.le_of_ble_eq_true rfl) ?_
                    have hK3 : WkS (upm m2 57 8 (nI (r.2.1 + 1))) u n (r.2.1 + 1) op a b c true := ⟨hK2.1, rfl, hK2.2.2.1, hK2.2.2.2.1, hK2.2.2.2.2.1, hK2.2.2.2.2.2.1, hK2.2.2.2.2.2.2.1, hK2.2.2.2.2.2.2.2⟩
                    have hF3 : FrW m2 (upm m2 57 8 (nI (r.2.1 + 1))) := FrW.rf.up _ (Or.inl rfl)
                    have ht3 : BT (upm m2 57 8 (nI (r.2.1 + 1))) u = BT m u := (hF2.tr hF3).bt u
                    refine ih _ _ _ op (r.2.1 + 1) (by omega) hop hK3 (by omega) hn (hF3.tap hT2) (by omega) (fun v2 m4 ho4 => ?_)
                    rw [ht3] at ho4
                    have hg4 := PL_ok (BT m u) n u f 5 op (r.2.1 + 1) hpn
                    refine gwr ?_
                    refine g_istore_n (L2 := [some (.ref (89)), some (.int (v)), some (.int (37)), some (.int (v2))]) m126_74 rfl rfl ?_
                    refine g_iload_n m126_75 rfl ?_
                    refine g_bipush m126_76 ?_
                    refine h_ic_neF (xi := 37) (zi := 42) m126_78 rfl rfl (by decide) ?_
                    refine g_iload_n m126_87 rfl ?_
                    refine h_if_ne (xi := _) (zi := 0) m126_88 rfl rfl (fun c5 => ?_) (fun c5 => ?_)
                    · skip
                      refine g_iconst m126_91 ?_
                      refine g_goto m126_92 ?_
                      refine g_istore_n (L2 := [some (.ref (89)), some (.int (0)), some (.int (37)), some (.int (v2))]) m126_110 rfl rfl ?_
                      refine g_goto m126_111 ?_
                      refine ihk (i + 1) _ _ _ _ _ (by omega) (ho.bin hrk hF3 ho4 (lv := 4) (z := 37) rfl (bv_37.trans (by simp [c5]))) ?_ ?_ hfin
                      · obtain ⟨q1, q2, q3⟩ := hg4
                        refine ⟨by show p ≤ (PL (BT m u) n u f 5 op (r.2.1 + 1)).2.1; omega, q2, fun hk => ?_⟩
                        obtain ⟨q4, q5, q6⟩ := q3 hk
                        refine ⟨by show p < (PL (BT m u) n u f 5 op (r.2.1 + 1)).2.1; omega, CodeOk_bin (lv := 4) (z := ((37 : Nat) : Int)) g5 q5 rfl, ?_⟩
                        show (r.1 ++ (PL (BT m u) n u f 5 op (r.2.1 + 1)).1 ++ [nI 37]).length ≤ (PL (BT m u) n u f 5 op (r.2.1 + 1)).2.1 - p
                        rw [List.length_append, List.length_append, List.length_singleton]
                        omega
                      · intro hk
                        have q4 := (hg4.2.2 hk).1
                        show p + 2 * (i + 1) + 1 ≤ (PL (BT m u) n u f 5 op (r.2.1 + 1)).2.1
                        omega
                    · skip
                      refine g_iload_n m126_95 rfl ?_
                      refine g_bipush m126_96 ?_
                      refine h_ic_neF (xi := 37) (zi := 47) m126_98 rfl rfl (by decide) ?_
                      refine g_iload_n m126_107 rfl ?_
                      refine g_iload_n m126_108 rfl ?_
                      refine g_irem m126_109 (fun z0 => by subst z0; exact absurd rfl (by assumption)) rfl ?_
                      refine g_istore_n (L2 := [some (.ref (89)), some (.int _), some (.int (37)), some (.int (v2))]) m126_110 rfl rfl ?_
                      refine g_goto m126_111 ?_
                      refine ihk (i + 1) _ _ _ _ _ (by omega) (ho.bin hrk hF3 ho4 (lv := 4) (z := 37) rfl (bv_37.trans (by simp [c5]))) ?_ ?_ hfin
                      · obtain ⟨q1, q2, q3⟩ := hg4
                        refine ⟨by show p ≤ (PL (BT m u) n u f 5 op (r.2.1 + 1)).2.1; omega, q2, fun hk => ?_⟩
                        obtain ⟨q4, q5, q6⟩ := q3 hk
                        refine ⟨by show p < (PL (BT m u) n u f 5 op (r.2.1 + 1)).2.1; omega, CodeOk_bin (lv := 4) (z := ((37 : Nat) : Int)) g5 q5 rfl, ?_⟩
                        show (r.1 ++ (PL (BT m u) n u f 5 op (r.2.1 + 1)).1 ++ [nI 37]).length ≤ (PL (BT m u) n u f 5 op (r.2.1 + 1)).2.1 - p
                        rw [List.length_append, List.length_append, List.length_singleton]
                        omega
                      · intro hk
                        have q4 := (hg4.2.2 hk).1
                        show p + 2 * (i + 1) + 1 ≤ (PL (BT m u) n u f 5 op (r.2.1 + 1)).2.1
                        omega
                  · skip
                    refine g_iload_n m126_114 rfl ?_
                    refine g_iret m126_115 rt_126 ?_
                    rw [PLoop_n (fun q => by have hsg := q.2; rw [hbt] at hsg; have hin := sgl_4 hsg; omega)] at hfin
                    exact hQ _ _ (by rw [← hfin]; exact ho)
                · exact absurd hpn (by omega)
            · exact absurd hpn (by omega)
        · have hbt : bt (BT m u) n r.2.1 = -1 := bt_n hpn
          refine gwr ?_
          refine g_bipush m126_20 ?_
          refine h_ic_eqF (xi := (-1)) (zi := 42) m126_22 rfl rfl (by decide) ?_
          refine g_aload_n m126_25 rfl ?_
          refine g_aload_n m126_26 rfl ?_
          refine h_gfI (k := 57) (p := 89) m126_27 rfl (t_57 _ _) rfl (hK2.2.1) ?_
          refine h_cv (k := 57) (p := 89) (args := [.int (nI (r.2.1))]) (rest := []) m126_30 cn_119 (Nat.le_of_ble_eq_true rfl) rfl rfl rfl (t_57 _ _) (Nat.le_of_ble_eq_true rfl) ?_
          refine c_byteAt hK2.1 hK2.2.2.1 hu g2 hn hT2 (fun hpn2 z2 hz2 hze2 => ?_) (fun hpn2 => ?_)
          · exact absurd hpn2 (by omega)
          · skip
            refine gwr ?_
            refine g_bipush m126_33 ?_
            refine h_ic_eqF (xi := (-1)) (zi := 47) m126_35 rfl rfl (by decide) ?_
            refine g_aload_n m126_38 rfl ?_
            refine g_aload_n m126_39 rfl ?_
            refine h_gfI (k := 57) (p := 89) m126_40 rfl (t_57 _ _) rfl (hK2.2.1) ?_
            refine h_cv (k := 57) (p := 89) (args := [.int (nI (r.2.1))]) (rest := []) m126_43 cn_119 (Nat.le_of_ble_eq_true rfl) rfl rfl rfl (t_57 _ _) (Nat.le_of_ble_eq_true rfl) ?_
            refine c_byteAt hK2.1 hK2.2.2.1 hu g2 hn hT2 (fun hpn2 z2 hz2 hze2 => ?_) (fun hpn2 => ?_)
            · exact absurd hpn2 (by omega)
            · skip
              refine gwr ?_
              refine g_bipush m126_46 ?_
              refine h_ic_neF (xi := (-1)) (zi := 37) m126_48 rfl rfl (by decide) ?_
              refine g_iload_n m126_114 rfl ?_
              refine g_iret m126_115 rt_126 ?_
              rw [PLoop_n (fun q => by have hsg := q.2; rw [hbt] at hsg; have hin := sgl_4 hsg; omega)] at hfin
              exact hQ _ _ (by rw [← hfin]; exact ho)
      · have h14 := ho.no hrk
        rw [PLoop_n (fun q => hrk q.1)] at hfin
        refine g_aload_n m126_5 rfl ?_
        refine h_gfI (k := 57) (p := 89) m126_6 rfl (t_57 _ _) rfl (h14) ?_
        refine h_if_eqT (xi := 0) (zi := 0) m126_9 rfl rfl (by decide) ?_
        refine g_iload_n m126_114 rfl ?_
        refine g_iret m126_115 rt_126 ?_
        exact hQ _ _ (by rw [← hfin]; exact ho)
  exact key 50 0 _ _ _ _ _ (by omega) ho1 hg1 (fun hk => by have := (hg1.2.2 hk).1; omega) rfl
set_option maxRecDepth 20000 in
set_option maxHeartbeats 40000000 in
theorem w_127 {u n f : Nat} {a b c : Int32} (hu : u ≤ 1) (ih : Wk xs ln N u n f 4 a b c) : Wk xs ln N u n (f + 1) 3 a b c := by
  intro m Q D op p hD hop hK hp hn hT hf hQ
  obtain ⟨d, rfl⟩ : ∃ d, D = d + 9 := ⟨D - 9, by omega⟩
  rw [PL_l _ _ _ _ _ _ (show 3 < 5 by decide)] at hQ
  show WP xs (d + 9) 127 0 0 _ _ _
  refine wp_x mx_127 (L := [some (.ref (89)), none, none, none]) (Nat.le_of_ble_eq_true rfl) rfl ?_
  refine g_aload_n m127_0 rfl ?_
  refine h_cv (k := 57) (p := 89) (args := []) (rest := []) m127_1 cn_126 (Nat.le_of_ble_eq_true rfl) rfl rfl rfl (t_57 _ _) (Nat.le_of_ble_eq_true rfl) ?_
  refine ih _ _ _ op p (by omega) hop hK hp hn hT (by omega) (fun v1 m1 ho1 => ?_)
  have hg1 := PL_ok (BT m u) n u f 4 op p hp
  refine gwr ?_
  refine g_istore_n (L2 := [some (.ref (89)), some (.int (v1)), none, none]) m127_4 rfl rfl ?_
  rw [if_neg (by decide)] at hQ
  have key : ∀ (k i : Nat) (o2 o3 : Option Value) (r : PR3) (v : Int32) (m2 : MW), i + k = 50 → WOut m op a b c r v m2 → GoodR n p r → (r.2.2 = true → p + 2 * i + 1 ≤ r.2.1) → PLoop (PL (BT m u) n u f 4 op) (BT m u) n 3 k r = PLoop (PL (BT m u) n u f 4 op) (BT m u) n 3 50 (PL (BT m u) n u f 4 op p) → gw xs (WP xs (d + 8)) 127 Q 5 [some (.ref (89)), some (.int (v)), o2, o3] [] (H m2 ln N) 0 0 := by
    intro k
    induction k with
    | zero =>
      intro i o2 o3 r v m2 hi ho hg hpl hfin
      have hfin2 : r = _ := hfin
      obtain ⟨g1, g2, g3⟩ := hg
      by_cases hrk : r.2.2 = true
      · have := hpl hrk
        omega
      · have h14 := ho.no hrk
        refine g_aload_n m127_5 rfl ?_
        refine h_gfI (k := 57) (p := 89) m127_6 rfl (t_57 _ _) rfl (h14) ?_
        refine h_if_eqT (xi := 0) (zi := 0) m127_9 rfl rfl (by decide) ?_
        refine g_iload_n m127_81 rfl ?_
        refine g_iret m127_82 rt_127 ?_
        exact hQ _ _ (by rw [← hfin2]; exact ho)
    | succ k ihk =>
      intro i o2 o3 r v m2 hi ho hg hpl hfin
      obtain ⟨g1, g2, g3⟩ := hg
      by_cases hrk : r.2.2 = true
      · have hK2 := hK.at ho hrk
        have hF2 := ho.1
        have hT2 := hF2.tap hT
        have hpl1 := hpl hrk
        obtain ⟨g4, g5, g6⟩ := g3 hrk
        refine g_aload_n m127_5 rfl ?_
        refine h_gfI (k := 57) (p := 89) m127_6 rfl (t_57 _ _) rfl (hK2.2.2.2.2.2.2.2) ?_
        refine h_if_eqF (xi := 1) (zi := 0) m127_9 rfl rfl (by decide) ?_
        refine g_aload_n m127_12 rfl ?_
        refine g_aload_n m127_13 rfl ?_
        refine h_gfI (k := 57) (p := 89) m127_14 rfl (t_57 _ _) rfl (hK2.2.1) ?_
        refine h_cv (k := 57) (p := 89) (args := [.int (nI (r.2.1))]) (rest := []) m127_17 cn_119 (Nat.le_of_ble_eq_true rfl) rfl rfl rfl (t_57 _ _) (Nat.le_of_ble_eq_true rfl) ?_
        refine c_byteAt hK2.1 hK2.2.2.1 hu g2 hn hT2 (fun hpn z hz hze => ?_) (fun hpn => ?_)
        · have hbt : bt (BT m u) n r.2.1 = (z : Int) := btW_y hpn (by rw [← hF2.bt u]; exact hze) hz
          refine gwr ?_
          refine g_bipush m127_20 ?_
          refine h_ic_eq (xi := ((z : Nat) : Int)) (zi := 43) m127_22 (nI_toInt (by omega)) rfl (fun c1 => ?_) (fun c1 => ?_)
          · skip
            obtain rfl : z = 43 := by omega
            rw [PLoop_y (k := k) ⟨hrk, by rw [hbt]; rfl⟩, hbt, ofInt_n] at hfin
            refine g_aload_n m127_38 rfl ?_
            refine g_aload_n m127_39 rfl ?_
            refine h_gfI (k := 57) (p := 89) m127_40 rfl (t_57 _ _) rfl (hK2.2.1) ?_
            refine h_cv (k := 57) (p := 89) (args := [.int (nI (r.2.1))]) (rest := []) m127_43 cn_119 (Nat.le_of_ble_eq_true rfl) rfl rfl rfl (t_57 _ _) (Nat.le_of_ble_eq_true rfl) ?_
            refine c_byteAt hK2.1 hK2.2.2.1 hu g2 hn hT2 (fun hpn2 z2 hz2 hze2 => ?_) (fun hpn2 => absurd hpn2 (by omega))
            rw [show nI z2 = nI 43 from hze2.symm.trans hze]
            refine gwr ?_
            refine g_istore_n (L2 := [some (.ref (89)), some (.int (v)), some (.int (43)), o3]) m127_46 rfl rfl ?_
            refine g_aload_n m127_47 rfl ?_
            refine g_dup m127_48 rfl ?_
            refine h_gfI (k := 57) (p := 89) m127_49 rfl (t_57 _ _) rfl (hK2.2.1) ?_
            refine g_iconst m127_52 ?_
            refine g_iadd (u := nI ((r.2.1) + 1)) m127_53 (nI_add (r.2.1) 1) ?_
            refine h_pfI (k := 57) (p := 89) m127_54 rfl (t_57 _ _) rfl trivial ?_
            refine g_aload_n m127_57 rfl ?_
            refine h_cv (k := 57) (p := 89) (args := []) (rest := []) m127_58 cn_126 (Nat.le_of_ble_eq_true rfl) rfl rfl rfl (t_57 _ _) (Nat.le_of_ble_eq_true rfl) ?_
            have hK3 : WkS (upm m2 57 8 (nI (r.2.1 + 1))) u n (r.2.1 + 1) op a b c true := ⟨hK2.1, rfl, hK2.2.2.1, hK2.2.2.2.1, hK2.2.2.2.2.1, hK2.2.2.2.2.2.1, hK2.2.2.2.2.2.2.1, hK2.2.2.2.2.2.2.2⟩
            have hF3 : FrW m2 (upm m2 57 8 (nI (r.2.1 + 1))) := FrW.rf.up _ (Or.inl rfl)
            have ht3 : BT (upm m2 57 8 (nI (r.2.1 + 1))) u = BT m u := (hF2.tr hF3).bt u
            refine ih _ _ _ op (r.2.1 + 1) (by omega) hop hK3 (by omega) hn (hF3.tap hT2) (by omega) (fun v2 m4 ho4 => ?_)
            rw [ht3] at ho4
            have hg4 := PL_ok (BT m u) n u f 4 op (r.2.1 + 1) hpn
            refine gwr ?_
            refine g_istore_n (L2 := [some (.ref (89)), some (.int (v)), some (.int (43)), some (.int (v2))]) m127_61 rfl rfl ?_
            refine g_iload_n m127_62 rfl ?_
            refine g_bipush m127_63 ?_
            refine h_ic_neT (xi := 43) (zi := 43) m127_65 rfl rfl (by decide) ?_
            refine g_iload_n m127_68 rfl ?_
            refine g_iload_n m127_69 rfl ?_
            refine g_iadd m127_70 rfl ?_
            refine g_goto m127_71 ?_
            refine g_istore_n (L2 := [some (.ref (89)), some (.int ((v + v2))), some (.int (43)), some (.int (v2))]) m127_77 rfl rfl ?_
            refine g_goto m127_78 ?_
            refine ihk (i + 1) _ _ _ _ _ (by omega) (ho.bin hrk hF3 ho4 (lv := 3) (z := 43) rfl (bv_43)) ?_ ?_ hfin
            · obtain ⟨q1, q2, q3⟩ := hg4
              refine ⟨by show p ≤ (PL (BT m u) n u f 4 op (r.2.1 + 1)).2.1; omega, q2, fun hk => ?_⟩
              obtain ⟨q4, q5, q6⟩ := q3 hk
              refine ⟨by show p < (PL (BT m u) n u f 4 op (r.2.1 + 1)).2.1; omega, CodeOk_bin (lv := 3) (z := ((43 : Nat) : Int)) g5 q5 rfl, ?_⟩
              show (r.1 ++ (PL (BT m u) n u f 4 op (r.2.1 + 1)).1 ++ [nI 43]).length ≤ (PL (BT m u) n u f 4 op (r.2.1 + 1)).2.1 - p
              rw [List.length_append, List.length_append, List.length_singleton]
              omega
            · intro hk
              have q4 := (hg4.2.2 hk).1
              show p + 2 * (i + 1) + 1 ≤ (PL (BT m u) n u f 4 op (r.2.1 + 1)).2.1
              omega
          · skip
            refine g_aload_n m127_25 rfl ?_
            refine g_aload_n m127_26 rfl ?_
            refine h_gfI (k := 57) (p := 89) m127_27 rfl (t_57 _ _) rfl (hK2.2.1) ?_
            refine h_cv (k := 57) (p := 89) (args := [.int (nI (r.2.1))]) (rest := []) m127_30 cn_119 (Nat.le_of_ble_eq_true rfl) rfl rfl rfl (t_57 _ _) (Nat.le_of_ble_eq_true rfl) ?_
            refine c_byteAt hK2.1 hK2.2.2.1 hu g2 hn hT2 (fun hpn2 z2 hz2 hze2 => ?_) (fun hpn2 => ?_)
            · rw [show nI z2 = nI z from hze2.symm.trans hze]
              refine gwr ?_
              refine g_bipush m127_33 ?_
              refine h_ic_ne (xi := ((z : Nat) : Int)) (zi := 45) m127_35 (nI_toInt (by omega)) rfl (fun c2 => ?_) (fun c2 => ?_)
              · skip
                obtain rfl : z = 45 := by omega
                rw [PLoop_y (k := k) ⟨hrk, by rw [hbt]; rfl⟩, hbt, ofInt_n] at hfin
                refine g_aload_n m127_38 rfl ?_
                refine g_aload_n m127_39 rfl ?_
                refine h_gfI (k := 57) (p := 89) m127_40 rfl (t_57 _ _) rfl (hK2.2.1) ?_
                refine h_cv (k := 57) (p := 89) (args := [.int (nI (r.2.1))]) (rest := []) m127_43 cn_119 (Nat.le_of_ble_eq_true rfl) rfl rfl rfl (t_57 _ _) (Nat.le_of_ble_eq_true rfl) ?_
                refine c_byteAt hK2.1 hK2.2.2.1 hu g2 hn hT2 (fun hpn2 z2 hz2 hze2 => ?_) (fun hpn2 => absurd hpn2 (by omega))
                rw [show nI z2 = nI 45 from hze2.symm.trans hze]
                refine gwr ?_
                refine g_istore_n (L2 := [some (.ref (89)), some (.int (v)), some (.int (45)), o3]) m127_46 rfl rfl ?_
                refine g_aload_n m127_47 rfl ?_
                refine g_dup m127_48 rfl ?_
                refine h_gfI (k := 57) (p := 89) m127_49 rfl (t_57 _ _) rfl (hK2.2.1) ?_
                refine g_iconst m127_52 ?_
                refine g_iadd (u := nI ((r.2.1) + 1)) m127_53 (nI_add (r.2.1) 1) ?_
                refine h_pfI (k := 57) (p := 89) m127_54 rfl (t_57 _ _) rfl trivial ?_
                refine g_aload_n m127_57 rfl ?_
                refine h_cv (k := 57) (p := 89) (args := []) (rest := []) m127_58 cn_126 (Nat.le_of_ble_eq_true rfl) rfl rfl rfl (t_57 _ _) (Nat.le_of_ble_eq_true rfl) ?_
                have hK3 : WkS (upm m2 57 8 (nI (r.2.1 + 1))) u n (r.2.1 + 1) op a b c true := ⟨hK2.1, rfl, hK2.2.2.1, hK2.2.2.2.1, hK2.2.2.2.2.1, hK2.2.2.2.2.2.1, hK2.2.2.2.2.2.2.1, hK2.2.2.2.2.2.2.2⟩
                have hF3 : FrW m2 (upm m2 57 8 (nI (r.2.1 + 1))) := FrW.rf.up _ (Or.inl rfl)
                have ht3 : BT (upm m2 57 8 (nI (r.2.1 + 1))) u = BT m u := (hF2.tr hF3).bt u
                refine ih _ _ _ op (r.2.1 + 1) (by omega) hop hK3 (by omega) hn (hF3.tap hT2) (by omega) (fun v2 m4 ho4 => ?_)
                rw [ht3] at ho4
                have hg4 := PL_ok (BT m u) n u f 4 op (r.2.1 + 1) hpn
                refine gwr ?_
                refine g_istore_n (L2 := [some (.ref (89)), some (.int (v)), some (.int (45)), some (.int (v2))]) m127_61 rfl rfl ?_
                refine g_iload_n m127_62 rfl ?_
                refine g_bipush m127_63 ?_
                refine h_ic_neF (xi := 45) (zi := 43) m127_65 rfl rfl (by decide) ?_
                refine g_iload_n m127_74 rfl ?_
                refine g_iload_n m127_75 rfl ?_
                refine g_isub m127_76 rfl ?_
                refine g_istore_n (L2 := [some (.ref (89)), some (.int ((v - v2))), some (.int (45)), some (.int (v2))]) m127_77 rfl rfl ?_
                refine g_goto m127_78 ?_
                refine ihk (i + 1) _ _ _ _ _ (by omega) (ho.bin hrk hF3 ho4 (lv := 3) (z := 45) rfl (bv_45)) ?_ ?_ hfin
                · obtain ⟨q1, q2, q3⟩ := hg4
                  refine ⟨by show p ≤ (PL (BT m u) n u f 4 op (r.2.1 + 1)).2.1; omega, q2, fun hk => ?_⟩
                  obtain ⟨q4, q5, q6⟩ := q3 hk
                  refine ⟨by show p < (PL (BT m u) n u f 4 op (r.2.1 + 1)).2.1; omega, CodeOk_bin (lv := 3) (z := ((45 : Nat) : Int)) g5 q5 rfl, ?_⟩
                  show (r.1 ++ (PL (BT m u) n u f 4 op (r.2.1 + 1)).1 ++ [nI 45]).length ≤ (PL (BT m u) n u f 4 op (r.2.1 + 1)).2.1 - p
                  rw [List.length_append, List.length_append, List.length_singleton]
                  omega
                · intro hk
                  have q4 := (hg4.2.2 hk).1
                  show p + 2 * (i + 1) + 1 ≤ (PL (BT m u) n u f 4 op (r.2.1 + 1)).2.1
                  omega
              · skip
                refine g_iload_n m127_81 rfl ?_
                refine g_iret m127_82 rt_127 ?_
                rw [PLoop_n (fun q => by have hsg := q.2; rw [hbt] at hsg; have hin := sgl_3 hsg; omega)] at hfin
                exact hQ _ _ (by rw [← hfin]; exact ho)
            · exact absurd hpn (by omega)
        · have hbt : bt (BT m u) n r.2.1 = -1 := bt_n hpn
          refine gwr ?_
          refine g_bipush m127_20 ?_
          refine h_ic_eqF (xi := (-1)) (zi := 43) m127_22 rfl rfl (by decide) ?_
          refine g_aload_n m127_25 rfl ?_
          refine g_aload_n m127_26 rfl ?_
          refine h_gfI (k := 57) (p := 89) m127_27 rfl (t_57 _ _) rfl (hK2.2.1) ?_
          refine h_cv (k := 57) (p := 89) (args := [.int (nI (r.2.1))]) (rest := []) m127_30 cn_119 (Nat.le_of_ble_eq_true rfl) rfl rfl rfl (t_57 _ _) (Nat.le_of_ble_eq_true rfl) ?_
          refine c_byteAt hK2.1 hK2.2.2.1 hu g2 hn hT2 (fun hpn2 z2 hz2 hze2 => ?_) (fun hpn2 => ?_)
          · exact absurd hpn2 (by omega)
          · skip
            refine gwr ?_
            refine g_bipush m127_33 ?_
            refine h_ic_neF (xi := (-1)) (zi := 45) m127_35 rfl rfl (by decide) ?_
            refine g_iload_n m127_81 rfl ?_
            refine g_iret m127_82 rt_127 ?_
            rw [PLoop_n (fun q => by have hsg := q.2; rw [hbt] at hsg; have hin := sgl_3 hsg; omega)] at hfin
            exact hQ _ _ (by rw [← hfin]; exact ho)
      · have h14 := ho.no hrk
        rw [PLoop_n (fun q => hrk q.1)] at hfin
        refine g_aload_n m127_5 rfl ?_
        refine h_gfI (k := 57) (p := 89) m127_6 rfl (t_57 _ _) rfl (h14) ?_
        refine h_if_eqT (xi := 0) (zi := 0) m127_9 rfl rfl (by decide) ?_
        refine g_iload_n m127_81 rfl ?_
        refine g_iret m127_82 rt_127 ?_
        exact hQ _ _ (by rw [← hfin]; exact ho)
  exact key 50 0 _ _ _ _ _ (by omega) ho1 hg1 (fun hk => by have := (hg1.2.2 hk).1; omega) rfl
set_option maxRecDepth 20000 in
set_option maxHeartbeats 40000000 in
theorem w_124 {u n f : Nat} {a b c : Int32} (hu : u ≤ 1) (ih : Wk xs ln N u n f 3 a b c) : Wk xs ln N u n (f + 1) 2 a b c := by
  intro m Q D op p hD hop hK hp hn hT hf hQ
  obtain ⟨d, rfl⟩ : ∃ d, D = d + 9 := ⟨D - 9, by omega⟩
  rw [PL_l _ _ _ _ _ _ (show 2 < 5 by decide)] at hQ
  show WP xs (d + 9) 124 0 0 _ _ _
  refine wp_x mx_124 (L := [some (.ref (89)), none, none, none, none]) (Nat.le_of_ble_eq_true rfl) rfl ?_
  refine g_aload_n m124_0 rfl ?_
  refine h_cv (k := 57) (p := 89) (args := []) (rest := []) m124_1 cn_127 (Nat.le_of_ble_eq_true rfl) rfl rfl rfl (t_57 _ _) (Nat.le_of_ble_eq_true rfl) ?_
  refine ih _ _ _ op p (by omega) hop hK hp hn hT (by omega) (fun v1 m1 ho1 => ?_)
  have hg1 := PL_ok (BT m u) n u f 3 op p hp
  refine gwr ?_
  refine g_istore_n (L2 := [some (.ref (89)), some (.int (v1)), none, none, none]) m124_4 rfl rfl ?_
  rw [if_pos rfl] at hQ
  revert ho1 hg1 hQ
  generalize PL (BT m u) n u f 3 op p = r
  intro hQ ho1 hg1
  obtain ⟨g1, g2, g3⟩ := hg1
  by_cases hrk : r.2.2 = true
  · have hK2 := hK.at ho1 hrk
    have hF2 := ho1.1
    have hT2 := hF2.tap hT
    refine g_aload_n m124_5 rfl ?_
    refine h_gfI (k := 57) (p := 89) m124_6 rfl (t_57 _ _) rfl (hK2.2.2.2.2.2.2.2) ?_
    refine h_if_eqF (xi := 1) (zi := 0) m124_9 rfl rfl (by decide) ?_
    refine g_aload_n m124_12 rfl ?_
    refine g_aload_n m124_13 rfl ?_
    refine h_gfI (k := 57) (p := 89) m124_14 rfl (t_57 _ _) rfl (hK2.2.1) ?_
    refine h_cv (k := 57) (p := 89) (args := [.int (nI (r.2.1))]) (rest := []) m124_17 cn_119 (Nat.le_of_ble_eq_true rfl) rfl rfl rfl (t_57 _ _) (Nat.le_of_ble_eq_true rfl) ?_
    refine c_byteAt hK2.1 hK2.2.2.1 hu g2 hn hT2 (fun hpn z hz hze => ?_) (fun hpn => ?_)
    · have hbt : bt (BT m u) n r.2.1 = (z : Int) := btW_y hpn (by rw [← hF2.bt u]; exact hze) hz
      refine gwr ?_
      refine g_goto m124_20 ?_
      refine g_istore_n (L2 := [some (.ref (89)), some (.int (v1)), some (.int (nI (z))), none, none]) m124_24 rfl rfl ?_
      refine g_iload_n m124_25 rfl ?_
      refine g_bipush m124_26 ?_
      refine h_ic_eq (xi := ((z : Nat) : Int)) (zi := 60) m124_28 (nI_toInt (by omega)) rfl (fun c1 => ?_) (fun c1 => ?_)
      · skip
        obtain rfl : z = 60 := by omega
        rw [PLoop_y (k := 0) ⟨hrk, by rw [hbt]; rfl⟩, hbt, ofInt_n] at hQ
        refine gwl (L' := [some (.ref (89)), some (.int (v1)), some (.int (60)), none, none]) rfl ?_
        refine g_aload_n m124_45 rfl ?_
        refine g_dup m124_46 rfl ?_
        refine h_gfI (k := 57) (p := 89) m124_47 rfl (t_57 _ _) rfl (hK2.2.1) ?_
        refine g_iconst m124_50 ?_
        refine g_iadd (u := nI ((r.2.1) + 1)) m124_51 (nI_add (r.2.1) 1) ?_
        refine h_pfI (k := 57) (p := 89) m124_52 rfl (t_57 _ _) rfl trivial ?_
        refine g_aload_n m124_55 rfl ?_
        refine h_cv (k := 57) (p := 89) (args := []) (rest := []) m124_56 cn_127 (Nat.le_of_ble_eq_true rfl) rfl rfl rfl (t_57 _ _) (Nat.le_of_ble_eq_true rfl) ?_
        have hK3 : WkS (upm m1 57 8 (nI (r.2.1 + 1))) u n (r.2.1 + 1) op a b c true := ⟨hK2.1, rfl, hK2.2.2.1, hK2.2.2.2.1, hK2.2.2.2.2.1, hK2.2.2.2.2.2.1, hK2.2.2.2.2.2.2.1, hK2.2.2.2.2.2.2.2⟩
        have hF3 : FrW m1 (upm m1 57 8 (nI (r.2.1 + 1))) := FrW.rf.up _ (Or.inl rfl)
        have ht3 : BT (upm m1 57 8 (nI (r.2.1 + 1))) u = BT m u := (hF2.tr hF3).bt u
        refine ih _ _ _ op (r.2.1 + 1) (by omega) hop hK3 (by omega) hn (hF3.tap hT2) (by omega) (fun v2 m4 ho4 => ?_)
        rw [ht3] at ho4
        refine gwr ?_
        refine g_istore_n (L2 := [some (.ref (89)), some (.int (v1)), some (.int (60)), some (.int (v2)), none]) m124_59 rfl rfl ?_
        refine g_iload_n m124_60 rfl ?_
        refine g_bipush m124_61 ?_
        refine h_ic_neT (xi := 60) (zi := 60) m124_63 rfl rfl (by decide) ?_
        refine g_iload_n m124_66 rfl ?_
        refine g_iload_n m124_67 rfl ?_
        refine h_ic_ge (xi := _) (zi := _) m124_68 rfl rfl (fun c2 => ?_) (fun c2 => ?_)
        · skip
          refine g_iconst m124_75 ?_
          refine g_goto m124_76 ?_
          refine g_istore (L2 := [some (.ref (89)), some (.int (v1)), some (.int (60)), some (.int (v2)), some (.int (0))]) m124_108 rfl rfl ?_
          refine g_iload m124_110 rfl ?_
          refine h_if_eqT (xi := 0) (zi := 0) m124_112 rfl rfl (by decide) ?_
          refine g_iconst m124_119 ?_
          refine g_iret m124_120 rt_124 ?_
          exact hQ _ _ (ho1.bin hrk hF3 ho4 (lv := 2) (z := 60) rfl (bv_60.trans (by simp [c2])))
        · skip
          refine g_iconst m124_71 ?_
          refine g_goto m124_72 ?_
          refine g_istore (L2 := [some (.ref (89)), some (.int (v1)), some (.int (60)), some (.int (v2)), some (.int (1))]) m124_108 rfl rfl ?_
          refine g_iload m124_110 rfl ?_
          refine h_if_eqF (xi := 1) (zi := 0) m124_112 rfl rfl (by decide) ?_
          refine g_iconst m124_115 ?_
          refine g_goto m124_116 ?_
          refine g_iret m124_120 rt_124 ?_
          exact hQ _ _ (ho1.bin hrk hF3 ho4 (lv := 2) (z := 60) rfl (bv_60.trans (by simp [c2])))
      · skip
        refine g_iload_n m124_31 rfl ?_
        refine g_bipush m124_32 ?_
        refine h_ic_eq (xi := ((z : Nat) : Int)) (zi := 61) m124_34 (nI_toInt (by omega)) rfl (fun c3 => ?_) (fun c3 => ?_)
        · skip
          obtain rfl : z = 61 := by omega
          rw [PLoop_y (k := 0) ⟨hrk, by rw [hbt]; rfl⟩, hbt, ofInt_n] at hQ
          refine gwl (L' := [some (.ref (89)), some (.int (v1)), some (.int (61)), none, none]) rfl ?_
          refine g_aload_n m124_45 rfl ?_
          refine g_dup m124_46 rfl ?_
          refine h_gfI (k := 57) (p := 89) m124_47 rfl (t_57 _ _) rfl (hK2.2.1) ?_
          refine g_iconst m124_50 ?_
          refine g_iadd (u := nI ((r.2.1) + 1)) m124_51 (nI_add (r.2.1) 1) ?_
          refine h_pfI (k := 57) (p := 89) m124_52 rfl (t_57 _ _) rfl trivial ?_
          refine g_aload_n m124_55 rfl ?_
          refine h_cv (k := 57) (p := 89) (args := []) (rest := []) m124_56 cn_127 (Nat.le_of_ble_eq_true rfl) rfl rfl rfl (t_57 _ _) (Nat.le_of_ble_eq_true rfl) ?_
          have hK3 : WkS (upm m1 57 8 (nI (r.2.1 + 1))) u n (r.2.1 + 1) op a b c true := ⟨hK2.1, rfl, hK2.2.2.1, hK2.2.2.2.1, hK2.2.2.2.2.1, hK2.2.2.2.2.2.1, hK2.2.2.2.2.2.2.1, hK2.2.2.2.2.2.2.2⟩
          have hF3 : FrW m1 (upm m1 57 8 (nI (r.2.1 + 1))) := FrW.rf.up _ (Or.inl rfl)
          have ht3 : BT (upm m1 57 8 (nI (r.2.1 + 1))) u = BT m u := (hF2.tr hF3).bt u
          refine ih _ _ _ op (r.2.1 + 1) (by omega) hop hK3 (by omega) hn (hF3.tap hT2) (by omega) (fun v2 m4 ho4 => ?_)
          rw [ht3] at ho4
          refine gwr ?_
          refine g_istore_n (L2 := [some (.ref (89)), some (.int (v1)), some (.int (61)), some (.int (v2)), none]) m124_59 rfl rfl ?_
          refine g_iload_n m124_60 rfl ?_
          refine g_bipush m124_61 ?_
          refine h_ic_neF (xi := 61) (zi := 60) m124_63 rfl rfl (by decide) ?_
          refine g_iload_n m124_79 rfl ?_
          refine g_bipush m124_80 ?_
          refine h_ic_neT (xi := 61) (zi := 61) m124_82 rfl rfl (by decide) ?_
          refine g_iload_n m124_85 rfl ?_
          refine g_iload_n m124_86 rfl ?_
          refine h_ic_ne (xi := _) (zi := _) m124_87 rfl rfl (fun c4 => ?_) (fun c4 => ?_)
          · skip
            refine g_iconst m124_90 ?_
            refine g_goto m124_91 ?_
            refine g_istore (L2 := [some (.ref (89)), some (.int (v1)), some (.int (61)), some (.int (v2)), some (.int (1))]) m124_108 rfl rfl ?_
            refine g_iload m124_110 rfl ?_
            refine h_if_eqF (xi := 1) (zi := 0) m124_112 rfl rfl (by decide) ?_
            refine g_iconst m124_115 ?_
            refine g_goto m124_116 ?_
            refine g_iret m124_120 rt_124 ?_
            exact hQ _ _ (ho1.bin hrk hF3 ho4 (lv := 2) (z := 61) rfl (bv_61.trans (by simp [c4])))
          · skip
            refine g_iconst m124_94 ?_
            refine g_goto m124_95 ?_
            refine g_istore (L2 := [some (.ref (89)), some (.int (v1)), some (.int (61)), some (.int (v2)), some (.int (0))]) m124_108 rfl rfl ?_
            refine g_iload m124_110 rfl ?_
            refine h_if_eqT (xi := 0) (zi := 0) m124_112 rfl rfl (by decide) ?_
            refine g_iconst m124_119 ?_
            refine g_iret m124_120 rt_124 ?_
            exact hQ _ _ (ho1.bin hrk hF3 ho4 (lv := 2) (z := 61) rfl (bv_61.trans (by simp [c4])))
        · skip
          refine g_iload_n m124_37 rfl ?_
          refine g_bipush m124_38 ?_
          refine h_ic_eq (xi := ((z : Nat) : Int)) (zi := 62) m124_40 (nI_toInt (by omega)) rfl (fun c5 => ?_) (fun c5 => ?_)
          · skip
            obtain rfl : z = 62 := by omega
            rw [PLoop_y (k := 0) ⟨hrk, by rw [hbt]; rfl⟩, hbt, ofInt_n] at hQ
            refine gwl (L' := [some (.ref (89)), some (.int (v1)), some (.int (62)), none, none]) rfl ?_
            refine g_aload_n m124_45 rfl ?_
            refine g_dup m124_46 rfl ?_
            refine h_gfI (k := 57) (p := 89) m124_47 rfl (t_57 _ _) rfl (hK2.2.1) ?_
            refine g_iconst m124_50 ?_
            refine g_iadd (u := nI ((r.2.1) + 1)) m124_51 (nI_add (r.2.1) 1) ?_
            refine h_pfI (k := 57) (p := 89) m124_52 rfl (t_57 _ _) rfl trivial ?_
            refine g_aload_n m124_55 rfl ?_
            refine h_cv (k := 57) (p := 89) (args := []) (rest := []) m124_56 cn_127 (Nat.le_of_ble_eq_true rfl) rfl rfl rfl (t_57 _ _) (Nat.le_of_ble_eq_true rfl) ?_
            have hK3 : WkS (upm m1 57 8 (nI (r.2.1 + 1))) u n (r.2.1 + 1) op a b c true := ⟨hK2.1, rfl, hK2.2.2.1, hK2.2.2.2.1, hK2.2.2.2.2.1, hK2.2.2.2.2.2.1, hK2.2.2.2.2.2.2.1, hK2.2.2.2.2.2.2.2⟩
            have hF3 : FrW m1 (upm m1 57 8 (nI (r.2.1 + 1))) := FrW.rf.up _ (Or.inl rfl)
            have ht3 : BT (upm m1 57 8 (nI (r.2.1 + 1))) u = BT m u := (hF2.tr hF3).bt u
            refine ih _ _ _ op (r.2.1 + 1) (by omega) hop hK3 (by omega) hn (hF3.tap hT2) (by omega) (fun v2 m4 ho4 => ?_)
            rw [ht3] at ho4
            refine gwr ?_
            refine g_istore_n (L2 := [some (.ref (89)), some (.int (v1)), some (.int (62)), some (.int (v2)), none]) m124_59 rfl rfl ?_
            refine g_iload_n m124_60 rfl ?_
            refine g_bipush m124_61 ?_
            refine h_ic_neF (xi := 62) (zi := 60) m124_63 rfl rfl (by decide) ?_
            refine g_iload_n m124_79 rfl ?_
            refine g_bipush m124_80 ?_
            refine h_ic_neF (xi := 62) (zi := 61) m124_82 rfl rfl (by decide) ?_
            refine g_iload_n m124_98 rfl ?_
            refine g_iload_n m124_99 rfl ?_
            refine h_ic_le (xi := _) (zi := _) m124_100 rfl rfl (fun c6 => ?_) (fun c6 => ?_)
            · skip
              refine g_iconst m124_107 ?_
              refine g_istore (L2 := [some (.ref (89)), some (.int (v1)), some (.int (62)), some (.int (v2)), some (.int (0))]) m124_108 rfl rfl ?_
              refine g_iload m124_110 rfl ?_
              refine h_if_eqT (xi := 0) (zi := 0) m124_112 rfl rfl (by decide) ?_
              refine g_iconst m124_119 ?_
              refine g_iret m124_120 rt_124 ?_
              exact hQ _ _ (ho1.bin hrk hF3 ho4 (lv := 2) (z := 62) rfl (bv_62.trans (by simp [c6])))
            · skip
              refine g_iconst m124_103 ?_
              refine g_goto m124_104 ?_
              refine g_istore (L2 := [some (.ref (89)), some (.int (v1)), some (.int (62)), some (.int (v2)), some (.int (1))]) m124_108 rfl rfl ?_
              refine g_iload m124_110 rfl ?_
              refine h_if_eqF (xi := 1) (zi := 0) m124_112 rfl rfl (by decide) ?_
              refine g_iconst m124_115 ?_
              refine g_goto m124_116 ?_
              refine g_iret m124_120 rt_124 ?_
              exact hQ _ _ (ho1.bin hrk hF3 ho4 (lv := 2) (z := 62) rfl (bv_62.trans (by simp [c6])))
          · skip
            refine g_iload_n m124_43 rfl ?_
            refine g_iret m124_44 rt_124 ?_
            rw [PLoop_n (fun q => by have hsg := q.2; rw [hbt] at hsg; have hin := sgl_2 hsg; omega)] at hQ
            exact hQ _ _ ho1
    · have hbt : bt (BT m u) n r.2.1 = -1 := bt_n hpn
      refine gwr ?_
      refine g_goto m124_20 ?_
      refine g_istore_n (L2 := [some (.ref (89)), some (.int (v1)), some (.int (-1)), none, none]) m124_24 rfl rfl ?_
      refine g_iload_n m124_25 rfl ?_
      refine g_bipush m124_26 ?_
      refine h_ic_eqF (xi := (-1)) (zi := 60) m124_28 rfl rfl (by decide) ?_
      refine g_iload_n m124_31 rfl ?_
      refine g_bipush m124_32 ?_
      refine h_ic_eqF (xi := (-1)) (zi := 61) m124_34 rfl rfl (by decide) ?_
      refine g_iload_n m124_37 rfl ?_
      refine g_bipush m124_38 ?_
      refine h_ic_eqF (xi := (-1)) (zi := 62) m124_40 rfl rfl (by decide) ?_
      refine g_iload_n m124_43 rfl ?_
      refine g_iret m124_44 rt_124 ?_
      rw [PLoop_n (fun q => by have hsg := q.2; rw [hbt] at hsg; have hin := sgl_2 hsg; omega)] at hQ
      exact hQ _ _ ho1
  · have h14 := ho1.no hrk
    rw [PLoop_n (fun q => hrk q.1)] at hQ
    refine g_aload_n m124_5 rfl ?_
    refine h_gfI (k := 57) (p := 89) m124_6 rfl (t_57 _ _) rfl (h14) ?_
    refine h_if_eqT (xi := 0) (zi := 0) m124_9 rfl rfl (by decide) ?_
    refine g_iconst m124_23 ?_
    refine g_istore_n (L2 := [some (.ref (89)), some (.int (v1)), some (.int (-1)), none, none]) m124_24 rfl rfl ?_
    refine g_iload_n m124_25 rfl ?_
    refine g_bipush m124_26 ?_
    refine h_ic_eqF (xi := (-1)) (zi := 60) m124_28 rfl rfl (by decide) ?_
    refine g_iload_n m124_31 rfl ?_
    refine g_bipush m124_32 ?_
    refine h_ic_eqF (xi := (-1)) (zi := 61) m124_34 rfl rfl (by decide) ?_
    refine g_iload_n m124_37 rfl ?_
    refine g_bipush m124_38 ?_
    refine h_ic_eqF (xi := (-1)) (zi := 62) m124_40 rfl rfl (by decide) ?_
    refine g_iload_n m124_43 rfl ?_
    refine g_iret m124_44 rt_124 ?_
    exact hQ _ _ ho1
set_option maxRecDepth 20000 in
set_option maxHeartbeats 40000000 in
theorem w_129 {u n f : Nat} {a b c : Int32} (hu : u ≤ 1) (ih : Wk xs ln N u n f 2 a b c) : Wk xs ln N u n (f + 1) 1 a b c := by
  intro m Q D op p hD hop hK hp hn hT hf hQ
  obtain ⟨d, rfl⟩ : ∃ d, D = d + 9 := ⟨D - 9, by omega⟩
  rw [PL_l _ _ _ _ _ _ (show 1 < 5 by decide)] at hQ
  show WP xs (d + 9) 129 0 0 _ _ _
  refine wp_x mx_129 (L := [some (.ref (89)), none, none]) (Nat.le_of_ble_eq_true rfl) rfl ?_
  refine g_aload_n m129_0 rfl ?_
  refine h_cv (k := 57) (p := 89) (args := []) (rest := []) m129_1 cn_124 (Nat.le_of_ble_eq_true rfl) rfl rfl rfl (t_57 _ _) (Nat.le_of_ble_eq_true rfl) ?_
  refine ih _ _ _ op p (by omega) hop hK hp hn hT (by omega) (fun v1 m1 ho1 => ?_)
  have hg1 := PL_ok (BT m u) n u f 2 op p hp
  refine gwr ?_
  refine g_istore_n (L2 := [some (.ref (89)), some (.int (v1)), none]) m129_4 rfl rfl ?_
  rw [if_neg (by decide)] at hQ
  have key : ∀ (k i : Nat) (o2 : Option Value) (r : PR3) (v : Int32) (m2 : MW), i + k = 50 → WOut m op a b c r v m2 → GoodR n p r → (r.2.2 = true → p + 2 * i + 1 ≤ r.2.1) → PLoop (PL (BT m u) n u f 2 op) (BT m u) n 1 k r = PLoop (PL (BT m u) n u f 2 op) (BT m u) n 1 50 (PL (BT m u) n u f 2 op p) → gw xs (WP xs (d + 8)) 129 Q 5 [some (.ref (89)), some (.int (v)), o2] [] (H m2 ln N) 0 0 := by
    intro k
    induction k with
    | zero =>
      intro i o2 r v m2 hi ho hg hpl hfin
      have hfin2 : r = _ := hfin
      obtain ⟨g1, g2, g3⟩ := hg
      by_cases hrk : r.2.2 = true
      · have := hpl hrk
        omega
      · have h14 := ho.no hrk
        refine g_aload_n m129_5 rfl ?_
        refine h_gfI (k := 57) (p := 89) m129_6 rfl (t_57 _ _) rfl (h14) ?_
        refine h_if_eqT (xi := 0) (zi := 0) m129_9 rfl rfl (by decide) ?_
        refine g_iload_n m129_57 rfl ?_
        refine g_iret m129_58 rt_129 ?_
        exact hQ _ _ (by rw [← hfin2]; exact ho)
    | succ k ihk =>
      intro i o2 r v m2 hi ho hg hpl hfin
      obtain ⟨g1, g2, g3⟩ := hg
      by_cases hrk : r.2.2 = true
      · have hK2 := hK.at ho hrk
        have hF2 := ho.1
        have hT2 := hF2.tap hT
        have hpl1 := hpl hrk
        obtain ⟨g4, g5, g6⟩ := g3 hrk
        refine g_aload_n m129_5 rfl ?_
        refine h_gfI (k := 57) (p := 89) m129_6 rfl (t_57 _ _) rfl (hK2.2.2.2.2.2.2.2) ?_
        refine h_if_eqF (xi := 1) (zi := 0) m129_9 rfl rfl (by decide) ?_
        refine g_aload_n m129_12 rfl ?_
        refine g_aload_n m129_13 rfl ?_
        refine h_gfI (k := 57) (p := 89) m129_14 rfl (t_57 _ _) rfl (hK2.2.1) ?_
        refine h_cv (k := 57) (p := 89) (args := [.int (nI (r.2.1))]) (rest := []) m129_17 cn_119 (Nat.le_of_ble_eq_true rfl) rfl rfl rfl (t_57 _ _) (Nat.le_of_ble_eq_true rfl) ?_
        refine c_byteAt hK2.1 hK2.2.2.1 hu g2 hn hT2 (fun hpn z hz hze => ?_) (fun hpn => ?_)
        · have hbt : bt (BT m u) n r.2.1 = (z : Int) := btW_y hpn (by rw [← hF2.bt u]; exact hze) hz
          refine gwr ?_
          refine g_bipush m129_20 ?_
          refine h_ic_ne (xi := ((z : Nat) : Int)) (zi := 38) m129_22 (nI_toInt (by omega)) rfl (fun c1 => ?_) (fun c1 => ?_)
          · skip
            obtain rfl : z = 38 := by omega
            rw [PLoop_y (k := k) ⟨hrk, by rw [hbt]; rfl⟩, hbt, ofInt_n] at hfin
            refine g_aload_n m129_25 rfl ?_
            refine g_dup m129_26 rfl ?_
            refine h_gfI (k := 57) (p := 89) m129_27 rfl (t_57 _ _) rfl (hK2.2.1) ?_
            refine g_iconst m129_30 ?_
            refine g_iadd (u := nI ((r.2.1) + 1)) m129_31 (nI_add (r.2.1) 1) ?_
            refine h_pfI (k := 57) (p := 89) m129_32 rfl (t_57 _ _) rfl trivial ?_
            refine g_aload_n m129_35 rfl ?_
            refine h_cv (k := 57) (p := 89) (args := []) (rest := []) m129_36 cn_124 (Nat.le_of_ble_eq_true rfl) rfl rfl rfl (t_57 _ _) (Nat.le_of_ble_eq_true rfl) ?_
            have hK3 : WkS (upm m2 57 8 (nI (r.2.1 + 1))) u n (r.2.1 + 1) op a b c true := ⟨hK2.1, rfl, hK2.2.2.1, hK2.2.2.2.1, hK2.2.2.2.2.1, hK2.2.2.2.2.2.1, hK2.2.2.2.2.2.2.1, hK2.2.2.2.2.2.2.2⟩
            have hF3 : FrW m2 (upm m2 57 8 (nI (r.2.1 + 1))) := FrW.rf.up _ (Or.inl rfl)
            have ht3 : BT (upm m2 57 8 (nI (r.2.1 + 1))) u = BT m u := (hF2.tr hF3).bt u
            refine ih _ _ _ op (r.2.1 + 1) (by omega) hop hK3 (by omega) hn (hF3.tap hT2) (by omega) (fun v2 m4 ho4 => ?_)
            rw [ht3] at ho4
            have hg4 := PL_ok (BT m u) n u f 2 op (r.2.1 + 1) hpn
            refine gwr ?_
            refine g_istore_n (L2 := [some (.ref (89)), some (.int (v)), some (.int (v2))]) m129_39 rfl rfl ?_
            refine g_iload_n m129_40 rfl ?_
            refine h_if_eq (xi := _) (zi := 0) m129_41 rfl rfl (fun c2 => ?_) (fun c2 => ?_)
            · skip
              refine g_iconst m129_52 ?_
              refine g_istore_n (L2 := [some (.ref (89)), some (.int (0)), some (.int (v2))]) m129_53 rfl rfl ?_
              refine g_goto m129_54 ?_
              refine ihk (i + 1) _ _ _ _ (by omega) (ho.bin hrk hF3 ho4 (lv := 1) (z := 38) rfl (bv_38.trans (by simp [c2]))) ?_ ?_ hfin
              · obtain ⟨q1, q2, q3⟩ := hg4
                refine ⟨by show p ≤ (PL (BT m u) n u f 2 op (r.2.1 + 1)).2.1; omega, q2, fun hk => ?_⟩
                obtain ⟨q4, q5, q6⟩ := q3 hk
                refine ⟨by show p < (PL (BT m u) n u f 2 op (r.2.1 + 1)).2.1; omega, CodeOk_bin (lv := 1) (z := ((38 : Nat) : Int)) g5 q5 rfl, ?_⟩
                show (r.1 ++ (PL (BT m u) n u f 2 op (r.2.1 + 1)).1 ++ [nI 38]).length ≤ (PL (BT m u) n u f 2 op (r.2.1 + 1)).2.1 - p
                rw [List.length_append, List.length_append, List.length_singleton]
                omega
              · intro hk
                have q4 := (hg4.2.2 hk).1
                show p + 2 * (i + 1) + 1 ≤ (PL (BT m u) n u f 2 op (r.2.1 + 1)).2.1
                omega
            · skip
              refine g_iload_n m129_44 rfl ?_
              refine h_if_eq (xi := _) (zi := 0) m129_45 rfl rfl (fun c3 => ?_) (fun c3 => ?_)
              · skip
                refine g_iconst m129_52 ?_
                refine g_istore_n (L2 := [some (.ref (89)), some (.int (0)), some (.int (v2))]) m129_53 rfl rfl ?_
                refine g_goto m129_54 ?_
                refine ihk (i + 1) _ _ _ _ (by omega) (ho.bin hrk hF3 ho4 (lv := 1) (z := 38) rfl (bv_38.trans (by simp [c2, c3]))) ?_ ?_ hfin
                · obtain ⟨q1, q2, q3⟩ := hg4
                  refine ⟨by show p ≤ (PL (BT m u) n u f 2 op (r.2.1 + 1)).2.1; omega, q2, fun hk => ?_⟩
                  obtain ⟨q4, q5, q6⟩ := q3 hk
                  refine ⟨by show p < (PL (BT m u) n u f 2 op (r.2.1 + 1)).2.1; omega, CodeOk_bin (lv := 1) (z := ((38 : Nat) : Int)) g5 q5 rfl, ?_⟩
                  show (r.1 ++ (PL (BT m u) n u f 2 op (r.2.1 + 1)).1 ++ [nI 38]).length ≤ (PL (BT m u) n u f 2 op (r.2.1 + 1)).2.1 - p
                  rw [List.length_append, List.length_append, List.length_singleton]
                  omega
                · intro hk
                  have q4 := (hg4.2.2 hk).1
                  show p + 2 * (i + 1) + 1 ≤ (PL (BT m u) n u f 2 op (r.2.1 + 1)).2.1
                  omega
              · skip
                refine g_iconst m129_48 ?_
                refine g_goto m129_49 ?_
                refine g_istore_n (L2 := [some (.ref (89)), some (.int (1)), some (.int (v2))]) m129_53 rfl rfl ?_
                refine g_goto m129_54 ?_
                refine ihk (i + 1) _ _ _ _ (by omega) (ho.bin hrk hF3 ho4 (lv := 1) (z := 38) rfl (bv_38.trans (by simp [c2, c3]))) ?_ ?_ hfin
                · obtain ⟨q1, q2, q3⟩ := hg4
                  refine ⟨by show p ≤ (PL (BT m u) n u f 2 op (r.2.1 + 1)).2.1; omega, q2, fun hk => ?_⟩
                  obtain ⟨q4, q5, q6⟩ := q3 hk
                  refine ⟨by show p < (PL (BT m u) n u f 2 op (r.2.1 + 1)).2.1; omega, CodeOk_bin (lv := 1) (z := ((38 : Nat) : Int)) g5 q5 rfl, ?_⟩
                  show (r.1 ++ (PL (BT m u) n u f 2 op (r.2.1 + 1)).1 ++ [nI 38]).length ≤ (PL (BT m u) n u f 2 op (r.2.1 + 1)).2.1 - p
                  rw [List.length_append, List.length_append, List.length_singleton]
                  omega
                · intro hk
                  have q4 := (hg4.2.2 hk).1
                  show p + 2 * (i + 1) + 1 ≤ (PL (BT m u) n u f 2 op (r.2.1 + 1)).2.1
                  omega
          · skip
            refine g_iload_n m129_57 rfl ?_
            refine g_iret m129_58 rt_129 ?_
            rw [PLoop_n (fun q => by have hsg := q.2; rw [hbt] at hsg; have hin := sgl_1 hsg; omega)] at hfin
            exact hQ _ _ (by rw [← hfin]; exact ho)
        · have hbt : bt (BT m u) n r.2.1 = -1 := bt_n hpn
          refine gwr ?_
          refine g_bipush m129_20 ?_
          refine h_ic_neF (xi := (-1)) (zi := 38) m129_22 rfl rfl (by decide) ?_
          refine g_iload_n m129_57 rfl ?_
          refine g_iret m129_58 rt_129 ?_
          rw [PLoop_n (fun q => by have hsg := q.2; rw [hbt] at hsg; have hin := sgl_1 hsg; omega)] at hfin
          exact hQ _ _ (by rw [← hfin]; exact ho)
      · have h14 := ho.no hrk
        rw [PLoop_n (fun q => hrk q.1)] at hfin
        refine g_aload_n m129_5 rfl ?_
        refine h_gfI (k := 57) (p := 89) m129_6 rfl (t_57 _ _) rfl (h14) ?_
        refine h_if_eqT (xi := 0) (zi := 0) m129_9 rfl rfl (by decide) ?_
        refine g_iload_n m129_57 rfl ?_
        refine g_iret m129_58 rt_129 ?_
        exact hQ _ _ (by rw [← hfin]; exact ho)
  exact key 50 0 _ _ _ _ (by omega) ho1 hg1 (fun hk => by have := (hg1.2.2 hk).1; omega) rfl
set_option maxRecDepth 20000 in
set_option maxHeartbeats 40000000 in
theorem w_128 {u n f : Nat} {a b c : Int32} (hu : u ≤ 1) (ih : Wk xs ln N u n f 1 a b c) : Wk xs ln N u n (f + 1) 0 a b c := by
  intro m Q D op p hD hop hK hp hn hT hf hQ
  obtain ⟨d, rfl⟩ : ∃ d, D = d + 9 := ⟨D - 9, by omega⟩
  rw [PL_l _ _ _ _ _ _ (show 0 < 5 by decide)] at hQ
  show WP xs (d + 9) 128 0 0 _ _ _
  refine wp_x mx_128 (L := [some (.ref (89)), none, none]) (Nat.le_of_ble_eq_true rfl) rfl ?_
  refine g_aload_n m128_0 rfl ?_
  refine h_cv (k := 57) (p := 89) (args := []) (rest := []) m128_1 cn_129 (Nat.le_of_ble_eq_true rfl) rfl rfl rfl (t_57 _ _) (Nat.le_of_ble_eq_true rfl) ?_
  refine ih _ _ _ op p (by omega) hop hK hp hn hT (by omega) (fun v1 m1 ho1 => ?_)
  have hg1 := PL_ok (BT m u) n u f 1 op p hp
  refine gwr ?_
  refine g_istore_n (L2 := [some (.ref (89)), some (.int (v1)), none]) m128_4 rfl rfl ?_
  rw [if_neg (by decide)] at hQ
  have key : ∀ (k i : Nat) (o2 : Option Value) (r : PR3) (v : Int32) (m2 : MW), i + k = 50 → WOut m op a b c r v m2 → GoodR n p r → (r.2.2 = true → p + 2 * i + 1 ≤ r.2.1) → PLoop (PL (BT m u) n u f 1 op) (BT m u) n 0 k r = PLoop (PL (BT m u) n u f 1 op) (BT m u) n 0 50 (PL (BT m u) n u f 1 op p) → gw xs (WP xs (d + 8)) 128 Q 5 [some (.ref (89)), some (.int (v)), o2] [] (H m2 ln N) 0 0 := by
    intro k
    induction k with
    | zero =>
      intro i o2 r v m2 hi ho hg hpl hfin
      have hfin2 : r = _ := hfin
      obtain ⟨g1, g2, g3⟩ := hg
      by_cases hrk : r.2.2 = true
      · have := hpl hrk
        omega
      · have h14 := ho.no hrk
        refine g_aload_n m128_5 rfl ?_
        refine h_gfI (k := 57) (p := 89) m128_6 rfl (t_57 _ _) rfl (h14) ?_
        refine h_if_eqT (xi := 0) (zi := 0) m128_9 rfl rfl (by decide) ?_
        refine g_iload_n m128_57 rfl ?_
        refine g_iret m128_58 rt_128 ?_
        exact hQ _ _ (by rw [← hfin2]; exact ho)
    | succ k ihk =>
      intro i o2 r v m2 hi ho hg hpl hfin
      obtain ⟨g1, g2, g3⟩ := hg
      by_cases hrk : r.2.2 = true
      · have hK2 := hK.at ho hrk
        have hF2 := ho.1
        have hT2 := hF2.tap hT
        have hpl1 := hpl hrk
        obtain ⟨g4, g5, g6⟩ := g3 hrk
        refine g_aload_n m128_5 rfl ?_
        refine h_gfI (k := 57) (p := 89) m128_6 rfl (t_57 _ _) rfl (hK2.2.2.2.2.2.2.2) ?_
        refine h_if_eqF (xi := 1) (zi := 0) m128_9 rfl rfl (by decide) ?_
        refine g_aload_n m128_12 rfl ?_
        refine g_aload_n m128_13 rfl ?_
        refine h_gfI (k := 57) (p := 89) m128_14 rfl (t_57 _ _) rfl (hK2.2.1) ?_
        refine h_cv (k := 57) (p := 89) (args := [.int (nI (r.2.1))]) (rest := []) m128_17 cn_119 (Nat.le_of_ble_eq_true rfl) rfl rfl rfl (t_57 _ _) (Nat.le_of_ble_eq_true rfl) ?_
        refine c_byteAt hK2.1 hK2.2.2.1 hu g2 hn hT2 (fun hpn z hz hze => ?_) (fun hpn => ?_)
        · have hbt : bt (BT m u) n r.2.1 = (z : Int) := btW_y hpn (by rw [← hF2.bt u]; exact hze) hz
          refine gwr ?_
          refine g_bipush m128_20 ?_
          refine h_ic_ne (xi := ((z : Nat) : Int)) (zi := 124) m128_22 (nI_toInt (by omega)) rfl (fun c1 => ?_) (fun c1 => ?_)
          · skip
            obtain rfl : z = 124 := by omega
            rw [PLoop_y (k := k) ⟨hrk, by rw [hbt]; rfl⟩, hbt, ofInt_n] at hfin
            refine g_aload_n m128_25 rfl ?_
            refine g_dup m128_26 rfl ?_
            refine h_gfI (k := 57) (p := 89) m128_27 rfl (t_57 _ _) rfl (hK2.2.1) ?_
            refine g_iconst m128_30 ?_
            refine g_iadd (u := nI ((r.2.1) + 1)) m128_31 (nI_add (r.2.1) 1) ?_
            refine h_pfI (k := 57) (p := 89) m128_32 rfl (t_57 _ _) rfl trivial ?_
            refine g_aload_n m128_35 rfl ?_
            refine h_cv (k := 57) (p := 89) (args := []) (rest := []) m128_36 cn_129 (Nat.le_of_ble_eq_true rfl) rfl rfl rfl (t_57 _ _) (Nat.le_of_ble_eq_true rfl) ?_
            have hK3 : WkS (upm m2 57 8 (nI (r.2.1 + 1))) u n (r.2.1 + 1) op a b c true := ⟨hK2.1, rfl, hK2.2.2.1, hK2.2.2.2.1, hK2.2.2.2.2.1, hK2.2.2.2.2.2.1, hK2.2.2.2.2.2.2.1, hK2.2.2.2.2.2.2.2⟩
            have hF3 : FrW m2 (upm m2 57 8 (nI (r.2.1 + 1))) := FrW.rf.up _ (Or.inl rfl)
            have ht3 : BT (upm m2 57 8 (nI (r.2.1 + 1))) u = BT m u := (hF2.tr hF3).bt u
            refine ih _ _ _ op (r.2.1 + 1) (by omega) hop hK3 (by omega) hn (hF3.tap hT2) (by omega) (fun v2 m4 ho4 => ?_)
            rw [ht3] at ho4
            have hg4 := PL_ok (BT m u) n u f 1 op (r.2.1 + 1) hpn
            refine gwr ?_
            refine g_istore_n (L2 := [some (.ref (89)), some (.int (v)), some (.int (v2))]) m128_39 rfl rfl ?_
            refine g_iload_n m128_40 rfl ?_
            refine h_if_ne (xi := _) (zi := 0) m128_41 rfl rfl (fun c2 => ?_) (fun c2 => ?_)
            · skip
              refine g_iload_n m128_44 rfl ?_
              refine h_if_eq (xi := _) (zi := 0) m128_45 rfl rfl (fun c3 => ?_) (fun c3 => ?_)
              · skip
                refine g_iconst m128_52 ?_
                refine g_istore_n (L2 := [some (.ref (89)), some (.int (0)), some (.int (v2))]) m128_53 rfl rfl ?_
                refine g_goto m128_54 ?_
                refine ihk (i + 1) _ _ _ _ (by omega) (ho.bin hrk hF3 ho4 (lv := 0) (z := 124) rfl (bv_124.trans (by simp [c2, c3]))) ?_ ?_ hfin
                · obtain ⟨q1, q2, q3⟩ := hg4
                  refine ⟨by show p ≤ (PL (BT m u) n u f 1 op (r.2.1 + 1)).2.1; omega, q2, fun hk => ?_⟩
                  obtain ⟨q4, q5, q6⟩ := q3 hk
                  refine ⟨by show p < (PL (BT m u) n u f 1 op (r.2.1 + 1)).2.1; omega, CodeOk_bin (lv := 0) (z := ((124 : Nat) : Int)) g5 q5 rfl, ?_⟩
                  show (r.1 ++ (PL (BT m u) n u f 1 op (r.2.1 + 1)).1 ++ [nI 124]).length ≤ (PL (BT m u) n u f 1 op (r.2.1 + 1)).2.1 - p
                  rw [List.length_append, List.length_append, List.length_singleton]
                  omega
                · intro hk
                  have q4 := (hg4.2.2 hk).1
                  show p + 2 * (i + 1) + 1 ≤ (PL (BT m u) n u f 1 op (r.2.1 + 1)).2.1
                  omega
              · skip
                refine g_iconst m128_48 ?_
                refine g_goto m128_49 ?_
                refine g_istore_n (L2 := [some (.ref (89)), some (.int (1)), some (.int (v2))]) m128_53 rfl rfl ?_
                refine g_goto m128_54 ?_
                refine ihk (i + 1) _ _ _ _ (by omega) (ho.bin hrk hF3 ho4 (lv := 0) (z := 124) rfl (bv_124.trans (by simp [c2, c3]))) ?_ ?_ hfin
                · obtain ⟨q1, q2, q3⟩ := hg4
                  refine ⟨by show p ≤ (PL (BT m u) n u f 1 op (r.2.1 + 1)).2.1; omega, q2, fun hk => ?_⟩
                  obtain ⟨q4, q5, q6⟩ := q3 hk
                  refine ⟨by show p < (PL (BT m u) n u f 1 op (r.2.1 + 1)).2.1; omega, CodeOk_bin (lv := 0) (z := ((124 : Nat) : Int)) g5 q5 rfl, ?_⟩
                  show (r.1 ++ (PL (BT m u) n u f 1 op (r.2.1 + 1)).1 ++ [nI 124]).length ≤ (PL (BT m u) n u f 1 op (r.2.1 + 1)).2.1 - p
                  rw [List.length_append, List.length_append, List.length_singleton]
                  omega
                · intro hk
                  have q4 := (hg4.2.2 hk).1
                  show p + 2 * (i + 1) + 1 ≤ (PL (BT m u) n u f 1 op (r.2.1 + 1)).2.1
                  omega
            · skip
              refine g_iconst m128_48 ?_
              refine g_goto m128_49 ?_
              refine g_istore_n (L2 := [some (.ref (89)), some (.int (1)), some (.int (v2))]) m128_53 rfl rfl ?_
              refine g_goto m128_54 ?_
              refine ihk (i + 1) _ _ _ _ (by omega) (ho.bin hrk hF3 ho4 (lv := 0) (z := 124) rfl (bv_124.trans (by simp [c2]))) ?_ ?_ hfin
              · obtain ⟨q1, q2, q3⟩ := hg4
                refine ⟨by show p ≤ (PL (BT m u) n u f 1 op (r.2.1 + 1)).2.1; omega, q2, fun hk => ?_⟩
                obtain ⟨q4, q5, q6⟩ := q3 hk
                refine ⟨by show p < (PL (BT m u) n u f 1 op (r.2.1 + 1)).2.1; omega, CodeOk_bin (lv := 0) (z := ((124 : Nat) : Int)) g5 q5 rfl, ?_⟩
                show (r.1 ++ (PL (BT m u) n u f 1 op (r.2.1 + 1)).1 ++ [nI 124]).length ≤ (PL (BT m u) n u f 1 op (r.2.1 + 1)).2.1 - p
                rw [List.length_append, List.length_append, List.length_singleton]
                omega
              · intro hk
                have q4 := (hg4.2.2 hk).1
                show p + 2 * (i + 1) + 1 ≤ (PL (BT m u) n u f 1 op (r.2.1 + 1)).2.1
                omega
          · skip
            refine g_iload_n m128_57 rfl ?_
            refine g_iret m128_58 rt_128 ?_
            rw [PLoop_n (fun q => by have hsg := q.2; rw [hbt] at hsg; have hin := sgl_0 hsg; omega)] at hfin
            exact hQ _ _ (by rw [← hfin]; exact ho)
        · have hbt : bt (BT m u) n r.2.1 = -1 := bt_n hpn
          refine gwr ?_
          refine g_bipush m128_20 ?_
          refine h_ic_neF (xi := (-1)) (zi := 124) m128_22 rfl rfl (by decide) ?_
          refine g_iload_n m128_57 rfl ?_
          refine g_iret m128_58 rt_128 ?_
          rw [PLoop_n (fun q => by have hsg := q.2; rw [hbt] at hsg; have hin := sgl_0 hsg; omega)] at hfin
          exact hQ _ _ (by rw [← hfin]; exact ho)
      · have h14 := ho.no hrk
        rw [PLoop_n (fun q => hrk q.1)] at hfin
        refine g_aload_n m128_5 rfl ?_
        refine h_gfI (k := 57) (p := 89) m128_6 rfl (t_57 _ _) rfl (h14) ?_
        refine h_if_eqT (xi := 0) (zi := 0) m128_9 rfl rfl (by decide) ?_
        refine g_iload_n m128_57 rfl ?_
        refine g_iret m128_58 rt_128 ?_
        exact hQ _ _ (by rw [← hfin]; exact ho)
  exact key 50 0 _ _ _ _ (by omega) ho1 hg1 (fun hk => by have := (hg1.2.2 hk).1; omega) rfl
theorem w_all {u n : Nat} {a b c : Int32} (hu : u ≤ 1) : ∀ f lv, lv ≤ 5 → Wk xs ln N u n f lv a b c
  | 0, lv, hl => fun m Q D op p hD hop hK hp hn hT hf hQ => absurd hf (by omega)
  | f + 1, lv, hl => by
    have ih := w_all (n := n) (a := a) (b := b) (c := c) hu f
    rcases (show lv = 0 ∨ lv = 1 ∨ lv = 2 ∨ lv = 3 ∨ lv = 4 ∨ lv = 5 by omega) with rfl | rfl | rfl | rfl | rfl | rfl
    · exact w_128 hu (ih 1 (by omega))
    · exact w_129 hu (ih 2 (by omega))
    · exact w_124 hu (ih 3 (by omega))
    · exact w_127 hu (ih 4 (by omega))
    · exact w_126 hu (ih 5 (by omega))
    · exact w_factor hu (ih 5 (by omega)) (ih 0 (by omega))
end
