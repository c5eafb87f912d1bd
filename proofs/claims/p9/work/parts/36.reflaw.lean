/-! THE REFERENCE: laws, faces -/
def txW (w : Nat → Int32) (u : Nat) : Nat → Int32 := fun j => w (134 + 50 * u + j)
def nW (w : Nat → Int32) (u : Nat) : Nat := (w (5 + u)).toNatClampNeg
def rkF (w : Nat → Int32) : LF := fun h c s => heldF (if (w 5).toInt < 0 then c + 9 - h / 9 else valL (TR (txW w 0) (nW w 0) 0).1 h c s) 99
def rbF (w : Nat → Int32) : LF := fun h f c => if (w 6).toInt < 0 then 0 else heldF (valL (TR (txW w 1) (nW w 1) 1).1 h f c) 1
def TxOk (w : Nat → Int32) (u : Nat) : Prop := (w (5 + u)).toInt < 0 ∨ ∃ n, n ≤ 50 ∧ w (5 + u) = nI n ∧ (∀ j, j < 50 → leI (txW w u j) 255) ∧ isText (txW w u) n u
/-- the row w with the table Y in it -/
def rowU (w : Nat → Int32) (Y : MW) : Nat → Int32 := fun j => if j = 0 then Y 0 9 else if j = 7 then Y 0 8 else if j = 2 then Y 0 10 else if 8 ≤ j ∧ j < 16 then Y 1 (j - 8) else if 16 ≤ j ∧ j < 64 then Y (2 + (j - 16) % 6) ((j - 16) / 6) else w j
def vr (r : Nat → Int32) : MW := fun j i => match j with
  | 0 => if i = 8 then r 7 else if i = 9 then r 0 else if i = 10 then r 2 else 0
  | 1 => r (8 + i)
  | j + 2 => r (16 + 6 * i + j)
def AtY (m : MW) (Y m2 : MW) : Prop := EqM (upmR m 58 (rowU (m 58) Y)) m2
section
variable {m Y m2 m3 : MW}
theorem AtY.row (h : AtY m Y m2) (j : Nat) : m2 58 j = rowU (m 58) Y j := by
  rw [EqM.at2 h j (by decide) (by decide)]
  unfold upmR
  rw [if_pos rfl]
theorem AtY.r0 (h : AtY m Y m2) : m2 58 0 = Y 0 9 := h.row 0
theorem AtY.r7 (h : AtY m Y m2) : m2 58 7 = Y 0 8 := h.row 7
theorem AtY.r2 (h : AtY m Y m2) : m2 58 2 = Y 0 10 := h.row 2
theorem AtY.rf (h : AtY m Y m2) {i : Nat} (hi : i < 8) : m2 58 (8 + i) = Y 1 i := by
  rw [h.row]
  unfold rowU
  rw [if_neg (by omega), if_neg (by omega), if_neg (by omega), if_pos (by omega), Nat.add_sub_cancel_left]
theorem rowU_c (w : Nat → Int32) (Y : MW) {i c : Nat} (hi : i < 8) (hc : c < 6) : rowU w Y (16 + 6 * i + c) = Y (2 + c) i := by
  unfold rowU
  rw [if_neg (by omega), if_neg (by omega), if_neg (by omega), if_neg (by omega), if_pos (by omega), show (16 + 6 * i + c - 16) % 6 = c by omega, show (16 + 6 * i + c - 16) / 6 = i by omega]
theorem AtY.rd (h : AtY m Y m2) {i c : Nat} (hi : i < 8) (hc : c < 6) : m2 58 (16 + 6 * i + c) = Y (2 + c) i := by
  rw [h.row]
  exact rowU_c _ _ hi hc
theorem rowU_w (w : Nat → Int32) (Y : MW) {j : Nat} (hj : 64 ≤ j ∨ j = 1 ∨ (3 ≤ j ∧ j ≤ 6)) : rowU w Y j = w j := by
  unfold rowU
  rw [if_neg (by omega), if_neg (by omega), if_neg (by omega), if_neg (by omega), if_neg (by omega)]
theorem AtY.rw (h : AtY m Y m2) {j : Nat} (hj : 64 ≤ j ∨ j = 1 ∨ (3 ≤ j ∧ j ≤ 6)) : m2 58 j = m 58 j := by
  rw [h.row]
  exact rowU_w _ _ hj
theorem AtY.upr (h : AtY m Y m2) {j : Nat} (x : Int32) {Y2 : MW} (e : ∀ i, rowU (m 58) Y2 i = if i = j then x else rowU (m 58) Y i) : AtY m Y2 (upm m2 58 j x) := by
  have e2 : upmR m 58 (rowU (m 58) Y2) = upm (upmR m 58 (rowU (m 58) Y)) 58 j x := by
    funext k i
    show (if k = 58 then rowU (m 58) Y2 else m k) i = if k = 58 ∧ i = j then x else (if k = 58 then rowU (m 58) Y else m k) i
    by_cases hk : k = 58
    · subst hk
      simp [e i]
    · simp [hk]
  unfold AtY
  rw [e2]
  exact EqM.up h _ _ _
theorem AtY.up (h : AtY m Y m2) {i c : Nat} (hi : i < 8) (hc : c < 6) (x : Int32) : AtY m (upm Y (2 + c) i x) (upm m2 58 (16 + 6 * i + c) x) := by
  refine h.upr x (fun j => ?_)
  unfold rowU upm
  by_cases h0 : j = 0
  · subst h0
    simp [show ¬ 0 = 16 + 6 * i + c by omega, show ¬ 0 = 2 + c by omega]
  · by_cases h7 : j = 7
    · subst h7
      simp [show ¬ 7 = 16 + 6 * i + c by omega, show ¬ 0 = 2 + c by omega]
    · by_cases h2 : j = 2
      · subst h2
        simp [show ¬ 2 = 16 + 6 * i + c by omega, show ¬ 0 = 2 + c by omega]
      · rw [if_neg h0, if_neg h7, if_neg h2, if_neg h0, if_neg h7, if_neg h2]
        by_cases h8 : 8 ≤ j ∧ j < 16
        · rw [if_pos h8, if_pos h8, if_neg (by omega), if_neg (by omega)]
        · rw [if_neg h8, if_neg h8]
          by_cases h16 : 16 ≤ j ∧ j < 64
          · rw [if_pos h16, if_pos h16]
            by_cases e : j = 16 + 6 * i + c
            · rw [if_pos e, if_pos (by omega)]
            · rw [if_neg e, if_neg (by omega)]
          · rw [if_neg h16, if_neg h16, if_neg (by omega)]
theorem AtY.up9 (h : AtY m Y m2) (x : Int32) : AtY m (upm Y 0 9 x) (upm m2 58 0 x) := by
  refine h.upr x (fun j => ?_)
  unfold rowU upm
  by_cases h0 : j = 0
  · subst h0
    simp
  · simp [h0]
theorem AtY.up8 (h : AtY m Y m2) (x : Int32) : AtY m (upm Y 0 8 x) (upm m2 58 7 x) := by
  refine h.upr x (fun j => ?_)
  unfold rowU upm
  by_cases h0 : j = 0
  · subst h0
    simp
  · by_cases h7 : j = 7
    · subst h7
      simp
    · simp [h0, h7]
theorem AtY.eqm (h : AtY m Y m2) (h2 : EqM m2 m3) : AtY m Y m3 := EqM.tr h h2
theorem AtY.out (h : AtY m Y m2) {k j : Nat} (hk : k ≠ 58) (hq : ¬ minor k j) : m2 k j = m k j := by
  rw [h k j hq]
  unfold upmR
  rw [if_neg hk]
theorem rowU_vr (w : Nat → Int32) : rowU w (vr w) = w := by
  funext j
  unfold rowU
  by_cases h0 : j = 0
  · subst h0
    rfl
  · by_cases h7 : j = 7
    · subst h7
      rfl
    · by_cases h2 : j = 2
      · subst h2
        rfl
      · rw [if_neg h0, if_neg h7, if_neg h2]
        by_cases h8 : 8 ≤ j ∧ j < 16
        · rw [if_pos h8]
          show w (8 + (j - 8)) = w j
          rw [show 8 + (j - 8) = j by omega]
        · rw [if_neg h8]
          by_cases h16 : 16 ≤ j ∧ j < 64
          · rw [if_pos h16, Nat.add_comm 2]
            show w (16 + 6 * ((j - 16) / 6) + (j - 16) % 6) = w j
            rw [show 16 + 6 * ((j - 16) / 6) + (j - 16) % 6 = j by omega]
          · rw [if_neg h16]
theorem AtY.self (m : MW) : AtY m (vr (m 58)) m := by
  unfold AtY
  rw [rowU_vr]
  intro k j q
  unfold upmR
  by_cases h : k = 58
  · rw [if_pos h, h]
  · rw [if_neg h]
theorem AtY.tx (h : AtY m Y m2) (u : Nat) : BT m2 u = txW (m 58) u := funext fun j => h.rw (by omega)
theorem FrV_eq {m m2 : MW} (h : ∀ k j, ¬ (k = 57 ∧ 7 ≤ j ∧ j ≤ 14) → m2 k j = m k j) : EqM m m2 := fun k j q => h k j (fun q2 => q (Or.inr q2))
end
theorem valL_e {a b c v : Int32} {cs : List Int32} (h : ∀ s, evS a b c cs s = some (v :: s)) : valL cs a b c = v := by
  unfold valL
  rw [h []]
  rfl
section
variable {xs : List Int32} {d : Nat} {h : AH} {Q : QT} {m : MW} {ln : Nat → Nat} {N : Nat}
theorem c_itsY {i w : Nat} {m0 Y : MW} {x : Int32} (hA : AtY m0 Y m) (hi : i < 8) (hw : w < 6) (hv : Y (2 + w) i = x) (hQ : Q (some (.int x)) (H m ln N)) : WP xs (d + 1) 111 0 0 [.ref 89, .int (nI i), .int (nI w)] (H m ln N) Q := c_its hi hw (by rw [hA.rd hi hw, hv]; exact hQ)
theorem upm_ne {m : MW} {k j k2 j2 : Nat} {x : Int32} (h : ¬ (k2 = k ∧ j2 = j)) : upm m k j x k2 j2 = m k2 j2 := if_neg h
set_option maxRecDepth 20000 in
set_option maxHeartbeats 40000000 in
theorem c_walks {u n : Nat} {a b c : Int32} (hu : u ≤ 1) (hn : n ≤ 50) (hs : m 58 (5 + u) = nI n) (hT : TapW m u) (hQ : ∀ v m2, (∀ k j, ¬ (k = 57 ∧ 7 ≤ j ∧ j ≤ 14) → m2 k j = m k j) → m2 57 8 = nI (TR (BT m u) n u).2.1 → m2 57 14 = (if (TR (BT m u) n u).2.2 = true ∧ (TR (BT m u) n u).2.1 = n then 1 else 0) → ((TR (BT m u) n u).2.2 = true → ∀ s, evS a b c (TR (BT m u) n u).1 s = some (v :: s)) → Q (some (.int v)) (H m2 ln N)) : WP xs (d + 810) 130 0 0 [.ref (89), .int (nI (u)), .int (a), .int (b), .int (c)] (H m ln N) Q := by
  refine wp_x mx_130 (L := [some (.ref (89)), some (.int (nI (u))), some (.int (a)), some (.int (b)), some (.int (c)), none]) (Nat.le_of_ble_eq_true rfl) rfl ?_
  refine g_aload_n m130_0 rfl ?_
  refine g_iload_n m130_1 rfl ?_
  refine h_pfI (k := 57) (p := 89) m130_2 rfl (t_57 _ _) rfl trivial ?_
  refine g_aload_n m130_5 rfl ?_
  refine g_iconst m130_6 ?_
  refine h_pfI (k := 57) (p := 89) m130_7 rfl (t_57 _ _) rfl trivial ?_
  refine g_aload_n m130_10 rfl ?_
  refine g_aload_n m130_11 rfl ?_
  refine h_gfR (c := 90) (k := 57) (p := 89) m130_12 rfl (t_57 _ _) rfl (Nat.le_of_ble_eq_true rfl) ?_
  refine g_iconst m130_15 ?_
  refine g_iload_n m130_16 rfl ?_
  refine g_iadd (u := nI (5 + u)) m130_17 (nI_add 5 u) ?_
  refine h_ial (k := 58) (p := 90) (j := 5 + u) m130_18 rfl (t_58 _ _) (rfl) (by omega) (Nat.le_of_ble_eq_true rfl) (hs) ?_
  refine h_pfI (k := 57) (p := 89) m130_19 rfl (t_57 _ _) rfl trivial ?_
  refine g_aload_n m130_22 rfl ?_
  refine g_iconst m130_23 ?_
  refine h_pfI (k := 57) (p := 89) m130_24 rfl (t_57 _ _) rfl trivial ?_
  refine g_aload_n m130_27 rfl ?_
  refine g_iconst m130_28 ?_
  refine h_pfI (k := 57) (p := 89) m130_29 rfl (t_57 _ _) rfl (Or.inr rfl) ?_
  refine g_aload_n m130_32 rfl ?_
  refine g_iload_n m130_33 rfl ?_
  refine h_pfI (k := 57) (p := 89) m130_34 rfl (t_57 _ _) rfl trivial ?_
  refine g_aload_n m130_37 rfl ?_
  refine g_iload_n m130_38 rfl ?_
  refine h_pfI (k := 57) (p := 89) m130_39 rfl (t_57 _ _) rfl trivial ?_
  refine g_aload_n m130_42 rfl ?_
  refine g_iload m130_43 rfl ?_
  refine h_pfI (k := 57) (p := 89) m130_45 rfl (t_57 _ _) rfl trivial ?_
  refine g_aload_n m130_48 rfl ?_
  refine h_cv (k := 57) (p := 89) (args := []) (rest := []) m130_49 cn_128 (Nat.le_of_ble_eq_true rfl) rfl rfl rfl (t_57 _ _) (Nat.le_of_ble_eq_true rfl) ?_
  have hK : WkS (upm (upm (upm (upm (upm (upm (upm (upm m 57 7 (nI u)) 57 8 0) 57 9 (nI n)) 57 10 0) 57 14 1) 57 11 a) 57 12 b) 57 13 c) u n 0 0 a b c true := ⟨rfl, rfl, rfl, rfl, rfl, rfl, rfl, rfl⟩
  have hF1 : ∀ k j, ¬ (k = 57 ∧ 7 ≤ j ∧ j ≤ 14) → (upm (upm (upm (upm (upm (upm (upm (upm m 57 7 (nI u)) 57 8 0) 57 9 (nI n)) 57 10 0) 57 14 1) 57 11 a) 57 12 b) 57 13 c) k j = m k j := fun k j q => by
    rw [upm_ne (by omega), upm_ne (by omega), upm_ne (by omega), upm_ne (by omega), upm_ne (by omega), upm_ne (by omega), upm_ne (by omega), upm_ne (by omega)]
  have hbt : BT (upm (upm (upm (upm (upm (upm (upm (upm m 57 7 (nI u)) 57 8 0) 57 9 (nI n)) 57 10 0) 57 14 1) 57 11 a) 57 12 b) 57 13 c) u = BT m u := funext fun j => hF1 58 _ (by omega)
  have hT1 : TapW (upm (upm (upm (upm (upm (upm (upm (upm m 57 7 (nI u)) 57 8 0) 57 9 (nI n)) 57 10 0) 57 14 1) 57 11 a) 57 12 b) 57 13 c) u := fun j hj => by rw [hbt]; exact hT j hj
  refine w_all (n := n) (a := a) (b := b) (c := c) hu 400 0 (by decide) _ _ _ 0 0 (by omega) (by omega) hK (by omega) hn hT1 (by omega) (fun v m2 ho => ?_)
  rw [hbt] at ho
  obtain ⟨w1, w8, w10, w14, wv⟩ := ho
  have hF2 : ∀ k j, ¬ (k = 57 ∧ 7 ≤ j ∧ j ≤ 14) → m2 k j = m k j := fun k j q => (w1 k j (by omega)).trans (hF1 k j q)
  have hg := PL_ok (BT m u) n u 400 0 0 0 (by omega)
  have hle : (TR (BT m u) n u).2.1 ≤ n := hg.2.1
  have w9 : m2 57 9 = nI n := w1 57 9 (by omega)
  have w8 : m2 57 8 = nI (TR (BT m u) n u).2.1 := w8
  have wv : (TR (BT m u) n u).2.2 = true → ∀ s, evS a b c (TR (BT m u) n u).1 s = some (v :: s) := wv
  by_cases hok : (TR (BT m u) n u).2.2 = true
  · have w14b : m2 57 14 = 1 := by have h9 : m2 57 14 = (if (TR (BT m u) n u).2.2 = true then 1 else 0) := w14; rw [if_pos hok] at h9; exact h9
    refine gwr ?_
    refine g_istore (L2 := [some (.ref (89)), some (.int (nI (u))), some (.int (a)), some (.int (b)), some (.int (c)), some (.int (v))]) m130_52 rfl rfl ?_
    refine g_aload_n m130_54 rfl ?_
    refine g_aload_n m130_55 rfl ?_
    refine h_gfI (k := 57) (p := 89) m130_56 rfl (t_57 _ _) rfl (w14b) ?_
    refine h_if_eqF (xi := 1) (zi := 0) m130_59 rfl rfl (by decide) ?_
    refine g_aload_n m130_62 rfl ?_
    refine h_gfI (k := 57) (p := 89) m130_63 rfl (t_57 _ _) rfl (w8) ?_
    refine g_aload_n m130_66 rfl ?_
    refine h_gfI (k := 57) (p := 89) m130_67 rfl (t_57 _ _) rfl (w9) ?_
    refine h_ic_ne (xi := (((TR (BT m u) n u).2.1 : Nat) : Int)) (zi := ((n : Nat) : Int)) m130_70 (nI_toInt (by omega)) (nI_toInt (by omega)) (fun c1 => ?_) (fun c1 => ?_)
    · skip
      refine g_iconst m130_73 ?_
      refine g_goto m130_74 ?_
      refine h_pfI (k := 57) (p := 89) m130_78 rfl (t_57 _ _) rfl (Or.inr rfl) ?_
      refine g_iload m130_81 rfl ?_
      refine g_iret m130_83 rt_130 ?_
      exact hQ _ _ (fun k j q => (upm_ne (by omega)).trans (hF2 k j q)) w8 ((upm_self _ _ _ _).trans (if_pos ⟨hok, by omega⟩).symm) wv
    · skip
      refine g_iconst m130_77 ?_
      refine h_pfI (k := 57) (p := 89) m130_78 rfl (t_57 _ _) rfl (Or.inl rfl) ?_
      refine g_iload m130_81 rfl ?_
      refine g_iret m130_83 rt_130 ?_
      exact hQ _ _ (fun k j q => (upm_ne (by omega)).trans (hF2 k j q)) w8 ((upm_self _ _ _ _).trans (if_neg (fun q => absurd q.2 (by omega))).symm) wv
  · have w14b : m2 57 14 = 0 := by have h9 : m2 57 14 = (if (TR (BT m u) n u).2.2 = true then 1 else 0) := w14; rw [if_neg hok] at h9; exact h9
    refine gwr ?_
    refine g_istore (L2 := [some (.ref (89)), some (.int (nI (u))), some (.int (a)), some (.int (b)), some (.int (c)), some (.int (v))]) m130_52 rfl rfl ?_
    refine g_aload_n m130_54 rfl ?_
    refine g_aload_n m130_55 rfl ?_
    refine h_gfI (k := 57) (p := 89) m130_56 rfl (t_57 _ _) rfl (w14b) ?_
    refine h_if_eqT (xi := 0) (zi := 0) m130_59 rfl rfl (by decide) ?_
    refine g_iconst m130_77 ?_
    refine h_pfI (k := 57) (p := 89) m130_78 rfl (t_57 _ _) rfl (Or.inl rfl) ?_
    refine g_iload m130_81 rfl ?_
    refine g_iret m130_83 rt_130 ?_
    exact hQ _ _ (fun k j q => (upm_ne (by omega)).trans (hF2 k j q)) w8 ((upm_self _ _ _ _).trans (if_neg (fun q => hok q.1)).symm) wv
set_option maxRecDepth 20000 in
set_option maxHeartbeats 40000000 in
theorem c_lawOf0 {m0 Y : MW} {a b c : Int32} (hA : AtY m0 Y m) (hX0 : TxOk (m0 58) 0) (hQ : ∀ m2, AtY m0 Y m2 → Q (some (.int (rkF (m0 58) a b c))) (H m2 ln N)) : WP xs (d + 811) 131 0 0 [.ref (89), .int (0), .int (a), .int (b), .int (c)] (H m ln N) Q := by
  refine wp_x mx_131 (L := [some (.ref (89)), some (.int (0)), some (.int (a)), some (.int (b)), some (.int (c)), none]) (Nat.le_of_ble_eq_true rfl) rfl ?_
  have e5 : m 58 5 = m0 58 5 := hA.rw (by omega)
  by_cases hneg : (m0 58 5).toInt < 0
  · skip
    have e : rkF (m0 58) a b c = heldF (b + 9 - a / 9) 99 := by
      unfold rkF
      rw [if_pos hneg]
    rw [e] at hQ
    refine g_iload_n m131_0 rfl ?_
    refine h_if_neT (xi := 0) (zi := 0) m131_1 rfl rfl (by decide) ?_
    refine g_bipush m131_4 ?_
    refine g_goto m131_6 ?_
    refine g_istore (L2 := [some (.ref (89)), some (.int (0)), some (.int (a)), some (.int (b)), some (.int (c)), some (.int (99))]) m131_10 rfl rfl ?_
    refine g_aload_n m131_12 rfl ?_
    refine h_gfR (c := 90) (k := 57) (p := 89) m131_13 rfl (t_57 _ _) rfl (Nat.le_of_ble_eq_true rfl) ?_
    refine g_iconst m131_16 ?_
    refine g_iload_n m131_17 rfl ?_
    refine g_iadd (u := (5 : Int32)) m131_18 (by decide) ?_
    refine h_ial (k := 58) (p := 90) (j := 5) m131_19 rfl (t_58 _ _) (rfl) (by omega) (Nat.le_of_ble_eq_true rfl) (e5) ?_
    refine h_if_ltT (xi := (m0 58 5).toInt) (zi := 0) m131_20 rfl rfl (hneg) ?_
    refine g_iload_n m131_39 rfl ?_
    refine h_if_neT (xi := 0) (zi := 0) m131_40 rfl rfl (by decide) ?_
    refine g_iload_n m131_43 rfl ?_
    refine g_bipush m131_44 ?_
    refine g_iadd m131_46 rfl ?_
    refine g_iload_n m131_47 rfl ?_
    refine g_bipush m131_48 ?_
    refine g_idiv m131_50 (by decide) rfl ?_
    refine g_isub m131_51 rfl ?_
    refine g_iconst m131_52 ?_
    refine g_iload m131_53 rfl ?_
    refine g_cs (args := [.int (((b + (9 : Int32)) - (a / (9 : Int32)))), .int (0), .int (99)]) (rest := []) 0 (Or.inl rfl) m131_55 (Nat.le_of_ble_eq_true rfl) rfl rfl (Nat.le_of_ble_eq_true rfl) ?_
    refine c_heldM ?_
    refine gwr ?_
    refine g_goto m131_58 ?_
    refine g_iret m131_62 rt_131 ?_
    exact hQ _ hA
  · obtain ⟨n, hn, hne, hTx, hok⟩ : ∃ n, n ≤ 50 ∧ m0 58 5 = nI n ∧ (∀ j, j < 50 → leI (txW (m0 58) 0 j) 255) ∧ isText (txW (m0 58) 0) n 0 := hX0.resolve_left hneg
    have htx : BT m 0 = txW (m0 58) 0 := hA.tx 0
    have hnw : nW (m0 58) 0 = n := by
      unfold nW
      rw [show m0 58 (5 + 0) = nI n from hne]
      exact nI_clamp (by omega)
    refine g_iload_n m131_0 rfl ?_
    refine h_if_neT (xi := 0) (zi := 0) m131_1 rfl rfl (by decide) ?_
    refine g_bipush m131_4 ?_
    refine g_goto m131_6 ?_
    refine g_istore (L2 := [some (.ref (89)), some (.int (0)), some (.int (a)), some (.int (b)), some (.int (c)), some (.int (99))]) m131_10 rfl rfl ?_
    refine g_aload_n m131_12 rfl ?_
    refine h_gfR (c := 90) (k := 57) (p := 89) m131_13 rfl (t_57 _ _) rfl (Nat.le_of_ble_eq_true rfl) ?_
    refine g_iconst m131_16 ?_
    refine g_iload_n m131_17 rfl ?_
    refine g_iadd (u := (5 : Int32)) m131_18 (by decide) ?_
    refine h_ial (k := 58) (p := 90) (j := 5) m131_19 rfl (t_58 _ _) (rfl) (by omega) (Nat.le_of_ble_eq_true rfl) (e5) ?_
    refine h_if_ltF (xi := (m0 58 5).toInt) (zi := 0) m131_20 rfl rfl (hneg) ?_
    refine g_aload_n m131_23 rfl ?_
    refine g_iload_n m131_24 rfl ?_
    refine g_iload_n m131_25 rfl ?_
    refine g_iload_n m131_26 rfl ?_
    refine g_iload m131_27 rfl ?_
    refine h_cv (k := 57) (p := 89) (args := [.int (0), .int (a), .int (b), .int (c)]) (rest := []) m131_29 cn_130 (Nat.le_of_ble_eq_true rfl) rfl rfl rfl (t_57 _ _) (Nat.le_of_ble_eq_true rfl) ?_
    refine c_walks (u := 0) (by decide) hn (e5.trans hne) (fun j hj => by rw [htx]; exact hTx j hj) (fun v m2 hF w8 w14 wv => ?_)
    rw [htx] at wv
    have hv := valL_e (wv hok.1)
    have e : rkF (m0 58) a b c = heldF v 99 := by
      unfold rkF
      rw [if_neg hneg, hnw, hv]
    rw [e] at hQ
    refine gwr ?_
    refine g_iconst m131_32 ?_
    refine g_iload m131_33 rfl ?_
    refine g_cs (args := [.int (v), .int (0), .int (99)]) (rest := []) 0 (Or.inl rfl) m131_35 (Nat.le_of_ble_eq_true rfl) rfl rfl (Nat.le_of_ble_eq_true rfl) ?_
    refine c_heldM ?_
    refine gwr ?_
    refine g_iret m131_38 rt_131 ?_
    exact hQ _ (hA.eqm (FrV_eq hF))
set_option maxRecDepth 20000 in
set_option maxHeartbeats 40000000 in
theorem c_lawOf1 {m0 Y : MW} {a b c : Int32} (hA : AtY m0 Y m) (hX1 : TxOk (m0 58) 1) (hQ : ∀ m2, AtY m0 Y m2 → Q (some (.int (rbF (m0 58) a b c))) (H m2 ln N)) : WP xs (d + 811) 131 0 0 [.ref (89), .int (1), .int (a), .int (b), .int (c)] (H m ln N) Q := by
  refine wp_x mx_131 (L := [some (.ref (89)), some (.int (1)), some (.int (a)), some (.int (b)), some (.int (c)), none]) (Nat.le_of_ble_eq_true rfl) rfl ?_
  have e5 : m 58 6 = m0 58 6 := hA.rw (by omega)
  by_cases hneg : (m0 58 6).toInt < 0
  · skip
    have e : rbF (m0 58) a b c = 0 := by
      unfold rbF
      rw [if_pos hneg]
    rw [e] at hQ
    refine g_iload_n m131_0 rfl ?_
    refine h_if_neF (xi := 1) (zi := 0) m131_1 rfl rfl (by decide) ?_
    refine g_iconst m131_9 ?_
    refine g_istore (L2 := [some (.ref (89)), some (.int (1)), some (.int (a)), some (.int (b)), some (.int (c)), some (.int (1))]) m131_10 rfl rfl ?_
    refine g_aload_n m131_12 rfl ?_
    refine h_gfR (c := 90) (k := 57) (p := 89) m131_13 rfl (t_57 _ _) rfl (Nat.le_of_ble_eq_true rfl) ?_
    refine g_iconst m131_16 ?_
    refine g_iload_n m131_17 rfl ?_
    refine g_iadd (u := (6 : Int32)) m131_18 (by decide) ?_
    refine h_ial (k := 58) (p := 90) (j := 6) m131_19 rfl (t_58 _ _) (rfl) (by omega) (Nat.le_of_ble_eq_true rfl) (e5) ?_
    refine h_if_ltT (xi := (m0 58 6).toInt) (zi := 0) m131_20 rfl rfl (hneg) ?_
    refine g_iload_n m131_39 rfl ?_
    refine h_if_neF (xi := 1) (zi := 0) m131_40 rfl rfl (by decide) ?_
    refine g_iconst m131_61 ?_
    refine g_iret m131_62 rt_131 ?_
    exact hQ _ hA
  · obtain ⟨n, hn, hne, hTx, hok⟩ : ∃ n, n ≤ 50 ∧ m0 58 6 = nI n ∧ (∀ j, j < 50 → leI (txW (m0 58) 1 j) 255) ∧ isText (txW (m0 58) 1) n 1 := hX1.resolve_left hneg
    have htx : BT m 1 = txW (m0 58) 1 := hA.tx 1
    have hnw : nW (m0 58) 1 = n := by
      unfold nW
      rw [show m0 58 (5 + 1) = nI n from hne]
      exact nI_clamp (by omega)
    refine g_iload_n m131_0 rfl ?_
    refine h_if_neF (xi := 1) (zi := 0) m131_1 rfl rfl (by decide) ?_
    refine g_iconst m131_9 ?_
    refine g_istore (L2 := [some (.ref (89)), some (.int (1)), some (.int (a)), some (.int (b)), some (.int (c)), some (.int (1))]) m131_10 rfl rfl ?_
    refine g_aload_n m131_12 rfl ?_
    refine h_gfR (c := 90) (k := 57) (p := 89) m131_13 rfl (t_57 _ _) rfl (Nat.le_of_ble_eq_true rfl) ?_
    refine g_iconst m131_16 ?_
    refine g_iload_n m131_17 rfl ?_
    refine g_iadd (u := (6 : Int32)) m131_18 (by decide) ?_
    refine h_ial (k := 58) (p := 90) (j := 6) m131_19 rfl (t_58 _ _) (rfl) (by omega) (Nat.le_of_ble_eq_true rfl) (e5) ?_
    refine h_if_ltF (xi := (m0 58 6).toInt) (zi := 0) m131_20 rfl rfl (hneg) ?_
    refine g_aload_n m131_23 rfl ?_
    refine g_iload_n m131_24 rfl ?_
    refine g_iload_n m131_25 rfl ?_
    refine g_iload_n m131_26 rfl ?_
    refine g_iload m131_27 rfl ?_
    refine h_cv (k := 57) (p := 89) (args := [.int (1), .int (a), .int (b), .int (c)]) (rest := []) m131_29 cn_130 (Nat.le_of_ble_eq_true rfl) rfl rfl rfl (t_57 _ _) (Nat.le_of_ble_eq_true rfl) ?_
    refine c_walks (u := 1) (by decide) hn (e5.trans hne) (fun j hj => by rw [htx]; exact hTx j hj) (fun v m2 hF w8 w14 wv => ?_)
    rw [htx] at wv
    have hv := valL_e (wv hok.1)
    have e : rbF (m0 58) a b c = heldF v 1 := by
      unfold rbF
      rw [if_neg hneg, hnw, hv]
    rw [e] at hQ
    refine gwr ?_
    refine g_iconst m131_32 ?_
    refine g_iload m131_33 rfl ?_
    refine g_cs (args := [.int (v), .int (0), .int (1)]) (rest := []) 0 (Or.inl rfl) m131_35 (Nat.le_of_ble_eq_true rfl) rfl rfl (Nat.le_of_ble_eq_true rfl) ?_
    refine c_heldM ?_
    refine gwr ?_
    refine g_iret m131_38 rt_131 ?_
    exact hQ _ (hA.eqm (FrV_eq hF))
set_option maxRecDepth 20000 in
set_option maxHeartbeats 40000000 in
theorem c_faceM {i : Nat} {m0 Y : MW} (hA : AtY m0 Y m) (hX0 : TxOk (m0 58) 0) (hi : i < 8) (hk : leI (Y 2 i) 6) (hQ : ∀ m2, AtY m0 Y m2 → Q (some (.int (faceF (rkF (m0 58)) Y i))) (H m2 ln N)) : WP xs (d + 812) 132 0 0 [.ref (89), .int (nI (i))] (H m ln N) Q := by
  refine wp_x mx_132 (L := [some (.ref (89)), some (.int (nI (i))), none, none, none]) (Nat.le_of_ble_eq_true rfl) rfl ?_
  obtain ⟨kd, hkd, hke⟩ := hk
  refine g_aload_n m132_0 rfl ?_
  refine g_iload_n m132_1 rfl ?_
  refine g_iconst m132_2 ?_
  refine h_cv (k := 57) (p := 89) (args := [.int (nI (i)), .int (2)]) (rest := []) m132_3 cn_111 (Nat.le_of_ble_eq_true rfl) rfl rfl rfl (t_57 _ _) (Nat.le_of_ble_eq_true rfl) ?_
  refine c_itsY (w := 2) (x := Y 4 i) hA hi (by decide) rfl ?_
  refine gwr ?_
  refine g_istore_n (L2 := [some (.ref (89)), some (.int (nI (i))), some (.int (Y 4 i)), none, none]) m132_6 rfl rfl ?_
  refine g_aload_n m132_7 rfl ?_
  refine g_iload_n m132_8 rfl ?_
  refine g_iconst m132_9 ?_
  refine h_cv (k := 57) (p := 89) (args := [.int (nI (i)), .int (3)]) (rest := []) m132_10 cn_111 (Nat.le_of_ble_eq_true rfl) rfl rfl rfl (t_57 _ _) (Nat.le_of_ble_eq_true rfl) ?_
  refine c_itsY (w := 3) (x := Y 5 i) hA hi (by decide) rfl ?_
  refine gwr ?_
  refine g_istore_n (L2 := [some (.ref (89)), some (.int (nI (i))), some (.int (Y 4 i)), some (.int (Y 5 i)), none]) m132_13 rfl rfl ?_
  refine g_aload_n m132_14 rfl ?_
  refine g_iconst m132_15 ?_
  refine g_iload_n m132_16 rfl ?_
  refine g_aload_n m132_17 rfl ?_
  refine g_iload_n m132_18 rfl ?_
  refine g_iconst m132_19 ?_
  refine h_cv (k := 57) (p := 89) (args := [.int (nI (i)), .int (4)]) (rest := [.int (Y 4 i), .int (0), .ref (89)]) m132_20 cn_111 (Nat.le_of_ble_eq_true rfl) rfl rfl rfl (t_57 _ _) (Nat.le_of_ble_eq_true rfl) ?_
  refine c_itsY (w := 4) (x := Y 6 i) hA hi (by decide) rfl ?_
  refine gwr ?_
  refine g_aload_n m132_23 rfl ?_
  refine h_gfR (c := 90) (k := 57) (p := 89) m132_24 rfl (t_57 _ _) rfl (Nat.le_of_ble_eq_true rfl) ?_
  refine g_iconst m132_27 ?_
  refine h_ial (k := 58) (p := 90) (j := 0) m132_28 rfl (t_58 _ _) rfl (by omega) (Nat.le_of_ble_eq_true rfl) (hA.r0) ?_
  refine g_bipush m132_29 ?_
  refine g_irem m132_31 (by decide) rfl ?_
  refine h_cv (k := 57) (p := 89) (args := [.int (0), .int (Y 4 i), .int (Y 6 i), .int _]) (rest := []) m132_32 cn_131 (Nat.le_of_ble_eq_true rfl) rfl rfl rfl (t_57 _ _) (Nat.le_of_ble_eq_true rfl) ?_
  refine c_lawOf0 hA hX0 (fun m_1 hA_2 => ?_)
  refine gwr ?_
  refine g_istore (L2 := [some (.ref (89)), some (.int (nI (i))), some (.int (Y 4 i)), some (.int (Y 5 i)), some (.int (rkF (m0 58) (Y 4 i) (Y 6 i) _))]) m132_35 rfl rfl ?_
  refine g_aload_n m132_37 rfl ?_
  refine g_iload_n m132_38 rfl ?_
  refine g_iconst m132_39 ?_
  refine h_cv (k := 57) (p := 89) (args := [.int (nI (i)), .int (0)]) (rest := []) m132_40 cn_111 (Nat.le_of_ble_eq_true rfl) rfl rfl rfl (t_57 _ _) (Nat.le_of_ble_eq_true rfl) ?_
  refine c_itsY (w := 0) (x := nI (kd)) hA_2 hi (by decide) (hke) ?_
  refine gwr ?_
  rcases (show kd = 0 ∨ kd = 1 ∨ kd = 2 ∨ kd = 3 ∨ kd = 4 ∨ kd = 5 ∨ kd = 6 by omega) with rfl | rfl | rfl | rfl | rfl | rfl | rfl
  · skip
    refine gs m132_43 ?_
    refine gwpc (pc' := 157) rfl ?_
    refine g_iload m132_157 rfl ?_
    refine g_iload_n m132_159 rfl ?_
    refine g_iadd m132_160 rfl ?_
    refine g_iret m132_161 rt_132 ?_
    rw [show faceF (rkF (m0 58)) Y i = _ from fk_0 hke] at hQ
    exact hQ _ hA_2
  · skip
    refine gs m132_43 ?_
    refine gwpc (pc' := 80) rfl ?_
    refine g_iload m132_80 rfl ?_
    refine g_iload_n m132_82 rfl ?_
    refine g_iadd m132_83 rfl ?_
    refine g_aload_n m132_84 rfl ?_
    refine g_iload_n m132_85 rfl ?_
    refine g_iconst m132_86 ?_
    refine h_cv (k := 57) (p := 89) (args := [.int (nI (i)), .int (1)]) (rest := [.int ((rkF (m0 58) (Y 4 i) (Y 6 i) _ + Y 5 i))]) m132_87 cn_111 (Nat.le_of_ble_eq_true rfl) rfl rfl rfl (t_57 _ _) (Nat.le_of_ble_eq_true rfl) ?_
    refine c_itsY (w := 1) (x := Y 3 i) hA_2 hi (by decide) rfl ?_
    refine gwr ?_
    refine g_iadd m132_90 rfl ?_
    refine g_iret m132_91 rt_132 ?_
    rw [show faceF (rkF (m0 58)) Y i = _ from fk_1 hke] at hQ
    exact hQ _ hA_2
  · skip
    refine gs m132_43 ?_
    refine gwpc (pc' := 107) rfl ?_
    refine g_iload m132_107 rfl ?_
    refine g_iconst m132_109 ?_
    refine g_idiv m132_110 (by decide) rfl ?_
    refine g_iload_n m132_111 rfl ?_
    refine g_iadd m132_112 rfl ?_
    refine g_iret m132_113 rt_132 ?_
    rw [show faceF (rkF (m0 58)) Y i = _ from fk_2 hke] at hQ
    exact hQ _ hA_2
  · skip
    refine gs m132_43 ?_
    refine gwpc (pc' := 137) rfl ?_
    refine g_iload m132_137 rfl ?_
    refine g_iload_n m132_139 rfl ?_
    refine g_iadd m132_140 rfl ?_
    refine g_iload_n m132_141 rfl ?_
    refine g_iconst m132_142 ?_
    refine g_idiv m132_143 (by decide) rfl ?_
    refine g_isub m132_144 rfl ?_
    refine g_iret m132_145 rt_132 ?_
    rw [show faceF (rkF (m0 58)) Y i = _ from fk_3 hke] at hQ
    exact hQ _ hA_2
  · skip
    refine gs m132_43 ?_
    refine gwpc (pc' := 92) rfl ?_
    refine g_iload m132_92 rfl ?_
    refine g_iload_n m132_94 rfl ?_
    refine g_iadd m132_95 rfl ?_
    refine g_aload_n m132_96 rfl ?_
    refine g_iload_n m132_97 rfl ?_
    refine g_iconst m132_98 ?_
    refine h_cv (k := 57) (p := 89) (args := [.int (nI (i)), .int (1)]) (rest := [.int ((rkF (m0 58) (Y 4 i) (Y 6 i) _ + Y 5 i))]) m132_99 cn_111 (Nat.le_of_ble_eq_true rfl) rfl rfl rfl (t_57 _ _) (Nat.le_of_ble_eq_true rfl) ?_
    refine c_itsY (w := 1) (x := Y 3 i) hA_2 hi (by decide) rfl ?_
    refine gwr ?_
    refine g_iadd m132_102 rfl ?_
    refine g_bipush m132_103 ?_
    refine g_isub m132_105 rfl ?_
    refine g_iret m132_106 rt_132 ?_
    rw [show faceF (rkF (m0 58)) Y i = _ from fk_4 hke] at hQ
    exact hQ _ hA_2
  · skip
    refine gs m132_43 ?_
    refine gwpc (pc' := 114) rfl ?_
    refine g_iload m132_114 rfl ?_
    refine g_iconst m132_116 ?_
    refine g_idiv m132_117 (by decide) rfl ?_
    refine g_iload_n m132_118 rfl ?_
    refine g_iadd m132_119 rfl ?_
    refine g_aload_n m132_120 rfl ?_
    refine g_iload_n m132_121 rfl ?_
    refine g_iconst m132_122 ?_
    refine h_cv (k := 57) (p := 89) (args := [.int (nI (i)), .int (4)]) (rest := [.int (((rkF (m0 58) (Y 4 i) (Y 6 i) _ / (2 : Int32)) + Y 5 i))]) m132_123 cn_111 (Nat.le_of_ble_eq_true rfl) rfl rfl rfl (t_57 _ _) (Nat.le_of_ble_eq_true rfl) ?_
    refine c_itsY (w := 4) (x := Y 6 i) hA_2 hi (by decide) rfl ?_
    refine gwr ?_
    refine h_if_le (xi := _) (zi := 0) m132_126 rfl rfl (fun c5 => ?_) (fun c5 => ?_)
    · skip
      refine g_iconst m132_134 ?_
      refine g_iadd m132_135 rfl ?_
      refine g_iret m132_136 rt_132 ?_
      have e : faceF (rkF (m0 58)) Y i = _ := (fk_5 hke).trans (by rw [if_neg (by omega)])
      rw [e] at hQ
      exact hQ _ hA_2
    · skip
      refine g_bipush m132_129 ?_
      refine g_goto m132_131 ?_
      refine g_iadd m132_135 rfl ?_
      refine g_iret m132_136 rt_132 ?_
      have e : faceF (rkF (m0 58)) Y i = _ := (fk_5 hke).trans (by rw [if_pos (by omega)])
      rw [e] at hQ
      exact hQ _ hA_2
  · skip
    refine gs m132_43 ?_
    refine gwpc (pc' := 146) rfl ?_
    refine g_iload m132_146 rfl ?_
    refine g_iconst m132_148 ?_
    refine g_iload_n m132_149 rfl ?_
    refine g_imul m132_150 rfl ?_
    refine g_iadd m132_151 rfl ?_
    refine g_iload_n m132_152 rfl ?_
    refine g_iconst m132_153 ?_
    refine g_idiv m132_154 (by decide) rfl ?_
    refine g_isub m132_155 rfl ?_
    refine g_iret m132_156 rt_132 ?_
    rw [show faceF (rkF (m0 58)) Y i = _ from fk_6 hke] at hQ
    exact hQ _ hA_2
set_option maxRecDepth 20000 in
set_option maxHeartbeats 40000000 in
theorem c_growsM {i : Nat} {m0 Y : MW} (hA : AtY m0 Y m) (hi : i < 8) (hk : leI (Y 2 i) 6) (hQ : Q (some (.int (growsF Y i))) (H m ln N)) : WP xs (d + 2) 141 0 0 [.ref (89), .int (nI (i))] (H m ln N) Q := by
  refine wp_x mx_141 (L := [some (.ref (89)), some (.int (nI (i)))]) (Nat.le_of_ble_eq_true rfl) rfl ?_
  obtain ⟨kd, hkd, hke⟩ := hk
  refine g_aload_n m141_0 rfl ?_
  refine g_iload_n m141_1 rfl ?_
  refine g_iconst m141_2 ?_
  refine h_cv (k := 57) (p := 89) (args := [.int (nI (i)), .int (0)]) (rest := []) m141_3 cn_111 (Nat.le_of_ble_eq_true rfl) rfl rfl rfl (t_57 _ _) (Nat.le_of_ble_eq_true rfl) ?_
  refine c_itsY (w := 0) (x := nI (kd)) hA hi (by decide) (hke) ?_
  refine gwr ?_
  rcases (show kd = 0 ∨ kd = 1 ∨ kd = 2 ∨ kd = 3 ∨ kd = 4 ∨ kd = 5 ∨ kd = 6 by omega) with rfl | rfl | rfl | rfl | rfl | rfl | rfl
  · skip
    refine gs m141_6 ?_
    refine gwpc (pc' := 59) rfl ?_
    refine g_iconst m141_59 ?_
    refine g_iret m141_60 rt_141 ?_
    rw [show growsF Y i = _ from gk hke (by decide)] at hQ
    exact hQ
  · skip
    refine gs m141_6 ?_
    refine gwpc (pc' := 44) rfl ?_
    refine g_iconst m141_44 ?_
    refine g_iret m141_45 rt_141 ?_
    rw [show growsF Y i = _ from gk hke (by decide)] at hQ
    exact hQ
  · skip
    refine gs m141_6 ?_
    refine gwpc (pc' := 46) rfl ?_
    refine g_iconst m141_46 ?_
    refine g_iret m141_47 rt_141 ?_
    rw [show growsF Y i = _ from gk hke (by decide)] at hQ
    exact hQ
  · skip
    refine gs m141_6 ?_
    refine gwpc (pc' := 48) rfl ?_
    refine g_iconst m141_48 ?_
    refine g_aload_n m141_49 rfl ?_
    refine g_iload_n m141_50 rfl ?_
    refine g_iconst m141_51 ?_
    refine h_cv (k := 57) (p := 89) (args := [.int (nI (i)), .int (1)]) (rest := [.int (1)]) m141_52 cn_111 (Nat.le_of_ble_eq_true rfl) rfl rfl rfl (t_57 _ _) (Nat.le_of_ble_eq_true rfl) ?_
    refine c_itsY (w := 1) (x := Y 3 i) hA hi (by decide) rfl ?_
    refine gwr ?_
    refine g_iconst m141_55 ?_
    refine g_irem m141_56 (by decide) rfl ?_
    refine g_iadd m141_57 rfl ?_
    refine g_iret m141_58 rt_141 ?_
    rw [show growsF Y i = _ from gk hke (by decide)] at hQ
    exact hQ
  · skip
    refine gs m141_6 ?_
    refine gwpc (pc' := 44) rfl ?_
    refine g_iconst m141_44 ?_
    refine g_iret m141_45 rt_141 ?_
    rw [show growsF Y i = _ from gk hke (by decide)] at hQ
    exact hQ
  · skip
    refine gs m141_6 ?_
    refine gwpc (pc' := 46) rfl ?_
    refine g_iconst m141_46 ?_
    refine g_iret m141_47 rt_141 ?_
    rw [show growsF Y i = _ from gk hke (by decide)] at hQ
    exact hQ
  · skip
    refine gs m141_6 ?_
    refine gwpc (pc' := 48) rfl ?_
    refine g_iconst m141_48 ?_
    refine g_aload_n m141_49 rfl ?_
    refine g_iload_n m141_50 rfl ?_
    refine g_iconst m141_51 ?_
    refine h_cv (k := 57) (p := 89) (args := [.int (nI (i)), .int (1)]) (rest := [.int (1)]) m141_52 cn_111 (Nat.le_of_ble_eq_true rfl) rfl rfl rfl (t_57 _ _) (Nat.le_of_ble_eq_true rfl) ?_
    refine c_itsY (w := 1) (x := Y 3 i) hA hi (by decide) rfl ?_
    refine gwr ?_
    refine g_iconst m141_55 ?_
    refine g_irem m141_56 (by decide) rfl ?_
    refine g_iadd m141_57 rfl ?_
    refine g_iret m141_58 rt_141 ?_
    rw [show growsF Y i = _ from gk hke (by decide)] at hQ
    exact hQ
end
