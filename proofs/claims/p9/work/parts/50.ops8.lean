/-! DRAWS, LOOSE STEPS -/
def zF (z : Int32) : Int32 := z * 1103515245 + 12345
def zN (z : Int32) : Nat → Int32
  | 0 => z
  | k + 1 => zF (zN z k)
def dN (z : Int32) : Nat := z.toBitVec.toNat / 256
theorem dN_lt (z : Int32) : dN z < 16777216 := by
  have := z.toBitVec.isLt
  unfold dN
  omega
theorem ush8 (z : Int32) : (z.toUInt32 >>> ((8 : Int32).toUInt32 &&& Int32.toUInt32 31)).toInt32 = nI (dN z) := by
  refine Int32.toBitVec_inj.mp (BitVec.eq_of_toNat_eq ?_)
  show (z.toBitVec >>> (((8 : Int32).toUInt32 &&& Int32.toUInt32 31).toBitVec % 32)).toNat = (BitVec.ofNat 32 (dN z)).toNat
  have h := dN_lt z
  rw [BitVec.ushiftRight_eq', BitVec.toNat_ushiftRight, show (((8 : Int32).toUInt32 &&& Int32.toUInt32 31).toBitVec % 32).toNat = 8 by decide +kernel, BitVec.toNat_ofNat, Nat.mod_eq_of_lt (by omega), Nat.shiftRight_eq_div_pow]
  rfl
def drX (X : MW) (n D : Nat) : MW := if n = 0 then X else upm X 5 (D % n) (nI (D / 8 % 10))
def looX (LK BL : LF) (n : Nat) (X : MW) (z : Int32) : Nat → MW
  | 0 => X
  | k + 1 => stepF LK BL (drX (looX LK BL n X z k) n (dN (zN z (k + 1))))
theorem drX_0 {X : MW} {n D i : Nat} : drX X n D 0 i = X 0 i := by
  unfold drX
  split
  · rfl
  · exact upm_k _ _ (by decide)
theorem drX_8 {X Y : MW} (h : Eq8 X Y) (n D : Nat) : Eq8 (drX X n D) (drX Y n D) := by
  unfold drX
  split
  · exact h
  · exact h.up 5 _ _
theorem drX_W {X : MW} (w : WF X) (n D : Nat) : WF (drX X n D) := by
  unfold drX
  split
  · exact w
  · exact WF_sham w ⟨D / 8 % 10, by omega, rfl⟩
theorem looX_0 {LK BL : LF} {n : Nat} {X : MW} {z : Int32} {i : Nat} (hi : i ≠ 9) : ∀ k, looX LK BL n X z k 0 i = X 0 i
  | 0 => rfl
  | k + 1 => (stepN_0 LK BL _ hi 1).trans (drX_0.trans (looX_0 hi k))
theorem looX_W {LK BL : LF} {n : Nat} {X : MW} {z : Int32} (w : WF X) : ∀ k, WF (looX LK BL n X z k)
  | 0 => w
  | k + 1 => WF_step (drX_W (looX_W w k) _ _)
theorem upm_2 (m : MW) (k j : Nat) (x y : Int32) : upm (upm m k j x) k j y = upm m k j y := by
  funext k2 j2
  unfold upm
  split <;> rfl
theorem upm_id (m : MW) (k j : Nat) : upm m k j (m k j) = m := by
  funext k2 j2
  unfold upm
  split
  · rename_i h
    rw [h.1, h.2]
  · rfl
theorem cod_up {m : MW} {k j : Nat} {x : Int32} (hk : k < 69) (ln : Nat → Nat) : codL (upm m k j x) ln = codL m ln := by
  funext i
  unfold codL
  rw [row_up m _ (by omega)]
theorem laws_up {m : MW} {ln : Nat → Nat} {N k j : Nat} {x : Int32} (h : LawsOk m ln N) (hk : k < 69) : LawsOk (upm m k j x) ln N := ⟨h.1, fun i hi => by rw [cod_up hk]; exact h.2 i hi⟩
theorem lk_up {m : MW} {ln : Nat → Nat} {k j : Nat} {x y : Int32} (hk : k < 69) : lkF (upm m k j x) ln y = lkF m ln y := by rw [lkC_e, lkC_e, cod_up hk]
theorem bl_up {m : MW} {ln : Nat → Nat} {k j : Nat} {x y : Int32} (hk : k < 69) : blF (upm m k j x) ln y = blF m ln y := by rw [blC_e, blC_e, cod_up hk]
theorem AtX.up37 {m0 X m2 : MW} (h : AtX m0 0 X m2) (v : Int32) : AtX (upm m0 37 0 v) 0 X (upm m2 37 0 v) := by
  intro k j q
  have h1 := h k j q
  by_cases e : k = 37 ∧ j = 0
  · obtain ⟨rfl, rfl⟩ := e
    rw [upm_self]
    unfold putT
    rw [if_neg (by omega), upm_self]
  · have e1 : upm m2 37 0 v k j = m2 k j := if_neg e
    rw [e1, h1]
    unfold putT
    by_cases c : 1 + 9 * 0 ≤ k ∧ k < 10 + 9 * 0
    · rw [if_pos c, if_pos c]
    · rw [if_neg c, if_neg c]
      exact (if_neg e).symm
theorem AtY.up1 {m0 Y m2 : MW} (h : AtY m0 Y m2) (v : Int32) : AtY (upm m0 58 1 v) Y (upm m2 58 1 v) := by
  intro k j q
  unfold upmR
  by_cases e : k = 58
  · subst e
    rw [if_pos rfl]
    by_cases e2 : j = 1
    · subst e2
      rw [upm_self]
      exact (upm_self m0 58 1 v).symm
    · rw [upm_j _ _ e2, h.row j]
      unfold rowU
      rw [upm_j _ _ e2]
  · rw [if_neg e, upm_k _ _ e, h k j q]
    unfold upmR
    rw [if_neg e, upm_k _ _ e]
theorem tx_1 {m : MW} {v : Int32} (u : Nat) : txW (upm m 58 1 v 58) u = txW (m 58) u ∧ upm m 58 1 v 58 (5 + u) = m 58 (5 + u) := ⟨funext fun j => upm_j _ _ (by omega), upm_j _ _ (by omega)⟩
theorem TxOk.up1 {m : MW} {v : Int32} {u : Nat} (h : TxOk (m 58) u) : TxOk (upm m 58 1 v 58) u := by
  unfold TxOk
  rw [(tx_1 u).1, (tx_1 u).2]
  exact h
theorem rk_1 {m : MW} {v : Int32} : rkF (upm m 58 1 v 58) = rkF (m 58) := by
  have h := tx_1 (m := m) (v := v) 0
  unfold rkF nW
  rw [h.1]
  rw [show upm m 58 1 v 58 (5 + 0) = m 58 (5 + 0) from h.2]
  first | done | rfl
theorem rb_1 {m : MW} {v : Int32} : rbF (upm m 58 1 v 58) = rbF (m 58) := by
  have h := tx_1 (m := m) (v := v) 1
  unfold rbF nW
  rw [h.1]
  rw [show upm m 58 1 v 58 (5 + 1) = m 58 (5 + 1) from h.2]
  first | done | rfl
def zrM (m : MW) (s : Nat) (b l : Int32) : MW := fun k j => if k = 49 + 2 * s ∧ j < 40 then 0 else upm (upm m (48 + 2 * s) 0 b) (48 + 2 * s) 1 l k j
def zrQ (m : MW) (c lo q : Nat) : MW := fun k j => if k = c ∧ lo ≤ j ∧ j < lo + q then 0 else m k j
theorem zrQ_0 (m : MW) (c lo : Nat) : zrQ m c lo 0 = m := by
  funext k j
  exact if_neg (fun z => absurd z.2 (by omega))
theorem zrQ_s (m : MW) (c lo q : Nat) : upm (zrQ m c lo q) c (lo + q) 0 = zrQ m c lo (q + 1) := by
  funext k j
  unfold upm
  by_cases e : k = c ∧ j = lo + q
  · rw [if_pos e]
    exact (if_pos ⟨e.1, by omega⟩).symm
  · rw [if_neg e]
    exact if_c ⟨fun z => ⟨z.1, by omega⟩, fun z => ⟨z.1, by
      have : j ≠ lo + q := fun y => e ⟨z.1, y⟩
      omega⟩⟩
section
variable {xs : List Int32} {d : Nat} {h : AH} {Q : QT} {m : MW} {ln : Nat → Nat} {N : Nat}
set_option maxRecDepth 20000 in
set_option maxHeartbeats 40000000 in
theorem c_draw (hQ : Q (some (.int (nI (dN (zF (m 37 0)))))) (H (upm m 37 0 (zF (m 37 0))) ln N)) : WP xs (d + 1) 12 0 0 [.ref (69)] (H m ln N) Q := by
  refine wp_x mx_12 (L := [some (.ref (69))]) (Nat.le_of_ble_eq_true rfl) rfl ?_
  refine g_aload_n m12_0 rfl ?_
  refine g_aload_n m12_1 rfl ?_
  refine h_gfI (k := 37) (p := 69) m12_2 rfl (t_37 _ _) rfl rfl ?_
  refine g_ldci m12_5 rfl ?_
  refine g_imul m12_7 rfl ?_
  refine g_sipush m12_8 ?_
  refine g_iadd (u := zF (m 37 0)) m12_11 (rfl) ?_
  refine h_pfI (k := 37) (p := 69) m12_12 rfl (t_37 _ _) rfl trivial ?_
  refine g_aload_n m12_15 rfl ?_
  refine h_gfI (k := 37) (p := 69) m12_16 rfl (t_37 _ _) rfl (upm_self _ _ _ _) ?_
  refine g_bipush m12_19 ?_
  refine g_iushr (u := nI (dN (zF (m 37 0)))) m12_21 (ush8 _) ?_
  refine g_iret m12_22 rt_12 ?_
  exact hQ
set_option maxRecDepth 20000 in
set_option maxHeartbeats 40000000 in
theorem c_drawn (hQ : Q (some (.int (nI (dN (zF (m 58 1)))))) (H (upm m 58 1 (zF (m 58 1))) ln N)) : WP xs (d + 1) 149 0 0 [.ref (89)] (H m ln N) Q := by
  refine wp_x mx_149 (L := [some (.ref (89))]) (Nat.le_of_ble_eq_true rfl) rfl ?_
  refine g_aload_n m149_0 rfl ?_
  refine h_gfR (c := 90) (k := 57) (p := 89) m149_1 rfl (t_57 _ _) rfl (Nat.le_of_ble_eq_true rfl) ?_
  refine g_iconst m149_4 ?_
  refine g_aload_n m149_5 rfl ?_
  refine h_gfR (c := 90) (k := 57) (p := 89) m149_6 rfl (t_57 _ _) rfl (Nat.le_of_ble_eq_true rfl) ?_
  refine g_iconst m149_9 ?_
  refine h_ial (k := 58) (p := 90) (j := 1) m149_10 rfl (t_58 _ _) (rfl) (by omega) (Nat.le_of_ble_eq_true rfl) (rfl) ?_
  refine g_ldci m149_11 rfl ?_
  refine g_imul m149_13 rfl ?_
  refine g_sipush m149_14 ?_
  refine g_iadd (u := zF (m 58 1)) m149_17 (rfl) ?_
  refine h_ias (k := 58) (p := 90) (j := 1) m149_18 rfl (t_58 _ _) (rfl) (by omega) (Nat.le_of_ble_eq_true rfl) ?_
  refine g_aload_n m149_19 rfl ?_
  refine h_gfR (c := 90) (k := 57) (p := 89) m149_20 rfl (t_57 _ _) rfl (Nat.le_of_ble_eq_true rfl) ?_
  refine g_iconst m149_23 ?_
  refine h_ial (k := 58) (p := 90) (j := 1) m149_24 rfl (t_58 _ _) (rfl) (by omega) (Nat.le_of_ble_eq_true rfl) (upm_self _ _ _ _) ?_
  refine g_bipush m149_25 ?_
  refine g_iushr (u := nI (dN (zF (m 58 1)))) m149_27 (ush8 _) ?_
  refine g_iret m149_28 rt_149 ?_
  exact hQ
set_option maxRecDepth 20000 in
set_option maxHeartbeats 40000000 in
theorem c_drawSham {n : Nat} {m0 X : MW} (hA : AtX m0 0 X m) (hn : n ≤ 8) (hd : X 0 10 = nI n) (hQ : ∀ m2, AtX (upm m0 37 0 (zF (m0 37 0))) 0 (drX X n (dN (zF (m0 37 0)))) m2 → Q none (H m2 ln N)) : WP xs (d + 2) 71 0 0 [.ref (32)] (H m ln N) Q := by
  refine wp_x mx_71 (L := [some (.ref (32)), none]) (Nat.le_of_ble_eq_true rfl) rfl ?_
  refine g_aload_n m71_0 rfl ?_
  refine h_gfR (c := 69) (k := 0) (p := 32) m71_1 rfl (t_0 _ _) rfl (Nat.le_of_ble_eq_true rfl) ?_
  refine h_cv (k := 37) (p := 69) (args := []) (rest := []) m71_4 cn_12 (Nat.le_of_ble_eq_true rfl) rfl rfl rfl (t_37 _ _) (Nat.le_of_ble_eq_true rfl) ?_
  have e37 : m 37 0 = m0 37 0 := hA.out (by omega) (fun z => by rcases z with z | z <;> omega)
  refine c_draw ?_
  rw [e37]
  have hA1 := hA.up37 (zF (m0 37 0))
  have hd1 : upm m 37 0 (zF (m0 37 0)) 1 10 = nI n := (upm_k _ _ (by decide)).trans ((hA.rd (by decide) (j := 0) (i := 10) (by decide)).trans hd)
  have hD := dN_lt (zF (m0 37 0))
  refine gwr ?_
  refine g_istore_n (L2 := [some (.ref (32)), some (.int (nI (dN (zF (m0 37 0)))))]) m71_7 rfl rfl ?_
  refine g_aload_n m71_8 rfl ?_
  refine h_gfR (c := 33) (k := 0) (p := 32) m71_9 rfl (t_0 _ _) rfl (Nat.le_of_ble_eq_true rfl) ?_
  refine h_gfI (k := 1) (p := 33) m71_12 rfl (t_1 _ _) rfl (hd1) ?_
  refine h_if_le (xi := ((n : Nat) : Int)) (zi := 0) m71_15 (nI_toInt (by omega)) rfl (fun c1 => ?_) (fun c1 => ?_)
  · skip
    refine g_vret m71_42 ?_
    have e : drX X n (dN (zF (m0 37 0))) = X := if_pos (by omega)
    refine hQ _ ?_
    rw [e]
    exact hA1
  · skip
    refine g_aload_n m71_18 rfl ?_
    refine h_gfR (c := 33) (k := 0) (p := 32) m71_19 rfl (t_0 _ _) rfl (Nat.le_of_ble_eq_true rfl) ?_
    refine h_gfR (c := 38) (k := 1) (p := 33) m71_22 rfl (t_1 _ _) rfl (Nat.le_of_ble_eq_true rfl) ?_
    refine g_iload_n m71_25 rfl ?_
    refine g_aload_n m71_26 rfl ?_
    refine h_gfR (c := 33) (k := 0) (p := 32) m71_27 rfl (t_0 _ _) rfl (Nat.le_of_ble_eq_true rfl) ?_
    refine h_gfI (k := 1) (p := 33) m71_30 rfl (t_1 _ _) rfl (hd1) ?_
    have hn0 : 0 < n := by omega
    have hlt : (dN (zF (m0 37 0))) % n < n := Nat.mod_lt _ hn0
    refine g_irem (u := nI ((dN (zF (m0 37 0))) % n)) m71_33 (nI_ne0 hn0 (by omega)) (pk_rem (a := (dN (zF (m0 37 0)))) (d := n) (by omega) hn0 (by omega)) ?_
    refine g_iload_n m71_34 rfl ?_
    refine g_bipush m71_35 ?_
    refine g_idiv (u := nI ((dN (zF (m0 37 0))) / 8)) m71_37 (by decide) (pk_div (a := (dN (zF (m0 37 0)))) (d := 8) (by omega) (by decide) (by decide)) ?_
    refine g_bipush m71_38 ?_
    refine g_irem (u := nI (((dN (zF (m0 37 0))) / 8) % 10)) m71_40 (by decide) (pk_rem (a := ((dN (zF (m0 37 0))) / 8)) (d := 10) (by omega) (by decide) (by decide)) ?_
    refine h_ias (k := 6) (p := 38) (j := (dN (zF (m0 37 0))) % n) m71_41 rfl (t_6 _ _) (rfl) (by omega) (Nat.le_of_ble_eq_true rfl) ?_
    refine g_vret m71_42 ?_
    have e : drX X n (dN (zF (m0 37 0))) = upm X 5 ((dN (zF (m0 37 0))) % n) (nI ((dN (zF (m0 37 0))) / 8 % 10)) := if_neg (by omega)
    refine hQ _ ?_
    rw [e]
    exact hA1.up (by decide) (j := 5) (by decide) _ _
set_option maxRecDepth 20000 in
set_option maxHeartbeats 40000000 in
theorem x_loose {v : Int32} {n st : Nat} (hd : m 1 10 = nI n) (hn : n ≤ 8) (hst : m 1 9 = nI st) (hst9 : st ≤ 9999) (hW : WF (vw m 0)) (hL : LawsOk m ln N) (hix : LawIx N (m 1 11)) (hiy : LawIx N (m 1 12)) (hE1 : (v.toInt < 1 ∨ 40 < v.toInt) → Q (some (.int (-1000000000 - nI 1))) (H (erm m 1) ln N)) (hE3 : (∃ k : Nat, v = nI k ∧ k ≤ 40 ∧ 9999 < st + k) → Q (some (.int (-1000000000 - nI 3))) (H (erm m 3) ln N)) (hY : ∀ k : Nat, v = nI k → 1 ≤ k → k ≤ 40 → st + k ≤ 9999 → ∀ X2 m2, Eq8 (looX (lkF m ln (m 1 11)) (blF m ln (m 1 12)) n (vw m 0) (m 37 0) k) X2 → AtX (upm m 37 0 (zN (m 37 0) k)) 0 X2 m2 → Q (some (.int (sumF (X2 4) n))) (H m2 ln N)) : WP xs (d + 7) 72 0 0 [.ref (32), .int (v)] (H m ln N) Q := by
  refine wp_x mx_72 (L := [some (.ref (32)), some (.int (v)), none]) (Nat.le_of_ble_eq_true rfl) rfl ?_
  by_cases hv : v.toInt < 1 ∨ 40 < v.toInt
  · skip
    refine g_iload_n m72_0 rfl ?_
    refine g_iconst m72_1 ?_
    refine h_ic_lt (xi := v.toInt) (zi := 1) m72_2 rfl rfl (fun c1 => ?_) (fun c1 => ?_)
    · skip
      refine g_aload_n m72_11 rfl ?_
      refine g_iconst m72_12 ?_
      refine h_cv (k := 0) (p := 32) (args := [.int (1)]) (rest := []) m72_13 cn_55 (Nat.le_of_ble_eq_true rfl) rfl rfl rfl (t_0 _ _) (Nat.le_of_ble_eq_true rfl) ?_
      refine c_error (e := 1) (by decide) (by decide) ?_
      refine gwr ?_
      refine g_iret m72_16 rt_72 ?_
      exact hE1 (by omega)
    · skip
      refine g_iload_n m72_5 rfl ?_
      refine g_bipush m72_6 ?_
      refine h_ic_le (xi := v.toInt) (zi := 40) m72_8 rfl rfl (fun c2 => ?_) (fun c2 => ?_)
      · skip
        exfalso
        omega
      · skip
        refine g_aload_n m72_11 rfl ?_
        refine g_iconst m72_12 ?_
        refine h_cv (k := 0) (p := 32) (args := [.int (1)]) (rest := []) m72_13 cn_55 (Nat.le_of_ble_eq_true rfl) rfl rfl rfl (t_0 _ _) (Nat.le_of_ble_eq_true rfl) ?_
        refine c_error (e := 1) (by decide) (by decide) ?_
        refine gwr ?_
        refine g_iret m72_16 rt_72 ?_
        exact hE1 (by omega)
  · skip
    obtain ⟨k, ⟨hk1, hk2⟩, hk3⟩ := nat_of (x := v) (lo := 1) (hi := 40) (by omega) (by omega)
    obtain rfl : v = nI k := hk3
    have ek : (nI k).toInt = (k : Int) := nI_toInt (by omega)
    refine g_iload_n m72_0 rfl ?_
    refine g_iconst m72_1 ?_
    refine h_ic_ltF (xi := ((k : Nat) : Int)) (zi := 1) m72_2 (nI_toInt (by omega)) rfl (by omega) ?_
    refine g_iload_n m72_5 rfl ?_
    refine g_bipush m72_6 ?_
    refine h_ic_leT (xi := ((k : Nat) : Int)) (zi := 40) m72_8 (nI_toInt (by omega)) rfl (by omega) ?_
    refine g_aload_n m72_17 rfl ?_
    refine h_gfR (c := 33) (k := 0) (p := 32) m72_18 rfl (t_0 _ _) rfl (Nat.le_of_ble_eq_true rfl) ?_
    refine h_gfI (k := 1) (p := 33) m72_21 rfl (t_1 _ _) rfl (hst) ?_
    refine g_sipush m72_24 ?_
    refine g_iload_n m72_27 rfl ?_
    refine g_isub (u := nI (9999 - k)) m72_28 (pk_sub (a := 9999) (b := k) (by omega)) ?_
    refine h_ic_le (xi := ((st : Nat) : Int)) (zi := ((9999 - k : Nat) : Int)) m72_29 (nI_toInt (by omega)) (nI_toInt (by omega)) (fun c3 => ?_) (fun c3 => ?_)
    · skip
      refine g_iconst m72_38 ?_
      refine g_istore_n (L2 := [some (.ref (32)), some (.int (nI (k))), some (.int (0))]) m72_39 rfl rfl ?_
      have key : ∀ (r : Nat) (q : Nat) (m2 X2 : MW), q + r = k → Eq8 (looX (lkF m ln (m 1 11)) (blF m ln (m 1 12)) n (vw m 0) (m 37 0) q) X2 → AtX (upm m 37 0 (zN (m 37 0) q)) 0 X2 m2 → gw xs (WP xs (d + 6)) 72 Q 40 [some (.ref (32)), some (.int (nI (k))), some (.int (nI (q)))] [] (H m2 ln N) 0 0 := by
        intro r
        induction r with
        | zero =>
          intro q m2 X2 hq h8 hA
          obtain rfl : q = k := by omega
          refine g_iload_n m72_40 rfl ?_
          refine g_iload_n m72_41 rfl ?_
          refine h_ic_geT (xi := ((q : Nat) : Int)) (zi := ((q : Nat) : Int)) m72_42 (nI_toInt (by omega)) (nI_toInt (by omega)) (by omega) ?_
          refine g_aload_n m72_63 rfl ?_
          refine h_gfR (c := 33) (k := 0) (p := 32) m72_64 rfl (t_0 _ _) rfl (Nat.le_of_ble_eq_true rfl) ?_
          refine h_cv (k := 1) (p := 33) (args := []) (rest := []) m72_67 cn_45 (Nat.le_of_ble_eq_true rfl) rfl rfl rfl (t_1 _ _) (Nat.le_of_ble_eq_true rfl) ?_
          refine c_hungerOfAll (t := 0) (by decide) hA hn ((h8 0 (by decide) 10).trans ((looX_0 (by decide) q).trans hd)) ?_
          refine gwr ?_
          refine g_iret m72_70 rt_72 ?_
          exact hY q rfl (by omega) (by omega) (by omega) X2 m2 h8 hA
        | succ r ih =>
          intro q m2 X2 hq h8 hA
          refine g_iload_n m72_40 rfl ?_
          refine g_iload_n m72_41 rfl ?_
          refine h_ic_geF (xi := ((q : Nat) : Int)) (zi := ((k : Nat) : Int)) m72_42 (nI_toInt (by omega)) (nI_toInt (by omega)) (by omega) ?_
          refine g_aload_n m72_45 rfl ?_
          refine h_cv (k := 0) (p := 32) (args := []) (rest := []) m72_46 cn_71 (Nat.le_of_ble_eq_true rfl) rfl rfl rfl (t_0 _ _) (Nat.le_of_ble_eq_true rfl) ?_
          refine c_drawSham hA hn ((h8 0 (by decide) 10).trans ((looX_0 (by decide) q).trans hd)) (fun m3 hA3 => ?_)
          rw [upm_self, upm_2, show zF (zN (m 37 0) q) = zN (m 37 0) (q + 1) from rfl] at hA3
          refine gwr0 ?_
          refine g_aload_n m72_49 rfl ?_
          refine h_gfR (c := 33) (k := 0) (p := 32) m72_50 rfl (t_0 _ _) rfl (Nat.le_of_ble_eq_true rfl) ?_
          refine h_cv (k := 1) (p := 33) (args := []) (rest := []) m72_53 cn_40 (Nat.le_of_ble_eq_true rfl) rfl rfl rfl (t_1 _ _) (Nat.le_of_ble_eq_true rfl) ?_
          refine c_serveStep (x := m 1 11) (y := m 1 12) (t := 0) (by decide) (laws_up hL (by decide)) hA3 (drX_0.trans ((h8 0 (by decide) 11).trans (looX_0 (by decide) q))) hix (drX_0.trans ((h8 0 (by decide) 12).trans (looX_0 (by decide) q))) hiy (drX_W (WF_c h8 (looX_W hW q)) _ _) (fun X4 m4 e8 hA4 => ?_)
          rw [lk_up (by decide), bl_up (by decide)] at e8
          have h84 : Eq8 (looX (lkF m ln (m 1 11)) (blF m ln (m 1 12)) n (vw m 0) (m 37 0) (q + 1)) X4 := (stepF_8 (drX_8 h8 n _)).tr e8
          refine gwr ?_
          refine g_pop m72_56 rfl ?_
          refine g_iinc (L2 := [some (.ref (32)), some (.int (nI (k))), some (.int (nI (q + 1)))]) m72_57 rfl (nI_1 _) rfl rfl ?_
          refine g_goto m72_60 ?_
          exact ih (q + 1) _ _ (by omega) h84 hA4
      exact key k 0 m _ (by omega) Eq8.rf (by rw [show zN (m 37 0) 0 = m 37 0 from rfl, upm_id]; exact AtX.self m 0)
    · skip
      refine g_aload_n m72_32 rfl ?_
      refine g_iconst m72_33 ?_
      refine h_cv (k := 0) (p := 32) (args := [.int (3)]) (rest := []) m72_34 cn_55 (Nat.le_of_ble_eq_true rfl) rfl rfl rfl (t_0 _ _) (Nat.le_of_ble_eq_true rfl) ?_
      refine c_error (e := 3) (by decide) (by decide) ?_
      refine gwr ?_
      refine g_iret m72_37 rt_72 ?_
      exact hE3 ⟨k, rfl, by omega, by omega⟩
set_option maxRecDepth 20000 in
set_option maxHeartbeats 40000000 in
theorem m_loose {v : Int32} {n st : Nat} (hd : m 58 2 = nI n) (hn : n ≤ 8) (hst : m 58 0 = nI st) (hst9 : st ≤ 9999) (hX0 : TxOk (m 58) 0) (hX1 : TxOk (m 58) 1) (hWY : WF (vr (m 58))) (hE1 : (v.toInt < 1 ∨ 40 < v.toInt) → Q (some (.int (-1000000001))) (H (ers m 1) ln N)) (hE3 : (∃ k : Nat, v = nI k ∧ k ≤ 40 ∧ 9999 < st + k) → Q (some (.int (-1000000003))) (H (ers m 3) ln N)) (hY : ∀ k : Nat, v = nI k → 1 ≤ k → k ≤ 40 → st + k ≤ 9999 → ∀ m2, AtY (upm m 58 1 (zN (m 58 1) k)) (looX (rkF (m 58)) (rbF (m 58)) n (vr (m 58)) (m 58 1) k) m2 → Q (some (.int (sumF (looX (rkF (m 58)) (rbF (m 58)) n (vr (m 58)) (m 58 1) k 4) n))) (H m2 ln N)) : WP xs (d + 817) 150 0 0 [.ref (89), .int (v)] (H m ln N) Q := by
  refine wp_x mx_150 (L := [some (.ref (89)), some (.int (v)), none, none]) (Nat.le_of_ble_eq_true rfl) rfl ?_
  refine g_iload_n m150_0 rfl ?_
  refine g_iconst m150_1 ?_
  refine g_bipush m150_2 ?_
  refine g_cs (args := [.int (v), .int (1), .int (40)]) (rest := []) 0 (Or.inl rfl) m150_4 (Nat.le_of_ble_eq_true rfl) rfl rfl (Nat.le_of_ble_eq_true rfl) ?_
  refine c_in (A := 1) (B := 40) rfl rfl (by decide) (fun jv ev a_1 a_1' => ?_) (fun a_1 => ?_)
  · subst ev
    refine gwr ?_
    refine h_if_neF (xi := 1) (zi := 0) m150_7 rfl rfl (by decide) ?_
    refine g_aload_n m150_17 rfl ?_
    refine h_gfR (c := 90) (k := 57) (p := 89) m150_18 rfl (t_57 _ _) rfl (Nat.le_of_ble_eq_true rfl) ?_
    refine g_iconst m150_21 ?_
    refine h_ial (k := 58) (p := 90) (j := 0) m150_22 rfl (t_58 _ _) (rfl) (by omega) (Nat.le_of_ble_eq_true rfl) (hst) ?_
    refine g_iload_n m150_23 rfl ?_
    refine g_iadd (u := nI (st + jv)) m150_24 (nI_add st jv) ?_
    refine g_sipush m150_25 ?_
    refine h_ic_le (xi := ((st + jv : Nat) : Int)) (zi := 9999) m150_28 (nI_toInt (by omega)) rfl (fun c1 => ?_) (fun c1 => ?_)
    · skip
      refine g_iconst m150_38 ?_
      refine g_istore_n (L2 := [some (.ref (89)), some (.int (nI (jv))), some (.int (0)), none]) m150_39 rfl rfl ?_
      have key : ∀ (r : Nat) (q : Nat) (o3 : Option Value) (m2 : MW), q + r = jv → AtY (upm m 58 1 (zN (m 58 1) q)) (looX (rkF (m 58)) (rbF (m 58)) n (vr (m 58)) (m 58 1) q) m2 → gw xs (WP xs (d + 816)) 150 Q 40 [some (.ref (89)), some (.int (nI (jv))), some (.int (nI (q))), o3] [] (H m2 ln N) 0 0 := by
        intro r
        induction r with
        | zero =>
          intro q o3 m2 hq hA
          obtain rfl : q = jv := by omega
          refine g_iload_n m150_40 rfl ?_
          refine g_iload_n m150_41 rfl ?_
          refine h_ic_geT (xi := ((q : Nat) : Int)) (zi := ((q : Nat) : Int)) m150_42 (nI_toInt (by omega)) (nI_toInt (by omega)) (by omega) ?_
          refine g_aload_n m150_89 rfl ?_
          refine g_iconst m150_90 ?_
          refine h_cv (k := 57) (p := 89) (args := [.int (2)]) (rest := []) m150_91 cn_147 (Nat.le_of_ble_eq_true rfl) rfl rfl rfl (t_57 _ _) (Nat.le_of_ble_eq_true rfl) ?_
          refine c_sumOf (w := 2) hA (by decide) hn ((looX_0 (by decide) q).trans hd) ?_
          refine gwr ?_
          refine g_iret m150_94 rt_150 ?_
          exact hY q rfl (by omega) (by omega) (by omega) m2 hA
        | succ r ih =>
          intro q o3 m2 hq hA
          refine g_iload_n m150_40 rfl ?_
          refine g_iload_n m150_41 rfl ?_
          refine h_ic_geF (xi := ((q : Nat) : Int)) (zi := ((jv : Nat) : Int)) m150_42 (nI_toInt (by omega)) (nI_toInt (by omega)) (by omega) ?_
          refine g_aload_n m150_45 rfl ?_
          refine h_cv (k := 57) (p := 89) (args := []) (rest := []) m150_46 cn_149 (Nat.le_of_ble_eq_true rfl) rfl rfl rfl (t_57 _ _) (Nat.le_of_ble_eq_true rfl) ?_
          have ez : m2 58 1 = zN (m 58 1) q := (hA.rw (by omega)).trans (upm_self _ _ _ _)
          refine c_drawn ?_
          rw [ez, show zF (zN (m 58 1) q) = zN (m 58 1) (q + 1) from rfl]
          have hA3 := hA.up1 (zN (m 58 1) (q + 1))
          rw [upm_2] at hA3
          have hD := dN_lt (zN (m 58 1) (q + 1))
          have hd3 : upm m2 58 1 (zN (m 58 1) (q + 1)) 58 2 = nI n := hA3.r2.trans ((looX_0 (by decide) q).trans hd)
          refine gwr ?_
          refine g_istore_n (L2 := [some (.ref (89)), some (.int (nI (jv))), some (.int (nI (q))), some (.int (nI ((dN (zN (m 58 1) (q + 1))))))]) m150_49 rfl rfl ?_
          refine g_aload_n m150_50 rfl ?_
          refine h_gfR (c := 90) (k := 57) (p := 89) m150_51 rfl (t_57 _ _) rfl (Nat.le_of_ble_eq_true rfl) ?_
          refine g_iconst m150_54 ?_
          refine h_ial (k := 58) (p := 90) (j := 2) m150_55 rfl (t_58 _ _) (rfl) (by omega) (Nat.le_of_ble_eq_true rfl) (hd3) ?_
          refine h_if_le (xi := ((n : Nat) : Int)) (zi := 0) m150_56 (nI_toInt (by omega)) rfl (fun c2 => ?_) (fun c2 => ?_)
          · skip
            refine g_aload_n m150_79 rfl ?_
            refine h_cv (k := 57) (p := 89) (args := []) (rest := []) m150_80 cn_145 (Nat.le_of_ble_eq_true rfl) rfl rfl rfl (t_57 _ _) (Nat.le_of_ble_eq_true rfl) ?_
            have ed : drX (looX (rkF (m 58)) (rbF (m 58)) n (vr (m 58)) (m 58 1) q) n (dN (zN (m 58 1) (q + 1))) = looX (rkF (m 58)) (rbF (m 58)) n (vr (m 58)) (m 58 1) q := if_pos (by omega)
            have hA5 := hA3
            rw [← ed] at hA5
            refine c_oneStep hA5 hX0.up1 hX1.up1 (drX_W (looX_W hWY q) _ _) (fun m6 hA6 => ?_)
            rw [rk_1, rb_1] at hA6
            refine gwr0 ?_
            refine g_iinc (L2 := [some (.ref (89)), some (.int (nI (jv))), some (.int (nI (q + 1))), some (.int (nI ((dN (zN (m 58 1) (q + 1))))))]) m150_83 rfl (nI_1 _) rfl rfl ?_
            refine g_goto m150_86 ?_
            exact ih (q + 1) _ _ (by omega) hA6
          · skip
            refine g_aload_n m150_59 rfl ?_
            refine g_iload_n m150_60 rfl ?_
            refine g_aload_n m150_61 rfl ?_
            refine h_gfR (c := 90) (k := 57) (p := 89) m150_62 rfl (t_57 _ _) rfl (Nat.le_of_ble_eq_true rfl) ?_
            refine g_iconst m150_65 ?_
            refine h_ial (k := 58) (p := 90) (j := 2) m150_66 rfl (t_58 _ _) (rfl) (by omega) (Nat.le_of_ble_eq_true rfl) (hd3) ?_
            have hn0 : 0 < n := by omega
            have hlt : (dN (zN (m 58 1) (q + 1))) % n < n := Nat.mod_lt _ hn0
            refine g_irem (u := nI ((dN (zN (m 58 1) (q + 1))) % n)) m150_67 (nI_ne0 hn0 (by omega)) (pk_rem (a := (dN (zN (m 58 1) (q + 1)))) (d := n) (by omega) hn0 (by omega)) ?_
            refine g_iconst m150_68 ?_
            refine g_iload_n m150_69 rfl ?_
            refine g_bipush m150_70 ?_
            refine g_idiv (u := nI (((dN (zN (m 58 1) (q + 1)))) / 8)) m150_72 (by decide) (pk_div (a := ((dN (zN (m 58 1) (q + 1))))) (d := 8) (by omega) (by decide) (by decide)) ?_
            refine g_bipush m150_73 ?_
            refine g_irem (u := nI ((((dN (zN (m 58 1) (q + 1)))) / 8) % 10)) m150_75 (by decide) (pk_rem (a := (((dN (zN (m 58 1) (q + 1)))) / 8)) (d := 10) (by omega) (by decide) (by decide)) ?_
            refine h_cv (k := 57) (p := 89) (args := [.int (nI ((dN (zN (m 58 1) (q + 1))) % n)), .int (3), .int (nI ((((dN (zN (m 58 1) (q + 1)))) / 8) % 10))]) (rest := []) m150_76 cn_112 (Nat.le_of_ble_eq_true rfl) rfl rfl rfl (t_57 _ _) (Nat.le_of_ble_eq_true rfl) ?_
            refine c_gets (w := 3) (by omega) (by decide) ?_
            have hA4 := hA3.up (i := (dN (zN (m 58 1) (q + 1))) % n) (c := 3) (by omega) (by decide) (nI ((dN (zN (m 58 1) (q + 1))) / 8 % 10))
            have ed : drX (looX (rkF (m 58)) (rbF (m 58)) n (vr (m 58)) (m 58 1) q) n (dN (zN (m 58 1) (q + 1))) = upm (looX (rkF (m 58)) (rbF (m 58)) n (vr (m 58)) (m 58 1) q) 5 ((dN (zN (m 58 1) (q + 1))) % n) (nI ((dN (zN (m 58 1) (q + 1))) / 8 % 10)) := if_neg (by omega)
            have hA5 := hA4
            rw [← ed] at hA5
            refine gwr0 ?_
            refine g_aload_n m150_79 rfl ?_
            refine h_cv (k := 57) (p := 89) (args := []) (rest := []) m150_80 cn_145 (Nat.le_of_ble_eq_true rfl) rfl rfl rfl (t_57 _ _) (Nat.le_of_ble_eq_true rfl) ?_
            refine c_oneStep hA5 hX0.up1 hX1.up1 (drX_W (looX_W hWY q) _ _) (fun m6 hA6 => ?_)
            rw [rk_1, rb_1] at hA6
            refine gwr0 ?_
            refine g_iinc (L2 := [some (.ref (89)), some (.int (nI (jv))), some (.int (nI (q + 1))), some (.int (nI ((dN (zN (m 58 1) (q + 1))))))]) m150_83 rfl (nI_1 _) rfl rfl ?_
            refine g_goto m150_86 ?_
            exact ih (q + 1) _ _ (by omega) hA6
      exact key jv 0 _ m (by omega) (by rw [show zN (m 58 1) 0 = m 58 1 from rfl, upm_id]; exact AtY.self m)
    · skip
      refine g_aload_n m150_31 rfl ?_
      refine g_ldci m150_32 rfl ?_
      refine h_cv (k := 57) (p := 89) (args := [.int (-1000000003)]) (rest := []) m150_34 cn_108 (Nat.le_of_ble_eq_true rfl) rfl rfl rfl (t_57 _ _) (Nat.le_of_ble_eq_true rfl) ?_
      refine c_errs (e := 3) (by decide) (by decide) (by decide) ?_
      refine gwr ?_
      refine g_iret m150_37 rt_150 ?_
      exact hE3 ⟨jv, rfl, by omega, by omega⟩
  · skip
    refine gwr ?_
    refine h_if_neT (xi := 0) (zi := 0) m150_7 rfl rfl (by decide) ?_
    refine g_aload_n m150_10 rfl ?_
    refine g_ldci m150_11 rfl ?_
    refine h_cv (k := 57) (p := 89) (args := [.int (-1000000001)]) (rest := []) m150_13 cn_108 (Nat.le_of_ble_eq_true rfl) rfl rfl rfl (t_57 _ _) (Nat.le_of_ble_eq_true rfl) ?_
    refine c_errs (e := 1) (by decide) (by decide) (by decide) ?_
    refine gwr ?_
    refine g_iret m150_16 rt_150 ?_
    exact hE1 (by omega)
end
