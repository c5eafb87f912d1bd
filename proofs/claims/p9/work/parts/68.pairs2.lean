/-! CALLS ON BOTH SIDES that change tables, images -/
section
variable {xs : List Int32} {m m0 : MW} {ln : Nat → Nat} {N q : Nat}
theorem sx58 {A B : MW} (h : ∀ k, k ≠ 58 → B k = A k) : SmX A B := fun k j c => congrFun (h k (fun e => cXM c (by omega))) j
theorem sm_up {k j : Nat} {x : Int32} (h : k < 57) : SmM m (upm m k j x) := fun k2 j2 c => upm_k _ _ (by have := (cM_n c).2.2.2; omega)
/-- one word of the table, on both sides -/
theorem Rel2.one (R : Rel2 m m ln N q) {j i p : Nat} (x : Int32) (hj : j < 8) (h9 : j = 0 → i = 8 ∨ i = 10) (hp : p = 2 ∨ (7 ≤ p ∧ p < 64)) (hW : WF (upm (vw m 0) j i x)) (hE : Eq7 (upm (vw m 0) j i x) (vr (upm m 58 p x 58))) : Rel2 (upm (upm m (j + 1) i x) 58 p x) (upm (upm m (j + 1) i x) 58 p x) ln N q := by
  have e58 : upm (upm m (j + 1) i x) 58 p x 58 = upm m 58 p x 58 := by
    funext k
    unfold upm
    by_cases h : k = p
    · rw [if_pos ⟨rfl, h⟩, if_pos ⟨rfl, h⟩]
    · rw [if_neg (by omega), if_neg (by omega), if_neg (by omega)]
  have hA : Rel2 (upm m (j + 1) i x) (upm (upm m (j + 1) i x) 58 p x) ln N q := by
    refine R.tb (fun k h => row_up _ _ (by omega)) (fun k h1 h2 h3 => (row_up _ _ h3).trans (row_up _ _ (by omega))) ?_ ?_ ?_ ?_ ?_ (fun r hr => ?_)
    · rw [vw_up]
      exact hW
    · have e : upm m (j + 1) i x 1 9 = m 1 9 := by
        unfold upm
        rw [if_neg (by omega)]
      rw [e]
      exact R.T.2.1
    · unfold upm
      rw [if_neg (by omega)]
    · unfold upm
      rw [if_neg (by omega)]
    · rw [vw_up, e58]
      exact hE
    · rw [e58]
      exact upm_j _ _ (by omega)
  exact hA.fr (sx58 (fun k h => row_up _ _ h)) SmM.rf
/-- one word of a DINER's -/
theorem Rel2.wd (R : Rel2 m m ln N q) (c i : Nat) (x : Int32) (hi : i < 8) (hc : c < 6) (h2 : c = 0 → leI x 6) (h3 : c = 1 → leI x 9) (h4 : c = 2 → leI x 99) (h5 : c = 3 → leI x 9) (h6 : c = 4 → leI x 99) (h7 : c = 5 → x = 0 ∨ x = 1) : Rel2 (upm (upm m (2 + c + 1) i x) 58 (16 + 6 * i + c) x) (upm (upm m (2 + c + 1) i x) 58 (16 + 6 * i + c) x) ln N q :=
  R.one x (by omega) (fun e => by omega) (by omega) (WF_u R.W (by omega) (fun e => by omega) (fun e => h2 (by omega)) (fun e => h3 (by omega)) (fun e => h4 (by omega)) (fun e => h5 (by omega)) (fun e => h6 (by omega)) (fun e => h7 (by omega))) ((R.E7.up _ _ _).tr (vr_up m x hi hc))
theorem Rel2.fl (R : Rel2 m m ln N q) (i : Nat) (x : Int32) (hi : i < 8) (h : leI x 30) : Rel2 (upm (upm m 2 i x) 58 (8 + i) x) (upm (upm m 2 i x) 58 (8 + i) x) ln N q :=
  R.one (j := 1) x (by omega) (fun e => by omega) (by omega) (WF_u R.W (by omega) (fun _ => h) (fun e => by omega) (fun e => by omega) (fun e => by omega) (fun e => by omega) (fun e => by omega) (fun e => by omega)) ((R.E7.up _ _ _).tr (vr_fl m x hi))
theorem Rel2.wr (R : Rel2 m m ln N q) (w : Nat) (h1 : 1 ≤ w) (h4 : w ≤ 4) : Rel2 (upm (upm m 1 8 (nI w)) 58 7 (nI w)) (upm (upm m 1 8 (nI w)) 58 7 (nI w)) ln N q :=
  R.one (j := 0) (nI w) (by omega) (fun e => by omega) (by omega) (WF_w R.W h1 h4) ((R.E7.up _ _ _).tr (vr_w m _))
theorem Rel2.nn (R : Rel2 m m ln N q) (n : Nat) (h : n ≤ 8) : Rel2 (upm (upm m 1 10 (nI n)) 58 2 (nI n)) (upm (upm m 1 10 (nI n)) 58 2 (nI n)) ln N q :=
  R.one (j := 0) (nI n) (by omega) (fun e => by omega) (by omega) (by
    refine ⟨⟨n, h, upm_self _ _ _ _⟩, ?_, fun i hi => ?_⟩
    · rw [upm_j _ _ (by decide)]
      exact R.W.2.1
    · rw [upm_k _ _ (by decide), upm_k _ _ (by decide), upm_k _ _ (by decide), upm_k _ _ (by decide), upm_k _ _ (by decide), upm_k _ _ (by decide), upm_k _ _ (by decide)]
      exact R.W.2.2 i hi) ((R.E7.up _ _ _).tr (vr_n m _))
theorem cm58 {k p j : Nat} {a x : Int32} (hk : k ≠ 58) : upm (upm m 58 p a) k j x = upm (upm m k j x) 58 p a := upm_cm _ _ _ (Or.inl (fun e => hk e.symm))
theorem vr_rowU (w : Nat → Int32) (Y : MW) : Eq7 Y (vr (rowU w Y)) := by
  refine ⟨fun j h1 h8 i hi => ?_, rfl, rfl, rfl⟩
  by_cases e : j = 1
  · subst e
    show rowU w Y (8 + i) = Y 1 i
    unfold rowU
    rw [if_neg (by omega), if_neg (by omega), if_neg (by omega), if_pos (by omega), Nat.add_sub_cancel_left]
  · obtain ⟨c, rfl⟩ : ∃ c, j = 2 + c := ⟨j - 2, by omega⟩
    rw [← vr_c]
    exact rowU_c w Y hi (by omega)
theorem st_st (LK BL : LF) {X : MW} {st : Nat} (h : X 0 9 = nI st) : ∀ k, stepN LK BL X k 0 9 = nI (st + k)
  | 0 => h
  | k + 1 => by
    show stepF LK BL (stepN LK BL X k) 0 9 = nI (st + (k + 1))
    rw [stepF_st, st_st LK BL h k, nI_1]
    rfl
theorem lo_st (LK BL : LF) {X : MW} {n st : Nat} {z : Int32} (h : X 0 9 = nI st) : ∀ k, looX LK BL n X z k 0 9 = nI (st + k)
  | 0 => h
  | k + 1 => by
    show stepF LK BL (drX (looX LK BL n X z k) n (dN (zN z (k + 1)))) 0 9 = nI (st + (k + 1))
    rw [stepF_st, drX_0, lo_st LK BL h k, nI_1]
    rfl
/-- a whole table changed on both sides -/
theorem Rel2.stp (R : Rel2 m0 m0 ln N q) {X2 Y m3 : MW} (hW : WF X2) (hS : leI (X2 0 9) 9999) (h11 : X2 0 11 = m0 1 11) (h12 : X2 0 12 = m0 1 12) (hE : Eq7 X2 Y) (hx : ∀ k j, cX k j → ¬ (1 ≤ k ∧ k < 9) → m3 k j = m0 k j) (hx2 : ∀ j, j < 8 → ∀ i, m3 (j + 1) i = X2 j i) (h58 : ∀ j, m3 58 j = rowU (m0 58) Y j) (hm : ∀ k j, cM k j → k ≠ 58 → m3 k j = m0 k j) : Rel2 m3 m3 ln N q := by
  have e1 : ∀ j, j < 9 → putT m0 0 X2 (j + 1) = X2 j := fun j hj => by
    funext i
    unfold putT
    rw [if_pos (by omega), show j + 1 - (1 + 9 * 0) = j by omega]
  have e2 : ∀ k, ¬ (1 ≤ k ∧ k < 10) → putT m0 0 X2 k = m0 k := fun k h => by
    funext i
    unfold putT
    rw [if_neg (by omega)]
  have e3 : ∀ j, j < 9 → vw (putT m0 0 X2) 0 j = X2 j := fun j hj => e1 j hj
  have e4 : upmR (putT m0 0 X2) 58 (rowU (m0 58) Y) 58 = rowU (m0 58) Y := if_pos rfl
  have hA : Rel2 (putT m0 0 X2) (upmR (putT m0 0 X2) 58 (rowU (m0 58) Y)) ln N q := by
    refine R.tb e2 (fun k h1 h2 h3 => (upmR_k h3).trans (e2 k (by omega))) (WF_9 (fun j hj => e3 j (by omega)) hW) ?_ ?_ ?_ ?_ (fun r hr => ?_)
    · show leI (putT m0 0 X2 (0 + 1) 9) 9999
      rw [e1 0 (by decide)]
      exact hS
    · show putT m0 0 X2 (0 + 1) 11 = _
      rw [e1 0 (by decide)]
      exact h11
    · show putT m0 0 X2 (0 + 1) 12 = _
      rw [e1 0 (by decide)]
      exact h12
    · rw [e4]
      exact Eq7_9 (fun j hj => e3 j (by omega)) (hE.tr (vr_rowU _ _))
    · rw [e4]
      exact rowU_w _ _ (by omega)
  refine hA.fr (fun k j c => ?_) (fun k j c => ?_)
  · by_cases h : 1 ≤ k ∧ k < 9
    · obtain ⟨k, rfl⟩ : ∃ z, k = z + 1 := ⟨k - 1, by omega⟩
      rw [hx2 k (by omega), e1 k (by omega)]
    · rw [hx k j c h]
      exact (congrFun (e2 k (by unfold cX at c; omega)) j).symm
  · by_cases h : k = 58
    · subst h
      rw [h58, e4]
    · rw [hm k j c h]
      refine ((congrFun (upmR_k h) j).trans (congrFun (e2 k ?_) j)).symm
      have := (cM_n c).2.2.2
      omega
end
section
variable {xs : List Int32} {d : Nat} {h : AH} {Q : QT} {m : MW} {ln : Nat → Nat} {N : Nat}
set_option maxRecDepth 20000 in
set_option maxHeartbeats 40000000 in
theorem x_diner4 {a b c : Int32} {n : Nat} (hd : m 1 10 = nI n) (hn : n ≤ 8) (hE1 : (a.toInt < 0 ∨ 69 < a.toInt ∨ b.toInt < 0 ∨ 99 < b.toInt ∨ c.toInt < 0 ∨ 9 < c.toInt) → Q (some (.int (-1000000000 - nI 1))) (H (erm m 1) ln N)) (hE4 : (n = 8 ∧ ∃ i k l : Nat, a = nI i ∧ i ≤ 69 ∧ b = nI k ∧ k ≤ 99 ∧ c = nI l ∧ l ≤ 9) → Q (some (.int (-1000000000 - nI 4))) (H (erm m 4) ln N)) (hY : ∀ i k l : Nat, a = nI i → i ≤ 69 → b = nI k → k ≤ 99 → c = nI l → l ≤ 9 → n < 8 → Q (some (.int (nI n))) (H (upm (upm (upm (upm (upm (upm (upm m 3 n (nI (i / 10))) 4 n (nI (i % 10))) 5 n (nI k)) 6 n (nI l)) 7 n 0) 8 n 0) 1 10 (nI (n + 1))) ln N)) : WP xs (d + 2) 59 0 0 [.ref (32), .int (a), .int (b), .int (c)] (H m ln N) Q := by
  refine wp_x mx_59 (L := [some (.ref (32)), some (.int (a)), some (.int (b)), some (.int (c)), none]) (Nat.le_of_ble_eq_true rfl) rfl ?_
  refine g_iload_n m59_0 rfl ?_
  refine g_bipush m59_1 ?_
  refine g_cs (args := [.int (a), .int (69)]) (rest := []) 0 (Or.inl rfl) m59_3 (Nat.le_of_ble_eq_true rfl) rfl rfl (Nat.le_of_ble_eq_true rfl) ?_
  refine c_within (M := 69) rfl (fun ja ea a_8 => ?_) (fun a_8 => ?_)
  · subst ea
    refine gwr ?_
    refine h_if_eqF (xi := 1) (zi := 0) m59_6 rfl rfl (by decide) ?_
    refine g_iload_n m59_9 rfl ?_
    refine g_bipush m59_10 ?_
    refine g_cs (args := [.int (b), .int (99)]) (rest := []) 0 (Or.inl rfl) m59_12 (Nat.le_of_ble_eq_true rfl) rfl rfl (Nat.le_of_ble_eq_true rfl) ?_
    refine c_within (M := 99) rfl (fun jb eb a_9 => ?_) (fun a_9 => ?_)
    · subst eb
      refine gwr ?_
      refine h_if_eqF (xi := 1) (zi := 0) m59_15 rfl rfl (by decide) ?_
      refine g_iload_n m59_18 rfl ?_
      refine g_bipush m59_19 ?_
      refine g_cs (args := [.int (c), .int (9)]) (rest := []) 0 (Or.inl rfl) m59_21 (Nat.le_of_ble_eq_true rfl) rfl rfl (Nat.le_of_ble_eq_true rfl) ?_
      refine c_within (M := 9) rfl (fun jc ec a_10 => ?_) (fun a_10 => ?_)
      · subst ec
        refine gwr ?_
        refine h_if_neF (xi := 1) (zi := 0) m59_24 rfl rfl (by decide) ?_
        refine g_aload_n m59_33 rfl ?_
        refine h_gfR (c := 33) (k := 0) (p := 32) m59_34 rfl (t_0 _ _) rfl (Nat.le_of_ble_eq_true rfl) ?_
        refine h_gfI (k := 1) (p := 33) m59_37 rfl (t_1 _ _) rfl (hd) ?_
        refine g_bipush m59_40 ?_
        refine h_ic_lt (xi := ((n : Nat) : Int)) (zi := 8) m59_42 (nI_toInt (by omega)) rfl (fun c1 => ?_) (fun c1 => ?_)
        · skip
          refine g_aload_n m59_51 rfl ?_
          refine h_gfR (c := 33) (k := 0) (p := 32) m59_52 rfl (t_0 _ _) rfl (Nat.le_of_ble_eq_true rfl) ?_
          refine h_gfI (k := 1) (p := 33) m59_55 rfl (t_1 _ _) rfl (hd) ?_
          refine g_istore (L2 := [some (.ref (32)), some (.int (nI (ja))), some (.int (nI (jb))), some (.int (nI (jc))), some (.int (nI (n)))]) m59_58 rfl rfl ?_
          refine g_aload_n m59_60 rfl ?_
          refine h_gfR (c := 33) (k := 0) (p := 32) m59_61 rfl (t_0 _ _) rfl (Nat.le_of_ble_eq_true rfl) ?_
          refine h_gfR (c := 35) (k := 1) (p := 33) m59_64 rfl (t_1 _ _) rfl (Nat.le_of_ble_eq_true rfl) ?_
          refine g_iload m59_67 rfl ?_
          refine g_iload_n m59_69 rfl ?_
          refine g_bipush m59_70 ?_
          refine g_idiv (u := nI (ja / 10)) m59_72 (by decide) (pk_div (a := ja) (d := 10) (by omega) (by decide) (by decide)) ?_
          refine h_ias (k := 3) (p := 35) (j := n) m59_73 rfl (t_3 _ _) (rfl) (by omega) (Nat.le_of_ble_eq_true rfl) ?_
          refine g_aload_n m59_74 rfl ?_
          refine h_gfR (c := 33) (k := 0) (p := 32) m59_75 rfl (t_0 _ _) rfl (Nat.le_of_ble_eq_true rfl) ?_
          refine h_gfR (c := 36) (k := 1) (p := 33) m59_78 rfl (t_1 _ _) rfl (Nat.le_of_ble_eq_true rfl) ?_
          refine g_iload m59_81 rfl ?_
          refine g_iload_n m59_83 rfl ?_
          refine g_bipush m59_84 ?_
          refine g_irem (u := nI (ja % 10)) m59_86 (by decide) (pk_rem (a := ja) (d := 10) (by omega) (by decide) (by decide)) ?_
          refine h_ias (k := 4) (p := 36) (j := n) m59_87 rfl (t_4 _ _) (rfl) (by omega) (Nat.le_of_ble_eq_true rfl) ?_
          refine g_aload_n m59_88 rfl ?_
          refine h_gfR (c := 33) (k := 0) (p := 32) m59_89 rfl (t_0 _ _) rfl (Nat.le_of_ble_eq_true rfl) ?_
          refine h_gfR (c := 37) (k := 1) (p := 33) m59_92 rfl (t_1 _ _) rfl (Nat.le_of_ble_eq_true rfl) ?_
          refine g_iload m59_95 rfl ?_
          refine g_iload_n m59_97 rfl ?_
          refine h_ias (k := 5) (p := 37) (j := n) m59_98 rfl (t_5 _ _) (rfl) (by omega) (Nat.le_of_ble_eq_true rfl) ?_
          refine g_aload_n m59_99 rfl ?_
          refine h_gfR (c := 33) (k := 0) (p := 32) m59_100 rfl (t_0 _ _) rfl (Nat.le_of_ble_eq_true rfl) ?_
          refine h_gfR (c := 38) (k := 1) (p := 33) m59_103 rfl (t_1 _ _) rfl (Nat.le_of_ble_eq_true rfl) ?_
          refine g_iload m59_106 rfl ?_
          refine g_iload_n m59_108 rfl ?_
          refine h_ias (k := 6) (p := 38) (j := n) m59_109 rfl (t_6 _ _) (rfl) (by omega) (Nat.le_of_ble_eq_true rfl) ?_
          refine g_aload_n m59_110 rfl ?_
          refine h_gfR (c := 33) (k := 0) (p := 32) m59_111 rfl (t_0 _ _) rfl (Nat.le_of_ble_eq_true rfl) ?_
          refine h_gfR (c := 39) (k := 1) (p := 33) m59_114 rfl (t_1 _ _) rfl (Nat.le_of_ble_eq_true rfl) ?_
          refine g_iload m59_117 rfl ?_
          refine g_iconst m59_119 ?_
          refine h_ias (k := 7) (p := 39) (j := n) m59_120 rfl (t_7 _ _) (rfl) (by omega) (Nat.le_of_ble_eq_true rfl) ?_
          refine g_aload_n m59_121 rfl ?_
          refine h_gfR (c := 33) (k := 0) (p := 32) m59_122 rfl (t_0 _ _) rfl (Nat.le_of_ble_eq_true rfl) ?_
          refine h_gfR (c := 40) (k := 1) (p := 33) m59_125 rfl (t_1 _ _) rfl (Nat.le_of_ble_eq_true rfl) ?_
          refine g_iload m59_128 rfl ?_
          refine g_iconst m59_130 ?_
          refine h_bas (k := 8) (p := 40) (j := n) m59_131 rfl (t_8 _ _) (rfl) (by omega) (Nat.le_of_ble_eq_true rfl) (Or.inl rfl) ?_
          refine g_aload_n m59_132 rfl ?_
          refine h_gfR (c := 33) (k := 0) (p := 32) m59_133 rfl (t_0 _ _) rfl (Nat.le_of_ble_eq_true rfl) ?_
          refine g_iload m59_136 rfl ?_
          refine g_iconst m59_138 ?_
          refine g_iadd (u := nI (n + 1)) m59_139 (nI_add n 1) ?_
          refine h_pfI (k := 1) (p := 33) m59_140 rfl (t_1 _ _) rfl trivial ?_
          refine g_iload m59_143 rfl ?_
          refine g_iret m59_145 rt_59 ?_
          exact hY ja jb jc rfl (by omega) rfl (by omega) rfl (by omega) (by omega)
        · skip
          refine g_aload_n m59_45 rfl ?_
          refine g_iconst m59_46 ?_
          refine h_cv (k := 0) (p := 32) (args := [.int (4)]) (rest := []) m59_47 cn_55 (Nat.le_of_ble_eq_true rfl) rfl rfl rfl (t_0 _ _) (Nat.le_of_ble_eq_true rfl) ?_
          refine c_error (e := 4) (by decide) (by decide) ?_
          refine gwr ?_
          refine g_iret m59_50 rt_59 ?_
          exact hE4 ⟨by omega, ja, jb, jc, rfl, by omega, rfl, by omega, rfl, by omega⟩
      · skip
        refine gwr ?_
        refine h_if_neT (xi := 0) (zi := 0) m59_24 rfl rfl (by decide) ?_
        refine g_aload_n m59_27 rfl ?_
        refine g_iconst m59_28 ?_
        refine h_cv (k := 0) (p := 32) (args := [.int (1)]) (rest := []) m59_29 cn_55 (Nat.le_of_ble_eq_true rfl) rfl rfl rfl (t_0 _ _) (Nat.le_of_ble_eq_true rfl) ?_
        refine c_error (e := 1) (by decide) (by decide) ?_
        refine gwr ?_
        refine g_iret m59_32 rt_59 ?_
        exact hE1 (by omega)
    · skip
      refine gwr ?_
      refine h_if_eqT (xi := 0) (zi := 0) m59_15 rfl rfl (by decide) ?_
      refine g_aload_n m59_27 rfl ?_
      refine g_iconst m59_28 ?_
      refine h_cv (k := 0) (p := 32) (args := [.int (1)]) (rest := []) m59_29 cn_55 (Nat.le_of_ble_eq_true rfl) rfl rfl rfl (t_0 _ _) (Nat.le_of_ble_eq_true rfl) ?_
      refine c_error (e := 1) (by decide) (by decide) ?_
      refine gwr ?_
      refine g_iret m59_32 rt_59 ?_
      exact hE1 (by omega)
  · skip
    refine gwr ?_
    refine h_if_eqT (xi := 0) (zi := 0) m59_6 rfl rfl (by decide) ?_
    refine g_aload_n m59_27 rfl ?_
    refine g_iconst m59_28 ?_
    refine h_cv (k := 0) (p := 32) (args := [.int (1)]) (rest := []) m59_29 cn_55 (Nat.le_of_ble_eq_true rfl) rfl rfl rfl (t_0 _ _) (Nat.le_of_ble_eq_true rfl) ?_
    refine c_error (e := 1) (by decide) (by decide) ?_
    refine gwr ?_
    refine g_iret m59_32 rt_59 ?_
    exact hE1 (by omega)
set_option maxRecDepth 20000 in
set_option maxHeartbeats 40000000 in
theorem m_diner4 {a b c : Int32} {n : Nat} (hd : m 58 2 = nI n) (hn : n ≤ 8) (hE1 : (a.toInt < 0 ∨ 69 < a.toInt ∨ b.toInt < 0 ∨ 99 < b.toInt ∨ c.toInt < 0 ∨ 9 < c.toInt) → Q (some (.int (-1000000001))) (H (ers m 1) ln N)) (hE4 : (n = 8 ∧ ∃ i k l : Nat, a = nI i ∧ i ≤ 69 ∧ b = nI k ∧ k ≤ 99 ∧ c = nI l ∧ l ≤ 9) → Q (some (.int (-1000000004))) (H (ers m 4) ln N)) (hY : ∀ i k l : Nat, a = nI i → i ≤ 69 → b = nI k → k ≤ 99 → c = nI l → l ≤ 9 → n < 8 → Q (some (.int (nI n))) (H (upm (upm (upm (upm (upm (upm (upm m 58 (16 + 6 * n + 0) (nI (i / 10))) 58 (16 + 6 * n + 1) (nI (i % 10))) 58 (16 + 6 * n + 2) (nI k)) 58 (16 + 6 * n + 3) (nI l)) 58 (16 + 6 * n + 4) 0) 58 (16 + 6 * n + 5) 0) 58 2 (nI (n + 1))) ln N)) : WP xs (d + 2) 118 0 0 [.ref (89), .int (a), .int (b), .int (c)] (H m ln N) Q := by
  refine wp_x mx_118 (L := [some (.ref (89)), some (.int (a)), some (.int (b)), some (.int (c)), none]) (Nat.le_of_ble_eq_true rfl) rfl ?_
  refine g_iload_n m118_0 rfl ?_
  refine g_iconst m118_1 ?_
  refine g_bipush m118_2 ?_
  refine g_cs (args := [.int (a), .int (0), .int (69)]) (rest := []) 0 (Or.inl rfl) m118_4 (Nat.le_of_ble_eq_true rfl) rfl rfl (Nat.le_of_ble_eq_true rfl) ?_
  refine c_in (A := 0) (B := 69) rfl rfl (by decide) (fun ja ea a_11 a_11' => ?_) (fun a_11 => ?_)
  · subst ea
    refine gwr ?_
    refine h_if_eqF (xi := 1) (zi := 0) m118_7 rfl rfl (by decide) ?_
    refine g_iload_n m118_10 rfl ?_
    refine g_iconst m118_11 ?_
    refine g_bipush m118_12 ?_
    refine g_cs (args := [.int (b), .int (0), .int (99)]) (rest := []) 0 (Or.inl rfl) m118_14 (Nat.le_of_ble_eq_true rfl) rfl rfl (Nat.le_of_ble_eq_true rfl) ?_
    refine c_in (A := 0) (B := 99) rfl rfl (by decide) (fun jb eb a_12 a_12' => ?_) (fun a_12 => ?_)
    · subst eb
      refine gwr ?_
      refine h_if_eqF (xi := 1) (zi := 0) m118_17 rfl rfl (by decide) ?_
      refine g_iload_n m118_20 rfl ?_
      refine g_iconst m118_21 ?_
      refine g_bipush m118_22 ?_
      refine g_cs (args := [.int (c), .int (0), .int (9)]) (rest := []) 0 (Or.inl rfl) m118_24 (Nat.le_of_ble_eq_true rfl) rfl rfl (Nat.le_of_ble_eq_true rfl) ?_
      refine c_in (A := 0) (B := 9) rfl rfl (by decide) (fun jc ec a_13 a_13' => ?_) (fun a_13 => ?_)
      · subst ec
        refine gwr ?_
        refine h_if_neF (xi := 1) (zi := 0) m118_27 rfl rfl (by decide) ?_
        refine g_aload_n m118_37 rfl ?_
        refine h_gfR (c := 90) (k := 57) (p := 89) m118_38 rfl (t_57 _ _) rfl (Nat.le_of_ble_eq_true rfl) ?_
        refine g_iconst m118_41 ?_
        refine h_ial (k := 58) (p := 90) (j := 2) m118_42 rfl (t_58 _ _) (rfl) (by omega) (Nat.le_of_ble_eq_true rfl) (hd) ?_
        refine g_bipush m118_43 ?_
        refine h_ic_ne (xi := ((n : Nat) : Int)) (zi := 8) m118_45 (nI_toInt (by omega)) rfl (fun c1 => ?_) (fun c1 => ?_)
        · skip
          refine g_aload_n m118_48 rfl ?_
          refine g_ldci m118_49 rfl ?_
          refine h_cv (k := 57) (p := 89) (args := [.int (-1000000004)]) (rest := []) m118_51 cn_108 (Nat.le_of_ble_eq_true rfl) rfl rfl rfl (t_57 _ _) (Nat.le_of_ble_eq_true rfl) ?_
          refine c_errs (e := 4) (by decide) (by decide) (by decide) ?_
          refine gwr ?_
          refine g_iret m118_54 rt_118 ?_
          exact hE4 ⟨by omega, ja, jb, jc, rfl, by omega, rfl, by omega, rfl, by omega⟩
        · skip
          refine g_aload_n m118_55 rfl ?_
          refine h_gfR (c := 90) (k := 57) (p := 89) m118_56 rfl (t_57 _ _) rfl (Nat.le_of_ble_eq_true rfl) ?_
          refine g_iconst m118_59 ?_
          refine h_ial (k := 58) (p := 90) (j := 2) m118_60 rfl (t_58 _ _) (rfl) (by omega) (Nat.le_of_ble_eq_true rfl) (hd) ?_
          refine g_istore (L2 := [some (.ref (89)), some (.int (nI (ja))), some (.int (nI (jb))), some (.int (nI (jc))), some (.int (nI (n)))]) m118_61 rfl rfl ?_
          refine g_aload_n m118_63 rfl ?_
          refine g_iload m118_64 rfl ?_
          refine g_iconst m118_66 ?_
          refine g_iload_n m118_67 rfl ?_
          refine g_bipush m118_68 ?_
          refine g_idiv (u := nI (ja / 10)) m118_70 (by decide) (pk_div (a := ja) (d := 10) (by omega) (by decide) (by decide)) ?_
          refine h_cv (k := 57) (p := 89) (args := [.int (nI (n)), .int (0), .int (nI (ja / 10))]) (rest := []) m118_71 cn_112 (Nat.le_of_ble_eq_true rfl) rfl rfl rfl (t_57 _ _) (Nat.le_of_ble_eq_true rfl) ?_
          refine c_gets (w := 0) (by omega) (by decide) ?_
          refine gwr0 ?_
          refine g_aload_n m118_74 rfl ?_
          refine g_iload m118_75 rfl ?_
          refine g_iconst m118_77 ?_
          refine g_iload_n m118_78 rfl ?_
          refine g_bipush m118_79 ?_
          refine g_irem (u := nI (ja % 10)) m118_81 (by decide) (pk_rem (a := ja) (d := 10) (by omega) (by decide) (by decide)) ?_
          refine h_cv (k := 57) (p := 89) (args := [.int (nI (n)), .int (1), .int (nI (ja % 10))]) (rest := []) m118_82 cn_112 (Nat.le_of_ble_eq_true rfl) rfl rfl rfl (t_57 _ _) (Nat.le_of_ble_eq_true rfl) ?_
          refine c_gets (w := 1) (by omega) (by decide) ?_
          refine gwr0 ?_
          refine g_aload_n m118_85 rfl ?_
          refine g_iload m118_86 rfl ?_
          refine g_iconst m118_88 ?_
          refine g_iload_n m118_89 rfl ?_
          refine h_cv (k := 57) (p := 89) (args := [.int (nI (n)), .int (2), .int (nI (jb))]) (rest := []) m118_90 cn_112 (Nat.le_of_ble_eq_true rfl) rfl rfl rfl (t_57 _ _) (Nat.le_of_ble_eq_true rfl) ?_
          refine c_gets (w := 2) (by omega) (by decide) ?_
          refine gwr0 ?_
          refine g_aload_n m118_93 rfl ?_
          refine g_iload m118_94 rfl ?_
          refine g_iconst m118_96 ?_
          refine g_iload_n m118_97 rfl ?_
          refine h_cv (k := 57) (p := 89) (args := [.int (nI (n)), .int (3), .int (nI (jc))]) (rest := []) m118_98 cn_112 (Nat.le_of_ble_eq_true rfl) rfl rfl rfl (t_57 _ _) (Nat.le_of_ble_eq_true rfl) ?_
          refine c_gets (w := 3) (by omega) (by decide) ?_
          refine gwr0 ?_
          refine g_aload_n m118_101 rfl ?_
          refine g_iload m118_102 rfl ?_
          refine g_iconst m118_104 ?_
          refine g_iconst m118_105 ?_
          refine h_cv (k := 57) (p := 89) (args := [.int (nI (n)), .int (4), .int (0)]) (rest := []) m118_106 cn_112 (Nat.le_of_ble_eq_true rfl) rfl rfl rfl (t_57 _ _) (Nat.le_of_ble_eq_true rfl) ?_
          refine c_gets (w := 4) (by omega) (by decide) ?_
          refine gwr0 ?_
          refine g_aload_n m118_109 rfl ?_
          refine g_iload m118_110 rfl ?_
          refine g_iconst m118_112 ?_
          refine g_iconst m118_113 ?_
          refine h_cv (k := 57) (p := 89) (args := [.int (nI (n)), .int (5), .int (0)]) (rest := []) m118_114 cn_112 (Nat.le_of_ble_eq_true rfl) rfl rfl rfl (t_57 _ _) (Nat.le_of_ble_eq_true rfl) ?_
          refine c_gets (w := 5) (by omega) (by decide) ?_
          refine gwr0 ?_
          refine g_aload_n m118_117 rfl ?_
          refine h_gfR (c := 90) (k := 57) (p := 89) m118_118 rfl (t_57 _ _) rfl (Nat.le_of_ble_eq_true rfl) ?_
          refine g_iconst m118_121 ?_
          refine g_dup2 m118_122 rfl rfl ?_
          refine h_ial (k := 58) (p := 90) (j := 2) m118_123 rfl (t_58 _ _) (rfl) (by omega) (Nat.le_of_ble_eq_true rfl) (md_2 hd) ?_
          refine g_iconst m118_124 ?_
          refine g_iadd (u := nI (n + 1)) m118_125 (nI_add n 1) ?_
          refine h_ias (k := 58) (p := 90) (j := 2) m118_126 rfl (t_58 _ _) (rfl) (by omega) (Nat.le_of_ble_eq_true rfl) ?_
          refine g_iload m118_127 rfl ?_
          refine g_iret m118_129 rt_118 ?_
          exact hY ja jb jc rfl (by omega) rfl (by omega) rfl (by omega) (by omega)
      · skip
        refine gwr ?_
        refine h_if_neT (xi := 0) (zi := 0) m118_27 rfl rfl (by decide) ?_
        refine g_aload_n m118_30 rfl ?_
        refine g_ldci m118_31 rfl ?_
        refine h_cv (k := 57) (p := 89) (args := [.int (-1000000001)]) (rest := []) m118_33 cn_108 (Nat.le_of_ble_eq_true rfl) rfl rfl rfl (t_57 _ _) (Nat.le_of_ble_eq_true rfl) ?_
        refine c_errs (e := 1) (by decide) (by decide) (by decide) ?_
        refine gwr ?_
        refine g_iret m118_36 rt_118 ?_
        exact hE1 (by omega)
    · skip
      refine gwr ?_
      refine h_if_eqT (xi := 0) (zi := 0) m118_17 rfl rfl (by decide) ?_
      refine g_aload_n m118_30 rfl ?_
      refine g_ldci m118_31 rfl ?_
      refine h_cv (k := 57) (p := 89) (args := [.int (-1000000001)]) (rest := []) m118_33 cn_108 (Nat.le_of_ble_eq_true rfl) rfl rfl rfl (t_57 _ _) (Nat.le_of_ble_eq_true rfl) ?_
      refine c_errs (e := 1) (by decide) (by decide) (by decide) ?_
      refine gwr ?_
      refine g_iret m118_36 rt_118 ?_
      exact hE1 (by omega)
  · skip
    refine gwr ?_
    refine h_if_eqT (xi := 0) (zi := 0) m118_7 rfl rfl (by decide) ?_
    refine g_aload_n m118_30 rfl ?_
    refine g_ldci m118_31 rfl ?_
    refine h_cv (k := 57) (p := 89) (args := [.int (-1000000001)]) (rest := []) m118_33 cn_108 (Nat.le_of_ble_eq_true rfl) rfl rfl rfl (t_57 _ _) (Nat.le_of_ble_eq_true rfl) ?_
    refine c_errs (e := 1) (by decide) (by decide) (by decide) ?_
    refine gwr ?_
    refine g_iret m118_36 rt_118 ?_
    exact hE1 (by omega)
end
section
variable {xs : List Int32} {m m0 : MW} {ln : Nat → Nat} {N q : Nat}
set_option maxHeartbeats 4000000 in
theorem p_fills {c v : Int32} (R : Rel2 m m ln N q) (hq : q < 512) : Pair xs 56 115 0 0 [.int c, .int v] True m ln N q := by
  obtain ⟨n, hn, hd, _⟩ := R.n
  refine x_fills (d := 1297)  (fun e1 => pr_x ?_) (fun i k h1 h2 h3 h4 => pr_x ?_)
  · skip
    have RI : Rel2 m (erm m 1) ln N q := R.e1 1
    refine m_fills (d := 1297)  (fun e1' => ?_) (fun i' k' h1' h2' h3' h4' => ?_)
    · skip
      exact pr_m (fun _ => rfl) (R.ee hq 1)
    · skip
      have t_h1' := tI h1' (by omega)
      have t_h3' := tI h3' (by omega)
      omega
  · skip
    have t_h1 := tI h1 (by omega)
    have t_h3 := tI h3 (by omega)
    have RI : Rel2 m (upm m 2 i (nI k)) ln N q := R.fr SmX.rf (sm_up (by decide))
    refine m_fills (d := 1297)  (fun e1' => ?_) (fun i' k' h1' h2' h3' h4' => ?_)
    · skip
      omega
    · skip
      have t_h1' := tI h1' (by omega)
      have t_h3' := tI h3' (by omega)
      obtain rfl : i = i' := by omega
      obtain rfl : k = k' := by omega
      exact pr_m (fun _ => RI.rf h2) ((R.fl i (nI k) h2 (leI_lit h4)).nx hq)
set_option maxHeartbeats 4000000 in
theorem p_waiters {v : Int32} (R : Rel2 m m ln N q) (hq : q < 512) : Pair xs 58 117 0 0 [.int v] True m ln N q := by
  obtain ⟨n, hn, hd, _⟩ := R.n
  refine x_waiters (d := 1297)  (fun e1 => pr_x ?_) (fun h1 h2 => pr_x ?_)
  · skip
    have RI : Rel2 m (erm m 1) ln N q := R.e1 1
    refine m_waiters (d := 1297)  (fun e1' => ?_) (fun w' g1' g2' g3' => ?_)
    · skip
      exact pr_m (fun _ => rfl) (R.ee hq 1)
    · skip
      have t_g1' := tI g1' (by omega)
      omega
  · skip
    have RI : Rel2 m (upm m 1 8 v) ln N q := R.fr SmX.rf (sm_up (by decide))
    refine m_waiters (d := 1297)  (fun e1' => ?_) (fun w' g1' g2' g3' => ?_)
    · skip
      omega
    · skip
      have t_g1' := tI g1' (by omega)
      subst g1'
      exact pr_m (fun _ => RI.wt) ((R.wr w' g2' g3').nx hq)
set_option maxHeartbeats 4000000 in
theorem p_change {a b c : Int32} (R : Rel2 m m ln N q) (hq : q < 512) : Pair xs 63 134 0 0 [.int a, .int b, .int c] True m ln N q := by
  obtain ⟨n, hn, hd, _⟩ := R.n
  refine x_change (d := 1297) (n := n) hd hn R.h01 (fun e1 => pr_x ?_) (fun i k z h1 h2 h3 h4 h5 h6 h7 h8 => pr_x ?_)
  · skip
    have RI : Rel2 m (erm m 1) ln N q := R.e1 1
    refine m_change (d := 1296) (n := n) (RI.n2 hd) hn (fun e1' => ?_) (fun i' k' z' h1' h2' h3' h4' h5' h6' h7' h8' => ?_)
    · skip
      exact pr_m (fun _ => rfl) (R.ee hq 1)
    · skip
      have t_h1' := tI h1' (by omega)
      have t_h3' := tI h3' (by omega)
      have t_h5' := tI h5' (by omega)
      omega
  · skip
    have t_h1 := tI h1 (by omega)
    have t_h3 := tI h3 (by omega)
    have t_h5 := tI h5 (by omega)
    have RI : Rel2 m (upm m (5 + k) i (nI z)) ln N q := R.fr SmX.rf (sm_up (by omega))
    refine m_change (d := 1296) (n := n) (RI.n2 hd) hn (fun e1' => ?_) (fun i' k' z' h1' h2' h3' h4' h5' h6' h7' h8' => ?_)
    · skip
      omega
    · skip
      have t_h1' := tI h1' (by omega)
      have t_h3' := tI h3' (by omega)
      have t_h5' := tI h5' (by omega)
      obtain rfl : i = i' := by omega
      obtain rfl : k = k' := by omega
      obtain rfl : z = z' := by omega
      have hR := R.wd (2 + k) i (nI z) (by omega) (by omega) (fun e => by omega) (fun e => by omega) (fun e => leI_lit h6) (fun e => leI_lit (h7 (by omega))) (fun e => leI_lit h6) (fun e => by
        have h9 := h8 (by omega)
        rcases (show z = 0 ∨ z = 1 by omega) with e | e
        · exact Or.inl (by rw [e]; rfl)
        · exact Or.inr (by rw [e]; rfl))
      have hA := RI.rd (i := i) (c := 2 + k) (by omega) (by omega)
      rw [show 3 + (2 + k) = 5 + k by omega] at hA
      rw [show 2 + (2 + k) + 1 = 5 + k by omega] at hR
      rw [show 16 + 6 * i + 2 + k = 16 + 6 * i + (2 + k) by omega]
      exact pr_m (fun _ => hA) (hR.nx hq)
set_option maxHeartbeats 4000000 in
theorem p_become {a b : Int32} (R : Rel2 m m ln N q) (hq : q < 512) : Pair xs 64 135 0 0 [.int a, .int b] True m ln N q := by
  obtain ⟨n, hn, hd, _⟩ := R.n
  refine x_become (d := 1297) (n := n) hd hn (fun e1 => pr_x ?_) (fun i k h1 h2 h3 h4 => pr_x ?_)
  · skip
    have RI : Rel2 m (erm m 1) ln N q := R.e1 1
    refine m_become (d := 1296) (n := n) (RI.n2 hd) hn (fun e1' => ?_) (fun i' k' h1' h2' h3' h4' => ?_)
    · skip
      exact pr_m (fun _ => rfl) (R.ee hq 1)
    · skip
      have t_h1' := tI h1' (by omega)
      have t_h3' := tI h3' (by omega)
      omega
  · skip
    have t_h1 := tI h1 (by omega)
    have t_h3 := tI h3 (by omega)
    have RI : Rel2 m (upm (upm m 3 i (nI (k / 10))) 4 i (nI (k % 10))) ln N q := R.fr SmX.rf ((sm_up (by decide)).tr (sm_up (by decide)))
    refine m_become (d := 1296) (n := n) (RI.n2 hd) hn (fun e1' => ?_) (fun i' k' h1' h2' h3' h4' => ?_)
    · skip
      omega
    · skip
      have t_h1' := tI h1' (by omega)
      have t_h3' := tI h3' (by omega)
      obtain rfl : i = i' := by omega
      obtain rfl : k = k' := by omega
      have hR := (R.wd 0 i (nI (k / 10)) (by omega) (by omega) (fun e => leI_lit (by omega)) (fun e => by omega) (fun e => by omega) (fun e => by omega) (fun e => by omega) (fun e => by omega)).wd 1 i (nI (k % 10)) (by omega) (by omega) (fun e => by omega) (fun e => leI_lit (by omega)) (fun e => by omega) (fun e => by omega) (fun e => by omega) (fun e => by omega)
      have hR2 : Rel2 (upm (upm (upm (upm m 3 i (nI (k / 10))) 58 (16 + 6 * i + 0) (nI (k / 10))) 4 i (nI (k % 10))) 58 (16 + 6 * i + 1) (nI (k % 10))) (upm (upm (upm (upm m 3 i (nI (k / 10))) 58 (16 + 6 * i + 0) (nI (k / 10))) 4 i (nI (k % 10))) 58 (16 + 6 * i + 1) (nI (k % 10))) ln N q := hR
      rw [cm58 (k := 4) (by decide), upm_cm _ (k := 58) (j := 16 + 6 * i + 0) (k2 := 58) (j2 := 16 + 6 * i + 1) _ _ (Or.inr (by omega))] at hR2
      exact pr_m (fun _ => RI.rd (i := i) (c := 0) (by omega) (by decide)) (hR2.nx hq)
set_option maxHeartbeats 4000000 in
theorem p_diner {a b c : Int32} (R : Rel2 m m ln N q) (hq : q < 512) : Pair xs 59 118 0 0 [.int a, .int b, .int c] True m ln N q := by
  obtain ⟨n, hn, hd, _⟩ := R.n
  refine x_diner4 (d := 1297) (n := n) hd hn (fun e1 => pr_x ?_) (fun e4 => pr_x ?_) (fun i k l h1 h2 h3 h4 h5 h6 h7 => pr_x ?_)
  · skip
    have RI : Rel2 m (erm m 1) ln N q := R.e1 1
    refine m_diner4 (d := 1297) (n := n) (RI.n2 hd) hn (fun e1' => ?_) (fun e4' => ?_) (fun i' k' l' h1' h2' h3' h4' h5' h6' h7' => ?_)
    · skip
      exact pr_m (fun _ => rfl) (R.ee hq 1)
    · skip
      obtain ⟨h0', i', k', l', h1', h2', h3', h4', h5', h6'⟩ := e4'
      have t_h1' := tI h1' (by omega)
      have t_h3' := tI h3' (by omega)
      have t_h5' := tI h5' (by omega)
      omega
    · skip
      have t_h1' := tI h1' (by omega)
      have t_h3' := tI h3' (by omega)
      have t_h5' := tI h5' (by omega)
      omega
  · skip
    obtain ⟨h0, i, k, l, h1, h2, h3, h4, h5, h6⟩ := e4
    have t_h1 := tI h1 (by omega)
    have t_h3 := tI h3 (by omega)
    have t_h5 := tI h5 (by omega)
    have RI : Rel2 m (erm m 4) ln N q := R.e1 4
    refine m_diner4 (d := 1297) (n := n) (RI.n2 hd) hn (fun e1' => ?_) (fun e4' => ?_) (fun i' k' l' h1' h2' h3' h4' h5' h6' h7' => ?_)
    · skip
      omega
    · skip
      obtain ⟨h0', i', k', l', h1', h2', h3', h4', h5', h6'⟩ := e4'
      have t_h1' := tI h1' (by omega)
      have t_h3' := tI h3' (by omega)
      have t_h5' := tI h5' (by omega)
      obtain rfl : i = i' := by omega
      obtain rfl : k = k' := by omega
      obtain rfl : l = l' := by omega
      exact pr_m (fun _ => rfl) (R.ee hq 4)
    · skip
      have t_h1' := tI h1' (by omega)
      have t_h3' := tI h3' (by omega)
      have t_h5' := tI h5' (by omega)
      omega
  · skip
    have t_h1 := tI h1 (by omega)
    have t_h3 := tI h3 (by omega)
    have t_h5 := tI h5 (by omega)
    have RI : Rel2 m (upm (upm (upm (upm (upm (upm (upm m 3 n (nI (i / 10))) 4 n (nI (i % 10))) 5 n (nI k)) 6 n (nI l)) 7 n 0) 8 n 0) 1 10 (nI (n + 1))) ln N q := R.fr SmX.rf (smM_x (fun k j h1 h2 _ => by
      iterate 7 rw [upm_k _ _ (by omega)]))
    refine m_diner4 (d := 1297) (n := n) (RI.n2 hd) hn (fun e1' => ?_) (fun e4' => ?_) (fun i' k' l' h1' h2' h3' h4' h5' h6' h7' => ?_)
    · skip
      omega
    · skip
      obtain ⟨h0', i', k', l', h1', h2', h3', h4', h5', h6'⟩ := e4'
      have t_h1' := tI h1' (by omega)
      have t_h3' := tI h3' (by omega)
      have t_h5' := tI h5' (by omega)
      omega
    · skip
      have t_h1' := tI h1' (by omega)
      have t_h3' := tI h3' (by omega)
      have t_h5' := tI h5' (by omega)
      obtain rfl : i = i' := by omega
      obtain rfl : k = k' := by omega
      obtain rfl : l = l' := by omega
      have hR : Rel2 (upm (upm (upm (upm (upm (upm (upm (upm (upm (upm (upm (upm (upm (upm m 3 n (nI (i / 10))) 58 (16 + 6 * n + 0) (nI (i / 10))) 4 n (nI (i % 10))) 58 (16 + 6 * n + 1) (nI (i % 10))) 5 n (nI k)) 58 (16 + 6 * n + 2) (nI k)) 6 n (nI l)) 58 (16 + 6 * n + 3) (nI l)) 7 n 0) 58 (16 + 6 * n + 4) 0) 8 n 0) 58 (16 + 6 * n + 5) 0) 1 10 (nI (n + 1))) 58 2 (nI (n + 1))) (upm (upm (upm (upm (upm (upm (upm (upm (upm (upm (upm (upm (upm (upm m 3 n (nI (i / 10))) 58 (16 + 6 * n + 0) (nI (i / 10))) 4 n (nI (i % 10))) 58 (16 + 6 * n + 1) (nI (i % 10))) 5 n (nI k)) 58 (16 + 6 * n + 2) (nI k)) 6 n (nI l)) 58 (16 + 6 * n + 3) (nI l)) 7 n 0) 58 (16 + 6 * n + 4) 0) 8 n 0) 58 (16 + 6 * n + 5) 0) 1 10 (nI (n + 1))) 58 2 (nI (n + 1))) ln N q := (((((((R.wd 0 n (nI (i / 10)) (by omega) (by omega) (fun e => (leI_lit (by omega))) (fun e => by omega) (fun e => by omega) (fun e => by omega) (fun e => by omega) (fun e => by omega)).wd 1 n (nI (i % 10)) (by omega) (by omega) (fun e => by omega) (fun e => (leI_lit (by omega))) (fun e => by omega) (fun e => by omega) (fun e => by omega) (fun e => by omega)).wd 2 n (nI k) (by omega) (by omega) (fun e => by omega) (fun e => by omega) (fun e => (leI_lit (by omega))) (fun e => by omega) (fun e => by omega) (fun e => by omega)).wd 3 n (nI l) (by omega) (by omega) (fun e => by omega) (fun e => by omega) (fun e => by omega) (fun e => (leI_lit (by omega))) (fun e => by omega) (fun e => by omega)).wd 4 n 0 (by omega) (by omega) (fun e => by omega) (fun e => by omega) (fun e => by omega) (fun e => by omega) (fun e => ⟨0, by decide, rfl⟩) (fun e => by omega)).wd 5 n 0 (by omega) (by omega) (fun e => by omega) (fun e => by omega) (fun e => by omega) (fun e => by omega) (fun e => by omega) (fun e => (Or.inl rfl))).nn (n + 1) (by omega))
      simp only [cm58 (k := 4) (show 4 ≠ 58 by decide), cm58 (k := 5) (show 5 ≠ 58 by decide), cm58 (k := 6) (show 6 ≠ 58 by decide), cm58 (k := 7) (show 7 ≠ 58 by decide), cm58 (k := 8) (show 8 ≠ 58 by decide), cm58 (k := 1) (show 1 ≠ 58 by decide)] at hR
      exact pr_m (fun _ => rfl) (hR.nx hq)
set_option maxHeartbeats 4000000 in
theorem p_steps {v : Int32} (R : Rel2 m m ln N q) (hq : q < 512) : Pair xs 70 148 0 0 [.int v] True m ln N q := by
  obtain ⟨n, hn, hd, _⟩ := R.n
  obtain ⟨st, hst9, hst, _⟩ := R.st
  refine x_steps (d := 1292) (n := n) (st := st) hd hn hst hst9 R.W R.L R.ix R.iy (fun e1 => pr_x ?_) (fun e3 => pr_x ?_) (fun k h1 h2 h3 h4 X2 m2 h8 hA => pr_x ?_)
  · skip
    have RI : Rel2 m (erm m 1) ln N q := R.e1 1
    refine m_steps (d := 482) (n := n) (st := st) (RI.n2 hd) hn (RI.st2 hst) hst9 RI.X0 RI.X1 RI.WY (fun e1' => ?_) (fun e3' => ?_) (fun k' h1' h2' h3' h4' m3' hB' => ?_)
    · skip
      exact pr_m (fun _ => rfl) (R.ee hq 1)
    · skip
      obtain ⟨k', h1', h2', h3'⟩ := e3'
      have t_h1' := tI h1' (by omega)
      omega
    · skip
      have t_h1' := tI h1' (by omega)
      omega
  · skip
    obtain ⟨k, h1, h2, h3⟩ := e3
    have t_h1 := tI h1 (by omega)
    have RI : Rel2 m (erm m 3) ln N q := R.e1 3
    refine m_steps (d := 482) (n := n) (st := st) (RI.n2 hd) hn (RI.st2 hst) hst9 RI.X0 RI.X1 RI.WY (fun e1' => ?_) (fun e3' => ?_) (fun k' h1' h2' h3' h4' m3' hB' => ?_)
    · skip
      omega
    · skip
      obtain ⟨k', h1', h2', h3'⟩ := e3'
      have t_h1' := tI h1' (by omega)
      obtain rfl : k = k' := by omega
      exact pr_m (fun _ => rfl) (R.ee hq 3)
    · skip
      have t_h1' := tI h1' (by omega)
      omega
  · skip
    have t_h1 := tI h1 (by omega)
    have RI : Rel2 m m2 ln N q := R.fr SmX.rf (fun k j c => hA.out (by have := (cM_n c).2.2.2; omega) (cM_n c).2.1)
    refine m_steps (d := 482) (n := n) (st := st) (RI.n2 hd) hn (RI.st2 hst) hst9 RI.X0 RI.X1 RI.WY (fun e1' => ?_) (fun e3' => ?_) (fun k' h1' h2' h3' h4' m3' hB' => ?_)
    · skip
      omega
    · skip
      obtain ⟨k', h1', h2', h3'⟩ := e3'
      have t_h1' := tI h1' (by omega)
      omega
    · skip
      have t_h1' := tI h1' (by omega)
      obtain rfl : k = k' := by omega
      have hs58 : m2 58 = m 58 := funext fun j => hA.out (by omega) (fun z => by rcases z with z | z <;> omega)
      have hE := stepN_7 (LK := lkF m ln (m 1 11)) (BL := blF m ln (m 1 12)) RI.E7 R.W k
      have hX := (Eq8.e7 h8).sy.tr hE
      rw [RI.lk, RI.bl] at hB'
      refine pr_m (fun _ => ?_) ((R.stp (X2 := X2) (Y := stepN (lkF m ln (m 1 11)) (blF m ln (m 1 12)) (vr (m2 58)) k) (WF_c h8 (WF_stepN R.W k)) ?_ ?_ ?_ hX (fun k j c h => ?_) (fun j hj i => ?_) (fun j => ?_) (fun k j c h => ?_)).nx hq)
      · rw [RI.lk, RI.bl]
        exact sum_7 hX (by decide) (by decide) hn
      · rw [h8 0 (by decide), st_st _ _ (show vw m 0 0 9 = nI st from hst) k]
        exact leI_lit (by omega)
      · rw [h8 0 (by decide), stepN_0 _ _ _ (by decide)]
        rfl
      · rw [h8 0 (by decide), stepN_0 _ _ _ (by decide)]
        rfl
      · rw [hB'.out (fun e => cXM c (by omega)) (cX_n c).2]
        exact hA.out (by unfold cX at c; omega) (cX_n c).2
      · rw [hB'.out (by omega) (fun z => by rcases z with z | z <;> omega)]
        exact hA.rd (by decide) (by omega)
      · rw [hB'.row, hs58]
      · rw [hB'.out h (cM_n c).2.1]
        have := (cM_n c).2.2.2
        exact hA.out (by omega) (cM_n c).2.1
/-- z on both sides -/
theorem Rel2.sd (R : Rel2 m m ln N q) (z : Int32) : Rel2 (upm (upm m 37 0 z) 58 1 z) (upm (upm m 37 0 z) 58 1 z) ln N q := by
  have hA : Rel2 (upm m 37 0 z) (upm (upm m 37 0 z) 58 1 z) ln N q := by
    refine R.dk (fun k h => row_up _ _ (by omega)) (fun k h1 h2 h3 => (row_up _ _ h3).trans (row_up _ _ (by omega))) rfl R.T.2.2.2.2.1 R.T.2.2.2.2.2.1 (fun j hj => ?_) (fun j hj => ?_) (fun p hp => ?_)
    · have h := R.T.2.2.2.2.2.2.1 j hj
      refine ⟨h.1, (upm_j _ _ (by omega)).trans h.2⟩
    · have h := R.T.2.2.2.2.2.2.2.1 j hj
      exact (upm_j _ _ (by omega)).trans h
    · exact (upm_j _ _ (by omega)).trans (upm_k _ _ (by decide))
  exact hA.fr (sx58 (fun k h => row_up _ _ h)) SmM.rf
set_option maxHeartbeats 4000000 in
theorem p_loose {v : Int32} (R : Rel2 m m ln N q) (hq : q < 512) : Pair xs 72 150 0 0 [.int v] True m ln N q := by
  obtain ⟨n, hn, hd, _⟩ := R.n
  obtain ⟨st, hst9, hst, _⟩ := R.st
  refine x_loose (d := 1292) (n := n) (st := st) hd hn hst hst9 R.W R.L R.ix R.iy (fun e1 => pr_x ?_) (fun e3 => pr_x ?_) (fun k h1 h2 h3 h4 X2 m2 h8 hA => pr_x ?_)
  · skip
    have RI : Rel2 m (erm m 1) ln N q := R.e1 1
    refine m_loose (d := 482) (n := n) (st := st) (RI.n2 hd) hn (RI.st2 hst) hst9 RI.X0 RI.X1 RI.WY (fun e1' => ?_) (fun e3' => ?_) (fun k' h1' h2' h3' h4' m3' hB' => ?_)
    · skip
      exact pr_m (fun _ => rfl) (R.ee hq 1)
    · skip
      obtain ⟨k', h1', h2', h3'⟩ := e3'
      have t_h1' := tI h1' (by omega)
      omega
    · skip
      have t_h1' := tI h1' (by omega)
      omega
  · skip
    obtain ⟨k, h1, h2, h3⟩ := e3
    have t_h1 := tI h1 (by omega)
    have RI : Rel2 m (erm m 3) ln N q := R.e1 3
    refine m_loose (d := 482) (n := n) (st := st) (RI.n2 hd) hn (RI.st2 hst) hst9 RI.X0 RI.X1 RI.WY (fun e1' => ?_) (fun e3' => ?_) (fun k' h1' h2' h3' h4' m3' hB' => ?_)
    · skip
      omega
    · skip
      obtain ⟨k', h1', h2', h3'⟩ := e3'
      have t_h1' := tI h1' (by omega)
      obtain rfl : k = k' := by omega
      exact pr_m (fun _ => rfl) (R.ee hq 3)
    · skip
      have t_h1' := tI h1' (by omega)
      omega
  · skip
    have t_h1 := tI h1 (by omega)
    have RI : Rel2 m m2 ln N q := R.fr SmX.rf ((sm_up (k := 37) (by decide)).tr (fun k j c => hA.out (by have := (cM_n c).2.2.2; omega) (cM_n c).2.1))
    refine m_loose (d := 482) (n := n) (st := st) (RI.n2 hd) hn (RI.st2 hst) hst9 RI.X0 RI.X1 RI.WY (fun e1' => ?_) (fun e3' => ?_) (fun k' h1' h2' h3' h4' m3' hB' => ?_)
    · skip
      omega
    · skip
      obtain ⟨k', h1', h2', h3'⟩ := e3'
      have t_h1' := tI h1' (by omega)
      omega
    · skip
      have t_h1' := tI h1' (by omega)
      obtain rfl : k = k' := by omega
      have hs58 : m2 58 = m 58 := funext fun j => (hA.out (by omega) (fun z => by rcases z with z | z <;> omega)).trans (upm_k _ _ (by decide))
      have h58z : m2 58 1 = m 37 0 := (congrFun hs58 1).trans R.T.2.2.2.1
      have hE := looX_7 (LK := lkF m ln (m 1 11)) (BL := blF m ln (m 1 12)) RI.E7 R.W n (m 37 0) k
      have hX := (Eq8.e7 h8).sy.tr hE
      rw [RI.lk, RI.bl, h58z] at hB'
      have R0 : Rel2 (upm (upm m 37 0 (zN (m 37 0) k)) 58 1 (zN (m 37 0) k)) (upm (upm m 37 0 (zN (m 37 0) k)) 58 1 (zN (m 37 0) k)) ln N q := R.sd _
      refine pr_m (fun _ => ?_) ((R0.stp (X2 := X2) (Y := looX (lkF m ln (m 1 11)) (blF m ln (m 1 12)) n (vr (m2 58)) (m 37 0) k) (WF_c h8 (looX_W R.W k)) ?_ ?_ ?_ hX (fun k j c h => ?_) (fun j hj i => ?_) (fun j => ?_) (fun k j c h => ?_)).nx hq)
      · rw [RI.lk, RI.bl, h58z]
        exact sum_7 hX (by decide) (by decide) hn
      · rw [h8 0 (by decide), lo_st _ _ (show vw m 0 0 9 = nI st from hst) k]
        exact leI_lit (by omega)
      · rw [h8 0 (by decide), looX_0 (by decide)]
        rfl
      · rw [h8 0 (by decide), looX_0 (by decide)]
        rfl
      · have h58 : k ≠ 58 := fun e => cXM c (by omega)
        rw [hB'.out h58 (cX_n c).2, upm_k _ _ h58, upm_k _ _ h58]
        exact hA.out (by unfold cX at c; omega) (cX_n c).2
      · rw [hB'.out (by omega) (fun z => by rcases z with z | z <;> omega), upm_k _ _ (by omega)]
        exact hA.rd (by decide) (by omega)
      · rw [hB'.row]
        have e : upm m2 58 1 (zN (m 37 0) k) 58 = upm (upm m 37 0 (zN (m 37 0) k)) 58 1 (zN (m 37 0) k) 58 := by
          funext i
          unfold upm
          rw [hs58]
          rfl
        rw [e]
      · have h3 := (cM_n c).2.2.2
        rw [hB'.out h (cM_n c).2.1, upm_k _ _ h, upm_k _ _ h]
        exact hA.out (by omega) (cM_n c).2.1
set_option maxHeartbeats 4000000 in
theorem p_seed {v : Int32} (R : Rel2 m m ln N q) (hq : q < 512) : Pair xs 90 170 0 0 [.int v] True m ln N q := by
  obtain ⟨n, hn, hd, _⟩ := R.n
  refine x_seed (d := 1298)  (pr_x ?_)
  · skip
    have RI : Rel2 m (upm m 37 0 v) ln N q := R.fr SmX.rf (sm_up (by decide))
    refine m_seed (d := 1297)  (?_)
    · skip
      exact pr_m (fun _ => RI.T.2.2.2.1) ((R.sd v).nx hq)
end
