/-! WHAT WOULD BE: the class, the rest -/
theorem nx_sl : ∀ l, l < 32 → (((nI l).toUInt32 &&& Int32.toUInt32 31).toBitVec % 32).toNat = l := by decide +kernel
theorem bit_set {a n : Nat} (hn : n ≤ 8) : ((nI a).toUInt32 >>> ((nI n).toUInt32 &&& Int32.toUInt32 31)).toInt32 = 0 → a < 2 ^ 31 → a < 2 ^ n := by
  intro h ha
  rw [pk_ushrN (by omega) (nI n) n (nx_sl n (by omega))] at h
  have h1 : a / 2 ^ n < 2 ^ 31 := Nat.lt_of_le_of_lt (Nat.div_le_self _ _) ha
  have h2 : a / 2 ^ n = 0 := by
    by_cases e : a / 2 ^ n = 0
    · exact e
    · exact absurd h (nI_ne0 (Nat.pos_of_ne_zero e) h1)
  have h3 : 0 < 2 ^ n := Nat.lt_of_lt_of_le (by decide : 0 < 2 ^ 0) (Nat.pow_le_pow_right (by decide) (Nat.zero_le n))
  exact (Nat.div_eq_zero_iff_lt h3).mp h2
def allF (p : Nat → Bool) : Nat → Bool
  | 0 => true
  | n + 1 => allF p n && p n
theorem all_y {p : Nat → Bool} {n : Nat} : allF p n = true ↔ ∀ i, i < n → p i = true := by
  induction n with
  | zero => exact ⟨fun _ i h => absurd h (Nat.not_lt_zero i), fun _ => rfl⟩
  | succ n ih =>
    show (allF p n && p n) = true ↔ _
    rw [Bool.and_eq_true, ih]
    constructor
    · intro h i hi
      by_cases e : i = n
      · subst e
        exact h.2
      · exact h.1 i (by omega)
    · intro h
      exact ⟨fun i hi => h i (by omega), h n (by omega)⟩
section
variable {xs : List Int32} {d : Nat} {h : AH} {Q : QT} {m : MW} {ln : Nat → Nat} {N : Nat}
set_option maxRecDepth 20000 in
set_option maxHeartbeats 40000000 in
theorem x_cramps {a v : Int32} {n : Nat} (hd : m 1 10 = nI n) (hn : n ≤ 8) (h01 : ∀ j, j < 8 → m 8 j = 0 ∨ m 8 j = 1) (hW : WF (vw m 0)) (hL : LawsOk m ln N) (hix : LawIx N (m 1 11)) (hiy : LawIx N (m 1 12)) (hE1 : (a.toInt < 0 ∨ (n : Int) ≤ a.toInt ∨ v.toInt < 0 ∨ 60 < v.toInt) → Q (some (.int (-1000000000 - nI 1))) (H (erm m 1) ln N)) (hY : ∀ i k : Nat, a = nI i → i < n → v = nI k → k ≤ 60 → ∀ m2, FrT m m2 → Q (some (.int (nI (cntF (fun q => decide (50 ≤ (stepN (lkF m ln (m 1 11)) (blF m ln (m 1 12)) (vw m 0) (q + 1) 4 i).toInt)) k)))) (H m2 ln N)) : WP xs (d + 7) 85 0 0 [.ref (32), .int (a), .int (v)] (H m ln N) Q := by
  refine wp_x mx_85 (L := [some (.ref (32)), some (.int (a)), some (.int (v)), none, none, none]) (Nat.le_of_ble_eq_true rfl) rfl ?_
  refine g_aload_n m85_0 rfl ?_
  refine g_iload_n m85_1 rfl ?_
  refine h_cv (k := 0) (p := 32) (args := [.int (a)]) (rest := []) m85_2 cn_60 (Nat.le_of_ble_eq_true rfl) rfl rfl rfl (t_0 _ _) (Nat.le_of_ble_eq_true rfl) ?_
  refine c_isDiner hd hn (fun ja ea a_1 => ?_) (fun a_1 => ?_)
  · subst ea
    refine gwr ?_
    refine h_if_eqF (xi := 1) (zi := 0) m85_5 rfl rfl (by decide) ?_
    refine g_iload_n m85_8 rfl ?_
    refine g_bipush m85_9 ?_
    refine g_cs (args := [.int (v), .int (60)]) (rest := []) 0 (Or.inl rfl) m85_11 (Nat.le_of_ble_eq_true rfl) rfl rfl (Nat.le_of_ble_eq_true rfl) ?_
    refine c_within (M := 60) rfl (fun jv ev a_2 => ?_) (fun a_2 => ?_)
    · subst ev
      refine gwr ?_
      refine h_if_neF (xi := 1) (zi := 0) m85_14 rfl rfl (by decide) ?_
      refine g_aload_n m85_23 rfl ?_
      refine h_cv (k := 0) (p := 32) (args := []) (rest := []) m85_24 cn_74 (Nat.le_of_ble_eq_true rfl) rfl rfl rfl (t_0 _ _) (Nat.le_of_ble_eq_true rfl) ?_
      refine c_think h01 ?_
      have hL1 : LawsOk (takeM m 1 0) ln N := tk_l hL 1 0 (by decide)
      have elk := tk_lk m 1 0 (by decide) ln (m 1 11)
      have ebl := tk_bl m 1 0 (by decide) ln (m 1 12)
      have h80 := take_8 m 1 0
      have hW1 : WF (vw (takeM m 1 0) 1) := WF_c h80 hW
      refine gwr ?_
      refine g_astore_n (L2 := [some (.ref (32)), some (.int (nI (ja))), some (.int (nI (jv))), some (.ref (42)), none, none]) m85_27 rfl rfl ?_
      refine g_iconst m85_28 ?_
      refine g_istore (L2 := [some (.ref (32)), some (.int (nI (ja))), some (.int (nI (jv))), some (.ref (42)), some (.int (0)), none]) m85_29 rfl rfl ?_
      refine g_iconst m85_31 ?_
      refine g_istore (L2 := [some (.ref (32)), some (.int (nI (ja))), some (.int (nI (jv))), some (.ref (42)), some (.int (0)), some (.int (0))]) m85_32 rfl rfl ?_
      have key : ∀ (r : Nat) (q : Nat) (m2 X2 : MW), q + r = jv → Eq8 (stepN (lkF m ln (m 1 11)) (blF m ln (m 1 12)) (vw m 0) q) X2 → AtX (takeM m 1 0) 1 X2 m2 → gw xs (WP xs (d + 6)) 85 Q 34 [some (.ref (32)), some (.int (nI (ja))), some (.int (nI (jv))), some (.ref (42)), some (.int (nI (cntF (fun q => decide (50 ≤ (stepN (lkF m ln (m 1 11)) (blF m ln (m 1 12)) (vw m 0) (q + 1) 4 ja).toInt)) q))), some (.int (nI (q)))] [] (H m2 ln N) 0 0 := by
        intro r
        induction r with
        | zero =>
          intro q m2 X2 hq h8 hA
          obtain rfl : q = jv := by omega
          refine g_iload m85_34 rfl ?_
          refine g_iload_n m85_36 rfl ?_
          refine h_ic_geT (xi := ((q : Nat) : Int)) (zi := ((q : Nat) : Int)) m85_37 (nI_toInt (by omega)) (nI_toInt (by omega)) (by omega) ?_
          refine g_iload m85_65 rfl ?_
          refine g_iret m85_67 rt_85 ?_
          exact hY ja q rfl (by omega) rfl (by omega) m2 (FrT.of hA)
        | succ r ih =>
          intro q m2 X2 hq h8 hA
          refine g_iload m85_34 rfl ?_
          refine g_iload_n m85_36 rfl ?_
          refine h_ic_geF (xi := ((q : Nat) : Int)) (zi := ((jv : Nat) : Int)) m85_37 (nI_toInt (by omega)) (nI_toInt (by omega)) (by omega) ?_
          refine g_aload_n m85_40 rfl ?_
          refine h_cv (k := 10) (p := 42) (args := []) (rest := []) m85_41 cn_40 (Nat.le_of_ble_eq_true rfl) rfl rfl rfl (t_10 _ _) (Nat.le_of_ble_eq_true rfl) ?_
          refine c_serveStep (x := m 1 11) (y := m 1 12) (t := 1) (by decide) hL1 hA ((h8 0 (by decide) 11).trans (stepN_0 _ _ _ (by decide) q)) hix ((h8 0 (by decide) 12).trans (stepN_0 _ _ _ (by decide) q)) hiy (WF_c h8 (WF_stepN hW q)) (fun X3 m3 e8 hA3 => ?_)
          rw [elk, ebl] at e8
          have h83 : Eq8 (stepN (lkF m ln (m 1 11)) (blF m ln (m 1 12)) (vw m 0) (q + 1)) X3 := (stepF_8 h8).tr e8
          refine gwr ?_
          refine g_pop m85_44 rfl ?_
          refine g_aload_n m85_45 rfl ?_
          refine h_gfR (c := 46) (k := 10) (p := 42) m85_46 rfl (t_10 _ _) rfl (Nat.le_of_ble_eq_true rfl) ?_
          refine g_iload_n m85_49 rfl ?_
          refine h_ial (k := 14) (p := 46) (j := ja) m85_50 rfl (t_14 _ _) (rfl) (by omega) (Nat.le_of_ble_eq_true rfl) ((hA3.rd (by decide) (j := 4) (i := ja) (by decide)).trans (h83 4 (by decide) ja)) ?_
          refine g_bipush m85_51 ?_
          refine h_ic_lt (xi := _) (zi := 50) m85_53 rfl rfl (fun c1 => ?_) (fun c1 => ?_)
          · skip
            refine g_iinc (L2 := [some (.ref (32)), some (.int (nI (ja))), some (.int (nI (jv))), some (.ref (42)), some (.int (nI (cntF (fun q => decide (50 ≤ (stepN (lkF m ln (m 1 11)) (blF m ln (m 1 12)) (vw m 0) (q + 1) 4 ja).toInt)) q))), some (.int (nI (q + 1)))]) m85_59 rfl (nI_1 _) rfl rfl ?_
            refine g_goto m85_62 ?_
            have ec := cnt_n (p := (fun q => decide (50 ≤ (stepN (lkF m ln (m 1 11)) (blF m ln (m 1 12)) (vw m 0) (q + 1) 4 ja).toInt))) (q := q) (by rw [decide_eq_true_eq]; omega)
            have h9 := ih (q + 1) _ _ (by omega) h83 hA3
            rw [ec] at h9
            exact h9
          · skip
            refine g_iinc (L2 := [some (.ref (32)), some (.int (nI (ja))), some (.int (nI (jv))), some (.ref (42)), some (.int (nI ((cntF (fun q => decide (50 ≤ (stepN (lkF m ln (m 1 11)) (blF m ln (m 1 12)) (vw m 0) (q + 1) 4 ja).toInt)) q) + 1))), some (.int (nI (q)))]) m85_56 rfl (nI_1 _) rfl rfl ?_
            refine g_iinc (L2 := [some (.ref (32)), some (.int (nI (ja))), some (.int (nI (jv))), some (.ref (42)), some (.int (nI ((cntF (fun q => decide (50 ≤ (stepN (lkF m ln (m 1 11)) (blF m ln (m 1 12)) (vw m 0) (q + 1) 4 ja).toInt)) q) + 1))), some (.int (nI (q + 1)))]) m85_59 rfl (nI_1 _) rfl rfl ?_
            refine g_goto m85_62 ?_
            have ec := cnt_y (p := (fun q => decide (50 ≤ (stepN (lkF m ln (m 1 11)) (blF m ln (m 1 12)) (vw m 0) (q + 1) 4 ja).toInt))) (q := q) (decide_eq_true (by omega))
            have h9 := ih (q + 1) _ _ (by omega) h83 hA3
            rw [ec] at h9
            exact h9
      exact key jv 0 _ _ (by omega) h80 (AtX.self _ 1)
    · skip
      refine gwr ?_
      refine h_if_neT (xi := 0) (zi := 0) m85_14 rfl rfl (by decide) ?_
      refine g_aload_n m85_17 rfl ?_
      refine g_iconst m85_18 ?_
      refine h_cv (k := 0) (p := 32) (args := [.int (1)]) (rest := []) m85_19 cn_55 (Nat.le_of_ble_eq_true rfl) rfl rfl rfl (t_0 _ _) (Nat.le_of_ble_eq_true rfl) ?_
      refine c_error (e := 1) (by decide) (by decide) ?_
      refine gwr ?_
      refine g_iret m85_22 rt_85 ?_
      exact hE1 (by omega)
  · skip
    refine gwr ?_
    refine h_if_eqT (xi := 0) (zi := 0) m85_5 rfl rfl (by decide) ?_
    refine g_aload_n m85_17 rfl ?_
    refine g_iconst m85_18 ?_
    refine h_cv (k := 0) (p := 32) (args := [.int (1)]) (rest := []) m85_19 cn_55 (Nat.le_of_ble_eq_true rfl) rfl rfl rfl (t_0 _ _) (Nat.le_of_ble_eq_true rfl) ?_
    refine c_error (e := 1) (by decide) (by decide) ?_
    refine gwr ?_
    refine g_iret m85_22 rt_85 ?_
    exact hE1 (by omega)
set_option maxRecDepth 20000 in
set_option maxHeartbeats 40000000 in
theorem c_greatestHunger {t n : Nat} {m0 X : MW} (ht : t < 4) (hA : AtX m0 t X m) (hn : n ≤ 8) (hd : X 0 10 = nI n) (hQ : ∀ w : Int32, w.toInt = maxF (X 4) n → Q (some (.int w)) (H m ln N)) : WP xs (d + 1) 46 0 0 [.ref (33 + 9 * t)] (H m ln N) Q := by
  refine wp_x mx_46 (L := [some (.ref (33 + 9 * t)), none, none]) (Nat.le_of_ble_eq_true rfl) rfl ?_
  have key : ∀ (r : Nat) (q : Nat) (w : Int32), q + r = n → w.toInt = maxF (X 4) q → gw xs (WP xs (d)) 46 Q 4 [some (.ref (33 + 9 * t)), some (.int (w)), some (.int (nI (q)))] [] (H m ln N) 0 0 := by
    intro r
    induction r with
    | zero =>
      intro q w hq hw
      obtain rfl : q = n := by omega
      refine g_iload_n m46_4 rfl ?_
      refine g_aload_n m46_5 rfl ?_
      refine h_gfI (k := 1 + 9 * t) (p := 33 + 9 * t) m46_6 (pT 1 _) (tT ht) rfl ((hA.rd ht (j := 0) (i := 10) (by decide)).trans (hd)) ?_
      refine h_ic_geT (xi := ((q : Nat) : Int)) (zi := ((q : Nat) : Int)) m46_9 (nI_toInt (by omega)) (nI_toInt (by omega)) (by omega) ?_
      refine g_iload_n m46_29 rfl ?_
      refine g_iret m46_30 rt_46 ?_
      exact hQ w hw
    | succ r ih =>
      intro q w hq hw
      refine g_iload_n m46_4 rfl ?_
      refine g_aload_n m46_5 rfl ?_
      refine h_gfI (k := 1 + 9 * t) (p := 33 + 9 * t) m46_6 (pT 1 _) (tT ht) rfl ((hA.rd ht (j := 0) (i := 10) (by decide)).trans (hd)) ?_
      refine h_ic_geF (xi := ((q : Nat) : Int)) (zi := ((n : Nat) : Int)) m46_9 (nI_toInt (by omega)) (nI_toInt (by omega)) (by omega) ?_
      refine g_iload_n m46_12 rfl ?_
      refine g_aload_n m46_13 rfl ?_
      refine h_gfR (c := 37 + 9 * t) (k := 1 + 9 * t) (p := 33 + 9 * t) m46_14 (pT 1 _) (tT ht) rfl (le3 (Nat.le_of_ble_eq_true rfl)) ?_
      refine g_iload_n m46_17 rfl ?_
      refine h_ial (k := 5 + 9 * t) (p := 37 + 9 * t) (j := q) m46_18 (pT 5 _) (tA4 ht) (rfl) (by omega) (Nat.le_of_ble_eq_true rfl) (hA.rd ht (j := 4) (i := q) (by decide)) ?_
      refine g_max m46_19 (Nat.le_of_ble_eq_true rfl) rfl ?_
      refine g_istore_n (L2 := [some (.ref (33 + 9 * t)), some (.int _), some (.int (nI (q)))]) m46_22 rfl rfl ?_
      refine g_iinc (L2 := [some (.ref (33 + 9 * t)), some (.int _), some (.int (nI (q + 1)))]) m46_23 rfl (nI_1 _) rfl rfl ?_
      refine g_goto m46_26 ?_
      refine ih (q + 1) _ (by omega) ?_
      show Int32.toInt (if w < X 4 q then X 4 q else w) = max (maxF (X 4) q) (X 4 q).toInt
      by_cases hlt : w < X 4 q
      · rw [if_pos hlt]
        have := (lt_k rfl rfl).mp hlt
        omega
      · rw [if_neg hlt]
        have : ¬ w.toInt < (X 4 q).toInt := fun z => hlt ((lt_k rfl rfl).mpr z)
        omega
  refine g_iconst m46_0 ?_
  refine g_istore_n (L2 := [some (.ref (33 + 9 * t)), some (.int (0)), none]) m46_1 rfl rfl ?_
  refine g_iconst m46_2 ?_
  refine g_istore_n (L2 := [some (.ref (33 + 9 * t)), some (.int (0)), some (.int (0))]) m46_3 rfl rfl ?_
  exact key n 0 0 (by omega) rfl
theorem WF_w {X : MW} {w : Nat} (h : WF X) (h1 : 1 ≤ w) (h4 : w ≤ 4) : WF (upm X 0 8 (nI w)) := by
  refine ⟨?_, ⟨w, h1, h4, upm_self _ _ _ _⟩, fun k hk => ?_⟩
  · rw [upm_j _ _ (by decide)]
    exact h.1
  · have e : ∀ j k, j ≠ 0 → upm X 0 8 (nI w) j k = X j k := fun j k h => upm_k _ _ h
    rw [e 1 k (by decide), e 2 k (by decide), e 3 k (by decide), e 4 k (by decide), e 5 k (by decide), e 6 k (by decide), e 7 k (by decide)]
    exact h.2.2 k hk
set_option maxRecDepth 20000 in
set_option maxHeartbeats 40000000 in
theorem x_enough {v b : Int32} {n : Nat} (hd : m 1 10 = nI n) (hn : n ≤ 8) (h01 : ∀ j, j < 8 → m 8 j = 0 ∨ m 8 j = 1) (hW : WF (vw m 0)) (hL : LawsOk m ln N) (hix : LawIx N (m 1 11)) (hiy : LawIx N (m 1 12)) (hE1 : (v.toInt < 1 ∨ 99 < v.toInt ∨ b.toInt < 0 ∨ 60 < b.toInt) → Q (some (.int (-1000000000 - nI 1))) (H (erm m 1) ln N)) (hE2 : ∀ k : Nat, b = nI k → k ≤ 60 → 1 ≤ v.toInt → v.toInt ≤ 99 → leastF (fun w => allF (fun i => decide ((stepN (lkF m ln (m 1 11)) (blF m ln (m 1 12)) (upm (vw m 0) 0 8 (nI w)) k 4 i).toInt < v.toInt)) n) 4 1 = none → ∀ m2, FrT m m2 → Q (some (.int (-1000000000 - nI 2))) (H (erm m2 2) ln N)) (hY : ∀ k w : Nat, b = nI k → k ≤ 60 → 1 ≤ v.toInt → v.toInt ≤ 99 → leastF (fun w => allF (fun i => decide ((stepN (lkF m ln (m 1 11)) (blF m ln (m 1 12)) (upm (vw m 0) 0 8 (nI w)) k 4 i).toInt < v.toInt)) n) 4 1 = some w → ∀ m2, FrT m m2 → Q (some (.int (nI w))) (H m2 ln N)) : WP xs (d + 7) 86 0 0 [.ref (32), .int (v), .int (b)] (H m ln N) Q := by
  refine wp_x mx_86 (L := [some (.ref (32)), some (.int (v)), some (.int (b)), none, none]) (Nat.le_of_ble_eq_true rfl) rfl ?_
  refine g_iload_n m86_0 rfl ?_
  refine g_iconst m86_1 ?_
  refine h_ic_lt (xi := v.toInt) (zi := 1) m86_2 rfl rfl (fun c1 => ?_) (fun c1 => ?_)
  · skip
    refine g_aload_n m86_20 rfl ?_
    refine g_iconst m86_21 ?_
    refine h_cv (k := 0) (p := 32) (args := [.int (1)]) (rest := []) m86_22 cn_55 (Nat.le_of_ble_eq_true rfl) rfl rfl rfl (t_0 _ _) (Nat.le_of_ble_eq_true rfl) ?_
    refine c_error (e := 1) (by decide) (by decide) ?_
    refine gwr ?_
    refine g_iret m86_25 rt_86 ?_
    exact hE1 (by omega)
  · skip
    refine g_iload_n m86_5 rfl ?_
    refine g_bipush m86_6 ?_
    refine h_ic_gt (xi := v.toInt) (zi := 99) m86_8 rfl rfl (fun c2 => ?_) (fun c2 => ?_)
    · skip
      refine g_aload_n m86_20 rfl ?_
      refine g_iconst m86_21 ?_
      refine h_cv (k := 0) (p := 32) (args := [.int (1)]) (rest := []) m86_22 cn_55 (Nat.le_of_ble_eq_true rfl) rfl rfl rfl (t_0 _ _) (Nat.le_of_ble_eq_true rfl) ?_
      refine c_error (e := 1) (by decide) (by decide) ?_
      refine gwr ?_
      refine g_iret m86_25 rt_86 ?_
      exact hE1 (by omega)
    · skip
      refine g_iload_n m86_11 rfl ?_
      refine g_bipush m86_12 ?_
      refine g_cs (args := [.int (b), .int (60)]) (rest := []) 0 (Or.inl rfl) m86_14 (Nat.le_of_ble_eq_true rfl) rfl rfl (Nat.le_of_ble_eq_true rfl) ?_
      refine c_within (M := 60) rfl (fun jb eb a_3 => ?_) (fun a_3 => ?_)
      · subst eb
        refine gwr ?_
        refine h_if_neF (xi := 1) (zi := 0) m86_17 rfl rfl (by decide) ?_
        refine g_iconst m86_26 ?_
        refine g_istore_n (L2 := [some (.ref (32)), some (.int (v)), some (.int (nI (jb))), some (.int (1)), none]) m86_27 rfl rfl ?_
        have key : ∀ (r : Nat) (w : Nat) (o4 : Option Value) (m2 : MW), w + r = 5 → 1 ≤ w → FrT m m2 → leastF (fun w => allF (fun i => decide ((stepN (lkF m ln (m 1 11)) (blF m ln (m 1 12)) (upm (vw m 0) 0 8 (nI w)) jb 4 i).toInt < v.toInt)) n) r w = leastF (fun w => allF (fun i => decide ((stepN (lkF m ln (m 1 11)) (blF m ln (m 1 12)) (upm (vw m 0) 0 8 (nI w)) jb 4 i).toInt < v.toInt)) n) 4 1 → gw xs (WP xs (d + 6)) 86 Q 28 [some (.ref (32)), some (.int (v)), some (.int (nI (jb))), some (.int (nI (w))), o4] [] (H m2 ln N) 0 0 := by
          intro r
          induction r with
          | zero =>
            intro w o4 m2 hw hw1 hF hfin
            obtain rfl : w = 5 := by omega
            refine g_iload_n m86_28 rfl ?_
            refine g_iconst m86_29 ?_
            refine h_ic_gtT (xi := ((5 : Nat) : Int)) (zi := 4) m86_30 (nI_toInt (by omega)) rfl (by omega) ?_
            refine g_aload_n m86_68 rfl ?_
            refine g_iconst m86_69 ?_
            refine h_cv (k := 0) (p := 32) (args := [.int (2)]) (rest := []) m86_70 cn_55 (Nat.le_of_ble_eq_true rfl) rfl rfl rfl (t_0 _ _) (Nat.le_of_ble_eq_true rfl) ?_
            refine c_error (e := 2) (by decide) (by decide) ?_
            refine gwr ?_
            refine g_iret m86_73 rt_86 ?_
            exact hE2 jb rfl (by omega) (by omega) (by omega) hfin.symm m2 hF
          | succ r ih =>
            intro w o4 m2 hw hw1 hF hfin
            refine g_iload_n m86_28 rfl ?_
            refine g_iconst m86_29 ?_
            refine h_ic_gtF (xi := ((w : Nat) : Int)) (zi := 4) m86_30 (nI_toInt (by omega)) rfl (by omega) ?_
            refine g_aload_n m86_33 rfl ?_
            refine h_cv (k := 0) (p := 32) (args := []) (rest := []) m86_34 cn_74 (Nat.le_of_ble_eq_true rfl) rfl rfl rfl (t_0 _ _) (Nat.le_of_ble_eq_true rfl) ?_
            have hd2 : m2 1 10 = nI n := (hF 1 10 (by omega) (fun q => by rcases q with q | q <;> omega)).trans hd
            have h012 : ∀ j, j < 8 → m2 8 j = 0 ∨ m2 8 j = 1 := fun j hj => by rw [hF 8 j (by omega) (fun q => by rcases q with q | q <;> omega)]; exact h01 j hj
            have hL2 := hF.laws hL
            have e11 : m2 1 11 = m 1 11 := hF 1 11 (by omega) (fun q => by rcases q with q | q <;> omega)
            have e12 : m2 1 12 = m 1 12 := hF 1 12 (by omega) (fun q => by rcases q with q | q <;> omega)
            have hL1 : LawsOk (takeM m2 1 0) ln N := tk_l hL2 1 0 (by decide)
            have elk := (tk_lk m2 1 0 (by decide) ln (m 1 11)).trans (hF.lk ln _)
            have ebl := (tk_bl m2 1 0 (by decide) ln (m 1 12)).trans (hF.bl ln _)
            have h80 : Eq8 (vw m 0) (vw (takeM m2 1 0) 1) := Eq8.tr (fun j hj i => congrFun (hF.vw0 (by omega)) i) (take_8 m2 1 0)
            have hW1 : WF (vw (takeM m2 1 0) 1) := WF_c h80 hW
            refine c_think h012 ?_
            have hAw := (AtX.self (takeM m2 1 0) 1).up (by decide) (j := 0) (by decide) 8 (nI w)
            have h8w : Eq8 (upm (vw m 0) 0 8 (nI w)) (upm (vw (takeM m2 1 0) 1) 0 8 (nI w)) := h80.up 0 8 (nI w)
            have hWw : WF (upm (vw m 0) 0 8 (nI w)) := WF_w hW (by omega) (by omega)
            refine gwr ?_
            refine g_astore (L2 := [some (.ref (32)), some (.int (v)), some (.int (nI (jb))), some (.int (nI (w))), some (.ref (42))]) m86_37 rfl rfl ?_
            refine g_aload m86_39 rfl ?_
            refine g_iload_n m86_41 rfl ?_
            refine h_pfI (k := 10) (p := 42) m86_42 rfl (t_10 _ _) rfl trivial ?_
            refine g_aload m86_45 rfl ?_
            refine g_iload_n m86_47 rfl ?_
            refine h_cv (k := 10) (p := 42) (args := [.int (nI (jb))]) (rest := []) m86_48 cn_41 (Nat.le_of_ble_eq_true rfl) rfl rfl rfl (t_10 _ _) (Nat.le_of_ble_eq_true rfl) ?_
            refine c_goOn (n := jb) (x := m 1 11) (y := m 1 12) (t := 1) (m0 := takeM m2 1 0) (by decide) hL1 hAw e11 hix e12 hiy (WF_c h8w hWw) (by omega) (fun X2 m3 h8 hA => ?_)
            rw [elk, ebl] at h8
            have h83 := (stepN_8 (LK := (lkF m ln (m 1 11))) (BL := (blF m ln (m 1 12))) h8w jb).tr h8
            have hF3 := hF.tr (FrT.of hA)
            refine gwr0 ?_
            refine g_aload m86_51 rfl ?_
            refine h_cv (k := 10) (p := 42) (args := []) (rest := []) m86_53 cn_46 (Nat.le_of_ble_eq_true rfl) rfl rfl rfl (t_10 _ _) (Nat.le_of_ble_eq_true rfl) ?_
            refine c_greatestHunger (t := 1) (by decide) hA hn ((h83 0 (by decide) 10).trans ((stepN_0 _ _ _ (by decide) jb).trans hd)) (fun z hz => ?_)
            have hiff := maxF_lt (w := X2 4) (v := v.toInt) (by omega) n
            refine gwr ?_
            refine g_iload_n m86_56 rfl ?_
            refine h_ic_ge (xi := maxF (X2 4) n) (zi := v.toInt) m86_57 hz rfl (fun c3 => ?_) (fun c3 => ?_)
            · skip
              refine g_iinc (L2 := [some (.ref (32)), some (.int (v)), some (.int (nI (jb))), some (.int (nI (w + 1))), some (.ref (42))]) m86_62 rfl (nI_1 _) rfl rfl ?_
              refine g_goto m86_65 ?_
              have hm : ¬ (fun w => allF (fun i => decide ((stepN (lkF m ln (m 1 11)) (blF m ln (m 1 12)) (upm (vw m 0) 0 8 (nI w)) jb 4 i).toInt < v.toInt)) n) w = true := by
                intro h
                have h4 := all_y.mp h
                exact absurd (hiff.mpr (fun i hi => by rw [h83 4 (by decide)]; exact of_decide_eq_true (h4 i hi))) (by omega)
              rw [least_n (p := (fun w => allF (fun i => decide ((stepN (lkF m ln (m 1 11)) (blF m ln (m 1 12)) (upm (vw m 0) 0 8 (nI w)) jb 4 i).toInt < v.toInt)) n)) (s := w) hm] at hfin
              exact ih (w + 1) _ _ (by omega) (by omega) hF3 hfin
            · skip
              refine g_iload_n m86_60 rfl ?_
              refine g_iret m86_61 rt_86 ?_
              have hm : (fun w => allF (fun i => decide ((stepN (lkF m ln (m 1 11)) (blF m ln (m 1 12)) (upm (vw m 0) 0 8 (nI w)) jb 4 i).toInt < v.toInt)) n) w = true := all_y.mpr (fun i hi => decide_eq_true (by have := hiff.mp (by omega) i hi; rw [h83 4 (by decide)] at this; exact this))
              rw [least_y (p := (fun w => allF (fun i => decide ((stepN (lkF m ln (m 1 11)) (blF m ln (m 1 12)) (upm (vw m 0) 0 8 (nI w)) jb 4 i).toInt < v.toInt)) n)) (s := w) hm] at hfin
              exact hY jb w rfl (by omega) (by omega) (by omega) hfin.symm m3 hF3
        exact key 4 1 _ _ (by omega) (by omega) FrT.rf rfl
      · skip
        refine gwr ?_
        refine h_if_neT (xi := 0) (zi := 0) m86_17 rfl rfl (by decide) ?_
        refine g_aload_n m86_20 rfl ?_
        refine g_iconst m86_21 ?_
        refine h_cv (k := 0) (p := 32) (args := [.int (1)]) (rest := []) m86_22 cn_55 (Nat.le_of_ble_eq_true rfl) rfl rfl rfl (t_0 _ _) (Nat.le_of_ble_eq_true rfl) ?_
        refine c_error (e := 1) (by decide) (by decide) ?_
        refine gwr ?_
        refine g_iret m86_25 rt_86 ?_
        exact hE1 (by omega)
set_option maxRecDepth 20000 in
set_option maxHeartbeats 40000000 in
theorem x_check {n w : Nat} (hd : m 1 10 = nI n) (hn : n ≤ 8) (h01 : ∀ j, j < 8 → m 8 j = 0 ∨ m 8 j = 1) (hW : WF (vw m 0)) (hL : LawsOk m ln N) (hix : LawIx N (m 1 11)) (hiy : LawIx N (m 1 12)) (hw : m 37 4 = nI w) (hw2 : w ≤ 20) (hN : leastF (fun q => !(decide ((sumF (stepN (lkF m ln (m 1 11)) (blF m ln (m 1 12)) (vw m 0) (q + 1) 4) n).toInt = (m 39 q).toInt))) w 0 = none → ∀ m2, FrT (upm m 37 4 0) m2 → Q (some (.int 0)) (H m2 ln N)) (hY : ∀ q : Nat, leastF (fun q => !(decide ((sumF (stepN (lkF m ln (m 1 11)) (blF m ln (m 1 12)) (vw m 0) (q + 1) 4) n).toInt = (m 39 q).toInt))) w 0 = some q → q < w → ∀ m2, FrT (upm m 37 4 0) m2 → Q (some (.int (nI (1 + q)))) (H m2 ln N)) : WP xs (d + 7) 103 0 0 [.ref (32)] (H m ln N) Q := by
  refine wp_x mx_103 (L := [some (.ref (32)), none, none, none]) (Nat.le_of_ble_eq_true rfl) rfl ?_
  refine g_aload_n m103_0 rfl ?_
  refine h_gfR (c := 69) (k := 0) (p := 32) m103_1 rfl (t_0 _ _) rfl (Nat.le_of_ble_eq_true rfl) ?_
  refine h_gfI (k := 37) (p := 69) m103_4 rfl (t_37 _ _) rfl (hw) ?_
  refine g_istore_n (L2 := [some (.ref (32)), some (.int (nI (w))), none, none]) m103_7 rfl rfl ?_
  refine g_aload_n m103_8 rfl ?_
  refine h_gfR (c := 69) (k := 0) (p := 32) m103_9 rfl (t_0 _ _) rfl (Nat.le_of_ble_eq_true rfl) ?_
  refine g_iconst m103_12 ?_
  refine h_pfI (k := 37) (p := 69) m103_13 rfl (t_37 _ _) rfl trivial ?_
  refine g_aload_n m103_16 rfl ?_
  refine h_cv (k := 0) (p := 32) (args := []) (rest := []) m103_17 cn_74 (Nat.le_of_ble_eq_true rfl) rfl rfl rfl (t_0 _ _) (Nat.le_of_ble_eq_true rfl) ?_
  have hFm : ∀ k, k ≠ 37 → (upm m 37 4 0) k = m k := fun k h => row_up m _ h
  have hcd : codL (upm m 37 4 0) ln = codL m ln := by
    funext i
    unfold codL
    rw [hFm _ (by omega)]
  have hvw : vw (upm m 37 4 0) 0 = vw m 0 ∨ True := Or.inr trivial
  have hLm : LawsOk (upm m 37 4 0) ln N := ⟨hL.1, fun i hi => by rw [hcd]; exact hL.2 i hi⟩
  have hL1 : LawsOk (takeM (upm m 37 4 0) 1 0) ln N := tk_l hLm 1 0 (by decide)
  have elk : lkF (takeM (upm m 37 4 0) 1 0) ln (m 1 11) = (lkF m ln (m 1 11)) := (tk_lk _ 1 0 (by decide) ln (m 1 11)).trans (by rw [lkC_e, lkC_e, hcd])
  have ebl : blF (takeM (upm m 37 4 0) 1 0) ln (m 1 12) = (blF m ln (m 1 12)) := (tk_bl _ 1 0 (by decide) ln (m 1 12)).trans (by rw [blC_e, blC_e, hcd])
  have h80 : Eq8 (vw m 0) (vw (takeM (upm m 37 4 0) 1 0) 1) := Eq8.tr (fun j hj i => congrFun (hFm _ (by omega)) i) (take_8 (upm m 37 4 0) 1 0)
  refine c_think (fun j hj => h01 j hj) ?_
  refine gwr ?_
  refine g_astore_n (L2 := [some (.ref (32)), some (.int (nI (w))), some (.ref (42)), none]) m103_20 rfl rfl ?_
  refine g_iconst m103_21 ?_
  refine g_istore_n (L2 := [some (.ref (32)), some (.int (nI (w))), some (.ref (42)), some (.int (0))]) m103_22 rfl rfl ?_
  have key : ∀ (r : Nat) (q : Nat) (m2 X2 : MW), q + r = w → Eq8 (stepN (lkF m ln (m 1 11)) (blF m ln (m 1 12)) (vw m 0) q) X2 → AtX (takeM (upm m 37 4 0) 1 0) 1 X2 m2 → leastF (fun q => !(decide ((sumF (stepN (lkF m ln (m 1 11)) (blF m ln (m 1 12)) (vw m 0) (q + 1) 4) n).toInt = (m 39 q).toInt))) r q = leastF (fun q => !(decide ((sumF (stepN (lkF m ln (m 1 11)) (blF m ln (m 1 12)) (vw m 0) (q + 1) 4) n).toInt = (m 39 q).toInt))) w 0 → gw xs (WP xs (d + 6)) 103 Q 23 [some (.ref (32)), some (.int (nI (w))), some (.ref (42)), some (.int (nI (q)))] [] (H m2 ln N) 0 0 := by
    intro r
    induction r with
    | zero =>
      intro q m2 X2 hq h8 hA hfin
      obtain rfl : q = w := by omega
      refine g_iload_n m103_23 rfl ?_
      refine g_iload_n m103_24 rfl ?_
      refine h_ic_geT (xi := ((q : Nat) : Int)) (zi := ((q : Nat) : Int)) m103_25 (nI_toInt (by omega)) (nI_toInt (by omega)) (by omega) ?_
      refine g_iconst m103_59 ?_
      refine g_iret m103_60 rt_103 ?_
      exact hN hfin.symm m2 (FrT.of hA)
    | succ r ih =>
      intro q m2 X2 hq h8 hA hfin
      refine g_iload_n m103_23 rfl ?_
      refine g_iload_n m103_24 rfl ?_
      refine h_ic_geF (xi := ((q : Nat) : Int)) (zi := ((w : Nat) : Int)) m103_25 (nI_toInt (by omega)) (nI_toInt (by omega)) (by omega) ?_
      refine g_aload_n m103_28 rfl ?_
      refine h_cv (k := 10) (p := 42) (args := []) (rest := []) m103_29 cn_40 (Nat.le_of_ble_eq_true rfl) rfl rfl rfl (t_10 _ _) (Nat.le_of_ble_eq_true rfl) ?_
      refine c_serveStep (x := m 1 11) (y := m 1 12) (t := 1) (by decide) hL1 hA ((h8 0 (by decide) 11).trans (stepN_0 _ _ _ (by decide) q)) hix ((h8 0 (by decide) 12).trans (stepN_0 _ _ _ (by decide) q)) hiy (WF_c h8 (WF_stepN hW q)) (fun X3 m3 e8 hA3 => ?_)
      rw [elk, ebl] at e8
      have h83 : Eq8 (stepN (lkF m ln (m 1 11)) (blF m ln (m 1 12)) (vw m 0) (q + 1)) X3 := (stepF_8 h8).tr e8
      have e39 : m3 39 q = m 39 q := (FrT.of hA3) 39 q (by omega) (fun z => by rcases z with z | z <;> omega)
      refine gwr ?_
      refine g_pop m103_32 rfl ?_
      refine g_aload_n m103_33 rfl ?_
      refine h_cv (k := 10) (p := 42) (args := []) (rest := []) m103_34 cn_45 (Nat.le_of_ble_eq_true rfl) rfl rfl rfl (t_10 _ _) (Nat.le_of_ble_eq_true rfl) ?_
      refine c_hungerOfAll (t := 1) (by decide) hA3 hn ((h83 0 (by decide) 10).trans ((stepN_0 _ _ _ (by decide) (q + 1)).trans hd)) ?_
      rw [show X3 4 = stepN (lkF m ln (m 1 11)) (blF m ln (m 1 12)) (vw m 0) (q + 1) 4 from funext (h83 4 (by decide))]
      refine gwr ?_
      refine g_aload_n m103_37 rfl ?_
      refine h_gfR (c := 69) (k := 0) (p := 32) m103_38 rfl (t_0 _ _) rfl (Nat.le_of_ble_eq_true rfl) ?_
      refine h_gfR (c := 71) (k := 37) (p := 69) m103_41 rfl (t_37 _ _) rfl (Nat.le_of_ble_eq_true rfl) ?_
      refine g_iload_n m103_44 rfl ?_
      refine h_ial (k := 39) (p := 71) (j := q) m103_45 rfl (t_39 _ _) (rfl) (by omega) (Nat.le_of_ble_eq_true rfl) (e39) ?_
      refine h_ic_eq (xi := _) (zi := _) m103_46 rfl rfl (fun c1 => ?_) (fun c1 => ?_)
      · skip
        refine g_iinc (L2 := [some (.ref (32)), some (.int (nI (w))), some (.ref (42)), some (.int (nI (q + 1)))]) m103_53 rfl (nI_1 _) rfl rfl ?_
        refine g_goto m103_56 ?_
        have hm : ¬ (fun q => !(decide ((sumF (stepN (lkF m ln (m 1 11)) (blF m ln (m 1 12)) (vw m 0) (q + 1) 4) n).toInt = (m 39 q).toInt))) q = true := by
          show ¬ (!(decide _)) = true
          rw [decide_eq_true c1]
          decide
        rw [least_n (p := (fun q => !(decide ((sumF (stepN (lkF m ln (m 1 11)) (blF m ln (m 1 12)) (vw m 0) (q + 1) 4) n).toInt = (m 39 q).toInt)))) (s := q) hm] at hfin
        exact ih (q + 1) _ _ (by omega) h83 hA3 hfin
      · skip
        refine g_iconst m103_49 ?_
        refine g_iload_n m103_50 rfl ?_
        refine g_iadd (u := nI (1 + q)) m103_51 (nI_add 1 q) ?_
        refine g_iret m103_52 rt_103 ?_
        have hm : (fun q => !(decide ((sumF (stepN (lkF m ln (m 1 11)) (blF m ln (m 1 12)) (vw m 0) (q + 1) 4) n).toInt = (m 39 q).toInt))) q = true := by
          show (!(decide _)) = true
          rw [decide_eq_false c1]
          rfl
        rw [least_y (p := (fun q => !(decide ((sumF (stepN (lkF m ln (m 1 11)) (blF m ln (m 1 12)) (vw m 0) (q + 1) 4) n).toInt = (m 39 q).toInt)))) (s := q) hm] at hfin
        exact hY q hfin.symm (by omega) m3 (FrT.of hA3)
  exact key w 0 _ _ (by omega) h80 (AtX.self _ 1) rfl
end
