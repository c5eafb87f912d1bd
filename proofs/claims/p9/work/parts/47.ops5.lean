/-! WHAT WOULD BE: the class, thought again and again -/
def leastF (p : Nat → Bool) : Nat → Nat → Option Nat
  | 0, _ => none
  | r + 1, s => if p s = true then some s else leastF p r (s + 1)
theorem moreN_8 {LK BL : LF} {X Y : MW} (h : Eq8 X Y) (n i : Nat) : moreN LK BL Y n i = moreN LK BL X n i := by
  unfold moreN
  rw [h 6 (by decide), stepN_8 h n 6 (by decide)]
theorem c_dec {p : Prop} {_ : Decidable p} (h : decide p = true) : p := of_decide_eq_true h
def maxF (w : Nat → Int32) : Nat → Int
  | 0 => 0
  | n + 1 => max (maxF w n) (w n).toInt
theorem maxF_lt {w : Nat → Int32} {v : Int} (hv : 0 < v) : ∀ n, maxF w n < v ↔ ∀ i, i < n → (w i).toInt < v
  | 0 => ⟨fun _ i h => absurd h (Nat.not_lt_zero i), fun _ => hv⟩
  | n + 1 => by
    have ih := maxF_lt (w := w) hv n
    show max (maxF w n) (w n).toInt < v ↔ _
    constructor
    · intro h i hi
      by_cases e : i = n
      · subst e
        omega
      · exact ih.mp (by omega) i (by omega)
    · intro h
      have h1 := ih.mpr (fun i hi => h i (by omega))
      have h2 := h n (by omega)
      omega
theorem least_y {p : Nat → Bool} {r s : Nat} (h : p s = true) : leastF p (r + 1) s = some s := if_pos h
theorem least_n {p : Nat → Bool} {r s : Nat} (h : ¬ p s = true) : leastF p (r + 1) s = leastF p r (s + 1) := if_neg h
section
variable {xs : List Int32} {d : Nat} {h : AH} {Q : QT} {m : MW} {ln : Nat → Nat} {N : Nat}
set_option maxRecDepth 20000 in
set_option maxHeartbeats 40000000 in
theorem c_isFedBy {t n i : Nat} {m0 X : MW} {x y s : Int32} (ht : t < 4) (hL : LawsOk m0 ln N) (hA : AtX m0 t X m) (hx : X 0 11 = x) (hix : LawIx N x) (hy : X 0 12 = y) (hiy : LawIx N y) (hW : WF X) (hi : i < 8) (hn6 : n ≤ 100) (hs : leI s 9) (hT : moreN (lkF m0 ln x) (blF m0 ln y) (upm X 5 i s) n i = true → ∀ X2 m2, AtX m0 t X2 m2 → Q (some (.int 1)) (H m2 ln N)) (hF : ¬ moreN (lkF m0 ln x) (blF m0 ln y) (upm X 5 i s) n i = true → ∀ X2 m2, AtX m0 t X2 m2 → Q (some (.int 0)) (H m2 ln N)) : WP xs (d + 6) 43 0 0 [.ref (33 + 9 * t), .int (nI (i)), .int (nI (n)), .int (s)] (H m ln N) Q := by
  refine wp_x mx_43 (L := [some (.ref (33 + 9 * t)), some (.int (nI (i))), some (.int (nI (n))), some (.int (s)), none, none]) (Nat.le_of_ble_eq_true rfl) rfl ?_
  have hWs : WF (upm X 5 i s) := WF_sham hW hs
  refine g_aload_n m43_0 rfl ?_
  refine h_gfR (c := 38 + 9 * t) (k := 1 + 9 * t) (p := 33 + 9 * t) m43_1 (pT 1 _) (tT ht) rfl (le3 (Nat.le_of_ble_eq_true rfl)) ?_
  refine g_iload_n m43_4 rfl ?_
  refine g_iload_n m43_5 rfl ?_
  refine h_ias (k := 6 + 9 * t) (p := 38 + 9 * t) (j := i) m43_6 (pT 6 _) (tA5 ht) (rfl) (by omega) (Nat.le_of_ble_eq_true rfl) ?_
  have hAu1 := hA.up ht (j := 5) (by decide) i s
  refine g_aload_n m43_7 rfl ?_
  refine h_gfR (c := 39 + 9 * t) (k := 1 + 9 * t) (p := 33 + 9 * t) m43_8 (pT 1 _) (tT ht) rfl (le3 (Nat.le_of_ble_eq_true rfl)) ?_
  refine g_iload_n m43_11 rfl ?_
  refine h_ial (k := 7 + 9 * t) (p := 39 + 9 * t) (j := i) m43_12 (pT 7 _) (tA6 ht) (rfl) (by omega) (Nat.le_of_ble_eq_true rfl) (hAu1.rd ht (j := 6) (i := i) (by decide)) ?_
  refine g_istore (L2 := [some (.ref (33 + 9 * t)), some (.int (nI (i))), some (.int (nI (n))), some (.int (s)), some (.int ((upm X 5 i s) 6 i)), none]) m43_13 rfl rfl ?_
  refine g_iconst m43_15 ?_
  refine g_istore (L2 := [some (.ref (33 + 9 * t)), some (.int (nI (i))), some (.int (nI (n))), some (.int (s)), some (.int ((upm X 5 i s) 6 i)), some (.int (0))]) m43_16 rfl rfl ?_
  have key : ∀ (r : Nat) (q : Nat) (m2 X2 : MW), q + r = n → Eq8 (stepN (lkF m0 ln x) (blF m0 ln y) (upm X 5 i s) q) X2 → AtX m0 t X2 m2 → gw xs (WP xs (d + 5)) 43 Q 18 [some (.ref (33 + 9 * t)), some (.int (nI (i))), some (.int (nI (n))), some (.int (s)), some (.int (X 6 i)), some (.int (nI (q)))] [] (H m2 ln N) 0 0 := by
    intro r
    induction r with
    | zero =>
      intro q m2 X2 hq h8 hA2
      obtain rfl : q = n := by omega
      refine g_iload m43_18 rfl ?_
      refine g_iload_n m43_20 rfl ?_
      refine h_ic_geT (xi := ((q : Nat) : Int)) (zi := ((q : Nat) : Int)) m43_21 (nI_toInt (by omega)) (nI_toInt (by omega)) (by omega) ?_
      refine g_aload_n m43_46 rfl ?_
      refine h_gfR (c := 39 + 9 * t) (k := 1 + 9 * t) (p := 33 + 9 * t) m43_47 (pT 1 _) (tT ht) rfl (le3 (Nat.le_of_ble_eq_true rfl)) ?_
      refine g_iload_n m43_50 rfl ?_
      refine h_ial (k := 7 + 9 * t) (p := 39 + 9 * t) (j := i) m43_51 (pT 7 _) (tA6 ht) (rfl) (by omega) (Nat.le_of_ble_eq_true rfl) (hA2.rd ht (j := 6) (i := i) (by decide)) ?_
      refine g_iload m43_52 rfl ?_
      refine h_ic_le (xi := _) (zi := _) m43_54 rfl rfl (fun c2 => ?_) (fun c2 => ?_)
      · skip
        refine g_iconst m43_61 ?_
        refine g_zret m43_62 rt_43 (Or.inl rfl) ?_
        have e6 : X2 6 i = stepN (lkF m0 ln x) (blF m0 ln y) (upm X 5 i s) q 6 i := h8 6 (by decide) i
        have e66 : (upm X 5 i s) 6 i = X 6 i := upm_k _ _ (by decide)
        rw [e6] at c2
        exact hF (by unfold moreN; rw [e66, decide_eq_true_eq]; omega) _ _ hA2
      · skip
        refine g_iconst m43_57 ?_
        refine g_goto m43_58 ?_
        refine g_zret m43_62 rt_43 (Or.inr rfl) ?_
        have e6 : X2 6 i = stepN (lkF m0 ln x) (blF m0 ln y) (upm X 5 i s) q 6 i := h8 6 (by decide) i
        have e66 : (upm X 5 i s) 6 i = X 6 i := upm_k _ _ (by decide)
        rw [e6] at c2
        exact hT (by unfold moreN; rw [e66]; exact decide_eq_true (by omega)) _ _ hA2
    | succ r ih =>
      intro q m2 X2 hq h8 hA2
      refine g_iload m43_18 rfl ?_
      refine g_iload_n m43_20 rfl ?_
      refine h_ic_geF (xi := ((q : Nat) : Int)) (zi := ((n : Nat) : Int)) m43_21 (nI_toInt (by omega)) (nI_toInt (by omega)) (by omega) ?_
      refine g_aload_n m43_24 rfl ?_
      refine h_gfR (c := 39 + 9 * t) (k := 1 + 9 * t) (p := 33 + 9 * t) m43_25 (pT 1 _) (tT ht) rfl (le3 (Nat.le_of_ble_eq_true rfl)) ?_
      refine g_iload_n m43_28 rfl ?_
      refine h_ial (k := 7 + 9 * t) (p := 39 + 9 * t) (j := i) m43_29 (pT 7 _) (tA6 ht) (rfl) (by omega) (Nat.le_of_ble_eq_true rfl) (hA2.rd ht (j := 6) (i := i) (by decide)) ?_
      refine g_iload m43_30 rfl ?_
      refine h_ic_gt (xi := _) (zi := _) m43_32 rfl rfl (fun c3 => ?_) (fun c3 => ?_)
      · skip
        refine g_aload_n m43_46 rfl ?_
        refine h_gfR (c := 39 + 9 * t) (k := 1 + 9 * t) (p := 33 + 9 * t) m43_47 (pT 1 _) (tT ht) rfl (le3 (Nat.le_of_ble_eq_true rfl)) ?_
        refine g_iload_n m43_50 rfl ?_
        refine h_ial (k := 7 + 9 * t) (p := 39 + 9 * t) (j := i) m43_51 (pT 7 _) (tA6 ht) (rfl) (by omega) (Nat.le_of_ble_eq_true rfl) (hA2.rd ht (j := 6) (i := i) (by decide)) ?_
        refine g_iload m43_52 rfl ?_
        refine h_ic_le (xi := _) (zi := _) m43_54 rfl rfl (fun c4 => ?_) (fun c4 => ?_)
        · skip
          refine g_iconst m43_61 ?_
          refine g_zret m43_62 rt_43 (Or.inl rfl) ?_
          have e6 : X2 6 i = stepN (lkF m0 ln x) (blF m0 ln y) (upm X 5 i s) q 6 i := h8 6 (by decide) i
          have e66 : (upm X 5 i s) 6 i = X 6 i := upm_k _ _ (by decide)
          have h9 := had_mono (LK := (lkF m0 ln x)) (BL := (blF m0 ln y)) hWs hi q (n - q)
          rw [show q + (n - q) = n by omega, ← e6] at h9
          exfalso
          omega
        · skip
          refine g_iconst m43_57 ?_
          refine g_goto m43_58 ?_
          refine g_zret m43_62 rt_43 (Or.inr rfl) ?_
          have e6 : X2 6 i = stepN (lkF m0 ln x) (blF m0 ln y) (upm X 5 i s) q 6 i := h8 6 (by decide) i
          have e66 : (upm X 5 i s) 6 i = X 6 i := upm_k _ _ (by decide)
          have h9 := had_mono (LK := (lkF m0 ln x)) (BL := (blF m0 ln y)) hWs hi q (n - q)
          rw [show q + (n - q) = n by omega, ← e6] at h9
          exact hT (by unfold moreN; rw [e66]; exact decide_eq_true (by omega)) _ _ hA2
      · skip
        refine g_aload_n m43_35 rfl ?_
        refine h_cv (k := 1 + 9 * t) (p := 33 + 9 * t) (args := []) (rest := []) m43_36 cn_40 (Nat.le_of_ble_eq_true rfl) rfl rfl (pT 1 _) (tT ht) (Nat.le_of_ble_eq_true rfl) ?_
        refine c_serveStep ht hL hA2 ((h8 0 (by decide) 11).trans ((stepN_0 _ _ _ (by decide) q).trans hx)) hix ((h8 0 (by decide) 12).trans ((stepN_0 _ _ _ (by decide) q).trans hy)) hiy (WF_c h8 (WF_stepN hWs q)) (fun X3 m3 e8 hA3 => ?_)
        refine gwr ?_
        refine g_pop m43_39 rfl ?_
        refine g_iinc (L2 := [some (.ref (33 + 9 * t)), some (.int (nI (i))), some (.int (nI (n))), some (.int (s)), some (.int (X 6 i)), some (.int (nI (q + 1)))]) m43_40 rfl (nI_1 _) rfl rfl ?_
        refine g_goto m43_43 ?_
        exact ih (q + 1) _ _ (by omega) ((stepF_8 h8).tr e8) hA3
  exact key n 0 _ _ (by omega) Eq8.rf hAu1
set_option maxRecDepth 20000 in
set_option maxHeartbeats 40000000 in
theorem x_sham {a v : Int32} {n : Nat} (hd : m 1 10 = nI n) (hn : n ≤ 8) (h01 : ∀ j, j < 8 → m 8 j = 0 ∨ m 8 j = 1) (hW : WF (vw m 0)) (hL : LawsOk m ln N) (hix : LawIx N (m 1 11)) (hiy : LawIx N (m 1 12)) (hE1 : (a.toInt < 0 ∨ (n : Int) ≤ a.toInt ∨ v.toInt < 1 ∨ 60 < v.toInt) → Q (some (.int (-1000000000 - nI 1))) (H (erm m 1) ln N)) (hE2 : ∀ i k : Nat, a = nI i → i < n → v = nI k → 1 ≤ k → k ≤ 60 → leastF (fun s => moreN (lkF m ln (m 1 11)) (blF m ln (m 1 12)) (upm (vw m 0) 5 i (nI s)) k i) 10 0 = none → ∀ m2, FrT m m2 → Q (some (.int (-1000000000 - nI 2))) (H (erm m2 2) ln N)) (hY : ∀ i k s : Nat, a = nI i → i < n → v = nI k → 1 ≤ k → k ≤ 60 → leastF (fun s => moreN (lkF m ln (m 1 11)) (blF m ln (m 1 12)) (upm (vw m 0) 5 i (nI s)) k i) 10 0 = some s → ∀ m2, FrT m m2 → Q (some (.int (nI s))) (H m2 ln N)) : WP xs (d + 7) 78 0 0 [.ref (32), .int (a), .int (v)] (H m ln N) Q := by
  refine wp_x mx_78 (L := [some (.ref (32)), some (.int (a)), some (.int (v)), none]) (Nat.le_of_ble_eq_true rfl) rfl ?_
  by_cases hv : v.toInt < 1 ∨ 60 < v.toInt
  · skip
    refine g_aload_n m78_0 rfl ?_
    refine g_iload_n m78_1 rfl ?_
    refine h_cv (k := 0) (p := 32) (args := [.int (a)]) (rest := []) m78_2 cn_60 (Nat.le_of_ble_eq_true rfl) rfl rfl rfl (t_0 _ _) (Nat.le_of_ble_eq_true rfl) ?_
    refine c_isDiner hd hn (fun ja ea a_1 => ?_) (fun a_1 => ?_)
    · subst ea
      refine gwr ?_
      refine h_if_eqF (xi := 1) (zi := 0) m78_5 rfl rfl (by decide) ?_
      refine g_iload_n m78_8 rfl ?_
      refine g_iconst m78_9 ?_
      refine h_ic_lt (xi := v.toInt) (zi := 1) m78_10 rfl rfl (fun c1 => ?_) (fun c1 => ?_)
      · skip
        refine g_aload_n m78_19 rfl ?_
        refine g_iconst m78_20 ?_
        refine h_cv (k := 0) (p := 32) (args := [.int (1)]) (rest := []) m78_21 cn_55 (Nat.le_of_ble_eq_true rfl) rfl rfl rfl (t_0 _ _) (Nat.le_of_ble_eq_true rfl) ?_
        refine c_error (e := 1) (by decide) (by decide) ?_
        refine gwr ?_
        refine g_iret m78_24 rt_78 ?_
        exact hE1 (by omega)
      · skip
        refine g_iload_n m78_13 rfl ?_
        refine g_bipush m78_14 ?_
        refine h_ic_le (xi := v.toInt) (zi := 60) m78_16 rfl rfl (fun c2 => ?_) (fun c2 => ?_)
        · skip
          exfalso
          omega
        · skip
          refine g_aload_n m78_19 rfl ?_
          refine g_iconst m78_20 ?_
          refine h_cv (k := 0) (p := 32) (args := [.int (1)]) (rest := []) m78_21 cn_55 (Nat.le_of_ble_eq_true rfl) rfl rfl rfl (t_0 _ _) (Nat.le_of_ble_eq_true rfl) ?_
          refine c_error (e := 1) (by decide) (by decide) ?_
          refine gwr ?_
          refine g_iret m78_24 rt_78 ?_
          exact hE1 (by omega)
    · skip
      refine gwr ?_
      refine h_if_eqT (xi := 0) (zi := 0) m78_5 rfl rfl (by decide) ?_
      refine g_aload_n m78_19 rfl ?_
      refine g_iconst m78_20 ?_
      refine h_cv (k := 0) (p := 32) (args := [.int (1)]) (rest := []) m78_21 cn_55 (Nat.le_of_ble_eq_true rfl) rfl rfl rfl (t_0 _ _) (Nat.le_of_ble_eq_true rfl) ?_
      refine c_error (e := 1) (by decide) (by decide) ?_
      refine gwr ?_
      refine g_iret m78_24 rt_78 ?_
      exact hE1 (by omega)
  · skip
    obtain ⟨k, ⟨hk1, hk2⟩, hk3⟩ := nat_of (x := v) (lo := 1) (hi := 60) (by omega) (by omega)
    obtain rfl : v = nI k := hk3
    have ek : (nI k).toInt = (k : Int) := nI_toInt (by omega)
    refine g_aload_n m78_0 rfl ?_
    refine g_iload_n m78_1 rfl ?_
    refine h_cv (k := 0) (p := 32) (args := [.int (a)]) (rest := []) m78_2 cn_60 (Nat.le_of_ble_eq_true rfl) rfl rfl rfl (t_0 _ _) (Nat.le_of_ble_eq_true rfl) ?_
    refine c_isDiner hd hn (fun ja ea a_2 => ?_) (fun a_2 => ?_)
    · subst ea
      refine gwr ?_
      refine h_if_eqF (xi := 1) (zi := 0) m78_5 rfl rfl (by decide) ?_
      refine g_iload_n m78_8 rfl ?_
      refine g_iconst m78_9 ?_
      refine h_ic_ltF (xi := ((k : Nat) : Int)) (zi := 1) m78_10 (nI_toInt (by omega)) rfl (by omega) ?_
      refine g_iload_n m78_13 rfl ?_
      refine g_bipush m78_14 ?_
      refine h_ic_leT (xi := ((k : Nat) : Int)) (zi := 60) m78_16 (nI_toInt (by omega)) rfl (by omega) ?_
      refine g_iconst m78_25 ?_
      refine g_istore_n (L2 := [some (.ref (32)), some (.int (nI (ja))), some (.int (nI (k))), some (.int (0))]) m78_26 rfl rfl ?_
      have key : ∀ (r : Nat) (s : Nat) (m2 : MW), s + r = 10 → FrT m m2 → leastF (fun s => moreN (lkF m ln (m 1 11)) (blF m ln (m 1 12)) (upm (vw m 0) 5 ja (nI s)) k ja) r s = leastF (fun s => moreN (lkF m ln (m 1 11)) (blF m ln (m 1 12)) (upm (vw m 0) 5 ja (nI s)) k ja) 10 0 → gw xs (WP xs (d + 6)) 78 Q 27 [some (.ref (32)), some (.int (nI (ja))), some (.int (nI (k))), some (.int (nI (s)))] [] (H m2 ln N) 0 0 := by
        intro r
        induction r with
        | zero =>
          intro s m2 hs hF hfin
          obtain rfl : s = 10 := by omega
          refine g_iload_n m78_27 rfl ?_
          refine g_bipush m78_28 ?_
          refine h_ic_geT (xi := ((10 : Nat) : Int)) (zi := 10) m78_30 (nI_toInt (by omega)) rfl (by omega) ?_
          refine g_aload_n m78_54 rfl ?_
          refine g_iconst m78_55 ?_
          refine h_cv (k := 0) (p := 32) (args := [.int (2)]) (rest := []) m78_56 cn_55 (Nat.le_of_ble_eq_true rfl) rfl rfl rfl (t_0 _ _) (Nat.le_of_ble_eq_true rfl) ?_
          refine c_error (e := 2) (by decide) (by decide) ?_
          refine gwr ?_
          refine g_iret m78_59 rt_78 ?_
          exact hE2 ja k rfl (by omega) rfl (by omega) (by omega) hfin.symm m2 hF
        | succ r ih =>
          intro s m2 hs hF hfin
          refine g_iload_n m78_27 rfl ?_
          refine g_bipush m78_28 ?_
          refine h_ic_geF (xi := ((s : Nat) : Int)) (zi := 10) m78_30 (nI_toInt (by omega)) rfl (by omega) ?_
          refine g_aload_n m78_33 rfl ?_
          refine h_cv (k := 0) (p := 32) (args := []) (rest := []) m78_34 cn_74 (Nat.le_of_ble_eq_true rfl) rfl rfl rfl (t_0 _ _) (Nat.le_of_ble_eq_true rfl) ?_
          have hd2 : m2 1 10 = nI n := (hF 1 10 (by omega) (fun q => by rcases q with q | q <;> omega)).trans hd
          have h012 : ∀ j, j < 8 → m2 8 j = 0 ∨ m2 8 j = 1 := fun j hj => by rw [hF 8 j (by omega) (fun q => by rcases q with q | q <;> omega)]; exact h01 j hj
          have hL2 := hF.laws hL
          have e11 : m2 1 11 = m 1 11 := hF 1 11 (by omega) (fun q => by rcases q with q | q <;> omega)
          have e12 : m2 1 12 = m 1 12 := hF 1 12 (by omega) (fun q => by rcases q with q | q <;> omega)
          have hL1 : LawsOk (takeM m2 1 0) ln N := tk_l hL2 1 0 (by decide)
          have elk := (tk_lk m2 1 0 (by decide) ln (m 1 11)).trans (hF.lk ln _)
          have ebl := (tk_bl m2 1 0 (by decide) ln (m 1 12)).trans (hF.bl ln _)
          have h80 : Eq8 (vw m 0) (vw (takeM m2 1 0) 1) := Eq8.tr (fun j hj i => congrFun (hF.vw0 (by omega)) i) (take_8 m2 1 0)
          have hW1 : WF (vw (takeM m2 1 0) 1) := WF_c h80 hW
          refine c_think h012 ?_
          refine gwr ?_
          refine g_iload_n m78_37 rfl ?_
          refine g_iload_n m78_38 rfl ?_
          refine g_iload_n m78_39 rfl ?_
          refine h_cv (k := 10) (p := 42) (args := [.int (nI (ja)), .int (nI (k)), .int (nI (s))]) (rest := []) m78_40 cn_43 (Nat.le_of_ble_eq_true rfl) rfl rfl rfl (t_10 _ _) (Nat.le_of_ble_eq_true rfl) ?_
          refine c_isFedBy (x := m 1 11) (y := m 1 12) (t := 1) (m0 := takeM m2 1 0) (X := vw (takeM m2 1 0) 1) (s := nI s) (by decide) hL1 (AtX.self _ 1) e11 hix e12 hiy hW1 (by omega) (by omega) ⟨s, by omega, rfl⟩ (fun hm X2 m3 hA => ?_) (fun hm X2 m3 hA => ?_)
          · rw [elk, ebl, moreN_8 (h80.up 5 ja (nI s))] at hm
            have hF3 := hF.tr (FrT.of hA)
            rw [least_y (p := (fun s => moreN (lkF m ln (m 1 11)) (blF m ln (m 1 12)) (upm (vw m 0) 5 ja (nI s)) k ja)) (s := s) hm] at hfin
            refine gwr ?_
            refine h_if_eqF (xi := 1) (zi := 0) m78_43 rfl rfl (by decide) ?_
            refine g_iload_n m78_46 rfl ?_
            refine g_iret m78_47 rt_78 ?_
            exact hY ja k s rfl (by omega) rfl (by omega) (by omega) hfin.symm m3 hF3
          · rw [elk, ebl, moreN_8 (h80.up 5 ja (nI s))] at hm
            have hF3 := hF.tr (FrT.of hA)
            rw [least_n (p := (fun s => moreN (lkF m ln (m 1 11)) (blF m ln (m 1 12)) (upm (vw m 0) 5 ja (nI s)) k ja)) (s := s) hm] at hfin
            refine gwr ?_
            refine h_if_eqT (xi := 0) (zi := 0) m78_43 rfl rfl (by decide) ?_
            refine g_iinc (L2 := [some (.ref (32)), some (.int (nI (ja))), some (.int (nI (k))), some (.int (nI (s + 1)))]) m78_48 rfl (nI_1 _) rfl rfl ?_
            refine g_goto m78_51 ?_
            exact ih (s + 1) _ (by omega) hF3 hfin
      exact key 10 0 _ (by omega) FrT.rf rfl
    · skip
      refine gwr ?_
      refine h_if_eqT (xi := 0) (zi := 0) m78_5 rfl rfl (by decide) ?_
      refine g_aload_n m78_19 rfl ?_
      refine g_iconst m78_20 ?_
      refine h_cv (k := 0) (p := 32) (args := [.int (1)]) (rest := []) m78_21 cn_55 (Nat.le_of_ble_eq_true rfl) rfl rfl rfl (t_0 _ _) (Nat.le_of_ble_eq_true rfl) ?_
      refine c_error (e := 1) (by decide) (by decide) ?_
      refine gwr ?_
      refine g_iret m78_24 rt_78 ?_
      exact hE1 (by omega)
set_option maxRecDepth 20000 in
set_option maxHeartbeats 40000000 in
theorem c_commonDivisor {a : Nat} (ha : a ≤ 10) (hQ : Q (some (.int (nI (Nat.gcd a 10)))) h) : WP xs (d + 1) 88 0 0 [.int (nI (a)), .int (10)] h Q := by
  refine wp_x mx_88 (L := [some (.int (nI (a))), some (.int (10)), none]) (Nat.le_of_ble_eq_true rfl) rfl ?_
  rcases (show a = 0 ∨ a = 1 ∨ a = 2 ∨ a = 3 ∨ a = 4 ∨ a = 5 ∨ a = 6 ∨ a = 7 ∨ a = 8 ∨ a = 9 ∨ a = 10 by omega) with rfl | rfl | rfl | rfl | rfl | rfl | rfl | rfl | rfl | rfl | rfl
  · skip
    refine gwl (L' := [some (.int 0), some (.int 10), none]) rfl ?_
    refine g_iload_n m88_0 rfl ?_
    refine g_istore_n (L2 := [some (.int (0)), some (.int (10)), some (.int (10))]) m88_1 rfl rfl ?_
    refine g_iload_n m88_2 rfl ?_
    refine g_iconst m88_3 ?_
    refine h_ic_leF (xi := 10) (zi := 1) m88_4 rfl rfl (by decide) ?_
    refine g_iload_n m88_7 rfl ?_
    refine g_iload_n m88_8 rfl ?_
    refine g_irem (u := (0 : Int32)) m88_9 (by decide) (by decide) ?_
    refine h_if_neT (xi := 0) (zi := 0) m88_10 rfl rfl (by decide) ?_
    refine g_iload_n m88_13 rfl ?_
    refine g_iload_n m88_14 rfl ?_
    refine g_irem (u := (0 : Int32)) m88_15 (by decide) (by decide) ?_
    refine h_if_neT (xi := 0) (zi := 0) m88_16 rfl rfl (by decide) ?_
    refine g_iload_n m88_19 rfl ?_
    refine g_iret m88_20 rt_88 ?_
    exact hQ
  · skip
    refine gwl (L' := [some (.int 1), some (.int 10), none]) rfl ?_
    refine g_iload_n m88_0 rfl ?_
    refine g_istore_n (L2 := [some (.int (1)), some (.int (10)), some (.int (10))]) m88_1 rfl rfl ?_
    refine g_iload_n m88_2 rfl ?_
    refine g_iconst m88_3 ?_
    refine h_ic_leF (xi := 10) (zi := 1) m88_4 rfl rfl (by decide) ?_
    refine g_iload_n m88_7 rfl ?_
    refine g_iload_n m88_8 rfl ?_
    refine g_irem (u := (1 : Int32)) m88_9 (by decide) (by decide) ?_
    refine h_if_neF (xi := 1) (zi := 0) m88_10 rfl rfl (by decide) ?_
    refine g_iinc (x2 := (9 : Int32)) (L2 := [some (.int (1)), some (.int (10)), some (.int (9))]) m88_21 rfl (by decide) rfl rfl ?_
    refine g_goto m88_24 ?_
    refine g_iload_n m88_2 rfl ?_
    refine g_iconst m88_3 ?_
    refine h_ic_leF (xi := 9) (zi := 1) m88_4 rfl rfl (by decide) ?_
    refine g_iload_n m88_7 rfl ?_
    refine g_iload_n m88_8 rfl ?_
    refine g_irem (u := (1 : Int32)) m88_9 (by decide) (by decide) ?_
    refine h_if_neF (xi := 1) (zi := 0) m88_10 rfl rfl (by decide) ?_
    refine g_iinc (x2 := (8 : Int32)) (L2 := [some (.int (1)), some (.int (10)), some (.int (8))]) m88_21 rfl (by decide) rfl rfl ?_
    refine g_goto m88_24 ?_
    refine g_iload_n m88_2 rfl ?_
    refine g_iconst m88_3 ?_
    refine h_ic_leF (xi := 8) (zi := 1) m88_4 rfl rfl (by decide) ?_
    refine g_iload_n m88_7 rfl ?_
    refine g_iload_n m88_8 rfl ?_
    refine g_irem (u := (1 : Int32)) m88_9 (by decide) (by decide) ?_
    refine h_if_neF (xi := 1) (zi := 0) m88_10 rfl rfl (by decide) ?_
    refine g_iinc (x2 := (7 : Int32)) (L2 := [some (.int (1)), some (.int (10)), some (.int (7))]) m88_21 rfl (by decide) rfl rfl ?_
    refine g_goto m88_24 ?_
    refine g_iload_n m88_2 rfl ?_
    refine g_iconst m88_3 ?_
    refine h_ic_leF (xi := 7) (zi := 1) m88_4 rfl rfl (by decide) ?_
    refine g_iload_n m88_7 rfl ?_
    refine g_iload_n m88_8 rfl ?_
    refine g_irem (u := (1 : Int32)) m88_9 (by decide) (by decide) ?_
    refine h_if_neF (xi := 1) (zi := 0) m88_10 rfl rfl (by decide) ?_
    refine g_iinc (x2 := (6 : Int32)) (L2 := [some (.int (1)), some (.int (10)), some (.int (6))]) m88_21 rfl (by decide) rfl rfl ?_
    refine g_goto m88_24 ?_
    refine g_iload_n m88_2 rfl ?_
    refine g_iconst m88_3 ?_
    refine h_ic_leF (xi := 6) (zi := 1) m88_4 rfl rfl (by decide) ?_
    refine g_iload_n m88_7 rfl ?_
    refine g_iload_n m88_8 rfl ?_
    refine g_irem (u := (1 : Int32)) m88_9 (by decide) (by decide) ?_
    refine h_if_neF (xi := 1) (zi := 0) m88_10 rfl rfl (by decide) ?_
    refine g_iinc (x2 := (5 : Int32)) (L2 := [some (.int (1)), some (.int (10)), some (.int (5))]) m88_21 rfl (by decide) rfl rfl ?_
    refine g_goto m88_24 ?_
    refine g_iload_n m88_2 rfl ?_
    refine g_iconst m88_3 ?_
    refine h_ic_leF (xi := 5) (zi := 1) m88_4 rfl rfl (by decide) ?_
    refine g_iload_n m88_7 rfl ?_
    refine g_iload_n m88_8 rfl ?_
    refine g_irem (u := (1 : Int32)) m88_9 (by decide) (by decide) ?_
    refine h_if_neF (xi := 1) (zi := 0) m88_10 rfl rfl (by decide) ?_
    refine g_iinc (x2 := (4 : Int32)) (L2 := [some (.int (1)), some (.int (10)), some (.int (4))]) m88_21 rfl (by decide) rfl rfl ?_
    refine g_goto m88_24 ?_
    refine g_iload_n m88_2 rfl ?_
    refine g_iconst m88_3 ?_
    refine h_ic_leF (xi := 4) (zi := 1) m88_4 rfl rfl (by decide) ?_
    refine g_iload_n m88_7 rfl ?_
    refine g_iload_n m88_8 rfl ?_
    refine g_irem (u := (1 : Int32)) m88_9 (by decide) (by decide) ?_
    refine h_if_neF (xi := 1) (zi := 0) m88_10 rfl rfl (by decide) ?_
    refine g_iinc (x2 := (3 : Int32)) (L2 := [some (.int (1)), some (.int (10)), some (.int (3))]) m88_21 rfl (by decide) rfl rfl ?_
    refine g_goto m88_24 ?_
    refine g_iload_n m88_2 rfl ?_
    refine g_iconst m88_3 ?_
    refine h_ic_leF (xi := 3) (zi := 1) m88_4 rfl rfl (by decide) ?_
    refine g_iload_n m88_7 rfl ?_
    refine g_iload_n m88_8 rfl ?_
    refine g_irem (u := (1 : Int32)) m88_9 (by decide) (by decide) ?_
    refine h_if_neF (xi := 1) (zi := 0) m88_10 rfl rfl (by decide) ?_
    refine g_iinc (x2 := (2 : Int32)) (L2 := [some (.int (1)), some (.int (10)), some (.int (2))]) m88_21 rfl (by decide) rfl rfl ?_
    refine g_goto m88_24 ?_
    refine g_iload_n m88_2 rfl ?_
    refine g_iconst m88_3 ?_
    refine h_ic_leF (xi := 2) (zi := 1) m88_4 rfl rfl (by decide) ?_
    refine g_iload_n m88_7 rfl ?_
    refine g_iload_n m88_8 rfl ?_
    refine g_irem (u := (1 : Int32)) m88_9 (by decide) (by decide) ?_
    refine h_if_neF (xi := 1) (zi := 0) m88_10 rfl rfl (by decide) ?_
    refine g_iinc (x2 := (1 : Int32)) (L2 := [some (.int (1)), some (.int (10)), some (.int (1))]) m88_21 rfl (by decide) rfl rfl ?_
    refine g_goto m88_24 ?_
    refine g_iload_n m88_2 rfl ?_
    refine g_iconst m88_3 ?_
    refine h_ic_leT (xi := 1) (zi := 1) m88_4 rfl rfl (by decide) ?_
    refine g_iconst m88_27 ?_
    refine g_iret m88_28 rt_88 ?_
    exact hQ
  · skip
    refine gwl (L' := [some (.int 2), some (.int 10), none]) rfl ?_
    refine g_iload_n m88_0 rfl ?_
    refine g_istore_n (L2 := [some (.int (2)), some (.int (10)), some (.int (10))]) m88_1 rfl rfl ?_
    refine g_iload_n m88_2 rfl ?_
    refine g_iconst m88_3 ?_
    refine h_ic_leF (xi := 10) (zi := 1) m88_4 rfl rfl (by decide) ?_
    refine g_iload_n m88_7 rfl ?_
    refine g_iload_n m88_8 rfl ?_
    refine g_irem (u := (2 : Int32)) m88_9 (by decide) (by decide) ?_
    refine h_if_neF (xi := 2) (zi := 0) m88_10 rfl rfl (by decide) ?_
    refine g_iinc (x2 := (9 : Int32)) (L2 := [some (.int (2)), some (.int (10)), some (.int (9))]) m88_21 rfl (by decide) rfl rfl ?_
    refine g_goto m88_24 ?_
    refine g_iload_n m88_2 rfl ?_
    refine g_iconst m88_3 ?_
    refine h_ic_leF (xi := 9) (zi := 1) m88_4 rfl rfl (by decide) ?_
    refine g_iload_n m88_7 rfl ?_
    refine g_iload_n m88_8 rfl ?_
    refine g_irem (u := (2 : Int32)) m88_9 (by decide) (by decide) ?_
    refine h_if_neF (xi := 2) (zi := 0) m88_10 rfl rfl (by decide) ?_
    refine g_iinc (x2 := (8 : Int32)) (L2 := [some (.int (2)), some (.int (10)), some (.int (8))]) m88_21 rfl (by decide) rfl rfl ?_
    refine g_goto m88_24 ?_
    refine g_iload_n m88_2 rfl ?_
    refine g_iconst m88_3 ?_
    refine h_ic_leF (xi := 8) (zi := 1) m88_4 rfl rfl (by decide) ?_
    refine g_iload_n m88_7 rfl ?_
    refine g_iload_n m88_8 rfl ?_
    refine g_irem (u := (2 : Int32)) m88_9 (by decide) (by decide) ?_
    refine h_if_neF (xi := 2) (zi := 0) m88_10 rfl rfl (by decide) ?_
    refine g_iinc (x2 := (7 : Int32)) (L2 := [some (.int (2)), some (.int (10)), some (.int (7))]) m88_21 rfl (by decide) rfl rfl ?_
    refine g_goto m88_24 ?_
    refine g_iload_n m88_2 rfl ?_
    refine g_iconst m88_3 ?_
    refine h_ic_leF (xi := 7) (zi := 1) m88_4 rfl rfl (by decide) ?_
    refine g_iload_n m88_7 rfl ?_
    refine g_iload_n m88_8 rfl ?_
    refine g_irem (u := (2 : Int32)) m88_9 (by decide) (by decide) ?_
    refine h_if_neF (xi := 2) (zi := 0) m88_10 rfl rfl (by decide) ?_
    refine g_iinc (x2 := (6 : Int32)) (L2 := [some (.int (2)), some (.int (10)), some (.int (6))]) m88_21 rfl (by decide) rfl rfl ?_
    refine g_goto m88_24 ?_
    refine g_iload_n m88_2 rfl ?_
    refine g_iconst m88_3 ?_
    refine h_ic_leF (xi := 6) (zi := 1) m88_4 rfl rfl (by decide) ?_
    refine g_iload_n m88_7 rfl ?_
    refine g_iload_n m88_8 rfl ?_
    refine g_irem (u := (2 : Int32)) m88_9 (by decide) (by decide) ?_
    refine h_if_neF (xi := 2) (zi := 0) m88_10 rfl rfl (by decide) ?_
    refine g_iinc (x2 := (5 : Int32)) (L2 := [some (.int (2)), some (.int (10)), some (.int (5))]) m88_21 rfl (by decide) rfl rfl ?_
    refine g_goto m88_24 ?_
    refine g_iload_n m88_2 rfl ?_
    refine g_iconst m88_3 ?_
    refine h_ic_leF (xi := 5) (zi := 1) m88_4 rfl rfl (by decide) ?_
    refine g_iload_n m88_7 rfl ?_
    refine g_iload_n m88_8 rfl ?_
    refine g_irem (u := (2 : Int32)) m88_9 (by decide) (by decide) ?_
    refine h_if_neF (xi := 2) (zi := 0) m88_10 rfl rfl (by decide) ?_
    refine g_iinc (x2 := (4 : Int32)) (L2 := [some (.int (2)), some (.int (10)), some (.int (4))]) m88_21 rfl (by decide) rfl rfl ?_
    refine g_goto m88_24 ?_
    refine g_iload_n m88_2 rfl ?_
    refine g_iconst m88_3 ?_
    refine h_ic_leF (xi := 4) (zi := 1) m88_4 rfl rfl (by decide) ?_
    refine g_iload_n m88_7 rfl ?_
    refine g_iload_n m88_8 rfl ?_
    refine g_irem (u := (2 : Int32)) m88_9 (by decide) (by decide) ?_
    refine h_if_neF (xi := 2) (zi := 0) m88_10 rfl rfl (by decide) ?_
    refine g_iinc (x2 := (3 : Int32)) (L2 := [some (.int (2)), some (.int (10)), some (.int (3))]) m88_21 rfl (by decide) rfl rfl ?_
    refine g_goto m88_24 ?_
    refine g_iload_n m88_2 rfl ?_
    refine g_iconst m88_3 ?_
    refine h_ic_leF (xi := 3) (zi := 1) m88_4 rfl rfl (by decide) ?_
    refine g_iload_n m88_7 rfl ?_
    refine g_iload_n m88_8 rfl ?_
    refine g_irem (u := (2 : Int32)) m88_9 (by decide) (by decide) ?_
    refine h_if_neF (xi := 2) (zi := 0) m88_10 rfl rfl (by decide) ?_
    refine g_iinc (x2 := (2 : Int32)) (L2 := [some (.int (2)), some (.int (10)), some (.int (2))]) m88_21 rfl (by decide) rfl rfl ?_
    refine g_goto m88_24 ?_
    refine g_iload_n m88_2 rfl ?_
    refine g_iconst m88_3 ?_
    refine h_ic_leF (xi := 2) (zi := 1) m88_4 rfl rfl (by decide) ?_
    refine g_iload_n m88_7 rfl ?_
    refine g_iload_n m88_8 rfl ?_
    refine g_irem (u := (0 : Int32)) m88_9 (by decide) (by decide) ?_
    refine h_if_neT (xi := 0) (zi := 0) m88_10 rfl rfl (by decide) ?_
    refine g_iload_n m88_13 rfl ?_
    refine g_iload_n m88_14 rfl ?_
    refine g_irem (u := (0 : Int32)) m88_15 (by decide) (by decide) ?_
    refine h_if_neT (xi := 0) (zi := 0) m88_16 rfl rfl (by decide) ?_
    refine g_iload_n m88_19 rfl ?_
    refine g_iret m88_20 rt_88 ?_
    exact hQ
  · skip
    refine gwl (L' := [some (.int 3), some (.int 10), none]) rfl ?_
    refine g_iload_n m88_0 rfl ?_
    refine g_istore_n (L2 := [some (.int (3)), some (.int (10)), some (.int (10))]) m88_1 rfl rfl ?_
    refine g_iload_n m88_2 rfl ?_
    refine g_iconst m88_3 ?_
    refine h_ic_leF (xi := 10) (zi := 1) m88_4 rfl rfl (by decide) ?_
    refine g_iload_n m88_7 rfl ?_
    refine g_iload_n m88_8 rfl ?_
    refine g_irem (u := (3 : Int32)) m88_9 (by decide) (by decide) ?_
    refine h_if_neF (xi := 3) (zi := 0) m88_10 rfl rfl (by decide) ?_
    refine g_iinc (x2 := (9 : Int32)) (L2 := [some (.int (3)), some (.int (10)), some (.int (9))]) m88_21 rfl (by decide) rfl rfl ?_
    refine g_goto m88_24 ?_
    refine g_iload_n m88_2 rfl ?_
    refine g_iconst m88_3 ?_
    refine h_ic_leF (xi := 9) (zi := 1) m88_4 rfl rfl (by decide) ?_
    refine g_iload_n m88_7 rfl ?_
    refine g_iload_n m88_8 rfl ?_
    refine g_irem (u := (3 : Int32)) m88_9 (by decide) (by decide) ?_
    refine h_if_neF (xi := 3) (zi := 0) m88_10 rfl rfl (by decide) ?_
    refine g_iinc (x2 := (8 : Int32)) (L2 := [some (.int (3)), some (.int (10)), some (.int (8))]) m88_21 rfl (by decide) rfl rfl ?_
    refine g_goto m88_24 ?_
    refine g_iload_n m88_2 rfl ?_
    refine g_iconst m88_3 ?_
    refine h_ic_leF (xi := 8) (zi := 1) m88_4 rfl rfl (by decide) ?_
    refine g_iload_n m88_7 rfl ?_
    refine g_iload_n m88_8 rfl ?_
    refine g_irem (u := (3 : Int32)) m88_9 (by decide) (by decide) ?_
    refine h_if_neF (xi := 3) (zi := 0) m88_10 rfl rfl (by decide) ?_
    refine g_iinc (x2 := (7 : Int32)) (L2 := [some (.int (3)), some (.int (10)), some (.int (7))]) m88_21 rfl (by decide) rfl rfl ?_
    refine g_goto m88_24 ?_
    refine g_iload_n m88_2 rfl ?_
    refine g_iconst m88_3 ?_
    refine h_ic_leF (xi := 7) (zi := 1) m88_4 rfl rfl (by decide) ?_
    refine g_iload_n m88_7 rfl ?_
    refine g_iload_n m88_8 rfl ?_
    refine g_irem (u := (3 : Int32)) m88_9 (by decide) (by decide) ?_
    refine h_if_neF (xi := 3) (zi := 0) m88_10 rfl rfl (by decide) ?_
    refine g_iinc (x2 := (6 : Int32)) (L2 := [some (.int (3)), some (.int (10)), some (.int (6))]) m88_21 rfl (by decide) rfl rfl ?_
    refine g_goto m88_24 ?_
    refine g_iload_n m88_2 rfl ?_
    refine g_iconst m88_3 ?_
    refine h_ic_leF (xi := 6) (zi := 1) m88_4 rfl rfl (by decide) ?_
    refine g_iload_n m88_7 rfl ?_
    refine g_iload_n m88_8 rfl ?_
    refine g_irem (u := (3 : Int32)) m88_9 (by decide) (by decide) ?_
    refine h_if_neF (xi := 3) (zi := 0) m88_10 rfl rfl (by decide) ?_
    refine g_iinc (x2 := (5 : Int32)) (L2 := [some (.int (3)), some (.int (10)), some (.int (5))]) m88_21 rfl (by decide) rfl rfl ?_
    refine g_goto m88_24 ?_
    refine g_iload_n m88_2 rfl ?_
    refine g_iconst m88_3 ?_
    refine h_ic_leF (xi := 5) (zi := 1) m88_4 rfl rfl (by decide) ?_
    refine g_iload_n m88_7 rfl ?_
    refine g_iload_n m88_8 rfl ?_
    refine g_irem (u := (3 : Int32)) m88_9 (by decide) (by decide) ?_
    refine h_if_neF (xi := 3) (zi := 0) m88_10 rfl rfl (by decide) ?_
    refine g_iinc (x2 := (4 : Int32)) (L2 := [some (.int (3)), some (.int (10)), some (.int (4))]) m88_21 rfl (by decide) rfl rfl ?_
    refine g_goto m88_24 ?_
    refine g_iload_n m88_2 rfl ?_
    refine g_iconst m88_3 ?_
    refine h_ic_leF (xi := 4) (zi := 1) m88_4 rfl rfl (by decide) ?_
    refine g_iload_n m88_7 rfl ?_
    refine g_iload_n m88_8 rfl ?_
    refine g_irem (u := (3 : Int32)) m88_9 (by decide) (by decide) ?_
    refine h_if_neF (xi := 3) (zi := 0) m88_10 rfl rfl (by decide) ?_
    refine g_iinc (x2 := (3 : Int32)) (L2 := [some (.int (3)), some (.int (10)), some (.int (3))]) m88_21 rfl (by decide) rfl rfl ?_
    refine g_goto m88_24 ?_
    refine g_iload_n m88_2 rfl ?_
    refine g_iconst m88_3 ?_
    refine h_ic_leF (xi := 3) (zi := 1) m88_4 rfl rfl (by decide) ?_
    refine g_iload_n m88_7 rfl ?_
    refine g_iload_n m88_8 rfl ?_
    refine g_irem (u := (0 : Int32)) m88_9 (by decide) (by decide) ?_
    refine h_if_neT (xi := 0) (zi := 0) m88_10 rfl rfl (by decide) ?_
    refine g_iload_n m88_13 rfl ?_
    refine g_iload_n m88_14 rfl ?_
    refine g_irem (u := (1 : Int32)) m88_15 (by decide) (by decide) ?_
    refine h_if_neF (xi := 1) (zi := 0) m88_16 rfl rfl (by decide) ?_
    refine g_iinc (x2 := (2 : Int32)) (L2 := [some (.int (3)), some (.int (10)), some (.int (2))]) m88_21 rfl (by decide) rfl rfl ?_
    refine g_goto m88_24 ?_
    refine g_iload_n m88_2 rfl ?_
    refine g_iconst m88_3 ?_
    refine h_ic_leF (xi := 2) (zi := 1) m88_4 rfl rfl (by decide) ?_
    refine g_iload_n m88_7 rfl ?_
    refine g_iload_n m88_8 rfl ?_
    refine g_irem (u := (1 : Int32)) m88_9 (by decide) (by decide) ?_
    refine h_if_neF (xi := 1) (zi := 0) m88_10 rfl rfl (by decide) ?_
    refine g_iinc (x2 := (1 : Int32)) (L2 := [some (.int (3)), some (.int (10)), some (.int (1))]) m88_21 rfl (by decide) rfl rfl ?_
    refine g_goto m88_24 ?_
    refine g_iload_n m88_2 rfl ?_
    refine g_iconst m88_3 ?_
    refine h_ic_leT (xi := 1) (zi := 1) m88_4 rfl rfl (by decide) ?_
    refine g_iconst m88_27 ?_
    refine g_iret m88_28 rt_88 ?_
    exact hQ
  · skip
    refine gwl (L' := [some (.int 4), some (.int 10), none]) rfl ?_
    refine g_iload_n m88_0 rfl ?_
    refine g_istore_n (L2 := [some (.int (4)), some (.int (10)), some (.int (10))]) m88_1 rfl rfl ?_
    refine g_iload_n m88_2 rfl ?_
    refine g_iconst m88_3 ?_
    refine h_ic_leF (xi := 10) (zi := 1) m88_4 rfl rfl (by decide) ?_
    refine g_iload_n m88_7 rfl ?_
    refine g_iload_n m88_8 rfl ?_
    refine g_irem (u := (4 : Int32)) m88_9 (by decide) (by decide) ?_
    refine h_if_neF (xi := 4) (zi := 0) m88_10 rfl rfl (by decide) ?_
    refine g_iinc (x2 := (9 : Int32)) (L2 := [some (.int (4)), some (.int (10)), some (.int (9))]) m88_21 rfl (by decide) rfl rfl ?_
    refine g_goto m88_24 ?_
    refine g_iload_n m88_2 rfl ?_
    refine g_iconst m88_3 ?_
    refine h_ic_leF (xi := 9) (zi := 1) m88_4 rfl rfl (by decide) ?_
    refine g_iload_n m88_7 rfl ?_
    refine g_iload_n m88_8 rfl ?_
    refine g_irem (u := (4 : Int32)) m88_9 (by decide) (by decide) ?_
    refine h_if_neF (xi := 4) (zi := 0) m88_10 rfl rfl (by decide) ?_
    refine g_iinc (x2 := (8 : Int32)) (L2 := [some (.int (4)), some (.int (10)), some (.int (8))]) m88_21 rfl (by decide) rfl rfl ?_
    refine g_goto m88_24 ?_
    refine g_iload_n m88_2 rfl ?_
    refine g_iconst m88_3 ?_
    refine h_ic_leF (xi := 8) (zi := 1) m88_4 rfl rfl (by decide) ?_
    refine g_iload_n m88_7 rfl ?_
    refine g_iload_n m88_8 rfl ?_
    refine g_irem (u := (4 : Int32)) m88_9 (by decide) (by decide) ?_
    refine h_if_neF (xi := 4) (zi := 0) m88_10 rfl rfl (by decide) ?_
    refine g_iinc (x2 := (7 : Int32)) (L2 := [some (.int (4)), some (.int (10)), some (.int (7))]) m88_21 rfl (by decide) rfl rfl ?_
    refine g_goto m88_24 ?_
    refine g_iload_n m88_2 rfl ?_
    refine g_iconst m88_3 ?_
    refine h_ic_leF (xi := 7) (zi := 1) m88_4 rfl rfl (by decide) ?_
    refine g_iload_n m88_7 rfl ?_
    refine g_iload_n m88_8 rfl ?_
    refine g_irem (u := (4 : Int32)) m88_9 (by decide) (by decide) ?_
    refine h_if_neF (xi := 4) (zi := 0) m88_10 rfl rfl (by decide) ?_
    refine g_iinc (x2 := (6 : Int32)) (L2 := [some (.int (4)), some (.int (10)), some (.int (6))]) m88_21 rfl (by decide) rfl rfl ?_
    refine g_goto m88_24 ?_
    refine g_iload_n m88_2 rfl ?_
    refine g_iconst m88_3 ?_
    refine h_ic_leF (xi := 6) (zi := 1) m88_4 rfl rfl (by decide) ?_
    refine g_iload_n m88_7 rfl ?_
    refine g_iload_n m88_8 rfl ?_
    refine g_irem (u := (4 : Int32)) m88_9 (by decide) (by decide) ?_
    refine h_if_neF (xi := 4) (zi := 0) m88_10 rfl rfl (by decide) ?_
    refine g_iinc (x2 := (5 : Int32)) (L2 := [some (.int (4)), some (.int (10)), some (.int (5))]) m88_21 rfl (by decide) rfl rfl ?_
    refine g_goto m88_24 ?_
    refine g_iload_n m88_2 rfl ?_
    refine g_iconst m88_3 ?_
    refine h_ic_leF (xi := 5) (zi := 1) m88_4 rfl rfl (by decide) ?_
    refine g_iload_n m88_7 rfl ?_
    refine g_iload_n m88_8 rfl ?_
    refine g_irem (u := (4 : Int32)) m88_9 (by decide) (by decide) ?_
    refine h_if_neF (xi := 4) (zi := 0) m88_10 rfl rfl (by decide) ?_
    refine g_iinc (x2 := (4 : Int32)) (L2 := [some (.int (4)), some (.int (10)), some (.int (4))]) m88_21 rfl (by decide) rfl rfl ?_
    refine g_goto m88_24 ?_
    refine g_iload_n m88_2 rfl ?_
    refine g_iconst m88_3 ?_
    refine h_ic_leF (xi := 4) (zi := 1) m88_4 rfl rfl (by decide) ?_
    refine g_iload_n m88_7 rfl ?_
    refine g_iload_n m88_8 rfl ?_
    refine g_irem (u := (0 : Int32)) m88_9 (by decide) (by decide) ?_
    refine h_if_neT (xi := 0) (zi := 0) m88_10 rfl rfl (by decide) ?_
    refine g_iload_n m88_13 rfl ?_
    refine g_iload_n m88_14 rfl ?_
    refine g_irem (u := (2 : Int32)) m88_15 (by decide) (by decide) ?_
    refine h_if_neF (xi := 2) (zi := 0) m88_16 rfl rfl (by decide) ?_
    refine g_iinc (x2 := (3 : Int32)) (L2 := [some (.int (4)), some (.int (10)), some (.int (3))]) m88_21 rfl (by decide) rfl rfl ?_
    refine g_goto m88_24 ?_
    refine g_iload_n m88_2 rfl ?_
    refine g_iconst m88_3 ?_
    refine h_ic_leF (xi := 3) (zi := 1) m88_4 rfl rfl (by decide) ?_
    refine g_iload_n m88_7 rfl ?_
    refine g_iload_n m88_8 rfl ?_
    refine g_irem (u := (1 : Int32)) m88_9 (by decide) (by decide) ?_
    refine h_if_neF (xi := 1) (zi := 0) m88_10 rfl rfl (by decide) ?_
    refine g_iinc (x2 := (2 : Int32)) (L2 := [some (.int (4)), some (.int (10)), some (.int (2))]) m88_21 rfl (by decide) rfl rfl ?_
    refine g_goto m88_24 ?_
    refine g_iload_n m88_2 rfl ?_
    refine g_iconst m88_3 ?_
    refine h_ic_leF (xi := 2) (zi := 1) m88_4 rfl rfl (by decide) ?_
    refine g_iload_n m88_7 rfl ?_
    refine g_iload_n m88_8 rfl ?_
    refine g_irem (u := (0 : Int32)) m88_9 (by decide) (by decide) ?_
    refine h_if_neT (xi := 0) (zi := 0) m88_10 rfl rfl (by decide) ?_
    refine g_iload_n m88_13 rfl ?_
    refine g_iload_n m88_14 rfl ?_
    refine g_irem (u := (0 : Int32)) m88_15 (by decide) (by decide) ?_
    refine h_if_neT (xi := 0) (zi := 0) m88_16 rfl rfl (by decide) ?_
    refine g_iload_n m88_19 rfl ?_
    refine g_iret m88_20 rt_88 ?_
    exact hQ
  · skip
    refine gwl (L' := [some (.int 5), some (.int 10), none]) rfl ?_
    refine g_iload_n m88_0 rfl ?_
    refine g_istore_n (L2 := [some (.int (5)), some (.int (10)), some (.int (10))]) m88_1 rfl rfl ?_
    refine g_iload_n m88_2 rfl ?_
    refine g_iconst m88_3 ?_
    refine h_ic_leF (xi := 10) (zi := 1) m88_4 rfl rfl (by decide) ?_
    refine g_iload_n m88_7 rfl ?_
    refine g_iload_n m88_8 rfl ?_
    refine g_irem (u := (5 : Int32)) m88_9 (by decide) (by decide) ?_
    refine h_if_neF (xi := 5) (zi := 0) m88_10 rfl rfl (by decide) ?_
    refine g_iinc (x2 := (9 : Int32)) (L2 := [some (.int (5)), some (.int (10)), some (.int (9))]) m88_21 rfl (by decide) rfl rfl ?_
    refine g_goto m88_24 ?_
    refine g_iload_n m88_2 rfl ?_
    refine g_iconst m88_3 ?_
    refine h_ic_leF (xi := 9) (zi := 1) m88_4 rfl rfl (by decide) ?_
    refine g_iload_n m88_7 rfl ?_
    refine g_iload_n m88_8 rfl ?_
    refine g_irem (u := (5 : Int32)) m88_9 (by decide) (by decide) ?_
    refine h_if_neF (xi := 5) (zi := 0) m88_10 rfl rfl (by decide) ?_
    refine g_iinc (x2 := (8 : Int32)) (L2 := [some (.int (5)), some (.int (10)), some (.int (8))]) m88_21 rfl (by decide) rfl rfl ?_
    refine g_goto m88_24 ?_
    refine g_iload_n m88_2 rfl ?_
    refine g_iconst m88_3 ?_
    refine h_ic_leF (xi := 8) (zi := 1) m88_4 rfl rfl (by decide) ?_
    refine g_iload_n m88_7 rfl ?_
    refine g_iload_n m88_8 rfl ?_
    refine g_irem (u := (5 : Int32)) m88_9 (by decide) (by decide) ?_
    refine h_if_neF (xi := 5) (zi := 0) m88_10 rfl rfl (by decide) ?_
    refine g_iinc (x2 := (7 : Int32)) (L2 := [some (.int (5)), some (.int (10)), some (.int (7))]) m88_21 rfl (by decide) rfl rfl ?_
    refine g_goto m88_24 ?_
    refine g_iload_n m88_2 rfl ?_
    refine g_iconst m88_3 ?_
    refine h_ic_leF (xi := 7) (zi := 1) m88_4 rfl rfl (by decide) ?_
    refine g_iload_n m88_7 rfl ?_
    refine g_iload_n m88_8 rfl ?_
    refine g_irem (u := (5 : Int32)) m88_9 (by decide) (by decide) ?_
    refine h_if_neF (xi := 5) (zi := 0) m88_10 rfl rfl (by decide) ?_
    refine g_iinc (x2 := (6 : Int32)) (L2 := [some (.int (5)), some (.int (10)), some (.int (6))]) m88_21 rfl (by decide) rfl rfl ?_
    refine g_goto m88_24 ?_
    refine g_iload_n m88_2 rfl ?_
    refine g_iconst m88_3 ?_
    refine h_ic_leF (xi := 6) (zi := 1) m88_4 rfl rfl (by decide) ?_
    refine g_iload_n m88_7 rfl ?_
    refine g_iload_n m88_8 rfl ?_
    refine g_irem (u := (5 : Int32)) m88_9 (by decide) (by decide) ?_
    refine h_if_neF (xi := 5) (zi := 0) m88_10 rfl rfl (by decide) ?_
    refine g_iinc (x2 := (5 : Int32)) (L2 := [some (.int (5)), some (.int (10)), some (.int (5))]) m88_21 rfl (by decide) rfl rfl ?_
    refine g_goto m88_24 ?_
    refine g_iload_n m88_2 rfl ?_
    refine g_iconst m88_3 ?_
    refine h_ic_leF (xi := 5) (zi := 1) m88_4 rfl rfl (by decide) ?_
    refine g_iload_n m88_7 rfl ?_
    refine g_iload_n m88_8 rfl ?_
    refine g_irem (u := (0 : Int32)) m88_9 (by decide) (by decide) ?_
    refine h_if_neT (xi := 0) (zi := 0) m88_10 rfl rfl (by decide) ?_
    refine g_iload_n m88_13 rfl ?_
    refine g_iload_n m88_14 rfl ?_
    refine g_irem (u := (0 : Int32)) m88_15 (by decide) (by decide) ?_
    refine h_if_neT (xi := 0) (zi := 0) m88_16 rfl rfl (by decide) ?_
    refine g_iload_n m88_19 rfl ?_
    refine g_iret m88_20 rt_88 ?_
    exact hQ
  · skip
    refine gwl (L' := [some (.int 6), some (.int 10), none]) rfl ?_
    refine g_iload_n m88_0 rfl ?_
    refine g_istore_n (L2 := [some (.int (6)), some (.int (10)), some (.int (10))]) m88_1 rfl rfl ?_
    refine g_iload_n m88_2 rfl ?_
    refine g_iconst m88_3 ?_
    refine h_ic_leF (xi := 10) (zi := 1) m88_4 rfl rfl (by decide) ?_
    refine g_iload_n m88_7 rfl ?_
    refine g_iload_n m88_8 rfl ?_
    refine g_irem (u := (6 : Int32)) m88_9 (by decide) (by decide) ?_
    refine h_if_neF (xi := 6) (zi := 0) m88_10 rfl rfl (by decide) ?_
    refine g_iinc (x2 := (9 : Int32)) (L2 := [some (.int (6)), some (.int (10)), some (.int (9))]) m88_21 rfl (by decide) rfl rfl ?_
    refine g_goto m88_24 ?_
    refine g_iload_n m88_2 rfl ?_
    refine g_iconst m88_3 ?_
    refine h_ic_leF (xi := 9) (zi := 1) m88_4 rfl rfl (by decide) ?_
    refine g_iload_n m88_7 rfl ?_
    refine g_iload_n m88_8 rfl ?_
    refine g_irem (u := (6 : Int32)) m88_9 (by decide) (by decide) ?_
    refine h_if_neF (xi := 6) (zi := 0) m88_10 rfl rfl (by decide) ?_
    refine g_iinc (x2 := (8 : Int32)) (L2 := [some (.int (6)), some (.int (10)), some (.int (8))]) m88_21 rfl (by decide) rfl rfl ?_
    refine g_goto m88_24 ?_
    refine g_iload_n m88_2 rfl ?_
    refine g_iconst m88_3 ?_
    refine h_ic_leF (xi := 8) (zi := 1) m88_4 rfl rfl (by decide) ?_
    refine g_iload_n m88_7 rfl ?_
    refine g_iload_n m88_8 rfl ?_
    refine g_irem (u := (6 : Int32)) m88_9 (by decide) (by decide) ?_
    refine h_if_neF (xi := 6) (zi := 0) m88_10 rfl rfl (by decide) ?_
    refine g_iinc (x2 := (7 : Int32)) (L2 := [some (.int (6)), some (.int (10)), some (.int (7))]) m88_21 rfl (by decide) rfl rfl ?_
    refine g_goto m88_24 ?_
    refine g_iload_n m88_2 rfl ?_
    refine g_iconst m88_3 ?_
    refine h_ic_leF (xi := 7) (zi := 1) m88_4 rfl rfl (by decide) ?_
    refine g_iload_n m88_7 rfl ?_
    refine g_iload_n m88_8 rfl ?_
    refine g_irem (u := (6 : Int32)) m88_9 (by decide) (by decide) ?_
    refine h_if_neF (xi := 6) (zi := 0) m88_10 rfl rfl (by decide) ?_
    refine g_iinc (x2 := (6 : Int32)) (L2 := [some (.int (6)), some (.int (10)), some (.int (6))]) m88_21 rfl (by decide) rfl rfl ?_
    refine g_goto m88_24 ?_
    refine g_iload_n m88_2 rfl ?_
    refine g_iconst m88_3 ?_
    refine h_ic_leF (xi := 6) (zi := 1) m88_4 rfl rfl (by decide) ?_
    refine g_iload_n m88_7 rfl ?_
    refine g_iload_n m88_8 rfl ?_
    refine g_irem (u := (0 : Int32)) m88_9 (by decide) (by decide) ?_
    refine h_if_neT (xi := 0) (zi := 0) m88_10 rfl rfl (by decide) ?_
    refine g_iload_n m88_13 rfl ?_
    refine g_iload_n m88_14 rfl ?_
    refine g_irem (u := (4 : Int32)) m88_15 (by decide) (by decide) ?_
    refine h_if_neF (xi := 4) (zi := 0) m88_16 rfl rfl (by decide) ?_
    refine g_iinc (x2 := (5 : Int32)) (L2 := [some (.int (6)), some (.int (10)), some (.int (5))]) m88_21 rfl (by decide) rfl rfl ?_
    refine g_goto m88_24 ?_
    refine g_iload_n m88_2 rfl ?_
    refine g_iconst m88_3 ?_
    refine h_ic_leF (xi := 5) (zi := 1) m88_4 rfl rfl (by decide) ?_
    refine g_iload_n m88_7 rfl ?_
    refine g_iload_n m88_8 rfl ?_
    refine g_irem (u := (1 : Int32)) m88_9 (by decide) (by decide) ?_
    refine h_if_neF (xi := 1) (zi := 0) m88_10 rfl rfl (by decide) ?_
    refine g_iinc (x2 := (4 : Int32)) (L2 := [some (.int (6)), some (.int (10)), some (.int (4))]) m88_21 rfl (by decide) rfl rfl ?_
    refine g_goto m88_24 ?_
    refine g_iload_n m88_2 rfl ?_
    refine g_iconst m88_3 ?_
    refine h_ic_leF (xi := 4) (zi := 1) m88_4 rfl rfl (by decide) ?_
    refine g_iload_n m88_7 rfl ?_
    refine g_iload_n m88_8 rfl ?_
    refine g_irem (u := (2 : Int32)) m88_9 (by decide) (by decide) ?_
    refine h_if_neF (xi := 2) (zi := 0) m88_10 rfl rfl (by decide) ?_
    refine g_iinc (x2 := (3 : Int32)) (L2 := [some (.int (6)), some (.int (10)), some (.int (3))]) m88_21 rfl (by decide) rfl rfl ?_
    refine g_goto m88_24 ?_
    refine g_iload_n m88_2 rfl ?_
    refine g_iconst m88_3 ?_
    refine h_ic_leF (xi := 3) (zi := 1) m88_4 rfl rfl (by decide) ?_
    refine g_iload_n m88_7 rfl ?_
    refine g_iload_n m88_8 rfl ?_
    refine g_irem (u := (0 : Int32)) m88_9 (by decide) (by decide) ?_
    refine h_if_neT (xi := 0) (zi := 0) m88_10 rfl rfl (by decide) ?_
    refine g_iload_n m88_13 rfl ?_
    refine g_iload_n m88_14 rfl ?_
    refine g_irem (u := (1 : Int32)) m88_15 (by decide) (by decide) ?_
    refine h_if_neF (xi := 1) (zi := 0) m88_16 rfl rfl (by decide) ?_
    refine g_iinc (x2 := (2 : Int32)) (L2 := [some (.int (6)), some (.int (10)), some (.int (2))]) m88_21 rfl (by decide) rfl rfl ?_
    refine g_goto m88_24 ?_
    refine g_iload_n m88_2 rfl ?_
    refine g_iconst m88_3 ?_
    refine h_ic_leF (xi := 2) (zi := 1) m88_4 rfl rfl (by decide) ?_
    refine g_iload_n m88_7 rfl ?_
    refine g_iload_n m88_8 rfl ?_
    refine g_irem (u := (0 : Int32)) m88_9 (by decide) (by decide) ?_
    refine h_if_neT (xi := 0) (zi := 0) m88_10 rfl rfl (by decide) ?_
    refine g_iload_n m88_13 rfl ?_
    refine g_iload_n m88_14 rfl ?_
    refine g_irem (u := (0 : Int32)) m88_15 (by decide) (by decide) ?_
    refine h_if_neT (xi := 0) (zi := 0) m88_16 rfl rfl (by decide) ?_
    refine g_iload_n m88_19 rfl ?_
    refine g_iret m88_20 rt_88 ?_
    exact hQ
  · skip
    refine gwl (L' := [some (.int 7), some (.int 10), none]) rfl ?_
    refine g_iload_n m88_0 rfl ?_
    refine g_istore_n (L2 := [some (.int (7)), some (.int (10)), some (.int (10))]) m88_1 rfl rfl ?_
    refine g_iload_n m88_2 rfl ?_
    refine g_iconst m88_3 ?_
    refine h_ic_leF (xi := 10) (zi := 1) m88_4 rfl rfl (by decide) ?_
    refine g_iload_n m88_7 rfl ?_
    refine g_iload_n m88_8 rfl ?_
    refine g_irem (u := (7 : Int32)) m88_9 (by decide) (by decide) ?_
    refine h_if_neF (xi := 7) (zi := 0) m88_10 rfl rfl (by decide) ?_
    refine g_iinc (x2 := (9 : Int32)) (L2 := [some (.int (7)), some (.int (10)), some (.int (9))]) m88_21 rfl (by decide) rfl rfl ?_
    refine g_goto m88_24 ?_
    refine g_iload_n m88_2 rfl ?_
    refine g_iconst m88_3 ?_
    refine h_ic_leF (xi := 9) (zi := 1) m88_4 rfl rfl (by decide) ?_
    refine g_iload_n m88_7 rfl ?_
    refine g_iload_n m88_8 rfl ?_
    refine g_irem (u := (7 : Int32)) m88_9 (by decide) (by decide) ?_
    refine h_if_neF (xi := 7) (zi := 0) m88_10 rfl rfl (by decide) ?_
    refine g_iinc (x2 := (8 : Int32)) (L2 := [some (.int (7)), some (.int (10)), some (.int (8))]) m88_21 rfl (by decide) rfl rfl ?_
    refine g_goto m88_24 ?_
    refine g_iload_n m88_2 rfl ?_
    refine g_iconst m88_3 ?_
    refine h_ic_leF (xi := 8) (zi := 1) m88_4 rfl rfl (by decide) ?_
    refine g_iload_n m88_7 rfl ?_
    refine g_iload_n m88_8 rfl ?_
    refine g_irem (u := (7 : Int32)) m88_9 (by decide) (by decide) ?_
    refine h_if_neF (xi := 7) (zi := 0) m88_10 rfl rfl (by decide) ?_
    refine g_iinc (x2 := (7 : Int32)) (L2 := [some (.int (7)), some (.int (10)), some (.int (7))]) m88_21 rfl (by decide) rfl rfl ?_
    refine g_goto m88_24 ?_
    refine g_iload_n m88_2 rfl ?_
    refine g_iconst m88_3 ?_
    refine h_ic_leF (xi := 7) (zi := 1) m88_4 rfl rfl (by decide) ?_
    refine g_iload_n m88_7 rfl ?_
    refine g_iload_n m88_8 rfl ?_
    refine g_irem (u := (0 : Int32)) m88_9 (by decide) (by decide) ?_
    refine h_if_neT (xi := 0) (zi := 0) m88_10 rfl rfl (by decide) ?_
    refine g_iload_n m88_13 rfl ?_
    refine g_iload_n m88_14 rfl ?_
    refine g_irem (u := (3 : Int32)) m88_15 (by decide) (by decide) ?_
    refine h_if_neF (xi := 3) (zi := 0) m88_16 rfl rfl (by decide) ?_
    refine g_iinc (x2 := (6 : Int32)) (L2 := [some (.int (7)), some (.int (10)), some (.int (6))]) m88_21 rfl (by decide) rfl rfl ?_
    refine g_goto m88_24 ?_
    refine g_iload_n m88_2 rfl ?_
    refine g_iconst m88_3 ?_
    refine h_ic_leF (xi := 6) (zi := 1) m88_4 rfl rfl (by decide) ?_
    refine g_iload_n m88_7 rfl ?_
    refine g_iload_n m88_8 rfl ?_
    refine g_irem (u := (1 : Int32)) m88_9 (by decide) (by decide) ?_
    refine h_if_neF (xi := 1) (zi := 0) m88_10 rfl rfl (by decide) ?_
    refine g_iinc (x2 := (5 : Int32)) (L2 := [some (.int (7)), some (.int (10)), some (.int (5))]) m88_21 rfl (by decide) rfl rfl ?_
    refine g_goto m88_24 ?_
    refine g_iload_n m88_2 rfl ?_
    refine g_iconst m88_3 ?_
    refine h_ic_leF (xi := 5) (zi := 1) m88_4 rfl rfl (by decide) ?_
    refine g_iload_n m88_7 rfl ?_
    refine g_iload_n m88_8 rfl ?_
    refine g_irem (u := (2 : Int32)) m88_9 (by decide) (by decide) ?_
    refine h_if_neF (xi := 2) (zi := 0) m88_10 rfl rfl (by decide) ?_
    refine g_iinc (x2 := (4 : Int32)) (L2 := [some (.int (7)), some (.int (10)), some (.int (4))]) m88_21 rfl (by decide) rfl rfl ?_
    refine g_goto m88_24 ?_
    refine g_iload_n m88_2 rfl ?_
    refine g_iconst m88_3 ?_
    refine h_ic_leF (xi := 4) (zi := 1) m88_4 rfl rfl (by decide) ?_
    refine g_iload_n m88_7 rfl ?_
    refine g_iload_n m88_8 rfl ?_
    refine g_irem (u := (3 : Int32)) m88_9 (by decide) (by decide) ?_
    refine h_if_neF (xi := 3) (zi := 0) m88_10 rfl rfl (by decide) ?_
    refine g_iinc (x2 := (3 : Int32)) (L2 := [some (.int (7)), some (.int (10)), some (.int (3))]) m88_21 rfl (by decide) rfl rfl ?_
    refine g_goto m88_24 ?_
    refine g_iload_n m88_2 rfl ?_
    refine g_iconst m88_3 ?_
    refine h_ic_leF (xi := 3) (zi := 1) m88_4 rfl rfl (by decide) ?_
    refine g_iload_n m88_7 rfl ?_
    refine g_iload_n m88_8 rfl ?_
    refine g_irem (u := (1 : Int32)) m88_9 (by decide) (by decide) ?_
    refine h_if_neF (xi := 1) (zi := 0) m88_10 rfl rfl (by decide) ?_
    refine g_iinc (x2 := (2 : Int32)) (L2 := [some (.int (7)), some (.int (10)), some (.int (2))]) m88_21 rfl (by decide) rfl rfl ?_
    refine g_goto m88_24 ?_
    refine g_iload_n m88_2 rfl ?_
    refine g_iconst m88_3 ?_
    refine h_ic_leF (xi := 2) (zi := 1) m88_4 rfl rfl (by decide) ?_
    refine g_iload_n m88_7 rfl ?_
    refine g_iload_n m88_8 rfl ?_
    refine g_irem (u := (1 : Int32)) m88_9 (by decide) (by decide) ?_
    refine h_if_neF (xi := 1) (zi := 0) m88_10 rfl rfl (by decide) ?_
    refine g_iinc (x2 := (1 : Int32)) (L2 := [some (.int (7)), some (.int (10)), some (.int (1))]) m88_21 rfl (by decide) rfl rfl ?_
    refine g_goto m88_24 ?_
    refine g_iload_n m88_2 rfl ?_
    refine g_iconst m88_3 ?_
    refine h_ic_leT (xi := 1) (zi := 1) m88_4 rfl rfl (by decide) ?_
    refine g_iconst m88_27 ?_
    refine g_iret m88_28 rt_88 ?_
    exact hQ
  · skip
    refine gwl (L' := [some (.int 8), some (.int 10), none]) rfl ?_
    refine g_iload_n m88_0 rfl ?_
    refine g_istore_n (L2 := [some (.int (8)), some (.int (10)), some (.int (10))]) m88_1 rfl rfl ?_
    refine g_iload_n m88_2 rfl ?_
    refine g_iconst m88_3 ?_
    refine h_ic_leF (xi := 10) (zi := 1) m88_4 rfl rfl (by decide) ?_
    refine g_iload_n m88_7 rfl ?_
    refine g_iload_n m88_8 rfl ?_
    refine g_irem (u := (8 : Int32)) m88_9 (by decide) (by decide) ?_
    refine h_if_neF (xi := 8) (zi := 0) m88_10 rfl rfl (by decide) ?_
    refine g_iinc (x2 := (9 : Int32)) (L2 := [some (.int (8)), some (.int (10)), some (.int (9))]) m88_21 rfl (by decide) rfl rfl ?_
    refine g_goto m88_24 ?_
    refine g_iload_n m88_2 rfl ?_
    refine g_iconst m88_3 ?_
    refine h_ic_leF (xi := 9) (zi := 1) m88_4 rfl rfl (by decide) ?_
    refine g_iload_n m88_7 rfl ?_
    refine g_iload_n m88_8 rfl ?_
    refine g_irem (u := (8 : Int32)) m88_9 (by decide) (by decide) ?_
    refine h_if_neF (xi := 8) (zi := 0) m88_10 rfl rfl (by decide) ?_
    refine g_iinc (x2 := (8 : Int32)) (L2 := [some (.int (8)), some (.int (10)), some (.int (8))]) m88_21 rfl (by decide) rfl rfl ?_
    refine g_goto m88_24 ?_
    refine g_iload_n m88_2 rfl ?_
    refine g_iconst m88_3 ?_
    refine h_ic_leF (xi := 8) (zi := 1) m88_4 rfl rfl (by decide) ?_
    refine g_iload_n m88_7 rfl ?_
    refine g_iload_n m88_8 rfl ?_
    refine g_irem (u := (0 : Int32)) m88_9 (by decide) (by decide) ?_
    refine h_if_neT (xi := 0) (zi := 0) m88_10 rfl rfl (by decide) ?_
    refine g_iload_n m88_13 rfl ?_
    refine g_iload_n m88_14 rfl ?_
    refine g_irem (u := (2 : Int32)) m88_15 (by decide) (by decide) ?_
    refine h_if_neF (xi := 2) (zi := 0) m88_16 rfl rfl (by decide) ?_
    refine g_iinc (x2 := (7 : Int32)) (L2 := [some (.int (8)), some (.int (10)), some (.int (7))]) m88_21 rfl (by decide) rfl rfl ?_
    refine g_goto m88_24 ?_
    refine g_iload_n m88_2 rfl ?_
    refine g_iconst m88_3 ?_
    refine h_ic_leF (xi := 7) (zi := 1) m88_4 rfl rfl (by decide) ?_
    refine g_iload_n m88_7 rfl ?_
    refine g_iload_n m88_8 rfl ?_
    refine g_irem (u := (1 : Int32)) m88_9 (by decide) (by decide) ?_
    refine h_if_neF (xi := 1) (zi := 0) m88_10 rfl rfl (by decide) ?_
    refine g_iinc (x2 := (6 : Int32)) (L2 := [some (.int (8)), some (.int (10)), some (.int (6))]) m88_21 rfl (by decide) rfl rfl ?_
    refine g_goto m88_24 ?_
    refine g_iload_n m88_2 rfl ?_
    refine g_iconst m88_3 ?_
    refine h_ic_leF (xi := 6) (zi := 1) m88_4 rfl rfl (by decide) ?_
    refine g_iload_n m88_7 rfl ?_
    refine g_iload_n m88_8 rfl ?_
    refine g_irem (u := (2 : Int32)) m88_9 (by decide) (by decide) ?_
    refine h_if_neF (xi := 2) (zi := 0) m88_10 rfl rfl (by decide) ?_
    refine g_iinc (x2 := (5 : Int32)) (L2 := [some (.int (8)), some (.int (10)), some (.int (5))]) m88_21 rfl (by decide) rfl rfl ?_
    refine g_goto m88_24 ?_
    refine g_iload_n m88_2 rfl ?_
    refine g_iconst m88_3 ?_
    refine h_ic_leF (xi := 5) (zi := 1) m88_4 rfl rfl (by decide) ?_
    refine g_iload_n m88_7 rfl ?_
    refine g_iload_n m88_8 rfl ?_
    refine g_irem (u := (3 : Int32)) m88_9 (by decide) (by decide) ?_
    refine h_if_neF (xi := 3) (zi := 0) m88_10 rfl rfl (by decide) ?_
    refine g_iinc (x2 := (4 : Int32)) (L2 := [some (.int (8)), some (.int (10)), some (.int (4))]) m88_21 rfl (by decide) rfl rfl ?_
    refine g_goto m88_24 ?_
    refine g_iload_n m88_2 rfl ?_
    refine g_iconst m88_3 ?_
    refine h_ic_leF (xi := 4) (zi := 1) m88_4 rfl rfl (by decide) ?_
    refine g_iload_n m88_7 rfl ?_
    refine g_iload_n m88_8 rfl ?_
    refine g_irem (u := (0 : Int32)) m88_9 (by decide) (by decide) ?_
    refine h_if_neT (xi := 0) (zi := 0) m88_10 rfl rfl (by decide) ?_
    refine g_iload_n m88_13 rfl ?_
    refine g_iload_n m88_14 rfl ?_
    refine g_irem (u := (2 : Int32)) m88_15 (by decide) (by decide) ?_
    refine h_if_neF (xi := 2) (zi := 0) m88_16 rfl rfl (by decide) ?_
    refine g_iinc (x2 := (3 : Int32)) (L2 := [some (.int (8)), some (.int (10)), some (.int (3))]) m88_21 rfl (by decide) rfl rfl ?_
    refine g_goto m88_24 ?_
    refine g_iload_n m88_2 rfl ?_
    refine g_iconst m88_3 ?_
    refine h_ic_leF (xi := 3) (zi := 1) m88_4 rfl rfl (by decide) ?_
    refine g_iload_n m88_7 rfl ?_
    refine g_iload_n m88_8 rfl ?_
    refine g_irem (u := (2 : Int32)) m88_9 (by decide) (by decide) ?_
    refine h_if_neF (xi := 2) (zi := 0) m88_10 rfl rfl (by decide) ?_
    refine g_iinc (x2 := (2 : Int32)) (L2 := [some (.int (8)), some (.int (10)), some (.int (2))]) m88_21 rfl (by decide) rfl rfl ?_
    refine g_goto m88_24 ?_
    refine g_iload_n m88_2 rfl ?_
    refine g_iconst m88_3 ?_
    refine h_ic_leF (xi := 2) (zi := 1) m88_4 rfl rfl (by decide) ?_
    refine g_iload_n m88_7 rfl ?_
    refine g_iload_n m88_8 rfl ?_
    refine g_irem (u := (0 : Int32)) m88_9 (by decide) (by decide) ?_
    refine h_if_neT (xi := 0) (zi := 0) m88_10 rfl rfl (by decide) ?_
    refine g_iload_n m88_13 rfl ?_
    refine g_iload_n m88_14 rfl ?_
    refine g_irem (u := (0 : Int32)) m88_15 (by decide) (by decide) ?_
    refine h_if_neT (xi := 0) (zi := 0) m88_16 rfl rfl (by decide) ?_
    refine g_iload_n m88_19 rfl ?_
    refine g_iret m88_20 rt_88 ?_
    exact hQ
  · skip
    refine gwl (L' := [some (.int 9), some (.int 10), none]) rfl ?_
    refine g_iload_n m88_0 rfl ?_
    refine g_istore_n (L2 := [some (.int (9)), some (.int (10)), some (.int (10))]) m88_1 rfl rfl ?_
    refine g_iload_n m88_2 rfl ?_
    refine g_iconst m88_3 ?_
    refine h_ic_leF (xi := 10) (zi := 1) m88_4 rfl rfl (by decide) ?_
    refine g_iload_n m88_7 rfl ?_
    refine g_iload_n m88_8 rfl ?_
    refine g_irem (u := (9 : Int32)) m88_9 (by decide) (by decide) ?_
    refine h_if_neF (xi := 9) (zi := 0) m88_10 rfl rfl (by decide) ?_
    refine g_iinc (x2 := (9 : Int32)) (L2 := [some (.int (9)), some (.int (10)), some (.int (9))]) m88_21 rfl (by decide) rfl rfl ?_
    refine g_goto m88_24 ?_
    refine g_iload_n m88_2 rfl ?_
    refine g_iconst m88_3 ?_
    refine h_ic_leF (xi := 9) (zi := 1) m88_4 rfl rfl (by decide) ?_
    refine g_iload_n m88_7 rfl ?_
    refine g_iload_n m88_8 rfl ?_
    refine g_irem (u := (0 : Int32)) m88_9 (by decide) (by decide) ?_
    refine h_if_neT (xi := 0) (zi := 0) m88_10 rfl rfl (by decide) ?_
    refine g_iload_n m88_13 rfl ?_
    refine g_iload_n m88_14 rfl ?_
    refine g_irem (u := (1 : Int32)) m88_15 (by decide) (by decide) ?_
    refine h_if_neF (xi := 1) (zi := 0) m88_16 rfl rfl (by decide) ?_
    refine g_iinc (x2 := (8 : Int32)) (L2 := [some (.int (9)), some (.int (10)), some (.int (8))]) m88_21 rfl (by decide) rfl rfl ?_
    refine g_goto m88_24 ?_
    refine g_iload_n m88_2 rfl ?_
    refine g_iconst m88_3 ?_
    refine h_ic_leF (xi := 8) (zi := 1) m88_4 rfl rfl (by decide) ?_
    refine g_iload_n m88_7 rfl ?_
    refine g_iload_n m88_8 rfl ?_
    refine g_irem (u := (1 : Int32)) m88_9 (by decide) (by decide) ?_
    refine h_if_neF (xi := 1) (zi := 0) m88_10 rfl rfl (by decide) ?_
    refine g_iinc (x2 := (7 : Int32)) (L2 := [some (.int (9)), some (.int (10)), some (.int (7))]) m88_21 rfl (by decide) rfl rfl ?_
    refine g_goto m88_24 ?_
    refine g_iload_n m88_2 rfl ?_
    refine g_iconst m88_3 ?_
    refine h_ic_leF (xi := 7) (zi := 1) m88_4 rfl rfl (by decide) ?_
    refine g_iload_n m88_7 rfl ?_
    refine g_iload_n m88_8 rfl ?_
    refine g_irem (u := (2 : Int32)) m88_9 (by decide) (by decide) ?_
    refine h_if_neF (xi := 2) (zi := 0) m88_10 rfl rfl (by decide) ?_
    refine g_iinc (x2 := (6 : Int32)) (L2 := [some (.int (9)), some (.int (10)), some (.int (6))]) m88_21 rfl (by decide) rfl rfl ?_
    refine g_goto m88_24 ?_
    refine g_iload_n m88_2 rfl ?_
    refine g_iconst m88_3 ?_
    refine h_ic_leF (xi := 6) (zi := 1) m88_4 rfl rfl (by decide) ?_
    refine g_iload_n m88_7 rfl ?_
    refine g_iload_n m88_8 rfl ?_
    refine g_irem (u := (3 : Int32)) m88_9 (by decide) (by decide) ?_
    refine h_if_neF (xi := 3) (zi := 0) m88_10 rfl rfl (by decide) ?_
    refine g_iinc (x2 := (5 : Int32)) (L2 := [some (.int (9)), some (.int (10)), some (.int (5))]) m88_21 rfl (by decide) rfl rfl ?_
    refine g_goto m88_24 ?_
    refine g_iload_n m88_2 rfl ?_
    refine g_iconst m88_3 ?_
    refine h_ic_leF (xi := 5) (zi := 1) m88_4 rfl rfl (by decide) ?_
    refine g_iload_n m88_7 rfl ?_
    refine g_iload_n m88_8 rfl ?_
    refine g_irem (u := (4 : Int32)) m88_9 (by decide) (by decide) ?_
    refine h_if_neF (xi := 4) (zi := 0) m88_10 rfl rfl (by decide) ?_
    refine g_iinc (x2 := (4 : Int32)) (L2 := [some (.int (9)), some (.int (10)), some (.int (4))]) m88_21 rfl (by decide) rfl rfl ?_
    refine g_goto m88_24 ?_
    refine g_iload_n m88_2 rfl ?_
    refine g_iconst m88_3 ?_
    refine h_ic_leF (xi := 4) (zi := 1) m88_4 rfl rfl (by decide) ?_
    refine g_iload_n m88_7 rfl ?_
    refine g_iload_n m88_8 rfl ?_
    refine g_irem (u := (1 : Int32)) m88_9 (by decide) (by decide) ?_
    refine h_if_neF (xi := 1) (zi := 0) m88_10 rfl rfl (by decide) ?_
    refine g_iinc (x2 := (3 : Int32)) (L2 := [some (.int (9)), some (.int (10)), some (.int (3))]) m88_21 rfl (by decide) rfl rfl ?_
    refine g_goto m88_24 ?_
    refine g_iload_n m88_2 rfl ?_
    refine g_iconst m88_3 ?_
    refine h_ic_leF (xi := 3) (zi := 1) m88_4 rfl rfl (by decide) ?_
    refine g_iload_n m88_7 rfl ?_
    refine g_iload_n m88_8 rfl ?_
    refine g_irem (u := (0 : Int32)) m88_9 (by decide) (by decide) ?_
    refine h_if_neT (xi := 0) (zi := 0) m88_10 rfl rfl (by decide) ?_
    refine g_iload_n m88_13 rfl ?_
    refine g_iload_n m88_14 rfl ?_
    refine g_irem (u := (1 : Int32)) m88_15 (by decide) (by decide) ?_
    refine h_if_neF (xi := 1) (zi := 0) m88_16 rfl rfl (by decide) ?_
    refine g_iinc (x2 := (2 : Int32)) (L2 := [some (.int (9)), some (.int (10)), some (.int (2))]) m88_21 rfl (by decide) rfl rfl ?_
    refine g_goto m88_24 ?_
    refine g_iload_n m88_2 rfl ?_
    refine g_iconst m88_3 ?_
    refine h_ic_leF (xi := 2) (zi := 1) m88_4 rfl rfl (by decide) ?_
    refine g_iload_n m88_7 rfl ?_
    refine g_iload_n m88_8 rfl ?_
    refine g_irem (u := (1 : Int32)) m88_9 (by decide) (by decide) ?_
    refine h_if_neF (xi := 1) (zi := 0) m88_10 rfl rfl (by decide) ?_
    refine g_iinc (x2 := (1 : Int32)) (L2 := [some (.int (9)), some (.int (10)), some (.int (1))]) m88_21 rfl (by decide) rfl rfl ?_
    refine g_goto m88_24 ?_
    refine g_iload_n m88_2 rfl ?_
    refine g_iconst m88_3 ?_
    refine h_ic_leT (xi := 1) (zi := 1) m88_4 rfl rfl (by decide) ?_
    refine g_iconst m88_27 ?_
    refine g_iret m88_28 rt_88 ?_
    exact hQ
  · skip
    refine gwl (L' := [some (.int 10), some (.int 10), none]) rfl ?_
    refine g_iload_n m88_0 rfl ?_
    refine g_istore_n (L2 := [some (.int (10)), some (.int (10)), some (.int (10))]) m88_1 rfl rfl ?_
    refine g_iload_n m88_2 rfl ?_
    refine g_iconst m88_3 ?_
    refine h_ic_leF (xi := 10) (zi := 1) m88_4 rfl rfl (by decide) ?_
    refine g_iload_n m88_7 rfl ?_
    refine g_iload_n m88_8 rfl ?_
    refine g_irem (u := (0 : Int32)) m88_9 (by decide) (by decide) ?_
    refine h_if_neT (xi := 0) (zi := 0) m88_10 rfl rfl (by decide) ?_
    refine g_iload_n m88_13 rfl ?_
    refine g_iload_n m88_14 rfl ?_
    refine g_irem (u := (0 : Int32)) m88_15 (by decide) (by decide) ?_
    refine h_if_neT (xi := 0) (zi := 0) m88_16 rfl rfl (by decide) ?_
    refine g_iload_n m88_19 rfl ?_
    refine g_iret m88_20 rt_88 ?_
    exact hQ
set_option maxRecDepth 20000 in
set_option maxHeartbeats 40000000 in
theorem x_odds {a v b : Int32} {n : Nat} (hd : m 1 10 = nI n) (hn : n ≤ 8) (h01 : ∀ j, j < 8 → m 8 j = 0 ∨ m 8 j = 1) (hW : WF (vw m 0)) (hL : LawsOk m ln N) (hix : LawIx N (m 1 11)) (hiy : LawIx N (m 1 12)) (hE1 : (a.toInt < 0 ∨ (n : Int) ≤ a.toInt ∨ v.toInt < 0 ∨ 60 < v.toInt ∨ b.toInt < 0 ∨ 1 < b.toInt) → Q (some (.int (-1000000000 - nI 1))) (H (erm m 1) ln N)) (hY0 : ∀ i k : Nat, a = nI i → i < n → v = nI k → k ≤ 60 → b = nI 0 → ∀ m2, FrT m m2 → Q (some (.int (nI ((cntF (fun s => moreN (lkF m ln (m 1 11)) (blF m ln (m 1 12)) (upm (vw m 0) 5 i (nI s)) k i) 10) / Nat.gcd (cntF (fun s => moreN (lkF m ln (m 1 11)) (blF m ln (m 1 12)) (upm (vw m 0) 5 i (nI s)) k i) 10) 10)))) (H m2 ln N)) (hY1 : ∀ i k : Nat, a = nI i → i < n → v = nI k → k ≤ 60 → b = nI 1 → ∀ m2, FrT m m2 → Q (some (.int (nI (10 / Nat.gcd (cntF (fun s => moreN (lkF m ln (m 1 11)) (blF m ln (m 1 12)) (upm (vw m 0) 5 i (nI s)) k i) 10) 10)))) (H m2 ln N))  : WP xs (d + 7) 89 0 0 [.ref (32), .int (a), .int (v), .int (b)] (H m ln N) Q := by
  refine wp_x mx_89 (L := [some (.ref (32)), some (.int (a)), some (.int (v)), some (.int (b)), none, none]) (Nat.le_of_ble_eq_true rfl) rfl ?_
  refine g_aload_n m89_0 rfl ?_
  refine g_iload_n m89_1 rfl ?_
  refine h_cv (k := 0) (p := 32) (args := [.int (a)]) (rest := []) m89_2 cn_60 (Nat.le_of_ble_eq_true rfl) rfl rfl rfl (t_0 _ _) (Nat.le_of_ble_eq_true rfl) ?_
  refine c_isDiner hd hn (fun ja ea a_3 => ?_) (fun a_3 => ?_)
  · subst ea
    refine gwr ?_
    refine h_if_eqF (xi := 1) (zi := 0) m89_5 rfl rfl (by decide) ?_
    refine g_iload_n m89_8 rfl ?_
    refine g_bipush m89_9 ?_
    refine g_cs (args := [.int (v), .int (60)]) (rest := []) 0 (Or.inl rfl) m89_11 (Nat.le_of_ble_eq_true rfl) rfl rfl (Nat.le_of_ble_eq_true rfl) ?_
    refine c_within (M := 60) rfl (fun jv ev a_4 => ?_) (fun a_4 => ?_)
    · subst ev
      refine gwr ?_
      refine h_if_eqF (xi := 1) (zi := 0) m89_14 rfl rfl (by decide) ?_
      refine g_iload_n m89_17 rfl ?_
      refine g_iconst m89_18 ?_
      refine g_cs (args := [.int (b), .int (1)]) (rest := []) 0 (Or.inl rfl) m89_19 (Nat.le_of_ble_eq_true rfl) rfl rfl (Nat.le_of_ble_eq_true rfl) ?_
      refine c_within (M := 1) rfl (fun jb eb a_5 => ?_) (fun a_5 => ?_)
      · subst eb
        refine gwr ?_
        refine h_if_neF (xi := 1) (zi := 0) m89_22 rfl rfl (by decide) ?_
        refine g_iconst m89_31 ?_
        refine g_istore (L2 := [some (.ref (32)), some (.int (nI (ja))), some (.int (nI (jv))), some (.int (nI (jb))), some (.int (0)), none]) m89_32 rfl rfl ?_
        refine g_iconst m89_34 ?_
        refine g_istore (L2 := [some (.ref (32)), some (.int (nI (ja))), some (.int (nI (jv))), some (.int (nI (jb))), some (.int (0)), some (.int (0))]) m89_35 rfl rfl ?_
        have hb10 : ∀ q, cntF (fun s => moreN (lkF m ln (m 1 11)) (blF m ln (m 1 12)) (upm (vw m 0) 5 ja (nI s)) jv ja) q ≤ q := cntF_le _
        have key : ∀ (r : Nat) (s : Nat) (m2 : MW), s + r = 10 → FrT m m2 → gw xs (WP xs (d + 6)) 89 Q 37 [some (.ref (32)), some (.int (nI (ja))), some (.int (nI (jv))), some (.int (nI (jb))), some (.int (nI (cntF (fun s => moreN (lkF m ln (m 1 11)) (blF m ln (m 1 12)) (upm (vw m 0) 5 ja (nI s)) jv ja) s))), some (.int (nI (s)))] [] (H m2 ln N) 0 0 := by
          intro r
          induction r with
          | zero =>
            intro s m2 hs hF
            obtain rfl : s = 10 := by omega
            refine g_iload m89_37 rfl ?_
            refine g_bipush m89_39 ?_
            refine h_ic_geT (xi := ((10 : Nat) : Int)) (zi := 10) m89_41 (nI_toInt (by omega)) rfl (by omega) ?_
            refine g_iload m89_67 rfl ?_
            refine g_bipush m89_69 ?_
            refine g_cs (args := [.int (nI (cntF (fun s => moreN (lkF m ln (m 1 11)) (blF m ln (m 1 12)) (upm (vw m 0) 5 ja (nI s)) jv ja) 10)), .int (10)]) (rest := []) 0 (Or.inl rfl) m89_71 (Nat.le_of_ble_eq_true rfl) rfl rfl (Nat.le_of_ble_eq_true rfl) ?_
            refine c_commonDivisor (hb10 10) ?_
            have hg1 : 0 < Nat.gcd (cntF (fun s => moreN (lkF m ln (m 1 11)) (blF m ln (m 1 12)) (upm (vw m 0) 5 ja (nI s)) jv ja) 10) 10 := Nat.gcd_pos_of_pos_right _ (by decide)
            have hg2 : Nat.gcd (cntF (fun s => moreN (lkF m ln (m 1 11)) (blF m ln (m 1 12)) (upm (vw m 0) 5 ja (nI s)) jv ja) 10) 10 ≤ 10 := Nat.gcd_le_right _ (by decide)
            refine gwr ?_
            refine g_istore (L2 := [some (.ref (32)), some (.int (nI (ja))), some (.int (nI (jv))), some (.int (nI (jb))), some (.int (nI (cntF (fun s => moreN (lkF m ln (m 1 11)) (blF m ln (m 1 12)) (upm (vw m 0) 5 ja (nI s)) jv ja) 10))), some (.int (nI (Nat.gcd (cntF (fun s => moreN (lkF m ln (m 1 11)) (blF m ln (m 1 12)) (upm (vw m 0) 5 ja (nI s)) jv ja) 10) 10)))]) m89_74 rfl rfl ?_
            refine g_iload_n m89_76 rfl ?_
            refine h_if_ne (xi := ((jb : Nat) : Int)) (zi := 0) m89_77 (nI_toInt (by omega)) rfl (fun c1 => ?_) (fun c1 => ?_)
            · skip
              refine g_iload m89_80 rfl ?_
              refine g_goto m89_82 ?_
              refine g_iload m89_87 rfl ?_
              refine g_idiv (u := nI ((cntF (fun s => moreN (lkF m ln (m 1 11)) (blF m ln (m 1 12)) (upm (vw m 0) 5 ja (nI s)) jv ja) 10) / (Nat.gcd (cntF (fun s => moreN (lkF m ln (m 1 11)) (blF m ln (m 1 12)) (upm (vw m 0) 5 ja (nI s)) jv ja) 10) 10))) m89_89 (nI_ne0 hg1 (by omega)) (pk_div (a := (cntF (fun s => moreN (lkF m ln (m 1 11)) (blF m ln (m 1 12)) (upm (vw m 0) 5 ja (nI s)) jv ja) 10)) (d := (Nat.gcd (cntF (fun s => moreN (lkF m ln (m 1 11)) (blF m ln (m 1 12)) (upm (vw m 0) 5 ja (nI s)) jv ja) 10) 10)) (by have := hb10 10; omega) hg1 (by omega)) ?_
              refine g_iret m89_90 rt_89 ?_
              obtain rfl : jb = 0 := by omega
              exact hY0 ja jv rfl (by omega) rfl (by omega) rfl m2 hF
            · skip
              refine g_bipush m89_85 ?_
              refine g_iload m89_87 rfl ?_
              refine g_idiv (u := nI (10 / (Nat.gcd (cntF (fun s => moreN (lkF m ln (m 1 11)) (blF m ln (m 1 12)) (upm (vw m 0) 5 ja (nI s)) jv ja) 10) 10))) m89_89 (nI_ne0 hg1 (by omega)) (pk_div (a := 10) (d := (Nat.gcd (cntF (fun s => moreN (lkF m ln (m 1 11)) (blF m ln (m 1 12)) (upm (vw m 0) 5 ja (nI s)) jv ja) 10) 10)) (by have := hb10 10; omega) hg1 (by omega)) ?_
              refine g_iret m89_90 rt_89 ?_
              obtain rfl : jb = 1 := by omega
              exact hY1 ja jv rfl (by omega) rfl (by omega) rfl m2 hF
          | succ r ih =>
            intro s m2 hs hF
            refine g_iload m89_37 rfl ?_
            refine g_bipush m89_39 ?_
            refine h_ic_geF (xi := ((s : Nat) : Int)) (zi := 10) m89_41 (nI_toInt (by omega)) rfl (by omega) ?_
            refine g_aload_n m89_44 rfl ?_
            refine h_cv (k := 0) (p := 32) (args := []) (rest := []) m89_45 cn_74 (Nat.le_of_ble_eq_true rfl) rfl rfl rfl (t_0 _ _) (Nat.le_of_ble_eq_true rfl) ?_
            have hd2 : m2 1 10 = nI n := (hF 1 10 (by omega) (fun q => by rcases q with q | q <;> omega)).trans hd
            have h012 : ∀ j, j < 8 → m2 8 j = 0 ∨ m2 8 j = 1 := fun j hj => by rw [hF 8 j (by omega) (fun q => by rcases q with q | q <;> omega)]; exact h01 j hj
            have hL2 := hF.laws hL
            have e11 : m2 1 11 = m 1 11 := hF 1 11 (by omega) (fun q => by rcases q with q | q <;> omega)
            have e12 : m2 1 12 = m 1 12 := hF 1 12 (by omega) (fun q => by rcases q with q | q <;> omega)
            have hL1 : LawsOk (takeM m2 1 0) ln N := tk_l hL2 1 0 (by decide)
            have elk := (tk_lk m2 1 0 (by decide) ln (m 1 11)).trans (hF.lk ln _)
            have ebl := (tk_bl m2 1 0 (by decide) ln (m 1 12)).trans (hF.bl ln _)
            have h80 : Eq8 (vw m 0) (vw (takeM m2 1 0) 1) := Eq8.tr (fun j hj i => congrFun (hF.vw0 (by omega)) i) (take_8 m2 1 0)
            have hW1 : WF (vw (takeM m2 1 0) 1) := WF_c h80 hW
            refine c_think h012 ?_
            refine gwr ?_
            refine g_iload_n m89_48 rfl ?_
            refine g_iload_n m89_49 rfl ?_
            refine g_iload m89_50 rfl ?_
            refine h_cv (k := 10) (p := 42) (args := [.int (nI (ja)), .int (nI (jv)), .int (nI (s))]) (rest := []) m89_52 cn_43 (Nat.le_of_ble_eq_true rfl) rfl rfl rfl (t_10 _ _) (Nat.le_of_ble_eq_true rfl) ?_
            refine c_isFedBy (x := m 1 11) (y := m 1 12) (t := 1) (m0 := takeM m2 1 0) (X := vw (takeM m2 1 0) 1) (s := nI s) (by decide) hL1 (AtX.self _ 1) e11 hix e12 hiy hW1 (by omega) (by omega) ⟨s, by omega, rfl⟩ (fun hm X2 m3 hA => ?_) (fun hm X2 m3 hA => ?_)
            · rw [elk, ebl, moreN_8 (h80.up 5 ja (nI s))] at hm
              have hF3 := hF.tr (FrT.of hA)
              have ec := cnt_y (p := (fun s => moreN (lkF m ln (m 1 11)) (blF m ln (m 1 12)) (upm (vw m 0) 5 ja (nI s)) jv ja)) (q := s) hm
              refine gwr ?_
              refine h_if_eqF (xi := 1) (zi := 0) m89_55 rfl rfl (by decide) ?_
              refine g_iinc (L2 := [some (.ref (32)), some (.int (nI (ja))), some (.int (nI (jv))), some (.int (nI (jb))), some (.int (nI ((cntF (fun s => moreN (lkF m ln (m 1 11)) (blF m ln (m 1 12)) (upm (vw m 0) 5 ja (nI s)) jv ja) s) + 1))), some (.int (nI (s)))]) m89_58 rfl (nI_1 _) rfl rfl ?_
              refine g_iinc (L2 := [some (.ref (32)), some (.int (nI (ja))), some (.int (nI (jv))), some (.int (nI (jb))), some (.int (nI ((cntF (fun s => moreN (lkF m ln (m 1 11)) (blF m ln (m 1 12)) (upm (vw m 0) 5 ja (nI s)) jv ja) s) + 1))), some (.int (nI (s + 1)))]) m89_61 rfl (nI_1 _) rfl rfl ?_
              refine g_goto m89_64 ?_
              have h9 := ih (s + 1) _ (by omega) hF3
              rw [ec] at h9
              exact h9
            · rw [elk, ebl, moreN_8 (h80.up 5 ja (nI s))] at hm
              have hF3 := hF.tr (FrT.of hA)
              have ec := cnt_n (p := (fun s => moreN (lkF m ln (m 1 11)) (blF m ln (m 1 12)) (upm (vw m 0) 5 ja (nI s)) jv ja)) (q := s) hm
              refine gwr ?_
              refine h_if_eqT (xi := 0) (zi := 0) m89_55 rfl rfl (by decide) ?_
              refine g_iinc (L2 := [some (.ref (32)), some (.int (nI (ja))), some (.int (nI (jv))), some (.int (nI (jb))), some (.int (nI (cntF (fun s => moreN (lkF m ln (m 1 11)) (blF m ln (m 1 12)) (upm (vw m 0) 5 ja (nI s)) jv ja) s))), some (.int (nI (s + 1)))]) m89_61 rfl (nI_1 _) rfl rfl ?_
              refine g_goto m89_64 ?_
              have h9 := ih (s + 1) _ (by omega) hF3
              rw [ec] at h9
              exact h9
        exact key 10 0 _ (by omega) FrT.rf
      · skip
        refine gwr ?_
        refine h_if_neT (xi := 0) (zi := 0) m89_22 rfl rfl (by decide) ?_
        refine g_aload_n m89_25 rfl ?_
        refine g_iconst m89_26 ?_
        refine h_cv (k := 0) (p := 32) (args := [.int (1)]) (rest := []) m89_27 cn_55 (Nat.le_of_ble_eq_true rfl) rfl rfl rfl (t_0 _ _) (Nat.le_of_ble_eq_true rfl) ?_
        refine c_error (e := 1) (by decide) (by decide) ?_
        refine gwr ?_
        refine g_iret m89_30 rt_89 ?_
        exact hE1 (by omega)
    · skip
      refine gwr ?_
      refine h_if_eqT (xi := 0) (zi := 0) m89_14 rfl rfl (by decide) ?_
      refine g_aload_n m89_25 rfl ?_
      refine g_iconst m89_26 ?_
      refine h_cv (k := 0) (p := 32) (args := [.int (1)]) (rest := []) m89_27 cn_55 (Nat.le_of_ble_eq_true rfl) rfl rfl rfl (t_0 _ _) (Nat.le_of_ble_eq_true rfl) ?_
      refine c_error (e := 1) (by decide) (by decide) ?_
      refine gwr ?_
      refine g_iret m89_30 rt_89 ?_
      exact hE1 (by omega)
  · skip
    refine gwr ?_
    refine h_if_eqT (xi := 0) (zi := 0) m89_5 rfl rfl (by decide) ?_
    refine g_aload_n m89_25 rfl ?_
    refine g_iconst m89_26 ?_
    refine h_cv (k := 0) (p := 32) (args := [.int (1)]) (rest := []) m89_27 cn_55 (Nat.le_of_ble_eq_true rfl) rfl rfl rfl (t_0 _ _) (Nat.le_of_ble_eq_true rfl) ?_
    refine c_error (e := 1) (by decide) (by decide) ?_
    refine gwr ?_
    refine g_iret m89_30 rt_89 ?_
    exact hE1 (by omega)
end
