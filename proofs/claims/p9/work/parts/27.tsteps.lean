/-! THE STEPS OF A TABLE -/
section
variable {xs : List Int32} {d : Nat} {h : AH} {Q : QT} {m : MW} {ln : Nat → Nat} {N : Nat}
set_option maxRecDepth 20000 in
set_option maxHeartbeats 40000000 in
theorem c_serveStep {t : Nat} {m0 X : MW} {x y : Int32} (ht : t < 4) (hL : LawsOk m0 ln N) (hA : AtX m0 t X m) (hx : X 0 11 = x) (hix : LawIx N x) (hy : X 0 12 = y) (hiy : LawIx N y) (hW : WF X) (hQ : ∀ X2 m2, Eq8 (stepF (lkF m0 ln x) (blF m0 ln y) X) X2 → AtX m0 t X2 m2 → Q (some (.int (nI (setF (lkF m0 ln x) X)))) (H m2 ln N)) : WP xs (d + 5) 40 0 0 [.ref (33 + 9 * t)] (H m ln N) Q := by
  refine wp_x mx_40 (L := [some (.ref (33 + 9 * t)), none, none]) (Nat.le_of_ble_eq_true rfl) rfl ?_
  obtain ⟨n, hn, hd⟩ := hW.1
  have hnn : nOf X = n := by unfold nOf; rw [hd]; exact nI_clamp (by omega)
  have hblt : ∀ q, bitsF (svF (lkF m0 ln x) X) q < 2 ^ q := bitsF_lt _
  have h256 : bitsF (svF (lkF m0 ln x) X) n < 256 := Nat.lt_of_lt_of_le (hblt n) (Nat.pow_le_pow_right (by decide) hn : 2 ^ n ≤ 2 ^ 8)
  have hset : setF (lkF m0 ln x) X = bitsF (svF (lkF m0 ln x) X) n := by unfold setF; rw [hnn]
  rw [hset] at hQ
  have hE8 := facesX_8 (faceF (lkF m0 ln x) X) X n
  have hWF := WF_c hE8 hW
  refine g_aload_n m40_0 rfl ?_
  refine h_cv (k := 1 + 9 * t) (p := 33 + 9 * t) (args := []) (rest := []) m40_1 cn_36 (Nat.le_of_ble_eq_true rfl) rfl rfl (pT 1 _) (tT ht) (Nat.le_of_ble_eq_true rfl) ?_
  refine c_seeFaces ht hL hA hx hix hW (fun m1 hA1 => ?_)
  rw [hnn] at hA1
  refine gwr0 ?_
  refine g_aload_n m40_4 rfl ?_
  refine h_cv (k := 1 + 9 * t) (p := 33 + 9 * t) (args := []) (rest := []) m40_5 cn_38 (Nat.le_of_ble_eq_true rfl) rfl rfl (pT 1 _) (tT ht) (Nat.le_of_ble_eq_true rfl) ?_
  refine c_served ht hA1 hn ((hE8 0 (by decide) 10).trans hd) ?_
  rw [set_f hnn]
  refine gwr ?_
  refine g_istore_n (L2 := [some (.ref (33 + 9 * t)), some (.int (nI (bitsF (svF (lkF m0 ln x) X) n))), none]) m40_8 rfl rfl ?_
  refine g_iconst m40_9 ?_
  refine g_istore_n (L2 := [some (.ref (33 + 9 * t)), some (.int (nI (bitsF (svF (lkF m0 ln x) X) n))), some (.int (0))]) m40_10 rfl rfl ?_
  have key : ∀ (r : Nat) (q : Nat) (m2 : MW), q + r = n → AtX m0 t (passN (lkF m0 ln x) (blF m0 ln y) (svF (lkF m0 ln x) X) (facesX (faceF (lkF m0 ln x) X) X n) q) m2 → gw xs (WP xs (d + 4)) 40 Q 11 [some (.ref (33 + 9 * t)), some (.int (nI (bitsF (svF (lkF m0 ln x) X) n))), some (.int (nI (q)))] [] (H m2 ln N) 0 0 := by
    intro r
    induction r with
    | zero =>
      intro q m2 hq hA2
      obtain rfl : q = n := by omega
      refine g_iload_n m40_11 rfl ?_
      refine g_aload_n m40_12 rfl ?_
      refine h_gfI (k := 1 + 9 * t) (p := 33 + 9 * t) m40_13 (pT 1 _) (tT ht) rfl ((hA2.rd ht (j := 0) (i := 10) (by decide)).trans ((passN_o _ _ _ _ _ (by omega)).trans ((hE8 0 (by decide) 10).trans hd))) ?_
      refine h_ic_geT (xi := ((q : Nat) : Int)) (zi := ((q : Nat) : Int)) m40_16 (nI_toInt (by omega)) (nI_toInt (by omega)) (by omega) ?_
      refine g_aload_n m40_44 rfl ?_
      refine g_dup m40_45 rfl ?_
      refine h_gfI (k := 1 + 9 * t) (p := 33 + 9 * t) m40_46 (pT 1 _) (tT ht) rfl (hA2.rd ht (j := 0) (i := 9) (by decide)) ?_
      refine g_iconst m40_49 ?_
      refine g_iadd m40_50 rfl ?_
      refine h_pfI (k := 1 + 9 * t) (p := 33 + 9 * t) m40_51 (pT 1 _) (tT ht) rfl trivial ?_
      have hAu1 := hA2.up ht (j := 0) (by decide) 9 ((passN (lkF m0 ln x) (blF m0 ln y) (svF (lkF m0 ln x) X) (facesX (faceF (lkF m0 ln x) X) X q) q) 0 9 + (1 : Int32))
      refine g_iload_n m40_54 rfl ?_
      refine g_iret m40_55 rt_40 ?_
      refine hQ _ _ ?_ hAu1
      have e9 : passN (lkF m0 ln x) (blF m0 ln y) (svF (lkF m0 ln x) X) (facesX (faceF (lkF m0 ln x) X) X q) q 0 9 = X 0 9 := (passN_o _ _ _ _ _ (by omega)).trans (hE8 0 (by decide) 9)
      rw [e9]
      unfold stepF
      rw [hnn]
      exact (passN_8 hE8 q).up _ _ _
    | succ r ih =>
      intro q m2 hq hA2
      have h7 : passN (lkF m0 ln x) (blF m0 ln y) (svF (lkF m0 ln x) X) (facesX (faceF (lkF m0 ln x) X) X n) q 7 q = (facesX (faceF (lkF m0 ln x) X) X n) 7 q := passN_o _ _ _ _ _ (by omega)
      have stepx : ∀ {i : Nat}, i ≠ 9 ∨ True → passN (lkF m0 ln x) (blF m0 ln y) (svF (lkF m0 ln x) X) (facesX (faceF (lkF m0 ln x) X) X n) q 0 i = X 0 i := fun _ => (passN_o _ _ _ _ _ (by omega)).trans (hE8 0 (by decide) _)
      refine g_iload_n m40_11 rfl ?_
      refine g_aload_n m40_12 rfl ?_
      refine h_gfI (k := 1 + 9 * t) (p := 33 + 9 * t) m40_13 (pT 1 _) (tT ht) rfl ((hA2.rd ht (j := 0) (i := 10) (by decide)).trans ((passN_o _ _ _ _ _ (by omega)).trans ((hE8 0 (by decide) 10).trans hd))) ?_
      refine h_ic_geF (xi := ((q : Nat) : Int)) (zi := ((n : Nat) : Int)) m40_16 (nI_toInt (by omega)) (nI_toInt (by omega)) (by omega) ?_
      refine g_aload_n m40_19 rfl ?_
      refine h_gfR (c := 40 + 9 * t) (k := 1 + 9 * t) (p := 33 + 9 * t) m40_20 (pT 1 _) (tT ht) rfl (le3 (Nat.le_of_ble_eq_true rfl)) ?_
      refine g_iload_n m40_23 rfl ?_
      refine h_bal (k := 8 + 9 * t) (p := 40 + 9 * t) (j := q) m40_24 (pT 8 _) (tA7 ht) (rfl) (by omega) (Nat.le_of_ble_eq_true rfl) (hA2.rd ht (j := 7) (i := q) (by decide)) ?_
      refine h_if_ne (xi := _) (zi := 0) m40_25 rfl rfl (fun c2 => ?_) (fun c2 => ?_)
      · skip
        refine g_aload_n m40_28 rfl ?_
        refine g_iload_n m40_29 rfl ?_
        refine g_iload_n m40_30 rfl ?_
        refine g_iload_n m40_31 rfl ?_
        refine g_cs (args := [.int (nI (bitsF (svF (lkF m0 ln x) X) n)), .int (nI (q))]) (rest := [.int (nI (q)), .ref (33 + 9 * t)]) 1 (Or.inr rfl) m40_32 (Nat.le_of_ble_eq_true rfl) rfl rfl (Nat.le_of_ble_eq_true rfl) ?_
        refine c_has (by omega) h256 ?_
        rw [bitsF_t _ _ _ (show q < n by omega)]
        refine gwr ?_
        cases hsv : svF (lkF m0 ln x) X q
        · skip
          show gw _ _ _ _ _ _ ((some (Value.int 0)).toList ++ _) _ _ _
          refine gwr ?_
          refine h_cv (k := 1 + 9 * t) (p := 33 + 9 * t) (args := [.int (nI (q)), .int (0)]) (rest := []) m40_35 cn_39 (Nat.le_of_ble_eq_true rfl) rfl rfl (pT 1 _) (tT ht) (Nat.le_of_ble_eq_true rfl) ?_
          refine c_pass0 ht hL hA2 ((stepx (by omega)).trans hx) hix ((stepx (by omega)).trans hy) hiy (WF_passN hWF q (by omega)) (by omega) (fun m_1 hA_2 => ?_)
          refine gwr0 ?_
          refine g_iinc (L2 := [some (.ref (33 + 9 * t)), some (.int (nI (bitsF (svF (lkF m0 ln x) X) n))), some (.int (nI (q + 1)))]) m40_38 rfl (nI_1 _) rfl rfl ?_
          refine g_goto m40_41 ?_
          exact ih (q + 1) _ (by omega) (by rw [passN_s, if_pos (by rw [← h7]; exact c2), hsv]; exact hA_2)
        · skip
          show gw _ _ _ _ _ _ ((some (Value.int 1)).toList ++ _) _ _ _
          refine gwr ?_
          refine h_cv (k := 1 + 9 * t) (p := 33 + 9 * t) (args := [.int (nI (q)), .int (1)]) (rest := []) m40_35 cn_39 (Nat.le_of_ble_eq_true rfl) rfl rfl (pT 1 _) (tT ht) (Nat.le_of_ble_eq_true rfl) ?_
          refine c_pass1 ht hL hA2 ((stepx (by omega)).trans hx) hix ((stepx (by omega)).trans hy) hiy (WF_passN hWF q (by omega)) (by omega) (fun m_3 hA_4 => ?_)
          refine gwr0 ?_
          refine g_iinc (L2 := [some (.ref (33 + 9 * t)), some (.int (nI (bitsF (svF (lkF m0 ln x) X) n))), some (.int (nI (q + 1)))]) m40_38 rfl (nI_1 _) rfl rfl ?_
          refine g_goto m40_41 ?_
          exact ih (q + 1) _ (by omega) (by rw [passN_s, if_pos (by rw [← h7]; exact c2), hsv]; exact hA_4)
      · skip
        refine g_iinc (L2 := [some (.ref (33 + 9 * t)), some (.int (nI (bitsF (svF (lkF m0 ln x) X) n))), some (.int (nI (q + 1)))]) m40_38 rfl (nI_1 _) rfl rfl ?_
        refine g_goto m40_41 ?_
        exact ih (q + 1) _ (by omega) (by rw [passN_s, if_neg (by rw [← h7]; exact c2)]; exact hA2)
  exact key n 0 _ (by omega) hA1
set_option maxRecDepth 20000 in
set_option maxHeartbeats 40000000 in
theorem c_goOn {t n : Nat} {m0 X : MW} {x y : Int32} (ht : t < 4) (hL : LawsOk m0 ln N) (hA : AtX m0 t X m) (hx : X 0 11 = x) (hix : LawIx N x) (hy : X 0 12 = y) (hiy : LawIx N y) (hW : WF X) (hn6 : n ≤ 100) (hQ : ∀ X2 m2, Eq8 (stepN (lkF m0 ln x) (blF m0 ln y) X n) X2 → AtX m0 t X2 m2 → Q none (H m2 ln N)) : WP xs (d + 6) 41 0 0 [.ref (33 + 9 * t), .int (nI (n))] (H m ln N) Q := by
  refine wp_x mx_41 (L := [some (.ref (33 + 9 * t)), some (.int (nI (n))), none]) (Nat.le_of_ble_eq_true rfl) rfl ?_
  have key : ∀ (r : Nat) (q : Nat) (m2 X2 : MW), q + r = n → Eq8 (stepN (lkF m0 ln x) (blF m0 ln y) X q) X2 → AtX m0 t X2 m2 → gw xs (WP xs (d + 5)) 41 Q 2 [some (.ref (33 + 9 * t)), some (.int (nI (n))), some (.int (nI (q)))] [] (H m2 ln N) 0 0 := by
    intro r
    induction r with
    | zero =>
      intro q m2 X2 hq h8 hA2
      obtain rfl : q = n := by omega
      refine g_iload_n m41_2 rfl ?_
      refine g_iload_n m41_3 rfl ?_
      refine h_ic_geT (xi := ((q : Nat) : Int)) (zi := ((q : Nat) : Int)) m41_4 (nI_toInt (by omega)) (nI_toInt (by omega)) (by omega) ?_
      refine g_vret m41_18 ?_
      exact hQ _ _ h8 hA2
    | succ r ih =>
      intro q m2 X2 hq h8 hA2
      refine g_iload_n m41_2 rfl ?_
      refine g_iload_n m41_3 rfl ?_
      refine h_ic_geF (xi := ((q : Nat) : Int)) (zi := ((n : Nat) : Int)) m41_4 (nI_toInt (by omega)) (nI_toInt (by omega)) (by omega) ?_
      refine g_aload_n m41_7 rfl ?_
      refine h_cv (k := 1 + 9 * t) (p := 33 + 9 * t) (args := []) (rest := []) m41_8 cn_40 (Nat.le_of_ble_eq_true rfl) rfl rfl (pT 1 _) (tT ht) (Nat.le_of_ble_eq_true rfl) ?_
      refine c_serveStep ht hL hA2 ((h8 0 (by decide) 11).trans ((stepN_0 _ _ _ (by decide) q).trans hx)) hix ((h8 0 (by decide) 12).trans ((stepN_0 _ _ _ (by decide) q).trans hy)) hiy (WF_c h8 (WF_stepN hW q)) (fun Y_5 m_6 e_7 hA_8 => ?_)
      refine gwr ?_
      refine g_pop m41_11 rfl ?_
      refine g_iinc (L2 := [some (.ref (33 + 9 * t)), some (.int (nI (n))), some (.int (nI (q + 1)))]) m41_12 rfl (nI_1 _) rfl rfl ?_
      refine g_goto m41_15 ?_
      exact ih (q + 1) _ _ (by omega) ((stepF_8 h8).tr e_7) hA_8
  refine g_iconst m41_0 ?_
  refine g_istore_n (L2 := [some (.ref (33 + 9 * t)), some (.int (nI (n))), some (.int (0))]) m41_1 rfl rfl ?_
  exact key n 0 _ _ (by omega) Eq8.rf hA
def moreAt (LK BL : LF) (X : MW) (i q : Nat) : Bool := decide ((X 6 i).toInt < (stepN LK BL X q 6 i).toInt)
/-- from step q on, r steps more -/
def firstF (LK BL : LF) (X : MW) (i : Nat) : Nat → Nat → Nat
  | 0, _ => 0
  | r + 1, q => if moreAt LK BL X i q = true then q else firstF LK BL X i r (q + 1)
set_option maxRecDepth 20000 in
set_option maxHeartbeats 40000000 in
theorem c_stepWithMore {t n i : Nat} {m0 X : MW} {x y : Int32} (ht : t < 4) (hL : LawsOk m0 ln N) (hA : AtX m0 t X m) (hx : X 0 11 = x) (hix : LawIx N x) (hy : X 0 12 = y) (hiy : LawIx N y) (hW : WF X) (hi : i < 8) (hn6 : n ≤ 100) (hQ : ∀ X2 m2, AtX m0 t X2 m2 → Q (some (.int (nI (firstF (lkF m0 ln x) (blF m0 ln y) X i n 1)))) (H m2 ln N)) : WP xs (d + 6) 42 0 0 [.ref (33 + 9 * t), .int (nI (i)), .int (nI (n))] (H m ln N) Q := by
  refine wp_x mx_42 (L := [some (.ref (33 + 9 * t)), some (.int (nI (i))), some (.int (nI (n))), none, none]) (Nat.le_of_ble_eq_true rfl) rfl ?_
  have key : ∀ (r : Nat) (q : Nat) (m2 X2 : MW), q + r = n → Eq8 (stepN (lkF m0 ln x) (blF m0 ln y) X q) X2 → AtX m0 t X2 m2 → firstF (lkF m0 ln x) (blF m0 ln y) X i r (q + 1) = firstF (lkF m0 ln x) (blF m0 ln y) X i n 1 → gw xs (WP xs (d + 5)) 42 Q 10 [some (.ref (33 + 9 * t)), some (.int (nI (i))), some (.int (nI (n))), some (.int (X 6 i)), some (.int (nI (q + 1)))] [] (H m2 ln N) 0 0 := by
    intro r
    induction r with
    | zero =>
      intro q m2 X2 hq h8 hA2 hf
      refine g_iload m42_10 rfl ?_
      refine g_iload_n m42_12 rfl ?_
      refine h_ic_gtT (xi := ((q + 1 : Nat) : Int)) (zi := ((n : Nat) : Int)) m42_13 (nI_toInt (by omega)) (nI_toInt (by omega)) (by omega) ?_
      refine g_iconst m42_40 ?_
      refine g_iret m42_41 rt_42 ?_
      rw [← hf] at hQ
      exact hQ _ _ hA2
    | succ r ih =>
      intro q m2 X2 hq h8 hA2 hf
      refine g_iload m42_10 rfl ?_
      refine g_iload_n m42_12 rfl ?_
      refine h_ic_gtF (xi := ((q + 1 : Nat) : Int)) (zi := ((n : Nat) : Int)) m42_13 (nI_toInt (by omega)) (nI_toInt (by omega)) (by omega) ?_
      refine g_aload_n m42_16 rfl ?_
      refine h_cv (k := 1 + 9 * t) (p := 33 + 9 * t) (args := []) (rest := []) m42_17 cn_40 (Nat.le_of_ble_eq_true rfl) rfl rfl (pT 1 _) (tT ht) (Nat.le_of_ble_eq_true rfl) ?_
      refine c_serveStep ht hL hA2 ((h8 0 (by decide) 11).trans ((stepN_0 _ _ _ (by decide) q).trans hx)) hix ((h8 0 (by decide) 12).trans ((stepN_0 _ _ _ (by decide) q).trans hy)) hiy (WF_c h8 (WF_stepN hW q)) (fun Y_9 m_10 e_11 hA_12 => ?_)
      refine gwr ?_
      refine g_pop m42_20 rfl ?_
      refine g_aload_n m42_21 rfl ?_
      refine h_gfR (c := 39 + 9 * t) (k := 1 + 9 * t) (p := 33 + 9 * t) m42_22 (pT 1 _) (tT ht) rfl (le3 (Nat.le_of_ble_eq_true rfl)) ?_
      refine g_iload_n m42_25 rfl ?_
      refine h_ial (k := 7 + 9 * t) (p := 39 + 9 * t) (j := i) m42_26 (pT 7 _) (tA6 ht) (rfl) (by omega) (Nat.le_of_ble_eq_true rfl) (hA_12.rd ht (j := 6) (i := i) (by decide)) ?_
      refine g_iload_n m42_27 rfl ?_
      refine h_ic_le (xi := _) (zi := _) m42_28 rfl rfl (fun c1 => ?_) (fun c1 => ?_)
      · skip
        refine g_iinc (L2 := [some (.ref (33 + 9 * t)), some (.int (nI (i))), some (.int (nI (n))), some (.int (X 6 i)), some (.int (nI ((q + 1) + 1)))]) m42_34 rfl (nI_1 _) rfl rfl ?_
        refine g_goto m42_37 ?_
        have e6 : Y_9 6 i = stepN (lkF m0 ln x) (blF m0 ln y) X (q + 1) 6 i := ((stepF_8 h8).tr e_11) 6 (by decide) i
        rw [e6] at c1
        have e : firstF (lkF m0 ln x) (blF m0 ln y) X i (r + 1) (q + 1) = firstF (lkF m0 ln x) (blF m0 ln y) X i r (q + 1 + 1) := if_neg (by unfold moreAt; rw [decide_eq_true_eq]; omega)
        exact ih (q + 1) _ _ (by omega) ((stepF_8 h8).tr e_11) hA_12 (by rw [← e]; exact hf)
      · skip
        refine g_iload m42_31 rfl ?_
        refine g_iret m42_33 rt_42 ?_
        have e6 : Y_9 6 i = stepN (lkF m0 ln x) (blF m0 ln y) X (q + 1) 6 i := ((stepF_8 h8).tr e_11) 6 (by decide) i
        rw [e6] at c1
        have e : firstF (lkF m0 ln x) (blF m0 ln y) X i (r + 1) (q + 1) = q + 1 := if_pos (decide_eq_true (by omega))
        rw [← hf, e] at hQ
        exact hQ _ _ hA_12
  refine g_aload_n m42_0 rfl ?_
  refine h_gfR (c := 39 + 9 * t) (k := 1 + 9 * t) (p := 33 + 9 * t) m42_1 (pT 1 _) (tT ht) rfl (le3 (Nat.le_of_ble_eq_true rfl)) ?_
  refine g_iload_n m42_4 rfl ?_
  refine h_ial (k := 7 + 9 * t) (p := 39 + 9 * t) (j := i) m42_5 (pT 7 _) (tA6 ht) (rfl) (by omega) (Nat.le_of_ble_eq_true rfl) (hA.rd ht (j := 6) (i := i) (by decide)) ?_
  refine g_istore_n (L2 := [some (.ref (33 + 9 * t)), some (.int (nI (i))), some (.int (nI (n))), some (.int (X 6 i)), none]) m42_6 rfl rfl ?_
  refine g_iconst m42_7 ?_
  refine g_istore (L2 := [some (.ref (33 + 9 * t)), some (.int (nI (i))), some (.int (nI (n))), some (.int (X 6 i)), some (.int (1))]) m42_8 rfl rfl ?_
  exact key n 0 _ _ (by omega) Eq8.rf hA rfl
def sumF (w : Nat → Int32) : Nat → Int32
  | 0 => 0
  | n + 1 => sumF w n + w n
set_option maxRecDepth 20000 in
set_option maxHeartbeats 40000000 in
theorem c_hungerOfAll {t n : Nat} {m0 X : MW} (ht : t < 4) (hA : AtX m0 t X m) (hn : n ≤ 8) (hd : X 0 10 = nI n) (hQ : Q (some (.int (sumF (X 4) n))) (H m ln N)) : WP xs (d + 1) 45 0 0 [.ref (33 + 9 * t)] (H m ln N) Q := by
  refine wp_x mx_45 (L := [some (.ref (33 + 9 * t)), none, none]) (Nat.le_of_ble_eq_true rfl) rfl ?_
  have key : ∀ (r : Nat) (q : Nat), q + r = n → gw xs (WP xs (d)) 45 Q 4 [some (.ref (33 + 9 * t)), some (.int (sumF (X 4) q)), some (.int (nI (q)))] [] (H m ln N) 0 0 := by
    intro r
    induction r with
    | zero =>
      intro q hq
      obtain rfl : q = n := by omega
      refine g_iload_n m45_4 rfl ?_
      refine g_aload_n m45_5 rfl ?_
      refine h_gfI (k := 1 + 9 * t) (p := 33 + 9 * t) m45_6 (pT 1 _) (tT ht) rfl ((hA.rd ht (j := 0) (i := 10) (by decide)).trans (hd)) ?_
      refine h_ic_geT (xi := ((q : Nat) : Int)) (zi := ((q : Nat) : Int)) m45_9 (nI_toInt (by omega)) (nI_toInt (by omega)) (by omega) ?_
      refine g_iload_n m45_27 rfl ?_
      refine g_iret m45_28 rt_45 ?_
      exact hQ
    | succ r ih =>
      intro q hq
      refine g_iload_n m45_4 rfl ?_
      refine g_aload_n m45_5 rfl ?_
      refine h_gfI (k := 1 + 9 * t) (p := 33 + 9 * t) m45_6 (pT 1 _) (tT ht) rfl ((hA.rd ht (j := 0) (i := 10) (by decide)).trans (hd)) ?_
      refine h_ic_geF (xi := ((q : Nat) : Int)) (zi := ((n : Nat) : Int)) m45_9 (nI_toInt (by omega)) (nI_toInt (by omega)) (by omega) ?_
      refine g_iload_n m45_12 rfl ?_
      refine g_aload_n m45_13 rfl ?_
      refine h_gfR (c := 37 + 9 * t) (k := 1 + 9 * t) (p := 33 + 9 * t) m45_14 (pT 1 _) (tT ht) rfl (le3 (Nat.le_of_ble_eq_true rfl)) ?_
      refine g_iload_n m45_17 rfl ?_
      refine h_ial (k := 5 + 9 * t) (p := 37 + 9 * t) (j := q) m45_18 (pT 5 _) (tA4 ht) (rfl) (by omega) (Nat.le_of_ble_eq_true rfl) (hA.rd ht (j := 4) (i := q) (by decide)) ?_
      refine g_iadd m45_19 rfl ?_
      refine g_istore_n (L2 := [some (.ref (33 + 9 * t)), some (.int ((sumF (X 4) q + X 4 q))), some (.int (nI (q)))]) m45_20 rfl rfl ?_
      refine g_iinc (L2 := [some (.ref (33 + 9 * t)), some (.int ((sumF (X 4) q + X 4 q))), some (.int (nI (q + 1)))]) m45_21 rfl (nI_1 _) rfl rfl ?_
      refine g_goto m45_24 ?_
      exact ih (q + 1) (by omega)
  refine g_iconst m45_0 ?_
  refine g_istore_n (L2 := [some (.ref (33 + 9 * t)), some (.int (0)), none]) m45_1 rfl rfl ?_
  refine g_iconst m45_2 ?_
  refine g_istore_n (L2 := [some (.ref (33 + 9 * t)), some (.int (0)), some (.int (0))]) m45_3 rfl rfl ?_
  exact key n 0 (by omega)
set_option maxRecDepth 20000 in
set_option maxHeartbeats 40000000 in
theorem c_hadByAll {t n : Nat} {m0 X : MW} (ht : t < 4) (hA : AtX m0 t X m) (hn : n ≤ 8) (hd : X 0 10 = nI n) (hQ : Q (some (.int (sumF (X 6) n))) (H m ln N)) : WP xs (d + 1) 47 0 0 [.ref (33 + 9 * t)] (H m ln N) Q := by
  refine wp_x mx_47 (L := [some (.ref (33 + 9 * t)), none, none]) (Nat.le_of_ble_eq_true rfl) rfl ?_
  have key : ∀ (r : Nat) (q : Nat), q + r = n → gw xs (WP xs (d)) 47 Q 4 [some (.ref (33 + 9 * t)), some (.int (sumF (X 6) q)), some (.int (nI (q)))] [] (H m ln N) 0 0 := by
    intro r
    induction r with
    | zero =>
      intro q hq
      obtain rfl : q = n := by omega
      refine g_iload_n m47_4 rfl ?_
      refine g_aload_n m47_5 rfl ?_
      refine h_gfI (k := 1 + 9 * t) (p := 33 + 9 * t) m47_6 (pT 1 _) (tT ht) rfl ((hA.rd ht (j := 0) (i := 10) (by decide)).trans (hd)) ?_
      refine h_ic_geT (xi := ((q : Nat) : Int)) (zi := ((q : Nat) : Int)) m47_9 (nI_toInt (by omega)) (nI_toInt (by omega)) (by omega) ?_
      refine g_iload_n m47_27 rfl ?_
      refine g_iret m47_28 rt_47 ?_
      exact hQ
    | succ r ih =>
      intro q hq
      refine g_iload_n m47_4 rfl ?_
      refine g_aload_n m47_5 rfl ?_
      refine h_gfI (k := 1 + 9 * t) (p := 33 + 9 * t) m47_6 (pT 1 _) (tT ht) rfl ((hA.rd ht (j := 0) (i := 10) (by decide)).trans (hd)) ?_
      refine h_ic_geF (xi := ((q : Nat) : Int)) (zi := ((n : Nat) : Int)) m47_9 (nI_toInt (by omega)) (nI_toInt (by omega)) (by omega) ?_
      refine g_iload_n m47_12 rfl ?_
      refine g_aload_n m47_13 rfl ?_
      refine h_gfR (c := 39 + 9 * t) (k := 1 + 9 * t) (p := 33 + 9 * t) m47_14 (pT 1 _) (tT ht) rfl (le3 (Nat.le_of_ble_eq_true rfl)) ?_
      refine g_iload_n m47_17 rfl ?_
      refine h_ial (k := 7 + 9 * t) (p := 39 + 9 * t) (j := q) m47_18 (pT 7 _) (tA6 ht) (rfl) (by omega) (Nat.le_of_ble_eq_true rfl) (hA.rd ht (j := 6) (i := q) (by decide)) ?_
      refine g_iadd m47_19 rfl ?_
      refine g_istore_n (L2 := [some (.ref (33 + 9 * t)), some (.int ((sumF (X 6) q + X 6 q))), some (.int (nI (q)))]) m47_20 rfl rfl ?_
      refine g_iinc (L2 := [some (.ref (33 + 9 * t)), some (.int ((sumF (X 6) q + X 6 q))), some (.int (nI (q + 1)))]) m47_21 rfl (nI_1 _) rfl rfl ?_
      refine g_goto m47_24 ?_
      exact ih (q + 1) (by omega)
  refine g_iconst m47_0 ?_
  refine g_istore_n (L2 := [some (.ref (33 + 9 * t)), some (.int (0)), none]) m47_1 rfl rfl ?_
  refine g_iconst m47_2 ?_
  refine g_istore_n (L2 := [some (.ref (33 + 9 * t)), some (.int (0)), some (.int (0))]) m47_3 rfl rfl ?_
  exact key n 0 (by omega)
end
