/-! LEAVES: the small methods over the memory -/
section
variable {xs : List Int32} {d : Nat} {h : AH} {Q : QT} {m : MW} {ln : Nat → Nat} {N : Nat}
set_option maxRecDepth 20000 in
set_option maxHeartbeats 40000000 in
theorem c_withinI {v mm : Int32} {M vi : Int} (hm : mm.toInt = M) (hv : v.toInt = vi) (hT0 : 0 ≤ vi ∧ vi ≤ M → Q (some (.int 1)) h) (hF : (vi < 0 ∨ M < vi) → Q (some (.int 0)) h) : WP xs (d + 1) 54 0 0 [.int (v), .int (mm)] h Q := by
  have hT : 0 ≤ vi → vi ≤ M → Q (some (.int 1)) h := fun p q => hT0 ⟨p, q⟩
  refine wp_x mx_54 (L := [some (.int (v)), some (.int (mm))]) (Nat.le_of_ble_eq_true rfl) rfl ?_
  refine g_iload_n m54_0 rfl ?_
  refine h_if_lt (xi := vi) (zi := 0) m54_1 hv rfl (fun c1 => ?_) (fun c1 => ?_)
  · skip
    refine g_iconst m54_13 ?_
    refine g_zret m54_14 rt_54 (Or.inl rfl) ?_
    exact hF (by omega)
  · skip
    refine g_iload_n m54_4 rfl ?_
    refine g_iload_n m54_5 rfl ?_
    refine h_ic_gt (xi := vi) (zi := M) m54_6 hv hm (fun c2 => ?_) (fun c2 => ?_)
    · skip
      refine g_iconst m54_13 ?_
      refine g_zret m54_14 rt_54 (Or.inl rfl) ?_
      exact hF (by omega)
    · skip
      refine g_iconst m54_9 ?_
      refine g_goto m54_10 ?_
      refine g_zret m54_14 rt_54 (Or.inr rfl) ?_
      exact hT (by omega) (by omega)
theorem c_within {v mm : Int32} {M : Int} (hm : mm.toInt = M) (hT : ∀ j : Nat, v = nI j → (j : Int) ≤ M → Q (some (.int 1)) h) (hF : (v.toInt < 0 ∨ M < v.toInt) → Q (some (.int 0)) h) : WP xs (d + 1) 54 0 0 [.int v, .int mm] h Q := by
  refine c_withinI hm rfl (fun q => ?_) hF
  have hM := Int32.toInt_lt mm
  obtain ⟨j, ⟨h1, h2⟩, h3⟩ := nat_of (x := v) (lo := 0) (hi := M.toNat) (by omega) (by omega)
  exact hT j h3 (by omega)
set_option maxRecDepth 20000 in
set_option maxHeartbeats 40000000 in
theorem c_held {v z : Int32} (hQ : Q (some (.int (heldF v z))) h) : WP xs (d + 1) 51 0 0 [.int (v), .int (z)] h Q := by
  refine wp_x mx_51 (L := [some (.int (v)), some (.int (z))]) (Nat.le_of_ble_eq_true rfl) rfl ?_
  refine g_iload_n m51_0 rfl ?_
  refine h_if_ge (xi := _) (zi := 0) m51_1 rfl rfl (fun c1 => ?_) (fun c1 => ?_)
  · skip
    refine g_iload_n m51_8 rfl ?_
    refine g_iload_n m51_9 rfl ?_
    refine h_ic_le (xi := _) (zi := _) m51_10 rfl rfl (fun c2 => ?_) (fun c2 => ?_)
    · skip
      refine g_iload_n m51_17 rfl ?_
      refine g_iret m51_18 rt_51 ?_
      rw [show heldF v z = v by unfold heldF; (repeat' split) <;> first | rfl | omega] at hQ
      exact hQ
    · skip
      refine g_iload_n m51_13 rfl ?_
      refine g_goto m51_14 ?_
      refine g_iret m51_18 rt_51 ?_
      rw [show heldF v z = z by unfold heldF; (repeat' split) <;> first | rfl | omega] at hQ
      exact hQ
  · skip
    refine g_iconst m51_4 ?_
    refine g_goto m51_5 ?_
    refine g_iret m51_18 rt_51 ?_
    rw [show heldF v z = (0 : Int32) by unfold heldF; (repeat' split) <;> first | rfl | omega] at hQ
    exact hQ
set_option maxRecDepth 20000 in
set_option maxHeartbeats 40000000 in
theorem c_error {e : Nat} (h1 : 1 ≤ e) (he : e ≤ 5) (hQ : Q (some (.int (-1000000000 - nI e))) (H (upm m 56 e (m 56 e + 1)) ln N)) : WP xs (d + 1) 55 0 0 [.ref (32), .int (nI (e))] (H m ln N) Q := by
  refine wp_x mx_55 (L := [some (.ref (32)), some (.int (nI (e)))]) (Nat.le_of_ble_eq_true rfl) rfl ?_
  refine g_aload_n m55_0 rfl ?_
  refine h_gfR (c := 88) (k := 0) (p := 32) m55_1 rfl (t_0 _ _) rfl (Nat.le_of_ble_eq_true rfl) ?_
  refine g_iload_n m55_4 rfl ?_
  refine g_dup2 m55_5 rfl rfl ?_
  refine h_ial (k := 56) (p := 88) (j := e) m55_6 rfl (t_56 _ _) (rfl) (by omega) (Nat.le_of_ble_eq_true rfl) (rfl) ?_
  refine g_iconst m55_7 ?_
  refine g_iadd m55_8 rfl ?_
  refine h_ias (k := 56) (p := 88) (j := e) m55_9 rfl (t_56 _ _) (rfl) (by omega) (Nat.le_of_ble_eq_true rfl) ?_
  refine g_ldcw m55_10 ?_
  refine g_iload_n m55_13 rfl ?_
  refine g_isub m55_14 rfl ?_
  refine g_iret m55_15 rt_55 ?_
  exact hQ
set_option maxRecDepth 20000 in
set_option maxHeartbeats 40000000 in
theorem c_isDiner {v : Int32} {n : Nat} (hd : m 1 10 = nI n) (hn : n ≤ 8) (hT : ∀ j : Nat, v = nI j → j < n → Q (some (.int 1)) (H m ln N)) (hF : (v.toInt < 0 ∨ (n : Int) ≤ v.toInt) → Q (some (.int 0)) (H m ln N)) : WP xs (d + 1) 60 0 0 [.ref (32), .int (v)] (H m ln N) Q := by
  refine wp_x mx_60 (L := [some (.ref (32)), some (.int (v))]) (Nat.le_of_ble_eq_true rfl) rfl ?_
  refine g_iload_n m60_0 rfl ?_
  refine h_if_lt (xi := v.toInt) (zi := 0) m60_1 rfl rfl (fun c1 => ?_) (fun c1 => ?_)
  · skip
    refine g_iconst m60_19 ?_
    refine g_zret m60_20 rt_60 (Or.inl rfl) ?_
    exact hF (by omega)
  · skip
    refine g_iload_n m60_4 rfl ?_
    refine g_aload_n m60_5 rfl ?_
    refine h_gfR (c := 33) (k := 0) (p := 32) m60_6 rfl (t_0 _ _) rfl (Nat.le_of_ble_eq_true rfl) ?_
    refine h_gfI (k := 1) (p := 33) m60_9 rfl (t_1 _ _) rfl (hd) ?_
    refine h_ic_ge (xi := v.toInt) (zi := ((n : Nat) : Int)) m60_12 rfl (nI_toInt (by omega)) (fun c2 => ?_) (fun c2 => ?_)
    · skip
      refine g_iconst m60_19 ?_
      refine g_zret m60_20 rt_60 (Or.inl rfl) ?_
      exact hF (by omega)
    · skip
      refine g_iconst m60_15 ?_
      refine g_goto m60_16 ?_
      refine g_zret m60_20 rt_60 (Or.inr rfl) ?_
      obtain ⟨j, ⟨h1, h2⟩, h3⟩ := nat_of (x := v) (lo := 0) (hi := n) (by omega) (by omega)
      have e : v.toInt = (j : Int) := by rw [h3]; exact nI_toInt (by omega)
      exact hT j h3 (by omega)
theorem bit_sh : ∀ i, i < 8 → ∀ a, a < 256 → ((nI a >>> (nI i &&& 31)) &&& 1 = if a.testBit i = true then 1 else 0) := by decide +kernel
set_option maxRecDepth 20000 in
set_option maxHeartbeats 40000000 in
theorem c_has {a i : Nat} (hi : i < 8) (ha : a < 256) (hQ : Q (some (.int (if a.testBit i = true then 1 else 0))) h) : WP xs (d + 1) 52 0 0 [.int (nI (a)), .int (nI (i))] h Q := by
  refine wp_x mx_52 (L := [some (.int (nI (a))), some (.int (nI (i)))]) (Nat.le_of_ble_eq_true rfl) rfl ?_
  refine g_iload_n m52_0 rfl ?_
  refine g_iload_n m52_1 rfl ?_
  refine g_ishr m52_2 rfl ?_
  refine g_iconst m52_3 ?_
  refine g_iand (u := if a.testBit i = true then 1 else 0) m52_4 (bit_sh i hi a ha) ?_
  cases hb : a.testBit i
  · rw [hb] at hQ
    refine gwst (st' := [.int 0]) rfl ?_
    refine h_if_eqT (xi := 0) (zi := 0) m52_5 rfl rfl (by decide) ?_
    refine g_iconst m52_12 ?_
    refine g_zret m52_13 rt_52 (Or.inl rfl) ?_
    exact hQ
  · rw [hb] at hQ
    refine gwst (st' := [.int 1]) rfl ?_
    refine h_if_eqF (xi := 1) (zi := 0) m52_5 rfl rfl (by decide) ?_
    refine g_iconst m52_8 ?_
    refine g_goto m52_9 ?_
    refine g_zret m52_13 rt_52 (Or.inr rfl) ?_
    exact hQ
set_option maxRecDepth 20000 in
set_option maxHeartbeats 40000000 in
theorem c_mostToChangeTo {j : Nat} (hj : j ≤ 3) (hQ : Q (some (.int (if j = 0 then 99 else if j = 1 then 9 else if j = 2 then 99 else 1))) h) : WP xs (d + 1) 62 0 0 [.int (nI (j))] h Q := by
  refine wp_x mx_62 (L := [some (.int (nI (j)))]) (Nat.le_of_ble_eq_true rfl) rfl ?_
  rcases (show j = 0 ∨ j = 1 ∨ j = 2 ∨ j = 3 by omega) with rfl | rfl | rfl | rfl
  · skip
    refine g_iload_n m62_0 rfl ?_
    refine gs m62_1 ?_
    refine gwpc (pc' := 28) rfl ?_
    refine g_bipush m62_28 ?_
    refine g_iret m62_30 rt_62 ?_
    exact hQ
  · skip
    refine g_iload_n m62_0 rfl ?_
    refine gs m62_1 ?_
    refine gwpc (pc' := 31) rfl ?_
    refine g_bipush m62_31 ?_
    refine g_iret m62_33 rt_62 ?_
    exact hQ
  · skip
    refine g_iload_n m62_0 rfl ?_
    refine gs m62_1 ?_
    refine gwpc (pc' := 34) rfl ?_
    refine g_bipush m62_34 ?_
    refine g_iret m62_36 rt_62 ?_
    exact hQ
  · skip
    refine g_iload_n m62_0 rfl ?_
    refine gs m62_1 ?_
    refine gwpc (pc' := 37) rfl ?_
    refine g_iconst m62_37 ?_
    refine g_iret m62_38 rt_62 ?_
    exact hQ
def aboveF (k : Nat) : Int32 := if k = 0 then -1 else if k < 4 then 0 else nI (k - 3)
set_option maxRecDepth 20000 in
set_option maxHeartbeats 40000000 in
theorem c_inI {v a b : Int32} {A B vi : Int} (ha : a.toInt = A) (hb : b.toInt = B) (hv : v.toInt = vi) (hT : A ≤ vi ∧ vi ≤ B → Q (some (.int 1)) h) (hF : (vi < A ∨ B < vi) → Q (some (.int 0)) h) : WP xs (d + 1) 107 0 0 [.int (v), .int (a), .int (b)] h Q := by
  refine wp_x mx_107 (L := [some (.int (v)), some (.int (a)), some (.int (b))]) (Nat.le_of_ble_eq_true rfl) rfl ?_
  refine g_iload_n m107_0 rfl ?_
  refine g_iload_n m107_1 rfl ?_
  refine h_ic_lt (xi := vi) (zi := A) m107_2 hv ha (fun c1 => ?_) (fun c1 => ?_)
  · skip
    refine g_iconst m107_14 ?_
    refine g_zret m107_15 rt_107 (Or.inl rfl) ?_
    exact hF (by omega)
  · skip
    refine g_iload_n m107_5 rfl ?_
    refine g_iload_n m107_6 rfl ?_
    refine h_ic_gt (xi := vi) (zi := B) m107_7 hv hb (fun c2 => ?_) (fun c2 => ?_)
    · skip
      refine g_iconst m107_14 ?_
      refine g_zret m107_15 rt_107 (Or.inl rfl) ?_
      exact hF (by omega)
    · skip
      refine g_iconst m107_10 ?_
      refine g_goto m107_11 ?_
      refine g_zret m107_15 rt_107 (Or.inr rfl) ?_
      exact hT ⟨by omega, by omega⟩
theorem c_in {v a b : Int32} {A B : Int} (ha : a.toInt = A) (hb : b.toInt = B) (hA : 0 ≤ A) (hT : ∀ j : Nat, v = nI j → A ≤ (j : Int) → (j : Int) ≤ B → Q (some (.int 1)) h) (hF : (v.toInt < A ∨ B < v.toInt) → Q (some (.int 0)) h) : WP xs (d + 1) 107 0 0 [.int v, .int a, .int b] h Q := by
  refine c_inI ha hb rfl (fun q => ?_) hF
  obtain ⟨j, ⟨h1, h2⟩, h3⟩ := nat_of (x := v) (lo := A.toNat) (hi := B.toNat) (by omega) (by omega)
  exact hT j h3 (by omega) (by omega)
set_option maxRecDepth 20000 in
set_option maxHeartbeats 40000000 in
theorem c_errs {k : Int32} {e : Nat} (hk : -1000000000 - k = nI e) (h1 : 1 ≤ e) (he : e ≤ 5) (hQ : Q (some (.int k)) (H (upm m 62 e (m 62 e + 1)) ln N)) : WP xs (d + 1) 108 0 0 [.ref (89), .int (k)] (H m ln N) Q := by
  refine wp_x mx_108 (L := [some (.ref (89)), some (.int (k))]) (Nat.le_of_ble_eq_true rfl) rfl ?_
  refine g_aload_n m108_0 rfl ?_
  refine h_gfR (c := 94) (k := 57) (p := 89) m108_1 rfl (t_57 _ _) rfl (Nat.le_of_ble_eq_true rfl) ?_
  refine g_ldci m108_4 rfl ?_
  refine g_iload_n m108_6 rfl ?_
  refine g_isub (u := nI (e)) m108_7 (hk) ?_
  refine g_dup2 m108_8 rfl rfl ?_
  refine h_ial (k := 62) (p := 94) (j := e) m108_9 rfl (t_62 _ _) (rfl) (by omega) (Nat.le_of_ble_eq_true rfl) (rfl) ?_
  refine g_iconst m108_10 ?_
  refine g_iadd m108_11 rfl ?_
  refine h_ias (k := 62) (p := 94) (j := e) m108_12 rfl (t_62 _ _) (rfl) (by omega) (Nat.le_of_ble_eq_true rfl) ?_
  refine g_iload_n m108_13 rfl ?_
  refine g_iret m108_14 rt_108 ?_
  exact hQ
set_option maxRecDepth 20000 in
set_option maxHeartbeats 40000000 in
theorem c_heldM {v z : Int32} (hQ : Q (some (.int (heldF v z))) h) : WP xs (d + 1) 109 0 0 [.int (v), .int (0), .int (z)] h Q := by
  refine wp_x mx_109 (L := [some (.int (v)), some (.int (0)), some (.int (z))]) (Nat.le_of_ble_eq_true rfl) rfl ?_
  refine g_iload_n m109_0 rfl ?_
  refine g_iload_n m109_1 rfl ?_
  refine h_ic_ge (xi := _) (zi := 0) m109_2 rfl rfl (fun c1 => ?_) (fun c1 => ?_)
  · skip
    refine g_iload_n m109_9 rfl ?_
    refine g_iload_n m109_10 rfl ?_
    refine h_ic_le (xi := _) (zi := _) m109_11 rfl rfl (fun c2 => ?_) (fun c2 => ?_)
    · skip
      refine g_iload_n m109_18 rfl ?_
      refine g_iret m109_19 rt_109 ?_
      rw [show heldF v z = v by unfold heldF; (repeat' split) <;> first | rfl | omega] at hQ
      exact hQ
    · skip
      refine g_iload_n m109_14 rfl ?_
      refine g_goto m109_15 ?_
      refine g_iret m109_19 rt_109 ?_
      rw [show heldF v z = z by unfold heldF; (repeat' split) <;> first | rfl | omega] at hQ
      exact hQ
  · skip
    refine g_iload_n m109_5 rfl ?_
    refine g_goto m109_6 ?_
    refine g_iret m109_19 rt_109 ?_
    rw [show heldF v z = (0 : Int32) by unfold heldF; (repeat' split) <;> first | rfl | omega] at hQ
    exact hQ
set_option maxRecDepth 20000 in
set_option maxHeartbeats 40000000 in
theorem c_its {i w : Nat} (hi : i < 8) (hw : w < 6) (hQ : Q (some (.int (m 58 (16 + 6 * i + w)))) (H m ln N)) : WP xs (d + 1) 111 0 0 [.ref (89), .int (nI (i)), .int (nI (w))] (H m ln N) Q := by
  refine wp_x mx_111 (L := [some (.ref (89)), some (.int (nI (i))), some (.int (nI (w)))]) (Nat.le_of_ble_eq_true rfl) rfl ?_
  refine g_aload_n m111_0 rfl ?_
  refine h_gfR (c := 90) (k := 57) (p := 89) m111_1 rfl (t_57 _ _) rfl (Nat.le_of_ble_eq_true rfl) ?_
  refine g_bipush m111_4 ?_
  refine g_bipush m111_6 ?_
  refine g_iload_n m111_8 rfl ?_
  refine g_imul (u := nI (6 * i)) m111_9 (pk_mul 6 i) ?_
  refine g_iadd (u := nI (16 + (6 * i))) m111_10 (nI_add 16 (6 * i)) ?_
  refine g_iload_n m111_11 rfl ?_
  refine g_iadd (u := nI ((16 + (6 * i)) + w)) m111_12 (nI_add (16 + (6 * i)) w) ?_
  refine h_ial (k := 58) (p := 90) (j := (16 + (6 * i)) + w) m111_13 rfl (t_58 _ _) (rfl) (by omega) (Nat.le_of_ble_eq_true rfl) (rfl) ?_
  refine g_iret m111_14 rt_111 ?_
  exact hQ
set_option maxRecDepth 20000 in
set_option maxHeartbeats 40000000 in
theorem c_gets {i w : Nat} {x : Int32} (hi : i < 8) (hw : w < 6) (hQ : Q none (H (upm m 58 (16 + 6 * i + w) x) ln N)) : WP xs (d + 1) 112 0 0 [.ref (89), .int (nI (i)), .int (nI (w)), .int (x)] (H m ln N) Q := by
  refine wp_x mx_112 (L := [some (.ref (89)), some (.int (nI (i))), some (.int (nI (w))), some (.int (x))]) (Nat.le_of_ble_eq_true rfl) rfl ?_
  refine g_aload_n m112_0 rfl ?_
  refine h_gfR (c := 90) (k := 57) (p := 89) m112_1 rfl (t_57 _ _) rfl (Nat.le_of_ble_eq_true rfl) ?_
  refine g_bipush m112_4 ?_
  refine g_bipush m112_6 ?_
  refine g_iload_n m112_8 rfl ?_
  refine g_imul (u := nI (6 * i)) m112_9 (pk_mul 6 i) ?_
  refine g_iadd (u := nI (16 + (6 * i))) m112_10 (nI_add 16 (6 * i)) ?_
  refine g_iload_n m112_11 rfl ?_
  refine g_iadd (u := nI ((16 + (6 * i)) + w)) m112_12 (nI_add (16 + (6 * i)) w) ?_
  refine g_iload_n m112_13 rfl ?_
  refine h_ias (k := 58) (p := 90) (j := (16 + (6 * i)) + w) m112_14 rfl (t_58 _ _) (rfl) (by omega) (Nat.le_of_ble_eq_true rfl) ?_
  refine g_vret m112_15 ?_
  exact hQ
set_option maxRecDepth 20000 in
set_option maxHeartbeats 40000000 in
theorem c_becomes {a : Nat} {x : Int32} (ha : a < 234) (hQ : Q (some (.int (m 58 a))) (H (upm m 58 a x) ln N)) : WP xs (d + 1) 114 0 0 [.ref (89), .int (nI (a)), .int (x)] (H m ln N) Q := by
  refine wp_x mx_114 (L := [some (.ref (89)), some (.int (nI (a))), some (.int (x)), none]) (Nat.le_of_ble_eq_true rfl) rfl ?_
  refine g_aload_n m114_0 rfl ?_
  refine h_gfR (c := 90) (k := 57) (p := 89) m114_1 rfl (t_57 _ _) rfl (Nat.le_of_ble_eq_true rfl) ?_
  refine g_iload_n m114_4 rfl ?_
  refine h_ial (k := 58) (p := 90) (j := a) m114_5 rfl (t_58 _ _) (rfl) (by omega) (Nat.le_of_ble_eq_true rfl) (rfl) ?_
  refine g_istore_n (L2 := [some (.ref (89)), some (.int (nI (a))), some (.int (x)), some (.int (m (58) (a)))]) m114_6 rfl rfl ?_
  refine g_aload_n m114_7 rfl ?_
  refine h_gfR (c := 90) (k := 57) (p := 89) m114_8 rfl (t_57 _ _) rfl (Nat.le_of_ble_eq_true rfl) ?_
  refine g_iload_n m114_11 rfl ?_
  refine g_iload_n m114_12 rfl ?_
  refine h_ias (k := 58) (p := 90) (j := a) m114_13 rfl (t_58 _ _) (rfl) (by omega) (Nat.le_of_ble_eq_true rfl) ?_
  refine g_iload_n m114_14 rfl ?_
  refine g_iret m114_15 rt_114 ?_
  exact hQ
set_option maxRecDepth 20000 in
set_option maxHeartbeats 40000000 in
theorem c_isDinerM {v : Int32} {n : Nat} (hd : m 58 2 = nI n) (hn : n ≤ 8) (hT : ∀ j : Nat, v = nI j → j < n → Q (some (.int 1)) (H m ln N)) (hF : (v.toInt < 0 ∨ (n : Int) ≤ v.toInt) → Q (some (.int 0)) (H m ln N)) : WP xs (d + 2) 113 0 0 [.ref (89), .int (v)] (H m ln N) Q := by
  refine wp_x mx_113 (L := [some (.ref (89)), some (.int (v))]) (Nat.le_of_ble_eq_true rfl) rfl ?_
  refine g_iload_n m113_0 rfl ?_
  refine g_iconst m113_1 ?_
  refine g_aload_n m113_2 rfl ?_
  refine h_gfR (c := 90) (k := 57) (p := 89) m113_3 rfl (t_57 _ _) rfl (Nat.le_of_ble_eq_true rfl) ?_
  refine g_iconst m113_6 ?_
  refine h_ial (k := 58) (p := 90) (j := 2) m113_7 rfl (t_58 _ _) (rfl) (by omega) (Nat.le_of_ble_eq_true rfl) (hd) ?_
  refine g_iconst m113_8 ?_
  refine g_isub m113_9 rfl ?_
  refine g_cs (args := [.int (v), .int (0), .int ((nI n - 1))]) (rest := []) 0 (Or.inl rfl) m113_10 (Nat.le_of_ble_eq_true rfl) rfl rfl (Nat.le_of_ble_eq_true rfl) ?_
  refine c_inI (A := 0) (B := (n : Int) - 1) (vi := v.toInt) rfl (by rw [sub_k (a := n) (b := 1) (nI_toInt (by omega)) rfl (by omega) (by omega)]) rfl (fun a => ?_) (fun a => ?_)
  · obtain ⟨j, ⟨h1, h2⟩, h3⟩ := nat_of (x := v) (lo := 0) (hi := n) (by omega) (by omega)
    have e : v.toInt = (j : Int) := by rw [h3]; exact nI_toInt (by omega)
    have hj : j < n := by omega
    refine gwr ?_
    refine g_zret m113_13 rt_113 (Or.inr rfl) ?_
    exact hT j h3 hj
  · skip
    refine gwr ?_
    refine g_zret m113_13 rt_113 (Or.inl rfl) ?_
    exact hF (by omega)
set_option maxRecDepth 20000 in
set_option maxHeartbeats 40000000 in
theorem c_above {k : Nat} (hk : k < 7) (hQ : Q (some (.int (aboveF k))) h) : WP xs (d + 1) 136 0 0 [.int (nI (k))] h Q := by
  refine wp_x mx_136 (L := [some (.int (nI (k)))]) (Nat.le_of_ble_eq_true rfl) rfl ?_
  rcases (show k = 0 ∨ k = 1 ∨ k = 2 ∨ k = 3 ∨ k = 4 ∨ k = 5 ∨ k = 6 by omega) with rfl | rfl | rfl | rfl | rfl | rfl | rfl
  · refine gwl (L' := [some (.int 0)]) rfl ?_
    refine g_iload_n m136_0 rfl ?_
    refine h_if_neT (xi := 0) (zi := 0) m136_1 rfl rfl (by decide) ?_
    refine g_iconst m136_4 ?_
    refine g_goto m136_5 ?_
    refine g_iret m136_20 rt_136 ?_
    exact hQ
  · refine gwl (L' := [some (.int 1)]) rfl ?_
    refine g_iload_n m136_0 rfl ?_
    refine h_if_neF (xi := 1) (zi := 0) m136_1 rfl rfl (by decide) ?_
    refine g_iload_n m136_8 rfl ?_
    refine g_iconst m136_9 ?_
    refine h_ic_leT (xi := 1) (zi := 3) m136_10 rfl rfl (by decide) ?_
    refine g_iconst m136_19 ?_
    refine g_iret m136_20 rt_136 ?_
    exact hQ
  · refine gwl (L' := [some (.int 2)]) rfl ?_
    refine g_iload_n m136_0 rfl ?_
    refine h_if_neF (xi := 2) (zi := 0) m136_1 rfl rfl (by decide) ?_
    refine g_iload_n m136_8 rfl ?_
    refine g_iconst m136_9 ?_
    refine h_ic_leT (xi := 2) (zi := 3) m136_10 rfl rfl (by decide) ?_
    refine g_iconst m136_19 ?_
    refine g_iret m136_20 rt_136 ?_
    exact hQ
  · refine gwl (L' := [some (.int 3)]) rfl ?_
    refine g_iload_n m136_0 rfl ?_
    refine h_if_neF (xi := 3) (zi := 0) m136_1 rfl rfl (by decide) ?_
    refine g_iload_n m136_8 rfl ?_
    refine g_iconst m136_9 ?_
    refine h_ic_leT (xi := 3) (zi := 3) m136_10 rfl rfl (by decide) ?_
    refine g_iconst m136_19 ?_
    refine g_iret m136_20 rt_136 ?_
    exact hQ
  · refine gwl (L' := [some (.int 4)]) rfl ?_
    refine g_iload_n m136_0 rfl ?_
    refine h_if_neF (xi := 4) (zi := 0) m136_1 rfl rfl (by decide) ?_
    refine g_iload_n m136_8 rfl ?_
    refine g_iconst m136_9 ?_
    refine h_ic_leF (xi := 4) (zi := 3) m136_10 rfl rfl (by decide) ?_
    refine g_iload_n m136_13 rfl ?_
    refine g_iconst m136_14 ?_
    refine g_isub (u := (1 : Int32)) m136_15 (by decide) ?_
    refine g_goto m136_16 ?_
    refine g_iret m136_20 rt_136 ?_
    exact hQ
  · refine gwl (L' := [some (.int 5)]) rfl ?_
    refine g_iload_n m136_0 rfl ?_
    refine h_if_neF (xi := 5) (zi := 0) m136_1 rfl rfl (by decide) ?_
    refine g_iload_n m136_8 rfl ?_
    refine g_iconst m136_9 ?_
    refine h_ic_leF (xi := 5) (zi := 3) m136_10 rfl rfl (by decide) ?_
    refine g_iload_n m136_13 rfl ?_
    refine g_iconst m136_14 ?_
    refine g_isub (u := (2 : Int32)) m136_15 (by decide) ?_
    refine g_goto m136_16 ?_
    refine g_iret m136_20 rt_136 ?_
    exact hQ
  · refine gwl (L' := [some (.int 6)]) rfl ?_
    refine g_iload_n m136_0 rfl ?_
    refine h_if_neF (xi := 6) (zi := 0) m136_1 rfl rfl (by decide) ?_
    refine g_iload_n m136_8 rfl ?_
    refine g_iconst m136_9 ?_
    refine h_ic_leF (xi := 6) (zi := 3) m136_10 rfl rfl (by decide) ?_
    refine g_iload_n m136_13 rfl ?_
    refine g_iconst m136_14 ?_
    refine g_isub (u := (3 : Int32)) m136_15 (by decide) ?_
    refine g_goto m136_16 ?_
    refine g_iret m136_20 rt_136 ?_
    exact hQ
set_option maxRecDepth 20000 in
set_option maxHeartbeats 40000000 in
theorem c_isSheet {v : Int32} (hT : ∀ j : Nat, v = nI j → j < 4 → Q (some (.int 1)) h) (hF : (v.toInt < 0 ∨ 3 < v.toInt) → Q (some (.int 0)) h) : WP xs (d + 2) 160 0 0 [.int (v)] h Q := by
  refine wp_x mx_160 (L := [some (.int (v))]) (Nat.le_of_ble_eq_true rfl) rfl ?_
  refine g_iload_n m160_0 rfl ?_
  refine g_iconst m160_1 ?_
  refine g_iconst m160_2 ?_
  refine g_cs (args := [.int (v), .int (0), .int (3)]) (rest := []) 0 (Or.inl rfl) m160_3 (Nat.le_of_ble_eq_true rfl) rfl rfl (Nat.le_of_ble_eq_true rfl) ?_
  refine c_in (A := 0) (B := 3) rfl rfl (by decide) (fun jv ev a_1 a_1' => ?_) (fun a_1 => ?_)
  · subst ev
    refine gwr ?_
    refine g_zret m160_6 rt_160 (Or.inr rfl) ?_
    exact hT jv rfl (by omega)
  · skip
    refine gwr ?_
    refine g_zret m160_6 rt_160 (Or.inl rfl) ?_
    exact hF (by omega)
end
