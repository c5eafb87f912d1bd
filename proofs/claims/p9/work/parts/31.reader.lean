/-! THE CLASS'S READER -/
/-- the reader: n bytes, the names of use u, at place p, z codes; ok: no fault yet -/
def RdS (m : MW) (n u p z : Nat) (ok : Bool) : Prop := m 43 3 = nI n ∧ m 43 4 = nI u ∧ m 43 5 = nI p ∧ m 43 1 = nI z ∧ m 43 6 = (if ok = true then -1 else nI p)
def FrR (m m2 : MW) : Prop := ∀ k j, ¬ (k = 44 ∨ (k = 43 ∧ (j = 1 ∨ j = 5 ∨ j = 6))) → m2 k j = m k j
theorem FrR.rf {m : MW} : FrR m m := fun _ _ _ => rfl
theorem FrR.tr {m m2 m3 : MW} (h : FrR m m2) (h2 : FrR m2 m3) : FrR m m3 := fun k j q => (h2 k j q).trans (h k j q)
theorem FrR.up {m m2 : MW} (h : FrR m m2) {k j : Nat} (x : Int32) (hk : k = 44 ∨ (k = 43 ∧ (j = 1 ∨ j = 5 ∨ j = 6))) : FrR m (upm m2 k j x) := by
  intro k2 j2 q
  unfold upm
  by_cases e : k2 = k ∧ j2 = j
  · exact absurd (by rw [e.1, e.2]; exact hk) q
  · rw [if_neg e, h k2 j2 q]
theorem FrR.tape {m m2 : MW} (h : FrR m m2) : m2 38 = m 38 := funext fun j => h 38 j (by omega)
/-- from z codes on the codes cs stand; those ahead are as they were -/
def CodA (m m2 : MW) (z : Nat) (cs : List Int32) : Prop := (∀ j, j < z → m2 44 j = m 44 j) ∧ ∀ j, j < cs.length → m2 44 (z + j) = cs.getD j 0
theorem CodA.nil {m m2 : MW} {z : Nat} (h : ∀ j, m2 44 j = m 44 j) : CodA m m2 z [] := ⟨fun j _ => h j, fun j hj => absurd hj (Nat.not_lt_zero j)⟩
theorem CodA.app {m m2 m3 : MW} {z : Nat} {a b : List Int32} (h : CodA m m2 z a) (h2 : CodA m2 m3 (z + a.length) b) : CodA m m3 z (a ++ b) := by
  refine ⟨fun j hj => (h2.1 j (by omega)).trans (h.1 j hj), fun j hj => ?_⟩
  rw [List.length_append] at hj
  rw [List.getD_eq_getElem?_getD]
  by_cases hja : j < a.length
  · rw [h2.1 (z + j) (by omega), h.2 j hja, List.getElem?_append_left hja, List.getD_eq_getElem?_getD]
  · have h3 := h2.2 (j - a.length) (by omega)
    rw [show z + a.length + (j - a.length) = z + j by omega] at h3
    rw [h3, List.getElem?_append_right (by omega), List.getD_eq_getElem?_getD]
theorem CodA.one {m m2 : MW} {z : Nat} {x : Int32} (h : ∀ j, m2 44 j = m 44 j) (k2 j2 : Nat) (y : Int32) (hk : k2 ≠ 44) : CodA m (upm (upm m2 44 z x) k2 j2 y) z [x] := by
  refine ⟨fun j hj => ?_, fun j hj => ?_⟩
  · rw [upm_k _ _ (by omega), upm_j _ _ (by omega), h j]
  · have h0 : j = 0 := by
      have : j < 1 := hj
      omega
    subst h0
    rw [upm_k _ _ (by omega)]
    exact upm_self _ _ _ _
/-- behind a reading that began at z codes and gives r -/
def Out (m : MW) (n u z : Nat) (r : PR3) (m2 : MW) : Prop := FrR m m2 ∧ ∃ z2, z2 ≤ 50 ∧ RdS m2 n u r.2.1 z2 r.2.2 ∧ (r.2.2 = true → z2 = z + r.1.length ∧ CodA m m2 z r.1)
theorem Out.tape {m : MW} {n u z : Nat} {r : PR3} {m2 : MW} (h : Out m n u z r m2) : m2 38 = m 38 := h.1.tape
def Tap (m : MW) : Prop := ∀ j, j < 50 → leI (m 38 j) 255
theorem bt_y {m : MW} {n p c : Nat} (hp : p < n) (h : m 38 p = nI c) (hc : c < 256) : bt (m 38) n p = (c : Int) := by
  unfold bt
  rw [if_pos hp, h, nI_toInt (by omega)]
theorem bt_n {B : Nat → Int32} {n p : Nat} (hp : n ≤ p) : bt B n p = -1 := if_neg (by omega)
section
variable {xs : List Int32} {d : Nat} {h : AH} {Q : QT} {m : MW} {ln : Nat → Nat} {N : Nat}
set_option maxRecDepth 20000 in
set_option maxHeartbeats 40000000 in
theorem c_here {n u p z : Nat} (hS : RdS m n u p z true) (hp : p ≤ n) (hn : n ≤ 50) (hT : Tap m) (h1 : p < n → ∀ c, c < 256 → m 38 p = nI c → Q (some (.int (nI c))) (H m ln N)) (h2 : n ≤ p → Q (some (.int (-1))) (H m ln N)) : WP xs (d + 1) 17 0 0 [.ref (75)] (H m ln N) Q := by
  refine wp_x mx_17 (L := [some (.ref (75))]) (Nat.le_of_ble_eq_true rfl) rfl ?_
  refine g_aload_n m17_0 rfl ?_
  refine h_gfI (k := 43) (p := 75) m17_1 rfl (t_43 _ _) rfl (hS.2.2.2.2) ?_
  refine h_if_geF (xi := (-1)) (zi := 0) m17_4 rfl rfl (by decide) ?_
  refine g_aload_n m17_7 rfl ?_
  refine h_gfI (k := 43) (p := 75) m17_8 rfl (t_43 _ _) rfl (hS.2.2.1) ?_
  refine g_aload_n m17_11 rfl ?_
  refine h_gfI (k := 43) (p := 75) m17_12 rfl (t_43 _ _) rfl (hS.1) ?_
  refine h_ic_ge (xi := ((p : Nat) : Int)) (zi := ((n : Nat) : Int)) m17_15 (nI_toInt (by omega)) (nI_toInt (by omega)) (fun c1 => ?_) (fun c1 => ?_)
  · skip
    refine g_iconst m17_30 ?_
    refine g_iret m17_31 rt_17 ?_
    exact h2 (by omega)
  · skip
    refine g_aload_n m17_18 rfl ?_
    refine h_gfR (c := 70) (k := 43) (p := 75) m17_19 rfl (t_43 _ _) rfl (Nat.le_of_ble_eq_true rfl) ?_
    refine g_aload_n m17_22 rfl ?_
    refine h_gfI (k := 43) (p := 75) m17_23 rfl (t_43 _ _) rfl (hS.2.2.1) ?_
    obtain ⟨c, hc, hce⟩ := hT p (by omega)
    refine h_ial (k := 38) (p := 70) (j := p) m17_26 rfl (t_38 _ _) (rfl) (by omega) (Nat.le_of_ble_eq_true rfl) (hce) ?_
    refine g_goto m17_27 ?_
    refine g_iret m17_31 rt_17 ?_
    exact h1 (by omega) c (by omega) hce
set_option maxRecDepth 20000 in
set_option maxHeartbeats 40000000 in
theorem c_hereF {n u p z : Nat} (hS : RdS m n u p z false) (hp : p ≤ n) (hn : n ≤ 50) (hQ : Q (some (.int (-1))) (H m ln N)) : WP xs (d + 1) 17 0 0 [.ref (75)] (H m ln N) Q := by
  refine wp_x mx_17 (L := [some (.ref (75))]) (Nat.le_of_ble_eq_true rfl) rfl ?_
  refine g_aload_n m17_0 rfl ?_
  refine h_gfI (k := 43) (p := 75) m17_1 rfl (t_43 _ _) rfl (hS.2.2.2.2) ?_
  refine h_if_geT (xi := ((p : Nat) : Int)) (zi := 0) m17_4 (nI_toInt (by omega)) rfl (by omega) ?_
  refine g_iconst m17_30 ?_
  refine g_iret m17_31 rt_17 ?_
  exact hQ
set_option maxRecDepth 20000 in
set_option maxHeartbeats 40000000 in
theorem c_isDigitI {v : Int32} {vi : Int} (hv : v.toInt = vi) (hT : isDig vi = true → Q (some (.int 1)) h) (hF : ¬ isDig vi = true → Q (some (.int 0)) h) : WP xs (d + 1) 20 0 0 [.int (v)] h Q := by
  refine wp_x mx_20 (L := [some (.int (v))]) (Nat.le_of_ble_eq_true rfl) rfl ?_
  refine g_iload_n m20_0 rfl ?_
  refine g_bipush m20_1 ?_
  refine h_ic_lt (xi := vi) (zi := 48) m20_3 hv rfl (fun c1 => ?_) (fun c1 => ?_)
  · skip
    refine g_iconst m20_16 ?_
    refine g_zret m20_17 rt_20 (Or.inl rfl) ?_
    exact hF (by unfold isDig; rw [decide_eq_true_eq]; omega)
  · skip
    refine g_iload_n m20_6 rfl ?_
    refine g_bipush m20_7 ?_
    refine h_ic_gt (xi := vi) (zi := 57) m20_9 hv rfl (fun c2 => ?_) (fun c2 => ?_)
    · skip
      refine g_iconst m20_16 ?_
      refine g_zret m20_17 rt_20 (Or.inl rfl) ?_
      exact hF (by unfold isDig; rw [decide_eq_true_eq]; omega)
    · skip
      refine g_iconst m20_12 ?_
      refine g_goto m20_13 ?_
      refine g_zret m20_17 rt_20 (Or.inr rfl) ?_
      exact hT (by unfold isDig; exact decide_eq_true (by omega))
set_option maxRecDepth 20000 in
set_option maxHeartbeats 40000000 in
theorem c_fail {n u p z : Nat} (hS : RdS m n u p z true) (hp : p ≤ n) (hn : n ≤ 50) (hT : Tap m) (hQ : Q none (H (upm m 43 6 (nI p)) ln N)) : WP xs (d + 1) 22 0 0 [.ref (75)] (H m ln N) Q := by
  refine wp_x mx_22 (L := [some (.ref (75))]) (Nat.le_of_ble_eq_true rfl) rfl ?_
  refine g_aload_n m22_0 rfl ?_
  refine h_gfI (k := 43) (p := 75) m22_1 rfl (t_43 _ _) rfl (hS.2.2.2.2) ?_
  refine h_if_geF (xi := (-1)) (zi := 0) m22_4 rfl rfl (by decide) ?_
  refine g_aload_n m22_7 rfl ?_
  refine g_aload_n m22_8 rfl ?_
  refine h_gfI (k := 43) (p := 75) m22_9 rfl (t_43 _ _) rfl (hS.2.2.1) ?_
  refine h_pfI (k := 43) (p := 75) m22_12 rfl (t_43 _ _) rfl trivial ?_
  refine g_vret m22_15 ?_
  exact hQ
set_option maxRecDepth 20000 in
set_option maxHeartbeats 40000000 in
theorem c_failF {n u p z : Nat} (hS : RdS m n u p z false) (hp : p ≤ n) (hn : n ≤ 50) (hQ : Q none (H m ln N)) : WP xs (d + 1) 22 0 0 [.ref (75)] (H m ln N) Q := by
  refine wp_x mx_22 (L := [some (.ref (75))]) (Nat.le_of_ble_eq_true rfl) rfl ?_
  refine g_aload_n m22_0 rfl ?_
  refine h_gfI (k := 43) (p := 75) m22_1 rfl (t_43 _ _) rfl (hS.2.2.2.2) ?_
  refine h_if_geT (xi := ((p : Nat) : Int)) (zi := 0) m22_4 (nI_toInt (by omega)) rfl (by omega) ?_
  refine g_vret m22_15 ?_
  exact hQ
set_option maxRecDepth 20000 in
set_option maxHeartbeats 40000000 in
theorem c_add {z : Nat} {x : Int32} (hz : m 43 1 = nI z) (hz5 : z ≤ 50) (h1 : z < 50 → Q none (H (upm (upm m 44 z x) 43 1 (nI (z + 1))) ln N)) (h2 : z = 50 → Q none (H m ln N)) : WP xs (d + 1) 19 0 0 [.ref (75), .int (x)] (H m ln N) Q := by
  refine wp_x mx_19 (L := [some (.ref (75)), some (.int (x))]) (Nat.le_of_ble_eq_true rfl) rfl ?_
  refine g_aload_n m19_0 rfl ?_
  refine h_gfI (k := 43) (p := 75) m19_1 rfl (t_43 _ _) rfl (hz) ?_
  refine g_bipush m19_4 ?_
  refine h_ic_ge (xi := ((z : Nat) : Int)) (zi := 50) m19_6 (nI_toInt (by omega)) rfl (fun c1 => ?_) (fun c1 => ?_)
  · skip
    refine g_vret m19_29 ?_
    first | exact h1 (by omega) | exact h2 (by omega)
  · skip
    refine g_aload_n m19_9 rfl ?_
    refine h_gfR (c := 76) (k := 43) (p := 75) m19_10 rfl (t_43 _ _) rfl (Nat.le_of_ble_eq_true rfl) ?_
    refine g_aload_n m19_13 rfl ?_
    refine h_gfI (k := 43) (p := 75) m19_14 rfl (t_43 _ _) rfl (hz) ?_
    refine g_iload_n m19_17 rfl ?_
    refine h_ias (k := 44) (p := 76) (j := z) m19_18 rfl (t_44 _ _) (rfl) (by omega) (Nat.le_of_ble_eq_true rfl) ?_
    refine g_aload_n m19_19 rfl ?_
    refine g_dup m19_20 rfl ?_
    refine h_gfI (k := 43) (p := 75) m19_21 rfl (t_43 _ _) rfl (hz) ?_
    refine g_iconst m19_24 ?_
    refine g_iadd (u := nI (z + 1)) m19_25 (nI_add z 1) ?_
    refine h_pfI (k := 43) (p := 75) m19_26 rfl (t_43 _ _) rfl trivial ?_
    refine g_vret m19_29 ?_
    first | exact h1 (by omega) | exact h2 (by omega)
set_option maxRecDepth 20000 in
set_option maxHeartbeats 40000000 in
theorem c_signsOf {lv : Nat} (hl : lv < 5) (hQ : Q (some (.ref (6 + lv))) h) : WP xs (d + 1) 16 0 0 [.int (nI (lv))] h Q := by
  refine wp_x mx_16 (L := [some (.int (nI (lv)))]) (Nat.le_of_ble_eq_true rfl) rfl ?_
  rcases (show lv = 0 ∨ lv = 1 ∨ lv = 2 ∨ lv = 3 ∨ lv = 4 by omega) with rfl | rfl | rfl | rfl | rfl
  · skip
    refine g_iload_n m16_0 rfl ?_
    refine gs m16_1 ?_
    refine gwpc (pc' := 32) rfl ?_
    refine g_ldcs m16_32 (by decide) ?_
    refine g_aret m16_34 ?_
    exact hQ
  · skip
    refine g_iload_n m16_0 rfl ?_
    refine gs m16_1 ?_
    refine gwpc (pc' := 35) rfl ?_
    refine g_ldcs m16_35 (by decide) ?_
    refine g_aret m16_37 ?_
    exact hQ
  · skip
    refine g_iload_n m16_0 rfl ?_
    refine gs m16_1 ?_
    refine gwpc (pc' := 38) rfl ?_
    refine g_ldcs m16_38 (by decide) ?_
    refine g_aret m16_40 ?_
    exact hQ
  · skip
    refine g_iload_n m16_0 rfl ?_
    refine gs m16_1 ?_
    refine gwpc (pc' := 41) rfl ?_
    refine g_ldcs m16_41 (by decide) ?_
    refine g_aret m16_43 ?_
    exact hQ
  · skip
    refine g_iload_n m16_0 rfl ?_
    refine gs m16_1 ?_
    refine gwpc (pc' := 44) rfl ?_
    refine g_ldcs m16_44 (by decide) ?_
    refine g_aret m16_46 ?_
    exact hQ
theorem ix_r : ∀ s, s < 8 → ∀ c, c < 256 → -1 ≤ ixS s c ∧ ixS s c < 3 := by decide +kernel
theorem ix_t {s c : Nat} (hs : s < 8) (hc : c < 256) : (Int32.ofInt (ixS s c)).toInt = ixS s c := by
  have h := ix_r s hs c hc
  rw [Int32.toInt_ofInt]
  show Int.bmod (ixS s c) 4294967296 = ixS s c
  exact Int.bmod_eq_of_le (by omega) (by omega)
set_option maxRecDepth 20000 in
set_option maxHeartbeats 40000000 in
theorem c_passR {n u p z : Nat} {s : Nat} (hS : RdS m n u p z true) (hp : p ≤ n) (hn : n ≤ 50) (hT : Tap m) (hs : s < 8) (hQ1 : p < n → ∀ c, c < 256 → m 38 p = nI c → 0 ≤ ixS s c → Q (some (.int (nI c))) (H (upm m 43 5 (nI (p + 1))) ln N)) (hF : (∀ c, c < 256 → p < n → m 38 p = nI c → ¬ 0 ≤ ixS s c) → Q (some (.int 0)) (H m ln N)) : WP xs (d + 5) 18 0 0 [.ref (75), .ref (3 + s)] (H m ln N) Q := by
  refine wp_x mx_18 (L := [some (.ref (75)), some (.ref (3 + s)), none]) (Nat.le_of_ble_eq_true rfl) rfl ?_
  refine g_aload_n m18_0 rfl ?_
  refine h_cv (k := 43) (p := 75) (args := []) (rest := []) m18_1 cn_17 (Nat.le_of_ble_eq_true rfl) rfl rfl rfl (t_43 _ _) (Nat.le_of_ble_eq_true rfl) ?_
  refine c_here hS hp hn hT (fun hpn c hc hce => ?_) (fun hpn => ?_)
  · skip
    refine gwr ?_
    refine g_istore_n (L2 := [some (.ref (75)), some (.ref (3 + s)), some (.int (nI (c)))]) m18_4 rfl rfl ?_
    refine g_iload_n m18_5 rfl ?_
    refine h_if_lt (xi := ((c : Nat) : Int)) (zi := 0) m18_6 (nI_toInt (by omega)) rfl (fun c1 => ?_) (fun c1 => ?_)
    · skip
      refine g_iconst m18_18 ?_
      refine g_iret m18_19 rt_18 ?_
      first | exact hF (fun c _ hpn2 hce2 hix => absurd hpn2 (by omega)) | exact hF (fun c2 hc2 hpn2 hce2 hix => by
        have e := (nI_eq (a := c) (b := c2) (by omega) (by omega)).mp (hce.symm.trans hce2)
        subst e
        omega)
    · skip
      refine g_aload_n m18_9 rfl ?_
      refine g_iload_n m18_10 rfl ?_
      refine g_i2c (u := nI (c)) m18_11 (by rw [pk_char, pk_tn (by omega), Nat.mod_eq_of_lt (by omega)]) ?_
      refine g_cv (fs := [.ref (11 + s), .int 0]) (args := [.int (nI (c))]) (rest := []) m18_12 (Nat.le_of_ble_eq_true rfl) rfl rfl (by rw [cn_4]; exact ro_s hs) (Nat.le_of_ble_eq_true rfl) ?_
      refine c_ixOf hs hc ?_
      have hir : (Int32.ofInt (ixS s c)).toInt = ixS s c := ix_t hs hc
      refine gwr ?_
      refine h_if_ge (xi := ixS s c) (zi := 0) m18_15 hir rfl (fun c2 => ?_) (fun c2 => ?_)
      · skip
        refine g_aload_n m18_20 rfl ?_
        refine g_dup m18_21 rfl ?_
        refine h_gfI (k := 43) (p := 75) m18_22 rfl (t_43 _ _) rfl (hS.2.2.1) ?_
        refine g_iconst m18_25 ?_
        refine g_iadd (u := nI (p + 1)) m18_26 (nI_add p 1) ?_
        refine h_pfI (k := 43) (p := 75) m18_27 rfl (t_43 _ _) rfl trivial ?_
        refine g_iload_n m18_30 rfl ?_
        refine g_iret m18_31 rt_18 ?_
        exact hQ1 hpn c hc hce (by omega)
      · skip
        refine g_iconst m18_18 ?_
        refine g_iret m18_19 rt_18 ?_
        first | exact hF (fun c _ hpn2 hce2 hix => absurd hpn2 (by omega)) | exact hF (fun c2 hc2 hpn2 hce2 hix => by
          have e := (nI_eq (a := c) (b := c2) (by omega) (by omega)).mp (hce.symm.trans hce2)
          subst e
          omega)
  · skip
    refine gwr ?_
    refine g_istore_n (L2 := [some (.ref (75)), some (.ref (3 + s)), some (.int (-1))]) m18_4 rfl rfl ?_
    refine g_iload_n m18_5 rfl ?_
    refine h_if_ltT (xi := (-1)) (zi := 0) m18_6 rfl rfl (by decide) ?_
    refine g_iconst m18_18 ?_
    refine g_iret m18_19 rt_18 ?_
    first | exact hF (fun c _ hpn2 hce2 hix => absurd hpn2 (by omega)) | exact hF (fun c2 hc2 hpn2 hce2 hix => by
      have e := (nI_eq (a := c) (b := c2) (by omega) (by omega)).mp (hce.symm.trans hce2)
      subst e
      omega)
set_option maxRecDepth 20000 in
set_option maxHeartbeats 40000000 in
theorem c_passRF {n u p z : Nat} {s : Nat} (hS : RdS m n u p z false) (hp : p ≤ n) (hn : n ≤ 50) (hQ : Q (some (.int 0)) (H m ln N)) : WP xs (d + 5) 18 0 0 [.ref (75), .ref (3 + s)] (H m ln N) Q := by
  refine wp_x mx_18 (L := [some (.ref (75)), some (.ref (3 + s)), none]) (Nat.le_of_ble_eq_true rfl) rfl ?_
  refine g_aload_n m18_0 rfl ?_
  refine h_cv (k := 43) (p := 75) (args := []) (rest := []) m18_1 cn_17 (Nat.le_of_ble_eq_true rfl) rfl rfl rfl (t_43 _ _) (Nat.le_of_ble_eq_true rfl) ?_
  refine c_hereF hS hp hn ?_
  refine gwr ?_
  refine g_istore_n (L2 := [some (.ref (75)), some (.ref (3 + s)), some (.int (-1))]) m18_4 rfl rfl ?_
  refine g_iload_n m18_5 rfl ?_
  refine h_if_ltT (xi := (-1)) (zi := 0) m18_6 rfl rfl (by decide) ?_
  refine g_iconst m18_18 ?_
  refine g_iret m18_19 rt_18 ?_
  exact hQ
set_option maxRecDepth 20000 in
set_option maxHeartbeats 40000000 in
theorem c_readNumber {n u p z : Nat} (hS : RdS m n u p z true) (hp : p ≤ n) (hn : n ≤ 50) (hT : Tap m) (hz : z < 50) (hQ : ∀ m2, Out m n u z ([nI (1000 + (numP (m 38) n 4 0 p).1)], (numP (m 38) n 4 0 p).2, true) m2 → Q none (H m2 ln N)) : WP xs (d + 2) 21 0 0 [.ref (75)] (H m ln N) Q := by
  refine wp_x mx_21 (L := [some (.ref (75)), none, none]) (Nat.le_of_ble_eq_true rfl) rfl ?_
  have key : ∀ (r q v p2 : Nat) (m2 : MW), q + r = 4 → p ≤ p2 → p2 ≤ n → RdS m2 n u p2 z true → FrR m m2 → (∀ j, m2 44 j = m 44 j) → v < 10 ^ q → numP (m 38) n r v p2 = numP (m 38) n 4 0 p → gw xs (WP xs (d + 1)) 21 Q 4 [some (.ref (75)), some (.int (nI (v))), some (.int (nI (q)))] [] (H m2 ln N) 0 0 := by
    intro r
    induction r with
    | zero =>
      intro q v p2 m2 hq hp1 hp2 hS2 hF2 h44 hv hnum
      have hnum : (v, p2) = numP (m 38) n 4 0 p := hnum
      refine g_iload_n m21_4 rfl ?_
      refine g_iconst m21_5 ?_
      refine h_ic_geT (xi := ((q : Nat) : Int)) (zi := 4) m21_6 (nI_toInt (by omega)) rfl (by omega) ?_
      refine g_aload_n m21_48 rfl ?_
      refine g_sipush m21_49 ?_
      refine g_iload_n m21_52 rfl ?_
      refine g_iadd (u := nI (1000 + v)) m21_53 (nI_add 1000 v) ?_
      refine h_cv (k := 43) (p := 75) (args := [.int (nI (1000 + v))]) (rest := []) m21_54 cn_19 (Nat.le_of_ble_eq_true rfl) rfl rfl rfl (t_43 _ _) (Nat.le_of_ble_eq_true rfl) ?_
      refine c_add hS2.2.2.2.1 (by omega) (fun _ => ?_) (fun h5 => absurd h5 (by omega))
      refine gwr0 ?_
      refine g_vret m21_57 ?_
      refine hQ _ ⟨(hF2.up _ (Or.inl rfl)).up _ (Or.inr ⟨rfl, Or.inl rfl⟩), z + 1, by omega, ?_, fun _ => ⟨rfl, ?_⟩⟩
      · show RdS _ n u (numP (m 38) n 4 0 p).2 (z + 1) true
        rw [← hnum]
        exact ⟨hS2.1, hS2.2.1, hS2.2.2.1, rfl, hS2.2.2.2.2⟩
      · show CodA m _ z [nI (1000 + (numP (m 38) n 4 0 p).1)]
        rw [← hnum]
        exact CodA.one h44 _ _ _ (by decide)
    | succ r ih =>
      intro q v p2 m2 hq hp1 hp2 hS2 hF2 h44 hv hnum
      have hT2 : Tap m2 := fun j hj => by rw [hF2.tape]; exact hT j hj
      have hv4 : v < 10 ^ 4 := Nat.lt_of_lt_of_le hv (Nat.pow_le_pow_right (by decide) (by omega))
      refine g_iload_n m21_4 rfl ?_
      refine g_iconst m21_5 ?_
      refine h_ic_geF (xi := ((q : Nat) : Int)) (zi := 4) m21_6 (nI_toInt (by omega)) rfl (by omega) ?_
      refine g_aload_n m21_9 rfl ?_
      refine h_cv (k := 43) (p := 75) (args := []) (rest := []) m21_10 cn_17 (Nat.le_of_ble_eq_true rfl) rfl rfl rfl (t_43 _ _) (Nat.le_of_ble_eq_true rfl) ?_
      refine c_here hS2 hp2 hn hT2 (fun hpn c hc hce => ?_) (fun hpn => ?_)
      · have hbt : bt (m 38) n p2 = (c : Int) := bt_y hpn (by rw [← hF2.tape]; exact hce) hc
        refine gwr ?_
        refine g_cs (args := [.int (nI (c))]) (rest := []) 0 (Or.inl rfl) m21_13 (Nat.le_of_ble_eq_true rfl) rfl rfl (Nat.le_of_ble_eq_true rfl) ?_
        refine c_isDigitI (vi := ((c : Nat) : Int)) (nI_toInt (by omega)) (fun a_1 => ?_) (fun a_1 => ?_)
        · skip
          have hd9 := isDig_e a_1
          refine gwr ?_
          refine h_if_eqF (xi := 1) (zi := 0) m21_16 rfl rfl (by decide) ?_
          refine g_iload_n m21_19 rfl ?_
          refine g_bipush m21_20 ?_
          refine g_imul (u := nI (v * 10)) m21_22 (pk_mul v 10) ?_
          refine g_aload_n m21_23 rfl ?_
          refine h_cv (k := 43) (p := 75) (args := []) (rest := [.int (nI (v * 10))]) m21_24 cn_17 (Nat.le_of_ble_eq_true rfl) rfl rfl rfl (t_43 _ _) (Nat.le_of_ble_eq_true rfl) ?_
          refine c_here hS2 hp2 hn hT2 (fun hpn c2 hc2 hce2 => ?_) (fun hpn2 => absurd hpn2 (by omega))
          obtain rfl : c2 = c := (nI_eq (by omega) (by omega)).mp (hce2.symm.trans hce)
          refine gwr ?_
          refine g_iadd (u := nI ((v * 10) + c2)) m21_27 (nI_add (v * 10) c2) ?_
          refine g_bipush m21_28 ?_
          refine g_isub (u := nI (((v * 10) + c2) - 48)) m21_30 (pk_sub (a := ((v * 10) + c2)) (b := 48) (by omega)) ?_
          refine g_istore_n (L2 := [some (.ref (75)), some (.int (nI (((v * 10) + c2) - 48))), some (.int (nI (q)))]) m21_31 rfl rfl ?_
          refine g_aload_n m21_32 rfl ?_
          refine g_dup m21_33 rfl ?_
          refine h_gfI (k := 43) (p := 75) m21_34 rfl (t_43 _ _) rfl (hS2.2.2.1) ?_
          refine g_iconst m21_37 ?_
          refine g_iadd (u := nI (p2 + 1)) m21_38 (nI_add p2 1) ?_
          refine h_pfI (k := 43) (p := 75) m21_39 rfl (t_43 _ _) rfl trivial ?_
          refine g_iinc (L2 := [some (.ref (75)), some (.int (nI (((v * 10) + c2) - 48))), some (.int (nI (q + 1)))]) m21_42 rfl (nI_1 _) rfl rfl ?_
          refine g_goto m21_45 ?_
          refine ih (q + 1) _ (p2 + 1) _ (by omega) (by omega) (by omega) ⟨hS2.1, hS2.2.1, rfl, hS2.2.2.2.1, hS2.2.2.2.2⟩ (hF2.up _ (Or.inr ⟨rfl, Or.inr (Or.inl rfl)⟩)) h44 ?_ ?_
          · rw [Nat.pow_succ]
            omega
          · rw [← hnum]
            show _ = if isDig (bt (m 38) n p2) = true then _ else _
            rw [hbt, if_pos a_1]
            congr 1
            omega
        · skip
          refine gwr ?_
          refine h_if_eqT (xi := 0) (zi := 0) m21_16 rfl rfl (by decide) ?_
          have hnum : (v, p2) = numP (m 38) n 4 0 p := by
            rw [← hnum]
            show _ = if isDig (bt (m 38) n p2) = true then _ else _
            rw [hbt, if_neg a_1]
          refine g_aload_n m21_48 rfl ?_
          refine g_sipush m21_49 ?_
          refine g_iload_n m21_52 rfl ?_
          refine g_iadd (u := nI (1000 + v)) m21_53 (nI_add 1000 v) ?_
          refine h_cv (k := 43) (p := 75) (args := [.int (nI (1000 + v))]) (rest := []) m21_54 cn_19 (Nat.le_of_ble_eq_true rfl) rfl rfl rfl (t_43 _ _) (Nat.le_of_ble_eq_true rfl) ?_
          refine c_add hS2.2.2.2.1 (by omega) (fun _ => ?_) (fun h5 => absurd h5 (by omega))
          refine gwr0 ?_
          refine g_vret m21_57 ?_
          refine hQ _ ⟨(hF2.up _ (Or.inl rfl)).up _ (Or.inr ⟨rfl, Or.inl rfl⟩), z + 1, by omega, ?_, fun _ => ⟨rfl, ?_⟩⟩
          · show RdS _ n u (numP (m 38) n 4 0 p).2 (z + 1) true
            rw [← hnum]
            exact ⟨hS2.1, hS2.2.1, hS2.2.2.1, rfl, hS2.2.2.2.2⟩
          · show CodA m _ z [nI (1000 + (numP (m 38) n 4 0 p).1)]
            rw [← hnum]
            exact CodA.one h44 _ _ _ (by decide)
      · have hbt : bt (m 38) n p2 = -1 := bt_n hpn
        refine gwr ?_
        refine g_cs (args := [.int (-1)]) (rest := []) 0 (Or.inl rfl) m21_13 (Nat.le_of_ble_eq_true rfl) rfl rfl (Nat.le_of_ble_eq_true rfl) ?_
        refine c_isDigitI (vi := (-1)) rfl (fun a_2 => ?_) (fun a_2 => ?_)
        · skip
          exact absurd a_2 (by decide)
        · skip
          refine gwr ?_
          refine h_if_eqT (xi := 0) (zi := 0) m21_16 rfl rfl (by decide) ?_
          have hnum : (v, p2) = numP (m 38) n 4 0 p := by
            rw [← hnum]
            show _ = if isDig (bt (m 38) n p2) = true then _ else _
            rw [hbt, if_neg a_2]
          refine g_aload_n m21_48 rfl ?_
          refine g_sipush m21_49 ?_
          refine g_iload_n m21_52 rfl ?_
          refine g_iadd (u := nI (1000 + v)) m21_53 (nI_add 1000 v) ?_
          refine h_cv (k := 43) (p := 75) (args := [.int (nI (1000 + v))]) (rest := []) m21_54 cn_19 (Nat.le_of_ble_eq_true rfl) rfl rfl rfl (t_43 _ _) (Nat.le_of_ble_eq_true rfl) ?_
          refine c_add hS2.2.2.2.1 (by omega) (fun _ => ?_) (fun h5 => absurd h5 (by omega))
          refine gwr0 ?_
          refine g_vret m21_57 ?_
          refine hQ _ ⟨(hF2.up _ (Or.inl rfl)).up _ (Or.inr ⟨rfl, Or.inl rfl⟩), z + 1, by omega, ?_, fun _ => ⟨rfl, ?_⟩⟩
          · show RdS _ n u (numP (m 38) n 4 0 p).2 (z + 1) true
            rw [← hnum]
            exact ⟨hS2.1, hS2.2.1, hS2.2.2.1, rfl, hS2.2.2.2.2⟩
          · show CodA m _ z [nI (1000 + (numP (m 38) n 4 0 p).1)]
            rw [← hnum]
            exact CodA.one h44 _ _ _ (by decide)
  refine g_iconst m21_0 ?_
  refine g_istore_n (L2 := [some (.ref (75)), some (.int (0)), none]) m21_1 rfl rfl ?_
  refine g_iconst m21_2 ?_
  refine g_istore_n (L2 := [some (.ref (75)), some (.int (0)), some (.int (0))]) m21_3 rfl rfl ?_
  exact key 4 0 0 p m rfl (Nat.le_refl _) hp hS FrR.rf (fun _ => rfl) (by decide) rfl
end
