/-! STRINGS -/
section
variable {xs : List Int32} {d : Nat} {h : AH} {Q : QT} {m : MW} {ln : Nat → Nat} {N : Nat}
theorem ro_s {xs : List Int32} {h : AH} {s : Nat} (hs : s < 8) : smC xs h (3 + s) = some (.inr (60, [.ref (11 + s), .int 0])) := by
  rcases (show s = 0 ∨ s = 1 ∨ s = 2 ∨ s = 3 ∨ s = 4 ∨ s = 5 ∨ s = 6 ∨ s = 7 by omega) with rfl | rfl | rfl | rfl | rfl | rfl | rfl | rfl <;> rfl
theorem ro_b {xs : List Int32} {h : AH} {s : Nat} (hs : s < 8) : smC xs h (11 + s) = some (.inl (3, roB s)) := by
  rcases (show s = 0 ∨ s = 1 ∨ s = 2 ∨ s = 3 ∨ s = 4 ∨ s = 5 ∨ s = 6 ∨ s = 7 by omega) with rfl | rfl | rfl | rfl | rfl | rfl | rfl | rfl <;> rfl
theorem roB_len : ∀ s, s < 8 → 1 ≤ (roB s).length ∧ (roB s).length ≤ 3 := by decide +kernel
theorem roB_rng : ∀ s, s < 8 → ∀ q, q < (roB s).length → 0 ≤ ((roB s).getD q 0).toInt ∧ ((roB s).getD q 0).toInt < 128 := by decide +kernel
theorem by_c : ∀ c, c < 256 → (c < 128 → (nI c).toInt8.toInt32 = nI c) ∧ (128 ≤ c → ((nI c).toInt8.toInt32).toInt < 0) := by decide +kernel
/-- where a sign stands in a row of them; -1: it doesn't -/
def ixL : List Int32 → Int → Int → Int
  | [], _, _ => -1
  | y :: ys, c, i => if y.toInt = c then i else ixL ys c (i + 1)
def ixS (s c : Nat) : Int := ixL (roB s) c 0
theorem ix_drop {s q : Nat} (hq : q < (roB s).length) (c : Int) : ixL ((roB s).drop q) c q = if ((roB s).getD q 0).toInt = c then (q : Int) else ixL ((roB s).drop (q + 1)) c ((q + 1 : Nat) : Int) := by
  rw [List.drop_eq_getElem_cons hq, List.getD_eq_getElem?_getD, List.getElem?_eq_getElem hq]
  rfl
theorem h_bret {xs : List Int32} {d y : Nat} {Q : QT} {pc : Nat} {L : LoS} {h : AH} {mc ms : Nat} {nx kd a b : Nat} {v : Int32} {x : Int32} (hr : smI y pc = some (.ireturn, nx, kd, a, b, v)) (ht : mRt y = some .byte) (hx : -128 ≤ x ∧ x ≤ 127) (g : Q (some (.int x)) h) : gw xs (WP xs d) y Q pc L [.int x] h mc ms := gs hr (by
  dsimp only [stp, pI]
  rw [ht]
  exact ⟨rfl, hx, g⟩)
theorem ixS_n : ∀ c, c < 256 → (ixS 0 c = match nameP 0 c with | some k => k.toInt | none => -1) ∧ (ixS 1 c = match nameP 1 c with | some k => k.toInt | none => -1) := by decide +kernel
theorem ixS_p : ∀ lv, lv < 5 → ∀ c, c < 256 → (0 ≤ ixS (3 + lv) c ↔ signP lv c = true) := by decide +kernel
theorem ixS_c : ∀ c, c < 256 → (0 ≤ ixS 2 c ↔ c = 41) := by decide +kernel
set_option maxRecDepth 20000 in
set_option maxHeartbeats 40000000 in
theorem c_coder {s : Nat} (hs : s < 8) (hQ : Q (some (.int 0)) h) : WP xs (d + 1) 1 0 0 [.ref (3 + s)] h Q := by
  refine wp_x mx_1 (L := [some (.ref (3 + s))]) (Nat.le_of_ble_eq_true rfl) rfl ?_
  refine g_gst m1_0 rfl ?_
  refine h_if_eqF (xi := 1) (zi := 0) m1_3 rfl rfl (by decide) ?_
  refine g_aload_n m1_6 rfl ?_
  refine g_gf (fs := [.ref (11 + s), .int 0]) m1_7 (ro_s hs) rfl ?_
  refine g_goto m1_10 ?_
  refine h_bret m1_14 rt_1 (by decide) ?_
  exact hQ
set_option maxRecDepth 20000 in
set_option maxHeartbeats 40000000 in
theorem c_isLatin1 {s : Nat} (hs : s < 8) (hQ : Q (some (.int 1)) h) : WP xs (d + 1) 0 0 0 [.ref (3 + s)] h Q := by
  refine wp_x mx_0 (L := [some (.ref (3 + s))]) (Nat.le_of_ble_eq_true rfl) rfl ?_
  refine g_gst m0_0 rfl ?_
  refine h_if_eqF (xi := 1) (zi := 0) m0_3 rfl rfl (by decide) ?_
  refine g_aload_n m0_6 rfl ?_
  refine g_gf (fs := [.ref (11 + s), .int 0]) m0_7 (ro_s hs) rfl ?_
  refine h_if_neT (xi := 0) (zi := 0) m0_10 rfl rfl (by decide) ?_
  refine g_iconst m0_13 ?_
  refine g_goto m0_14 ?_
  refine g_zret m0_18 rt_0 (Or.inr rfl) ?_
  exact hQ
set_option maxRecDepth 20000 in
set_option maxHeartbeats 40000000 in
theorem c_strlen {s : Nat} (hs : s < 8) (hQ : Q (some (.int (nI (roB s).length))) h) : WP xs (d + 2) 2 0 0 [.ref (3 + s)] h Q := by
  refine wp_x mx_2 (L := [some (.ref (3 + s))]) (Nat.le_of_ble_eq_true rfl) rfl ?_
  refine g_aload_n m2_0 rfl ?_
  refine g_gf (fs := [.ref (11 + s), .int 0]) m2_1 (ro_s hs) rfl ?_
  refine g_alen (n := (roB s).length) m2_4 (ro_b hs) (Or.inr (Or.inr ⟨by omega, rfl⟩)) rfl ?_
  refine gwst (st' := .int (nI (roB s).length) :: _) rfl ?_
  refine g_aload_n m2_5 rfl ?_
  refine g_cv (fs := [.ref (11 + s), .int 0]) (args := []) (rest := [.int (nI ((roB s).length))]) m2_6 (Nat.le_of_ble_eq_true rfl) rfl rfl (by rw [cn_1]; exact ro_s hs) (Nat.le_of_ble_eq_true rfl) ?_
  refine c_coder hs ?_
  refine gwr ?_
  refine g_ishr (u := nI (roB s).length) m2_9 (sc_shr0 (by have := (roB_len s hs).2; omega)) ?_
  refine g_iret m2_10 rt_2 ?_
  exact hQ
set_option maxRecDepth 20000 in
set_option maxHeartbeats 40000000 in
theorem c_canEncode {c : Nat} (hc : c < 256) (hQ : Q (some (.int 1)) h) : WP xs (d + 1) 5 0 0 [.int (nI (c))] h Q := by
  refine wp_x mx_5 (L := [some (.int (nI (c)))]) (Nat.le_of_ble_eq_true rfl) rfl ?_
  refine g_iload_n m5_0 rfl ?_
  refine h_if_ltF (xi := ((c : Nat) : Int)) (zi := 0) m5_1 (nI_toInt (by omega)) rfl (by omega) ?_
  refine g_iload_n m5_4 rfl ?_
  refine g_sipush m5_5 ?_
  refine h_ic_gtF (xi := ((c : Nat) : Int)) (zi := 255) m5_8 (nI_toInt (by omega)) rfl (by omega) ?_
  refine g_iconst m5_11 ?_
  refine g_goto m5_12 ?_
  refine g_zret m5_16 rt_5 (Or.inr rfl) ?_
  exact hQ
set_option maxRecDepth 20000 in
set_option maxHeartbeats 40000000 in
theorem c_indexOfChar {s c : Nat} (hs : s < 8) (hc : c < 256) (hQ : Q (some (.int (Int32.ofInt (ixS s c)))) h) : WP xs (d + 1) 6 0 0 [.ref (11 + s), .int (nI (c)), .int (0), .int (nI ((roB s).length))] h Q := by
  refine wp_x mx_6 (L := [some (.ref (11 + s)), some (.int (nI (c))), some (.int (0)), some (.int (nI ((roB s).length))), none, none]) (Nat.le_of_ble_eq_true rfl) rfl ?_
  have hlen := roB_len s hs
  have key : ∀ (r : Nat) (q : Nat), q + r = (roB s).length → ixL ((roB s).drop q) c q = ixS s c → gw xs (WP xs d) 6 Q 7 [some (.ref (11 + s)), some (.int (nI (c))), some (.int (0)), some (.int (nI ((roB s).length))), some (.int ((nI c).toInt8.toInt32)), some (.int (nI (q)))] [] h 0 0 := by
    intro r
    induction r with
    | zero =>
      intro q hq hx
      have hnil : (roB s).drop q = [] := List.drop_eq_nil_of_le (by omega)
      rw [hnil] at hx
      have hx2 : ixS s c = -1 := hx.symm
      refine g_iload m6_7 rfl ?_
      refine g_iload_n m6_9 rfl ?_
      refine h_ic_geT (xi := ((q : Nat) : Int)) (zi := (((roB s).length : Nat) : Int)) m6_10 (nI_toInt (by omega)) (nI_toInt (by omega)) (by omega) ?_
      refine g_iconst m6_31 ?_
      refine g_iret m6_32 rt_6 ?_
      rw [hx2] at hQ
      exact hQ
    | succ r ih =>
      intro q hq hx
      have hr := roB_rng s hs q (by omega)
      rw [ix_drop (by omega)] at hx
      have hcc : (nI c).toInt = (c : Int) := nI_toInt (by omega)
      have hbc := by_c c hc
      refine g_iload m6_7 rfl ?_
      refine g_iload_n m6_9 rfl ?_
      refine h_ic_geF (xi := ((q : Nat) : Int)) (zi := (((roB s).length : Nat) : Int)) m6_10 (nI_toInt (by omega)) (nI_toInt (by omega)) (by omega) ?_
      refine g_aload_n m6_13 rfl ?_
      refine g_iload m6_14 rfl ?_
      refine g_bald (x := (roB s).getD q 0) m6_16 (ro_b hs) (Or.inr ⟨by omega, rfl⟩) (vp_in_nI (by omega) (by omega)) (by rw [nI_clamp (by omega)]) ?_
      refine g_iload m6_17 rfl ?_
      refine h_ic_ne (xi := _) (zi := _) m6_19 rfl rfl (fun c1 => ?_) (fun c1 => ?_)
      · skip
        refine g_iload m6_22 rfl ?_
        refine g_iret m6_24 rt_6 ?_
        have e : ((roB s).getD q 0).toInt = (c : Int) := by
          by_cases h8 : c < 128
          · rw [hbc.1 h8] at c1
            omega
          · have := hbc.2 (by omega)
            omega
        rw [if_pos e] at hx
        have hx2 : ixS s c = (q : Int) := hx.symm
        rw [hx2] at hQ
        exact hQ
      · skip
        refine g_iinc (L2 := [some (.ref (11 + s)), some (.int (nI (c))), some (.int (0)), some (.int (nI ((roB s).length))), some (.int ((nI c).toInt8.toInt32)), some (.int (nI (q + 1)))]) m6_25 rfl (nI_1 _) rfl rfl ?_
        refine g_goto m6_28 ?_
        have e : ¬ ((roB s).getD q 0).toInt = (c : Int) := by
          intro e2
          have h8 : c < 128 := by omega
          rw [hbc.1 h8] at c1
          omega
        rw [if_neg e] at hx
        exact ih (q + 1) (by omega) hx
  refine g_iload_n m6_0 rfl ?_
  refine g_i2b (u := (nI c).toInt8.toInt32) m6_1 (rfl) ?_
  refine g_istore (L2 := [some (.ref (11 + s)), some (.int (nI (c))), some (.int (0)), some (.int (nI ((roB s).length))), some (.int ((nI c).toInt8.toInt32)), none]) m6_2 rfl rfl ?_
  refine g_iload_n m6_4 rfl ?_
  refine g_istore (L2 := [some (.ref (11 + s)), some (.int (nI (c))), some (.int (0)), some (.int (nI ((roB s).length))), some (.int ((nI c).toInt8.toInt32)), some (.int (0))]) m6_5 rfl rfl ?_
  exact key (roB s).length 0 (by omega) rfl
set_option maxRecDepth 20000 in
set_option maxHeartbeats 40000000 in
theorem c_ixOf4 {s c : Nat} (hs : s < 8) (hc : c < 256) (hQ : Q (some (.int (Int32.ofInt (ixS s c)))) h) : WP xs (d + 2) 7 0 0 [.ref (11 + s), .int (nI (c)), .int (0), .int (nI ((roB s).length))] h Q := by
  refine wp_x mx_7 (L := [some (.ref (11 + s)), some (.int (nI (c))), some (.int (0)), some (.int (nI ((roB s).length)))]) (Nat.le_of_ble_eq_true rfl) rfl ?_
  have hlen := roB_len s hs
  refine g_iload_n m7_0 rfl ?_
  refine g_cs (args := [.int (nI (c))]) (rest := []) 0 (Or.inl rfl) m7_1 (Nat.le_of_ble_eq_true rfl) rfl rfl (Nat.le_of_ble_eq_true rfl) ?_
  refine c_canEncode hc ?_
  refine gwr ?_
  refine h_if_neF (xi := 1) (zi := 0) m7_4 rfl rfl (by decide) ?_
  refine g_iload_n m7_9 rfl ?_
  refine g_iconst m7_10 ?_
  refine g_max (u := (0 : Int32)) m7_11 (Nat.le_of_ble_eq_true rfl) (by decide) ?_
  refine g_istore_n (L2 := [some (.ref (11 + s)), some (.int (nI (c))), some (.int (0)), some (.int (nI ((roB s).length)))]) m7_14 rfl rfl ?_
  refine g_iload_n m7_15 rfl ?_
  refine g_aload_n m7_16 rfl ?_
  refine g_alen (n := (roB s).length) m7_17 (ro_b hs) (Or.inr (Or.inr ⟨by omega, rfl⟩)) rfl ?_
  refine gwst (st' := .int (nI (roB s).length) :: _) rfl ?_
  refine g_min (u := nI ((roB s).length)) m7_18 (Nat.le_of_ble_eq_true rfl) (if_neg (fun q => absurd q (Int32.not_lt.mpr (Int32.le_refl _)))) ?_
  refine g_istore_n (L2 := [some (.ref (11 + s)), some (.int (nI (c))), some (.int (0)), some (.int (nI ((roB s).length)))]) m7_21 rfl rfl ?_
  refine g_iload_n m7_22 rfl ?_
  refine g_iload_n m7_23 rfl ?_
  refine h_ic_ltT (xi := 0) (zi := (((roB s).length : Nat) : Int)) m7_24 rfl (nI_toInt (by omega)) (by omega) ?_
  refine g_aload_n m7_29 rfl ?_
  refine g_iload_n m7_30 rfl ?_
  refine g_iload_n m7_31 rfl ?_
  refine g_iload_n m7_32 rfl ?_
  refine g_cs (args := [.ref (11 + s), .int (nI (c)), .int (0), .int (nI ((roB s).length))]) (rest := []) 0 (Or.inl rfl) m7_33 (Nat.le_of_ble_eq_true rfl) rfl rfl (Nat.le_of_ble_eq_true rfl) ?_
  refine c_indexOfChar hs hc ?_
  refine gwr ?_
  refine g_iret m7_36 rt_7 ?_
  exact hQ
set_option maxRecDepth 20000 in
set_option maxHeartbeats 40000000 in
theorem c_ixOf2 {s c : Nat} (hs : s < 8) (hc : c < 256) (hQ : Q (some (.int (Int32.ofInt (ixS s c)))) h) : WP xs (d + 3) 3 0 0 [.ref (3 + s), .int (nI (c)), .int (0)] h Q := by
  refine wp_x mx_3 (L := [some (.ref (3 + s)), some (.int (nI (c))), some (.int (0))]) (Nat.le_of_ble_eq_true rfl) rfl ?_
  refine g_aload_n m3_0 rfl ?_
  refine g_cv (fs := [.ref (11 + s), .int 0]) (args := []) (rest := []) m3_1 (Nat.le_of_ble_eq_true rfl) rfl rfl (by rw [cn_0]; exact ro_s hs) (Nat.le_of_ble_eq_true rfl) ?_
  refine c_isLatin1 hs ?_
  refine gwr ?_
  refine h_if_eqF (xi := 1) (zi := 0) m3_4 rfl rfl (by decide) ?_
  refine g_aload_n m3_7 rfl ?_
  refine g_gf (fs := [.ref (11 + s), .int 0]) m3_8 (ro_s hs) rfl ?_
  refine g_iload_n m3_11 rfl ?_
  refine g_iload_n m3_12 rfl ?_
  refine g_aload_n m3_13 rfl ?_
  refine g_cv (fs := [.ref (11 + s), .int 0]) (args := []) (rest := [.int (0), .int (nI (c)), .ref (11 + s)]) m3_14 (Nat.le_of_ble_eq_true rfl) rfl rfl (by rw [cn_2]; exact ro_s hs) (Nat.le_of_ble_eq_true rfl) ?_
  refine c_strlen hs ?_
  refine gwr ?_
  refine g_cs (args := [.ref (11 + s), .int (nI (c)), .int (0), .int (nI ((roB s).length))]) (rest := []) 0 (Or.inl rfl) m3_17 (Nat.le_of_ble_eq_true rfl) rfl rfl (Nat.le_of_ble_eq_true rfl) ?_
  refine c_ixOf4 hs hc ?_
  refine gwr ?_
  refine g_goto m3_20 ?_
  refine g_iret m3_36 rt_3 ?_
  exact hQ
set_option maxRecDepth 20000 in
set_option maxHeartbeats 40000000 in
theorem c_ixOf {s c : Nat} (hs : s < 8) (hc : c < 256) (hQ : Q (some (.int (Int32.ofInt (ixS s c)))) h) : WP xs (d + 4) 4 0 0 [.ref (3 + s), .int (nI (c))] h Q := by
  refine wp_x mx_4 (L := [some (.ref (3 + s)), some (.int (nI (c)))]) (Nat.le_of_ble_eq_true rfl) rfl ?_
  refine g_aload_n m4_0 rfl ?_
  refine g_iload_n m4_1 rfl ?_
  refine g_iconst m4_2 ?_
  refine g_cv (fs := [.ref (11 + s), .int 0]) (args := [.int (nI (c)), .int (0)]) (rest := []) m4_3 (Nat.le_of_ble_eq_true rfl) rfl rfl (by rw [cn_3]; exact ro_s hs) (Nat.le_of_ble_eq_true rfl) ?_
  refine c_ixOf2 hs hc ?_
  refine gwr ?_
  refine g_iret m4_6 rt_4 ?_
  exact hQ
end
