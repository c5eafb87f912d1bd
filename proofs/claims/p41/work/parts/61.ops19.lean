section
/-! VOICES: the reference -/
def vocF : Nat → Nat → Int32 → Int32 → Int32 → Int32
  | 0, 0, x, nv, mv => (x + nv)
  | 0, 1, x, nv, mv => ((x + nv) * (2 : Int32))
  | 0, 2, x, nv, mv => (x - mv)
  | 0, 3, x, nv, mv => (((x + nv) * (2 : Int32)) ^^^ (x - mv))
  | 1, 0, x, nv, mv => ((x + nv) * (3 : Int32))
  | 1, 1, x, nv, mv => (((x + nv) * (3 : Int32)) * (2 : Int32))
  | 1, 2, x, nv, mv => (x - mv)
  | 1, 3, x, nv, mv => ((((x + nv) * (3 : Int32)) * (2 : Int32)) ^^^ (x - mv))
  | 2, 0, x, nv, mv => (x + nv)
  | 2, 1, x, nv, mv => (((x + nv) * (2 : Int32)) - ((1 : Int32) - mv))
  | 2, 2, x, nv, mv => (x - mv)
  | 2, 3, x, nv, mv => ((((x + nv) * (2 : Int32)) - ((1 : Int32) - mv)) ^^^ (x - mv))
  | 3, 0, x, nv, mv => (x + nv)
  | 3, 1, x, nv, mv => ((x + nv) * (2 : Int32))
  | 3, 2, x, nv, mv => (-(x - mv))
  | 3, 3, x, nv, mv => (((x + nv) * (2 : Int32)) ^^^ (-(x - mv)))
  | 4, 0, x, nv, mv => ((x + nv) * (3 : Int32))
  | 4, 1, x, nv, mv => (((x + nv) * (3 : Int32)) * (2 : Int32))
  | 4, 2, x, nv, mv => (x - mv)
  | 4, 3, x, nv, mv => (((((x + nv) * (3 : Int32)) * (2 : Int32)) ^^^ (x - mv)) - (((2 : Int32) + nv) * (3 : Int32)))
  | 5, 0, x, nv, mv => (x + nv)
  | 5, 1, x, nv, mv => ((((x + (1 : Int32)) + nv) * (2 : Int32)) - ((1 : Int32) - mv))
  | 5, 2, x, nv, mv => (x - mv)
  | 5, 3, x, nv, mv => (((((x + (1 : Int32)) + nv) * (2 : Int32)) - ((1 : Int32) - mv)) ^^^ (x - mv))
  | 6, 0, x, nv, mv => (x + nv)
  | 6, 1, x, nv, mv => ((x + nv) * (2 : Int32))
  | 6, 2, x, nv, mv => ((-(x - mv)) ^^^ nv)
  | 6, 3, x, nv, mv => (((x + nv) * (2 : Int32)) - (((x + nv) * (2 : Int32)) ^^^ ((-(x - mv)) ^^^ nv)))
  | _, _, _, _, _ => 0
def vocL : Nat → Nat → List Nat
  | 0, 0 => [10]
  | 0, 1 => [11, 10]
  | 0, 2 => [12]
  | 0, 3 => [13, 11, 10, 12]
  | 1, 0 => [20, 10]
  | 1, 1 => [11, 20, 10]
  | 1, 2 => [12]
  | 1, 3 => [13, 11, 20, 10, 12]
  | 2, 0 => [10]
  | 2, 1 => [30, 11, 10, 12]
  | 2, 2 => [12]
  | 2, 3 => [13, 30, 11, 10, 12, 12]
  | 3, 0 => [10]
  | 3, 1 => [11, 10]
  | 3, 2 => [40, 12]
  | 3, 3 => [13, 11, 10, 40, 12]
  | 4, 0 => [20, 10]
  | 4, 1 => [11, 20, 10]
  | 4, 2 => [12]
  | 4, 3 => [50, 13, 11, 20, 10, 12, 20, 10]
  | 5, 0 => [10]
  | 5, 1 => [60, 30, 11, 10, 12]
  | 5, 2 => [12]
  | 5, 3 => [13, 60, 30, 11, 10, 12, 12]
  | 6, 0 => [10]
  | 6, 1 => [11, 10]
  | 6, 2 => [70, 40, 12]
  | 6, 3 => [71, 11, 10, 13, 11, 10, 70, 40, 12]
  | _, _ => []
section
variable {xs : List Int32} {d : Nat} {h : AH} {Q : QT} {m : MW} {ln : Nat → Nat} {N : Nat}
set_option maxRecDepth 20000 in
set_option maxHeartbeats 40000000 in
theorem c_mv_0_0_0 {b : Nat} {x nv mv : Int32} (hb : m 57 21 = nI b) (hb40 : b + 1 ≤ 40) (hk : m 57 22 = nI 0) (h0 : m 57 23 = nv) (h1 : m 57 24 = mv) (hQ : Q (some (.int (x + nv))) (H (lgR m b [10]) ln N)) : WP xs (d + 2) 172 0 0 [.ref (89), .int (0), .int (x)] (H m ln N) Q := by
  refine wp_x mx_172 (L := [some (.ref (89)), some (.int (0)), some (.int (x))]) (Nat.le_of_ble_eq_true rfl) rfl ?_
  refine g_iload_n m172_0 rfl ?_
  refine h_if_neT (xi := 0) (zi := 0) m172_1 rfl rfl (by decide) ?_
  refine g_aload_n m172_4 rfl ?_
  refine g_bipush m172_5 ?_
  refine h_cv (k := 57) (p := 89) (args := [.int (10)]) (rest := []) m172_7 cn_171 (Nat.le_of_ble_eq_true rfl) rfl rfl rfl (t_57 _ _) (Nat.le_of_ble_eq_true rfl) ?_
  refine c_ran (b := b) (c := 10) hb (by omega) ?_
  refine gwr0 ?_
  refine g_iload_n m172_10 rfl ?_
  refine g_aload_n m172_11 rfl ?_
  refine h_gfI (k := 57) (p := 89) m172_12 rfl (t_57 _ _) rfl ((lgR_o (by decide) [10]).trans h0) ?_
  refine g_iadd m172_15 rfl ?_
  refine g_iret m172_16 rt_172 ?_
  exact hQ
set_option maxRecDepth 20000 in
set_option maxHeartbeats 40000000 in
theorem c_mv_0_1_0 {b : Nat} {x nv mv : Int32} (hb : m 57 21 = nI b) (hb40 : b + 2 ≤ 40) (hk : m 57 22 = nI 0) (h0 : m 57 23 = nv) (h1 : m 57 24 = mv) (hQ : Q (some (.int ((x + nv) * (2 : Int32)))) (H (lgR m b [11, 10]) ln N)) : WP xs (d + 3) 174 0 0 [.ref (89), .int (0), .int (x)] (H m ln N) Q := by
  refine wp_x mx_174 (L := [some (.ref (89)), some (.int (0)), some (.int (x)), none]) (Nat.le_of_ble_eq_true rfl) rfl ?_
  refine g_iload_n m174_0 rfl ?_
  refine h_if_neT (xi := 0) (zi := 0) m174_1 rfl rfl (by decide) ?_
  refine g_aload_n m174_4 rfl ?_
  refine g_bipush m174_5 ?_
  refine h_cv (k := 57) (p := 89) (args := [.int (11)]) (rest := []) m174_7 cn_171 (Nat.le_of_ble_eq_true rfl) rfl rfl rfl (t_57 _ _) (Nat.le_of_ble_eq_true rfl) ?_
  refine c_ran (b := b) (c := 11) hb (by omega) ?_
  refine gwr0 ?_
  refine g_aload_n m174_10 rfl ?_
  refine g_aload_n m174_11 rfl ?_
  refine h_gfI (k := 57) (p := 89) m174_12 rfl (t_57 _ _) rfl ((lgR_o (by decide) [11]).trans hk) ?_
  refine g_iload_n m174_15 rfl ?_
  refine h_cv (k := 57) (p := 89) (args := [.int (0), .int (x)]) (rest := []) m174_16 cn_172 (Nat.le_of_ble_eq_true rfl) rfl rfl rfl (t_57 _ _) (Nat.le_of_ble_eq_true rfl) ?_
  refine c_mv_0_0_0 (m := lgR m b [11]) (b := b + 1) (nv := nv) (mv := mv) (lgR_4 hb [11]) (by omega) ((lgR_o (by decide) [11]).trans hk) ((lgR_o (by decide) [11]).trans h0) ((lgR_o (by decide) [11]).trans h1) ?_
  rw [show lgR (lgR m b [11]) (b + 1) [10] = lgR m b [11, 10] from lgR_a [11] [10]]
  refine gwr ?_
  refine g_iconst m174_19 ?_
  refine g_imul m174_20 rfl ?_
  refine g_iret m174_21 rt_174 ?_
  exact hQ
set_option maxRecDepth 20000 in
set_option maxHeartbeats 40000000 in
theorem c_mv_0_2_0 {b : Nat} {x nv mv : Int32} (hb : m 57 21 = nI b) (hb40 : b + 1 ≤ 40) (hk : m 57 22 = nI 0) (h0 : m 57 23 = nv) (h1 : m 57 24 = mv) (hQ : Q (some (.int (x - mv))) (H (lgR m b [12]) ln N)) : WP xs (d + 2) 173 0 0 [.ref (89), .int (0), .int (x)] (H m ln N) Q := by
  refine wp_x mx_173 (L := [some (.ref (89)), some (.int (0)), some (.int (x))]) (Nat.le_of_ble_eq_true rfl) rfl ?_
  refine g_iload_n m173_0 rfl ?_
  refine h_if_neT (xi := 0) (zi := 0) m173_1 rfl rfl (by decide) ?_
  refine g_aload_n m173_4 rfl ?_
  refine g_bipush m173_5 ?_
  refine h_cv (k := 57) (p := 89) (args := [.int (12)]) (rest := []) m173_7 cn_171 (Nat.le_of_ble_eq_true rfl) rfl rfl rfl (t_57 _ _) (Nat.le_of_ble_eq_true rfl) ?_
  refine c_ran (b := b) (c := 12) hb (by omega) ?_
  refine gwr0 ?_
  refine g_iload_n m173_10 rfl ?_
  refine g_aload_n m173_11 rfl ?_
  refine h_gfI (k := 57) (p := 89) m173_12 rfl (t_57 _ _) rfl ((lgR_o (by decide) [12]).trans h1) ?_
  refine g_isub m173_15 rfl ?_
  refine g_iret m173_16 rt_173 ?_
  exact hQ
set_option maxRecDepth 20000 in
set_option maxHeartbeats 40000000 in
theorem c_mv_0_3_0 {b : Nat} {x nv mv : Int32} (hb : m 57 21 = nI b) (hb40 : b + 4 ≤ 40) (hk : m 57 22 = nI 0) (h0 : m 57 23 = nv) (h1 : m 57 24 = mv) (hQ : Q (some (.int (((x + nv) * (2 : Int32)) ^^^ (x - mv)))) (H (lgR m b [13, 11, 10, 12]) ln N)) : WP xs (d + 4) 175 0 0 [.ref (89), .int (0), .int (x)] (H m ln N) Q := by
  refine wp_x mx_175 (L := [some (.ref (89)), some (.int (0)), some (.int (x)), none]) (Nat.le_of_ble_eq_true rfl) rfl ?_
  refine g_iload_n m175_0 rfl ?_
  refine h_if_neT (xi := 0) (zi := 0) m175_1 rfl rfl (by decide) ?_
  refine g_aload_n m175_4 rfl ?_
  refine g_bipush m175_5 ?_
  refine h_cv (k := 57) (p := 89) (args := [.int (13)]) (rest := []) m175_7 cn_171 (Nat.le_of_ble_eq_true rfl) rfl rfl rfl (t_57 _ _) (Nat.le_of_ble_eq_true rfl) ?_
  refine c_ran (b := b) (c := 13) hb (by omega) ?_
  refine gwr0 ?_
  refine g_aload_n m175_10 rfl ?_
  refine g_aload_n m175_11 rfl ?_
  refine h_gfI (k := 57) (p := 89) m175_12 rfl (t_57 _ _) rfl ((lgR_o (by decide) [13]).trans hk) ?_
  refine g_iload_n m175_15 rfl ?_
  refine h_cv (k := 57) (p := 89) (args := [.int (0), .int (x)]) (rest := []) m175_16 cn_174 (Nat.le_of_ble_eq_true rfl) rfl rfl rfl (t_57 _ _) (Nat.le_of_ble_eq_true rfl) ?_
  refine c_mv_0_1_0 (m := lgR m b [13]) (b := b + 1) (nv := nv) (mv := mv) (lgR_4 hb [13]) (by omega) ((lgR_o (by decide) [13]).trans hk) ((lgR_o (by decide) [13]).trans h0) ((lgR_o (by decide) [13]).trans h1) ?_
  rw [show lgR (lgR m b [13]) (b + 1) [11, 10] = lgR m b [13, 11, 10] from lgR_a [13] [11, 10]]
  refine gwr ?_
  refine g_istore_n (L2 := [some (.ref (89)), some (.int (0)), some (.int (x)), some (.int (((x + nv) * (2 : Int32))))]) m175_19 rfl rfl ?_
  refine g_iload_n m175_20 rfl ?_
  refine g_aload_n m175_21 rfl ?_
  refine g_aload_n m175_22 rfl ?_
  refine h_gfI (k := 57) (p := 89) m175_23 rfl (t_57 _ _) rfl ((lgR_o (by decide) [13, 11, 10]).trans hk) ?_
  refine g_iload_n m175_26 rfl ?_
  refine h_cv (k := 57) (p := 89) (args := [.int (0), .int (x)]) (rest := [.int (((x + nv) * (2 : Int32)))]) m175_27 cn_173 (Nat.le_of_ble_eq_true rfl) rfl rfl rfl (t_57 _ _) (Nat.le_of_ble_eq_true rfl) ?_
  refine c_mv_0_2_0 (m := lgR m b [13, 11, 10]) (b := b + 3) (nv := nv) (mv := mv) (lgR_4 hb [13, 11, 10]) (by omega) ((lgR_o (by decide) [13, 11, 10]).trans hk) ((lgR_o (by decide) [13, 11, 10]).trans h0) ((lgR_o (by decide) [13, 11, 10]).trans h1) ?_
  rw [show lgR (lgR m b [13, 11, 10]) (b + 3) [12] = lgR m b [13, 11, 10, 12] from lgR_a [13, 11, 10] [12]]
  refine gwr ?_
  refine g_ixor m175_30 rfl ?_
  refine g_iret m175_31 rt_175 ?_
  exact hQ
set_option maxRecDepth 20000 in
set_option maxHeartbeats 40000000 in
theorem c_mv_1_0_0 {b : Nat} {x nv mv : Int32} (hb : m 57 21 = nI b) (hb40 : b + 1 ≤ 40) (hk : m 57 22 = nI 1) (h0 : m 57 23 = nv) (h1 : m 57 24 = mv) (hQ : Q (some (.int (x + nv))) (H (lgR m b [10]) ln N)) : WP xs (d + 2) 172 0 0 [.ref (89), .int (0), .int (x)] (H m ln N) Q := by
  refine wp_x mx_172 (L := [some (.ref (89)), some (.int (0)), some (.int (x))]) (Nat.le_of_ble_eq_true rfl) rfl ?_
  refine g_iload_n m172_0 rfl ?_
  refine h_if_neT (xi := 0) (zi := 0) m172_1 rfl rfl (by decide) ?_
  refine g_aload_n m172_4 rfl ?_
  refine g_bipush m172_5 ?_
  refine h_cv (k := 57) (p := 89) (args := [.int (10)]) (rest := []) m172_7 cn_171 (Nat.le_of_ble_eq_true rfl) rfl rfl rfl (t_57 _ _) (Nat.le_of_ble_eq_true rfl) ?_
  refine c_ran (b := b) (c := 10) hb (by omega) ?_
  refine gwr0 ?_
  refine g_iload_n m172_10 rfl ?_
  refine g_aload_n m172_11 rfl ?_
  refine h_gfI (k := 57) (p := 89) m172_12 rfl (t_57 _ _) rfl ((lgR_o (by decide) [10]).trans h0) ?_
  refine g_iadd m172_15 rfl ?_
  refine g_iret m172_16 rt_172 ?_
  exact hQ
set_option maxRecDepth 20000 in
set_option maxHeartbeats 40000000 in
theorem c_mv_1_0_1 {b : Nat} {x nv mv : Int32} (hb : m 57 21 = nI b) (hb40 : b + 2 ≤ 40) (hk : m 57 22 = nI 1) (h0 : m 57 23 = nv) (h1 : m 57 24 = mv) (hQ : Q (some (.int ((x + nv) * (3 : Int32)))) (H (lgR m b [20, 10]) ln N)) : WP xs (d + 3) 172 0 0 [.ref (89), .int (1), .int (x)] (H m ln N) Q := by
  refine wp_x mx_172 (L := [some (.ref (89)), some (.int (1)), some (.int (x))]) (Nat.le_of_ble_eq_true rfl) rfl ?_
  refine g_iload_n m172_0 rfl ?_
  refine h_if_neF (xi := 1) (zi := 0) m172_1 rfl rfl (by decide) ?_
  refine g_iload_n m172_17 rfl ?_
  refine g_iconst m172_18 ?_
  refine h_ic_neT (xi := 1) (zi := 1) m172_19 rfl rfl (by decide) ?_
  refine g_aload_n m172_22 rfl ?_
  refine g_bipush m172_23 ?_
  refine h_cv (k := 57) (p := 89) (args := [.int (20)]) (rest := []) m172_25 cn_171 (Nat.le_of_ble_eq_true rfl) rfl rfl rfl (t_57 _ _) (Nat.le_of_ble_eq_true rfl) ?_
  refine c_ran (b := b) (c := 20) hb (by omega) ?_
  refine gwr0 ?_
  refine g_aload_n m172_28 rfl ?_
  refine g_iconst m172_29 ?_
  refine g_iload_n m172_30 rfl ?_
  refine h_cv (k := 57) (p := 89) (args := [.int (0), .int (x)]) (rest := []) m172_31 cn_172 (Nat.le_of_ble_eq_true rfl) rfl rfl rfl (t_57 _ _) (Nat.le_of_ble_eq_true rfl) ?_
  refine c_mv_1_0_0 (m := lgR m b [20]) (b := b + 1) (nv := nv) (mv := mv) (lgR_4 hb [20]) (by omega) ((lgR_o (by decide) [20]).trans hk) ((lgR_o (by decide) [20]).trans h0) ((lgR_o (by decide) [20]).trans h1) ?_
  rw [show lgR (lgR m b [20]) (b + 1) [10] = lgR m b [20, 10] from lgR_a [20] [10]]
  refine gwr ?_
  refine g_iconst m172_34 ?_
  refine g_imul m172_35 rfl ?_
  refine g_iret m172_36 rt_172 ?_
  exact hQ
set_option maxRecDepth 20000 in
set_option maxHeartbeats 40000000 in
theorem c_mv_1_1_0 {b : Nat} {x nv mv : Int32} (hb : m 57 21 = nI b) (hb40 : b + 3 ≤ 40) (hk : m 57 22 = nI 1) (h0 : m 57 23 = nv) (h1 : m 57 24 = mv) (hQ : Q (some (.int (((x + nv) * (3 : Int32)) * (2 : Int32)))) (H (lgR m b [11, 20, 10]) ln N)) : WP xs (d + 4) 174 0 0 [.ref (89), .int (0), .int (x)] (H m ln N) Q := by
  refine wp_x mx_174 (L := [some (.ref (89)), some (.int (0)), some (.int (x)), none]) (Nat.le_of_ble_eq_true rfl) rfl ?_
  refine g_iload_n m174_0 rfl ?_
  refine h_if_neT (xi := 0) (zi := 0) m174_1 rfl rfl (by decide) ?_
  refine g_aload_n m174_4 rfl ?_
  refine g_bipush m174_5 ?_
  refine h_cv (k := 57) (p := 89) (args := [.int (11)]) (rest := []) m174_7 cn_171 (Nat.le_of_ble_eq_true rfl) rfl rfl rfl (t_57 _ _) (Nat.le_of_ble_eq_true rfl) ?_
  refine c_ran (b := b) (c := 11) hb (by omega) ?_
  refine gwr0 ?_
  refine g_aload_n m174_10 rfl ?_
  refine g_aload_n m174_11 rfl ?_
  refine h_gfI (k := 57) (p := 89) m174_12 rfl (t_57 _ _) rfl ((lgR_o (by decide) [11]).trans hk) ?_
  refine g_iload_n m174_15 rfl ?_
  refine h_cv (k := 57) (p := 89) (args := [.int (1), .int (x)]) (rest := []) m174_16 cn_172 (Nat.le_of_ble_eq_true rfl) rfl rfl rfl (t_57 _ _) (Nat.le_of_ble_eq_true rfl) ?_
  refine c_mv_1_0_1 (m := lgR m b [11]) (b := b + 1) (nv := nv) (mv := mv) (lgR_4 hb [11]) (by omega) ((lgR_o (by decide) [11]).trans hk) ((lgR_o (by decide) [11]).trans h0) ((lgR_o (by decide) [11]).trans h1) ?_
  rw [show lgR (lgR m b [11]) (b + 1) [20, 10] = lgR m b [11, 20, 10] from lgR_a [11] [20, 10]]
  refine gwr ?_
  refine g_iconst m174_19 ?_
  refine g_imul m174_20 rfl ?_
  refine g_iret m174_21 rt_174 ?_
  exact hQ
set_option maxRecDepth 20000 in
set_option maxHeartbeats 40000000 in
theorem c_mv_1_1_1 {b : Nat} {x nv mv : Int32} (hb : m 57 21 = nI b) (hb40 : b + 3 ≤ 40) (hk : m 57 22 = nI 1) (h0 : m 57 23 = nv) (h1 : m 57 24 = mv) (hQ : Q (some (.int (((x + nv) * (3 : Int32)) * (2 : Int32)))) (H (lgR m b [11, 20, 10]) ln N)) : WP xs (d + 5) 174 0 0 [.ref (89), .int (1), .int (x)] (H m ln N) Q := by
  refine wp_x mx_174 (L := [some (.ref (89)), some (.int (1)), some (.int (x)), none]) (Nat.le_of_ble_eq_true rfl) rfl ?_
  refine g_iload_n m174_0 rfl ?_
  refine h_if_neF (xi := 1) (zi := 0) m174_1 rfl rfl (by decide) ?_
  refine g_iload_n m174_22 rfl ?_
  refine g_iconst m174_23 ?_
  refine h_ic_neF (xi := 1) (zi := 2) m174_24 rfl rfl (by decide) ?_
  refine g_iload_n m174_52 rfl ?_
  refine g_iconst m174_53 ?_
  refine h_ic_neF (xi := 1) (zi := 5) m174_54 rfl rfl (by decide) ?_
  refine g_aload_n m174_72 rfl ?_
  refine g_iload_n m174_73 rfl ?_
  refine g_cs (args := [.int (1)]) (rest := [.ref (89)]) 0 (Or.inl rfl) m174_74 (Nat.le_of_ble_eq_true rfl) rfl rfl (Nat.le_of_ble_eq_true rfl) ?_
  refine c_above (k := 1) (by decide) ?_
  refine gwr ?_
  refine g_iload_n m174_77 rfl ?_
  refine h_cv (k := 57) (p := 89) (args := [.int (0), .int (x)]) (rest := []) m174_78 cn_174 (Nat.le_of_ble_eq_true rfl) rfl rfl rfl (t_57 _ _) (Nat.le_of_ble_eq_true rfl) ?_
  refine c_mv_1_1_0 (m := lgR m b []) (b := b + 0) (nv := nv) (mv := mv) (lgR_4 hb []) (by omega) ((lgR_o (by decide) []).trans hk) ((lgR_o (by decide) []).trans h0) ((lgR_o (by decide) []).trans h1) ?_
  rw [show lgR (lgR m b []) (b + 0) [11, 20, 10] = lgR m b [11, 20, 10] from lgR_a [] [11, 20, 10]]
  refine gwr ?_
  refine g_iret m174_81 rt_174 ?_
  exact hQ
set_option maxRecDepth 20000 in
set_option maxHeartbeats 40000000 in
theorem c_mv_1_2_0 {b : Nat} {x nv mv : Int32} (hb : m 57 21 = nI b) (hb40 : b + 1 ≤ 40) (hk : m 57 22 = nI 1) (h0 : m 57 23 = nv) (h1 : m 57 24 = mv) (hQ : Q (some (.int (x - mv))) (H (lgR m b [12]) ln N)) : WP xs (d + 2) 173 0 0 [.ref (89), .int (0), .int (x)] (H m ln N) Q := by
  refine wp_x mx_173 (L := [some (.ref (89)), some (.int (0)), some (.int (x))]) (Nat.le_of_ble_eq_true rfl) rfl ?_
  refine g_iload_n m173_0 rfl ?_
  refine h_if_neT (xi := 0) (zi := 0) m173_1 rfl rfl (by decide) ?_
  refine g_aload_n m173_4 rfl ?_
  refine g_bipush m173_5 ?_
  refine h_cv (k := 57) (p := 89) (args := [.int (12)]) (rest := []) m173_7 cn_171 (Nat.le_of_ble_eq_true rfl) rfl rfl rfl (t_57 _ _) (Nat.le_of_ble_eq_true rfl) ?_
  refine c_ran (b := b) (c := 12) hb (by omega) ?_
  refine gwr0 ?_
  refine g_iload_n m173_10 rfl ?_
  refine g_aload_n m173_11 rfl ?_
  refine h_gfI (k := 57) (p := 89) m173_12 rfl (t_57 _ _) rfl ((lgR_o (by decide) [12]).trans h1) ?_
  refine g_isub m173_15 rfl ?_
  refine g_iret m173_16 rt_173 ?_
  exact hQ
set_option maxRecDepth 20000 in
set_option maxHeartbeats 40000000 in
theorem c_mv_1_2_1 {b : Nat} {x nv mv : Int32} (hb : m 57 21 = nI b) (hb40 : b + 1 ≤ 40) (hk : m 57 22 = nI 1) (h0 : m 57 23 = nv) (h1 : m 57 24 = mv) (hQ : Q (some (.int (x - mv))) (H (lgR m b [12]) ln N)) : WP xs (d + 3) 173 0 0 [.ref (89), .int (1), .int (x)] (H m ln N) Q := by
  refine wp_x mx_173 (L := [some (.ref (89)), some (.int (1)), some (.int (x))]) (Nat.le_of_ble_eq_true rfl) rfl ?_
  refine g_iload_n m173_0 rfl ?_
  refine h_if_neF (xi := 1) (zi := 0) m173_1 rfl rfl (by decide) ?_
  refine g_iload_n m173_17 rfl ?_
  refine g_iconst m173_18 ?_
  refine h_ic_neF (xi := 1) (zi := 3) m173_19 rfl rfl (by decide) ?_
  refine g_iload_n m173_36 rfl ?_
  refine g_bipush m173_37 ?_
  refine h_ic_neF (xi := 1) (zi := 6) m173_39 rfl rfl (by decide) ?_
  refine g_aload_n m173_60 rfl ?_
  refine g_iload_n m173_61 rfl ?_
  refine g_cs (args := [.int (1)]) (rest := [.ref (89)]) 0 (Or.inl rfl) m173_62 (Nat.le_of_ble_eq_true rfl) rfl rfl (Nat.le_of_ble_eq_true rfl) ?_
  refine c_above (k := 1) (by decide) ?_
  refine gwr ?_
  refine g_iload_n m173_65 rfl ?_
  refine h_cv (k := 57) (p := 89) (args := [.int (0), .int (x)]) (rest := []) m173_66 cn_173 (Nat.le_of_ble_eq_true rfl) rfl rfl rfl (t_57 _ _) (Nat.le_of_ble_eq_true rfl) ?_
  refine c_mv_1_2_0 (m := lgR m b []) (b := b + 0) (nv := nv) (mv := mv) (lgR_4 hb []) (by omega) ((lgR_o (by decide) []).trans hk) ((lgR_o (by decide) []).trans h0) ((lgR_o (by decide) []).trans h1) ?_
  rw [show lgR (lgR m b []) (b + 0) [12] = lgR m b [12] from lgR_a [] [12]]
  refine gwr ?_
  refine g_iret m173_69 rt_173 ?_
  exact hQ
set_option maxRecDepth 20000 in
set_option maxHeartbeats 40000000 in
theorem c_mv_1_3_0 {b : Nat} {x nv mv : Int32} (hb : m 57 21 = nI b) (hb40 : b + 5 ≤ 40) (hk : m 57 22 = nI 1) (h0 : m 57 23 = nv) (h1 : m 57 24 = mv) (hQ : Q (some (.int ((((x + nv) * (3 : Int32)) * (2 : Int32)) ^^^ (x - mv)))) (H (lgR m b [13, 11, 20, 10, 12]) ln N)) : WP xs (d + 6) 175 0 0 [.ref (89), .int (0), .int (x)] (H m ln N) Q := by
  refine wp_x mx_175 (L := [some (.ref (89)), some (.int (0)), some (.int (x)), none]) (Nat.le_of_ble_eq_true rfl) rfl ?_
  refine g_iload_n m175_0 rfl ?_
  refine h_if_neT (xi := 0) (zi := 0) m175_1 rfl rfl (by decide) ?_
  refine g_aload_n m175_4 rfl ?_
  refine g_bipush m175_5 ?_
  refine h_cv (k := 57) (p := 89) (args := [.int (13)]) (rest := []) m175_7 cn_171 (Nat.le_of_ble_eq_true rfl) rfl rfl rfl (t_57 _ _) (Nat.le_of_ble_eq_true rfl) ?_
  refine c_ran (b := b) (c := 13) hb (by omega) ?_
  refine gwr0 ?_
  refine g_aload_n m175_10 rfl ?_
  refine g_aload_n m175_11 rfl ?_
  refine h_gfI (k := 57) (p := 89) m175_12 rfl (t_57 _ _) rfl ((lgR_o (by decide) [13]).trans hk) ?_
  refine g_iload_n m175_15 rfl ?_
  refine h_cv (k := 57) (p := 89) (args := [.int (1), .int (x)]) (rest := []) m175_16 cn_174 (Nat.le_of_ble_eq_true rfl) rfl rfl rfl (t_57 _ _) (Nat.le_of_ble_eq_true rfl) ?_
  refine c_mv_1_1_1 (m := lgR m b [13]) (b := b + 1) (nv := nv) (mv := mv) (lgR_4 hb [13]) (by omega) ((lgR_o (by decide) [13]).trans hk) ((lgR_o (by decide) [13]).trans h0) ((lgR_o (by decide) [13]).trans h1) ?_
  rw [show lgR (lgR m b [13]) (b + 1) [11, 20, 10] = lgR m b [13, 11, 20, 10] from lgR_a [13] [11, 20, 10]]
  refine gwr ?_
  refine g_istore_n (L2 := [some (.ref (89)), some (.int (0)), some (.int (x)), some (.int ((((x + nv) * (3 : Int32)) * (2 : Int32))))]) m175_19 rfl rfl ?_
  refine g_iload_n m175_20 rfl ?_
  refine g_aload_n m175_21 rfl ?_
  refine g_aload_n m175_22 rfl ?_
  refine h_gfI (k := 57) (p := 89) m175_23 rfl (t_57 _ _) rfl ((lgR_o (by decide) [13, 11, 20, 10]).trans hk) ?_
  refine g_iload_n m175_26 rfl ?_
  refine h_cv (k := 57) (p := 89) (args := [.int (1), .int (x)]) (rest := [.int ((((x + nv) * (3 : Int32)) * (2 : Int32)))]) m175_27 cn_173 (Nat.le_of_ble_eq_true rfl) rfl rfl rfl (t_57 _ _) (Nat.le_of_ble_eq_true rfl) ?_
  refine c_mv_1_2_1 (m := lgR m b [13, 11, 20, 10]) (b := b + 4) (nv := nv) (mv := mv) (lgR_4 hb [13, 11, 20, 10]) (by omega) ((lgR_o (by decide) [13, 11, 20, 10]).trans hk) ((lgR_o (by decide) [13, 11, 20, 10]).trans h0) ((lgR_o (by decide) [13, 11, 20, 10]).trans h1) ?_
  rw [show lgR (lgR m b [13, 11, 20, 10]) (b + 4) [12] = lgR m b [13, 11, 20, 10, 12] from lgR_a [13, 11, 20, 10] [12]]
  refine gwr ?_
  refine g_ixor m175_30 rfl ?_
  refine g_iret m175_31 rt_175 ?_
  exact hQ
set_option maxRecDepth 20000 in
set_option maxHeartbeats 40000000 in
theorem c_mv_1_3_1 {b : Nat} {x nv mv : Int32} (hb : m 57 21 = nI b) (hb40 : b + 5 ≤ 40) (hk : m 57 22 = nI 1) (h0 : m 57 23 = nv) (h1 : m 57 24 = mv) (hQ : Q (some (.int ((((x + nv) * (3 : Int32)) * (2 : Int32)) ^^^ (x - mv)))) (H (lgR m b [13, 11, 20, 10, 12]) ln N)) : WP xs (d + 7) 175 0 0 [.ref (89), .int (1), .int (x)] (H m ln N) Q := by
  refine wp_x mx_175 (L := [some (.ref (89)), some (.int (1)), some (.int (x)), none]) (Nat.le_of_ble_eq_true rfl) rfl ?_
  refine g_iload_n m175_0 rfl ?_
  refine h_if_neF (xi := 1) (zi := 0) m175_1 rfl rfl (by decide) ?_
  refine g_iload_n m175_32 rfl ?_
  refine g_iconst m175_33 ?_
  refine h_ic_neF (xi := 1) (zi := 4) m175_34 rfl rfl (by decide) ?_
  refine g_iload_n m175_62 rfl ?_
  refine g_bipush m175_63 ?_
  refine h_ic_neF (xi := 1) (zi := 6) m175_65 rfl rfl (by decide) ?_
  refine g_aload_n m175_93 rfl ?_
  refine g_iload_n m175_94 rfl ?_
  refine g_cs (args := [.int (1)]) (rest := [.ref (89)]) 0 (Or.inl rfl) m175_95 (Nat.le_of_ble_eq_true rfl) rfl rfl (Nat.le_of_ble_eq_true rfl) ?_
  refine c_above (k := 1) (by decide) ?_
  refine gwr ?_
  refine g_iload_n m175_98 rfl ?_
  refine h_cv (k := 57) (p := 89) (args := [.int (0), .int (x)]) (rest := []) m175_99 cn_175 (Nat.le_of_ble_eq_true rfl) rfl rfl rfl (t_57 _ _) (Nat.le_of_ble_eq_true rfl) ?_
  refine c_mv_1_3_0 (m := lgR m b []) (b := b + 0) (nv := nv) (mv := mv) (lgR_4 hb []) (by omega) ((lgR_o (by decide) []).trans hk) ((lgR_o (by decide) []).trans h0) ((lgR_o (by decide) []).trans h1) ?_
  rw [show lgR (lgR m b []) (b + 0) [13, 11, 20, 10, 12] = lgR m b [13, 11, 20, 10, 12] from lgR_a [] [13, 11, 20, 10, 12]]
  refine gwr ?_
  refine g_iret m175_102 rt_175 ?_
  exact hQ
set_option maxRecDepth 20000 in
set_option maxHeartbeats 40000000 in
theorem c_mv_2_0_0 {b : Nat} {x nv mv : Int32} (hb : m 57 21 = nI b) (hb40 : b + 1 ≤ 40) (hk : m 57 22 = nI 2) (h0 : m 57 23 = nv) (h1 : m 57 24 = mv) (hQ : Q (some (.int (x + nv))) (H (lgR m b [10]) ln N)) : WP xs (d + 2) 172 0 0 [.ref (89), .int (0), .int (x)] (H m ln N) Q := by
  refine wp_x mx_172 (L := [some (.ref (89)), some (.int (0)), some (.int (x))]) (Nat.le_of_ble_eq_true rfl) rfl ?_
  refine g_iload_n m172_0 rfl ?_
  refine h_if_neT (xi := 0) (zi := 0) m172_1 rfl rfl (by decide) ?_
  refine g_aload_n m172_4 rfl ?_
  refine g_bipush m172_5 ?_
  refine h_cv (k := 57) (p := 89) (args := [.int (10)]) (rest := []) m172_7 cn_171 (Nat.le_of_ble_eq_true rfl) rfl rfl rfl (t_57 _ _) (Nat.le_of_ble_eq_true rfl) ?_
  refine c_ran (b := b) (c := 10) hb (by omega) ?_
  refine gwr0 ?_
  refine g_iload_n m172_10 rfl ?_
  refine g_aload_n m172_11 rfl ?_
  refine h_gfI (k := 57) (p := 89) m172_12 rfl (t_57 _ _) rfl ((lgR_o (by decide) [10]).trans h0) ?_
  refine g_iadd m172_15 rfl ?_
  refine g_iret m172_16 rt_172 ?_
  exact hQ
set_option maxRecDepth 20000 in
set_option maxHeartbeats 40000000 in
theorem c_mv_2_0_2 {b : Nat} {x nv mv : Int32} (hb : m 57 21 = nI b) (hb40 : b + 1 ≤ 40) (hk : m 57 22 = nI 2) (h0 : m 57 23 = nv) (h1 : m 57 24 = mv) (hQ : Q (some (.int (x + nv))) (H (lgR m b [10]) ln N)) : WP xs (d + 3) 172 0 0 [.ref (89), .int (2), .int (x)] (H m ln N) Q := by
  refine wp_x mx_172 (L := [some (.ref (89)), some (.int (2)), some (.int (x))]) (Nat.le_of_ble_eq_true rfl) rfl ?_
  refine g_iload_n m172_0 rfl ?_
  refine h_if_neF (xi := 2) (zi := 0) m172_1 rfl rfl (by decide) ?_
  refine g_iload_n m172_17 rfl ?_
  refine g_iconst m172_18 ?_
  refine h_ic_neF (xi := 2) (zi := 1) m172_19 rfl rfl (by decide) ?_
  refine g_aload_n m172_37 rfl ?_
  refine g_iload_n m172_38 rfl ?_
  refine g_cs (args := [.int (2)]) (rest := [.ref (89)]) 0 (Or.inl rfl) m172_39 (Nat.le_of_ble_eq_true rfl) rfl rfl (Nat.le_of_ble_eq_true rfl) ?_
  refine c_above (k := 2) (by decide) ?_
  refine gwr ?_
  refine g_iload_n m172_42 rfl ?_
  refine h_cv (k := 57) (p := 89) (args := [.int (0), .int (x)]) (rest := []) m172_43 cn_172 (Nat.le_of_ble_eq_true rfl) rfl rfl rfl (t_57 _ _) (Nat.le_of_ble_eq_true rfl) ?_
  refine c_mv_2_0_0 (m := lgR m b []) (b := b + 0) (nv := nv) (mv := mv) (lgR_4 hb []) (by omega) ((lgR_o (by decide) []).trans hk) ((lgR_o (by decide) []).trans h0) ((lgR_o (by decide) []).trans h1) ?_
  rw [show lgR (lgR m b []) (b + 0) [10] = lgR m b [10] from lgR_a [] [10]]
  refine gwr ?_
  refine g_iret m172_46 rt_172 ?_
  exact hQ
set_option maxRecDepth 20000 in
set_option maxHeartbeats 40000000 in
theorem c_mv_2_1_0 {b : Nat} {x nv mv : Int32} (hb : m 57 21 = nI b) (hb40 : b + 2 ≤ 40) (hk : m 57 22 = nI 2) (h0 : m 57 23 = nv) (h1 : m 57 24 = mv) (hQ : Q (some (.int ((x + nv) * (2 : Int32)))) (H (lgR m b [11, 10]) ln N)) : WP xs (d + 4) 174 0 0 [.ref (89), .int (0), .int (x)] (H m ln N) Q := by
  refine wp_x mx_174 (L := [some (.ref (89)), some (.int (0)), some (.int (x)), none]) (Nat.le_of_ble_eq_true rfl) rfl ?_
  refine g_iload_n m174_0 rfl ?_
  refine h_if_neT (xi := 0) (zi := 0) m174_1 rfl rfl (by decide) ?_
  refine g_aload_n m174_4 rfl ?_
  refine g_bipush m174_5 ?_
  refine h_cv (k := 57) (p := 89) (args := [.int (11)]) (rest := []) m174_7 cn_171 (Nat.le_of_ble_eq_true rfl) rfl rfl rfl (t_57 _ _) (Nat.le_of_ble_eq_true rfl) ?_
  refine c_ran (b := b) (c := 11) hb (by omega) ?_
  refine gwr0 ?_
  refine g_aload_n m174_10 rfl ?_
  refine g_aload_n m174_11 rfl ?_
  refine h_gfI (k := 57) (p := 89) m174_12 rfl (t_57 _ _) rfl ((lgR_o (by decide) [11]).trans hk) ?_
  refine g_iload_n m174_15 rfl ?_
  refine h_cv (k := 57) (p := 89) (args := [.int (2), .int (x)]) (rest := []) m174_16 cn_172 (Nat.le_of_ble_eq_true rfl) rfl rfl rfl (t_57 _ _) (Nat.le_of_ble_eq_true rfl) ?_
  refine c_mv_2_0_2 (m := lgR m b [11]) (b := b + 1) (nv := nv) (mv := mv) (lgR_4 hb [11]) (by omega) ((lgR_o (by decide) [11]).trans hk) ((lgR_o (by decide) [11]).trans h0) ((lgR_o (by decide) [11]).trans h1) ?_
  rw [show lgR (lgR m b [11]) (b + 1) [10] = lgR m b [11, 10] from lgR_a [11] [10]]
  refine gwr ?_
  refine g_iconst m174_19 ?_
  refine g_imul m174_20 rfl ?_
  refine g_iret m174_21 rt_174 ?_
  exact hQ
set_option maxRecDepth 20000 in
set_option maxHeartbeats 40000000 in
theorem c_mv_2_2_0 {b : Nat} {x nv mv : Int32} (hb : m 57 21 = nI b) (hb40 : b + 1 ≤ 40) (hk : m 57 22 = nI 2) (h0 : m 57 23 = nv) (h1 : m 57 24 = mv) (hQ : Q (some (.int (x - mv))) (H (lgR m b [12]) ln N)) : WP xs (d + 2) 173 0 0 [.ref (89), .int (0), .int (x)] (H m ln N) Q := by
  refine wp_x mx_173 (L := [some (.ref (89)), some (.int (0)), some (.int (x))]) (Nat.le_of_ble_eq_true rfl) rfl ?_
  refine g_iload_n m173_0 rfl ?_
  refine h_if_neT (xi := 0) (zi := 0) m173_1 rfl rfl (by decide) ?_
  refine g_aload_n m173_4 rfl ?_
  refine g_bipush m173_5 ?_
  refine h_cv (k := 57) (p := 89) (args := [.int (12)]) (rest := []) m173_7 cn_171 (Nat.le_of_ble_eq_true rfl) rfl rfl rfl (t_57 _ _) (Nat.le_of_ble_eq_true rfl) ?_
  refine c_ran (b := b) (c := 12) hb (by omega) ?_
  refine gwr0 ?_
  refine g_iload_n m173_10 rfl ?_
  refine g_aload_n m173_11 rfl ?_
  refine h_gfI (k := 57) (p := 89) m173_12 rfl (t_57 _ _) rfl ((lgR_o (by decide) [12]).trans h1) ?_
  refine g_isub m173_15 rfl ?_
  refine g_iret m173_16 rt_173 ?_
  exact hQ
set_option maxRecDepth 20000 in
set_option maxHeartbeats 40000000 in
theorem c_mv_2_2_2 {b : Nat} {x nv mv : Int32} (hb : m 57 21 = nI b) (hb40 : b + 1 ≤ 40) (hk : m 57 22 = nI 2) (h0 : m 57 23 = nv) (h1 : m 57 24 = mv) (hQ : Q (some (.int (x - mv))) (H (lgR m b [12]) ln N)) : WP xs (d + 3) 173 0 0 [.ref (89), .int (2), .int (x)] (H m ln N) Q := by
  refine wp_x mx_173 (L := [some (.ref (89)), some (.int (2)), some (.int (x))]) (Nat.le_of_ble_eq_true rfl) rfl ?_
  refine g_iload_n m173_0 rfl ?_
  refine h_if_neF (xi := 2) (zi := 0) m173_1 rfl rfl (by decide) ?_
  refine g_iload_n m173_17 rfl ?_
  refine g_iconst m173_18 ?_
  refine h_ic_neF (xi := 2) (zi := 3) m173_19 rfl rfl (by decide) ?_
  refine g_iload_n m173_36 rfl ?_
  refine g_bipush m173_37 ?_
  refine h_ic_neF (xi := 2) (zi := 6) m173_39 rfl rfl (by decide) ?_
  refine g_aload_n m173_60 rfl ?_
  refine g_iload_n m173_61 rfl ?_
  refine g_cs (args := [.int (2)]) (rest := [.ref (89)]) 0 (Or.inl rfl) m173_62 (Nat.le_of_ble_eq_true rfl) rfl rfl (Nat.le_of_ble_eq_true rfl) ?_
  refine c_above (k := 2) (by decide) ?_
  refine gwr ?_
  refine g_iload_n m173_65 rfl ?_
  refine h_cv (k := 57) (p := 89) (args := [.int (0), .int (x)]) (rest := []) m173_66 cn_173 (Nat.le_of_ble_eq_true rfl) rfl rfl rfl (t_57 _ _) (Nat.le_of_ble_eq_true rfl) ?_
  refine c_mv_2_2_0 (m := lgR m b []) (b := b + 0) (nv := nv) (mv := mv) (lgR_4 hb []) (by omega) ((lgR_o (by decide) []).trans hk) ((lgR_o (by decide) []).trans h0) ((lgR_o (by decide) []).trans h1) ?_
  rw [show lgR (lgR m b []) (b + 0) [12] = lgR m b [12] from lgR_a [] [12]]
  refine gwr ?_
  refine g_iret m173_69 rt_173 ?_
  exact hQ
set_option maxRecDepth 20000 in
set_option maxHeartbeats 40000000 in
theorem c_mv_2_1_2 {b : Nat} {x nv mv : Int32} (hb : m 57 21 = nI b) (hb40 : b + 4 ≤ 40) (hk : m 57 22 = nI 2) (h0 : m 57 23 = nv) (h1 : m 57 24 = mv) (hQ : Q (some (.int (((x + nv) * (2 : Int32)) - ((1 : Int32) - mv)))) (H (lgR m b [30, 11, 10, 12]) ln N)) : WP xs (d + 5) 174 0 0 [.ref (89), .int (2), .int (x)] (H m ln N) Q := by
  refine wp_x mx_174 (L := [some (.ref (89)), some (.int (2)), some (.int (x)), none]) (Nat.le_of_ble_eq_true rfl) rfl ?_
  refine g_iload_n m174_0 rfl ?_
  refine h_if_neF (xi := 2) (zi := 0) m174_1 rfl rfl (by decide) ?_
  refine g_iload_n m174_22 rfl ?_
  refine g_iconst m174_23 ?_
  refine h_ic_neT (xi := 2) (zi := 2) m174_24 rfl rfl (by decide) ?_
  refine g_aload_n m174_27 rfl ?_
  refine g_bipush m174_28 ?_
  refine h_cv (k := 57) (p := 89) (args := [.int (30)]) (rest := []) m174_30 cn_171 (Nat.le_of_ble_eq_true rfl) rfl rfl rfl (t_57 _ _) (Nat.le_of_ble_eq_true rfl) ?_
  refine c_ran (b := b) (c := 30) hb (by omega) ?_
  refine gwr0 ?_
  refine g_aload_n m174_33 rfl ?_
  refine g_iconst m174_34 ?_
  refine g_iload_n m174_35 rfl ?_
  refine h_cv (k := 57) (p := 89) (args := [.int (0), .int (x)]) (rest := []) m174_36 cn_174 (Nat.le_of_ble_eq_true rfl) rfl rfl rfl (t_57 _ _) (Nat.le_of_ble_eq_true rfl) ?_
  refine c_mv_2_1_0 (m := lgR m b [30]) (b := b + 1) (nv := nv) (mv := mv) (lgR_4 hb [30]) (by omega) ((lgR_o (by decide) [30]).trans hk) ((lgR_o (by decide) [30]).trans h0) ((lgR_o (by decide) [30]).trans h1) ?_
  rw [show lgR (lgR m b [30]) (b + 1) [11, 10] = lgR m b [30, 11, 10] from lgR_a [30] [11, 10]]
  refine gwr ?_
  refine g_istore_n (L2 := [some (.ref (89)), some (.int (2)), some (.int (x)), some (.int (((x + nv) * (2 : Int32))))]) m174_39 rfl rfl ?_
  refine g_iload_n m174_40 rfl ?_
  refine g_aload_n m174_41 rfl ?_
  refine g_aload_n m174_42 rfl ?_
  refine h_gfI (k := 57) (p := 89) m174_43 rfl (t_57 _ _) rfl ((lgR_o (by decide) [30, 11, 10]).trans hk) ?_
  refine g_iconst m174_46 ?_
  refine h_cv (k := 57) (p := 89) (args := [.int (2), .int (1)]) (rest := [.int (((x + nv) * (2 : Int32)))]) m174_47 cn_173 (Nat.le_of_ble_eq_true rfl) rfl rfl rfl (t_57 _ _) (Nat.le_of_ble_eq_true rfl) ?_
  refine c_mv_2_2_2 (m := lgR m b [30, 11, 10]) (b := b + 3) (nv := nv) (mv := mv) (lgR_4 hb [30, 11, 10]) (by omega) ((lgR_o (by decide) [30, 11, 10]).trans hk) ((lgR_o (by decide) [30, 11, 10]).trans h0) ((lgR_o (by decide) [30, 11, 10]).trans h1) ?_
  rw [show lgR (lgR m b [30, 11, 10]) (b + 3) [12] = lgR m b [30, 11, 10, 12] from lgR_a [30, 11, 10] [12]]
  refine gwr ?_
  refine g_isub m174_50 rfl ?_
  refine g_iret m174_51 rt_174 ?_
  exact hQ
set_option maxRecDepth 20000 in
set_option maxHeartbeats 40000000 in
theorem c_mv_2_3_0 {b : Nat} {x nv mv : Int32} (hb : m 57 21 = nI b) (hb40 : b + 6 ≤ 40) (hk : m 57 22 = nI 2) (h0 : m 57 23 = nv) (h1 : m 57 24 = mv) (hQ : Q (some (.int ((((x + nv) * (2 : Int32)) - ((1 : Int32) - mv)) ^^^ (x - mv)))) (H (lgR m b [13, 30, 11, 10, 12, 12]) ln N)) : WP xs (d + 6) 175 0 0 [.ref (89), .int (0), .int (x)] (H m ln N) Q := by
  refine wp_x mx_175 (L := [some (.ref (89)), some (.int (0)), some (.int (x)), none]) (Nat.le_of_ble_eq_true rfl) rfl ?_
  refine g_iload_n m175_0 rfl ?_
  refine h_if_neT (xi := 0) (zi := 0) m175_1 rfl rfl (by decide) ?_
  refine g_aload_n m175_4 rfl ?_
  refine g_bipush m175_5 ?_
  refine h_cv (k := 57) (p := 89) (args := [.int (13)]) (rest := []) m175_7 cn_171 (Nat.le_of_ble_eq_true rfl) rfl rfl rfl (t_57 _ _) (Nat.le_of_ble_eq_true rfl) ?_
  refine c_ran (b := b) (c := 13) hb (by omega) ?_
  refine gwr0 ?_
  refine g_aload_n m175_10 rfl ?_
  refine g_aload_n m175_11 rfl ?_
  refine h_gfI (k := 57) (p := 89) m175_12 rfl (t_57 _ _) rfl ((lgR_o (by decide) [13]).trans hk) ?_
  refine g_iload_n m175_15 rfl ?_
  refine h_cv (k := 57) (p := 89) (args := [.int (2), .int (x)]) (rest := []) m175_16 cn_174 (Nat.le_of_ble_eq_true rfl) rfl rfl rfl (t_57 _ _) (Nat.le_of_ble_eq_true rfl) ?_
  refine c_mv_2_1_2 (m := lgR m b [13]) (b := b + 1) (nv := nv) (mv := mv) (lgR_4 hb [13]) (by omega) ((lgR_o (by decide) [13]).trans hk) ((lgR_o (by decide) [13]).trans h0) ((lgR_o (by decide) [13]).trans h1) ?_
  rw [show lgR (lgR m b [13]) (b + 1) [30, 11, 10, 12] = lgR m b [13, 30, 11, 10, 12] from lgR_a [13] [30, 11, 10, 12]]
  refine gwr ?_
  refine g_istore_n (L2 := [some (.ref (89)), some (.int (0)), some (.int (x)), some (.int ((((x + nv) * (2 : Int32)) - ((1 : Int32) - mv))))]) m175_19 rfl rfl ?_
  refine g_iload_n m175_20 rfl ?_
  refine g_aload_n m175_21 rfl ?_
  refine g_aload_n m175_22 rfl ?_
  refine h_gfI (k := 57) (p := 89) m175_23 rfl (t_57 _ _) rfl ((lgR_o (by decide) [13, 30, 11, 10, 12]).trans hk) ?_
  refine g_iload_n m175_26 rfl ?_
  refine h_cv (k := 57) (p := 89) (args := [.int (2), .int (x)]) (rest := [.int ((((x + nv) * (2 : Int32)) - ((1 : Int32) - mv)))]) m175_27 cn_173 (Nat.le_of_ble_eq_true rfl) rfl rfl rfl (t_57 _ _) (Nat.le_of_ble_eq_true rfl) ?_
  refine c_mv_2_2_2 (m := lgR m b [13, 30, 11, 10, 12]) (b := b + 5) (nv := nv) (mv := mv) (lgR_4 hb [13, 30, 11, 10, 12]) (by omega) ((lgR_o (by decide) [13, 30, 11, 10, 12]).trans hk) ((lgR_o (by decide) [13, 30, 11, 10, 12]).trans h0) ((lgR_o (by decide) [13, 30, 11, 10, 12]).trans h1) ?_
  rw [show lgR (lgR m b [13, 30, 11, 10, 12]) (b + 5) [12] = lgR m b [13, 30, 11, 10, 12, 12] from lgR_a [13, 30, 11, 10, 12] [12]]
  refine gwr ?_
  refine g_ixor m175_30 rfl ?_
  refine g_iret m175_31 rt_175 ?_
  exact hQ
set_option maxRecDepth 20000 in
set_option maxHeartbeats 40000000 in
theorem c_mv_2_3_2 {b : Nat} {x nv mv : Int32} (hb : m 57 21 = nI b) (hb40 : b + 6 ≤ 40) (hk : m 57 22 = nI 2) (h0 : m 57 23 = nv) (h1 : m 57 24 = mv) (hQ : Q (some (.int ((((x + nv) * (2 : Int32)) - ((1 : Int32) - mv)) ^^^ (x - mv)))) (H (lgR m b [13, 30, 11, 10, 12, 12]) ln N)) : WP xs (d + 7) 175 0 0 [.ref (89), .int (2), .int (x)] (H m ln N) Q := by
  refine wp_x mx_175 (L := [some (.ref (89)), some (.int (2)), some (.int (x)), none]) (Nat.le_of_ble_eq_true rfl) rfl ?_
  refine g_iload_n m175_0 rfl ?_
  refine h_if_neF (xi := 2) (zi := 0) m175_1 rfl rfl (by decide) ?_
  refine g_iload_n m175_32 rfl ?_
  refine g_iconst m175_33 ?_
  refine h_ic_neF (xi := 2) (zi := 4) m175_34 rfl rfl (by decide) ?_
  refine g_iload_n m175_62 rfl ?_
  refine g_bipush m175_63 ?_
  refine h_ic_neF (xi := 2) (zi := 6) m175_65 rfl rfl (by decide) ?_
  refine g_aload_n m175_93 rfl ?_
  refine g_iload_n m175_94 rfl ?_
  refine g_cs (args := [.int (2)]) (rest := [.ref (89)]) 0 (Or.inl rfl) m175_95 (Nat.le_of_ble_eq_true rfl) rfl rfl (Nat.le_of_ble_eq_true rfl) ?_
  refine c_above (k := 2) (by decide) ?_
  refine gwr ?_
  refine g_iload_n m175_98 rfl ?_
  refine h_cv (k := 57) (p := 89) (args := [.int (0), .int (x)]) (rest := []) m175_99 cn_175 (Nat.le_of_ble_eq_true rfl) rfl rfl rfl (t_57 _ _) (Nat.le_of_ble_eq_true rfl) ?_
  refine c_mv_2_3_0 (m := lgR m b []) (b := b + 0) (nv := nv) (mv := mv) (lgR_4 hb []) (by omega) ((lgR_o (by decide) []).trans hk) ((lgR_o (by decide) []).trans h0) ((lgR_o (by decide) []).trans h1) ?_
  rw [show lgR (lgR m b []) (b + 0) [13, 30, 11, 10, 12, 12] = lgR m b [13, 30, 11, 10, 12, 12] from lgR_a [] [13, 30, 11, 10, 12, 12]]
  refine gwr ?_
  refine g_iret m175_102 rt_175 ?_
  exact hQ
set_option maxRecDepth 20000 in
set_option maxHeartbeats 40000000 in
theorem c_mv_3_0_0 {b : Nat} {x nv mv : Int32} (hb : m 57 21 = nI b) (hb40 : b + 1 ≤ 40) (hk : m 57 22 = nI 3) (h0 : m 57 23 = nv) (h1 : m 57 24 = mv) (hQ : Q (some (.int (x + nv))) (H (lgR m b [10]) ln N)) : WP xs (d + 2) 172 0 0 [.ref (89), .int (0), .int (x)] (H m ln N) Q := by
  refine wp_x mx_172 (L := [some (.ref (89)), some (.int (0)), some (.int (x))]) (Nat.le_of_ble_eq_true rfl) rfl ?_
  refine g_iload_n m172_0 rfl ?_
  refine h_if_neT (xi := 0) (zi := 0) m172_1 rfl rfl (by decide) ?_
  refine g_aload_n m172_4 rfl ?_
  refine g_bipush m172_5 ?_
  refine h_cv (k := 57) (p := 89) (args := [.int (10)]) (rest := []) m172_7 cn_171 (Nat.le_of_ble_eq_true rfl) rfl rfl rfl (t_57 _ _) (Nat.le_of_ble_eq_true rfl) ?_
  refine c_ran (b := b) (c := 10) hb (by omega) ?_
  refine gwr0 ?_
  refine g_iload_n m172_10 rfl ?_
  refine g_aload_n m172_11 rfl ?_
  refine h_gfI (k := 57) (p := 89) m172_12 rfl (t_57 _ _) rfl ((lgR_o (by decide) [10]).trans h0) ?_
  refine g_iadd m172_15 rfl ?_
  refine g_iret m172_16 rt_172 ?_
  exact hQ
set_option maxRecDepth 20000 in
set_option maxHeartbeats 40000000 in
theorem c_mv_3_0_3 {b : Nat} {x nv mv : Int32} (hb : m 57 21 = nI b) (hb40 : b + 1 ≤ 40) (hk : m 57 22 = nI 3) (h0 : m 57 23 = nv) (h1 : m 57 24 = mv) (hQ : Q (some (.int (x + nv))) (H (lgR m b [10]) ln N)) : WP xs (d + 3) 172 0 0 [.ref (89), .int (3), .int (x)] (H m ln N) Q := by
  refine wp_x mx_172 (L := [some (.ref (89)), some (.int (3)), some (.int (x))]) (Nat.le_of_ble_eq_true rfl) rfl ?_
  refine g_iload_n m172_0 rfl ?_
  refine h_if_neF (xi := 3) (zi := 0) m172_1 rfl rfl (by decide) ?_
  refine g_iload_n m172_17 rfl ?_
  refine g_iconst m172_18 ?_
  refine h_ic_neF (xi := 3) (zi := 1) m172_19 rfl rfl (by decide) ?_
  refine g_aload_n m172_37 rfl ?_
  refine g_iload_n m172_38 rfl ?_
  refine g_cs (args := [.int (3)]) (rest := [.ref (89)]) 0 (Or.inl rfl) m172_39 (Nat.le_of_ble_eq_true rfl) rfl rfl (Nat.le_of_ble_eq_true rfl) ?_
  refine c_above (k := 3) (by decide) ?_
  refine gwr ?_
  refine g_iload_n m172_42 rfl ?_
  refine h_cv (k := 57) (p := 89) (args := [.int (0), .int (x)]) (rest := []) m172_43 cn_172 (Nat.le_of_ble_eq_true rfl) rfl rfl rfl (t_57 _ _) (Nat.le_of_ble_eq_true rfl) ?_
  refine c_mv_3_0_0 (m := lgR m b []) (b := b + 0) (nv := nv) (mv := mv) (lgR_4 hb []) (by omega) ((lgR_o (by decide) []).trans hk) ((lgR_o (by decide) []).trans h0) ((lgR_o (by decide) []).trans h1) ?_
  rw [show lgR (lgR m b []) (b + 0) [10] = lgR m b [10] from lgR_a [] [10]]
  refine gwr ?_
  refine g_iret m172_46 rt_172 ?_
  exact hQ
set_option maxRecDepth 20000 in
set_option maxHeartbeats 40000000 in
theorem c_mv_3_1_0 {b : Nat} {x nv mv : Int32} (hb : m 57 21 = nI b) (hb40 : b + 2 ≤ 40) (hk : m 57 22 = nI 3) (h0 : m 57 23 = nv) (h1 : m 57 24 = mv) (hQ : Q (some (.int ((x + nv) * (2 : Int32)))) (H (lgR m b [11, 10]) ln N)) : WP xs (d + 4) 174 0 0 [.ref (89), .int (0), .int (x)] (H m ln N) Q := by
  refine wp_x mx_174 (L := [some (.ref (89)), some (.int (0)), some (.int (x)), none]) (Nat.le_of_ble_eq_true rfl) rfl ?_
  refine g_iload_n m174_0 rfl ?_
  refine h_if_neT (xi := 0) (zi := 0) m174_1 rfl rfl (by decide) ?_
  refine g_aload_n m174_4 rfl ?_
  refine g_bipush m174_5 ?_
  refine h_cv (k := 57) (p := 89) (args := [.int (11)]) (rest := []) m174_7 cn_171 (Nat.le_of_ble_eq_true rfl) rfl rfl rfl (t_57 _ _) (Nat.le_of_ble_eq_true rfl) ?_
  refine c_ran (b := b) (c := 11) hb (by omega) ?_
  refine gwr0 ?_
  refine g_aload_n m174_10 rfl ?_
  refine g_aload_n m174_11 rfl ?_
  refine h_gfI (k := 57) (p := 89) m174_12 rfl (t_57 _ _) rfl ((lgR_o (by decide) [11]).trans hk) ?_
  refine g_iload_n m174_15 rfl ?_
  refine h_cv (k := 57) (p := 89) (args := [.int (3), .int (x)]) (rest := []) m174_16 cn_172 (Nat.le_of_ble_eq_true rfl) rfl rfl rfl (t_57 _ _) (Nat.le_of_ble_eq_true rfl) ?_
  refine c_mv_3_0_3 (m := lgR m b [11]) (b := b + 1) (nv := nv) (mv := mv) (lgR_4 hb [11]) (by omega) ((lgR_o (by decide) [11]).trans hk) ((lgR_o (by decide) [11]).trans h0) ((lgR_o (by decide) [11]).trans h1) ?_
  rw [show lgR (lgR m b [11]) (b + 1) [10] = lgR m b [11, 10] from lgR_a [11] [10]]
  refine gwr ?_
  refine g_iconst m174_19 ?_
  refine g_imul m174_20 rfl ?_
  refine g_iret m174_21 rt_174 ?_
  exact hQ
set_option maxRecDepth 20000 in
set_option maxHeartbeats 40000000 in
theorem c_mv_3_1_3 {b : Nat} {x nv mv : Int32} (hb : m 57 21 = nI b) (hb40 : b + 2 ≤ 40) (hk : m 57 22 = nI 3) (h0 : m 57 23 = nv) (h1 : m 57 24 = mv) (hQ : Q (some (.int ((x + nv) * (2 : Int32)))) (H (lgR m b [11, 10]) ln N)) : WP xs (d + 5) 174 0 0 [.ref (89), .int (3), .int (x)] (H m ln N) Q := by
  refine wp_x mx_174 (L := [some (.ref (89)), some (.int (3)), some (.int (x)), none]) (Nat.le_of_ble_eq_true rfl) rfl ?_
  refine g_iload_n m174_0 rfl ?_
  refine h_if_neF (xi := 3) (zi := 0) m174_1 rfl rfl (by decide) ?_
  refine g_iload_n m174_22 rfl ?_
  refine g_iconst m174_23 ?_
  refine h_ic_neF (xi := 3) (zi := 2) m174_24 rfl rfl (by decide) ?_
  refine g_iload_n m174_52 rfl ?_
  refine g_iconst m174_53 ?_
  refine h_ic_neF (xi := 3) (zi := 5) m174_54 rfl rfl (by decide) ?_
  refine g_aload_n m174_72 rfl ?_
  refine g_iload_n m174_73 rfl ?_
  refine g_cs (args := [.int (3)]) (rest := [.ref (89)]) 0 (Or.inl rfl) m174_74 (Nat.le_of_ble_eq_true rfl) rfl rfl (Nat.le_of_ble_eq_true rfl) ?_
  refine c_above (k := 3) (by decide) ?_
  refine gwr ?_
  refine g_iload_n m174_77 rfl ?_
  refine h_cv (k := 57) (p := 89) (args := [.int (0), .int (x)]) (rest := []) m174_78 cn_174 (Nat.le_of_ble_eq_true rfl) rfl rfl rfl (t_57 _ _) (Nat.le_of_ble_eq_true rfl) ?_
  refine c_mv_3_1_0 (m := lgR m b []) (b := b + 0) (nv := nv) (mv := mv) (lgR_4 hb []) (by omega) ((lgR_o (by decide) []).trans hk) ((lgR_o (by decide) []).trans h0) ((lgR_o (by decide) []).trans h1) ?_
  rw [show lgR (lgR m b []) (b + 0) [11, 10] = lgR m b [11, 10] from lgR_a [] [11, 10]]
  refine gwr ?_
  refine g_iret m174_81 rt_174 ?_
  exact hQ
set_option maxRecDepth 20000 in
set_option maxHeartbeats 40000000 in
theorem c_mv_3_2_0 {b : Nat} {x nv mv : Int32} (hb : m 57 21 = nI b) (hb40 : b + 1 ≤ 40) (hk : m 57 22 = nI 3) (h0 : m 57 23 = nv) (h1 : m 57 24 = mv) (hQ : Q (some (.int (x - mv))) (H (lgR m b [12]) ln N)) : WP xs (d + 2) 173 0 0 [.ref (89), .int (0), .int (x)] (H m ln N) Q := by
  refine wp_x mx_173 (L := [some (.ref (89)), some (.int (0)), some (.int (x))]) (Nat.le_of_ble_eq_true rfl) rfl ?_
  refine g_iload_n m173_0 rfl ?_
  refine h_if_neT (xi := 0) (zi := 0) m173_1 rfl rfl (by decide) ?_
  refine g_aload_n m173_4 rfl ?_
  refine g_bipush m173_5 ?_
  refine h_cv (k := 57) (p := 89) (args := [.int (12)]) (rest := []) m173_7 cn_171 (Nat.le_of_ble_eq_true rfl) rfl rfl rfl (t_57 _ _) (Nat.le_of_ble_eq_true rfl) ?_
  refine c_ran (b := b) (c := 12) hb (by omega) ?_
  refine gwr0 ?_
  refine g_iload_n m173_10 rfl ?_
  refine g_aload_n m173_11 rfl ?_
  refine h_gfI (k := 57) (p := 89) m173_12 rfl (t_57 _ _) rfl ((lgR_o (by decide) [12]).trans h1) ?_
  refine g_isub m173_15 rfl ?_
  refine g_iret m173_16 rt_173 ?_
  exact hQ
set_option maxRecDepth 20000 in
set_option maxHeartbeats 40000000 in
theorem c_mv_3_2_3 {b : Nat} {x nv mv : Int32} (hb : m 57 21 = nI b) (hb40 : b + 2 ≤ 40) (hk : m 57 22 = nI 3) (h0 : m 57 23 = nv) (h1 : m 57 24 = mv) (hQ : Q (some (.int (-(x - mv)))) (H (lgR m b [40, 12]) ln N)) : WP xs (d + 3) 173 0 0 [.ref (89), .int (3), .int (x)] (H m ln N) Q := by
  refine wp_x mx_173 (L := [some (.ref (89)), some (.int (3)), some (.int (x))]) (Nat.le_of_ble_eq_true rfl) rfl ?_
  refine g_iload_n m173_0 rfl ?_
  refine h_if_neF (xi := 3) (zi := 0) m173_1 rfl rfl (by decide) ?_
  refine g_iload_n m173_17 rfl ?_
  refine g_iconst m173_18 ?_
  refine h_ic_neT (xi := 3) (zi := 3) m173_19 rfl rfl (by decide) ?_
  refine g_aload_n m173_22 rfl ?_
  refine g_bipush m173_23 ?_
  refine h_cv (k := 57) (p := 89) (args := [.int (40)]) (rest := []) m173_25 cn_171 (Nat.le_of_ble_eq_true rfl) rfl rfl rfl (t_57 _ _) (Nat.le_of_ble_eq_true rfl) ?_
  refine c_ran (b := b) (c := 40) hb (by omega) ?_
  refine gwr0 ?_
  refine g_aload_n m173_28 rfl ?_
  refine g_iconst m173_29 ?_
  refine g_iload_n m173_30 rfl ?_
  refine h_cv (k := 57) (p := 89) (args := [.int (0), .int (x)]) (rest := []) m173_31 cn_173 (Nat.le_of_ble_eq_true rfl) rfl rfl rfl (t_57 _ _) (Nat.le_of_ble_eq_true rfl) ?_
  refine c_mv_3_2_0 (m := lgR m b [40]) (b := b + 1) (nv := nv) (mv := mv) (lgR_4 hb [40]) (by omega) ((lgR_o (by decide) [40]).trans hk) ((lgR_o (by decide) [40]).trans h0) ((lgR_o (by decide) [40]).trans h1) ?_
  rw [show lgR (lgR m b [40]) (b + 1) [12] = lgR m b [40, 12] from lgR_a [40] [12]]
  refine gwr ?_
  refine g_ineg m173_34 rfl ?_
  refine g_iret m173_35 rt_173 ?_
  exact hQ
set_option maxRecDepth 20000 in
set_option maxHeartbeats 40000000 in
theorem c_mv_3_3_0 {b : Nat} {x nv mv : Int32} (hb : m 57 21 = nI b) (hb40 : b + 5 ≤ 40) (hk : m 57 22 = nI 3) (h0 : m 57 23 = nv) (h1 : m 57 24 = mv) (hQ : Q (some (.int (((x + nv) * (2 : Int32)) ^^^ (-(x - mv))))) (H (lgR m b [13, 11, 10, 40, 12]) ln N)) : WP xs (d + 6) 175 0 0 [.ref (89), .int (0), .int (x)] (H m ln N) Q := by
  refine wp_x mx_175 (L := [some (.ref (89)), some (.int (0)), some (.int (x)), none]) (Nat.le_of_ble_eq_true rfl) rfl ?_
  refine g_iload_n m175_0 rfl ?_
  refine h_if_neT (xi := 0) (zi := 0) m175_1 rfl rfl (by decide) ?_
  refine g_aload_n m175_4 rfl ?_
  refine g_bipush m175_5 ?_
  refine h_cv (k := 57) (p := 89) (args := [.int (13)]) (rest := []) m175_7 cn_171 (Nat.le_of_ble_eq_true rfl) rfl rfl rfl (t_57 _ _) (Nat.le_of_ble_eq_true rfl) ?_
  refine c_ran (b := b) (c := 13) hb (by omega) ?_
  refine gwr0 ?_
  refine g_aload_n m175_10 rfl ?_
  refine g_aload_n m175_11 rfl ?_
  refine h_gfI (k := 57) (p := 89) m175_12 rfl (t_57 _ _) rfl ((lgR_o (by decide) [13]).trans hk) ?_
  refine g_iload_n m175_15 rfl ?_
  refine h_cv (k := 57) (p := 89) (args := [.int (3), .int (x)]) (rest := []) m175_16 cn_174 (Nat.le_of_ble_eq_true rfl) rfl rfl rfl (t_57 _ _) (Nat.le_of_ble_eq_true rfl) ?_
  refine c_mv_3_1_3 (m := lgR m b [13]) (b := b + 1) (nv := nv) (mv := mv) (lgR_4 hb [13]) (by omega) ((lgR_o (by decide) [13]).trans hk) ((lgR_o (by decide) [13]).trans h0) ((lgR_o (by decide) [13]).trans h1) ?_
  rw [show lgR (lgR m b [13]) (b + 1) [11, 10] = lgR m b [13, 11, 10] from lgR_a [13] [11, 10]]
  refine gwr ?_
  refine g_istore_n (L2 := [some (.ref (89)), some (.int (0)), some (.int (x)), some (.int (((x + nv) * (2 : Int32))))]) m175_19 rfl rfl ?_
  refine g_iload_n m175_20 rfl ?_
  refine g_aload_n m175_21 rfl ?_
  refine g_aload_n m175_22 rfl ?_
  refine h_gfI (k := 57) (p := 89) m175_23 rfl (t_57 _ _) rfl ((lgR_o (by decide) [13, 11, 10]).trans hk) ?_
  refine g_iload_n m175_26 rfl ?_
  refine h_cv (k := 57) (p := 89) (args := [.int (3), .int (x)]) (rest := [.int (((x + nv) * (2 : Int32)))]) m175_27 cn_173 (Nat.le_of_ble_eq_true rfl) rfl rfl rfl (t_57 _ _) (Nat.le_of_ble_eq_true rfl) ?_
  refine c_mv_3_2_3 (m := lgR m b [13, 11, 10]) (b := b + 3) (nv := nv) (mv := mv) (lgR_4 hb [13, 11, 10]) (by omega) ((lgR_o (by decide) [13, 11, 10]).trans hk) ((lgR_o (by decide) [13, 11, 10]).trans h0) ((lgR_o (by decide) [13, 11, 10]).trans h1) ?_
  rw [show lgR (lgR m b [13, 11, 10]) (b + 3) [40, 12] = lgR m b [13, 11, 10, 40, 12] from lgR_a [13, 11, 10] [40, 12]]
  refine gwr ?_
  refine g_ixor m175_30 rfl ?_
  refine g_iret m175_31 rt_175 ?_
  exact hQ
set_option maxRecDepth 20000 in
set_option maxHeartbeats 40000000 in
theorem c_mv_3_3_3 {b : Nat} {x nv mv : Int32} (hb : m 57 21 = nI b) (hb40 : b + 5 ≤ 40) (hk : m 57 22 = nI 3) (h0 : m 57 23 = nv) (h1 : m 57 24 = mv) (hQ : Q (some (.int (((x + nv) * (2 : Int32)) ^^^ (-(x - mv))))) (H (lgR m b [13, 11, 10, 40, 12]) ln N)) : WP xs (d + 7) 175 0 0 [.ref (89), .int (3), .int (x)] (H m ln N) Q := by
  refine wp_x mx_175 (L := [some (.ref (89)), some (.int (3)), some (.int (x)), none]) (Nat.le_of_ble_eq_true rfl) rfl ?_
  refine g_iload_n m175_0 rfl ?_
  refine h_if_neF (xi := 3) (zi := 0) m175_1 rfl rfl (by decide) ?_
  refine g_iload_n m175_32 rfl ?_
  refine g_iconst m175_33 ?_
  refine h_ic_neF (xi := 3) (zi := 4) m175_34 rfl rfl (by decide) ?_
  refine g_iload_n m175_62 rfl ?_
  refine g_bipush m175_63 ?_
  refine h_ic_neF (xi := 3) (zi := 6) m175_65 rfl rfl (by decide) ?_
  refine g_aload_n m175_93 rfl ?_
  refine g_iload_n m175_94 rfl ?_
  refine g_cs (args := [.int (3)]) (rest := [.ref (89)]) 0 (Or.inl rfl) m175_95 (Nat.le_of_ble_eq_true rfl) rfl rfl (Nat.le_of_ble_eq_true rfl) ?_
  refine c_above (k := 3) (by decide) ?_
  refine gwr ?_
  refine g_iload_n m175_98 rfl ?_
  refine h_cv (k := 57) (p := 89) (args := [.int (0), .int (x)]) (rest := []) m175_99 cn_175 (Nat.le_of_ble_eq_true rfl) rfl rfl rfl (t_57 _ _) (Nat.le_of_ble_eq_true rfl) ?_
  refine c_mv_3_3_0 (m := lgR m b []) (b := b + 0) (nv := nv) (mv := mv) (lgR_4 hb []) (by omega) ((lgR_o (by decide) []).trans hk) ((lgR_o (by decide) []).trans h0) ((lgR_o (by decide) []).trans h1) ?_
  rw [show lgR (lgR m b []) (b + 0) [13, 11, 10, 40, 12] = lgR m b [13, 11, 10, 40, 12] from lgR_a [] [13, 11, 10, 40, 12]]
  refine gwr ?_
  refine g_iret m175_102 rt_175 ?_
  exact hQ
set_option maxRecDepth 20000 in
set_option maxHeartbeats 40000000 in
theorem c_mv_4_0_0 {b : Nat} {x nv mv : Int32} (hb : m 57 21 = nI b) (hb40 : b + 1 ≤ 40) (hk : m 57 22 = nI 4) (h0 : m 57 23 = nv) (h1 : m 57 24 = mv) (hQ : Q (some (.int (x + nv))) (H (lgR m b [10]) ln N)) : WP xs (d + 2) 172 0 0 [.ref (89), .int (0), .int (x)] (H m ln N) Q := by
  refine wp_x mx_172 (L := [some (.ref (89)), some (.int (0)), some (.int (x))]) (Nat.le_of_ble_eq_true rfl) rfl ?_
  refine g_iload_n m172_0 rfl ?_
  refine h_if_neT (xi := 0) (zi := 0) m172_1 rfl rfl (by decide) ?_
  refine g_aload_n m172_4 rfl ?_
  refine g_bipush m172_5 ?_
  refine h_cv (k := 57) (p := 89) (args := [.int (10)]) (rest := []) m172_7 cn_171 (Nat.le_of_ble_eq_true rfl) rfl rfl rfl (t_57 _ _) (Nat.le_of_ble_eq_true rfl) ?_
  refine c_ran (b := b) (c := 10) hb (by omega) ?_
  refine gwr0 ?_
  refine g_iload_n m172_10 rfl ?_
  refine g_aload_n m172_11 rfl ?_
  refine h_gfI (k := 57) (p := 89) m172_12 rfl (t_57 _ _) rfl ((lgR_o (by decide) [10]).trans h0) ?_
  refine g_iadd m172_15 rfl ?_
  refine g_iret m172_16 rt_172 ?_
  exact hQ
set_option maxRecDepth 20000 in
set_option maxHeartbeats 40000000 in
theorem c_mv_4_0_1 {b : Nat} {x nv mv : Int32} (hb : m 57 21 = nI b) (hb40 : b + 2 ≤ 40) (hk : m 57 22 = nI 4) (h0 : m 57 23 = nv) (h1 : m 57 24 = mv) (hQ : Q (some (.int ((x + nv) * (3 : Int32)))) (H (lgR m b [20, 10]) ln N)) : WP xs (d + 3) 172 0 0 [.ref (89), .int (1), .int (x)] (H m ln N) Q := by
  refine wp_x mx_172 (L := [some (.ref (89)), some (.int (1)), some (.int (x))]) (Nat.le_of_ble_eq_true rfl) rfl ?_
  refine g_iload_n m172_0 rfl ?_
  refine h_if_neF (xi := 1) (zi := 0) m172_1 rfl rfl (by decide) ?_
  refine g_iload_n m172_17 rfl ?_
  refine g_iconst m172_18 ?_
  refine h_ic_neT (xi := 1) (zi := 1) m172_19 rfl rfl (by decide) ?_
  refine g_aload_n m172_22 rfl ?_
  refine g_bipush m172_23 ?_
  refine h_cv (k := 57) (p := 89) (args := [.int (20)]) (rest := []) m172_25 cn_171 (Nat.le_of_ble_eq_true rfl) rfl rfl rfl (t_57 _ _) (Nat.le_of_ble_eq_true rfl) ?_
  refine c_ran (b := b) (c := 20) hb (by omega) ?_
  refine gwr0 ?_
  refine g_aload_n m172_28 rfl ?_
  refine g_iconst m172_29 ?_
  refine g_iload_n m172_30 rfl ?_
  refine h_cv (k := 57) (p := 89) (args := [.int (0), .int (x)]) (rest := []) m172_31 cn_172 (Nat.le_of_ble_eq_true rfl) rfl rfl rfl (t_57 _ _) (Nat.le_of_ble_eq_true rfl) ?_
  refine c_mv_4_0_0 (m := lgR m b [20]) (b := b + 1) (nv := nv) (mv := mv) (lgR_4 hb [20]) (by omega) ((lgR_o (by decide) [20]).trans hk) ((lgR_o (by decide) [20]).trans h0) ((lgR_o (by decide) [20]).trans h1) ?_
  rw [show lgR (lgR m b [20]) (b + 1) [10] = lgR m b [20, 10] from lgR_a [20] [10]]
  refine gwr ?_
  refine g_iconst m172_34 ?_
  refine g_imul m172_35 rfl ?_
  refine g_iret m172_36 rt_172 ?_
  exact hQ
set_option maxRecDepth 20000 in
set_option maxHeartbeats 40000000 in
theorem c_mv_4_0_4 {b : Nat} {x nv mv : Int32} (hb : m 57 21 = nI b) (hb40 : b + 2 ≤ 40) (hk : m 57 22 = nI 4) (h0 : m 57 23 = nv) (h1 : m 57 24 = mv) (hQ : Q (some (.int ((x + nv) * (3 : Int32)))) (H (lgR m b [20, 10]) ln N)) : WP xs (d + 4) 172 0 0 [.ref (89), .int (4), .int (x)] (H m ln N) Q := by
  refine wp_x mx_172 (L := [some (.ref (89)), some (.int (4)), some (.int (x))]) (Nat.le_of_ble_eq_true rfl) rfl ?_
  refine g_iload_n m172_0 rfl ?_
  refine h_if_neF (xi := 4) (zi := 0) m172_1 rfl rfl (by decide) ?_
  refine g_iload_n m172_17 rfl ?_
  refine g_iconst m172_18 ?_
  refine h_ic_neF (xi := 4) (zi := 1) m172_19 rfl rfl (by decide) ?_
  refine g_aload_n m172_37 rfl ?_
  refine g_iload_n m172_38 rfl ?_
  refine g_cs (args := [.int (4)]) (rest := [.ref (89)]) 0 (Or.inl rfl) m172_39 (Nat.le_of_ble_eq_true rfl) rfl rfl (Nat.le_of_ble_eq_true rfl) ?_
  refine c_above (k := 4) (by decide) ?_
  refine gwr ?_
  refine g_iload_n m172_42 rfl ?_
  refine h_cv (k := 57) (p := 89) (args := [.int (1), .int (x)]) (rest := []) m172_43 cn_172 (Nat.le_of_ble_eq_true rfl) rfl rfl rfl (t_57 _ _) (Nat.le_of_ble_eq_true rfl) ?_
  refine c_mv_4_0_1 (m := lgR m b []) (b := b + 0) (nv := nv) (mv := mv) (lgR_4 hb []) (by omega) ((lgR_o (by decide) []).trans hk) ((lgR_o (by decide) []).trans h0) ((lgR_o (by decide) []).trans h1) ?_
  rw [show lgR (lgR m b []) (b + 0) [20, 10] = lgR m b [20, 10] from lgR_a [] [20, 10]]
  refine gwr ?_
  refine g_iret m172_46 rt_172 ?_
  exact hQ
set_option maxRecDepth 20000 in
set_option maxHeartbeats 40000000 in
theorem c_mv_4_1_0 {b : Nat} {x nv mv : Int32} (hb : m 57 21 = nI b) (hb40 : b + 3 ≤ 40) (hk : m 57 22 = nI 4) (h0 : m 57 23 = nv) (h1 : m 57 24 = mv) (hQ : Q (some (.int (((x + nv) * (3 : Int32)) * (2 : Int32)))) (H (lgR m b [11, 20, 10]) ln N)) : WP xs (d + 5) 174 0 0 [.ref (89), .int (0), .int (x)] (H m ln N) Q := by
  refine wp_x mx_174 (L := [some (.ref (89)), some (.int (0)), some (.int (x)), none]) (Nat.le_of_ble_eq_true rfl) rfl ?_
  refine g_iload_n m174_0 rfl ?_
  refine h_if_neT (xi := 0) (zi := 0) m174_1 rfl rfl (by decide) ?_
  refine g_aload_n m174_4 rfl ?_
  refine g_bipush m174_5 ?_
  refine h_cv (k := 57) (p := 89) (args := [.int (11)]) (rest := []) m174_7 cn_171 (Nat.le_of_ble_eq_true rfl) rfl rfl rfl (t_57 _ _) (Nat.le_of_ble_eq_true rfl) ?_
  refine c_ran (b := b) (c := 11) hb (by omega) ?_
  refine gwr0 ?_
  refine g_aload_n m174_10 rfl ?_
  refine g_aload_n m174_11 rfl ?_
  refine h_gfI (k := 57) (p := 89) m174_12 rfl (t_57 _ _) rfl ((lgR_o (by decide) [11]).trans hk) ?_
  refine g_iload_n m174_15 rfl ?_
  refine h_cv (k := 57) (p := 89) (args := [.int (4), .int (x)]) (rest := []) m174_16 cn_172 (Nat.le_of_ble_eq_true rfl) rfl rfl rfl (t_57 _ _) (Nat.le_of_ble_eq_true rfl) ?_
  refine c_mv_4_0_4 (m := lgR m b [11]) (b := b + 1) (nv := nv) (mv := mv) (lgR_4 hb [11]) (by omega) ((lgR_o (by decide) [11]).trans hk) ((lgR_o (by decide) [11]).trans h0) ((lgR_o (by decide) [11]).trans h1) ?_
  rw [show lgR (lgR m b [11]) (b + 1) [20, 10] = lgR m b [11, 20, 10] from lgR_a [11] [20, 10]]
  refine gwr ?_
  refine g_iconst m174_19 ?_
  refine g_imul m174_20 rfl ?_
  refine g_iret m174_21 rt_174 ?_
  exact hQ
set_option maxRecDepth 20000 in
set_option maxHeartbeats 40000000 in
theorem c_mv_4_1_1 {b : Nat} {x nv mv : Int32} (hb : m 57 21 = nI b) (hb40 : b + 3 ≤ 40) (hk : m 57 22 = nI 4) (h0 : m 57 23 = nv) (h1 : m 57 24 = mv) (hQ : Q (some (.int (((x + nv) * (3 : Int32)) * (2 : Int32)))) (H (lgR m b [11, 20, 10]) ln N)) : WP xs (d + 6) 174 0 0 [.ref (89), .int (1), .int (x)] (H m ln N) Q := by
  refine wp_x mx_174 (L := [some (.ref (89)), some (.int (1)), some (.int (x)), none]) (Nat.le_of_ble_eq_true rfl) rfl ?_
  refine g_iload_n m174_0 rfl ?_
  refine h_if_neF (xi := 1) (zi := 0) m174_1 rfl rfl (by decide) ?_
  refine g_iload_n m174_22 rfl ?_
  refine g_iconst m174_23 ?_
  refine h_ic_neF (xi := 1) (zi := 2) m174_24 rfl rfl (by decide) ?_
  refine g_iload_n m174_52 rfl ?_
  refine g_iconst m174_53 ?_
  refine h_ic_neF (xi := 1) (zi := 5) m174_54 rfl rfl (by decide) ?_
  refine g_aload_n m174_72 rfl ?_
  refine g_iload_n m174_73 rfl ?_
  refine g_cs (args := [.int (1)]) (rest := [.ref (89)]) 0 (Or.inl rfl) m174_74 (Nat.le_of_ble_eq_true rfl) rfl rfl (Nat.le_of_ble_eq_true rfl) ?_
  refine c_above (k := 1) (by decide) ?_
  refine gwr ?_
  refine g_iload_n m174_77 rfl ?_
  refine h_cv (k := 57) (p := 89) (args := [.int (0), .int (x)]) (rest := []) m174_78 cn_174 (Nat.le_of_ble_eq_true rfl) rfl rfl rfl (t_57 _ _) (Nat.le_of_ble_eq_true rfl) ?_
  refine c_mv_4_1_0 (m := lgR m b []) (b := b + 0) (nv := nv) (mv := mv) (lgR_4 hb []) (by omega) ((lgR_o (by decide) []).trans hk) ((lgR_o (by decide) []).trans h0) ((lgR_o (by decide) []).trans h1) ?_
  rw [show lgR (lgR m b []) (b + 0) [11, 20, 10] = lgR m b [11, 20, 10] from lgR_a [] [11, 20, 10]]
  refine gwr ?_
  refine g_iret m174_81 rt_174 ?_
  exact hQ
set_option maxRecDepth 20000 in
set_option maxHeartbeats 40000000 in
theorem c_mv_4_1_4 {b : Nat} {x nv mv : Int32} (hb : m 57 21 = nI b) (hb40 : b + 3 ≤ 40) (hk : m 57 22 = nI 4) (h0 : m 57 23 = nv) (h1 : m 57 24 = mv) (hQ : Q (some (.int (((x + nv) * (3 : Int32)) * (2 : Int32)))) (H (lgR m b [11, 20, 10]) ln N)) : WP xs (d + 7) 174 0 0 [.ref (89), .int (4), .int (x)] (H m ln N) Q := by
  refine wp_x mx_174 (L := [some (.ref (89)), some (.int (4)), some (.int (x)), none]) (Nat.le_of_ble_eq_true rfl) rfl ?_
  refine g_iload_n m174_0 rfl ?_
  refine h_if_neF (xi := 4) (zi := 0) m174_1 rfl rfl (by decide) ?_
  refine g_iload_n m174_22 rfl ?_
  refine g_iconst m174_23 ?_
  refine h_ic_neF (xi := 4) (zi := 2) m174_24 rfl rfl (by decide) ?_
  refine g_iload_n m174_52 rfl ?_
  refine g_iconst m174_53 ?_
  refine h_ic_neF (xi := 4) (zi := 5) m174_54 rfl rfl (by decide) ?_
  refine g_aload_n m174_72 rfl ?_
  refine g_iload_n m174_73 rfl ?_
  refine g_cs (args := [.int (4)]) (rest := [.ref (89)]) 0 (Or.inl rfl) m174_74 (Nat.le_of_ble_eq_true rfl) rfl rfl (Nat.le_of_ble_eq_true rfl) ?_
  refine c_above (k := 4) (by decide) ?_
  refine gwr ?_
  refine g_iload_n m174_77 rfl ?_
  refine h_cv (k := 57) (p := 89) (args := [.int (1), .int (x)]) (rest := []) m174_78 cn_174 (Nat.le_of_ble_eq_true rfl) rfl rfl rfl (t_57 _ _) (Nat.le_of_ble_eq_true rfl) ?_
  refine c_mv_4_1_1 (m := lgR m b []) (b := b + 0) (nv := nv) (mv := mv) (lgR_4 hb []) (by omega) ((lgR_o (by decide) []).trans hk) ((lgR_o (by decide) []).trans h0) ((lgR_o (by decide) []).trans h1) ?_
  rw [show lgR (lgR m b []) (b + 0) [11, 20, 10] = lgR m b [11, 20, 10] from lgR_a [] [11, 20, 10]]
  refine gwr ?_
  refine g_iret m174_81 rt_174 ?_
  exact hQ
set_option maxRecDepth 20000 in
set_option maxHeartbeats 40000000 in
theorem c_mv_4_2_0 {b : Nat} {x nv mv : Int32} (hb : m 57 21 = nI b) (hb40 : b + 1 ≤ 40) (hk : m 57 22 = nI 4) (h0 : m 57 23 = nv) (h1 : m 57 24 = mv) (hQ : Q (some (.int (x - mv))) (H (lgR m b [12]) ln N)) : WP xs (d + 2) 173 0 0 [.ref (89), .int (0), .int (x)] (H m ln N) Q := by
  refine wp_x mx_173 (L := [some (.ref (89)), some (.int (0)), some (.int (x))]) (Nat.le_of_ble_eq_true rfl) rfl ?_
  refine g_iload_n m173_0 rfl ?_
  refine h_if_neT (xi := 0) (zi := 0) m173_1 rfl rfl (by decide) ?_
  refine g_aload_n m173_4 rfl ?_
  refine g_bipush m173_5 ?_
  refine h_cv (k := 57) (p := 89) (args := [.int (12)]) (rest := []) m173_7 cn_171 (Nat.le_of_ble_eq_true rfl) rfl rfl rfl (t_57 _ _) (Nat.le_of_ble_eq_true rfl) ?_
  refine c_ran (b := b) (c := 12) hb (by omega) ?_
  refine gwr0 ?_
  refine g_iload_n m173_10 rfl ?_
  refine g_aload_n m173_11 rfl ?_
  refine h_gfI (k := 57) (p := 89) m173_12 rfl (t_57 _ _) rfl ((lgR_o (by decide) [12]).trans h1) ?_
  refine g_isub m173_15 rfl ?_
  refine g_iret m173_16 rt_173 ?_
  exact hQ
set_option maxRecDepth 20000 in
set_option maxHeartbeats 40000000 in
theorem c_mv_4_2_1 {b : Nat} {x nv mv : Int32} (hb : m 57 21 = nI b) (hb40 : b + 1 ≤ 40) (hk : m 57 22 = nI 4) (h0 : m 57 23 = nv) (h1 : m 57 24 = mv) (hQ : Q (some (.int (x - mv))) (H (lgR m b [12]) ln N)) : WP xs (d + 3) 173 0 0 [.ref (89), .int (1), .int (x)] (H m ln N) Q := by
  refine wp_x mx_173 (L := [some (.ref (89)), some (.int (1)), some (.int (x))]) (Nat.le_of_ble_eq_true rfl) rfl ?_
  refine g_iload_n m173_0 rfl ?_
  refine h_if_neF (xi := 1) (zi := 0) m173_1 rfl rfl (by decide) ?_
  refine g_iload_n m173_17 rfl ?_
  refine g_iconst m173_18 ?_
  refine h_ic_neF (xi := 1) (zi := 3) m173_19 rfl rfl (by decide) ?_
  refine g_iload_n m173_36 rfl ?_
  refine g_bipush m173_37 ?_
  refine h_ic_neF (xi := 1) (zi := 6) m173_39 rfl rfl (by decide) ?_
  refine g_aload_n m173_60 rfl ?_
  refine g_iload_n m173_61 rfl ?_
  refine g_cs (args := [.int (1)]) (rest := [.ref (89)]) 0 (Or.inl rfl) m173_62 (Nat.le_of_ble_eq_true rfl) rfl rfl (Nat.le_of_ble_eq_true rfl) ?_
  refine c_above (k := 1) (by decide) ?_
  refine gwr ?_
  refine g_iload_n m173_65 rfl ?_
  refine h_cv (k := 57) (p := 89) (args := [.int (0), .int (x)]) (rest := []) m173_66 cn_173 (Nat.le_of_ble_eq_true rfl) rfl rfl rfl (t_57 _ _) (Nat.le_of_ble_eq_true rfl) ?_
  refine c_mv_4_2_0 (m := lgR m b []) (b := b + 0) (nv := nv) (mv := mv) (lgR_4 hb []) (by omega) ((lgR_o (by decide) []).trans hk) ((lgR_o (by decide) []).trans h0) ((lgR_o (by decide) []).trans h1) ?_
  rw [show lgR (lgR m b []) (b + 0) [12] = lgR m b [12] from lgR_a [] [12]]
  refine gwr ?_
  refine g_iret m173_69 rt_173 ?_
  exact hQ
set_option maxRecDepth 20000 in
set_option maxHeartbeats 40000000 in
theorem c_mv_4_2_4 {b : Nat} {x nv mv : Int32} (hb : m 57 21 = nI b) (hb40 : b + 1 ≤ 40) (hk : m 57 22 = nI 4) (h0 : m 57 23 = nv) (h1 : m 57 24 = mv) (hQ : Q (some (.int (x - mv))) (H (lgR m b [12]) ln N)) : WP xs (d + 4) 173 0 0 [.ref (89), .int (4), .int (x)] (H m ln N) Q := by
  refine wp_x mx_173 (L := [some (.ref (89)), some (.int (4)), some (.int (x))]) (Nat.le_of_ble_eq_true rfl) rfl ?_
  refine g_iload_n m173_0 rfl ?_
  refine h_if_neF (xi := 4) (zi := 0) m173_1 rfl rfl (by decide) ?_
  refine g_iload_n m173_17 rfl ?_
  refine g_iconst m173_18 ?_
  refine h_ic_neF (xi := 4) (zi := 3) m173_19 rfl rfl (by decide) ?_
  refine g_iload_n m173_36 rfl ?_
  refine g_bipush m173_37 ?_
  refine h_ic_neF (xi := 4) (zi := 6) m173_39 rfl rfl (by decide) ?_
  refine g_aload_n m173_60 rfl ?_
  refine g_iload_n m173_61 rfl ?_
  refine g_cs (args := [.int (4)]) (rest := [.ref (89)]) 0 (Or.inl rfl) m173_62 (Nat.le_of_ble_eq_true rfl) rfl rfl (Nat.le_of_ble_eq_true rfl) ?_
  refine c_above (k := 4) (by decide) ?_
  refine gwr ?_
  refine g_iload_n m173_65 rfl ?_
  refine h_cv (k := 57) (p := 89) (args := [.int (1), .int (x)]) (rest := []) m173_66 cn_173 (Nat.le_of_ble_eq_true rfl) rfl rfl rfl (t_57 _ _) (Nat.le_of_ble_eq_true rfl) ?_
  refine c_mv_4_2_1 (m := lgR m b []) (b := b + 0) (nv := nv) (mv := mv) (lgR_4 hb []) (by omega) ((lgR_o (by decide) []).trans hk) ((lgR_o (by decide) []).trans h0) ((lgR_o (by decide) []).trans h1) ?_
  rw [show lgR (lgR m b []) (b + 0) [12] = lgR m b [12] from lgR_a [] [12]]
  refine gwr ?_
  refine g_iret m173_69 rt_173 ?_
  exact hQ
set_option maxRecDepth 20000 in
set_option maxHeartbeats 40000000 in
theorem c_mv_4_3_0 {b : Nat} {x nv mv : Int32} (hb : m 57 21 = nI b) (hb40 : b + 5 ≤ 40) (hk : m 57 22 = nI 4) (h0 : m 57 23 = nv) (h1 : m 57 24 = mv) (hQ : Q (some (.int ((((x + nv) * (3 : Int32)) * (2 : Int32)) ^^^ (x - mv)))) (H (lgR m b [13, 11, 20, 10, 12]) ln N)) : WP xs (d + 8) 175 0 0 [.ref (89), .int (0), .int (x)] (H m ln N) Q := by
  refine wp_x mx_175 (L := [some (.ref (89)), some (.int (0)), some (.int (x)), none]) (Nat.le_of_ble_eq_true rfl) rfl ?_
  refine g_iload_n m175_0 rfl ?_
  refine h_if_neT (xi := 0) (zi := 0) m175_1 rfl rfl (by decide) ?_
  refine g_aload_n m175_4 rfl ?_
  refine g_bipush m175_5 ?_
  refine h_cv (k := 57) (p := 89) (args := [.int (13)]) (rest := []) m175_7 cn_171 (Nat.le_of_ble_eq_true rfl) rfl rfl rfl (t_57 _ _) (Nat.le_of_ble_eq_true rfl) ?_
  refine c_ran (b := b) (c := 13) hb (by omega) ?_
  refine gwr0 ?_
  refine g_aload_n m175_10 rfl ?_
  refine g_aload_n m175_11 rfl ?_
  refine h_gfI (k := 57) (p := 89) m175_12 rfl (t_57 _ _) rfl ((lgR_o (by decide) [13]).trans hk) ?_
  refine g_iload_n m175_15 rfl ?_
  refine h_cv (k := 57) (p := 89) (args := [.int (4), .int (x)]) (rest := []) m175_16 cn_174 (Nat.le_of_ble_eq_true rfl) rfl rfl rfl (t_57 _ _) (Nat.le_of_ble_eq_true rfl) ?_
  refine c_mv_4_1_4 (m := lgR m b [13]) (b := b + 1) (nv := nv) (mv := mv) (lgR_4 hb [13]) (by omega) ((lgR_o (by decide) [13]).trans hk) ((lgR_o (by decide) [13]).trans h0) ((lgR_o (by decide) [13]).trans h1) ?_
  rw [show lgR (lgR m b [13]) (b + 1) [11, 20, 10] = lgR m b [13, 11, 20, 10] from lgR_a [13] [11, 20, 10]]
  refine gwr ?_
  refine g_istore_n (L2 := [some (.ref (89)), some (.int (0)), some (.int (x)), some (.int ((((x + nv) * (3 : Int32)) * (2 : Int32))))]) m175_19 rfl rfl ?_
  refine g_iload_n m175_20 rfl ?_
  refine g_aload_n m175_21 rfl ?_
  refine g_aload_n m175_22 rfl ?_
  refine h_gfI (k := 57) (p := 89) m175_23 rfl (t_57 _ _) rfl ((lgR_o (by decide) [13, 11, 20, 10]).trans hk) ?_
  refine g_iload_n m175_26 rfl ?_
  refine h_cv (k := 57) (p := 89) (args := [.int (4), .int (x)]) (rest := [.int ((((x + nv) * (3 : Int32)) * (2 : Int32)))]) m175_27 cn_173 (Nat.le_of_ble_eq_true rfl) rfl rfl rfl (t_57 _ _) (Nat.le_of_ble_eq_true rfl) ?_
  refine c_mv_4_2_4 (m := lgR m b [13, 11, 20, 10]) (b := b + 4) (nv := nv) (mv := mv) (lgR_4 hb [13, 11, 20, 10]) (by omega) ((lgR_o (by decide) [13, 11, 20, 10]).trans hk) ((lgR_o (by decide) [13, 11, 20, 10]).trans h0) ((lgR_o (by decide) [13, 11, 20, 10]).trans h1) ?_
  rw [show lgR (lgR m b [13, 11, 20, 10]) (b + 4) [12] = lgR m b [13, 11, 20, 10, 12] from lgR_a [13, 11, 20, 10] [12]]
  refine gwr ?_
  refine g_ixor m175_30 rfl ?_
  refine g_iret m175_31 rt_175 ?_
  exact hQ
set_option maxRecDepth 20000 in
set_option maxHeartbeats 40000000 in
theorem c_mv_4_3_1 {b : Nat} {x nv mv : Int32} (hb : m 57 21 = nI b) (hb40 : b + 5 ≤ 40) (hk : m 57 22 = nI 4) (h0 : m 57 23 = nv) (h1 : m 57 24 = mv) (hQ : Q (some (.int ((((x + nv) * (3 : Int32)) * (2 : Int32)) ^^^ (x - mv)))) (H (lgR m b [13, 11, 20, 10, 12]) ln N)) : WP xs (d + 9) 175 0 0 [.ref (89), .int (1), .int (x)] (H m ln N) Q := by
  refine wp_x mx_175 (L := [some (.ref (89)), some (.int (1)), some (.int (x)), none]) (Nat.le_of_ble_eq_true rfl) rfl ?_
  refine g_iload_n m175_0 rfl ?_
  refine h_if_neF (xi := 1) (zi := 0) m175_1 rfl rfl (by decide) ?_
  refine g_iload_n m175_32 rfl ?_
  refine g_iconst m175_33 ?_
  refine h_ic_neF (xi := 1) (zi := 4) m175_34 rfl rfl (by decide) ?_
  refine g_iload_n m175_62 rfl ?_
  refine g_bipush m175_63 ?_
  refine h_ic_neF (xi := 1) (zi := 6) m175_65 rfl rfl (by decide) ?_
  refine g_aload_n m175_93 rfl ?_
  refine g_iload_n m175_94 rfl ?_
  refine g_cs (args := [.int (1)]) (rest := [.ref (89)]) 0 (Or.inl rfl) m175_95 (Nat.le_of_ble_eq_true rfl) rfl rfl (Nat.le_of_ble_eq_true rfl) ?_
  refine c_above (k := 1) (by decide) ?_
  refine gwr ?_
  refine g_iload_n m175_98 rfl ?_
  refine h_cv (k := 57) (p := 89) (args := [.int (0), .int (x)]) (rest := []) m175_99 cn_175 (Nat.le_of_ble_eq_true rfl) rfl rfl rfl (t_57 _ _) (Nat.le_of_ble_eq_true rfl) ?_
  refine c_mv_4_3_0 (m := lgR m b []) (b := b + 0) (nv := nv) (mv := mv) (lgR_4 hb []) (by omega) ((lgR_o (by decide) []).trans hk) ((lgR_o (by decide) []).trans h0) ((lgR_o (by decide) []).trans h1) ?_
  rw [show lgR (lgR m b []) (b + 0) [13, 11, 20, 10, 12] = lgR m b [13, 11, 20, 10, 12] from lgR_a [] [13, 11, 20, 10, 12]]
  refine gwr ?_
  refine g_iret m175_102 rt_175 ?_
  exact hQ
set_option maxRecDepth 20000 in
set_option maxHeartbeats 40000000 in
theorem c_mv_4_3_4 {b : Nat} {x nv mv : Int32} (hb : m 57 21 = nI b) (hb40 : b + 8 ≤ 40) (hk : m 57 22 = nI 4) (h0 : m 57 23 = nv) (h1 : m 57 24 = mv) (hQ : Q (some (.int (((((x + nv) * (3 : Int32)) * (2 : Int32)) ^^^ (x - mv)) - (((2 : Int32) + nv) * (3 : Int32))))) (H (lgR m b [50, 13, 11, 20, 10, 12, 20, 10]) ln N)) : WP xs (d + 10) 175 0 0 [.ref (89), .int (4), .int (x)] (H m ln N) Q := by
  refine wp_x mx_175 (L := [some (.ref (89)), some (.int (4)), some (.int (x)), none]) (Nat.le_of_ble_eq_true rfl) rfl ?_
  refine g_iload_n m175_0 rfl ?_
  refine h_if_neF (xi := 4) (zi := 0) m175_1 rfl rfl (by decide) ?_
  refine g_iload_n m175_32 rfl ?_
  refine g_iconst m175_33 ?_
  refine h_ic_neT (xi := 4) (zi := 4) m175_34 rfl rfl (by decide) ?_
  refine g_aload_n m175_37 rfl ?_
  refine g_bipush m175_38 ?_
  refine h_cv (k := 57) (p := 89) (args := [.int (50)]) (rest := []) m175_40 cn_171 (Nat.le_of_ble_eq_true rfl) rfl rfl rfl (t_57 _ _) (Nat.le_of_ble_eq_true rfl) ?_
  refine c_ran (b := b) (c := 50) hb (by omega) ?_
  refine gwr0 ?_
  refine g_aload_n m175_43 rfl ?_
  refine g_iconst m175_44 ?_
  refine g_iload_n m175_45 rfl ?_
  refine h_cv (k := 57) (p := 89) (args := [.int (1), .int (x)]) (rest := []) m175_46 cn_175 (Nat.le_of_ble_eq_true rfl) rfl rfl rfl (t_57 _ _) (Nat.le_of_ble_eq_true rfl) ?_
  refine c_mv_4_3_1 (m := lgR m b [50]) (b := b + 1) (nv := nv) (mv := mv) (lgR_4 hb [50]) (by omega) ((lgR_o (by decide) [50]).trans hk) ((lgR_o (by decide) [50]).trans h0) ((lgR_o (by decide) [50]).trans h1) ?_
  rw [show lgR (lgR m b [50]) (b + 1) [13, 11, 20, 10, 12] = lgR m b [50, 13, 11, 20, 10, 12] from lgR_a [50] [13, 11, 20, 10, 12]]
  refine gwr ?_
  refine g_istore_n (L2 := [some (.ref (89)), some (.int (4)), some (.int (x)), some (.int (((((x + nv) * (3 : Int32)) * (2 : Int32)) ^^^ (x - mv))))]) m175_49 rfl rfl ?_
  refine g_iload_n m175_50 rfl ?_
  refine g_aload_n m175_51 rfl ?_
  refine g_aload_n m175_52 rfl ?_
  refine h_gfI (k := 57) (p := 89) m175_53 rfl (t_57 _ _) rfl ((lgR_o (by decide) [50, 13, 11, 20, 10, 12]).trans hk) ?_
  refine g_iconst m175_56 ?_
  refine h_cv (k := 57) (p := 89) (args := [.int (4), .int (2)]) (rest := [.int (((((x + nv) * (3 : Int32)) * (2 : Int32)) ^^^ (x - mv)))]) m175_57 cn_172 (Nat.le_of_ble_eq_true rfl) rfl rfl rfl (t_57 _ _) (Nat.le_of_ble_eq_true rfl) ?_
  refine c_mv_4_0_4 (m := lgR m b [50, 13, 11, 20, 10, 12]) (b := b + 6) (nv := nv) (mv := mv) (lgR_4 hb [50, 13, 11, 20, 10, 12]) (by omega) ((lgR_o (by decide) [50, 13, 11, 20, 10, 12]).trans hk) ((lgR_o (by decide) [50, 13, 11, 20, 10, 12]).trans h0) ((lgR_o (by decide) [50, 13, 11, 20, 10, 12]).trans h1) ?_
  rw [show lgR (lgR m b [50, 13, 11, 20, 10, 12]) (b + 6) [20, 10] = lgR m b [50, 13, 11, 20, 10, 12, 20, 10] from lgR_a [50, 13, 11, 20, 10, 12] [20, 10]]
  refine gwr ?_
  refine g_isub m175_60 rfl ?_
  refine g_iret m175_61 rt_175 ?_
  exact hQ
set_option maxRecDepth 20000 in
set_option maxHeartbeats 40000000 in
theorem c_mv_5_0_0 {b : Nat} {x nv mv : Int32} (hb : m 57 21 = nI b) (hb40 : b + 1 ≤ 40) (hk : m 57 22 = nI 5) (h0 : m 57 23 = nv) (h1 : m 57 24 = mv) (hQ : Q (some (.int (x + nv))) (H (lgR m b [10]) ln N)) : WP xs (d + 2) 172 0 0 [.ref (89), .int (0), .int (x)] (H m ln N) Q := by
  refine wp_x mx_172 (L := [some (.ref (89)), some (.int (0)), some (.int (x))]) (Nat.le_of_ble_eq_true rfl) rfl ?_
  refine g_iload_n m172_0 rfl ?_
  refine h_if_neT (xi := 0) (zi := 0) m172_1 rfl rfl (by decide) ?_
  refine g_aload_n m172_4 rfl ?_
  refine g_bipush m172_5 ?_
  refine h_cv (k := 57) (p := 89) (args := [.int (10)]) (rest := []) m172_7 cn_171 (Nat.le_of_ble_eq_true rfl) rfl rfl rfl (t_57 _ _) (Nat.le_of_ble_eq_true rfl) ?_
  refine c_ran (b := b) (c := 10) hb (by omega) ?_
  refine gwr0 ?_
  refine g_iload_n m172_10 rfl ?_
  refine g_aload_n m172_11 rfl ?_
  refine h_gfI (k := 57) (p := 89) m172_12 rfl (t_57 _ _) rfl ((lgR_o (by decide) [10]).trans h0) ?_
  refine g_iadd m172_15 rfl ?_
  refine g_iret m172_16 rt_172 ?_
  exact hQ
set_option maxRecDepth 20000 in
set_option maxHeartbeats 40000000 in
theorem c_mv_5_0_2 {b : Nat} {x nv mv : Int32} (hb : m 57 21 = nI b) (hb40 : b + 1 ≤ 40) (hk : m 57 22 = nI 5) (h0 : m 57 23 = nv) (h1 : m 57 24 = mv) (hQ : Q (some (.int (x + nv))) (H (lgR m b [10]) ln N)) : WP xs (d + 3) 172 0 0 [.ref (89), .int (2), .int (x)] (H m ln N) Q := by
  refine wp_x mx_172 (L := [some (.ref (89)), some (.int (2)), some (.int (x))]) (Nat.le_of_ble_eq_true rfl) rfl ?_
  refine g_iload_n m172_0 rfl ?_
  refine h_if_neF (xi := 2) (zi := 0) m172_1 rfl rfl (by decide) ?_
  refine g_iload_n m172_17 rfl ?_
  refine g_iconst m172_18 ?_
  refine h_ic_neF (xi := 2) (zi := 1) m172_19 rfl rfl (by decide) ?_
  refine g_aload_n m172_37 rfl ?_
  refine g_iload_n m172_38 rfl ?_
  refine g_cs (args := [.int (2)]) (rest := [.ref (89)]) 0 (Or.inl rfl) m172_39 (Nat.le_of_ble_eq_true rfl) rfl rfl (Nat.le_of_ble_eq_true rfl) ?_
  refine c_above (k := 2) (by decide) ?_
  refine gwr ?_
  refine g_iload_n m172_42 rfl ?_
  refine h_cv (k := 57) (p := 89) (args := [.int (0), .int (x)]) (rest := []) m172_43 cn_172 (Nat.le_of_ble_eq_true rfl) rfl rfl rfl (t_57 _ _) (Nat.le_of_ble_eq_true rfl) ?_
  refine c_mv_5_0_0 (m := lgR m b []) (b := b + 0) (nv := nv) (mv := mv) (lgR_4 hb []) (by omega) ((lgR_o (by decide) []).trans hk) ((lgR_o (by decide) []).trans h0) ((lgR_o (by decide) []).trans h1) ?_
  rw [show lgR (lgR m b []) (b + 0) [10] = lgR m b [10] from lgR_a [] [10]]
  refine gwr ?_
  refine g_iret m172_46 rt_172 ?_
  exact hQ
set_option maxRecDepth 20000 in
set_option maxHeartbeats 40000000 in
theorem c_mv_5_0_5 {b : Nat} {x nv mv : Int32} (hb : m 57 21 = nI b) (hb40 : b + 1 ≤ 40) (hk : m 57 22 = nI 5) (h0 : m 57 23 = nv) (h1 : m 57 24 = mv) (hQ : Q (some (.int (x + nv))) (H (lgR m b [10]) ln N)) : WP xs (d + 4) 172 0 0 [.ref (89), .int (5), .int (x)] (H m ln N) Q := by
  refine wp_x mx_172 (L := [some (.ref (89)), some (.int (5)), some (.int (x))]) (Nat.le_of_ble_eq_true rfl) rfl ?_
  refine g_iload_n m172_0 rfl ?_
  refine h_if_neF (xi := 5) (zi := 0) m172_1 rfl rfl (by decide) ?_
  refine g_iload_n m172_17 rfl ?_
  refine g_iconst m172_18 ?_
  refine h_ic_neF (xi := 5) (zi := 1) m172_19 rfl rfl (by decide) ?_
  refine g_aload_n m172_37 rfl ?_
  refine g_iload_n m172_38 rfl ?_
  refine g_cs (args := [.int (5)]) (rest := [.ref (89)]) 0 (Or.inl rfl) m172_39 (Nat.le_of_ble_eq_true rfl) rfl rfl (Nat.le_of_ble_eq_true rfl) ?_
  refine c_above (k := 5) (by decide) ?_
  refine gwr ?_
  refine g_iload_n m172_42 rfl ?_
  refine h_cv (k := 57) (p := 89) (args := [.int (2), .int (x)]) (rest := []) m172_43 cn_172 (Nat.le_of_ble_eq_true rfl) rfl rfl rfl (t_57 _ _) (Nat.le_of_ble_eq_true rfl) ?_
  refine c_mv_5_0_2 (m := lgR m b []) (b := b + 0) (nv := nv) (mv := mv) (lgR_4 hb []) (by omega) ((lgR_o (by decide) []).trans hk) ((lgR_o (by decide) []).trans h0) ((lgR_o (by decide) []).trans h1) ?_
  rw [show lgR (lgR m b []) (b + 0) [10] = lgR m b [10] from lgR_a [] [10]]
  refine gwr ?_
  refine g_iret m172_46 rt_172 ?_
  exact hQ
set_option maxRecDepth 20000 in
set_option maxHeartbeats 40000000 in
theorem c_mv_5_1_0 {b : Nat} {x nv mv : Int32} (hb : m 57 21 = nI b) (hb40 : b + 2 ≤ 40) (hk : m 57 22 = nI 5) (h0 : m 57 23 = nv) (h1 : m 57 24 = mv) (hQ : Q (some (.int ((x + nv) * (2 : Int32)))) (H (lgR m b [11, 10]) ln N)) : WP xs (d + 5) 174 0 0 [.ref (89), .int (0), .int (x)] (H m ln N) Q := by
  refine wp_x mx_174 (L := [some (.ref (89)), some (.int (0)), some (.int (x)), none]) (Nat.le_of_ble_eq_true rfl) rfl ?_
  refine g_iload_n m174_0 rfl ?_
  refine h_if_neT (xi := 0) (zi := 0) m174_1 rfl rfl (by decide) ?_
  refine g_aload_n m174_4 rfl ?_
  refine g_bipush m174_5 ?_
  refine h_cv (k := 57) (p := 89) (args := [.int (11)]) (rest := []) m174_7 cn_171 (Nat.le_of_ble_eq_true rfl) rfl rfl rfl (t_57 _ _) (Nat.le_of_ble_eq_true rfl) ?_
  refine c_ran (b := b) (c := 11) hb (by omega) ?_
  refine gwr0 ?_
  refine g_aload_n m174_10 rfl ?_
  refine g_aload_n m174_11 rfl ?_
  refine h_gfI (k := 57) (p := 89) m174_12 rfl (t_57 _ _) rfl ((lgR_o (by decide) [11]).trans hk) ?_
  refine g_iload_n m174_15 rfl ?_
  refine h_cv (k := 57) (p := 89) (args := [.int (5), .int (x)]) (rest := []) m174_16 cn_172 (Nat.le_of_ble_eq_true rfl) rfl rfl rfl (t_57 _ _) (Nat.le_of_ble_eq_true rfl) ?_
  refine c_mv_5_0_5 (m := lgR m b [11]) (b := b + 1) (nv := nv) (mv := mv) (lgR_4 hb [11]) (by omega) ((lgR_o (by decide) [11]).trans hk) ((lgR_o (by decide) [11]).trans h0) ((lgR_o (by decide) [11]).trans h1) ?_
  rw [show lgR (lgR m b [11]) (b + 1) [10] = lgR m b [11, 10] from lgR_a [11] [10]]
  refine gwr ?_
  refine g_iconst m174_19 ?_
  refine g_imul m174_20 rfl ?_
  refine g_iret m174_21 rt_174 ?_
  exact hQ
set_option maxRecDepth 20000 in
set_option maxHeartbeats 40000000 in
theorem c_mv_5_2_0 {b : Nat} {x nv mv : Int32} (hb : m 57 21 = nI b) (hb40 : b + 1 ≤ 40) (hk : m 57 22 = nI 5) (h0 : m 57 23 = nv) (h1 : m 57 24 = mv) (hQ : Q (some (.int (x - mv))) (H (lgR m b [12]) ln N)) : WP xs (d + 2) 173 0 0 [.ref (89), .int (0), .int (x)] (H m ln N) Q := by
  refine wp_x mx_173 (L := [some (.ref (89)), some (.int (0)), some (.int (x))]) (Nat.le_of_ble_eq_true rfl) rfl ?_
  refine g_iload_n m173_0 rfl ?_
  refine h_if_neT (xi := 0) (zi := 0) m173_1 rfl rfl (by decide) ?_
  refine g_aload_n m173_4 rfl ?_
  refine g_bipush m173_5 ?_
  refine h_cv (k := 57) (p := 89) (args := [.int (12)]) (rest := []) m173_7 cn_171 (Nat.le_of_ble_eq_true rfl) rfl rfl rfl (t_57 _ _) (Nat.le_of_ble_eq_true rfl) ?_
  refine c_ran (b := b) (c := 12) hb (by omega) ?_
  refine gwr0 ?_
  refine g_iload_n m173_10 rfl ?_
  refine g_aload_n m173_11 rfl ?_
  refine h_gfI (k := 57) (p := 89) m173_12 rfl (t_57 _ _) rfl ((lgR_o (by decide) [12]).trans h1) ?_
  refine g_isub m173_15 rfl ?_
  refine g_iret m173_16 rt_173 ?_
  exact hQ
set_option maxRecDepth 20000 in
set_option maxHeartbeats 40000000 in
theorem c_mv_5_2_2 {b : Nat} {x nv mv : Int32} (hb : m 57 21 = nI b) (hb40 : b + 1 ≤ 40) (hk : m 57 22 = nI 5) (h0 : m 57 23 = nv) (h1 : m 57 24 = mv) (hQ : Q (some (.int (x - mv))) (H (lgR m b [12]) ln N)) : WP xs (d + 3) 173 0 0 [.ref (89), .int (2), .int (x)] (H m ln N) Q := by
  refine wp_x mx_173 (L := [some (.ref (89)), some (.int (2)), some (.int (x))]) (Nat.le_of_ble_eq_true rfl) rfl ?_
  refine g_iload_n m173_0 rfl ?_
  refine h_if_neF (xi := 2) (zi := 0) m173_1 rfl rfl (by decide) ?_
  refine g_iload_n m173_17 rfl ?_
  refine g_iconst m173_18 ?_
  refine h_ic_neF (xi := 2) (zi := 3) m173_19 rfl rfl (by decide) ?_
  refine g_iload_n m173_36 rfl ?_
  refine g_bipush m173_37 ?_
  refine h_ic_neF (xi := 2) (zi := 6) m173_39 rfl rfl (by decide) ?_
  refine g_aload_n m173_60 rfl ?_
  refine g_iload_n m173_61 rfl ?_
  refine g_cs (args := [.int (2)]) (rest := [.ref (89)]) 0 (Or.inl rfl) m173_62 (Nat.le_of_ble_eq_true rfl) rfl rfl (Nat.le_of_ble_eq_true rfl) ?_
  refine c_above (k := 2) (by decide) ?_
  refine gwr ?_
  refine g_iload_n m173_65 rfl ?_
  refine h_cv (k := 57) (p := 89) (args := [.int (0), .int (x)]) (rest := []) m173_66 cn_173 (Nat.le_of_ble_eq_true rfl) rfl rfl rfl (t_57 _ _) (Nat.le_of_ble_eq_true rfl) ?_
  refine c_mv_5_2_0 (m := lgR m b []) (b := b + 0) (nv := nv) (mv := mv) (lgR_4 hb []) (by omega) ((lgR_o (by decide) []).trans hk) ((lgR_o (by decide) []).trans h0) ((lgR_o (by decide) []).trans h1) ?_
  rw [show lgR (lgR m b []) (b + 0) [12] = lgR m b [12] from lgR_a [] [12]]
  refine gwr ?_
  refine g_iret m173_69 rt_173 ?_
  exact hQ
set_option maxRecDepth 20000 in
set_option maxHeartbeats 40000000 in
theorem c_mv_5_2_5 {b : Nat} {x nv mv : Int32} (hb : m 57 21 = nI b) (hb40 : b + 1 ≤ 40) (hk : m 57 22 = nI 5) (h0 : m 57 23 = nv) (h1 : m 57 24 = mv) (hQ : Q (some (.int (x - mv))) (H (lgR m b [12]) ln N)) : WP xs (d + 4) 173 0 0 [.ref (89), .int (5), .int (x)] (H m ln N) Q := by
  refine wp_x mx_173 (L := [some (.ref (89)), some (.int (5)), some (.int (x))]) (Nat.le_of_ble_eq_true rfl) rfl ?_
  refine g_iload_n m173_0 rfl ?_
  refine h_if_neF (xi := 5) (zi := 0) m173_1 rfl rfl (by decide) ?_
  refine g_iload_n m173_17 rfl ?_
  refine g_iconst m173_18 ?_
  refine h_ic_neF (xi := 5) (zi := 3) m173_19 rfl rfl (by decide) ?_
  refine g_iload_n m173_36 rfl ?_
  refine g_bipush m173_37 ?_
  refine h_ic_neF (xi := 5) (zi := 6) m173_39 rfl rfl (by decide) ?_
  refine g_aload_n m173_60 rfl ?_
  refine g_iload_n m173_61 rfl ?_
  refine g_cs (args := [.int (5)]) (rest := [.ref (89)]) 0 (Or.inl rfl) m173_62 (Nat.le_of_ble_eq_true rfl) rfl rfl (Nat.le_of_ble_eq_true rfl) ?_
  refine c_above (k := 5) (by decide) ?_
  refine gwr ?_
  refine g_iload_n m173_65 rfl ?_
  refine h_cv (k := 57) (p := 89) (args := [.int (2), .int (x)]) (rest := []) m173_66 cn_173 (Nat.le_of_ble_eq_true rfl) rfl rfl rfl (t_57 _ _) (Nat.le_of_ble_eq_true rfl) ?_
  refine c_mv_5_2_2 (m := lgR m b []) (b := b + 0) (nv := nv) (mv := mv) (lgR_4 hb []) (by omega) ((lgR_o (by decide) []).trans hk) ((lgR_o (by decide) []).trans h0) ((lgR_o (by decide) []).trans h1) ?_
  rw [show lgR (lgR m b []) (b + 0) [12] = lgR m b [12] from lgR_a [] [12]]
  refine gwr ?_
  refine g_iret m173_69 rt_173 ?_
  exact hQ
set_option maxRecDepth 20000 in
set_option maxHeartbeats 40000000 in
theorem c_mv_5_1_2 {b : Nat} {x nv mv : Int32} (hb : m 57 21 = nI b) (hb40 : b + 4 ≤ 40) (hk : m 57 22 = nI 5) (h0 : m 57 23 = nv) (h1 : m 57 24 = mv) (hQ : Q (some (.int (((x + nv) * (2 : Int32)) - ((1 : Int32) - mv)))) (H (lgR m b [30, 11, 10, 12]) ln N)) : WP xs (d + 6) 174 0 0 [.ref (89), .int (2), .int (x)] (H m ln N) Q := by
  refine wp_x mx_174 (L := [some (.ref (89)), some (.int (2)), some (.int (x)), none]) (Nat.le_of_ble_eq_true rfl) rfl ?_
  refine g_iload_n m174_0 rfl ?_
  refine h_if_neF (xi := 2) (zi := 0) m174_1 rfl rfl (by decide) ?_
  refine g_iload_n m174_22 rfl ?_
  refine g_iconst m174_23 ?_
  refine h_ic_neT (xi := 2) (zi := 2) m174_24 rfl rfl (by decide) ?_
  refine g_aload_n m174_27 rfl ?_
  refine g_bipush m174_28 ?_
  refine h_cv (k := 57) (p := 89) (args := [.int (30)]) (rest := []) m174_30 cn_171 (Nat.le_of_ble_eq_true rfl) rfl rfl rfl (t_57 _ _) (Nat.le_of_ble_eq_true rfl) ?_
  refine c_ran (b := b) (c := 30) hb (by omega) ?_
  refine gwr0 ?_
  refine g_aload_n m174_33 rfl ?_
  refine g_iconst m174_34 ?_
  refine g_iload_n m174_35 rfl ?_
  refine h_cv (k := 57) (p := 89) (args := [.int (0), .int (x)]) (rest := []) m174_36 cn_174 (Nat.le_of_ble_eq_true rfl) rfl rfl rfl (t_57 _ _) (Nat.le_of_ble_eq_true rfl) ?_
  refine c_mv_5_1_0 (m := lgR m b [30]) (b := b + 1) (nv := nv) (mv := mv) (lgR_4 hb [30]) (by omega) ((lgR_o (by decide) [30]).trans hk) ((lgR_o (by decide) [30]).trans h0) ((lgR_o (by decide) [30]).trans h1) ?_
  rw [show lgR (lgR m b [30]) (b + 1) [11, 10] = lgR m b [30, 11, 10] from lgR_a [30] [11, 10]]
  refine gwr ?_
  refine g_istore_n (L2 := [some (.ref (89)), some (.int (2)), some (.int (x)), some (.int (((x + nv) * (2 : Int32))))]) m174_39 rfl rfl ?_
  refine g_iload_n m174_40 rfl ?_
  refine g_aload_n m174_41 rfl ?_
  refine g_aload_n m174_42 rfl ?_
  refine h_gfI (k := 57) (p := 89) m174_43 rfl (t_57 _ _) rfl ((lgR_o (by decide) [30, 11, 10]).trans hk) ?_
  refine g_iconst m174_46 ?_
  refine h_cv (k := 57) (p := 89) (args := [.int (5), .int (1)]) (rest := [.int (((x + nv) * (2 : Int32)))]) m174_47 cn_173 (Nat.le_of_ble_eq_true rfl) rfl rfl rfl (t_57 _ _) (Nat.le_of_ble_eq_true rfl) ?_
  refine c_mv_5_2_5 (m := lgR m b [30, 11, 10]) (b := b + 3) (nv := nv) (mv := mv) (lgR_4 hb [30, 11, 10]) (by omega) ((lgR_o (by decide) [30, 11, 10]).trans hk) ((lgR_o (by decide) [30, 11, 10]).trans h0) ((lgR_o (by decide) [30, 11, 10]).trans h1) ?_
  rw [show lgR (lgR m b [30, 11, 10]) (b + 3) [12] = lgR m b [30, 11, 10, 12] from lgR_a [30, 11, 10] [12]]
  refine gwr ?_
  refine g_isub m174_50 rfl ?_
  refine g_iret m174_51 rt_174 ?_
  exact hQ
set_option maxRecDepth 20000 in
set_option maxHeartbeats 40000000 in
theorem c_mv_5_1_5 {b : Nat} {x nv mv : Int32} (hb : m 57 21 = nI b) (hb40 : b + 5 ≤ 40) (hk : m 57 22 = nI 5) (h0 : m 57 23 = nv) (h1 : m 57 24 = mv) (hQ : Q (some (.int ((((x + (1 : Int32)) + nv) * (2 : Int32)) - ((1 : Int32) - mv)))) (H (lgR m b [60, 30, 11, 10, 12]) ln N)) : WP xs (d + 7) 174 0 0 [.ref (89), .int (5), .int (x)] (H m ln N) Q := by
  refine wp_x mx_174 (L := [some (.ref (89)), some (.int (5)), some (.int (x)), none]) (Nat.le_of_ble_eq_true rfl) rfl ?_
  refine g_iload_n m174_0 rfl ?_
  refine h_if_neF (xi := 5) (zi := 0) m174_1 rfl rfl (by decide) ?_
  refine g_iload_n m174_22 rfl ?_
  refine g_iconst m174_23 ?_
  refine h_ic_neF (xi := 5) (zi := 2) m174_24 rfl rfl (by decide) ?_
  refine g_iload_n m174_52 rfl ?_
  refine g_iconst m174_53 ?_
  refine h_ic_neT (xi := 5) (zi := 5) m174_54 rfl rfl (by decide) ?_
  refine g_aload_n m174_57 rfl ?_
  refine g_bipush m174_58 ?_
  refine h_cv (k := 57) (p := 89) (args := [.int (60)]) (rest := []) m174_60 cn_171 (Nat.le_of_ble_eq_true rfl) rfl rfl rfl (t_57 _ _) (Nat.le_of_ble_eq_true rfl) ?_
  refine c_ran (b := b) (c := 60) hb (by omega) ?_
  refine gwr0 ?_
  refine g_aload_n m174_63 rfl ?_
  refine g_iconst m174_64 ?_
  refine g_iload_n m174_65 rfl ?_
  refine g_iconst m174_66 ?_
  refine g_iadd m174_67 rfl ?_
  refine h_cv (k := 57) (p := 89) (args := [.int (2), .int ((x + (1 : Int32)))]) (rest := []) m174_68 cn_174 (Nat.le_of_ble_eq_true rfl) rfl rfl rfl (t_57 _ _) (Nat.le_of_ble_eq_true rfl) ?_
  refine c_mv_5_1_2 (m := lgR m b [60]) (b := b + 1) (nv := nv) (mv := mv) (lgR_4 hb [60]) (by omega) ((lgR_o (by decide) [60]).trans hk) ((lgR_o (by decide) [60]).trans h0) ((lgR_o (by decide) [60]).trans h1) ?_
  rw [show lgR (lgR m b [60]) (b + 1) [30, 11, 10, 12] = lgR m b [60, 30, 11, 10, 12] from lgR_a [60] [30, 11, 10, 12]]
  refine gwr ?_
  refine g_iret m174_71 rt_174 ?_
  exact hQ
set_option maxRecDepth 20000 in
set_option maxHeartbeats 40000000 in
theorem c_mv_5_3_0 {b : Nat} {x nv mv : Int32} (hb : m 57 21 = nI b) (hb40 : b + 7 ≤ 40) (hk : m 57 22 = nI 5) (h0 : m 57 23 = nv) (h1 : m 57 24 = mv) (hQ : Q (some (.int (((((x + (1 : Int32)) + nv) * (2 : Int32)) - ((1 : Int32) - mv)) ^^^ (x - mv)))) (H (lgR m b [13, 60, 30, 11, 10, 12, 12]) ln N)) : WP xs (d + 8) 175 0 0 [.ref (89), .int (0), .int (x)] (H m ln N) Q := by
  refine wp_x mx_175 (L := [some (.ref (89)), some (.int (0)), some (.int (x)), none]) (Nat.le_of_ble_eq_true rfl) rfl ?_
  refine g_iload_n m175_0 rfl ?_
  refine h_if_neT (xi := 0) (zi := 0) m175_1 rfl rfl (by decide) ?_
  refine g_aload_n m175_4 rfl ?_
  refine g_bipush m175_5 ?_
  refine h_cv (k := 57) (p := 89) (args := [.int (13)]) (rest := []) m175_7 cn_171 (Nat.le_of_ble_eq_true rfl) rfl rfl rfl (t_57 _ _) (Nat.le_of_ble_eq_true rfl) ?_
  refine c_ran (b := b) (c := 13) hb (by omega) ?_
  refine gwr0 ?_
  refine g_aload_n m175_10 rfl ?_
  refine g_aload_n m175_11 rfl ?_
  refine h_gfI (k := 57) (p := 89) m175_12 rfl (t_57 _ _) rfl ((lgR_o (by decide) [13]).trans hk) ?_
  refine g_iload_n m175_15 rfl ?_
  refine h_cv (k := 57) (p := 89) (args := [.int (5), .int (x)]) (rest := []) m175_16 cn_174 (Nat.le_of_ble_eq_true rfl) rfl rfl rfl (t_57 _ _) (Nat.le_of_ble_eq_true rfl) ?_
  refine c_mv_5_1_5 (m := lgR m b [13]) (b := b + 1) (nv := nv) (mv := mv) (lgR_4 hb [13]) (by omega) ((lgR_o (by decide) [13]).trans hk) ((lgR_o (by decide) [13]).trans h0) ((lgR_o (by decide) [13]).trans h1) ?_
  rw [show lgR (lgR m b [13]) (b + 1) [60, 30, 11, 10, 12] = lgR m b [13, 60, 30, 11, 10, 12] from lgR_a [13] [60, 30, 11, 10, 12]]
  refine gwr ?_
  refine g_istore_n (L2 := [some (.ref (89)), some (.int (0)), some (.int (x)), some (.int (((((x + (1 : Int32)) + nv) * (2 : Int32)) - ((1 : Int32) - mv))))]) m175_19 rfl rfl ?_
  refine g_iload_n m175_20 rfl ?_
  refine g_aload_n m175_21 rfl ?_
  refine g_aload_n m175_22 rfl ?_
  refine h_gfI (k := 57) (p := 89) m175_23 rfl (t_57 _ _) rfl ((lgR_o (by decide) [13, 60, 30, 11, 10, 12]).trans hk) ?_
  refine g_iload_n m175_26 rfl ?_
  refine h_cv (k := 57) (p := 89) (args := [.int (5), .int (x)]) (rest := [.int (((((x + (1 : Int32)) + nv) * (2 : Int32)) - ((1 : Int32) - mv)))]) m175_27 cn_173 (Nat.le_of_ble_eq_true rfl) rfl rfl rfl (t_57 _ _) (Nat.le_of_ble_eq_true rfl) ?_
  refine c_mv_5_2_5 (m := lgR m b [13, 60, 30, 11, 10, 12]) (b := b + 6) (nv := nv) (mv := mv) (lgR_4 hb [13, 60, 30, 11, 10, 12]) (by omega) ((lgR_o (by decide) [13, 60, 30, 11, 10, 12]).trans hk) ((lgR_o (by decide) [13, 60, 30, 11, 10, 12]).trans h0) ((lgR_o (by decide) [13, 60, 30, 11, 10, 12]).trans h1) ?_
  rw [show lgR (lgR m b [13, 60, 30, 11, 10, 12]) (b + 6) [12] = lgR m b [13, 60, 30, 11, 10, 12, 12] from lgR_a [13, 60, 30, 11, 10, 12] [12]]
  refine gwr ?_
  refine g_ixor m175_30 rfl ?_
  refine g_iret m175_31 rt_175 ?_
  exact hQ
set_option maxRecDepth 20000 in
set_option maxHeartbeats 40000000 in
theorem c_mv_5_3_2 {b : Nat} {x nv mv : Int32} (hb : m 57 21 = nI b) (hb40 : b + 7 ≤ 40) (hk : m 57 22 = nI 5) (h0 : m 57 23 = nv) (h1 : m 57 24 = mv) (hQ : Q (some (.int (((((x + (1 : Int32)) + nv) * (2 : Int32)) - ((1 : Int32) - mv)) ^^^ (x - mv)))) (H (lgR m b [13, 60, 30, 11, 10, 12, 12]) ln N)) : WP xs (d + 9) 175 0 0 [.ref (89), .int (2), .int (x)] (H m ln N) Q := by
  refine wp_x mx_175 (L := [some (.ref (89)), some (.int (2)), some (.int (x)), none]) (Nat.le_of_ble_eq_true rfl) rfl ?_
  refine g_iload_n m175_0 rfl ?_
  refine h_if_neF (xi := 2) (zi := 0) m175_1 rfl rfl (by decide) ?_
  refine g_iload_n m175_32 rfl ?_
  refine g_iconst m175_33 ?_
  refine h_ic_neF (xi := 2) (zi := 4) m175_34 rfl rfl (by decide) ?_
  refine g_iload_n m175_62 rfl ?_
  refine g_bipush m175_63 ?_
  refine h_ic_neF (xi := 2) (zi := 6) m175_65 rfl rfl (by decide) ?_
  refine g_aload_n m175_93 rfl ?_
  refine g_iload_n m175_94 rfl ?_
  refine g_cs (args := [.int (2)]) (rest := [.ref (89)]) 0 (Or.inl rfl) m175_95 (Nat.le_of_ble_eq_true rfl) rfl rfl (Nat.le_of_ble_eq_true rfl) ?_
  refine c_above (k := 2) (by decide) ?_
  refine gwr ?_
  refine g_iload_n m175_98 rfl ?_
  refine h_cv (k := 57) (p := 89) (args := [.int (0), .int (x)]) (rest := []) m175_99 cn_175 (Nat.le_of_ble_eq_true rfl) rfl rfl rfl (t_57 _ _) (Nat.le_of_ble_eq_true rfl) ?_
  refine c_mv_5_3_0 (m := lgR m b []) (b := b + 0) (nv := nv) (mv := mv) (lgR_4 hb []) (by omega) ((lgR_o (by decide) []).trans hk) ((lgR_o (by decide) []).trans h0) ((lgR_o (by decide) []).trans h1) ?_
  rw [show lgR (lgR m b []) (b + 0) [13, 60, 30, 11, 10, 12, 12] = lgR m b [13, 60, 30, 11, 10, 12, 12] from lgR_a [] [13, 60, 30, 11, 10, 12, 12]]
  refine gwr ?_
  refine g_iret m175_102 rt_175 ?_
  exact hQ
set_option maxRecDepth 20000 in
set_option maxHeartbeats 40000000 in
theorem c_mv_5_3_5 {b : Nat} {x nv mv : Int32} (hb : m 57 21 = nI b) (hb40 : b + 7 ≤ 40) (hk : m 57 22 = nI 5) (h0 : m 57 23 = nv) (h1 : m 57 24 = mv) (hQ : Q (some (.int (((((x + (1 : Int32)) + nv) * (2 : Int32)) - ((1 : Int32) - mv)) ^^^ (x - mv)))) (H (lgR m b [13, 60, 30, 11, 10, 12, 12]) ln N)) : WP xs (d + 10) 175 0 0 [.ref (89), .int (5), .int (x)] (H m ln N) Q := by
  refine wp_x mx_175 (L := [some (.ref (89)), some (.int (5)), some (.int (x)), none]) (Nat.le_of_ble_eq_true rfl) rfl ?_
  refine g_iload_n m175_0 rfl ?_
  refine h_if_neF (xi := 5) (zi := 0) m175_1 rfl rfl (by decide) ?_
  refine g_iload_n m175_32 rfl ?_
  refine g_iconst m175_33 ?_
  refine h_ic_neF (xi := 5) (zi := 4) m175_34 rfl rfl (by decide) ?_
  refine g_iload_n m175_62 rfl ?_
  refine g_bipush m175_63 ?_
  refine h_ic_neF (xi := 5) (zi := 6) m175_65 rfl rfl (by decide) ?_
  refine g_aload_n m175_93 rfl ?_
  refine g_iload_n m175_94 rfl ?_
  refine g_cs (args := [.int (5)]) (rest := [.ref (89)]) 0 (Or.inl rfl) m175_95 (Nat.le_of_ble_eq_true rfl) rfl rfl (Nat.le_of_ble_eq_true rfl) ?_
  refine c_above (k := 5) (by decide) ?_
  refine gwr ?_
  refine g_iload_n m175_98 rfl ?_
  refine h_cv (k := 57) (p := 89) (args := [.int (2), .int (x)]) (rest := []) m175_99 cn_175 (Nat.le_of_ble_eq_true rfl) rfl rfl rfl (t_57 _ _) (Nat.le_of_ble_eq_true rfl) ?_
  refine c_mv_5_3_2 (m := lgR m b []) (b := b + 0) (nv := nv) (mv := mv) (lgR_4 hb []) (by omega) ((lgR_o (by decide) []).trans hk) ((lgR_o (by decide) []).trans h0) ((lgR_o (by decide) []).trans h1) ?_
  rw [show lgR (lgR m b []) (b + 0) [13, 60, 30, 11, 10, 12, 12] = lgR m b [13, 60, 30, 11, 10, 12, 12] from lgR_a [] [13, 60, 30, 11, 10, 12, 12]]
  refine gwr ?_
  refine g_iret m175_102 rt_175 ?_
  exact hQ
set_option maxRecDepth 20000 in
set_option maxHeartbeats 40000000 in
theorem c_mv_6_0_0 {b : Nat} {x nv mv : Int32} (hb : m 57 21 = nI b) (hb40 : b + 1 ≤ 40) (hk : m 57 22 = nI 6) (h0 : m 57 23 = nv) (h1 : m 57 24 = mv) (hQ : Q (some (.int (x + nv))) (H (lgR m b [10]) ln N)) : WP xs (d + 2) 172 0 0 [.ref (89), .int (0), .int (x)] (H m ln N) Q := by
  refine wp_x mx_172 (L := [some (.ref (89)), some (.int (0)), some (.int (x))]) (Nat.le_of_ble_eq_true rfl) rfl ?_
  refine g_iload_n m172_0 rfl ?_
  refine h_if_neT (xi := 0) (zi := 0) m172_1 rfl rfl (by decide) ?_
  refine g_aload_n m172_4 rfl ?_
  refine g_bipush m172_5 ?_
  refine h_cv (k := 57) (p := 89) (args := [.int (10)]) (rest := []) m172_7 cn_171 (Nat.le_of_ble_eq_true rfl) rfl rfl rfl (t_57 _ _) (Nat.le_of_ble_eq_true rfl) ?_
  refine c_ran (b := b) (c := 10) hb (by omega) ?_
  refine gwr0 ?_
  refine g_iload_n m172_10 rfl ?_
  refine g_aload_n m172_11 rfl ?_
  refine h_gfI (k := 57) (p := 89) m172_12 rfl (t_57 _ _) rfl ((lgR_o (by decide) [10]).trans h0) ?_
  refine g_iadd m172_15 rfl ?_
  refine g_iret m172_16 rt_172 ?_
  exact hQ
set_option maxRecDepth 20000 in
set_option maxHeartbeats 40000000 in
theorem c_mv_6_0_3 {b : Nat} {x nv mv : Int32} (hb : m 57 21 = nI b) (hb40 : b + 1 ≤ 40) (hk : m 57 22 = nI 6) (h0 : m 57 23 = nv) (h1 : m 57 24 = mv) (hQ : Q (some (.int (x + nv))) (H (lgR m b [10]) ln N)) : WP xs (d + 3) 172 0 0 [.ref (89), .int (3), .int (x)] (H m ln N) Q := by
  refine wp_x mx_172 (L := [some (.ref (89)), some (.int (3)), some (.int (x))]) (Nat.le_of_ble_eq_true rfl) rfl ?_
  refine g_iload_n m172_0 rfl ?_
  refine h_if_neF (xi := 3) (zi := 0) m172_1 rfl rfl (by decide) ?_
  refine g_iload_n m172_17 rfl ?_
  refine g_iconst m172_18 ?_
  refine h_ic_neF (xi := 3) (zi := 1) m172_19 rfl rfl (by decide) ?_
  refine g_aload_n m172_37 rfl ?_
  refine g_iload_n m172_38 rfl ?_
  refine g_cs (args := [.int (3)]) (rest := [.ref (89)]) 0 (Or.inl rfl) m172_39 (Nat.le_of_ble_eq_true rfl) rfl rfl (Nat.le_of_ble_eq_true rfl) ?_
  refine c_above (k := 3) (by decide) ?_
  refine gwr ?_
  refine g_iload_n m172_42 rfl ?_
  refine h_cv (k := 57) (p := 89) (args := [.int (0), .int (x)]) (rest := []) m172_43 cn_172 (Nat.le_of_ble_eq_true rfl) rfl rfl rfl (t_57 _ _) (Nat.le_of_ble_eq_true rfl) ?_
  refine c_mv_6_0_0 (m := lgR m b []) (b := b + 0) (nv := nv) (mv := mv) (lgR_4 hb []) (by omega) ((lgR_o (by decide) []).trans hk) ((lgR_o (by decide) []).trans h0) ((lgR_o (by decide) []).trans h1) ?_
  rw [show lgR (lgR m b []) (b + 0) [10] = lgR m b [10] from lgR_a [] [10]]
  refine gwr ?_
  refine g_iret m172_46 rt_172 ?_
  exact hQ
set_option maxRecDepth 20000 in
set_option maxHeartbeats 40000000 in
theorem c_mv_6_0_6 {b : Nat} {x nv mv : Int32} (hb : m 57 21 = nI b) (hb40 : b + 1 ≤ 40) (hk : m 57 22 = nI 6) (h0 : m 57 23 = nv) (h1 : m 57 24 = mv) (hQ : Q (some (.int (x + nv))) (H (lgR m b [10]) ln N)) : WP xs (d + 4) 172 0 0 [.ref (89), .int (6), .int (x)] (H m ln N) Q := by
  refine wp_x mx_172 (L := [some (.ref (89)), some (.int (6)), some (.int (x))]) (Nat.le_of_ble_eq_true rfl) rfl ?_
  refine g_iload_n m172_0 rfl ?_
  refine h_if_neF (xi := 6) (zi := 0) m172_1 rfl rfl (by decide) ?_
  refine g_iload_n m172_17 rfl ?_
  refine g_iconst m172_18 ?_
  refine h_ic_neF (xi := 6) (zi := 1) m172_19 rfl rfl (by decide) ?_
  refine g_aload_n m172_37 rfl ?_
  refine g_iload_n m172_38 rfl ?_
  refine g_cs (args := [.int (6)]) (rest := [.ref (89)]) 0 (Or.inl rfl) m172_39 (Nat.le_of_ble_eq_true rfl) rfl rfl (Nat.le_of_ble_eq_true rfl) ?_
  refine c_above (k := 6) (by decide) ?_
  refine gwr ?_
  refine g_iload_n m172_42 rfl ?_
  refine h_cv (k := 57) (p := 89) (args := [.int (3), .int (x)]) (rest := []) m172_43 cn_172 (Nat.le_of_ble_eq_true rfl) rfl rfl rfl (t_57 _ _) (Nat.le_of_ble_eq_true rfl) ?_
  refine c_mv_6_0_3 (m := lgR m b []) (b := b + 0) (nv := nv) (mv := mv) (lgR_4 hb []) (by omega) ((lgR_o (by decide) []).trans hk) ((lgR_o (by decide) []).trans h0) ((lgR_o (by decide) []).trans h1) ?_
  rw [show lgR (lgR m b []) (b + 0) [10] = lgR m b [10] from lgR_a [] [10]]
  refine gwr ?_
  refine g_iret m172_46 rt_172 ?_
  exact hQ
set_option maxRecDepth 20000 in
set_option maxHeartbeats 40000000 in
theorem c_mv_6_1_0 {b : Nat} {x nv mv : Int32} (hb : m 57 21 = nI b) (hb40 : b + 2 ≤ 40) (hk : m 57 22 = nI 6) (h0 : m 57 23 = nv) (h1 : m 57 24 = mv) (hQ : Q (some (.int ((x + nv) * (2 : Int32)))) (H (lgR m b [11, 10]) ln N)) : WP xs (d + 5) 174 0 0 [.ref (89), .int (0), .int (x)] (H m ln N) Q := by
  refine wp_x mx_174 (L := [some (.ref (89)), some (.int (0)), some (.int (x)), none]) (Nat.le_of_ble_eq_true rfl) rfl ?_
  refine g_iload_n m174_0 rfl ?_
  refine h_if_neT (xi := 0) (zi := 0) m174_1 rfl rfl (by decide) ?_
  refine g_aload_n m174_4 rfl ?_
  refine g_bipush m174_5 ?_
  refine h_cv (k := 57) (p := 89) (args := [.int (11)]) (rest := []) m174_7 cn_171 (Nat.le_of_ble_eq_true rfl) rfl rfl rfl (t_57 _ _) (Nat.le_of_ble_eq_true rfl) ?_
  refine c_ran (b := b) (c := 11) hb (by omega) ?_
  refine gwr0 ?_
  refine g_aload_n m174_10 rfl ?_
  refine g_aload_n m174_11 rfl ?_
  refine h_gfI (k := 57) (p := 89) m174_12 rfl (t_57 _ _) rfl ((lgR_o (by decide) [11]).trans hk) ?_
  refine g_iload_n m174_15 rfl ?_
  refine h_cv (k := 57) (p := 89) (args := [.int (6), .int (x)]) (rest := []) m174_16 cn_172 (Nat.le_of_ble_eq_true rfl) rfl rfl rfl (t_57 _ _) (Nat.le_of_ble_eq_true rfl) ?_
  refine c_mv_6_0_6 (m := lgR m b [11]) (b := b + 1) (nv := nv) (mv := mv) (lgR_4 hb [11]) (by omega) ((lgR_o (by decide) [11]).trans hk) ((lgR_o (by decide) [11]).trans h0) ((lgR_o (by decide) [11]).trans h1) ?_
  rw [show lgR (lgR m b [11]) (b + 1) [10] = lgR m b [11, 10] from lgR_a [11] [10]]
  refine gwr ?_
  refine g_iconst m174_19 ?_
  refine g_imul m174_20 rfl ?_
  refine g_iret m174_21 rt_174 ?_
  exact hQ
set_option maxRecDepth 20000 in
set_option maxHeartbeats 40000000 in
theorem c_mv_6_1_3 {b : Nat} {x nv mv : Int32} (hb : m 57 21 = nI b) (hb40 : b + 2 ≤ 40) (hk : m 57 22 = nI 6) (h0 : m 57 23 = nv) (h1 : m 57 24 = mv) (hQ : Q (some (.int ((x + nv) * (2 : Int32)))) (H (lgR m b [11, 10]) ln N)) : WP xs (d + 6) 174 0 0 [.ref (89), .int (3), .int (x)] (H m ln N) Q := by
  refine wp_x mx_174 (L := [some (.ref (89)), some (.int (3)), some (.int (x)), none]) (Nat.le_of_ble_eq_true rfl) rfl ?_
  refine g_iload_n m174_0 rfl ?_
  refine h_if_neF (xi := 3) (zi := 0) m174_1 rfl rfl (by decide) ?_
  refine g_iload_n m174_22 rfl ?_
  refine g_iconst m174_23 ?_
  refine h_ic_neF (xi := 3) (zi := 2) m174_24 rfl rfl (by decide) ?_
  refine g_iload_n m174_52 rfl ?_
  refine g_iconst m174_53 ?_
  refine h_ic_neF (xi := 3) (zi := 5) m174_54 rfl rfl (by decide) ?_
  refine g_aload_n m174_72 rfl ?_
  refine g_iload_n m174_73 rfl ?_
  refine g_cs (args := [.int (3)]) (rest := [.ref (89)]) 0 (Or.inl rfl) m174_74 (Nat.le_of_ble_eq_true rfl) rfl rfl (Nat.le_of_ble_eq_true rfl) ?_
  refine c_above (k := 3) (by decide) ?_
  refine gwr ?_
  refine g_iload_n m174_77 rfl ?_
  refine h_cv (k := 57) (p := 89) (args := [.int (0), .int (x)]) (rest := []) m174_78 cn_174 (Nat.le_of_ble_eq_true rfl) rfl rfl rfl (t_57 _ _) (Nat.le_of_ble_eq_true rfl) ?_
  refine c_mv_6_1_0 (m := lgR m b []) (b := b + 0) (nv := nv) (mv := mv) (lgR_4 hb []) (by omega) ((lgR_o (by decide) []).trans hk) ((lgR_o (by decide) []).trans h0) ((lgR_o (by decide) []).trans h1) ?_
  rw [show lgR (lgR m b []) (b + 0) [11, 10] = lgR m b [11, 10] from lgR_a [] [11, 10]]
  refine gwr ?_
  refine g_iret m174_81 rt_174 ?_
  exact hQ
set_option maxRecDepth 20000 in
set_option maxHeartbeats 40000000 in
theorem c_mv_6_1_6 {b : Nat} {x nv mv : Int32} (hb : m 57 21 = nI b) (hb40 : b + 2 ≤ 40) (hk : m 57 22 = nI 6) (h0 : m 57 23 = nv) (h1 : m 57 24 = mv) (hQ : Q (some (.int ((x + nv) * (2 : Int32)))) (H (lgR m b [11, 10]) ln N)) : WP xs (d + 7) 174 0 0 [.ref (89), .int (6), .int (x)] (H m ln N) Q := by
  refine wp_x mx_174 (L := [some (.ref (89)), some (.int (6)), some (.int (x)), none]) (Nat.le_of_ble_eq_true rfl) rfl ?_
  refine g_iload_n m174_0 rfl ?_
  refine h_if_neF (xi := 6) (zi := 0) m174_1 rfl rfl (by decide) ?_
  refine g_iload_n m174_22 rfl ?_
  refine g_iconst m174_23 ?_
  refine h_ic_neF (xi := 6) (zi := 2) m174_24 rfl rfl (by decide) ?_
  refine g_iload_n m174_52 rfl ?_
  refine g_iconst m174_53 ?_
  refine h_ic_neF (xi := 6) (zi := 5) m174_54 rfl rfl (by decide) ?_
  refine g_aload_n m174_72 rfl ?_
  refine g_iload_n m174_73 rfl ?_
  refine g_cs (args := [.int (6)]) (rest := [.ref (89)]) 0 (Or.inl rfl) m174_74 (Nat.le_of_ble_eq_true rfl) rfl rfl (Nat.le_of_ble_eq_true rfl) ?_
  refine c_above (k := 6) (by decide) ?_
  refine gwr ?_
  refine g_iload_n m174_77 rfl ?_
  refine h_cv (k := 57) (p := 89) (args := [.int (3), .int (x)]) (rest := []) m174_78 cn_174 (Nat.le_of_ble_eq_true rfl) rfl rfl rfl (t_57 _ _) (Nat.le_of_ble_eq_true rfl) ?_
  refine c_mv_6_1_3 (m := lgR m b []) (b := b + 0) (nv := nv) (mv := mv) (lgR_4 hb []) (by omega) ((lgR_o (by decide) []).trans hk) ((lgR_o (by decide) []).trans h0) ((lgR_o (by decide) []).trans h1) ?_
  rw [show lgR (lgR m b []) (b + 0) [11, 10] = lgR m b [11, 10] from lgR_a [] [11, 10]]
  refine gwr ?_
  refine g_iret m174_81 rt_174 ?_
  exact hQ
set_option maxRecDepth 20000 in
set_option maxHeartbeats 40000000 in
theorem c_mv_6_2_0 {b : Nat} {x nv mv : Int32} (hb : m 57 21 = nI b) (hb40 : b + 1 ≤ 40) (hk : m 57 22 = nI 6) (h0 : m 57 23 = nv) (h1 : m 57 24 = mv) (hQ : Q (some (.int (x - mv))) (H (lgR m b [12]) ln N)) : WP xs (d + 2) 173 0 0 [.ref (89), .int (0), .int (x)] (H m ln N) Q := by
  refine wp_x mx_173 (L := [some (.ref (89)), some (.int (0)), some (.int (x))]) (Nat.le_of_ble_eq_true rfl) rfl ?_
  refine g_iload_n m173_0 rfl ?_
  refine h_if_neT (xi := 0) (zi := 0) m173_1 rfl rfl (by decide) ?_
  refine g_aload_n m173_4 rfl ?_
  refine g_bipush m173_5 ?_
  refine h_cv (k := 57) (p := 89) (args := [.int (12)]) (rest := []) m173_7 cn_171 (Nat.le_of_ble_eq_true rfl) rfl rfl rfl (t_57 _ _) (Nat.le_of_ble_eq_true rfl) ?_
  refine c_ran (b := b) (c := 12) hb (by omega) ?_
  refine gwr0 ?_
  refine g_iload_n m173_10 rfl ?_
  refine g_aload_n m173_11 rfl ?_
  refine h_gfI (k := 57) (p := 89) m173_12 rfl (t_57 _ _) rfl ((lgR_o (by decide) [12]).trans h1) ?_
  refine g_isub m173_15 rfl ?_
  refine g_iret m173_16 rt_173 ?_
  exact hQ
set_option maxRecDepth 20000 in
set_option maxHeartbeats 40000000 in
theorem c_mv_6_2_3 {b : Nat} {x nv mv : Int32} (hb : m 57 21 = nI b) (hb40 : b + 2 ≤ 40) (hk : m 57 22 = nI 6) (h0 : m 57 23 = nv) (h1 : m 57 24 = mv) (hQ : Q (some (.int (-(x - mv)))) (H (lgR m b [40, 12]) ln N)) : WP xs (d + 3) 173 0 0 [.ref (89), .int (3), .int (x)] (H m ln N) Q := by
  refine wp_x mx_173 (L := [some (.ref (89)), some (.int (3)), some (.int (x))]) (Nat.le_of_ble_eq_true rfl) rfl ?_
  refine g_iload_n m173_0 rfl ?_
  refine h_if_neF (xi := 3) (zi := 0) m173_1 rfl rfl (by decide) ?_
  refine g_iload_n m173_17 rfl ?_
  refine g_iconst m173_18 ?_
  refine h_ic_neT (xi := 3) (zi := 3) m173_19 rfl rfl (by decide) ?_
  refine g_aload_n m173_22 rfl ?_
  refine g_bipush m173_23 ?_
  refine h_cv (k := 57) (p := 89) (args := [.int (40)]) (rest := []) m173_25 cn_171 (Nat.le_of_ble_eq_true rfl) rfl rfl rfl (t_57 _ _) (Nat.le_of_ble_eq_true rfl) ?_
  refine c_ran (b := b) (c := 40) hb (by omega) ?_
  refine gwr0 ?_
  refine g_aload_n m173_28 rfl ?_
  refine g_iconst m173_29 ?_
  refine g_iload_n m173_30 rfl ?_
  refine h_cv (k := 57) (p := 89) (args := [.int (0), .int (x)]) (rest := []) m173_31 cn_173 (Nat.le_of_ble_eq_true rfl) rfl rfl rfl (t_57 _ _) (Nat.le_of_ble_eq_true rfl) ?_
  refine c_mv_6_2_0 (m := lgR m b [40]) (b := b + 1) (nv := nv) (mv := mv) (lgR_4 hb [40]) (by omega) ((lgR_o (by decide) [40]).trans hk) ((lgR_o (by decide) [40]).trans h0) ((lgR_o (by decide) [40]).trans h1) ?_
  rw [show lgR (lgR m b [40]) (b + 1) [12] = lgR m b [40, 12] from lgR_a [40] [12]]
  refine gwr ?_
  refine g_ineg m173_34 rfl ?_
  refine g_iret m173_35 rt_173 ?_
  exact hQ
set_option maxRecDepth 20000 in
set_option maxHeartbeats 40000000 in
theorem c_mv_6_2_6 {b : Nat} {x nv mv : Int32} (hb : m 57 21 = nI b) (hb40 : b + 3 ≤ 40) (hk : m 57 22 = nI 6) (h0 : m 57 23 = nv) (h1 : m 57 24 = mv) (hQ : Q (some (.int ((-(x - mv)) ^^^ nv))) (H (lgR m b [70, 40, 12]) ln N)) : WP xs (d + 4) 173 0 0 [.ref (89), .int (6), .int (x)] (H m ln N) Q := by
  refine wp_x mx_173 (L := [some (.ref (89)), some (.int (6)), some (.int (x))]) (Nat.le_of_ble_eq_true rfl) rfl ?_
  refine g_iload_n m173_0 rfl ?_
  refine h_if_neF (xi := 6) (zi := 0) m173_1 rfl rfl (by decide) ?_
  refine g_iload_n m173_17 rfl ?_
  refine g_iconst m173_18 ?_
  refine h_ic_neF (xi := 6) (zi := 3) m173_19 rfl rfl (by decide) ?_
  refine g_iload_n m173_36 rfl ?_
  refine g_bipush m173_37 ?_
  refine h_ic_neT (xi := 6) (zi := 6) m173_39 rfl rfl (by decide) ?_
  refine g_aload_n m173_42 rfl ?_
  refine g_bipush m173_43 ?_
  refine h_cv (k := 57) (p := 89) (args := [.int (70)]) (rest := []) m173_45 cn_171 (Nat.le_of_ble_eq_true rfl) rfl rfl rfl (t_57 _ _) (Nat.le_of_ble_eq_true rfl) ?_
  refine c_ran (b := b) (c := 70) hb (by omega) ?_
  refine gwr0 ?_
  refine g_aload_n m173_48 rfl ?_
  refine g_iconst m173_49 ?_
  refine g_iload_n m173_50 rfl ?_
  refine h_cv (k := 57) (p := 89) (args := [.int (3), .int (x)]) (rest := []) m173_51 cn_173 (Nat.le_of_ble_eq_true rfl) rfl rfl rfl (t_57 _ _) (Nat.le_of_ble_eq_true rfl) ?_
  refine c_mv_6_2_3 (m := lgR m b [70]) (b := b + 1) (nv := nv) (mv := mv) (lgR_4 hb [70]) (by omega) ((lgR_o (by decide) [70]).trans hk) ((lgR_o (by decide) [70]).trans h0) ((lgR_o (by decide) [70]).trans h1) ?_
  rw [show lgR (lgR m b [70]) (b + 1) [40, 12] = lgR m b [70, 40, 12] from lgR_a [70] [40, 12]]
  refine gwr ?_
  refine g_aload_n m173_54 rfl ?_
  refine h_gfI (k := 57) (p := 89) m173_55 rfl (t_57 _ _) rfl ((lgR_o (by decide) [70, 40, 12]).trans h0) ?_
  refine g_ixor m173_58 rfl ?_
  refine g_iret m173_59 rt_173 ?_
  exact hQ
set_option maxRecDepth 20000 in
set_option maxHeartbeats 40000000 in
theorem c_mv_6_3_0 {b : Nat} {x nv mv : Int32} (hb : m 57 21 = nI b) (hb40 : b + 6 ≤ 40) (hk : m 57 22 = nI 6) (h0 : m 57 23 = nv) (h1 : m 57 24 = mv) (hQ : Q (some (.int (((x + nv) * (2 : Int32)) ^^^ ((-(x - mv)) ^^^ nv)))) (H (lgR m b [13, 11, 10, 70, 40, 12]) ln N)) : WP xs (d + 8) 175 0 0 [.ref (89), .int (0), .int (x)] (H m ln N) Q := by
  refine wp_x mx_175 (L := [some (.ref (89)), some (.int (0)), some (.int (x)), none]) (Nat.le_of_ble_eq_true rfl) rfl ?_
  refine g_iload_n m175_0 rfl ?_
  refine h_if_neT (xi := 0) (zi := 0) m175_1 rfl rfl (by decide) ?_
  refine g_aload_n m175_4 rfl ?_
  refine g_bipush m175_5 ?_
  refine h_cv (k := 57) (p := 89) (args := [.int (13)]) (rest := []) m175_7 cn_171 (Nat.le_of_ble_eq_true rfl) rfl rfl rfl (t_57 _ _) (Nat.le_of_ble_eq_true rfl) ?_
  refine c_ran (b := b) (c := 13) hb (by omega) ?_
  refine gwr0 ?_
  refine g_aload_n m175_10 rfl ?_
  refine g_aload_n m175_11 rfl ?_
  refine h_gfI (k := 57) (p := 89) m175_12 rfl (t_57 _ _) rfl ((lgR_o (by decide) [13]).trans hk) ?_
  refine g_iload_n m175_15 rfl ?_
  refine h_cv (k := 57) (p := 89) (args := [.int (6), .int (x)]) (rest := []) m175_16 cn_174 (Nat.le_of_ble_eq_true rfl) rfl rfl rfl (t_57 _ _) (Nat.le_of_ble_eq_true rfl) ?_
  refine c_mv_6_1_6 (m := lgR m b [13]) (b := b + 1) (nv := nv) (mv := mv) (lgR_4 hb [13]) (by omega) ((lgR_o (by decide) [13]).trans hk) ((lgR_o (by decide) [13]).trans h0) ((lgR_o (by decide) [13]).trans h1) ?_
  rw [show lgR (lgR m b [13]) (b + 1) [11, 10] = lgR m b [13, 11, 10] from lgR_a [13] [11, 10]]
  refine gwr ?_
  refine g_istore_n (L2 := [some (.ref (89)), some (.int (0)), some (.int (x)), some (.int (((x + nv) * (2 : Int32))))]) m175_19 rfl rfl ?_
  refine g_iload_n m175_20 rfl ?_
  refine g_aload_n m175_21 rfl ?_
  refine g_aload_n m175_22 rfl ?_
  refine h_gfI (k := 57) (p := 89) m175_23 rfl (t_57 _ _) rfl ((lgR_o (by decide) [13, 11, 10]).trans hk) ?_
  refine g_iload_n m175_26 rfl ?_
  refine h_cv (k := 57) (p := 89) (args := [.int (6), .int (x)]) (rest := [.int (((x + nv) * (2 : Int32)))]) m175_27 cn_173 (Nat.le_of_ble_eq_true rfl) rfl rfl rfl (t_57 _ _) (Nat.le_of_ble_eq_true rfl) ?_
  refine c_mv_6_2_6 (m := lgR m b [13, 11, 10]) (b := b + 3) (nv := nv) (mv := mv) (lgR_4 hb [13, 11, 10]) (by omega) ((lgR_o (by decide) [13, 11, 10]).trans hk) ((lgR_o (by decide) [13, 11, 10]).trans h0) ((lgR_o (by decide) [13, 11, 10]).trans h1) ?_
  rw [show lgR (lgR m b [13, 11, 10]) (b + 3) [70, 40, 12] = lgR m b [13, 11, 10, 70, 40, 12] from lgR_a [13, 11, 10] [70, 40, 12]]
  refine gwr ?_
  refine g_ixor m175_30 rfl ?_
  refine g_iret m175_31 rt_175 ?_
  exact hQ
set_option maxRecDepth 20000 in
set_option maxHeartbeats 40000000 in
theorem c_mv_6_3_3 {b : Nat} {x nv mv : Int32} (hb : m 57 21 = nI b) (hb40 : b + 6 ≤ 40) (hk : m 57 22 = nI 6) (h0 : m 57 23 = nv) (h1 : m 57 24 = mv) (hQ : Q (some (.int (((x + nv) * (2 : Int32)) ^^^ ((-(x - mv)) ^^^ nv)))) (H (lgR m b [13, 11, 10, 70, 40, 12]) ln N)) : WP xs (d + 9) 175 0 0 [.ref (89), .int (3), .int (x)] (H m ln N) Q := by
  refine wp_x mx_175 (L := [some (.ref (89)), some (.int (3)), some (.int (x)), none]) (Nat.le_of_ble_eq_true rfl) rfl ?_
  refine g_iload_n m175_0 rfl ?_
  refine h_if_neF (xi := 3) (zi := 0) m175_1 rfl rfl (by decide) ?_
  refine g_iload_n m175_32 rfl ?_
  refine g_iconst m175_33 ?_
  refine h_ic_neF (xi := 3) (zi := 4) m175_34 rfl rfl (by decide) ?_
  refine g_iload_n m175_62 rfl ?_
  refine g_bipush m175_63 ?_
  refine h_ic_neF (xi := 3) (zi := 6) m175_65 rfl rfl (by decide) ?_
  refine g_aload_n m175_93 rfl ?_
  refine g_iload_n m175_94 rfl ?_
  refine g_cs (args := [.int (3)]) (rest := [.ref (89)]) 0 (Or.inl rfl) m175_95 (Nat.le_of_ble_eq_true rfl) rfl rfl (Nat.le_of_ble_eq_true rfl) ?_
  refine c_above (k := 3) (by decide) ?_
  refine gwr ?_
  refine g_iload_n m175_98 rfl ?_
  refine h_cv (k := 57) (p := 89) (args := [.int (0), .int (x)]) (rest := []) m175_99 cn_175 (Nat.le_of_ble_eq_true rfl) rfl rfl rfl (t_57 _ _) (Nat.le_of_ble_eq_true rfl) ?_
  refine c_mv_6_3_0 (m := lgR m b []) (b := b + 0) (nv := nv) (mv := mv) (lgR_4 hb []) (by omega) ((lgR_o (by decide) []).trans hk) ((lgR_o (by decide) []).trans h0) ((lgR_o (by decide) []).trans h1) ?_
  rw [show lgR (lgR m b []) (b + 0) [13, 11, 10, 70, 40, 12] = lgR m b [13, 11, 10, 70, 40, 12] from lgR_a [] [13, 11, 10, 70, 40, 12]]
  refine gwr ?_
  refine g_iret m175_102 rt_175 ?_
  exact hQ
set_option maxRecDepth 20000 in
set_option maxHeartbeats 40000000 in
theorem c_mv_6_3_6 {b : Nat} {x nv mv : Int32} (hb : m 57 21 = nI b) (hb40 : b + 9 ≤ 40) (hk : m 57 22 = nI 6) (h0 : m 57 23 = nv) (h1 : m 57 24 = mv) (hQ : Q (some (.int (((x + nv) * (2 : Int32)) - (((x + nv) * (2 : Int32)) ^^^ ((-(x - mv)) ^^^ nv))))) (H (lgR m b [71, 11, 10, 13, 11, 10, 70, 40, 12]) ln N)) : WP xs (d + 10) 175 0 0 [.ref (89), .int (6), .int (x)] (H m ln N) Q := by
  refine wp_x mx_175 (L := [some (.ref (89)), some (.int (6)), some (.int (x)), none]) (Nat.le_of_ble_eq_true rfl) rfl ?_
  refine g_iload_n m175_0 rfl ?_
  refine h_if_neF (xi := 6) (zi := 0) m175_1 rfl rfl (by decide) ?_
  refine g_iload_n m175_32 rfl ?_
  refine g_iconst m175_33 ?_
  refine h_ic_neF (xi := 6) (zi := 4) m175_34 rfl rfl (by decide) ?_
  refine g_iload_n m175_62 rfl ?_
  refine g_bipush m175_63 ?_
  refine h_ic_neT (xi := 6) (zi := 6) m175_65 rfl rfl (by decide) ?_
  refine g_aload_n m175_68 rfl ?_
  refine g_bipush m175_69 ?_
  refine h_cv (k := 57) (p := 89) (args := [.int (71)]) (rest := []) m175_71 cn_171 (Nat.le_of_ble_eq_true rfl) rfl rfl rfl (t_57 _ _) (Nat.le_of_ble_eq_true rfl) ?_
  refine c_ran (b := b) (c := 71) hb (by omega) ?_
  refine gwr0 ?_
  refine g_aload_n m175_74 rfl ?_
  refine g_aload_n m175_75 rfl ?_
  refine h_gfI (k := 57) (p := 89) m175_76 rfl (t_57 _ _) rfl ((lgR_o (by decide) [71]).trans hk) ?_
  refine g_iload_n m175_79 rfl ?_
  refine h_cv (k := 57) (p := 89) (args := [.int (6), .int (x)]) (rest := []) m175_80 cn_174 (Nat.le_of_ble_eq_true rfl) rfl rfl rfl (t_57 _ _) (Nat.le_of_ble_eq_true rfl) ?_
  refine c_mv_6_1_6 (m := lgR m b [71]) (b := b + 1) (nv := nv) (mv := mv) (lgR_4 hb [71]) (by omega) ((lgR_o (by decide) [71]).trans hk) ((lgR_o (by decide) [71]).trans h0) ((lgR_o (by decide) [71]).trans h1) ?_
  rw [show lgR (lgR m b [71]) (b + 1) [11, 10] = lgR m b [71, 11, 10] from lgR_a [71] [11, 10]]
  refine gwr ?_
  refine g_istore_n (L2 := [some (.ref (89)), some (.int (6)), some (.int (x)), some (.int (((x + nv) * (2 : Int32))))]) m175_83 rfl rfl ?_
  refine g_iload_n m175_84 rfl ?_
  refine g_aload_n m175_85 rfl ?_
  refine g_iconst m175_86 ?_
  refine g_iload_n m175_87 rfl ?_
  refine h_cv (k := 57) (p := 89) (args := [.int (3), .int (x)]) (rest := [.int (((x + nv) * (2 : Int32)))]) m175_88 cn_175 (Nat.le_of_ble_eq_true rfl) rfl rfl rfl (t_57 _ _) (Nat.le_of_ble_eq_true rfl) ?_
  refine c_mv_6_3_3 (m := lgR m b [71, 11, 10]) (b := b + 3) (nv := nv) (mv := mv) (lgR_4 hb [71, 11, 10]) (by omega) ((lgR_o (by decide) [71, 11, 10]).trans hk) ((lgR_o (by decide) [71, 11, 10]).trans h0) ((lgR_o (by decide) [71, 11, 10]).trans h1) ?_
  rw [show lgR (lgR m b [71, 11, 10]) (b + 3) [13, 11, 10, 70, 40, 12] = lgR m b [71, 11, 10, 13, 11, 10, 70, 40, 12] from lgR_a [71, 11, 10] [13, 11, 10, 70, 40, 12]]
  refine gwr ?_
  refine g_isub m175_91 rfl ?_
  refine g_iret m175_92 rt_175 ?_
  exact hQ
end
end
section
/-! VOICE -/
section
variable {xs : List Int32} {d : Nat} {h : AH} {Q : QT} {m : MW} {ln : Nat → Nat} {N : Nat}
set_option maxRecDepth 20000 in
set_option maxHeartbeats 40000000 in
theorem x_voice {a b x : Int32} {n : Nat} {K : Nat → Nat} (hd : m 1 10 = nI n) (hn : n ≤ 8) (hK : ∀ i, i < 8 → K i < 7 ∧ m 3 i = nI (K i)) (hE1 : (a.toInt < 0 ∨ (n : Int) ≤ a.toInt ∨ b.toInt < 0 ∨ 3 < b.toInt) → Q (some (.int (-1000000000 - nI 1))) (H (erm m 1) ln N)) (hY : ∀ i j : Nat, a = nI i → i < n → b = nI j → j ≤ 3 → Q (some (.int (vocF (K i) j x (nI i) (m 4 i)))) (H (lgM (upm (upm (upm (upm m 45 0 (nI i)) 45 1 (m 4 i)) 45 2 (nI (K i))) 45 4 0) 0 (vocL (K i) j)) ln N)) : WP xs (d + 16) 93 0 0 [.ref (32), .int (a), .int (b), .int (x)] (H m ln N) Q := by
  refine wp_x mx_93 (L := [some (.ref (32)), some (.int (a)), some (.int (b)), some (.int (x))]) (Nat.le_of_ble_eq_true rfl) rfl ?_
  refine g_aload_n m93_0 rfl ?_
  refine g_iload_n m93_1 rfl ?_
  refine h_cv (k := 0) (p := 32) (args := [.int (a)]) (rest := []) m93_2 cn_60 (Nat.le_of_ble_eq_true rfl) rfl rfl rfl (t_0 _ _) (Nat.le_of_ble_eq_true rfl) ?_
  refine c_isDiner hd hn (fun ja ea a_1 => ?_) (fun a_1 => ?_)
  · subst ea
    refine gwr ?_
    refine h_if_eqF (xi := 1) (zi := 0) m93_5 rfl rfl (by decide) ?_
    refine g_iload_n m93_8 rfl ?_
    refine g_iconst m93_9 ?_
    refine g_cs (args := [.int (b), .int (3)]) (rest := []) 0 (Or.inl rfl) m93_10 (Nat.le_of_ble_eq_true rfl) rfl rfl (Nat.le_of_ble_eq_true rfl) ?_
    refine c_within (M := 3) rfl (fun jb eb a_2 => ?_) (fun a_2 => ?_)
    · subst eb
      refine gwr ?_
      refine h_if_neF (xi := 1) (zi := 0) m93_13 rfl rfl (by decide) ?_
      refine g_aload_n m93_22 rfl ?_
      refine h_gfR (c := 77) (k := 0) (p := 32) m93_23 rfl (t_0 _ _) rfl (Nat.le_of_ble_eq_true rfl) ?_
      refine g_iload_n m93_26 rfl ?_
      refine h_pfI (k := 45) (p := 77) m93_27 rfl (t_45 _ _) rfl trivial ?_
      refine g_aload_n m93_30 rfl ?_
      refine h_gfR (c := 77) (k := 0) (p := 32) m93_31 rfl (t_0 _ _) rfl (Nat.le_of_ble_eq_true rfl) ?_
      refine g_aload_n m93_34 rfl ?_
      refine h_gfR (c := 33) (k := 0) (p := 32) m93_35 rfl (t_0 _ _) rfl (Nat.le_of_ble_eq_true rfl) ?_
      refine h_gfR (c := 36) (k := 1) (p := 33) m93_38 rfl (t_1 _ _) rfl (Nat.le_of_ble_eq_true rfl) ?_
      refine g_iload_n m93_41 rfl ?_
      have hja : ja < 8 := by omega
      have eka := hK ja hja
      refine h_ial (k := 4) (p := 36) (j := ja) m93_42 rfl (t_4 _ _) (rfl) (by omega) (Nat.le_of_ble_eq_true rfl) (upm_k _ _ (by decide)) ?_
      refine h_pfI (k := 45) (p := 77) m93_43 rfl (t_45 _ _) rfl trivial ?_
      refine g_aload_n m93_46 rfl ?_
      refine h_gfR (c := 77) (k := 0) (p := 32) m93_47 rfl (t_0 _ _) rfl (Nat.le_of_ble_eq_true rfl) ?_
      refine g_aload_n m93_50 rfl ?_
      refine h_gfR (c := 33) (k := 0) (p := 32) m93_51 rfl (t_0 _ _) rfl (Nat.le_of_ble_eq_true rfl) ?_
      refine h_gfR (c := 35) (k := 1) (p := 33) m93_54 rfl (t_1 _ _) rfl (Nat.le_of_ble_eq_true rfl) ?_
      refine g_iload_n m93_57 rfl ?_
      refine h_ial (k := 3) (p := 35) (j := ja) m93_58 rfl (t_3 _ _) (rfl) (by omega) (Nat.le_of_ble_eq_true rfl) ((upm_k _ _ (by decide)).trans ((upm_k _ _ (by decide)).trans eka.2)) ?_
      refine h_pfI (k := 45) (p := 77) m93_59 rfl (t_45 _ _) rfl trivial ?_
      refine g_aload_n m93_62 rfl ?_
      refine h_gfR (c := 77) (k := 0) (p := 32) m93_63 rfl (t_0 _ _) rfl (Nat.le_of_ble_eq_true rfl) ?_
      refine g_iconst m93_66 ?_
      refine h_pfI (k := 45) (p := 77) m93_67 rfl (t_45 _ _) rfl trivial ?_
      refine g_aload_n m93_70 rfl ?_
      refine h_gfR (c := 77) (k := 0) (p := 32) m93_71 rfl (t_0 _ _) rfl (Nat.le_of_ble_eq_true rfl) ?_
      refine g_iload_n m93_74 rfl ?_
      refine g_aload_n m93_75 rfl ?_
      refine h_gfR (c := 77) (k := 0) (p := 32) m93_76 rfl (t_0 _ _) rfl (Nat.le_of_ble_eq_true rfl) ?_
      refine h_gfI (k := 45) (p := 77) m93_79 rfl (t_45 _ _) rfl ((upm_j _ _ (by decide)).trans (upm_self _ _ _ _)) ?_
      refine g_iload_n m93_82 rfl ?_
      refine g_iconst m93_83 ?_
      refine g_cs (args := [.ref (77), .int (nI (jb)), .int (nI (K ja)), .int (x), .int (0)]) (rest := []) 0 (Or.inl rfl) m93_84 (Nat.le_of_ble_eq_true rfl) rfl rfl (Nat.le_of_ble_eq_true rfl) ?_
      rcases (show jb = 0 ∨ jb = 1 ∨ jb = 2 ∨ jb = 3 by omega) with rfl | rfl | rfl | rfl
      · skip
        generalize hkk : K ja = kk at eka ⊢
        have hk7 := eka.1
        rcases (show kk = 0 ∨ kk = 1 ∨ kk = 2 ∨ kk = 3 ∨ kk = 4 ∨ kk = 5 ∨ kk = 6 by omega) with rfl | rfl | rfl | rfl | rfl | rfl | rfl
        · skip
          refine c_sp_0_0_0 (b := 0) (e := 0) (nv := nI ja) (mv := m 4 ja) (upm_self _ _ _ _) (by decide) ((upm_j _ _ (by decide)).trans (upm_self _ _ _ _)) ((upm_j _ _ (by decide)).trans ((upm_j _ _ (by decide)).trans ((upm_j _ _ (by decide)).trans (upm_self _ _ _ _)))) ((upm_j _ _ (by decide)).trans ((upm_j _ _ (by decide)).trans (upm_self _ _ _ _))) (by decide) ?_
          refine gwr ?_
          refine g_iret m93_87 rt_93 ?_
          have h9 := hY ja 0 rfl (by omega) rfl (by decide)
          rw [hkk] at h9
          exact h9
        · skip
          refine c_sp_1_0_1 (b := 0) (e := 0) (nv := nI ja) (mv := m 4 ja) (upm_self _ _ _ _) (by decide) ((upm_j _ _ (by decide)).trans (upm_self _ _ _ _)) ((upm_j _ _ (by decide)).trans ((upm_j _ _ (by decide)).trans ((upm_j _ _ (by decide)).trans (upm_self _ _ _ _)))) ((upm_j _ _ (by decide)).trans ((upm_j _ _ (by decide)).trans (upm_self _ _ _ _))) (by decide) ?_
          refine gwr ?_
          refine g_iret m93_87 rt_93 ?_
          have h9 := hY ja 0 rfl (by omega) rfl (by decide)
          rw [hkk] at h9
          exact h9
        · skip
          refine c_sp_2_0_2 (b := 0) (e := 0) (nv := nI ja) (mv := m 4 ja) (upm_self _ _ _ _) (by decide) ((upm_j _ _ (by decide)).trans (upm_self _ _ _ _)) ((upm_j _ _ (by decide)).trans ((upm_j _ _ (by decide)).trans ((upm_j _ _ (by decide)).trans (upm_self _ _ _ _)))) ((upm_j _ _ (by decide)).trans ((upm_j _ _ (by decide)).trans (upm_self _ _ _ _))) (by decide) ?_
          refine gwr ?_
          refine g_iret m93_87 rt_93 ?_
          have h9 := hY ja 0 rfl (by omega) rfl (by decide)
          rw [hkk] at h9
          exact h9
        · skip
          refine c_sp_3_0_3 (b := 0) (e := 0) (nv := nI ja) (mv := m 4 ja) (upm_self _ _ _ _) (by decide) ((upm_j _ _ (by decide)).trans (upm_self _ _ _ _)) ((upm_j _ _ (by decide)).trans ((upm_j _ _ (by decide)).trans ((upm_j _ _ (by decide)).trans (upm_self _ _ _ _)))) ((upm_j _ _ (by decide)).trans ((upm_j _ _ (by decide)).trans (upm_self _ _ _ _))) (by decide) ?_
          refine gwr ?_
          refine g_iret m93_87 rt_93 ?_
          have h9 := hY ja 0 rfl (by omega) rfl (by decide)
          rw [hkk] at h9
          exact h9
        · skip
          refine c_sp_4_0_4 (b := 0) (e := 0) (nv := nI ja) (mv := m 4 ja) (upm_self _ _ _ _) (by decide) ((upm_j _ _ (by decide)).trans (upm_self _ _ _ _)) ((upm_j _ _ (by decide)).trans ((upm_j _ _ (by decide)).trans ((upm_j _ _ (by decide)).trans (upm_self _ _ _ _)))) ((upm_j _ _ (by decide)).trans ((upm_j _ _ (by decide)).trans (upm_self _ _ _ _))) (by decide) ?_
          refine gwr ?_
          refine g_iret m93_87 rt_93 ?_
          have h9 := hY ja 0 rfl (by omega) rfl (by decide)
          rw [hkk] at h9
          exact h9
        · skip
          refine c_sp_5_0_5 (b := 0) (e := 0) (nv := nI ja) (mv := m 4 ja) (upm_self _ _ _ _) (by decide) ((upm_j _ _ (by decide)).trans (upm_self _ _ _ _)) ((upm_j _ _ (by decide)).trans ((upm_j _ _ (by decide)).trans ((upm_j _ _ (by decide)).trans (upm_self _ _ _ _)))) ((upm_j _ _ (by decide)).trans ((upm_j _ _ (by decide)).trans (upm_self _ _ _ _))) (by decide) ?_
          refine gwr ?_
          refine g_iret m93_87 rt_93 ?_
          have h9 := hY ja 0 rfl (by omega) rfl (by decide)
          rw [hkk] at h9
          exact h9
        · skip
          refine c_sp_6_0_6 (b := 0) (e := 0) (nv := nI ja) (mv := m 4 ja) (upm_self _ _ _ _) (by decide) ((upm_j _ _ (by decide)).trans (upm_self _ _ _ _)) ((upm_j _ _ (by decide)).trans ((upm_j _ _ (by decide)).trans ((upm_j _ _ (by decide)).trans (upm_self _ _ _ _)))) ((upm_j _ _ (by decide)).trans ((upm_j _ _ (by decide)).trans (upm_self _ _ _ _))) (by decide) ?_
          refine gwr ?_
          refine g_iret m93_87 rt_93 ?_
          have h9 := hY ja 0 rfl (by omega) rfl (by decide)
          rw [hkk] at h9
          exact h9
      · skip
        generalize hkk : K ja = kk at eka ⊢
        have hk7 := eka.1
        rcases (show kk = 0 ∨ kk = 1 ∨ kk = 2 ∨ kk = 3 ∨ kk = 4 ∨ kk = 5 ∨ kk = 6 by omega) with rfl | rfl | rfl | rfl | rfl | rfl | rfl
        · skip
          refine c_sp_0_1_0 (b := 0) (e := 0) (nv := nI ja) (mv := m 4 ja) (upm_self _ _ _ _) (by decide) ((upm_j _ _ (by decide)).trans (upm_self _ _ _ _)) ((upm_j _ _ (by decide)).trans ((upm_j _ _ (by decide)).trans ((upm_j _ _ (by decide)).trans (upm_self _ _ _ _)))) ((upm_j _ _ (by decide)).trans ((upm_j _ _ (by decide)).trans (upm_self _ _ _ _))) (by decide) ?_
          refine gwr ?_
          refine g_iret m93_87 rt_93 ?_
          have h9 := hY ja 1 rfl (by omega) rfl (by decide)
          rw [hkk] at h9
          exact h9
        · skip
          refine c_sp_1_1_1 (b := 0) (e := 0) (nv := nI ja) (mv := m 4 ja) (upm_self _ _ _ _) (by decide) ((upm_j _ _ (by decide)).trans (upm_self _ _ _ _)) ((upm_j _ _ (by decide)).trans ((upm_j _ _ (by decide)).trans ((upm_j _ _ (by decide)).trans (upm_self _ _ _ _)))) ((upm_j _ _ (by decide)).trans ((upm_j _ _ (by decide)).trans (upm_self _ _ _ _))) (by decide) ?_
          refine gwr ?_
          refine g_iret m93_87 rt_93 ?_
          have h9 := hY ja 1 rfl (by omega) rfl (by decide)
          rw [hkk] at h9
          exact h9
        · skip
          refine c_sp_2_1_2 (b := 0) (e := 0) (nv := nI ja) (mv := m 4 ja) (upm_self _ _ _ _) (by decide) ((upm_j _ _ (by decide)).trans (upm_self _ _ _ _)) ((upm_j _ _ (by decide)).trans ((upm_j _ _ (by decide)).trans ((upm_j _ _ (by decide)).trans (upm_self _ _ _ _)))) ((upm_j _ _ (by decide)).trans ((upm_j _ _ (by decide)).trans (upm_self _ _ _ _))) (by decide) ?_
          refine gwr ?_
          refine g_iret m93_87 rt_93 ?_
          have h9 := hY ja 1 rfl (by omega) rfl (by decide)
          rw [hkk] at h9
          exact h9
        · skip
          refine c_sp_3_1_3 (b := 0) (e := 0) (nv := nI ja) (mv := m 4 ja) (upm_self _ _ _ _) (by decide) ((upm_j _ _ (by decide)).trans (upm_self _ _ _ _)) ((upm_j _ _ (by decide)).trans ((upm_j _ _ (by decide)).trans ((upm_j _ _ (by decide)).trans (upm_self _ _ _ _)))) ((upm_j _ _ (by decide)).trans ((upm_j _ _ (by decide)).trans (upm_self _ _ _ _))) (by decide) ?_
          refine gwr ?_
          refine g_iret m93_87 rt_93 ?_
          have h9 := hY ja 1 rfl (by omega) rfl (by decide)
          rw [hkk] at h9
          exact h9
        · skip
          refine c_sp_4_1_4 (b := 0) (e := 0) (nv := nI ja) (mv := m 4 ja) (upm_self _ _ _ _) (by decide) ((upm_j _ _ (by decide)).trans (upm_self _ _ _ _)) ((upm_j _ _ (by decide)).trans ((upm_j _ _ (by decide)).trans ((upm_j _ _ (by decide)).trans (upm_self _ _ _ _)))) ((upm_j _ _ (by decide)).trans ((upm_j _ _ (by decide)).trans (upm_self _ _ _ _))) (by decide) ?_
          refine gwr ?_
          refine g_iret m93_87 rt_93 ?_
          have h9 := hY ja 1 rfl (by omega) rfl (by decide)
          rw [hkk] at h9
          exact h9
        · skip
          refine c_sp_5_1_5 (b := 0) (e := 0) (nv := nI ja) (mv := m 4 ja) (upm_self _ _ _ _) (by decide) ((upm_j _ _ (by decide)).trans (upm_self _ _ _ _)) ((upm_j _ _ (by decide)).trans ((upm_j _ _ (by decide)).trans ((upm_j _ _ (by decide)).trans (upm_self _ _ _ _)))) ((upm_j _ _ (by decide)).trans ((upm_j _ _ (by decide)).trans (upm_self _ _ _ _))) (by decide) ?_
          refine gwr ?_
          refine g_iret m93_87 rt_93 ?_
          have h9 := hY ja 1 rfl (by omega) rfl (by decide)
          rw [hkk] at h9
          exact h9
        · skip
          refine c_sp_6_1_6 (b := 0) (e := 0) (nv := nI ja) (mv := m 4 ja) (upm_self _ _ _ _) (by decide) ((upm_j _ _ (by decide)).trans (upm_self _ _ _ _)) ((upm_j _ _ (by decide)).trans ((upm_j _ _ (by decide)).trans ((upm_j _ _ (by decide)).trans (upm_self _ _ _ _)))) ((upm_j _ _ (by decide)).trans ((upm_j _ _ (by decide)).trans (upm_self _ _ _ _))) (by decide) ?_
          refine gwr ?_
          refine g_iret m93_87 rt_93 ?_
          have h9 := hY ja 1 rfl (by omega) rfl (by decide)
          rw [hkk] at h9
          exact h9
      · skip
        generalize hkk : K ja = kk at eka ⊢
        have hk7 := eka.1
        rcases (show kk = 0 ∨ kk = 1 ∨ kk = 2 ∨ kk = 3 ∨ kk = 4 ∨ kk = 5 ∨ kk = 6 by omega) with rfl | rfl | rfl | rfl | rfl | rfl | rfl
        · skip
          refine c_sp_0_2_0 (b := 0) (e := 0) (nv := nI ja) (mv := m 4 ja) (upm_self _ _ _ _) (by decide) ((upm_j _ _ (by decide)).trans (upm_self _ _ _ _)) ((upm_j _ _ (by decide)).trans ((upm_j _ _ (by decide)).trans ((upm_j _ _ (by decide)).trans (upm_self _ _ _ _)))) ((upm_j _ _ (by decide)).trans ((upm_j _ _ (by decide)).trans (upm_self _ _ _ _))) (by decide) ?_
          refine gwr ?_
          refine g_iret m93_87 rt_93 ?_
          have h9 := hY ja 2 rfl (by omega) rfl (by decide)
          rw [hkk] at h9
          exact h9
        · skip
          refine c_sp_1_2_1 (b := 0) (e := 0) (nv := nI ja) (mv := m 4 ja) (upm_self _ _ _ _) (by decide) ((upm_j _ _ (by decide)).trans (upm_self _ _ _ _)) ((upm_j _ _ (by decide)).trans ((upm_j _ _ (by decide)).trans ((upm_j _ _ (by decide)).trans (upm_self _ _ _ _)))) ((upm_j _ _ (by decide)).trans ((upm_j _ _ (by decide)).trans (upm_self _ _ _ _))) (by decide) ?_
          refine gwr ?_
          refine g_iret m93_87 rt_93 ?_
          have h9 := hY ja 2 rfl (by omega) rfl (by decide)
          rw [hkk] at h9
          exact h9
        · skip
          refine c_sp_2_2_2 (b := 0) (e := 0) (nv := nI ja) (mv := m 4 ja) (upm_self _ _ _ _) (by decide) ((upm_j _ _ (by decide)).trans (upm_self _ _ _ _)) ((upm_j _ _ (by decide)).trans ((upm_j _ _ (by decide)).trans ((upm_j _ _ (by decide)).trans (upm_self _ _ _ _)))) ((upm_j _ _ (by decide)).trans ((upm_j _ _ (by decide)).trans (upm_self _ _ _ _))) (by decide) ?_
          refine gwr ?_
          refine g_iret m93_87 rt_93 ?_
          have h9 := hY ja 2 rfl (by omega) rfl (by decide)
          rw [hkk] at h9
          exact h9
        · skip
          refine c_sp_3_2_3 (b := 0) (e := 0) (nv := nI ja) (mv := m 4 ja) (upm_self _ _ _ _) (by decide) ((upm_j _ _ (by decide)).trans (upm_self _ _ _ _)) ((upm_j _ _ (by decide)).trans ((upm_j _ _ (by decide)).trans ((upm_j _ _ (by decide)).trans (upm_self _ _ _ _)))) ((upm_j _ _ (by decide)).trans ((upm_j _ _ (by decide)).trans (upm_self _ _ _ _))) (by decide) ?_
          refine gwr ?_
          refine g_iret m93_87 rt_93 ?_
          have h9 := hY ja 2 rfl (by omega) rfl (by decide)
          rw [hkk] at h9
          exact h9
        · skip
          refine c_sp_4_2_4 (b := 0) (e := 0) (nv := nI ja) (mv := m 4 ja) (upm_self _ _ _ _) (by decide) ((upm_j _ _ (by decide)).trans (upm_self _ _ _ _)) ((upm_j _ _ (by decide)).trans ((upm_j _ _ (by decide)).trans ((upm_j _ _ (by decide)).trans (upm_self _ _ _ _)))) ((upm_j _ _ (by decide)).trans ((upm_j _ _ (by decide)).trans (upm_self _ _ _ _))) (by decide) ?_
          refine gwr ?_
          refine g_iret m93_87 rt_93 ?_
          have h9 := hY ja 2 rfl (by omega) rfl (by decide)
          rw [hkk] at h9
          exact h9
        · skip
          refine c_sp_5_2_5 (b := 0) (e := 0) (nv := nI ja) (mv := m 4 ja) (upm_self _ _ _ _) (by decide) ((upm_j _ _ (by decide)).trans (upm_self _ _ _ _)) ((upm_j _ _ (by decide)).trans ((upm_j _ _ (by decide)).trans ((upm_j _ _ (by decide)).trans (upm_self _ _ _ _)))) ((upm_j _ _ (by decide)).trans ((upm_j _ _ (by decide)).trans (upm_self _ _ _ _))) (by decide) ?_
          refine gwr ?_
          refine g_iret m93_87 rt_93 ?_
          have h9 := hY ja 2 rfl (by omega) rfl (by decide)
          rw [hkk] at h9
          exact h9
        · skip
          refine c_sp_6_2_6 (b := 0) (e := 0) (nv := nI ja) (mv := m 4 ja) (upm_self _ _ _ _) (by decide) ((upm_j _ _ (by decide)).trans (upm_self _ _ _ _)) ((upm_j _ _ (by decide)).trans ((upm_j _ _ (by decide)).trans ((upm_j _ _ (by decide)).trans (upm_self _ _ _ _)))) ((upm_j _ _ (by decide)).trans ((upm_j _ _ (by decide)).trans (upm_self _ _ _ _))) (by decide) ?_
          refine gwr ?_
          refine g_iret m93_87 rt_93 ?_
          have h9 := hY ja 2 rfl (by omega) rfl (by decide)
          rw [hkk] at h9
          exact h9
      · skip
        generalize hkk : K ja = kk at eka ⊢
        have hk7 := eka.1
        rcases (show kk = 0 ∨ kk = 1 ∨ kk = 2 ∨ kk = 3 ∨ kk = 4 ∨ kk = 5 ∨ kk = 6 by omega) with rfl | rfl | rfl | rfl | rfl | rfl | rfl
        · skip
          refine c_sp_0_3_0 (b := 0) (e := 0) (nv := nI ja) (mv := m 4 ja) (upm_self _ _ _ _) (by decide) ((upm_j _ _ (by decide)).trans (upm_self _ _ _ _)) ((upm_j _ _ (by decide)).trans ((upm_j _ _ (by decide)).trans ((upm_j _ _ (by decide)).trans (upm_self _ _ _ _)))) ((upm_j _ _ (by decide)).trans ((upm_j _ _ (by decide)).trans (upm_self _ _ _ _))) (by decide) ?_
          refine gwr ?_
          refine g_iret m93_87 rt_93 ?_
          have h9 := hY ja 3 rfl (by omega) rfl (by decide)
          rw [hkk] at h9
          exact h9
        · skip
          refine c_sp_1_3_1 (b := 0) (e := 0) (nv := nI ja) (mv := m 4 ja) (upm_self _ _ _ _) (by decide) ((upm_j _ _ (by decide)).trans (upm_self _ _ _ _)) ((upm_j _ _ (by decide)).trans ((upm_j _ _ (by decide)).trans ((upm_j _ _ (by decide)).trans (upm_self _ _ _ _)))) ((upm_j _ _ (by decide)).trans ((upm_j _ _ (by decide)).trans (upm_self _ _ _ _))) (by decide) ?_
          refine gwr ?_
          refine g_iret m93_87 rt_93 ?_
          have h9 := hY ja 3 rfl (by omega) rfl (by decide)
          rw [hkk] at h9
          exact h9
        · skip
          refine c_sp_2_3_2 (b := 0) (e := 0) (nv := nI ja) (mv := m 4 ja) (upm_self _ _ _ _) (by decide) ((upm_j _ _ (by decide)).trans (upm_self _ _ _ _)) ((upm_j _ _ (by decide)).trans ((upm_j _ _ (by decide)).trans ((upm_j _ _ (by decide)).trans (upm_self _ _ _ _)))) ((upm_j _ _ (by decide)).trans ((upm_j _ _ (by decide)).trans (upm_self _ _ _ _))) (by decide) ?_
          refine gwr ?_
          refine g_iret m93_87 rt_93 ?_
          have h9 := hY ja 3 rfl (by omega) rfl (by decide)
          rw [hkk] at h9
          exact h9
        · skip
          refine c_sp_3_3_3 (b := 0) (e := 0) (nv := nI ja) (mv := m 4 ja) (upm_self _ _ _ _) (by decide) ((upm_j _ _ (by decide)).trans (upm_self _ _ _ _)) ((upm_j _ _ (by decide)).trans ((upm_j _ _ (by decide)).trans ((upm_j _ _ (by decide)).trans (upm_self _ _ _ _)))) ((upm_j _ _ (by decide)).trans ((upm_j _ _ (by decide)).trans (upm_self _ _ _ _))) (by decide) ?_
          refine gwr ?_
          refine g_iret m93_87 rt_93 ?_
          have h9 := hY ja 3 rfl (by omega) rfl (by decide)
          rw [hkk] at h9
          exact h9
        · skip
          refine c_sp_4_3_4 (b := 0) (e := 0) (nv := nI ja) (mv := m 4 ja) (upm_self _ _ _ _) (by decide) ((upm_j _ _ (by decide)).trans (upm_self _ _ _ _)) ((upm_j _ _ (by decide)).trans ((upm_j _ _ (by decide)).trans ((upm_j _ _ (by decide)).trans (upm_self _ _ _ _)))) ((upm_j _ _ (by decide)).trans ((upm_j _ _ (by decide)).trans (upm_self _ _ _ _))) (by decide) ?_
          refine gwr ?_
          refine g_iret m93_87 rt_93 ?_
          have h9 := hY ja 3 rfl (by omega) rfl (by decide)
          rw [hkk] at h9
          exact h9
        · skip
          refine c_sp_5_3_5 (b := 0) (e := 0) (nv := nI ja) (mv := m 4 ja) (upm_self _ _ _ _) (by decide) ((upm_j _ _ (by decide)).trans (upm_self _ _ _ _)) ((upm_j _ _ (by decide)).trans ((upm_j _ _ (by decide)).trans ((upm_j _ _ (by decide)).trans (upm_self _ _ _ _)))) ((upm_j _ _ (by decide)).trans ((upm_j _ _ (by decide)).trans (upm_self _ _ _ _))) (by decide) ?_
          refine gwr ?_
          refine g_iret m93_87 rt_93 ?_
          have h9 := hY ja 3 rfl (by omega) rfl (by decide)
          rw [hkk] at h9
          exact h9
        · skip
          refine c_sp_6_3_6 (b := 0) (e := 0) (nv := nI ja) (mv := m 4 ja) (upm_self _ _ _ _) (by decide) ((upm_j _ _ (by decide)).trans (upm_self _ _ _ _)) ((upm_j _ _ (by decide)).trans ((upm_j _ _ (by decide)).trans ((upm_j _ _ (by decide)).trans (upm_self _ _ _ _)))) ((upm_j _ _ (by decide)).trans ((upm_j _ _ (by decide)).trans (upm_self _ _ _ _))) (by decide) ?_
          refine gwr ?_
          refine g_iret m93_87 rt_93 ?_
          have h9 := hY ja 3 rfl (by omega) rfl (by decide)
          rw [hkk] at h9
          exact h9
    · skip
      refine gwr ?_
      refine h_if_neT (xi := 0) (zi := 0) m93_13 rfl rfl (by decide) ?_
      refine g_aload_n m93_16 rfl ?_
      refine g_iconst m93_17 ?_
      refine h_cv (k := 0) (p := 32) (args := [.int (1)]) (rest := []) m93_18 cn_55 (Nat.le_of_ble_eq_true rfl) rfl rfl rfl (t_0 _ _) (Nat.le_of_ble_eq_true rfl) ?_
      refine c_error (e := 1) (by decide) (by decide) ?_
      refine gwr ?_
      refine g_iret m93_21 rt_93 ?_
      exact hE1 (by omega)
  · skip
    refine gwr ?_
    refine h_if_eqT (xi := 0) (zi := 0) m93_5 rfl rfl (by decide) ?_
    refine g_aload_n m93_16 rfl ?_
    refine g_iconst m93_17 ?_
    refine h_cv (k := 0) (p := 32) (args := [.int (1)]) (rest := []) m93_18 cn_55 (Nat.le_of_ble_eq_true rfl) rfl rfl rfl (t_0 _ _) (Nat.le_of_ble_eq_true rfl) ?_
    refine c_error (e := 1) (by decide) (by decide) ?_
    refine gwr ?_
    refine g_iret m93_21 rt_93 ?_
    exact hE1 (by omega)
set_option maxRecDepth 20000 in
set_option maxHeartbeats 40000000 in
theorem m_voice {a b x : Int32} {n : Nat} {K : Nat → Nat} (hd : m 58 2 = nI n) (hn : n ≤ 8) (hK : ∀ i, i < 8 → K i < 7 ∧ m 58 (16 + 6 * i + 0) = nI (K i)) (hE1 : (a.toInt < 0 ∨ (n : Int) ≤ a.toInt ∨ b.toInt < 0 ∨ 3 < b.toInt) → Q (some (.int (-1000000001))) (H (ers m 1) ln N)) (hY : ∀ i j : Nat, a = nI i → i < n → b = nI j → j ≤ 3 → Q (some (.int (vocF (K i) j x (nI i) (m 58 (16 + 6 * i + 1))))) (H (lgR (upm (upm (upm (upm m 57 21 0) 57 22 (nI (K i))) 57 23 (nI i)) 57 24 (m 58 (16 + 6 * i + 1))) 0 (vocL (K i) j)) ln N)) : WP xs (d + 20) 176 0 0 [.ref (89), .int (a), .int (b), .int (x)] (H m ln N) Q := by
  refine wp_x mx_176 (L := [some (.ref (89)), some (.int (a)), some (.int (b)), some (.int (x))]) (Nat.le_of_ble_eq_true rfl) rfl ?_
  refine g_aload_n m176_0 rfl ?_
  refine g_iload_n m176_1 rfl ?_
  refine h_cv (k := 57) (p := 89) (args := [.int (a)]) (rest := []) m176_2 cn_113 (Nat.le_of_ble_eq_true rfl) rfl rfl rfl (t_57 _ _) (Nat.le_of_ble_eq_true rfl) ?_
  refine c_isDinerM hd hn (fun ja ea a_3 => ?_) (fun a_3 => ?_)
  · subst ea
    refine gwr ?_
    refine h_if_eqF (xi := 1) (zi := 0) m176_5 rfl rfl (by decide) ?_
    refine g_iload_n m176_8 rfl ?_
    refine g_iconst m176_9 ?_
    refine g_iconst m176_10 ?_
    refine g_cs (args := [.int (b), .int (0), .int (3)]) (rest := []) 0 (Or.inl rfl) m176_11 (Nat.le_of_ble_eq_true rfl) rfl rfl (Nat.le_of_ble_eq_true rfl) ?_
    refine c_in (A := 0) (B := 3) rfl rfl (by decide) (fun jb eb a_4 a_4' => ?_) (fun a_4 => ?_)
    · subst eb
      refine gwr ?_
      refine h_if_neF (xi := 1) (zi := 0) m176_14 rfl rfl (by decide) ?_
      refine g_aload_n m176_24 rfl ?_
      refine g_iconst m176_25 ?_
      refine h_pfI (k := 57) (p := 89) m176_26 rfl (t_57 _ _) rfl trivial ?_
      refine g_aload_n m176_29 rfl ?_
      refine g_aload_n m176_30 rfl ?_
      refine g_iload_n m176_31 rfl ?_
      refine g_iconst m176_32 ?_
      refine h_cv (k := 57) (p := 89) (args := [.int (nI (ja)), .int (0)]) (rest := [.ref (89)]) m176_33 cn_111 (Nat.le_of_ble_eq_true rfl) rfl rfl rfl (t_57 _ _) (Nat.le_of_ble_eq_true rfl) ?_
      have hja : ja < 8 := by omega
      have eka := hK ja hja
      refine c_its (w := 0) (by omega) (by decide) ?_
      rw [show (upm m (57) 21 (0 : Int32)) 58 (16 + 6 * ja + 0) = nI (K ja) from (upm_k _ _ (by decide)).trans eka.2]
      refine gwr ?_
      refine h_pfI (k := 57) (p := 89) m176_36 rfl (t_57 _ _) rfl trivial ?_
      refine g_aload_n m176_39 rfl ?_
      refine g_iload_n m176_40 rfl ?_
      refine h_pfI (k := 57) (p := 89) m176_41 rfl (t_57 _ _) rfl trivial ?_
      refine g_aload_n m176_44 rfl ?_
      refine g_aload_n m176_45 rfl ?_
      refine g_iload_n m176_46 rfl ?_
      refine g_iconst m176_47 ?_
      refine h_cv (k := 57) (p := 89) (args := [.int (nI (ja)), .int (1)]) (rest := [.ref (89)]) m176_48 cn_111 (Nat.le_of_ble_eq_true rfl) rfl rfl rfl (t_57 _ _) (Nat.le_of_ble_eq_true rfl) ?_
      refine c_its (w := 1) (by omega) (by decide) ?_
      rw [show (upm (upm (upm m (57) 21 (0 : Int32)) (57) 22 (nI (K ja))) (57) 23 (nI (ja))) 58 (16 + 6 * ja + 1) = m 58 (16 + 6 * ja + 1) from (upm_k _ _ (by decide)).trans ((upm_k _ _ (by decide)).trans (upm_k _ _ (by decide)))]
      refine gwr ?_
      refine h_pfI (k := 57) (p := 89) m176_51 rfl (t_57 _ _) rfl trivial ?_
      refine g_iload_n m176_54 rfl ?_
      rcases (show jb = 0 ∨ jb = 1 ∨ jb = 2 ∨ jb = 3 by omega) with rfl | rfl | rfl | rfl
      · skip
        refine gs m176_55 ?_
        refine gwpc (pc' := 80) rfl ?_
        refine g_aload_n m176_80 rfl ?_
        refine g_aload_n m176_81 rfl ?_
        refine h_gfI (k := 57) (p := 89) m176_82 rfl (t_57 _ _) rfl ((upm_j _ _ (by decide)).trans ((upm_j _ _ (by decide)).trans (upm_self _ _ _ _))) ?_
        refine g_iload_n m176_85 rfl ?_
        refine h_cv (k := 57) (p := 89) (args := [.int (nI (K ja)), .int (x)]) (rest := []) m176_86 cn_172 (Nat.le_of_ble_eq_true rfl) rfl rfl rfl (t_57 _ _) (Nat.le_of_ble_eq_true rfl) ?_
        generalize hkk : K ja = kk at eka ⊢
        have hk7 := eka.1
        rcases (show kk = 0 ∨ kk = 1 ∨ kk = 2 ∨ kk = 3 ∨ kk = 4 ∨ kk = 5 ∨ kk = 6 by omega) with rfl | rfl | rfl | rfl | rfl | rfl | rfl
        · skip
          refine c_mv_0_0_0 (b := 0) (nv := nI ja) (mv := m 58 (16 + 6 * ja + 1)) ((upm_j _ _ (by decide)).trans ((upm_j _ _ (by decide)).trans ((upm_j _ _ (by decide)).trans (upm_self _ _ _ _)))) (by decide) ((upm_j _ _ (by decide)).trans ((upm_j _ _ (by decide)).trans (upm_self _ _ _ _))) ((upm_j _ _ (by decide)).trans (upm_self _ _ _ _)) (upm_self _ _ _ _) ?_
          refine gwr ?_
          refine g_iret m176_89 rt_176 ?_
          have h9 := hY ja 0 rfl (by omega) rfl (by decide)
          rw [hkk] at h9
          exact h9
        · skip
          refine c_mv_1_0_1 (b := 0) (nv := nI ja) (mv := m 58 (16 + 6 * ja + 1)) ((upm_j _ _ (by decide)).trans ((upm_j _ _ (by decide)).trans ((upm_j _ _ (by decide)).trans (upm_self _ _ _ _)))) (by decide) ((upm_j _ _ (by decide)).trans ((upm_j _ _ (by decide)).trans (upm_self _ _ _ _))) ((upm_j _ _ (by decide)).trans (upm_self _ _ _ _)) (upm_self _ _ _ _) ?_
          refine gwr ?_
          refine g_iret m176_89 rt_176 ?_
          have h9 := hY ja 0 rfl (by omega) rfl (by decide)
          rw [hkk] at h9
          exact h9
        · skip
          refine c_mv_2_0_2 (b := 0) (nv := nI ja) (mv := m 58 (16 + 6 * ja + 1)) ((upm_j _ _ (by decide)).trans ((upm_j _ _ (by decide)).trans ((upm_j _ _ (by decide)).trans (upm_self _ _ _ _)))) (by decide) ((upm_j _ _ (by decide)).trans ((upm_j _ _ (by decide)).trans (upm_self _ _ _ _))) ((upm_j _ _ (by decide)).trans (upm_self _ _ _ _)) (upm_self _ _ _ _) ?_
          refine gwr ?_
          refine g_iret m176_89 rt_176 ?_
          have h9 := hY ja 0 rfl (by omega) rfl (by decide)
          rw [hkk] at h9
          exact h9
        · skip
          refine c_mv_3_0_3 (b := 0) (nv := nI ja) (mv := m 58 (16 + 6 * ja + 1)) ((upm_j _ _ (by decide)).trans ((upm_j _ _ (by decide)).trans ((upm_j _ _ (by decide)).trans (upm_self _ _ _ _)))) (by decide) ((upm_j _ _ (by decide)).trans ((upm_j _ _ (by decide)).trans (upm_self _ _ _ _))) ((upm_j _ _ (by decide)).trans (upm_self _ _ _ _)) (upm_self _ _ _ _) ?_
          refine gwr ?_
          refine g_iret m176_89 rt_176 ?_
          have h9 := hY ja 0 rfl (by omega) rfl (by decide)
          rw [hkk] at h9
          exact h9
        · skip
          refine c_mv_4_0_4 (b := 0) (nv := nI ja) (mv := m 58 (16 + 6 * ja + 1)) ((upm_j _ _ (by decide)).trans ((upm_j _ _ (by decide)).trans ((upm_j _ _ (by decide)).trans (upm_self _ _ _ _)))) (by decide) ((upm_j _ _ (by decide)).trans ((upm_j _ _ (by decide)).trans (upm_self _ _ _ _))) ((upm_j _ _ (by decide)).trans (upm_self _ _ _ _)) (upm_self _ _ _ _) ?_
          refine gwr ?_
          refine g_iret m176_89 rt_176 ?_
          have h9 := hY ja 0 rfl (by omega) rfl (by decide)
          rw [hkk] at h9
          exact h9
        · skip
          refine c_mv_5_0_5 (b := 0) (nv := nI ja) (mv := m 58 (16 + 6 * ja + 1)) ((upm_j _ _ (by decide)).trans ((upm_j _ _ (by decide)).trans ((upm_j _ _ (by decide)).trans (upm_self _ _ _ _)))) (by decide) ((upm_j _ _ (by decide)).trans ((upm_j _ _ (by decide)).trans (upm_self _ _ _ _))) ((upm_j _ _ (by decide)).trans (upm_self _ _ _ _)) (upm_self _ _ _ _) ?_
          refine gwr ?_
          refine g_iret m176_89 rt_176 ?_
          have h9 := hY ja 0 rfl (by omega) rfl (by decide)
          rw [hkk] at h9
          exact h9
        · skip
          refine c_mv_6_0_6 (b := 0) (nv := nI ja) (mv := m 58 (16 + 6 * ja + 1)) ((upm_j _ _ (by decide)).trans ((upm_j _ _ (by decide)).trans ((upm_j _ _ (by decide)).trans (upm_self _ _ _ _)))) (by decide) ((upm_j _ _ (by decide)).trans ((upm_j _ _ (by decide)).trans (upm_self _ _ _ _))) ((upm_j _ _ (by decide)).trans (upm_self _ _ _ _)) (upm_self _ _ _ _) ?_
          refine gwr ?_
          refine g_iret m176_89 rt_176 ?_
          have h9 := hY ja 0 rfl (by omega) rfl (by decide)
          rw [hkk] at h9
          exact h9
      · skip
        refine gs m176_55 ?_
        refine gwpc (pc' := 90) rfl ?_
        refine g_aload_n m176_90 rfl ?_
        refine g_aload_n m176_91 rfl ?_
        refine h_gfI (k := 57) (p := 89) m176_92 rfl (t_57 _ _) rfl ((upm_j _ _ (by decide)).trans ((upm_j _ _ (by decide)).trans (upm_self _ _ _ _))) ?_
        refine g_iload_n m176_95 rfl ?_
        refine h_cv (k := 57) (p := 89) (args := [.int (nI (K ja)), .int (x)]) (rest := []) m176_96 cn_174 (Nat.le_of_ble_eq_true rfl) rfl rfl rfl (t_57 _ _) (Nat.le_of_ble_eq_true rfl) ?_
        generalize hkk : K ja = kk at eka ⊢
        have hk7 := eka.1
        rcases (show kk = 0 ∨ kk = 1 ∨ kk = 2 ∨ kk = 3 ∨ kk = 4 ∨ kk = 5 ∨ kk = 6 by omega) with rfl | rfl | rfl | rfl | rfl | rfl | rfl
        · skip
          refine c_mv_0_1_0 (b := 0) (nv := nI ja) (mv := m 58 (16 + 6 * ja + 1)) ((upm_j _ _ (by decide)).trans ((upm_j _ _ (by decide)).trans ((upm_j _ _ (by decide)).trans (upm_self _ _ _ _)))) (by decide) ((upm_j _ _ (by decide)).trans ((upm_j _ _ (by decide)).trans (upm_self _ _ _ _))) ((upm_j _ _ (by decide)).trans (upm_self _ _ _ _)) (upm_self _ _ _ _) ?_
          refine gwr ?_
          refine g_iret m176_99 rt_176 ?_
          have h9 := hY ja 1 rfl (by omega) rfl (by decide)
          rw [hkk] at h9
          exact h9
        · skip
          refine c_mv_1_1_1 (b := 0) (nv := nI ja) (mv := m 58 (16 + 6 * ja + 1)) ((upm_j _ _ (by decide)).trans ((upm_j _ _ (by decide)).trans ((upm_j _ _ (by decide)).trans (upm_self _ _ _ _)))) (by decide) ((upm_j _ _ (by decide)).trans ((upm_j _ _ (by decide)).trans (upm_self _ _ _ _))) ((upm_j _ _ (by decide)).trans (upm_self _ _ _ _)) (upm_self _ _ _ _) ?_
          refine gwr ?_
          refine g_iret m176_99 rt_176 ?_
          have h9 := hY ja 1 rfl (by omega) rfl (by decide)
          rw [hkk] at h9
          exact h9
        · skip
          refine c_mv_2_1_2 (b := 0) (nv := nI ja) (mv := m 58 (16 + 6 * ja + 1)) ((upm_j _ _ (by decide)).trans ((upm_j _ _ (by decide)).trans ((upm_j _ _ (by decide)).trans (upm_self _ _ _ _)))) (by decide) ((upm_j _ _ (by decide)).trans ((upm_j _ _ (by decide)).trans (upm_self _ _ _ _))) ((upm_j _ _ (by decide)).trans (upm_self _ _ _ _)) (upm_self _ _ _ _) ?_
          refine gwr ?_
          refine g_iret m176_99 rt_176 ?_
          have h9 := hY ja 1 rfl (by omega) rfl (by decide)
          rw [hkk] at h9
          exact h9
        · skip
          refine c_mv_3_1_3 (b := 0) (nv := nI ja) (mv := m 58 (16 + 6 * ja + 1)) ((upm_j _ _ (by decide)).trans ((upm_j _ _ (by decide)).trans ((upm_j _ _ (by decide)).trans (upm_self _ _ _ _)))) (by decide) ((upm_j _ _ (by decide)).trans ((upm_j _ _ (by decide)).trans (upm_self _ _ _ _))) ((upm_j _ _ (by decide)).trans (upm_self _ _ _ _)) (upm_self _ _ _ _) ?_
          refine gwr ?_
          refine g_iret m176_99 rt_176 ?_
          have h9 := hY ja 1 rfl (by omega) rfl (by decide)
          rw [hkk] at h9
          exact h9
        · skip
          refine c_mv_4_1_4 (b := 0) (nv := nI ja) (mv := m 58 (16 + 6 * ja + 1)) ((upm_j _ _ (by decide)).trans ((upm_j _ _ (by decide)).trans ((upm_j _ _ (by decide)).trans (upm_self _ _ _ _)))) (by decide) ((upm_j _ _ (by decide)).trans ((upm_j _ _ (by decide)).trans (upm_self _ _ _ _))) ((upm_j _ _ (by decide)).trans (upm_self _ _ _ _)) (upm_self _ _ _ _) ?_
          refine gwr ?_
          refine g_iret m176_99 rt_176 ?_
          have h9 := hY ja 1 rfl (by omega) rfl (by decide)
          rw [hkk] at h9
          exact h9
        · skip
          refine c_mv_5_1_5 (b := 0) (nv := nI ja) (mv := m 58 (16 + 6 * ja + 1)) ((upm_j _ _ (by decide)).trans ((upm_j _ _ (by decide)).trans ((upm_j _ _ (by decide)).trans (upm_self _ _ _ _)))) (by decide) ((upm_j _ _ (by decide)).trans ((upm_j _ _ (by decide)).trans (upm_self _ _ _ _))) ((upm_j _ _ (by decide)).trans (upm_self _ _ _ _)) (upm_self _ _ _ _) ?_
          refine gwr ?_
          refine g_iret m176_99 rt_176 ?_
          have h9 := hY ja 1 rfl (by omega) rfl (by decide)
          rw [hkk] at h9
          exact h9
        · skip
          refine c_mv_6_1_6 (b := 0) (nv := nI ja) (mv := m 58 (16 + 6 * ja + 1)) ((upm_j _ _ (by decide)).trans ((upm_j _ _ (by decide)).trans ((upm_j _ _ (by decide)).trans (upm_self _ _ _ _)))) (by decide) ((upm_j _ _ (by decide)).trans ((upm_j _ _ (by decide)).trans (upm_self _ _ _ _))) ((upm_j _ _ (by decide)).trans (upm_self _ _ _ _)) (upm_self _ _ _ _) ?_
          refine gwr ?_
          refine g_iret m176_99 rt_176 ?_
          have h9 := hY ja 1 rfl (by omega) rfl (by decide)
          rw [hkk] at h9
          exact h9
      · skip
        refine gs m176_55 ?_
        refine gwpc (pc' := 100) rfl ?_
        refine g_aload_n m176_100 rfl ?_
        refine g_aload_n m176_101 rfl ?_
        refine h_gfI (k := 57) (p := 89) m176_102 rfl (t_57 _ _) rfl ((upm_j _ _ (by decide)).trans ((upm_j _ _ (by decide)).trans (upm_self _ _ _ _))) ?_
        refine g_iload_n m176_105 rfl ?_
        refine h_cv (k := 57) (p := 89) (args := [.int (nI (K ja)), .int (x)]) (rest := []) m176_106 cn_173 (Nat.le_of_ble_eq_true rfl) rfl rfl rfl (t_57 _ _) (Nat.le_of_ble_eq_true rfl) ?_
        generalize hkk : K ja = kk at eka ⊢
        have hk7 := eka.1
        rcases (show kk = 0 ∨ kk = 1 ∨ kk = 2 ∨ kk = 3 ∨ kk = 4 ∨ kk = 5 ∨ kk = 6 by omega) with rfl | rfl | rfl | rfl | rfl | rfl | rfl
        · skip
          refine c_mv_0_2_0 (b := 0) (nv := nI ja) (mv := m 58 (16 + 6 * ja + 1)) ((upm_j _ _ (by decide)).trans ((upm_j _ _ (by decide)).trans ((upm_j _ _ (by decide)).trans (upm_self _ _ _ _)))) (by decide) ((upm_j _ _ (by decide)).trans ((upm_j _ _ (by decide)).trans (upm_self _ _ _ _))) ((upm_j _ _ (by decide)).trans (upm_self _ _ _ _)) (upm_self _ _ _ _) ?_
          refine gwr ?_
          refine g_iret m176_109 rt_176 ?_
          have h9 := hY ja 2 rfl (by omega) rfl (by decide)
          rw [hkk] at h9
          exact h9
        · skip
          refine c_mv_1_2_1 (b := 0) (nv := nI ja) (mv := m 58 (16 + 6 * ja + 1)) ((upm_j _ _ (by decide)).trans ((upm_j _ _ (by decide)).trans ((upm_j _ _ (by decide)).trans (upm_self _ _ _ _)))) (by decide) ((upm_j _ _ (by decide)).trans ((upm_j _ _ (by decide)).trans (upm_self _ _ _ _))) ((upm_j _ _ (by decide)).trans (upm_self _ _ _ _)) (upm_self _ _ _ _) ?_
          refine gwr ?_
          refine g_iret m176_109 rt_176 ?_
          have h9 := hY ja 2 rfl (by omega) rfl (by decide)
          rw [hkk] at h9
          exact h9
        · skip
          refine c_mv_2_2_2 (b := 0) (nv := nI ja) (mv := m 58 (16 + 6 * ja + 1)) ((upm_j _ _ (by decide)).trans ((upm_j _ _ (by decide)).trans ((upm_j _ _ (by decide)).trans (upm_self _ _ _ _)))) (by decide) ((upm_j _ _ (by decide)).trans ((upm_j _ _ (by decide)).trans (upm_self _ _ _ _))) ((upm_j _ _ (by decide)).trans (upm_self _ _ _ _)) (upm_self _ _ _ _) ?_
          refine gwr ?_
          refine g_iret m176_109 rt_176 ?_
          have h9 := hY ja 2 rfl (by omega) rfl (by decide)
          rw [hkk] at h9
          exact h9
        · skip
          refine c_mv_3_2_3 (b := 0) (nv := nI ja) (mv := m 58 (16 + 6 * ja + 1)) ((upm_j _ _ (by decide)).trans ((upm_j _ _ (by decide)).trans ((upm_j _ _ (by decide)).trans (upm_self _ _ _ _)))) (by decide) ((upm_j _ _ (by decide)).trans ((upm_j _ _ (by decide)).trans (upm_self _ _ _ _))) ((upm_j _ _ (by decide)).trans (upm_self _ _ _ _)) (upm_self _ _ _ _) ?_
          refine gwr ?_
          refine g_iret m176_109 rt_176 ?_
          have h9 := hY ja 2 rfl (by omega) rfl (by decide)
          rw [hkk] at h9
          exact h9
        · skip
          refine c_mv_4_2_4 (b := 0) (nv := nI ja) (mv := m 58 (16 + 6 * ja + 1)) ((upm_j _ _ (by decide)).trans ((upm_j _ _ (by decide)).trans ((upm_j _ _ (by decide)).trans (upm_self _ _ _ _)))) (by decide) ((upm_j _ _ (by decide)).trans ((upm_j _ _ (by decide)).trans (upm_self _ _ _ _))) ((upm_j _ _ (by decide)).trans (upm_self _ _ _ _)) (upm_self _ _ _ _) ?_
          refine gwr ?_
          refine g_iret m176_109 rt_176 ?_
          have h9 := hY ja 2 rfl (by omega) rfl (by decide)
          rw [hkk] at h9
          exact h9
        · skip
          refine c_mv_5_2_5 (b := 0) (nv := nI ja) (mv := m 58 (16 + 6 * ja + 1)) ((upm_j _ _ (by decide)).trans ((upm_j _ _ (by decide)).trans ((upm_j _ _ (by decide)).trans (upm_self _ _ _ _)))) (by decide) ((upm_j _ _ (by decide)).trans ((upm_j _ _ (by decide)).trans (upm_self _ _ _ _))) ((upm_j _ _ (by decide)).trans (upm_self _ _ _ _)) (upm_self _ _ _ _) ?_
          refine gwr ?_
          refine g_iret m176_109 rt_176 ?_
          have h9 := hY ja 2 rfl (by omega) rfl (by decide)
          rw [hkk] at h9
          exact h9
        · skip
          refine c_mv_6_2_6 (b := 0) (nv := nI ja) (mv := m 58 (16 + 6 * ja + 1)) ((upm_j _ _ (by decide)).trans ((upm_j _ _ (by decide)).trans ((upm_j _ _ (by decide)).trans (upm_self _ _ _ _)))) (by decide) ((upm_j _ _ (by decide)).trans ((upm_j _ _ (by decide)).trans (upm_self _ _ _ _))) ((upm_j _ _ (by decide)).trans (upm_self _ _ _ _)) (upm_self _ _ _ _) ?_
          refine gwr ?_
          refine g_iret m176_109 rt_176 ?_
          have h9 := hY ja 2 rfl (by omega) rfl (by decide)
          rw [hkk] at h9
          exact h9
      · skip
        refine gs m176_55 ?_
        refine gwpc (pc' := 110) rfl ?_
        refine g_aload_n m176_110 rfl ?_
        refine g_aload_n m176_111 rfl ?_
        refine h_gfI (k := 57) (p := 89) m176_112 rfl (t_57 _ _) rfl ((upm_j _ _ (by decide)).trans ((upm_j _ _ (by decide)).trans (upm_self _ _ _ _))) ?_
        refine g_iload_n m176_115 rfl ?_
        refine h_cv (k := 57) (p := 89) (args := [.int (nI (K ja)), .int (x)]) (rest := []) m176_116 cn_175 (Nat.le_of_ble_eq_true rfl) rfl rfl rfl (t_57 _ _) (Nat.le_of_ble_eq_true rfl) ?_
        generalize hkk : K ja = kk at eka ⊢
        have hk7 := eka.1
        rcases (show kk = 0 ∨ kk = 1 ∨ kk = 2 ∨ kk = 3 ∨ kk = 4 ∨ kk = 5 ∨ kk = 6 by omega) with rfl | rfl | rfl | rfl | rfl | rfl | rfl
        · skip
          refine c_mv_0_3_0 (b := 0) (nv := nI ja) (mv := m 58 (16 + 6 * ja + 1)) ((upm_j _ _ (by decide)).trans ((upm_j _ _ (by decide)).trans ((upm_j _ _ (by decide)).trans (upm_self _ _ _ _)))) (by decide) ((upm_j _ _ (by decide)).trans ((upm_j _ _ (by decide)).trans (upm_self _ _ _ _))) ((upm_j _ _ (by decide)).trans (upm_self _ _ _ _)) (upm_self _ _ _ _) ?_
          refine gwr ?_
          refine g_iret m176_119 rt_176 ?_
          have h9 := hY ja 3 rfl (by omega) rfl (by decide)
          rw [hkk] at h9
          exact h9
        · skip
          refine c_mv_1_3_1 (b := 0) (nv := nI ja) (mv := m 58 (16 + 6 * ja + 1)) ((upm_j _ _ (by decide)).trans ((upm_j _ _ (by decide)).trans ((upm_j _ _ (by decide)).trans (upm_self _ _ _ _)))) (by decide) ((upm_j _ _ (by decide)).trans ((upm_j _ _ (by decide)).trans (upm_self _ _ _ _))) ((upm_j _ _ (by decide)).trans (upm_self _ _ _ _)) (upm_self _ _ _ _) ?_
          refine gwr ?_
          refine g_iret m176_119 rt_176 ?_
          have h9 := hY ja 3 rfl (by omega) rfl (by decide)
          rw [hkk] at h9
          exact h9
        · skip
          refine c_mv_2_3_2 (b := 0) (nv := nI ja) (mv := m 58 (16 + 6 * ja + 1)) ((upm_j _ _ (by decide)).trans ((upm_j _ _ (by decide)).trans ((upm_j _ _ (by decide)).trans (upm_self _ _ _ _)))) (by decide) ((upm_j _ _ (by decide)).trans ((upm_j _ _ (by decide)).trans (upm_self _ _ _ _))) ((upm_j _ _ (by decide)).trans (upm_self _ _ _ _)) (upm_self _ _ _ _) ?_
          refine gwr ?_
          refine g_iret m176_119 rt_176 ?_
          have h9 := hY ja 3 rfl (by omega) rfl (by decide)
          rw [hkk] at h9
          exact h9
        · skip
          refine c_mv_3_3_3 (b := 0) (nv := nI ja) (mv := m 58 (16 + 6 * ja + 1)) ((upm_j _ _ (by decide)).trans ((upm_j _ _ (by decide)).trans ((upm_j _ _ (by decide)).trans (upm_self _ _ _ _)))) (by decide) ((upm_j _ _ (by decide)).trans ((upm_j _ _ (by decide)).trans (upm_self _ _ _ _))) ((upm_j _ _ (by decide)).trans (upm_self _ _ _ _)) (upm_self _ _ _ _) ?_
          refine gwr ?_
          refine g_iret m176_119 rt_176 ?_
          have h9 := hY ja 3 rfl (by omega) rfl (by decide)
          rw [hkk] at h9
          exact h9
        · skip
          refine c_mv_4_3_4 (b := 0) (nv := nI ja) (mv := m 58 (16 + 6 * ja + 1)) ((upm_j _ _ (by decide)).trans ((upm_j _ _ (by decide)).trans ((upm_j _ _ (by decide)).trans (upm_self _ _ _ _)))) (by decide) ((upm_j _ _ (by decide)).trans ((upm_j _ _ (by decide)).trans (upm_self _ _ _ _))) ((upm_j _ _ (by decide)).trans (upm_self _ _ _ _)) (upm_self _ _ _ _) ?_
          refine gwr ?_
          refine g_iret m176_119 rt_176 ?_
          have h9 := hY ja 3 rfl (by omega) rfl (by decide)
          rw [hkk] at h9
          exact h9
        · skip
          refine c_mv_5_3_5 (b := 0) (nv := nI ja) (mv := m 58 (16 + 6 * ja + 1)) ((upm_j _ _ (by decide)).trans ((upm_j _ _ (by decide)).trans ((upm_j _ _ (by decide)).trans (upm_self _ _ _ _)))) (by decide) ((upm_j _ _ (by decide)).trans ((upm_j _ _ (by decide)).trans (upm_self _ _ _ _))) ((upm_j _ _ (by decide)).trans (upm_self _ _ _ _)) (upm_self _ _ _ _) ?_
          refine gwr ?_
          refine g_iret m176_119 rt_176 ?_
          have h9 := hY ja 3 rfl (by omega) rfl (by decide)
          rw [hkk] at h9
          exact h9
        · skip
          refine c_mv_6_3_6 (b := 0) (nv := nI ja) (mv := m 58 (16 + 6 * ja + 1)) ((upm_j _ _ (by decide)).trans ((upm_j _ _ (by decide)).trans ((upm_j _ _ (by decide)).trans (upm_self _ _ _ _)))) (by decide) ((upm_j _ _ (by decide)).trans ((upm_j _ _ (by decide)).trans (upm_self _ _ _ _))) ((upm_j _ _ (by decide)).trans (upm_self _ _ _ _)) (upm_self _ _ _ _) ?_
          refine gwr ?_
          refine g_iret m176_119 rt_176 ?_
          have h9 := hY ja 3 rfl (by omega) rfl (by decide)
          rw [hkk] at h9
          exact h9
    · skip
      refine gwr ?_
      refine h_if_neT (xi := 0) (zi := 0) m176_14 rfl rfl (by decide) ?_
      refine g_aload_n m176_17 rfl ?_
      refine g_ldci m176_18 rfl ?_
      refine h_cv (k := 57) (p := 89) (args := [.int (-1000000001)]) (rest := []) m176_20 cn_108 (Nat.le_of_ble_eq_true rfl) rfl rfl rfl (t_57 _ _) (Nat.le_of_ble_eq_true rfl) ?_
      refine c_errs (e := 1) (by decide) (by decide) (by decide) ?_
      refine gwr ?_
      refine g_iret m176_23 rt_176 ?_
      exact hE1 (by omega)
  · skip
    refine gwr ?_
    refine h_if_eqT (xi := 0) (zi := 0) m176_5 rfl rfl (by decide) ?_
    refine g_aload_n m176_17 rfl ?_
    refine g_ldci m176_18 rfl ?_
    refine h_cv (k := 57) (p := 89) (args := [.int (-1000000001)]) (rest := []) m176_20 cn_108 (Nat.le_of_ble_eq_true rfl) rfl rfl rfl (t_57 _ _) (Nat.le_of_ble_eq_true rfl) ?_
    refine c_errs (e := 1) (by decide) (by decide) (by decide) ?_
    refine gwr ?_
    refine g_iret m176_23 rt_176 ?_
    exact hE1 (by omega)
end
end
section
/-! A TEXT: the class; it makes a law, three cells behind the others -/
section
variable {xs : List Int32} {d y : Nat} {Q : QT} {pc : Nat} {L : LoS} {st : List Value} {h : AH} {mc ms nx kd a b : Nat} {v : Int32}
theorem g_new {n : Nat} (hr : smI y pc = some (.new n, nx, kd, a, b, v)) (h1 : 1 ≤ mc) (h2 : b ≤ ms) (g : gw xs (WP xs d) y Q nx L (.ref (32 + h.length) :: st) (h ++ [.inr (a, dfV a b)]) (mc - 1) (ms - b)) : gw xs (WP xs d) y Q pc L st h mc ms := gs hr ⟨h1, h2, g⟩
theorem g_newi {z : Nat} (hr : smI y pc = some (.newarray .int, nx, kd, 0, b, v)) (hz : z ≤ 100000) (h1 : 1 ≤ mc) (h2 : z ≤ ms) (g : gw xs (WP xs d) y Q nx L (.ref (32 + h.length) :: st) (h ++ [.inl (0, List.replicate z 0)]) (mc - 1) (ms - z)) : gw xs (WP xs d) y Q pc L (.int (nI z) :: st) h mc ms := gs hr (by
  show ¬ nI z < 0 ∧ (nI z).toNatClampNeg ≤ 100000 ∧ 1 ≤ mc ∧ (nI z).toNatClampNeg ≤ ms ∧ gw xs (WP xs d) y Q nx L (.ref (32 + h.length) :: st) (h ++ [.inl (0, List.replicate (nI z).toNatClampNeg 0)]) (mc - 1) (ms - (nI z).toNatClampNeg)
  rw [nI_clamp (by omega)]
  exact ⟨nI_pos (by omega), hz, h1, h2, g⟩)
theorem g_clone {n p : Nat} {f : List Int32} (hr : smI y pc = some (.invokevirtual n, nx, 5, a, b, v)) (hp : 32 ≤ p) (hcat : catS st ≤ 8) (e : smC xs h p = some (.inl (0, f))) (h1 : 1 ≤ mc) (h2 : f.length ≤ ms) (g : gw xs (WP xs d) y Q nx L (.ref (32 + h.length) :: st) (h ++ [.inl (0, f)]) (mc - 1) (ms - f.length)) : gw xs (WP xs d) y Q pc L (.ref p :: st) h mc ms := gs hr (by
  show 32 ≤ p ∧ catS st ≤ 8 ∧ cA xs h p _
  exact ⟨hp, hcat, cA_i e ⟨rfl, h1, h2, g⟩⟩)
theorem g_ckc {n p : Nat} {f : List Int32} (hr : smI y pc = some (.checkcast n, nx, kd, a, b, v)) (hp : 32 ≤ p) (e : smC xs h p = some (.inl (0, f))) (g : gw xs (WP xs d) y Q nx L (.ref p :: st) h mc ms) : gw xs (WP xs d) y Q pc L (.ref p :: st) h mc ms := gs hr (by
  show 32 ≤ p ∧ cA xs h p _
  exact ⟨hp, cA_i e ⟨rfl, g⟩⟩)
theorem g_obj {n p : Nat} (hr : smI y pc = some (.invokespecial n, nx, 12, a, b, v)) (hcat : catS st ≤ 8) (g : gw xs (WP xs d) y Q nx L st h mc ms) : gw xs (WP xs d) y Q pc L (.ref p :: st) h mc ms := gs hr ⟨hcat, g⟩
theorem g_csm {n : Nat} {args rest : List Value} (mc2 ms2 : Nat) (hr : smI y pc = some (.invokestatic n, nx, 0, a, b, v)) (hb : b ≤ st.length) (ht : (st.take b).reverse = args) (hd : st.drop b = rest) (hcat : catS rest ≤ 8) (h1 : mc2 ≤ mc) (h2 : ms2 ≤ ms) (g : WP xs d a mc2 ms2 args h (fun r h2 => gw xs (WP xs d) y Q nx L (r.toList ++ rest) h2 (mc - mc2) (ms - ms2))) : gw xs (WP xs d) y Q pc L st h mc ms := gs hr (by
  subst ht
  subst hd
  exact ⟨hb, cl mc2 ms2 hcat h1 h2 g⟩)
theorem g_acp0 {n p q c : Nat} {f f2 : List Int32} (hr : smI y pc = some (.invokestatic n, nx, 4, a, b, v)) (hp : 32 ≤ p) (hq : 32 ≤ q) (e1 : smC xs h p = some (.inl (0, f))) (e2 : smC xs h q = some (.inl (0, f2))) (hc1 : c ≤ f.length) (hc2 : c ≤ f2.length) (hc : c < 2 ^ 31) (hcat : catS st ≤ 8) (g : gw xs (WP xs d) y Q nx L st (h.set (q - 32) (.inl (0, cpL f f2 0 0 c))) mc ms) : gw xs (WP xs d) y Q pc L (.int (nI c) :: .int 0 :: .ref q :: .int 0 :: .ref p :: st) h mc ms := gs hr (by
  have c0 : (0 : Int32).toNatClampNeg = 0 := rfl
  have c3 : (nI c).toNatClampNeg = c := nI_clamp hc
  have n0 : ¬ (0 : Int32) < 0 := by decide
  show 32 ≤ p ∧ 32 ≤ q ∧ catS st ≤ 8 ∧ cA xs h p _
  refine ⟨hp, hq, hcat, cA_i e1 (cA_i e2 ?_)⟩
  refine ⟨rfl, Or.inl rfl, n0, n0, nI_pos hc, ?_, ?_, fun q => absurd q (by decide), ?_⟩
  · rw [c0, c3]
    omega
  · rw [c0, c3]
    omega
  · rw [c0, c3]
    exact g)
end
theorem smC_al {xs : List Int32} {h t : AH} {p : Nat} {c : AC} (e : smC xs h p = some c) : smC xs (h ++ t) p = some c := by
  unfold smC at e ⊢
  by_cases hp : p < 32
  · rw [if_pos hp] at e ⊢
    exact e
  · rw [if_neg hp] at e ⊢
    rw [List.getElem?_append_left (List.getElem?_eq_some_iff.mp e).1]
    exact e
theorem smC_ar {xs : List Int32} {h t : AH} {p i : Nat} {c : AC} (hp : p = 32 + h.length + i) (e : t[i]? = some c) : smC xs (h ++ t) p = some c := by
  subst hp
  unfold smC
  rw [if_neg (by omega), List.getElem?_append_right (by omega), show 32 + h.length + i - 32 - h.length = i by omega]
  exact e
theorem set_ar {h t : AH} {j i : Nat} {c : AC} (hj : j = h.length + i) : (h ++ t).set j c = h ++ t.set i c := by
  subst hj
  rw [List.set_append_right _ _ (by omega), Nat.add_sub_cancel_left]
theorem rep_map (z : Nat) : (List.replicate z (0 : Int32)) = (List.range z).map (fun _ => 0) := by
  apply List.ext_getElem?
  intro i
  rw [List.getElem?_replicate, List.getElem?_map]
  by_cases h : i < z
  · rw [if_pos h, List.getElem?_range h]
    rfl
  · rw [if_neg h, List.getElem?_eq_none (by rw [List.length_range]; omega)]
    rfl
theorem take_map (z n : Nat) (w : Nat → Int32) (h : z ≤ n) : ((List.range n).map w).take z = (List.range z).map w := by
  apply List.ext_getElem?
  intro i
  rw [List.getElem?_take]
  by_cases hi : i < z
  · rw [if_pos hi, range_at w (show i < n by omega), range_at w hi]
  · rw [if_neg hi, List.getElem?_eq_none (by rw [List.length_map, List.length_range]; omega)]
section
variable {xs : List Int32} {d : Nat} {h : AH} {Q : QT} {m : MW} {ln : Nat → Nat} {N : Nat}
set_option maxRecDepth 20000 in
set_option maxHeartbeats 40000000 in
theorem c_copyOf {p z : Nat} {w : Nat → Int32} (hp : 32 ≤ p) (e : smC xs h p = some (.inl (0, (List.range 50).map w))) (hz : z ≤ 50) (hQ : Q (some (.ref (32 + h.length))) (h ++ [.inl (0, (List.range z).map w)])) : WP xs (d + 1) 8 1 z [.ref p, .int (nI z)] h Q := by
  have l50 : ((List.range 50).map w).length = 50 := by rw [List.length_map, List.length_range]
  refine wp_x mx_8 (L := [some (.ref p), some (.int (nI z)), none]) (Nat.le_of_ble_eq_true rfl) rfl ?_
  refine g_iload_n m8_0 rfl ?_
  refine g_aload_n m8_1 rfl ?_
  refine g_alen (n := 50) m8_2 e (Or.inl rfl) l50 ?_
  refine h_ic_ne (xi := ((z : Nat) : Int)) (zi := 50) m8_3 (nI_toInt (by omega)) rfl (fun c1 => ?_) (fun c1 => ?_)
  · obtain rfl : z = 50 := by omega
    refine g_aload_n m8_6 rfl ?_
    refine g_clone m8_7 hp (Nat.le_of_ble_eq_true rfl) e (Nat.le_refl _) (by omega) ?_
    refine g_ckc m8_10 (by omega) (smC_ar (i := 0) (by omega) rfl) ?_
    refine g_aret m8_13 ?_
    exact hQ
  · refine g_iload_n m8_14 rfl ?_
    refine g_newi m8_15 (by omega) (Nat.le_refl _) (Nat.le_refl _) ?_
    refine g_astore_n (L2 := [some (.ref p), some (.int (nI z)), some (.ref (32 + h.length))]) m8_17 rfl rfl ?_
    refine g_aload_n m8_18 rfl ?_
    refine g_iconst m8_19 ?_
    refine g_aload_n m8_20 rfl ?_
    refine g_iconst m8_21 ?_
    refine g_aload_n m8_22 rfl ?_
    refine g_alen (n := 50) m8_23 (smC_al e) (Or.inl rfl) l50 ?_
    refine g_iload_n m8_24 rfl ?_
    refine g_min (u := nI z) m8_25 (Nat.le_of_ble_eq_true rfl) (if_pos ((lt_k (nI_toInt (by omega)) (nI_toInt (n := 50) (by decide))).mpr (by omega))) ?_
    refine g_acp0 m8_28 hp (by omega) (smC_al e) (smC_ar (i := 0) (by omega) rfl) (by omega) (by rw [List.length_replicate]; exact Nat.le_refl _) (by omega) (Nat.le_of_ble_eq_true rfl) ?_
    refine gwh (h' := h ++ [.inl (0, (List.range z).map w)]) ?_ ?_
    · rw [set_ar (i := 0) (by omega), rep_map, cpL_H _ _ (by omega) (by omega)]
      show h ++ [_] = _
      congr 4
      apply List.map_congr_left
      intro j hj
      rw [if_pos ⟨Nat.zero_le _, by rw [Nat.zero_add]; exact List.mem_range.mp hj⟩, Nat.zero_add, Nat.sub_zero]
    · refine g_aload_n m8_31 rfl ?_
      refine g_aret m8_32 ?_
      exact hQ
set_option maxRecDepth 20000 in
set_option maxHeartbeats 40000000 in
theorem c_lawInit {p z : Nat} {w : Nat → Int32} (hp : 32 ≤ p) (e : smC xs h p = some (.inl (0, (List.range 50).map w))) (hz : z ≤ 50) (hQ : Q none (h ++ [.inr (1, [.ref (33 + h.length), .ref (34 + h.length)]), .inl (0, (List.range z).map w), .inl (0, List.replicate z 0)])) : WP xs (d + 2) 13 2 (z + z) [.ref (32 + h.length), .ref p, .int (nI z)] (h ++ [.inr (1, [.null, .null])]) Q := by
  refine wp_x mx_13 (L := [some (.ref (32 + h.length)), some (.ref p), some (.int (nI z))]) (Nat.le_of_ble_eq_true rfl) rfl ?_
  refine g_aload_n m13_0 rfl ?_
  refine g_obj m13_1 (Nat.le_of_ble_eq_true rfl) ?_
  refine g_aload_n m13_4 rfl ?_
  refine g_aload_n m13_5 rfl ?_
  refine g_iload_n m13_6 rfl ?_
  refine g_csm (args := [.ref p, .int (nI z)]) (rest := [.ref (32 + h.length)]) 1 z m13_7 (Nat.le_of_ble_eq_true rfl) rfl rfl (Nat.le_of_ble_eq_true rfl) (by decide) (by omega) ?_
  refine c_copyOf hp (smC_al e) hz ?_
  refine gwr ?_
  refine gwst (st' := [.ref (33 + h.length), .ref (32 + h.length)]) (by rw [List.length_append]; show [Value.ref (32 + (h.length + 1)), _] = _; rw [show 32 + (h.length + 1) = 33 + h.length by omega]) ?_
  refine gwh (h' := h ++ [.inr (1, [.null, .null]), .inl (0, (List.range z).map w)]) (by rw [List.append_assoc]; rfl) ?_
  refine g_pf (fs2 := [.ref (33 + h.length), .null]) (i := h.length) (h2 := h ++ [.inr (1, [.ref (33 + h.length), .null]), .inl (0, (List.range z).map w)]) m13_10 rfl (by omega) (smC_ar (i := 0) (by omega) rfl) (by decide) (by exact trivial) rfl (by omega) (set_ar (i := 0) (by omega)) ?_
  refine g_aload_n m13_13 rfl ?_
  refine g_iload_n m13_14 rfl ?_
  refine g_newi m13_15 (by omega) (by decide) (by omega) ?_
  refine gwst (st' := [.ref (34 + h.length), .ref (32 + h.length)]) (by rw [List.length_append]; show [Value.ref (32 + (h.length + 2)), _] = _; rw [show 32 + (h.length + 2) = 34 + h.length by omega]) ?_
  refine gwh (h' := h ++ [.inr (1, [.ref (33 + h.length), .null]), .inl (0, (List.range z).map w), .inl (0, List.replicate z 0)]) (by rw [List.append_assoc]; rfl) ?_
  refine g_pf (fs2 := [.ref (33 + h.length), .ref (34 + h.length)]) (i := h.length) (h2 := h ++ [.inr (1, [.ref (33 + h.length), .ref (34 + h.length)]), .inl (0, (List.range z).map w), .inl (0, List.replicate z 0)]) m13_17 rfl (by omega) (smC_ar (i := 0) (by omega) rfl) (show 1 < 2 by decide) (by exact trivial) rfl (by omega) (set_ar (i := 0) (by omega)) ?_
  refine g_vret m13_20 ?_
  exact hQ
/-- a law more, of the codes w -/
def newM (m : MW) (N : Nat) (w : Nat → Int32) : MW := fun k j => if k = 70 + 3 * N then w j else if k = 71 + 3 * N then 0 else m k j
def newL (ln : Nat → Nat) (N z : Nat) : Nat → Nat := fun i => if i = N then z else ln i
theorem newM_o {m : MW} {N k : Nat} {w : Nat → Int32} (h : k < 69 + 3 * N) : newM m N w k = m k := by
  funext j
  unfold newM
  rw [if_neg (by omega), if_neg (by omega)]
theorem tmF_new {ln : Nat → Nat} {N z k : Nat} (h : k < 69 + 3 * N) : tmF (newL ln N z) k = tmF ln k := by
  unfold tmF newL
  by_cases h1 : k < 69
  · rw [if_pos h1, if_pos h1]
  · rw [if_neg h1, if_neg h1, if_neg (show ¬ (k - 69) / 3 = N by omega)]
theorem H_new (m : MW) (ln : Nat → Nat) (N z : Nat) (w : Nat → Int32) : H (newM m N w) (newL ln N z) (N + 1) = H m ln N ++ [.inr (1, [.ref (102 + 3 * N), .ref (103 + 3 * N)]), .inl (0, (List.range z).map w), .inl (0, List.replicate z 0)] := by
  have e0 : celT (tmF (newL ln N z) (69 + 3 * N)) (newM m N w (69 + 3 * N)) = .inr (1, [.ref (102 + 3 * N), .ref (103 + 3 * N)]) := by
    rw [(tLo (ln := newL ln N z) (N := N + 1) (i := N) (by omega)).2]
    show (Sum.inr (1, [fV (102 + 3 * N) _, fV (103 + 3 * N) _]) : AC) = _
    rw [show 102 + 3 * N = (99 + 3 * N) + 3 by omega, show 103 + 3 * N = (100 + 3 * N) + 3 by omega]
    rfl
  have e1 : celT (tmF (newL ln N z) (70 + 3 * N)) (newM m N w (70 + 3 * N)) = .inl (0, (List.range z).map w) := by
    rw [tmA (tLc (ln := newL ln N z) (N := N + 1) (i := N) (by omega))]
    have e : newL ln N z N = z := if_pos rfl
    rw [e]
    congr 2
    apply List.map_congr_left
    intro j _
    exact if_pos rfl
  have e2 : celT (tmF (newL ln N z) (71 + 3 * N)) (newM m N w (71 + 3 * N)) = .inl (0, List.replicate z 0) := by
    rw [tmA (tLw (ln := newL ln N z) (N := N + 1) (i := N) (by omega)), rep_map]
    have e : newL ln N z N = z := if_pos rfl
    rw [e]
    congr 2
    apply List.map_congr_left
    intro j _
    unfold newM
    rw [if_neg (by omega), if_pos rfl]
  unfold H
  rw [show 69 + 3 * (N + 1) = 69 + 3 * N + 1 + 1 + 1 by omega, List.range_succ, List.range_succ, List.range_succ, List.map_append, List.map_append, List.map_append, List.append_assoc, List.append_assoc]
  congr 1
  · apply List.map_congr_left
    intro k hk
    have hk2 : k < 69 + 3 * N := List.mem_range.mp hk
    rw [tmF_new hk2, newM_o hk2]
  · show [celT (tmF (newL ln N z) (69 + 3 * N)) (newM m N w (69 + 3 * N)), celT (tmF (newL ln N z) (69 + 3 * N + 1)) (newM m N w (69 + 3 * N + 1)), celT (tmF (newL ln N z) (69 + 3 * N + 1 + 1)) (newM m N w (69 + 3 * N + 1 + 1))] = _
    rw [show 69 + 3 * N + 1 + 1 = 71 + 3 * N by omega, show 69 + 3 * N + 1 = 70 + 3 * N by omega, e0, e1, e2]
set_option maxRecDepth 20000 in
set_option maxHeartbeats 40000000 in
theorem x_text {v : Int32} {f : Nat} (hf : m 37 2 = nI f) (hf50 : f ≤ 50) (hT : Tap m) (hN6 : N ≤ 600) (hE1 : (v.toInt < 0 ∨ 1 < v.toInt) → Q (some (.int (-1000000000 - nI 1))) (H (erm m 1) ln N)) (hN : ∀ u : Nat, v = nI u → u ≤ 1 → ¬ isText (m 38) f u → ∀ m2, (∀ k j, ¬ (k = 44 ∨ k = 43) → m2 k j = m k j) → Q (some (.int (-10 - nI (TR (m 38) f u).2.1))) (H (upm m2 37 2 0) ln N)) (hY : ∀ u : Nat, v = nI u → u ≤ 1 → isText (m 38) f u → ∀ m2, (∀ k j, ¬ (k = 44 ∨ k = 43) → m2 k j = m k j) → ∀ (w : Nat → Int32) (z : Nat), z = (TR (m 38) f u).1.length → z ≤ 50 → (∀ j, j < z → w j = (TR (m 38) f u).1.getD j 0) → Q (some (.int 1)) (H (upm (newM (upm m2 37 2 0) N w) 1 (11 + u) (nI (N + 1))) (newL ln N z) (N + 1))) : WP xs (d + 902) 68 3 102 [.ref (32), .int (v)] (H m ln N) Q := by
  refine wp_x mx_68 (L := [some (.ref (32)), some (.int (v)), none, none]) (Nat.le_of_ble_eq_true rfl) rfl ?_
  refine g_iload_n m68_0 rfl ?_
  refine g_iconst m68_1 ?_
  refine g_cs (args := [.int (v), .int (1)]) (rest := []) 0 (Or.inl rfl) m68_2 (Nat.le_of_ble_eq_true rfl) rfl rfl (Nat.le_of_ble_eq_true rfl) ?_
  refine c_within (M := 1) rfl (fun u ev a_2 => ?_) (fun a_2 => ?_)
  · have hu : u ≤ 1 := by omega
    subst ev
    refine gwr ?_
    refine h_if_neF (xi := 1) (zi := 0) m68_5 rfl rfl (by decide) ?_
    refine g_aload_n m68_14 rfl ?_
    refine h_gfR (c := 75) (k := 0) (p := 32) m68_15 rfl (t_0 _ _) rfl (Nat.le_of_ble_eq_true rfl) ?_
    refine g_aload_n m68_18 rfl ?_
    refine h_gfR (c := 69) (k := 0) (p := 32) m68_19 rfl (t_0 _ _) rfl (Nat.le_of_ble_eq_true rfl) ?_
    refine h_gfI (k := 37) (p := 69) m68_22 rfl (t_37 _ _) rfl hf ?_
    have key : gw xs (WP xs (d + 901)) 68 Q 36 [some (.ref (32)), some (.int (nI u)), none, none] [.ref (3 + u), .int (nI f), .ref 75] (H m ln N) 3 102 := by
      refine h_cv (k := 43) (p := 75) (args := [.int (nI f), .ref (3 + u)]) (rest := []) m68_36 cn_25 (Nat.le_of_ble_eq_true rfl) rfl rfl rfl (t_43 _ _) (Nat.le_of_ble_eq_true rfl) ?_
      refine c_readTape hu hf50 hT (fun m2 hF2 hit hsz hcd => ?_) (fun m2 hF2 hit => ?_)
      · have hg := PL_ok (m 38) f u 400 0 0 0 (by omega)
        have hz50 : (TR (m 38) f u).1.length ≤ 50 := by
          have h1 := (hg.2.2 hit.1).2.2
          have h2 : (TR (m 38) f u).2.1 = f := hit.2
          have h3 : (TR (m 38) f u).1.length ≤ (TR (m 38) f u).2.1 - 0 := h1
          omega
        refine gwr ?_
        refine g_istore_n (L2 := [some (.ref (32)), some (.int (nI u)), some (.int (-1)), none]) m68_39 rfl rfl ?_
        refine g_aload_n m68_40 rfl ?_
        refine h_gfR (c := 69) (k := 0) (p := 32) m68_41 rfl (t_0 _ _) rfl (Nat.le_of_ble_eq_true rfl) ?_
        refine g_iconst m68_44 ?_
        refine h_pfI (k := 37) (p := 69) m68_45 rfl (t_37 _ _) rfl trivial ?_
        refine g_iload_n m68_48 rfl ?_
        refine h_if_ltT (xi := -1) (zi := 0) m68_49 rfl rfl (by decide) ?_
        refine g_new m68_57 (by decide) (by decide) ?_
        refine gwh (h' := H (upm m2 37 2 0) ln N ++ [.inr (1, [.null, .null])]) rfl ?_
        refine g_dup m68_60 rfl ?_
        refine g_aload_n m68_61 rfl ?_
        refine g_gf (u := .ref 75) m68_62 (smC_al ((smC_H (k := 0) rfl (t_0 ln N).1).trans (congrArg some (tmO (t_0 ln N))))) rfl ?_
        refine g_gf (u := .ref 76) m68_65 (smC_al ((smC_H (k := 43) rfl (t_43 ln N).1).trans (congrArg some (tmO (t_43 ln N))))) rfl ?_
        refine g_aload_n m68_68 rfl ?_
        refine g_gf (u := .ref 75) m68_69 (smC_al ((smC_H (k := 0) rfl (t_0 ln N).1).trans (congrArg some (tmO (t_0 ln N))))) rfl ?_
        refine g_gf (u := .int (nI (TR (m 38) f u).1.length)) m68_72 (smC_al ((smC_H (k := 43) rfl (t_43 ln N).1).trans (congrArg some (tmO (t_43 ln N))))) (by rw [← hsz]; rfl) ?_
        refine g_ci (args := [.ref 76, .int (nI (TR (m 38) f u).1.length)]) (rest := [.ref (32 + (H (upm m2 37 2 0) ln N).length)]) 10 (Or.inl rfl) 2 ((TR (m 38) f u).1.length + (TR (m 38) f u).1.length) m68_75 (Nat.le_of_ble_eq_true rfl) rfl rfl (by omega) (Nat.le_of_ble_eq_true rfl) (by decide) (by omega) ?_
        refine c_lawInit (w := upm m2 37 2 0 44) (by decide) ((smC_H (k := 44) rfl (t_44 ln N).1).trans (congrArg some (tmA (t_44 ln N)))) hz50 ?_
        refine gwr0 ?_
        have eL : 32 + (H (upm m2 37 2 0) ln N).length = 101 + 3 * N := by rw [H_len]; omega
        have eW : Value.ref (101 + 3 * N) = lawV (nI (N + 1)) := (lawV_ix (i := N) rfl (by omega)).1.symm
        refine g_astore_n (L2 := [some (.ref (32)), some (.int (nI u)), some (.int (-1)), some (.ref (32 + (H (upm m2 37 2 0) ln N).length))]) m68_78 rfl rfl ?_
        rw [eL]
        have eH : H (upm m2 37 2 0) ln N ++ [.inr (1, [.ref (33 + (H (upm m2 37 2 0) ln N).length), .ref (34 + (H (upm m2 37 2 0) ln N).length)]), .inl (0, (List.range (TR (m 38) f u).1.length).map (upm m2 37 2 0 44)), .inl (0, List.replicate (TR (m 38) f u).1.length 0)] = H (newM (upm m2 37 2 0) N (upm m2 37 2 0 44)) (newL ln N (TR (m 38) f u).1.length) (N + 1) := by
          rw [H_new, H_len, show 33 + (69 + 3 * N) = 102 + 3 * N by omega, show 34 + (69 + 3 * N) = 103 + 3 * N by omega]
        refine gwh eH ?_
        have hfin := hY u rfl hu hit m2 hF2 (upm m2 37 2 0 44) (TR (m 38) f u).1.length rfl hz50 (fun j hj => hcd j hj)
        refine g_iload_n m68_79 rfl ?_
        refine h_if_ne (xi := ((u : Nat) : Int)) (zi := 0) m68_80 (nI_toInt (by omega)) rfl (fun c1 => ?_) (fun c1 => ?_)
        · obtain rfl : u = 0 := by omega
          refine g_aload_n m68_83 rfl ?_
          refine h_gfR (c := 33) (k := 0) (p := 32) m68_84 rfl (t_0 _ _) rfl (Nat.le_of_ble_eq_true rfl) ?_
          refine g_aload_n m68_87 rfl ?_
          refine gwst (st' := [lawV (nI (N + 1)), .ref 33]) (by rw [eW]) ?_
          refine h_pfL (k := 1) (p := 33) m68_88 rfl (t_1 _ _) rfl (by rfl) ?_
          refine g_goto m68_91 ?_
          refine g_iconst m68_102 ?_
          refine g_iret m68_103 rt_68 ?_
          exact hfin
        · obtain rfl : u = 1 := by omega
          refine g_aload_n m68_94 rfl ?_
          refine h_gfR (c := 33) (k := 0) (p := 32) m68_95 rfl (t_0 _ _) rfl (Nat.le_of_ble_eq_true rfl) ?_
          refine g_aload_n m68_98 rfl ?_
          refine gwst (st' := [lawV (nI (N + 1)), .ref 33]) (by rw [eW]) ?_
          refine h_pfL (k := 1) (p := 33) m68_99 rfl (t_1 _ _) rfl (by rfl) ?_
          refine g_iconst m68_102 ?_
          refine g_iret m68_103 rt_68 ?_
          exact hfin
      · have hg := PL_ok (m 38) f u 400 0 0 0 (by omega)
        have hp50 : (TR (m 38) f u).2.1 ≤ 50 := Nat.le_trans hg.2.1 hf50
        refine gwr ?_
        refine g_istore_n (L2 := [some (.ref (32)), some (.int (nI u)), some (.int (nI (TR (m 38) f u).2.1)), none]) m68_39 rfl rfl ?_
        refine g_aload_n m68_40 rfl ?_
        refine h_gfR (c := 69) (k := 0) (p := 32) m68_41 rfl (t_0 _ _) rfl (Nat.le_of_ble_eq_true rfl) ?_
        refine g_iconst m68_44 ?_
        refine h_pfI (k := 37) (p := 69) m68_45 rfl (t_37 _ _) rfl trivial ?_
        refine g_iload_n m68_48 rfl ?_
        refine h_if_ltF (xi := (((TR (m 38) f u).2.1 : Nat) : Int)) (zi := 0) m68_49 (nI_toInt (by omega)) rfl (by omega) ?_
        refine g_bipush m68_52 ?_
        refine g_iload_n m68_54 rfl ?_
        refine g_isub m68_55 rfl ?_
        refine g_iret m68_56 rt_68 ?_
        exact hN u rfl hu hit m2 hF2
    refine g_iload_n m68_25 rfl ?_
    refine h_if_ne (xi := ((u : Nat) : Int)) (zi := 0) m68_26 (nI_toInt (by omega)) rfl (fun c1 => ?_) (fun c1 => ?_)
    · obtain rfl : u = 0 := by omega
      refine g_ldcs m68_29 (by decide) ?_
      refine g_goto m68_31 ?_
      exact key
    · obtain rfl : u = 1 := by omega
      refine g_ldcs m68_34 (by decide) ?_
      exact key
  · refine gwr ?_
    refine h_if_neT (xi := 0) (zi := 0) m68_5 rfl rfl (by decide) ?_
    refine g_aload_n m68_8 rfl ?_
    refine g_iconst m68_9 ?_
    refine h_cv (k := 0) (p := 32) (args := [.int (1)]) (rest := []) m68_10 cn_55 (Nat.le_of_ble_eq_true rfl) rfl rfl rfl (t_0 _ _) (Nat.le_of_ble_eq_true rfl) ?_
    refine c_error (e := 1) (by decide) (by decide) ?_
    refine gwr ?_
    refine g_iret m68_13 rt_68 ?_
    exact hE1 (by omega)
end
end
section
/-! THE RELATION, the class's cells read off one memory, the reference's off another -/
def cX (k j : Nat) : Prop := k < 9 ∨ (28 ≤ k ∧ k < 36) ∨ (37 ≤ k ∧ k < 43) ∨ (45 ≤ k ∧ k < 57) ∨ (69 ≤ k ∧ (k - 69) % 3 ≠ 2)
def cM (k j : Nat) : Prop := (k = 57 ∧ (j < 7 ∨ 14 < j)) ∨ k = 58 ∨ k = 59 ∨ (62 ≤ k ∧ k < 66) ∨ k = 68
def SmX (a a2 : MW) : Prop := ∀ k j, cX k j → a2 k j = a k j
def SmM (b b2 : MW) : Prop := ∀ k j, cM k j → b2 k j = b k j
theorem cX_n {k j : Nat} (h : cX k j) : ¬ (10 ≤ k ∧ k < 28) ∧ ¬ minor k j := by
  unfold cX at h
  unfold minor
  omega
theorem cM_n {k j : Nat} (h : cM k j) : ¬ (10 ≤ k ∧ k < 28) ∧ ¬ minor k j ∧ ¬ (k = 60 ∨ k = 66 ∨ k = 67) ∧ 57 ≤ k ∧ k < 69 := by
  unfold cM at h
  unfold minor
  omega
theorem cXM {k j : Nat} (h : cX k j) : ¬ (57 ≤ k ∧ k < 69) := by
  unfold cX at h
  omega
theorem SmX.rf {a : MW} : SmX a a := fun _ _ _ => rfl
theorem SmM.rf {a : MW} : SmM a a := fun _ _ _ => rfl
theorem SmX.tr {a b c : MW} (h : SmX a b) (h2 : SmX b c) : SmX a c := fun k j q => (h2 k j q).trans (h k j q)
theorem SmM.tr {a b c : MW} (h : SmM a b) (h2 : SmM b c) : SmM a c := fun k j q => (h2 k j q).trans (h k j q)
theorem SmX.up {a b : MW} (h : SmX a b) (k j : Nat) (x : Int32) : SmX (upm a k j x) (upm b k j x) := fun k2 j2 q => by
  unfold upm
  by_cases e : k2 = k ∧ j2 = j
  · rw [if_pos e, if_pos e]
  · rw [if_neg e, if_neg e, h k2 j2 q]
theorem SmM.up {a b : MW} (h : SmM a b) (k j : Nat) (x : Int32) : SmM (upm a k j x) (upm b k j x) := fun k2 j2 q => by
  unfold upm
  by_cases e : k2 = k ∧ j2 = j
  · rw [if_pos e, if_pos e]
  · rw [if_neg e, if_neg e, h k2 j2 q]
theorem FrT.sx {a b : MW} (h : FrT a b) : SmX a b := fun k j q => h k j (cX_n q).1 (cX_n q).2
theorem FrT.sm {a b : MW} (h : FrT a b) : SmM a b := fun k j q => h k j (cM_n q).1 (cM_n q).2.1
theorem EqM.sx {a b : MW} (h : EqM a b) : SmX a b := fun k j q => h k j (cX_n q).2
theorem EqM.sm {a b : MW} (h : EqM a b) : SmM a b := fun k j q => h k j (cM_n q).2.1
theorem FrP.sx {a b : MW} (h : FrP a b) : SmX a b := fun k j q => h k j (fun z => cXM q (by omega)) (cX_n q).2
theorem FrP.sm {a b : MW} (h : FrP a b) : SmM a b := fun k j q => h k j (cM_n q).2.2.1 (cM_n q).2.1
/-- what lies below 57 is the class's alone, what lies from 57 to 68 the reference's -/
theorem smM_x {a b : MW} (h : ∀ k j, 57 ≤ k → k < 69 → ¬ minor k j → b k j = a k j) : SmM a b := fun k j q => h k j (cM_n q).2.2.2.1 (cM_n q).2.2.2.2 (cM_n q).2.1
theorem smX_m {a b : MW} (h : ∀ k j, ¬ (57 ≤ k ∧ k < 69) → ¬ minor k j → b k j = a k j) : SmX a b := fun k j q => h k j (cXM q) (cX_n q).2
theorem SmX.cod {a b : MW} (h : SmX a b) (ln : Nat → Nat) : codL b ln = codL a ln := by
  funext i
  unfold codL
  apply List.map_congr_left
  intro j _
  exact h _ _ (Or.inr (Or.inr (Or.inr (Or.inr (by omega)))))
theorem SmX.row {a b : MW} (h : SmX a b) {k : Nat} (hk : k < 9 ∨ (28 ≤ k ∧ k < 36) ∨ (37 ≤ k ∧ k < 43) ∨ (45 ≤ k ∧ k < 57)) : b k = a k := funext fun j => h k j (by
  unfold cX
  omega)
theorem SmM.row {a b : MW} (h : SmM a b) {k : Nat} (hk : k = 58 ∨ k = 59 ∨ (62 ≤ k ∧ k < 66) ∨ k = 68) : b k = a k := funext fun j => h k j (by
  unfold cM
  omega)
theorem SmM.f57 {a b : MW} (h : SmM a b) {j : Nat} (hj : j < 7 ∨ 14 < j) : b 57 j = a 57 j := h 57 j (Or.inl ⟨rfl, hj⟩)
theorem SmX.vw0 {a b : MW} (h : SmX a b) {j : Nat} (hj : j < 8) : vw b 0 j = vw a 0 j := h.row (by omega)
theorem SmX.vw3 {a b : MW} (h : SmX a b) {j : Nat} (hj : j < 8) : vw b 3 j = vw a 3 j := h.row (by omega)
def ImR2 (a b : MW) (ln : Nat → Nat) (N q : Nat) : Prop := ∃ im, im ≤ q ∧ a 0 6 = nI im ∧ b 57 5 = nI im ∧ b 57 4 = (if im = 0 then 0 else 1) ∧ (im ≠ 0 → TbR (codL a ln) N (vw a 3) (a 40) (a 41) (a 42) (b 59))
def ShR2 (a b : MW) : Prop := ∀ s, s < 4 → ∃ c l, (c = 0 ∨ c = 8 ∨ c = 16 ∨ c = 32) ∧ l ≤ 40 ∧ a (48 + 2 * s) 0 = nI c ∧ b 63 s = nI c ∧ a (48 + 2 * s) 1 = nI l ∧ b 64 s = nI l ∧ ∀ j, j < 40 → ∃ v, b 65 (40 * s + j) = narF c v ∧ a (49 + 2 * s) j = lowF c v
def ErR2 (a b : MW) : Prop := ∀ e, 1 ≤ e → e ≤ 5 → b 62 e = a 56 e
def VoR2 (a b : MW) : Prop := ∃ c, c ≤ 40 ∧ a 45 4 = nI c ∧ b 57 21 = nI c ∧ ∀ j, j < c → b 68 j = a 46 j
def Rel2 (a b : MW) (ln : Nat → Nat) (N q : Nat) : Prop := q ≤ 512 ∧ N ≤ q ∧ LawsOk a ln N ∧ TbR (codL a ln) N (vw a 0) (a 37) (a 38) (a 39) (b 58) ∧ ImR2 a b ln N q ∧ ShR2 a b ∧ ErR2 a b ∧ VoR2 a b
theorem WF_9 {X Y : MW} (h : ∀ j, j < 8 → Y j = X j) (w : WF X) : WF Y := WF_c (fun j hj i => congrFun (h j (by omega)) i) w
theorem Eq7_9 {X Y Z : MW} (h : ∀ j, j < 8 → Y j = X j) (w : Eq7 X Z) : Eq7 Y Z := by
  refine ⟨fun j h1 h2 i hi => ?_, ?_, ?_, ?_⟩
  · rw [h j (by omega)]
    exact w.1 j h1 h2 i hi
  · rw [h 0 (by omega)]
    exact w.2.1
  · rw [h 0 (by omega)]
    exact w.2.2.1
  · rw [h 0 (by omega)]
    exact w.2.2.2
theorem TbR_9 {cd : Nat → List Int32} {N : Nat} {X Y : MW} {dk tp wt row : Nat → Int32} (h : ∀ j, j < 8 → Y j = X j) (t : TbR cd N X dk tp wt row) : TbR cd N Y dk tp wt row := by
  obtain ⟨t1, t2, t3, t4, t5, t6, t7, t8, t9, t10⟩ := t
  have h0 : Y 0 = X 0 := h 0 (by decide)
  refine ⟨WF_9 h t1, ?_, Eq7_9 h t3, t4, t5, t6, t7, t8, ?_, ?_⟩
  · rw [h0]
    exact t2
  · rw [h0]
    exact t9
  · rw [h0]
    exact t10
theorem Rel2.fr {a b a2 b2 : MW} {ln : Nat → Nat} {N q : Nat} (R : Rel2 a b ln N q) (hx : SmX a a2) (hm : SmM b b2) : Rel2 a2 b2 ln N q := by
  obtain ⟨r1, r2, r3, r4, r5, r6, r7, r8⟩ := R
  refine ⟨r1, r2, ⟨r3.1, fun i hi => ?_⟩, ?_, ?_, ?_, ?_, ?_⟩
  · rw [hx.cod]
    exact r3.2 i hi
  · rw [hx.cod, hx.row (k := 37) (by omega), hx.row (k := 38) (by omega), hx.row (k := 39) (by omega), hm.row (k := 58) (by omega)]
    exact TbR_9 (fun j hj => hx.vw0 hj) r4
  · obtain ⟨im, i1, i2, i3, i4, i5⟩ := r5
    refine ⟨im, i1, ?_, ?_, ?_, fun h => ?_⟩
    · rw [hx.row (k := 0) (by omega)]
      exact i2
    · rw [hm.f57 (by omega)]
      exact i3
    · rw [hm.f57 (by omega)]
      exact i4
    · rw [hx.cod, hx.row (k := 40) (by omega), hx.row (k := 41) (by omega), hx.row (k := 42) (by omega), hm.row (k := 59) (by omega)]
      exact TbR_9 (fun j hj => hx.vw3 hj) (i5 h)
  · intro s hs
    obtain ⟨c, l, s1, s2, s3, s4, s5, s6, s7⟩ := r6 s hs
    refine ⟨c, l, s1, s2, ?_, ?_, ?_, ?_, ?_⟩
    · rw [hx.row (k := 48 + 2 * s) (by omega)]
      exact s3
    · rw [hm.row (k := 63) (by omega)]
      exact s4
    · rw [hx.row (k := 48 + 2 * s) (by omega)]
      exact s5
    · rw [hm.row (k := 64) (by omega)]
      exact s6
    · rw [hx.row (k := 49 + 2 * s) (by omega), hm.row (k := 65) (by omega)]
      exact s7
  · intro e h1 h2
    rw [hx.row (k := 56) (by omega), hm.row (k := 62) (by omega)]
    exact r7 e h1 h2
  · obtain ⟨c, v1, v2, v3, v4⟩ := r8
    refine ⟨c, v1, ?_, ?_, ?_⟩
    · rw [hx.row (k := 45) (by omega)]
      exact v2
    · rw [hm.f57 (by omega)]
      exact v3
    · rw [hx.row (k := 46) (by omega), hm.row (k := 68) (by omega)]
      exact v4
theorem Rel2.nx {a b : MW} {ln : Nat → Nat} {N q : Nat} (R : Rel2 a b ln N q) (hq : q < 512) : Rel2 a b ln N (q + 1) := by
  obtain ⟨r1, r2, r3, r4, r5, r6, r7, r8⟩ := R
  obtain ⟨im, i1, i2⟩ := r5
  exact ⟨by omega, by omega, r3, r4, ⟨im, by omega, i2⟩, r6, r7, r8⟩
/-- an ERROR counted on both sides -/
theorem Rel2.er {a b : MW} {ln : Nat → Nat} {N q : Nat} (R : Rel2 a b ln N q) (e : Nat) : Rel2 (erm a e) (ers b e) ln N q := by
  obtain ⟨r1, r2, r3, r4, r5, r6, r7, r8⟩ := R
  have kx : ∀ k, k ≠ 56 → erm a e k = a k := fun k h => row_up _ _ h
  have km : ∀ k, k ≠ 62 → ers b e k = b k := fun k h => row_up _ _ h
  have hc : codL (erm a e) ln = codL a ln := cod_up (by decide) ln
  refine ⟨r1, r2, ⟨r3.1, fun i hi => ?_⟩, ?_, ?_, ?_, ?_, ?_⟩
  · rw [hc]
    exact r3.2 i hi
  · rw [hc, kx 37 (by decide), kx 38 (by decide), kx 39 (by decide), km 58 (by decide)]
    exact TbR_9 (fun j hj => kx _ (by omega)) r4
  · obtain ⟨im, i1, i2, i3, i4, i5⟩ := r5
    refine ⟨im, i1, ?_, ?_, ?_, fun h => ?_⟩
    · rw [kx 0 (by decide)]
      exact i2
    · rw [km 57 (by decide)]
      exact i3
    · rw [km 57 (by decide)]
      exact i4
    · rw [hc, kx 40 (by decide), kx 41 (by decide), kx 42 (by decide), km 59 (by decide)]
      exact TbR_9 (fun j hj => kx _ (by omega)) (i5 h)
  · intro s hs
    rw [kx (48 + 2 * s) (by omega), kx (49 + 2 * s) (by omega), km 63 (by decide), km 64 (by decide), km 65 (by decide)]
    exact r6 s hs
  · intro f h1 h2
    have h9 := r7 f h1 h2
    by_cases he : f = e
    · subst he
      show upm b 62 f (b 62 f + 1) 62 f = upm a 56 f (a 56 f + 1) 56 f
      rw [upm_self, upm_self, h9]
    · show upm b 62 e (b 62 e + 1) 62 f = upm a 56 e (a 56 e + 1) 56 f
      rw [upm_j _ _ he, upm_j _ _ he, h9]
  · rw [show VoR2 (erm a e) (ers b e) ↔ VoR2 a b from ?_]
    · exact r8
    · unfold VoR2
      rw [kx 45 (by decide), kx 46 (by decide), km 57 (by decide), km 68 (by decide)]
/-! WHAT THE RELATION GIVES -/
section
variable {a b : MW} {ln : Nat → Nat} {N q : Nat}
theorem Rel2.L (R : Rel2 a b ln N q) : LawsOk a ln N := R.2.2.1
theorem Rel2.T (R : Rel2 a b ln N q) : TbR (codL a ln) N (vw a 0) (a 37) (a 38) (a 39) (b 58) := R.2.2.2.1
theorem Rel2.W (R : Rel2 a b ln N q) : WF (vw a 0) := R.T.1
theorem Rel2.E7 (R : Rel2 a b ln N q) : Eq7 (vw a 0) (vr (b 58)) := R.T.2.2.1
theorem Rel2.WY (R : Rel2 a b ln N q) : WF (vr (b 58)) := WF_7 R.E7 R.W
theorem Rel2.n (R : Rel2 a b ln N q) : ∃ n, n ≤ 8 ∧ a 1 10 = nI n ∧ b 58 2 = nI n := by
  obtain ⟨n, hn, hd⟩ := R.W.1
  exact ⟨n, hn, hd, R.E7.2.2.2.trans hd⟩
theorem Rel2.st (R : Rel2 a b ln N q) : ∃ st, st ≤ 9999 ∧ a 1 9 = nI st ∧ b 58 0 = nI st := by
  obtain ⟨n, hn, hd⟩ := R.T.2.1
  exact ⟨n, hn, hd, R.E7.2.2.1.trans hd⟩
theorem Rel2.h01 (R : Rel2 a b ln N q) : ∀ j, j < 8 → a 8 j = 0 ∨ a 8 j = 1 := fun j hj => (R.W.2.2 j hj).2.2.2.2.2.2
theorem Rel2.tx0 (R : Rel2 a b ln N q) : TxR (codL a ln) N (a 1 11) (b 58) 0 := R.T.2.2.2.2.2.2.2.2.1
theorem Rel2.tx1 (R : Rel2 a b ln N q) : TxR (codL a ln) N (a 1 12) (b 58) 1 := R.T.2.2.2.2.2.2.2.2.2
theorem Rel2.ix (R : Rel2 a b ln N q) : LawIx N (a 1 11) := R.tx0.ix
theorem Rel2.iy (R : Rel2 a b ln N q) : LawIx N (a 1 12) := R.tx1.ix
theorem Rel2.X0 (R : Rel2 a b ln N q) : TxOk (b 58) 0 := R.tx0.1
theorem Rel2.X1 (R : Rel2 a b ln N q) : TxOk (b 58) 1 := R.tx1.1
theorem Rel2.lk (R : Rel2 a b ln N q) : rkF (b 58) = lkF a ln (a 1 11) := by
  rw [lkC_e]
  exact (R.tx0.lk R.L.1).symm
theorem Rel2.bl (R : Rel2 a b ln N q) : rbF (b 58) = blF a ln (a 1 12) := by
  rw [blC_e]
  exact (R.tx1.bl R.L.1).symm
theorem Rel2.rd (R : Rel2 a b ln N q) {i c : Nat} (hi : i < 8) (hc : c < 6) : b 58 (16 + 6 * i + c) = a (3 + c) i := by
  have h := R.E7.1 (2 + c) (by omega) (by omega) i hi
  rw [← vr_c] at h
  rw [h]
  unfold vw
  rw [show 2 + c + 1 + 9 * 0 = 3 + c by omega]
theorem Rel2.rf (R : Rel2 a b ln N q) {i : Nat} (hi : i < 8) : b 58 (8 + i) = a 2 i := R.E7.1 1 (by omega) (by omega) i hi
theorem Rel2.wt (R : Rel2 a b ln N q) : b 58 7 = a 1 8 := R.E7.2.1
theorem Rel2.n2 (R : Rel2 a b ln N q) {n : Nat} (h : a 1 10 = nI n) : b 58 2 = nI n := R.E7.2.2.2.trans h
theorem Rel2.st2 (R : Rel2 a b ln N q) {n : Nat} (h : a 1 9 = nI n) : b 58 0 = nI n := R.E7.2.2.1.trans h
def kiF (a : MW) (i : Nat) : Nat := (a 3 i).toNatClampNeg
theorem Rel2.kx (R : Rel2 a b ln N q) : ∀ i, i < 8 → kiF a i < 7 ∧ a 3 i = nI (kiF a i) := fun i hi => by
  obtain ⟨c, hc, he⟩ := (R.W.2.2 i hi).2.1
  have h2 : a 3 i = nI c := he
  unfold kiF
  rw [h2, nI_clamp (by omega)]
  exact ⟨by omega, rfl⟩
theorem Rel2.ky (R : Rel2 a b ln N q) : ∀ i, i < 8 → kiF a i < 7 ∧ b 58 (16 + 6 * i + 0) = nI (kiF a i) := fun i hi => ⟨(R.kx i hi).1, (R.rd hi (by decide)).trans (R.kx i hi).2⟩
def shB (a : MW) (s : Nat) : Nat := (a (48 + 2 * s) 0).toNatClampNeg
def shL (a : MW) (s : Nat) : Nat := (a (48 + 2 * s) 1).toNatClampNeg
theorem Rel2.sh (R : Rel2 a b ln N q) : ∀ s, s < 4 → (shB a s = 0 ∨ shB a s = 8 ∨ shB a s = 16 ∨ shB a s = 32) ∧ shL a s ≤ 40 ∧ a (48 + 2 * s) 0 = nI (shB a s) ∧ a (48 + 2 * s) 1 = nI (shL a s) ∧ b 63 s = nI (shB a s) ∧ b 64 s = nI (shL a s) ∧ ∀ j, j < 40 → ∃ v, b 65 (40 * s + j) = narF (shB a s) v ∧ a (49 + 2 * s) j = lowF (shB a s) v := fun s hs => by
  obtain ⟨c, l, s1, s2, s3, s4, s5, s6, s7⟩ := R.2.2.2.2.2.1 s hs
  have e1 : (nI c).toNatClampNeg = c := nI_clamp (by omega)
  have e2 : (nI l).toNatClampNeg = l := nI_clamp (by omega)
  unfold shB shL
  rw [s3, s5, e1, e2]
  exact ⟨s1, s2, rfl, rfl, s4, s6, s7⟩
theorem Rel2.sx (R : Rel2 a b ln N q) : ∀ s, s < 4 → (shB a s = 0 ∨ shB a s = 8 ∨ shB a s = 16 ∨ shB a s = 32) ∧ shL a s ≤ 40 ∧ a (48 + 2 * s) 0 = nI (shB a s) ∧ a (48 + 2 * s) 1 = nI (shL a s) := fun s hs => ⟨(R.sh s hs).1, (R.sh s hs).2.1, (R.sh s hs).2.2.1, (R.sh s hs).2.2.2.1⟩
theorem Rel2.sy (R : Rel2 a b ln N q) : ∀ s, s < 4 → (shB a s = 0 ∨ shB a s = 8 ∨ shB a s = 16 ∨ shB a s = 32) ∧ shL a s ≤ 40 ∧ b 63 s = nI (shB a s) ∧ b 64 s = nI (shL a s) := fun s hs => ⟨(R.sh s hs).1, (R.sh s hs).2.1, (R.sh s hs).2.2.2.2.1, (R.sh s hs).2.2.2.2.2.1⟩
end
/-! A CALL ON BOTH SIDES -/
def Pair (xs : List Int32) (x y mc ms : Nat) (args : List Value) (eq : Prop) (m : MW) (ln : Nat → Nat) (N q : Nat) : Prop :=
  WP xs 1299 x mc ms (.ref 32 :: args) (H m ln N) (fun r h => ∃ z m1 ln1 N1, r = some (.int z) ∧ h = H m1 ln1 N1 ∧
    WP xs 1299 y 0 0 (.ref 89 :: args) (H m1 ln1 N1) (fun r2 h2 => ∃ z2 m2, r2 = some (.int z2) ∧ (eq → z2 = z) ∧ h2 = H m2 ln1 N1 ∧ Rel2 m2 m2 ln1 N1 (q + 1)))
/-- the class's end: answer and memory, and the reference's call from there -/
theorem pr_x {xs : List Int32} {y : Nat} {args : List Value} {eq : Prop} {q : Nat} {ln : Nat → Nat} {N : Nat} {z : Int32} {m1 : MW} (g : WP xs 1299 y 0 0 (.ref 89 :: args) (H m1 ln N) (fun r2 h2 => ∃ z2 m2, r2 = some (.int z2) ∧ (eq → z2 = z) ∧ h2 = H m2 ln N ∧ Rel2 m2 m2 ln N (q + 1))) : ∃ z' m1' ln1 N1, some (Value.int z) = some (.int z') ∧ H m1 ln N = H m1' ln1 N1 ∧
    WP xs 1299 y 0 0 (.ref 89 :: args) (H m1' ln1 N1) (fun r2 h2 => ∃ z2 m2, r2 = some (.int z2) ∧ (eq → z2 = z') ∧ h2 = H m2 ln1 N1 ∧ Rel2 m2 m2 ln1 N1 (q + 1)) := ⟨z, m1, ln, N, rfl, rfl, g⟩
theorem pr_m {eq : Prop} {q : Nat} {ln : Nat → Nat} {N : Nat} {z z2 : Int32} {m2 : MW} (e : eq → z2 = z) (R : Rel2 m2 m2 ln N (q + 1)) : ∃ z2' m2', some (Value.int z2) = some (.int z2') ∧ (eq → z2' = z) ∧ H m2 ln N = H m2' ln N ∧ Rel2 m2' m2' ln N (q + 1) := ⟨z2, m2, rfl, e, rfl, R⟩
/-- both count an ERROR -/
theorem Rel2.er2 {m m1 m2 : MW} {ln : Nat → Nat} {N q : Nat} (R : Rel2 m m ln N q) (hq : q < 512) (e : Nat) (hx : SmX m m1) (hm : SmM m m1) (hx2 : SmX (erm m1 e) m2) (hm2 : SmM m1 m2) : Rel2 (ers m2 e) (ers m2 e) ln N (q + 1) := by
  have R1 : Rel2 m1 m1 ln N q := R.fr hx hm
  have R2 : Rel2 (erm m1 e) (ers m1 e) ln N q := R1.er e
  refine (R2.fr (hx2.tr (fun k j c => upm_k _ _ (fun h => cXM c (by omega)))) ?_).nx hq
  show SmM (upm m1 62 e (m1 62 e + 1)) (upm m2 62 e (m2 62 e + 1))
  rw [hm2 62 e (by unfold cM; omega)]
  exact hm2.up _ _ _
theorem smx_er {m : MW} {e : Nat} : SmM m (erm m e) := fun k j c => upm_k _ _ (by have := (cM_n c).2.2.2; omega)
theorem smm_er {m : MW} {e : Nat} : SmX m (ers m e) := fun k j c => upm_k _ _ (fun h => cXM c (by omega))
theorem Rel2.e1 {m : MW} {ln : Nat → Nat} {N q : Nat} (R : Rel2 m m ln N q) (e : Nat) : Rel2 m (erm m e) ln N q := R.fr SmX.rf smx_er
theorem Rel2.ee {m : MW} {ln : Nat → Nat} {N q : Nat} (R : Rel2 m m ln N q) (hq : q < 512) (e : Nat) : Rel2 (ers (erm m e) e) (ers (erm m e) e) ln N (q + 1) := R.er2 hq e SmX.rf SmM.rf SmX.rf smx_er
theorem tI {c : Int32} {i : Nat} (h : c = nI i) (hi : i < 2147483648) : c.toInt = (i : Int) := (congrArg Int32.toInt h).trans (nI_toInt (by omega))
end
section
/-! LIKE TABLES give like answers -/
section
variable {LK BL : LF} {X Y : MW}
theorem st7 (h : Eq7 X Y) (w : WF X) (k : Nat) {j i : Nat} (hj : 1 ≤ j) (hj8 : j < 8) (hi : i < 8) : stepN LK BL Y k j i = stepN LK BL X k j i := (stepN_7 h w k).1 j hj hj8 i hi
theorem moreN_7 (h : Eq7 X Y) (w : WF X) (k : Nat) {i : Nat} (hi : i < 8) : moreN LK BL Y k i = moreN LK BL X k i := by
  unfold moreN
  rw [h.1 6 (by decide) (by decide) i hi, st7 h w k (by decide) (by decide) hi]
theorem moreAt_7 (h : Eq7 X Y) (w : WF X) (k : Nat) {i : Nat} (hi : i < 8) : moreAt LK BL Y i k = moreAt LK BL X i k := by
  unfold moreAt
  rw [h.1 6 (by decide) (by decide) i hi, st7 h w k (by decide) (by decide) hi]
theorem firstF_7 (h : Eq7 X Y) (w : WF X) {i : Nat} (hi : i < 8) : ∀ r q, firstF LK BL Y i r q = firstF LK BL X i r q
  | 0, _ => rfl
  | r + 1, q => by
    show (if moreAt LK BL Y i q = true then q else firstF LK BL Y i r (q + 1)) = if moreAt LK BL X i q = true then q else firstF LK BL X i r (q + 1)
    rw [moreAt_7 h w q hi, firstF_7 h w hi r (q + 1)]
theorem aheadF_7 (h : Eq7 X Y) {n i : Nat} (hn : n ≤ 8) (hi : i < n) : aheadF (faceF LK Y) (Y 7) n i = aheadF (faceF LK X) (X 7) n i := cntF_c _ (fun o ho => by
  unfold isAhead
  rw [faceF_7 h (by omega), faceF_7 h (by omega), h.1 7 (by decide) (by decide) o (by omega)])
theorem sumN_7 (h : Eq7 X Y) (w : WF X) (k : Nat) {j n : Nat} (hj : 1 ≤ j) (hj8 : j < 8) (hn : n ≤ 8) : sumF (stepN LK BL Y k j) n = sumF (stepN LK BL X k j) n := sumF_c n (fun i hi => st7 h w k hj hj8 (by omega))
theorem sum_7 (h : Eq7 X Y) {j n : Nat} (hj : 1 ≤ j) (hj8 : j < 8) (hn : n ≤ 8) : sumF (Y j) n = sumF (X j) n := sumF_c n (fun i hi => h.1 j hj hj8 i (by omega))
theorem shamX_7 (h : Eq7 X Y) (a : Nat) (s : Int32) : Eq7 (shamX X a s) (shamX Y a s) := by
  refine ⟨fun j h1 h2 i hi => ?_, ?_, ?_, ?_⟩
  · unfold shamX
    rw [nOf_7 h, h.1 j h1 h2 i hi]
  · rw [shamX_o (by decide), shamX_o (by decide)]
    exact h.2.1
  · rw [shamX_o (by decide), shamX_o (by decide)]
    exact h.2.2.1
  · rw [shamX_o (by decide), shamX_o (by decide)]
    exact h.2.2.2
theorem drX_7 (h : Eq7 X Y) (n D : Nat) : Eq7 (drX X n D) (drX Y n D) := by
  unfold drX
  split
  · exact h
  · exact h.up _ _ _
theorem looX_7 (h : Eq7 X Y) (w : WF X) (n : Nat) (z : Int32) : ∀ k, Eq7 (looX LK BL n X z k) (looX LK BL n Y z k)
  | 0 => h
  | k + 1 => stepF_7 (drX_7 (looX_7 h w n z k) n _) (drX_W (looX_W w k) n _)
theorem leI_lit {s b : Nat} (h : s ≤ b) : leI (nI s) b := ⟨s, h, rfl⟩
theorem leastF_r {p q : Nat → Bool} : ∀ r s, (∀ i, s ≤ i → i < s + r → q i = p i) → leastF q r s = leastF p r s
  | 0, _, _ => rfl
  | r + 1, s, h => by
    show (if q s = true then some s else leastF q r (s + 1)) = if p s = true then some s else leastF p r (s + 1)
    rw [h s (Nat.le_refl _) (by omega), leastF_r r (s + 1) (fun i h1 h2 => h i (by omega) (by omega))]
end
/-! A SHEET'S NUMBERS -/
theorem and_255 (v : Int32) : (v &&& 255).toInt = ((v.toBitVec.toNat % 256 : Nat) : Int) := by
  have h : (v &&& 255).toBitVec.toNat = v.toBitVec.toNat % 256 := by
    show (v.toBitVec &&& (255 : Int32).toBitVec).toNat = _
    rw [BitVec.toNat_and]
    exact Nat.and_two_pow_sub_one_eq_mod _ 8
  show (v &&& 255).toBitVec.toInt = _
  rw [BitVec.toInt_eq_toNat_cond, h]
  rw [if_pos (by omega)]
theorem and_65 (v : Int32) : (v &&& 65535).toInt = ((v.toBitVec.toNat % 65536 : Nat) : Int) := by
  have h : (v &&& 65535).toBitVec.toNat = v.toBitVec.toNat % 65536 := by
    show (v.toBitVec &&& (65535 : Int32).toBitVec).toNat = _
    rw [BitVec.toNat_and]
    exact Nat.and_two_pow_sub_one_eq_mod _ 16
  show (v &&& 65535).toBitVec.toInt = _
  rw [BitVec.toInt_eq_toNat_cond, h]
  rw [if_pos (by omega)]
theorem nar_8 (v : Int32) : (v.toInt8.toInt32).toInt = Int.bmod v.toInt 256 := by
  rw [Int8.toInt_toInt32, Int32.toInt_toInt8]
theorem nar_16 (v : Int32) : (v.toInt16.toInt32).toInt = Int.bmod v.toInt 65536 := by
  rw [Int16.toInt_toInt32, Int32.toInt_toInt16]
theorem i32_n (v : Int32) : v.toInt = if 2 * v.toBitVec.toNat < 4294967296 then (v.toBitVec.toNat : Int) else (v.toBitVec.toNat : Int) - 4294967296 := by
  show v.toBitVec.toInt = _
  rw [BitVec.toInt_eq_toNat_cond]
  rfl
theorem bmod_d (x : Int) (m : Nat) (hm : 0 < m) : ∃ t : Int, Int.bmod x m = x - t * m ∧ -(m : Int) ≤ 2 * Int.bmod x m ∧ 2 * Int.bmod x m < m := by
  have h1 := Int.le_bmod (x := x) hm
  have h2 := Int.bmod_lt (x := x) hm
  have h3 := Int.bmod_add_bdiv x m
  refine ⟨Int.bdiv x m, ?_, by omega, by omega⟩
  rw [Int.mul_comm]
  omega
/-- how the lowest bits and the signed number stand to each other -/
theorem low_nar {b : Nat} (hb : b = 8 ∨ b = 16 ∨ b = 32) (v f : Int32) (h1 : -128 ≤ f.toInt) (h2 : f.toInt ≤ 127) : narF b v = f ↔ lowF b v = lowF b f := by
  have hv := i32_n v
  have hf := i32_n f
  have lv := v.toBitVec.isLt
  have lf := f.toBitVec.isLt
  rcases hb with rfl | rfl | rfl
  · show v.toInt8.toInt32 = f ↔ v &&& 255 = f &&& 255
    rw [← Int32.toInt_inj, ← Int32.toInt_inj (x := v &&& 255), nar_8, and_255, and_255]
    obtain ⟨t, e, g1, g2⟩ := bmod_d v.toInt 256 (by decide)
    rw [e] at g1 g2 ⊢
    split at hv <;> split at hf <;> constructor <;> intro h <;> omega
  · show v.toInt16.toInt32 = f ↔ v &&& 65535 = f &&& 65535
    rw [← Int32.toInt_inj, ← Int32.toInt_inj (x := v &&& 65535), nar_16, and_65, and_65]
    obtain ⟨t, e, g1, g2⟩ := bmod_d v.toInt 65536 (by decide)
    rw [e] at g1 g2 ⊢
    split at hv <;> split at hf <;> constructor <;> intro h <;> omega
  · exact Iff.rfl
theorem low_9 {b : Nat} (hb : b = 8 ∨ b = 16 ∨ b = 32) (v : Int32) : ((0 ≤ (lowF b v).toInt ∧ (lowF b v).toInt ≤ 9) ↔ (0 ≤ (narF b v).toInt ∧ (narF b v).toInt ≤ 9)) ∧ (0 ≤ (lowF b v).toInt ∧ (lowF b v).toInt ≤ 9 → narF b v = lowF b v) := by
  have hv := i32_n v
  have lv := v.toBitVec.isLt
  rcases hb with rfl | rfl | rfl
  · show ((0 ≤ (v &&& 255).toInt ∧ (v &&& 255).toInt ≤ 9) ↔ (0 ≤ (v.toInt8.toInt32).toInt ∧ (v.toInt8.toInt32).toInt ≤ 9)) ∧ (0 ≤ (v &&& 255).toInt ∧ (v &&& 255).toInt ≤ 9 → v.toInt8.toInt32 = v &&& 255)
    rw [← Int32.toInt_inj, nar_8, and_255]
    obtain ⟨t, e, g1, g2⟩ := bmod_d v.toInt 256 (by decide)
    rw [e] at g1 g2 ⊢
    refine ⟨⟨fun h => ?_, fun h => ?_⟩, fun h => ?_⟩ <;> split at hv <;> omega
  · show ((0 ≤ (v &&& 65535).toInt ∧ (v &&& 65535).toInt ≤ 9) ↔ (0 ≤ (v.toInt16.toInt32).toInt ∧ (v.toInt16.toInt32).toInt ≤ 9)) ∧ (0 ≤ (v &&& 65535).toInt ∧ (v &&& 65535).toInt ≤ 9 → v.toInt16.toInt32 = v &&& 65535)
    rw [← Int32.toInt_inj, nar_16, and_65]
    obtain ⟨t, e, g1, g2⟩ := bmod_d v.toInt 65536 (by decide)
    rw [e] at g1 g2 ⊢
    refine ⟨⟨fun h => ?_, fun h => ?_⟩, fun h => ?_⟩ <;> split at hv <;> omega
  · exact ⟨Iff.rfl, fun _ => rfl⟩
/-- a FACE lies within a byte -/
theorem half_k {x : Int32} {n : Nat} (h : x = nI n) (hn : n ≤ 99) : (x / 2).toInt = ((n / 2 : Nat) : Int) := by
  subst h
  have h2 : ∀ n, n ≤ 99 → (nI n / 2).toInt = ((n / 2 : Nat) : Int) := by decide +kernel
  exact h2 n hn
theorem face_b {v : Int32} {X : MW} {i : Nat} (w : WF X) (hi : i < 8) (hv : leI v 99) : -128 ≤ (faceV v X i).toInt ∧ (faceV v X i).toInt ≤ 127 := by
  obtain ⟨n, hn, rfl⟩ := hv
  obtain ⟨_, ⟨k, hk, ek⟩, ⟨m1, hm, em⟩, ⟨hu, hhu, eh⟩, ⟨s, hs, es⟩, _, _⟩ := w.2.2 i hi
  have tv : (nI n).toInt = (n : Int) := nI_toInt (by omega)
  have ts : (X 5 i).toInt = (s : Int) := tI es (by omega)
  have tm : (X 3 i).toInt = (m1 : Int) := tI em (by omega)
  have tq : (nI n / 2).toInt = ((n / 2 : Nat) : Int) := half_k rfl hn
  have th : (X 4 i / 2).toInt = ((hu / 2 : Nat) : Int) := half_k eh hhu
  have a1 : (nI n + X 5 i).toInt = (n : Int) + s := add_k tv ts (by omega) (by omega)
  rcases (show k = 0 ∨ k = 1 ∨ k = 2 ∨ k = 3 ∨ k = 4 ∨ k = 5 ∨ k = 6 by omega) with h | h | h | h | h | h | h <;> subst h
  · rw [fk_0 ek, a1]
    omega
  · rw [fk_1 ek, add_k a1 tm (by omega) (by omega)]
    omega
  · rw [fk_2 ek, add_k tq ts (by omega) (by omega)]
    omega
  · rw [fk_3 ek, sub_k a1 th (by omega) (by omega)]
    omega
  · rw [fk_4 ek, sub_k (add_k a1 tm (by omega) (by omega)) (show (20 : Int32).toInt = 20 from rfl) (by omega) (by omega)]
    omega
  · rw [fk_5 ek]
    have a2 := add_k tq ts (by omega) (by omega)
    split
    · rw [add_k a2 (show (9 : Int32).toInt = 9 from rfl) (by omega) (by omega)]
      omega
    · rw [add_k a2 (show (0 : Int32).toInt = 0 from rfl) (by omega) (by omega)]
      omega
  · rw [fk_6 ek]
    have a3 : (2 * X 5 i).toInt = 2 * (s : Int) := by
      rw [Int32.toInt_mul, ts, show (2 : Int32).toInt = 2 from rfl]
      exact Int.bmod_eq_of_le (by omega) (by omega)
    rw [sub_k (add_k tv a3 (by omega) (by omega)) th (by omega) (by omega)]
    omega
theorem held_b (v : Int32) : leI (heldF v 99) 99 := by
  unfold heldF
  have e9 : (99 : Int32).toInt = 99 := rfl
  split
  · exact ⟨0, by decide, rfl⟩
  · split
    · exact ⟨99, by decide, rfl⟩
    · exact leI_of (by omega) (by omega)
theorem lk_b (cd : Nat → List Int32) (x a b c : Int32) : leI (lkC cd x a b c) 99 := held_b _
end
section
/-! CALLS ON BOTH SIDES that change no more than what told() tells -/
section
variable {xs : List Int32} {m : MW} {ln : Nat → Nat} {N q : Nat}
theorem what_b (k : Nat) : 1 ≤ whatF k ∧ whatF k < 8 := by
  unfold whatF
  split
  · decide
  · split <;> decide
theorem nx_x {m2 : MW} (h1 : ∀ k j, ¬ (1 ≤ k ∧ k < 10) → ¬ minor k j → m2 k j = m k j) (h2 : ∀ j, j < 8 → ∀ i, m2 (j + 1 + 9 * 0) i = vw m 0 j i) : SmX m m2 := fun k j c => by
  by_cases h : 1 ≤ k ∧ k < 9
  · have h3 := h2 (k - 1) (by omega) j
    unfold vw at h3
    rw [show k - 1 + 1 + 9 * 0 = k by omega] at h3
    exact h3
  · exact h1 k j (fun q => by
      unfold cX at c
      omega) (cX_n c).2
theorem nx_m {m2 : MW} (h1 : ∀ k j, ¬ (1 ≤ k ∧ k < 10) → ¬ minor k j → m2 k j = m k j) : SmM m m2 := fun k j c => h1 k j (fun q => by
      have := (cM_n c).2.2.2
      omega) (cM_n c).2.1
theorem cnt_e (R : Rel2 m m ln N q) {n : Nat} (hn : n ≤ 8) (hd : m 1 10 = nI n) (k : Nat) (hk : k ≤ 9) : cntY m n k = cntX m n k := by
  obtain ⟨c, hc, v1, v2, v3⟩ := R.2.2.2.2.2.2.2
  have s4 : sumF (vr (m 58) 4) n = sumF (m 5) n := sum_7 R.E7 (by decide) (by decide) hn
  have s6 : sumF (vr (m 58) 6) n = sumF (m 7) n := sum_7 R.E7 (by decide) (by decide) hn
  have s7 : sumF (vr (m 58) 7) n = sumF (m 8) n := sum_7 R.E7 (by decide) (by decide) hn
  have g0 : m 58 2 = m 1 10 := R.E7.2.2.2
  have g1 : m 58 7 = m 1 8 := R.E7.2.1
  have g2 : m 58 0 = m 1 9 := R.E7.2.2.1
  have g6 : m 58 3 = m 37 2 := R.T.2.2.2.2.1.2
  have g7 : m 58 4 = m 37 4 := R.T.2.2.2.2.2.1.2
  have g8 : m 57 21 = m 45 4 := v2.trans v1.symm
  have g9 : m 58 1 = m 37 0 := R.T.2.2.2.1
  unfold cntX cntY
  rw [s4, s6, s7, g0, g1, g2, g6, g7, g8, g9]
set_option maxHeartbeats 4000000 in
theorem p_filling {c : Int32} (R : Rel2 m m ln N q) (hq : q < 512) : Pair xs 57 116 0 0 [.int c] True m ln N q := by
  obtain ⟨n, hn, hd, _⟩ := R.n
  refine x_filling (d := 1297)  (fun e1 => pr_x ?_) (fun i h1 h2 => pr_x ?_)
  · skip
    have RI : Rel2 m (erm m 1) ln N q := R.e1 1
    refine m_filling (d := 1297)  (fun e1' => ?_) (fun i' h1' h2' => ?_)
    · skip
      exact pr_m (fun _ => rfl) (R.ee hq 1)
    · skip
      have t_h1' := tI h1' (by omega)
      omega
  · skip
    have t_h1 := tI h1 (by omega)
    have RI : Rel2 m m ln N q := R
    refine m_filling (d := 1297)  (fun e1' => ?_) (fun i' h1' h2' => ?_)
    · skip
      omega
    · skip
      have t_h1' := tI h1' (by omega)
      obtain rfl : i = i' := by omega
      exact pr_m (fun _ => R.rf h2) (R.nx hq)
set_option maxHeartbeats 4000000 in
theorem p_ofDiner {a b : Int32} (R : Rel2 m m ln N q) (hq : q < 512) : Pair xs 61 133 0 0 [.int a, .int b] True m ln N q := by
  obtain ⟨n, hn, hd, _⟩ := R.n
  refine x_ofDiner (d := 1295) (n := n) hd hn R.h01 R.W R.L R.ix (fun e1 => pr_x ?_) (fun i k h1 h2 h3 h4 => pr_x ?_) (fun i h1 h2 h3 m2 hF => pr_x ?_)
  · skip
    have RI : Rel2 m (erm m 1) ln N q := R.e1 1
    refine m_ofDiner (d := 486) (n := n) (RI.n2 hd) hn RI.X0 RI.WY (fun e1' => ?_) (fun i' k' h1' h2' h3' h4' => ?_) (fun i' h1' h2' h3' m2' hF' => ?_)
    · skip
      exact pr_m (fun _ => rfl) (R.ee hq 1)
    · skip
      have t_h1' := tI h1' (by omega)
      have t_h3' := tI h3' (by omega)
      omega
    · skip
      have t_h1' := tI h1' (by omega)
      have t_h3' := (show b.toInt = 6 by rw [h3']; rfl)
      omega
  · skip
    have t_h1 := tI h1 (by omega)
    have t_h3 := tI h3 (by omega)
    have RI : Rel2 m m ln N q := R
    refine m_ofDiner (d := 486) (n := n) (RI.n2 hd) hn RI.X0 RI.WY (fun e1' => ?_) (fun i' k' h1' h2' h3' h4' => ?_) (fun i' h1' h2' h3' m2' hF' => ?_)
    · skip
      omega
    · skip
      have t_h1' := tI h1' (by omega)
      have t_h3' := tI h3' (by omega)
      obtain rfl : i = i' := by omega
      obtain rfl : k = k' := by omega
      exact pr_m (fun _ => R.rd (by omega) (by omega)) (R.nx hq)
    · skip
      have t_h1' := tI h1' (by omega)
      have t_h3' := (show b.toInt = 6 by rw [h3']; rfl)
      omega
  · skip
    have t_h1 := tI h1 (by omega)
    have t_h3 := (show b.toInt = 6 by rw [h3]; rfl)
    have RI : Rel2 m m2 ln N q := R.fr SmX.rf hF.sm
    refine m_ofDiner (d := 486) (n := n) (RI.n2 hd) hn RI.X0 RI.WY (fun e1' => ?_) (fun i' k' h1' h2' h3' h4' => ?_) (fun i' h1' h2' h3' m2' hF' => ?_)
    · skip
      omega
    · skip
      have t_h1' := tI h1' (by omega)
      have t_h3' := tI h3' (by omega)
      omega
    · skip
      have t_h1' := tI h1' (by omega)
      have t_h3' := (show b.toInt = 6 by rw [h3']; rfl)
      obtain rfl : i = i' := by omega
      exact pr_m (fun _ => by rw [RI.lk, faceF_7 RI.E7 (by omega)]) ((R.fr (hF.sx.tr hF'.sx) (hF.sm.tr hF'.sm)).nx hq)
set_option maxHeartbeats 4000000 in
theorem p_as {a b : Int32} (R : Rel2 m m ln N q) (hq : q < 512) : Pair xs 66 137 0 0 [.int a, .int b] True m ln N q := by
  obtain ⟨n, hn, hd, _⟩ := R.n
  refine x_as (d := 1296) (n := n) (K := kiF m) hd hn R.kx (fun e1 => pr_x ?_) (fun e5 => pr_x ?_) (fun i k h1 h2 h3 h4 h5 => pr_x ?_)
  · skip
    have RI : Rel2 m (erm m 1) ln N q := R.e1 1
    refine m_as (d := 1296) (n := n) (K := kiF m) (RI.n2 hd) hn RI.ky (fun e1' => ?_) (fun e5' => ?_) (fun i' k' h1' h2' h3' h4' h5' => ?_)
    · skip
      exact pr_m (fun _ => rfl) (R.ee hq 1)
    · skip
      obtain ⟨i', k', h1', h2', h3', h4', h5'⟩ := e5'
      have t_h1' := tI h1' (by omega)
      have t_h3' := tI h3' (by omega)
      omega
    · skip
      have t_h1' := tI h1' (by omega)
      have t_h3' := tI h3' (by omega)
      omega
  · skip
    obtain ⟨i, k, h1, h2, h3, h4, h5⟩ := e5
    have t_h1 := tI h1 (by omega)
    have t_h3 := tI h3 (by omega)
    have RI : Rel2 m (erm m 5) ln N q := R.e1 5
    refine m_as (d := 1296) (n := n) (K := kiF m) (RI.n2 hd) hn RI.ky (fun e1' => ?_) (fun e5' => ?_) (fun i' k' h1' h2' h3' h4' h5' => ?_)
    · skip
      omega
    · skip
      obtain ⟨i', k', h1', h2', h3', h4', h5'⟩ := e5'
      have t_h1' := tI h1' (by omega)
      have t_h3' := tI h3' (by omega)
      obtain rfl : i = i' := by omega
      obtain rfl : k = k' := by omega
      exact pr_m (fun _ => rfl) (R.ee hq 5)
    · skip
      have t_h1' := tI h1' (by omega)
      have t_h3' := tI h3' (by omega)
      obtain rfl : i = i' := by omega
      obtain rfl : k = k' := by omega
      exact absurd h5' h5
  · skip
    have t_h1 := tI h1 (by omega)
    have t_h3 := tI h3 (by omega)
    have RI : Rel2 m m ln N q := R
    refine m_as (d := 1296) (n := n) (K := kiF m) (RI.n2 hd) hn RI.ky (fun e1' => ?_) (fun e5' => ?_) (fun i' k' h1' h2' h3' h4' h5' => ?_)
    · skip
      omega
    · skip
      obtain ⟨i', k', h1', h2', h3', h4', h5'⟩ := e5'
      have t_h1' := tI h1' (by omega)
      have t_h3' := tI h3' (by omega)
      obtain rfl : i = i' := by omega
      obtain rfl : k = k' := by omega
      exact absurd h5 h5'
    · skip
      have t_h1' := tI h1' (by omega)
      have t_h3' := tI h3' (by omega)
      obtain rfl : i = i' := by omega
      obtain rfl : k = k' := by omega
      exact pr_m (fun _ => R.rd (c := 1) (by omega) (by decide)) (R.nx hq)
set_option maxHeartbeats 4000000 in
theorem p_law {v a b c : Int32} (R : Rel2 m m ln N q) (hq : q < 512) : Pair xs 69 138 0 0 [.int v, .int a, .int b, .int c] True m ln N q := by
  obtain ⟨n, hn, hd, _⟩ := R.n
  refine x_law (d := 1296) R.W R.L R.ix R.iy (fun e1 => pr_x ?_) (fun h1 m2 hF => pr_x ?_) (fun h1 m2 hF => pr_x ?_)
  · skip
    have RI : Rel2 m (erm m 1) ln N q := R.e1 1
    refine m_law (d := 487) RI.X0 RI.X1 (fun e1' => ?_) (fun h1' m2' hF' => ?_) (fun h1' m2' hF' => ?_)
    · skip
      exact pr_m (fun _ => rfl) (R.ee hq 1)
    · skip
      have t_h1' := tI h1' (by omega)
      omega
    · skip
      have t_h1' := tI h1' (by omega)
      omega
  · skip
    have t_h1 := tI h1 (by omega)
    have RI : Rel2 m m2 ln N q := R.fr SmX.rf hF.sm
    refine m_law (d := 487) RI.X0 RI.X1 (fun e1' => ?_) (fun h1' m2' hF' => ?_) (fun h1' m2' hF' => ?_)
    · skip
      omega
    · skip
      have t_h1' := tI h1' (by omega)
      exact pr_m (fun _ => by rw [RI.lk]) ((R.fr (hF.sx.tr hF'.sx) (hF.sm.tr hF'.sm)).nx hq)
    · skip
      have t_h1' := tI h1' (by omega)
      omega
  · skip
    have t_h1 := tI h1 (by omega)
    have RI : Rel2 m m2 ln N q := R.fr SmX.rf hF.sm
    refine m_law (d := 487) RI.X0 RI.X1 (fun e1' => ?_) (fun h1' m2' hF' => ?_) (fun h1' m2' hF' => ?_)
    · skip
      omega
    · skip
      have t_h1' := tI h1' (by omega)
      omega
    · skip
      have t_h1' := tI h1' (by omega)
      exact pr_m (fun _ => by rw [RI.bl]) ((R.fr (hF.sx.tr hF'.sx) (hF.sm.tr hF'.sm)).nx hq)
set_option maxHeartbeats 4000000 in
theorem p_next (R : Rel2 m m ln N q) (hq : q < 512) : Pair xs 73 151 0 0 [] True m ln N q := by
  obtain ⟨n, hn, hd, _⟩ := R.n
  refine x_next (d := 1293) R.W R.L R.ix (fun m2 g1 g2 => pr_x ?_)
  · skip
    have RI : Rel2 m m2 ln N q := R.fr SmX.rf (nx_m g1)
    refine m_next (d := 484) RI.X0 RI.WY (fun m2' hF' => ?_)
    · skip
      exact pr_m (fun _ => by rw [RI.lk, setF_7 RI.E7 R.W]) ((R.fr ((nx_x g1 g2).tr hF'.sx) ((nx_m g1).tr hF'.sm)).nx hq)
set_option maxHeartbeats 4000000 in
theorem p_then {v a b : Int32} (R : Rel2 m m ln N q) (hq : q < 512) : Pair xs 75 152 0 0 [.int v, .int a, .int b] True m ln N q := by
  obtain ⟨n, hn, hd, _⟩ := R.n
  refine x_then (d := 1292) (n := n) hd hn R.h01 R.W R.L R.ix R.iy (fun e1 => pr_x ?_) (fun z i k h1 h2 h3 h4 h5 h6 m2 hF => pr_x ?_)
  · skip
    have RI : Rel2 m (erm m 1) ln N q := R.e1 1
    refine m_then (d := 482) (n := n) (RI.n2 hd) hn RI.X0 RI.X1 RI.WY (fun e1' => ?_) (fun z' i' k' h1' h2' h3' h4' h5' h6' m2' hF' => ?_)
    · skip
      exact pr_m (fun _ => rfl) (R.ee hq 1)
    · skip
      have t_h1' := tI h1' (by omega)
      have t_h3' := tI h3' (by omega)
      have t_h5' := tI h5' (by omega)
      omega
  · skip
    have t_h1 := tI h1 (by omega)
    have t_h3 := tI h3 (by omega)
    have t_h5 := tI h5 (by omega)
    have RI : Rel2 m m2 ln N q := R.fr SmX.rf hF.sm
    refine m_then (d := 482) (n := n) (RI.n2 hd) hn RI.X0 RI.X1 RI.WY (fun e1' => ?_) (fun z' i' k' h1' h2' h3' h4' h5' h6' m2' hF' => ?_)
    · skip
      omega
    · skip
      have t_h1' := tI h1' (by omega)
      have t_h3' := tI h3' (by omega)
      have t_h5' := tI h5' (by omega)
      obtain rfl : z = z' := by omega
      obtain rfl : i = i' := by omega
      obtain rfl : k = k' := by omega
      exact pr_m (fun _ => by rw [RI.lk, RI.bl]; exact st7 RI.E7 R.W z (what_b k).1 (what_b k).2 (by omega)) ((R.fr (hF.sx.tr hF'.sx) (hF.sm.tr hF'.sm)).nx hq)
set_option maxHeartbeats 4000000 in
theorem p_first {a : Int32} (R : Rel2 m m ln N q) (hq : q < 512) : Pair xs 76 153 0 0 [.int a] True m ln N q := by
  obtain ⟨n, hn, hd, _⟩ := R.n
  refine x_first (d := 1292) (n := n) hd hn R.h01 R.W R.L R.ix R.iy (fun e1 => pr_x ?_) (fun i h1 h2 h3 m2 hF => pr_x ?_) (fun i h1 h2 h3 m2 hF => pr_x ?_)
  · skip
    have RI : Rel2 m (erm m 1) ln N q := R.e1 1
    refine m_first (d := 482) (n := n) (RI.n2 hd) hn RI.X0 RI.X1 RI.WY (fun e1' => ?_) (fun i' h1' h2' h3' m2' hF' => ?_) (fun i' h1' h2' h3' m2' hF' => ?_)
    · skip
      exact pr_m (fun _ => rfl) (R.ee hq 1)
    · skip
      have t_h1' := tI h1' (by omega)
      omega
    · skip
      have t_h1' := tI h1' (by omega)
      omega
  · skip
    have t_h1 := tI h1 (by omega)
    have RI : Rel2 m (erm m2 2) ln N q := R.fr SmX.rf (hF.sm.tr smx_er)
    refine m_first (d := 482) (n := n) (RI.n2 hd) hn RI.X0 RI.X1 RI.WY (fun e1' => ?_) (fun i' h1' h2' h3' m2' hF' => ?_) (fun i' h1' h2' h3' m2' hF' => ?_)
    · skip
      omega
    · skip
      have t_h1' := tI h1' (by omega)
      obtain rfl : i = i' := by omega
      exact pr_m (fun _ => rfl) (R.er2 hq 2 hF.sx hF.sm hF'.sx (smx_er.tr hF'.sm))
    · skip
      have t_h1' := tI h1' (by omega)
      obtain rfl : i = i' := by omega
      have cv : firstF (rkF ((erm m2 2) 58)) (rbF ((erm m2 2) 58)) (vr ((erm m2 2) 58)) i 60 1 = firstF (lkF m ln (m 1 11)) (blF m ln (m 1 12)) (vw m 0) i 60 1 := by
        rw [RI.lk, RI.bl]
        exact firstF_7 RI.E7 R.W (by omega) 60 1
      exact absurd (cv.trans h3) h3'
  · skip
    have t_h1 := tI h1 (by omega)
    have RI : Rel2 m m2 ln N q := R.fr SmX.rf hF.sm
    refine m_first (d := 482) (n := n) (RI.n2 hd) hn RI.X0 RI.X1 RI.WY (fun e1' => ?_) (fun i' h1' h2' h3' m2' hF' => ?_) (fun i' h1' h2' h3' m2' hF' => ?_)
    · skip
      omega
    · skip
      have t_h1' := tI h1' (by omega)
      obtain rfl : i = i' := by omega
      have cv : firstF (rkF (m2 58)) (rbF (m2 58)) (vr (m2 58)) i 60 1 = firstF (lkF m ln (m 1 11)) (blF m ln (m 1 12)) (vw m 0) i 60 1 := by
        rw [RI.lk, RI.bl]
        exact firstF_7 RI.E7 R.W (by omega) 60 1
      exact absurd (cv.symm.trans h3') h3
    · skip
      have t_h1' := tI h1' (by omega)
      obtain rfl : i = i' := by omega
      have cv : firstF (rkF (m2 58)) (rbF (m2 58)) (vr (m2 58)) i 60 1 = firstF (lkF m ln (m 1 11)) (blF m ln (m 1 12)) (vw m 0) i 60 1 := by
        rw [RI.lk, RI.bl]
        exact firstF_7 RI.E7 R.W (by omega) 60 1
      exact pr_m (fun _ => by rw [cv]) ((R.fr (hF.sx.tr hF'.sx) (hF.sm.tr hF'.sm)).nx hq)
set_option maxHeartbeats 4000000 in
theorem p_never (R : Rel2 m m ln N q) (hq : q < 512) : Pair xs 77 156 0 0 [] True m ln N q := by
  obtain ⟨n, hn, hd, _⟩ := R.n
  refine x_never (d := 1292) (n := n) hd hn R.h01 R.W R.L R.ix R.iy (fun m2 hF => pr_x ?_)
  · skip
    have RI : Rel2 m m2 ln N q := R.fr SmX.rf hF.sm
    refine m_never (d := 481) (n := n) (RI.n2 hd) hn RI.X0 RI.X1 RI.WY (fun m2' hF' => ?_)
    · skip
      exact pr_m (fun _ => congrArg nI (bitsF_c n (fun i hi => by rw [RI.lk, RI.bl, moreN_7 RI.E7 R.W 60 (by omega)]))) ((R.fr (hF.sx.tr hF'.sx) (hF.sm.tr hF'.sm)).nx hq)
set_option maxHeartbeats 4000000 in
theorem p_sham {a v : Int32} (R : Rel2 m m ln N q) (hq : q < 512) : Pair xs 78 158 0 0 [.int a, .int v] True m ln N q := by
  obtain ⟨n, hn, hd, _⟩ := R.n
  refine x_sham (d := 1292) (n := n) hd hn R.h01 R.W R.L R.ix R.iy (fun e1 => pr_x ?_) (fun i k h1 h2 h3 h4 h5 h6 m2 hF => pr_x ?_) (fun i k s h1 h2 h3 h4 h5 h6 m2 hF => pr_x ?_)
  · skip
    have RI : Rel2 m (erm m 1) ln N q := R.e1 1
    refine m_sham (d := 480) (n := n) (RI.n2 hd) hn RI.X0 RI.X1 RI.WY (fun e1' => ?_) (fun i' k' h1' h2' h3' h4' h5' h6' m2' hF' => ?_) (fun i' k' s' h1' h2' h3' h4' h5' h6' m2' hF' => ?_)
    · skip
      exact pr_m (fun _ => rfl) (R.ee hq 1)
    · skip
      have t_h1' := tI h1' (by omega)
      have t_h3' := tI h3' (by omega)
      omega
    · skip
      have t_h1' := tI h1' (by omega)
      have t_h3' := tI h3' (by omega)
      omega
  · skip
    have t_h1 := tI h1 (by omega)
    have t_h3 := tI h3 (by omega)
    have RI : Rel2 m (erm m2 2) ln N q := R.fr SmX.rf (hF.sm.tr smx_er)
    refine m_sham (d := 480) (n := n) (RI.n2 hd) hn RI.X0 RI.X1 RI.WY (fun e1' => ?_) (fun i' k' h1' h2' h3' h4' h5' h6' m2' hF' => ?_) (fun i' k' s' h1' h2' h3' h4' h5' h6' m2' hF' => ?_)
    · skip
      omega
    · skip
      have t_h1' := tI h1' (by omega)
      have t_h3' := tI h3' (by omega)
      obtain rfl : i = i' := by omega
      obtain rfl : k = k' := by omega
      exact pr_m (fun _ => rfl) (R.er2 hq 2 hF.sx hF.sm hF'.sx (smx_er.tr hF'.sm))
    · skip
      have t_h1' := tI h1' (by omega)
      have t_h3' := tI h3' (by omega)
      obtain rfl : i = i' := by omega
      obtain rfl : k = k' := by omega
      have cv : leastF (fun s => moreN (rkF ((erm m2 2) 58)) (rbF ((erm m2 2) 58)) (upm (vr ((erm m2 2) 58)) 5 i (nI s)) k i) 10 0 = leastF (fun s => moreN (lkF m ln (m 1 11)) (blF m ln (m 1 12)) (upm (vw m 0) 5 i (nI s)) k i) 10 0 := by
        rw [RI.lk, RI.bl]
        exact leastF_r 10 0 (fun s _ hs => moreN_7 (RI.E7.up 5 i _) (WF_sham R.W (leI_lit (by omega))) k (by omega))
      rw [cv, h6] at h6'
      cases h6'
  · skip
    have t_h1 := tI h1 (by omega)
    have t_h3 := tI h3 (by omega)
    have RI : Rel2 m m2 ln N q := R.fr SmX.rf hF.sm
    refine m_sham (d := 480) (n := n) (RI.n2 hd) hn RI.X0 RI.X1 RI.WY (fun e1' => ?_) (fun i' k' h1' h2' h3' h4' h5' h6' m2' hF' => ?_) (fun i' k' s' h1' h2' h3' h4' h5' h6' m2' hF' => ?_)
    · skip
      omega
    · skip
      have t_h1' := tI h1' (by omega)
      have t_h3' := tI h3' (by omega)
      obtain rfl : i = i' := by omega
      obtain rfl : k = k' := by omega
      have cv : leastF (fun s => moreN (rkF (m2 58)) (rbF (m2 58)) (upm (vr (m2 58)) 5 i (nI s)) k i) 10 0 = leastF (fun s => moreN (lkF m ln (m 1 11)) (blF m ln (m 1 12)) (upm (vw m 0) 5 i (nI s)) k i) 10 0 := by
        rw [RI.lk, RI.bl]
        exact leastF_r 10 0 (fun s _ hs => moreN_7 (RI.E7.up 5 i _) (WF_sham R.W (leI_lit (by omega))) k (by omega))
      rw [cv, h6] at h6'
      cases h6'
    · skip
      have t_h1' := tI h1' (by omega)
      have t_h3' := tI h3' (by omega)
      obtain rfl : i = i' := by omega
      obtain rfl : k = k' := by omega
      have cv : leastF (fun s => moreN (rkF (m2 58)) (rbF (m2 58)) (upm (vr (m2 58)) 5 i (nI s)) k i) 10 0 = leastF (fun s => moreN (lkF m ln (m 1 11)) (blF m ln (m 1 12)) (upm (vw m 0) 5 i (nI s)) k i) 10 0 := by
        rw [RI.lk, RI.bl]
        exact leastF_r 10 0 (fun s _ hs => moreN_7 (RI.E7.up 5 i _) (WF_sham R.W (leI_lit (by omega))) k (by omega))
      rw [cv, h6] at h6'
      have es := Option.some.inj h6'
      exact pr_m (fun _ => by rw [es]) ((R.fr (hF.sx.tr hF'.sx) (hF.sm.tr hF'.sm)).nx hq)
set_option maxHeartbeats 4000000 in
theorem p_alike {a v : Int32} (R : Rel2 m m ln N q) (hq : q < 512) : Pair xs 80 159 0 0 [.int a, .int v] True m ln N q := by
  obtain ⟨n, hn, hd, _⟩ := R.n
  have p2n : 2 ^ n ≤ 2 ^ 8 := Nat.pow_le_pow_right (by decide) hn
  have p28 : 2 ^ 8 = 256 := rfl
  refine x_alike (d := 1292) (n := n) hd hn R.h01 R.W R.L R.ix R.iy (fun e1 => pr_x ?_) (fun i k h1 h2 h3 h4 h5 h6 m2 hF => pr_x ?_) (fun i k s h1 h2 h3 h4 h5 h6 m2 hF => pr_x ?_)
  · skip
    have RI : Rel2 m (erm m 1) ln N q := R.e1 1
    refine m_alike (d := 480) (n := n) (RI.n2 hd) hn RI.X0 RI.X1 RI.WY (fun e1' => ?_) (fun i' k' h1' h2' h3' h4' h5' h6' m2' hF' => ?_) (fun i' k' s' h1' h2' h3' h4' h5' h6' m2' hF' => ?_)
    · skip
      exact pr_m (fun _ => rfl) (R.ee hq 1)
    · skip
      have t_h1' := tI h1' (by omega)
      have t_h3' := tI h3' (by omega)
      omega
    · skip
      have t_h1' := tI h1' (by omega)
      have t_h3' := tI h3' (by omega)
      omega
  · skip
    have t_h1 := tI h1 (by omega)
    have t_h3 := tI h3 (by omega)
    have RI : Rel2 m (erm m2 2) ln N q := R.fr SmX.rf (hF.sm.tr smx_er)
    refine m_alike (d := 480) (n := n) (RI.n2 hd) hn RI.X0 RI.X1 RI.WY (fun e1' => ?_) (fun i' k' h1' h2' h3' h4' h5' h6' m2' hF' => ?_) (fun i' k' s' h1' h2' h3' h4' h5' h6' m2' hF' => ?_)
    · skip
      omega
    · skip
      have t_h1' := tI h1' (by omega)
      have t_h3' := tI h3' (by omega)
      obtain rfl : i = i' := by omega
      obtain rfl : k = k' := by omega
      exact pr_m (fun _ => rfl) (R.er2 hq 2 hF.sx hF.sm hF'.sx (smx_er.tr hF'.sm))
    · skip
      have t_h1' := tI h1' (by omega)
      have t_h3' := tI h3' (by omega)
      obtain rfl : i = i' := by omega
      obtain rfl : k = k' := by omega
      have cv : leastF (fun s => allF (fun w => !(Nat.testBit i w) || moreN (rkF ((erm m2 2) 58)) (rbF ((erm m2 2) 58)) (shamX (vr ((erm m2 2) 58)) i (nI s)) k w) n) 10 0 = leastF (fun s => allF (fun w => !(Nat.testBit i w) || moreN (lkF m ln (m 1 11)) (blF m ln (m 1 12)) (shamX (vw m 0) i (nI s)) k w) n) 10 0 := by
        rw [RI.lk, RI.bl]
        exact leastF_r 10 0 (fun s _ hs => allF_c n (fun w hw => by rw [moreN_7 (shamX_7 RI.E7 i _) (WF_shamX R.W (leI_lit (by omega))) k (by omega)]))
      rw [cv, h6] at h6'
      cases h6'
  · skip
    have t_h1 := tI h1 (by omega)
    have t_h3 := tI h3 (by omega)
    have RI : Rel2 m m2 ln N q := R.fr SmX.rf hF.sm
    refine m_alike (d := 480) (n := n) (RI.n2 hd) hn RI.X0 RI.X1 RI.WY (fun e1' => ?_) (fun i' k' h1' h2' h3' h4' h5' h6' m2' hF' => ?_) (fun i' k' s' h1' h2' h3' h4' h5' h6' m2' hF' => ?_)
    · skip
      omega
    · skip
      have t_h1' := tI h1' (by omega)
      have t_h3' := tI h3' (by omega)
      obtain rfl : i = i' := by omega
      obtain rfl : k = k' := by omega
      have cv : leastF (fun s => allF (fun w => !(Nat.testBit i w) || moreN (rkF (m2 58)) (rbF (m2 58)) (shamX (vr (m2 58)) i (nI s)) k w) n) 10 0 = leastF (fun s => allF (fun w => !(Nat.testBit i w) || moreN (lkF m ln (m 1 11)) (blF m ln (m 1 12)) (shamX (vw m 0) i (nI s)) k w) n) 10 0 := by
        rw [RI.lk, RI.bl]
        exact leastF_r 10 0 (fun s _ hs => allF_c n (fun w hw => by rw [moreN_7 (shamX_7 RI.E7 i _) (WF_shamX R.W (leI_lit (by omega))) k (by omega)]))
      rw [cv, h6] at h6'
      cases h6'
    · skip
      have t_h1' := tI h1' (by omega)
      have t_h3' := tI h3' (by omega)
      obtain rfl : i = i' := by omega
      obtain rfl : k = k' := by omega
      have cv : leastF (fun s => allF (fun w => !(Nat.testBit i w) || moreN (rkF (m2 58)) (rbF (m2 58)) (shamX (vr (m2 58)) i (nI s)) k w) n) 10 0 = leastF (fun s => allF (fun w => !(Nat.testBit i w) || moreN (lkF m ln (m 1 11)) (blF m ln (m 1 12)) (shamX (vw m 0) i (nI s)) k w) n) 10 0 := by
        rw [RI.lk, RI.bl]
        exact leastF_r 10 0 (fun s _ hs => allF_c n (fun w hw => by rw [moreN_7 (shamX_7 RI.E7 i _) (WF_shamX R.W (leI_lit (by omega))) k (by omega)]))
      rw [cv, h6] at h6'
      have es := Option.some.inj h6'
      exact pr_m (fun _ => by rw [es]) ((R.fr (hF.sx.tr hF'.sx) (hF.sm.tr hF'.sm)).nx hq)
set_option maxHeartbeats 4000000 in
theorem p_whose {a b : Int32} (R : Rel2 m m ln N q) (hq : q < 512) : Pair xs 82 162 0 0 [.int a, .int b] False m ln N q := by
  obtain ⟨n, hn, hd, _⟩ := R.n
  refine x_whose (d := 1291) (n := n) (B := shB m) (Ln := shL m) hd hn R.h01 R.W R.L R.ix R.iy R.sx (fun e1 => pr_x ?_) (fun e2 => pr_x ?_) (fun s k h1 h2 h3 h4 h5 x m2 hF => pr_x ?_)
  · skip
    have RI : Rel2 m (erm m 1) ln N q := R.e1 1
    refine m_whose (d := 480) (n := n) (B := shB m) (Ln := shL m) (RI.n2 hd) hn RI.X0 RI.X1 RI.WY RI.sy (fun e1' => ?_) (fun e2' => ?_) (fun s' k' h1' h2' h3' h4' h5' x' m2' hF' => ?_)
    · skip
      exact pr_m (fun _ => rfl) (R.ee hq 1)
    · skip
      obtain ⟨s', k', h1', h2', h3', h4', h5'⟩ := e2'
      have t_h1' := tI h1' (by omega)
      have t_h3' := tI h3' (by omega)
      omega
    · skip
      have t_h1' := tI h1' (by omega)
      have t_h3' := tI h3' (by omega)
      omega
  · skip
    obtain ⟨s, k, h1, h2, h3, h4, h5⟩ := e2
    have t_h1 := tI h1 (by omega)
    have t_h3 := tI h3 (by omega)
    have RI : Rel2 m (erm m 2) ln N q := R.e1 2
    refine m_whose (d := 480) (n := n) (B := shB m) (Ln := shL m) (RI.n2 hd) hn RI.X0 RI.X1 RI.WY RI.sy (fun e1' => ?_) (fun e2' => ?_) (fun s' k' h1' h2' h3' h4' h5' x' m2' hF' => ?_)
    · skip
      omega
    · skip
      obtain ⟨s', k', h1', h2', h3', h4', h5'⟩ := e2'
      have t_h1' := tI h1' (by omega)
      have t_h3' := tI h3' (by omega)
      obtain rfl : s = s' := by omega
      obtain rfl : k = k' := by omega
      exact pr_m (fun _ => rfl) (R.ee hq 2)
    · skip
      have t_h1' := tI h1' (by omega)
      have t_h3' := tI h3' (by omega)
      obtain rfl : s = s' := by omega
      obtain rfl : k = k' := by omega
      exact absurd h5 h5'
  · skip
    have t_h1 := tI h1 (by omega)
    have t_h3 := tI h3 (by omega)
    have RI : Rel2 m m2 ln N q := R.fr SmX.rf hF.sm
    refine m_whose (d := 480) (n := n) (B := shB m) (Ln := shL m) (RI.n2 hd) hn RI.X0 RI.X1 RI.WY RI.sy (fun e1' => ?_) (fun e2' => ?_) (fun s' k' h1' h2' h3' h4' h5' x' m2' hF' => ?_)
    · skip
      omega
    · skip
      obtain ⟨s', k', h1', h2', h3', h4', h5'⟩ := e2'
      have t_h1' := tI h1' (by omega)
      have t_h3' := tI h3' (by omega)
      obtain rfl : s = s' := by omega
      obtain rfl : k = k' := by omega
      exact absurd h5' h5
    · skip
      have t_h1' := tI h1' (by omega)
      have t_h3' := tI h3' (by omega)
      obtain rfl : s = s' := by omega
      obtain rfl : k = k' := by omega
      exact pr_m (fun h => h.elim) ((R.fr (hF.sx.tr hF'.sx) (hF.sm.tr hF'.sm)).nx hq)
set_option maxHeartbeats 4000000 in
theorem p_rank {a : Int32} (R : Rel2 m m ln N q) (hq : q < 512) : Pair xs 83 163 0 0 [.int a] True m ln N q := by
  obtain ⟨n, hn, hd, _⟩ := R.n
  refine x_rank (d := 1294) (n := n) hd hn R.W R.L R.ix (fun e1 => pr_x ?_) (fun i h1 h2 h3 => pr_x ?_) (fun i h1 h2 h3 m2 g1 g2 => pr_x ?_)
  · skip
    have RI : Rel2 m (erm m 1) ln N q := R.e1 1
    refine m_rank (d := 485) (n := n) (RI.n2 hd) hn RI.X0 RI.WY (fun e1' => ?_) (fun i' h1' h2' h3' => ?_) (fun i' h1' h2' h3' m2' hF' => ?_)
    · skip
      exact pr_m (fun _ => rfl) (R.ee hq 1)
    · skip
      have t_h1' := tI h1' (by omega)
      omega
    · skip
      have t_h1' := tI h1' (by omega)
      omega
  · skip
    have t_h1 := tI h1 (by omega)
    have RI : Rel2 m (erm m 3) ln N q := R.e1 3
    refine m_rank (d := 485) (n := n) (RI.n2 hd) hn RI.X0 RI.WY (fun e1' => ?_) (fun i' h1' h2' h3' => ?_) (fun i' h1' h2' h3' m2' hF' => ?_)
    · skip
      omega
    · skip
      have t_h1' := tI h1' (by omega)
      obtain rfl : i = i' := by omega
      exact pr_m (fun _ => rfl) (R.ee hq 3)
    · skip
      have t_h1' := tI h1' (by omega)
      obtain rfl : i = i' := by omega
      rw [RI.rd (i := i) (c := 5) (by omega) (by decide)] at h3'
      rcases R.h01 i (by omega) with z | z
      · exact absurd (by rw [z]; rfl) h3
      · exact absurd (show (m 8 i).toInt = 1 by rw [z]; rfl) h3'
  · skip
    have t_h1 := tI h1 (by omega)
    have RI : Rel2 m m2 ln N q := R.fr SmX.rf (nx_m g1)
    refine m_rank (d := 485) (n := n) (RI.n2 hd) hn RI.X0 RI.WY (fun e1' => ?_) (fun i' h1' h2' h3' => ?_) (fun i' h1' h2' h3' m2' hF' => ?_)
    · skip
      omega
    · skip
      have t_h1' := tI h1' (by omega)
      obtain rfl : i = i' := by omega
      rw [RI.rd (i := i) (c := 5) (by omega) (by decide)] at h3'
      have h4 : (m 8 i).toInt = 1 := h3'
      omega
    · skip
      have t_h1' := tI h1' (by omega)
      obtain rfl : i = i' := by omega
      exact pr_m (fun _ => by rw [RI.lk, aheadF_7 RI.E7 hn (by omega)]) ((R.fr ((nx_x g1 g2).tr hF'.sx) ((nx_m g1).tr hF'.sm)).nx hq)
set_option maxHeartbeats 4000000 in
theorem p_harm {a v : Int32} (R : Rel2 m m ln N q) (hq : q < 512) : Pair xs 84 164 0 0 [.int a, .int v] True m ln N q := by
  obtain ⟨n, hn, hd, _⟩ := R.n
  refine x_harm (d := 1292) (n := n) hd hn R.h01 R.W R.L R.ix R.iy (fun e1 => pr_x ?_) (fun i k h1 h2 h3 h4 m2 hF => pr_x ?_)
  · skip
    have RI : Rel2 m (erm m 1) ln N q := R.e1 1
    refine m_harm (d := 481) (n := n) (RI.n2 hd) hn RI.X0 RI.X1 RI.WY (fun e1' => ?_) (fun i' k' h1' h2' h3' h4' m2' hF' => ?_)
    · skip
      exact pr_m (fun _ => rfl) (R.ee hq 1)
    · skip
      have t_h1' := tI h1' (by omega)
      have t_h3' := tI h3' (by omega)
      omega
  · skip
    have t_h1 := tI h1 (by omega)
    have t_h3 := tI h3 (by omega)
    have RI : Rel2 m m2 ln N q := R.fr SmX.rf hF.sm
    refine m_harm (d := 481) (n := n) (RI.n2 hd) hn RI.X0 RI.X1 RI.WY (fun e1' => ?_) (fun i' k' h1' h2' h3' h4' m2' hF' => ?_)
    · skip
      omega
    · skip
      have t_h1' := tI h1' (by omega)
      have t_h3' := tI h3' (by omega)
      obtain rfl : i = i' := by omega
      obtain rfl : k = k' := by omega
      exact pr_m (fun _ => congrArg nI (bitsF_c n (fun o ho => by rw [RI.lk, RI.bl, st7 RI.E7 R.W k (by decide) (by decide) (by omega), st7 (RI.E7.up 5 i 0) (WF_sham R.W ⟨0, by decide, rfl⟩) k (by decide) (by decide) (by omega)]))) ((R.fr (hF.sx.tr hF'.sx) (hF.sm.tr hF'.sm)).nx hq)
set_option maxHeartbeats 4000000 in
theorem p_cramps {a v : Int32} (R : Rel2 m m ln N q) (hq : q < 512) : Pair xs 85 165 0 0 [.int a, .int v] True m ln N q := by
  obtain ⟨n, hn, hd, _⟩ := R.n
  refine x_cramps (d := 1292) (n := n) hd hn R.h01 R.W R.L R.ix R.iy (fun e1 => pr_x ?_) (fun i k h1 h2 h3 h4 m2 hF => pr_x ?_)
  · skip
    have RI : Rel2 m (erm m 1) ln N q := R.e1 1
    refine m_cramps (d := 481) (n := n) (RI.n2 hd) hn RI.X0 RI.X1 RI.WY (fun e1' => ?_) (fun i' k' h1' h2' h3' h4' m2' hF' => ?_)
    · skip
      exact pr_m (fun _ => rfl) (R.ee hq 1)
    · skip
      have t_h1' := tI h1' (by omega)
      have t_h3' := tI h3' (by omega)
      omega
  · skip
    have t_h1 := tI h1 (by omega)
    have t_h3 := tI h3 (by omega)
    have RI : Rel2 m m2 ln N q := R.fr SmX.rf hF.sm
    refine m_cramps (d := 481) (n := n) (RI.n2 hd) hn RI.X0 RI.X1 RI.WY (fun e1' => ?_) (fun i' k' h1' h2' h3' h4' m2' hF' => ?_)
    · skip
      omega
    · skip
      have t_h1' := tI h1' (by omega)
      have t_h3' := tI h3' (by omega)
      obtain rfl : i = i' := by omega
      obtain rfl : k = k' := by omega
      exact pr_m (fun _ => congrArg nI (cntF_c k (fun o ho => by rw [RI.lk, RI.bl, st7 RI.E7 R.W (o + 1) (by decide) (by decide) (by omega)]))) ((R.fr (hF.sx.tr hF'.sx) (hF.sm.tr hF'.sm)).nx hq)
set_option maxHeartbeats 4000000 in
theorem p_enough {v b : Int32} (R : Rel2 m m ln N q) (hq : q < 512) : Pair xs 86 166 0 0 [.int v, .int b] True m ln N q := by
  obtain ⟨n, hn, hd, _⟩ := R.n
  refine x_enough (d := 1292) (n := n) hd hn R.h01 R.W R.L R.ix R.iy (fun e1 => pr_x ?_) (fun k h1 h2 h3 h4 h5 m2 hF => pr_x ?_) (fun k w h1 h2 h3 h4 h5 m2 hF => pr_x ?_)
  · skip
    have RI : Rel2 m (erm m 1) ln N q := R.e1 1
    refine m_enough (d := 481) (n := n) (RI.n2 hd) hn RI.X0 RI.X1 RI.WY (fun e1' => ?_) (fun k' h1' h2' h3' h4' h5' m2' hF' => ?_) (fun k' w' h1' h2' h3' h4' h5' m2' hF' => ?_)
    · skip
      exact pr_m (fun _ => rfl) (R.ee hq 1)
    · skip
      have t_h1' := tI h1' (by omega)
      omega
    · skip
      have t_h1' := tI h1' (by omega)
      omega
  · skip
    have t_h1 := tI h1 (by omega)
    have RI : Rel2 m (erm m2 2) ln N q := R.fr SmX.rf (hF.sm.tr smx_er)
    refine m_enough (d := 481) (n := n) (RI.n2 hd) hn RI.X0 RI.X1 RI.WY (fun e1' => ?_) (fun k' h1' h2' h3' h4' h5' m2' hF' => ?_) (fun k' w' h1' h2' h3' h4' h5' m2' hF' => ?_)
    · skip
      omega
    · skip
      have t_h1' := tI h1' (by omega)
      obtain rfl : k = k' := by omega
      exact pr_m (fun _ => rfl) (R.er2 hq 2 hF.sx hF.sm hF'.sx (smx_er.tr hF'.sm))
    · skip
      have t_h1' := tI h1' (by omega)
      obtain rfl : k = k' := by omega
      have cv : leastF (fun w => allF (fun i => decide ((stepN (rkF ((erm m2 2) 58)) (rbF ((erm m2 2) 58)) (upm (vr ((erm m2 2) 58)) 0 8 (nI w)) k 4 i).toInt < v.toInt)) n) 4 1 = leastF (fun w => allF (fun i => decide ((stepN (lkF m ln (m 1 11)) (blF m ln (m 1 12)) (upm (vw m 0) 0 8 (nI w)) k 4 i).toInt < v.toInt)) n) 4 1 := by
        rw [RI.lk, RI.bl]
        exact leastF_r 4 1 (fun w hw1 hw2 => allF_c n (fun i hi => by rw [st7 (RI.E7.up 0 8 _) (WF_w R.W (by omega) (by omega)) k (by decide) (by decide) (by omega)]))
      rw [cv, h5] at h5'
      cases h5'
  · skip
    have t_h1 := tI h1 (by omega)
    have RI : Rel2 m m2 ln N q := R.fr SmX.rf hF.sm
    refine m_enough (d := 481) (n := n) (RI.n2 hd) hn RI.X0 RI.X1 RI.WY (fun e1' => ?_) (fun k' h1' h2' h3' h4' h5' m2' hF' => ?_) (fun k' w' h1' h2' h3' h4' h5' m2' hF' => ?_)
    · skip
      omega
    · skip
      have t_h1' := tI h1' (by omega)
      obtain rfl : k = k' := by omega
      have cv : leastF (fun w => allF (fun i => decide ((stepN (rkF (m2 58)) (rbF (m2 58)) (upm (vr (m2 58)) 0 8 (nI w)) k 4 i).toInt < v.toInt)) n) 4 1 = leastF (fun w => allF (fun i => decide ((stepN (lkF m ln (m 1 11)) (blF m ln (m 1 12)) (upm (vw m 0) 0 8 (nI w)) k 4 i).toInt < v.toInt)) n) 4 1 := by
        rw [RI.lk, RI.bl]
        exact leastF_r 4 1 (fun w hw1 hw2 => allF_c n (fun i hi => by rw [st7 (RI.E7.up 0 8 _) (WF_w R.W (by omega) (by omega)) k (by decide) (by decide) (by omega)]))
      rw [cv, h5] at h5'
      cases h5'
    · skip
      have t_h1' := tI h1' (by omega)
      obtain rfl : k = k' := by omega
      have cv : leastF (fun w => allF (fun i => decide ((stepN (rkF (m2 58)) (rbF (m2 58)) (upm (vr (m2 58)) 0 8 (nI w)) k 4 i).toInt < v.toInt)) n) 4 1 = leastF (fun w => allF (fun i => decide ((stepN (lkF m ln (m 1 11)) (blF m ln (m 1 12)) (upm (vw m 0) 0 8 (nI w)) k 4 i).toInt < v.toInt)) n) 4 1 := by
        rw [RI.lk, RI.bl]
        exact leastF_r 4 1 (fun w hw1 hw2 => allF_c n (fun i hi => by rw [st7 (RI.E7.up 0 8 _) (WF_w R.W (by omega) (by omega)) k (by decide) (by decide) (by omega)]))
      rw [cv, h5] at h5'
      have es := Option.some.inj h5'
      exact pr_m (fun _ => by rw [es]) ((R.fr (hF.sx.tr hF'.sx) (hF.sm.tr hF'.sm)).nx hq)
set_option maxHeartbeats 4000000 in
theorem p_meals {v : Int32} (R : Rel2 m m ln N q) (hq : q < 512) : Pair xs 87 167 0 0 [.int v] True m ln N q := by
  obtain ⟨n, hn, hd, _⟩ := R.n
  refine x_meals (d := 1292) (n := n) hd hn R.h01 R.W R.L R.ix R.iy (fun e1 => pr_x ?_) (fun z h1 h2 m2 hF => pr_x ?_)
  · skip
    have RI : Rel2 m (erm m 1) ln N q := R.e1 1
    refine m_meals (d := 482) (n := n) (RI.n2 hd) hn RI.X0 RI.X1 RI.WY (fun e1' => ?_) (fun z' h1' h2' m2' hF' => ?_)
    · skip
      exact pr_m (fun _ => rfl) (R.ee hq 1)
    · skip
      have t_h1' := tI h1' (by omega)
      omega
  · skip
    have t_h1 := tI h1 (by omega)
    have RI : Rel2 m m2 ln N q := R.fr SmX.rf hF.sm
    refine m_meals (d := 482) (n := n) (RI.n2 hd) hn RI.X0 RI.X1 RI.WY (fun e1' => ?_) (fun z' h1' h2' m2' hF' => ?_)
    · skip
      omega
    · skip
      have t_h1' := tI h1' (by omega)
      obtain rfl : z = z' := by omega
      exact pr_m (fun _ => by rw [RI.lk, RI.bl, sumN_7 RI.E7 R.W z (by decide) (by decide) hn, sum_7 RI.E7 (by decide) (by decide) hn]) ((R.fr (hF.sx.tr hF'.sx) (hF.sm.tr hF'.sm)).nx hq)
set_option maxHeartbeats 4000000 in
theorem p_odds {a v b : Int32} (R : Rel2 m m ln N q) (hq : q < 512) : Pair xs 89 169 0 0 [.int a, .int v, .int b] True m ln N q := by
  obtain ⟨n, hn, hd, _⟩ := R.n
  refine x_odds (d := 1292) (n := n) hd hn R.h01 R.W R.L R.ix R.iy (fun e1 => pr_x ?_) (fun i k h1 h2 h3 h4 h5 m2 hF => pr_x ?_) (fun i k h1 h2 h3 h4 h5 m2 hF => pr_x ?_)
  · skip
    have RI : Rel2 m (erm m 1) ln N q := R.e1 1
    refine m_odds (d := 481) (n := n) (RI.n2 hd) hn RI.X0 RI.X1 RI.WY (fun e1' => ?_) (fun i' k' h1' h2' h3' h4' h5' m2' hF' => ?_) (fun i' k' h1' h2' h3' h4' h5' m2' hF' => ?_)
    · skip
      exact pr_m (fun _ => rfl) (R.ee hq 1)
    · skip
      have t_h1' := tI h1' (by omega)
      have t_h3' := tI h3' (by omega)
      have t_h5' := tI h5' (by omega)
      omega
    · skip
      have t_h1' := tI h1' (by omega)
      have t_h3' := tI h3' (by omega)
      have t_h5' := tI h5' (by omega)
      omega
  · skip
    have t_h1 := tI h1 (by omega)
    have t_h3 := tI h3 (by omega)
    have t_h5 := tI h5 (by omega)
    have RI : Rel2 m m2 ln N q := R.fr SmX.rf hF.sm
    refine m_odds (d := 481) (n := n) (RI.n2 hd) hn RI.X0 RI.X1 RI.WY (fun e1' => ?_) (fun i' k' h1' h2' h3' h4' h5' m2' hF' => ?_) (fun i' k' h1' h2' h3' h4' h5' m2' hF' => ?_)
    · skip
      omega
    · skip
      have t_h1' := tI h1' (by omega)
      have t_h3' := tI h3' (by omega)
      have t_h5' := tI h5' (by omega)
      obtain rfl : i = i' := by omega
      obtain rfl : k = k' := by omega
      have cv : cntF (fun s => moreN (rkF (m2 58)) (rbF (m2 58)) (upm (vr (m2 58)) 5 i (nI s)) k i) 10 = cntF (fun s => moreN (lkF m ln (m 1 11)) (blF m ln (m 1 12)) (upm (vw m 0) 5 i (nI s)) k i) 10 := by
        rw [RI.lk, RI.bl]
        exact cntF_c 10 (fun s hs => moreN_7 (RI.E7.up 5 i _) (WF_sham R.W (leI_lit (by omega))) k (by omega))
      exact pr_m (fun _ => by rw [cv]) ((R.fr (hF.sx.tr hF'.sx) (hF.sm.tr hF'.sm)).nx hq)
    · skip
      have t_h1' := tI h1' (by omega)
      have t_h3' := tI h3' (by omega)
      have t_h5' := tI h5' (by omega)
      omega
  · skip
    have t_h1 := tI h1 (by omega)
    have t_h3 := tI h3 (by omega)
    have t_h5 := tI h5 (by omega)
    have RI : Rel2 m m2 ln N q := R.fr SmX.rf hF.sm
    refine m_odds (d := 481) (n := n) (RI.n2 hd) hn RI.X0 RI.X1 RI.WY (fun e1' => ?_) (fun i' k' h1' h2' h3' h4' h5' m2' hF' => ?_) (fun i' k' h1' h2' h3' h4' h5' m2' hF' => ?_)
    · skip
      omega
    · skip
      have t_h1' := tI h1' (by omega)
      have t_h3' := tI h3' (by omega)
      have t_h5' := tI h5' (by omega)
      omega
    · skip
      have t_h1' := tI h1' (by omega)
      have t_h3' := tI h3' (by omega)
      have t_h5' := tI h5' (by omega)
      obtain rfl : i = i' := by omega
      obtain rfl : k = k' := by omega
      have cv : cntF (fun s => moreN (rkF (m2 58)) (rbF (m2 58)) (upm (vr (m2 58)) 5 i (nI s)) k i) 10 = cntF (fun s => moreN (lkF m ln (m 1 11)) (blF m ln (m 1 12)) (upm (vw m 0) 5 i (nI s)) k i) 10 := by
        rw [RI.lk, RI.bl]
        exact cntF_c 10 (fun s hs => moreN_7 (RI.E7.up 5 i _) (WF_sham R.W (leI_lit (by omega))) k (by omega))
      exact pr_m (fun _ => by rw [cv]) ((R.fr (hF.sx.tr hF'.sx) (hF.sm.tr hF'.sm)).nx hq)
set_option maxHeartbeats 4000000 in
theorem p_trace {v : Int32} (R : Rel2 m m ln N q) (hq : q < 512) : Pair xs 94 177 0 0 [.int v] True m ln N q := by
  obtain ⟨n, hn, hd, _⟩ := R.n
  obtain ⟨c, hc, v1, v2, v3⟩ := R.2.2.2.2.2.2.2
  refine x_trace (d := 1297) (b := c) v1 hc (fun e2 => pr_x ?_) (fun j h1 h2 => pr_x ?_)
  · skip
    have hmm : SmM m (erm m 2) := smx_er
    refine m_trace (d := 1297) (b := c) ((SmM.f57 (a := m) (b := (erm m 2)) hmm (Or.inr (by decide))).trans v2) hc (fun e2' => ?_) (fun j' h1' h2' => ?_)
    · skip
      exact pr_m (fun _ => rfl) (R.ee hq 2)
    · skip
      have t_h1' := tI h1' (by omega)
      omega
  · skip
    have t_h1 := tI h1 (by omega)
    have hmm : SmM m m := SmM.rf
    refine m_trace (d := 1297) (b := c) ((SmM.f57 (a := m) (b := m) hmm (Or.inr (by decide))).trans v2) hc (fun e2' => ?_) (fun j' h1' h2' => ?_)
    · skip
      omega
    · skip
      have t_h1' := tI h1' (by omega)
      obtain rfl : j = j' := by omega
      exact pr_m (fun _ => v3 j h2) (R.nx hq)
set_option maxHeartbeats 4000000 in
theorem p_count {v : Int32} (R : Rel2 m m ln N q) (hq : q < 512) : Pair xs 104 188 0 0 [.int v] True m ln N q := by
  obtain ⟨n, hn, hd, _⟩ := R.n
  refine x_count (d := 1296) (n := n) hd hn R.h01 (fun e1 => pr_x ?_) (fun k h1 h2 => pr_x ?_)
  · skip
    have RI : Rel2 m (erm m 1) ln N q := R.e1 1
    refine m_count (d := 1296) (n := n) (RI.n2 hd) hn (fun e1' => ?_) (fun k' h1' h2' => ?_)
    · skip
      exact pr_m (fun _ => rfl) (R.ee hq 1)
    · skip
      have t_h1' := tI h1' (by omega)
      omega
  · skip
    have t_h1 := tI h1 (by omega)
    have RI : Rel2 m m ln N q := R
    refine m_count (d := 1296) (n := n) (RI.n2 hd) hn (fun e1' => ?_) (fun k' h1' h2' => ?_)
    · skip
      omega
    · skip
      have t_h1' := tI h1' (by omega)
      obtain rfl : k = k' := by omega
      exact pr_m (fun _ => cnt_e R hn hd k h2) (R.nx hq)
set_option maxHeartbeats 4000000 in
theorem p_told {v : Int32} (R : Rel2 m m ln N q) (hq : q < 512) : Pair xs 105 189 0 0 [.int v] True m ln N q := by
  obtain ⟨n, hn, hd, _⟩ := R.n
  refine x_told (d := 1297)  (fun e1 => pr_x ?_) (fun j h1 h2 h3 => pr_x ?_)
  · skip
    have RI : Rel2 m (erm m 1) ln N q := R.e1 1
    refine m_told (d := 1297)  (fun e1' => ?_) (fun j' h1' h2' h3' => ?_)
    · skip
      exact pr_m (fun _ => rfl) (R.ee hq 1)
    · skip
      have t_h1' := tI h1' (by omega)
      omega
  · skip
    have t_h1 := tI h1 (by omega)
    have RI : Rel2 m m ln N q := R
    refine m_told (d := 1297)  (fun e1' => ?_) (fun j' h1' h2' h3' => ?_)
    · skip
      omega
    · skip
      have t_h1' := tI h1' (by omega)
      obtain rfl : j = j' := by omega
      exact pr_m (fun _ => R.2.2.2.2.2.2.1 j h2 h3) (R.nx hq)
set_option maxHeartbeats 4000000 in
theorem p_judge {a : Int32} (R : Rel2 m m ln N q) (hq : q < 512) : Pair xs 99 183 0 0 [.int a] True m ln N q := by
  obtain ⟨n, hn, hd, _⟩ := R.n
  refine x_judge (d := 1295) (n := n) (B := shB m) (Ln := shL m) hd hn R.W R.L R.ix R.sx (fun e1 => pr_x ?_) (fun e2 => pr_x ?_) (fun s h1 h2 h3 m2 hF => pr_x ?_)
  · skip
    have RI : Rel2 m (erm m 1) ln N q := R.e1 1
    refine m_judge (d := 486) (n := n) (B := shB m) (Ln := shL m) (RI.n2 hd) hn RI.X0 RI.WY RI.sy (fun e1' => ?_) (fun e2' => ?_) (fun s' h1' h2' h3' m2' hF' => ?_)
    · skip
      exact pr_m (fun _ => rfl) (R.ee hq 1)
    · skip
      obtain ⟨s', h1', h2', h3'⟩ := e2'
      have t_h1' := tI h1' (by omega)
      omega
    · skip
      have t_h1' := tI h1' (by omega)
      omega
  · skip
    obtain ⟨s, h1, h2, h3⟩ := e2
    have t_h1 := tI h1 (by omega)
    have RI : Rel2 m (erm m 2) ln N q := R.e1 2
    refine m_judge (d := 486) (n := n) (B := shB m) (Ln := shL m) (RI.n2 hd) hn RI.X0 RI.WY RI.sy (fun e1' => ?_) (fun e2' => ?_) (fun s' h1' h2' h3' m2' hF' => ?_)
    · skip
      omega
    · skip
      obtain ⟨s', h1', h2', h3'⟩ := e2'
      have t_h1' := tI h1' (by omega)
      obtain rfl : s = s' := by omega
      exact pr_m (fun _ => rfl) (R.ee hq 2)
    · skip
      have t_h1' := tI h1' (by omega)
      obtain rfl : s = s' := by omega
      exact absurd h3 h3'
  · skip
    have t_h1 := tI h1 (by omega)
    have RI : Rel2 m m2 ln N q := R.fr SmX.rf hF.sm
    refine m_judge (d := 486) (n := n) (B := shB m) (Ln := shL m) (RI.n2 hd) hn RI.X0 RI.WY RI.sy (fun e1' => ?_) (fun e2' => ?_) (fun s' h1' h2' h3' m2' hF' => ?_)
    · skip
      omega
    · skip
      obtain ⟨s', h1', h2', h3'⟩ := e2'
      have t_h1' := tI h1' (by omega)
      obtain rfl : s = s' := by omega
      exact absurd h3' h3
    · skip
      have t_h1' := tI h1' (by omega)
      obtain rfl : s = s' := by omega
      have cv : runF (fun z => decide (m2 65 (40 * s + z) = faceF (rkF (m2 58)) (vr (m2 58)) z)) (min (shL m s) n) 0 = runF (fun z => decide (m (49 + 2 * s) z = lowF (shB m s) (faceF (lkF m ln (m 1 11)) (vw m 0) z))) (min (shL m s) n) 0 := by
        refine runF_c _ _ (fun z _ hz => ?_)
        have hz8 : z < 8 := by omega
        have hz40 : z < 40 := by
          have := (R.sx s h2).2.1
          omega
        obtain ⟨v, e1, e2⟩ := (RI.sh s h2).2.2.2.2.2.2 z hz40
        have hb : shB m s = 8 ∨ shB m s = 16 ∨ shB m s = 32 := by
          have := (R.sx s h2).1
          omega
        have hf := face_b (v := lkF m ln (m 1 11) (vw m 0 4 z) (vw m 0 6 z) (vw m 0 0 9 - vw m 0 0 9 / 16 * 16)) R.W hz8 (held_b _)
        rw [e1, e2, RI.lk, faceF_7 RI.E7 hz8]
        exact decide_eq_decide.mpr (low_nar hb v _ hf.1 hf.2)
      exact pr_m (fun _ => by rw [cv]) ((R.fr (hF.sx.tr hF'.sx) (hF.sm.tr hF'.sm)).nx hq)
end
end
