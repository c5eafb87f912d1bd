/-! VOICES: the reference -/
def vocF : Nat → Nat → Int32 → Int32 → Int32 → Int32
  | 0, 0, x, nv, mv => (x + nv)
  | 0, 1, x, nv, mv => ((x + nv) * (2 : Int32))
  | 0, 2, x, nv, mv => (x - mv)
  | 0, 3, x, nv, mv => (((x + nv) * (2 : Int32)) ^^^ (x - mv))
  | 1, 0, x, nv, mv => ((x + nv) * (3 : Int32))
  | 1, 1, x, nv, mv => (((x + nv) * (3 : Int32)) * (2 : Int32))
  | 1, 2, x, nv, mv => (x - mv)
  | 1, 3, x, nv, mv => ((((x + nv) * (3 : Int32)) * (2 : Int32)) ^^^ (x - mv))
  | 2, 0, x, nv, mv => (x + nv)
  | 2, 1, x, nv, mv => (((x + nv) * (2 : Int32)) - ((1 : Int32) - mv))
  | 2, 2, x, nv, mv => (x - mv)
  | 2, 3, x, nv, mv => ((((x + nv) * (2 : Int32)) - ((1 : Int32) - mv)) ^^^ (x - mv))
  | 3, 0, x, nv, mv => (x + nv)
  | 3, 1, x, nv, mv => ((x + nv) * (2 : Int32))
  | 3, 2, x, nv, mv => (-(x - mv))
  | 3, 3, x, nv, mv => (((x + nv) * (2 : Int32)) ^^^ (-(x - mv)))
  | 4, 0, x, nv, mv => ((x + nv) * (3 : Int32))
  | 4, 1, x, nv, mv => (((x + nv) * (3 : Int32)) * (2 : Int32))
  | 4, 2, x, nv, mv => (x - mv)
  | 4, 3, x, nv, mv => (((((x + nv) * (3 : Int32)) * (2 : Int32)) ^^^ (x - mv)) - (((2 : Int32) + nv) * (3 : Int32)))
  | 5, 0, x, nv, mv => (x + nv)
  | 5, 1, x, nv, mv => ((((x + (1 : Int32)) + nv) * (2 : Int32)) - ((1 : Int32) - mv))
  | 5, 2, x, nv, mv => (x - mv)
  | 5, 3, x, nv, mv => (((((x + (1 : Int32)) + nv) * (2 : Int32)) - ((1 : Int32) - mv)) ^^^ (x - mv))
  | 6, 0, x, nv, mv => (x + nv)
  | 6, 1, x, nv, mv => ((x + nv) * (2 : Int32))
  | 6, 2, x, nv, mv => ((-(x - mv)) ^^^ nv)
  | 6, 3, x, nv, mv => (((x + nv) * (2 : Int32)) - (((x + nv) * (2 : Int32)) ^^^ ((-(x - mv)) ^^^ nv)))
  | _, _, _, _, _ => 0
def vocL : Nat → Nat → List Nat
  | 0, 0 => [10]
  | 0, 1 => [11, 10]
  | 0, 2 => [12]
  | 0, 3 => [13, 11, 10, 12]
  | 1, 0 => [20, 10]
  | 1, 1 => [11, 20, 10]
  | 1, 2 => [12]
  | 1, 3 => [13, 11, 20, 10, 12]
  | 2, 0 => [10]
  | 2, 1 => [30, 11, 10, 12]
  | 2, 2 => [12]
  | 2, 3 => [13, 30, 11, 10, 12, 12]
  | 3, 0 => [10]
  | 3, 1 => [11, 10]
  | 3, 2 => [40, 12]
  | 3, 3 => [13, 11, 10, 40, 12]
  | 4, 0 => [20, 10]
  | 4, 1 => [11, 20, 10]
  | 4, 2 => [12]
  | 4, 3 => [50, 13, 11, 20, 10, 12, 20, 10]
  | 5, 0 => [10]
  | 5, 1 => [60, 30, 11, 10, 12]
  | 5, 2 => [12]
  | 5, 3 => [13, 60, 30, 11, 10, 12, 12]
  | 6, 0 => [10]
  | 6, 1 => [11, 10]
  | 6, 2 => [70, 40, 12]
  | 6, 3 => [71, 11, 10, 13, 11, 10, 70, 40, 12]
  | _, _ => []
section
variable {xs : List Int32} {d : Nat} {h : AH} {Q : QT} {m : MW} {ln : Nat → Nat} {N : Nat}
set_option maxRecDepth 20000 in
set_option maxHeartbeats 40000000 in
theorem c_mv_0_0_0 {b : Nat} {x nv mv : Int32} (hb : m 57 21 = nI b) (hb40 : b + 1 ≤ 40) (hk : m 57 22 = nI 0) (h0 : m 57 23 = nv) (h1 : m 57 24 = mv) (hQ : Q (some (.int (x + nv))) (H (lgR m b [10]) ln N)) : WP xs (d + 2) 172 0 0 [.ref (89), .int (0), .int (x)] (H m ln N) Q := by
  refine wp_x mx_172 (L := [some (.ref (89)), some (.int (0)), some (.int (x))]) (Nat.le_of_ble_eq_true rfl) rfl ?_
  refine g_iload_n m172_0 rfl ?_
  refine h_if_neT (xi := 0) (zi := 0) m172_1 rfl rfl (by decide) ?_
  refine g_aload_n m172_4 rfl ?_
  refine g_bipush m172_5 ?_
  refine h_cv (k := 57) (p := 89) (args := [.int (10)]) (rest := []) m172_7 cn_171 (Nat.le_of_ble_eq_true rfl) rfl rfl rfl (t_57 _ _) (Nat.le_of_ble_eq_true rfl) ?_
  refine c_ran (b := b) (c := 10) hb (by omega) ?_
  refine gwr0 ?_
  refine g_iload_n m172_10 rfl ?_
  refine g_aload_n m172_11 rfl ?_
  refine h_gfI (k := 57) (p := 89) m172_12 rfl (t_57 _ _) rfl ((lgR_o (by decide) [10]).trans h0) ?_
  refine g_iadd m172_15 rfl ?_
  refine g_iret m172_16 rt_172 ?_
  exact hQ
set_option maxRecDepth 20000 in
set_option maxHeartbeats 40000000 in
theorem c_mv_0_1_0 {b : Nat} {x nv mv : Int32} (hb : m 57 21 = nI b) (hb40 : b + 2 ≤ 40) (hk : m 57 22 = nI 0) (h0 : m 57 23 = nv) (h1 : m 57 24 = mv) (hQ : Q (some (.int ((x + nv) * (2 : Int32)))) (H (lgR m b [11, 10]) ln N)) : WP xs (d + 3) 174 0 0 [.ref (89), .int (0), .int (x)] (H m ln N) Q := by
  refine wp_x mx_174 (L := [some (.ref (89)), some (.int (0)), some (.int (x)), none]) (Nat.le_of_ble_eq_true rfl) rfl ?_
  refine g_iload_n m174_0 rfl ?_
  refine h_if_neT (xi := 0) (zi := 0) m174_1 rfl rfl (by decide) ?_
  refine g_aload_n m174_4 rfl ?_
  refine g_bipush m174_5 ?_
  refine h_cv (k := 57) (p := 89) (args := [.int (11)]) (rest := []) m174_7 cn_171 (Nat.le_of_ble_eq_true rfl) rfl rfl rfl (t_57 _ _) (Nat.le_of_ble_eq_true rfl) ?_
  refine c_ran (b := b) (c := 11) hb (by omega) ?_
  refine gwr0 ?_
  refine g_aload_n m174_10 rfl ?_
  refine g_aload_n m174_11 rfl ?_
  refine h_gfI (k := 57) (p := 89) m174_12 rfl (t_57 _ _) rfl ((lgR_o (by decide) [11]).trans hk) ?_
  refine g_iload_n m174_15 rfl ?_
  refine h_cv (k := 57) (p := 89) (args := [.int (0), .int (x)]) (rest := []) m174_16 cn_172 (Nat.le_of_ble_eq_true rfl) rfl rfl rfl (t_57 _ _) (Nat.le_of_ble_eq_true rfl) ?_
  refine c_mv_0_0_0 (m := lgR m b [11]) (b := b + 1) (nv := nv) (mv := mv) (lgR_4 hb [11]) (by omega) ((lgR_o (by decide) [11]).trans hk) ((lgR_o (by decide) [11]).trans h0) ((lgR_o (by decide) [11]).trans h1) ?_
  rw [show lgR (lgR m b [11]) (b + 1) [10] = lgR m b [11, 10] from lgR_a [11] [10]]
  refine gwr ?_
  refine g_iconst m174_19 ?_
  refine g_imul m174_20 rfl ?_
  refine g_iret m174_21 rt_174 ?_
  exact hQ
set_option maxRecDepth 20000 in
set_option maxHeartbeats 40000000 in
theorem c_mv_0_2_0 {b : Nat} {x nv mv : Int32} (hb : m 57 21 = nI b) (hb40 : b + 1 ≤ 40) (hk : m 57 22 = nI 0) (h0 : m 57 23 = nv) (h1 : m 57 24 = mv) (hQ : Q (some (.int (x - mv))) (H (lgR m b [12]) ln N)) : WP xs (d + 2) 173 0 0 [.ref (89), .int (0), .int (x)] (H m ln N) Q := by
  refine wp_x mx_173 (L := [some (.ref (89)), some (.int (0)), some (.int (x))]) (Nat.le_of_ble_eq_true rfl) rfl ?_
  refine g_iload_n m173_0 rfl ?_
  refine h_if_neT (xi := 0) (zi := 0) m173_1 rfl rfl (by decide) ?_
  refine g_aload_n m173_4 rfl ?_
  refine g_bipush m173_5 ?_
  refine h_cv (k := 57) (p := 89) (args := [.int (12)]) (rest := []) m173_7 cn_171 (Nat.le_of_ble_eq_true rfl) rfl rfl rfl (t_57 _ _) (Nat.le_of_ble_eq_true rfl) ?_
  refine c_ran (b := b) (c := 12) hb (by omega) ?_
  refine gwr0 ?_
  refine g_iload_n m173_10 rfl ?_
  refine g_aload_n m173_11 rfl ?_
  refine h_gfI (k := 57) (p := 89) m173_12 rfl (t_57 _ _) rfl ((lgR_o (by decide) [12]).trans h1) ?_
  refine g_isub m173_15 rfl ?_
  refine g_iret m173_16 rt_173 ?_
  exact hQ
set_option maxRecDepth 20000 in
set_option maxHeartbeats 40000000 in
theorem c_mv_0_3_0 {b : Nat} {x nv mv : Int32} (hb : m 57 21 = nI b) (hb40 : b + 4 ≤ 40) (hk : m 57 22 = nI 0) (h0 : m 57 23 = nv) (h1 : m 57 24 = mv) (hQ : Q (some (.int (((x + nv) * (2 : Int32)) ^^^ (x - mv)))) (H (lgR m b [13, 11, 10, 12]) ln N)) : WP xs (d + 4) 175 0 0 [.ref (89), .int (0), .int (x)] (H m ln N) Q := by
  refine wp_x mx_175 (L := [some (.ref (89)), some (.int (0)), some (.int (x)), none]) (Nat.le_of_ble_eq_true rfl) rfl ?_
  refine g_iload_n m175_0 rfl ?_
  refine h_if_neT (xi := 0) (zi := 0) m175_1 rfl rfl (by decide) ?_
  refine g_aload_n m175_4 rfl ?_
  refine g_bipush m175_5 ?_
  refine h_cv (k := 57) (p := 89) (args := [.int (13)]) (rest := []) m175_7 cn_171 (Nat.le_of_ble_eq_true rfl) rfl rfl rfl (t_57 _ _) (Nat.le_of_ble_eq_true rfl) ?_
  refine c_ran (b := b) (c := 13) hb (by omega) ?_
  refine gwr0 ?_
  refine g_aload_n m175_10 rfl ?_
  refine g_aload_n m175_11 rfl ?_
  refine h_gfI (k := 57) (p := 89) m175_12 rfl (t_57 _ _) rfl ((lgR_o (by decide) [13]).trans hk) ?_
  refine g_iload_n m175_15 rfl ?_
  refine h_cv (k := 57) (p := 89) (args := [.int (0), .int (x)]) (rest := []) m175_16 cn_174 (Nat.le_of_ble_eq_true rfl) rfl rfl rfl (t_57 _ _) (Nat.le_of_ble_eq_true rfl) ?_
  refine c_mv_0_1_0 (m := lgR m b [13]) (b := b + 1) (nv := nv) (mv := mv) (lgR_4 hb [13]) (by omega) ((lgR_o (by decide) [13]).trans hk) ((lgR_o (by decide) [13]).trans h0) ((lgR_o (by decide) [13]).trans h1) ?_
  rw [show lgR (lgR m b [13]) (b + 1) [11, 10] = lgR m b [13, 11, 10] from lgR_a [13] [11, 10]]
  refine gwr ?_
  refine g_istore_n (L2 := [some (.ref (89)), some (.int (0)), some (.int (x)), some (.int (((x + nv) * (2 : Int32))))]) m175_19 rfl rfl ?_
  refine g_iload_n m175_20 rfl ?_
  refine g_aload_n m175_21 rfl ?_
  refine g_aload_n m175_22 rfl ?_
  refine h_gfI (k := 57) (p := 89) m175_23 rfl (t_57 _ _) rfl ((lgR_o (by decide) [13, 11, 10]).trans hk) ?_
  refine g_iload_n m175_26 rfl ?_
  refine h_cv (k := 57) (p := 89) (args := [.int (0), .int (x)]) (rest := [.int (((x + nv) * (2 : Int32)))]) m175_27 cn_173 (Nat.le_of_ble_eq_true rfl) rfl rfl rfl (t_57 _ _) (Nat.le_of_ble_eq_true rfl) ?_
  refine c_mv_0_2_0 (m := lgR m b [13, 11, 10]) (b := b + 3) (nv := nv) (mv := mv) (lgR_4 hb [13, 11, 10]) (by omega) ((lgR_o (by decide) [13, 11, 10]).trans hk) ((lgR_o (by decide) [13, 11, 10]).trans h0) ((lgR_o (by decide) [13, 11, 10]).trans h1) ?_
  rw [show lgR (lgR m b [13, 11, 10]) (b + 3) [12] = lgR m b [13, 11, 10, 12] from lgR_a [13, 11, 10] [12]]
  refine gwr ?_
  refine g_ixor m175_30 rfl ?_
  refine g_iret m175_31 rt_175 ?_
  exact hQ
set_option maxRecDepth 20000 in
set_option maxHeartbeats 40000000 in
theorem c_mv_1_0_0 {b : Nat} {x nv mv : Int32} (hb : m 57 21 = nI b) (hb40 : b + 1 ≤ 40) (hk : m 57 22 = nI 1) (h0 : m 57 23 = nv) (h1 : m 57 24 = mv) (hQ : Q (some (.int (x + nv))) (H (lgR m b [10]) ln N)) : WP xs (d + 2) 172 0 0 [.ref (89), .int (0), .int (x)] (H m ln N) Q := by
  refine wp_x mx_172 (L := [some (.ref (89)), some (.int (0)), some (.int (x))]) (Nat.le_of_ble_eq_true rfl) rfl ?_
  refine g_iload_n m172_0 rfl ?_
  refine h_if_neT (xi := 0) (zi := 0) m172_1 rfl rfl (by decide) ?_
  refine g_aload_n m172_4 rfl ?_
  refine g_bipush m172_5 ?_
  refine h_cv (k := 57) (p := 89) (args := [.int (10)]) (rest := []) m172_7 cn_171 (Nat.le_of_ble_eq_true rfl) rfl rfl rfl (t_57 _ _) (Nat.le_of_ble_eq_true rfl) ?_
  refine c_ran (b := b) (c := 10) hb (by omega) ?_
  refine gwr0 ?_
  refine g_iload_n m172_10 rfl ?_
  refine g_aload_n m172_11 rfl ?_
  refine h_gfI (k := 57) (p := 89) m172_12 rfl (t_57 _ _) rfl ((lgR_o (by decide) [10]).trans h0) ?_
  refine g_iadd m172_15 rfl ?_
  refine g_iret m172_16 rt_172 ?_
  exact hQ
set_option maxRecDepth 20000 in
set_option maxHeartbeats 40000000 in
theorem c_mv_1_0_1 {b : Nat} {x nv mv : Int32} (hb : m 57 21 = nI b) (hb40 : b + 2 ≤ 40) (hk : m 57 22 = nI 1) (h0 : m 57 23 = nv) (h1 : m 57 24 = mv) (hQ : Q (some (.int ((x + nv) * (3 : Int32)))) (H (lgR m b [20, 10]) ln N)) : WP xs (d + 3) 172 0 0 [.ref (89), .int (1), .int (x)] (H m ln N) Q := by
  refine wp_x mx_172 (L := [some (.ref (89)), some (.int (1)), some (.int (x))]) (Nat.le_of_ble_eq_true rfl) rfl ?_
  refine g_iload_n m172_0 rfl ?_
  refine h_if_neF (xi := 1) (zi := 0) m172_1 rfl rfl (by decide) ?_
  refine g_iload_n m172_17 rfl ?_
  refine g_iconst m172_18 ?_
  refine h_ic_neT (xi := 1) (zi := 1) m172_19 rfl rfl (by decide) ?_
  refine g_aload_n m172_22 rfl ?_
  refine g_bipush m172_23 ?_
  refine h_cv (k := 57) (p := 89) (args := [.int (20)]) (rest := []) m172_25 cn_171 (Nat.le_of_ble_eq_true rfl) rfl rfl rfl (t_57 _ _) (Nat.le_of_ble_eq_true rfl) ?_
  refine c_ran (b := b) (c := 20) hb (by omega) ?_
  refine gwr0 ?_
  refine g_aload_n m172_28 rfl ?_
  refine g_iconst m172_29 ?_
  refine g_iload_n m172_30 rfl ?_
  refine h_cv (k := 57) (p := 89) (args := [.int (0), .int (x)]) (rest := []) m172_31 cn_172 (Nat.le_of_ble_eq_true rfl) rfl rfl rfl (t_57 _ _) (Nat.le_of_ble_eq_true rfl) ?_
  refine c_mv_1_0_0 (m := lgR m b [20]) (b := b + 1) (nv := nv) (mv := mv) (lgR_4 hb [20]) (by omega) ((lgR_o (by decide) [20]).trans hk) ((lgR_o (by decide) [20]).trans h0) ((lgR_o (by decide) [20]).trans h1) ?_
  rw [show lgR (lgR m b [20]) (b + 1) [10] = lgR m b [20, 10] from lgR_a [20] [10]]
  refine gwr ?_
  refine g_iconst m172_34 ?_
  refine g_imul m172_35 rfl ?_
  refine g_iret m172_36 rt_172 ?_
  exact hQ
set_option maxRecDepth 20000 in
set_option maxHeartbeats 40000000 in
theorem c_mv_1_1_0 {b : Nat} {x nv mv : Int32} (hb : m 57 21 = nI b) (hb40 : b + 3 ≤ 40) (hk : m 57 22 = nI 1) (h0 : m 57 23 = nv) (h1 : m 57 24 = mv) (hQ : Q (some (.int (((x + nv) * (3 : Int32)) * (2 : Int32)))) (H (lgR m b [11, 20, 10]) ln N)) : WP xs (d + 4) 174 0 0 [.ref (89), .int (0), .int (x)] (H m ln N) Q := by
  refine wp_x mx_174 (L := [some (.ref (89)), some (.int (0)), some (.int (x)), none]) (Nat.le_of_ble_eq_true rfl) rfl ?_
  refine g_iload_n m174_0 rfl ?_
  refine h_if_neT (xi := 0) (zi := 0) m174_1 rfl rfl (by decide) ?_
  refine g_aload_n m174_4 rfl ?_
  refine g_bipush m174_5 ?_
  refine h_cv (k := 57) (p := 89) (args := [.int (11)]) (rest := []) m174_7 cn_171 (Nat.le_of_ble_eq_true rfl) rfl rfl rfl (t_57 _ _) (Nat.le_of_ble_eq_true rfl) ?_
  refine c_ran (b := b) (c := 11) hb (by omega) ?_
  refine gwr0 ?_
  refine g_aload_n m174_10 rfl ?_
  refine g_aload_n m174_11 rfl ?_
  refine h_gfI (k := 57) (p := 89) m174_12 rfl (t_57 _ _) rfl ((lgR_o (by decide) [11]).trans hk) ?_
  refine g_iload_n m174_15 rfl ?_
  refine h_cv (k := 57) (p := 89) (args := [.int (1), .int (x)]) (rest := []) m174_16 cn_172 (Nat.le_of_ble_eq_true rfl) rfl rfl rfl (t_57 _ _) (Nat.le_of_ble_eq_true rfl) ?_
  refine c_mv_1_0_1 (m := lgR m b [11]) (b := b + 1) (nv := nv) (mv := mv) (lgR_4 hb [11]) (by omega) ((lgR_o (by decide) [11]).trans hk) ((lgR_o (by decide) [11]).trans h0) ((lgR_o (by decide) [11]).trans h1) ?_
  rw [show lgR (lgR m b [11]) (b + 1) [20, 10] = lgR m b [11, 20, 10] from lgR_a [11] [20, 10]]
  refine gwr ?_
  refine g_iconst m174_19 ?_
  refine g_imul m174_20 rfl ?_
  refine g_iret m174_21 rt_174 ?_
  exact hQ
set_option maxRecDepth 20000 in
set_option maxHeartbeats 40000000 in
theorem c_mv_1_1_1 {b : Nat} {x nv mv : Int32} (hb : m 57 21 = nI b) (hb40 : b + 3 ≤ 40) (hk : m 57 22 = nI 1) (h0 : m 57 23 = nv) (h1 : m 57 24 = mv) (hQ : Q (some (.int (((x + nv) * (3 : Int32)) * (2 : Int32)))) (H (lgR m b [11, 20, 10]) ln N)) : WP xs (d + 5) 174 0 0 [.ref (89), .int (1), .int (x)] (H m ln N) Q := by
  refine wp_x mx_174 (L := [some (.ref (89)), some (.int (1)), some (.int (x)), none]) (Nat.le_of_ble_eq_true rfl) rfl ?_
  refine g_iload_n m174_0 rfl ?_
  refine h_if_neF (xi := 1) (zi := 0) m174_1 rfl rfl (by decide) ?_
  refine g_iload_n m174_22 rfl ?_
  refine g_iconst m174_23 ?_
  refine h_ic_neF (xi := 1) (zi := 2) m174_24 rfl rfl (by decide) ?_
  refine g_iload_n m174_52 rfl ?_
  refine g_iconst m174_53 ?_
  refine h_ic_neF (xi := 1) (zi := 5) m174_54 rfl rfl (by decide) ?_
  refine g_aload_n m174_72 rfl ?_
  refine g_iload_n m174_73 rfl ?_
  refine g_cs (args := [.int (1)]) (rest := [.ref (89)]) 0 (Or.inl rfl) m174_74 (Nat.le_of_ble_eq_true rfl) rfl rfl (Nat.le_of_ble_eq_true rfl) ?_
  refine c_above (k := 1) (by decide) ?_
  refine gwr ?_
  refine g_iload_n m174_77 rfl ?_
  refine h_cv (k := 57) (p := 89) (args := [.int (0), .int (x)]) (rest := []) m174_78 cn_174 (Nat.le_of_ble_eq_true rfl) rfl rfl rfl (t_57 _ _) (Nat.le_of_ble_eq_true rfl) ?_
  refine c_mv_1_1_0 (m := lgR m b []) (b := b + 0) (nv := nv) (mv := mv) (lgR_4 hb []) (by omega) ((lgR_o (by decide) []).trans hk) ((lgR_o (by decide) []).trans h0) ((lgR_o (by decide) []).trans h1) ?_
  rw [show lgR (lgR m b []) (b + 0) [11, 20, 10] = lgR m b [11, 20, 10] from lgR_a [] [11, 20, 10]]
  refine gwr ?_
  refine g_iret m174_81 rt_174 ?_
  exact hQ
set_option maxRecDepth 20000 in
set_option maxHeartbeats 40000000 in
theorem c_mv_1_2_0 {b : Nat} {x nv mv : Int32} (hb : m 57 21 = nI b) (hb40 : b + 1 ≤ 40) (hk : m 57 22 = nI 1) (h0 : m 57 23 = nv) (h1 : m 57 24 = mv) (hQ : Q (some (.int (x - mv))) (H (lgR m b [12]) ln N)) : WP xs (d + 2) 173 0 0 [.ref (89), .int (0), .int (x)] (H m ln N) Q := by
  refine wp_x mx_173 (L := [some (.ref (89)), some (.int (0)), some (.int (x))]) (Nat.le_of_ble_eq_true rfl) rfl ?_
  refine g_iload_n m173_0 rfl ?_
  refine h_if_neT (xi := 0) (zi := 0) m173_1 rfl rfl (by decide) ?_
  refine g_aload_n m173_4 rfl ?_
  refine g_bipush m173_5 ?_
  refine h_cv (k := 57) (p := 89) (args := [.int (12)]) (rest := []) m173_7 cn_171 (Nat.le_of_ble_eq_true rfl) rfl rfl rfl (t_57 _ _) (Nat.le_of_ble_eq_true rfl) ?_
  refine c_ran (b := b) (c := 12) hb (by omega) ?_
  refine gwr0 ?_
  refine g_iload_n m173_10 rfl ?_
  refine g_aload_n m173_11 rfl ?_
  refine h_gfI (k := 57) (p := 89) m173_12 rfl (t_57 _ _) rfl ((lgR_o (by decide) [12]).trans h1) ?_
  refine g_isub m173_15 rfl ?_
  refine g_iret m173_16 rt_173 ?_
  exact hQ
set_option maxRecDepth 20000 in
set_option maxHeartbeats 40000000 in
theorem c_mv_1_2_1 {b : Nat} {x nv mv : Int32} (hb : m 57 21 = nI b) (hb40 : b + 1 ≤ 40) (hk : m 57 22 = nI 1) (h0 : m 57 23 = nv) (h1 : m 57 24 = mv) (hQ : Q (some (.int (x - mv))) (H (lgR m b [12]) ln N)) : WP xs (d + 3) 173 0 0 [.ref (89), .int (1), .int (x)] (H m ln N) Q := by
  refine wp_x mx_173 (L := [some (.ref (89)), some (.int (1)), some (.int (x))]) (Nat.le_of_ble_eq_true rfl) rfl ?_
  refine g_iload_n m173_0 rfl ?_
  refine h_if_neF (xi := 1) (zi := 0) m173_1 rfl rfl (by decide) ?_
  refine g_iload_n m173_17 rfl ?_
  refine g_iconst m173_18 ?_
  refine h_ic_neF (xi := 1) (zi := 3) m173_19 rfl rfl (by decide) ?_
  refine g_iload_n m173_36 rfl ?_
  refine g_bipush m173_37 ?_
  refine h_ic_neF (xi := 1) (zi := 6) m173_39 rfl rfl (by decide) ?_
  refine g_aload_n m173_60 rfl ?_
  refine g_iload_n m173_61 rfl ?_
  refine g_cs (args := [.int (1)]) (rest := [.ref (89)]) 0 (Or.inl rfl) m173_62 (Nat.le_of_ble_eq_true rfl) rfl rfl (Nat.le_of_ble_eq_true rfl) ?_
  refine c_above (k := 1) (by decide) ?_
  refine gwr ?_
  refine g_iload_n m173_65 rfl ?_
  refine h_cv (k := 57) (p := 89) (args := [.int (0), .int (x)]) (rest := []) m173_66 cn_173 (Nat.le_of_ble_eq_true rfl) rfl rfl rfl (t_57 _ _) (Nat.le_of_ble_eq_true rfl) ?_
  refine c_mv_1_2_0 (m := lgR m b []) (b := b + 0) (nv := nv) (mv := mv) (lgR_4 hb []) (by omega) ((lgR_o (by decide) []).trans hk) ((lgR_o (by decide) []).trans h0) ((lgR_o (by decide) []).trans h1) ?_
  rw [show lgR (lgR m b []) (b + 0) [12] = lgR m b [12] from lgR_a [] [12]]
  refine gwr ?_
  refine g_iret m173_69 rt_173 ?_
  exact hQ
set_option maxRecDepth 20000 in
set_option maxHeartbeats 40000000 in
theorem c_mv_1_3_0 {b : Nat} {x nv mv : Int32} (hb : m 57 21 = nI b) (hb40 : b + 5 ≤ 40) (hk : m 57 22 = nI 1) (h0 : m 57 23 = nv) (h1 : m 57 24 = mv) (hQ : Q (some (.int ((((x + nv) * (3 : Int32)) * (2 : Int32)) ^^^ (x - mv)))) (H (lgR m b [13, 11, 20, 10, 12]) ln N)) : WP xs (d + 6) 175 0 0 [.ref (89), .int (0), .int (x)] (H m ln N) Q := by
  refine wp_x mx_175 (L := [some (.ref (89)), some (.int (0)), some (.int (x)), none]) (Nat.le_of_ble_eq_true rfl) rfl ?_
  refine g_iload_n m175_0 rfl ?_
  refine h_if_neT (xi := 0) (zi := 0) m175_1 rfl rfl (by decide) ?_
  refine g_aload_n m175_4 rfl ?_
  refine g_bipush m175_5 ?_
  refine h_cv (k := 57) (p := 89) (args := [.int (13)]) (rest := []) m175_7 cn_171 (Nat.le_of_ble_eq_true rfl) rfl rfl rfl (t_57 _ _) (Nat.le_of_ble_eq_true rfl) ?_
  refine c_ran (b := b) (c := 13) hb (by omega) ?_
  refine gwr0 ?_
  refine g_aload_n m175_10 rfl ?_
  refine g_aload_n m175_11 rfl ?_
  refine h_gfI (k := 57) (p := 89) m175_12 rfl (t_57 _ _) rfl ((lgR_o (by decide) [13]).trans hk) ?_
  refine g_iload_n m175_15 rfl ?_
  refine h_cv (k := 57) (p := 89) (args := [.int (1), .int (x)]) (rest := []) m175_16 cn_174 (Nat.le_of_ble_eq_true rfl) rfl rfl rfl (t_57 _ _) (Nat.le_of_ble_eq_true rfl) ?_
  refine c_mv_1_1_1 (m := lgR m b [13]) (b := b + 1) (nv := nv) (mv := mv) (lgR_4 hb [13]) (by omega) ((lgR_o (by decide) [13]).trans hk) ((lgR_o (by decide) [13]).trans h0) ((lgR_o (by decide) [13]).trans h1) ?_
  rw [show lgR (lgR m b [13]) (b + 1) [11, 20, 10] = lgR m b [13, 11, 20, 10] from lgR_a [13] [11, 20, 10]]
  refine gwr ?_
  refine g_istore_n (L2 := [some (.ref (89)), some (.int (0)), some (.int (x)), some (.int ((((x + nv) * (3 : Int32)) * (2 : Int32))))]) m175_19 rfl rfl ?_
  refine g_iload_n m175_20 rfl ?_
  refine g_aload_n m175_21 rfl ?_
  refine g_aload_n m175_22 rfl ?_
  refine h_gfI (k := 57) (p := 89) m175_23 rfl (t_57 _ _) rfl ((lgR_o (by decide) [13, 11, 20, 10]).trans hk) ?_
  refine g_iload_n m175_26 rfl ?_
  refine h_cv (k := 57) (p := 89) (args := [.int (1), .int (x)]) (rest := [.int ((((x + nv) * (3 : Int32)) * (2 : Int32)))]) m175_27 cn_173 (Nat.le_of_ble_eq_true rfl) rfl rfl rfl (t_57 _ _) (Nat.le_of_ble_eq_true rfl) ?_
  refine c_mv_1_2_1 (m := lgR m b [13, 11, 20, 10]) (b := b + 4) (nv := nv) (mv := mv) (lgR_4 hb [13, 11, 20, 10]) (by omega) ((lgR_o (by decide) [13, 11, 20, 10]).trans hk) ((lgR_o (by decide) [13, 11, 20, 10]).trans h0) ((lgR_o (by decide) [13, 11, 20, 10]).trans h1) ?_
  rw [show lgR (lgR m b [13, 11, 20, 10]) (b + 4) [12] = lgR m b [13, 11, 20, 10, 12] from lgR_a [13, 11, 20, 10] [12]]
  refine gwr ?_
  refine g_ixor m175_30 rfl ?_
  refine g_iret m175_31 rt_175 ?_
  exact hQ
set_option maxRecDepth 20000 in
set_option maxHeartbeats 40000000 in
theorem c_mv_1_3_1 {b : Nat} {x nv mv : Int32} (hb : m 57 21 = nI b) (hb40 : b + 5 ≤ 40) (hk : m 57 22 = nI 1) (h0 : m 57 23 = nv) (h1 : m 57 24 = mv) (hQ : Q (some (.int ((((x + nv) * (3 : Int32)) * (2 : Int32)) ^^^ (x - mv)))) (H (lgR m b [13, 11, 20, 10, 12]) ln N)) : WP xs (d + 7) 175 0 0 [.ref (89), .int (1), .int (x)] (H m ln N) Q := by
  refine wp_x mx_175 (L := [some (.ref (89)), some (.int (1)), some (.int (x)), none]) (Nat.le_of_ble_eq_true rfl) rfl ?_
  refine g_iload_n m175_0 rfl ?_
  refine h_if_neF (xi := 1) (zi := 0) m175_1 rfl rfl (by decide) ?_
  refine g_iload_n m175_32 rfl ?_
  refine g_iconst m175_33 ?_
  refine h_ic_neF (xi := 1) (zi := 4) m175_34 rfl rfl (by decide) ?_
  refine g_iload_n m175_62 rfl ?_
  refine g_bipush m175_63 ?_
  refine h_ic_neF (xi := 1) (zi := 6) m175_65 rfl rfl (by decide) ?_
  refine g_aload_n m175_93 rfl ?_
  refine g_iload_n m175_94 rfl ?_
  refine g_cs (args := [.int (1)]) (rest := [.ref (89)]) 0 (Or.inl rfl) m175_95 (Nat.le_of_ble_eq_true rfl) rfl rfl (Nat.le_of_ble_eq_true rfl) ?_
  refine c_above (k := 1) (by decide) ?_
  refine gwr ?_
  refine g_iload_n m175_98 rfl ?_
  refine h_cv (k := 57) (p := 89) (args := [.int (0), .int (x)]) (rest := []) m175_99 cn_175 (Nat.le_of_ble_eq_true rfl) rfl rfl rfl (t_57 _ _) (Nat.le_of_ble_eq_true rfl) ?_
  refine c_mv_1_3_0 (m := lgR m b []) (b := b + 0) (nv := nv) (mv := mv) (lgR_4 hb []) (by omega) ((lgR_o (by decide) []).trans hk) ((lgR_o (by decide) []).trans h0) ((lgR_o (by decide) []).trans h1) ?_
  rw [show lgR (lgR m b []) (b + 0) [13, 11, 20, 10, 12] = lgR m b [13, 11, 20, 10, 12] from lgR_a [] [13, 11, 20, 10, 12]]
  refine gwr ?_
  refine g_iret m175_102 rt_175 ?_
  exact hQ
set_option maxRecDepth 20000 in
set_option maxHeartbeats 40000000 in
theorem c_mv_2_0_0 {b : Nat} {x nv mv : Int32} (hb : m 57 21 = nI b) (hb40 : b + 1 ≤ 40) (hk : m 57 22 = nI 2) (h0 : m 57 23 = nv) (h1 : m 57 24 = mv) (hQ : Q (some (.int (x + nv))) (H (lgR m b [10]) ln N)) : WP xs (d + 2) 172 0 0 [.ref (89), .int (0), .int (x)] (H m ln N) Q := by
  refine wp_x mx_172 (L := [some (.ref (89)), some (.int (0)), some (.int (x))]) (Nat.le_of_ble_eq_true rfl) rfl ?_
  refine g_iload_n m172_0 rfl ?_
  refine h_if_neT (xi := 0) (zi := 0) m172_1 rfl rfl (by decide) ?_
  refine g_aload_n m172_4 rfl ?_
  refine g_bipush m172_5 ?_
  refine h_cv (k := 57) (p := 89) (args := [.int (10)]) (rest := []) m172_7 cn_171 (Nat.le_of_ble_eq_true rfl) rfl rfl rfl (t_57 _ _) (Nat.le_of_ble_eq_true rfl) ?_
  refine c_ran (b := b) (c := 10) hb (by omega) ?_
  refine gwr0 ?_
  refine g_iload_n m172_10 rfl ?_
  refine g_aload_n m172_11 rfl ?_
  refine h_gfI (k := 57) (p := 89) m172_12 rfl (t_57 _ _) rfl ((lgR_o (by decide) [10]).trans h0) ?_
  refine g_iadd m172_15 rfl ?_
  refine g_iret m172_16 rt_172 ?_
  exact hQ
set_option maxRecDepth 20000 in
set_option maxHeartbeats 40000000 in
theorem c_mv_2_0_2 {b : Nat} {x nv mv : Int32} (hb : m 57 21 = nI b) (hb40 : b + 1 ≤ 40) (hk : m 57 22 = nI 2) (h0 : m 57 23 = nv) (h1 : m 57 24 = mv) (hQ : Q (some (.int (x + nv))) (H (lgR m b [10]) ln N)) : WP xs (d + 3) 172 0 0 [.ref (89), .int (2), .int (x)] (H m ln N) Q := by
  refine wp_x mx_172 (L := [some (.ref (89)), some (.int (2)), some (.int (x))]) (Nat.le_of_ble_eq_true rfl) rfl ?_
  refine g_iload_n m172_0 rfl ?_
  refine h_if_neF (xi := 2) (zi := 0) m172_1 rfl rfl (by decide) ?_
  refine g_iload_n m172_17 rfl ?_
  refine g_iconst m172_18 ?_
  refine h_ic_neF (xi := 2) (zi := 1) m172_19 rfl rfl (by decide) ?_
  refine g_aload_n m172_37 rfl ?_
  refine g_iload_n m172_38 rfl ?_
  refine g_cs (args := [.int (2)]) (rest := [.ref (89)]) 0 (Or.inl rfl) m172_39 (Nat.le_of_ble_eq_true rfl) rfl rfl (Nat.le_of_ble_eq_true rfl) ?_
  refine c_above (k := 2) (by decide) ?_
  refine gwr ?_
  refine g_iload_n m172_42 rfl ?_
  refine h_cv (k := 57) (p := 89) (args := [.int (0), .int (x)]) (rest := []) m172_43 cn_172 (Nat.le_of_ble_eq_true rfl) rfl rfl rfl (t_57 _ _) (Nat.le_of_ble_eq_true rfl) ?_
  refine c_mv_2_0_0 (m := lgR m b []) (b := b + 0) (nv := nv) (mv := mv) (lgR_4 hb []) (by omega) ((lgR_o (by decide) []).trans hk) ((lgR_o (by decide) []).trans h0) ((lgR_o (by decide) []).trans h1) ?_
  rw [show lgR (lgR m b []) (b + 0) [10] = lgR m b [10] from lgR_a [] [10]]
  refine gwr ?_
  refine g_iret m172_46 rt_172 ?_
  exact hQ
set_option maxRecDepth 20000 in
set_option maxHeartbeats 40000000 in
theorem c_mv_2_1_0 {b : Nat} {x nv mv : Int32} (hb : m 57 21 = nI b) (hb40 : b + 2 ≤ 40) (hk : m 57 22 = nI 2) (h0 : m 57 23 = nv) (h1 : m 57 24 = mv) (hQ : Q (some (.int ((x + nv) * (2 : Int32)))) (H (lgR m b [11, 10]) ln N)) : WP xs (d + 4) 174 0 0 [.ref (89), .int (0), .int (x)] (H m ln N) Q := by
  refine wp_x mx_174 (L := [some (.ref (89)), some (.int (0)), some (.int (x)), none]) (Nat.le_of_ble_eq_true rfl) rfl ?_
  refine g_iload_n m174_0 rfl ?_
  refine h_if_neT (xi := 0) (zi := 0) m174_1 rfl rfl (by decide) ?_
  refine g_aload_n m174_4 rfl ?_
  refine g_bipush m174_5 ?_
  refine h_cv (k := 57) (p := 89) (args := [.int (11)]) (rest := []) m174_7 cn_171 (Nat.le_of_ble_eq_true rfl) rfl rfl rfl (t_57 _ _) (Nat.le_of_ble_eq_true rfl) ?_
  refine c_ran (b := b) (c := 11) hb (by omega) ?_
  refine gwr0 ?_
  refine g_aload_n m174_10 rfl ?_
  refine g_aload_n m174_11 rfl ?_
  refine h_gfI (k := 57) (p := 89) m174_12 rfl (t_57 _ _) rfl ((lgR_o (by decide) [11]).trans hk) ?_
  refine g_iload_n m174_15 rfl ?_
  refine h_cv (k := 57) (p := 89) (args := [.int (2), .int (x)]) (rest := []) m174_16 cn_172 (Nat.le_of_ble_eq_true rfl) rfl rfl rfl (t_57 _ _) (Nat.le_of_ble_eq_true rfl) ?_
  refine c_mv_2_0_2 (m := lgR m b [11]) (b := b + 1) (nv := nv) (mv := mv) (lgR_4 hb [11]) (by omega) ((lgR_o (by decide) [11]).trans hk) ((lgR_o (by decide) [11]).trans h0) ((lgR_o (by decide) [11]).trans h1) ?_
  rw [show lgR (lgR m b [11]) (b + 1) [10] = lgR m b [11, 10] from lgR_a [11] [10]]
  refine gwr ?_
  refine g_iconst m174_19 ?_
  refine g_imul m174_20 rfl ?_
  refine g_iret m174_21 rt_174 ?_
  exact hQ
set_option maxRecDepth 20000 in
set_option maxHeartbeats 40000000 in
theorem c_mv_2_2_0 {b : Nat} {x nv mv : Int32} (hb : m 57 21 = nI b) (hb40 : b + 1 ≤ 40) (hk : m 57 22 = nI 2) (h0 : m 57 23 = nv) (h1 : m 57 24 = mv) (hQ : Q (some (.int (x - mv))) (H (lgR m b [12]) ln N)) : WP xs (d + 2) 173 0 0 [.ref (89), .int (0), .int (x)] (H m ln N) Q := by
  refine wp_x mx_173 (L := [some (.ref (89)), some (.int (0)), some (.int (x))]) (Nat.le_of_ble_eq_true rfl) rfl ?_
  refine g_iload_n m173_0 rfl ?_
  refine h_if_neT (xi := 0) (zi := 0) m173_1 rfl rfl (by decide) ?_
  refine g_aload_n m173_4 rfl ?_
  refine g_bipush m173_5 ?_
  refine h_cv (k := 57) (p := 89) (args := [.int (12)]) (rest := []) m173_7 cn_171 (Nat.le_of_ble_eq_true rfl) rfl rfl rfl (t_57 _ _) (Nat.le_of_ble_eq_true rfl) ?_
  refine c_ran (b := b) (c := 12) hb (by omega) ?_
  refine gwr0 ?_
  refine g_iload_n m173_10 rfl ?_
  refine g_aload_n m173_11 rfl ?_
  refine h_gfI (k := 57) (p := 89) m173_12 rfl (t_57 _ _) rfl ((lgR_o (by decide) [12]).trans h1) ?_
  refine g_isub m173_15 rfl ?_
  refine g_iret m173_16 rt_173 ?_
  exact hQ
set_option maxRecDepth 20000 in
set_option maxHeartbeats 40000000 in
theorem c_mv_2_2_2 {b : Nat} {x nv mv : Int32} (hb : m 57 21 = nI b) (hb40 : b + 1 ≤ 40) (hk : m 57 22 = nI 2) (h0 : m 57 23 = nv) (h1 : m 57 24 = mv) (hQ : Q (some (.int (x - mv))) (H (lgR m b [12]) ln N)) : WP xs (d + 3) 173 0 0 [.ref (89), .int (2), .int (x)] (H m ln N) Q := by
  refine wp_x mx_173 (L := [some (.ref (89)), some (.int (2)), some (.int (x))]) (Nat.le_of_ble_eq_true rfl) rfl ?_
  refine g_iload_n m173_0 rfl ?_
  refine h_if_neF (xi := 2) (zi := 0) m173_1 rfl rfl (by decide) ?_
  refine g_iload_n m173_17 rfl ?_
  refine g_iconst m173_18 ?_
  refine h_ic_neF (xi := 2) (zi := 3) m173_19 rfl rfl (by decide) ?_
  refine g_iload_n m173_36 rfl ?_
  refine g_bipush m173_37 ?_
  refine h_ic_neF (xi := 2) (zi := 6) m173_39 rfl rfl (by decide) ?_
  refine g_aload_n m173_60 rfl ?_
  refine g_iload_n m173_61 rfl ?_
  refine g_cs (args := [.int (2)]) (rest := [.ref (89)]) 0 (Or.inl rfl) m173_62 (Nat.le_of_ble_eq_true rfl) rfl rfl (Nat.le_of_ble_eq_true rfl) ?_
  refine c_above (k := 2) (by decide) ?_
  refine gwr ?_
  refine g_iload_n m173_65 rfl ?_
  refine h_cv (k := 57) (p := 89) (args := [.int (0), .int (x)]) (rest := []) m173_66 cn_173 (Nat.le_of_ble_eq_true rfl) rfl rfl rfl (t_57 _ _) (Nat.le_of_ble_eq_true rfl) ?_
  refine c_mv_2_2_0 (m := lgR m b []) (b := b + 0) (nv := nv) (mv := mv) (lgR_4 hb []) (by omega) ((lgR_o (by decide) []).trans hk) ((lgR_o (by decide) []).trans h0) ((lgR_o (by decide) []).trans h1) ?_
  rw [show lgR (lgR m b []) (b + 0) [12] = lgR m b [12] from lgR_a [] [12]]
  refine gwr ?_
  refine g_iret m173_69 rt_173 ?_
  exact hQ
set_option maxRecDepth 20000 in
set_option maxHeartbeats 40000000 in
theorem c_mv_2_1_2 {b : Nat} {x nv mv : Int32} (hb : m 57 21 = nI b) (hb40 : b + 4 ≤ 40) (hk : m 57 22 = nI 2) (h0 : m 57 23 = nv) (h1 : m 57 24 = mv) (hQ : Q (some (.int (((x + nv) * (2 : Int32)) - ((1 : Int32) - mv)))) (H (lgR m b [30, 11, 10, 12]) ln N)) : WP xs (d + 5) 174 0 0 [.ref (89), .int (2), .int (x)] (H m ln N) Q := by
  refine wp_x mx_174 (L := [some (.ref (89)), some (.int (2)), some (.int (x)), none]) (Nat.le_of_ble_eq_true rfl) rfl ?_
  refine g_iload_n m174_0 rfl ?_
  refine h_if_neF (xi := 2) (zi := 0) m174_1 rfl rfl (by decide) ?_
  refine g_iload_n m174_22 rfl ?_
  refine g_iconst m174_23 ?_
  refine h_ic_neT (xi := 2) (zi := 2) m174_24 rfl rfl (by decide) ?_
  refine g_aload_n m174_27 rfl ?_
  refine g_bipush m174_28 ?_
  refine h_cv (k := 57) (p := 89) (args := [.int (30)]) (rest := []) m174_30 cn_171 (Nat.le_of_ble_eq_true rfl) rfl rfl rfl (t_57 _ _) (Nat.le_of_ble_eq_true rfl) ?_
  refine c_ran (b := b) (c := 30) hb (by omega) ?_
  refine gwr0 ?_
  refine g_aload_n m174_33 rfl ?_
  refine g_iconst m174_34 ?_
  refine g_iload_n m174_35 rfl ?_
  refine h_cv (k := 57) (p := 89) (args := [.int (0), .int (x)]) (rest := []) m174_36 cn_174 (Nat.le_of_ble_eq_true rfl) rfl rfl rfl (t_57 _ _) (Nat.le_of_ble_eq_true rfl) ?_
  refine c_mv_2_1_0 (m := lgR m b [30]) (b := b + 1) (nv := nv) (mv := mv) (lgR_4 hb [30]) (by omega) ((lgR_o (by decide) [30]).trans hk) ((lgR_o (by decide) [30]).trans h0) ((lgR_o (by decide) [30]).trans h1) ?_
  rw [show lgR (lgR m b [30]) (b + 1) [11, 10] = lgR m b [30, 11, 10] from lgR_a [30] [11, 10]]
  refine gwr ?_
  refine g_istore_n (L2 := [some (.ref (89)), some (.int (2)), some (.int (x)), some (.int (((x + nv) * (2 : Int32))))]) m174_39 rfl rfl ?_
  refine g_iload_n m174_40 rfl ?_
  refine g_aload_n m174_41 rfl ?_
  refine g_aload_n m174_42 rfl ?_
  refine h_gfI (k := 57) (p := 89) m174_43 rfl (t_57 _ _) rfl ((lgR_o (by decide) [30, 11, 10]).trans hk) ?_
  refine g_iconst m174_46 ?_
  refine h_cv (k := 57) (p := 89) (args := [.int (2), .int (1)]) (rest := [.int (((x + nv) * (2 : Int32)))]) m174_47 cn_173 (Nat.le_of_ble_eq_true rfl) rfl rfl rfl (t_57 _ _) (Nat.le_of_ble_eq_true rfl) ?_
  refine c_mv_2_2_2 (m := lgR m b [30, 11, 10]) (b := b + 3) (nv := nv) (mv := mv) (lgR_4 hb [30, 11, 10]) (by omega) ((lgR_o (by decide) [30, 11, 10]).trans hk) ((lgR_o (by decide) [30, 11, 10]).trans h0) ((lgR_o (by decide) [30, 11, 10]).trans h1) ?_
  rw [show lgR (lgR m b [30, 11, 10]) (b + 3) [12] = lgR m b [30, 11, 10, 12] from lgR_a [30, 11, 10] [12]]
  refine gwr ?_
  refine g_isub m174_50 rfl ?_
  refine g_iret m174_51 rt_174 ?_
  exact hQ
set_option maxRecDepth 20000 in
set_option maxHeartbeats 40000000 in
theorem c_mv_2_3_0 {b : Nat} {x nv mv : Int32} (hb : m 57 21 = nI b) (hb40 : b + 6 ≤ 40) (hk : m 57 22 = nI 2) (h0 : m 57 23 = nv) (h1 : m 57 24 = mv) (hQ : Q (some (.int ((((x + nv) * (2 : Int32)) - ((1 : Int32) - mv)) ^^^ (x - mv)))) (H (lgR m b [13, 30, 11, 10, 12, 12]) ln N)) : WP xs (d + 6) 175 0 0 [.ref (89), .int (0), .int (x)] (H m ln N) Q := by
  refine wp_x mx_175 (L := [some (.ref (89)), some (.int (0)), some (.int (x)), none]) (Nat.le_of_ble_eq_true rfl) rfl ?_
  refine g_iload_n m175_0 rfl ?_
  refine h_if_neT (xi := 0) (zi := 0) m175_1 rfl rfl (by decide) ?_
  refine g_aload_n m175_4 rfl ?_
  refine g_bipush m175_5 ?_
  refine h_cv (k := 57) (p := 89) (args := [.int (13)]) (rest := []) m175_7 cn_171 (Nat.le_of_ble_eq_true rfl) rfl rfl rfl (t_57 _ _) (Nat.le_of_ble_eq_true rfl) ?_
  refine c_ran (b := b) (c := 13) hb (by omega) ?_
  refine gwr0 ?_
  refine g_aload_n m175_10 rfl ?_
  refine g_aload_n m175_11 rfl ?_
  refine h_gfI (k := 57) (p := 89) m175_12 rfl (t_57 _ _) rfl ((lgR_o (by decide) [13]).trans hk) ?_
  refine g_iload_n m175_15 rfl ?_
  refine h_cv (k := 57) (p := 89) (args := [.int (2), .int (x)]) (rest := []) m175_16 cn_174 (Nat.le_of_ble_eq_true rfl) rfl rfl rfl (t_57 _ _) (Nat.le_of_ble_eq_true rfl) ?_
  refine c_mv_2_1_2 (m := lgR m b [13]) (b := b + 1) (nv := nv) (mv := mv) (lgR_4 hb [13]) (by omega) ((lgR_o (by decide) [13]).trans hk) ((lgR_o (by decide) [13]).trans h0) ((lgR_o (by decide) [13]).trans h1) ?_
  rw [show lgR (lgR m b [13]) (b + 1) [30, 11, 10, 12] = lgR m b [13, 30, 11, 10, 12] from lgR_a [13] [30, 11, 10, 12]]
  refine gwr ?_
  refine g_istore_n (L2 := [some (.ref (89)), some (.int (0)), some (.int (x)), some (.int ((((x + nv) * (2 : Int32)) - ((1 : Int32) - mv))))]) m175_19 rfl rfl ?_
  refine g_iload_n m175_20 rfl ?_
  refine g_aload_n m175_21 rfl ?_
  refine g_aload_n m175_22 rfl ?_
  refine h_gfI (k := 57) (p := 89) m175_23 rfl (t_57 _ _) rfl ((lgR_o (by decide) [13, 30, 11, 10, 12]).trans hk) ?_
  refine g_iload_n m175_26 rfl ?_
  refine h_cv (k := 57) (p := 89) (args := [.int (2), .int (x)]) (rest := [.int ((((x + nv) * (2 : Int32)) - ((1 : Int32) - mv)))]) m175_27 cn_173 (Nat.le_of_ble_eq_true rfl) rfl rfl rfl (t_57 _ _) (Nat.le_of_ble_eq_true rfl) ?_
  refine c_mv_2_2_2 (m := lgR m b [13, 30, 11, 10, 12]) (b := b + 5) (nv := nv) (mv := mv) (lgR_4 hb [13, 30, 11, 10, 12]) (by omega) ((lgR_o (by decide) [13, 30, 11, 10, 12]).trans hk) ((lgR_o (by decide) [13, 30, 11, 10, 12]).trans h0) ((lgR_o (by decide) [13, 30, 11, 10, 12]).trans h1) ?_
  rw [show lgR (lgR m b [13, 30, 11, 10, 12]) (b + 5) [12] = lgR m b [13, 30, 11, 10, 12, 12] from lgR_a [13, 30, 11, 10, 12] [12]]
  refine gwr ?_
  refine g_ixor m175_30 rfl ?_
  refine g_iret m175_31 rt_175 ?_
  exact hQ
set_option maxRecDepth 20000 in
set_option maxHeartbeats 40000000 in
theorem c_mv_2_3_2 {b : Nat} {x nv mv : Int32} (hb : m 57 21 = nI b) (hb40 : b + 6 ≤ 40) (hk : m 57 22 = nI 2) (h0 : m 57 23 = nv) (h1 : m 57 24 = mv) (hQ : Q (some (.int ((((x + nv) * (2 : Int32)) - ((1 : Int32) - mv)) ^^^ (x - mv)))) (H (lgR m b [13, 30, 11, 10, 12, 12]) ln N)) : WP xs (d + 7) 175 0 0 [.ref (89), .int (2), .int (x)] (H m ln N) Q := by
  refine wp_x mx_175 (L := [some (.ref (89)), some (.int (2)), some (.int (x)), none]) (Nat.le_of_ble_eq_true rfl) rfl ?_
  refine g_iload_n m175_0 rfl ?_
  refine h_if_neF (xi := 2) (zi := 0) m175_1 rfl rfl (by decide) ?_
  refine g_iload_n m175_32 rfl ?_
  refine g_iconst m175_33 ?_
  refine h_ic_neF (xi := 2) (zi := 4) m175_34 rfl rfl (by decide) ?_
  refine g_iload_n m175_62 rfl ?_
  refine g_bipush m175_63 ?_
  refine h_ic_neF (xi := 2) (zi := 6) m175_65 rfl rfl (by decide) ?_
  refine g_aload_n m175_93 rfl ?_
  refine g_iload_n m175_94 rfl ?_
  refine g_cs (args := [.int (2)]) (rest := [.ref (89)]) 0 (Or.inl rfl) m175_95 (Nat.le_of_ble_eq_true rfl) rfl rfl (Nat.le_of_ble_eq_true rfl) ?_
  refine c_above (k := 2) (by decide) ?_
  refine gwr ?_
  refine g_iload_n m175_98 rfl ?_
  refine h_cv (k := 57) (p := 89) (args := [.int (0), .int (x)]) (rest := []) m175_99 cn_175 (Nat.le_of_ble_eq_true rfl) rfl rfl rfl (t_57 _ _) (Nat.le_of_ble_eq_true rfl) ?_
  refine c_mv_2_3_0 (m := lgR m b []) (b := b + 0) (nv := nv) (mv := mv) (lgR_4 hb []) (by omega) ((lgR_o (by decide) []).trans hk) ((lgR_o (by decide) []).trans h0) ((lgR_o (by decide) []).trans h1) ?_
  rw [show lgR (lgR m b []) (b + 0) [13, 30, 11, 10, 12, 12] = lgR m b [13, 30, 11, 10, 12, 12] from lgR_a [] [13, 30, 11, 10, 12, 12]]
  refine gwr ?_
  refine g_iret m175_102 rt_175 ?_
  exact hQ
set_option maxRecDepth 20000 in
set_option maxHeartbeats 40000000 in
theorem c_mv_3_0_0 {b : Nat} {x nv mv : Int32} (hb : m 57 21 = nI b) (hb40 : b + 1 ≤ 40) (hk : m 57 22 = nI 3) (h0 : m 57 23 = nv) (h1 : m 57 24 = mv) (hQ : Q (some (.int (x + nv))) (H (lgR m b [10]) ln N)) : WP xs (d + 2) 172 0 0 [.ref (89), .int (0), .int (x)] (H m ln N) Q := by
  refine wp_x mx_172 (L := [some (.ref (89)), some (.int (0)), some (.int (x))]) (Nat.le_of_ble_eq_true rfl) rfl ?_
  refine g_iload_n m172_0 rfl ?_
  refine h_if_neT (xi := 0) (zi := 0) m172_1 rfl rfl (by decide) ?_
  refine g_aload_n m172_4 rfl ?_
  refine g_bipush m172_5 ?_
  refine h_cv (k := 57) (p := 89) (args := [.int (10)]) (rest := []) m172_7 cn_171 (Nat.le_of_ble_eq_true rfl) rfl rfl rfl (t_57 _ _) (Nat.le_of_ble_eq_true rfl) ?_
  refine c_ran (b := b) (c := 10) hb (by omega) ?_
  refine gwr0 ?_
  refine g_iload_n m172_10 rfl ?_
  refine g_aload_n m172_11 rfl ?_
  refine h_gfI (k := 57) (p := 89) m172_12 rfl (t_57 _ _) rfl ((lgR_o (by decide) [10]).trans h0) ?_
  refine g_iadd m172_15 rfl ?_
  refine g_iret m172_16 rt_172 ?_
  exact hQ
set_option maxRecDepth 20000 in
set_option maxHeartbeats 40000000 in
theorem c_mv_3_0_3 {b : Nat} {x nv mv : Int32} (hb : m 57 21 = nI b) (hb40 : b + 1 ≤ 40) (hk : m 57 22 = nI 3) (h0 : m 57 23 = nv) (h1 : m 57 24 = mv) (hQ : Q (some (.int (x + nv))) (H (lgR m b [10]) ln N)) : WP xs (d + 3) 172 0 0 [.ref (89), .int (3), .int (x)] (H m ln N) Q := by
  refine wp_x mx_172 (L := [some (.ref (89)), some (.int (3)), some (.int (x))]) (Nat.le_of_ble_eq_true rfl) rfl ?_
  refine g_iload_n m172_0 rfl ?_
  refine h_if_neF (xi := 3) (zi := 0) m172_1 rfl rfl (by decide) ?_
  refine g_iload_n m172_17 rfl ?_
  refine g_iconst m172_18 ?_
  refine h_ic_neF (xi := 3) (zi := 1) m172_19 rfl rfl (by decide) ?_
  refine g_aload_n m172_37 rfl ?_
  refine g_iload_n m172_38 rfl ?_
  refine g_cs (args := [.int (3)]) (rest := [.ref (89)]) 0 (Or.inl rfl) m172_39 (Nat.le_of_ble_eq_true rfl) rfl rfl (Nat.le_of_ble_eq_true rfl) ?_
  refine c_above (k := 3) (by decide) ?_
  refine gwr ?_
  refine g_iload_n m172_42 rfl ?_
  refine h_cv (k := 57) (p := 89) (args := [.int (0), .int (x)]) (rest := []) m172_43 cn_172 (Nat.le_of_ble_eq_true rfl) rfl rfl rfl (t_57 _ _) (Nat.le_of_ble_eq_true rfl) ?_
  refine c_mv_3_0_0 (m := lgR m b []) (b := b + 0) (nv := nv) (mv := mv) (lgR_4 hb []) (by omega) ((lgR_o (by decide) []).trans hk) ((lgR_o (by decide) []).trans h0) ((lgR_o (by decide) []).trans h1) ?_
  rw [show lgR (lgR m b []) (b + 0) [10] = lgR m b [10] from lgR_a [] [10]]
  refine gwr ?_
  refine g_iret m172_46 rt_172 ?_
  exact hQ
set_option maxRecDepth 20000 in
set_option maxHeartbeats 40000000 in
theorem c_mv_3_1_0 {b : Nat} {x nv mv : Int32} (hb : m 57 21 = nI b) (hb40 : b + 2 ≤ 40) (hk : m 57 22 = nI 3) (h0 : m 57 23 = nv) (h1 : m 57 24 = mv) (hQ : Q (some (.int ((x + nv) * (2 : Int32)))) (H (lgR m b [11, 10]) ln N)) : WP xs (d + 4) 174 0 0 [.ref (89), .int (0), .int (x)] (H m ln N) Q := by
  refine wp_x mx_174 (L := [some (.ref (89)), some (.int (0)), some (.int (x)), none]) (Nat.le_of_ble_eq_true rfl) rfl ?_
  refine g_iload_n m174_0 rfl ?_
  refine h_if_neT (xi := 0) (zi := 0) m174_1 rfl rfl (by decide) ?_
  refine g_aload_n m174_4 rfl ?_
  refine g_bipush m174_5 ?_
  refine h_cv (k := 57) (p := 89) (args := [.int (11)]) (rest := []) m174_7 cn_171 (Nat.le_of_ble_eq_true rfl) rfl rfl rfl (t_57 _ _) (Nat.le_of_ble_eq_true rfl) ?_
  refine c_ran (b := b) (c := 11) hb (by omega) ?_
  refine gwr0 ?_
  refine g_aload_n m174_10 rfl ?_
  refine g_aload_n m174_11 rfl ?_
  refine h_gfI (k := 57) (p := 89) m174_12 rfl (t_57 _ _) rfl ((lgR_o (by decide) [11]).trans hk) ?_
  refine g_iload_n m174_15 rfl ?_
  refine h_cv (k := 57) (p := 89) (args := [.int (3), .int (x)]) (rest := []) m174_16 cn_172 (Nat.le_of_ble_eq_true rfl) rfl rfl rfl (t_57 _ _) (Nat.le_of_ble_eq_true rfl) ?_
  refine c_mv_3_0_3 (m := lgR m b [11]) (b := b + 1) (nv := nv) (mv := mv) (lgR_4 hb [11]) (by omega) ((lgR_o (by decide) [11]).trans hk) ((lgR_o (by decide) [11]).trans h0) ((lgR_o (by decide) [11]).trans h1) ?_
  rw [show lgR (lgR m b [11]) (b + 1) [10] = lgR m b [11, 10] from lgR_a [11] [10]]
  refine gwr ?_
  refine g_iconst m174_19 ?_
  refine g_imul m174_20 rfl ?_
  refine g_iret m174_21 rt_174 ?_
  exact hQ
set_option maxRecDepth 20000 in
set_option maxHeartbeats 40000000 in
theorem c_mv_3_1_3 {b : Nat} {x nv mv : Int32} (hb : m 57 21 = nI b) (hb40 : b + 2 ≤ 40) (hk : m 57 22 = nI 3) (h0 : m 57 23 = nv) (h1 : m 57 24 = mv) (hQ : Q (some (.int ((x + nv) * (2 : Int32)))) (H (lgR m b [11, 10]) ln N)) : WP xs (d + 5) 174 0 0 [.ref (89), .int (3), .int (x)] (H m ln N) Q := by
  refine wp_x mx_174 (L := [some (.ref (89)), some (.int (3)), some (.int (x)), none]) (Nat.le_of_ble_eq_true rfl) rfl ?_
  refine g_iload_n m174_0 rfl ?_
  refine h_if_neF (xi := 3) (zi := 0) m174_1 rfl rfl (by decide) ?_
  refine g_iload_n m174_22 rfl ?_
  refine g_iconst m174_23 ?_
  refine h_ic_neF (xi := 3) (zi := 2) m174_24 rfl rfl (by decide) ?_
  refine g_iload_n m174_52 rfl ?_
  refine g_iconst m174_53 ?_
  refine h_ic_neF (xi := 3) (zi := 5) m174_54 rfl rfl (by decide) ?_
  refine g_aload_n m174_72 rfl ?_
  refine g_iload_n m174_73 rfl ?_
  refine g_cs (args := [.int (3)]) (rest := [.ref (89)]) 0 (Or.inl rfl) m174_74 (Nat.le_of_ble_eq_true rfl) rfl rfl (Nat.le_of_ble_eq_true rfl) ?_
  refine c_above (k := 3) (by decide) ?_
  refine gwr ?_
  refine g_iload_n m174_77 rfl ?_
  refine h_cv (k := 57) (p := 89) (args := [.int (0), .int (x)]) (rest := []) m174_78 cn_174 (Nat.le_of_ble_eq_true rfl) rfl rfl rfl (t_57 _ _) (Nat.le_of_ble_eq_true rfl) ?_
  refine c_mv_3_1_0 (m := lgR m b []) (b := b + 0) (nv := nv) (mv := mv) (lgR_4 hb []) (by omega) ((lgR_o (by decide) []).trans hk) ((lgR_o (by decide) []).trans h0) ((lgR_o (by decide) []).trans h1) ?_
  rw [show lgR (lgR m b []) (b + 0) [11, 10] = lgR m b [11, 10] from lgR_a [] [11, 10]]
  refine gwr ?_
  refine g_iret m174_81 rt_174 ?_
  exact hQ
set_option maxRecDepth 20000 in
set_option maxHeartbeats 40000000 in
theorem c_mv_3_2_0 {b : Nat} {x nv mv : Int32} (hb : m 57 21 = nI b) (hb40 : b + 1 ≤ 40) (hk : m 57 22 = nI 3) (h0 : m 57 23 = nv) (h1 : m 57 24 = mv) (hQ : Q (some (.int (x - mv))) (H (lgR m b [12]) ln N)) : WP xs (d + 2) 173 0 0 [.ref (89), .int (0), .int (x)] (H m ln N) Q := by
  refine wp_x mx_173 (L := [some (.ref (89)), some (.int (0)), some (.int (x))]) (Nat.le_of_ble_eq_true rfl) rfl ?_
  refine g_iload_n m173_0 rfl ?_
  refine h_if_neT (xi := 0) (zi := 0) m173_1 rfl rfl (by decide) ?_
  refine g_aload_n m173_4 rfl ?_
  refine g_bipush m173_5 ?_
  refine h_cv (k := 57) (p := 89) (args := [.int (12)]) (rest := []) m173_7 cn_171 (Nat.le_of_ble_eq_true rfl) rfl rfl rfl (t_57 _ _) (Nat.le_of_ble_eq_true rfl) ?_
  refine c_ran (b := b) (c := 12) hb (by omega) ?_
  refine gwr0 ?_
  refine g_iload_n m173_10 rfl ?_
  refine g_aload_n m173_11 rfl ?_
  refine h_gfI (k := 57) (p := 89) m173_12 rfl (t_57 _ _) rfl ((lgR_o (by decide) [12]).trans h1) ?_
  refine g_isub m173_15 rfl ?_
  refine g_iret m173_16 rt_173 ?_
  exact hQ
set_option maxRecDepth 20000 in
set_option maxHeartbeats 40000000 in
theorem c_mv_3_2_3 {b : Nat} {x nv mv : Int32} (hb : m 57 21 = nI b) (hb40 : b + 2 ≤ 40) (hk : m 57 22 = nI 3) (h0 : m 57 23 = nv) (h1 : m 57 24 = mv) (hQ : Q (some (.int (-(x - mv)))) (H (lgR m b [40, 12]) ln N)) : WP xs (d + 3) 173 0 0 [.ref (89), .int (3), .int (x)] (H m ln N) Q := by
  refine wp_x mx_173 (L := [some (.ref (89)), some (.int (3)), some (.int (x))]) (Nat.le_of_ble_eq_true rfl) rfl ?_
  refine g_iload_n m173_0 rfl ?_
  refine h_if_neF (xi := 3) (zi := 0) m173_1 rfl rfl (by decide) ?_
  refine g_iload_n m173_17 rfl ?_
  refine g_iconst m173_18 ?_
  refine h_ic_neT (xi := 3) (zi := 3) m173_19 rfl rfl (by decide) ?_
  refine g_aload_n m173_22 rfl ?_
  refine g_bipush m173_23 ?_
  refine h_cv (k := 57) (p := 89) (args := [.int (40)]) (rest := []) m173_25 cn_171 (Nat.le_of_ble_eq_true rfl) rfl rfl rfl (t_57 _ _) (Nat.le_of_ble_eq_true rfl) ?_
  refine c_ran (b := b) (c := 40) hb (by omega) ?_
  refine gwr0 ?_
  refine g_aload_n m173_28 rfl ?_
  refine g_iconst m173_29 ?_
  refine g_iload_n m173_30 rfl ?_
  refine h_cv (k := 57) (p := 89) (args := [.int (0), .int (x)]) (rest := []) m173_31 cn_173 (Nat.le_of_ble_eq_true rfl) rfl rfl rfl (t_57 _ _) (Nat.le_of_ble_eq_true rfl) ?_
  refine c_mv_3_2_0 (m := lgR m b [40]) (b := b + 1) (nv := nv) (mv := mv) (lgR_4 hb [40]) (by omega) ((lgR_o (by decide) [40]).trans hk) ((lgR_o (by decide) [40]).trans h0) ((lgR_o (by decide) [40]).trans h1) ?_
  rw [show lgR (lgR m b [40]) (b + 1) [12] = lgR m b [40, 12] from lgR_a [40] [12]]
  refine gwr ?_
  refine g_ineg m173_34 rfl ?_
  refine g_iret m173_35 rt_173 ?_
  exact hQ
set_option maxRecDepth 20000 in
set_option maxHeartbeats 40000000 in
theorem c_mv_3_3_0 {b : Nat} {x nv mv : Int32} (hb : m 57 21 = nI b) (hb40 : b + 5 ≤ 40) (hk : m 57 22 = nI 3) (h0 : m 57 23 = nv) (h1 : m 57 24 = mv) (hQ : Q (some (.int (((x + nv) * (2 : Int32)) ^^^ (-(x - mv))))) (H (lgR m b [13, 11, 10, 40, 12]) ln N)) : WP xs (d + 6) 175 0 0 [.ref (89), .int (0), .int (x)] (H m ln N) Q := by
  refine wp_x mx_175 (L := [some (.ref (89)), some (.int (0)), some (.int (x)), none]) (Nat.le_of_ble_eq_true rfl) rfl ?_
  refine g_iload_n m175_0 rfl ?_
  refine h_if_neT (xi := 0) (zi := 0) m175_1 rfl rfl (by decide) ?_
  refine g_aload_n m175_4 rfl ?_
  refine g_bipush m175_5 ?_
  refine h_cv (k := 57) (p := 89) (args := [.int (13)]) (rest := []) m175_7 cn_171 (Nat.le_of_ble_eq_true rfl) rfl rfl rfl (t_57 _ _) (Nat.le_of_ble_eq_true rfl) ?_
  refine c_ran (b := b) (c := 13) hb (by omega) ?_
  refine gwr0 ?_
  refine g_aload_n m175_10 rfl ?_
  refine g_aload_n m175_11 rfl ?_
  refine h_gfI (k := 57) (p := 89) m175_12 rfl (t_57 _ _) rfl ((lgR_o (by decide) [13]).trans hk) ?_
  refine g_iload_n m175_15 rfl ?_
  refine h_cv (k := 57) (p := 89) (args := [.int (3), .int (x)]) (rest := []) m175_16 cn_174 (Nat.le_of_ble_eq_true rfl) rfl rfl rfl (t_57 _ _) (Nat.le_of_ble_eq_true rfl) ?_
  refine c_mv_3_1_3 (m := lgR m b [13]) (b := b + 1) (nv := nv) (mv := mv) (lgR_4 hb [13]) (by omega) ((lgR_o (by decide) [13]).trans hk) ((lgR_o (by decide) [13]).trans h0) ((lgR_o (by decide) [13]).trans h1) ?_
  rw [show lgR (lgR m b [13]) (b + 1) [11, 10] = lgR m b [13, 11, 10] from lgR_a [13] [11, 10]]
  refine gwr ?_
  refine g_istore_n (L2 := [some (.ref (89)), some (.int (0)), some (.int (x)), some (.int (((x + nv) * (2 : Int32))))]) m175_19 rfl rfl ?_
  refine g_iload_n m175_20 rfl ?_
  refine g_aload_n m175_21 rfl ?_
  refine g_aload_n m175_22 rfl ?_
  refine h_gfI (k := 57) (p := 89) m175_23 rfl (t_57 _ _) rfl ((lgR_o (by decide) [13, 11, 10]).trans hk) ?_
  refine g_iload_n m175_26 rfl ?_
  refine h_cv (k := 57) (p := 89) (args := [.int (3), .int (x)]) (rest := [.int (((x + nv) * (2 : Int32)))]) m175_27 cn_173 (Nat.le_of_ble_eq_true rfl) rfl rfl rfl (t_57 _ _) (Nat.le_of_ble_eq_true rfl) ?_
  refine c_mv_3_2_3 (m := lgR m b [13, 11, 10]) (b := b + 3) (nv := nv) (mv := mv) (lgR_4 hb [13, 11, 10]) (by omega) ((lgR_o (by decide) [13, 11, 10]).trans hk) ((lgR_o (by decide) [13, 11, 10]).trans h0) ((lgR_o (by decide) [13, 11, 10]).trans h1) ?_
  rw [show lgR (lgR m b [13, 11, 10]) (b + 3) [40, 12] = lgR m b [13, 11, 10, 40, 12] from lgR_a [13, 11, 10] [40, 12]]
  refine gwr ?_
  refine g_ixor m175_30 rfl ?_
  refine g_iret m175_31 rt_175 ?_
  exact hQ
set_option maxRecDepth 20000 in
set_option maxHeartbeats 40000000 in
theorem c_mv_3_3_3 {b : Nat} {x nv mv : Int32} (hb : m 57 21 = nI b) (hb40 : b + 5 ≤ 40) (hk : m 57 22 = nI 3) (h0 : m 57 23 = nv) (h1 : m 57 24 = mv) (hQ : Q (some (.int (((x + nv) * (2 : Int32)) ^^^ (-(x - mv))))) (H (lgR m b [13, 11, 10, 40, 12]) ln N)) : WP xs (d + 7) 175 0 0 [.ref (89), .int (3), .int (x)] (H m ln N) Q := by
  refine wp_x mx_175 (L := [some (.ref (89)), some (.int (3)), some (.int (x)), none]) (Nat.le_of_ble_eq_true rfl) rfl ?_
  refine g_iload_n m175_0 rfl ?_
  refine h_if_neF (xi := 3) (zi := 0) m175_1 rfl rfl (by decide) ?_
  refine g_iload_n m175_32 rfl ?_
  refine g_iconst m175_33 ?_
  refine h_ic_neF (xi := 3) (zi := 4) m175_34 rfl rfl (by decide) ?_
  refine g_iload_n m175_62 rfl ?_
  refine g_bipush m175_63 ?_
  refine h_ic_neF (xi := 3) (zi := 6) m175_65 rfl rfl (by decide) ?_
  refine g_aload_n m175_93 rfl ?_
  refine g_iload_n m175_94 rfl ?_
  refine g_cs (args := [.int (3)]) (rest := [.ref (89)]) 0 (Or.inl rfl) m175_95 (Nat.le_of_ble_eq_true rfl) rfl rfl (Nat.le_of_ble_eq_true rfl) ?_
  refine c_above (k := 3) (by decide) ?_
  refine gwr ?_
  refine g_iload_n m175_98 rfl ?_
  refine h_cv (k := 57) (p := 89) (args := [.int (0), .int (x)]) (rest := []) m175_99 cn_175 (Nat.le_of_ble_eq_true rfl) rfl rfl rfl (t_57 _ _) (Nat.le_of_ble_eq_true rfl) ?_
  refine c_mv_3_3_0 (m := lgR m b []) (b := b + 0) (nv := nv) (mv := mv) (lgR_4 hb []) (by omega) ((lgR_o (by decide) []).trans hk) ((lgR_o (by decide) []).trans h0) ((lgR_o (by decide) []).trans h1) ?_
  rw [show lgR (lgR m b []) (b + 0) [13, 11, 10, 40, 12] = lgR m b [13, 11, 10, 40, 12] from lgR_a [] [13, 11, 10, 40, 12]]
  refine gwr ?_
  refine g_iret m175_102 rt_175 ?_
  exact hQ
set_option maxRecDepth 20000 in
set_option maxHeartbeats 40000000 in
theorem c_mv_4_0_0 {b : Nat} {x nv mv : Int32} (hb : m 57 21 = nI b) (hb40 : b + 1 ≤ 40) (hk : m 57 22 = nI 4) (h0 : m 57 23 = nv) (h1 : m 57 24 = mv) (hQ : Q (some (.int (x + nv))) (H (lgR m b [10]) ln N)) : WP xs (d + 2) 172 0 0 [.ref (89), .int (0), .int (x)] (H m ln N) Q := by
  refine wp_x mx_172 (L := [some (.ref (89)), some (.int (0)), some (.int (x))]) (Nat.le_of_ble_eq_true rfl) rfl ?_
  refine g_iload_n m172_0 rfl ?_
  refine h_if_neT (xi := 0) (zi := 0) m172_1 rfl rfl (by decide) ?_
  refine g_aload_n m172_4 rfl ?_
  refine g_bipush m172_5 ?_
  refine h_cv (k := 57) (p := 89) (args := [.int (10)]) (rest := []) m172_7 cn_171 (Nat.le_of_ble_eq_true rfl) rfl rfl rfl (t_57 _ _) (Nat.le_of_ble_eq_true rfl) ?_
  refine c_ran (b := b) (c := 10) hb (by omega) ?_
  refine gwr0 ?_
  refine g_iload_n m172_10 rfl ?_
  refine g_aload_n m172_11 rfl ?_
  refine h_gfI (k := 57) (p := 89) m172_12 rfl (t_57 _ _) rfl ((lgR_o (by decide) [10]).trans h0) ?_
  refine g_iadd m172_15 rfl ?_
  refine g_iret m172_16 rt_172 ?_
  exact hQ
set_option maxRecDepth 20000 in
set_option maxHeartbeats 40000000 in
theorem c_mv_4_0_1 {b : Nat} {x nv mv : Int32} (hb : m 57 21 = nI b) (hb40 : b + 2 ≤ 40) (hk : m 57 22 = nI 4) (h0 : m 57 23 = nv) (h1 : m 57 24 = mv) (hQ : Q (some (.int ((x + nv) * (3 : Int32)))) (H (lgR m b [20, 10]) ln N)) : WP xs (d + 3) 172 0 0 [.ref (89), .int (1), .int (x)] (H m ln N) Q := by
  refine wp_x mx_172 (L := [some (.ref (89)), some (.int (1)), some (.int (x))]) (Nat.le_of_ble_eq_true rfl) rfl ?_
  refine g_iload_n m172_0 rfl ?_
  refine h_if_neF (xi := 1) (zi := 0) m172_1 rfl rfl (by decide) ?_
  refine g_iload_n m172_17 rfl ?_
  refine g_iconst m172_18 ?_
  refine h_ic_neT (xi := 1) (zi := 1) m172_19 rfl rfl (by decide) ?_
  refine g_aload_n m172_22 rfl ?_
  refine g_bipush m172_23 ?_
  refine h_cv (k := 57) (p := 89) (args := [.int (20)]) (rest := []) m172_25 cn_171 (Nat.le_of_ble_eq_true rfl) rfl rfl rfl (t_57 _ _) (Nat.le_of_ble_eq_true rfl) ?_
  refine c_ran (b := b) (c := 20) hb (by omega) ?_
  refine gwr0 ?_
  refine g_aload_n m172_28 rfl ?_
  refine g_iconst m172_29 ?_
  refine g_iload_n m172_30 rfl ?_
  refine h_cv (k := 57) (p := 89) (args := [.int (0), .int (x)]) (rest := []) m172_31 cn_172 (Nat.le_of_ble_eq_true rfl) rfl rfl rfl (t_57 _ _) (Nat.le_of_ble_eq_true rfl) ?_
  refine c_mv_4_0_0 (m := lgR m b [20]) (b := b + 1) (nv := nv) (mv := mv) (lgR_4 hb [20]) (by omega) ((lgR_o (by decide) [20]).trans hk) ((lgR_o (by decide) [20]).trans h0) ((lgR_o (by decide) [20]).trans h1) ?_
  rw [show lgR (lgR m b [20]) (b + 1) [10] = lgR m b [20, 10] from lgR_a [20] [10]]
  refine gwr ?_
  refine g_iconst m172_34 ?_
  refine g_imul m172_35 rfl ?_
  refine g_iret m172_36 rt_172 ?_
  exact hQ
set_option maxRecDepth 20000 in
set_option maxHeartbeats 40000000 in
theorem c_mv_4_0_4 {b : Nat} {x nv mv : Int32} (hb : m 57 21 = nI b) (hb40 : b + 2 ≤ 40) (hk : m 57 22 = nI 4) (h0 : m 57 23 = nv) (h1 : m 57 24 = mv) (hQ : Q (some (.int ((x + nv) * (3 : Int32)))) (H (lgR m b [20, 10]) ln N)) : WP xs (d + 4) 172 0 0 [.ref (89), .int (4), .int (x)] (H m ln N) Q := by
  refine wp_x mx_172 (L := [some (.ref (89)), some (.int (4)), some (.int (x))]) (Nat.le_of_ble_eq_true rfl) rfl ?_
  refine g_iload_n m172_0 rfl ?_
  refine h_if_neF (xi := 4) (zi := 0) m172_1 rfl rfl (by decide) ?_
  refine g_iload_n m172_17 rfl ?_
  refine g_iconst m172_18 ?_
  refine h_ic_neF (xi := 4) (zi := 1) m172_19 rfl rfl (by decide) ?_
  refine g_aload_n m172_37 rfl ?_
  refine g_iload_n m172_38 rfl ?_
  refine g_cs (args := [.int (4)]) (rest := [.ref (89)]) 0 (Or.inl rfl) m172_39 (Nat.le_of_ble_eq_true rfl) rfl rfl (Nat.le_of_ble_eq_true rfl) ?_
  refine c_above (k := 4) (by decide) ?_
  refine gwr ?_
  refine g_iload_n m172_42 rfl ?_
  refine h_cv (k := 57) (p := 89) (args := [.int (1), .int (x)]) (rest := []) m172_43 cn_172 (Nat.le_of_ble_eq_true rfl) rfl rfl rfl (t_57 _ _) (Nat.le_of_ble_eq_true rfl) ?_
  refine c_mv_4_0_1 (m := lgR m b []) (b := b + 0) (nv := nv) (mv := mv) (lgR_4 hb []) (by omega) ((lgR_o (by decide) []).trans hk) ((lgR_o (by decide) []).trans h0) ((lgR_o (by decide) []).trans h1) ?_
  rw [show lgR (lgR m b []) (b + 0) [20, 10] = lgR m b [20, 10] from lgR_a [] [20, 10]]
  refine gwr ?_
  refine g_iret m172_46 rt_172 ?_
  exact hQ
set_option maxRecDepth 20000 in
set_option maxHeartbeats 40000000 in
theorem c_mv_4_1_0 {b : Nat} {x nv mv : Int32} (hb : m 57 21 = nI b) (hb40 : b + 3 ≤ 40) (hk : m 57 22 = nI 4) (h0 : m 57 23 = nv) (h1 : m 57 24 = mv) (hQ : Q (some (.int (((x + nv) * (3 : Int32)) * (2 : Int32)))) (H (lgR m b [11, 20, 10]) ln N)) : WP xs (d + 5) 174 0 0 [.ref (89), .int (0), .int (x)] (H m ln N) Q := by
  refine wp_x mx_174 (L := [some (.ref (89)), some (.int (0)), some (.int (x)), none]) (Nat.le_of_ble_eq_true rfl) rfl ?_
  refine g_iload_n m174_0 rfl ?_
  refine h_if_neT (xi := 0) (zi := 0) m174_1 rfl rfl (by decide) ?_
  refine g_aload_n m174_4 rfl ?_
  refine g_bipush m174_5 ?_
  refine h_cv (k := 57) (p := 89) (args := [.int (11)]) (rest := []) m174_7 cn_171 (Nat.le_of_ble_eq_true rfl) rfl rfl rfl (t_57 _ _) (Nat.le_of_ble_eq_true rfl) ?_
  refine c_ran (b := b) (c := 11) hb (by omega) ?_
  refine gwr0 ?_
  refine g_aload_n m174_10 rfl ?_
  refine g_aload_n m174_11 rfl ?_
  refine h_gfI (k := 57) (p := 89) m174_12 rfl (t_57 _ _) rfl ((lgR_o (by decide) [11]).trans hk) ?_
  refine g_iload_n m174_15 rfl ?_
  refine h_cv (k := 57) (p := 89) (args := [.int (4), .int (x)]) (rest := []) m174_16 cn_172 (Nat.le_of_ble_eq_true rfl) rfl rfl rfl (t_57 _ _) (Nat.le_of_ble_eq_true rfl) ?_
  refine c_mv_4_0_4 (m := lgR m b [11]) (b := b + 1) (nv := nv) (mv := mv) (lgR_4 hb [11]) (by omega) ((lgR_o (by decide) [11]).trans hk) ((lgR_o (by decide) [11]).trans h0) ((lgR_o (by decide) [11]).trans h1) ?_
  rw [show lgR (lgR m b [11]) (b + 1) [20, 10] = lgR m b [11, 20, 10] from lgR_a [11] [20, 10]]
  refine gwr ?_
  refine g_iconst m174_19 ?_
  refine g_imul m174_20 rfl ?_
  refine g_iret m174_21 rt_174 ?_
  exact hQ
set_option maxRecDepth 20000 in
set_option maxHeartbeats 40000000 in
theorem c_mv_4_1_1 {b : Nat} {x nv mv : Int32} (hb : m 57 21 = nI b) (hb40 : b + 3 ≤ 40) (hk : m 57 22 = nI 4) (h0 : m 57 23 = nv) (h1 : m 57 24 = mv) (hQ : Q (some (.int (((x + nv) * (3 : Int32)) * (2 : Int32)))) (H (lgR m b [11, 20, 10]) ln N)) : WP xs (d + 6) 174 0 0 [.ref (89), .int (1), .int (x)] (H m ln N) Q := by
  refine wp_x mx_174 (L := [some (.ref (89)), some (.int (1)), some (.int (x)), none]) (Nat.le_of_ble_eq_true rfl) rfl ?_
  refine g_iload_n m174_0 rfl ?_
  refine h_if_neF (xi := 1) (zi := 0) m174_1 rfl rfl (by decide) ?_
  refine g_iload_n m174_22 rfl ?_
  refine g_iconst m174_23 ?_
  refine h_ic_neF (xi := 1) (zi := 2) m174_24 rfl rfl (by decide) ?_
  refine g_iload_n m174_52 rfl ?_
  refine g_iconst m174_53 ?_
  refine h_ic_neF (xi := 1) (zi := 5) m174_54 rfl rfl (by decide) ?_
  refine g_aload_n m174_72 rfl ?_
  refine g_iload_n m174_73 rfl ?_
  refine g_cs (args := [.int (1)]) (rest := [.ref (89)]) 0 (Or.inl rfl) m174_74 (Nat.le_of_ble_eq_true rfl) rfl rfl (Nat.le_of_ble_eq_true rfl) ?_
  refine c_above (k := 1) (by decide) ?_
  refine gwr ?_
  refine g_iload_n m174_77 rfl ?_
  refine h_cv (k := 57) (p := 89) (args := [.int (0), .int (x)]) (rest := []) m174_78 cn_174 (Nat.le_of_ble_eq_true rfl) rfl rfl rfl (t_57 _ _) (Nat.le_of_ble_eq_true rfl) ?_
  refine c_mv_4_1_0 (m := lgR m b []) (b := b + 0) (nv := nv) (mv := mv) (lgR_4 hb []) (by omega) ((lgR_o (by decide) []).trans hk) ((lgR_o (by decide) []).trans h0) ((lgR_o (by decide) []).trans h1) ?_
  rw [show lgR (lgR m b []) (b + 0) [11, 20, 10] = lgR m b [11, 20, 10] from lgR_a [] [11, 20, 10]]
  refine gwr ?_
  refine g_iret m174_81 rt_174 ?_
  exact hQ
set_option maxRecDepth 20000 in
set_option maxHeartbeats 40000000 in
theorem c_mv_4_1_4 {b : Nat} {x nv mv : Int32} (hb : m 57 21 = nI b) (hb40 : b + 3 ≤ 40) (hk : m 57 22 = nI 4) (h0 : m 57 23 = nv) (h1 : m 57 24 = mv) (hQ : Q (some (.int (((x + nv) * (3 : Int32)) * (2 : Int32)))) (H (lgR m b [11, 20, 10]) ln N)) : WP xs (d + 7) 174 0 0 [.ref (89), .int (4), .int (x)] (H m ln N) Q := by
  refine wp_x mx_174 (L := [some (.ref (89)), some (.int (4)), some (.int (x)), none]) (Nat.le_of_ble_eq_true rfl) rfl ?_
  refine g_iload_n m174_0 rfl ?_
  refine h_if_neF (xi := 4) (zi := 0) m174_1 rfl rfl (by decide) ?_
  refine g_iload_n m174_22 rfl ?_
  refine g_iconst m174_23 ?_
  refine h_ic_neF (xi := 4) (zi := 2) m174_24 rfl rfl (by decide) ?_
  refine g_iload_n m174_52 rfl ?_
  refine g_iconst m174_53 ?_
  refine h_ic_neF (xi := 4) (zi := 5) m174_54 rfl rfl (by decide) ?_
  refine g_aload_n m174_72 rfl ?_
  refine g_iload_n m174_73 rfl ?_
  refine g_cs (args := [.int (4)]) (rest := [.ref (89)]) 0 (Or.inl rfl) m174_74 (Nat.le_of_ble_eq_true rfl) rfl rfl (Nat.le_of_ble_eq_true rfl) ?_
  refine c_above (k := 4) (by decide) ?_
  refine gwr ?_
  refine g_iload_n m174_77 rfl ?_
  refine h_cv (k := 57) (p := 89) (args := [.int (1), .int (x)]) (rest := []) m174_78 cn_174 (Nat.le_of_ble_eq_true rfl) rfl rfl rfl (t_57 _ _) (Nat.le_of_ble_eq_true rfl) ?_
  refine c_mv_4_1_1 (m := lgR m b []) (b := b + 0) (nv := nv) (mv := mv) (lgR_4 hb []) (by omega) ((lgR_o (by decide) []).trans hk) ((lgR_o (by decide) []).trans h0) ((lgR_o (by decide) []).trans h1) ?_
  rw [show lgR (lgR m b []) (b + 0) [11, 20, 10] = lgR m b [11, 20, 10] from lgR_a [] [11, 20, 10]]
  refine gwr ?_
  refine g_iret m174_81 rt_174 ?_
  exact hQ
set_option maxRecDepth 20000 in
set_option maxHeartbeats 40000000 in
theorem c_mv_4_2_0 {b : Nat} {x nv mv : Int32} (hb : m 57 21 = nI b) (hb40 : b + 1 ≤ 40) (hk : m 57 22 = nI 4) (h0 : m 57 23 = nv) (h1 : m 57 24 = mv) (hQ : Q (some (.int (x - mv))) (H (lgR m b [12]) ln N)) : WP xs (d + 2) 173 0 0 [.ref (89), .int (0), .int (x)] (H m ln N) Q := by
  refine wp_x mx_173 (L := [some (.ref (89)), some (.int (0)), some (.int (x))]) (Nat.le_of_ble_eq_true rfl) rfl ?_
  refine g_iload_n m173_0 rfl ?_
  refine h_if_neT (xi := 0) (zi := 0) m173_1 rfl rfl (by decide) ?_
  refine g_aload_n m173_4 rfl ?_
  refine g_bipush m173_5 ?_
  refine h_cv (k := 57) (p := 89) (args := [.int (12)]) (rest := []) m173_7 cn_171 (Nat.le_of_ble_eq_true rfl) rfl rfl rfl (t_57 _ _) (Nat.le_of_ble_eq_true rfl) ?_
  refine c_ran (b := b) (c := 12) hb (by omega) ?_
  refine gwr0 ?_
  refine g_iload_n m173_10 rfl ?_
  refine g_aload_n m173_11 rfl ?_
  refine h_gfI (k := 57) (p := 89) m173_12 rfl (t_57 _ _) rfl ((lgR_o (by decide) [12]).trans h1) ?_
  refine g_isub m173_15 rfl ?_
  refine g_iret m173_16 rt_173 ?_
  exact hQ
set_option maxRecDepth 20000 in
set_option maxHeartbeats 40000000 in
theorem c_mv_4_2_1 {b : Nat} {x nv mv : Int32} (hb : m 57 21 = nI b) (hb40 : b + 1 ≤ 40) (hk : m 57 22 = nI 4) (h0 : m 57 23 = nv) (h1 : m 57 24 = mv) (hQ : Q (some (.int (x - mv))) (H (lgR m b [12]) ln N)) : WP xs (d + 3) 173 0 0 [.ref (89), .int (1), .int (x)] (H m ln N) Q := by
  refine wp_x mx_173 (L := [some (.ref (89)), some (.int (1)), some (.int (x))]) (Nat.le_of_ble_eq_true rfl) rfl ?_
  refine g_iload_n m173_0 rfl ?_
  refine h_if_neF (xi := 1) (zi := 0) m173_1 rfl rfl (by decide) ?_
  refine g_iload_n m173_17 rfl ?_
  refine g_iconst m173_18 ?_
  refine h_ic_neF (xi := 1) (zi := 3) m173_19 rfl rfl (by decide) ?_
  refine g_iload_n m173_36 rfl ?_
  refine g_bipush m173_37 ?_
  refine h_ic_neF (xi := 1) (zi := 6) m173_39 rfl rfl (by decide) ?_
  refine g_aload_n m173_60 rfl ?_
  refine g_iload_n m173_61 rfl ?_
  refine g_cs (args := [.int (1)]) (rest := [.ref (89)]) 0 (Or.inl rfl) m173_62 (Nat.le_of_ble_eq_true rfl) rfl rfl (Nat.le_of_ble_eq_true rfl) ?_
  refine c_above (k := 1) (by decide) ?_
  refine gwr ?_
  refine g_iload_n m173_65 rfl ?_
  refine h_cv (k := 57) (p := 89) (args := [.int (0), .int (x)]) (rest := []) m173_66 cn_173 (Nat.le_of_ble_eq_true rfl) rfl rfl rfl (t_57 _ _) (Nat.le_of_ble_eq_true rfl) ?_
  refine c_mv_4_2_0 (m := lgR m b []) (b := b + 0) (nv := nv) (mv := mv) (lgR_4 hb []) (by omega) ((lgR_o (by decide) []).trans hk) ((lgR_o (by decide) []).trans h0) ((lgR_o (by decide) []).trans h1) ?_
  rw [show lgR (lgR m b []) (b + 0) [12] = lgR m b [12] from lgR_a [] [12]]
  refine gwr ?_
  refine g_iret m173_69 rt_173 ?_
  exact hQ
set_option maxRecDepth 20000 in
set_option maxHeartbeats 40000000 in
theorem c_mv_4_2_4 {b : Nat} {x nv mv : Int32} (hb : m 57 21 = nI b) (hb40 : b + 1 ≤ 40) (hk : m 57 22 = nI 4) (h0 : m 57 23 = nv) (h1 : m 57 24 = mv) (hQ : Q (some (.int (x - mv))) (H (lgR m b [12]) ln N)) : WP xs (d + 4) 173 0 0 [.ref (89), .int (4), .int (x)] (H m ln N) Q := by
  refine wp_x mx_173 (L := [some (.ref (89)), some (.int (4)), some (.int (x))]) (Nat.le_of_ble_eq_true rfl) rfl ?_
  refine g_iload_n m173_0 rfl ?_
  refine h_if_neF (xi := 4) (zi := 0) m173_1 rfl rfl (by decide) ?_
  refine g_iload_n m173_17 rfl ?_
  refine g_iconst m173_18 ?_
  refine h_ic_neF (xi := 4) (zi := 3) m173_19 rfl rfl (by decide) ?_
  refine g_iload_n m173_36 rfl ?_
  refine g_bipush m173_37 ?_
  refine h_ic_neF (xi := 4) (zi := 6) m173_39 rfl rfl (by decide) ?_
  refine g_aload_n m173_60 rfl ?_
  refine g_iload_n m173_61 rfl ?_
  refine g_cs (args := [.int (4)]) (rest := [.ref (89)]) 0 (Or.inl rfl) m173_62 (Nat.le_of_ble_eq_true rfl) rfl rfl (Nat.le_of_ble_eq_true rfl) ?_
  refine c_above (k := 4) (by decide) ?_
  refine gwr ?_
  refine g_iload_n m173_65 rfl ?_
  refine h_cv (k := 57) (p := 89) (args := [.int (1), .int (x)]) (rest := []) m173_66 cn_173 (Nat.le_of_ble_eq_true rfl) rfl rfl rfl (t_57 _ _) (Nat.le_of_ble_eq_true rfl) ?_
  refine c_mv_4_2_1 (m := lgR m b []) (b := b + 0) (nv := nv) (mv := mv) (lgR_4 hb []) (by omega) ((lgR_o (by decide) []).trans hk) ((lgR_o (by decide) []).trans h0) ((lgR_o (by decide) []).trans h1) ?_
  rw [show lgR (lgR m b []) (b + 0) [12] = lgR m b [12] from lgR_a [] [12]]
  refine gwr ?_
  refine g_iret m173_69 rt_173 ?_
  exact hQ
set_option maxRecDepth 20000 in
set_option maxHeartbeats 40000000 in
theorem c_mv_4_3_0 {b : Nat} {x nv mv : Int32} (hb : m 57 21 = nI b) (hb40 : b + 5 ≤ 40) (hk : m 57 22 = nI 4) (h0 : m 57 23 = nv) (h1 : m 57 24 = mv) (hQ : Q (some (.int ((((x + nv) * (3 : Int32)) * (2 : Int32)) ^^^ (x - mv)))) (H (lgR m b [13, 11, 20, 10, 12]) ln N)) : WP xs (d + 8) 175 0 0 [.ref (89), .int (0), .int (x)] (H m ln N) Q := by
  refine wp_x mx_175 (L := [some (.ref (89)), some (.int (0)), some (.int (x)), none]) (Nat.le_of_ble_eq_true rfl) rfl ?_
  refine g_iload_n m175_0 rfl ?_
  refine h_if_neT (xi := 0) (zi := 0) m175_1 rfl rfl (by decide) ?_
  refine g_aload_n m175_4 rfl ?_
  refine g_bipush m175_5 ?_
  refine h_cv (k := 57) (p := 89) (args := [.int (13)]) (rest := []) m175_7 cn_171 (Nat.le_of_ble_eq_true rfl) rfl rfl rfl (t_57 _ _) (Nat.le_of_ble_eq_true rfl) ?_
  refine c_ran (b := b) (c := 13) hb (by omega) ?_
  refine gwr0 ?_
  refine g_aload_n m175_10 rfl ?_
  refine g_aload_n m175_11 rfl ?_
  refine h_gfI (k := 57) (p := 89) m175_12 rfl (t_57 _ _) rfl ((lgR_o (by decide) [13]).trans hk) ?_
  refine g_iload_n m175_15 rfl ?_
  refine h_cv (k := 57) (p := 89) (args := [.int (4), .int (x)]) (rest := []) m175_16 cn_174 (Nat.le_of_ble_eq_true rfl) rfl rfl rfl (t_57 _ _) (Nat.le_of_ble_eq_true rfl) ?_
  refine c_mv_4_1_4 (m := lgR m b [13]) (b := b + 1) (nv := nv) (mv := mv) (lgR_4 hb [13]) (by omega) ((lgR_o (by decide) [13]).trans hk) ((lgR_o (by decide) [13]).trans h0) ((lgR_o (by decide) [13]).trans h1) ?_
  rw [show lgR (lgR m b [13]) (b + 1) [11, 20, 10] = lgR m b [13, 11, 20, 10] from lgR_a [13] [11, 20, 10]]
  refine gwr ?_
  refine g_istore_n (L2 := [some (.ref (89)), some (.int (0)), some (.int (x)), some (.int ((((x + nv) * (3 : Int32)) * (2 : Int32))))]) m175_19 rfl rfl ?_
  refine g_iload_n m175_20 rfl ?_
  refine g_aload_n m175_21 rfl ?_
  refine g_aload_n m175_22 rfl ?_
  refine h_gfI (k := 57) (p := 89) m175_23 rfl (t_57 _ _) rfl ((lgR_o (by decide) [13, 11, 20, 10]).trans hk) ?_
  refine g_iload_n m175_26 rfl ?_
  refine h_cv (k := 57) (p := 89) (args := [.int (4), .int (x)]) (rest := [.int ((((x + nv) * (3 : Int32)) * (2 : Int32)))]) m175_27 cn_173 (Nat.le_of_ble_eq_true rfl) rfl rfl rfl (t_57 _ _) (Nat.le_of_ble_eq_true rfl) ?_
  refine c_mv_4_2_4 (m := lgR m b [13, 11, 20, 10]) (b := b + 4) (nv := nv) (mv := mv) (lgR_4 hb [13, 11, 20, 10]) (by omega) ((lgR_o (by decide) [13, 11, 20, 10]).trans hk) ((lgR_o (by decide) [13, 11, 20, 10]).trans h0) ((lgR_o (by decide) [13, 11, 20, 10]).trans h1) ?_
  rw [show lgR (lgR m b [13, 11, 20, 10]) (b + 4) [12] = lgR m b [13, 11, 20, 10, 12] from lgR_a [13, 11, 20, 10] [12]]
  refine gwr ?_
  refine g_ixor m175_30 rfl ?_
  refine g_iret m175_31 rt_175 ?_
  exact hQ
set_option maxRecDepth 20000 in
set_option maxHeartbeats 40000000 in
theorem c_mv_4_3_1 {b : Nat} {x nv mv : Int32} (hb : m 57 21 = nI b) (hb40 : b + 5 ≤ 40) (hk : m 57 22 = nI 4) (h0 : m 57 23 = nv) (h1 : m 57 24 = mv) (hQ : Q (some (.int ((((x + nv) * (3 : Int32)) * (2 : Int32)) ^^^ (x - mv)))) (H (lgR m b [13, 11, 20, 10, 12]) ln N)) : WP xs (d + 9) 175 0 0 [.ref (89), .int (1), .int (x)] (H m ln N) Q := by
  refine wp_x mx_175 (L := [some (.ref (89)), some (.int (1)), some (.int (x)), none]) (Nat.le_of_ble_eq_true rfl) rfl ?_
  refine g_iload_n m175_0 rfl ?_
  refine h_if_neF (xi := 1) (zi := 0) m175_1 rfl rfl (by decide) ?_
  refine g_iload_n m175_32 rfl ?_
  refine g_iconst m175_33 ?_
  refine h_ic_neF (xi := 1) (zi := 4) m175_34 rfl rfl (by decide) ?_
  refine g_iload_n m175_62 rfl ?_
  refine g_bipush m175_63 ?_
  refine h_ic_neF (xi := 1) (zi := 6) m175_65 rfl rfl (by decide) ?_
  refine g_aload_n m175_93 rfl ?_
  refine g_iload_n m175_94 rfl ?_
  refine g_cs (args := [.int (1)]) (rest := [.ref (89)]) 0 (Or.inl rfl) m175_95 (Nat.le_of_ble_eq_true rfl) rfl rfl (Nat.le_of_ble_eq_true rfl) ?_
  refine c_above (k := 1) (by decide) ?_
  refine gwr ?_
  refine g_iload_n m175_98 rfl ?_
  refine h_cv (k := 57) (p := 89) (args := [.int (0), .int (x)]) (rest := []) m175_99 cn_175 (Nat.le_of_ble_eq_true rfl) rfl rfl rfl (t_57 _ _) (Nat.le_of_ble_eq_true rfl) ?_
  refine c_mv_4_3_0 (m := lgR m b []) (b := b + 0) (nv := nv) (mv := mv) (lgR_4 hb []) (by omega) ((lgR_o (by decide) []).trans hk) ((lgR_o (by decide) []).trans h0) ((lgR_o (by decide) []).trans h1) ?_
  rw [show lgR (lgR m b []) (b + 0) [13, 11, 20, 10, 12] = lgR m b [13, 11, 20, 10, 12] from lgR_a [] [13, 11, 20, 10, 12]]
  refine gwr ?_
  refine g_iret m175_102 rt_175 ?_
  exact hQ
set_option maxRecDepth 20000 in
set_option maxHeartbeats 40000000 in
theorem c_mv_4_3_4 {b : Nat} {x nv mv : Int32} (hb : m 57 21 = nI b) (hb40 : b + 8 ≤ 40) (hk : m 57 22 = nI 4) (h0 : m 57 23 = nv) (h1 : m 57 24 = mv) (hQ : Q (some (.int (((((x + nv) * (3 : Int32)) * (2 : Int32)) ^^^ (x - mv)) - (((2 : Int32) + nv) * (3 : Int32))))) (H (lgR m b [50, 13, 11, 20, 10, 12, 20, 10]) ln N)) : WP xs (d + 10) 175 0 0 [.ref (89), .int (4), .int (x)] (H m ln N) Q := by
  refine wp_x mx_175 (L := [some (.ref (89)), some (.int (4)), some (.int (x)), none]) (Nat.le_of_ble_eq_true rfl) rfl ?_
  refine g_iload_n m175_0 rfl ?_
  refine h_if_neF (xi := 4) (zi := 0) m175_1 rfl rfl (by decide) ?_
  refine g_iload_n m175_32 rfl ?_
  refine g_iconst m175_33 ?_
  refine h_ic_neT (xi := 4) (zi := 4) m175_34 rfl rfl (by decide) ?_
  refine g_aload_n m175_37 rfl ?_
  refine g_bipush m175_38 ?_
  refine h_cv (k := 57) (p := 89) (args := [.int (50)]) (rest := []) m175_40 cn_171 (Nat.le_of_ble_eq_true rfl) rfl rfl rfl (t_57 _ _) (Nat.le_of_ble_eq_true rfl) ?_
  refine c_ran (b := b) (c := 50) hb (by omega) ?_
  refine gwr0 ?_
  refine g_aload_n m175_43 rfl ?_
  refine g_iconst m175_44 ?_
  refine g_iload_n m175_45 rfl ?_
  refine h_cv (k := 57) (p := 89) (args := [.int (1), .int (x)]) (rest := []) m175_46 cn_175 (Nat.le_of_ble_eq_true rfl) rfl rfl rfl (t_57 _ _) (Nat.le_of_ble_eq_true rfl) ?_
  refine c_mv_4_3_1 (m := lgR m b [50]) (b := b + 1) (nv := nv) (mv := mv) (lgR_4 hb [50]) (by omega) ((lgR_o (by decide) [50]).trans hk) ((lgR_o (by decide) [50]).trans h0) ((lgR_o (by decide) [50]).trans h1) ?_
  rw [show lgR (lgR m b [50]) (b + 1) [13, 11, 20, 10, 12] = lgR m b [50, 13, 11, 20, 10, 12] from lgR_a [50] [13, 11, 20, 10, 12]]
  refine gwr ?_
  refine g_istore_n (L2 := [some (.ref (89)), some (.int (4)), some (.int (x)), some (.int (((((x + nv) * (3 : Int32)) * (2 : Int32)) ^^^ (x - mv))))]) m175_49 rfl rfl ?_
  refine g_iload_n m175_50 rfl ?_
  refine g_aload_n m175_51 rfl ?_
  refine g_aload_n m175_52 rfl ?_
  refine h_gfI (k := 57) (p := 89) m175_53 rfl (t_57 _ _) rfl ((lgR_o (by decide) [50, 13, 11, 20, 10, 12]).trans hk) ?_
  refine g_iconst m175_56 ?_
  refine h_cv (k := 57) (p := 89) (args := [.int (4), .int (2)]) (rest := [.int (((((x + nv) * (3 : Int32)) * (2 : Int32)) ^^^ (x - mv)))]) m175_57 cn_172 (Nat.le_of_ble_eq_true rfl) rfl rfl rfl (t_57 _ _) (Nat.le_of_ble_eq_true rfl) ?_
  refine c_mv_4_0_4 (m := lgR m b [50, 13, 11, 20, 10, 12]) (b := b + 6) (nv := nv) (mv := mv) (lgR_4 hb [50, 13, 11, 20, 10, 12]) (by omega) ((lgR_o (by decide) [50, 13, 11, 20, 10, 12]).trans hk) ((lgR_o (by decide) [50, 13, 11, 20, 10, 12]).trans h0) ((lgR_o (by decide) [50, 13, 11, 20, 10, 12]).trans h1) ?_
  rw [show lgR (lgR m b [50, 13, 11, 20, 10, 12]) (b + 6) [20, 10] = lgR m b [50, 13, 11, 20, 10, 12, 20, 10] from lgR_a [50, 13, 11, 20, 10, 12] [20, 10]]
  refine gwr ?_
  refine g_isub m175_60 rfl ?_
  refine g_iret m175_61 rt_175 ?_
  exact hQ
set_option maxRecDepth 20000 in
set_option maxHeartbeats 40000000 in
theorem c_mv_5_0_0 {b : Nat} {x nv mv : Int32} (hb : m 57 21 = nI b) (hb40 : b + 1 ≤ 40) (hk : m 57 22 = nI 5) (h0 : m 57 23 = nv) (h1 : m 57 24 = mv) (hQ : Q (some (.int (x + nv))) (H (lgR m b [10]) ln N)) : WP xs (d + 2) 172 0 0 [.ref (89), .int (0), .int (x)] (H m ln N) Q := by
  refine wp_x mx_172 (L := [some (.ref (89)), some (.int (0)), some (.int (x))]) (Nat.le_of_ble_eq_true rfl) rfl ?_
  refine g_iload_n m172_0 rfl ?_
  refine h_if_neT (xi := 0) (zi := 0) m172_1 rfl rfl (by decide) ?_
  refine g_aload_n m172_4 rfl ?_
  refine g_bipush m172_5 ?_
  refine h_cv (k := 57) (p := 89) (args := [.int (10)]) (rest := []) m172_7 cn_171 (Nat.le_of_ble_eq_true rfl) rfl rfl rfl (t_57 _ _) (Nat.le_of_ble_eq_true rfl) ?_
  refine c_ran (b := b) (c := 10) hb (by omega) ?_
  refine gwr0 ?_
  refine g_iload_n m172_10 rfl ?_
  refine g_aload_n m172_11 rfl ?_
  refine h_gfI (k := 57) (p := 89) m172_12 rfl (t_57 _ _) rfl ((lgR_o (by decide) [10]).trans h0) ?_
  refine g_iadd m172_15 rfl ?_
  refine g_iret m172_16 rt_172 ?_
  exact hQ
set_option maxRecDepth 20000 in
set_option maxHeartbeats 40000000 in
theorem c_mv_5_0_2 {b : Nat} {x nv mv : Int32} (hb : m 57 21 = nI b) (hb40 : b + 1 ≤ 40) (hk : m 57 22 = nI 5) (h0 : m 57 23 = nv) (h1 : m 57 24 = mv) (hQ : Q (some (.int (x + nv))) (H (lgR m b [10]) ln N)) : WP xs (d + 3) 172 0 0 [.ref (89), .int (2), .int (x)] (H m ln N) Q := by
  refine wp_x mx_172 (L := [some (.ref (89)), some (.int (2)), some (.int (x))]) (Nat.le_of_ble_eq_true rfl) rfl ?_
  refine g_iload_n m172_0 rfl ?_
  refine h_if_neF (xi := 2) (zi := 0) m172_1 rfl rfl (by decide) ?_
  refine g_iload_n m172_17 rfl ?_
  refine g_iconst m172_18 ?_
  refine h_ic_neF (xi := 2) (zi := 1) m172_19 rfl rfl (by decide) ?_
  refine g_aload_n m172_37 rfl ?_
  refine g_iload_n m172_38 rfl ?_
  refine g_cs (args := [.int (2)]) (rest := [.ref (89)]) 0 (Or.inl rfl) m172_39 (Nat.le_of_ble_eq_true rfl) rfl rfl (Nat.le_of_ble_eq_true rfl) ?_
  refine c_above (k := 2) (by decide) ?_
  refine gwr ?_
  refine g_iload_n m172_42 rfl ?_
  refine h_cv (k := 57) (p := 89) (args := [.int (0), .int (x)]) (rest := []) m172_43 cn_172 (Nat.le_of_ble_eq_true rfl) rfl rfl rfl (t_57 _ _) (Nat.le_of_ble_eq_true rfl) ?_
  refine c_mv_5_0_0 (m := lgR m b []) (b := b + 0) (nv := nv) (mv := mv) (lgR_4 hb []) (by omega) ((lgR_o (by decide) []).trans hk) ((lgR_o (by decide) []).trans h0) ((lgR_o (by decide) []).trans h1) ?_
  rw [show lgR (lgR m b []) (b + 0) [10] = lgR m b [10] from lgR_a [] [10]]
  refine gwr ?_
  refine g_iret m172_46 rt_172 ?_
  exact hQ
set_option maxRecDepth 20000 in
set_option maxHeartbeats 40000000 in
theorem c_mv_5_0_5 {b : Nat} {x nv mv : Int32} (hb : m 57 21 = nI b) (hb40 : b + 1 ≤ 40) (hk : m 57 22 = nI 5) (h0 : m 57 23 = nv) (h1 : m 57 24 = mv) (hQ : Q (some (.int (x + nv))) (H (lgR m b [10]) ln N)) : WP xs (d + 4) 172 0 0 [.ref (89), .int (5), .int (x)] (H m ln N) Q := by
  refine wp_x mx_172 (L := [some (.ref (89)), some (.int (5)), some (.int (x))]) (Nat.le_of_ble_eq_true rfl) rfl ?_
  refine g_iload_n m172_0 rfl ?_
  refine h_if_neF (xi := 5) (zi := 0) m172_1 rfl rfl (by decide) ?_
  refine g_iload_n m172_17 rfl ?_
  refine g_iconst m172_18 ?_
  refine h_ic_neF (xi := 5) (zi := 1) m172_19 rfl rfl (by decide) ?_
  refine g_aload_n m172_37 rfl ?_
  refine g_iload_n m172_38 rfl ?_
  refine g_cs (args := [.int (5)]) (rest := [.ref (89)]) 0 (Or.inl rfl) m172_39 (Nat.le_of_ble_eq_true rfl) rfl rfl (Nat.le_of_ble_eq_true rfl) ?_
  refine c_above (k := 5) (by decide) ?_
  refine gwr ?_
  refine g_iload_n m172_42 rfl ?_
  refine h_cv (k := 57) (p := 89) (args := [.int (2), .int (x)]) (rest := []) m172_43 cn_172 (Nat.le_of_ble_eq_true rfl) rfl rfl rfl (t_57 _ _) (Nat.le_of_ble_eq_true rfl) ?_
  refine c_mv_5_0_2 (m := lgR m b []) (b := b + 0) (nv := nv) (mv := mv) (lgR_4 hb []) (by omega) ((lgR_o (by decide) []).trans hk) ((lgR_o (by decide) []).trans h0) ((lgR_o (by decide) []).trans h1) ?_
  rw [show lgR (lgR m b []) (b + 0) [10] = lgR m b [10] from lgR_a [] [10]]
  refine gwr ?_
  refine g_iret m172_46 rt_172 ?_
  exact hQ
set_option maxRecDepth 20000 in
set_option maxHeartbeats 40000000 in
theorem c_mv_5_1_0 {b : Nat} {x nv mv : Int32} (hb : m 57 21 = nI b) (hb40 : b + 2 ≤ 40) (hk : m 57 22 = nI 5) (h0 : m 57 23 = nv) (h1 : m 57 24 = mv) (hQ : Q (some (.int ((x + nv) * (2 : Int32)))) (H (lgR m b [11, 10]) ln N)) : WP xs (d + 5) 174 0 0 [.ref (89), .int (0), .int (x)] (H m ln N) Q := by
  refine wp_x mx_174 (L := [some (.ref (89)), some (.int (0)), some (.int (x)), none]) (Nat.le_of_ble_eq_true rfl) rfl ?_
  refine g_iload_n m174_0 rfl ?_
  refine h_if_neT (xi := 0) (zi := 0) m174_1 rfl rfl (by decide) ?_
  refine g_aload_n m174_4 rfl ?_
  refine g_bipush m174_5 ?_
  refine h_cv (k := 57) (p := 89) (args := [.int (11)]) (rest := []) m174_7 cn_171 (Nat.le_of_ble_eq_true rfl) rfl rfl rfl (t_57 _ _) (Nat.le_of_ble_eq_true rfl) ?_
  refine c_ran (b := b) (c := 11) hb (by omega) ?_
  refine gwr0 ?_
  refine g_aload_n m174_10 rfl ?_
  refine g_aload_n m174_11 rfl ?_
  refine h_gfI (k := 57) (p := 89) m174_12 rfl (t_57 _ _) rfl ((lgR_o (by decide) [11]).trans hk) ?_
  refine g_iload_n m174_15 rfl ?_
  refine h_cv (k := 57) (p := 89) (args := [.int (5), .int (x)]) (rest := []) m174_16 cn_172 (Nat.le_of_ble_eq_true rfl) rfl rfl rfl (t_57 _ _) (Nat.le_of_ble_eq_true rfl) ?_
  refine c_mv_5_0_5 (m := lgR m b [11]) (b := b + 1) (nv := nv) (mv := mv) (lgR_4 hb [11]) (by omega) ((lgR_o (by decide) [11]).trans hk) ((lgR_o (by decide) [11]).trans h0) ((lgR_o (by decide) [11]).trans h1) ?_
  rw [show lgR (lgR m b [11]) (b + 1) [10] = lgR m b [11, 10] from lgR_a [11] [10]]
  refine gwr ?_
  refine g_iconst m174_19 ?_
  refine g_imul m174_20 rfl ?_
  refine g_iret m174_21 rt_174 ?_
  exact hQ
set_option maxRecDepth 20000 in
set_option maxHeartbeats 40000000 in
theorem c_mv_5_2_0 {b : Nat} {x nv mv : Int32} (hb : m 57 21 = nI b) (hb40 : b + 1 ≤ 40) (hk : m 57 22 = nI 5) (h0 : m 57 23 = nv) (h1 : m 57 24 = mv) (hQ : Q (some (.int (x - mv))) (H (lgR m b [12]) ln N)) : WP xs (d + 2) 173 0 0 [.ref (89), .int (0), .int (x)] (H m ln N) Q := by
  refine wp_x mx_173 (L := [some (.ref (89)), some (.int (0)), some (.int (x))]) (Nat.le_of_ble_eq_true rfl) rfl ?_
  refine g_iload_n m173_0 rfl ?_
  refine h_if_neT (xi := 0) (zi := 0) m173_1 rfl rfl (by decide) ?_
  refine g_aload_n m173_4 rfl ?_
  refine g_bipush m173_5 ?_
  refine h_cv (k := 57) (p := 89) (args := [.int (12)]) (rest := []) m173_7 cn_171 (Nat.le_of_ble_eq_true rfl) rfl rfl rfl (t_57 _ _) (Nat.le_of_ble_eq_true rfl) ?_
  refine c_ran (b := b) (c := 12) hb (by omega) ?_
  refine gwr0 ?_
  refine g_iload_n m173_10 rfl ?_
  refine g_aload_n m173_11 rfl ?_
  refine h_gfI (k := 57) (p := 89) m173_12 rfl (t_57 _ _) rfl ((lgR_o (by decide) [12]).trans h1) ?_
  refine g_isub m173_15 rfl ?_
  refine g_iret m173_16 rt_173 ?_
  exact hQ
set_option maxRecDepth 20000 in
set_option maxHeartbeats 40000000 in
theorem c_mv_5_2_2 {b : Nat} {x nv mv : Int32} (hb : m 57 21 = nI b) (hb40 : b + 1 ≤ 40) (hk : m 57 22 = nI 5) (h0 : m 57 23 = nv) (h1 : m 57 24 = mv) (hQ : Q (some (.int (x - mv))) (H (lgR m b [12]) ln N)) : WP xs (d + 3) 173 0 0 [.ref (89), .int (2), .int (x)] (H m ln N) Q := by
  refine wp_x mx_173 (L := [some (.ref (89)), some (.int (2)), some (.int (x))]) (Nat.le_of_ble_eq_true rfl) rfl ?_
  refine g_iload_n m173_0 rfl ?_
  refine h_if_neF (xi := 2) (zi := 0) m173_1 rfl rfl (by decide) ?_
  refine g_iload_n m173_17 rfl ?_
  refine g_iconst m173_18 ?_
  refine h_ic_neF (xi := 2) (zi := 3) m173_19 rfl rfl (by decide) ?_
  refine g_iload_n m173_36 rfl ?_
  refine g_bipush m173_37 ?_
  refine h_ic_neF (xi := 2) (zi := 6) m173_39 rfl rfl (by decide) ?_
  refine g_aload_n m173_60 rfl ?_
  refine g_iload_n m173_61 rfl ?_
  refine g_cs (args := [.int (2)]) (rest := [.ref (89)]) 0 (Or.inl rfl) m173_62 (Nat.le_of_ble_eq_true rfl) rfl rfl (Nat.le_of_ble_eq_true rfl) ?_
  refine c_above (k := 2) (by decide) ?_
  refine gwr ?_
  refine g_iload_n m173_65 rfl ?_
  refine h_cv (k := 57) (p := 89) (args := [.int (0), .int (x)]) (rest := []) m173_66 cn_173 (Nat.le_of_ble_eq_true rfl) rfl rfl rfl (t_57 _ _) (Nat.le_of_ble_eq_true rfl) ?_
  refine c_mv_5_2_0 (m := lgR m b []) (b := b + 0) (nv := nv) (mv := mv) (lgR_4 hb []) (by omega) ((lgR_o (by decide) []).trans hk) ((lgR_o (by decide) []).trans h0) ((lgR_o (by decide) []).trans h1) ?_
  rw [show lgR (lgR m b []) (b + 0) [12] = lgR m b [12] from lgR_a [] [12]]
  refine gwr ?_
  refine g_iret m173_69 rt_173 ?_
  exact hQ
set_option maxRecDepth 20000 in
set_option maxHeartbeats 40000000 in
theorem c_mv_5_2_5 {b : Nat} {x nv mv : Int32} (hb : m 57 21 = nI b) (hb40 : b + 1 ≤ 40) (hk : m 57 22 = nI 5) (h0 : m 57 23 = nv) (h1 : m 57 24 = mv) (hQ : Q (some (.int (x - mv))) (H (lgR m b [12]) ln N)) : WP xs (d + 4) 173 0 0 [.ref (89), .int (5), .int (x)] (H m ln N) Q := by
  refine wp_x mx_173 (L := [some (.ref (89)), some (.int (5)), some (.int (x))]) (Nat.le_of_ble_eq_true rfl) rfl ?_
  refine g_iload_n m173_0 rfl ?_
  refine h_if_neF (xi := 5) (zi := 0) m173_1 rfl rfl (by decide) ?_
  refine g_iload_n m173_17 rfl ?_
  refine g_iconst m173_18 ?_
  refine h_ic_neF (xi := 5) (zi := 3) m173_19 rfl rfl (by decide) ?_
  refine g_iload_n m173_36 rfl ?_
  refine g_bipush m173_37 ?_
  refine h_ic_neF (xi := 5) (zi := 6) m173_39 rfl rfl (by decide) ?_
  refine g_aload_n m173_60 rfl ?_
  refine g_iload_n m173_61 rfl ?_
  refine g_cs (args := [.int (5)]) (rest := [.ref (89)]) 0 (Or.inl rfl) m173_62 (Nat.le_of_ble_eq_true rfl) rfl rfl (Nat.le_of_ble_eq_true rfl) ?_
  refine c_above (k := 5) (by decide) ?_
  refine gwr ?_
  refine g_iload_n m173_65 rfl ?_
  refine h_cv (k := 57) (p := 89) (args := [.int (2), .int (x)]) (rest := []) m173_66 cn_173 (Nat.le_of_ble_eq_true rfl) rfl rfl rfl (t_57 _ _) (Nat.le_of_ble_eq_true rfl) ?_
  refine c_mv_5_2_2 (m := lgR m b []) (b := b + 0) (nv := nv) (mv := mv) (lgR_4 hb []) (by omega) ((lgR_o (by decide) []).trans hk) ((lgR_o (by decide) []).trans h0) ((lgR_o (by decide) []).trans h1) ?_
  rw [show lgR (lgR m b []) (b + 0) [12] = lgR m b [12] from lgR_a [] [12]]
  refine gwr ?_
  refine g_iret m173_69 rt_173 ?_
  exact hQ
set_option maxRecDepth 20000 in
set_option maxHeartbeats 40000000 in
theorem c_mv_5_1_2 {b : Nat} {x nv mv : Int32} (hb : m 57 21 = nI b) (hb40 : b + 4 ≤ 40) (hk : m 57 22 = nI 5) (h0 : m 57 23 = nv) (h1 : m 57 24 = mv) (hQ : Q (some (.int (((x + nv) * (2 : Int32)) - ((1 : Int32) - mv)))) (H (lgR m b [30, 11, 10, 12]) ln N)) : WP xs (d + 6) 174 0 0 [.ref (89), .int (2), .int (x)] (H m ln N) Q := by
  refine wp_x mx_174 (L := [some (.ref (89)), some (.int (2)), some (.int (x)), none]) (Nat.le_of_ble_eq_true rfl) rfl ?_
  refine g_iload_n m174_0 rfl ?_
  refine h_if_neF (xi := 2) (zi := 0) m174_1 rfl rfl (by decide) ?_
  refine g_iload_n m174_22 rfl ?_
  refine g_iconst m174_23 ?_
  refine h_ic_neT (xi := 2) (zi := 2) m174_24 rfl rfl (by decide) ?_
  refine g_aload_n m174_27 rfl ?_
  refine g_bipush m174_28 ?_
  refine h_cv (k := 57) (p := 89) (args := [.int (30)]) (rest := []) m174_30 cn_171 (Nat.le_of_ble_eq_true rfl) rfl rfl rfl (t_57 _ _) (Nat.le_of_ble_eq_true rfl) ?_
  refine c_ran (b := b) (c := 30) hb (by omega) ?_
  refine gwr0 ?_
  refine g_aload_n m174_33 rfl ?_
  refine g_iconst m174_34 ?_
  refine g_iload_n m174_35 rfl ?_
  refine h_cv (k := 57) (p := 89) (args := [.int (0), .int (x)]) (rest := []) m174_36 cn_174 (Nat.le_of_ble_eq_true rfl) rfl rfl rfl (t_57 _ _) (Nat.le_of_ble_eq_true rfl) ?_
  refine c_mv_5_1_0 (m := lgR m b [30]) (b := b + 1) (nv := nv) (mv := mv) (lgR_4 hb [30]) (by omega) ((lgR_o (by decide) [30]).trans hk) ((lgR_o (by decide) [30]).trans h0) ((lgR_o (by decide) [30]).trans h1) ?_
  rw [show lgR (lgR m b [30]) (b + 1) [11, 10] = lgR m b [30, 11, 10] from lgR_a [30] [11, 10]]
  refine gwr ?_
  refine g_istore_n (L2 := [some (.ref (89)), some (.int (2)), some (.int (x)), some (.int (((x + nv) * (2 : Int32))))]) m174_39 rfl rfl ?_
  refine g_iload_n m174_40 rfl ?_
  refine g_aload_n m174_41 rfl ?_
  refine g_aload_n m174_42 rfl ?_
  refine h_gfI (k := 57) (p := 89) m174_43 rfl (t_57 _ _) rfl ((lgR_o (by decide) [30, 11, 10]).trans hk) ?_
  refine g_iconst m174_46 ?_
  refine h_cv (k := 57) (p := 89) (args := [.int (5), .int (1)]) (rest := [.int (((x + nv) * (2 : Int32)))]) m174_47 cn_173 (Nat.le_of_ble_eq_true rfl) rfl rfl rfl (t_57 _ _) (Nat.le_of_ble_eq_true rfl) ?_
  refine c_mv_5_2_5 (m := lgR m b [30, 11, 10]) (b := b + 3) (nv := nv) (mv := mv) (lgR_4 hb [30, 11, 10]) (by omega) ((lgR_o (by decide) [30, 11, 10]).trans hk) ((lgR_o (by decide) [30, 11, 10]).trans h0) ((lgR_o (by decide) [30, 11, 10]).trans h1) ?_
  rw [show lgR (lgR m b [30, 11, 10]) (b + 3) [12] = lgR m b [30, 11, 10, 12] from lgR_a [30, 11, 10] [12]]
  refine gwr ?_
  refine g_isub m174_50 rfl ?_
  refine g_iret m174_51 rt_174 ?_
  exact hQ
set_option maxRecDepth 20000 in
set_option maxHeartbeats 40000000 in
theorem c_mv_5_1_5 {b : Nat} {x nv mv : Int32} (hb : m 57 21 = nI b) (hb40 : b + 5 ≤ 40) (hk : m 57 22 = nI 5) (h0 : m 57 23 = nv) (h1 : m 57 24 = mv) (hQ : Q (some (.int ((((x + (1 : Int32)) + nv) * (2 : Int32)) - ((1 : Int32) - mv)))) (H (lgR m b [60, 30, 11, 10, 12]) ln N)) : WP xs (d + 7) 174 0 0 [.ref (89), .int (5), .int (x)] (H m ln N) Q := by
  refine wp_x mx_174 (L := [some (.ref (89)), some (.int (5)), some (.int (x)), none]) (Nat.le_of_ble_eq_true rfl) rfl ?_
  refine g_iload_n m174_0 rfl ?_
  refine h_if_neF (xi := 5) (zi := 0) m174_1 rfl rfl (by decide) ?_
  refine g_iload_n m174_22 rfl ?_
  refine g_iconst m174_23 ?_
  refine h_ic_neF (xi := 5) (zi := 2) m174_24 rfl rfl (by decide) ?_
  refine g_iload_n m174_52 rfl ?_
  refine g_iconst m174_53 ?_
  refine h_ic_neT (xi := 5) (zi := 5) m174_54 rfl rfl (by decide) ?_
  refine g_aload_n m174_57 rfl ?_
  refine g_bipush m174_58 ?_
  refine h_cv (k := 57) (p := 89) (args := [.int (60)]) (rest := []) m174_60 cn_171 (Nat.le_of_ble_eq_true rfl) rfl rfl rfl (t_57 _ _) (Nat.le_of_ble_eq_true rfl) ?_
  refine c_ran (b := b) (c := 60) hb (by omega) ?_
  refine gwr0 ?_
  refine g_aload_n m174_63 rfl ?_
  refine g_iconst m174_64 ?_
  refine g_iload_n m174_65 rfl ?_
  refine g_iconst m174_66 ?_
  refine g_iadd m174_67 rfl ?_
  refine h_cv (k := 57) (p := 89) (args := [.int (2), .int ((x + (1 : Int32)))]) (rest := []) m174_68 cn_174 (Nat.le_of_ble_eq_true rfl) rfl rfl rfl (t_57 _ _) (Nat.le_of_ble_eq_true rfl) ?_
  refine c_mv_5_1_2 (m := lgR m b [60]) (b := b + 1) (nv := nv) (mv := mv) (lgR_4 hb [60]) (by omega) ((lgR_o (by decide) [60]).trans hk) ((lgR_o (by decide) [60]).trans h0) ((lgR_o (by decide) [60]).trans h1) ?_
  rw [show lgR (lgR m b [60]) (b + 1) [30, 11, 10, 12] = lgR m b [60, 30, 11, 10, 12] from lgR_a [60] [30, 11, 10, 12]]
  refine gwr ?_
  refine g_iret m174_71 rt_174 ?_
  exact hQ
set_option maxRecDepth 20000 in
set_option maxHeartbeats 40000000 in
theorem c_mv_5_3_0 {b : Nat} {x nv mv : Int32} (hb : m 57 21 = nI b) (hb40 : b + 7 ≤ 40) (hk : m 57 22 = nI 5) (h0 : m 57 23 = nv) (h1 : m 57 24 = mv) (hQ : Q (some (.int (((((x + (1 : Int32)) + nv) * (2 : Int32)) - ((1 : Int32) - mv)) ^^^ (x - mv)))) (H (lgR m b [13, 60, 30, 11, 10, 12, 12]) ln N)) : WP xs (d + 8) 175 0 0 [.ref (89), .int (0), .int (x)] (H m ln N) Q := by
  refine wp_x mx_175 (L := [some (.ref (89)), some (.int (0)), some (.int (x)), none]) (Nat.le_of_ble_eq_true rfl) rfl ?_
  refine g_iload_n m175_0 rfl ?_
  refine h_if_neT (xi := 0) (zi := 0) m175_1 rfl rfl (by decide) ?_
  refine g_aload_n m175_4 rfl ?_
  refine g_bipush m175_5 ?_
  refine h_cv (k := 57) (p := 89) (args := [.int (13)]) (rest := []) m175_7 cn_171 (Nat.le_of_ble_eq_true rfl) rfl rfl rfl (t_57 _ _) (Nat.le_of_ble_eq_true rfl) ?_
  refine c_ran (b := b) (c := 13) hb (by omega) ?_
  refine gwr0 ?_
  refine g_aload_n m175_10 rfl ?_
  refine g_aload_n m175_11 rfl ?_
  refine h_gfI (k := 57) (p := 89) m175_12 rfl (t_57 _ _) rfl ((lgR_o (by decide) [13]).trans hk) ?_
  refine g_iload_n m175_15 rfl ?_
  refine h_cv (k := 57) (p := 89) (args := [.int (5), .int (x)]) (rest := []) m175_16 cn_174 (Nat.le_of_ble_eq_true rfl) rfl rfl rfl (t_57 _ _) (Nat.le_of_ble_eq_true rfl) ?_
  refine c_mv_5_1_5 (m := lgR m b [13]) (b := b + 1) (nv := nv) (mv := mv) (lgR_4 hb [13]) (by omega) ((lgR_o (by decide) [13]).trans hk) ((lgR_o (by decide) [13]).trans h0) ((lgR_o (by decide) [13]).trans h1) ?_
  rw [show lgR (lgR m b [13]) (b + 1) [60, 30, 11, 10, 12] = lgR m b [13, 60, 30, 11, 10, 12] from lgR_a [13] [60, 30, 11, 10, 12]]
  refine gwr ?_
  refine g_istore_n (L2 := [some (.ref (89)), some (.int (0)), some (.int (x)), some (.int (((((x + (1 : Int32)) + nv) * (2 : Int32)) - ((1 : Int32) - mv))))]) m175_19 rfl rfl ?_
  refine g_iload_n m175_20 rfl ?_
  refine g_aload_n m175_21 rfl ?_
  refine g_aload_n m175_22 rfl ?_
  refine h_gfI (k := 57) (p := 89) m175_23 rfl (t_57 _ _) rfl ((lgR_o (by decide) [13, 60, 30, 11, 10, 12]).trans hk) ?_
  refine g_iload_n m175_26 rfl ?_
  refine h_cv (k := 57) (p := 89) (args := [.int (5), .int (x)]) (rest := [.int (((((x + (1 : Int32)) + nv) * (2 : Int32)) - ((1 : Int32) - mv)))]) m175_27 cn_173 (Nat.le_of_ble_eq_true rfl) rfl rfl rfl (t_57 _ _) (Nat.le_of_ble_eq_true rfl) ?_
  refine c_mv_5_2_5 (m := lgR m b [13, 60, 30, 11, 10, 12]) (b := b + 6) (nv := nv) (mv := mv) (lgR_4 hb [13, 60, 30, 11, 10, 12]) (by omega) ((lgR_o (by decide) [13, 60, 30, 11, 10, 12]).trans hk) ((lgR_o (by decide) [13, 60, 30, 11, 10, 12]).trans h0) ((lgR_o (by decide) [13, 60, 30, 11, 10, 12]).trans h1) ?_
  rw [show lgR (lgR m b [13, 60, 30, 11, 10, 12]) (b + 6) [12] = lgR m b [13, 60, 30, 11, 10, 12, 12] from lgR_a [13, 60, 30, 11, 10, 12] [12]]
  refine gwr ?_
  refine g_ixor m175_30 rfl ?_
  refine g_iret m175_31 rt_175 ?_
  exact hQ
set_option maxRecDepth 20000 in
set_option maxHeartbeats 40000000 in
theorem c_mv_5_3_2 {b : Nat} {x nv mv : Int32} (hb : m 57 21 = nI b) (hb40 : b + 7 ≤ 40) (hk : m 57 22 = nI 5) (h0 : m 57 23 = nv) (h1 : m 57 24 = mv) (hQ : Q (some (.int (((((x + (1 : Int32)) + nv) * (2 : Int32)) - ((1 : Int32) - mv)) ^^^ (x - mv)))) (H (lgR m b [13, 60, 30, 11, 10, 12, 12]) ln N)) : WP xs (d + 9) 175 0 0 [.ref (89), .int (2), .int (x)] (H m ln N) Q := by
  refine wp_x mx_175 (L := [some (.ref (89)), some (.int (2)), some (.int (x)), none]) (Nat.le_of_ble_eq_true rfl) rfl ?_
  refine g_iload_n m175_0 rfl ?_
  refine h_if_neF (xi := 2) (zi := 0) m175_1 rfl rfl (by decide) ?_
  refine g_iload_n m175_32 rfl ?_
  refine g_iconst m175_33 ?_
  refine h_ic_neF (xi := 2) (zi := 4) m175_34 rfl rfl (by decide) ?_
  refine g_iload_n m175_62 rfl ?_
  refine g_bipush m175_63 ?_
  refine h_ic_neF (xi := 2) (zi := 6) m175_65 rfl rfl (by decide) ?_
  refine g_aload_n m175_93 rfl ?_
  refine g_iload_n m175_94 rfl ?_
  refine g_cs (args := [.int (2)]) (rest := [.ref (89)]) 0 (Or.inl rfl) m175_95 (Nat.le_of_ble_eq_true rfl) rfl rfl (Nat.le_of_ble_eq_true rfl) ?_
  refine c_above (k := 2) (by decide) ?_
  refine gwr ?_
  refine g_iload_n m175_98 rfl ?_
  refine h_cv (k := 57) (p := 89) (args := [.int (0), .int (x)]) (rest := []) m175_99 cn_175 (Nat.le_of_ble_eq_true rfl) rfl rfl rfl (t_57 _ _) (Nat.le_of_ble_eq_true rfl) ?_
  refine c_mv_5_3_0 (m := lgR m b []) (b := b + 0) (nv := nv) (mv := mv) (lgR_4 hb []) (by omega) ((lgR_o (by decide) []).trans hk) ((lgR_o (by decide) []).trans h0) ((lgR_o (by decide) []).trans h1) ?_
  rw [show lgR (lgR m b []) (b + 0) [13, 60, 30, 11, 10, 12, 12] = lgR m b [13, 60, 30, 11, 10, 12, 12] from lgR_a [] [13, 60, 30, 11, 10, 12, 12]]
  refine gwr ?_
  refine g_iret m175_102 rt_175 ?_
  exact hQ
set_option maxRecDepth 20000 in
set_option maxHeartbeats 40000000 in
theorem c_mv_5_3_5 {b : Nat} {x nv mv : Int32} (hb : m 57 21 = nI b) (hb40 : b + 7 ≤ 40) (hk : m 57 22 = nI 5) (h0 : m 57 23 = nv) (h1 : m 57 24 = mv) (hQ : Q (some (.int (((((x + (1 : Int32)) + nv) * (2 : Int32)) - ((1 : Int32) - mv)) ^^^ (x - mv)))) (H (lgR m b [13, 60, 30, 11, 10, 12, 12]) ln N)) : WP xs (d + 10) 175 0 0 [.ref (89), .int (5), .int (x)] (H m ln N) Q := by
  refine wp_x mx_175 (L := [some (.ref (89)), some (.int (5)), some (.int (x)), none]) (Nat.le_of_ble_eq_true rfl) rfl ?_
  refine g_iload_n m175_0 rfl ?_
  refine h_if_neF (xi := 5) (zi := 0) m175_1 rfl rfl (by decide) ?_
  refine g_iload_n m175_32 rfl ?_
  refine g_iconst m175_33 ?_
  refine h_ic_neF (xi := 5) (zi := 4) m175_34 rfl rfl (by decide) ?_
  refine g_iload_n m175_62 rfl ?_
  refine g_bipush m175_63 ?_
  refine h_ic_neF (xi := 5) (zi := 6) m175_65 rfl rfl (by decide) ?_
  refine g_aload_n m175_93 rfl ?_
  refine g_iload_n m175_94 rfl ?_
  refine g_cs (args := [.int (5)]) (rest := [.ref (89)]) 0 (Or.inl rfl) m175_95 (Nat.le_of_ble_eq_true rfl) rfl rfl (Nat.le_of_ble_eq_true rfl) ?_
  refine c_above (k := 5) (by decide) ?_
  refine gwr ?_
  refine g_iload_n m175_98 rfl ?_
  refine h_cv (k := 57) (p := 89) (args := [.int (2), .int (x)]) (rest := []) m175_99 cn_175 (Nat.le_of_ble_eq_true rfl) rfl rfl rfl (t_57 _ _) (Nat.le_of_ble_eq_true rfl) ?_
  refine c_mv_5_3_2 (m := lgR m b []) (b := b + 0) (nv := nv) (mv := mv) (lgR_4 hb []) (by omega) ((lgR_o (by decide) []).trans hk) ((lgR_o (by decide) []).trans h0) ((lgR_o (by decide) []).trans h1) ?_
  rw [show lgR (lgR m b []) (b + 0) [13, 60, 30, 11, 10, 12, 12] = lgR m b [13, 60, 30, 11, 10, 12, 12] from lgR_a [] [13, 60, 30, 11, 10, 12, 12]]
  refine gwr ?_
  refine g_iret m175_102 rt_175 ?_
  exact hQ
set_option maxRecDepth 20000 in
set_option maxHeartbeats 40000000 in
theorem c_mv_6_0_0 {b : Nat} {x nv mv : Int32} (hb : m 57 21 = nI b) (hb40 : b + 1 ≤ 40) (hk : m 57 22 = nI 6) (h0 : m 57 23 = nv) (h1 : m 57 24 = mv) (hQ : Q (some (.int (x + nv))) (H (lgR m b [10]) ln N)) : WP xs (d + 2) 172 0 0 [.ref (89), .int (0), .int (x)] (H m ln N) Q := by
  refine wp_x mx_172 (L := [some (.ref (89)), some (.int (0)), some (.int (x))]) (Nat.le_of_ble_eq_true rfl) rfl ?_
  refine g_iload_n m172_0 rfl ?_
  refine h_if_neT (xi := 0) (zi := 0) m172_1 rfl rfl (by decide) ?_
  refine g_aload_n m172_4 rfl ?_
  refine g_bipush m172_5 ?_
  refine h_cv (k := 57) (p := 89) (args := [.int (10)]) (rest := []) m172_7 cn_171 (Nat.le_of_ble_eq_true rfl) rfl rfl rfl (t_57 _ _) (Nat.le_of_ble_eq_true rfl) ?_
  refine c_ran (b := b) (c := 10) hb (by omega) ?_
  refine gwr0 ?_
  refine g_iload_n m172_10 rfl ?_
  refine g_aload_n m172_11 rfl ?_
  refine h_gfI (k := 57) (p := 89) m172_12 rfl (t_57 _ _) rfl ((lgR_o (by decide) [10]).trans h0) ?_
  refine g_iadd m172_15 rfl ?_
  refine g_iret m172_16 rt_172 ?_
  exact hQ
set_option maxRecDepth 20000 in
set_option maxHeartbeats 40000000 in
theorem c_mv_6_0_3 {b : Nat} {x nv mv : Int32} (hb : m 57 21 = nI b) (hb40 : b + 1 ≤ 40) (hk : m 57 22 = nI 6) (h0 : m 57 23 = nv) (h1 : m 57 24 = mv) (hQ : Q (some (.int (x + nv))) (H (lgR m b [10]) ln N)) : WP xs (d + 3) 172 0 0 [.ref (89), .int (3), .int (x)] (H m ln N) Q := by
  refine wp_x mx_172 (L := [some (.ref (89)), some (.int (3)), some (.int (x))]) (Nat.le_of_ble_eq_true rfl) rfl ?_
  refine g_iload_n m172_0 rfl ?_
  refine h_if_neF (xi := 3) (zi := 0) m172_1 rfl rfl (by decide) ?_
  refine g_iload_n m172_17 rfl ?_
  refine g_iconst m172_18 ?_
  refine h_ic_neF (xi := 3) (zi := 1) m172_19 rfl rfl (by decide) ?_
  refine g_aload_n m172_37 rfl ?_
  refine g_iload_n m172_38 rfl ?_
  refine g_cs (args := [.int (3)]) (rest := [.ref (89)]) 0 (Or.inl rfl) m172_39 (Nat.le_of_ble_eq_true rfl) rfl rfl (Nat.le_of_ble_eq_true rfl) ?_
  refine c_above (k := 3) (by decide) ?_
  refine gwr ?_
  refine g_iload_n m172_42 rfl ?_
  refine h_cv (k := 57) (p := 89) (args := [.int (0), .int (x)]) (rest := []) m172_43 cn_172 (Nat.le_of_ble_eq_true rfl) rfl rfl rfl (t_57 _ _) (Nat.le_of_ble_eq_true rfl) ?_
  refine c_mv_6_0_0 (m := lgR m b []) (b := b + 0) (nv := nv) (mv := mv) (lgR_4 hb []) (by omega) ((lgR_o (by decide) []).trans hk) ((lgR_o (by decide) []).trans h0) ((lgR_o (by decide) []).trans h1) ?_
  rw [show lgR (lgR m b []) (b + 0) [10] = lgR m b [10] from lgR_a [] [10]]
  refine gwr ?_
  refine g_iret m172_46 rt_172 ?_
  exact hQ
set_option maxRecDepth 20000 in
set_option maxHeartbeats 40000000 in
theorem c_mv_6_0_6 {b : Nat} {x nv mv : Int32} (hb : m 57 21 = nI b) (hb40 : b + 1 ≤ 40) (hk : m 57 22 = nI 6) (h0 : m 57 23 = nv) (h1 : m 57 24 = mv) (hQ : Q (some (.int (x + nv))) (H (lgR m b [10]) ln N)) : WP xs (d + 4) 172 0 0 [.ref (89), .int (6), .int (x)] (H m ln N) Q := by
  refine wp_x mx_172 (L := [some (.ref (89)), some (.int (6)), some (.int (x))]) (Nat.le_of_ble_eq_true rfl) rfl ?_
  refine g_iload_n m172_0 rfl ?_
  refine h_if_neF (xi := 6) (zi := 0) m172_1 rfl rfl (by decide) ?_
  refine g_iload_n m172_17 rfl ?_
  refine g_iconst m172_18 ?_
  refine h_ic_neF (xi := 6) (zi := 1) m172_19 rfl rfl (by decide) ?_
  refine g_aload_n m172_37 rfl ?_
  refine g_iload_n m172_38 rfl ?_
  refine g_cs (args := [.int (6)]) (rest := [.ref (89)]) 0 (Or.inl rfl) m172_39 (Nat.le_of_ble_eq_true rfl) rfl rfl (Nat.le_of_ble_eq_true rfl) ?_
  refine c_above (k := 6) (by decide) ?_
  refine gwr ?_
  refine g_iload_n m172_42 rfl ?_
  refine h_cv (k := 57) (p := 89) (args := [.int (3), .int (x)]) (rest := []) m172_43 cn_172 (Nat.le_of_ble_eq_true rfl) rfl rfl rfl (t_57 _ _) (Nat.le_of_ble_eq_true rfl) ?_
  refine c_mv_6_0_3 (m := lgR m b []) (b := b + 0) (nv := nv) (mv := mv) (lgR_4 hb []) (by omega) ((lgR_o (by decide) []).trans hk) ((lgR_o (by decide) []).trans h0) ((lgR_o (by decide) []).trans h1) ?_
  rw [show lgR (lgR m b []) (b + 0) [10] = lgR m b [10] from lgR_a [] [10]]
  refine gwr ?_
  refine g_iret m172_46 rt_172 ?_
  exact hQ
set_option maxRecDepth 20000 in
set_option maxHeartbeats 40000000 in
theorem c_mv_6_1_0 {b : Nat} {x nv mv : Int32} (hb : m 57 21 = nI b) (hb40 : b + 2 ≤ 40) (hk : m 57 22 = nI 6) (h0 : m 57 23 = nv) (h1 : m 57 24 = mv) (hQ : Q (some (.int ((x + nv) * (2 : Int32)))) (H (lgR m b [11, 10]) ln N)) : WP xs (d + 5) 174 0 0 [.ref (89), .int (0), .int (x)] (H m ln N) Q := by
  refine wp_x mx_174 (L := [some (.ref (89)), some (.int (0)), some (.int (x)), none]) (Nat.le_of_ble_eq_true rfl) rfl ?_
  refine g_iload_n m174_0 rfl ?_
  refine h_if_neT (xi := 0) (zi := 0) m174_1 rfl rfl (by decide) ?_
  refine g_aload_n m174_4 rfl ?_
  refine g_bipush m174_5 ?_
  refine h_cv (k := 57) (p := 89) (args := [.int (11)]) (rest := []) m174_7 cn_171 (Nat.le_of_ble_eq_true rfl) rfl rfl rfl (t_57 _ _) (Nat.le_of_ble_eq_true rfl) ?_
  refine c_ran (b := b) (c := 11) hb (by omega) ?_
  refine gwr0 ?_
  refine g_aload_n m174_10 rfl ?_
  refine g_aload_n m174_11 rfl ?_
  refine h_gfI (k := 57) (p := 89) m174_12 rfl (t_57 _ _) rfl ((lgR_o (by decide) [11]).trans hk) ?_
  refine g_iload_n m174_15 rfl ?_
  refine h_cv (k := 57) (p := 89) (args := [.int (6), .int (x)]) (rest := []) m174_16 cn_172 (Nat.le_of_ble_eq_true rfl) rfl rfl rfl (t_57 _ _) (Nat.le_of_ble_eq_true rfl) ?_
  refine c_mv_6_0_6 (m := lgR m b [11]) (b := b + 1) (nv := nv) (mv := mv) (lgR_4 hb [11]) (by omega) ((lgR_o (by decide) [11]).trans hk) ((lgR_o (by decide) [11]).trans h0) ((lgR_o (by decide) [11]).trans h1) ?_
  rw [show lgR (lgR m b [11]) (b + 1) [10] = lgR m b [11, 10] from lgR_a [11] [10]]
  refine gwr ?_
  refine g_iconst m174_19 ?_
  refine g_imul m174_20 rfl ?_
  refine g_iret m174_21 rt_174 ?_
  exact hQ
set_option maxRecDepth 20000 in
set_option maxHeartbeats 40000000 in
theorem c_mv_6_1_3 {b : Nat} {x nv mv : Int32} (hb : m 57 21 = nI b) (hb40 : b + 2 ≤ 40) (hk : m 57 22 = nI 6) (h0 : m 57 23 = nv) (h1 : m 57 24 = mv) (hQ : Q (some (.int ((x + nv) * (2 : Int32)))) (H (lgR m b [11, 10]) ln N)) : WP xs (d + 6) 174 0 0 [.ref (89), .int (3), .int (x)] (H m ln N) Q := by
  refine wp_x mx_174 (L := [some (.ref (89)), some (.int (3)), some (.int (x)), none]) (Nat.le_of_ble_eq_true rfl) rfl ?_
  refine g_iload_n m174_0 rfl ?_
  refine h_if_neF (xi := 3) (zi := 0) m174_1 rfl rfl (by decide) ?_
  refine g_iload_n m174_22 rfl ?_
  refine g_iconst m174_23 ?_
  refine h_ic_neF (xi := 3) (zi := 2) m174_24 rfl rfl (by decide) ?_
  refine g_iload_n m174_52 rfl ?_
  refine g_iconst m174_53 ?_
  refine h_ic_neF (xi := 3) (zi := 5) m174_54 rfl rfl (by decide) ?_
  refine g_aload_n m174_72 rfl ?_
  refine g_iload_n m174_73 rfl ?_
  refine g_cs (args := [.int (3)]) (rest := [.ref (89)]) 0 (Or.inl rfl) m174_74 (Nat.le_of_ble_eq_true rfl) rfl rfl (Nat.le_of_ble_eq_true rfl) ?_
  refine c_above (k := 3) (by decide) ?_
  refine gwr ?_
  refine g_iload_n m174_77 rfl ?_
  refine h_cv (k := 57) (p := 89) (args := [.int (0), .int (x)]) (rest := []) m174_78 cn_174 (Nat.le_of_ble_eq_true rfl) rfl rfl rfl (t_57 _ _) (Nat.le_of_ble_eq_true rfl) ?_
  refine c_mv_6_1_0 (m := lgR m b []) (b := b + 0) (nv := nv) (mv := mv) (lgR_4 hb []) (by omega) ((lgR_o (by decide) []).trans hk) ((lgR_o (by decide) []).trans h0) ((lgR_o (by decide) []).trans h1) ?_
  rw [show lgR (lgR m b []) (b + 0) [11, 10] = lgR m b [11, 10] from lgR_a [] [11, 10]]
  refine gwr ?_
  refine g_iret m174_81 rt_174 ?_
  exact hQ
set_option maxRecDepth 20000 in
set_option maxHeartbeats 40000000 in
theorem c_mv_6_1_6 {b : Nat} {x nv mv : Int32} (hb : m 57 21 = nI b) (hb40 : b + 2 ≤ 40) (hk : m 57 22 = nI 6) (h0 : m 57 23 = nv) (h1 : m 57 24 = mv) (hQ : Q (some (.int ((x + nv) * (2 : Int32)))) (H (lgR m b [11, 10]) ln N)) : WP xs (d + 7) 174 0 0 [.ref (89), .int (6), .int (x)] (H m ln N) Q := by
  refine wp_x mx_174 (L := [some (.ref (89)), some (.int (6)), some (.int (x)), none]) (Nat.le_of_ble_eq_true rfl) rfl ?_
  refine g_iload_n m174_0 rfl ?_
  refine h_if_neF (xi := 6) (zi := 0) m174_1 rfl rfl (by decide) ?_
  refine g_iload_n m174_22 rfl ?_
  refine g_iconst m174_23 ?_
  refine h_ic_neF (xi := 6) (zi := 2) m174_24 rfl rfl (by decide) ?_
  refine g_iload_n m174_52 rfl ?_
  refine g_iconst m174_53 ?_
  refine h_ic_neF (xi := 6) (zi := 5) m174_54 rfl rfl (by decide) ?_
  refine g_aload_n m174_72 rfl ?_
  refine g_iload_n m174_73 rfl ?_
  refine g_cs (args := [.int (6)]) (rest := [.ref (89)]) 0 (Or.inl rfl) m174_74 (Nat.le_of_ble_eq_true rfl) rfl rfl (Nat.le_of_ble_eq_true rfl) ?_
  refine c_above (k := 6) (by decide) ?_
  refine gwr ?_
  refine g_iload_n m174_77 rfl ?_
  refine h_cv (k := 57) (p := 89) (args := [.int (3), .int (x)]) (rest := []) m174_78 cn_174 (Nat.le_of_ble_eq_true rfl) rfl rfl rfl (t_57 _ _) (Nat.le_of_ble_eq_true rfl) ?_
  refine c_mv_6_1_3 (m := lgR m b []) (b := b + 0) (nv := nv) (mv := mv) (lgR_4 hb []) (by omega) ((lgR_o (by decide) []).trans hk) ((lgR_o (by decide) []).trans h0) ((lgR_o (by decide) []).trans h1) ?_
  rw [show lgR (lgR m b []) (b + 0) [11, 10] = lgR m b [11, 10] from lgR_a [] [11, 10]]
  refine gwr ?_
  refine g_iret m174_81 rt_174 ?_
  exact hQ
set_option maxRecDepth 20000 in
set_option maxHeartbeats 40000000 in
theorem c_mv_6_2_0 {b : Nat} {x nv mv : Int32} (hb : m 57 21 = nI b) (hb40 : b + 1 ≤ 40) (hk : m 57 22 = nI 6) (h0 : m 57 23 = nv) (h1 : m 57 24 = mv) (hQ : Q (some (.int (x - mv))) (H (lgR m b [12]) ln N)) : WP xs (d + 2) 173 0 0 [.ref (89), .int (0), .int (x)] (H m ln N) Q := by
  refine wp_x mx_173 (L := [some (.ref (89)), some (.int (0)), some (.int (x))]) (Nat.le_of_ble_eq_true rfl) rfl ?_
  refine g_iload_n m173_0 rfl ?_
  refine h_if_neT (xi := 0) (zi := 0) m173_1 rfl rfl (by decide) ?_
  refine g_aload_n m173_4 rfl ?_
  refine g_bipush m173_5 ?_
  refine h_cv (k := 57) (p := 89) (args := [.int (12)]) (rest := []) m173_7 cn_171 (Nat.le_of_ble_eq_true rfl) rfl rfl rfl (t_57 _ _) (Nat.le_of_ble_eq_true rfl) ?_
  refine c_ran (b := b) (c := 12) hb (by omega) ?_
  refine gwr0 ?_
  refine g_iload_n m173_10 rfl ?_
  refine g_aload_n m173_11 rfl ?_
  refine h_gfI (k := 57) (p := 89) m173_12 rfl (t_57 _ _) rfl ((lgR_o (by decide) [12]).trans h1) ?_
  refine g_isub m173_15 rfl ?_
  refine g_iret m173_16 rt_173 ?_
  exact hQ
set_option maxRecDepth 20000 in
set_option maxHeartbeats 40000000 in
theorem c_mv_6_2_3 {b : Nat} {x nv mv : Int32} (hb : m 57 21 = nI b) (hb40 : b + 2 ≤ 40) (hk : m 57 22 = nI 6) (h0 : m 57 23 = nv) (h1 : m 57 24 = mv) (hQ : Q (some (.int (-(x - mv)))) (H (lgR m b [40, 12]) ln N)) : WP xs (d + 3) 173 0 0 [.ref (89), .int (3), .int (x)] (H m ln N) Q := by
  refine wp_x mx_173 (L := [some (.ref (89)), some (.int (3)), some (.int (x))]) (Nat.le_of_ble_eq_true rfl) rfl ?_
  refine g_iload_n m173_0 rfl ?_
  refine h_if_neF (xi := 3) (zi := 0) m173_1 rfl rfl (by decide) ?_
  refine g_iload_n m173_17 rfl ?_
  refine g_iconst m173_18 ?_
  refine h_ic_neT (xi := 3) (zi := 3) m173_19 rfl rfl (by decide) ?_
  refine g_aload_n m173_22 rfl ?_
  refine g_bipush m173_23 ?_
  refine h_cv (k := 57) (p := 89) (args := [.int (40)]) (rest := []) m173_25 cn_171 (Nat.le_of_ble_eq_true rfl) rfl rfl rfl (t_57 _ _) (Nat.le_of_ble_eq_true rfl) ?_
  refine c_ran (b := b) (c := 40) hb (by omega) ?_
  refine gwr0 ?_
  refine g_aload_n m173_28 rfl ?_
  refine g_iconst m173_29 ?_
  refine g_iload_n m173_30 rfl ?_
  refine h_cv (k := 57) (p := 89) (args := [.int (0), .int (x)]) (rest := []) m173_31 cn_173 (Nat.le_of_ble_eq_true rfl) rfl rfl rfl (t_57 _ _) (Nat.le_of_ble_eq_true rfl) ?_
  refine c_mv_6_2_0 (m := lgR m b [40]) (b := b + 1) (nv := nv) (mv := mv) (lgR_4 hb [40]) (by omega) ((lgR_o (by decide) [40]).trans hk) ((lgR_o (by decide) [40]).trans h0) ((lgR_o (by decide) [40]).trans h1) ?_
  rw [show lgR (lgR m b [40]) (b + 1) [12] = lgR m b [40, 12] from lgR_a [40] [12]]
  refine gwr ?_
  refine g_ineg m173_34 rfl ?_
  refine g_iret m173_35 rt_173 ?_
  exact hQ
set_option maxRecDepth 20000 in
set_option maxHeartbeats 40000000 in
theorem c_mv_6_2_6 {b : Nat} {x nv mv : Int32} (hb : m 57 21 = nI b) (hb40 : b + 3 ≤ 40) (hk : m 57 22 = nI 6) (h0 : m 57 23 = nv) (h1 : m 57 24 = mv) (hQ : Q (some (.int ((-(x - mv)) ^^^ nv))) (H (lgR m b [70, 40, 12]) ln N)) : WP xs (d + 4) 173 0 0 [.ref (89), .int (6), .int (x)] (H m ln N) Q := by
  refine wp_x mx_173 (L := [some (.ref (89)), some (.int (6)), some (.int (x))]) (Nat.le_of_ble_eq_true rfl) rfl ?_
  refine g_iload_n m173_0 rfl ?_
  refine h_if_neF (xi := 6) (zi := 0) m173_1 rfl rfl (by decide) ?_
  refine g_iload_n m173_17 rfl ?_
  refine g_iconst m173_18 ?_
  refine h_ic_neF (xi := 6) (zi := 3) m173_19 rfl rfl (by decide) ?_
  refine g_iload_n m173_36 rfl ?_
  refine g_bipush m173_37 ?_
  refine h_ic_neT (xi := 6) (zi := 6) m173_39 rfl rfl (by decide) ?_
  refine g_aload_n m173_42 rfl ?_
  refine g_bipush m173_43 ?_
  refine h_cv (k := 57) (p := 89) (args := [.int (70)]) (rest := []) m173_45 cn_171 (Nat.le_of_ble_eq_true rfl) rfl rfl rfl (t_57 _ _) (Nat.le_of_ble_eq_true rfl) ?_
  refine c_ran (b := b) (c := 70) hb (by omega) ?_
  refine gwr0 ?_
  refine g_aload_n m173_48 rfl ?_
  refine g_iconst m173_49 ?_
  refine g_iload_n m173_50 rfl ?_
  refine h_cv (k := 57) (p := 89) (args := [.int (3), .int (x)]) (rest := []) m173_51 cn_173 (Nat.le_of_ble_eq_true rfl) rfl rfl rfl (t_57 _ _) (Nat.le_of_ble_eq_true rfl) ?_
  refine c_mv_6_2_3 (m := lgR m b [70]) (b := b + 1) (nv := nv) (mv := mv) (lgR_4 hb [70]) (by omega) ((lgR_o (by decide) [70]).trans hk) ((lgR_o (by decide) [70]).trans h0) ((lgR_o (by decide) [70]).trans h1) ?_
  rw [show lgR (lgR m b [70]) (b + 1) [40, 12] = lgR m b [70, 40, 12] from lgR_a [70] [40, 12]]
  refine gwr ?_
  refine g_aload_n m173_54 rfl ?_
  refine h_gfI (k := 57) (p := 89) m173_55 rfl (t_57 _ _) rfl ((lgR_o (by decide) [70, 40, 12]).trans h0) ?_
  refine g_ixor m173_58 rfl ?_
  refine g_iret m173_59 rt_173 ?_
  exact hQ
set_option maxRecDepth 20000 in
set_option maxHeartbeats 40000000 in
theorem c_mv_6_3_0 {b : Nat} {x nv mv : Int32} (hb : m 57 21 = nI b) (hb40 : b + 6 ≤ 40) (hk : m 57 22 = nI 6) (h0 : m 57 23 = nv) (h1 : m 57 24 = mv) (hQ : Q (some (.int (((x + nv) * (2 : Int32)) ^^^ ((-(x - mv)) ^^^ nv)))) (H (lgR m b [13, 11, 10, 70, 40, 12]) ln N)) : WP xs (d + 8) 175 0 0 [.ref (89), .int (0), .int (x)] (H m ln N) Q := by
  refine wp_x mx_175 (L := [some (.ref (89)), some (.int (0)), some (.int (x)), none]) (Nat.le_of_ble_eq_true rfl) rfl ?_
  refine g_iload_n m175_0 rfl ?_
  refine h_if_neT (xi := 0) (zi := 0) m175_1 rfl rfl (by decide) ?_
  refine g_aload_n m175_4 rfl ?_
  refine g_bipush m175_5 ?_
  refine h_cv (k := 57) (p := 89) (args := [.int (13)]) (rest := []) m175_7 cn_171 (Nat.le_of_ble_eq_true rfl) rfl rfl rfl (t_57 _ _) (Nat.le_of_ble_eq_true rfl) ?_
  refine c_ran (b := b) (c := 13) hb (by omega) ?_
  refine gwr0 ?_
  refine g_aload_n m175_10 rfl ?_
  refine g_aload_n m175_11 rfl ?_
  refine h_gfI (k := 57) (p := 89) m175_12 rfl (t_57 _ _) rfl ((lgR_o (by decide) [13]).trans hk) ?_
  refine g_iload_n m175_15 rfl ?_
  refine h_cv (k := 57) (p := 89) (args := [.int (6), .int (x)]) (rest := []) m175_16 cn_174 (Nat.le_of_ble_eq_true rfl) rfl rfl rfl (t_57 _ _) (Nat.le_of_ble_eq_true rfl) ?_
  refine c_mv_6_1_6 (m := lgR m b [13]) (b := b + 1) (nv := nv) (mv := mv) (lgR_4 hb [13]) (by omega) ((lgR_o (by decide) [13]).trans hk) ((lgR_o (by decide) [13]).trans h0) ((lgR_o (by decide) [13]).trans h1) ?_
  rw [show lgR (lgR m b [13]) (b + 1) [11, 10] = lgR m b [13, 11, 10] from lgR_a [13] [11, 10]]
  refine gwr ?_
  refine g_istore_n (L2 := [some (.ref (89)), some (.int (0)), some (.int (x)), some (.int (((x + nv) * (2 : Int32))))]) m175_19 rfl rfl ?_
  refine g_iload_n m175_20 rfl ?_
  refine g_aload_n m175_21 rfl ?_
  refine g_aload_n m175_22 rfl ?_
  refine h_gfI (k := 57) (p := 89) m175_23 rfl (t_57 _ _) rfl ((lgR_o (by decide) [13, 11, 10]).trans hk) ?_
  refine g_iload_n m175_26 rfl ?_
  refine h_cv (k := 57) (p := 89) (args := [.int (6), .int (x)]) (rest := [.int (((x + nv) * (2 : Int32)))]) m175_27 cn_173 (Nat.le_of_ble_eq_true rfl) rfl rfl rfl (t_57 _ _) (Nat.le_of_ble_eq_true rfl) ?_
  refine c_mv_6_2_6 (m := lgR m b [13, 11, 10]) (b := b + 3) (nv := nv) (mv := mv) (lgR_4 hb [13, 11, 10]) (by omega) ((lgR_o (by decide) [13, 11, 10]).trans hk) ((lgR_o (by decide) [13, 11, 10]).trans h0) ((lgR_o (by decide) [13, 11, 10]).trans h1) ?_
  rw [show lgR (lgR m b [13, 11, 10]) (b + 3) [70, 40, 12] = lgR m b [13, 11, 10, 70, 40, 12] from lgR_a [13, 11, 10] [70, 40, 12]]
  refine gwr ?_
  refine g_ixor m175_30 rfl ?_
  refine g_iret m175_31 rt_175 ?_
  exact hQ
set_option maxRecDepth 20000 in
set_option maxHeartbeats 40000000 in
theorem c_mv_6_3_3 {b : Nat} {x nv mv : Int32} (hb : m 57 21 = nI b) (hb40 : b + 6 ≤ 40) (hk : m 57 22 = nI 6) (h0 : m 57 23 = nv) (h1 : m 57 24 = mv) (hQ : Q (some (.int (((x + nv) * (2 : Int32)) ^^^ ((-(x - mv)) ^^^ nv)))) (H (lgR m b [13, 11, 10, 70, 40, 12]) ln N)) : WP xs (d + 9) 175 0 0 [.ref (89), .int (3), .int (x)] (H m ln N) Q := by
  refine wp_x mx_175 (L := [some (.ref (89)), some (.int (3)), some (.int (x)), none]) (Nat.le_of_ble_eq_true rfl) rfl ?_
  refine g_iload_n m175_0 rfl ?_
  refine h_if_neF (xi := 3) (zi := 0) m175_1 rfl rfl (by decide) ?_
  refine g_iload_n m175_32 rfl ?_
  refine g_iconst m175_33 ?_
  refine h_ic_neF (xi := 3) (zi := 4) m175_34 rfl rfl (by decide) ?_
  refine g_iload_n m175_62 rfl ?_
  refine g_bipush m175_63 ?_
  refine h_ic_neF (xi := 3) (zi := 6) m175_65 rfl rfl (by decide) ?_
  refine g_aload_n m175_93 rfl ?_
  refine g_iload_n m175_94 rfl ?_
  refine g_cs (args := [.int (3)]) (rest := [.ref (89)]) 0 (Or.inl rfl) m175_95 (Nat.le_of_ble_eq_true rfl) rfl rfl (Nat.le_of_ble_eq_true rfl) ?_
  refine c_above (k := 3) (by decide) ?_
  refine gwr ?_
  refine g_iload_n m175_98 rfl ?_
  refine h_cv (k := 57) (p := 89) (args := [.int (0), .int (x)]) (rest := []) m175_99 cn_175 (Nat.le_of_ble_eq_true rfl) rfl rfl rfl (t_57 _ _) (Nat.le_of_ble_eq_true rfl) ?_
  refine c_mv_6_3_0 (m := lgR m b []) (b := b + 0) (nv := nv) (mv := mv) (lgR_4 hb []) (by omega) ((lgR_o (by decide) []).trans hk) ((lgR_o (by decide) []).trans h0) ((lgR_o (by decide) []).trans h1) ?_
  rw [show lgR (lgR m b []) (b + 0) [13, 11, 10, 70, 40, 12] = lgR m b [13, 11, 10, 70, 40, 12] from lgR_a [] [13, 11, 10, 70, 40, 12]]
  refine gwr ?_
  refine g_iret m175_102 rt_175 ?_
  exact hQ
set_option maxRecDepth 20000 in
set_option maxHeartbeats 40000000 in
theorem c_mv_6_3_6 {b : Nat} {x nv mv : Int32} (hb : m 57 21 = nI b) (hb40 : b + 9 ≤ 40) (hk : m 57 22 = nI 6) (h0 : m 57 23 = nv) (h1 : m 57 24 = mv) (hQ : Q (some (.int (((x + nv) * (2 : Int32)) - (((x + nv) * (2 : Int32)) ^^^ ((-(x - mv)) ^^^ nv))))) (H (lgR m b [71, 11, 10, 13, 11, 10, 70, 40, 12]) ln N)) : WP xs (d + 10) 175 0 0 [.ref (89), .int (6), .int (x)] (H m ln N) Q := by
  refine wp_x mx_175 (L := [some (.ref (89)), some (.int (6)), some (.int (x)), none]) (Nat.le_of_ble_eq_true rfl) rfl ?_
  refine g_iload_n m175_0 rfl ?_
  refine h_if_neF (xi := 6) (zi := 0) m175_1 rfl rfl (by decide) ?_
  refine g_iload_n m175_32 rfl ?_
  refine g_iconst m175_33 ?_
  refine h_ic_neF (xi := 6) (zi := 4) m175_34 rfl rfl (by decide) ?_
  refine g_iload_n m175_62 rfl ?_
  refine g_bipush m175_63 ?_
  refine h_ic_neT (xi := 6) (zi := 6) m175_65 rfl rfl (by decide) ?_
  refine g_aload_n m175_68 rfl ?_
  refine g_bipush m175_69 ?_
  refine h_cv (k := 57) (p := 89) (args := [.int (71)]) (rest := []) m175_71 cn_171 (Nat.le_of_ble_eq_true rfl) rfl rfl rfl (t_57 _ _) (Nat.le_of_ble_eq_true rfl) ?_
  refine c_ran (b := b) (c := 71) hb (by omega) ?_
  refine gwr0 ?_
  refine g_aload_n m175_74 rfl ?_
  refine g_aload_n m175_75 rfl ?_
  refine h_gfI (k := 57) (p := 89) m175_76 rfl (t_57 _ _) rfl ((lgR_o (by decide) [71]).trans hk) ?_
  refine g_iload_n m175_79 rfl ?_
  refine h_cv (k := 57) (p := 89) (args := [.int (6), .int (x)]) (rest := []) m175_80 cn_174 (Nat.le_of_ble_eq_true rfl) rfl rfl rfl (t_57 _ _) (Nat.le_of_ble_eq_true rfl) ?_
  refine c_mv_6_1_6 (m := lgR m b [71]) (b := b + 1) (nv := nv) (mv := mv) (lgR_4 hb [71]) (by omega) ((lgR_o (by decide) [71]).trans hk) ((lgR_o (by decide) [71]).trans h0) ((lgR_o (by decide) [71]).trans h1) ?_
  rw [show lgR (lgR m b [71]) (b + 1) [11, 10] = lgR m b [71, 11, 10] from lgR_a [71] [11, 10]]
  refine gwr ?_
  refine g_istore_n (L2 := [some (.ref (89)), some (.int (6)), some (.int (x)), some (.int (((x + nv) * (2 : Int32))))]) m175_83 rfl rfl ?_
  refine g_iload_n m175_84 rfl ?_
  refine g_aload_n m175_85 rfl ?_
  refine g_iconst m175_86 ?_
  refine g_iload_n m175_87 rfl ?_
  refine h_cv (k := 57) (p := 89) (args := [.int (3), .int (x)]) (rest := [.int (((x + nv) * (2 : Int32)))]) m175_88 cn_175 (Nat.le_of_ble_eq_true rfl) rfl rfl rfl (t_57 _ _) (Nat.le_of_ble_eq_true rfl) ?_
  refine c_mv_6_3_3 (m := lgR m b [71, 11, 10]) (b := b + 3) (nv := nv) (mv := mv) (lgR_4 hb [71, 11, 10]) (by omega) ((lgR_o (by decide) [71, 11, 10]).trans hk) ((lgR_o (by decide) [71, 11, 10]).trans h0) ((lgR_o (by decide) [71, 11, 10]).trans h1) ?_
  rw [show lgR (lgR m b [71, 11, 10]) (b + 3) [13, 11, 10, 70, 40, 12] = lgR m b [71, 11, 10, 13, 11, 10, 70, 40, 12] from lgR_a [71, 11, 10] [13, 11, 10, 70, 40, 12]]
  refine gwr ?_
  refine g_isub m175_91 rfl ?_
  refine g_iret m175_92 rt_175 ?_
  exact hQ
end
