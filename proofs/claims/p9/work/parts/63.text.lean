/-! A TEXT: the class; it makes a law, three cells behind the others -/
section
variable {xs : List Int32} {d y : Nat} {Q : QT} {pc : Nat} {L : LoS} {st : List Value} {h : AH} {mc ms nx kd a b : Nat} {v : Int32}
theorem g_new {n : Nat} (hr : smI y pc = some (.new n, nx, kd, a, b, v)) (h1 : 1 ≤ mc) (h2 : b ≤ ms) (g : gw xs (WP xs d) y Q nx L (.ref (32 + h.length) :: st) (h ++ [.inr (a, dfV a b)]) (mc - 1) (ms - b)) : gw xs (WP xs d) y Q pc L st h mc ms := gs hr ⟨h1, h2, g⟩
theorem g_newi {z : Nat} (hr : smI y pc = some (.newarray .int, nx, kd, 0, b, v)) (hz : z ≤ 100000) (h1 : 1 ≤ mc) (h2 : z ≤ ms) (g : gw xs (WP xs d) y Q nx L (.ref (32 + h.length) :: st) (h ++ [.inl (0, List.replicate z 0)]) (mc - 1) (ms - z)) : gw xs (WP xs d) y Q pc L (.int (nI z) :: st) h mc ms := gs hr (by
  show ¬ nI z < 0 ∧ (nI z).toNatClampNeg ≤ 100000 ∧ 1 ≤ mc ∧ (nI z).toNatClampNeg ≤ ms ∧ gw xs (WP xs d) y Q nx L (.ref (32 + h.length) :: st) (h ++ [.inl (0, List.replicate (nI z).toNatClampNeg 0)]) (mc - 1) (ms - (nI z).toNatClampNeg)
  rw [nI_clamp (by omega)]
  exact ⟨nI_pos (by omega), hz, h1, h2, g⟩)
theorem g_clone {n p : Nat} {f : List Int32} (hr : smI y pc = some (.invokevirtual n, nx, 5, a, b, v)) (hp : 32 ≤ p) (hcat : catS st ≤ 8) (e : smC xs h p = some (.inl (0, f))) (h1 : 1 ≤ mc) (h2 : f.length ≤ ms) (g : gw xs (WP xs d) y Q nx L (.ref (32 + h.length) :: st) (h ++ [.inl (0, f)]) (mc - 1) (ms - f.length)) : gw xs (WP xs d) y Q pc L (.ref p :: st) h mc ms := gs hr (by
  show 32 ≤ p ∧ catS st ≤ 8 ∧ cA xs h p _
  exact ⟨hp, hcat, cA_i e ⟨rfl, h1, h2, g⟩⟩)
theorem g_ckc {n p : Nat} {f : List Int32} (hr : smI y pc = some (.checkcast n, nx, kd, a, b, v)) (hp : 32 ≤ p) (e : smC xs h p = some (.inl (0, f))) (g : gw xs (WP xs d) y Q nx L (.ref p :: st) h mc ms) : gw xs (WP xs d) y Q pc L (.ref p :: st) h mc ms := gs hr (by
  show 32 ≤ p ∧ cA xs h p _
  exact ⟨hp, cA_i e ⟨rfl, g⟩⟩)
theorem g_obj {n p : Nat} (hr : smI y pc = some (.invokespecial n, nx, 12, a, b, v)) (hcat : catS st ≤ 8) (g : gw xs (WP xs d) y Q nx L st h mc ms) : gw xs (WP xs d) y Q pc L (.ref p :: st) h mc ms := gs hr ⟨hcat, g⟩
theorem g_csm {n : Nat} {args rest : List Value} (mc2 ms2 : Nat) (hr : smI y pc = some (.invokestatic n, nx, 0, a, b, v)) (hb : b ≤ st.length) (ht : (st.take b).reverse = args) (hd : st.drop b = rest) (hcat : catS rest ≤ 8) (h1 : mc2 ≤ mc) (h2 : ms2 ≤ ms) (g : WP xs d a mc2 ms2 args h (fun r h2 => gw xs (WP xs d) y Q nx L (r.toList ++ rest) h2 (mc - mc2) (ms - ms2))) : gw xs (WP xs d) y Q pc L st h mc ms := gs hr (by
  subst ht
  subst hd
  exact ⟨hb, cl mc2 ms2 hcat h1 h2 g⟩)
theorem g_acp0 {n p q c : Nat} {f f2 : List Int32} (hr : smI y pc = some (.invokestatic n, nx, 4, a, b, v)) (hp : 32 ≤ p) (hq : 32 ≤ q) (e1 : smC xs h p = some (.inl (0, f))) (e2 : smC xs h q = some (.inl (0, f2))) (hc1 : c ≤ f.length) (hc2 : c ≤ f2.length) (hc : c < 2 ^ 31) (hcat : catS st ≤ 8) (g : gw xs (WP xs d) y Q nx L st (h.set (q - 32) (.inl (0, cpL f f2 0 0 c))) mc ms) : gw xs (WP xs d) y Q pc L (.int (nI c) :: .int 0 :: .ref q :: .int 0 :: .ref p :: st) h mc ms := gs hr (by
  have c0 : (0 : Int32).toNatClampNeg = 0 := rfl
  have c3 : (nI c).toNatClampNeg = c := nI_clamp hc
  have n0 : ¬ (0 : Int32) < 0 := by decide
  show 32 ≤ p ∧ 32 ≤ q ∧ catS st ≤ 8 ∧ cA xs h p _
  refine ⟨hp, hq, hcat, cA_i e1 (cA_i e2 ?_)⟩
  refine ⟨rfl, Or.inl rfl, n0, n0, nI_pos hc, ?_, ?_, fun q => absurd q (by decide), ?_⟩
  · rw [c0, c3]
    omega
  · rw [c0, c3]
    omega
  · rw [c0, c3]
    exact g)
end
theorem smC_al {xs : List Int32} {h t : AH} {p : Nat} {c : AC} (e : smC xs h p = some c) : smC xs (h ++ t) p = some c := by
  unfold smC at e ⊢
  by_cases hp : p < 32
  · rw [if_pos hp] at e ⊢
    exact e
  · rw [if_neg hp] at e ⊢
    rw [List.getElem?_append_left (List.getElem?_eq_some_iff.mp e).1]
    exact e
theorem smC_ar {xs : List Int32} {h t : AH} {p i : Nat} {c : AC} (hp : p = 32 + h.length + i) (e : t[i]? = some c) : smC xs (h ++ t) p = some c := by
  subst hp
  unfold smC
  rw [if_neg (by omega), List.getElem?_append_right (by omega), show 32 + h.length + i - 32 - h.length = i by omega]
  exact e
theorem set_ar {h t : AH} {j i : Nat} {c : AC} (hj : j = h.length + i) : (h ++ t).set j c = h ++ t.set i c := by
  subst hj
  rw [List.set_append_right _ _ (by omega), Nat.add_sub_cancel_left]
theorem rep_map (z : Nat) : (List.replicate z (0 : Int32)) = (List.range z).map (fun _ => 0) := by
  apply List.ext_getElem?
  intro i
  rw [List.getElem?_replicate, List.getElem?_map]
  by_cases h : i < z
  · rw [if_pos h, List.getElem?_range h]
    rfl
  · rw [if_neg h, List.getElem?_eq_none (by rw [List.length_range]; omega)]
    rfl
theorem take_map (z n : Nat) (w : Nat → Int32) (h : z ≤ n) : ((List.range n).map w).take z = (List.range z).map w := by
  apply List.ext_getElem?
  intro i
  rw [List.getElem?_take]
  by_cases hi : i < z
  · rw [if_pos hi, range_at w (show i < n by omega), range_at w hi]
  · rw [if_neg hi, List.getElem?_eq_none (by rw [List.length_map, List.length_range]; omega)]
section
variable {xs : List Int32} {d : Nat} {h : AH} {Q : QT} {m : MW} {ln : Nat → Nat} {N : Nat}
set_option maxRecDepth 20000 in
set_option maxHeartbeats 40000000 in
theorem c_copyOf {p z : Nat} {w : Nat → Int32} (hp : 32 ≤ p) (e : smC xs h p = some (.inl (0, (List.range 50).map w))) (hz : z ≤ 50) (hQ : Q (some (.ref (32 + h.length))) (h ++ [.inl (0, (List.range z).map w)])) : WP xs (d + 1) 8 1 z [.ref p, .int (nI z)] h Q := by
  have l50 : ((List.range 50).map w).length = 50 := by rw [List.length_map, List.length_range]
  refine wp_x mx_8 (L := [some (.ref p), some (.int (nI z)), none]) (Nat.le_of_ble_eq_true rfl) rfl ?_
  refine g_iload_n m8_0 rfl ?_
  refine g_aload_n m8_1 rfl ?_
  refine g_alen (n := 50) m8_2 e (Or.inl rfl) l50 ?_
  refine h_ic_ne (xi := ((z : Nat) : Int)) (zi := 50) m8_3 (nI_toInt (by omega)) rfl (fun c1 => ?_) (fun c1 => ?_)
  · obtain rfl : z = 50 := by omega
    refine g_aload_n m8_6 rfl ?_
    refine g_clone m8_7 hp (Nat.le_of_ble_eq_true rfl) e (Nat.le_refl _) (by omega) ?_
    refine g_ckc m8_10 (by omega) (smC_ar (i := 0) (by omega) rfl) ?_
    refine g_aret m8_13 ?_
    exact hQ
  · refine g_iload_n m8_14 rfl ?_
    refine g_newi m8_15 (by omega) (Nat.le_refl _) (Nat.le_refl _) ?_
    refine g_astore_n (L2 := [some (.ref p), some (.int (nI z)), some (.ref (32 + h.length))]) m8_17 rfl rfl ?_
    refine g_aload_n m8_18 rfl ?_
    refine g_iconst m8_19 ?_
    refine g_aload_n m8_20 rfl ?_
    refine g_iconst m8_21 ?_
    refine g_aload_n m8_22 rfl ?_
    refine g_alen (n := 50) m8_23 (smC_al e) (Or.inl rfl) l50 ?_
    refine g_iload_n m8_24 rfl ?_
    refine g_min (u := nI z) m8_25 (Nat.le_of_ble_eq_true rfl) (if_pos ((lt_k (nI_toInt (by omega)) (nI_toInt (n := 50) (by decide))).mpr (by omega))) ?_
    refine g_acp0 m8_28 hp (by omega) (smC_al e) (smC_ar (i := 0) (by omega) rfl) (by omega) (by rw [List.length_replicate]; exact Nat.le_refl _) (by omega) (Nat.le_of_ble_eq_true rfl) ?_
    refine gwh (h' := h ++ [.inl (0, (List.range z).map w)]) ?_ ?_
    · rw [set_ar (i := 0) (by omega), rep_map, cpL_H _ _ (by omega) (by omega)]
      show h ++ [_] = _
      congr 4
      apply List.map_congr_left
      intro j hj
      rw [if_pos ⟨Nat.zero_le _, by rw [Nat.zero_add]; exact List.mem_range.mp hj⟩, Nat.zero_add, Nat.sub_zero]
    · refine g_aload_n m8_31 rfl ?_
      refine g_aret m8_32 ?_
      exact hQ
set_option maxRecDepth 20000 in
set_option maxHeartbeats 40000000 in
theorem c_lawInit {p z : Nat} {w : Nat → Int32} (hp : 32 ≤ p) (e : smC xs h p = some (.inl (0, (List.range 50).map w))) (hz : z ≤ 50) (hQ : Q none (h ++ [.inr (1, [.ref (33 + h.length), .ref (34 + h.length)]), .inl (0, (List.range z).map w), .inl (0, List.replicate z 0)])) : WP xs (d + 2) 13 2 (z + z) [.ref (32 + h.length), .ref p, .int (nI z)] (h ++ [.inr (1, [.null, .null])]) Q := by
  refine wp_x mx_13 (L := [some (.ref (32 + h.length)), some (.ref p), some (.int (nI z))]) (Nat.le_of_ble_eq_true rfl) rfl ?_
  refine g_aload_n m13_0 rfl ?_
  refine g_obj m13_1 (Nat.le_of_ble_eq_true rfl) ?_
  refine g_aload_n m13_4 rfl ?_
  refine g_aload_n m13_5 rfl ?_
  refine g_iload_n m13_6 rfl ?_
  refine g_csm (args := [.ref p, .int (nI z)]) (rest := [.ref (32 + h.length)]) 1 z m13_7 (Nat.le_of_ble_eq_true rfl) rfl rfl (Nat.le_of_ble_eq_true rfl) (by decide) (by omega) ?_
  refine c_copyOf hp (smC_al e) hz ?_
  refine gwr ?_
  refine gwst (st' := [.ref (33 + h.length), .ref (32 + h.length)]) (by rw [List.length_append]; show [Value.ref (32 + (h.length + 1)), _] = _; rw [show 32 + (h.length + 1) = 33 + h.length by omega]) ?_
  refine gwh (h' := h ++ [.inr (1, [.null, .null]), .inl (0, (List.range z).map w)]) (by rw [List.append_assoc]; rfl) ?_
  refine g_pf (fs2 := [.ref (33 + h.length), .null]) (i := h.length) (h2 := h ++ [.inr (1, [.ref (33 + h.length), .null]), .inl (0, (List.range z).map w)]) m13_10 rfl (by omega) (smC_ar (i := 0) (by omega) rfl) (by decide) (by exact trivial) rfl (by omega) (set_ar (i := 0) (by omega)) ?_
  refine g_aload_n m13_13 rfl ?_
  refine g_iload_n m13_14 rfl ?_
  refine g_newi m13_15 (by omega) (by decide) (by omega) ?_
  refine gwst (st' := [.ref (34 + h.length), .ref (32 + h.length)]) (by rw [List.length_append]; show [Value.ref (32 + (h.length + 2)), _] = _; rw [show 32 + (h.length + 2) = 34 + h.length by omega]) ?_
  refine gwh (h' := h ++ [.inr (1, [.ref (33 + h.length), .null]), .inl (0, (List.range z).map w), .inl (0, List.replicate z 0)]) (by rw [List.append_assoc]; rfl) ?_
  refine g_pf (fs2 := [.ref (33 + h.length), .ref (34 + h.length)]) (i := h.length) (h2 := h ++ [.inr (1, [.ref (33 + h.length), .ref (34 + h.length)]), .inl (0, (List.range z).map w), .inl (0, List.replicate z 0)]) m13_17 rfl (by omega) (smC_ar (i := 0) (by omega) rfl) (show 1 < 2 by decide) (by exact trivial) rfl (by omega) (set_ar (i := 0) (by omega)) ?_
  refine g_vret m13_20 ?_
  exact hQ
/-- a law more, of the codes w -/
def newM (m : MW) (N : Nat) (w : Nat → Int32) : MW := fun k j => if k = 70 + 3 * N then w j else if k = 71 + 3 * N then 0 else m k j
def newL (ln : Nat → Nat) (N z : Nat) : Nat → Nat := fun i => if i = N then z else ln i
theorem newM_o {m : MW} {N k : Nat} {w : Nat → Int32} (h : k < 69 + 3 * N) : newM m N w k = m k := by
  funext j
  unfold newM
  rw [if_neg (by omega), if_neg (by omega)]
theorem tmF_new {ln : Nat → Nat} {N z k : Nat} (h : k < 69 + 3 * N) : tmF (newL ln N z) k = tmF ln k := by
  unfold tmF newL
  by_cases h1 : k < 69
  · rw [if_pos h1, if_pos h1]
  · rw [if_neg h1, if_neg h1, if_neg (show ¬ (k - 69) / 3 = N by omega)]
theorem H_new (m : MW) (ln : Nat → Nat) (N z : Nat) (w : Nat → Int32) : H (newM m N w) (newL ln N z) (N + 1) = H m ln N ++ [.inr (1, [.ref (102 + 3 * N), .ref (103 + 3 * N)]), .inl (0, (List.range z).map w), .inl (0, List.replicate z 0)] := by
  have e0 : celT (tmF (newL ln N z) (69 + 3 * N)) (newM m N w (69 + 3 * N)) = .inr (1, [.ref (102 + 3 * N), .ref (103 + 3 * N)]) := by
    rw [(tLo (ln := newL ln N z) (N := N + 1) (i := N) (by omega)).2]
    show (Sum.inr (1, [fV (102 + 3 * N) _, fV (103 + 3 * N) _]) : AC) = _
    rw [show 102 + 3 * N = (99 + 3 * N) + 3 by omega, show 103 + 3 * N = (100 + 3 * N) + 3 by omega]
    rfl
  have e1 : celT (tmF (newL ln N z) (70 + 3 * N)) (newM m N w (70 + 3 * N)) = .inl (0, (List.range z).map w) := by
    rw [tmA (tLc (ln := newL ln N z) (N := N + 1) (i := N) (by omega))]
    have e : newL ln N z N = z := if_pos rfl
    rw [e]
    congr 2
    apply List.map_congr_left
    intro j _
    exact if_pos rfl
  have e2 : celT (tmF (newL ln N z) (71 + 3 * N)) (newM m N w (71 + 3 * N)) = .inl (0, List.replicate z 0) := by
    rw [tmA (tLw (ln := newL ln N z) (N := N + 1) (i := N) (by omega)), rep_map]
    have e : newL ln N z N = z := if_pos rfl
    rw [e]
    congr 2
    apply List.map_congr_left
    intro j _
    unfold newM
    rw [if_neg (by omega), if_pos rfl]
  unfold H
  rw [show 69 + 3 * (N + 1) = 69 + 3 * N + 1 + 1 + 1 by omega, List.range_succ, List.range_succ, List.range_succ, List.map_append, List.map_append, List.map_append, List.append_assoc, List.append_assoc]
  congr 1
  · apply List.map_congr_left
    intro k hk
    have hk2 : k < 69 + 3 * N := List.mem_range.mp hk
    rw [tmF_new hk2, newM_o hk2]
  · show [celT (tmF (newL ln N z) (69 + 3 * N)) (newM m N w (69 + 3 * N)), celT (tmF (newL ln N z) (69 + 3 * N + 1)) (newM m N w (69 + 3 * N + 1)), celT (tmF (newL ln N z) (69 + 3 * N + 1 + 1)) (newM m N w (69 + 3 * N + 1 + 1))] = _
    rw [show 69 + 3 * N + 1 + 1 = 71 + 3 * N by omega, show 69 + 3 * N + 1 = 70 + 3 * N by omega, e0, e1, e2]
set_option maxRecDepth 20000 in
set_option maxHeartbeats 40000000 in
theorem x_text {v : Int32} {f : Nat} (hf : m 37 2 = nI f) (hf50 : f ≤ 50) (hT : Tap m) (hN6 : N ≤ 600) (hE1 : (v.toInt < 0 ∨ 1 < v.toInt) → Q (some (.int (-1000000000 - nI 1))) (H (erm m 1) ln N)) (hN : ∀ u : Nat, v = nI u → u ≤ 1 → ¬ isText (m 38) f u → ∀ m2, (∀ k j, ¬ (k = 44 ∨ k = 43) → m2 k j = m k j) → Q (some (.int (-10 - nI (TR (m 38) f u).2.1))) (H (upm m2 37 2 0) ln N)) (hY : ∀ u : Nat, v = nI u → u ≤ 1 → isText (m 38) f u → ∀ m2, (∀ k j, ¬ (k = 44 ∨ k = 43) → m2 k j = m k j) → ∀ (w : Nat → Int32) (z : Nat), z = (TR (m 38) f u).1.length → z ≤ 50 → (∀ j, j < z → w j = (TR (m 38) f u).1.getD j 0) → Q (some (.int 1)) (H (upm (newM (upm m2 37 2 0) N w) 1 (11 + u) (nI (N + 1))) (newL ln N z) (N + 1))) : WP xs (d + 902) 68 3 102 [.ref (32), .int (v)] (H m ln N) Q := by
  refine wp_x mx_68 (L := [some (.ref (32)), some (.int (v)), none, none]) (Nat.le_of_ble_eq_true rfl) rfl ?_
  refine g_iload_n m68_0 rfl ?_
  refine g_iconst m68_1 ?_
  refine g_cs (args := [.int (v), .int (1)]) (rest := []) 0 (Or.inl rfl) m68_2 (Nat.le_of_ble_eq_true rfl) rfl rfl (Nat.le_of_ble_eq_true rfl) ?_
  refine c_within (M := 1) rfl (fun u ev a_2 => ?_) (fun a_2 => ?_)
  · have hu : u ≤ 1 := by omega
    subst ev
    refine gwr ?_
    refine h_if_neF (xi := 1) (zi := 0) m68_5 rfl rfl (by decide) ?_
    refine g_aload_n m68_14 rfl ?_
    refine h_gfR (c := 75) (k := 0) (p := 32) m68_15 rfl (t_0 _ _) rfl (Nat.le_of_ble_eq_true rfl) ?_
    refine g_aload_n m68_18 rfl ?_
    refine h_gfR (c := 69) (k := 0) (p := 32) m68_19 rfl (t_0 _ _) rfl (Nat.le_of_ble_eq_true rfl) ?_
    refine h_gfI (k := 37) (p := 69) m68_22 rfl (t_37 _ _) rfl hf ?_
    have key : gw xs (WP xs (d + 901)) 68 Q 36 [some (.ref (32)), some (.int (nI u)), none, none] [.ref (3 + u), .int (nI f), .ref 75] (H m ln N) 3 102 := by
      refine h_cv (k := 43) (p := 75) (args := [.int (nI f), .ref (3 + u)]) (rest := []) m68_36 cn_25 (Nat.le_of_ble_eq_true rfl) rfl rfl rfl (t_43 _ _) (Nat.le_of_ble_eq_true rfl) ?_
      refine c_readTape hu hf50 hT (fun m2 hF2 hit hsz hcd => ?_) (fun m2 hF2 hit => ?_)
      · have hg := PL_ok (m 38) f u 400 0 0 0 (by omega)
        have hz50 : (TR (m 38) f u).1.length ≤ 50 := by
          have h1 := (hg.2.2 hit.1).2.2
          have h2 : (TR (m 38) f u).2.1 = f := hit.2
          have h3 : (TR (m 38) f u).1.length ≤ (TR (m 38) f u).2.1 - 0 := h1
          omega
        refine gwr ?_
        refine g_istore_n (L2 := [some (.ref (32)), some (.int (nI u)), some (.int (-1)), none]) m68_39 rfl rfl ?_
        refine g_aload_n m68_40 rfl ?_
        refine h_gfR (c := 69) (k := 0) (p := 32) m68_41 rfl (t_0 _ _) rfl (Nat.le_of_ble_eq_true rfl) ?_
        refine g_iconst m68_44 ?_
        refine h_pfI (k := 37) (p := 69) m68_45 rfl (t_37 _ _) rfl trivial ?_
        refine g_iload_n m68_48 rfl ?_
        refine h_if_ltT (xi := -1) (zi := 0) m68_49 rfl rfl (by decide) ?_
        refine g_new m68_57 (by decide) (by decide) ?_
        refine gwh (h' := H (upm m2 37 2 0) ln N ++ [.inr (1, [.null, .null])]) rfl ?_
        refine g_dup m68_60 rfl ?_
        refine g_aload_n m68_61 rfl ?_
        refine g_gf (u := .ref 75) m68_62 (smC_al ((smC_H (k := 0) rfl (t_0 ln N).1).trans (congrArg some (tmO (t_0 ln N))))) rfl ?_
        refine g_gf (u := .ref 76) m68_65 (smC_al ((smC_H (k := 43) rfl (t_43 ln N).1).trans (congrArg some (tmO (t_43 ln N))))) rfl ?_
        refine g_aload_n m68_68 rfl ?_
        refine g_gf (u := .ref 75) m68_69 (smC_al ((smC_H (k := 0) rfl (t_0 ln N).1).trans (congrArg some (tmO (t_0 ln N))))) rfl ?_
        refine g_gf (u := .int (nI (TR (m 38) f u).1.length)) m68_72 (smC_al ((smC_H (k := 43) rfl (t_43 ln N).1).trans (congrArg some (tmO (t_43 ln N))))) (by rw [← hsz]; rfl) ?_
        refine g_ci (args := [.ref 76, .int (nI (TR (m 38) f u).1.length)]) (rest := [.ref (32 + (H (upm m2 37 2 0) ln N).length)]) 10 (Or.inl rfl) 2 ((TR (m 38) f u).1.length + (TR (m 38) f u).1.length) m68_75 (Nat.le_of_ble_eq_true rfl) rfl rfl (by omega) (Nat.le_of_ble_eq_true rfl) (by decide) (by omega) ?_
        refine c_lawInit (w := upm m2 37 2 0 44) (by decide) ((smC_H (k := 44) rfl (t_44 ln N).1).trans (congrArg some (tmA (t_44 ln N)))) hz50 ?_
        refine gwr0 ?_
        have eL : 32 + (H (upm m2 37 2 0) ln N).length = 101 + 3 * N := by rw [H_len]; omega
        have eW : Value.ref (101 + 3 * N) = lawV (nI (N + 1)) := (lawV_ix (i := N) rfl (by omega)).1.symm
        refine g_astore_n (L2 := [some (.ref (32)), some (.int (nI u)), some (.int (-1)), some (.ref (32 + (H (upm m2 37 2 0) ln N).length))]) m68_78 rfl rfl ?_
        rw [eL]
        have eH : H (upm m2 37 2 0) ln N ++ [.inr (1, [.ref (33 + (H (upm m2 37 2 0) ln N).length), .ref (34 + (H (upm m2 37 2 0) ln N).length)]), .inl (0, (List.range (TR (m 38) f u).1.length).map (upm m2 37 2 0 44)), .inl (0, List.replicate (TR (m 38) f u).1.length 0)] = H (newM (upm m2 37 2 0) N (upm m2 37 2 0 44)) (newL ln N (TR (m 38) f u).1.length) (N + 1) := by
          rw [H_new, H_len, show 33 + (69 + 3 * N) = 102 + 3 * N by omega, show 34 + (69 + 3 * N) = 103 + 3 * N by omega]
        refine gwh eH ?_
        have hfin := hY u rfl hu hit m2 hF2 (upm m2 37 2 0 44) (TR (m 38) f u).1.length rfl hz50 (fun j hj => hcd j hj)
        refine g_iload_n m68_79 rfl ?_
        refine h_if_ne (xi := ((u : Nat) : Int)) (zi := 0) m68_80 (nI_toInt (by omega)) rfl (fun c1 => ?_) (fun c1 => ?_)
        · obtain rfl : u = 0 := by omega
          refine g_aload_n m68_83 rfl ?_
          refine h_gfR (c := 33) (k := 0) (p := 32) m68_84 rfl (t_0 _ _) rfl (Nat.le_of_ble_eq_true rfl) ?_
          refine g_aload_n m68_87 rfl ?_
          refine gwst (st' := [lawV (nI (N + 1)), .ref 33]) (by rw [eW]) ?_
          refine h_pfL (k := 1) (p := 33) m68_88 rfl (t_1 _ _) rfl (by rfl) ?_
          refine g_goto m68_91 ?_
          refine g_iconst m68_102 ?_
          refine g_iret m68_103 rt_68 ?_
          exact hfin
        · obtain rfl : u = 1 := by omega
          refine g_aload_n m68_94 rfl ?_
          refine h_gfR (c := 33) (k := 0) (p := 32) m68_95 rfl (t_0 _ _) rfl (Nat.le_of_ble_eq_true rfl) ?_
          refine g_aload_n m68_98 rfl ?_
          refine gwst (st' := [lawV (nI (N + 1)), .ref 33]) (by rw [eW]) ?_
          refine h_pfL (k := 1) (p := 33) m68_99 rfl (t_1 _ _) rfl (by rfl) ?_
          refine g_iconst m68_102 ?_
          refine g_iret m68_103 rt_68 ?_
          exact hfin
      · have hg := PL_ok (m 38) f u 400 0 0 0 (by omega)
        have hp50 : (TR (m 38) f u).2.1 ≤ 50 := Nat.le_trans hg.2.1 hf50
        refine gwr ?_
        refine g_istore_n (L2 := [some (.ref (32)), some (.int (nI u)), some (.int (nI (TR (m 38) f u).2.1)), none]) m68_39 rfl rfl ?_
        refine g_aload_n m68_40 rfl ?_
        refine h_gfR (c := 69) (k := 0) (p := 32) m68_41 rfl (t_0 _ _) rfl (Nat.le_of_ble_eq_true rfl) ?_
        refine g_iconst m68_44 ?_
        refine h_pfI (k := 37) (p := 69) m68_45 rfl (t_37 _ _) rfl trivial ?_
        refine g_iload_n m68_48 rfl ?_
        refine h_if_ltF (xi := (((TR (m 38) f u).2.1 : Nat) : Int)) (zi := 0) m68_49 (nI_toInt (by omega)) rfl (by omega) ?_
        refine g_bipush m68_52 ?_
        refine g_iload_n m68_54 rfl ?_
        refine g_isub m68_55 rfl ?_
        refine g_iret m68_56 rt_68 ?_
        exact hN u rfl hu hit m2 hF2
    refine g_iload_n m68_25 rfl ?_
    refine h_if_ne (xi := ((u : Nat) : Int)) (zi := 0) m68_26 (nI_toInt (by omega)) rfl (fun c1 => ?_) (fun c1 => ?_)
    · obtain rfl : u = 0 := by omega
      refine g_ldcs m68_29 (by decide) ?_
      refine g_goto m68_31 ?_
      exact key
    · obtain rfl : u = 1 := by omega
      refine g_ldcs m68_34 (by decide) ?_
      exact key
  · refine gwr ?_
    refine h_if_neT (xi := 0) (zi := 0) m68_5 rfl rfl (by decide) ?_
    refine g_aload_n m68_8 rfl ?_
    refine g_iconst m68_9 ?_
    refine h_cv (k := 0) (p := 32) (args := [.int (1)]) (rest := []) m68_10 cn_55 (Nat.le_of_ble_eq_true rfl) rfl rfl rfl (t_0 _ _) (Nat.le_of_ble_eq_true rfl) ?_
    refine c_error (e := 1) (by decide) (by decide) ?_
    refine gwr ?_
    refine g_iret m68_13 rt_68 ?_
    exact hE1 (by omega)
end
