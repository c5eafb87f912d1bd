/-! A LAW WORKED OUT -/
section
variable {xs : List Int32} {d : Nat} {h : AH} {Q : QT} {m : MW} {ln : Nat → Nat} {N : Nat}
def Stk (w : Nat → Int32) : List Int32 → Prop
  | [] => True
  | x :: r => w r.length = x ∧ Stk w r
theorem Stk_up {m : MW} {k j : Nat} {x : Int32} : ∀ {s : List Int32}, s.length ≤ j → Stk (m k) s → Stk (upm m k j x k) s
  | [], _, _ => trivial
  | y :: r, hl, h => by
    have hl2 : r.length + 1 ≤ j := hl
    exact ⟨(upm_j m x (by omega)).trans h.1, Stk_up (by omega) h.2⟩
theorem Stk_push {m : MW} {k j : Nat} {x : Int32} {s : List Int32} (hl : s.length = j) (h : Stk (m k) s) : Stk (upm m k j x k) (x :: s) := by
  subst hl
  exact ⟨upm_self m k s.length x, Stk_up (Nat.le_refl _) h⟩
theorem Stk_pushE {m : MW} {k j : Nat} {x z : Int32} {s : List Int32} (e : z = x) (hl : s.length = j) (h : Stk (m k) s) : Stk (upm m k j x k) (z :: s) := by
  rw [e]
  exact Stk_push hl h
theorem EqM_w {m m2 : MW} (h : EqM m m2) (i j : Nat) (x : Int32) : EqM m (upm m2 (71 + 3 * i) j x) := by
  intro k2 j2 q
  unfold upm
  by_cases e : k2 = 71 + 3 * i ∧ j2 = j
  · exact absurd (Or.inl ⟨by omega, by omega⟩) q
  · rw [if_neg e, h k2 j2 q]
theorem cod_drop {m : MW} {ln : Nat → Nat} {i q : Nat} (hq : q < ln i) : (codL m ln i).drop q = m (70 + 3 * i) q :: (codL m ln i).drop (q + 1) := by
  have hl : q < (codL m ln i).length := by
    unfold codL
    rw [List.length_map, List.length_range]
    exact hq
  rw [List.drop_eq_getElem_cons hl]
  congr 1
  simp [codL]
theorem lsD {k : Int} (h : 1000 ≤ k ∨ k < 0) : tgO 119 (Op.lookupswitch.offset [(0, 121), (1, 132), (2, 143), (33, 154), (37, 243), (38, 333), (42, 204), (43, 174), (45, 189), (47, 219), (60, 267), (61, 289), (62, 311), (124, 358)] 383 k) = 502 := by
  simp only [Op.lookupswitch.offset_cons, Op.lookupswitch.offset_nil]
  repeat rw [if_neg (by omega)]
  rfl
set_option maxRecDepth 20000 in
set_option maxHeartbeats 40000000 in
theorem c_worth {i : Nat} {a b c : Int32} (hi : i < N) (hln : ln i ≤ 50) (hok : CodeOk (codL m ln i)) (hQ : ∀ m2, EqM m m2 → Q (some (.int (valL (codL m ln i) a b c))) (H m2 ln N)) : WP xs (d + 1) 14 0 0 [.ref (101 + 3 * i), .int (a), .int (b), .int (c)] (H m ln N) Q := by
  refine wp_x mx_14 (L := [some (.ref (101 + 3 * i)), some (.int (a)), some (.int (b)), some (.int (c)), none, none, none, none, none, none]) (Nat.le_of_ble_eq_true rfl) rfl ?_
  refine g_iconst m14_0 ?_
  refine g_istore (L2 := [some (.ref (101 + 3 * i)), some (.int (a)), some (.int (b)), some (.int (c)), some (.int (0)), none, none, none, none, none]) m14_1 rfl rfl ?_
  refine g_iconst m14_3 ?_
  refine g_istore (L2 := [some (.ref (101 + 3 * i)), some (.int (a)), some (.int (b)), some (.int (c)), some (.int (0)), some (.int (0)), none, none, none, none]) m14_4 rfl rfl ?_
  obtain ⟨v, hv⟩ := hok a b c
  have hval : valL (codL m ln i) a b c = v := by unfold valL; rw [hv []]; rfl
  rw [hval] at hQ
  have key : ∀ (n q : Nat) (s : List Int32) (m2 : MW) (o6 o7 o8 o9 : Option Value), q + n = ln i → evS a b c ((codL m ln i).drop q) s = some [v] → s.length ≤ q → Stk (m2 (71 + 3 * i)) s → EqM m m2 → gw xs (WP xs d) 14 Q 6 [some (.ref (101 + 3 * i)), some (.int a), some (.int b), some (.int c), some (.int (nI s.length)), some (.int (nI q)), o6, o7, o8, o9] [] (H m2 ln N) 0 0 := by
    intro n
    induction n with
    | zero =>
      intro q s m2 o6 o7 o8 o9 hq hs hl hst hE
      have hnil : (codL m ln i).drop q = [] := List.drop_eq_nil_of_le (by unfold codL; rw [List.length_map, List.length_range]; omega)
      rw [hnil] at hs
      have hs2 : s = [v] := by simpa [evS] using hs
      subst hs2
      have h1 : 1 ≤ q := hl
      refine g_iload m14_6 rfl ?_
      refine g_aload_n m14_8 rfl ?_
      refine h_gfR (c := 102 + 3 * i) (k := 69 + 3 * i) (p := 101 + 3 * i) m14_9 (pLo _) (tLo hi) rfl (le3 (Nat.le_of_ble_eq_true rfl)) ?_
      refine h_alen (k := 70 + 3 * i) (p := 102 + 3 * i) m14_12 (pLc _) (tLc hi) (Or.inl rfl) ?_
      refine h_ic_geT (xi := ((q : Nat) : Int)) (zi := ((ln i : Nat) : Int)) m14_13 (nI_toInt (by omega)) (nI_toInt (by omega)) (by omega) ?_
      refine g_aload_n m14_524 rfl ?_
      refine h_gfR (c := 103 + 3 * i) (k := 69 + 3 * i) (p := 101 + 3 * i) m14_525 (pLo _) (tLo hi) rfl (le3 (Nat.le_of_ble_eq_true rfl)) ?_
      refine h_alen (k := 71 + 3 * i) (p := 103 + 3 * i) m14_528 (pLw _) (tLw hi) (Or.inl rfl) ?_
      refine h_if_leF (xi := ((ln i : Nat) : Int)) (zi := 0) m14_529 (nI_toInt (by omega)) rfl (by omega) ?_
      refine g_aload_n m14_532 rfl ?_
      refine h_gfR (c := 103 + 3 * i) (k := 69 + 3 * i) (p := 101 + 3 * i) m14_533 (pLo _) (tLo hi) rfl (le3 (Nat.le_of_ble_eq_true rfl)) ?_
      refine g_iconst m14_536 ?_
      refine h_ial (k := 71 + 3 * i) (p := 103 + 3 * i) (j := 0) m14_537 (pLw _) (tLw hi) (rfl) (by omega) (by omega) (hst.1) ?_
      refine g_goto m14_538 ?_
      refine g_iret m14_542 rt_14 ?_
      exact hQ _ hE
    | succ n ih =>
      intro q s m2 o6 o7 o8 o9 hq hs hl hst hE
      have hql : q < ln i := by omega
      rw [cod_drop hql] at hs
      have he0 : m2 (70 + 3 * i) q = m (70 + 3 * i) q := hE _ _ (fun z => by rcases z with z | z <;> omega)
      revert hs he0
      generalize m (70 + 3 * i) q = kk
      intro hs he0
      obtain ⟨s2, hev, hs2⟩ : ∃ s2, evI a b c kk s = some s2 ∧ evS a b c ((codL m ln i).drop (q + 1)) s2 = some [v] := by
        have h9 : (evI a b c kk s).bind (evS a b c ((codL m ln i).drop (q + 1))) = some [v] := hs
        exact Option.bind_eq_some_iff.mp h9
      by_cases hk0 : kk = 0
      · subst hk0
        refine g_iload m14_6 rfl ?_
        refine g_aload_n m14_8 rfl ?_
        refine h_gfR (c := 102 + 3 * i) (k := 69 + 3 * i) (p := 101 + 3 * i) m14_9 (pLo _) (tLo hi) rfl (le3 (Nat.le_of_ble_eq_true rfl)) ?_
        refine h_alen (k := 70 + 3 * i) (p := 102 + 3 * i) m14_12 (pLc _) (tLc hi) (Or.inl rfl) ?_
        refine h_ic_geF (xi := ((q : Nat) : Int)) (zi := ((ln i : Nat) : Int)) m14_13 (nI_toInt (by omega)) (nI_toInt (by omega)) (by omega) ?_
        refine g_aload_n m14_16 rfl ?_
        refine h_gfR (c := 102 + 3 * i) (k := 69 + 3 * i) (p := 101 + 3 * i) m14_17 (pLo _) (tLo hi) rfl (le3 (Nat.le_of_ble_eq_true rfl)) ?_
        refine g_iload m14_20 rfl ?_
        refine h_ial (k := 70 + 3 * i) (p := 102 + 3 * i) (j := q) m14_22 (pLc _) (tLc hi) (rfl) (by omega) (by omega) (he0) ?_
        refine g_istore (L2 := [some (.ref (101 + 3 * i)), some (.int (a)), some (.int (b)), some (.int (c)), some (.int (nI (s.length))), some (.int (nI (q))), some (.int (0)), o7, o8, o9]) m14_23 rfl rfl ?_
        refine g_iload m14_25 rfl ?_
        refine g_sipush m14_27 ?_
        refine h_ic_geF (xi := 0) (zi := 1000) m14_30 rfl rfl (by decide) ?_
        refine g_iload m14_33 rfl ?_
        refine g_iconst m14_35 ?_
        refine h_ic_geF (xi := 0) (zi := 3) m14_36 rfl rfl (by decide) ?_
        refine g_iconst m14_39 ?_
        refine g_goto m14_40 ?_
        refine g_istore (L2 := [some (.ref (101 + 3 * i)), some (.int (a)), some (.int (b)), some (.int (c)), some (.int (nI (s.length))), some (.int (nI (q))), some (.int (0)), some (.int (0)), o8, o9]) m14_55 rfl rfl ?_
        refine g_iload m14_57 rfl ?_
        refine g_iload m14_59 rfl ?_
        refine g_isub (u := nI (s.length)) m14_61 (by show nI s.length - nI 0 = nI s.length; rw [pk_sub (Nat.zero_le _), Nat.sub_zero]) ?_
        refine g_istore (L2 := [some (.ref (101 + 3 * i)), some (.int (a)), some (.int (b)), some (.int (c)), some (.int (nI (s.length))), some (.int (nI (q))), some (.int (0)), some (.int (0)), o8, o9]) m14_62 rfl rfl ?_
        refine g_iload m14_64 rfl ?_
        refine h_if_ltF (xi := ((s.length : Nat) : Int)) (zi := 0) m14_66 (nI_toInt (by omega)) rfl (by omega) ?_
        refine g_iload m14_69 rfl ?_
        refine g_aload_n m14_71 rfl ?_
        refine h_gfR (c := 103 + 3 * i) (k := 69 + 3 * i) (p := 101 + 3 * i) m14_72 (pLo _) (tLo hi) rfl (le3 (Nat.le_of_ble_eq_true rfl)) ?_
        refine h_alen (k := 71 + 3 * i) (p := 103 + 3 * i) m14_75 (pLw _) (tLw hi) (Or.inl rfl) ?_
        refine h_ic_ltT (xi := ((s.length : Nat) : Int)) (zi := ((ln i : Nat) : Int)) m14_76 (nI_toInt (by omega)) (nI_toInt (by omega)) (by omega) ?_
        refine g_aload_n m14_81 rfl ?_
        refine h_gfR (c := 103 + 3 * i) (k := 69 + 3 * i) (p := 101 + 3 * i) m14_82 (pLo _) (tLo hi) rfl (le3 (Nat.le_of_ble_eq_true rfl)) ?_
        refine g_iload m14_85 rfl ?_
        refine h_ial (k := 71 + 3 * i) (p := 103 + 3 * i) (j := s.length) m14_87 (pLw _) (tLw hi) (rfl) (by omega) (by omega) (rfl) ?_
        refine g_istore (L2 := [some (.ref (101 + 3 * i)), some (.int (a)), some (.int (b)), some (.int (c)), some (.int (nI (s.length))), some (.int (nI (q))), some (.int (0)), some (.int (0)), some (.int (m2 (71 + 3 * i) s.length)), o9]) m14_88 rfl rfl ?_
        refine g_iload m14_90 rfl ?_
        refine g_iconst m14_92 ?_
        refine g_iadd (u := nI ((s.length) + 1)) m14_93 (nI_add (s.length) 1) ?_
        refine g_aload_n m14_94 rfl ?_
        refine h_gfR (c := 103 + 3 * i) (k := 69 + 3 * i) (p := 101 + 3 * i) m14_95 (pLo _) (tLo hi) rfl (le3 (Nat.le_of_ble_eq_true rfl)) ?_
        refine h_alen (k := 71 + 3 * i) (p := 103 + 3 * i) m14_98 (pLw _) (tLw hi) (Or.inl rfl) ?_
        refine h_ic_ge (xi := (((s.length) + 1 : Nat) : Int)) (zi := ((ln i : Nat) : Int)) m14_99 (nI_toInt (by omega)) (nI_toInt (by omega)) (fun c1 => ?_) (fun c1 => ?_)
        · skip
          refine g_iconst m14_114 ?_
          refine g_istore (L2 := [some (.ref (101 + 3 * i)), some (.int (a)), some (.int (b)), some (.int (c)), some (.int (nI (s.length))), some (.int (nI (q))), some (.int (0)), some (.int (0)), some (.int (m2 (71 + 3 * i) s.length)), some (.int (0))]) m14_115 rfl rfl ?_
          refine g_iload m14_117 rfl ?_
          refine gs m14_119 ?_
          refine gwpc (pc' := 240) rfl ?_
          refine g_aload_n m14_240 rfl ?_
          refine h_gfR (c := 103 + 3 * i) (k := 69 + 3 * i) (p := 101 + 3 * i) m14_241 (pLo _) (tLo hi) rfl (le3 (Nat.le_of_ble_eq_true rfl)) ?_
          refine g_iload m14_244 rfl ?_
          refine g_iload_n m14_246 rfl ?_
          refine h_ias (k := 71 + 3 * i) (p := 103 + 3 * i) (j := s.length) m14_247 (pLw _) (tLw hi) (rfl) (by omega) (by omega) ?_
          refine g_goto m14_248 ?_
          refine gwl (L' := [some (.ref (101 + 3 * i)), some (.int a), some (.int b), some (.int c), some (.int (nI (s.length))), some (.int (nI q)), _, _, _, _]) rfl ?_
          refine g_iinc (L2 := [some (.ref (101 + 3 * i)), some (.int (a)), some (.int (b)), some (.int (c)), some (.int (nI ((s.length) + 1))), some (.int (nI (q))), some (.int (0)), some (.int (0)), some (.int (m2 (71 + 3 * i) s.length)), some (.int (0))]) m14_515 rfl (nI_1 _) rfl rfl ?_
          refine g_iinc (L2 := [some (.ref (101 + 3 * i)), some (.int (a)), some (.int (b)), some (.int (c)), some (.int (nI ((s.length) + 1))), some (.int (nI (q + 1))), some (.int (0)), some (.int (0)), some (.int (m2 (71 + 3 * i) s.length)), some (.int (0))]) m14_518 rfl (nI_1 _) rfl rfl ?_
          refine g_goto m14_521 ?_
          rw [ev_0] at hev
          obtain rfl := Option.some.inj hev
          exact ih (q + 1) _ _ _ _ _ _ (by omega) hs2 (by show s.length + 1 ≤ q + 1; omega) (Stk_pushE rfl rfl hst) (EqM_w hE _ _ _)
        · skip
          refine g_aload_n m14_102 rfl ?_
          refine h_gfR (c := 103 + 3 * i) (k := 69 + 3 * i) (p := 101 + 3 * i) m14_103 (pLo _) (tLo hi) rfl (le3 (Nat.le_of_ble_eq_true rfl)) ?_
          refine g_iload m14_106 rfl ?_
          refine g_iconst m14_108 ?_
          refine g_iadd (u := nI ((s.length) + 1)) m14_109 (nI_add (s.length) 1) ?_
          refine h_ial (k := 71 + 3 * i) (p := 103 + 3 * i) (j := (s.length) + 1) m14_110 (pLw _) (tLw hi) (rfl) (by omega) (by omega) (rfl) ?_
          refine g_goto m14_111 ?_
          refine g_istore (L2 := [some (.ref (101 + 3 * i)), some (.int (a)), some (.int (b)), some (.int (c)), some (.int (nI (s.length))), some (.int (nI (q))), some (.int (0)), some (.int (0)), some (.int (m2 (71 + 3 * i) s.length)), some (.int (m2 (71 + 3 * i) ((s.length) + 1)))]) m14_115 rfl rfl ?_
          refine g_iload m14_117 rfl ?_
          refine gs m14_119 ?_
          refine gwpc (pc' := 240) rfl ?_
          refine g_aload_n m14_240 rfl ?_
          refine h_gfR (c := 103 + 3 * i) (k := 69 + 3 * i) (p := 101 + 3 * i) m14_241 (pLo _) (tLo hi) rfl (le3 (Nat.le_of_ble_eq_true rfl)) ?_
          refine g_iload m14_244 rfl ?_
          refine g_iload_n m14_246 rfl ?_
          refine h_ias (k := 71 + 3 * i) (p := 103 + 3 * i) (j := s.length) m14_247 (pLw _) (tLw hi) (rfl) (by omega) (by omega) ?_
          refine g_goto m14_248 ?_
          refine gwl (L' := [some (.ref (101 + 3 * i)), some (.int a), some (.int b), some (.int c), some (.int (nI (s.length))), some (.int (nI q)), _, _, _, _]) rfl ?_
          refine g_iinc (L2 := [some (.ref (101 + 3 * i)), some (.int (a)), some (.int (b)), some (.int (c)), some (.int (nI ((s.length) + 1))), some (.int (nI (q))), some (.int (0)), some (.int (0)), some (.int (m2 (71 + 3 * i) s.length)), some (.int (m2 (71 + 3 * i) ((s.length) + 1)))]) m14_515 rfl (nI_1 _) rfl rfl ?_
          refine g_iinc (L2 := [some (.ref (101 + 3 * i)), some (.int (a)), some (.int (b)), some (.int (c)), some (.int (nI ((s.length) + 1))), some (.int (nI (q + 1))), some (.int (0)), some (.int (0)), some (.int (m2 (71 + 3 * i) s.length)), some (.int (m2 (71 + 3 * i) ((s.length) + 1)))]) m14_518 rfl (nI_1 _) rfl rfl ?_
          refine g_goto m14_521 ?_
          rw [ev_0] at hev
          obtain rfl := Option.some.inj hev
          exact ih (q + 1) _ _ _ _ _ _ (by omega) hs2 (by show s.length + 1 ≤ q + 1; omega) (Stk_pushE rfl rfl hst) (EqM_w hE _ _ _)
      by_cases hk1 : kk = 1
      · subst hk1
        refine g_iload m14_6 rfl ?_
        refine g_aload_n m14_8 rfl ?_
        refine h_gfR (c := 102 + 3 * i) (k := 69 + 3 * i) (p := 101 + 3 * i) m14_9 (pLo _) (tLo hi) rfl (le3 (Nat.le_of_ble_eq_true rfl)) ?_
        refine h_alen (k := 70 + 3 * i) (p := 102 + 3 * i) m14_12 (pLc _) (tLc hi) (Or.inl rfl) ?_
        refine h_ic_geF (xi := ((q : Nat) : Int)) (zi := ((ln i : Nat) : Int)) m14_13 (nI_toInt (by omega)) (nI_toInt (by omega)) (by omega) ?_
        refine g_aload_n m14_16 rfl ?_
        refine h_gfR (c := 102 + 3 * i) (k := 69 + 3 * i) (p := 101 + 3 * i) m14_17 (pLo _) (tLo hi) rfl (le3 (Nat.le_of_ble_eq_true rfl)) ?_
        refine g_iload m14_20 rfl ?_
        refine h_ial (k := 70 + 3 * i) (p := 102 + 3 * i) (j := q) m14_22 (pLc _) (tLc hi) (rfl) (by omega) (by omega) (he0) ?_
        refine g_istore (L2 := [some (.ref (101 + 3 * i)), some (.int (a)), some (.int (b)), some (.int (c)), some (.int (nI (s.length))), some (.int (nI (q))), some (.int (1)), o7, o8, o9]) m14_23 rfl rfl ?_
        refine g_iload m14_25 rfl ?_
        refine g_sipush m14_27 ?_
        refine h_ic_geF (xi := 1) (zi := 1000) m14_30 rfl rfl (by decide) ?_
        refine g_iload m14_33 rfl ?_
        refine g_iconst m14_35 ?_
        refine h_ic_geF (xi := 1) (zi := 3) m14_36 rfl rfl (by decide) ?_
        refine g_iconst m14_39 ?_
        refine g_goto m14_40 ?_
        refine g_istore (L2 := [some (.ref (101 + 3 * i)), some (.int (a)), some (.int (b)), some (.int (c)), some (.int (nI (s.length))), some (.int (nI (q))), some (.int (1)), some (.int (0)), o8, o9]) m14_55 rfl rfl ?_
        refine g_iload m14_57 rfl ?_
        refine g_iload m14_59 rfl ?_
        refine g_isub (u := nI (s.length)) m14_61 (by show nI s.length - nI 0 = nI s.length; rw [pk_sub (Nat.zero_le _), Nat.sub_zero]) ?_
        refine g_istore (L2 := [some (.ref (101 + 3 * i)), some (.int (a)), some (.int (b)), some (.int (c)), some (.int (nI (s.length))), some (.int (nI (q))), some (.int (1)), some (.int (0)), o8, o9]) m14_62 rfl rfl ?_
        refine g_iload m14_64 rfl ?_
        refine h_if_ltF (xi := ((s.length : Nat) : Int)) (zi := 0) m14_66 (nI_toInt (by omega)) rfl (by omega) ?_
        refine g_iload m14_69 rfl ?_
        refine g_aload_n m14_71 rfl ?_
        refine h_gfR (c := 103 + 3 * i) (k := 69 + 3 * i) (p := 101 + 3 * i) m14_72 (pLo _) (tLo hi) rfl (le3 (Nat.le_of_ble_eq_true rfl)) ?_
        refine h_alen (k := 71 + 3 * i) (p := 103 + 3 * i) m14_75 (pLw _) (tLw hi) (Or.inl rfl) ?_
        refine h_ic_ltT (xi := ((s.length : Nat) : Int)) (zi := ((ln i : Nat) : Int)) m14_76 (nI_toInt (by omega)) (nI_toInt (by omega)) (by omega) ?_
        refine g_aload_n m14_81 rfl ?_
        refine h_gfR (c := 103 + 3 * i) (k := 69 + 3 * i) (p := 101 + 3 * i) m14_82 (pLo _) (tLo hi) rfl (le3 (Nat.le_of_ble_eq_true rfl)) ?_
        refine g_iload m14_85 rfl ?_
        refine h_ial (k := 71 + 3 * i) (p := 103 + 3 * i) (j := s.length) m14_87 (pLw _) (tLw hi) (rfl) (by omega) (by omega) (rfl) ?_
        refine g_istore (L2 := [some (.ref (101 + 3 * i)), some (.int (a)), some (.int (b)), some (.int (c)), some (.int (nI (s.length))), some (.int (nI (q))), some (.int (1)), some (.int (0)), some (.int (m2 (71 + 3 * i) s.length)), o9]) m14_88 rfl rfl ?_
        refine g_iload m14_90 rfl ?_
        refine g_iconst m14_92 ?_
        refine g_iadd (u := nI ((s.length) + 1)) m14_93 (nI_add (s.length) 1) ?_
        refine g_aload_n m14_94 rfl ?_
        refine h_gfR (c := 103 + 3 * i) (k := 69 + 3 * i) (p := 101 + 3 * i) m14_95 (pLo _) (tLo hi) rfl (le3 (Nat.le_of_ble_eq_true rfl)) ?_
        refine h_alen (k := 71 + 3 * i) (p := 103 + 3 * i) m14_98 (pLw _) (tLw hi) (Or.inl rfl) ?_
        refine h_ic_ge (xi := (((s.length) + 1 : Nat) : Int)) (zi := ((ln i : Nat) : Int)) m14_99 (nI_toInt (by omega)) (nI_toInt (by omega)) (fun c2 => ?_) (fun c2 => ?_)
        · skip
          refine g_iconst m14_114 ?_
          refine g_istore (L2 := [some (.ref (101 + 3 * i)), some (.int (a)), some (.int (b)), some (.int (c)), some (.int (nI (s.length))), some (.int (nI (q))), some (.int (1)), some (.int (0)), some (.int (m2 (71 + 3 * i) s.length)), some (.int (0))]) m14_115 rfl rfl ?_
          refine g_iload m14_117 rfl ?_
          refine gs m14_119 ?_
          refine gwpc (pc' := 251) rfl ?_
          refine g_aload_n m14_251 rfl ?_
          refine h_gfR (c := 103 + 3 * i) (k := 69 + 3 * i) (p := 101 + 3 * i) m14_252 (pLo _) (tLo hi) rfl (le3 (Nat.le_of_ble_eq_true rfl)) ?_
          refine g_iload m14_255 rfl ?_
          refine g_iload_n m14_257 rfl ?_
          refine h_ias (k := 71 + 3 * i) (p := 103 + 3 * i) (j := s.length) m14_258 (pLw _) (tLw hi) (rfl) (by omega) (by omega) ?_
          refine g_goto m14_259 ?_
          refine gwl (L' := [some (.ref (101 + 3 * i)), some (.int a), some (.int b), some (.int c), some (.int (nI (s.length))), some (.int (nI q)), _, _, _, _]) rfl ?_
          refine g_iinc (L2 := [some (.ref (101 + 3 * i)), some (.int (a)), some (.int (b)), some (.int (c)), some (.int (nI ((s.length) + 1))), some (.int (nI (q))), some (.int (1)), some (.int (0)), some (.int (m2 (71 + 3 * i) s.length)), some (.int (0))]) m14_515 rfl (nI_1 _) rfl rfl ?_
          refine g_iinc (L2 := [some (.ref (101 + 3 * i)), some (.int (a)), some (.int (b)), some (.int (c)), some (.int (nI ((s.length) + 1))), some (.int (nI (q + 1))), some (.int (1)), some (.int (0)), some (.int (m2 (71 + 3 * i) s.length)), some (.int (0))]) m14_518 rfl (nI_1 _) rfl rfl ?_
          refine g_goto m14_521 ?_
          rw [ev_1] at hev
          obtain rfl := Option.some.inj hev
          exact ih (q + 1) _ _ _ _ _ _ (by omega) hs2 (by show s.length + 1 ≤ q + 1; omega) (Stk_pushE rfl rfl hst) (EqM_w hE _ _ _)
        · skip
          refine g_aload_n m14_102 rfl ?_
          refine h_gfR (c := 103 + 3 * i) (k := 69 + 3 * i) (p := 101 + 3 * i) m14_103 (pLo _) (tLo hi) rfl (le3 (Nat.le_of_ble_eq_true rfl)) ?_
          refine g_iload m14_106 rfl ?_
          refine g_iconst m14_108 ?_
          refine g_iadd (u := nI ((s.length) + 1)) m14_109 (nI_add (s.length) 1) ?_
          refine h_ial (k := 71 + 3 * i) (p := 103 + 3 * i) (j := (s.length) + 1) m14_110 (pLw _) (tLw hi) (rfl) (by omega) (by omega) (rfl) ?_
          refine g_goto m14_111 ?_
          refine g_istore (L2 := [some (.ref (101 + 3 * i)), some (.int (a)), some (.int (b)), some (.int (c)), some (.int (nI (s.length))), some (.int (nI (q))), some (.int (1)), some (.int (0)), some (.int (m2 (71 + 3 * i) s.length)), some (.int (m2 (71 + 3 * i) ((s.length) + 1)))]) m14_115 rfl rfl ?_
          refine g_iload m14_117 rfl ?_
          refine gs m14_119 ?_
          refine gwpc (pc' := 251) rfl ?_
          refine g_aload_n m14_251 rfl ?_
          refine h_gfR (c := 103 + 3 * i) (k := 69 + 3 * i) (p := 101 + 3 * i) m14_252 (pLo _) (tLo hi) rfl (le3 (Nat.le_of_ble_eq_true rfl)) ?_
          refine g_iload m14_255 rfl ?_
          refine g_iload_n m14_257 rfl ?_
          refine h_ias (k := 71 + 3 * i) (p := 103 + 3 * i) (j := s.length) m14_258 (pLw _) (tLw hi) (rfl) (by omega) (by omega) ?_
          refine g_goto m14_259 ?_
          refine gwl (L' := [some (.ref (101 + 3 * i)), some (.int a), some (.int b), some (.int c), some (.int (nI (s.length))), some (.int (nI q)), _, _, _, _]) rfl ?_
          refine g_iinc (L2 := [some (.ref (101 + 3 * i)), some (.int (a)), some (.int (b)), some (.int (c)), some (.int (nI ((s.length) + 1))), some (.int (nI (q))), some (.int (1)), some (.int (0)), some (.int (m2 (71 + 3 * i) s.length)), some (.int (m2 (71 + 3 * i) ((s.length) + 1)))]) m14_515 rfl (nI_1 _) rfl rfl ?_
          refine g_iinc (L2 := [some (.ref (101 + 3 * i)), some (.int (a)), some (.int (b)), some (.int (c)), some (.int (nI ((s.length) + 1))), some (.int (nI (q + 1))), some (.int (1)), some (.int (0)), some (.int (m2 (71 + 3 * i) s.length)), some (.int (m2 (71 + 3 * i) ((s.length) + 1)))]) m14_518 rfl (nI_1 _) rfl rfl ?_
          refine g_goto m14_521 ?_
          rw [ev_1] at hev
          obtain rfl := Option.some.inj hev
          exact ih (q + 1) _ _ _ _ _ _ (by omega) hs2 (by show s.length + 1 ≤ q + 1; omega) (Stk_pushE rfl rfl hst) (EqM_w hE _ _ _)
      by_cases hk2 : kk = 2
      · subst hk2
        refine g_iload m14_6 rfl ?_
        refine g_aload_n m14_8 rfl ?_
        refine h_gfR (c := 102 + 3 * i) (k := 69 + 3 * i) (p := 101 + 3 * i) m14_9 (pLo _) (tLo hi) rfl (le3 (Nat.le_of_ble_eq_true rfl)) ?_
        refine h_alen (k := 70 + 3 * i) (p := 102 + 3 * i) m14_12 (pLc _) (tLc hi) (Or.inl rfl) ?_
        refine h_ic_geF (xi := ((q : Nat) : Int)) (zi := ((ln i : Nat) : Int)) m14_13 (nI_toInt (by omega)) (nI_toInt (by omega)) (by omega) ?_
        refine g_aload_n m14_16 rfl ?_
        refine h_gfR (c := 102 + 3 * i) (k := 69 + 3 * i) (p := 101 + 3 * i) m14_17 (pLo _) (tLo hi) rfl (le3 (Nat.le_of_ble_eq_true rfl)) ?_
        refine g_iload m14_20 rfl ?_
        refine h_ial (k := 70 + 3 * i) (p := 102 + 3 * i) (j := q) m14_22 (pLc _) (tLc hi) (rfl) (by omega) (by omega) (he0) ?_
        refine g_istore (L2 := [some (.ref (101 + 3 * i)), some (.int (a)), some (.int (b)), some (.int (c)), some (.int (nI (s.length))), some (.int (nI (q))), some (.int (2)), o7, o8, o9]) m14_23 rfl rfl ?_
        refine g_iload m14_25 rfl ?_
        refine g_sipush m14_27 ?_
        refine h_ic_geF (xi := 2) (zi := 1000) m14_30 rfl rfl (by decide) ?_
        refine g_iload m14_33 rfl ?_
        refine g_iconst m14_35 ?_
        refine h_ic_geF (xi := 2) (zi := 3) m14_36 rfl rfl (by decide) ?_
        refine g_iconst m14_39 ?_
        refine g_goto m14_40 ?_
        refine g_istore (L2 := [some (.ref (101 + 3 * i)), some (.int (a)), some (.int (b)), some (.int (c)), some (.int (nI (s.length))), some (.int (nI (q))), some (.int (2)), some (.int (0)), o8, o9]) m14_55 rfl rfl ?_
        refine g_iload m14_57 rfl ?_
        refine g_iload m14_59 rfl ?_
        refine g_isub (u := nI (s.length)) m14_61 (by show nI s.length - nI 0 = nI s.length; rw [pk_sub (Nat.zero_le _), Nat.sub_zero]) ?_
        refine g_istore (L2 := [some (.ref (101 + 3 * i)), some (.int (a)), some (.int (b)), some (.int (c)), some (.int (nI (s.length))), some (.int (nI (q))), some (.int (2)), some (.int (0)), o8, o9]) m14_62 rfl rfl ?_
        refine g_iload m14_64 rfl ?_
        refine h_if_ltF (xi := ((s.length : Nat) : Int)) (zi := 0) m14_66 (nI_toInt (by omega)) rfl (by omega) ?_
        refine g_iload m14_69 rfl ?_
        refine g_aload_n m14_71 rfl ?_
        refine h_gfR (c := 103 + 3 * i) (k := 69 + 3 * i) (p := 101 + 3 * i) m14_72 (pLo _) (tLo hi) rfl (le3 (Nat.le_of_ble_eq_true rfl)) ?_
        refine h_alen (k := 71 + 3 * i) (p := 103 + 3 * i) m14_75 (pLw _) (tLw hi) (Or.inl rfl) ?_
        refine h_ic_ltT (xi := ((s.length : Nat) : Int)) (zi := ((ln i : Nat) : Int)) m14_76 (nI_toInt (by omega)) (nI_toInt (by omega)) (by omega) ?_
        refine g_aload_n m14_81 rfl ?_
        refine h_gfR (c := 103 + 3 * i) (k := 69 + 3 * i) (p := 101 + 3 * i) m14_82 (pLo _) (tLo hi) rfl (le3 (Nat.le_of_ble_eq_true rfl)) ?_
        refine g_iload m14_85 rfl ?_
        refine h_ial (k := 71 + 3 * i) (p := 103 + 3 * i) (j := s.length) m14_87 (pLw _) (tLw hi) (rfl) (by omega) (by omega) (rfl) ?_
        refine g_istore (L2 := [some (.ref (101 + 3 * i)), some (.int (a)), some (.int (b)), some (.int (c)), some (.int (nI (s.length))), some (.int (nI (q))), some (.int (2)), some (.int (0)), some (.int (m2 (71 + 3 * i) s.length)), o9]) m14_88 rfl rfl ?_
        refine g_iload m14_90 rfl ?_
        refine g_iconst m14_92 ?_
        refine g_iadd (u := nI ((s.length) + 1)) m14_93 (nI_add (s.length) 1) ?_
        refine g_aload_n m14_94 rfl ?_
        refine h_gfR (c := 103 + 3 * i) (k := 69 + 3 * i) (p := 101 + 3 * i) m14_95 (pLo _) (tLo hi) rfl (le3 (Nat.le_of_ble_eq_true rfl)) ?_
        refine h_alen (k := 71 + 3 * i) (p := 103 + 3 * i) m14_98 (pLw _) (tLw hi) (Or.inl rfl) ?_
        refine h_ic_ge (xi := (((s.length) + 1 : Nat) : Int)) (zi := ((ln i : Nat) : Int)) m14_99 (nI_toInt (by omega)) (nI_toInt (by omega)) (fun c3 => ?_) (fun c3 => ?_)
        · skip
          refine g_iconst m14_114 ?_
          refine g_istore (L2 := [some (.ref (101 + 3 * i)), some (.int (a)), some (.int (b)), some (.int (c)), some (.int (nI (s.length))), some (.int (nI (q))), some (.int (2)), some (.int (0)), some (.int (m2 (71 + 3 * i) s.length)), some (.int (0))]) m14_115 rfl rfl ?_
          refine g_iload m14_117 rfl ?_
          refine gs m14_119 ?_
          refine gwpc (pc' := 262) rfl ?_
          refine g_aload_n m14_262 rfl ?_
          refine h_gfR (c := 103 + 3 * i) (k := 69 + 3 * i) (p := 101 + 3 * i) m14_263 (pLo _) (tLo hi) rfl (le3 (Nat.le_of_ble_eq_true rfl)) ?_
          refine g_iload m14_266 rfl ?_
          refine g_iload_n m14_268 rfl ?_
          refine h_ias (k := 71 + 3 * i) (p := 103 + 3 * i) (j := s.length) m14_269 (pLw _) (tLw hi) (rfl) (by omega) (by omega) ?_
          refine g_goto m14_270 ?_
          refine gwl (L' := [some (.ref (101 + 3 * i)), some (.int a), some (.int b), some (.int c), some (.int (nI (s.length))), some (.int (nI q)), _, _, _, _]) rfl ?_
          refine g_iinc (L2 := [some (.ref (101 + 3 * i)), some (.int (a)), some (.int (b)), some (.int (c)), some (.int (nI ((s.length) + 1))), some (.int (nI (q))), some (.int (2)), some (.int (0)), some (.int (m2 (71 + 3 * i) s.length)), some (.int (0))]) m14_515 rfl (nI_1 _) rfl rfl ?_
          refine g_iinc (L2 := [some (.ref (101 + 3 * i)), some (.int (a)), some (.int (b)), some (.int (c)), some (.int (nI ((s.length) + 1))), some (.int (nI (q + 1))), some (.int (2)), some (.int (0)), some (.int (m2 (71 + 3 * i) s.length)), some (.int (0))]) m14_518 rfl (nI_1 _) rfl rfl ?_
          refine g_goto m14_521 ?_
          rw [ev_2] at hev
          obtain rfl := Option.some.inj hev
          exact ih (q + 1) _ _ _ _ _ _ (by omega) hs2 (by show s.length + 1 ≤ q + 1; omega) (Stk_pushE rfl rfl hst) (EqM_w hE _ _ _)
        · skip
          refine g_aload_n m14_102 rfl ?_
          refine h_gfR (c := 103 + 3 * i) (k := 69 + 3 * i) (p := 101 + 3 * i) m14_103 (pLo _) (tLo hi) rfl (le3 (Nat.le_of_ble_eq_true rfl)) ?_
          refine g_iload m14_106 rfl ?_
          refine g_iconst m14_108 ?_
          refine g_iadd (u := nI ((s.length) + 1)) m14_109 (nI_add (s.length) 1) ?_
          refine h_ial (k := 71 + 3 * i) (p := 103 + 3 * i) (j := (s.length) + 1) m14_110 (pLw _) (tLw hi) (rfl) (by omega) (by omega) (rfl) ?_
          refine g_goto m14_111 ?_
          refine g_istore (L2 := [some (.ref (101 + 3 * i)), some (.int (a)), some (.int (b)), some (.int (c)), some (.int (nI (s.length))), some (.int (nI (q))), some (.int (2)), some (.int (0)), some (.int (m2 (71 + 3 * i) s.length)), some (.int (m2 (71 + 3 * i) ((s.length) + 1)))]) m14_115 rfl rfl ?_
          refine g_iload m14_117 rfl ?_
          refine gs m14_119 ?_
          refine gwpc (pc' := 262) rfl ?_
          refine g_aload_n m14_262 rfl ?_
          refine h_gfR (c := 103 + 3 * i) (k := 69 + 3 * i) (p := 101 + 3 * i) m14_263 (pLo _) (tLo hi) rfl (le3 (Nat.le_of_ble_eq_true rfl)) ?_
          refine g_iload m14_266 rfl ?_
          refine g_iload_n m14_268 rfl ?_
          refine h_ias (k := 71 + 3 * i) (p := 103 + 3 * i) (j := s.length) m14_269 (pLw _) (tLw hi) (rfl) (by omega) (by omega) ?_
          refine g_goto m14_270 ?_
          refine gwl (L' := [some (.ref (101 + 3 * i)), some (.int a), some (.int b), some (.int c), some (.int (nI (s.length))), some (.int (nI q)), _, _, _, _]) rfl ?_
          refine g_iinc (L2 := [some (.ref (101 + 3 * i)), some (.int (a)), some (.int (b)), some (.int (c)), some (.int (nI ((s.length) + 1))), some (.int (nI (q))), some (.int (2)), some (.int (0)), some (.int (m2 (71 + 3 * i) s.length)), some (.int (m2 (71 + 3 * i) ((s.length) + 1)))]) m14_515 rfl (nI_1 _) rfl rfl ?_
          refine g_iinc (L2 := [some (.ref (101 + 3 * i)), some (.int (a)), some (.int (b)), some (.int (c)), some (.int (nI ((s.length) + 1))), some (.int (nI (q + 1))), some (.int (2)), some (.int (0)), some (.int (m2 (71 + 3 * i) s.length)), some (.int (m2 (71 + 3 * i) ((s.length) + 1)))]) m14_518 rfl (nI_1 _) rfl rfl ?_
          refine g_goto m14_521 ?_
          rw [ev_2] at hev
          obtain rfl := Option.some.inj hev
          exact ih (q + 1) _ _ _ _ _ _ (by omega) hs2 (by show s.length + 1 ≤ q + 1; omega) (Stk_pushE rfl rfl hst) (EqM_w hE _ _ _)
      by_cases hk33 : kk = 33
      · subst hk33
        match s, hl, hst, hev with
        | [], _, _, hev => cases hev
        | p :: r, hl, hst, hev =>
          have hl2 : r.length + 1 ≤ q := hl
          refine g_iload m14_6 rfl ?_
          refine g_aload_n m14_8 rfl ?_
          refine h_gfR (c := 102 + 3 * i) (k := 69 + 3 * i) (p := 101 + 3 * i) m14_9 (pLo _) (tLo hi) rfl (le3 (Nat.le_of_ble_eq_true rfl)) ?_
          refine h_alen (k := 70 + 3 * i) (p := 102 + 3 * i) m14_12 (pLc _) (tLc hi) (Or.inl rfl) ?_
          refine h_ic_geF (xi := ((q : Nat) : Int)) (zi := ((ln i : Nat) : Int)) m14_13 (nI_toInt (by omega)) (nI_toInt (by omega)) (by omega) ?_
          refine g_aload_n m14_16 rfl ?_
          refine h_gfR (c := 102 + 3 * i) (k := 69 + 3 * i) (p := 101 + 3 * i) m14_17 (pLo _) (tLo hi) rfl (le3 (Nat.le_of_ble_eq_true rfl)) ?_
          refine g_iload m14_20 rfl ?_
          refine h_ial (k := 70 + 3 * i) (p := 102 + 3 * i) (j := q) m14_22 (pLc _) (tLc hi) (rfl) (by omega) (by omega) (he0) ?_
          refine g_istore (L2 := [some (.ref (101 + 3 * i)), some (.int (a)), some (.int (b)), some (.int (c)), some (.int (nI ((p :: r).length))), some (.int (nI (q))), some (.int (33)), o7, o8, o9]) m14_23 rfl rfl ?_
          refine g_iload m14_25 rfl ?_
          refine g_sipush m14_27 ?_
          refine h_ic_geF (xi := 33) (zi := 1000) m14_30 rfl rfl (by decide) ?_
          refine g_iload m14_33 rfl ?_
          refine g_iconst m14_35 ?_
          refine h_ic_geT (xi := 33) (zi := 3) m14_36 rfl rfl (by decide) ?_
          refine g_iload m14_43 rfl ?_
          refine g_bipush m14_45 ?_
          refine h_ic_neT (xi := 33) (zi := 33) m14_47 rfl rfl (by decide) ?_
          refine g_iconst m14_50 ?_
          refine g_goto m14_51 ?_
          refine g_istore (L2 := [some (.ref (101 + 3 * i)), some (.int (a)), some (.int (b)), some (.int (c)), some (.int (nI ((p :: r).length))), some (.int (nI (q))), some (.int (33)), some (.int (1)), o8, o9]) m14_55 rfl rfl ?_
          refine g_iload m14_57 rfl ?_
          refine g_iload m14_59 rfl ?_
          refine g_isub (u := nI (r.length)) m14_61 (pk_sub (a := r.length + 1) (b := 1) (by omega)) ?_
          refine g_istore (L2 := [some (.ref (101 + 3 * i)), some (.int (a)), some (.int (b)), some (.int (c)), some (.int (nI (r.length))), some (.int (nI (q))), some (.int (33)), some (.int (1)), o8, o9]) m14_62 rfl rfl ?_
          refine g_iload m14_64 rfl ?_
          refine h_if_ltF (xi := ((r.length : Nat) : Int)) (zi := 0) m14_66 (nI_toInt (by omega)) rfl (by omega) ?_
          refine g_iload m14_69 rfl ?_
          refine g_aload_n m14_71 rfl ?_
          refine h_gfR (c := 103 + 3 * i) (k := 69 + 3 * i) (p := 101 + 3 * i) m14_72 (pLo _) (tLo hi) rfl (le3 (Nat.le_of_ble_eq_true rfl)) ?_
          refine h_alen (k := 71 + 3 * i) (p := 103 + 3 * i) m14_75 (pLw _) (tLw hi) (Or.inl rfl) ?_
          refine h_ic_ltT (xi := ((r.length : Nat) : Int)) (zi := ((ln i : Nat) : Int)) m14_76 (nI_toInt (by omega)) (nI_toInt (by omega)) (by omega) ?_
          refine g_aload_n m14_81 rfl ?_
          refine h_gfR (c := 103 + 3 * i) (k := 69 + 3 * i) (p := 101 + 3 * i) m14_82 (pLo _) (tLo hi) rfl (le3 (Nat.le_of_ble_eq_true rfl)) ?_
          refine g_iload m14_85 rfl ?_
          refine h_ial (k := 71 + 3 * i) (p := 103 + 3 * i) (j := r.length) m14_87 (pLw _) (tLw hi) (rfl) (by omega) (by omega) (hst.1) ?_
          refine g_istore (L2 := [some (.ref (101 + 3 * i)), some (.int (a)), some (.int (b)), some (.int (c)), some (.int (nI (r.length))), some (.int (nI (q))), some (.int (33)), some (.int (1)), some (.int (p)), o9]) m14_88 rfl rfl ?_
          refine g_iload m14_90 rfl ?_
          refine g_iconst m14_92 ?_
          refine g_iadd (u := nI ((r.length) + 1)) m14_93 (nI_add (r.length) 1) ?_
          refine g_aload_n m14_94 rfl ?_
          refine h_gfR (c := 103 + 3 * i) (k := 69 + 3 * i) (p := 101 + 3 * i) m14_95 (pLo _) (tLo hi) rfl (le3 (Nat.le_of_ble_eq_true rfl)) ?_
          refine h_alen (k := 71 + 3 * i) (p := 103 + 3 * i) m14_98 (pLw _) (tLw hi) (Or.inl rfl) ?_
          refine h_ic_ge (xi := (((r.length) + 1 : Nat) : Int)) (zi := ((ln i : Nat) : Int)) m14_99 (nI_toInt (by omega)) (nI_toInt (by omega)) (fun c4 => ?_) (fun c4 => ?_)
          · skip
            refine g_iconst m14_114 ?_
            refine g_istore (L2 := [some (.ref (101 + 3 * i)), some (.int (a)), some (.int (b)), some (.int (c)), some (.int (nI (r.length))), some (.int (nI (q))), some (.int (33)), some (.int (1)), some (.int (p)), some (.int (0))]) m14_115 rfl rfl ?_
            refine g_iload m14_117 rfl ?_
            refine gs m14_119 ?_
            refine gwpc (pc' := 273) rfl ?_
            refine g_aload_n m14_273 rfl ?_
            refine h_gfR (c := 103 + 3 * i) (k := 69 + 3 * i) (p := 101 + 3 * i) m14_274 (pLo _) (tLo hi) rfl (le3 (Nat.le_of_ble_eq_true rfl)) ?_
            refine g_iload m14_277 rfl ?_
            refine g_iload m14_279 rfl ?_
            refine h_if_ne (xi := _) (zi := 0) m14_281 rfl rfl (fun c5 => ?_) (fun c5 => ?_)
            · skip
              refine g_iconst m14_284 ?_
              refine g_goto m14_285 ?_
              refine h_ias (k := 71 + 3 * i) (p := 103 + 3 * i) (j := r.length) m14_289 (pLw _) (tLw hi) (rfl) (by omega) (by omega) ?_
              refine g_goto m14_290 ?_
              refine gwl (L' := [some (.ref (101 + 3 * i)), some (.int a), some (.int b), some (.int c), some (.int (nI (r.length))), some (.int (nI q)), _, _, _, _]) rfl ?_
              refine g_iinc (L2 := [some (.ref (101 + 3 * i)), some (.int (a)), some (.int (b)), some (.int (c)), some (.int (nI ((r.length) + 1))), some (.int (nI (q))), some (.int (33)), some (.int (1)), some (.int (p)), some (.int (0))]) m14_515 rfl (nI_1 _) rfl rfl ?_
              refine g_iinc (L2 := [some (.ref (101 + 3 * i)), some (.int (a)), some (.int (b)), some (.int (c)), some (.int (nI ((r.length) + 1))), some (.int (nI (q + 1))), some (.int (33)), some (.int (1)), some (.int (p)), some (.int (0))]) m14_518 rfl (nI_1 _) rfl rfl ?_
              refine g_goto m14_521 ?_
              rw [ev_33] at hev
              obtain rfl := Option.some.inj hev
              exact ih (q + 1) _ _ _ _ _ _ (by omega) hs2 (by show r.length + 1 ≤ q + 1; omega) (Stk_pushE (by simp [c4, c5]) rfl hst.2) (EqM_w hE _ _ _)
            · skip
              refine g_iconst m14_288 ?_
              refine h_ias (k := 71 + 3 * i) (p := 103 + 3 * i) (j := r.length) m14_289 (pLw _) (tLw hi) (rfl) (by omega) (by omega) ?_
              refine g_goto m14_290 ?_
              refine gwl (L' := [some (.ref (101 + 3 * i)), some (.int a), some (.int b), some (.int c), some (.int (nI (r.length))), some (.int (nI q)), _, _, _, _]) rfl ?_
              refine g_iinc (L2 := [some (.ref (101 + 3 * i)), some (.int (a)), some (.int (b)), some (.int (c)), some (.int (nI ((r.length) + 1))), some (.int (nI (q))), some (.int (33)), some (.int (1)), some (.int (p)), some (.int (0))]) m14_515 rfl (nI_1 _) rfl rfl ?_
              refine g_iinc (L2 := [some (.ref (101 + 3 * i)), some (.int (a)), some (.int (b)), some (.int (c)), some (.int (nI ((r.length) + 1))), some (.int (nI (q + 1))), some (.int (33)), some (.int (1)), some (.int (p)), some (.int (0))]) m14_518 rfl (nI_1 _) rfl rfl ?_
              refine g_goto m14_521 ?_
              rw [ev_33] at hev
              obtain rfl := Option.some.inj hev
              exact ih (q + 1) _ _ _ _ _ _ (by omega) hs2 (by show r.length + 1 ≤ q + 1; omega) (Stk_pushE (by simp [c4, c5]) rfl hst.2) (EqM_w hE _ _ _)
          · skip
            refine g_aload_n m14_102 rfl ?_
            refine h_gfR (c := 103 + 3 * i) (k := 69 + 3 * i) (p := 101 + 3 * i) m14_103 (pLo _) (tLo hi) rfl (le3 (Nat.le_of_ble_eq_true rfl)) ?_
            refine g_iload m14_106 rfl ?_
            refine g_iconst m14_108 ?_
            refine g_iadd (u := nI ((r.length) + 1)) m14_109 (nI_add (r.length) 1) ?_
            refine h_ial (k := 71 + 3 * i) (p := 103 + 3 * i) (j := (r.length) + 1) m14_110 (pLw _) (tLw hi) (rfl) (by omega) (by omega) (rfl) ?_
            refine g_goto m14_111 ?_
            refine g_istore (L2 := [some (.ref (101 + 3 * i)), some (.int (a)), some (.int (b)), some (.int (c)), some (.int (nI (r.length))), some (.int (nI (q))), some (.int (33)), some (.int (1)), some (.int (p)), some (.int (m2 (71 + 3 * i) ((r.length) + 1)))]) m14_115 rfl rfl ?_
            refine g_iload m14_117 rfl ?_
            refine gs m14_119 ?_
            refine gwpc (pc' := 273) rfl ?_
            refine g_aload_n m14_273 rfl ?_
            refine h_gfR (c := 103 + 3 * i) (k := 69 + 3 * i) (p := 101 + 3 * i) m14_274 (pLo _) (tLo hi) rfl (le3 (Nat.le_of_ble_eq_true rfl)) ?_
            refine g_iload m14_277 rfl ?_
            refine g_iload m14_279 rfl ?_
            refine h_if_ne (xi := _) (zi := 0) m14_281 rfl rfl (fun c6 => ?_) (fun c6 => ?_)
            · skip
              refine g_iconst m14_284 ?_
              refine g_goto m14_285 ?_
              refine h_ias (k := 71 + 3 * i) (p := 103 + 3 * i) (j := r.length) m14_289 (pLw _) (tLw hi) (rfl) (by omega) (by omega) ?_
              refine g_goto m14_290 ?_
              refine gwl (L' := [some (.ref (101 + 3 * i)), some (.int a), some (.int b), some (.int c), some (.int (nI (r.length))), some (.int (nI q)), _, _, _, _]) rfl ?_
              refine g_iinc (L2 := [some (.ref (101 + 3 * i)), some (.int (a)), some (.int (b)), some (.int (c)), some (.int (nI ((r.length) + 1))), some (.int (nI (q))), some (.int (33)), some (.int (1)), some (.int (p)), some (.int (m2 (71 + 3 * i) ((r.length) + 1)))]) m14_515 rfl (nI_1 _) rfl rfl ?_
              refine g_iinc (L2 := [some (.ref (101 + 3 * i)), some (.int (a)), some (.int (b)), some (.int (c)), some (.int (nI ((r.length) + 1))), some (.int (nI (q + 1))), some (.int (33)), some (.int (1)), some (.int (p)), some (.int (m2 (71 + 3 * i) ((r.length) + 1)))]) m14_518 rfl (nI_1 _) rfl rfl ?_
              refine g_goto m14_521 ?_
              rw [ev_33] at hev
              obtain rfl := Option.some.inj hev
              exact ih (q + 1) _ _ _ _ _ _ (by omega) hs2 (by show r.length + 1 ≤ q + 1; omega) (Stk_pushE (by simp [c4, c6]) rfl hst.2) (EqM_w hE _ _ _)
            · skip
              refine g_iconst m14_288 ?_
              refine h_ias (k := 71 + 3 * i) (p := 103 + 3 * i) (j := r.length) m14_289 (pLw _) (tLw hi) (rfl) (by omega) (by omega) ?_
              refine g_goto m14_290 ?_
              refine gwl (L' := [some (.ref (101 + 3 * i)), some (.int a), some (.int b), some (.int c), some (.int (nI (r.length))), some (.int (nI q)), _, _, _, _]) rfl ?_
              refine g_iinc (L2 := [some (.ref (101 + 3 * i)), some (.int (a)), some (.int (b)), some (.int (c)), some (.int (nI ((r.length) + 1))), some (.int (nI (q))), some (.int (33)), some (.int (1)), some (.int (p)), some (.int (m2 (71 + 3 * i) ((r.length) + 1)))]) m14_515 rfl (nI_1 _) rfl rfl ?_
              refine g_iinc (L2 := [some (.ref (101 + 3 * i)), some (.int (a)), some (.int (b)), some (.int (c)), some (.int (nI ((r.length) + 1))), some (.int (nI (q + 1))), some (.int (33)), some (.int (1)), some (.int (p)), some (.int (m2 (71 + 3 * i) ((r.length) + 1)))]) m14_518 rfl (nI_1 _) rfl rfl ?_
              refine g_goto m14_521 ?_
              rw [ev_33] at hev
              obtain rfl := Option.some.inj hev
              exact ih (q + 1) _ _ _ _ _ _ (by omega) hs2 (by show r.length + 1 ≤ q + 1; omega) (Stk_pushE (by simp [c4, c6]) rfl hst.2) (EqM_w hE _ _ _)
      by_cases hk43 : kk = 43
      · subst hk43
        match s, hl, hst, hev with
        | [], _, _, hev => cases hev
        | [_], _, _, hev => cases hev
        | y :: x :: r, hl, hst, hev =>
          have hl2 : r.length + 1 + 1 ≤ q := hl
          refine g_iload m14_6 rfl ?_
          refine g_aload_n m14_8 rfl ?_
          refine h_gfR (c := 102 + 3 * i) (k := 69 + 3 * i) (p := 101 + 3 * i) m14_9 (pLo _) (tLo hi) rfl (le3 (Nat.le_of_ble_eq_true rfl)) ?_
          refine h_alen (k := 70 + 3 * i) (p := 102 + 3 * i) m14_12 (pLc _) (tLc hi) (Or.inl rfl) ?_
          refine h_ic_geF (xi := ((q : Nat) : Int)) (zi := ((ln i : Nat) : Int)) m14_13 (nI_toInt (by omega)) (nI_toInt (by omega)) (by omega) ?_
          refine g_aload_n m14_16 rfl ?_
          refine h_gfR (c := 102 + 3 * i) (k := 69 + 3 * i) (p := 101 + 3 * i) m14_17 (pLo _) (tLo hi) rfl (le3 (Nat.le_of_ble_eq_true rfl)) ?_
          refine g_iload m14_20 rfl ?_
          refine h_ial (k := 70 + 3 * i) (p := 102 + 3 * i) (j := q) m14_22 (pLc _) (tLc hi) (rfl) (by omega) (by omega) (he0) ?_
          refine g_istore (L2 := [some (.ref (101 + 3 * i)), some (.int (a)), some (.int (b)), some (.int (c)), some (.int (nI ((y :: x :: r).length))), some (.int (nI (q))), some (.int (43)), o7, o8, o9]) m14_23 rfl rfl ?_
          refine g_iload m14_25 rfl ?_
          refine g_sipush m14_27 ?_
          refine h_ic_geF (xi := 43) (zi := 1000) m14_30 rfl rfl (by decide) ?_
          refine g_iload m14_33 rfl ?_
          refine g_iconst m14_35 ?_
          refine h_ic_geT (xi := 43) (zi := 3) m14_36 rfl rfl (by decide) ?_
          refine g_iload m14_43 rfl ?_
          refine g_bipush m14_45 ?_
          refine h_ic_neF (xi := 43) (zi := 33) m14_47 rfl rfl (by decide) ?_
          refine g_iconst m14_54 ?_
          refine g_istore (L2 := [some (.ref (101 + 3 * i)), some (.int (a)), some (.int (b)), some (.int (c)), some (.int (nI ((y :: x :: r).length))), some (.int (nI (q))), some (.int (43)), some (.int (2)), o8, o9]) m14_55 rfl rfl ?_
          refine g_iload m14_57 rfl ?_
          refine g_iload m14_59 rfl ?_
          refine g_isub (u := nI (r.length)) m14_61 (pk_sub (a := r.length + 1 + 1) (b := 2) (by omega)) ?_
          refine g_istore (L2 := [some (.ref (101 + 3 * i)), some (.int (a)), some (.int (b)), some (.int (c)), some (.int (nI (r.length))), some (.int (nI (q))), some (.int (43)), some (.int (2)), o8, o9]) m14_62 rfl rfl ?_
          refine g_iload m14_64 rfl ?_
          refine h_if_ltF (xi := ((r.length : Nat) : Int)) (zi := 0) m14_66 (nI_toInt (by omega)) rfl (by omega) ?_
          refine g_iload m14_69 rfl ?_
          refine g_aload_n m14_71 rfl ?_
          refine h_gfR (c := 103 + 3 * i) (k := 69 + 3 * i) (p := 101 + 3 * i) m14_72 (pLo _) (tLo hi) rfl (le3 (Nat.le_of_ble_eq_true rfl)) ?_
          refine h_alen (k := 71 + 3 * i) (p := 103 + 3 * i) m14_75 (pLw _) (tLw hi) (Or.inl rfl) ?_
          refine h_ic_ltT (xi := ((r.length : Nat) : Int)) (zi := ((ln i : Nat) : Int)) m14_76 (nI_toInt (by omega)) (nI_toInt (by omega)) (by omega) ?_
          refine g_aload_n m14_81 rfl ?_
          refine h_gfR (c := 103 + 3 * i) (k := 69 + 3 * i) (p := 101 + 3 * i) m14_82 (pLo _) (tLo hi) rfl (le3 (Nat.le_of_ble_eq_true rfl)) ?_
          refine g_iload m14_85 rfl ?_
          refine h_ial (k := 71 + 3 * i) (p := 103 + 3 * i) (j := r.length) m14_87 (pLw _) (tLw hi) (rfl) (by omega) (by omega) (hst.2.1) ?_
          refine g_istore (L2 := [some (.ref (101 + 3 * i)), some (.int (a)), some (.int (b)), some (.int (c)), some (.int (nI (r.length))), some (.int (nI (q))), some (.int (43)), some (.int (2)), some (.int (x)), o9]) m14_88 rfl rfl ?_
          refine g_iload m14_90 rfl ?_
          refine g_iconst m14_92 ?_
          refine g_iadd (u := nI ((r.length) + 1)) m14_93 (nI_add (r.length) 1) ?_
          refine g_aload_n m14_94 rfl ?_
          refine h_gfR (c := 103 + 3 * i) (k := 69 + 3 * i) (p := 101 + 3 * i) m14_95 (pLo _) (tLo hi) rfl (le3 (Nat.le_of_ble_eq_true rfl)) ?_
          refine h_alen (k := 71 + 3 * i) (p := 103 + 3 * i) m14_98 (pLw _) (tLw hi) (Or.inl rfl) ?_
          refine h_ic_geF (xi := (((r.length) + 1 : Nat) : Int)) (zi := ((ln i : Nat) : Int)) m14_99 (nI_toInt (by omega)) (nI_toInt (by omega)) (by omega) ?_
          refine g_aload_n m14_102 rfl ?_
          refine h_gfR (c := 103 + 3 * i) (k := 69 + 3 * i) (p := 101 + 3 * i) m14_103 (pLo _) (tLo hi) rfl (le3 (Nat.le_of_ble_eq_true rfl)) ?_
          refine g_iload m14_106 rfl ?_
          refine g_iconst m14_108 ?_
          refine g_iadd (u := nI ((r.length) + 1)) m14_109 (nI_add (r.length) 1) ?_
          refine h_ial (k := 71 + 3 * i) (p := 103 + 3 * i) (j := r.length + 1) m14_110 (pLw _) (tLw hi) (rfl) (by omega) (by omega) (hst.1) ?_
          refine g_goto m14_111 ?_
          refine g_istore (L2 := [some (.ref (101 + 3 * i)), some (.int (a)), some (.int (b)), some (.int (c)), some (.int (nI (r.length))), some (.int (nI (q))), some (.int (43)), some (.int (2)), some (.int (x)), some (.int (y))]) m14_115 rfl rfl ?_
          refine g_iload m14_117 rfl ?_
          refine gs m14_119 ?_
          refine gwpc (pc' := 293) rfl ?_
          refine g_aload_n m14_293 rfl ?_
          refine h_gfR (c := 103 + 3 * i) (k := 69 + 3 * i) (p := 101 + 3 * i) m14_294 (pLo _) (tLo hi) rfl (le3 (Nat.le_of_ble_eq_true rfl)) ?_
          refine g_iload m14_297 rfl ?_
          refine g_iload m14_299 rfl ?_
          refine g_iload m14_301 rfl ?_
          refine g_iadd m14_303 rfl ?_
          refine h_ias (k := 71 + 3 * i) (p := 103 + 3 * i) (j := r.length) m14_304 (pLw _) (tLw hi) (rfl) (by omega) (by omega) ?_
          refine g_goto m14_305 ?_
          refine gwl (L' := [some (.ref (101 + 3 * i)), some (.int a), some (.int b), some (.int c), some (.int (nI (r.length))), some (.int (nI q)), _, _, _, _]) rfl ?_
          refine g_iinc (L2 := [some (.ref (101 + 3 * i)), some (.int (a)), some (.int (b)), some (.int (c)), some (.int (nI ((r.length) + 1))), some (.int (nI (q))), some (.int (43)), some (.int (2)), some (.int (x)), some (.int (y))]) m14_515 rfl (nI_1 _) rfl rfl ?_
          refine g_iinc (L2 := [some (.ref (101 + 3 * i)), some (.int (a)), some (.int (b)), some (.int (c)), some (.int (nI ((r.length) + 1))), some (.int (nI (q + 1))), some (.int (43)), some (.int (2)), some (.int (x)), some (.int (y))]) m14_518 rfl (nI_1 _) rfl rfl ?_
          refine g_goto m14_521 ?_
          rw [ev_43] at hev
          obtain rfl := Option.some.inj hev
          exact ih (q + 1) _ _ _ _ _ _ (by omega) hs2 (by show r.length + 1 ≤ q + 1; omega) (Stk_pushE rfl rfl hst.2.2) (EqM_w hE _ _ _)
      by_cases hk45 : kk = 45
      · subst hk45
        match s, hl, hst, hev with
        | [], _, _, hev => cases hev
        | [_], _, _, hev => cases hev
        | y :: x :: r, hl, hst, hev =>
          have hl2 : r.length + 1 + 1 ≤ q := hl
          refine g_iload m14_6 rfl ?_
          refine g_aload_n m14_8 rfl ?_
          refine h_gfR (c := 102 + 3 * i) (k := 69 + 3 * i) (p := 101 + 3 * i) m14_9 (pLo _) (tLo hi) rfl (le3 (Nat.le_of_ble_eq_true rfl)) ?_
          refine h_alen (k := 70 + 3 * i) (p := 102 + 3 * i) m14_12 (pLc _) (tLc hi) (Or.inl rfl) ?_
          refine h_ic_geF (xi := ((q : Nat) : Int)) (zi := ((ln i : Nat) : Int)) m14_13 (nI_toInt (by omega)) (nI_toInt (by omega)) (by omega) ?_
          refine g_aload_n m14_16 rfl ?_
          refine h_gfR (c := 102 + 3 * i) (k := 69 + 3 * i) (p := 101 + 3 * i) m14_17 (pLo _) (tLo hi) rfl (le3 (Nat.le_of_ble_eq_true rfl)) ?_
          refine g_iload m14_20 rfl ?_
          refine h_ial (k := 70 + 3 * i) (p := 102 + 3 * i) (j := q) m14_22 (pLc _) (tLc hi) (rfl) (by omega) (by omega) (he0) ?_
          refine g_istore (L2 := [some (.ref (101 + 3 * i)), some (.int (a)), some (.int (b)), some (.int (c)), some (.int (nI ((y :: x :: r).length))), some (.int (nI (q))), some (.int (45)), o7, o8, o9]) m14_23 rfl rfl ?_
          refine g_iload m14_25 rfl ?_
          refine g_sipush m14_27 ?_
          refine h_ic_geF (xi := 45) (zi := 1000) m14_30 rfl rfl (by decide) ?_
          refine g_iload m14_33 rfl ?_
          refine g_iconst m14_35 ?_
          refine h_ic_geT (xi := 45) (zi := 3) m14_36 rfl rfl (by decide) ?_
          refine g_iload m14_43 rfl ?_
          refine g_bipush m14_45 ?_
          refine h_ic_neF (xi := 45) (zi := 33) m14_47 rfl rfl (by decide) ?_
          refine g_iconst m14_54 ?_
          refine g_istore (L2 := [some (.ref (101 + 3 * i)), some (.int (a)), some (.int (b)), some (.int (c)), some (.int (nI ((y :: x :: r).length))), some (.int (nI (q))), some (.int (45)), some (.int (2)), o8, o9]) m14_55 rfl rfl ?_
          refine g_iload m14_57 rfl ?_
          refine g_iload m14_59 rfl ?_
          refine g_isub (u := nI (r.length)) m14_61 (pk_sub (a := r.length + 1 + 1) (b := 2) (by omega)) ?_
          refine g_istore (L2 := [some (.ref (101 + 3 * i)), some (.int (a)), some (.int (b)), some (.int (c)), some (.int (nI (r.length))), some (.int (nI (q))), some (.int (45)), some (.int (2)), o8, o9]) m14_62 rfl rfl ?_
          refine g_iload m14_64 rfl ?_
          refine h_if_ltF (xi := ((r.length : Nat) : Int)) (zi := 0) m14_66 (nI_toInt (by omega)) rfl (by omega) ?_
          refine g_iload m14_69 rfl ?_
          refine g_aload_n m14_71 rfl ?_
          refine h_gfR (c := 103 + 3 * i) (k := 69 + 3 * i) (p := 101 + 3 * i) m14_72 (pLo _) (tLo hi) rfl (le3 (Nat.le_of_ble_eq_true rfl)) ?_
          refine h_alen (k := 71 + 3 * i) (p := 103 + 3 * i) m14_75 (pLw _) (tLw hi) (Or.inl rfl) ?_
          refine h_ic_ltT (xi := ((r.length : Nat) : Int)) (zi := ((ln i : Nat) : Int)) m14_76 (nI_toInt (by omega)) (nI_toInt (by omega)) (by omega) ?_
          refine g_aload_n m14_81 rfl ?_
          refine h_gfR (c := 103 + 3 * i) (k := 69 + 3 * i) (p := 101 + 3 * i) m14_82 (pLo _) (tLo hi) rfl (le3 (Nat.le_of_ble_eq_true rfl)) ?_
          refine g_iload m14_85 rfl ?_
          refine h_ial (k := 71 + 3 * i) (p := 103 + 3 * i) (j := r.length) m14_87 (pLw _) (tLw hi) (rfl) (by omega) (by omega) (hst.2.1) ?_
          refine g_istore (L2 := [some (.ref (101 + 3 * i)), some (.int (a)), some (.int (b)), some (.int (c)), some (.int (nI (r.length))), some (.int (nI (q))), some (.int (45)), some (.int (2)), some (.int (x)), o9]) m14_88 rfl rfl ?_
          refine g_iload m14_90 rfl ?_
          refine g_iconst m14_92 ?_
          refine g_iadd (u := nI ((r.length) + 1)) m14_93 (nI_add (r.length) 1) ?_
          refine g_aload_n m14_94 rfl ?_
          refine h_gfR (c := 103 + 3 * i) (k := 69 + 3 * i) (p := 101 + 3 * i) m14_95 (pLo _) (tLo hi) rfl (le3 (Nat.le_of_ble_eq_true rfl)) ?_
          refine h_alen (k := 71 + 3 * i) (p := 103 + 3 * i) m14_98 (pLw _) (tLw hi) (Or.inl rfl) ?_
          refine h_ic_geF (xi := (((r.length) + 1 : Nat) : Int)) (zi := ((ln i : Nat) : Int)) m14_99 (nI_toInt (by omega)) (nI_toInt (by omega)) (by omega) ?_
          refine g_aload_n m14_102 rfl ?_
          refine h_gfR (c := 103 + 3 * i) (k := 69 + 3 * i) (p := 101 + 3 * i) m14_103 (pLo _) (tLo hi) rfl (le3 (Nat.le_of_ble_eq_true rfl)) ?_
          refine g_iload m14_106 rfl ?_
          refine g_iconst m14_108 ?_
          refine g_iadd (u := nI ((r.length) + 1)) m14_109 (nI_add (r.length) 1) ?_
          refine h_ial (k := 71 + 3 * i) (p := 103 + 3 * i) (j := r.length + 1) m14_110 (pLw _) (tLw hi) (rfl) (by omega) (by omega) (hst.1) ?_
          refine g_goto m14_111 ?_
          refine g_istore (L2 := [some (.ref (101 + 3 * i)), some (.int (a)), some (.int (b)), some (.int (c)), some (.int (nI (r.length))), some (.int (nI (q))), some (.int (45)), some (.int (2)), some (.int (x)), some (.int (y))]) m14_115 rfl rfl ?_
          refine g_iload m14_117 rfl ?_
          refine gs m14_119 ?_
          refine gwpc (pc' := 308) rfl ?_
          refine g_aload_n m14_308 rfl ?_
          refine h_gfR (c := 103 + 3 * i) (k := 69 + 3 * i) (p := 101 + 3 * i) m14_309 (pLo _) (tLo hi) rfl (le3 (Nat.le_of_ble_eq_true rfl)) ?_
          refine g_iload m14_312 rfl ?_
          refine g_iload m14_314 rfl ?_
          refine g_iload m14_316 rfl ?_
          refine g_isub m14_318 rfl ?_
          refine h_ias (k := 71 + 3 * i) (p := 103 + 3 * i) (j := r.length) m14_319 (pLw _) (tLw hi) (rfl) (by omega) (by omega) ?_
          refine g_goto m14_320 ?_
          refine gwl (L' := [some (.ref (101 + 3 * i)), some (.int a), some (.int b), some (.int c), some (.int (nI (r.length))), some (.int (nI q)), _, _, _, _]) rfl ?_
          refine g_iinc (L2 := [some (.ref (101 + 3 * i)), some (.int (a)), some (.int (b)), some (.int (c)), some (.int (nI ((r.length) + 1))), some (.int (nI (q))), some (.int (45)), some (.int (2)), some (.int (x)), some (.int (y))]) m14_515 rfl (nI_1 _) rfl rfl ?_
          refine g_iinc (L2 := [some (.ref (101 + 3 * i)), some (.int (a)), some (.int (b)), some (.int (c)), some (.int (nI ((r.length) + 1))), some (.int (nI (q + 1))), some (.int (45)), some (.int (2)), some (.int (x)), some (.int (y))]) m14_518 rfl (nI_1 _) rfl rfl ?_
          refine g_goto m14_521 ?_
          rw [ev_45] at hev
          obtain rfl := Option.some.inj hev
          exact ih (q + 1) _ _ _ _ _ _ (by omega) hs2 (by show r.length + 1 ≤ q + 1; omega) (Stk_pushE rfl rfl hst.2.2) (EqM_w hE _ _ _)
      by_cases hk42 : kk = 42
      · subst hk42
        match s, hl, hst, hev with
        | [], _, _, hev => cases hev
        | [_], _, _, hev => cases hev
        | y :: x :: r, hl, hst, hev =>
          have hl2 : r.length + 1 + 1 ≤ q := hl
          refine g_iload m14_6 rfl ?_
          refine g_aload_n m14_8 rfl ?_
          refine h_gfR (c := 102 + 3 * i) (k := 69 + 3 * i) (p := 101 + 3 * i) m14_9 (pLo _) (tLo hi) rfl (le3 (Nat.le_of_ble_eq_true rfl)) ?_
          refine h_alen (k := 70 + 3 * i) (p := 102 + 3 * i) m14_12 (pLc _) (tLc hi) (Or.inl rfl) ?_
          refine h_ic_geF (xi := ((q : Nat) : Int)) (zi := ((ln i : Nat) : Int)) m14_13 (nI_toInt (by omega)) (nI_toInt (by omega)) (by omega) ?_
          refine g_aload_n m14_16 rfl ?_
          refine h_gfR (c := 102 + 3 * i) (k := 69 + 3 * i) (p := 101 + 3 * i) m14_17 (pLo _) (tLo hi) rfl (le3 (Nat.le_of_ble_eq_true rfl)) ?_
          refine g_iload m14_20 rfl ?_
          refine h_ial (k := 70 + 3 * i) (p := 102 + 3 * i) (j := q) m14_22 (pLc _) (tLc hi) (rfl) (by omega) (by omega) (he0) ?_
          refine g_istore (L2 := [some (.ref (101 + 3 * i)), some (.int (a)), some (.int (b)), some (.int (c)), some (.int (nI ((y :: x :: r).length))), some (.int (nI (q))), some (.int (42)), o7, o8, o9]) m14_23 rfl rfl ?_
          refine g_iload m14_25 rfl ?_
          refine g_sipush m14_27 ?_
          refine h_ic_geF (xi := 42) (zi := 1000) m14_30 rfl rfl (by decide) ?_
          refine g_iload m14_33 rfl ?_
          refine g_iconst m14_35 ?_
          refine h_ic_geT (xi := 42) (zi := 3) m14_36 rfl rfl (by decide) ?_
          refine g_iload m14_43 rfl ?_
          refine g_bipush m14_45 ?_
          refine h_ic_neF (xi := 42) (zi := 33) m14_47 rfl rfl (by decide) ?_
          refine g_iconst m14_54 ?_
          refine g_istore (L2 := [some (.ref (101 + 3 * i)), some (.int (a)), some (.int (b)), some (.int (c)), some (.int (nI ((y :: x :: r).length))), some (.int (nI (q))), some (.int (42)), some (.int (2)), o8, o9]) m14_55 rfl rfl ?_
          refine g_iload m14_57 rfl ?_
          refine g_iload m14_59 rfl ?_
          refine g_isub (u := nI (r.length)) m14_61 (pk_sub (a := r.length + 1 + 1) (b := 2) (by omega)) ?_
          refine g_istore (L2 := [some (.ref (101 + 3 * i)), some (.int (a)), some (.int (b)), some (.int (c)), some (.int (nI (r.length))), some (.int (nI (q))), some (.int (42)), some (.int (2)), o8, o9]) m14_62 rfl rfl ?_
          refine g_iload m14_64 rfl ?_
          refine h_if_ltF (xi := ((r.length : Nat) : Int)) (zi := 0) m14_66 (nI_toInt (by omega)) rfl (by omega) ?_
          refine g_iload m14_69 rfl ?_
          refine g_aload_n m14_71 rfl ?_
          refine h_gfR (c := 103 + 3 * i) (k := 69 + 3 * i) (p := 101 + 3 * i) m14_72 (pLo _) (tLo hi) rfl (le3 (Nat.le_of_ble_eq_true rfl)) ?_
          refine h_alen (k := 71 + 3 * i) (p := 103 + 3 * i) m14_75 (pLw _) (tLw hi) (Or.inl rfl) ?_
          refine h_ic_ltT (xi := ((r.length : Nat) : Int)) (zi := ((ln i : Nat) : Int)) m14_76 (nI_toInt (by omega)) (nI_toInt (by omega)) (by omega) ?_
          refine g_aload_n m14_81 rfl ?_
          refine h_gfR (c := 103 + 3 * i) (k := 69 + 3 * i) (p := 101 + 3 * i) m14_82 (pLo _) (tLo hi) rfl (le3 (Nat.le_of_ble_eq_true rfl)) ?_
          refine g_iload m14_85 rfl ?_
          refine h_ial (k := 71 + 3 * i) (p := 103 + 3 * i) (j := r.length) m14_87 (pLw _) (tLw hi) (rfl) (by omega) (by omega) (hst.2.1) ?_
          refine g_istore (L2 := [some (.ref (101 + 3 * i)), some (.int (a)), some (.int (b)), some (.int (c)), some (.int (nI (r.length))), some (.int (nI (q))), some (.int (42)), some (.int (2)), some (.int (x)), o9]) m14_88 rfl rfl ?_
          refine g_iload m14_90 rfl ?_
          refine g_iconst m14_92 ?_
          refine g_iadd (u := nI ((r.length) + 1)) m14_93 (nI_add (r.length) 1) ?_
          refine g_aload_n m14_94 rfl ?_
          refine h_gfR (c := 103 + 3 * i) (k := 69 + 3 * i) (p := 101 + 3 * i) m14_95 (pLo _) (tLo hi) rfl (le3 (Nat.le_of_ble_eq_true rfl)) ?_
          refine h_alen (k := 71 + 3 * i) (p := 103 + 3 * i) m14_98 (pLw _) (tLw hi) (Or.inl rfl) ?_
          refine h_ic_geF (xi := (((r.length) + 1 : Nat) : Int)) (zi := ((ln i : Nat) : Int)) m14_99 (nI_toInt (by omega)) (nI_toInt (by omega)) (by omega) ?_
          refine g_aload_n m14_102 rfl ?_
          refine h_gfR (c := 103 + 3 * i) (k := 69 + 3 * i) (p := 101 + 3 * i) m14_103 (pLo _) (tLo hi) rfl (le3 (Nat.le_of_ble_eq_true rfl)) ?_
          refine g_iload m14_106 rfl ?_
          refine g_iconst m14_108 ?_
          refine g_iadd (u := nI ((r.length) + 1)) m14_109 (nI_add (r.length) 1) ?_
          refine h_ial (k := 71 + 3 * i) (p := 103 + 3 * i) (j := r.length + 1) m14_110 (pLw _) (tLw hi) (rfl) (by omega) (by omega) (hst.1) ?_
          refine g_goto m14_111 ?_
          refine g_istore (L2 := [some (.ref (101 + 3 * i)), some (.int (a)), some (.int (b)), some (.int (c)), some (.int (nI (r.length))), some (.int (nI (q))), some (.int (42)), some (.int (2)), some (.int (x)), some (.int (y))]) m14_115 rfl rfl ?_
          refine g_iload m14_117 rfl ?_
          refine gs m14_119 ?_
          refine gwpc (pc' := 323) rfl ?_
          refine g_aload_n m14_323 rfl ?_
          refine h_gfR (c := 103 + 3 * i) (k := 69 + 3 * i) (p := 101 + 3 * i) m14_324 (pLo _) (tLo hi) rfl (le3 (Nat.le_of_ble_eq_true rfl)) ?_
          refine g_iload m14_327 rfl ?_
          refine g_iload m14_329 rfl ?_
          refine g_iload m14_331 rfl ?_
          refine g_imul m14_333 rfl ?_
          refine h_ias (k := 71 + 3 * i) (p := 103 + 3 * i) (j := r.length) m14_334 (pLw _) (tLw hi) (rfl) (by omega) (by omega) ?_
          refine g_goto m14_335 ?_
          refine gwl (L' := [some (.ref (101 + 3 * i)), some (.int a), some (.int b), some (.int c), some (.int (nI (r.length))), some (.int (nI q)), _, _, _, _]) rfl ?_
          refine g_iinc (L2 := [some (.ref (101 + 3 * i)), some (.int (a)), some (.int (b)), some (.int (c)), some (.int (nI ((r.length) + 1))), some (.int (nI (q))), some (.int (42)), some (.int (2)), some (.int (x)), some (.int (y))]) m14_515 rfl (nI_1 _) rfl rfl ?_
          refine g_iinc (L2 := [some (.ref (101 + 3 * i)), some (.int (a)), some (.int (b)), some (.int (c)), some (.int (nI ((r.length) + 1))), some (.int (nI (q + 1))), some (.int (42)), some (.int (2)), some (.int (x)), some (.int (y))]) m14_518 rfl (nI_1 _) rfl rfl ?_
          refine g_goto m14_521 ?_
          rw [ev_42] at hev
          obtain rfl := Option.some.inj hev
          exact ih (q + 1) _ _ _ _ _ _ (by omega) hs2 (by show r.length + 1 ≤ q + 1; omega) (Stk_pushE rfl rfl hst.2.2) (EqM_w hE _ _ _)
      by_cases hk47 : kk = 47
      · subst hk47
        match s, hl, hst, hev with
        | [], _, _, hev => cases hev
        | [_], _, _, hev => cases hev
        | y :: x :: r, hl, hst, hev =>
          have hl2 : r.length + 1 + 1 ≤ q := hl
          refine g_iload m14_6 rfl ?_
          refine g_aload_n m14_8 rfl ?_
          refine h_gfR (c := 102 + 3 * i) (k := 69 + 3 * i) (p := 101 + 3 * i) m14_9 (pLo _) (tLo hi) rfl (le3 (Nat.le_of_ble_eq_true rfl)) ?_
          refine h_alen (k := 70 + 3 * i) (p := 102 + 3 * i) m14_12 (pLc _) (tLc hi) (Or.inl rfl) ?_
          refine h_ic_geF (xi := ((q : Nat) : Int)) (zi := ((ln i : Nat) : Int)) m14_13 (nI_toInt (by omega)) (nI_toInt (by omega)) (by omega) ?_
          refine g_aload_n m14_16 rfl ?_
          refine h_gfR (c := 102 + 3 * i) (k := 69 + 3 * i) (p := 101 + 3 * i) m14_17 (pLo _) (tLo hi) rfl (le3 (Nat.le_of_ble_eq_true rfl)) ?_
          refine g_iload m14_20 rfl ?_
          refine h_ial (k := 70 + 3 * i) (p := 102 + 3 * i) (j := q) m14_22 (pLc _) (tLc hi) (rfl) (by omega) (by omega) (he0) ?_
          refine g_istore (L2 := [some (.ref (101 + 3 * i)), some (.int (a)), some (.int (b)), some (.int (c)), some (.int (nI ((y :: x :: r).length))), some (.int (nI (q))), some (.int (47)), o7, o8, o9]) m14_23 rfl rfl ?_
          refine g_iload m14_25 rfl ?_
          refine g_sipush m14_27 ?_
          refine h_ic_geF (xi := 47) (zi := 1000) m14_30 rfl rfl (by decide) ?_
          refine g_iload m14_33 rfl ?_
          refine g_iconst m14_35 ?_
          refine h_ic_geT (xi := 47) (zi := 3) m14_36 rfl rfl (by decide) ?_
          refine g_iload m14_43 rfl ?_
          refine g_bipush m14_45 ?_
          refine h_ic_neF (xi := 47) (zi := 33) m14_47 rfl rfl (by decide) ?_
          refine g_iconst m14_54 ?_
          refine g_istore (L2 := [some (.ref (101 + 3 * i)), some (.int (a)), some (.int (b)), some (.int (c)), some (.int (nI ((y :: x :: r).length))), some (.int (nI (q))), some (.int (47)), some (.int (2)), o8, o9]) m14_55 rfl rfl ?_
          refine g_iload m14_57 rfl ?_
          refine g_iload m14_59 rfl ?_
          refine g_isub (u := nI (r.length)) m14_61 (pk_sub (a := r.length + 1 + 1) (b := 2) (by omega)) ?_
          refine g_istore (L2 := [some (.ref (101 + 3 * i)), some (.int (a)), some (.int (b)), some (.int (c)), some (.int (nI (r.length))), some (.int (nI (q))), some (.int (47)), some (.int (2)), o8, o9]) m14_62 rfl rfl ?_
          refine g_iload m14_64 rfl ?_
          refine h_if_ltF (xi := ((r.length : Nat) : Int)) (zi := 0) m14_66 (nI_toInt (by omega)) rfl (by omega) ?_
          refine g_iload m14_69 rfl ?_
          refine g_aload_n m14_71 rfl ?_
          refine h_gfR (c := 103 + 3 * i) (k := 69 + 3 * i) (p := 101 + 3 * i) m14_72 (pLo _) (tLo hi) rfl (le3 (Nat.le_of_ble_eq_true rfl)) ?_
          refine h_alen (k := 71 + 3 * i) (p := 103 + 3 * i) m14_75 (pLw _) (tLw hi) (Or.inl rfl) ?_
          refine h_ic_ltT (xi := ((r.length : Nat) : Int)) (zi := ((ln i : Nat) : Int)) m14_76 (nI_toInt (by omega)) (nI_toInt (by omega)) (by omega) ?_
          refine g_aload_n m14_81 rfl ?_
          refine h_gfR (c := 103 + 3 * i) (k := 69 + 3 * i) (p := 101 + 3 * i) m14_82 (pLo _) (tLo hi) rfl (le3 (Nat.le_of_ble_eq_true rfl)) ?_
          refine g_iload m14_85 rfl ?_
          refine h_ial (k := 71 + 3 * i) (p := 103 + 3 * i) (j := r.length) m14_87 (pLw _) (tLw hi) (rfl) (by omega) (by omega) (hst.2.1) ?_
          refine g_istore (L2 := [some (.ref (101 + 3 * i)), some (.int (a)), some (.int (b)), some (.int (c)), some (.int (nI (r.length))), some (.int (nI (q))), some (.int (47)), some (.int (2)), some (.int (x)), o9]) m14_88 rfl rfl ?_
          refine g_iload m14_90 rfl ?_
          refine g_iconst m14_92 ?_
          refine g_iadd (u := nI ((r.length) + 1)) m14_93 (nI_add (r.length) 1) ?_
          refine g_aload_n m14_94 rfl ?_
          refine h_gfR (c := 103 + 3 * i) (k := 69 + 3 * i) (p := 101 + 3 * i) m14_95 (pLo _) (tLo hi) rfl (le3 (Nat.le_of_ble_eq_true rfl)) ?_
          refine h_alen (k := 71 + 3 * i) (p := 103 + 3 * i) m14_98 (pLw _) (tLw hi) (Or.inl rfl) ?_
          refine h_ic_geF (xi := (((r.length) + 1 : Nat) : Int)) (zi := ((ln i : Nat) : Int)) m14_99 (nI_toInt (by omega)) (nI_toInt (by omega)) (by omega) ?_
          refine g_aload_n m14_102 rfl ?_
          refine h_gfR (c := 103 + 3 * i) (k := 69 + 3 * i) (p := 101 + 3 * i) m14_103 (pLo _) (tLo hi) rfl (le3 (Nat.le_of_ble_eq_true rfl)) ?_
          refine g_iload m14_106 rfl ?_
          refine g_iconst m14_108 ?_
          refine g_iadd (u := nI ((r.length) + 1)) m14_109 (nI_add (r.length) 1) ?_
          refine h_ial (k := 71 + 3 * i) (p := 103 + 3 * i) (j := r.length + 1) m14_110 (pLw _) (tLw hi) (rfl) (by omega) (by omega) (hst.1) ?_
          refine g_goto m14_111 ?_
          refine g_istore (L2 := [some (.ref (101 + 3 * i)), some (.int (a)), some (.int (b)), some (.int (c)), some (.int (nI (r.length))), some (.int (nI (q))), some (.int (47)), some (.int (2)), some (.int (x)), some (.int (y))]) m14_115 rfl rfl ?_
          refine g_iload m14_117 rfl ?_
          refine gs m14_119 ?_
          refine gwpc (pc' := 338) rfl ?_
          refine g_aload_n m14_338 rfl ?_
          refine h_gfR (c := 103 + 3 * i) (k := 69 + 3 * i) (p := 101 + 3 * i) m14_339 (pLo _) (tLo hi) rfl (le3 (Nat.le_of_ble_eq_true rfl)) ?_
          refine g_iload m14_342 rfl ?_
          refine g_iload m14_344 rfl ?_
          refine h_if_ne (xi := _) (zi := 0) m14_346 rfl rfl (fun c7 => ?_) (fun c7 => ?_)
          · skip
            refine g_iconst m14_349 ?_
            refine g_goto m14_350 ?_
            refine h_ias (k := 71 + 3 * i) (p := 103 + 3 * i) (j := r.length) m14_358 (pLw _) (tLw hi) (rfl) (by omega) (by omega) ?_
            refine g_goto m14_359 ?_
            refine gwl (L' := [some (.ref (101 + 3 * i)), some (.int a), some (.int b), some (.int c), some (.int (nI (r.length))), some (.int (nI q)), _, _, _, _]) rfl ?_
            refine g_iinc (L2 := [some (.ref (101 + 3 * i)), some (.int (a)), some (.int (b)), some (.int (c)), some (.int (nI ((r.length) + 1))), some (.int (nI (q))), some (.int (47)), some (.int (2)), some (.int (x)), some (.int (y))]) m14_515 rfl (nI_1 _) rfl rfl ?_
            refine g_iinc (L2 := [some (.ref (101 + 3 * i)), some (.int (a)), some (.int (b)), some (.int (c)), some (.int (nI ((r.length) + 1))), some (.int (nI (q + 1))), some (.int (47)), some (.int (2)), some (.int (x)), some (.int (y))]) m14_518 rfl (nI_1 _) rfl rfl ?_
            refine g_goto m14_521 ?_
            rw [ev_47] at hev
            obtain rfl := Option.some.inj hev
            exact ih (q + 1) _ _ _ _ _ _ (by omega) hs2 (by show r.length + 1 ≤ q + 1; omega) (Stk_pushE (by simp [c7]) rfl hst.2.2) (EqM_w hE _ _ _)
          · skip
            refine g_iload m14_353 rfl ?_
            refine g_iload m14_355 rfl ?_
            refine g_idiv m14_357 (fun z0 => by subst z0; exact absurd rfl (by assumption)) rfl ?_
            refine h_ias (k := 71 + 3 * i) (p := 103 + 3 * i) (j := r.length) m14_358 (pLw _) (tLw hi) (rfl) (by omega) (by omega) ?_
            refine g_goto m14_359 ?_
            refine gwl (L' := [some (.ref (101 + 3 * i)), some (.int a), some (.int b), some (.int c), some (.int (nI (r.length))), some (.int (nI q)), _, _, _, _]) rfl ?_
            refine g_iinc (L2 := [some (.ref (101 + 3 * i)), some (.int (a)), some (.int (b)), some (.int (c)), some (.int (nI ((r.length) + 1))), some (.int (nI (q))), some (.int (47)), some (.int (2)), some (.int (x)), some (.int (y))]) m14_515 rfl (nI_1 _) rfl rfl ?_
            refine g_iinc (L2 := [some (.ref (101 + 3 * i)), some (.int (a)), some (.int (b)), some (.int (c)), some (.int (nI ((r.length) + 1))), some (.int (nI (q + 1))), some (.int (47)), some (.int (2)), some (.int (x)), some (.int (y))]) m14_518 rfl (nI_1 _) rfl rfl ?_
            refine g_goto m14_521 ?_
            rw [ev_47] at hev
            obtain rfl := Option.some.inj hev
            exact ih (q + 1) _ _ _ _ _ _ (by omega) hs2 (by show r.length + 1 ≤ q + 1; omega) (Stk_pushE (by simp [c7]) rfl hst.2.2) (EqM_w hE _ _ _)
      by_cases hk37 : kk = 37
      · subst hk37
        match s, hl, hst, hev with
        | [], _, _, hev => cases hev
        | [_], _, _, hev => cases hev
        | y :: x :: r, hl, hst, hev =>
          have hl2 : r.length + 1 + 1 ≤ q := hl
          refine g_iload m14_6 rfl ?_
          refine g_aload_n m14_8 rfl ?_
          refine h_gfR (c := 102 + 3 * i) (k := 69 + 3 * i) (p := 101 + 3 * i) m14_9 (pLo _) (tLo hi) rfl (le3 (Nat.le_of_ble_eq_true rfl)) ?_
          refine h_alen (k := 70 + 3 * i) (p := 102 + 3 * i) m14_12 (pLc _) (tLc hi) (Or.inl rfl) ?_
          refine h_ic_geF (xi := ((q : Nat) : Int)) (zi := ((ln i : Nat) : Int)) m14_13 (nI_toInt (by omega)) (nI_toInt (by omega)) (by omega) ?_
          refine g_aload_n m14_16 rfl ?_
          refine h_gfR (c := 102 + 3 * i) (k := 69 + 3 * i) (p := 101 + 3 * i) m14_17 (pLo _) (tLo hi) rfl (le3 (Nat.le_of_ble_eq_true rfl)) ?_
          refine g_iload m14_20 rfl ?_
          refine h_ial (k := 70 + 3 * i) (p := 102 + 3 * i) (j := q) m14_22 (pLc _) (tLc hi) (rfl) (by omega) (by omega) (he0) ?_
          refine g_istore (L2 := [some (.ref (101 + 3 * i)), some (.int (a)), some (.int (b)), some (.int (c)), some (.int (nI ((y :: x :: r).length))), some (.int (nI (q))), some (.int (37)), o7, o8, o9]) m14_23 rfl rfl ?_
          refine g_iload m14_25 rfl ?_
          refine g_sipush m14_27 ?_
          refine h_ic_geF (xi := 37) (zi := 1000) m14_30 rfl rfl (by decide) ?_
          refine g_iload m14_33 rfl ?_
          refine g_iconst m14_35 ?_
          refine h_ic_geT (xi := 37) (zi := 3) m14_36 rfl rfl (by decide) ?_
          refine g_iload m14_43 rfl ?_
          refine g_bipush m14_45 ?_
          refine h_ic_neF (xi := 37) (zi := 33) m14_47 rfl rfl (by decide) ?_
          refine g_iconst m14_54 ?_
          refine g_istore (L2 := [some (.ref (101 + 3 * i)), some (.int (a)), some (.int (b)), some (.int (c)), some (.int (nI ((y :: x :: r).length))), some (.int (nI (q))), some (.int (37)), some (.int (2)), o8, o9]) m14_55 rfl rfl ?_
          refine g_iload m14_57 rfl ?_
          refine g_iload m14_59 rfl ?_
          refine g_isub (u := nI (r.length)) m14_61 (pk_sub (a := r.length + 1 + 1) (b := 2) (by omega)) ?_
          refine g_istore (L2 := [some (.ref (101 + 3 * i)), some (.int (a)), some (.int (b)), some (.int (c)), some (.int (nI (r.length))), some (.int (nI (q))), some (.int (37)), some (.int (2)), o8, o9]) m14_62 rfl rfl ?_
          refine g_iload m14_64 rfl ?_
          refine h_if_ltF (xi := ((r.length : Nat) : Int)) (zi := 0) m14_66 (nI_toInt (by omega)) rfl (by omega) ?_
          refine g_iload m14_69 rfl ?_
          refine g_aload_n m14_71 rfl ?_
          refine h_gfR (c := 103 + 3 * i) (k := 69 + 3 * i) (p := 101 + 3 * i) m14_72 (pLo _) (tLo hi) rfl (le3 (Nat.le_of_ble_eq_true rfl)) ?_
          refine h_alen (k := 71 + 3 * i) (p := 103 + 3 * i) m14_75 (pLw _) (tLw hi) (Or.inl rfl) ?_
          refine h_ic_ltT (xi := ((r.length : Nat) : Int)) (zi := ((ln i : Nat) : Int)) m14_76 (nI_toInt (by omega)) (nI_toInt (by omega)) (by omega) ?_
          refine g_aload_n m14_81 rfl ?_
          refine h_gfR (c := 103 + 3 * i) (k := 69 + 3 * i) (p := 101 + 3 * i) m14_82 (pLo _) (tLo hi) rfl (le3 (Nat.le_of_ble_eq_true rfl)) ?_
          refine g_iload m14_85 rfl ?_
          refine h_ial (k := 71 + 3 * i) (p := 103 + 3 * i) (j := r.length) m14_87 (pLw _) (tLw hi) (rfl) (by omega) (by omega) (hst.2.1) ?_
          refine g_istore (L2 := [some (.ref (101 + 3 * i)), some (.int (a)), some (.int (b)), some (.int (c)), some (.int (nI (r.length))), some (.int (nI (q))), some (.int (37)), some (.int (2)), some (.int (x)), o9]) m14_88 rfl rfl ?_
          refine g_iload m14_90 rfl ?_
          refine g_iconst m14_92 ?_
          refine g_iadd (u := nI ((r.length) + 1)) m14_93 (nI_add (r.length) 1) ?_
          refine g_aload_n m14_94 rfl ?_
          refine h_gfR (c := 103 + 3 * i) (k := 69 + 3 * i) (p := 101 + 3 * i) m14_95 (pLo _) (tLo hi) rfl (le3 (Nat.le_of_ble_eq_true rfl)) ?_
          refine h_alen (k := 71 + 3 * i) (p := 103 + 3 * i) m14_98 (pLw _) (tLw hi) (Or.inl rfl) ?_
          refine h_ic_geF (xi := (((r.length) + 1 : Nat) : Int)) (zi := ((ln i : Nat) : Int)) m14_99 (nI_toInt (by omega)) (nI_toInt (by omega)) (by omega) ?_
          refine g_aload_n m14_102 rfl ?_
          refine h_gfR (c := 103 + 3 * i) (k := 69 + 3 * i) (p := 101 + 3 * i) m14_103 (pLo _) (tLo hi) rfl (le3 (Nat.le_of_ble_eq_true rfl)) ?_
          refine g_iload m14_106 rfl ?_
          refine g_iconst m14_108 ?_
          refine g_iadd (u := nI ((r.length) + 1)) m14_109 (nI_add (r.length) 1) ?_
          refine h_ial (k := 71 + 3 * i) (p := 103 + 3 * i) (j := r.length + 1) m14_110 (pLw _) (tLw hi) (rfl) (by omega) (by omega) (hst.1) ?_
          refine g_goto m14_111 ?_
          refine g_istore (L2 := [some (.ref (101 + 3 * i)), some (.int (a)), some (.int (b)), some (.int (c)), some (.int (nI (r.length))), some (.int (nI (q))), some (.int (37)), some (.int (2)), some (.int (x)), some (.int (y))]) m14_115 rfl rfl ?_
          refine g_iload m14_117 rfl ?_
          refine gs m14_119 ?_
          refine gwpc (pc' := 362) rfl ?_
          refine g_aload_n m14_362 rfl ?_
          refine h_gfR (c := 103 + 3 * i) (k := 69 + 3 * i) (p := 101 + 3 * i) m14_363 (pLo _) (tLo hi) rfl (le3 (Nat.le_of_ble_eq_true rfl)) ?_
          refine g_iload m14_366 rfl ?_
          refine g_iload m14_368 rfl ?_
          refine h_if_ne (xi := _) (zi := 0) m14_370 rfl rfl (fun c8 => ?_) (fun c8 => ?_)
          · skip
            refine g_iconst m14_373 ?_
            refine g_goto m14_374 ?_
            refine h_ias (k := 71 + 3 * i) (p := 103 + 3 * i) (j := r.length) m14_382 (pLw _) (tLw hi) (rfl) (by omega) (by omega) ?_
            refine g_goto m14_383 ?_
            refine gwl (L' := [some (.ref (101 + 3 * i)), some (.int a), some (.int b), some (.int c), some (.int (nI (r.length))), some (.int (nI q)), _, _, _, _]) rfl ?_
            refine g_iinc (L2 := [some (.ref (101 + 3 * i)), some (.int (a)), some (.int (b)), some (.int (c)), some (.int (nI ((r.length) + 1))), some (.int (nI (q))), some (.int (37)), some (.int (2)), some (.int (x)), some (.int (y))]) m14_515 rfl (nI_1 _) rfl rfl ?_
            refine g_iinc (L2 := [some (.ref (101 + 3 * i)), some (.int (a)), some (.int (b)), some (.int (c)), some (.int (nI ((r.length) + 1))), some (.int (nI (q + 1))), some (.int (37)), some (.int (2)), some (.int (x)), some (.int (y))]) m14_518 rfl (nI_1 _) rfl rfl ?_
            refine g_goto m14_521 ?_
            rw [ev_37] at hev
            obtain rfl := Option.some.inj hev
            exact ih (q + 1) _ _ _ _ _ _ (by omega) hs2 (by show r.length + 1 ≤ q + 1; omega) (Stk_pushE (by simp [c8]) rfl hst.2.2) (EqM_w hE _ _ _)
          · skip
            refine g_iload m14_377 rfl ?_
            refine g_iload m14_379 rfl ?_
            refine g_irem m14_381 (fun z0 => by subst z0; exact absurd rfl (by assumption)) rfl ?_
            refine h_ias (k := 71 + 3 * i) (p := 103 + 3 * i) (j := r.length) m14_382 (pLw _) (tLw hi) (rfl) (by omega) (by omega) ?_
            refine g_goto m14_383 ?_
            refine gwl (L' := [some (.ref (101 + 3 * i)), some (.int a), some (.int b), some (.int c), some (.int (nI (r.length))), some (.int (nI q)), _, _, _, _]) rfl ?_
            refine g_iinc (L2 := [some (.ref (101 + 3 * i)), some (.int (a)), some (.int (b)), some (.int (c)), some (.int (nI ((r.length) + 1))), some (.int (nI (q))), some (.int (37)), some (.int (2)), some (.int (x)), some (.int (y))]) m14_515 rfl (nI_1 _) rfl rfl ?_
            refine g_iinc (L2 := [some (.ref (101 + 3 * i)), some (.int (a)), some (.int (b)), some (.int (c)), some (.int (nI ((r.length) + 1))), some (.int (nI (q + 1))), some (.int (37)), some (.int (2)), some (.int (x)), some (.int (y))]) m14_518 rfl (nI_1 _) rfl rfl ?_
            refine g_goto m14_521 ?_
            rw [ev_37] at hev
            obtain rfl := Option.some.inj hev
            exact ih (q + 1) _ _ _ _ _ _ (by omega) hs2 (by show r.length + 1 ≤ q + 1; omega) (Stk_pushE (by simp [c8]) rfl hst.2.2) (EqM_w hE _ _ _)
      by_cases hk60 : kk = 60
      · subst hk60
        match s, hl, hst, hev with
        | [], _, _, hev => cases hev
        | [_], _, _, hev => cases hev
        | y :: x :: r, hl, hst, hev =>
          have hl2 : r.length + 1 + 1 ≤ q := hl
          refine g_iload m14_6 rfl ?_
          refine g_aload_n m14_8 rfl ?_
          refine h_gfR (c := 102 + 3 * i) (k := 69 + 3 * i) (p := 101 + 3 * i) m14_9 (pLo _) (tLo hi) rfl (le3 (Nat.le_of_ble_eq_true rfl)) ?_
          refine h_alen (k := 70 + 3 * i) (p := 102 + 3 * i) m14_12 (pLc _) (tLc hi) (Or.inl rfl) ?_
          refine h_ic_geF (xi := ((q : Nat) : Int)) (zi := ((ln i : Nat) : Int)) m14_13 (nI_toInt (by omega)) (nI_toInt (by omega)) (by omega) ?_
          refine g_aload_n m14_16 rfl ?_
          refine h_gfR (c := 102 + 3 * i) (k := 69 + 3 * i) (p := 101 + 3 * i) m14_17 (pLo _) (tLo hi) rfl (le3 (Nat.le_of_ble_eq_true rfl)) ?_
          refine g_iload m14_20 rfl ?_
          refine h_ial (k := 70 + 3 * i) (p := 102 + 3 * i) (j := q) m14_22 (pLc _) (tLc hi) (rfl) (by omega) (by omega) (he0) ?_
          refine g_istore (L2 := [some (.ref (101 + 3 * i)), some (.int (a)), some (.int (b)), some (.int (c)), some (.int (nI ((y :: x :: r).length))), some (.int (nI (q))), some (.int (60)), o7, o8, o9]) m14_23 rfl rfl ?_
          refine g_iload m14_25 rfl ?_
          refine g_sipush m14_27 ?_
          refine h_ic_geF (xi := 60) (zi := 1000) m14_30 rfl rfl (by decide) ?_
          refine g_iload m14_33 rfl ?_
          refine g_iconst m14_35 ?_
          refine h_ic_geT (xi := 60) (zi := 3) m14_36 rfl rfl (by decide) ?_
          refine g_iload m14_43 rfl ?_
          refine g_bipush m14_45 ?_
          refine h_ic_neF (xi := 60) (zi := 33) m14_47 rfl rfl (by decide) ?_
          refine g_iconst m14_54 ?_
          refine g_istore (L2 := [some (.ref (101 + 3 * i)), some (.int (a)), some (.int (b)), some (.int (c)), some (.int (nI ((y :: x :: r).length))), some (.int (nI (q))), some (.int (60)), some (.int (2)), o8, o9]) m14_55 rfl rfl ?_
          refine g_iload m14_57 rfl ?_
          refine g_iload m14_59 rfl ?_
          refine g_isub (u := nI (r.length)) m14_61 (pk_sub (a := r.length + 1 + 1) (b := 2) (by omega)) ?_
          refine g_istore (L2 := [some (.ref (101 + 3 * i)), some (.int (a)), some (.int (b)), some (.int (c)), some (.int (nI (r.length))), some (.int (nI (q))), some (.int (60)), some (.int (2)), o8, o9]) m14_62 rfl rfl ?_
          refine g_iload m14_64 rfl ?_
          refine h_if_ltF (xi := ((r.length : Nat) : Int)) (zi := 0) m14_66 (nI_toInt (by omega)) rfl (by omega) ?_
          refine g_iload m14_69 rfl ?_
          refine g_aload_n m14_71 rfl ?_
          refine h_gfR (c := 103 + 3 * i) (k := 69 + 3 * i) (p := 101 + 3 * i) m14_72 (pLo _) (tLo hi) rfl (le3 (Nat.le_of_ble_eq_true rfl)) ?_
          refine h_alen (k := 71 + 3 * i) (p := 103 + 3 * i) m14_75 (pLw _) (tLw hi) (Or.inl rfl) ?_
          refine h_ic_ltT (xi := ((r.length : Nat) : Int)) (zi := ((ln i : Nat) : Int)) m14_76 (nI_toInt (by omega)) (nI_toInt (by omega)) (by omega) ?_
          refine g_aload_n m14_81 rfl ?_
          refine h_gfR (c := 103 + 3 * i) (k := 69 + 3 * i) (p := 101 + 3 * i) m14_82 (pLo _) (tLo hi) rfl (le3 (Nat.le_of_ble_eq_true rfl)) ?_
          refine g_iload m14_85 rfl ?_
          refine h_ial (k := 71 + 3 * i) (p := 103 + 3 * i) (j := r.length) m14_87 (pLw _) (tLw hi) (rfl) (by omega) (by omega) (hst.2.1) ?_
          refine g_istore (L2 := [some (.ref (101 + 3 * i)), some (.int (a)), some (.int (b)), some (.int (c)), some (.int (nI (r.length))), some (.int (nI (q))), some (.int (60)), some (.int (2)), some (.int (x)), o9]) m14_88 rfl rfl ?_
          refine g_iload m14_90 rfl ?_
          refine g_iconst m14_92 ?_
          refine g_iadd (u := nI ((r.length) + 1)) m14_93 (nI_add (r.length) 1) ?_
          refine g_aload_n m14_94 rfl ?_
          refine h_gfR (c := 103 + 3 * i) (k := 69 + 3 * i) (p := 101 + 3 * i) m14_95 (pLo _) (tLo hi) rfl (le3 (Nat.le_of_ble_eq_true rfl)) ?_
          refine h_alen (k := 71 + 3 * i) (p := 103 + 3 * i) m14_98 (pLw _) (tLw hi) (Or.inl rfl) ?_
          refine h_ic_geF (xi := (((r.length) + 1 : Nat) : Int)) (zi := ((ln i : Nat) : Int)) m14_99 (nI_toInt (by omega)) (nI_toInt (by omega)) (by omega) ?_
          refine g_aload_n m14_102 rfl ?_
          refine h_gfR (c := 103 + 3 * i) (k := 69 + 3 * i) (p := 101 + 3 * i) m14_103 (pLo _) (tLo hi) rfl (le3 (Nat.le_of_ble_eq_true rfl)) ?_
          refine g_iload m14_106 rfl ?_
          refine g_iconst m14_108 ?_
          refine g_iadd (u := nI ((r.length) + 1)) m14_109 (nI_add (r.length) 1) ?_
          refine h_ial (k := 71 + 3 * i) (p := 103 + 3 * i) (j := r.length + 1) m14_110 (pLw _) (tLw hi) (rfl) (by omega) (by omega) (hst.1) ?_
          refine g_goto m14_111 ?_
          refine g_istore (L2 := [some (.ref (101 + 3 * i)), some (.int (a)), some (.int (b)), some (.int (c)), some (.int (nI (r.length))), some (.int (nI (q))), some (.int (60)), some (.int (2)), some (.int (x)), some (.int (y))]) m14_115 rfl rfl ?_
          refine g_iload m14_117 rfl ?_
          refine gs m14_119 ?_
          refine gwpc (pc' := 386) rfl ?_
          refine g_aload_n m14_386 rfl ?_
          refine h_gfR (c := 103 + 3 * i) (k := 69 + 3 * i) (p := 101 + 3 * i) m14_387 (pLo _) (tLo hi) rfl (le3 (Nat.le_of_ble_eq_true rfl)) ?_
          refine g_iload m14_390 rfl ?_
          refine g_iload m14_392 rfl ?_
          refine g_iload m14_394 rfl ?_
          refine h_ic_ge (xi := _) (zi := _) m14_396 rfl rfl (fun c9 => ?_) (fun c9 => ?_)
          · skip
            refine g_iconst m14_403 ?_
            refine h_ias (k := 71 + 3 * i) (p := 103 + 3 * i) (j := r.length) m14_404 (pLw _) (tLw hi) (rfl) (by omega) (by omega) ?_
            refine g_goto m14_405 ?_
            refine gwl (L' := [some (.ref (101 + 3 * i)), some (.int a), some (.int b), some (.int c), some (.int (nI (r.length))), some (.int (nI q)), _, _, _, _]) rfl ?_
            refine g_iinc (L2 := [some (.ref (101 + 3 * i)), some (.int (a)), some (.int (b)), some (.int (c)), some (.int (nI ((r.length) + 1))), some (.int (nI (q))), some (.int (60)), some (.int (2)), some (.int (x)), some (.int (y))]) m14_515 rfl (nI_1 _) rfl rfl ?_
            refine g_iinc (L2 := [some (.ref (101 + 3 * i)), some (.int (a)), some (.int (b)), some (.int (c)), some (.int (nI ((r.length) + 1))), some (.int (nI (q + 1))), some (.int (60)), some (.int (2)), some (.int (x)), some (.int (y))]) m14_518 rfl (nI_1 _) rfl rfl ?_
            refine g_goto m14_521 ?_
            rw [ev_60] at hev
            obtain rfl := Option.some.inj hev
            exact ih (q + 1) _ _ _ _ _ _ (by omega) hs2 (by show r.length + 1 ≤ q + 1; omega) (Stk_pushE (by simp [c9]) rfl hst.2.2) (EqM_w hE _ _ _)
          · skip
            refine g_iconst m14_399 ?_
            refine g_goto m14_400 ?_
            refine h_ias (k := 71 + 3 * i) (p := 103 + 3 * i) (j := r.length) m14_404 (pLw _) (tLw hi) (rfl) (by omega) (by omega) ?_
            refine g_goto m14_405 ?_
            refine gwl (L' := [some (.ref (101 + 3 * i)), some (.int a), some (.int b), some (.int c), some (.int (nI (r.length))), some (.int (nI q)), _, _, _, _]) rfl ?_
            refine g_iinc (L2 := [some (.ref (101 + 3 * i)), some (.int (a)), some (.int (b)), some (.int (c)), some (.int (nI ((r.length) + 1))), some (.int (nI (q))), some (.int (60)), some (.int (2)), some (.int (x)), some (.int (y))]) m14_515 rfl (nI_1 _) rfl rfl ?_
            refine g_iinc (L2 := [some (.ref (101 + 3 * i)), some (.int (a)), some (.int (b)), some (.int (c)), some (.int (nI ((r.length) + 1))), some (.int (nI (q + 1))), some (.int (60)), some (.int (2)), some (.int (x)), some (.int (y))]) m14_518 rfl (nI_1 _) rfl rfl ?_
            refine g_goto m14_521 ?_
            rw [ev_60] at hev
            obtain rfl := Option.some.inj hev
            exact ih (q + 1) _ _ _ _ _ _ (by omega) hs2 (by show r.length + 1 ≤ q + 1; omega) (Stk_pushE (by simp [c9]) rfl hst.2.2) (EqM_w hE _ _ _)
      by_cases hk61 : kk = 61
      · subst hk61
        match s, hl, hst, hev with
        | [], _, _, hev => cases hev
        | [_], _, _, hev => cases hev
        | y :: x :: r, hl, hst, hev =>
          have hl2 : r.length + 1 + 1 ≤ q := hl
          refine g_iload m14_6 rfl ?_
          refine g_aload_n m14_8 rfl ?_
          refine h_gfR (c := 102 + 3 * i) (k := 69 + 3 * i) (p := 101 + 3 * i) m14_9 (pLo _) (tLo hi) rfl (le3 (Nat.le_of_ble_eq_true rfl)) ?_
          refine h_alen (k := 70 + 3 * i) (p := 102 + 3 * i) m14_12 (pLc _) (tLc hi) (Or.inl rfl) ?_
          refine h_ic_geF (xi := ((q : Nat) : Int)) (zi := ((ln i : Nat) : Int)) m14_13 (nI_toInt (by omega)) (nI_toInt (by omega)) (by omega) ?_
          refine g_aload_n m14_16 rfl ?_
          refine h_gfR (c := 102 + 3 * i) (k := 69 + 3 * i) (p := 101 + 3 * i) m14_17 (pLo _) (tLo hi) rfl (le3 (Nat.le_of_ble_eq_true rfl)) ?_
          refine g_iload m14_20 rfl ?_
          refine h_ial (k := 70 + 3 * i) (p := 102 + 3 * i) (j := q) m14_22 (pLc _) (tLc hi) (rfl) (by omega) (by omega) (he0) ?_
          refine g_istore (L2 := [some (.ref (101 + 3 * i)), some (.int (a)), some (.int (b)), some (.int (c)), some (.int (nI ((y :: x :: r).length))), some (.int (nI (q))), some (.int (61)), o7, o8, o9]) m14_23 rfl rfl ?_
          refine g_iload m14_25 rfl ?_
          refine g_sipush m14_27 ?_
          refine h_ic_geF (xi := 61) (zi := 1000) m14_30 rfl rfl (by decide) ?_
          refine g_iload m14_33 rfl ?_
          refine g_iconst m14_35 ?_
          refine h_ic_geT (xi := 61) (zi := 3) m14_36 rfl rfl (by decide) ?_
          refine g_iload m14_43 rfl ?_
          refine g_bipush m14_45 ?_
          refine h_ic_neF (xi := 61) (zi := 33) m14_47 rfl rfl (by decide) ?_
          refine g_iconst m14_54 ?_
          refine g_istore (L2 := [some (.ref (101 + 3 * i)), some (.int (a)), some (.int (b)), some (.int (c)), some (.int (nI ((y :: x :: r).length))), some (.int (nI (q))), some (.int (61)), some (.int (2)), o8, o9]) m14_55 rfl rfl ?_
          refine g_iload m14_57 rfl ?_
          refine g_iload m14_59 rfl ?_
          refine g_isub (u := nI (r.length)) m14_61 (pk_sub (a := r.length + 1 + 1) (b := 2) (by omega)) ?_
          refine g_istore (L2 := [some (.ref (101 + 3 * i)), some (.int (a)), some (.int (b)), some (.int (c)), some (.int (nI (r.length))), some (.int (nI (q))), some (.int (61)), some (.int (2)), o8, o9]) m14_62 rfl rfl ?_
          refine g_iload m14_64 rfl ?_
          refine h_if_ltF (xi := ((r.length : Nat) : Int)) (zi := 0) m14_66 (nI_toInt (by omega)) rfl (by omega) ?_
          refine g_iload m14_69 rfl ?_
          refine g_aload_n m14_71 rfl ?_
          refine h_gfR (c := 103 + 3 * i) (k := 69 + 3 * i) (p := 101 + 3 * i) m14_72 (pLo _) (tLo hi) rfl (le3 (Nat.le_of_ble_eq_true rfl)) ?_
          refine h_alen (k := 71 + 3 * i) (p := 103 + 3 * i) m14_75 (pLw _) (tLw hi) (Or.inl rfl) ?_
          refine h_ic_ltT (xi := ((r.length : Nat) : Int)) (zi := ((ln i : Nat) : Int)) m14_76 (nI_toInt (by omega)) (nI_toInt (by omega)) (by omega) ?_
          refine g_aload_n m14_81 rfl ?_
          refine h_gfR (c := 103 + 3 * i) (k := 69 + 3 * i) (p := 101 + 3 * i) m14_82 (pLo _) (tLo hi) rfl (le3 (Nat.le_of_ble_eq_true rfl)) ?_
          refine g_iload m14_85 rfl ?_
          refine h_ial (k := 71 + 3 * i) (p := 103 + 3 * i) (j := r.length) m14_87 (pLw _) (tLw hi) (rfl) (by omega) (by omega) (hst.2.1) ?_
          refine g_istore (L2 := [some (.ref (101 + 3 * i)), some (.int (a)), some (.int (b)), some (.int (c)), some (.int (nI (r.length))), some (.int (nI (q))), some (.int (61)), some (.int (2)), some (.int (x)), o9]) m14_88 rfl rfl ?_
          refine g_iload m14_90 rfl ?_
          refine g_iconst m14_92 ?_
          refine g_iadd (u := nI ((r.length) + 1)) m14_93 (nI_add (r.length) 1) ?_
          refine g_aload_n m14_94 rfl ?_
          refine h_gfR (c := 103 + 3 * i) (k := 69 + 3 * i) (p := 101 + 3 * i) m14_95 (pLo _) (tLo hi) rfl (le3 (Nat.le_of_ble_eq_true rfl)) ?_
          refine h_alen (k := 71 + 3 * i) (p := 103 + 3 * i) m14_98 (pLw _) (tLw hi) (Or.inl rfl) ?_
          refine h_ic_geF (xi := (((r.length) + 1 : Nat) : Int)) (zi := ((ln i : Nat) : Int)) m14_99 (nI_toInt (by omega)) (nI_toInt (by omega)) (by omega) ?_
          refine g_aload_n m14_102 rfl ?_
          refine h_gfR (c := 103 + 3 * i) (k := 69 + 3 * i) (p := 101 + 3 * i) m14_103 (pLo _) (tLo hi) rfl (le3 (Nat.le_of_ble_eq_true rfl)) ?_
          refine g_iload m14_106 rfl ?_
          refine g_iconst m14_108 ?_
          refine g_iadd (u := nI ((r.length) + 1)) m14_109 (nI_add (r.length) 1) ?_
          refine h_ial (k := 71 + 3 * i) (p := 103 + 3 * i) (j := r.length + 1) m14_110 (pLw _) (tLw hi) (rfl) (by omega) (by omega) (hst.1) ?_
          refine g_goto m14_111 ?_
          refine g_istore (L2 := [some (.ref (101 + 3 * i)), some (.int (a)), some (.int (b)), some (.int (c)), some (.int (nI (r.length))), some (.int (nI (q))), some (.int (61)), some (.int (2)), some (.int (x)), some (.int (y))]) m14_115 rfl rfl ?_
          refine g_iload m14_117 rfl ?_
          refine gs m14_119 ?_
          refine gwpc (pc' := 408) rfl ?_
          refine g_aload_n m14_408 rfl ?_
          refine h_gfR (c := 103 + 3 * i) (k := 69 + 3 * i) (p := 101 + 3 * i) m14_409 (pLo _) (tLo hi) rfl (le3 (Nat.le_of_ble_eq_true rfl)) ?_
          refine g_iload m14_412 rfl ?_
          refine g_iload m14_414 rfl ?_
          refine g_iload m14_416 rfl ?_
          refine h_ic_ne (xi := _) (zi := _) m14_418 rfl rfl (fun c10 => ?_) (fun c10 => ?_)
          · skip
            refine g_iconst m14_421 ?_
            refine g_goto m14_422 ?_
            refine h_ias (k := 71 + 3 * i) (p := 103 + 3 * i) (j := r.length) m14_426 (pLw _) (tLw hi) (rfl) (by omega) (by omega) ?_
            refine g_goto m14_427 ?_
            refine gwl (L' := [some (.ref (101 + 3 * i)), some (.int a), some (.int b), some (.int c), some (.int (nI (r.length))), some (.int (nI q)), _, _, _, _]) rfl ?_
            refine g_iinc (L2 := [some (.ref (101 + 3 * i)), some (.int (a)), some (.int (b)), some (.int (c)), some (.int (nI ((r.length) + 1))), some (.int (nI (q))), some (.int (61)), some (.int (2)), some (.int (x)), some (.int (y))]) m14_515 rfl (nI_1 _) rfl rfl ?_
            refine g_iinc (L2 := [some (.ref (101 + 3 * i)), some (.int (a)), some (.int (b)), some (.int (c)), some (.int (nI ((r.length) + 1))), some (.int (nI (q + 1))), some (.int (61)), some (.int (2)), some (.int (x)), some (.int (y))]) m14_518 rfl (nI_1 _) rfl rfl ?_
            refine g_goto m14_521 ?_
            rw [ev_61] at hev
            obtain rfl := Option.some.inj hev
            exact ih (q + 1) _ _ _ _ _ _ (by omega) hs2 (by show r.length + 1 ≤ q + 1; omega) (Stk_pushE (by simp [c10]) rfl hst.2.2) (EqM_w hE _ _ _)
          · skip
            refine g_iconst m14_425 ?_
            refine h_ias (k := 71 + 3 * i) (p := 103 + 3 * i) (j := r.length) m14_426 (pLw _) (tLw hi) (rfl) (by omega) (by omega) ?_
            refine g_goto m14_427 ?_
            refine gwl (L' := [some (.ref (101 + 3 * i)), some (.int a), some (.int b), some (.int c), some (.int (nI (r.length))), some (.int (nI q)), _, _, _, _]) rfl ?_
            refine g_iinc (L2 := [some (.ref (101 + 3 * i)), some (.int (a)), some (.int (b)), some (.int (c)), some (.int (nI ((r.length) + 1))), some (.int (nI (q))), some (.int (61)), some (.int (2)), some (.int (x)), some (.int (y))]) m14_515 rfl (nI_1 _) rfl rfl ?_
            refine g_iinc (L2 := [some (.ref (101 + 3 * i)), some (.int (a)), some (.int (b)), some (.int (c)), some (.int (nI ((r.length) + 1))), some (.int (nI (q + 1))), some (.int (61)), some (.int (2)), some (.int (x)), some (.int (y))]) m14_518 rfl (nI_1 _) rfl rfl ?_
            refine g_goto m14_521 ?_
            rw [ev_61] at hev
            obtain rfl := Option.some.inj hev
            exact ih (q + 1) _ _ _ _ _ _ (by omega) hs2 (by show r.length + 1 ≤ q + 1; omega) (Stk_pushE (by simp [c10]) rfl hst.2.2) (EqM_w hE _ _ _)
      by_cases hk62 : kk = 62
      · subst hk62
        match s, hl, hst, hev with
        | [], _, _, hev => cases hev
        | [_], _, _, hev => cases hev
        | y :: x :: r, hl, hst, hev =>
          have hl2 : r.length + 1 + 1 ≤ q := hl
          refine g_iload m14_6 rfl ?_
          refine g_aload_n m14_8 rfl ?_
          refine h_gfR (c := 102 + 3 * i) (k := 69 + 3 * i) (p := 101 + 3 * i) m14_9 (pLo _) (tLo hi) rfl (le3 (Nat.le_of_ble_eq_true rfl)) ?_
          refine h_alen (k := 70 + 3 * i) (p := 102 + 3 * i) m14_12 (pLc _) (tLc hi) (Or.inl rfl) ?_
          refine h_ic_geF (xi := ((q : Nat) : Int)) (zi := ((ln i : Nat) : Int)) m14_13 (nI_toInt (by omega)) (nI_toInt (by omega)) (by omega) ?_
          refine g_aload_n m14_16 rfl ?_
          refine h_gfR (c := 102 + 3 * i) (k := 69 + 3 * i) (p := 101 + 3 * i) m14_17 (pLo _) (tLo hi) rfl (le3 (Nat.le_of_ble_eq_true rfl)) ?_
          refine g_iload m14_20 rfl ?_
          refine h_ial (k := 70 + 3 * i) (p := 102 + 3 * i) (j := q) m14_22 (pLc _) (tLc hi) (rfl) (by omega) (by omega) (he0) ?_
          refine g_istore (L2 := [some (.ref (101 + 3 * i)), some (.int (a)), some (.int (b)), some (.int (c)), some (.int (nI ((y :: x :: r).length))), some (.int (nI (q))), some (.int (62)), o7, o8, o9]) m14_23 rfl rfl ?_
          refine g_iload m14_25 rfl ?_
          refine g_sipush m14_27 ?_
          refine h_ic_geF (xi := 62) (zi := 1000) m14_30 rfl rfl (by decide) ?_
          refine g_iload m14_33 rfl ?_
          refine g_iconst m14_35 ?_
          refine h_ic_geT (xi := 62) (zi := 3) m14_36 rfl rfl (by decide) ?_
          refine g_iload m14_43 rfl ?_
          refine g_bipush m14_45 ?_
          refine h_ic_neF (xi := 62) (zi := 33) m14_47 rfl rfl (by decide) ?_
          refine g_iconst m14_54 ?_
          refine g_istore (L2 := [some (.ref (101 + 3 * i)), some (.int (a)), some (.int (b)), some (.int (c)), some (.int (nI ((y :: x :: r).length))), some (.int (nI (q))), some (.int (62)), some (.int (2)), o8, o9]) m14_55 rfl rfl ?_
          refine g_iload m14_57 rfl ?_
          refine g_iload m14_59 rfl ?_
          refine g_isub (u := nI (r.length)) m14_61 (pk_sub (a := r.length + 1 + 1) (b := 2) (by omega)) ?_
          refine g_istore (L2 := [some (.ref (101 + 3 * i)), some (.int (a)), some (.int (b)), some (.int (c)), some (.int (nI (r.length))), some (.int (nI (q))), some (.int (62)), some (.int (2)), o8, o9]) m14_62 rfl rfl ?_
          refine g_iload m14_64 rfl ?_
          refine h_if_ltF (xi := ((r.length : Nat) : Int)) (zi := 0) m14_66 (nI_toInt (by omega)) rfl (by omega) ?_
          refine g_iload m14_69 rfl ?_
          refine g_aload_n m14_71 rfl ?_
          refine h_gfR (c := 103 + 3 * i) (k := 69 + 3 * i) (p := 101 + 3 * i) m14_72 (pLo _) (tLo hi) rfl (le3 (Nat.le_of_ble_eq_true rfl)) ?_
          refine h_alen (k := 71 + 3 * i) (p := 103 + 3 * i) m14_75 (pLw _) (tLw hi) (Or.inl rfl) ?_
          refine h_ic_ltT (xi := ((r.length : Nat) : Int)) (zi := ((ln i : Nat) : Int)) m14_76 (nI_toInt (by omega)) (nI_toInt (by omega)) (by omega) ?_
          refine g_aload_n m14_81 rfl ?_
          refine h_gfR (c := 103 + 3 * i) (k := 69 + 3 * i) (p := 101 + 3 * i) m14_82 (pLo _) (tLo hi) rfl (le3 (Nat.le_of_ble_eq_true rfl)) ?_
          refine g_iload m14_85 rfl ?_
          refine h_ial (k := 71 + 3 * i) (p := 103 + 3 * i) (j := r.length) m14_87 (pLw _) (tLw hi) (rfl) (by omega) (by omega) (hst.2.1) ?_
          refine g_istore (L2 := [some (.ref (101 + 3 * i)), some (.int (a)), some (.int (b)), some (.int (c)), some (.int (nI (r.length))), some (.int (nI (q))), some (.int (62)), some (.int (2)), some (.int (x)), o9]) m14_88 rfl rfl ?_
          refine g_iload m14_90 rfl ?_
          refine g_iconst m14_92 ?_
          refine g_iadd (u := nI ((r.length) + 1)) m14_93 (nI_add (r.length) 1) ?_
          refine g_aload_n m14_94 rfl ?_
          refine h_gfR (c := 103 + 3 * i) (k := 69 + 3 * i) (p := 101 + 3 * i) m14_95 (pLo _) (tLo hi) rfl (le3 (Nat.le_of_ble_eq_true rfl)) ?_
          refine h_alen (k := 71 + 3 * i) (p := 103 + 3 * i) m14_98 (pLw _) (tLw hi) (Or.inl rfl) ?_
          refine h_ic_geF (xi := (((r.length) + 1 : Nat) : Int)) (zi := ((ln i : Nat) : Int)) m14_99 (nI_toInt (by omega)) (nI_toInt (by omega)) (by omega) ?_
          refine g_aload_n m14_102 rfl ?_
          refine h_gfR (c := 103 + 3 * i) (k := 69 + 3 * i) (p := 101 + 3 * i) m14_103 (pLo _) (tLo hi) rfl (le3 (Nat.le_of_ble_eq_true rfl)) ?_
          refine g_iload m14_106 rfl ?_
          refine g_iconst m14_108 ?_
          refine g_iadd (u := nI ((r.length) + 1)) m14_109 (nI_add (r.length) 1) ?_
          refine h_ial (k := 71 + 3 * i) (p := 103 + 3 * i) (j := r.length + 1) m14_110 (pLw _) (tLw hi) (rfl) (by omega) (by omega) (hst.1) ?_
          refine g_goto m14_111 ?_
          refine g_istore (L2 := [some (.ref (101 + 3 * i)), some (.int (a)), some (.int (b)), some (.int (c)), some (.int (nI (r.length))), some (.int (nI (q))), some (.int (62)), some (.int (2)), some (.int (x)), some (.int (y))]) m14_115 rfl rfl ?_
          refine g_iload m14_117 rfl ?_
          refine gs m14_119 ?_
          refine gwpc (pc' := 430) rfl ?_
          refine g_aload_n m14_430 rfl ?_
          refine h_gfR (c := 103 + 3 * i) (k := 69 + 3 * i) (p := 101 + 3 * i) m14_431 (pLo _) (tLo hi) rfl (le3 (Nat.le_of_ble_eq_true rfl)) ?_
          refine g_iload m14_434 rfl ?_
          refine g_iload m14_436 rfl ?_
          refine g_iload m14_438 rfl ?_
          refine h_ic_le (xi := _) (zi := _) m14_440 rfl rfl (fun c11 => ?_) (fun c11 => ?_)
          · skip
            refine g_iconst m14_447 ?_
            refine h_ias (k := 71 + 3 * i) (p := 103 + 3 * i) (j := r.length) m14_448 (pLw _) (tLw hi) (rfl) (by omega) (by omega) ?_
            refine g_goto m14_449 ?_
            refine gwl (L' := [some (.ref (101 + 3 * i)), some (.int a), some (.int b), some (.int c), some (.int (nI (r.length))), some (.int (nI q)), _, _, _, _]) rfl ?_
            refine g_iinc (L2 := [some (.ref (101 + 3 * i)), some (.int (a)), some (.int (b)), some (.int (c)), some (.int (nI ((r.length) + 1))), some (.int (nI (q))), some (.int (62)), some (.int (2)), some (.int (x)), some (.int (y))]) m14_515 rfl (nI_1 _) rfl rfl ?_
            refine g_iinc (L2 := [some (.ref (101 + 3 * i)), some (.int (a)), some (.int (b)), some (.int (c)), some (.int (nI ((r.length) + 1))), some (.int (nI (q + 1))), some (.int (62)), some (.int (2)), some (.int (x)), some (.int (y))]) m14_518 rfl (nI_1 _) rfl rfl ?_
            refine g_goto m14_521 ?_
            rw [ev_62] at hev
            obtain rfl := Option.some.inj hev
            exact ih (q + 1) _ _ _ _ _ _ (by omega) hs2 (by show r.length + 1 ≤ q + 1; omega) (Stk_pushE (by simp [c11]) rfl hst.2.2) (EqM_w hE _ _ _)
          · skip
            refine g_iconst m14_443 ?_
            refine g_goto m14_444 ?_
            refine h_ias (k := 71 + 3 * i) (p := 103 + 3 * i) (j := r.length) m14_448 (pLw _) (tLw hi) (rfl) (by omega) (by omega) ?_
            refine g_goto m14_449 ?_
            refine gwl (L' := [some (.ref (101 + 3 * i)), some (.int a), some (.int b), some (.int c), some (.int (nI (r.length))), some (.int (nI q)), _, _, _, _]) rfl ?_
            refine g_iinc (L2 := [some (.ref (101 + 3 * i)), some (.int (a)), some (.int (b)), some (.int (c)), some (.int (nI ((r.length) + 1))), some (.int (nI (q))), some (.int (62)), some (.int (2)), some (.int (x)), some (.int (y))]) m14_515 rfl (nI_1 _) rfl rfl ?_
            refine g_iinc (L2 := [some (.ref (101 + 3 * i)), some (.int (a)), some (.int (b)), some (.int (c)), some (.int (nI ((r.length) + 1))), some (.int (nI (q + 1))), some (.int (62)), some (.int (2)), some (.int (x)), some (.int (y))]) m14_518 rfl (nI_1 _) rfl rfl ?_
            refine g_goto m14_521 ?_
            rw [ev_62] at hev
            obtain rfl := Option.some.inj hev
            exact ih (q + 1) _ _ _ _ _ _ (by omega) hs2 (by show r.length + 1 ≤ q + 1; omega) (Stk_pushE (by simp [c11]) rfl hst.2.2) (EqM_w hE _ _ _)
      by_cases hk38 : kk = 38
      · subst hk38
        match s, hl, hst, hev with
        | [], _, _, hev => cases hev
        | [_], _, _, hev => cases hev
        | y :: x :: r, hl, hst, hev =>
          have hl2 : r.length + 1 + 1 ≤ q := hl
          refine g_iload m14_6 rfl ?_
          refine g_aload_n m14_8 rfl ?_
          refine h_gfR (c := 102 + 3 * i) (k := 69 + 3 * i) (p := 101 + 3 * i) m14_9 (pLo _) (tLo hi) rfl (le3 (Nat.le_of_ble_eq_true rfl)) ?_
          refine h_alen (k := 70 + 3 * i) (p := 102 + 3 * i) m14_12 (pLc _) (tLc hi) (Or.inl rfl) ?_
          refine h_ic_geF (xi := ((q : Nat) : Int)) (zi := ((ln i : Nat) : Int)) m14_13 (nI_toInt (by omega)) (nI_toInt (by omega)) (by omega) ?_
          refine g_aload_n m14_16 rfl ?_
          refine h_gfR (c := 102 + 3 * i) (k := 69 + 3 * i) (p := 101 + 3 * i) m14_17 (pLo _) (tLo hi) rfl (le3 (Nat.le_of_ble_eq_true rfl)) ?_
          refine g_iload m14_20 rfl ?_
          refine h_ial (k := 70 + 3 * i) (p := 102 + 3 * i) (j := q) m14_22 (pLc _) (tLc hi) (rfl) (by omega) (by omega) (he0) ?_
          refine g_istore (L2 := [some (.ref (101 + 3 * i)), some (.int (a)), some (.int (b)), some (.int (c)), some (.int (nI ((y :: x :: r).length))), some (.int (nI (q))), some (.int (38)), o7, o8, o9]) m14_23 rfl rfl ?_
          refine g_iload m14_25 rfl ?_
          refine g_sipush m14_27 ?_
          refine h_ic_geF (xi := 38) (zi := 1000) m14_30 rfl rfl (by decide) ?_
          refine g_iload m14_33 rfl ?_
          refine g_iconst m14_35 ?_
          refine h_ic_geT (xi := 38) (zi := 3) m14_36 rfl rfl (by decide) ?_
          refine g_iload m14_43 rfl ?_
          refine g_bipush m14_45 ?_
          refine h_ic_neF (xi := 38) (zi := 33) m14_47 rfl rfl (by decide) ?_
          refine g_iconst m14_54 ?_
          refine g_istore (L2 := [some (.ref (101 + 3 * i)), some (.int (a)), some (.int (b)), some (.int (c)), some (.int (nI ((y :: x :: r).length))), some (.int (nI (q))), some (.int (38)), some (.int (2)), o8, o9]) m14_55 rfl rfl ?_
          refine g_iload m14_57 rfl ?_
          refine g_iload m14_59 rfl ?_
          refine g_isub (u := nI (r.length)) m14_61 (pk_sub (a := r.length + 1 + 1) (b := 2) (by omega)) ?_
          refine g_istore (L2 := [some (.ref (101 + 3 * i)), some (.int (a)), some (.int (b)), some (.int (c)), some (.int (nI (r.length))), some (.int (nI (q))), some (.int (38)), some (.int (2)), o8, o9]) m14_62 rfl rfl ?_
          refine g_iload m14_64 rfl ?_
          refine h_if_ltF (xi := ((r.length : Nat) : Int)) (zi := 0) m14_66 (nI_toInt (by omega)) rfl (by omega) ?_
          refine g_iload m14_69 rfl ?_
          refine g_aload_n m14_71 rfl ?_
          refine h_gfR (c := 103 + 3 * i) (k := 69 + 3 * i) (p := 101 + 3 * i) m14_72 (pLo _) (tLo hi) rfl (le3 (Nat.le_of_ble_eq_true rfl)) ?_
          refine h_alen (k := 71 + 3 * i) (p := 103 + 3 * i) m14_75 (pLw _) (tLw hi) (Or.inl rfl) ?_
          refine h_ic_ltT (xi := ((r.length : Nat) : Int)) (zi := ((ln i : Nat) : Int)) m14_76 (nI_toInt (by omega)) (nI_toInt (by omega)) (by omega) ?_
          refine g_aload_n m14_81 rfl ?_
          refine h_gfR (c := 103 + 3 * i) (k := 69 + 3 * i) (p := 101 + 3 * i) m14_82 (pLo _) (tLo hi) rfl (le3 (Nat.le_of_ble_eq_true rfl)) ?_
          refine g_iload m14_85 rfl ?_
          refine h_ial (k := 71 + 3 * i) (p := 103 + 3 * i) (j := r.length) m14_87 (pLw _) (tLw hi) (rfl) (by omega) (by omega) (hst.2.1) ?_
          refine g_istore (L2 := [some (.ref (101 + 3 * i)), some (.int (a)), some (.int (b)), some (.int (c)), some (.int (nI (r.length))), some (.int (nI (q))), some (.int (38)), some (.int (2)), some (.int (x)), o9]) m14_88 rfl rfl ?_
          refine g_iload m14_90 rfl ?_
          refine g_iconst m14_92 ?_
          refine g_iadd (u := nI ((r.length) + 1)) m14_93 (nI_add (r.length) 1) ?_
          refine g_aload_n m14_94 rfl ?_
          refine h_gfR (c := 103 + 3 * i) (k := 69 + 3 * i) (p := 101 + 3 * i) m14_95 (pLo _) (tLo hi) rfl (le3 (Nat.le_of_ble_eq_true rfl)) ?_
          refine h_alen (k := 71 + 3 * i) (p := 103 + 3 * i) m14_98 (pLw _) (tLw hi) (Or.inl rfl) ?_
          refine h_ic_geF (xi := (((r.length) + 1 : Nat) : Int)) (zi := ((ln i : Nat) : Int)) m14_99 (nI_toInt (by omega)) (nI_toInt (by omega)) (by omega) ?_
          refine g_aload_n m14_102 rfl ?_
          refine h_gfR (c := 103 + 3 * i) (k := 69 + 3 * i) (p := 101 + 3 * i) m14_103 (pLo _) (tLo hi) rfl (le3 (Nat.le_of_ble_eq_true rfl)) ?_
          refine g_iload m14_106 rfl ?_
          refine g_iconst m14_108 ?_
          refine g_iadd (u := nI ((r.length) + 1)) m14_109 (nI_add (r.length) 1) ?_
          refine h_ial (k := 71 + 3 * i) (p := 103 + 3 * i) (j := r.length + 1) m14_110 (pLw _) (tLw hi) (rfl) (by omega) (by omega) (hst.1) ?_
          refine g_goto m14_111 ?_
          refine g_istore (L2 := [some (.ref (101 + 3 * i)), some (.int (a)), some (.int (b)), some (.int (c)), some (.int (nI (r.length))), some (.int (nI (q))), some (.int (38)), some (.int (2)), some (.int (x)), some (.int (y))]) m14_115 rfl rfl ?_
          refine g_iload m14_117 rfl ?_
          refine gs m14_119 ?_
          refine gwpc (pc' := 452) rfl ?_
          refine g_aload_n m14_452 rfl ?_
          refine h_gfR (c := 103 + 3 * i) (k := 69 + 3 * i) (p := 101 + 3 * i) m14_453 (pLo _) (tLo hi) rfl (le3 (Nat.le_of_ble_eq_true rfl)) ?_
          refine g_iload m14_456 rfl ?_
          refine g_iload m14_458 rfl ?_
          refine h_if_eq (xi := _) (zi := 0) m14_460 rfl rfl (fun c12 => ?_) (fun c12 => ?_)
          · skip
            refine g_iconst m14_472 ?_
            refine h_ias (k := 71 + 3 * i) (p := 103 + 3 * i) (j := r.length) m14_473 (pLw _) (tLw hi) (rfl) (by omega) (by omega) ?_
            refine g_goto m14_474 ?_
            refine gwl (L' := [some (.ref (101 + 3 * i)), some (.int a), some (.int b), some (.int c), some (.int (nI (r.length))), some (.int (nI q)), _, _, _, _]) rfl ?_
            refine g_iinc (L2 := [some (.ref (101 + 3 * i)), some (.int (a)), some (.int (b)), some (.int (c)), some (.int (nI ((r.length) + 1))), some (.int (nI (q))), some (.int (38)), some (.int (2)), some (.int (x)), some (.int (y))]) m14_515 rfl (nI_1 _) rfl rfl ?_
            refine g_iinc (L2 := [some (.ref (101 + 3 * i)), some (.int (a)), some (.int (b)), some (.int (c)), some (.int (nI ((r.length) + 1))), some (.int (nI (q + 1))), some (.int (38)), some (.int (2)), some (.int (x)), some (.int (y))]) m14_518 rfl (nI_1 _) rfl rfl ?_
            refine g_goto m14_521 ?_
            rw [ev_38] at hev
            obtain rfl := Option.some.inj hev
            exact ih (q + 1) _ _ _ _ _ _ (by omega) hs2 (by show r.length + 1 ≤ q + 1; omega) (Stk_pushE (by simp [c12]) rfl hst.2.2) (EqM_w hE _ _ _)
          · skip
            refine g_iload m14_463 rfl ?_
            refine h_if_eq (xi := _) (zi := 0) m14_465 rfl rfl (fun c13 => ?_) (fun c13 => ?_)
            · skip
              refine g_iconst m14_472 ?_
              refine h_ias (k := 71 + 3 * i) (p := 103 + 3 * i) (j := r.length) m14_473 (pLw _) (tLw hi) (rfl) (by omega) (by omega) ?_
              refine g_goto m14_474 ?_
              refine gwl (L' := [some (.ref (101 + 3 * i)), some (.int a), some (.int b), some (.int c), some (.int (nI (r.length))), some (.int (nI q)), _, _, _, _]) rfl ?_
              refine g_iinc (L2 := [some (.ref (101 + 3 * i)), some (.int (a)), some (.int (b)), some (.int (c)), some (.int (nI ((r.length) + 1))), some (.int (nI (q))), some (.int (38)), some (.int (2)), some (.int (x)), some (.int (y))]) m14_515 rfl (nI_1 _) rfl rfl ?_
              refine g_iinc (L2 := [some (.ref (101 + 3 * i)), some (.int (a)), some (.int (b)), some (.int (c)), some (.int (nI ((r.length) + 1))), some (.int (nI (q + 1))), some (.int (38)), some (.int (2)), some (.int (x)), some (.int (y))]) m14_518 rfl (nI_1 _) rfl rfl ?_
              refine g_goto m14_521 ?_
              rw [ev_38] at hev
              obtain rfl := Option.some.inj hev
              exact ih (q + 1) _ _ _ _ _ _ (by omega) hs2 (by show r.length + 1 ≤ q + 1; omega) (Stk_pushE (by simp [c12, c13]) rfl hst.2.2) (EqM_w hE _ _ _)
            · skip
              refine g_iconst m14_468 ?_
              refine g_goto m14_469 ?_
              refine h_ias (k := 71 + 3 * i) (p := 103 + 3 * i) (j := r.length) m14_473 (pLw _) (tLw hi) (rfl) (by omega) (by omega) ?_
              refine g_goto m14_474 ?_
              refine gwl (L' := [some (.ref (101 + 3 * i)), some (.int a), some (.int b), some (.int c), some (.int (nI (r.length))), some (.int (nI q)), _, _, _, _]) rfl ?_
              refine g_iinc (L2 := [some (.ref (101 + 3 * i)), some (.int (a)), some (.int (b)), some (.int (c)), some (.int (nI ((r.length) + 1))), some (.int (nI (q))), some (.int (38)), some (.int (2)), some (.int (x)), some (.int (y))]) m14_515 rfl (nI_1 _) rfl rfl ?_
              refine g_iinc (L2 := [some (.ref (101 + 3 * i)), some (.int (a)), some (.int (b)), some (.int (c)), some (.int (nI ((r.length) + 1))), some (.int (nI (q + 1))), some (.int (38)), some (.int (2)), some (.int (x)), some (.int (y))]) m14_518 rfl (nI_1 _) rfl rfl ?_
              refine g_goto m14_521 ?_
              rw [ev_38] at hev
              obtain rfl := Option.some.inj hev
              exact ih (q + 1) _ _ _ _ _ _ (by omega) hs2 (by show r.length + 1 ≤ q + 1; omega) (Stk_pushE (by simp [c12, c13]) rfl hst.2.2) (EqM_w hE _ _ _)
      by_cases hk124 : kk = 124
      · subst hk124
        match s, hl, hst, hev with
        | [], _, _, hev => cases hev
        | [_], _, _, hev => cases hev
        | y :: x :: r, hl, hst, hev =>
          have hl2 : r.length + 1 + 1 ≤ q := hl
          refine g_iload m14_6 rfl ?_
          refine g_aload_n m14_8 rfl ?_
          refine h_gfR (c := 102 + 3 * i) (k := 69 + 3 * i) (p := 101 + 3 * i) m14_9 (pLo _) (tLo hi) rfl (le3 (Nat.le_of_ble_eq_true rfl)) ?_
          refine h_alen (k := 70 + 3 * i) (p := 102 + 3 * i) m14_12 (pLc _) (tLc hi) (Or.inl rfl) ?_
          refine h_ic_geF (xi := ((q : Nat) : Int)) (zi := ((ln i : Nat) : Int)) m14_13 (nI_toInt (by omega)) (nI_toInt (by omega)) (by omega) ?_
          refine g_aload_n m14_16 rfl ?_
          refine h_gfR (c := 102 + 3 * i) (k := 69 + 3 * i) (p := 101 + 3 * i) m14_17 (pLo _) (tLo hi) rfl (le3 (Nat.le_of_ble_eq_true rfl)) ?_
          refine g_iload m14_20 rfl ?_
          refine h_ial (k := 70 + 3 * i) (p := 102 + 3 * i) (j := q) m14_22 (pLc _) (tLc hi) (rfl) (by omega) (by omega) (he0) ?_
          refine g_istore (L2 := [some (.ref (101 + 3 * i)), some (.int (a)), some (.int (b)), some (.int (c)), some (.int (nI ((y :: x :: r).length))), some (.int (nI (q))), some (.int (124)), o7, o8, o9]) m14_23 rfl rfl ?_
          refine g_iload m14_25 rfl ?_
          refine g_sipush m14_27 ?_
          refine h_ic_geF (xi := 124) (zi := 1000) m14_30 rfl rfl (by decide) ?_
          refine g_iload m14_33 rfl ?_
          refine g_iconst m14_35 ?_
          refine h_ic_geT (xi := 124) (zi := 3) m14_36 rfl rfl (by decide) ?_
          refine g_iload m14_43 rfl ?_
          refine g_bipush m14_45 ?_
          refine h_ic_neF (xi := 124) (zi := 33) m14_47 rfl rfl (by decide) ?_
          refine g_iconst m14_54 ?_
          refine g_istore (L2 := [some (.ref (101 + 3 * i)), some (.int (a)), some (.int (b)), some (.int (c)), some (.int (nI ((y :: x :: r).length))), some (.int (nI (q))), some (.int (124)), some (.int (2)), o8, o9]) m14_55 rfl rfl ?_
          refine g_iload m14_57 rfl ?_
          refine g_iload m14_59 rfl ?_
          refine g_isub (u := nI (r.length)) m14_61 (pk_sub (a := r.length + 1 + 1) (b := 2) (by omega)) ?_
          refine g_istore (L2 := [some (.ref (101 + 3 * i)), some (.int (a)), some (.int (b)), some (.int (c)), some (.int (nI (r.length))), some (.int (nI (q))), some (.int (124)), some (.int (2)), o8, o9]) m14_62 rfl rfl ?_
          refine g_iload m14_64 rfl ?_
          refine h_if_ltF (xi := ((r.length : Nat) : Int)) (zi := 0) m14_66 (nI_toInt (by omega)) rfl (by omega) ?_
          refine g_iload m14_69 rfl ?_
          refine g_aload_n m14_71 rfl ?_
          refine h_gfR (c := 103 + 3 * i) (k := 69 + 3 * i) (p := 101 + 3 * i) m14_72 (pLo _) (tLo hi) rfl (le3 (Nat.le_of_ble_eq_true rfl)) ?_
          refine h_alen (k := 71 + 3 * i) (p := 103 + 3 * i) m14_75 (pLw _) (tLw hi) (Or.inl rfl) ?_
          refine h_ic_ltT (xi := ((r.length : Nat) : Int)) (zi := ((ln i : Nat) : Int)) m14_76 (nI_toInt (by omega)) (nI_toInt (by omega)) (by omega) ?_
          refine g_aload_n m14_81 rfl ?_
          refine h_gfR (c := 103 + 3 * i) (k := 69 + 3 * i) (p := 101 + 3 * i) m14_82 (pLo _) (tLo hi) rfl (le3 (Nat.le_of_ble_eq_true rfl)) ?_
          refine g_iload m14_85 rfl ?_
          refine h_ial (k := 71 + 3 * i) (p := 103 + 3 * i) (j := r.length) m14_87 (pLw _) (tLw hi) (rfl) (by omega) (by omega) (hst.2.1) ?_
          refine g_istore (L2 := [some (.ref (101 + 3 * i)), some (.int (a)), some (.int (b)), some (.int (c)), some (.int (nI (r.length))), some (.int (nI (q))), some (.int (124)), some (.int (2)), some (.int (x)), o9]) m14_88 rfl rfl ?_
          refine g_iload m14_90 rfl ?_
          refine g_iconst m14_92 ?_
          refine g_iadd (u := nI ((r.length) + 1)) m14_93 (nI_add (r.length) 1) ?_
          refine g_aload_n m14_94 rfl ?_
          refine h_gfR (c := 103 + 3 * i) (k := 69 + 3 * i) (p := 101 + 3 * i) m14_95 (pLo _) (tLo hi) rfl (le3 (Nat.le_of_ble_eq_true rfl)) ?_
          refine h_alen (k := 71 + 3 * i) (p := 103 + 3 * i) m14_98 (pLw _) (tLw hi) (Or.inl rfl) ?_
          refine h_ic_geF (xi := (((r.length) + 1 : Nat) : Int)) (zi := ((ln i : Nat) : Int)) m14_99 (nI_toInt (by omega)) (nI_toInt (by omega)) (by omega) ?_
          refine g_aload_n m14_102 rfl ?_
          refine h_gfR (c := 103 + 3 * i) (k := 69 + 3 * i) (p := 101 + 3 * i) m14_103 (pLo _) (tLo hi) rfl (le3 (Nat.le_of_ble_eq_true rfl)) ?_
          refine g_iload m14_106 rfl ?_
          refine g_iconst m14_108 ?_
          refine g_iadd (u := nI ((r.length) + 1)) m14_109 (nI_add (r.length) 1) ?_
          refine h_ial (k := 71 + 3 * i) (p := 103 + 3 * i) (j := r.length + 1) m14_110 (pLw _) (tLw hi) (rfl) (by omega) (by omega) (hst.1) ?_
          refine g_goto m14_111 ?_
          refine g_istore (L2 := [some (.ref (101 + 3 * i)), some (.int (a)), some (.int (b)), some (.int (c)), some (.int (nI (r.length))), some (.int (nI (q))), some (.int (124)), some (.int (2)), some (.int (x)), some (.int (y))]) m14_115 rfl rfl ?_
          refine g_iload m14_117 rfl ?_
          refine gs m14_119 ?_
          refine gwpc (pc' := 477) rfl ?_
          refine g_aload_n m14_477 rfl ?_
          refine h_gfR (c := 103 + 3 * i) (k := 69 + 3 * i) (p := 101 + 3 * i) m14_478 (pLo _) (tLo hi) rfl (le3 (Nat.le_of_ble_eq_true rfl)) ?_
          refine g_iload m14_481 rfl ?_
          refine g_iload m14_483 rfl ?_
          refine h_if_ne (xi := _) (zi := 0) m14_485 rfl rfl (fun c14 => ?_) (fun c14 => ?_)
          · skip
            refine g_iload m14_488 rfl ?_
            refine h_if_eq (xi := _) (zi := 0) m14_490 rfl rfl (fun c15 => ?_) (fun c15 => ?_)
            · skip
              refine g_iconst m14_497 ?_
              refine h_ias (k := 71 + 3 * i) (p := 103 + 3 * i) (j := r.length) m14_498 (pLw _) (tLw hi) (rfl) (by omega) (by omega) ?_
              refine g_goto m14_499 ?_
              refine gwl (L' := [some (.ref (101 + 3 * i)), some (.int a), some (.int b), some (.int c), some (.int (nI (r.length))), some (.int (nI q)), _, _, _, _]) rfl ?_
              refine g_iinc (L2 := [some (.ref (101 + 3 * i)), some (.int (a)), some (.int (b)), some (.int (c)), some (.int (nI ((r.length) + 1))), some (.int (nI (q))), some (.int (124)), some (.int (2)), some (.int (x)), some (.int (y))]) m14_515 rfl (nI_1 _) rfl rfl ?_
              refine g_iinc (L2 := [some (.ref (101 + 3 * i)), some (.int (a)), some (.int (b)), some (.int (c)), some (.int (nI ((r.length) + 1))), some (.int (nI (q + 1))), some (.int (124)), some (.int (2)), some (.int (x)), some (.int (y))]) m14_518 rfl (nI_1 _) rfl rfl ?_
              refine g_goto m14_521 ?_
              rw [ev_124] at hev
              obtain rfl := Option.some.inj hev
              exact ih (q + 1) _ _ _ _ _ _ (by omega) hs2 (by show r.length + 1 ≤ q + 1; omega) (Stk_pushE (by simp [c14, c15]) rfl hst.2.2) (EqM_w hE _ _ _)
            · skip
              refine g_iconst m14_493 ?_
              refine g_goto m14_494 ?_
              refine h_ias (k := 71 + 3 * i) (p := 103 + 3 * i) (j := r.length) m14_498 (pLw _) (tLw hi) (rfl) (by omega) (by omega) ?_
              refine g_goto m14_499 ?_
              refine gwl (L' := [some (.ref (101 + 3 * i)), some (.int a), some (.int b), some (.int c), some (.int (nI (r.length))), some (.int (nI q)), _, _, _, _]) rfl ?_
              refine g_iinc (L2 := [some (.ref (101 + 3 * i)), some (.int (a)), some (.int (b)), some (.int (c)), some (.int (nI ((r.length) + 1))), some (.int (nI (q))), some (.int (124)), some (.int (2)), some (.int (x)), some (.int (y))]) m14_515 rfl (nI_1 _) rfl rfl ?_
              refine g_iinc (L2 := [some (.ref (101 + 3 * i)), some (.int (a)), some (.int (b)), some (.int (c)), some (.int (nI ((r.length) + 1))), some (.int (nI (q + 1))), some (.int (124)), some (.int (2)), some (.int (x)), some (.int (y))]) m14_518 rfl (nI_1 _) rfl rfl ?_
              refine g_goto m14_521 ?_
              rw [ev_124] at hev
              obtain rfl := Option.some.inj hev
              exact ih (q + 1) _ _ _ _ _ _ (by omega) hs2 (by show r.length + 1 ≤ q + 1; omega) (Stk_pushE (by simp [c14, c15]) rfl hst.2.2) (EqM_w hE _ _ _)
          · skip
            refine g_iconst m14_493 ?_
            refine g_goto m14_494 ?_
            refine h_ias (k := 71 + 3 * i) (p := 103 + 3 * i) (j := r.length) m14_498 (pLw _) (tLw hi) (rfl) (by omega) (by omega) ?_
            refine g_goto m14_499 ?_
            refine gwl (L' := [some (.ref (101 + 3 * i)), some (.int a), some (.int b), some (.int c), some (.int (nI (r.length))), some (.int (nI q)), _, _, _, _]) rfl ?_
            refine g_iinc (L2 := [some (.ref (101 + 3 * i)), some (.int (a)), some (.int (b)), some (.int (c)), some (.int (nI ((r.length) + 1))), some (.int (nI (q))), some (.int (124)), some (.int (2)), some (.int (x)), some (.int (y))]) m14_515 rfl (nI_1 _) rfl rfl ?_
            refine g_iinc (L2 := [some (.ref (101 + 3 * i)), some (.int (a)), some (.int (b)), some (.int (c)), some (.int (nI ((r.length) + 1))), some (.int (nI (q + 1))), some (.int (124)), some (.int (2)), some (.int (x)), some (.int (y))]) m14_518 rfl (nI_1 _) rfl rfl ?_
            refine g_goto m14_521 ?_
            rw [ev_124] at hev
            obtain rfl := Option.some.inj hev
            exact ih (q + 1) _ _ _ _ _ _ (by omega) hs2 (by show r.length + 1 ≤ q + 1; omega) (Stk_pushE (by simp [c14]) rfl hst.2.2) (EqM_w hE _ _ _)
      by_cases hkn : 1000 ≤ kk.toInt ∨ kk.toInt < 0
      · skip
        refine g_iload m14_6 rfl ?_
        refine g_aload_n m14_8 rfl ?_
        refine h_gfR (c := 102 + 3 * i) (k := 69 + 3 * i) (p := 101 + 3 * i) m14_9 (pLo _) (tLo hi) rfl (le3 (Nat.le_of_ble_eq_true rfl)) ?_
        refine h_alen (k := 70 + 3 * i) (p := 102 + 3 * i) m14_12 (pLc _) (tLc hi) (Or.inl rfl) ?_
        refine h_ic_geF (xi := ((q : Nat) : Int)) (zi := ((ln i : Nat) : Int)) m14_13 (nI_toInt (by omega)) (nI_toInt (by omega)) (by omega) ?_
        refine g_aload_n m14_16 rfl ?_
        refine h_gfR (c := 102 + 3 * i) (k := 69 + 3 * i) (p := 101 + 3 * i) m14_17 (pLo _) (tLo hi) rfl (le3 (Nat.le_of_ble_eq_true rfl)) ?_
        refine g_iload m14_20 rfl ?_
        refine h_ial (k := 70 + 3 * i) (p := 102 + 3 * i) (j := q) m14_22 (pLc _) (tLc hi) (rfl) (by omega) (by omega) (he0) ?_
        refine g_istore (L2 := [some (.ref (101 + 3 * i)), some (.int (a)), some (.int (b)), some (.int (c)), some (.int (nI (s.length))), some (.int (nI (q))), some (.int (kk)), o7, o8, o9]) m14_23 rfl rfl ?_
        refine g_iload m14_25 rfl ?_
        refine g_sipush m14_27 ?_
        refine h_ic_ge (xi := kk.toInt) (zi := 1000) m14_30 rfl rfl (fun c16 => ?_) (fun c16 => ?_)
        · skip
          refine g_iconst m14_39 ?_
          refine g_goto m14_40 ?_
          refine g_istore (L2 := [some (.ref (101 + 3 * i)), some (.int (a)), some (.int (b)), some (.int (c)), some (.int (nI (s.length))), some (.int (nI (q))), some (.int (kk)), some (.int (0)), o8, o9]) m14_55 rfl rfl ?_
          refine g_iload m14_57 rfl ?_
          refine g_iload m14_59 rfl ?_
          refine g_isub (u := nI (s.length)) m14_61 (by show nI s.length - nI 0 = nI s.length; rw [pk_sub (Nat.zero_le _), Nat.sub_zero]) ?_
          refine g_istore (L2 := [some (.ref (101 + 3 * i)), some (.int (a)), some (.int (b)), some (.int (c)), some (.int (nI (s.length))), some (.int (nI (q))), some (.int (kk)), some (.int (0)), o8, o9]) m14_62 rfl rfl ?_
          refine g_iload m14_64 rfl ?_
          refine h_if_ltF (xi := ((s.length : Nat) : Int)) (zi := 0) m14_66 (nI_toInt (by omega)) rfl (by omega) ?_
          refine g_iload m14_69 rfl ?_
          refine g_aload_n m14_71 rfl ?_
          refine h_gfR (c := 103 + 3 * i) (k := 69 + 3 * i) (p := 101 + 3 * i) m14_72 (pLo _) (tLo hi) rfl (le3 (Nat.le_of_ble_eq_true rfl)) ?_
          refine h_alen (k := 71 + 3 * i) (p := 103 + 3 * i) m14_75 (pLw _) (tLw hi) (Or.inl rfl) ?_
          refine h_ic_ltT (xi := ((s.length : Nat) : Int)) (zi := ((ln i : Nat) : Int)) m14_76 (nI_toInt (by omega)) (nI_toInt (by omega)) (by omega) ?_
          refine g_aload_n m14_81 rfl ?_
          refine h_gfR (c := 103 + 3 * i) (k := 69 + 3 * i) (p := 101 + 3 * i) m14_82 (pLo _) (tLo hi) rfl (le3 (Nat.le_of_ble_eq_true rfl)) ?_
          refine g_iload m14_85 rfl ?_
          refine h_ial (k := 71 + 3 * i) (p := 103 + 3 * i) (j := s.length) m14_87 (pLw _) (tLw hi) (rfl) (by omega) (by omega) (rfl) ?_
          refine g_istore (L2 := [some (.ref (101 + 3 * i)), some (.int (a)), some (.int (b)), some (.int (c)), some (.int (nI (s.length))), some (.int (nI (q))), some (.int (kk)), some (.int (0)), some (.int (m2 (71 + 3 * i) s.length)), o9]) m14_88 rfl rfl ?_
          refine g_iload m14_90 rfl ?_
          refine g_iconst m14_92 ?_
          refine g_iadd (u := nI ((s.length) + 1)) m14_93 (nI_add (s.length) 1) ?_
          refine g_aload_n m14_94 rfl ?_
          refine h_gfR (c := 103 + 3 * i) (k := 69 + 3 * i) (p := 101 + 3 * i) m14_95 (pLo _) (tLo hi) rfl (le3 (Nat.le_of_ble_eq_true rfl)) ?_
          refine h_alen (k := 71 + 3 * i) (p := 103 + 3 * i) m14_98 (pLw _) (tLw hi) (Or.inl rfl) ?_
          refine h_ic_ge (xi := (((s.length) + 1 : Nat) : Int)) (zi := ((ln i : Nat) : Int)) m14_99 (nI_toInt (by omega)) (nI_toInt (by omega)) (fun c17 => ?_) (fun c17 => ?_)
          · skip
            refine g_iconst m14_114 ?_
            refine g_istore (L2 := [some (.ref (101 + 3 * i)), some (.int (a)), some (.int (b)), some (.int (c)), some (.int (nI (s.length))), some (.int (nI (q))), some (.int (kk)), some (.int (0)), some (.int (m2 (71 + 3 * i) s.length)), some (.int (0))]) m14_115 rfl rfl ?_
            refine g_iload m14_117 rfl ?_
            refine gs m14_119 ?_
            refine gwpc (pc' := 502) (lsD (by omega)) ?_
            refine g_aload_n m14_502 rfl ?_
            refine h_gfR (c := 103 + 3 * i) (k := 69 + 3 * i) (p := 101 + 3 * i) m14_503 (pLo _) (tLo hi) rfl (le3 (Nat.le_of_ble_eq_true rfl)) ?_
            refine g_iload m14_506 rfl ?_
            refine g_iload m14_508 rfl ?_
            refine g_sipush m14_510 ?_
            refine g_isub m14_513 rfl ?_
            refine h_ias (k := 71 + 3 * i) (p := 103 + 3 * i) (j := s.length) m14_514 (pLw _) (tLw hi) (rfl) (by omega) (by omega) ?_
            refine gwl (L' := [some (.ref (101 + 3 * i)), some (.int a), some (.int b), some (.int c), some (.int (nI (s.length))), some (.int (nI q)), _, _, _, _]) rfl ?_
            refine g_iinc (L2 := [some (.ref (101 + 3 * i)), some (.int (a)), some (.int (b)), some (.int (c)), some (.int (nI ((s.length) + 1))), some (.int (nI (q))), some (.int (kk)), some (.int (0)), some (.int (m2 (71 + 3 * i) s.length)), some (.int (0))]) m14_515 rfl (nI_1 _) rfl rfl ?_
            refine g_iinc (L2 := [some (.ref (101 + 3 * i)), some (.int (a)), some (.int (b)), some (.int (c)), some (.int (nI ((s.length) + 1))), some (.int (nI (q + 1))), some (.int (kk)), some (.int (0)), some (.int (m2 (71 + 3 * i) s.length)), some (.int (0))]) m14_518 rfl (nI_1 _) rfl rfl ?_
            refine g_goto m14_521 ?_
            rw [ev_n hk0 hk1 hk2 hkn] at hev
            obtain rfl := Option.some.inj hev
            exact ih (q + 1) _ _ _ _ _ _ (by omega) hs2 (by show s.length + 1 ≤ q + 1; omega) (Stk_pushE rfl rfl hst) (EqM_w hE _ _ _)
          · skip
            refine g_aload_n m14_102 rfl ?_
            refine h_gfR (c := 103 + 3 * i) (k := 69 + 3 * i) (p := 101 + 3 * i) m14_103 (pLo _) (tLo hi) rfl (le3 (Nat.le_of_ble_eq_true rfl)) ?_
            refine g_iload m14_106 rfl ?_
            refine g_iconst m14_108 ?_
            refine g_iadd (u := nI ((s.length) + 1)) m14_109 (nI_add (s.length) 1) ?_
            refine h_ial (k := 71 + 3 * i) (p := 103 + 3 * i) (j := (s.length) + 1) m14_110 (pLw _) (tLw hi) (rfl) (by omega) (by omega) (rfl) ?_
            refine g_goto m14_111 ?_
            refine g_istore (L2 := [some (.ref (101 + 3 * i)), some (.int (a)), some (.int (b)), some (.int (c)), some (.int (nI (s.length))), some (.int (nI (q))), some (.int (kk)), some (.int (0)), some (.int (m2 (71 + 3 * i) s.length)), some (.int (m2 (71 + 3 * i) ((s.length) + 1)))]) m14_115 rfl rfl ?_
            refine g_iload m14_117 rfl ?_
            refine gs m14_119 ?_
            refine gwpc (pc' := 502) (lsD (by omega)) ?_
            refine g_aload_n m14_502 rfl ?_
            refine h_gfR (c := 103 + 3 * i) (k := 69 + 3 * i) (p := 101 + 3 * i) m14_503 (pLo _) (tLo hi) rfl (le3 (Nat.le_of_ble_eq_true rfl)) ?_
            refine g_iload m14_506 rfl ?_
            refine g_iload m14_508 rfl ?_
            refine g_sipush m14_510 ?_
            refine g_isub m14_513 rfl ?_
            refine h_ias (k := 71 + 3 * i) (p := 103 + 3 * i) (j := s.length) m14_514 (pLw _) (tLw hi) (rfl) (by omega) (by omega) ?_
            refine gwl (L' := [some (.ref (101 + 3 * i)), some (.int a), some (.int b), some (.int c), some (.int (nI (s.length))), some (.int (nI q)), _, _, _, _]) rfl ?_
            refine g_iinc (L2 := [some (.ref (101 + 3 * i)), some (.int (a)), some (.int (b)), some (.int (c)), some (.int (nI ((s.length) + 1))), some (.int (nI (q))), some (.int (kk)), some (.int (0)), some (.int (m2 (71 + 3 * i) s.length)), some (.int (m2 (71 + 3 * i) ((s.length) + 1)))]) m14_515 rfl (nI_1 _) rfl rfl ?_
            refine g_iinc (L2 := [some (.ref (101 + 3 * i)), some (.int (a)), some (.int (b)), some (.int (c)), some (.int (nI ((s.length) + 1))), some (.int (nI (q + 1))), some (.int (kk)), some (.int (0)), some (.int (m2 (71 + 3 * i) s.length)), some (.int (m2 (71 + 3 * i) ((s.length) + 1)))]) m14_518 rfl (nI_1 _) rfl rfl ?_
            refine g_goto m14_521 ?_
            rw [ev_n hk0 hk1 hk2 hkn] at hev
            obtain rfl := Option.some.inj hev
            exact ih (q + 1) _ _ _ _ _ _ (by omega) hs2 (by show s.length + 1 ≤ q + 1; omega) (Stk_pushE rfl rfl hst) (EqM_w hE _ _ _)
        · skip
          refine g_iload m14_33 rfl ?_
          refine g_iconst m14_35 ?_
          refine h_ic_geF (xi := kk.toInt) (zi := 3) m14_36 rfl rfl (by omega) ?_
          refine g_iconst m14_39 ?_
          refine g_goto m14_40 ?_
          refine g_istore (L2 := [some (.ref (101 + 3 * i)), some (.int (a)), some (.int (b)), some (.int (c)), some (.int (nI (s.length))), some (.int (nI (q))), some (.int (kk)), some (.int (0)), o8, o9]) m14_55 rfl rfl ?_
          refine g_iload m14_57 rfl ?_
          refine g_iload m14_59 rfl ?_
          refine g_isub (u := nI (s.length)) m14_61 (by show nI s.length - nI 0 = nI s.length; rw [pk_sub (Nat.zero_le _), Nat.sub_zero]) ?_
          refine g_istore (L2 := [some (.ref (101 + 3 * i)), some (.int (a)), some (.int (b)), some (.int (c)), some (.int (nI (s.length))), some (.int (nI (q))), some (.int (kk)), some (.int (0)), o8, o9]) m14_62 rfl rfl ?_
          refine g_iload m14_64 rfl ?_
          refine h_if_ltF (xi := ((s.length : Nat) : Int)) (zi := 0) m14_66 (nI_toInt (by omega)) rfl (by omega) ?_
          refine g_iload m14_69 rfl ?_
          refine g_aload_n m14_71 rfl ?_
          refine h_gfR (c := 103 + 3 * i) (k := 69 + 3 * i) (p := 101 + 3 * i) m14_72 (pLo _) (tLo hi) rfl (le3 (Nat.le_of_ble_eq_true rfl)) ?_
          refine h_alen (k := 71 + 3 * i) (p := 103 + 3 * i) m14_75 (pLw _) (tLw hi) (Or.inl rfl) ?_
          refine h_ic_ltT (xi := ((s.length : Nat) : Int)) (zi := ((ln i : Nat) : Int)) m14_76 (nI_toInt (by omega)) (nI_toInt (by omega)) (by omega) ?_
          refine g_aload_n m14_81 rfl ?_
          refine h_gfR (c := 103 + 3 * i) (k := 69 + 3 * i) (p := 101 + 3 * i) m14_82 (pLo _) (tLo hi) rfl (le3 (Nat.le_of_ble_eq_true rfl)) ?_
          refine g_iload m14_85 rfl ?_
          refine h_ial (k := 71 + 3 * i) (p := 103 + 3 * i) (j := s.length) m14_87 (pLw _) (tLw hi) (rfl) (by omega) (by omega) (rfl) ?_
          refine g_istore (L2 := [some (.ref (101 + 3 * i)), some (.int (a)), some (.int (b)), some (.int (c)), some (.int (nI (s.length))), some (.int (nI (q))), some (.int (kk)), some (.int (0)), some (.int (m2 (71 + 3 * i) s.length)), o9]) m14_88 rfl rfl ?_
          refine g_iload m14_90 rfl ?_
          refine g_iconst m14_92 ?_
          refine g_iadd (u := nI ((s.length) + 1)) m14_93 (nI_add (s.length) 1) ?_
          refine g_aload_n m14_94 rfl ?_
          refine h_gfR (c := 103 + 3 * i) (k := 69 + 3 * i) (p := 101 + 3 * i) m14_95 (pLo _) (tLo hi) rfl (le3 (Nat.le_of_ble_eq_true rfl)) ?_
          refine h_alen (k := 71 + 3 * i) (p := 103 + 3 * i) m14_98 (pLw _) (tLw hi) (Or.inl rfl) ?_
          refine h_ic_ge (xi := (((s.length) + 1 : Nat) : Int)) (zi := ((ln i : Nat) : Int)) m14_99 (nI_toInt (by omega)) (nI_toInt (by omega)) (fun c18 => ?_) (fun c18 => ?_)
          · skip
            refine g_iconst m14_114 ?_
            refine g_istore (L2 := [some (.ref (101 + 3 * i)), some (.int (a)), some (.int (b)), some (.int (c)), some (.int (nI (s.length))), some (.int (nI (q))), some (.int (kk)), some (.int (0)), some (.int (m2 (71 + 3 * i) s.length)), some (.int (0))]) m14_115 rfl rfl ?_
            refine g_iload m14_117 rfl ?_
            refine gs m14_119 ?_
            refine gwpc (pc' := 502) (lsD (by omega)) ?_
            refine g_aload_n m14_502 rfl ?_
            refine h_gfR (c := 103 + 3 * i) (k := 69 + 3 * i) (p := 101 + 3 * i) m14_503 (pLo _) (tLo hi) rfl (le3 (Nat.le_of_ble_eq_true rfl)) ?_
            refine g_iload m14_506 rfl ?_
            refine g_iload m14_508 rfl ?_
            refine g_sipush m14_510 ?_
            refine g_isub m14_513 rfl ?_
            refine h_ias (k := 71 + 3 * i) (p := 103 + 3 * i) (j := s.length) m14_514 (pLw _) (tLw hi) (rfl) (by omega) (by omega) ?_
            refine gwl (L' := [some (.ref (101 + 3 * i)), some (.int a), some (.int b), some (.int c), some (.int (nI (s.length))), some (.int (nI q)), _, _, _, _]) rfl ?_
            refine g_iinc (L2 := [some (.ref (101 + 3 * i)), some (.int (a)), some (.int (b)), some (.int (c)), some (.int (nI ((s.length) + 1))), some (.int (nI (q))), some (.int (kk)), some (.int (0)), some (.int (m2 (71 + 3 * i) s.length)), some (.int (0))]) m14_515 rfl (nI_1 _) rfl rfl ?_
            refine g_iinc (L2 := [some (.ref (101 + 3 * i)), some (.int (a)), some (.int (b)), some (.int (c)), some (.int (nI ((s.length) + 1))), some (.int (nI (q + 1))), some (.int (kk)), some (.int (0)), some (.int (m2 (71 + 3 * i) s.length)), some (.int (0))]) m14_518 rfl (nI_1 _) rfl rfl ?_
            refine g_goto m14_521 ?_
            rw [ev_n hk0 hk1 hk2 hkn] at hev
            obtain rfl := Option.some.inj hev
            exact ih (q + 1) _ _ _ _ _ _ (by omega) hs2 (by show s.length + 1 ≤ q + 1; omega) (Stk_pushE rfl rfl hst) (EqM_w hE _ _ _)
          · skip
            refine g_aload_n m14_102 rfl ?_
            refine h_gfR (c := 103 + 3 * i) (k := 69 + 3 * i) (p := 101 + 3 * i) m14_103 (pLo _) (tLo hi) rfl (le3 (Nat.le_of_ble_eq_true rfl)) ?_
            refine g_iload m14_106 rfl ?_
            refine g_iconst m14_108 ?_
            refine g_iadd (u := nI ((s.length) + 1)) m14_109 (nI_add (s.length) 1) ?_
            refine h_ial (k := 71 + 3 * i) (p := 103 + 3 * i) (j := (s.length) + 1) m14_110 (pLw _) (tLw hi) (rfl) (by omega) (by omega) (rfl) ?_
            refine g_goto m14_111 ?_
            refine g_istore (L2 := [some (.ref (101 + 3 * i)), some (.int (a)), some (.int (b)), some (.int (c)), some (.int (nI (s.length))), some (.int (nI (q))), some (.int (kk)), some (.int (0)), some (.int (m2 (71 + 3 * i) s.length)), some (.int (m2 (71 + 3 * i) ((s.length) + 1)))]) m14_115 rfl rfl ?_
            refine g_iload m14_117 rfl ?_
            refine gs m14_119 ?_
            refine gwpc (pc' := 502) (lsD (by omega)) ?_
            refine g_aload_n m14_502 rfl ?_
            refine h_gfR (c := 103 + 3 * i) (k := 69 + 3 * i) (p := 101 + 3 * i) m14_503 (pLo _) (tLo hi) rfl (le3 (Nat.le_of_ble_eq_true rfl)) ?_
            refine g_iload m14_506 rfl ?_
            refine g_iload m14_508 rfl ?_
            refine g_sipush m14_510 ?_
            refine g_isub m14_513 rfl ?_
            refine h_ias (k := 71 + 3 * i) (p := 103 + 3 * i) (j := s.length) m14_514 (pLw _) (tLw hi) (rfl) (by omega) (by omega) ?_
            refine gwl (L' := [some (.ref (101 + 3 * i)), some (.int a), some (.int b), some (.int c), some (.int (nI (s.length))), some (.int (nI q)), _, _, _, _]) rfl ?_
            refine g_iinc (L2 := [some (.ref (101 + 3 * i)), some (.int (a)), some (.int (b)), some (.int (c)), some (.int (nI ((s.length) + 1))), some (.int (nI (q))), some (.int (kk)), some (.int (0)), some (.int (m2 (71 + 3 * i) s.length)), some (.int (m2 (71 + 3 * i) ((s.length) + 1)))]) m14_515 rfl (nI_1 _) rfl rfl ?_
            refine g_iinc (L2 := [some (.ref (101 + 3 * i)), some (.int (a)), some (.int (b)), some (.int (c)), some (.int (nI ((s.length) + 1))), some (.int (nI (q + 1))), some (.int (kk)), some (.int (0)), some (.int (m2 (71 + 3 * i) s.length)), some (.int (m2 (71 + 3 * i) ((s.length) + 1)))]) m14_518 rfl (nI_1 _) rfl rfl ?_
            refine g_goto m14_521 ?_
            rw [ev_n hk0 hk1 hk2 hkn] at hev
            obtain rfl := Option.some.inj hev
            exact ih (q + 1) _ _ _ _ _ _ (by omega) hs2 (by show s.length + 1 ≤ q + 1; omega) (Stk_pushE rfl rfl hst) (EqM_w hE _ _ _)
      exfalso
      rw [ev_x hk0 hk1 hk2 hkn hk33 hk43 hk45 hk42 hk47 hk37 hk60 hk61 hk62 hk38 hk124] at hev
      cases hev
  exact key (ln i) 0 [] m none none none none (by omega) (by rw [List.drop_zero]; exact hv []) (Nat.le_refl _) trivial EqM.rf
end
