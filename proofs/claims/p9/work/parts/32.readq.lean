/-! THE CLASS'S READER: levels -/
theorem Out.pre {m m1 : MW} {n u z : Nat} {r : PR3} {m2 : MW} (hF : FrR m m1) (h4 : ∀ j, m1 44 j = m 44 j) (h : Out m1 n u z r m2) : Out m n u z r m2 := by
  obtain ⟨h1, z2, h2, h3, h5⟩ := h
  refine ⟨hF.tr h1, z2, h2, h3, fun ho => ⟨(h5 ho).1, fun j hj => ((h5 ho).2.1 j hj).trans (h4 j), (h5 ho).2.2⟩⟩
theorem nm_u {m : MW} {u : Nat} (h : m 43 4 = nI u) (hu : u ≤ 1) : (if m 43 4 = 0 then Value.ref 3 else .ref 4) = .ref (3 + u) := by
  rw [h]
  rcases (show u = 0 ∨ u = 1 by omega) with rfl | rfl <;> rfl
theorem row_up (m : MW) {k j k2 : Nat} (x : Int32) (h : k2 ≠ k) : upm m k j x k2 = m k2 := funext fun _ => upm_k m x h
theorem ixS_u {u c : Nat} (hu : u ≤ 1) (hc : c < 256) : ixS u c = match nameP u c with | some k => k.toInt | none => -1 := by
  rcases (show u = 0 ∨ u = 1 by omega) with rfl | rfl
  · exact (ixS_n c hc).1
  · exact (ixS_n c hc).2
theorem PQ_dig {rec5 rec0 : Nat → PR3} {B : Nat → Int32} {n u op p : Nat} (h : isDig (bt B n p) = true) : PQ rec5 rec0 B n u op p = ([nI (1000 + (numP B n 4 0 p).1)], (numP B n 4 0 p).2, true) := by
  unfold PQ
  rw [if_pos h]
theorem PQ_nam {rec5 rec0 : Nat → PR3} {B : Nat → Int32} {n u op p : Nat} {k : Int32} (h : ¬ isDig (bt B n p) = true) (hk : nameP u (bt B n p) = some k) : PQ rec5 rec0 B n u op p = ([k], p + 1, true) := by
  unfold PQ
  rw [if_neg h, hk]
theorem PQ_not {rec5 rec0 : Nat → PR3} {B : Nat → Int32} {n u op p : Nat} (h : ¬ isDig (bt B n p) = true) (hk : nameP u (bt B n p) = none) (hb : bt B n p = 33 ∧ op < 5) : PQ rec5 rec0 B n u op p = ((rec5 (p + 1)).1 ++ [33], (rec5 (p + 1)).2) := by
  unfold PQ
  rw [if_neg h, hk]
  exact if_pos hb
theorem PQ_par {rec5 rec0 : Nat → PR3} {B : Nat → Int32} {n u op p : Nat} (h : ¬ isDig (bt B n p) = true) (hk : nameP u (bt B n p) = none) (hb : bt B n p = 40 ∧ op < 5) : PQ rec5 rec0 B n u op p = (if (rec0 (p + 1)).2.2 = true ∧ bt B n (rec0 (p + 1)).2.1 = 41 then ((rec0 (p + 1)).1, (rec0 (p + 1)).2.1 + 1, true) else ((rec0 (p + 1)).1, (rec0 (p + 1)).2.1, false)) := by
  unfold PQ
  rw [if_neg h, hk]
  show (if _ then _ else if _ then _ else _) = _
  rw [if_neg (by omega), if_pos hb]
theorem PQ_no {rec5 rec0 : Nat → PR3} {B : Nat → Int32} {n u op p : Nat} (h : ¬ isDig (bt B n p) = true) (hk : nameP u (bt B n p) = none) (h1 : ¬ (bt B n p = 33 ∧ op < 5)) (h2 : ¬ (bt B n p = 40 ∧ op < 5)) : PQ rec5 rec0 B n u op p = ([], p, false) := by
  unfold PQ
  rw [if_neg h, hk]
  show (if _ then _ else if _ then _ else _) = _
  rw [if_neg h1, if_neg h2]
theorem PL_q (B : Nat → Int32) (n u f op p : Nat) : PL B n u (f + 1) 5 op p = PQ (PL B n u f 5 (op + 1)) (PL B n u f 0 (op + 1)) B n u op p := if_neg (by decide)
theorem PL_l (B : Nat → Int32) (n u f op p : Nat) {lv : Nat} (h : lv < 5) : PL B n u (f + 1) lv op p = PLoop (PL B n u f (lv + 1) op) B n lv (if lv = 2 then 1 else 50) (PL B n u f (lv + 1) op p) := if_pos h
theorem PLoop_y {rec : Nat → PR3} {B : Nat → Int32} {n lv k : Nat} {r : PR3} (h : r.2.2 = true ∧ signP lv (bt B n r.2.1) = true) : PLoop rec B n lv (k + 1) r = PLoop rec B n lv k (r.1 ++ (rec (r.2.1 + 1)).1 ++ [Int32.ofInt (bt B n r.2.1)], (rec (r.2.1 + 1)).2.1, (rec (r.2.1 + 1)).2.2) := if_pos h
theorem PLoop_n {rec : Nat → PR3} {B : Nat → Int32} {n lv k : Nat} {r : PR3} (h : ¬ (r.2.2 = true ∧ signP lv (bt B n r.2.1) = true)) : PLoop rec B n lv (k + 1) r = r := if_neg h
theorem nam_none {u : Nat} {b : Int} (h : b = -1) : nameP u b = none := by
  subst h
  unfold nameP nam1 nam2
  rw [if_neg (by decide), if_neg (by split <;> decide), if_neg (by split <;> decide)]
theorem addOut {xs : List Int32} {d : Nat} {Q : QT} {ln : Nat → Nat} {N : Nat} {m m2 : MW} {n u z : Nat} {r : PR3} {x : Int32} (h : Out m n u z r m2) (hz : r.2.2 = true → z + r.1.length < 50) (hQ : ∀ m3, Out m n u z (r.1 ++ [x], r.2) m3 → Q none (H m3 ln N)) : WP xs (d + 1) 19 0 0 [.ref 75, .int x] (H m2 ln N) Q := by
  obtain ⟨h1, z2, h2, h3, h5⟩ := h
  refine c_add h3.2.2.2.1 h2 (fun hlt => ?_) (fun h50 => ?_)
  · refine hQ _ ⟨(h1.up _ (Or.inl rfl)).up _ (Or.inr ⟨rfl, Or.inl rfl⟩), z2 + 1, by omega, ⟨h3.1, h3.2.1, h3.2.2.1, rfl, h3.2.2.2.2⟩, fun ho => ?_⟩
    obtain ⟨e, hc⟩ := h5 ho
    subst e
    refine ⟨?_, hc.app (CodA.one (fun _ => rfl) _ _ _ (by decide))⟩
    rw [List.length_append]
    rfl
  · refine hQ _ ⟨h1, z2, h2, h3, fun ho => ?_⟩
    have := hz ho
    have := (h5 ho).1
    omega
theorem Out.app {m m2 m3 : MW} {n u z z2 : Nat} {r r2 : PR3} (h : Out m n u z r m2) (ho : r.2.2 = true) (hz : z2 = z + r.1.length) (h2 : Out m2 n u z2 r2 m3) : Out m n u z (r.1 ++ r2.1, r2.2) m3 := by
  obtain ⟨a1, za, a2, a3, a5⟩ := h
  obtain ⟨b1, zb, b2, b3, b5⟩ := h2
  refine ⟨a1.tr b1, zb, b2, b3, fun hq => ?_⟩
  obtain ⟨e, hc⟩ := b5 hq
  subst hz
  refine ⟨?_, (a5 ho).2.app hc⟩
  rw [List.length_append, e]
  omega
theorem Out.at {m m2 : MW} {n u z : Nat} {r : PR3} (h : Out m n u z r m2) (ho : r.2.2 = true) : RdS m2 n u r.2.1 (z + r.1.length) true := by
  obtain ⟨a1, za, a2, a3, a5⟩ := h
  rw [ho, (a5 ho).1] at a3
  exact a3
theorem Out.atF {m m2 : MW} {n u z : Nat} {r : PR3} (h : Out m n u z r m2) (ho : ¬ r.2.2 = true) : ∃ z2, z2 ≤ 50 ∧ RdS m2 n u r.2.1 z2 false := by
  obtain ⟨a1, za, a2, a3, a5⟩ := h
  have e : r.2.2 = false := by simpa using ho
  rw [e] at a3
  exact ⟨za, a2, a3⟩
def RdL (xs : List Int32) (ln : Nat → Nat) (N n u f : Nat) : Prop := ∀ (m : MW) (Q : QT) (D lv op p z : Nat), 2 * f + 9 ≤ D → lv ≤ 5 → op ≤ 5 → RdS m n u p z true → p ≤ n → n ≤ 50 → z ≤ p → Tap m → 7 * (n - p) + 6 ≤ f + lv → (∀ m2, Out m n u z (PL (m 38) n u f lv op p) m2 → Q none (H m2 ln N)) → WP xs D 24 0 0 [.ref 75, .int (nI lv), .int (nI op)] (H m ln N) Q
def RdQ (xs : List Int32) (ln : Nat → Nat) (N n u f : Nat) : Prop := ∀ (m : MW) (Q : QT) (D op p z : Nat), 2 * f + 8 ≤ D → op ≤ 5 → RdS m n u p z true → p ≤ n → n ≤ 50 → z ≤ p → Tap m → 7 * (n - p) + 6 ≤ f + 5 → (∀ m2, Out m n u z (PL (m 38) n u f 5 op p) m2 → Q none (H m2 ln N)) → WP xs D 23 0 0 [.ref 75, .int (nI op)] (H m ln N) Q
theorem nam_0 {u : Nat} {b : Int} {k : Int32} (h : nameP u b = some k) : 0 ≤ k.toInt := by
  unfold nameP at h
  by_cases h1 : b = 104
  · rw [if_pos h1] at h
    cases h
    decide
  · rw [if_neg h1] at h
    by_cases h2 : b = nam1 u
    · rw [if_pos h2] at h
      cases h
      decide
    · rw [if_neg h2] at h
      by_cases h3 : b = nam2 u
      · rw [if_pos h3] at h
        cases h
        decide
      · rw [if_neg h3] at h
        cases h
section
variable {xs : List Int32} {d : Nat} {h : AH} {Q : QT} {m : MW} {ln : Nat → Nat} {N : Nat}
set_option maxRecDepth 20000 in
set_option maxHeartbeats 40000000 in
theorem c_readQ {n u f : Nat} (hu : u ≤ 1) (ihL : RdL xs ln N n u f) (ihQ : RdQ xs ln N n u f) : RdQ xs ln N n u (f + 1) := by
  intro m Q D op p z hD hop hS hp hn hz hT hf hQ
  obtain ⟨d, rfl⟩ : ∃ d, D = d + 8 := ⟨D - 8, by omega⟩
  rw [PL_q] at hQ
  have hs : u < 8 := by omega
  refine wp_x mx_23 (L := [some (.ref (75)), some (.int (nI (op))), none, none]) (Nat.le_of_ble_eq_true rfl) rfl ?_
  refine g_aload_n m23_0 rfl ?_
  refine h_cv (k := 43) (p := 75) (args := []) (rest := []) m23_1 cn_17 (Nat.le_of_ble_eq_true rfl) rfl rfl rfl (t_43 _ _) (Nat.le_of_ble_eq_true rfl) ?_
  refine c_here hS hp hn hT (fun hpn c hc hce => ?_) (fun hpn => ?_)
  · have hbt : bt (m 38) n p = (c : Int) := bt_y hpn hce hc
    refine gwr ?_
    refine g_istore_n (L2 := [some (.ref (75)), some (.int (nI (op))), some (.int (nI (c))), none]) m23_4 rfl rfl ?_
    refine g_iload_n m23_5 rfl ?_
    refine h_if_geT (xi := ((c : Nat) : Int)) (zi := 0) m23_6 (nI_toInt (by omega)) rfl (by omega) ?_
    refine g_aload_n m23_13 rfl ?_
    refine h_gfN (k := 43) (p := 75) m23_14 rfl (t_43 _ _) rfl ?_
    refine gwst (st' := .ref (3 + u) :: _) (congrArg (fun z => z :: _) (nm_u hS.2.1 hu)) ?_
    refine g_iload_n m23_17 rfl ?_
    refine g_i2c (u := nI (c)) m23_18 (by rw [pk_char, pk_tn (by omega), Nat.mod_eq_of_lt (by omega)]) ?_
    refine g_cv (fs := [.ref (11 + u), .int 0]) (args := [.int (nI (c))]) (rest := []) m23_19 (Nat.le_of_ble_eq_true rfl) rfl rfl (by rw [cn_4]; exact ro_s hs) (Nat.le_of_ble_eq_true rfl) ?_
    refine c_ixOf (show u < 8 by omega) hc ?_
    have hir : (Int32.ofInt (ixS u c)).toInt = ixS u c := ix_t (by omega) hc
    have hiu := ixS_u hu hc
    refine gwr ?_
    refine g_istore_n (L2 := [some (.ref (75)), some (.int (nI (op))), some (.int (nI (c))), some (.int (Int32.ofInt (ixS u c)))]) m23_22 rfl rfl ?_
    refine g_iload_n m23_23 rfl ?_
    refine g_cs (args := [.int (nI (c))]) (rest := []) 0 (Or.inl rfl) m23_24 (Nat.le_of_ble_eq_true rfl) rfl rfl (Nat.le_of_ble_eq_true rfl) ?_
    refine c_isDigitI (vi := ((c : Nat) : Int)) (nI_toInt (by omega)) (fun a_1 => ?_) (fun a_1 => ?_)
    · skip
      have hdg : isDig (bt (m 38) n p) = true := by rw [hbt]; exact a_1
      refine gwr ?_
      refine h_if_eqF (xi := 1) (zi := 0) m23_27 rfl rfl (by decide) ?_
      refine g_aload_n m23_30 rfl ?_
      refine h_cv (k := 43) (p := 75) (args := []) (rest := []) m23_31 cn_21 (Nat.le_of_ble_eq_true rfl) rfl rfl rfl (t_43 _ _) (Nat.le_of_ble_eq_true rfl) ?_
      rw [PQ_dig hdg] at hQ
      refine c_readNumber hS hp hn hT (by omega) (fun m2 ho2 => ?_)
      refine gwr0 ?_
      refine g_goto m23_34 ?_
      refine g_vret m23_145 ?_
      exact hQ _ ho2
    · have hdg : ¬ isDig (bt (m 38) n p) = true := by rw [hbt]; exact a_1
      refine gwr ?_
      refine h_if_eqT (xi := 0) (zi := 0) m23_27 rfl rfl (by decide) ?_
      refine g_iload_n m23_37 rfl ?_
      refine h_if_lt (xi := ixS u c) (zi := 0) m23_38 hir rfl (fun c1 => ?_) (fun c1 => ?_)
      · skip
        have hnn : nameP u (bt (m 38) n p) = none := by
          rw [hbt]
          cases hnm : nameP u (c : Int) with
          | none => rfl
          | some k =>
            rw [hnm] at hiu
            have hiu2 : ixS u c = k.toInt := hiu
            have := nam_0 hnm
            omega
        refine g_iload_n m23_59 rfl ?_
        refine g_bipush m23_60 ?_
        refine h_ic_ne (xi := ((c : Nat) : Int)) (zi := 33) m23_62 (nI_toInt (by omega)) rfl (fun c2 => ?_) (fun c2 => ?_)
        · skip
          refine g_iload_n m23_65 rfl ?_
          refine g_iconst m23_66 ?_
          refine h_ic_ge (xi := ((op : Nat) : Int)) (zi := 5) m23_67 (nI_toInt (by omega)) rfl (fun c3 => ?_) (fun c3 => ?_)
          · skip
            refine g_iload_n m23_96 rfl ?_
            refine g_bipush m23_97 ?_
            refine h_ic_ne (xi := ((c : Nat) : Int)) (zi := 40) m23_99 (nI_toInt (by omega)) rfl (fun c4 => ?_) (fun c4 => ?_)
            · skip
              refine g_iload_n m23_102 rfl ?_
              refine g_iconst m23_103 ?_
              refine h_ic_ge (xi := ((op : Nat) : Int)) (zi := 5) m23_104 (nI_toInt (by omega)) rfl (fun c5 => ?_) (fun c5 => ?_)
              · skip
                refine g_aload_n m23_141 rfl ?_
                refine h_cv (k := 43) (p := 75) (args := []) (rest := []) m23_142 cn_22 (Nat.le_of_ble_eq_true rfl) rfl rfl rfl (t_43 _ _) (Nat.le_of_ble_eq_true rfl) ?_
                rw [PQ_no hdg hnn (by omega) (by omega)] at hQ
                refine c_fail hS hp hn hT ?_
                refine gwr0 ?_
                refine g_vret m23_145 ?_
                exact hQ _ ⟨FrR.rf.up _ (Or.inr ⟨rfl, Or.inr (Or.inr rfl)⟩), z, by omega, ⟨hS.1, hS.2.1, hS.2.2.1, hS.2.2.2.1, rfl⟩, fun q => by cases q⟩
              · skip
                refine g_aload_n m23_107 rfl ?_
                refine g_dup m23_108 rfl ?_
                refine h_gfI (k := 43) (p := 75) m23_109 rfl (t_43 _ _) rfl (hS.2.2.1) ?_
                refine g_iconst m23_112 ?_
                refine g_iadd (u := nI (p + 1)) m23_113 (nI_add p 1) ?_
                refine h_pfI (k := 43) (p := 75) m23_114 rfl (t_43 _ _) rfl trivial ?_
                refine g_aload_n m23_117 rfl ?_
                refine g_iconst m23_118 ?_
                refine g_iload_n m23_119 rfl ?_
                refine g_iconst m23_120 ?_
                refine g_iadd (u := nI (op + 1)) m23_121 (nI_add op 1) ?_
                refine h_cv (k := 43) (p := 75) (args := [.int (0), .int (nI (op + 1))]) (rest := []) m23_122 cn_24 (Nat.le_of_ble_eq_true rfl) rfl rfl rfl (t_43 _ _) (Nat.le_of_ble_eq_true rfl) ?_
                have hS1 : RdS (upm m 43 5 (nI (p + 1))) n u (p + 1) z true := ⟨hS.1, hS.2.1, rfl, hS.2.2.2.1, hS.2.2.2.2⟩
                have hF1 : FrR m (upm m 43 5 (nI (p + 1))) := FrR.rf.up _ (Or.inr ⟨rfl, Or.inr (Or.inl rfl)⟩)
                have ht1 : (upm m 43 5 (nI (p + 1))) 38 = m 38 := row_up m _ (by decide)
                have h41 : ∀ j, (upm m 43 5 (nI (p + 1))) 44 j = m 44 j := fun j => upm_k _ _ (by decide)
                have hT1 : Tap (upm m 43 5 (nI (p + 1))) := fun j hj => by rw [ht1]; exact hT j hj
                rw [PQ_par hdg hnn ⟨by omega, by omega⟩] at hQ
                refine ihL _ _ _ 0 (op + 1) (p + 1) z (by omega) (by omega) (by omega) hS1 (by omega) hn (by omega) hT1 (by omega) (fun m2 ho2 => ?_)
                rw [ht1] at ho2
                have hg := PL_ok (m 38) n u f 0 (op + 1) (p + 1) (by omega)
                have ho3 := Out.pre hF1 h41 ho2
                generalize PL (m 38) n u f 0 (op + 1) (p + 1) = r at *
                obtain ⟨g1, g2, g3⟩ := hg
                by_cases hrk : r.2.2 = true
                · skip
                  refine gwr0 ?_
                  refine g_aload_n m23_125 rfl ?_
                  refine g_ldcs m23_126 (by decide) ?_
                  refine h_cv (k := 43) (p := 75) (args := [.ref (5)]) (rest := []) m23_128 cn_18 (Nat.le_of_ble_eq_true rfl) rfl rfl rfl (t_43 _ _) (Nat.le_of_ble_eq_true rfl) ?_
                  have hS2 := ho3.at hrk
                  have hT2 : Tap m2 := fun j hj => by rw [ho3.tape]; exact hT j hj
                  have hlen := (g3 hrk).2.2
                  refine c_passR (s := 2) hS2 g2 hn hT2 (by decide) (fun hpn c2 hc2 hce2 hix => ?_) (fun hno => ?_)
                  · have e41 := (ixS_c c2 hc2).mp hix
                    have hb2 : bt (m 38) n r.2.1 = 41 := by rw [← ho3.tape, bt_y hpn hce2 hc2]; omega
                    rw [if_pos ⟨hrk, hb2⟩] at hQ
                    refine gwr ?_
                    refine h_if_neF (xi := ((c2 : Nat) : Int)) (zi := 0) m23_131 (nI_toInt (by omega)) rfl (by omega) ?_
                    refine g_vret m23_145 ?_
                    refine hQ _ ⟨ho3.1.up _ (Or.inr ⟨rfl, Or.inr (Or.inl rfl)⟩), z + r.1.length, by omega, ⟨hS2.1, hS2.2.1, rfl, hS2.2.2.2.1, hS2.2.2.2.2⟩, fun _ => ⟨rfl, ?_⟩⟩
                    obtain ⟨o1, zo, o2, o3, o5⟩ := ho3
                    exact ⟨fun j hj => (upm_k _ _ (by decide)).trans ((o5 hrk).2.1 j hj), fun j hj => (upm_k _ _ (by decide)).trans ((o5 hrk).2.2 j hj)⟩
                  · have hb2 : ¬ bt (m 38) n r.2.1 = 41 := by
                      intro hb
                      rw [← ho3.tape] at hb
                      have hlt := bt_lt (B := m2 38) (n := n) (p := r.2.1) (by omega)
                      obtain ⟨c2, hc2, hce2⟩ := hT2 r.2.1 (by omega)
                      have hb3 := bt_y hlt hce2 (by omega)
                      exact hno c2 (by omega) hlt hce2 ((ixS_c c2 (by omega)).mpr (by omega))
                    rw [if_neg (fun q => hb2 q.2)] at hQ
                    refine gwr ?_
                    refine h_if_neT (xi := 0) (zi := 0) m23_131 rfl rfl (by decide) ?_
                    refine g_aload_n m23_134 rfl ?_
                    refine h_cv (k := 43) (p := 75) (args := []) (rest := []) m23_135 cn_22 (Nat.le_of_ble_eq_true rfl) rfl rfl rfl (t_43 _ _) (Nat.le_of_ble_eq_true rfl) ?_
                    refine c_fail hS2 g2 hn hT2 ?_
                    refine gwr0 ?_
                    refine g_goto m23_138 ?_
                    refine g_vret m23_145 ?_
                    exact hQ _ ⟨ho3.1.up _ (Or.inr ⟨rfl, Or.inr (Or.inr rfl)⟩), z + r.1.length, by omega, ⟨hS2.1, hS2.2.1, hS2.2.2.1, hS2.2.2.2.1, rfl⟩, fun q => by cases q⟩
                · skip
                  refine gwr0 ?_
                  refine g_aload_n m23_125 rfl ?_
                  refine g_ldcs m23_126 (by decide) ?_
                  refine h_cv (k := 43) (p := 75) (args := [.ref (5)]) (rest := []) m23_128 cn_18 (Nat.le_of_ble_eq_true rfl) rfl rfl rfl (t_43 _ _) (Nat.le_of_ble_eq_true rfl) ?_
                  obtain ⟨zf, hzf, hS2⟩ := ho3.atF hrk
                  rw [if_neg (fun q => hrk q.1)] at hQ
                  refine c_passRF (s := 2) hS2 g2 hn ?_
                  refine gwr ?_
                  refine h_if_neT (xi := 0) (zi := 0) m23_131 rfl rfl (by decide) ?_
                  refine g_aload_n m23_134 rfl ?_
                  refine h_cv (k := 43) (p := 75) (args := []) (rest := []) m23_135 cn_22 (Nat.le_of_ble_eq_true rfl) rfl rfl rfl (t_43 _ _) (Nat.le_of_ble_eq_true rfl) ?_
                  refine c_failF hS2 g2 hn ?_
                  refine gwr0 ?_
                  refine g_goto m23_138 ?_
                  refine g_vret m23_145 ?_
                  exact hQ _ ⟨ho3.1, zf, hzf, hS2, fun q => by cases q⟩
            · skip
              refine g_aload_n m23_141 rfl ?_
              refine h_cv (k := 43) (p := 75) (args := []) (rest := []) m23_142 cn_22 (Nat.le_of_ble_eq_true rfl) rfl rfl rfl (t_43 _ _) (Nat.le_of_ble_eq_true rfl) ?_
              rw [PQ_no hdg hnn (by omega) (by omega)] at hQ
              refine c_fail hS hp hn hT ?_
              refine gwr0 ?_
              refine g_vret m23_145 ?_
              exact hQ _ ⟨FrR.rf.up _ (Or.inr ⟨rfl, Or.inr (Or.inr rfl)⟩), z, by omega, ⟨hS.1, hS.2.1, hS.2.2.1, hS.2.2.2.1, rfl⟩, fun q => by cases q⟩
          · skip
            refine g_aload_n m23_70 rfl ?_
            refine g_dup m23_71 rfl ?_
            refine h_gfI (k := 43) (p := 75) m23_72 rfl (t_43 _ _) rfl (hS.2.2.1) ?_
            refine g_iconst m23_75 ?_
            refine g_iadd (u := nI (p + 1)) m23_76 (nI_add p 1) ?_
            refine h_pfI (k := 43) (p := 75) m23_77 rfl (t_43 _ _) rfl trivial ?_
            refine g_aload_n m23_80 rfl ?_
            refine g_iload_n m23_81 rfl ?_
            refine g_iconst m23_82 ?_
            refine g_iadd (u := nI (op + 1)) m23_83 (nI_add op 1) ?_
            refine h_cv (k := 43) (p := 75) (args := [.int (nI (op + 1))]) (rest := []) m23_84 cn_23 (Nat.le_of_ble_eq_true rfl) rfl rfl rfl (t_43 _ _) (Nat.le_of_ble_eq_true rfl) ?_
            have hS1 : RdS (upm m 43 5 (nI (p + 1))) n u (p + 1) z true := ⟨hS.1, hS.2.1, rfl, hS.2.2.2.1, hS.2.2.2.2⟩
            have hF1 : FrR m (upm m 43 5 (nI (p + 1))) := FrR.rf.up _ (Or.inr ⟨rfl, Or.inr (Or.inl rfl)⟩)
            have ht1 : (upm m 43 5 (nI (p + 1))) 38 = m 38 := row_up m _ (by decide)
            have h41 : ∀ j, (upm m 43 5 (nI (p + 1))) 44 j = m 44 j := fun j => upm_k _ _ (by decide)
            have hT1 : Tap (upm m 43 5 (nI (p + 1))) := fun j hj => by rw [ht1]; exact hT j hj
            rw [PQ_not hdg hnn ⟨by omega, by omega⟩] at hQ
            refine ihQ _ _ _ (op + 1) (p + 1) z (by omega) (by omega) hS1 (by omega) hn (by omega) hT1 (by omega) (fun m2 ho2 => ?_)
            rw [ht1] at ho2
            have hg := PL_ok (m 38) n u f 5 (op + 1) (p + 1) (by omega)
            have ho3 := Out.pre hF1 h41 ho2
            refine gwr0 ?_
            refine g_aload_n m23_87 rfl ?_
            refine g_bipush m23_88 ?_
            refine h_cv (k := 43) (p := 75) (args := [.int (33)]) (rest := []) m23_90 cn_19 (Nat.le_of_ble_eq_true rfl) rfl rfl rfl (t_43 _ _) (Nat.le_of_ble_eq_true rfl) ?_
            refine addOut ho3 (fun hk => ?_) (fun m3 ho4 => ?_)
            · obtain ⟨g1, g2, g3⟩ := hg
              have := (g3 hk).2.2
              omega
            refine gwr0 ?_
            refine g_goto m23_93 ?_
            refine g_vret m23_145 ?_
            exact hQ _ ho4
        · skip
          refine g_iload_n m23_96 rfl ?_
          refine g_bipush m23_97 ?_
          refine h_ic_ne (xi := ((c : Nat) : Int)) (zi := 40) m23_99 (nI_toInt (by omega)) rfl (fun c6 => ?_) (fun c6 => ?_)
          · skip
            refine g_iload_n m23_102 rfl ?_
            refine g_iconst m23_103 ?_
            refine h_ic_ge (xi := ((op : Nat) : Int)) (zi := 5) m23_104 (nI_toInt (by omega)) rfl (fun c7 => ?_) (fun c7 => ?_)
            · skip
              refine g_aload_n m23_141 rfl ?_
              refine h_cv (k := 43) (p := 75) (args := []) (rest := []) m23_142 cn_22 (Nat.le_of_ble_eq_true rfl) rfl rfl rfl (t_43 _ _) (Nat.le_of_ble_eq_true rfl) ?_
              rw [PQ_no hdg hnn (by omega) (by omega)] at hQ
              refine c_fail hS hp hn hT ?_
              refine gwr0 ?_
              refine g_vret m23_145 ?_
              exact hQ _ ⟨FrR.rf.up _ (Or.inr ⟨rfl, Or.inr (Or.inr rfl)⟩), z, by omega, ⟨hS.1, hS.2.1, hS.2.2.1, hS.2.2.2.1, rfl⟩, fun q => by cases q⟩
            · skip
              refine g_aload_n m23_107 rfl ?_
              refine g_dup m23_108 rfl ?_
              refine h_gfI (k := 43) (p := 75) m23_109 rfl (t_43 _ _) rfl (hS.2.2.1) ?_
              refine g_iconst m23_112 ?_
              refine g_iadd (u := nI (p + 1)) m23_113 (nI_add p 1) ?_
              refine h_pfI (k := 43) (p := 75) m23_114 rfl (t_43 _ _) rfl trivial ?_
              refine g_aload_n m23_117 rfl ?_
              refine g_iconst m23_118 ?_
              refine g_iload_n m23_119 rfl ?_
              refine g_iconst m23_120 ?_
              refine g_iadd (u := nI (op + 1)) m23_121 (nI_add op 1) ?_
              refine h_cv (k := 43) (p := 75) (args := [.int (0), .int (nI (op + 1))]) (rest := []) m23_122 cn_24 (Nat.le_of_ble_eq_true rfl) rfl rfl rfl (t_43 _ _) (Nat.le_of_ble_eq_true rfl) ?_
              have hS1 : RdS (upm m 43 5 (nI (p + 1))) n u (p + 1) z true := ⟨hS.1, hS.2.1, rfl, hS.2.2.2.1, hS.2.2.2.2⟩
              have hF1 : FrR m (upm m 43 5 (nI (p + 1))) := FrR.rf.up _ (Or.inr ⟨rfl, Or.inr (Or.inl rfl)⟩)
              have ht1 : (upm m 43 5 (nI (p + 1))) 38 = m 38 := row_up m _ (by decide)
              have h41 : ∀ j, (upm m 43 5 (nI (p + 1))) 44 j = m 44 j := fun j => upm_k _ _ (by decide)
              have hT1 : Tap (upm m 43 5 (nI (p + 1))) := fun j hj => by rw [ht1]; exact hT j hj
              rw [PQ_par hdg hnn ⟨by omega, by omega⟩] at hQ
              refine ihL _ _ _ 0 (op + 1) (p + 1) z (by omega) (by omega) (by omega) hS1 (by omega) hn (by omega) hT1 (by omega) (fun m2 ho2 => ?_)
              rw [ht1] at ho2
              have hg := PL_ok (m 38) n u f 0 (op + 1) (p + 1) (by omega)
              have ho3 := Out.pre hF1 h41 ho2
              generalize PL (m 38) n u f 0 (op + 1) (p + 1) = r at *
              obtain ⟨g1, g2, g3⟩ := hg
              by_cases hrk : r.2.2 = true
              · skip
                refine gwr0 ?_
                refine g_aload_n m23_125 rfl ?_
                refine g_ldcs m23_126 (by decide) ?_
                refine h_cv (k := 43) (p := 75) (args := [.ref (5)]) (rest := []) m23_128 cn_18 (Nat.le_of_ble_eq_true rfl) rfl rfl rfl (t_43 _ _) (Nat.le_of_ble_eq_true rfl) ?_
                have hS2 := ho3.at hrk
                have hT2 : Tap m2 := fun j hj => by rw [ho3.tape]; exact hT j hj
                have hlen := (g3 hrk).2.2
                refine c_passR (s := 2) hS2 g2 hn hT2 (by decide) (fun hpn c2 hc2 hce2 hix => ?_) (fun hno => ?_)
                · have e41 := (ixS_c c2 hc2).mp hix
                  have hb2 : bt (m 38) n r.2.1 = 41 := by rw [← ho3.tape, bt_y hpn hce2 hc2]; omega
                  rw [if_pos ⟨hrk, hb2⟩] at hQ
                  refine gwr ?_
                  refine h_if_neF (xi := ((c2 : Nat) : Int)) (zi := 0) m23_131 (nI_toInt (by omega)) rfl (by omega) ?_
                  refine g_vret m23_145 ?_
                  refine hQ _ ⟨ho3.1.up _ (Or.inr ⟨rfl, Or.inr (Or.inl rfl)⟩), z + r.1.length, by omega, ⟨hS2.1, hS2.2.1, rfl, hS2.2.2.2.1, hS2.2.2.2.2⟩, fun _ => ⟨rfl, ?_⟩⟩
                  obtain ⟨o1, zo, o2, o3, o5⟩ := ho3
                  exact ⟨fun j hj => (upm_k _ _ (by decide)).trans ((o5 hrk).2.1 j hj), fun j hj => (upm_k _ _ (by decide)).trans ((o5 hrk).2.2 j hj)⟩
                · have hb2 : ¬ bt (m 38) n r.2.1 = 41 := by
                    intro hb
                    rw [← ho3.tape] at hb
                    have hlt := bt_lt (B := m2 38) (n := n) (p := r.2.1) (by omega)
                    obtain ⟨c2, hc2, hce2⟩ := hT2 r.2.1 (by omega)
                    have hb3 := bt_y hlt hce2 (by omega)
                    exact hno c2 (by omega) hlt hce2 ((ixS_c c2 (by omega)).mpr (by omega))
                  rw [if_neg (fun q => hb2 q.2)] at hQ
                  refine gwr ?_
                  refine h_if_neT (xi := 0) (zi := 0) m23_131 rfl rfl (by decide) ?_
                  refine g_aload_n m23_134 rfl ?_
                  refine h_cv (k := 43) (p := 75) (args := []) (rest := []) m23_135 cn_22 (Nat.le_of_ble_eq_true rfl) rfl rfl rfl (t_43 _ _) (Nat.le_of_ble_eq_true rfl) ?_
                  refine c_fail hS2 g2 hn hT2 ?_
                  refine gwr0 ?_
                  refine g_goto m23_138 ?_
                  refine g_vret m23_145 ?_
                  exact hQ _ ⟨ho3.1.up _ (Or.inr ⟨rfl, Or.inr (Or.inr rfl)⟩), z + r.1.length, by omega, ⟨hS2.1, hS2.2.1, hS2.2.2.1, hS2.2.2.2.1, rfl⟩, fun q => by cases q⟩
              · skip
                refine gwr0 ?_
                refine g_aload_n m23_125 rfl ?_
                refine g_ldcs m23_126 (by decide) ?_
                refine h_cv (k := 43) (p := 75) (args := [.ref (5)]) (rest := []) m23_128 cn_18 (Nat.le_of_ble_eq_true rfl) rfl rfl rfl (t_43 _ _) (Nat.le_of_ble_eq_true rfl) ?_
                obtain ⟨zf, hzf, hS2⟩ := ho3.atF hrk
                rw [if_neg (fun q => hrk q.1)] at hQ
                refine c_passRF (s := 2) hS2 g2 hn ?_
                refine gwr ?_
                refine h_if_neT (xi := 0) (zi := 0) m23_131 rfl rfl (by decide) ?_
                refine g_aload_n m23_134 rfl ?_
                refine h_cv (k := 43) (p := 75) (args := []) (rest := []) m23_135 cn_22 (Nat.le_of_ble_eq_true rfl) rfl rfl rfl (t_43 _ _) (Nat.le_of_ble_eq_true rfl) ?_
                refine c_failF hS2 g2 hn ?_
                refine gwr0 ?_
                refine g_goto m23_138 ?_
                refine g_vret m23_145 ?_
                exact hQ _ ⟨ho3.1, zf, hzf, hS2, fun q => by cases q⟩
          · skip
            refine g_aload_n m23_141 rfl ?_
            refine h_cv (k := 43) (p := 75) (args := []) (rest := []) m23_142 cn_22 (Nat.le_of_ble_eq_true rfl) rfl rfl rfl (t_43 _ _) (Nat.le_of_ble_eq_true rfl) ?_
            rw [PQ_no hdg hnn (by omega) (by omega)] at hQ
            refine c_fail hS hp hn hT ?_
            refine gwr0 ?_
            refine g_vret m23_145 ?_
            exact hQ _ ⟨FrR.rf.up _ (Or.inr ⟨rfl, Or.inr (Or.inr rfl)⟩), z, by omega, ⟨hS.1, hS.2.1, hS.2.2.1, hS.2.2.2.1, rfl⟩, fun q => by cases q⟩
      · skip
        refine g_aload_n m23_41 rfl ?_
        refine g_dup m23_42 rfl ?_
        refine h_gfI (k := 43) (p := 75) m23_43 rfl (t_43 _ _) rfl (hS.2.2.1) ?_
        refine g_iconst m23_46 ?_
        refine g_iadd (u := nI (p + 1)) m23_47 (nI_add p 1) ?_
        refine h_pfI (k := 43) (p := 75) m23_48 rfl (t_43 _ _) rfl trivial ?_
        refine g_aload_n m23_51 rfl ?_
        refine g_iload_n m23_52 rfl ?_
        refine h_cv (k := 43) (p := 75) (args := [.int (Int32.ofInt (ixS u c))]) (rest := []) m23_53 cn_19 (Nat.le_of_ble_eq_true rfl) rfl rfl rfl (t_43 _ _) (Nat.le_of_ble_eq_true rfl) ?_
        obtain ⟨k, hk⟩ : ∃ k, nameP u (bt (m 38) n p) = some k := by
          rw [hbt]
          cases hnm : nameP u (c : Int) with
          | none =>
            rw [hnm] at hiu
            have hiu2 : ixS u c = -1 := hiu
            omega
          | some k => exact ⟨k, rfl⟩
        rw [PQ_nam hdg hk] at hQ
        have hke : Int32.ofInt (ixS u c) = k := by
          rw [hbt] at hk
          rw [hk] at hiu
          have hiu2 : ixS u c = k.toInt := hiu
          rw [hiu2, Int32.ofInt_toInt]
        rw [hke]
        have hO : Out m n u z ([], p + 1, true) (upm m 43 5 (nI (p + 1))) := ⟨FrR.rf.up _ (Or.inr ⟨rfl, Or.inr (Or.inl rfl)⟩), z, by omega, ⟨hS.1, hS.2.1, rfl, hS.2.2.2.1, hS.2.2.2.2⟩, fun _ => ⟨rfl, CodA.nil (fun j => upm_k _ _ (by decide))⟩⟩
        refine addOut hO (fun _ => by show z + 0 < 50; omega) (fun m2 ho2 => ?_)
        refine gwr0 ?_
        refine g_goto m23_56 ?_
        refine g_vret m23_145 ?_
        exact hQ _ ho2
  · have hbt : bt (m 38) n p = -1 := bt_n hpn
    have hnn : nameP u (bt (m 38) n p) = none := nam_none hbt
    refine gwr ?_
    refine g_istore_n (L2 := [some (.ref (75)), some (.int (nI (op))), some (.int (-1)), none]) m23_4 rfl rfl ?_
    refine g_iload_n m23_5 rfl ?_
    refine h_if_geF (xi := (-1)) (zi := 0) m23_6 rfl rfl (by decide) ?_
    refine g_iconst m23_9 ?_
    refine g_goto m23_10 ?_
    refine g_istore_n (L2 := [some (.ref (75)), some (.int (nI (op))), some (.int (-1)), some (.int (-1))]) m23_22 rfl rfl ?_
    refine g_iload_n m23_23 rfl ?_
    refine g_cs (args := [.int (-1)]) (rest := []) 0 (Or.inl rfl) m23_24 (Nat.le_of_ble_eq_true rfl) rfl rfl (Nat.le_of_ble_eq_true rfl) ?_
    refine c_isDigitI (vi := (-1)) rfl (fun a_2 => ?_) (fun a_2 => ?_)
    · skip
      exact absurd a_2 (by decide)
    · have hdg : ¬ isDig (bt (m 38) n p) = true := by rw [hbt]; exact a_2
      refine gwr ?_
      refine h_if_eqT (xi := 0) (zi := 0) m23_27 rfl rfl (by decide) ?_
      refine g_iload_n m23_37 rfl ?_
      refine h_if_ltT (xi := (-1)) (zi := 0) m23_38 rfl rfl (by decide) ?_
      refine g_iload_n m23_59 rfl ?_
      refine g_bipush m23_60 ?_
      refine h_ic_neF (xi := (-1)) (zi := 33) m23_62 rfl rfl (by decide) ?_
      refine g_iload_n m23_96 rfl ?_
      refine g_bipush m23_97 ?_
      refine h_ic_neF (xi := (-1)) (zi := 40) m23_99 rfl rfl (by decide) ?_
      refine g_aload_n m23_141 rfl ?_
      refine h_cv (k := 43) (p := 75) (args := []) (rest := []) m23_142 cn_22 (Nat.le_of_ble_eq_true rfl) rfl rfl rfl (t_43 _ _) (Nat.le_of_ble_eq_true rfl) ?_
      rw [PQ_no hdg hnn (by omega) (by omega)] at hQ
      refine c_fail hS hp hn hT ?_
      refine gwr0 ?_
      refine g_vret m23_145 ?_
      exact hQ _ ⟨FrR.rf.up _ (Or.inr ⟨rfl, Or.inr (Or.inr rfl)⟩), z, by omega, ⟨hS.1, hS.2.1, hS.2.2.1, hS.2.2.2.1, rfl⟩, fun q => by cases q⟩
end
