section
/-! WHAT WOULD BE: the class, harm and like ones -/
theorem if_c {α : Type} {p q : Prop} {_ : Decidable p} {_ : Decidable q} {x y : α} (h : p ↔ q) : (if p then x else y) = if q then x else y := by
  by_cases z : p
  · rw [if_pos z, if_pos (h.mp z)]
  · rw [if_neg z, if_neg (fun w => z (h.mpr w))]
theorem allF_c {p q : Nat → Bool} : ∀ n, (∀ i, i < n → p i = q i) → allF p n = allF q n
  | 0, _ => rfl
  | n + 1, h => by
    show (allF p n && p n) = (allF q n && q n)
    rw [allF_c n (fun i hi => h i (by omega)), h n (by omega)]
theorem ush_set {a : Int32} {n : Nat} (hn : n ≤ 8) : ((a.toUInt32 >>> ((nI n).toUInt32 &&& Int32.toUInt32 31)).toInt32).toInt = 0 ↔ 0 ≤ a.toInt ∧ a.toInt < ((2 ^ n : Nat) : Int) := by
  have e : ((a.toUInt32 >>> ((nI n).toUInt32 &&& Int32.toUInt32 31)).toInt32).toBitVec.toNat = a.toBitVec.toNat / 2 ^ n := by
    show (a.toBitVec >>> (((nI n).toUInt32 &&& Int32.toUInt32 31).toBitVec % 32)).toNat = _
    rw [BitVec.ushiftRight_eq', BitVec.toNat_ushiftRight, nx_sl n (by omega), Nat.shiftRight_eq_div_pow]
  show BitVec.toInt _ = 0 ↔ 0 ≤ BitVec.toInt a.toBitVec ∧ BitVec.toInt a.toBitVec < _
  rw [BitVec.toInt_eq_toNat_cond, BitVec.toInt_eq_toNat_cond, e]
  have h1 := a.toBitVec.isLt
  have h2 : 2 ^ n ≤ 256 := Nat.pow_le_pow_right (n := 2) (by decide) hn
  have h3 : 0 < 2 ^ n := Nat.lt_of_lt_of_le (by decide : 0 < 2 ^ 0) (Nat.pow_le_pow_right (by decide) (Nat.zero_le n))
  have h4 : a.toBitVec.toNat / 2 ^ n = 0 ↔ a.toBitVec.toNat < 2 ^ n := Nat.div_eq_zero_iff_lt h3
  have h5 : a.toBitVec.toNat / 2 ^ n ≤ a.toBitVec.toNat := Nat.div_le_self _ _
  generalize a.toBitVec.toNat / 2 ^ n = z at h4 h5 ⊢
  generalize 2 ^ n = p at h2 h3 h4 ⊢
  generalize a.toBitVec.toNat = A at h1 h4 h5 ⊢
  (repeat' split) <;> omega
theorem FrT.of2 {m m2 X2 : MW} (h : AtX (takeM m 2 0) 2 X2 m2) : FrT m m2 := fun k j h1 h2 => (h.out (by omega) h2).trans (congrFun (take_o m 2 0 (by omega)) j)
def shamQ (X : MW) (a : Nat) (s : Int32) (q : Nat) : MW := fun j k => if j = 5 ∧ k < q ∧ a.testBit k = true then s else X j k
theorem shamQ_o {X : MW} {a : Nat} {s : Int32} {q j k : Nat} (h : j ≠ 5) : shamQ X a s q j k = X j k := if_neg (fun z => h z.1)
theorem shamX_o {X : MW} {a : Nat} {s : Int32} {j k : Nat} (h : j ≠ 5) : shamX X a s j k = X j k := if_neg (fun z => h z.1)
theorem shamQ_y {X : MW} {a : Nat} {s : Int32} {q : Nat} (h : a.testBit q = true) (j k : Nat) : shamQ X a s (q + 1) j k = upm (shamQ X a s q) 5 q s j k := by
  unfold upm
  by_cases e : j = 5 ∧ k = q
  · obtain ⟨rfl, rfl⟩ := e
    rw [if_pos ⟨rfl, rfl⟩]
    exact if_pos ⟨rfl, by omega, h⟩
  · rw [if_neg e]
    unfold shamQ
    by_cases e1 : j = 5
    · have e2 : k ≠ q := fun z => e ⟨e1, z⟩
      exact if_c ⟨fun z => ⟨z.1, by have := z.2.1; omega, z.2.2⟩, fun z => ⟨z.1, by have := z.2.1; omega, z.2.2⟩⟩
    · rw [if_neg (fun z => e1 z.1), if_neg (fun z => e1 z.1)]
theorem shamQ_n {X : MW} {a : Nat} {s : Int32} {q : Nat} (h : ¬ a.testBit q = true) (j k : Nat) : shamQ X a s (q + 1) j k = shamQ X a s q j k := by
  unfold shamQ
  by_cases e : k = q
  · subst e
    rw [if_neg (fun z => h z.2.2), if_neg (fun z => absurd z.2.1 (Nat.lt_irrefl _))]
  · exact if_c ⟨fun z => ⟨z.1, by have := z.2.1; omega, z.2.2⟩, fun z => ⟨z.1, by have := z.2.1; omega, z.2.2⟩⟩
theorem shamQ_X {X : MW} {a : Nat} {s : Int32} {n : Nat} (h : nOf X = n) : shamX X a s = shamQ X a s n := by
  unfold shamX shamQ
  rw [h]
theorem shamX_8 {X Y : MW} (h : Eq8 X Y) (a : Nat) (s : Int32) : Eq8 (shamX X a s) (shamX Y a s) := fun j hj i => by
  have e : nOf Y = nOf X := by unfold nOf; rw [h 0 (by decide) 10]
  unfold shamX
  rw [e, h j hj i]
section
variable {xs : List Int32} {d : Nat} {h : AH} {Q : QT} {m : MW} {ln : Nat → Nat} {N : Nat}
set_option maxRecDepth 20000 in
set_option maxHeartbeats 40000000 in
theorem x_harm {a v : Int32} {n : Nat} (hd : m 1 10 = nI n) (hn : n ≤ 8) (h01 : ∀ j, j < 8 → m 8 j = 0 ∨ m 8 j = 1) (hW : WF (vw m 0)) (hL : LawsOk m ln N) (hix : LawIx N (m 1 11)) (hiy : LawIx N (m 1 12)) (hE1 : (a.toInt < 0 ∨ (n : Int) ≤ a.toInt ∨ v.toInt < 0 ∨ 60 < v.toInt) → Q (some (.int (-1000000000 - nI 1))) (H (erm m 1) ln N)) (hY : ∀ i k : Nat, a = nI i → i < n → v = nI k → k ≤ 60 → ∀ m2, FrT m m2 → Q (some (.int (nI (bitsF (fun q => !(decide (q = i)) && decide ((stepN (lkF m ln (m 1 11)) (blF m ln (m 1 12)) (vw m 0) k 6 q).toInt < (stepN (lkF m ln (m 1 11)) (blF m ln (m 1 12)) (upm (vw m 0) 5 i 0) k 6 q).toInt)) n)))) (H m2 ln N)) : WP xs (d + 7) 84 0 0 [.ref (32), .int (a), .int (v)] (H m ln N) Q := by
  refine wp_x mx_84 (L := [some (.ref (32)), some (.int (a)), some (.int (v)), none, none, none]) (Nat.le_of_ble_eq_true rfl) rfl ?_
  have hb : ∀ p : Nat → Bool, ∀ q, bitsF p q < 2 ^ q := fun p => bitsF_lt p
  refine g_aload_n m84_0 rfl ?_
  refine g_iload_n m84_1 rfl ?_
  refine h_cv (k := 0) (p := 32) (args := [.int (a)]) (rest := []) m84_2 cn_60 (Nat.le_of_ble_eq_true rfl) rfl rfl rfl (t_0 _ _) (Nat.le_of_ble_eq_true rfl) ?_
  refine c_isDiner hd hn (fun ja ea a_1 => ?_) (fun a_1 => ?_)
  · subst ea
    refine gwr ?_
    refine h_if_eqF (xi := 1) (zi := 0) m84_5 rfl rfl (by decide) ?_
    refine g_iload_n m84_8 rfl ?_
    refine g_bipush m84_9 ?_
    refine g_cs (args := [.int (v), .int (60)]) (rest := []) 0 (Or.inl rfl) m84_11 (Nat.le_of_ble_eq_true rfl) rfl rfl (Nat.le_of_ble_eq_true rfl) ?_
    refine c_within (M := 60) rfl (fun jv ev a_2 => ?_) (fun a_2 => ?_)
    · subst ev
      refine gwr ?_
      refine h_if_neF (xi := 1) (zi := 0) m84_14 rfl rfl (by decide) ?_
      refine g_aload_n m84_23 rfl ?_
      refine h_cv (k := 0) (p := 32) (args := []) (rest := []) m84_24 cn_74 (Nat.le_of_ble_eq_true rfl) rfl rfl rfl (t_0 _ _) (Nat.le_of_ble_eq_true rfl) ?_
      refine c_think h01 ?_
      have hL1 : LawsOk (takeM m 1 0) ln N := tk_l hL 1 0 (by decide)
      have elk := tk_lk m 1 0 (by decide) ln (m 1 11)
      have ebl := tk_bl m 1 0 (by decide) ln (m 1 12)
      have h80 := take_8 m 1 0
      have hW1 : WF (vw (takeM m 1 0) 1) := WF_c h80 hW
      refine gwr ?_
      refine g_astore_n (L2 := [some (.ref (32)), some (.int (nI (ja))), some (.int (nI (jv))), some (.ref (42)), none, none]) m84_27 rfl rfl ?_
      refine g_aload_n m84_28 rfl ?_
      refine g_iload_n m84_29 rfl ?_
      refine h_cv (k := 10) (p := 42) (args := [.int (nI (jv))]) (rest := []) m84_30 cn_41 (Nat.le_of_ble_eq_true rfl) rfl rfl rfl (t_10 _ _) (Nat.le_of_ble_eq_true rfl) ?_
      refine c_goOn (n := jv) (x := m 1 11) (y := m 1 12) (t := 1) (m0 := takeM m 1 0) (X := vw (takeM m 1 0) 1) (by decide) hL1 (AtX.self _ 1) rfl hix rfl hiy hW1 (by omega) (fun X2 m2 h8 hA => ?_)
      rw [elk, ebl] at h8
      have h8 := (stepN_8 (LK := (lkF m ln (m 1 11))) (BL := (blF m ln (m 1 12))) h80 jv).tr h8
      refine gwr0 ?_
      refine g_aload_n m84_33 rfl ?_
      refine h_gfR (c := 51) (k := 0) (p := 32) m84_34 rfl (t_0 _ _) rfl (Nat.le_of_ble_eq_true rfl) ?_
      refine g_aload_n m84_37 rfl ?_
      refine h_gfR (c := 33) (k := 0) (p := 32) m84_38 rfl (t_0 _ _) rfl (Nat.le_of_ble_eq_true rfl) ?_
      refine h_cv (k := 19) (p := 51) (args := [.ref (33)]) (rest := []) m84_41 cn_31 (Nat.le_of_ble_eq_true rfl) rfl rfl rfl (t_19 _ _) (Nat.le_of_ble_eq_true rfl) ?_
      have hF := FrT.of hA
      have hd2 : m2 1 10 = nI n := (hF 1 10 (by omega) (fun q => by rcases q with q | q <;> omega)).trans hd
      have h012 : ∀ j, j < 8 → m2 8 j = 0 ∨ m2 8 j = 1 := fun j hj => by rw [hF 8 j (by omega) (fun q => by rcases q with q | q <;> omega)]; exact h01 j hj
      have hL2 := hF.laws hL
      have e11 : m2 1 11 = m 1 11 := hF 1 11 (by omega) (fun q => by rcases q with q | q <;> omega)
      have e12 : m2 1 12 = m 1 12 := hF 1 12 (by omega) (fun q => by rcases q with q | q <;> omega)
      have hL1z : LawsOk (takeM m2 2 0) ln N := tk_l hL2 2 0 (by decide)
      have elkz := (tk_lk m2 2 0 (by decide) ln (m 1 11)).trans (hF.lk ln _)
      have eblz := (tk_bl m2 2 0 (by decide) ln (m 1 12)).trans (hF.bl ln _)
      have h80z : Eq8 (vw m 0) (vw (takeM m2 2 0) 2) := Eq8.tr (fun j hj i => congrFun (hF.vw0 (by omega)) i) (take_8 m2 2 0)
      have hW1z : WF (vw (takeM m2 2 0) 2) := WF_c h80z hW
      refine c_take20 h012 ?_
      refine gwr0 ?_
      refine g_aload_n m84_44 rfl ?_
      refine h_gfR (c := 51) (k := 0) (p := 32) m84_45 rfl (t_0 _ _) rfl (Nat.le_of_ble_eq_true rfl) ?_
      refine h_gfR (c := 56) (k := 19) (p := 51) m84_48 rfl (t_19 _ _) rfl (Nat.le_of_ble_eq_true rfl) ?_
      refine g_iload_n m84_51 rfl ?_
      refine g_iconst m84_52 ?_
      refine h_ias (k := 24) (p := 56) (j := ja) m84_53 rfl (t_24 _ _) (rfl) (by omega) (Nat.le_of_ble_eq_true rfl) ?_
      refine g_aload_n m84_54 rfl ?_
      refine h_gfR (c := 51) (k := 0) (p := 32) m84_55 rfl (t_0 _ _) rfl (Nat.le_of_ble_eq_true rfl) ?_
      refine g_iload_n m84_58 rfl ?_
      refine h_cv (k := 19) (p := 51) (args := [.int (nI (jv))]) (rest := []) m84_59 cn_41 (Nat.le_of_ble_eq_true rfl) rfl rfl rfl (t_19 _ _) (Nat.le_of_ble_eq_true rfl) ?_
      have hA5 : AtX (takeM m2 2 0) 2 (upm (vw (takeM m2 2 0) 2) 5 ja 0) (upm (takeM m2 2 0) 24 ja 0) := (AtX.self (takeM m2 2 0) 2).up (by decide) (j := 5) (by decide) ja 0
      have z11 : (upm (vw (takeM m2 2 0) 2) 5 ja 0) 0 11 = m 1 11 := (upm_k _ _ (by decide)).trans ((congrFun (take_vw m2 2 0 (j := 0) (by decide)) 11).trans e11)
      have z12 : (upm (vw (takeM m2 2 0) 2) 5 ja 0) 0 12 = m 1 12 := (upm_k _ _ (by decide)).trans ((congrFun (take_vw m2 2 0 (j := 0) (by decide)) 12).trans e12)
      have hWs : WF (upm (vw (takeM m2 2 0) 2) 5 ja 0) := WF_sham hW1z ⟨0, by decide, rfl⟩
      refine c_goOn (n := jv) (x := m 1 11) (y := m 1 12) (t := 2) (m0 := takeM m2 2 0) (by decide) hL1z hA5 z11 hix z12 hiy hWs (by omega) (fun X3 m3 h9 hA3 => ?_)
      rw [elkz, eblz] at h9
      have h9 := (stepN_8 (LK := (lkF m ln (m 1 11))) (BL := (blF m ln (m 1 12))) (h80z.up 5 ja 0) jv).tr h9
      have hF3 := hF.tr (FrT.of2 hA3)
      have hd3 : m3 1 10 = nI n := (hF3 1 10 (by omega) (fun q => by rcases q with q | q <;> omega)).trans hd
      have e16 : ∀ q, m3 16 q = stepN (lkF m ln (m 1 11)) (blF m ln (m 1 12)) (vw m 0) jv 6 q := fun q => (hA3.out (by omega) (fun z => by rcases z with z | z <;> omega)).trans ((congrFun (take_o m2 2 0 (by omega)) q).trans ((hA.rd (by decide) (j := 6) (i := q) (by decide)).trans (h8 6 (by decide) q)))
      have e25 : ∀ q, m3 25 q = stepN (lkF m ln (m 1 11)) (blF m ln (m 1 12)) (upm (vw m 0) 5 ja 0) jv 6 q := fun q => (hA3.rd (by decide) (j := 6) (i := q) (by decide)).trans (h9 6 (by decide) q)
      refine gwr0 ?_
      refine g_iconst m84_62 ?_
      refine g_istore (L2 := [some (.ref (32)), some (.int (nI (ja))), some (.int (nI (jv))), some (.ref (42)), some (.int (0)), none]) m84_63 rfl rfl ?_
      refine g_iconst m84_65 ?_
      refine g_istore (L2 := [some (.ref (32)), some (.int (nI (ja))), some (.int (nI (jv))), some (.ref (42)), some (.int (0)), some (.int (0))]) m84_66 rfl rfl ?_
      have key : ∀ (r : Nat) (q : Nat), q + r = n → gw xs (WP xs (d + 6)) 84 Q 68 [some (.ref (32)), some (.int (nI (ja))), some (.int (nI (jv))), some (.ref (42)), some (.int (nI (bitsF (fun q => !(decide (q = ja)) && decide ((stepN (lkF m ln (m 1 11)) (blF m ln (m 1 12)) (vw m 0) jv 6 q).toInt < (stepN (lkF m ln (m 1 11)) (blF m ln (m 1 12)) (upm (vw m 0) 5 ja 0) jv 6 q).toInt)) q))), some (.int (nI (q)))] [] (H m3 ln N) 0 0 := by
        intro r
        induction r with
        | zero =>
          intro q hq
          obtain rfl : q = n := by omega
          refine g_iload m84_68 rfl ?_
          refine g_aload_n m84_70 rfl ?_
          refine h_gfR (c := 33) (k := 0) (p := 32) m84_71 rfl (t_0 _ _) rfl (Nat.le_of_ble_eq_true rfl) ?_
          refine h_gfI (k := 1) (p := 33) m84_74 rfl (t_1 _ _) rfl (hd3) ?_
          refine h_ic_geT (xi := ((q : Nat) : Int)) (zi := ((q : Nat) : Int)) m84_77 (nI_toInt (by omega)) (nI_toInt (by omega)) (by omega) ?_
          refine g_iload m84_121 rfl ?_
          refine g_iret m84_123 rt_84 ?_
          exact hY ja jv rfl (by omega) rfl (by omega) m3 hF3
        | succ r ih =>
          intro q hq
          refine g_iload m84_68 rfl ?_
          refine g_aload_n m84_70 rfl ?_
          refine h_gfR (c := 33) (k := 0) (p := 32) m84_71 rfl (t_0 _ _) rfl (Nat.le_of_ble_eq_true rfl) ?_
          refine h_gfI (k := 1) (p := 33) m84_74 rfl (t_1 _ _) rfl (hd3) ?_
          refine h_ic_geF (xi := ((q : Nat) : Int)) (zi := ((n : Nat) : Int)) m84_77 (nI_toInt (by omega)) (nI_toInt (by omega)) (by omega) ?_
          refine g_iload m84_80 rfl ?_
          refine g_iload_n m84_82 rfl ?_
          refine h_ic_eq (xi := ((q : Nat) : Int)) (zi := ((ja : Nat) : Int)) m84_83 (nI_toInt (by omega)) (nI_toInt (by omega)) (fun c1 => ?_) (fun c1 => ?_)
          · skip
            refine g_iinc (L2 := [some (.ref (32)), some (.int (nI (ja))), some (.int (nI (jv))), some (.ref (42)), some (.int (nI (bitsF (fun q => !(decide (q = ja)) && decide ((stepN (lkF m ln (m 1 11)) (blF m ln (m 1 12)) (vw m 0) jv 6 q).toInt < (stepN (lkF m ln (m 1 11)) (blF m ln (m 1 12)) (upm (vw m 0) 5 ja 0) jv 6 q).toInt)) q))), some (.int (nI (q + 1)))]) m84_115 rfl (nI_1 _) rfl rfl ?_
            refine g_goto m84_118 ?_
            have e : bitsF (fun q => !(decide (q = ja)) && decide ((stepN (lkF m ln (m 1 11)) (blF m ln (m 1 12)) (vw m 0) jv 6 q).toInt < (stepN (lkF m ln (m 1 11)) (blF m ln (m 1 12)) (upm (vw m 0) 5 ja 0) jv 6 q).toInt)) (q + 1) = bitsF (fun q => !(decide (q = ja)) && decide ((stepN (lkF m ln (m 1 11)) (blF m ln (m 1 12)) (vw m 0) jv 6 q).toInt < (stepN (lkF m ln (m 1 11)) (blF m ln (m 1 12)) (upm (vw m 0) 5 ja 0) jv 6 q).toInt)) q := by
              refine bits_n ?_
              show ¬ (!(decide (q = ja)) && decide _) = true
              by_cases e0 : q = ja
              · rw [decide_eq_true e0]
                simp
              · rw [decide_eq_false (p := _ < _) (by omega)]
                simp
            have h9 := ih (q + 1) (by omega)
            rw [e] at h9
            exact h9
          · skip
            refine g_aload_n m84_86 rfl ?_
            refine h_gfR (c := 51) (k := 0) (p := 32) m84_87 rfl (t_0 _ _) rfl (Nat.le_of_ble_eq_true rfl) ?_
            refine h_gfR (c := 57) (k := 19) (p := 51) m84_90 rfl (t_19 _ _) rfl (Nat.le_of_ble_eq_true rfl) ?_
            refine g_iload m84_93 rfl ?_
            refine h_ial (k := 25) (p := 57) (j := q) m84_95 rfl (t_25 _ _) (rfl) (by omega) (Nat.le_of_ble_eq_true rfl) (e25 q) ?_
            refine g_aload_n m84_96 rfl ?_
            refine h_gfR (c := 48) (k := 10) (p := 42) m84_97 rfl (t_10 _ _) rfl (Nat.le_of_ble_eq_true rfl) ?_
            refine g_iload m84_100 rfl ?_
            refine h_ial (k := 16) (p := 48) (j := q) m84_102 rfl (t_16 _ _) (rfl) (by omega) (Nat.le_of_ble_eq_true rfl) (e16 q) ?_
            refine h_ic_le (xi := _) (zi := _) m84_103 rfl rfl (fun c2 => ?_) (fun c2 => ?_)
            · skip
              refine g_iinc (L2 := [some (.ref (32)), some (.int (nI (ja))), some (.int (nI (jv))), some (.ref (42)), some (.int (nI (bitsF (fun q => !(decide (q = ja)) && decide ((stepN (lkF m ln (m 1 11)) (blF m ln (m 1 12)) (vw m 0) jv 6 q).toInt < (stepN (lkF m ln (m 1 11)) (blF m ln (m 1 12)) (upm (vw m 0) 5 ja 0) jv 6 q).toInt)) q))), some (.int (nI (q + 1)))]) m84_115 rfl (nI_1 _) rfl rfl ?_
              refine g_goto m84_118 ?_
              have e : bitsF (fun q => !(decide (q = ja)) && decide ((stepN (lkF m ln (m 1 11)) (blF m ln (m 1 12)) (vw m 0) jv 6 q).toInt < (stepN (lkF m ln (m 1 11)) (blF m ln (m 1 12)) (upm (vw m 0) 5 ja 0) jv 6 q).toInt)) (q + 1) = bitsF (fun q => !(decide (q = ja)) && decide ((stepN (lkF m ln (m 1 11)) (blF m ln (m 1 12)) (vw m 0) jv 6 q).toInt < (stepN (lkF m ln (m 1 11)) (blF m ln (m 1 12)) (upm (vw m 0) 5 ja 0) jv 6 q).toInt)) q := by
                refine bits_n ?_
                show ¬ (!(decide (q = ja)) && decide _) = true
                by_cases e0 : q = ja
                · rw [decide_eq_true e0]
                  simp
                · rw [decide_eq_false (p := _ < _) (by omega)]
                  simp
              have h9 := ih (q + 1) (by omega)
              rw [e] at h9
              exact h9
            · skip
              refine g_iload m84_106 rfl ?_
              refine g_iconst m84_108 ?_
              refine g_iload m84_109 rfl ?_
              refine g_ishl m84_111 rfl ?_
              refine g_ior (u := nI (bitsF (fun q => !(decide (q = ja)) && decide ((stepN (lkF m ln (m 1 11)) (blF m ln (m 1 12)) (vw m 0) jv 6 q).toInt < (stepN (lkF m ln (m 1 11)) (blF m ln (m 1 12)) (upm (vw m 0) 5 ja 0) jv 6 q).toInt)) q + 2 ^ q)) m84_112 (bit_or q (by omega) _ (hb _ q)) ?_
              refine g_istore (L2 := [some (.ref (32)), some (.int (nI (ja))), some (.int (nI (jv))), some (.ref (42)), some (.int (nI (bitsF (fun q => !(decide (q = ja)) && decide ((stepN (lkF m ln (m 1 11)) (blF m ln (m 1 12)) (vw m 0) jv 6 q).toInt < (stepN (lkF m ln (m 1 11)) (blF m ln (m 1 12)) (upm (vw m 0) 5 ja 0) jv 6 q).toInt)) q + 2 ^ q))), some (.int (nI (q)))]) m84_113 rfl rfl ?_
              refine g_iinc (L2 := [some (.ref (32)), some (.int (nI (ja))), some (.int (nI (jv))), some (.ref (42)), some (.int (nI (bitsF (fun q => !(decide (q = ja)) && decide ((stepN (lkF m ln (m 1 11)) (blF m ln (m 1 12)) (vw m 0) jv 6 q).toInt < (stepN (lkF m ln (m 1 11)) (blF m ln (m 1 12)) (upm (vw m 0) 5 ja 0) jv 6 q).toInt)) q + 2 ^ q))), some (.int (nI (q + 1)))]) m84_115 rfl (nI_1 _) rfl rfl ?_
              refine g_goto m84_118 ?_
              have e : bitsF (fun q => !(decide (q = ja)) && decide ((stepN (lkF m ln (m 1 11)) (blF m ln (m 1 12)) (vw m 0) jv 6 q).toInt < (stepN (lkF m ln (m 1 11)) (blF m ln (m 1 12)) (upm (vw m 0) 5 ja 0) jv 6 q).toInt)) (q + 1) = bitsF (fun q => !(decide (q = ja)) && decide ((stepN (lkF m ln (m 1 11)) (blF m ln (m 1 12)) (vw m 0) jv 6 q).toInt < (stepN (lkF m ln (m 1 11)) (blF m ln (m 1 12)) (upm (vw m 0) 5 ja 0) jv 6 q).toInt)) q + 2 ^ q := by
                refine bits_y ?_
                show (!(decide (q = ja)) && decide _) = true
                rw [decide_eq_false (show ¬ q = ja by omega), decide_eq_true (by omega)]
                rfl
              have h9 := ih (q + 1) (by omega)
              rw [e] at h9
              exact h9
      exact key n 0 (by omega)
    · skip
      refine gwr ?_
      refine h_if_neT (xi := 0) (zi := 0) m84_14 rfl rfl (by decide) ?_
      refine g_aload_n m84_17 rfl ?_
      refine g_iconst m84_18 ?_
      refine h_cv (k := 0) (p := 32) (args := [.int (1)]) (rest := []) m84_19 cn_55 (Nat.le_of_ble_eq_true rfl) rfl rfl rfl (t_0 _ _) (Nat.le_of_ble_eq_true rfl) ?_
      refine c_error (e := 1) (by decide) (by decide) ?_
      refine gwr ?_
      refine g_iret m84_22 rt_84 ?_
      exact hE1 (by omega)
  · skip
    refine gwr ?_
    refine h_if_eqT (xi := 0) (zi := 0) m84_5 rfl rfl (by decide) ?_
    refine g_aload_n m84_17 rfl ?_
    refine g_iconst m84_18 ?_
    refine h_cv (k := 0) (p := 32) (args := [.int (1)]) (rest := []) m84_19 cn_55 (Nat.le_of_ble_eq_true rfl) rfl rfl rfl (t_0 _ _) (Nat.le_of_ble_eq_true rfl) ?_
    refine c_error (e := 1) (by decide) (by decide) ?_
    refine gwr ?_
    refine g_iret m84_22 rt_84 ?_
    exact hE1 (by omega)
set_option maxRecDepth 20000 in
set_option maxHeartbeats 40000000 in
theorem c_shamAlike {t n a : Nat} {m0 X : MW} {s : Int32} (ht : t < 4) (hA : AtX m0 t X m) (hn : n ≤ 8) (hd : X 0 10 = nI n) (ha : a < 256) (hQ : ∀ m2, AtX m0 t (shamQ X a s n) m2 → Q none (H m2 ln N)) : WP xs (d + 2) 44 0 0 [.ref (33 + 9 * t), .int (nI (a)), .int (s)] (H m ln N) Q := by
  refine wp_x mx_44 (L := [some (.ref (33 + 9 * t)), some (.int (nI (a))), some (.int (s)), none]) (Nat.le_of_ble_eq_true rfl) rfl ?_
  have key : ∀ (r : Nat) (q : Nat) (m2 : MW), q + r = n → AtX m0 t (shamQ X a s q) m2 → gw xs (WP xs (d + 1)) 44 Q 2 [some (.ref (33 + 9 * t)), some (.int (nI (a))), some (.int (s)), some (.int (nI (q)))] [] (H m2 ln N) 0 0 := by
    intro r
    induction r with
    | zero =>
      intro q m2 hq hA2
      obtain rfl : q = n := by omega
      refine g_iload_n m44_2 rfl ?_
      refine g_aload_n m44_3 rfl ?_
      refine h_gfI (k := 1 + 9 * t) (p := 33 + 9 * t) m44_4 (pT 1 _) (tT ht) rfl ((hA2.rd ht (j := 0) (i := 10) (by decide)).trans ((shamQ_o (by decide)).trans hd)) ?_
      refine h_ic_geT (xi := ((q : Nat) : Int)) (zi := ((q : Nat) : Int)) m44_7 (nI_toInt (by omega)) (nI_toInt (by omega)) (by omega) ?_
      refine g_vret m44_31 ?_
      exact hQ m2 hA2
    | succ r ih =>
      intro q m2 hq hA2
      refine g_iload_n m44_2 rfl ?_
      refine g_aload_n m44_3 rfl ?_
      refine h_gfI (k := 1 + 9 * t) (p := 33 + 9 * t) m44_4 (pT 1 _) (tT ht) rfl ((hA2.rd ht (j := 0) (i := 10) (by decide)).trans ((shamQ_o (by decide)).trans hd)) ?_
      refine h_ic_geF (xi := ((q : Nat) : Int)) (zi := ((n : Nat) : Int)) m44_7 (nI_toInt (by omega)) (nI_toInt (by omega)) (by omega) ?_
      refine g_iload_n m44_10 rfl ?_
      refine g_iload_n m44_11 rfl ?_
      refine g_cs (args := [.int (nI (a)), .int (nI (q))]) (rest := []) 1 (Or.inr rfl) m44_12 (Nat.le_of_ble_eq_true rfl) rfl rfl (Nat.le_of_ble_eq_true rfl) ?_
      refine c_has (a := a) (i := q) (by omega) (by omega) ?_
      by_cases hb_3 : Nat.testBit a q = true
      · rw [if_pos hb_3]
        refine gwr ?_
        refine h_if_eqF (xi := 1) (zi := 0) m44_15 rfl rfl (by decide) ?_
        refine g_aload_n m44_18 rfl ?_
        refine h_gfR (c := 38 + 9 * t) (k := 1 + 9 * t) (p := 33 + 9 * t) m44_19 (pT 1 _) (tT ht) rfl (le3 (Nat.le_of_ble_eq_true rfl)) ?_
        refine g_iload_n m44_22 rfl ?_
        refine g_iload_n m44_23 rfl ?_
        refine h_ias (k := 6 + 9 * t) (p := 38 + 9 * t) (j := q) m44_24 (pT 6 _) (tA5 ht) (rfl) (by omega) (Nat.le_of_ble_eq_true rfl) ?_
        have hAu1 := hA2.up ht (j := 5) (by decide) q s
        refine g_iinc (L2 := [some (.ref (33 + 9 * t)), some (.int (nI (a))), some (.int (s)), some (.int (nI (q + 1)))]) m44_25 rfl (nI_1 _) rfl rfl ?_
        refine g_goto m44_28 ?_
        exact ih (q + 1) _ (by omega) (hAu1.c (fun j i _ => shamQ_y hb_3 j i))
      · rw [if_neg hb_3]
        refine gwr ?_
        refine h_if_eqT (xi := 0) (zi := 0) m44_15 rfl rfl (by decide) ?_
        refine g_iinc (L2 := [some (.ref (33 + 9 * t)), some (.int (nI (a))), some (.int (s)), some (.int (nI (q + 1)))]) m44_25 rfl (nI_1 _) rfl rfl ?_
        refine g_goto m44_28 ?_
        exact ih (q + 1) _ (by omega) (hA2.c (fun j i _ => shamQ_n hb_3 j i))
  refine g_iconst m44_0 ?_
  refine g_istore_n (L2 := [some (.ref (33 + 9 * t)), some (.int (nI (a))), some (.int (s)), some (.int (0))]) m44_1 rfl rfl ?_
  exact key n 0 _ (by omega) (hA.c (fun j i _ => if_neg (fun z => absurd z.2.1 (Nat.not_lt_zero _))))
set_option maxRecDepth 20000 in
set_option maxHeartbeats 40000000 in
theorem c_haveMore {n a : Nat} {m0 X : MW} (hA : AtX m0 1 X m) (hd : m 1 10 = nI n) (hn : n ≤ 8) (ha : a < 256) (hT : allF (fun i => !(a.testBit i) || decide ((m 7 i).toInt < (X 6 i).toInt)) n = true → Q (some (.int 1)) (H m ln N)) (hF : ¬ allF (fun i => !(a.testBit i) || decide ((m 7 i).toInt < (X 6 i).toInt)) n = true → Q (some (.int 0)) (H m ln N)) : WP xs (d + 2) 79 0 0 [.ref (32), .ref (42), .int (nI (a))] (H m ln N) Q := by
  refine wp_x mx_79 (L := [some (.ref (32)), some (.ref (42)), some (.int (nI (a))), none]) (Nat.le_of_ble_eq_true rfl) rfl ?_
  have key : ∀ (r : Nat) (q : Nat), q + r = n → allF (fun i => !(a.testBit i) || decide ((m 7 i).toInt < (X 6 i).toInt)) q = true → gw xs (WP xs (d + 1)) 79 Q 2 [some (.ref (32)), some (.ref (42)), some (.int (nI (a))), some (.int (nI (q)))] [] (H m ln N) 0 0 := by
    intro r
    induction r with
    | zero =>
      intro q hq hall
      obtain rfl : q = n := by omega
      refine g_iload_n m79_2 rfl ?_
      refine g_aload_n m79_3 rfl ?_
      refine h_gfR (c := 33) (k := 0) (p := 32) m79_4 rfl (t_0 _ _) rfl (Nat.le_of_ble_eq_true rfl) ?_
      refine h_gfI (k := 1) (p := 33) m79_7 rfl (t_1 _ _) rfl (hd) ?_
      refine h_ic_geT (xi := ((q : Nat) : Int)) (zi := ((q : Nat) : Int)) m79_10 (nI_toInt (by omega)) (nI_toInt (by omega)) (by omega) ?_
      refine g_iconst m79_47 ?_
      refine g_zret m79_48 rt_79 (Or.inr rfl) ?_
      exact hT hall
    | succ r ih =>
      intro q hq hall
      refine g_iload_n m79_2 rfl ?_
      refine g_aload_n m79_3 rfl ?_
      refine h_gfR (c := 33) (k := 0) (p := 32) m79_4 rfl (t_0 _ _) rfl (Nat.le_of_ble_eq_true rfl) ?_
      refine h_gfI (k := 1) (p := 33) m79_7 rfl (t_1 _ _) rfl (hd) ?_
      refine h_ic_geF (xi := ((q : Nat) : Int)) (zi := ((n : Nat) : Int)) m79_10 (nI_toInt (by omega)) (nI_toInt (by omega)) (by omega) ?_
      refine g_iload_n m79_13 rfl ?_
      refine g_iload_n m79_14 rfl ?_
      refine g_cs (args := [.int (nI (a)), .int (nI (q))]) (rest := []) 0 (Or.inl rfl) m79_15 (Nat.le_of_ble_eq_true rfl) rfl rfl (Nat.le_of_ble_eq_true rfl) ?_
      refine c_has (a := a) (i := q) (by omega) (by omega) ?_
      by_cases hb_4 : Nat.testBit a q = true
      · rw [if_pos hb_4]
        refine gwr ?_
        refine h_if_eqF (xi := 1) (zi := 0) m79_18 rfl rfl (by decide) ?_
        refine g_aload_n m79_21 rfl ?_
        refine h_gfR (c := 48) (k := 10) (p := 42) m79_22 rfl (t_10 _ _) rfl (Nat.le_of_ble_eq_true rfl) ?_
        refine g_iload_n m79_25 rfl ?_
        refine h_ial (k := 16) (p := 48) (j := q) m79_26 rfl (t_16 _ _) (rfl) (by omega) (Nat.le_of_ble_eq_true rfl) (hA.rd (by decide) (j := 6) (i := q) (by decide)) ?_
        refine g_aload_n m79_27 rfl ?_
        refine h_gfR (c := 33) (k := 0) (p := 32) m79_28 rfl (t_0 _ _) rfl (Nat.le_of_ble_eq_true rfl) ?_
        refine h_gfR (c := 39) (k := 1) (p := 33) m79_31 rfl (t_1 _ _) rfl (Nat.le_of_ble_eq_true rfl) ?_
        refine g_iload_n m79_34 rfl ?_
        refine h_ial (k := 7) (p := 39) (j := q) m79_35 rfl (t_7 _ _) (rfl) (by omega) (Nat.le_of_ble_eq_true rfl) (rfl) ?_
        refine h_ic_gt (xi := _) (zi := _) m79_36 rfl rfl (fun c1 => ?_) (fun c1 => ?_)
        · skip
          refine g_iinc (L2 := [some (.ref (32)), some (.ref (42)), some (.int (nI (a))), some (.int (nI (q + 1)))]) m79_41 rfl (nI_1 _) rfl rfl ?_
          refine g_goto m79_44 ?_
          refine ih (q + 1) (by omega) ?_
          show (allF (fun i => !(a.testBit i) || decide ((m 7 i).toInt < (X 6 i).toInt)) q && (!(a.testBit q) || decide _)) = true
          rw [hall]
          by_cases hbb : a.testBit q = true
          · first | exact absurd hbb hb_4 | (rw [decide_eq_true (by omega)]; simp)
          · rw [Bool.eq_false_iff.mpr hbb]
            rfl
        · skip
          refine g_iconst m79_39 ?_
          refine g_zret m79_40 rt_79 (Or.inl rfl) ?_
          refine hF (fun h => ?_)
          have h2 : (!(a.testBit q) || decide _) = true := all_y.mp h q (by omega)
          rw [hb_4, decide_eq_false (by omega)] at h2
          exact absurd h2 (by decide)
      · rw [if_neg hb_4]
        refine gwr ?_
        refine h_if_eqT (xi := 0) (zi := 0) m79_18 rfl rfl (by decide) ?_
        refine g_iinc (L2 := [some (.ref (32)), some (.ref (42)), some (.int (nI (a))), some (.int (nI (q + 1)))]) m79_41 rfl (nI_1 _) rfl rfl ?_
        refine g_goto m79_44 ?_
        refine ih (q + 1) (by omega) ?_
        show (allF (fun i => !(a.testBit i) || decide ((m 7 i).toInt < (X 6 i).toInt)) q && (!(a.testBit q) || decide _)) = true
        rw [hall]
        by_cases hbb : a.testBit q = true
        · first | exact absurd hbb hb_4 | (rw [decide_eq_true (by omega)]; simp)
        · rw [Bool.eq_false_iff.mpr hbb]
          rfl
  refine g_iconst m79_0 ?_
  refine g_istore_n (L2 := [some (.ref (32)), some (.ref (42)), some (.int (nI (a))), some (.int (0))]) m79_1 rfl rfl ?_
  exact key n 0 (by omega) rfl
set_option maxRecDepth 20000 in
set_option maxHeartbeats 40000000 in
theorem x_alike {a v : Int32} {n : Nat} (hd : m 1 10 = nI n) (hn : n ≤ 8) (h01 : ∀ j, j < 8 → m 8 j = 0 ∨ m 8 j = 1) (hW : WF (vw m 0)) (hL : LawsOk m ln N) (hix : LawIx N (m 1 11)) (hiy : LawIx N (m 1 12)) (hE1 : (a.toInt < 0 ∨ ((2 ^ n : Nat) : Int) ≤ a.toInt ∨ v.toInt < 1 ∨ 60 < v.toInt) → Q (some (.int (-1000000000 - nI 1))) (H (erm m 1) ln N)) (hE2 : ∀ i k : Nat, a = nI i → i < 2 ^ n → v = nI k → 1 ≤ k → k ≤ 60 → leastF (fun s => allF (fun w => !(Nat.testBit i w) || moreN (lkF m ln (m 1 11)) (blF m ln (m 1 12)) (shamX (vw m 0) i (nI s)) k w) n) 10 0 = none → ∀ m2, FrT m m2 → Q (some (.int (-1000000000 - nI 2))) (H (erm m2 2) ln N)) (hY : ∀ i k s : Nat, a = nI i → i < 2 ^ n → v = nI k → 1 ≤ k → k ≤ 60 → leastF (fun s => allF (fun w => !(Nat.testBit i w) || moreN (lkF m ln (m 1 11)) (blF m ln (m 1 12)) (shamX (vw m 0) i (nI s)) k w) n) 10 0 = some s → ∀ m2, FrT m m2 → Q (some (.int (nI s))) (H m2 ln N)) : WP xs (d + 7) 80 0 0 [.ref (32), .int (a), .int (v)] (H m ln N) Q := by
  refine wp_x mx_80 (L := [some (.ref (32)), some (.int (a)), some (.int (v)), none, none]) (Nat.le_of_ble_eq_true rfl) rfl ?_
  have hnn : nOf (vw m 0) = n := by unfold nOf; rw [show vw m 0 0 10 = nI n from hd]; exact nI_clamp (by omega)
  have hp8 : 2 ^ n ≤ 256 := Nat.pow_le_pow_right (n := 2) (by decide) hn
  by_cases hv : v.toInt < 1 ∨ 60 < v.toInt
  · skip
    refine g_iload_n m80_0 rfl ?_
    refine g_aload_n m80_1 rfl ?_
    refine h_gfR (c := 33) (k := 0) (p := 32) m80_2 rfl (t_0 _ _) rfl (Nat.le_of_ble_eq_true rfl) ?_
    refine h_gfI (k := 1) (p := 33) m80_5 rfl (t_1 _ _) rfl (hd) ?_
    refine g_iushr m80_8 rfl ?_
    refine h_if_ne (xi := _) (zi := 0) m80_9 rfl rfl (fun c1 => ?_) (fun c1 => ?_)
    · skip
      refine g_iload_n m80_12 rfl ?_
      refine g_iconst m80_13 ?_
      refine h_ic_lt (xi := v.toInt) (zi := 1) m80_14 rfl rfl (fun c2 => ?_) (fun c2 => ?_)
      · skip
        refine g_aload_n m80_23 rfl ?_
        refine g_iconst m80_24 ?_
        refine h_cv (k := 0) (p := 32) (args := [.int (1)]) (rest := []) m80_25 cn_55 (Nat.le_of_ble_eq_true rfl) rfl rfl rfl (t_0 _ _) (Nat.le_of_ble_eq_true rfl) ?_
        refine c_error (e := 1) (by decide) (by decide) ?_
        refine gwr ?_
        refine g_iret m80_28 rt_80 ?_
        exact hE1 (by omega)
      · skip
        refine g_iload_n m80_17 rfl ?_
        refine g_bipush m80_18 ?_
        refine h_ic_le (xi := v.toInt) (zi := 60) m80_20 rfl rfl (fun c3 => ?_) (fun c3 => ?_)
        · skip
          exfalso
          omega
        · skip
          refine g_aload_n m80_23 rfl ?_
          refine g_iconst m80_24 ?_
          refine h_cv (k := 0) (p := 32) (args := [.int (1)]) (rest := []) m80_25 cn_55 (Nat.le_of_ble_eq_true rfl) rfl rfl rfl (t_0 _ _) (Nat.le_of_ble_eq_true rfl) ?_
          refine c_error (e := 1) (by decide) (by decide) ?_
          refine gwr ?_
          refine g_iret m80_28 rt_80 ?_
          exact hE1 (by omega)
    · skip
      refine g_aload_n m80_23 rfl ?_
      refine g_iconst m80_24 ?_
      refine h_cv (k := 0) (p := 32) (args := [.int (1)]) (rest := []) m80_25 cn_55 (Nat.le_of_ble_eq_true rfl) rfl rfl rfl (t_0 _ _) (Nat.le_of_ble_eq_true rfl) ?_
      refine c_error (e := 1) (by decide) (by decide) ?_
      refine gwr ?_
      refine g_iret m80_28 rt_80 ?_
      exact hE1 (by omega)
  · skip
    obtain ⟨k, ⟨hk1, hk2⟩, hk3⟩ := nat_of (x := v) (lo := 1) (hi := 60) (by omega) (by omega)
    obtain rfl : v = nI k := hk3
    have ek : (nI k).toInt = (k : Int) := nI_toInt (by omega)
    by_cases hav : 0 ≤ a.toInt ∧ a.toInt < ((2 ^ n : Nat) : Int)
    · have hsh := (ush_set hn).mpr hav
      obtain ⟨A, ⟨hA1, hA2⟩, hA3⟩ := nat_of (x := a) (lo := 0) (hi := 2 ^ n - 1) (by omega) (by omega)
      have hA2 : A < 2 ^ n := by have := Nat.two_pow_pos n; omega
      obtain rfl : a = nI A := hA3
      refine g_iload_n m80_0 rfl ?_
      refine g_aload_n m80_1 rfl ?_
      refine h_gfR (c := 33) (k := 0) (p := 32) m80_2 rfl (t_0 _ _) rfl (Nat.le_of_ble_eq_true rfl) ?_
      refine h_gfI (k := 1) (p := 33) m80_5 rfl (t_1 _ _) rfl (hd) ?_
      refine g_iushr m80_8 rfl ?_
      refine h_if_neT (xi := _) (zi := 0) m80_9 rfl rfl (hsh) ?_
      refine g_iload_n m80_12 rfl ?_
      refine g_iconst m80_13 ?_
      refine h_ic_ltF (xi := ((k : Nat) : Int)) (zi := 1) m80_14 (nI_toInt (by omega)) rfl (by omega) ?_
      refine g_iload_n m80_17 rfl ?_
      refine g_bipush m80_18 ?_
      refine h_ic_leT (xi := ((k : Nat) : Int)) (zi := 60) m80_20 (nI_toInt (by omega)) rfl (by omega) ?_
      refine g_iconst m80_29 ?_
      refine g_istore_n (L2 := [some (.ref (32)), some (.int (nI (A))), some (.int (nI (k))), some (.int (0)), none]) m80_30 rfl rfl ?_
      have key : ∀ (r : Nat) (s : Nat) (o4 : Option Value) (m2 : MW), s + r = 10 → FrT m m2 → leastF (fun s => allF (fun w => !(Nat.testBit A w) || moreN (lkF m ln (m 1 11)) (blF m ln (m 1 12)) (shamX (vw m 0) A (nI s)) k w) n) r s = leastF (fun s => allF (fun w => !(Nat.testBit A w) || moreN (lkF m ln (m 1 11)) (blF m ln (m 1 12)) (shamX (vw m 0) A (nI s)) k w) n) 10 0 → gw xs (WP xs (d + 6)) 80 Q 31 [some (.ref (32)), some (.int (nI (A))), some (.int (nI (k))), some (.int (nI (s))), o4] [] (H m2 ln N) 0 0 := by
        intro r
        induction r with
        | zero =>
          intro s o4 m2 hs hF hfin
          obtain rfl : s = 10 := by omega
          refine g_iload_n m80_31 rfl ?_
          refine g_bipush m80_32 ?_
          refine h_ic_geT (xi := ((10 : Nat) : Int)) (zi := 10) m80_34 (nI_toInt (by omega)) rfl (by omega) ?_
          refine g_aload_n m80_74 rfl ?_
          refine g_iconst m80_75 ?_
          refine h_cv (k := 0) (p := 32) (args := [.int (2)]) (rest := []) m80_76 cn_55 (Nat.le_of_ble_eq_true rfl) rfl rfl rfl (t_0 _ _) (Nat.le_of_ble_eq_true rfl) ?_
          refine c_error (e := 2) (by decide) (by decide) ?_
          refine gwr ?_
          refine g_iret m80_79 rt_80 ?_
          exact hE2 A k rfl hA2 rfl (by omega) (by omega) hfin.symm m2 hF
        | succ r ih =>
          intro s o4 m2 hs hF hfin
          refine g_iload_n m80_31 rfl ?_
          refine g_bipush m80_32 ?_
          refine h_ic_geF (xi := ((s : Nat) : Int)) (zi := 10) m80_34 (nI_toInt (by omega)) rfl (by omega) ?_
          refine g_aload_n m80_37 rfl ?_
          refine h_cv (k := 0) (p := 32) (args := []) (rest := []) m80_38 cn_74 (Nat.le_of_ble_eq_true rfl) rfl rfl rfl (t_0 _ _) (Nat.le_of_ble_eq_true rfl) ?_
          have hd2 : m2 1 10 = nI n := (hF 1 10 (by omega) (fun q => by rcases q with q | q <;> omega)).trans hd
          have h012 : ∀ j, j < 8 → m2 8 j = 0 ∨ m2 8 j = 1 := fun j hj => by rw [hF 8 j (by omega) (fun q => by rcases q with q | q <;> omega)]; exact h01 j hj
          have hL2 := hF.laws hL
          have e11 : m2 1 11 = m 1 11 := hF 1 11 (by omega) (fun q => by rcases q with q | q <;> omega)
          have e12 : m2 1 12 = m 1 12 := hF 1 12 (by omega) (fun q => by rcases q with q | q <;> omega)
          have hL1 : LawsOk (takeM m2 1 0) ln N := tk_l hL2 1 0 (by decide)
          have elk := (tk_lk m2 1 0 (by decide) ln (m 1 11)).trans (hF.lk ln _)
          have ebl := (tk_bl m2 1 0 (by decide) ln (m 1 12)).trans (hF.bl ln _)
          have h80 : Eq8 (vw m 0) (vw (takeM m2 1 0) 1) := Eq8.tr (fun j hj i => congrFun (hF.vw0 (by omega)) i) (take_8 m2 1 0)
          have hW1 : WF (vw (takeM m2 1 0) 1) := WF_c h80 hW
          refine c_think h012 ?_
          refine gwr ?_
          refine g_astore (L2 := [some (.ref (32)), some (.int (nI (A))), some (.int (nI (k))), some (.int (nI (s))), some (.ref (42))]) m80_41 rfl rfl ?_
          refine g_aload m80_43 rfl ?_
          refine g_iload_n m80_45 rfl ?_
          refine g_iload_n m80_46 rfl ?_
          refine h_cv (k := 10) (p := 42) (args := [.int (nI (A)), .int (nI (s))]) (rest := []) m80_47 cn_44 (Nat.le_of_ble_eq_true rfl) rfl rfl rfl (t_10 _ _) (Nat.le_of_ble_eq_true rfl) ?_
          refine c_shamAlike (t := 1) (m0 := takeM m2 1 0) (X := (vw (takeM m2 1 0) 1)) (by decide) (AtX.self _ 1) hn ((congrFun (take_vw m2 1 0 (j := 0) (by decide)) 10).trans hd2) (by omega) (fun m3 hA3 => ?_)
          have hnn2 : nOf (vw (takeM m2 1 0) 1) = n := by unfold nOf; rw [show (vw (takeM m2 1 0) 1) 0 10 = nI n from (congrFun (take_vw m2 1 0 (j := 0) (by decide)) 10).trans hd2]; exact nI_clamp (by omega)
          rw [← shamQ_X hnn2] at hA3
          refine gwr0 ?_
          refine g_aload m80_50 rfl ?_
          refine g_iload_n m80_52 rfl ?_
          refine h_cv (k := 10) (p := 42) (args := [.int (nI (k))]) (rest := []) m80_53 cn_41 (Nat.le_of_ble_eq_true rfl) rfl rfl rfl (t_10 _ _) (Nat.le_of_ble_eq_true rfl) ?_
          have h8w := shamX_8 h80 A (nI s)
          have hWw := WF_shamX (a := A) hW1 ⟨s, by omega, rfl⟩
          refine c_goOn (n := k) (x := m 1 11) (y := m 1 12) (t := 1) (m0 := takeM m2 1 0) (by decide) hL1 hA3 ((shamX_o (by decide)).trans ((congrFun (take_vw m2 1 0 (j := 0) (by decide)) 11).trans e11)) hix ((shamX_o (by decide)).trans ((congrFun (take_vw m2 1 0 (j := 0) (by decide)) 12).trans e12)) hiy hWw (by omega) (fun X4 m4 h8 hA4 => ?_)
          rw [elk, ebl] at h8
          have h84 := (stepN_8 (LK := (lkF m ln (m 1 11))) (BL := (blF m ln (m 1 12))) h8w k).tr h8
          have hF4 := hF.tr (FrT.of hA4)
          refine gwr0 ?_
          refine g_aload_n m80_56 rfl ?_
          refine g_aload m80_57 rfl ?_
          refine g_iload_n m80_59 rfl ?_
          refine h_cv (k := 0) (p := 32) (args := [.ref (42), .int (nI (A))]) (rest := []) m80_60 cn_79 (Nat.le_of_ble_eq_true rfl) rfl rfl rfl (t_0 _ _) (Nat.le_of_ble_eq_true rfl) ?_
          have ep : ∀ i, i < n → (!(A.testBit i) || decide ((m4 7 i).toInt < (X4 6 i).toInt)) = (!(A.testBit i) || moreN (lkF m ln (m 1 11)) (blF m ln (m 1 12)) (shamX (vw m 0) A (nI s)) k i) := fun i _ => by
            unfold moreN
            rw [h84 6 (by decide) i, shamX_o (by decide), show m4 7 i = vw m 0 6 i from hF4 7 i (by omega) (fun z => by rcases z with z | z <;> omega)]
          refine c_haveMore hA4 ((hF4 1 10 (by omega) (fun q => by rcases q with q | q <;> omega)).trans hd) hn (by omega) (fun hm => ?_) (fun hm => ?_)
          · rw [allF_c n ep] at hm
            rw [least_y (p := (fun s => allF (fun w => !(Nat.testBit A w) || moreN (lkF m ln (m 1 11)) (blF m ln (m 1 12)) (shamX (vw m 0) A (nI s)) k w) n)) (s := s) hm] at hfin
            refine gwr ?_
            refine h_if_eqF (xi := 1) (zi := 0) m80_63 rfl rfl (by decide) ?_
            refine g_iload_n m80_66 rfl ?_
            refine g_iret m80_67 rt_80 ?_
            exact hY A k s rfl hA2 rfl (by omega) (by omega) hfin.symm m4 hF4
          · rw [allF_c n ep] at hm
            rw [least_n (p := (fun s => allF (fun w => !(Nat.testBit A w) || moreN (lkF m ln (m 1 11)) (blF m ln (m 1 12)) (shamX (vw m 0) A (nI s)) k w) n)) (s := s) hm] at hfin
            refine gwr ?_
            refine h_if_eqT (xi := 0) (zi := 0) m80_63 rfl rfl (by decide) ?_
            refine g_iinc (L2 := [some (.ref (32)), some (.int (nI (A))), some (.int (nI (k))), some (.int (nI (s + 1))), some (.ref (42))]) m80_68 rfl (nI_1 _) rfl rfl ?_
            refine g_goto m80_71 ?_
            exact ih (s + 1) _ _ (by omega) hF4 hfin
      exact key 10 0 _ _ (by omega) FrT.rf rfl
    · have hsh := fun z => hav ((ush_set hn).mp z)
      refine g_iload_n m80_0 rfl ?_
      refine g_aload_n m80_1 rfl ?_
      refine h_gfR (c := 33) (k := 0) (p := 32) m80_2 rfl (t_0 _ _) rfl (Nat.le_of_ble_eq_true rfl) ?_
      refine h_gfI (k := 1) (p := 33) m80_5 rfl (t_1 _ _) rfl (hd) ?_
      refine g_iushr m80_8 rfl ?_
      refine h_if_neF (xi := _) (zi := 0) m80_9 rfl rfl (hsh) ?_
      refine g_aload_n m80_23 rfl ?_
      refine g_iconst m80_24 ?_
      refine h_cv (k := 0) (p := 32) (args := [.int (1)]) (rest := []) m80_25 cn_55 (Nat.le_of_ble_eq_true rfl) rfl rfl rfl (t_0 _ _) (Nat.le_of_ble_eq_true rfl) ?_
      refine c_error (e := 1) (by decide) (by decide) ?_
      refine gwr ?_
      refine g_iret m80_28 rt_80 ?_
      exact hE1 (by omega)
end
end
section
/-! DRAWS, LOOSE STEPS -/
def zF (z : Int32) : Int32 := z * 1103515245 + 12345
def zN (z : Int32) : Nat → Int32
  | 0 => z
  | k + 1 => zF (zN z k)
def dN (z : Int32) : Nat := z.toBitVec.toNat / 256
theorem dN_lt (z : Int32) : dN z < 16777216 := by
  have := z.toBitVec.isLt
  unfold dN
  omega
theorem ush8 (z : Int32) : (z.toUInt32 >>> ((8 : Int32).toUInt32 &&& Int32.toUInt32 31)).toInt32 = nI (dN z) := by
  refine Int32.toBitVec_inj.mp (BitVec.eq_of_toNat_eq ?_)
  show (z.toBitVec >>> (((8 : Int32).toUInt32 &&& Int32.toUInt32 31).toBitVec % 32)).toNat = (BitVec.ofNat 32 (dN z)).toNat
  have h := dN_lt z
  rw [BitVec.ushiftRight_eq', BitVec.toNat_ushiftRight, show (((8 : Int32).toUInt32 &&& Int32.toUInt32 31).toBitVec % 32).toNat = 8 by decide +kernel, BitVec.toNat_ofNat, Nat.mod_eq_of_lt (by omega), Nat.shiftRight_eq_div_pow]
  rfl
def drX (X : MW) (n D : Nat) : MW := if n = 0 then X else upm X 5 (D % n) (nI (D / 8 % 10))
def looX (LK BL : LF) (n : Nat) (X : MW) (z : Int32) : Nat → MW
  | 0 => X
  | k + 1 => stepF LK BL (drX (looX LK BL n X z k) n (dN (zN z (k + 1))))
theorem drX_0 {X : MW} {n D i : Nat} : drX X n D 0 i = X 0 i := by
  unfold drX
  split
  · rfl
  · exact upm_k _ _ (by decide)
theorem drX_8 {X Y : MW} (h : Eq8 X Y) (n D : Nat) : Eq8 (drX X n D) (drX Y n D) := by
  unfold drX
  split
  · exact h
  · exact h.up 5 _ _
theorem drX_W {X : MW} (w : WF X) (n D : Nat) : WF (drX X n D) := by
  unfold drX
  split
  · exact w
  · exact WF_sham w ⟨D / 8 % 10, by omega, rfl⟩
theorem looX_0 {LK BL : LF} {n : Nat} {X : MW} {z : Int32} {i : Nat} (hi : i ≠ 9) : ∀ k, looX LK BL n X z k 0 i = X 0 i
  | 0 => rfl
  | k + 1 => (stepN_0 LK BL _ hi 1).trans (drX_0.trans (looX_0 hi k))
theorem looX_W {LK BL : LF} {n : Nat} {X : MW} {z : Int32} (w : WF X) : ∀ k, WF (looX LK BL n X z k)
  | 0 => w
  | k + 1 => WF_step (drX_W (looX_W w k) _ _)
theorem upm_2 (m : MW) (k j : Nat) (x y : Int32) : upm (upm m k j x) k j y = upm m k j y := by
  funext k2 j2
  unfold upm
  split <;> rfl
theorem upm_id (m : MW) (k j : Nat) : upm m k j (m k j) = m := by
  funext k2 j2
  unfold upm
  split
  · rename_i h
    rw [h.1, h.2]
  · rfl
theorem cod_up {m : MW} {k j : Nat} {x : Int32} (hk : k < 69) (ln : Nat → Nat) : codL (upm m k j x) ln = codL m ln := by
  funext i
  unfold codL
  rw [row_up m _ (by omega)]
theorem laws_up {m : MW} {ln : Nat → Nat} {N k j : Nat} {x : Int32} (h : LawsOk m ln N) (hk : k < 69) : LawsOk (upm m k j x) ln N := ⟨h.1, fun i hi => by rw [cod_up hk]; exact h.2 i hi⟩
theorem lk_up {m : MW} {ln : Nat → Nat} {k j : Nat} {x y : Int32} (hk : k < 69) : lkF (upm m k j x) ln y = lkF m ln y := by rw [lkC_e, lkC_e, cod_up hk]
theorem bl_up {m : MW} {ln : Nat → Nat} {k j : Nat} {x y : Int32} (hk : k < 69) : blF (upm m k j x) ln y = blF m ln y := by rw [blC_e, blC_e, cod_up hk]
theorem AtX.up37 {m0 X m2 : MW} (h : AtX m0 0 X m2) (v : Int32) : AtX (upm m0 37 0 v) 0 X (upm m2 37 0 v) := by
  intro k j q
  have h1 := h k j q
  by_cases e : k = 37 ∧ j = 0
  · obtain ⟨rfl, rfl⟩ := e
    rw [upm_self]
    unfold putT
    rw [if_neg (by omega), upm_self]
  · have e1 : upm m2 37 0 v k j = m2 k j := if_neg e
    rw [e1, h1]
    unfold putT
    by_cases c : 1 + 9 * 0 ≤ k ∧ k < 10 + 9 * 0
    · rw [if_pos c, if_pos c]
    · rw [if_neg c, if_neg c]
      exact (if_neg e).symm
theorem AtY.up1 {m0 Y m2 : MW} (h : AtY m0 Y m2) (v : Int32) : AtY (upm m0 58 1 v) Y (upm m2 58 1 v) := by
  intro k j q
  unfold upmR
  by_cases e : k = 58
  · subst e
    rw [if_pos rfl]
    by_cases e2 : j = 1
    · subst e2
      rw [upm_self]
      exact (upm_self m0 58 1 v).symm
    · rw [upm_j _ _ e2, h.row j]
      unfold rowU
      rw [upm_j _ _ e2]
  · rw [if_neg e, upm_k _ _ e, h k j q]
    unfold upmR
    rw [if_neg e, upm_k _ _ e]
theorem tx_1 {m : MW} {v : Int32} (u : Nat) : txW (upm m 58 1 v 58) u = txW (m 58) u ∧ upm m 58 1 v 58 (5 + u) = m 58 (5 + u) := ⟨funext fun j => upm_j _ _ (by omega), upm_j _ _ (by omega)⟩
theorem TxOk.up1 {m : MW} {v : Int32} {u : Nat} (h : TxOk (m 58) u) : TxOk (upm m 58 1 v 58) u := by
  unfold TxOk
  rw [(tx_1 u).1, (tx_1 u).2]
  exact h
theorem rk_1 {m : MW} {v : Int32} : rkF (upm m 58 1 v 58) = rkF (m 58) := by
  have h := tx_1 (m := m) (v := v) 0
  unfold rkF nW
  rw [h.1]
  rw [show upm m 58 1 v 58 (5 + 0) = m 58 (5 + 0) from h.2]
  first | done | rfl
theorem rb_1 {m : MW} {v : Int32} : rbF (upm m 58 1 v 58) = rbF (m 58) := by
  have h := tx_1 (m := m) (v := v) 1
  unfold rbF nW
  rw [h.1]
  rw [show upm m 58 1 v 58 (5 + 1) = m 58 (5 + 1) from h.2]
  first | done | rfl
def zrM (m : MW) (s : Nat) (b l : Int32) : MW := fun k j => if k = 49 + 2 * s ∧ j < 40 then 0 else upm (upm m (48 + 2 * s) 0 b) (48 + 2 * s) 1 l k j
def zrQ (m : MW) (c lo q : Nat) : MW := fun k j => if k = c ∧ lo ≤ j ∧ j < lo + q then 0 else m k j
theorem zrQ_0 (m : MW) (c lo : Nat) : zrQ m c lo 0 = m := by
  funext k j
  exact if_neg (fun z => absurd z.2 (by omega))
theorem zrQ_s (m : MW) (c lo q : Nat) : upm (zrQ m c lo q) c (lo + q) 0 = zrQ m c lo (q + 1) := by
  funext k j
  unfold upm
  by_cases e : k = c ∧ j = lo + q
  · rw [if_pos e]
    exact (if_pos ⟨e.1, by omega⟩).symm
  · rw [if_neg e]
    exact if_c ⟨fun z => ⟨z.1, by omega⟩, fun z => ⟨z.1, by
      have : j ≠ lo + q := fun y => e ⟨z.1, y⟩
      omega⟩⟩
section
variable {xs : List Int32} {d : Nat} {h : AH} {Q : QT} {m : MW} {ln : Nat → Nat} {N : Nat}
set_option maxRecDepth 20000 in
set_option maxHeartbeats 40000000 in
theorem c_draw (hQ : Q (some (.int (nI (dN (zF (m 37 0)))))) (H (upm m 37 0 (zF (m 37 0))) ln N)) : WP xs (d + 1) 12 0 0 [.ref (69)] (H m ln N) Q := by
  refine wp_x mx_12 (L := [some (.ref (69))]) (Nat.le_of_ble_eq_true rfl) rfl ?_
  refine g_aload_n m12_0 rfl ?_
  refine g_aload_n m12_1 rfl ?_
  refine h_gfI (k := 37) (p := 69) m12_2 rfl (t_37 _ _) rfl rfl ?_
  refine g_ldci m12_5 rfl ?_
  refine g_imul m12_7 rfl ?_
  refine g_sipush m12_8 ?_
  refine g_iadd (u := zF (m 37 0)) m12_11 (rfl) ?_
  refine h_pfI (k := 37) (p := 69) m12_12 rfl (t_37 _ _) rfl trivial ?_
  refine g_aload_n m12_15 rfl ?_
  refine h_gfI (k := 37) (p := 69) m12_16 rfl (t_37 _ _) rfl (upm_self _ _ _ _) ?_
  refine g_bipush m12_19 ?_
  refine g_iushr (u := nI (dN (zF (m 37 0)))) m12_21 (ush8 _) ?_
  refine g_iret m12_22 rt_12 ?_
  exact hQ
set_option maxRecDepth 20000 in
set_option maxHeartbeats 40000000 in
theorem c_drawn (hQ : Q (some (.int (nI (dN (zF (m 58 1)))))) (H (upm m 58 1 (zF (m 58 1))) ln N)) : WP xs (d + 1) 149 0 0 [.ref (89)] (H m ln N) Q := by
  refine wp_x mx_149 (L := [some (.ref (89))]) (Nat.le_of_ble_eq_true rfl) rfl ?_
  refine g_aload_n m149_0 rfl ?_
  refine h_gfR (c := 90) (k := 57) (p := 89) m149_1 rfl (t_57 _ _) rfl (Nat.le_of_ble_eq_true rfl) ?_
  refine g_iconst m149_4 ?_
  refine g_aload_n m149_5 rfl ?_
  refine h_gfR (c := 90) (k := 57) (p := 89) m149_6 rfl (t_57 _ _) rfl (Nat.le_of_ble_eq_true rfl) ?_
  refine g_iconst m149_9 ?_
  refine h_ial (k := 58) (p := 90) (j := 1) m149_10 rfl (t_58 _ _) (rfl) (by omega) (Nat.le_of_ble_eq_true rfl) (rfl) ?_
  refine g_ldci m149_11 rfl ?_
  refine g_imul m149_13 rfl ?_
  refine g_sipush m149_14 ?_
  refine g_iadd (u := zF (m 58 1)) m149_17 (rfl) ?_
  refine h_ias (k := 58) (p := 90) (j := 1) m149_18 rfl (t_58 _ _) (rfl) (by omega) (Nat.le_of_ble_eq_true rfl) ?_
  refine g_aload_n m149_19 rfl ?_
  refine h_gfR (c := 90) (k := 57) (p := 89) m149_20 rfl (t_57 _ _) rfl (Nat.le_of_ble_eq_true rfl) ?_
  refine g_iconst m149_23 ?_
  refine h_ial (k := 58) (p := 90) (j := 1) m149_24 rfl (t_58 _ _) (rfl) (by omega) (Nat.le_of_ble_eq_true rfl) (upm_self _ _ _ _) ?_
  refine g_bipush m149_25 ?_
  refine g_iushr (u := nI (dN (zF (m 58 1)))) m149_27 (ush8 _) ?_
  refine g_iret m149_28 rt_149 ?_
  exact hQ
set_option maxRecDepth 20000 in
set_option maxHeartbeats 40000000 in
theorem c_drawSham {n : Nat} {m0 X : MW} (hA : AtX m0 0 X m) (hn : n ≤ 8) (hd : X 0 10 = nI n) (hQ : ∀ m2, AtX (upm m0 37 0 (zF (m0 37 0))) 0 (drX X n (dN (zF (m0 37 0)))) m2 → Q none (H m2 ln N)) : WP xs (d + 2) 71 0 0 [.ref (32)] (H m ln N) Q := by
  refine wp_x mx_71 (L := [some (.ref (32)), none]) (Nat.le_of_ble_eq_true rfl) rfl ?_
  refine g_aload_n m71_0 rfl ?_
  refine h_gfR (c := 69) (k := 0) (p := 32) m71_1 rfl (t_0 _ _) rfl (Nat.le_of_ble_eq_true rfl) ?_
  refine h_cv (k := 37) (p := 69) (args := []) (rest := []) m71_4 cn_12 (Nat.le_of_ble_eq_true rfl) rfl rfl rfl (t_37 _ _) (Nat.le_of_ble_eq_true rfl) ?_
  have e37 : m 37 0 = m0 37 0 := hA.out (by omega) (fun z => by rcases z with z | z <;> omega)
  refine c_draw ?_
  rw [e37]
  have hA1 := hA.up37 (zF (m0 37 0))
  have hd1 : upm m 37 0 (zF (m0 37 0)) 1 10 = nI n := (upm_k _ _ (by decide)).trans ((hA.rd (by decide) (j := 0) (i := 10) (by decide)).trans hd)
  have hD := dN_lt (zF (m0 37 0))
  refine gwr ?_
  refine g_istore_n (L2 := [some (.ref (32)), some (.int (nI (dN (zF (m0 37 0)))))]) m71_7 rfl rfl ?_
  refine g_aload_n m71_8 rfl ?_
  refine h_gfR (c := 33) (k := 0) (p := 32) m71_9 rfl (t_0 _ _) rfl (Nat.le_of_ble_eq_true rfl) ?_
  refine h_gfI (k := 1) (p := 33) m71_12 rfl (t_1 _ _) rfl (hd1) ?_
  refine h_if_le (xi := ((n : Nat) : Int)) (zi := 0) m71_15 (nI_toInt (by omega)) rfl (fun c1 => ?_) (fun c1 => ?_)
  · skip
    refine g_vret m71_42 ?_
    have e : drX X n (dN (zF (m0 37 0))) = X := if_pos (by omega)
    refine hQ _ ?_
    rw [e]
    exact hA1
  · skip
    refine g_aload_n m71_18 rfl ?_
    refine h_gfR (c := 33) (k := 0) (p := 32) m71_19 rfl (t_0 _ _) rfl (Nat.le_of_ble_eq_true rfl) ?_
    refine h_gfR (c := 38) (k := 1) (p := 33) m71_22 rfl (t_1 _ _) rfl (Nat.le_of_ble_eq_true rfl) ?_
    refine g_iload_n m71_25 rfl ?_
    refine g_aload_n m71_26 rfl ?_
    refine h_gfR (c := 33) (k := 0) (p := 32) m71_27 rfl (t_0 _ _) rfl (Nat.le_of_ble_eq_true rfl) ?_
    refine h_gfI (k := 1) (p := 33) m71_30 rfl (t_1 _ _) rfl (hd1) ?_
    have hn0 : 0 < n := by omega
    have hlt : (dN (zF (m0 37 0))) % n < n := Nat.mod_lt _ hn0
    refine g_irem (u := nI ((dN (zF (m0 37 0))) % n)) m71_33 (nI_ne0 hn0 (by omega)) (pk_rem (a := (dN (zF (m0 37 0)))) (d := n) (by omega) hn0 (by omega)) ?_
    refine g_iload_n m71_34 rfl ?_
    refine g_bipush m71_35 ?_
    refine g_idiv (u := nI ((dN (zF (m0 37 0))) / 8)) m71_37 (by decide) (pk_div (a := (dN (zF (m0 37 0)))) (d := 8) (by omega) (by decide) (by decide)) ?_
    refine g_bipush m71_38 ?_
    refine g_irem (u := nI (((dN (zF (m0 37 0))) / 8) % 10)) m71_40 (by decide) (pk_rem (a := ((dN (zF (m0 37 0))) / 8)) (d := 10) (by omega) (by decide) (by decide)) ?_
    refine h_ias (k := 6) (p := 38) (j := (dN (zF (m0 37 0))) % n) m71_41 rfl (t_6 _ _) (rfl) (by omega) (Nat.le_of_ble_eq_true rfl) ?_
    refine g_vret m71_42 ?_
    have e : drX X n (dN (zF (m0 37 0))) = upm X 5 ((dN (zF (m0 37 0))) % n) (nI ((dN (zF (m0 37 0))) / 8 % 10)) := if_neg (by omega)
    refine hQ _ ?_
    rw [e]
    exact hA1.up (by decide) (j := 5) (by decide) _ _
set_option maxRecDepth 20000 in
set_option maxHeartbeats 40000000 in
theorem x_loose {v : Int32} {n st : Nat} (hd : m 1 10 = nI n) (hn : n ≤ 8) (hst : m 1 9 = nI st) (hst9 : st ≤ 9999) (hW : WF (vw m 0)) (hL : LawsOk m ln N) (hix : LawIx N (m 1 11)) (hiy : LawIx N (m 1 12)) (hE1 : (v.toInt < 1 ∨ 40 < v.toInt) → Q (some (.int (-1000000000 - nI 1))) (H (erm m 1) ln N)) (hE3 : (∃ k : Nat, v = nI k ∧ k ≤ 40 ∧ 9999 < st + k) → Q (some (.int (-1000000000 - nI 3))) (H (erm m 3) ln N)) (hY : ∀ k : Nat, v = nI k → 1 ≤ k → k ≤ 40 → st + k ≤ 9999 → ∀ X2 m2, Eq8 (looX (lkF m ln (m 1 11)) (blF m ln (m 1 12)) n (vw m 0) (m 37 0) k) X2 → AtX (upm m 37 0 (zN (m 37 0) k)) 0 X2 m2 → Q (some (.int (sumF (X2 4) n))) (H m2 ln N)) : WP xs (d + 7) 72 0 0 [.ref (32), .int (v)] (H m ln N) Q := by
  refine wp_x mx_72 (L := [some (.ref (32)), some (.int (v)), none]) (Nat.le_of_ble_eq_true rfl) rfl ?_
  by_cases hv : v.toInt < 1 ∨ 40 < v.toInt
  · skip
    refine g_iload_n m72_0 rfl ?_
    refine g_iconst m72_1 ?_
    refine h_ic_lt (xi := v.toInt) (zi := 1) m72_2 rfl rfl (fun c1 => ?_) (fun c1 => ?_)
    · skip
      refine g_aload_n m72_11 rfl ?_
      refine g_iconst m72_12 ?_
      refine h_cv (k := 0) (p := 32) (args := [.int (1)]) (rest := []) m72_13 cn_55 (Nat.le_of_ble_eq_true rfl) rfl rfl rfl (t_0 _ _) (Nat.le_of_ble_eq_true rfl) ?_
      refine c_error (e := 1) (by decide) (by decide) ?_
      refine gwr ?_
      refine g_iret m72_16 rt_72 ?_
      exact hE1 (by omega)
    · skip
      refine g_iload_n m72_5 rfl ?_
      refine g_bipush m72_6 ?_
      refine h_ic_le (xi := v.toInt) (zi := 40) m72_8 rfl rfl (fun c2 => ?_) (fun c2 => ?_)
      · skip
        exfalso
        omega
      · skip
        refine g_aload_n m72_11 rfl ?_
        refine g_iconst m72_12 ?_
        refine h_cv (k := 0) (p := 32) (args := [.int (1)]) (rest := []) m72_13 cn_55 (Nat.le_of_ble_eq_true rfl) rfl rfl rfl (t_0 _ _) (Nat.le_of_ble_eq_true rfl) ?_
        refine c_error (e := 1) (by decide) (by decide) ?_
        refine gwr ?_
        refine g_iret m72_16 rt_72 ?_
        exact hE1 (by omega)
  · skip
    obtain ⟨k, ⟨hk1, hk2⟩, hk3⟩ := nat_of (x := v) (lo := 1) (hi := 40) (by omega) (by omega)
    obtain rfl : v = nI k := hk3
    have ek : (nI k).toInt = (k : Int) := nI_toInt (by omega)
    refine g_iload_n m72_0 rfl ?_
    refine g_iconst m72_1 ?_
    refine h_ic_ltF (xi := ((k : Nat) : Int)) (zi := 1) m72_2 (nI_toInt (by omega)) rfl (by omega) ?_
    refine g_iload_n m72_5 rfl ?_
    refine g_bipush m72_6 ?_
    refine h_ic_leT (xi := ((k : Nat) : Int)) (zi := 40) m72_8 (nI_toInt (by omega)) rfl (by omega) ?_
    refine g_aload_n m72_17 rfl ?_
    refine h_gfR (c := 33) (k := 0) (p := 32) m72_18 rfl (t_0 _ _) rfl (Nat.le_of_ble_eq_true rfl) ?_
    refine h_gfI (k := 1) (p := 33) m72_21 rfl (t_1 _ _) rfl (hst) ?_
    refine g_sipush m72_24 ?_
    refine g_iload_n m72_27 rfl ?_
    refine g_isub (u := nI (9999 - k)) m72_28 (pk_sub (a := 9999) (b := k) (by omega)) ?_
    refine h_ic_le (xi := ((st : Nat) : Int)) (zi := ((9999 - k : Nat) : Int)) m72_29 (nI_toInt (by omega)) (nI_toInt (by omega)) (fun c3 => ?_) (fun c3 => ?_)
    · skip
      refine g_iconst m72_38 ?_
      refine g_istore_n (L2 := [some (.ref (32)), some (.int (nI (k))), some (.int (0))]) m72_39 rfl rfl ?_
      have key : ∀ (r : Nat) (q : Nat) (m2 X2 : MW), q + r = k → Eq8 (looX (lkF m ln (m 1 11)) (blF m ln (m 1 12)) n (vw m 0) (m 37 0) q) X2 → AtX (upm m 37 0 (zN (m 37 0) q)) 0 X2 m2 → gw xs (WP xs (d + 6)) 72 Q 40 [some (.ref (32)), some (.int (nI (k))), some (.int (nI (q)))] [] (H m2 ln N) 0 0 := by
        intro r
        induction r with
        | zero =>
          intro q m2 X2 hq h8 hA
          obtain rfl : q = k := by omega
          refine g_iload_n m72_40 rfl ?_
          refine g_iload_n m72_41 rfl ?_
          refine h_ic_geT (xi := ((q : Nat) : Int)) (zi := ((q : Nat) : Int)) m72_42 (nI_toInt (by omega)) (nI_toInt (by omega)) (by omega) ?_
          refine g_aload_n m72_63 rfl ?_
          refine h_gfR (c := 33) (k := 0) (p := 32) m72_64 rfl (t_0 _ _) rfl (Nat.le_of_ble_eq_true rfl) ?_
          refine h_cv (k := 1) (p := 33) (args := []) (rest := []) m72_67 cn_45 (Nat.le_of_ble_eq_true rfl) rfl rfl rfl (t_1 _ _) (Nat.le_of_ble_eq_true rfl) ?_
          refine c_hungerOfAll (t := 0) (by decide) hA hn ((h8 0 (by decide) 10).trans ((looX_0 (by decide) q).trans hd)) ?_
          refine gwr ?_
          refine g_iret m72_70 rt_72 ?_
          exact hY q rfl (by omega) (by omega) (by omega) X2 m2 h8 hA
        | succ r ih =>
          intro q m2 X2 hq h8 hA
          refine g_iload_n m72_40 rfl ?_
          refine g_iload_n m72_41 rfl ?_
          refine h_ic_geF (xi := ((q : Nat) : Int)) (zi := ((k : Nat) : Int)) m72_42 (nI_toInt (by omega)) (nI_toInt (by omega)) (by omega) ?_
          refine g_aload_n m72_45 rfl ?_
          refine h_cv (k := 0) (p := 32) (args := []) (rest := []) m72_46 cn_71 (Nat.le_of_ble_eq_true rfl) rfl rfl rfl (t_0 _ _) (Nat.le_of_ble_eq_true rfl) ?_
          refine c_drawSham hA hn ((h8 0 (by decide) 10).trans ((looX_0 (by decide) q).trans hd)) (fun m3 hA3 => ?_)
          rw [upm_self, upm_2, show zF (zN (m 37 0) q) = zN (m 37 0) (q + 1) from rfl] at hA3
          refine gwr0 ?_
          refine g_aload_n m72_49 rfl ?_
          refine h_gfR (c := 33) (k := 0) (p := 32) m72_50 rfl (t_0 _ _) rfl (Nat.le_of_ble_eq_true rfl) ?_
          refine h_cv (k := 1) (p := 33) (args := []) (rest := []) m72_53 cn_40 (Nat.le_of_ble_eq_true rfl) rfl rfl rfl (t_1 _ _) (Nat.le_of_ble_eq_true rfl) ?_
          refine c_serveStep (x := m 1 11) (y := m 1 12) (t := 0) (by decide) (laws_up hL (by decide)) hA3 (drX_0.trans ((h8 0 (by decide) 11).trans (looX_0 (by decide) q))) hix (drX_0.trans ((h8 0 (by decide) 12).trans (looX_0 (by decide) q))) hiy (drX_W (WF_c h8 (looX_W hW q)) _ _) (fun X4 m4 e8 hA4 => ?_)
          rw [lk_up (by decide), bl_up (by decide)] at e8
          have h84 : Eq8 (looX (lkF m ln (m 1 11)) (blF m ln (m 1 12)) n (vw m 0) (m 37 0) (q + 1)) X4 := (stepF_8 (drX_8 h8 n _)).tr e8
          refine gwr ?_
          refine g_pop m72_56 rfl ?_
          refine g_iinc (L2 := [some (.ref (32)), some (.int (nI (k))), some (.int (nI (q + 1)))]) m72_57 rfl (nI_1 _) rfl rfl ?_
          refine g_goto m72_60 ?_
          exact ih (q + 1) _ _ (by omega) h84 hA4
      exact key k 0 m _ (by omega) Eq8.rf (by rw [show zN (m 37 0) 0 = m 37 0 from rfl, upm_id]; exact AtX.self m 0)
    · skip
      refine g_aload_n m72_32 rfl ?_
      refine g_iconst m72_33 ?_
      refine h_cv (k := 0) (p := 32) (args := [.int (3)]) (rest := []) m72_34 cn_55 (Nat.le_of_ble_eq_true rfl) rfl rfl rfl (t_0 _ _) (Nat.le_of_ble_eq_true rfl) ?_
      refine c_error (e := 3) (by decide) (by decide) ?_
      refine gwr ?_
      refine g_iret m72_37 rt_72 ?_
      exact hE3 ⟨k, rfl, by omega, by omega⟩
set_option maxRecDepth 20000 in
set_option maxHeartbeats 40000000 in
theorem m_loose {v : Int32} {n st : Nat} (hd : m 58 2 = nI n) (hn : n ≤ 8) (hst : m 58 0 = nI st) (hst9 : st ≤ 9999) (hX0 : TxOk (m 58) 0) (hX1 : TxOk (m 58) 1) (hWY : WF (vr (m 58))) (hE1 : (v.toInt < 1 ∨ 40 < v.toInt) → Q (some (.int (-1000000001))) (H (ers m 1) ln N)) (hE3 : (∃ k : Nat, v = nI k ∧ k ≤ 40 ∧ 9999 < st + k) → Q (some (.int (-1000000003))) (H (ers m 3) ln N)) (hY : ∀ k : Nat, v = nI k → 1 ≤ k → k ≤ 40 → st + k ≤ 9999 → ∀ m2, AtY (upm m 58 1 (zN (m 58 1) k)) (looX (rkF (m 58)) (rbF (m 58)) n (vr (m 58)) (m 58 1) k) m2 → Q (some (.int (sumF (looX (rkF (m 58)) (rbF (m 58)) n (vr (m 58)) (m 58 1) k 4) n))) (H m2 ln N)) : WP xs (d + 817) 150 0 0 [.ref (89), .int (v)] (H m ln N) Q := by
  refine wp_x mx_150 (L := [some (.ref (89)), some (.int (v)), none, none]) (Nat.le_of_ble_eq_true rfl) rfl ?_
  refine g_iload_n m150_0 rfl ?_
  refine g_iconst m150_1 ?_
  refine g_bipush m150_2 ?_
  refine g_cs (args := [.int (v), .int (1), .int (40)]) (rest := []) 0 (Or.inl rfl) m150_4 (Nat.le_of_ble_eq_true rfl) rfl rfl (Nat.le_of_ble_eq_true rfl) ?_
  refine c_in (A := 1) (B := 40) rfl rfl (by decide) (fun jv ev a_1 a_1' => ?_) (fun a_1 => ?_)
  · subst ev
    refine gwr ?_
    refine h_if_neF (xi := 1) (zi := 0) m150_7 rfl rfl (by decide) ?_
    refine g_aload_n m150_17 rfl ?_
    refine h_gfR (c := 90) (k := 57) (p := 89) m150_18 rfl (t_57 _ _) rfl (Nat.le_of_ble_eq_true rfl) ?_
    refine g_iconst m150_21 ?_
    refine h_ial (k := 58) (p := 90) (j := 0) m150_22 rfl (t_58 _ _) (rfl) (by omega) (Nat.le_of_ble_eq_true rfl) (hst) ?_
    refine g_iload_n m150_23 rfl ?_
    refine g_iadd (u := nI (st + jv)) m150_24 (nI_add st jv) ?_
    refine g_sipush m150_25 ?_
    refine h_ic_le (xi := ((st + jv : Nat) : Int)) (zi := 9999) m150_28 (nI_toInt (by omega)) rfl (fun c1 => ?_) (fun c1 => ?_)
    · skip
      refine g_iconst m150_38 ?_
      refine g_istore_n (L2 := [some (.ref (89)), some (.int (nI (jv))), some (.int (0)), none]) m150_39 rfl rfl ?_
      have key : ∀ (r : Nat) (q : Nat) (o3 : Option Value) (m2 : MW), q + r = jv → AtY (upm m 58 1 (zN (m 58 1) q)) (looX (rkF (m 58)) (rbF (m 58)) n (vr (m 58)) (m 58 1) q) m2 → gw xs (WP xs (d + 816)) 150 Q 40 [some (.ref (89)), some (.int (nI (jv))), some (.int (nI (q))), o3] [] (H m2 ln N) 0 0 := by
        intro r
        induction r with
        | zero =>
          intro q o3 m2 hq hA
          obtain rfl : q = jv := by omega
          refine g_iload_n m150_40 rfl ?_
          refine g_iload_n m150_41 rfl ?_
          refine h_ic_geT (xi := ((q : Nat) : Int)) (zi := ((q : Nat) : Int)) m150_42 (nI_toInt (by omega)) (nI_toInt (by omega)) (by omega) ?_
          refine g_aload_n m150_89 rfl ?_
          refine g_iconst m150_90 ?_
          refine h_cv (k := 57) (p := 89) (args := [.int (2)]) (rest := []) m150_91 cn_147 (Nat.le_of_ble_eq_true rfl) rfl rfl rfl (t_57 _ _) (Nat.le_of_ble_eq_true rfl) ?_
          refine c_sumOf (w := 2) hA (by decide) hn ((looX_0 (by decide) q).trans hd) ?_
          refine gwr ?_
          refine g_iret m150_94 rt_150 ?_
          exact hY q rfl (by omega) (by omega) (by omega) m2 hA
        | succ r ih =>
          intro q o3 m2 hq hA
          refine g_iload_n m150_40 rfl ?_
          refine g_iload_n m150_41 rfl ?_
          refine h_ic_geF (xi := ((q : Nat) : Int)) (zi := ((jv : Nat) : Int)) m150_42 (nI_toInt (by omega)) (nI_toInt (by omega)) (by omega) ?_
          refine g_aload_n m150_45 rfl ?_
          refine h_cv (k := 57) (p := 89) (args := []) (rest := []) m150_46 cn_149 (Nat.le_of_ble_eq_true rfl) rfl rfl rfl (t_57 _ _) (Nat.le_of_ble_eq_true rfl) ?_
          have ez : m2 58 1 = zN (m 58 1) q := (hA.rw (by omega)).trans (upm_self _ _ _ _)
          refine c_drawn ?_
          rw [ez, show zF (zN (m 58 1) q) = zN (m 58 1) (q + 1) from rfl]
          have hA3 := hA.up1 (zN (m 58 1) (q + 1))
          rw [upm_2] at hA3
          have hD := dN_lt (zN (m 58 1) (q + 1))
          have hd3 : upm m2 58 1 (zN (m 58 1) (q + 1)) 58 2 = nI n := hA3.r2.trans ((looX_0 (by decide) q).trans hd)
          refine gwr ?_
          refine g_istore_n (L2 := [some (.ref (89)), some (.int (nI (jv))), some (.int (nI (q))), some (.int (nI ((dN (zN (m 58 1) (q + 1))))))]) m150_49 rfl rfl ?_
          refine g_aload_n m150_50 rfl ?_
          refine h_gfR (c := 90) (k := 57) (p := 89) m150_51 rfl (t_57 _ _) rfl (Nat.le_of_ble_eq_true rfl) ?_
          refine g_iconst m150_54 ?_
          refine h_ial (k := 58) (p := 90) (j := 2) m150_55 rfl (t_58 _ _) (rfl) (by omega) (Nat.le_of_ble_eq_true rfl) (hd3) ?_
          refine h_if_le (xi := ((n : Nat) : Int)) (zi := 0) m150_56 (nI_toInt (by omega)) rfl (fun c2 => ?_) (fun c2 => ?_)
          · skip
            refine g_aload_n m150_79 rfl ?_
            refine h_cv (k := 57) (p := 89) (args := []) (rest := []) m150_80 cn_145 (Nat.le_of_ble_eq_true rfl) rfl rfl rfl (t_57 _ _) (Nat.le_of_ble_eq_true rfl) ?_
            have ed : drX (looX (rkF (m 58)) (rbF (m 58)) n (vr (m 58)) (m 58 1) q) n (dN (zN (m 58 1) (q + 1))) = looX (rkF (m 58)) (rbF (m 58)) n (vr (m 58)) (m 58 1) q := if_pos (by omega)
            have hA5 := hA3
            rw [← ed] at hA5
            refine c_oneStep hA5 hX0.up1 hX1.up1 (drX_W (looX_W hWY q) _ _) (fun m6 hA6 => ?_)
            rw [rk_1, rb_1] at hA6
            refine gwr0 ?_
            refine g_iinc (L2 := [some (.ref (89)), some (.int (nI (jv))), some (.int (nI (q + 1))), some (.int (nI ((dN (zN (m 58 1) (q + 1))))))]) m150_83 rfl (nI_1 _) rfl rfl ?_
            refine g_goto m150_86 ?_
            exact ih (q + 1) _ _ (by omega) hA6
          · skip
            refine g_aload_n m150_59 rfl ?_
            refine g_iload_n m150_60 rfl ?_
            refine g_aload_n m150_61 rfl ?_
            refine h_gfR (c := 90) (k := 57) (p := 89) m150_62 rfl (t_57 _ _) rfl (Nat.le_of_ble_eq_true rfl) ?_
            refine g_iconst m150_65 ?_
            refine h_ial (k := 58) (p := 90) (j := 2) m150_66 rfl (t_58 _ _) (rfl) (by omega) (Nat.le_of_ble_eq_true rfl) (hd3) ?_
            have hn0 : 0 < n := by omega
            have hlt : (dN (zN (m 58 1) (q + 1))) % n < n := Nat.mod_lt _ hn0
            refine g_irem (u := nI ((dN (zN (m 58 1) (q + 1))) % n)) m150_67 (nI_ne0 hn0 (by omega)) (pk_rem (a := (dN (zN (m 58 1) (q + 1)))) (d := n) (by omega) hn0 (by omega)) ?_
            refine g_iconst m150_68 ?_
            refine g_iload_n m150_69 rfl ?_
            refine g_bipush m150_70 ?_
            refine g_idiv (u := nI (((dN (zN (m 58 1) (q + 1)))) / 8)) m150_72 (by decide) (pk_div (a := ((dN (zN (m 58 1) (q + 1))))) (d := 8) (by omega) (by decide) (by decide)) ?_
            refine g_bipush m150_73 ?_
            refine g_irem (u := nI ((((dN (zN (m 58 1) (q + 1)))) / 8) % 10)) m150_75 (by decide) (pk_rem (a := (((dN (zN (m 58 1) (q + 1)))) / 8)) (d := 10) (by omega) (by decide) (by decide)) ?_
            refine h_cv (k := 57) (p := 89) (args := [.int (nI ((dN (zN (m 58 1) (q + 1))) % n)), .int (3), .int (nI ((((dN (zN (m 58 1) (q + 1)))) / 8) % 10))]) (rest := []) m150_76 cn_112 (Nat.le_of_ble_eq_true rfl) rfl rfl rfl (t_57 _ _) (Nat.le_of_ble_eq_true rfl) ?_
            refine c_gets (w := 3) (by omega) (by decide) ?_
            have hA4 := hA3.up (i := (dN (zN (m 58 1) (q + 1))) % n) (c := 3) (by omega) (by decide) (nI ((dN (zN (m 58 1) (q + 1))) / 8 % 10))
            have ed : drX (looX (rkF (m 58)) (rbF (m 58)) n (vr (m 58)) (m 58 1) q) n (dN (zN (m 58 1) (q + 1))) = upm (looX (rkF (m 58)) (rbF (m 58)) n (vr (m 58)) (m 58 1) q) 5 ((dN (zN (m 58 1) (q + 1))) % n) (nI ((dN (zN (m 58 1) (q + 1))) / 8 % 10)) := if_neg (by omega)
            have hA5 := hA4
            rw [← ed] at hA5
            refine gwr0 ?_
            refine g_aload_n m150_79 rfl ?_
            refine h_cv (k := 57) (p := 89) (args := []) (rest := []) m150_80 cn_145 (Nat.le_of_ble_eq_true rfl) rfl rfl rfl (t_57 _ _) (Nat.le_of_ble_eq_true rfl) ?_
            refine c_oneStep hA5 hX0.up1 hX1.up1 (drX_W (looX_W hWY q) _ _) (fun m6 hA6 => ?_)
            rw [rk_1, rb_1] at hA6
            refine gwr0 ?_
            refine g_iinc (L2 := [some (.ref (89)), some (.int (nI (jv))), some (.int (nI (q + 1))), some (.int (nI ((dN (zN (m 58 1) (q + 1))))))]) m150_83 rfl (nI_1 _) rfl rfl ?_
            refine g_goto m150_86 ?_
            exact ih (q + 1) _ _ (by omega) hA6
      exact key jv 0 _ m (by omega) (by rw [show zN (m 58 1) 0 = m 58 1 from rfl, upm_id]; exact AtY.self m)
    · skip
      refine g_aload_n m150_31 rfl ?_
      refine g_ldci m150_32 rfl ?_
      refine h_cv (k := 57) (p := 89) (args := [.int (-1000000003)]) (rest := []) m150_34 cn_108 (Nat.le_of_ble_eq_true rfl) rfl rfl rfl (t_57 _ _) (Nat.le_of_ble_eq_true rfl) ?_
      refine c_errs (e := 3) (by decide) (by decide) (by decide) ?_
      refine gwr ?_
      refine g_iret m150_37 rt_150 ?_
      exact hE3 ⟨jv, rfl, by omega, by omega⟩
  · skip
    refine gwr ?_
    refine h_if_neT (xi := 0) (zi := 0) m150_7 rfl rfl (by decide) ?_
    refine g_aload_n m150_10 rfl ?_
    refine g_ldci m150_11 rfl ?_
    refine h_cv (k := 57) (p := 89) (args := [.int (-1000000001)]) (rest := []) m150_13 cn_108 (Nat.le_of_ble_eq_true rfl) rfl rfl rfl (t_57 _ _) (Nat.le_of_ble_eq_true rfl) ?_
    refine c_errs (e := 1) (by decide) (by decide) (by decide) ?_
    refine gwr ?_
    refine g_iret m150_16 rt_150 ?_
    exact hE1 (by omega)
end
end
section
/-! SHEETS -/
theorem zr_M (m : MW) (s : Nat) (b l : Int32) : zrQ (upm (upm m (48 + 2 * s) 0 b) (48 + 2 * s) 1 l) (49 + 2 * s) 0 40 = zrM m s b l := by
  funext k j
  exact if_c ⟨fun z => ⟨z.1, by omega⟩, fun z => ⟨z.1, by omega⟩⟩
theorem min_n {a b : Nat} (ha : a < 2147483648) (hb : b < 2147483648) : (if nI b < nI a then nI b else nI a) = nI (min a b) := by
  have e := lt_k (nI_toInt (n := b) (by omega)) (nI_toInt (n := a) (by omega))
  by_cases h : b < a
  · rw [if_pos (e.mpr (by omega)), Nat.min_eq_right (by omega)]
  · rw [if_neg (fun z => h (by have := e.mp z; omega)), Nat.min_eq_left (by omega)]
def runF (p : Nat → Bool) : Nat → Nat → Nat
  | 0, s => s
  | r + 1, s => if p s = true then runF p r (s + 1) else s
theorem run_y {p : Nat → Bool} {r s : Nat} (h : p s = true) : runF p (r + 1) s = runF p r (s + 1) := if_pos h
theorem run_n {p : Nat → Bool} {r s : Nat} (h : ¬ p s = true) : runF p (r + 1) s = s := if_neg h
theorem runF_le (p : Nat → Bool) : ∀ r s, runF p r s ≤ s + r
  | 0, s => Nat.le_refl _
  | r + 1, s => by
    show (if p s = true then runF p r (s + 1) else s) ≤ s + (r + 1)
    have := runF_le p r (s + 1)
    split <;> omega
theorem runF_c {p q : Nat → Bool} : ∀ r s, (∀ i, s ≤ i → i < s + r → q i = p i) → runF q r s = runF p r s
  | 0, _, _ => rfl
  | r + 1, s, h => by
    show (if q s = true then runF q r (s + 1) else s) = (if p s = true then runF p r (s + 1) else s)
    rw [h s (Nat.le_refl _) (by omega), runF_c r (s + 1) (fun i a b => h i (by omega) (by omega))]
def shM (m : MW) (c : Nat) : Nat → MW
  | 0 => m
  | q + 1 => upm (shM m c q) 6 q (m c q)
theorem shM_o (m : MW) (c : Nat) {k : Nat} (h : k ≠ 6) : ∀ q, shM m c q k = m k
  | 0 => rfl
  | q + 1 => (row_up _ _ h).trans (shM_o m c h q)
def sgM (m : MW) (c : Nat) : Nat → MW
  | 0 => m
  | q + 1 => upm (sgM m c q) 58 (16 + 6 * q + 3) (m 65 (c + q))
theorem sgM_o (m : MW) (c : Nat) {k : Nat} (h : k ≠ 58) : ∀ q, sgM m c q k = m k
  | 0 => rfl
  | q + 1 => (row_up _ _ h).trans (sgM_o m c h q)
theorem sgM_j (m : MW) (c : Nat) {j : Nat} (h : j < 16) : ∀ q, sgM m c q 58 j = m 58 j
  | 0 => rfl
  | q + 1 => (upm_j _ _ (by omega)).trans (sgM_j m c h q)
section
variable {xs : List Int32} {d : Nat} {h : AH} {Q : QT} {m : MW} {ln : Nat → Nat} {N : Nat}
set_option maxRecDepth 20000 in
set_option maxHeartbeats 40000000 in
theorem c_fill {s : Nat} (hs : s < 4) (hQ : Q none (H (zrQ m (49 + 2 * s) 0 40) ln N)) : WP xs (d + 1) 9 0 0 [.ref (81 + 2 * s), .int ((0 : Int32))] (H m ln N) Q := by
  refine wp_x mx_9 (L := [some (.ref (81 + 2 * s)), some (.int ((0 : Int32))), none, none]) (Nat.le_of_ble_eq_true rfl) rfl ?_
  refine g_iconst m9_0 ?_
  refine g_istore_n (L2 := [some (.ref (81 + 2 * s)), some (.int ((0 : Int32))), some (.int (0)), none]) m9_1 rfl rfl ?_
  refine g_aload_n m9_2 rfl ?_
  refine h_alen (k := 49 + 2 * s) (p := 81 + 2 * s) m9_3 (pSn _) (tSn hs) (Or.inl rfl) ?_
  refine g_istore_n (L2 := [some (.ref (81 + 2 * s)), some (.int ((0 : Int32))), some (.int (0)), some (.int (nI (40)))]) m9_4 rfl rfl ?_
  have key : ∀ (r : Nat) (q : Nat), q + r = 40 → gw xs (WP xs (d)) 9 Q 5 [some (.ref (81 + 2 * s)), some (.int ((0 : Int32))), some (.int (nI (q))), some (.int (nI (40)))] [] (H (zrQ m (49 + 2 * s) 0 q) ln N) 0 0 := by
    intro r
    induction r with
    | zero =>
      intro q hq
      obtain rfl : q = 40 := by omega
      refine g_iload_n m9_5 rfl ?_
      refine g_iload_n m9_6 rfl ?_
      refine h_ic_geT (xi := ((40 : Nat) : Int)) (zi := ((40 : Nat) : Int)) m9_7 (nI_toInt (by omega)) (nI_toInt (by omega)) (by omega) ?_
      refine g_vret m9_20 ?_
      exact hQ
    | succ r ih =>
      intro q hq
      refine g_iload_n m9_5 rfl ?_
      refine g_iload_n m9_6 rfl ?_
      refine h_ic_geF (xi := ((q : Nat) : Int)) (zi := ((40 : Nat) : Int)) m9_7 (nI_toInt (by omega)) (nI_toInt (by omega)) (by omega) ?_
      refine g_aload_n m9_10 rfl ?_
      refine g_iload_n m9_11 rfl ?_
      refine g_iload_n m9_12 rfl ?_
      refine h_ias (k := 49 + 2 * s) (p := 81 + 2 * s) (j := q) m9_13 (pSn _) (tSn hs) (rfl) (by omega) (Nat.le_of_ble_eq_true rfl) ?_
      refine g_iinc (L2 := [some (.ref (81 + 2 * s)), some (.int ((0 : Int32))), some (.int (nI (q + 1))), some (.int (nI (40)))]) m9_14 rfl (nI_1 _) rfl rfl ?_
      refine g_goto m9_17 ?_
      have h9 := ih (q + 1) (by omega)
      rw [← zrQ_s, Nat.zero_add] at h9
      exact h9
  have h9 := key 40 0 (by omega)
  rw [zrQ_0] at h9
  exact h9
set_option maxRecDepth 20000 in
set_option maxHeartbeats 40000000 in
theorem c_lay {s : Nat} {b l : Int32} (hs : s < 4) (hQ : Q none (H (zrM m s b l) ln N)) : WP xs (d + 2) 27 0 0 [.ref (80 + 2 * s), .int (b), .int (l)] (H m ln N) Q := by
  refine wp_x mx_27 (L := [some (.ref (80 + 2 * s)), some (.int (b)), some (.int (l))]) (Nat.le_of_ble_eq_true rfl) rfl ?_
  refine g_aload_n m27_0 rfl ?_
  refine g_iload_n m27_1 rfl ?_
  refine h_pfI (k := 48 + 2 * s) (p := 80 + 2 * s) m27_2 (pSo _) (tSo hs) rfl trivial ?_
  refine g_aload_n m27_5 rfl ?_
  refine g_iload_n m27_6 rfl ?_
  refine h_pfI (k := 48 + 2 * s) (p := 80 + 2 * s) m27_7 (pSo _) (tSo hs) rfl trivial ?_
  refine g_aload_n m27_10 rfl ?_
  refine h_gfR (c := 81 + 2 * s) (k := 48 + 2 * s) (p := 80 + 2 * s) m27_11 (pSo _) (tSo hs) rfl (le3 (Nat.le_of_ble_eq_true rfl)) ?_
  refine g_iconst m27_14 ?_
  refine g_cs (args := [.ref (81 + 2 * s), .int (0)]) (rest := []) 0 (Or.inl rfl) m27_15 (Nat.le_of_ble_eq_true rfl) rfl rfl (Nat.le_of_ble_eq_true rfl) ?_
  refine c_fill hs ?_
  rw [zr_M]
  refine gwr0 ?_
  refine g_vret m27_18 ?_
  exact hQ
set_option maxRecDepth 20000 in
set_option maxHeartbeats 40000000 in
theorem x_sheet {a b v : Int32} (hE1 : (a.toInt < 0 ∨ 3 < a.toInt ∨ ¬ (b.toInt = 0 ∨ b.toInt = 8 ∨ b.toInt = 16 ∨ b.toInt = 32) ∨ (b.toInt ≠ 0 ∧ 40 < v.toInt)) → Q (some (.int (-1000000000 - nI 1))) (H (erm m 1) ln N)) (hE3 : (∃ s : Nat, a = nI s ∧ s < 4 ∧ (b.toInt = 0 ∨ b.toInt = 8 ∨ b.toInt = 16 ∨ b.toInt = 32) ∧ b.toInt ≠ 0 ∧ v.toInt < 0) → Q (some (.int (-1000000000 - nI 3))) (H (erm m 3) ln N)) (hY0 : ∀ s : Nat, a = nI s → s < 4 → b.toInt = 0 → Q (some (.int 1)) (H (zrM m s 0 0) ln N)) (hY1 : ∀ s : Nat, a = nI s → s < 4 → (b.toInt = 0 ∨ b.toInt = 8 ∨ b.toInt = 16 ∨ b.toInt = 32) → b.toInt ≠ 0 → 0 ≤ v.toInt → v.toInt ≤ 40 → Q (some (.int 1)) (H (zrM m s b v) ln N)) : WP xs (d + 3) 95 0 0 [.ref (32), .int (a), .int (b), .int (v)] (H m ln N) Q := by
  refine wp_x mx_95 (L := [some (.ref (32)), some (.int (a)), some (.int (b)), some (.int (v))]) (Nat.le_of_ble_eq_true rfl) rfl ?_
  refine g_iload_n m95_0 rfl ?_
  refine g_iconst m95_1 ?_
  refine g_cs (args := [.int (a), .int (3)]) (rest := []) 0 (Or.inl rfl) m95_2 (Nat.le_of_ble_eq_true rfl) rfl rfl (Nat.le_of_ble_eq_true rfl) ?_
  refine c_within (M := 3) rfl (fun ja ea a_1 => ?_) (fun a_1 => ?_)
  · subst ea
    refine gwr ?_
    refine h_if_eqF (xi := 1) (zi := 0) m95_5 rfl rfl (by decide) ?_
    refine g_iload_n m95_8 rfl ?_
    refine h_if_eq (xi := b.toInt) (zi := 0) m95_9 rfl rfl (fun c1 => ?_) (fun c1 => ?_)
    · skip
      refine g_iload_n m95_36 rfl ?_
      refine h_if_ne (xi := b.toInt) (zi := 0) m95_37 rfl rfl (fun c2 => ?_) (fun c2 => ?_)
      · skip
        refine g_aload_n m95_40 rfl ?_
        refine h_gfR (c := 79) (k := 0) (p := 32) m95_41 rfl (t_0 _ _) rfl (Nat.le_of_ble_eq_true rfl) ?_
        refine g_iload_n m95_44 rfl ?_
        have hs : ja < 4 := by omega
        refine h_aald (j := ja) (c := 80 + 2 * ja) m95_45 rfl (t_47 _ _) (rfl) (sh_at hs) (le3 (Nat.le_of_ble_eq_true rfl)) (Nat.le_of_ble_eq_true rfl) ?_
        refine g_iconst m95_46 ?_
        refine g_iconst m95_47 ?_
        refine h_cv (k := 48 + 2 * ja) (p := 80 + 2 * ja) (args := [.int (0), .int (0)]) (rest := []) m95_48 cn_27 (Nat.le_of_ble_eq_true rfl) rfl rfl (pSo _) (tSo hs) (Nat.le_of_ble_eq_true rfl) ?_
        refine c_lay hs ?_
        refine gwr0 ?_
        refine g_iconst m95_51 ?_
        refine g_iret m95_52 rt_95 ?_
        first | (exfalso; omega) | (exact hY0 ja rfl (by omega) (by omega))
      · skip
        refine g_iload_n m95_53 rfl ?_
        refine h_if_ge (xi := v.toInt) (zi := 0) m95_54 rfl rfl (fun c3 => ?_) (fun c3 => ?_)
        · skip
          refine g_iload_n m95_63 rfl ?_
          refine g_bipush m95_64 ?_
          refine h_ic_le (xi := v.toInt) (zi := 40) m95_66 rfl rfl (fun c4 => ?_) (fun c4 => ?_)
          · skip
            refine g_aload_n m95_75 rfl ?_
            refine h_gfR (c := 79) (k := 0) (p := 32) m95_76 rfl (t_0 _ _) rfl (Nat.le_of_ble_eq_true rfl) ?_
            refine g_iload_n m95_79 rfl ?_
            have hs : ja < 4 := by omega
            refine h_aald (j := ja) (c := 80 + 2 * ja) m95_80 rfl (t_47 _ _) (rfl) (sh_at hs) (le3 (Nat.le_of_ble_eq_true rfl)) (Nat.le_of_ble_eq_true rfl) ?_
            refine g_iload_n m95_81 rfl ?_
            refine g_iload_n m95_82 rfl ?_
            refine h_cv (k := 48 + 2 * ja) (p := 80 + 2 * ja) (args := [.int (b), .int (v)]) (rest := []) m95_83 cn_27 (Nat.le_of_ble_eq_true rfl) rfl rfl (pSo _) (tSo hs) (Nat.le_of_ble_eq_true rfl) ?_
            refine c_lay hs ?_
            refine gwr0 ?_
            refine g_iconst m95_86 ?_
            refine g_iret m95_87 rt_95 ?_
            first | (exfalso; omega) | (exact hY1 ja rfl (by omega) (by omega) (by omega) (by omega) (by omega))
          · skip
            refine g_aload_n m95_69 rfl ?_
            refine g_iconst m95_70 ?_
            refine h_cv (k := 0) (p := 32) (args := [.int (1)]) (rest := []) m95_71 cn_55 (Nat.le_of_ble_eq_true rfl) rfl rfl rfl (t_0 _ _) (Nat.le_of_ble_eq_true rfl) ?_
            refine c_error (e := 1) (by decide) (by decide) ?_
            refine gwr ?_
            refine g_iret m95_74 rt_95 ?_
            first | (exfalso; omega) | (exact hE1 (by omega))
        · skip
          refine g_aload_n m95_57 rfl ?_
          refine g_iconst m95_58 ?_
          refine h_cv (k := 0) (p := 32) (args := [.int (3)]) (rest := []) m95_59 cn_55 (Nat.le_of_ble_eq_true rfl) rfl rfl rfl (t_0 _ _) (Nat.le_of_ble_eq_true rfl) ?_
          refine c_error (e := 3) (by decide) (by decide) ?_
          refine gwr ?_
          refine g_iret m95_62 rt_95 ?_
          first | (exfalso; omega) | (exact hE3 ⟨ja, rfl, by omega, by omega, by omega, by omega⟩)
    · skip
      refine g_iload_n m95_12 rfl ?_
      refine g_bipush m95_13 ?_
      refine h_ic_eq (xi := b.toInt) (zi := 8) m95_15 rfl rfl (fun c5 => ?_) (fun c5 => ?_)
      · skip
        refine g_iload_n m95_36 rfl ?_
        refine h_if_ne (xi := b.toInt) (zi := 0) m95_37 rfl rfl (fun c6 => ?_) (fun c6 => ?_)
        · skip
          refine g_aload_n m95_40 rfl ?_
          refine h_gfR (c := 79) (k := 0) (p := 32) m95_41 rfl (t_0 _ _) rfl (Nat.le_of_ble_eq_true rfl) ?_
          refine g_iload_n m95_44 rfl ?_
          have hs : ja < 4 := by omega
          refine h_aald (j := ja) (c := 80 + 2 * ja) m95_45 rfl (t_47 _ _) (rfl) (sh_at hs) (le3 (Nat.le_of_ble_eq_true rfl)) (Nat.le_of_ble_eq_true rfl) ?_
          refine g_iconst m95_46 ?_
          refine g_iconst m95_47 ?_
          refine h_cv (k := 48 + 2 * ja) (p := 80 + 2 * ja) (args := [.int (0), .int (0)]) (rest := []) m95_48 cn_27 (Nat.le_of_ble_eq_true rfl) rfl rfl (pSo _) (tSo hs) (Nat.le_of_ble_eq_true rfl) ?_
          refine c_lay hs ?_
          refine gwr0 ?_
          refine g_iconst m95_51 ?_
          refine g_iret m95_52 rt_95 ?_
          first | (exfalso; omega) | (exact hY0 ja rfl (by omega) (by omega))
        · skip
          refine g_iload_n m95_53 rfl ?_
          refine h_if_ge (xi := v.toInt) (zi := 0) m95_54 rfl rfl (fun c7 => ?_) (fun c7 => ?_)
          · skip
            refine g_iload_n m95_63 rfl ?_
            refine g_bipush m95_64 ?_
            refine h_ic_le (xi := v.toInt) (zi := 40) m95_66 rfl rfl (fun c8 => ?_) (fun c8 => ?_)
            · skip
              refine g_aload_n m95_75 rfl ?_
              refine h_gfR (c := 79) (k := 0) (p := 32) m95_76 rfl (t_0 _ _) rfl (Nat.le_of_ble_eq_true rfl) ?_
              refine g_iload_n m95_79 rfl ?_
              have hs : ja < 4 := by omega
              refine h_aald (j := ja) (c := 80 + 2 * ja) m95_80 rfl (t_47 _ _) (rfl) (sh_at hs) (le3 (Nat.le_of_ble_eq_true rfl)) (Nat.le_of_ble_eq_true rfl) ?_
              refine g_iload_n m95_81 rfl ?_
              refine g_iload_n m95_82 rfl ?_
              refine h_cv (k := 48 + 2 * ja) (p := 80 + 2 * ja) (args := [.int (b), .int (v)]) (rest := []) m95_83 cn_27 (Nat.le_of_ble_eq_true rfl) rfl rfl (pSo _) (tSo hs) (Nat.le_of_ble_eq_true rfl) ?_
              refine c_lay hs ?_
              refine gwr0 ?_
              refine g_iconst m95_86 ?_
              refine g_iret m95_87 rt_95 ?_
              first | (exfalso; omega) | (exact hY1 ja rfl (by omega) (by omega) (by omega) (by omega) (by omega))
            · skip
              refine g_aload_n m95_69 rfl ?_
              refine g_iconst m95_70 ?_
              refine h_cv (k := 0) (p := 32) (args := [.int (1)]) (rest := []) m95_71 cn_55 (Nat.le_of_ble_eq_true rfl) rfl rfl rfl (t_0 _ _) (Nat.le_of_ble_eq_true rfl) ?_
              refine c_error (e := 1) (by decide) (by decide) ?_
              refine gwr ?_
              refine g_iret m95_74 rt_95 ?_
              first | (exfalso; omega) | (exact hE1 (by omega))
          · skip
            refine g_aload_n m95_57 rfl ?_
            refine g_iconst m95_58 ?_
            refine h_cv (k := 0) (p := 32) (args := [.int (3)]) (rest := []) m95_59 cn_55 (Nat.le_of_ble_eq_true rfl) rfl rfl rfl (t_0 _ _) (Nat.le_of_ble_eq_true rfl) ?_
            refine c_error (e := 3) (by decide) (by decide) ?_
            refine gwr ?_
            refine g_iret m95_62 rt_95 ?_
            first | (exfalso; omega) | (exact hE3 ⟨ja, rfl, by omega, by omega, by omega, by omega⟩)
      · skip
        refine g_iload_n m95_18 rfl ?_
        refine g_bipush m95_19 ?_
        refine h_ic_eq (xi := b.toInt) (zi := 16) m95_21 rfl rfl (fun c9 => ?_) (fun c9 => ?_)
        · skip
          refine g_iload_n m95_36 rfl ?_
          refine h_if_ne (xi := b.toInt) (zi := 0) m95_37 rfl rfl (fun c10 => ?_) (fun c10 => ?_)
          · skip
            refine g_aload_n m95_40 rfl ?_
            refine h_gfR (c := 79) (k := 0) (p := 32) m95_41 rfl (t_0 _ _) rfl (Nat.le_of_ble_eq_true rfl) ?_
            refine g_iload_n m95_44 rfl ?_
            have hs : ja < 4 := by omega
            refine h_aald (j := ja) (c := 80 + 2 * ja) m95_45 rfl (t_47 _ _) (rfl) (sh_at hs) (le3 (Nat.le_of_ble_eq_true rfl)) (Nat.le_of_ble_eq_true rfl) ?_
            refine g_iconst m95_46 ?_
            refine g_iconst m95_47 ?_
            refine h_cv (k := 48 + 2 * ja) (p := 80 + 2 * ja) (args := [.int (0), .int (0)]) (rest := []) m95_48 cn_27 (Nat.le_of_ble_eq_true rfl) rfl rfl (pSo _) (tSo hs) (Nat.le_of_ble_eq_true rfl) ?_
            refine c_lay hs ?_
            refine gwr0 ?_
            refine g_iconst m95_51 ?_
            refine g_iret m95_52 rt_95 ?_
            first | (exfalso; omega) | (exact hY0 ja rfl (by omega) (by omega))
          · skip
            refine g_iload_n m95_53 rfl ?_
            refine h_if_ge (xi := v.toInt) (zi := 0) m95_54 rfl rfl (fun c11 => ?_) (fun c11 => ?_)
            · skip
              refine g_iload_n m95_63 rfl ?_
              refine g_bipush m95_64 ?_
              refine h_ic_le (xi := v.toInt) (zi := 40) m95_66 rfl rfl (fun c12 => ?_) (fun c12 => ?_)
              · skip
                refine g_aload_n m95_75 rfl ?_
                refine h_gfR (c := 79) (k := 0) (p := 32) m95_76 rfl (t_0 _ _) rfl (Nat.le_of_ble_eq_true rfl) ?_
                refine g_iload_n m95_79 rfl ?_
                have hs : ja < 4 := by omega
                refine h_aald (j := ja) (c := 80 + 2 * ja) m95_80 rfl (t_47 _ _) (rfl) (sh_at hs) (le3 (Nat.le_of_ble_eq_true rfl)) (Nat.le_of_ble_eq_true rfl) ?_
                refine g_iload_n m95_81 rfl ?_
                refine g_iload_n m95_82 rfl ?_
                refine h_cv (k := 48 + 2 * ja) (p := 80 + 2 * ja) (args := [.int (b), .int (v)]) (rest := []) m95_83 cn_27 (Nat.le_of_ble_eq_true rfl) rfl rfl (pSo _) (tSo hs) (Nat.le_of_ble_eq_true rfl) ?_
                refine c_lay hs ?_
                refine gwr0 ?_
                refine g_iconst m95_86 ?_
                refine g_iret m95_87 rt_95 ?_
                first | (exfalso; omega) | (exact hY1 ja rfl (by omega) (by omega) (by omega) (by omega) (by omega))
              · skip
                refine g_aload_n m95_69 rfl ?_
                refine g_iconst m95_70 ?_
                refine h_cv (k := 0) (p := 32) (args := [.int (1)]) (rest := []) m95_71 cn_55 (Nat.le_of_ble_eq_true rfl) rfl rfl rfl (t_0 _ _) (Nat.le_of_ble_eq_true rfl) ?_
                refine c_error (e := 1) (by decide) (by decide) ?_
                refine gwr ?_
                refine g_iret m95_74 rt_95 ?_
                first | (exfalso; omega) | (exact hE1 (by omega))
            · skip
              refine g_aload_n m95_57 rfl ?_
              refine g_iconst m95_58 ?_
              refine h_cv (k := 0) (p := 32) (args := [.int (3)]) (rest := []) m95_59 cn_55 (Nat.le_of_ble_eq_true rfl) rfl rfl rfl (t_0 _ _) (Nat.le_of_ble_eq_true rfl) ?_
              refine c_error (e := 3) (by decide) (by decide) ?_
              refine gwr ?_
              refine g_iret m95_62 rt_95 ?_
              first | (exfalso; omega) | (exact hE3 ⟨ja, rfl, by omega, by omega, by omega, by omega⟩)
        · skip
          refine g_iload_n m95_24 rfl ?_
          refine g_bipush m95_25 ?_
          refine h_ic_eq (xi := b.toInt) (zi := 32) m95_27 rfl rfl (fun c13 => ?_) (fun c13 => ?_)
          · skip
            refine g_iload_n m95_36 rfl ?_
            refine h_if_ne (xi := b.toInt) (zi := 0) m95_37 rfl rfl (fun c14 => ?_) (fun c14 => ?_)
            · skip
              refine g_aload_n m95_40 rfl ?_
              refine h_gfR (c := 79) (k := 0) (p := 32) m95_41 rfl (t_0 _ _) rfl (Nat.le_of_ble_eq_true rfl) ?_
              refine g_iload_n m95_44 rfl ?_
              have hs : ja < 4 := by omega
              refine h_aald (j := ja) (c := 80 + 2 * ja) m95_45 rfl (t_47 _ _) (rfl) (sh_at hs) (le3 (Nat.le_of_ble_eq_true rfl)) (Nat.le_of_ble_eq_true rfl) ?_
              refine g_iconst m95_46 ?_
              refine g_iconst m95_47 ?_
              refine h_cv (k := 48 + 2 * ja) (p := 80 + 2 * ja) (args := [.int (0), .int (0)]) (rest := []) m95_48 cn_27 (Nat.le_of_ble_eq_true rfl) rfl rfl (pSo _) (tSo hs) (Nat.le_of_ble_eq_true rfl) ?_
              refine c_lay hs ?_
              refine gwr0 ?_
              refine g_iconst m95_51 ?_
              refine g_iret m95_52 rt_95 ?_
              first | (exfalso; omega) | (exact hY0 ja rfl (by omega) (by omega))
            · skip
              refine g_iload_n m95_53 rfl ?_
              refine h_if_ge (xi := v.toInt) (zi := 0) m95_54 rfl rfl (fun c15 => ?_) (fun c15 => ?_)
              · skip
                refine g_iload_n m95_63 rfl ?_
                refine g_bipush m95_64 ?_
                refine h_ic_le (xi := v.toInt) (zi := 40) m95_66 rfl rfl (fun c16 => ?_) (fun c16 => ?_)
                · skip
                  refine g_aload_n m95_75 rfl ?_
                  refine h_gfR (c := 79) (k := 0) (p := 32) m95_76 rfl (t_0 _ _) rfl (Nat.le_of_ble_eq_true rfl) ?_
                  refine g_iload_n m95_79 rfl ?_
                  have hs : ja < 4 := by omega
                  refine h_aald (j := ja) (c := 80 + 2 * ja) m95_80 rfl (t_47 _ _) (rfl) (sh_at hs) (le3 (Nat.le_of_ble_eq_true rfl)) (Nat.le_of_ble_eq_true rfl) ?_
                  refine g_iload_n m95_81 rfl ?_
                  refine g_iload_n m95_82 rfl ?_
                  refine h_cv (k := 48 + 2 * ja) (p := 80 + 2 * ja) (args := [.int (b), .int (v)]) (rest := []) m95_83 cn_27 (Nat.le_of_ble_eq_true rfl) rfl rfl (pSo _) (tSo hs) (Nat.le_of_ble_eq_true rfl) ?_
                  refine c_lay hs ?_
                  refine gwr0 ?_
                  refine g_iconst m95_86 ?_
                  refine g_iret m95_87 rt_95 ?_
                  first | (exfalso; omega) | (exact hY1 ja rfl (by omega) (by omega) (by omega) (by omega) (by omega))
                · skip
                  refine g_aload_n m95_69 rfl ?_
                  refine g_iconst m95_70 ?_
                  refine h_cv (k := 0) (p := 32) (args := [.int (1)]) (rest := []) m95_71 cn_55 (Nat.le_of_ble_eq_true rfl) rfl rfl rfl (t_0 _ _) (Nat.le_of_ble_eq_true rfl) ?_
                  refine c_error (e := 1) (by decide) (by decide) ?_
                  refine gwr ?_
                  refine g_iret m95_74 rt_95 ?_
                  first | (exfalso; omega) | (exact hE1 (by omega))
              · skip
                refine g_aload_n m95_57 rfl ?_
                refine g_iconst m95_58 ?_
                refine h_cv (k := 0) (p := 32) (args := [.int (3)]) (rest := []) m95_59 cn_55 (Nat.le_of_ble_eq_true rfl) rfl rfl rfl (t_0 _ _) (Nat.le_of_ble_eq_true rfl) ?_
                refine c_error (e := 3) (by decide) (by decide) ?_
                refine gwr ?_
                refine g_iret m95_62 rt_95 ?_
                first | (exfalso; omega) | (exact hE3 ⟨ja, rfl, by omega, by omega, by omega, by omega⟩)
          · skip
            refine g_aload_n m95_30 rfl ?_
            refine g_iconst m95_31 ?_
            refine h_cv (k := 0) (p := 32) (args := [.int (1)]) (rest := []) m95_32 cn_55 (Nat.le_of_ble_eq_true rfl) rfl rfl rfl (t_0 _ _) (Nat.le_of_ble_eq_true rfl) ?_
            refine c_error (e := 1) (by decide) (by decide) ?_
            refine gwr ?_
            refine g_iret m95_35 rt_95 ?_
            first | (exfalso; omega) | (exact hE1 (by omega))
  · skip
    refine gwr ?_
    refine h_if_eqT (xi := 0) (zi := 0) m95_5 rfl rfl (by decide) ?_
    refine g_aload_n m95_30 rfl ?_
    refine g_iconst m95_31 ?_
    refine h_cv (k := 0) (p := 32) (args := [.int (1)]) (rest := []) m95_32 cn_55 (Nat.le_of_ble_eq_true rfl) rfl rfl rfl (t_0 _ _) (Nat.le_of_ble_eq_true rfl) ?_
    refine c_error (e := 1) (by decide) (by decide) ?_
    refine gwr ?_
    refine g_iret m95_35 rt_95 ?_
    first | (exfalso; omega) | (exact hE1 (by omega))
set_option maxRecDepth 20000 in
set_option maxHeartbeats 40000000 in
theorem m_sheet {a b v : Int32} (hE1 : (a.toInt < 0 ∨ 3 < a.toInt ∨ ¬ (b.toInt = 0 ∨ b.toInt = 8 ∨ b.toInt = 16 ∨ b.toInt = 32) ∨ (b.toInt ≠ 0 ∧ 40 < v.toInt)) → Q (some (.int (-1000000001))) (H (ers m 1) ln N)) (hE3 : (∃ s : Nat, a = nI s ∧ s < 4 ∧ (b.toInt = 0 ∨ b.toInt = 8 ∨ b.toInt = 16 ∨ b.toInt = 32) ∧ b.toInt ≠ 0 ∧ v.toInt < 0) → Q (some (.int (-1000000003))) (H (ers m 3) ln N)) (hY0 : ∀ s : Nat, a = nI s → s < 4 → b.toInt = 0 → Q (some (.int 1)) (H (zrQ (upm (upm m 63 s b) 64 s 0) 65 (40 * s) 40) ln N)) (hY1 : ∀ s : Nat, a = nI s → s < 4 → (b.toInt = 0 ∨ b.toInt = 8 ∨ b.toInt = 16 ∨ b.toInt = 32) → b.toInt ≠ 0 → 0 ≤ v.toInt → v.toInt ≤ 40 → Q (some (.int 1)) (H (zrQ (upm (upm m 63 s b) 64 s v) 65 (40 * s) 40) ln N)) : WP xs (d + 3) 179 0 0 [.ref (89), .int (a), .int (b), .int (v)] (H m ln N) Q := by
  refine wp_x mx_179 (L := [some (.ref (89)), some (.int (a)), some (.int (b)), some (.int (v)), none]) (Nat.le_of_ble_eq_true rfl) rfl ?_
  refine g_iload_n m179_0 rfl ?_
  refine g_cs (args := [.int (a)]) (rest := []) 0 (Or.inl rfl) m179_1 (Nat.le_of_ble_eq_true rfl) rfl rfl (Nat.le_of_ble_eq_true rfl) ?_
  refine c_isSheet (fun ja ea a_2 => ?_) (fun a_2 => ?_)
  · subst ea
    refine gwr ?_
    refine h_if_eqF (xi := 1) (zi := 0) m179_4 rfl rfl (by decide) ?_
    refine g_iload_n m179_7 rfl ?_
    refine h_if_eq (xi := b.toInt) (zi := 0) m179_8 rfl rfl (fun c1 => ?_) (fun c1 => ?_)
    · skip
      refine g_iload_n m179_36 rfl ?_
      refine h_if_eq (xi := b.toInt) (zi := 0) m179_37 rfl rfl (fun c2 => ?_) (fun c2 => ?_)
      · skip
        refine g_iload_n m179_51 rfl ?_
        refine h_if_eq (xi := b.toInt) (zi := 0) m179_52 rfl rfl (fun c3 => ?_) (fun c3 => ?_)
        · skip
          refine g_aload_n m179_68 rfl ?_
          refine h_gfR (c := 95) (k := 57) (p := 89) m179_69 rfl (t_57 _ _) rfl (Nat.le_of_ble_eq_true rfl) ?_
          refine g_iload_n m179_72 rfl ?_
          refine g_iload_n m179_73 rfl ?_
          refine h_ias (k := 63) (p := 95) (j := ja) m179_74 rfl (t_63 _ _) (rfl) (by omega) (Nat.le_of_ble_eq_true rfl) ?_
          refine g_aload_n m179_75 rfl ?_
          refine h_gfR (c := 96) (k := 57) (p := 89) m179_76 rfl (t_57 _ _) rfl (Nat.le_of_ble_eq_true rfl) ?_
          refine g_iload_n m179_79 rfl ?_
          refine g_iload_n m179_80 rfl ?_
          refine h_if_ne (xi := b.toInt) (zi := 0) m179_81 rfl rfl (fun c4 => ?_) (fun c4 => ?_)
          · skip
            refine g_iconst m179_84 ?_
            refine g_goto m179_85 ?_
            refine h_ias (k := 64) (p := 96) (j := ja) m179_89 rfl (t_64 _ _) (rfl) (by omega) (Nat.le_of_ble_eq_true rfl) ?_
            refine g_iconst m179_90 ?_
            refine g_istore (L2 := [some (.ref (89)), some (.int (nI (ja))), some (.int (b)), some (.int (v)), some (.int (0))]) m179_91 rfl rfl ?_
            have hs : ja < 4 := by omega
            have key : ∀ (r : Nat) (q : Nat), q + r = 40 → gw xs (WP xs (d + 2)) 179 Q 93 [some (.ref (89)), some (.int (nI (ja))), some (.int (b)), some (.int (v)), some (.int (nI (q)))] [] (H (zrQ (upm (upm m (63) (ja) b) (64) (ja) (0 : Int32)) 65 (40 * ja) q) ln N) 0 0 := by
              intro r
              induction r with
              | zero =>
                intro q hq
                obtain rfl : q = 40 := by omega
                refine g_iload m179_93 rfl ?_
                refine g_bipush m179_95 ?_
                refine h_ic_geT (xi := ((40 : Nat) : Int)) (zi := 40) m179_97 (nI_toInt (by omega)) rfl (by omega) ?_
                refine g_iconst m179_119 ?_
                refine g_iret m179_120 rt_179 ?_
                first | (exfalso; omega) | (exact hY0 ja rfl (by omega) (by omega))
              | succ r ih =>
                intro q hq
                refine g_iload m179_93 rfl ?_
                refine g_bipush m179_95 ?_
                refine h_ic_geF (xi := ((q : Nat) : Int)) (zi := 40) m179_97 (nI_toInt (by omega)) rfl (by omega) ?_
                refine g_aload_n m179_100 rfl ?_
                refine h_gfR (c := 97) (k := 57) (p := 89) m179_101 rfl (t_57 _ _) rfl (Nat.le_of_ble_eq_true rfl) ?_
                refine g_bipush m179_104 ?_
                refine g_iload_n m179_106 rfl ?_
                refine g_imul (u := nI (40 * ja)) m179_107 (pk_mul 40 ja) ?_
                refine g_iload m179_108 rfl ?_
                refine g_iadd (u := nI ((40 * ja) + q)) m179_110 (nI_add (40 * ja) q) ?_
                refine g_iconst m179_111 ?_
                refine h_ias (k := 65) (p := 97) (j := (40 * ja) + q) m179_112 rfl (t_65 _ _) (rfl) (by omega) (Nat.le_of_ble_eq_true rfl) ?_
                refine g_iinc (L2 := [some (.ref (89)), some (.int (nI (ja))), some (.int (b)), some (.int (v)), some (.int (nI (q + 1)))]) m179_113 rfl (nI_1 _) rfl rfl ?_
                refine g_goto m179_116 ?_
                have h9 := ih (q + 1) (by omega)
                rw [← zrQ_s] at h9
                exact h9
            have h9 := key 40 0 (by omega)
            rw [zrQ_0] at h9
            exact h9
          · skip
            refine g_iload_n m179_88 rfl ?_
            refine h_ias (k := 64) (p := 96) (j := ja) m179_89 rfl (t_64 _ _) (rfl) (by omega) (Nat.le_of_ble_eq_true rfl) ?_
            refine g_iconst m179_90 ?_
            refine g_istore (L2 := [some (.ref (89)), some (.int (nI (ja))), some (.int (b)), some (.int (v)), some (.int (0))]) m179_91 rfl rfl ?_
            have hs : ja < 4 := by omega
            have key : ∀ (r : Nat) (q : Nat), q + r = 40 → gw xs (WP xs (d + 2)) 179 Q 93 [some (.ref (89)), some (.int (nI (ja))), some (.int (b)), some (.int (v)), some (.int (nI (q)))] [] (H (zrQ (upm (upm m (63) (ja) b) (64) (ja) v) 65 (40 * ja) q) ln N) 0 0 := by
              intro r
              induction r with
              | zero =>
                intro q hq
                obtain rfl : q = 40 := by omega
                refine g_iload m179_93 rfl ?_
                refine g_bipush m179_95 ?_
                refine h_ic_geT (xi := ((40 : Nat) : Int)) (zi := 40) m179_97 (nI_toInt (by omega)) rfl (by omega) ?_
                refine g_iconst m179_119 ?_
                refine g_iret m179_120 rt_179 ?_
                first | (exfalso; omega) | (exact hY1 ja rfl (by omega) (by omega) (by omega) (by omega) (by omega))
              | succ r ih =>
                intro q hq
                refine g_iload m179_93 rfl ?_
                refine g_bipush m179_95 ?_
                refine h_ic_geF (xi := ((q : Nat) : Int)) (zi := 40) m179_97 (nI_toInt (by omega)) rfl (by omega) ?_
                refine g_aload_n m179_100 rfl ?_
                refine h_gfR (c := 97) (k := 57) (p := 89) m179_101 rfl (t_57 _ _) rfl (Nat.le_of_ble_eq_true rfl) ?_
                refine g_bipush m179_104 ?_
                refine g_iload_n m179_106 rfl ?_
                refine g_imul (u := nI (40 * ja)) m179_107 (pk_mul 40 ja) ?_
                refine g_iload m179_108 rfl ?_
                refine g_iadd (u := nI ((40 * ja) + q)) m179_110 (nI_add (40 * ja) q) ?_
                refine g_iconst m179_111 ?_
                refine h_ias (k := 65) (p := 97) (j := (40 * ja) + q) m179_112 rfl (t_65 _ _) (rfl) (by omega) (Nat.le_of_ble_eq_true rfl) ?_
                refine g_iinc (L2 := [some (.ref (89)), some (.int (nI (ja))), some (.int (b)), some (.int (v)), some (.int (nI (q + 1)))]) m179_113 rfl (nI_1 _) rfl rfl ?_
                refine g_goto m179_116 ?_
                have h9 := ih (q + 1) (by omega)
                rw [← zrQ_s] at h9
                exact h9
            have h9 := key 40 0 (by omega)
            rw [zrQ_0] at h9
            exact h9
        · skip
          refine g_iload_n m179_55 rfl ?_
          refine g_bipush m179_56 ?_
          refine h_ic_le (xi := v.toInt) (zi := 40) m179_58 rfl rfl (fun c5 => ?_) (fun c5 => ?_)
          · skip
            refine g_aload_n m179_68 rfl ?_
            refine h_gfR (c := 95) (k := 57) (p := 89) m179_69 rfl (t_57 _ _) rfl (Nat.le_of_ble_eq_true rfl) ?_
            refine g_iload_n m179_72 rfl ?_
            refine g_iload_n m179_73 rfl ?_
            refine h_ias (k := 63) (p := 95) (j := ja) m179_74 rfl (t_63 _ _) (rfl) (by omega) (Nat.le_of_ble_eq_true rfl) ?_
            refine g_aload_n m179_75 rfl ?_
            refine h_gfR (c := 96) (k := 57) (p := 89) m179_76 rfl (t_57 _ _) rfl (Nat.le_of_ble_eq_true rfl) ?_
            refine g_iload_n m179_79 rfl ?_
            refine g_iload_n m179_80 rfl ?_
            refine h_if_ne (xi := b.toInt) (zi := 0) m179_81 rfl rfl (fun c6 => ?_) (fun c6 => ?_)
            · skip
              refine g_iconst m179_84 ?_
              refine g_goto m179_85 ?_
              refine h_ias (k := 64) (p := 96) (j := ja) m179_89 rfl (t_64 _ _) (rfl) (by omega) (Nat.le_of_ble_eq_true rfl) ?_
              refine g_iconst m179_90 ?_
              refine g_istore (L2 := [some (.ref (89)), some (.int (nI (ja))), some (.int (b)), some (.int (v)), some (.int (0))]) m179_91 rfl rfl ?_
              have hs : ja < 4 := by omega
              have key : ∀ (r : Nat) (q : Nat), q + r = 40 → gw xs (WP xs (d + 2)) 179 Q 93 [some (.ref (89)), some (.int (nI (ja))), some (.int (b)), some (.int (v)), some (.int (nI (q)))] [] (H (zrQ (upm (upm m (63) (ja) b) (64) (ja) (0 : Int32)) 65 (40 * ja) q) ln N) 0 0 := by
                intro r
                induction r with
                | zero =>
                  intro q hq
                  obtain rfl : q = 40 := by omega
                  refine g_iload m179_93 rfl ?_
                  refine g_bipush m179_95 ?_
                  refine h_ic_geT (xi := ((40 : Nat) : Int)) (zi := 40) m179_97 (nI_toInt (by omega)) rfl (by omega) ?_
                  refine g_iconst m179_119 ?_
                  refine g_iret m179_120 rt_179 ?_
                  first | (exfalso; omega) | (exact hY0 ja rfl (by omega) (by omega))
                | succ r ih =>
                  intro q hq
                  refine g_iload m179_93 rfl ?_
                  refine g_bipush m179_95 ?_
                  refine h_ic_geF (xi := ((q : Nat) : Int)) (zi := 40) m179_97 (nI_toInt (by omega)) rfl (by omega) ?_
                  refine g_aload_n m179_100 rfl ?_
                  refine h_gfR (c := 97) (k := 57) (p := 89) m179_101 rfl (t_57 _ _) rfl (Nat.le_of_ble_eq_true rfl) ?_
                  refine g_bipush m179_104 ?_
                  refine g_iload_n m179_106 rfl ?_
                  refine g_imul (u := nI (40 * ja)) m179_107 (pk_mul 40 ja) ?_
                  refine g_iload m179_108 rfl ?_
                  refine g_iadd (u := nI ((40 * ja) + q)) m179_110 (nI_add (40 * ja) q) ?_
                  refine g_iconst m179_111 ?_
                  refine h_ias (k := 65) (p := 97) (j := (40 * ja) + q) m179_112 rfl (t_65 _ _) (rfl) (by omega) (Nat.le_of_ble_eq_true rfl) ?_
                  refine g_iinc (L2 := [some (.ref (89)), some (.int (nI (ja))), some (.int (b)), some (.int (v)), some (.int (nI (q + 1)))]) m179_113 rfl (nI_1 _) rfl rfl ?_
                  refine g_goto m179_116 ?_
                  have h9 := ih (q + 1) (by omega)
                  rw [← zrQ_s] at h9
                  exact h9
              have h9 := key 40 0 (by omega)
              rw [zrQ_0] at h9
              exact h9
            · skip
              refine g_iload_n m179_88 rfl ?_
              refine h_ias (k := 64) (p := 96) (j := ja) m179_89 rfl (t_64 _ _) (rfl) (by omega) (Nat.le_of_ble_eq_true rfl) ?_
              refine g_iconst m179_90 ?_
              refine g_istore (L2 := [some (.ref (89)), some (.int (nI (ja))), some (.int (b)), some (.int (v)), some (.int (0))]) m179_91 rfl rfl ?_
              have hs : ja < 4 := by omega
              have key : ∀ (r : Nat) (q : Nat), q + r = 40 → gw xs (WP xs (d + 2)) 179 Q 93 [some (.ref (89)), some (.int (nI (ja))), some (.int (b)), some (.int (v)), some (.int (nI (q)))] [] (H (zrQ (upm (upm m (63) (ja) b) (64) (ja) v) 65 (40 * ja) q) ln N) 0 0 := by
                intro r
                induction r with
                | zero =>
                  intro q hq
                  obtain rfl : q = 40 := by omega
                  refine g_iload m179_93 rfl ?_
                  refine g_bipush m179_95 ?_
                  refine h_ic_geT (xi := ((40 : Nat) : Int)) (zi := 40) m179_97 (nI_toInt (by omega)) rfl (by omega) ?_
                  refine g_iconst m179_119 ?_
                  refine g_iret m179_120 rt_179 ?_
                  first | (exfalso; omega) | (exact hY1 ja rfl (by omega) (by omega) (by omega) (by omega) (by omega))
                | succ r ih =>
                  intro q hq
                  refine g_iload m179_93 rfl ?_
                  refine g_bipush m179_95 ?_
                  refine h_ic_geF (xi := ((q : Nat) : Int)) (zi := 40) m179_97 (nI_toInt (by omega)) rfl (by omega) ?_
                  refine g_aload_n m179_100 rfl ?_
                  refine h_gfR (c := 97) (k := 57) (p := 89) m179_101 rfl (t_57 _ _) rfl (Nat.le_of_ble_eq_true rfl) ?_
                  refine g_bipush m179_104 ?_
                  refine g_iload_n m179_106 rfl ?_
                  refine g_imul (u := nI (40 * ja)) m179_107 (pk_mul 40 ja) ?_
                  refine g_iload m179_108 rfl ?_
                  refine g_iadd (u := nI ((40 * ja) + q)) m179_110 (nI_add (40 * ja) q) ?_
                  refine g_iconst m179_111 ?_
                  refine h_ias (k := 65) (p := 97) (j := (40 * ja) + q) m179_112 rfl (t_65 _ _) (rfl) (by omega) (Nat.le_of_ble_eq_true rfl) ?_
                  refine g_iinc (L2 := [some (.ref (89)), some (.int (nI (ja))), some (.int (b)), some (.int (v)), some (.int (nI (q + 1)))]) m179_113 rfl (nI_1 _) rfl rfl ?_
                  refine g_goto m179_116 ?_
                  have h9 := ih (q + 1) (by omega)
                  rw [← zrQ_s] at h9
                  exact h9
              have h9 := key 40 0 (by omega)
              rw [zrQ_0] at h9
              exact h9
          · skip
            refine g_aload_n m179_61 rfl ?_
            refine g_ldci m179_62 rfl ?_
            refine h_cv (k := 57) (p := 89) (args := [.int (-1000000001)]) (rest := []) m179_64 cn_108 (Nat.le_of_ble_eq_true rfl) rfl rfl rfl (t_57 _ _) (Nat.le_of_ble_eq_true rfl) ?_
            refine c_errs (e := 1) (by decide) (by decide) (by decide) ?_
            refine gwr ?_
            refine g_iret m179_67 rt_179 ?_
            first | (exfalso; omega) | (exact hE1 (by omega))
      · skip
        refine g_iload_n m179_40 rfl ?_
        refine h_if_ge (xi := v.toInt) (zi := 0) m179_41 rfl rfl (fun c7 => ?_) (fun c7 => ?_)
        · skip
          refine g_iload_n m179_51 rfl ?_
          refine h_if_eq (xi := b.toInt) (zi := 0) m179_52 rfl rfl (fun c8 => ?_) (fun c8 => ?_)
          · skip
            refine g_aload_n m179_68 rfl ?_
            refine h_gfR (c := 95) (k := 57) (p := 89) m179_69 rfl (t_57 _ _) rfl (Nat.le_of_ble_eq_true rfl) ?_
            refine g_iload_n m179_72 rfl ?_
            refine g_iload_n m179_73 rfl ?_
            refine h_ias (k := 63) (p := 95) (j := ja) m179_74 rfl (t_63 _ _) (rfl) (by omega) (Nat.le_of_ble_eq_true rfl) ?_
            refine g_aload_n m179_75 rfl ?_
            refine h_gfR (c := 96) (k := 57) (p := 89) m179_76 rfl (t_57 _ _) rfl (Nat.le_of_ble_eq_true rfl) ?_
            refine g_iload_n m179_79 rfl ?_
            refine g_iload_n m179_80 rfl ?_
            refine h_if_ne (xi := b.toInt) (zi := 0) m179_81 rfl rfl (fun c9 => ?_) (fun c9 => ?_)
            · skip
              refine g_iconst m179_84 ?_
              refine g_goto m179_85 ?_
              refine h_ias (k := 64) (p := 96) (j := ja) m179_89 rfl (t_64 _ _) (rfl) (by omega) (Nat.le_of_ble_eq_true rfl) ?_
              refine g_iconst m179_90 ?_
              refine g_istore (L2 := [some (.ref (89)), some (.int (nI (ja))), some (.int (b)), some (.int (v)), some (.int (0))]) m179_91 rfl rfl ?_
              have hs : ja < 4 := by omega
              have key : ∀ (r : Nat) (q : Nat), q + r = 40 → gw xs (WP xs (d + 2)) 179 Q 93 [some (.ref (89)), some (.int (nI (ja))), some (.int (b)), some (.int (v)), some (.int (nI (q)))] [] (H (zrQ (upm (upm m (63) (ja) b) (64) (ja) (0 : Int32)) 65 (40 * ja) q) ln N) 0 0 := by
                intro r
                induction r with
                | zero =>
                  intro q hq
                  obtain rfl : q = 40 := by omega
                  refine g_iload m179_93 rfl ?_
                  refine g_bipush m179_95 ?_
                  refine h_ic_geT (xi := ((40 : Nat) : Int)) (zi := 40) m179_97 (nI_toInt (by omega)) rfl (by omega) ?_
                  refine g_iconst m179_119 ?_
                  refine g_iret m179_120 rt_179 ?_
                  first | (exfalso; omega) | (exact hY0 ja rfl (by omega) (by omega))
                | succ r ih =>
                  intro q hq
                  refine g_iload m179_93 rfl ?_
                  refine g_bipush m179_95 ?_
                  refine h_ic_geF (xi := ((q : Nat) : Int)) (zi := 40) m179_97 (nI_toInt (by omega)) rfl (by omega) ?_
                  refine g_aload_n m179_100 rfl ?_
                  refine h_gfR (c := 97) (k := 57) (p := 89) m179_101 rfl (t_57 _ _) rfl (Nat.le_of_ble_eq_true rfl) ?_
                  refine g_bipush m179_104 ?_
                  refine g_iload_n m179_106 rfl ?_
                  refine g_imul (u := nI (40 * ja)) m179_107 (pk_mul 40 ja) ?_
                  refine g_iload m179_108 rfl ?_
                  refine g_iadd (u := nI ((40 * ja) + q)) m179_110 (nI_add (40 * ja) q) ?_
                  refine g_iconst m179_111 ?_
                  refine h_ias (k := 65) (p := 97) (j := (40 * ja) + q) m179_112 rfl (t_65 _ _) (rfl) (by omega) (Nat.le_of_ble_eq_true rfl) ?_
                  refine g_iinc (L2 := [some (.ref (89)), some (.int (nI (ja))), some (.int (b)), some (.int (v)), some (.int (nI (q + 1)))]) m179_113 rfl (nI_1 _) rfl rfl ?_
                  refine g_goto m179_116 ?_
                  have h9 := ih (q + 1) (by omega)
                  rw [← zrQ_s] at h9
                  exact h9
              have h9 := key 40 0 (by omega)
              rw [zrQ_0] at h9
              exact h9
            · skip
              refine g_iload_n m179_88 rfl ?_
              refine h_ias (k := 64) (p := 96) (j := ja) m179_89 rfl (t_64 _ _) (rfl) (by omega) (Nat.le_of_ble_eq_true rfl) ?_
              refine g_iconst m179_90 ?_
              refine g_istore (L2 := [some (.ref (89)), some (.int (nI (ja))), some (.int (b)), some (.int (v)), some (.int (0))]) m179_91 rfl rfl ?_
              have hs : ja < 4 := by omega
              have key : ∀ (r : Nat) (q : Nat), q + r = 40 → gw xs (WP xs (d + 2)) 179 Q 93 [some (.ref (89)), some (.int (nI (ja))), some (.int (b)), some (.int (v)), some (.int (nI (q)))] [] (H (zrQ (upm (upm m (63) (ja) b) (64) (ja) v) 65 (40 * ja) q) ln N) 0 0 := by
                intro r
                induction r with
                | zero =>
                  intro q hq
                  obtain rfl : q = 40 := by omega
                  refine g_iload m179_93 rfl ?_
                  refine g_bipush m179_95 ?_
                  refine h_ic_geT (xi := ((40 : Nat) : Int)) (zi := 40) m179_97 (nI_toInt (by omega)) rfl (by omega) ?_
                  refine g_iconst m179_119 ?_
                  refine g_iret m179_120 rt_179 ?_
                  first | (exfalso; omega) | (exact hY1 ja rfl (by omega) (by omega) (by omega) (by omega) (by omega))
                | succ r ih =>
                  intro q hq
                  refine g_iload m179_93 rfl ?_
                  refine g_bipush m179_95 ?_
                  refine h_ic_geF (xi := ((q : Nat) : Int)) (zi := 40) m179_97 (nI_toInt (by omega)) rfl (by omega) ?_
                  refine g_aload_n m179_100 rfl ?_
                  refine h_gfR (c := 97) (k := 57) (p := 89) m179_101 rfl (t_57 _ _) rfl (Nat.le_of_ble_eq_true rfl) ?_
                  refine g_bipush m179_104 ?_
                  refine g_iload_n m179_106 rfl ?_
                  refine g_imul (u := nI (40 * ja)) m179_107 (pk_mul 40 ja) ?_
                  refine g_iload m179_108 rfl ?_
                  refine g_iadd (u := nI ((40 * ja) + q)) m179_110 (nI_add (40 * ja) q) ?_
                  refine g_iconst m179_111 ?_
                  refine h_ias (k := 65) (p := 97) (j := (40 * ja) + q) m179_112 rfl (t_65 _ _) (rfl) (by omega) (Nat.le_of_ble_eq_true rfl) ?_
                  refine g_iinc (L2 := [some (.ref (89)), some (.int (nI (ja))), some (.int (b)), some (.int (v)), some (.int (nI (q + 1)))]) m179_113 rfl (nI_1 _) rfl rfl ?_
                  refine g_goto m179_116 ?_
                  have h9 := ih (q + 1) (by omega)
                  rw [← zrQ_s] at h9
                  exact h9
              have h9 := key 40 0 (by omega)
              rw [zrQ_0] at h9
              exact h9
          · skip
            refine g_iload_n m179_55 rfl ?_
            refine g_bipush m179_56 ?_
            refine h_ic_le (xi := v.toInt) (zi := 40) m179_58 rfl rfl (fun c10 => ?_) (fun c10 => ?_)
            · skip
              refine g_aload_n m179_68 rfl ?_
              refine h_gfR (c := 95) (k := 57) (p := 89) m179_69 rfl (t_57 _ _) rfl (Nat.le_of_ble_eq_true rfl) ?_
              refine g_iload_n m179_72 rfl ?_
              refine g_iload_n m179_73 rfl ?_
              refine h_ias (k := 63) (p := 95) (j := ja) m179_74 rfl (t_63 _ _) (rfl) (by omega) (Nat.le_of_ble_eq_true rfl) ?_
              refine g_aload_n m179_75 rfl ?_
              refine h_gfR (c := 96) (k := 57) (p := 89) m179_76 rfl (t_57 _ _) rfl (Nat.le_of_ble_eq_true rfl) ?_
              refine g_iload_n m179_79 rfl ?_
              refine g_iload_n m179_80 rfl ?_
              refine h_if_ne (xi := b.toInt) (zi := 0) m179_81 rfl rfl (fun c11 => ?_) (fun c11 => ?_)
              · skip
                refine g_iconst m179_84 ?_
                refine g_goto m179_85 ?_
                refine h_ias (k := 64) (p := 96) (j := ja) m179_89 rfl (t_64 _ _) (rfl) (by omega) (Nat.le_of_ble_eq_true rfl) ?_
                refine g_iconst m179_90 ?_
                refine g_istore (L2 := [some (.ref (89)), some (.int (nI (ja))), some (.int (b)), some (.int (v)), some (.int (0))]) m179_91 rfl rfl ?_
                have hs : ja < 4 := by omega
                have key : ∀ (r : Nat) (q : Nat), q + r = 40 → gw xs (WP xs (d + 2)) 179 Q 93 [some (.ref (89)), some (.int (nI (ja))), some (.int (b)), some (.int (v)), some (.int (nI (q)))] [] (H (zrQ (upm (upm m (63) (ja) b) (64) (ja) (0 : Int32)) 65 (40 * ja) q) ln N) 0 0 := by
                  intro r
                  induction r with
                  | zero =>
                    intro q hq
                    obtain rfl : q = 40 := by omega
                    refine g_iload m179_93 rfl ?_
                    refine g_bipush m179_95 ?_
                    refine h_ic_geT (xi := ((40 : Nat) : Int)) (zi := 40) m179_97 (nI_toInt (by omega)) rfl (by omega) ?_
                    refine g_iconst m179_119 ?_
                    refine g_iret m179_120 rt_179 ?_
                    first | (exfalso; omega) | (exact hY0 ja rfl (by omega) (by omega))
                  | succ r ih =>
                    intro q hq
                    refine g_iload m179_93 rfl ?_
                    refine g_bipush m179_95 ?_
                    refine h_ic_geF (xi := ((q : Nat) : Int)) (zi := 40) m179_97 (nI_toInt (by omega)) rfl (by omega) ?_
                    refine g_aload_n m179_100 rfl ?_
                    refine h_gfR (c := 97) (k := 57) (p := 89) m179_101 rfl (t_57 _ _) rfl (Nat.le_of_ble_eq_true rfl) ?_
                    refine g_bipush m179_104 ?_
                    refine g_iload_n m179_106 rfl ?_
                    refine g_imul (u := nI (40 * ja)) m179_107 (pk_mul 40 ja) ?_
                    refine g_iload m179_108 rfl ?_
                    refine g_iadd (u := nI ((40 * ja) + q)) m179_110 (nI_add (40 * ja) q) ?_
                    refine g_iconst m179_111 ?_
                    refine h_ias (k := 65) (p := 97) (j := (40 * ja) + q) m179_112 rfl (t_65 _ _) (rfl) (by omega) (Nat.le_of_ble_eq_true rfl) ?_
                    refine g_iinc (L2 := [some (.ref (89)), some (.int (nI (ja))), some (.int (b)), some (.int (v)), some (.int (nI (q + 1)))]) m179_113 rfl (nI_1 _) rfl rfl ?_
                    refine g_goto m179_116 ?_
                    have h9 := ih (q + 1) (by omega)
                    rw [← zrQ_s] at h9
                    exact h9
                have h9 := key 40 0 (by omega)
                rw [zrQ_0] at h9
                exact h9
              · skip
                refine g_iload_n m179_88 rfl ?_
                refine h_ias (k := 64) (p := 96) (j := ja) m179_89 rfl (t_64 _ _) (rfl) (by omega) (Nat.le_of_ble_eq_true rfl) ?_
                refine g_iconst m179_90 ?_
                refine g_istore (L2 := [some (.ref (89)), some (.int (nI (ja))), some (.int (b)), some (.int (v)), some (.int (0))]) m179_91 rfl rfl ?_
                have hs : ja < 4 := by omega
                have key : ∀ (r : Nat) (q : Nat), q + r = 40 → gw xs (WP xs (d + 2)) 179 Q 93 [some (.ref (89)), some (.int (nI (ja))), some (.int (b)), some (.int (v)), some (.int (nI (q)))] [] (H (zrQ (upm (upm m (63) (ja) b) (64) (ja) v) 65 (40 * ja) q) ln N) 0 0 := by
                  intro r
                  induction r with
                  | zero =>
                    intro q hq
                    obtain rfl : q = 40 := by omega
                    refine g_iload m179_93 rfl ?_
                    refine g_bipush m179_95 ?_
                    refine h_ic_geT (xi := ((40 : Nat) : Int)) (zi := 40) m179_97 (nI_toInt (by omega)) rfl (by omega) ?_
                    refine g_iconst m179_119 ?_
                    refine g_iret m179_120 rt_179 ?_
                    first | (exfalso; omega) | (exact hY1 ja rfl (by omega) (by omega) (by omega) (by omega) (by omega))
                  | succ r ih =>
                    intro q hq
                    refine g_iload m179_93 rfl ?_
                    refine g_bipush m179_95 ?_
                    refine h_ic_geF (xi := ((q : Nat) : Int)) (zi := 40) m179_97 (nI_toInt (by omega)) rfl (by omega) ?_
                    refine g_aload_n m179_100 rfl ?_
                    refine h_gfR (c := 97) (k := 57) (p := 89) m179_101 rfl (t_57 _ _) rfl (Nat.le_of_ble_eq_true rfl) ?_
                    refine g_bipush m179_104 ?_
                    refine g_iload_n m179_106 rfl ?_
                    refine g_imul (u := nI (40 * ja)) m179_107 (pk_mul 40 ja) ?_
                    refine g_iload m179_108 rfl ?_
                    refine g_iadd (u := nI ((40 * ja) + q)) m179_110 (nI_add (40 * ja) q) ?_
                    refine g_iconst m179_111 ?_
                    refine h_ias (k := 65) (p := 97) (j := (40 * ja) + q) m179_112 rfl (t_65 _ _) (rfl) (by omega) (Nat.le_of_ble_eq_true rfl) ?_
                    refine g_iinc (L2 := [some (.ref (89)), some (.int (nI (ja))), some (.int (b)), some (.int (v)), some (.int (nI (q + 1)))]) m179_113 rfl (nI_1 _) rfl rfl ?_
                    refine g_goto m179_116 ?_
                    have h9 := ih (q + 1) (by omega)
                    rw [← zrQ_s] at h9
                    exact h9
                have h9 := key 40 0 (by omega)
                rw [zrQ_0] at h9
                exact h9
            · skip
              refine g_aload_n m179_61 rfl ?_
              refine g_ldci m179_62 rfl ?_
              refine h_cv (k := 57) (p := 89) (args := [.int (-1000000001)]) (rest := []) m179_64 cn_108 (Nat.le_of_ble_eq_true rfl) rfl rfl rfl (t_57 _ _) (Nat.le_of_ble_eq_true rfl) ?_
              refine c_errs (e := 1) (by decide) (by decide) (by decide) ?_
              refine gwr ?_
              refine g_iret m179_67 rt_179 ?_
              first | (exfalso; omega) | (exact hE1 (by omega))
        · skip
          refine g_aload_n m179_44 rfl ?_
          refine g_ldci m179_45 rfl ?_
          refine h_cv (k := 57) (p := 89) (args := [.int (-1000000003)]) (rest := []) m179_47 cn_108 (Nat.le_of_ble_eq_true rfl) rfl rfl rfl (t_57 _ _) (Nat.le_of_ble_eq_true rfl) ?_
          refine c_errs (e := 3) (by decide) (by decide) (by decide) ?_
          refine gwr ?_
          refine g_iret m179_50 rt_179 ?_
          first | (exfalso; omega) | (exact hE3 ⟨ja, rfl, by omega, by omega, by omega, by omega⟩)
    · skip
      refine g_iload_n m179_11 rfl ?_
      refine g_bipush m179_12 ?_
      refine h_ic_eq (xi := b.toInt) (zi := 8) m179_14 rfl rfl (fun c12 => ?_) (fun c12 => ?_)
      · skip
        refine g_iload_n m179_36 rfl ?_
        refine h_if_eq (xi := b.toInt) (zi := 0) m179_37 rfl rfl (fun c13 => ?_) (fun c13 => ?_)
        · skip
          refine g_iload_n m179_51 rfl ?_
          refine h_if_eq (xi := b.toInt) (zi := 0) m179_52 rfl rfl (fun c14 => ?_) (fun c14 => ?_)
          · skip
            refine g_aload_n m179_68 rfl ?_
            refine h_gfR (c := 95) (k := 57) (p := 89) m179_69 rfl (t_57 _ _) rfl (Nat.le_of_ble_eq_true rfl) ?_
            refine g_iload_n m179_72 rfl ?_
            refine g_iload_n m179_73 rfl ?_
            refine h_ias (k := 63) (p := 95) (j := ja) m179_74 rfl (t_63 _ _) (rfl) (by omega) (Nat.le_of_ble_eq_true rfl) ?_
            refine g_aload_n m179_75 rfl ?_
            refine h_gfR (c := 96) (k := 57) (p := 89) m179_76 rfl (t_57 _ _) rfl (Nat.le_of_ble_eq_true rfl) ?_
            refine g_iload_n m179_79 rfl ?_
            refine g_iload_n m179_80 rfl ?_
            refine h_if_ne (xi := b.toInt) (zi := 0) m179_81 rfl rfl (fun c15 => ?_) (fun c15 => ?_)
            · skip
              refine g_iconst m179_84 ?_
              refine g_goto m179_85 ?_
              refine h_ias (k := 64) (p := 96) (j := ja) m179_89 rfl (t_64 _ _) (rfl) (by omega) (Nat.le_of_ble_eq_true rfl) ?_
              refine g_iconst m179_90 ?_
              refine g_istore (L2 := [some (.ref (89)), some (.int (nI (ja))), some (.int (b)), some (.int (v)), some (.int (0))]) m179_91 rfl rfl ?_
              have hs : ja < 4 := by omega
              have key : ∀ (r : Nat) (q : Nat), q + r = 40 → gw xs (WP xs (d + 2)) 179 Q 93 [some (.ref (89)), some (.int (nI (ja))), some (.int (b)), some (.int (v)), some (.int (nI (q)))] [] (H (zrQ (upm (upm m (63) (ja) b) (64) (ja) (0 : Int32)) 65 (40 * ja) q) ln N) 0 0 := by
                intro r
                induction r with
                | zero =>
                  intro q hq
                  obtain rfl : q = 40 := by omega
                  refine g_iload m179_93 rfl ?_
                  refine g_bipush m179_95 ?_
                  refine h_ic_geT (xi := ((40 : Nat) : Int)) (zi := 40) m179_97 (nI_toInt (by omega)) rfl (by omega) ?_
                  refine g_iconst m179_119 ?_
                  refine g_iret m179_120 rt_179 ?_
                  first | (exfalso; omega) | (exact hY0 ja rfl (by omega) (by omega))
                | succ r ih =>
                  intro q hq
                  refine g_iload m179_93 rfl ?_
                  refine g_bipush m179_95 ?_
                  refine h_ic_geF (xi := ((q : Nat) : Int)) (zi := 40) m179_97 (nI_toInt (by omega)) rfl (by omega) ?_
                  refine g_aload_n m179_100 rfl ?_
                  refine h_gfR (c := 97) (k := 57) (p := 89) m179_101 rfl (t_57 _ _) rfl (Nat.le_of_ble_eq_true rfl) ?_
                  refine g_bipush m179_104 ?_
                  refine g_iload_n m179_106 rfl ?_
                  refine g_imul (u := nI (40 * ja)) m179_107 (pk_mul 40 ja) ?_
                  refine g_iload m179_108 rfl ?_
                  refine g_iadd (u := nI ((40 * ja) + q)) m179_110 (nI_add (40 * ja) q) ?_
                  refine g_iconst m179_111 ?_
                  refine h_ias (k := 65) (p := 97) (j := (40 * ja) + q) m179_112 rfl (t_65 _ _) (rfl) (by omega) (Nat.le_of_ble_eq_true rfl) ?_
                  refine g_iinc (L2 := [some (.ref (89)), some (.int (nI (ja))), some (.int (b)), some (.int (v)), some (.int (nI (q + 1)))]) m179_113 rfl (nI_1 _) rfl rfl ?_
                  refine g_goto m179_116 ?_
                  have h9 := ih (q + 1) (by omega)
                  rw [← zrQ_s] at h9
                  exact h9
              have h9 := key 40 0 (by omega)
              rw [zrQ_0] at h9
              exact h9
            · skip
              refine g_iload_n m179_88 rfl ?_
              refine h_ias (k := 64) (p := 96) (j := ja) m179_89 rfl (t_64 _ _) (rfl) (by omega) (Nat.le_of_ble_eq_true rfl) ?_
              refine g_iconst m179_90 ?_
              refine g_istore (L2 := [some (.ref (89)), some (.int (nI (ja))), some (.int (b)), some (.int (v)), some (.int (0))]) m179_91 rfl rfl ?_
              have hs : ja < 4 := by omega
              have key : ∀ (r : Nat) (q : Nat), q + r = 40 → gw xs (WP xs (d + 2)) 179 Q 93 [some (.ref (89)), some (.int (nI (ja))), some (.int (b)), some (.int (v)), some (.int (nI (q)))] [] (H (zrQ (upm (upm m (63) (ja) b) (64) (ja) v) 65 (40 * ja) q) ln N) 0 0 := by
                intro r
                induction r with
                | zero =>
                  intro q hq
                  obtain rfl : q = 40 := by omega
                  refine g_iload m179_93 rfl ?_
                  refine g_bipush m179_95 ?_
                  refine h_ic_geT (xi := ((40 : Nat) : Int)) (zi := 40) m179_97 (nI_toInt (by omega)) rfl (by omega) ?_
                  refine g_iconst m179_119 ?_
                  refine g_iret m179_120 rt_179 ?_
                  first | (exfalso; omega) | (exact hY1 ja rfl (by omega) (by omega) (by omega) (by omega) (by omega))
                | succ r ih =>
                  intro q hq
                  refine g_iload m179_93 rfl ?_
                  refine g_bipush m179_95 ?_
                  refine h_ic_geF (xi := ((q : Nat) : Int)) (zi := 40) m179_97 (nI_toInt (by omega)) rfl (by omega) ?_
                  refine g_aload_n m179_100 rfl ?_
                  refine h_gfR (c := 97) (k := 57) (p := 89) m179_101 rfl (t_57 _ _) rfl (Nat.le_of_ble_eq_true rfl) ?_
                  refine g_bipush m179_104 ?_
                  refine g_iload_n m179_106 rfl ?_
                  refine g_imul (u := nI (40 * ja)) m179_107 (pk_mul 40 ja) ?_
                  refine g_iload m179_108 rfl ?_
                  refine g_iadd (u := nI ((40 * ja) + q)) m179_110 (nI_add (40 * ja) q) ?_
                  refine g_iconst m179_111 ?_
                  refine h_ias (k := 65) (p := 97) (j := (40 * ja) + q) m179_112 rfl (t_65 _ _) (rfl) (by omega) (Nat.le_of_ble_eq_true rfl) ?_
                  refine g_iinc (L2 := [some (.ref (89)), some (.int (nI (ja))), some (.int (b)), some (.int (v)), some (.int (nI (q + 1)))]) m179_113 rfl (nI_1 _) rfl rfl ?_
                  refine g_goto m179_116 ?_
                  have h9 := ih (q + 1) (by omega)
                  rw [← zrQ_s] at h9
                  exact h9
              have h9 := key 40 0 (by omega)
              rw [zrQ_0] at h9
              exact h9
          · skip
            refine g_iload_n m179_55 rfl ?_
            refine g_bipush m179_56 ?_
            refine h_ic_le (xi := v.toInt) (zi := 40) m179_58 rfl rfl (fun c16 => ?_) (fun c16 => ?_)
            · skip
              refine g_aload_n m179_68 rfl ?_
              refine h_gfR (c := 95) (k := 57) (p := 89) m179_69 rfl (t_57 _ _) rfl (Nat.le_of_ble_eq_true rfl) ?_
              refine g_iload_n m179_72 rfl ?_
              refine g_iload_n m179_73 rfl ?_
              refine h_ias (k := 63) (p := 95) (j := ja) m179_74 rfl (t_63 _ _) (rfl) (by omega) (Nat.le_of_ble_eq_true rfl) ?_
              refine g_aload_n m179_75 rfl ?_
              refine h_gfR (c := 96) (k := 57) (p := 89) m179_76 rfl (t_57 _ _) rfl (Nat.le_of_ble_eq_true rfl) ?_
              refine g_iload_n m179_79 rfl ?_
              refine g_iload_n m179_80 rfl ?_
              refine h_if_ne (xi := b.toInt) (zi := 0) m179_81 rfl rfl (fun c17 => ?_) (fun c17 => ?_)
              · skip
                refine g_iconst m179_84 ?_
                refine g_goto m179_85 ?_
                refine h_ias (k := 64) (p := 96) (j := ja) m179_89 rfl (t_64 _ _) (rfl) (by omega) (Nat.le_of_ble_eq_true rfl) ?_
                refine g_iconst m179_90 ?_
                refine g_istore (L2 := [some (.ref (89)), some (.int (nI (ja))), some (.int (b)), some (.int (v)), some (.int (0))]) m179_91 rfl rfl ?_
                have hs : ja < 4 := by omega
                have key : ∀ (r : Nat) (q : Nat), q + r = 40 → gw xs (WP xs (d + 2)) 179 Q 93 [some (.ref (89)), some (.int (nI (ja))), some (.int (b)), some (.int (v)), some (.int (nI (q)))] [] (H (zrQ (upm (upm m (63) (ja) b) (64) (ja) (0 : Int32)) 65 (40 * ja) q) ln N) 0 0 := by
                  intro r
                  induction r with
                  | zero =>
                    intro q hq
                    obtain rfl : q = 40 := by omega
                    refine g_iload m179_93 rfl ?_
                    refine g_bipush m179_95 ?_
                    refine h_ic_geT (xi := ((40 : Nat) : Int)) (zi := 40) m179_97 (nI_toInt (by omega)) rfl (by omega) ?_
                    refine g_iconst m179_119 ?_
                    refine g_iret m179_120 rt_179 ?_
                    first | (exfalso; omega) | (exact hY0 ja rfl (by omega) (by omega))
                  | succ r ih =>
                    intro q hq
                    refine g_iload m179_93 rfl ?_
                    refine g_bipush m179_95 ?_
                    refine h_ic_geF (xi := ((q : Nat) : Int)) (zi := 40) m179_97 (nI_toInt (by omega)) rfl (by omega) ?_
                    refine g_aload_n m179_100 rfl ?_
                    refine h_gfR (c := 97) (k := 57) (p := 89) m179_101 rfl (t_57 _ _) rfl (Nat.le_of_ble_eq_true rfl) ?_
                    refine g_bipush m179_104 ?_
                    refine g_iload_n m179_106 rfl ?_
                    refine g_imul (u := nI (40 * ja)) m179_107 (pk_mul 40 ja) ?_
                    refine g_iload m179_108 rfl ?_
                    refine g_iadd (u := nI ((40 * ja) + q)) m179_110 (nI_add (40 * ja) q) ?_
                    refine g_iconst m179_111 ?_
                    refine h_ias (k := 65) (p := 97) (j := (40 * ja) + q) m179_112 rfl (t_65 _ _) (rfl) (by omega) (Nat.le_of_ble_eq_true rfl) ?_
                    refine g_iinc (L2 := [some (.ref (89)), some (.int (nI (ja))), some (.int (b)), some (.int (v)), some (.int (nI (q + 1)))]) m179_113 rfl (nI_1 _) rfl rfl ?_
                    refine g_goto m179_116 ?_
                    have h9 := ih (q + 1) (by omega)
                    rw [← zrQ_s] at h9
                    exact h9
                have h9 := key 40 0 (by omega)
                rw [zrQ_0] at h9
                exact h9
              · skip
                refine g_iload_n m179_88 rfl ?_
                refine h_ias (k := 64) (p := 96) (j := ja) m179_89 rfl (t_64 _ _) (rfl) (by omega) (Nat.le_of_ble_eq_true rfl) ?_
                refine g_iconst m179_90 ?_
                refine g_istore (L2 := [some (.ref (89)), some (.int (nI (ja))), some (.int (b)), some (.int (v)), some (.int (0))]) m179_91 rfl rfl ?_
                have hs : ja < 4 := by omega
                have key : ∀ (r : Nat) (q : Nat), q + r = 40 → gw xs (WP xs (d + 2)) 179 Q 93 [some (.ref (89)), some (.int (nI (ja))), some (.int (b)), some (.int (v)), some (.int (nI (q)))] [] (H (zrQ (upm (upm m (63) (ja) b) (64) (ja) v) 65 (40 * ja) q) ln N) 0 0 := by
                  intro r
                  induction r with
                  | zero =>
                    intro q hq
                    obtain rfl : q = 40 := by omega
                    refine g_iload m179_93 rfl ?_
                    refine g_bipush m179_95 ?_
                    refine h_ic_geT (xi := ((40 : Nat) : Int)) (zi := 40) m179_97 (nI_toInt (by omega)) rfl (by omega) ?_
                    refine g_iconst m179_119 ?_
                    refine g_iret m179_120 rt_179 ?_
                    first | (exfalso; omega) | (exact hY1 ja rfl (by omega) (by omega) (by omega) (by omega) (by omega))
                  | succ r ih =>
                    intro q hq
                    refine g_iload m179_93 rfl ?_
                    refine g_bipush m179_95 ?_
                    refine h_ic_geF (xi := ((q : Nat) : Int)) (zi := 40) m179_97 (nI_toInt (by omega)) rfl (by omega) ?_
                    refine g_aload_n m179_100 rfl ?_
                    refine h_gfR (c := 97) (k := 57) (p := 89) m179_101 rfl (t_57 _ _) rfl (Nat.le_of_ble_eq_true rfl) ?_
                    refine g_bipush m179_104 ?_
                    refine g_iload_n m179_106 rfl ?_
                    refine g_imul (u := nI (40 * ja)) m179_107 (pk_mul 40 ja) ?_
                    refine g_iload m179_108 rfl ?_
                    refine g_iadd (u := nI ((40 * ja) + q)) m179_110 (nI_add (40 * ja) q) ?_
                    refine g_iconst m179_111 ?_
                    refine h_ias (k := 65) (p := 97) (j := (40 * ja) + q) m179_112 rfl (t_65 _ _) (rfl) (by omega) (Nat.le_of_ble_eq_true rfl) ?_
                    refine g_iinc (L2 := [some (.ref (89)), some (.int (nI (ja))), some (.int (b)), some (.int (v)), some (.int (nI (q + 1)))]) m179_113 rfl (nI_1 _) rfl rfl ?_
                    refine g_goto m179_116 ?_
                    have h9 := ih (q + 1) (by omega)
                    rw [← zrQ_s] at h9
                    exact h9
                have h9 := key 40 0 (by omega)
                rw [zrQ_0] at h9
                exact h9
            · skip
              refine g_aload_n m179_61 rfl ?_
              refine g_ldci m179_62 rfl ?_
              refine h_cv (k := 57) (p := 89) (args := [.int (-1000000001)]) (rest := []) m179_64 cn_108 (Nat.le_of_ble_eq_true rfl) rfl rfl rfl (t_57 _ _) (Nat.le_of_ble_eq_true rfl) ?_
              refine c_errs (e := 1) (by decide) (by decide) (by decide) ?_
              refine gwr ?_
              refine g_iret m179_67 rt_179 ?_
              first | (exfalso; omega) | (exact hE1 (by omega))
        · skip
          refine g_iload_n m179_40 rfl ?_
          refine h_if_ge (xi := v.toInt) (zi := 0) m179_41 rfl rfl (fun c18 => ?_) (fun c18 => ?_)
          · skip
            refine g_iload_n m179_51 rfl ?_
            refine h_if_eq (xi := b.toInt) (zi := 0) m179_52 rfl rfl (fun c19 => ?_) (fun c19 => ?_)
            · skip
              refine g_aload_n m179_68 rfl ?_
              refine h_gfR (c := 95) (k := 57) (p := 89) m179_69 rfl (t_57 _ _) rfl (Nat.le_of_ble_eq_true rfl) ?_
              refine g_iload_n m179_72 rfl ?_
              refine g_iload_n m179_73 rfl ?_
              refine h_ias (k := 63) (p := 95) (j := ja) m179_74 rfl (t_63 _ _) (rfl) (by omega) (Nat.le_of_ble_eq_true rfl) ?_
              refine g_aload_n m179_75 rfl ?_
              refine h_gfR (c := 96) (k := 57) (p := 89) m179_76 rfl (t_57 _ _) rfl (Nat.le_of_ble_eq_true rfl) ?_
              refine g_iload_n m179_79 rfl ?_
              refine g_iload_n m179_80 rfl ?_
              refine h_if_ne (xi := b.toInt) (zi := 0) m179_81 rfl rfl (fun c20 => ?_) (fun c20 => ?_)
              · skip
                refine g_iconst m179_84 ?_
                refine g_goto m179_85 ?_
                refine h_ias (k := 64) (p := 96) (j := ja) m179_89 rfl (t_64 _ _) (rfl) (by omega) (Nat.le_of_ble_eq_true rfl) ?_
                refine g_iconst m179_90 ?_
                refine g_istore (L2 := [some (.ref (89)), some (.int (nI (ja))), some (.int (b)), some (.int (v)), some (.int (0))]) m179_91 rfl rfl ?_
                have hs : ja < 4 := by omega
                have key : ∀ (r : Nat) (q : Nat), q + r = 40 → gw xs (WP xs (d + 2)) 179 Q 93 [some (.ref (89)), some (.int (nI (ja))), some (.int (b)), some (.int (v)), some (.int (nI (q)))] [] (H (zrQ (upm (upm m (63) (ja) b) (64) (ja) (0 : Int32)) 65 (40 * ja) q) ln N) 0 0 := by
                  intro r
                  induction r with
                  | zero =>
                    intro q hq
                    obtain rfl : q = 40 := by omega
                    refine g_iload m179_93 rfl ?_
                    refine g_bipush m179_95 ?_
                    refine h_ic_geT (xi := ((40 : Nat) : Int)) (zi := 40) m179_97 (nI_toInt (by omega)) rfl (by omega) ?_
                    refine g_iconst m179_119 ?_
                    refine g_iret m179_120 rt_179 ?_
                    first | (exfalso; omega) | (exact hY0 ja rfl (by omega) (by omega))
                  | succ r ih =>
                    intro q hq
                    refine g_iload m179_93 rfl ?_
                    refine g_bipush m179_95 ?_
                    refine h_ic_geF (xi := ((q : Nat) : Int)) (zi := 40) m179_97 (nI_toInt (by omega)) rfl (by omega) ?_
                    refine g_aload_n m179_100 rfl ?_
                    refine h_gfR (c := 97) (k := 57) (p := 89) m179_101 rfl (t_57 _ _) rfl (Nat.le_of_ble_eq_true rfl) ?_
                    refine g_bipush m179_104 ?_
                    refine g_iload_n m179_106 rfl ?_
                    refine g_imul (u := nI (40 * ja)) m179_107 (pk_mul 40 ja) ?_
                    refine g_iload m179_108 rfl ?_
                    refine g_iadd (u := nI ((40 * ja) + q)) m179_110 (nI_add (40 * ja) q) ?_
                    refine g_iconst m179_111 ?_
                    refine h_ias (k := 65) (p := 97) (j := (40 * ja) + q) m179_112 rfl (t_65 _ _) (rfl) (by omega) (Nat.le_of_ble_eq_true rfl) ?_
                    refine g_iinc (L2 := [some (.ref (89)), some (.int (nI (ja))), some (.int (b)), some (.int (v)), some (.int (nI (q + 1)))]) m179_113 rfl (nI_1 _) rfl rfl ?_
                    refine g_goto m179_116 ?_
                    have h9 := ih (q + 1) (by omega)
                    rw [← zrQ_s] at h9
                    exact h9
                have h9 := key 40 0 (by omega)
                rw [zrQ_0] at h9
                exact h9
              · skip
                refine g_iload_n m179_88 rfl ?_
                refine h_ias (k := 64) (p := 96) (j := ja) m179_89 rfl (t_64 _ _) (rfl) (by omega) (Nat.le_of_ble_eq_true rfl) ?_
                refine g_iconst m179_90 ?_
                refine g_istore (L2 := [some (.ref (89)), some (.int (nI (ja))), some (.int (b)), some (.int (v)), some (.int (0))]) m179_91 rfl rfl ?_
                have hs : ja < 4 := by omega
                have key : ∀ (r : Nat) (q : Nat), q + r = 40 → gw xs (WP xs (d + 2)) 179 Q 93 [some (.ref (89)), some (.int (nI (ja))), some (.int (b)), some (.int (v)), some (.int (nI (q)))] [] (H (zrQ (upm (upm m (63) (ja) b) (64) (ja) v) 65 (40 * ja) q) ln N) 0 0 := by
                  intro r
                  induction r with
                  | zero =>
                    intro q hq
                    obtain rfl : q = 40 := by omega
                    refine g_iload m179_93 rfl ?_
                    refine g_bipush m179_95 ?_
                    refine h_ic_geT (xi := ((40 : Nat) : Int)) (zi := 40) m179_97 (nI_toInt (by omega)) rfl (by omega) ?_
                    refine g_iconst m179_119 ?_
                    refine g_iret m179_120 rt_179 ?_
                    first | (exfalso; omega) | (exact hY1 ja rfl (by omega) (by omega) (by omega) (by omega) (by omega))
                  | succ r ih =>
                    intro q hq
                    refine g_iload m179_93 rfl ?_
                    refine g_bipush m179_95 ?_
                    refine h_ic_geF (xi := ((q : Nat) : Int)) (zi := 40) m179_97 (nI_toInt (by omega)) rfl (by omega) ?_
                    refine g_aload_n m179_100 rfl ?_
                    refine h_gfR (c := 97) (k := 57) (p := 89) m179_101 rfl (t_57 _ _) rfl (Nat.le_of_ble_eq_true rfl) ?_
                    refine g_bipush m179_104 ?_
                    refine g_iload_n m179_106 rfl ?_
                    refine g_imul (u := nI (40 * ja)) m179_107 (pk_mul 40 ja) ?_
                    refine g_iload m179_108 rfl ?_
                    refine g_iadd (u := nI ((40 * ja) + q)) m179_110 (nI_add (40 * ja) q) ?_
                    refine g_iconst m179_111 ?_
                    refine h_ias (k := 65) (p := 97) (j := (40 * ja) + q) m179_112 rfl (t_65 _ _) (rfl) (by omega) (Nat.le_of_ble_eq_true rfl) ?_
                    refine g_iinc (L2 := [some (.ref (89)), some (.int (nI (ja))), some (.int (b)), some (.int (v)), some (.int (nI (q + 1)))]) m179_113 rfl (nI_1 _) rfl rfl ?_
                    refine g_goto m179_116 ?_
                    have h9 := ih (q + 1) (by omega)
                    rw [← zrQ_s] at h9
                    exact h9
                have h9 := key 40 0 (by omega)
                rw [zrQ_0] at h9
                exact h9
            · skip
              refine g_iload_n m179_55 rfl ?_
              refine g_bipush m179_56 ?_
              refine h_ic_le (xi := v.toInt) (zi := 40) m179_58 rfl rfl (fun c21 => ?_) (fun c21 => ?_)
              · skip
                refine g_aload_n m179_68 rfl ?_
                refine h_gfR (c := 95) (k := 57) (p := 89) m179_69 rfl (t_57 _ _) rfl (Nat.le_of_ble_eq_true rfl) ?_
                refine g_iload_n m179_72 rfl ?_
                refine g_iload_n m179_73 rfl ?_
                refine h_ias (k := 63) (p := 95) (j := ja) m179_74 rfl (t_63 _ _) (rfl) (by omega) (Nat.le_of_ble_eq_true rfl) ?_
                refine g_aload_n m179_75 rfl ?_
                refine h_gfR (c := 96) (k := 57) (p := 89) m179_76 rfl (t_57 _ _) rfl (Nat.le_of_ble_eq_true rfl) ?_
                refine g_iload_n m179_79 rfl ?_
                refine g_iload_n m179_80 rfl ?_
                refine h_if_ne (xi := b.toInt) (zi := 0) m179_81 rfl rfl (fun c22 => ?_) (fun c22 => ?_)
                · skip
                  refine g_iconst m179_84 ?_
                  refine g_goto m179_85 ?_
                  refine h_ias (k := 64) (p := 96) (j := ja) m179_89 rfl (t_64 _ _) (rfl) (by omega) (Nat.le_of_ble_eq_true rfl) ?_
                  refine g_iconst m179_90 ?_
                  refine g_istore (L2 := [some (.ref (89)), some (.int (nI (ja))), some (.int (b)), some (.int (v)), some (.int (0))]) m179_91 rfl rfl ?_
                  have hs : ja < 4 := by omega
                  have key : ∀ (r : Nat) (q : Nat), q + r = 40 → gw xs (WP xs (d + 2)) 179 Q 93 [some (.ref (89)), some (.int (nI (ja))), some (.int (b)), some (.int (v)), some (.int (nI (q)))] [] (H (zrQ (upm (upm m (63) (ja) b) (64) (ja) (0 : Int32)) 65 (40 * ja) q) ln N) 0 0 := by
                    intro r
                    induction r with
                    | zero =>
                      intro q hq
                      obtain rfl : q = 40 := by omega
                      refine g_iload m179_93 rfl ?_
                      refine g_bipush m179_95 ?_
                      refine h_ic_geT (xi := ((40 : Nat) : Int)) (zi := 40) m179_97 (nI_toInt (by omega)) rfl (by omega) ?_
                      refine g_iconst m179_119 ?_
                      refine g_iret m179_120 rt_179 ?_
                      first | (exfalso; omega) | (exact hY0 ja rfl (by omega) (by omega))
                    | succ r ih =>
                      intro q hq
                      refine g_iload m179_93 rfl ?_
                      refine g_bipush m179_95 ?_
                      refine h_ic_geF (xi := ((q : Nat) : Int)) (zi := 40) m179_97 (nI_toInt (by omega)) rfl (by omega) ?_
                      refine g_aload_n m179_100 rfl ?_
                      refine h_gfR (c := 97) (k := 57) (p := 89) m179_101 rfl (t_57 _ _) rfl (Nat.le_of_ble_eq_true rfl) ?_
                      refine g_bipush m179_104 ?_
                      refine g_iload_n m179_106 rfl ?_
                      refine g_imul (u := nI (40 * ja)) m179_107 (pk_mul 40 ja) ?_
                      refine g_iload m179_108 rfl ?_
                      refine g_iadd (u := nI ((40 * ja) + q)) m179_110 (nI_add (40 * ja) q) ?_
                      refine g_iconst m179_111 ?_
                      refine h_ias (k := 65) (p := 97) (j := (40 * ja) + q) m179_112 rfl (t_65 _ _) (rfl) (by omega) (Nat.le_of_ble_eq_true rfl) ?_
                      refine g_iinc (L2 := [some (.ref (89)), some (.int (nI (ja))), some (.int (b)), some (.int (v)), some (.int (nI (q + 1)))]) m179_113 rfl (nI_1 _) rfl rfl ?_
                      refine g_goto m179_116 ?_
                      have h9 := ih (q + 1) (by omega)
                      rw [← zrQ_s] at h9
                      exact h9
                  have h9 := key 40 0 (by omega)
                  rw [zrQ_0] at h9
                  exact h9
                · skip
                  refine g_iload_n m179_88 rfl ?_
                  refine h_ias (k := 64) (p := 96) (j := ja) m179_89 rfl (t_64 _ _) (rfl) (by omega) (Nat.le_of_ble_eq_true rfl) ?_
                  refine g_iconst m179_90 ?_
                  refine g_istore (L2 := [some (.ref (89)), some (.int (nI (ja))), some (.int (b)), some (.int (v)), some (.int (0))]) m179_91 rfl rfl ?_
                  have hs : ja < 4 := by omega
                  have key : ∀ (r : Nat) (q : Nat), q + r = 40 → gw xs (WP xs (d + 2)) 179 Q 93 [some (.ref (89)), some (.int (nI (ja))), some (.int (b)), some (.int (v)), some (.int (nI (q)))] [] (H (zrQ (upm (upm m (63) (ja) b) (64) (ja) v) 65 (40 * ja) q) ln N) 0 0 := by
                    intro r
                    induction r with
                    | zero =>
                      intro q hq
                      obtain rfl : q = 40 := by omega
                      refine g_iload m179_93 rfl ?_
                      refine g_bipush m179_95 ?_
                      refine h_ic_geT (xi := ((40 : Nat) : Int)) (zi := 40) m179_97 (nI_toInt (by omega)) rfl (by omega) ?_
                      refine g_iconst m179_119 ?_
                      refine g_iret m179_120 rt_179 ?_
                      first | (exfalso; omega) | (exact hY1 ja rfl (by omega) (by omega) (by omega) (by omega) (by omega))
                    | succ r ih =>
                      intro q hq
                      refine g_iload m179_93 rfl ?_
                      refine g_bipush m179_95 ?_
                      refine h_ic_geF (xi := ((q : Nat) : Int)) (zi := 40) m179_97 (nI_toInt (by omega)) rfl (by omega) ?_
                      refine g_aload_n m179_100 rfl ?_
                      refine h_gfR (c := 97) (k := 57) (p := 89) m179_101 rfl (t_57 _ _) rfl (Nat.le_of_ble_eq_true rfl) ?_
                      refine g_bipush m179_104 ?_
                      refine g_iload_n m179_106 rfl ?_
                      refine g_imul (u := nI (40 * ja)) m179_107 (pk_mul 40 ja) ?_
                      refine g_iload m179_108 rfl ?_
                      refine g_iadd (u := nI ((40 * ja) + q)) m179_110 (nI_add (40 * ja) q) ?_
                      refine g_iconst m179_111 ?_
                      refine h_ias (k := 65) (p := 97) (j := (40 * ja) + q) m179_112 rfl (t_65 _ _) (rfl) (by omega) (Nat.le_of_ble_eq_true rfl) ?_
                      refine g_iinc (L2 := [some (.ref (89)), some (.int (nI (ja))), some (.int (b)), some (.int (v)), some (.int (nI (q + 1)))]) m179_113 rfl (nI_1 _) rfl rfl ?_
                      refine g_goto m179_116 ?_
                      have h9 := ih (q + 1) (by omega)
                      rw [← zrQ_s] at h9
                      exact h9
                  have h9 := key 40 0 (by omega)
                  rw [zrQ_0] at h9
                  exact h9
              · skip
                refine g_aload_n m179_61 rfl ?_
                refine g_ldci m179_62 rfl ?_
                refine h_cv (k := 57) (p := 89) (args := [.int (-1000000001)]) (rest := []) m179_64 cn_108 (Nat.le_of_ble_eq_true rfl) rfl rfl rfl (t_57 _ _) (Nat.le_of_ble_eq_true rfl) ?_
                refine c_errs (e := 1) (by decide) (by decide) (by decide) ?_
                refine gwr ?_
                refine g_iret m179_67 rt_179 ?_
                first | (exfalso; omega) | (exact hE1 (by omega))
          · skip
            refine g_aload_n m179_44 rfl ?_
            refine g_ldci m179_45 rfl ?_
            refine h_cv (k := 57) (p := 89) (args := [.int (-1000000003)]) (rest := []) m179_47 cn_108 (Nat.le_of_ble_eq_true rfl) rfl rfl rfl (t_57 _ _) (Nat.le_of_ble_eq_true rfl) ?_
            refine c_errs (e := 3) (by decide) (by decide) (by decide) ?_
            refine gwr ?_
            refine g_iret m179_50 rt_179 ?_
            first | (exfalso; omega) | (exact hE3 ⟨ja, rfl, by omega, by omega, by omega, by omega⟩)
      · skip
        refine g_iload_n m179_17 rfl ?_
        refine g_bipush m179_18 ?_
        refine h_ic_eq (xi := b.toInt) (zi := 16) m179_20 rfl rfl (fun c23 => ?_) (fun c23 => ?_)
        · skip
          refine g_iload_n m179_36 rfl ?_
          refine h_if_eq (xi := b.toInt) (zi := 0) m179_37 rfl rfl (fun c24 => ?_) (fun c24 => ?_)
          · skip
            refine g_iload_n m179_51 rfl ?_
            refine h_if_eq (xi := b.toInt) (zi := 0) m179_52 rfl rfl (fun c25 => ?_) (fun c25 => ?_)
            · skip
              refine g_aload_n m179_68 rfl ?_
              refine h_gfR (c := 95) (k := 57) (p := 89) m179_69 rfl (t_57 _ _) rfl (Nat.le_of_ble_eq_true rfl) ?_
              refine g_iload_n m179_72 rfl ?_
              refine g_iload_n m179_73 rfl ?_
              refine h_ias (k := 63) (p := 95) (j := ja) m179_74 rfl (t_63 _ _) (rfl) (by omega) (Nat.le_of_ble_eq_true rfl) ?_
              refine g_aload_n m179_75 rfl ?_
              refine h_gfR (c := 96) (k := 57) (p := 89) m179_76 rfl (t_57 _ _) rfl (Nat.le_of_ble_eq_true rfl) ?_
              refine g_iload_n m179_79 rfl ?_
              refine g_iload_n m179_80 rfl ?_
              refine h_if_ne (xi := b.toInt) (zi := 0) m179_81 rfl rfl (fun c26 => ?_) (fun c26 => ?_)
              · skip
                refine g_iconst m179_84 ?_
                refine g_goto m179_85 ?_
                refine h_ias (k := 64) (p := 96) (j := ja) m179_89 rfl (t_64 _ _) (rfl) (by omega) (Nat.le_of_ble_eq_true rfl) ?_
                refine g_iconst m179_90 ?_
                refine g_istore (L2 := [some (.ref (89)), some (.int (nI (ja))), some (.int (b)), some (.int (v)), some (.int (0))]) m179_91 rfl rfl ?_
                have hs : ja < 4 := by omega
                have key : ∀ (r : Nat) (q : Nat), q + r = 40 → gw xs (WP xs (d + 2)) 179 Q 93 [some (.ref (89)), some (.int (nI (ja))), some (.int (b)), some (.int (v)), some (.int (nI (q)))] [] (H (zrQ (upm (upm m (63) (ja) b) (64) (ja) (0 : Int32)) 65 (40 * ja) q) ln N) 0 0 := by
                  intro r
                  induction r with
                  | zero =>
                    intro q hq
                    obtain rfl : q = 40 := by omega
                    refine g_iload m179_93 rfl ?_
                    refine g_bipush m179_95 ?_
                    refine h_ic_geT (xi := ((40 : Nat) : Int)) (zi := 40) m179_97 (nI_toInt (by omega)) rfl (by omega) ?_
                    refine g_iconst m179_119 ?_
                    refine g_iret m179_120 rt_179 ?_
                    first | (exfalso; omega) | (exact hY0 ja rfl (by omega) (by omega))
                  | succ r ih =>
                    intro q hq
                    refine g_iload m179_93 rfl ?_
                    refine g_bipush m179_95 ?_
                    refine h_ic_geF (xi := ((q : Nat) : Int)) (zi := 40) m179_97 (nI_toInt (by omega)) rfl (by omega) ?_
                    refine g_aload_n m179_100 rfl ?_
                    refine h_gfR (c := 97) (k := 57) (p := 89) m179_101 rfl (t_57 _ _) rfl (Nat.le_of_ble_eq_true rfl) ?_
                    refine g_bipush m179_104 ?_
                    refine g_iload_n m179_106 rfl ?_
                    refine g_imul (u := nI (40 * ja)) m179_107 (pk_mul 40 ja) ?_
                    refine g_iload m179_108 rfl ?_
                    refine g_iadd (u := nI ((40 * ja) + q)) m179_110 (nI_add (40 * ja) q) ?_
                    refine g_iconst m179_111 ?_
                    refine h_ias (k := 65) (p := 97) (j := (40 * ja) + q) m179_112 rfl (t_65 _ _) (rfl) (by omega) (Nat.le_of_ble_eq_true rfl) ?_
                    refine g_iinc (L2 := [some (.ref (89)), some (.int (nI (ja))), some (.int (b)), some (.int (v)), some (.int (nI (q + 1)))]) m179_113 rfl (nI_1 _) rfl rfl ?_
                    refine g_goto m179_116 ?_
                    have h9 := ih (q + 1) (by omega)
                    rw [← zrQ_s] at h9
                    exact h9
                have h9 := key 40 0 (by omega)
                rw [zrQ_0] at h9
                exact h9
              · skip
                refine g_iload_n m179_88 rfl ?_
                refine h_ias (k := 64) (p := 96) (j := ja) m179_89 rfl (t_64 _ _) (rfl) (by omega) (Nat.le_of_ble_eq_true rfl) ?_
                refine g_iconst m179_90 ?_
                refine g_istore (L2 := [some (.ref (89)), some (.int (nI (ja))), some (.int (b)), some (.int (v)), some (.int (0))]) m179_91 rfl rfl ?_
                have hs : ja < 4 := by omega
                have key : ∀ (r : Nat) (q : Nat), q + r = 40 → gw xs (WP xs (d + 2)) 179 Q 93 [some (.ref (89)), some (.int (nI (ja))), some (.int (b)), some (.int (v)), some (.int (nI (q)))] [] (H (zrQ (upm (upm m (63) (ja) b) (64) (ja) v) 65 (40 * ja) q) ln N) 0 0 := by
                  intro r
                  induction r with
                  | zero =>
                    intro q hq
                    obtain rfl : q = 40 := by omega
                    refine g_iload m179_93 rfl ?_
                    refine g_bipush m179_95 ?_
                    refine h_ic_geT (xi := ((40 : Nat) : Int)) (zi := 40) m179_97 (nI_toInt (by omega)) rfl (by omega) ?_
                    refine g_iconst m179_119 ?_
                    refine g_iret m179_120 rt_179 ?_
                    first | (exfalso; omega) | (exact hY1 ja rfl (by omega) (by omega) (by omega) (by omega) (by omega))
                  | succ r ih =>
                    intro q hq
                    refine g_iload m179_93 rfl ?_
                    refine g_bipush m179_95 ?_
                    refine h_ic_geF (xi := ((q : Nat) : Int)) (zi := 40) m179_97 (nI_toInt (by omega)) rfl (by omega) ?_
                    refine g_aload_n m179_100 rfl ?_
                    refine h_gfR (c := 97) (k := 57) (p := 89) m179_101 rfl (t_57 _ _) rfl (Nat.le_of_ble_eq_true rfl) ?_
                    refine g_bipush m179_104 ?_
                    refine g_iload_n m179_106 rfl ?_
                    refine g_imul (u := nI (40 * ja)) m179_107 (pk_mul 40 ja) ?_
                    refine g_iload m179_108 rfl ?_
                    refine g_iadd (u := nI ((40 * ja) + q)) m179_110 (nI_add (40 * ja) q) ?_
                    refine g_iconst m179_111 ?_
                    refine h_ias (k := 65) (p := 97) (j := (40 * ja) + q) m179_112 rfl (t_65 _ _) (rfl) (by omega) (Nat.le_of_ble_eq_true rfl) ?_
                    refine g_iinc (L2 := [some (.ref (89)), some (.int (nI (ja))), some (.int (b)), some (.int (v)), some (.int (nI (q + 1)))]) m179_113 rfl (nI_1 _) rfl rfl ?_
                    refine g_goto m179_116 ?_
                    have h9 := ih (q + 1) (by omega)
                    rw [← zrQ_s] at h9
                    exact h9
                have h9 := key 40 0 (by omega)
                rw [zrQ_0] at h9
                exact h9
            · skip
              refine g_iload_n m179_55 rfl ?_
              refine g_bipush m179_56 ?_
              refine h_ic_le (xi := v.toInt) (zi := 40) m179_58 rfl rfl (fun c27 => ?_) (fun c27 => ?_)
              · skip
                refine g_aload_n m179_68 rfl ?_
                refine h_gfR (c := 95) (k := 57) (p := 89) m179_69 rfl (t_57 _ _) rfl (Nat.le_of_ble_eq_true rfl) ?_
                refine g_iload_n m179_72 rfl ?_
                refine g_iload_n m179_73 rfl ?_
                refine h_ias (k := 63) (p := 95) (j := ja) m179_74 rfl (t_63 _ _) (rfl) (by omega) (Nat.le_of_ble_eq_true rfl) ?_
                refine g_aload_n m179_75 rfl ?_
                refine h_gfR (c := 96) (k := 57) (p := 89) m179_76 rfl (t_57 _ _) rfl (Nat.le_of_ble_eq_true rfl) ?_
                refine g_iload_n m179_79 rfl ?_
                refine g_iload_n m179_80 rfl ?_
                refine h_if_ne (xi := b.toInt) (zi := 0) m179_81 rfl rfl (fun c28 => ?_) (fun c28 => ?_)
                · skip
                  refine g_iconst m179_84 ?_
                  refine g_goto m179_85 ?_
                  refine h_ias (k := 64) (p := 96) (j := ja) m179_89 rfl (t_64 _ _) (rfl) (by omega) (Nat.le_of_ble_eq_true rfl) ?_
                  refine g_iconst m179_90 ?_
                  refine g_istore (L2 := [some (.ref (89)), some (.int (nI (ja))), some (.int (b)), some (.int (v)), some (.int (0))]) m179_91 rfl rfl ?_
                  have hs : ja < 4 := by omega
                  have key : ∀ (r : Nat) (q : Nat), q + r = 40 → gw xs (WP xs (d + 2)) 179 Q 93 [some (.ref (89)), some (.int (nI (ja))), some (.int (b)), some (.int (v)), some (.int (nI (q)))] [] (H (zrQ (upm (upm m (63) (ja) b) (64) (ja) (0 : Int32)) 65 (40 * ja) q) ln N) 0 0 := by
                    intro r
                    induction r with
                    | zero =>
                      intro q hq
                      obtain rfl : q = 40 := by omega
                      refine g_iload m179_93 rfl ?_
                      refine g_bipush m179_95 ?_
                      refine h_ic_geT (xi := ((40 : Nat) : Int)) (zi := 40) m179_97 (nI_toInt (by omega)) rfl (by omega) ?_
                      refine g_iconst m179_119 ?_
                      refine g_iret m179_120 rt_179 ?_
                      first | (exfalso; omega) | (exact hY0 ja rfl (by omega) (by omega))
                    | succ r ih =>
                      intro q hq
                      refine g_iload m179_93 rfl ?_
                      refine g_bipush m179_95 ?_
                      refine h_ic_geF (xi := ((q : Nat) : Int)) (zi := 40) m179_97 (nI_toInt (by omega)) rfl (by omega) ?_
                      refine g_aload_n m179_100 rfl ?_
                      refine h_gfR (c := 97) (k := 57) (p := 89) m179_101 rfl (t_57 _ _) rfl (Nat.le_of_ble_eq_true rfl) ?_
                      refine g_bipush m179_104 ?_
                      refine g_iload_n m179_106 rfl ?_
                      refine g_imul (u := nI (40 * ja)) m179_107 (pk_mul 40 ja) ?_
                      refine g_iload m179_108 rfl ?_
                      refine g_iadd (u := nI ((40 * ja) + q)) m179_110 (nI_add (40 * ja) q) ?_
                      refine g_iconst m179_111 ?_
                      refine h_ias (k := 65) (p := 97) (j := (40 * ja) + q) m179_112 rfl (t_65 _ _) (rfl) (by omega) (Nat.le_of_ble_eq_true rfl) ?_
                      refine g_iinc (L2 := [some (.ref (89)), some (.int (nI (ja))), some (.int (b)), some (.int (v)), some (.int (nI (q + 1)))]) m179_113 rfl (nI_1 _) rfl rfl ?_
                      refine g_goto m179_116 ?_
                      have h9 := ih (q + 1) (by omega)
                      rw [← zrQ_s] at h9
                      exact h9
                  have h9 := key 40 0 (by omega)
                  rw [zrQ_0] at h9
                  exact h9
                · skip
                  refine g_iload_n m179_88 rfl ?_
                  refine h_ias (k := 64) (p := 96) (j := ja) m179_89 rfl (t_64 _ _) (rfl) (by omega) (Nat.le_of_ble_eq_true rfl) ?_
                  refine g_iconst m179_90 ?_
                  refine g_istore (L2 := [some (.ref (89)), some (.int (nI (ja))), some (.int (b)), some (.int (v)), some (.int (0))]) m179_91 rfl rfl ?_
                  have hs : ja < 4 := by omega
                  have key : ∀ (r : Nat) (q : Nat), q + r = 40 → gw xs (WP xs (d + 2)) 179 Q 93 [some (.ref (89)), some (.int (nI (ja))), some (.int (b)), some (.int (v)), some (.int (nI (q)))] [] (H (zrQ (upm (upm m (63) (ja) b) (64) (ja) v) 65 (40 * ja) q) ln N) 0 0 := by
                    intro r
                    induction r with
                    | zero =>
                      intro q hq
                      obtain rfl : q = 40 := by omega
                      refine g_iload m179_93 rfl ?_
                      refine g_bipush m179_95 ?_
                      refine h_ic_geT (xi := ((40 : Nat) : Int)) (zi := 40) m179_97 (nI_toInt (by omega)) rfl (by omega) ?_
                      refine g_iconst m179_119 ?_
                      refine g_iret m179_120 rt_179 ?_
                      first | (exfalso; omega) | (exact hY1 ja rfl (by omega) (by omega) (by omega) (by omega) (by omega))
                    | succ r ih =>
                      intro q hq
                      refine g_iload m179_93 rfl ?_
                      refine g_bipush m179_95 ?_
                      refine h_ic_geF (xi := ((q : Nat) : Int)) (zi := 40) m179_97 (nI_toInt (by omega)) rfl (by omega) ?_
                      refine g_aload_n m179_100 rfl ?_
                      refine h_gfR (c := 97) (k := 57) (p := 89) m179_101 rfl (t_57 _ _) rfl (Nat.le_of_ble_eq_true rfl) ?_
                      refine g_bipush m179_104 ?_
                      refine g_iload_n m179_106 rfl ?_
                      refine g_imul (u := nI (40 * ja)) m179_107 (pk_mul 40 ja) ?_
                      refine g_iload m179_108 rfl ?_
                      refine g_iadd (u := nI ((40 * ja) + q)) m179_110 (nI_add (40 * ja) q) ?_
                      refine g_iconst m179_111 ?_
                      refine h_ias (k := 65) (p := 97) (j := (40 * ja) + q) m179_112 rfl (t_65 _ _) (rfl) (by omega) (Nat.le_of_ble_eq_true rfl) ?_
                      refine g_iinc (L2 := [some (.ref (89)), some (.int (nI (ja))), some (.int (b)), some (.int (v)), some (.int (nI (q + 1)))]) m179_113 rfl (nI_1 _) rfl rfl ?_
                      refine g_goto m179_116 ?_
                      have h9 := ih (q + 1) (by omega)
                      rw [← zrQ_s] at h9
                      exact h9
                  have h9 := key 40 0 (by omega)
                  rw [zrQ_0] at h9
                  exact h9
              · skip
                refine g_aload_n m179_61 rfl ?_
                refine g_ldci m179_62 rfl ?_
                refine h_cv (k := 57) (p := 89) (args := [.int (-1000000001)]) (rest := []) m179_64 cn_108 (Nat.le_of_ble_eq_true rfl) rfl rfl rfl (t_57 _ _) (Nat.le_of_ble_eq_true rfl) ?_
                refine c_errs (e := 1) (by decide) (by decide) (by decide) ?_
                refine gwr ?_
                refine g_iret m179_67 rt_179 ?_
                first | (exfalso; omega) | (exact hE1 (by omega))
          · skip
            refine g_iload_n m179_40 rfl ?_
            refine h_if_ge (xi := v.toInt) (zi := 0) m179_41 rfl rfl (fun c29 => ?_) (fun c29 => ?_)
            · skip
              refine g_iload_n m179_51 rfl ?_
              refine h_if_eq (xi := b.toInt) (zi := 0) m179_52 rfl rfl (fun c30 => ?_) (fun c30 => ?_)
              · skip
                refine g_aload_n m179_68 rfl ?_
                refine h_gfR (c := 95) (k := 57) (p := 89) m179_69 rfl (t_57 _ _) rfl (Nat.le_of_ble_eq_true rfl) ?_
                refine g_iload_n m179_72 rfl ?_
                refine g_iload_n m179_73 rfl ?_
                refine h_ias (k := 63) (p := 95) (j := ja) m179_74 rfl (t_63 _ _) (rfl) (by omega) (Nat.le_of_ble_eq_true rfl) ?_
                refine g_aload_n m179_75 rfl ?_
                refine h_gfR (c := 96) (k := 57) (p := 89) m179_76 rfl (t_57 _ _) rfl (Nat.le_of_ble_eq_true rfl) ?_
                refine g_iload_n m179_79 rfl ?_
                refine g_iload_n m179_80 rfl ?_
                refine h_if_ne (xi := b.toInt) (zi := 0) m179_81 rfl rfl (fun c31 => ?_) (fun c31 => ?_)
                · skip
                  refine g_iconst m179_84 ?_
                  refine g_goto m179_85 ?_
                  refine h_ias (k := 64) (p := 96) (j := ja) m179_89 rfl (t_64 _ _) (rfl) (by omega) (Nat.le_of_ble_eq_true rfl) ?_
                  refine g_iconst m179_90 ?_
                  refine g_istore (L2 := [some (.ref (89)), some (.int (nI (ja))), some (.int (b)), some (.int (v)), some (.int (0))]) m179_91 rfl rfl ?_
                  have hs : ja < 4 := by omega
                  have key : ∀ (r : Nat) (q : Nat), q + r = 40 → gw xs (WP xs (d + 2)) 179 Q 93 [some (.ref (89)), some (.int (nI (ja))), some (.int (b)), some (.int (v)), some (.int (nI (q)))] [] (H (zrQ (upm (upm m (63) (ja) b) (64) (ja) (0 : Int32)) 65 (40 * ja) q) ln N) 0 0 := by
                    intro r
                    induction r with
                    | zero =>
                      intro q hq
                      obtain rfl : q = 40 := by omega
                      refine g_iload m179_93 rfl ?_
                      refine g_bipush m179_95 ?_
                      refine h_ic_geT (xi := ((40 : Nat) : Int)) (zi := 40) m179_97 (nI_toInt (by omega)) rfl (by omega) ?_
                      refine g_iconst m179_119 ?_
                      refine g_iret m179_120 rt_179 ?_
                      first | (exfalso; omega) | (exact hY0 ja rfl (by omega) (by omega))
                    | succ r ih =>
                      intro q hq
                      refine g_iload m179_93 rfl ?_
                      refine g_bipush m179_95 ?_
                      refine h_ic_geF (xi := ((q : Nat) : Int)) (zi := 40) m179_97 (nI_toInt (by omega)) rfl (by omega) ?_
                      refine g_aload_n m179_100 rfl ?_
                      refine h_gfR (c := 97) (k := 57) (p := 89) m179_101 rfl (t_57 _ _) rfl (Nat.le_of_ble_eq_true rfl) ?_
                      refine g_bipush m179_104 ?_
                      refine g_iload_n m179_106 rfl ?_
                      refine g_imul (u := nI (40 * ja)) m179_107 (pk_mul 40 ja) ?_
                      refine g_iload m179_108 rfl ?_
                      refine g_iadd (u := nI ((40 * ja) + q)) m179_110 (nI_add (40 * ja) q) ?_
                      refine g_iconst m179_111 ?_
                      refine h_ias (k := 65) (p := 97) (j := (40 * ja) + q) m179_112 rfl (t_65 _ _) (rfl) (by omega) (Nat.le_of_ble_eq_true rfl) ?_
                      refine g_iinc (L2 := [some (.ref (89)), some (.int (nI (ja))), some (.int (b)), some (.int (v)), some (.int (nI (q + 1)))]) m179_113 rfl (nI_1 _) rfl rfl ?_
                      refine g_goto m179_116 ?_
                      have h9 := ih (q + 1) (by omega)
                      rw [← zrQ_s] at h9
                      exact h9
                  have h9 := key 40 0 (by omega)
                  rw [zrQ_0] at h9
                  exact h9
                · skip
                  refine g_iload_n m179_88 rfl ?_
                  refine h_ias (k := 64) (p := 96) (j := ja) m179_89 rfl (t_64 _ _) (rfl) (by omega) (Nat.le_of_ble_eq_true rfl) ?_
                  refine g_iconst m179_90 ?_
                  refine g_istore (L2 := [some (.ref (89)), some (.int (nI (ja))), some (.int (b)), some (.int (v)), some (.int (0))]) m179_91 rfl rfl ?_
                  have hs : ja < 4 := by omega
                  have key : ∀ (r : Nat) (q : Nat), q + r = 40 → gw xs (WP xs (d + 2)) 179 Q 93 [some (.ref (89)), some (.int (nI (ja))), some (.int (b)), some (.int (v)), some (.int (nI (q)))] [] (H (zrQ (upm (upm m (63) (ja) b) (64) (ja) v) 65 (40 * ja) q) ln N) 0 0 := by
                    intro r
                    induction r with
                    | zero =>
                      intro q hq
                      obtain rfl : q = 40 := by omega
                      refine g_iload m179_93 rfl ?_
                      refine g_bipush m179_95 ?_
                      refine h_ic_geT (xi := ((40 : Nat) : Int)) (zi := 40) m179_97 (nI_toInt (by omega)) rfl (by omega) ?_
                      refine g_iconst m179_119 ?_
                      refine g_iret m179_120 rt_179 ?_
                      first | (exfalso; omega) | (exact hY1 ja rfl (by omega) (by omega) (by omega) (by omega) (by omega))
                    | succ r ih =>
                      intro q hq
                      refine g_iload m179_93 rfl ?_
                      refine g_bipush m179_95 ?_
                      refine h_ic_geF (xi := ((q : Nat) : Int)) (zi := 40) m179_97 (nI_toInt (by omega)) rfl (by omega) ?_
                      refine g_aload_n m179_100 rfl ?_
                      refine h_gfR (c := 97) (k := 57) (p := 89) m179_101 rfl (t_57 _ _) rfl (Nat.le_of_ble_eq_true rfl) ?_
                      refine g_bipush m179_104 ?_
                      refine g_iload_n m179_106 rfl ?_
                      refine g_imul (u := nI (40 * ja)) m179_107 (pk_mul 40 ja) ?_
                      refine g_iload m179_108 rfl ?_
                      refine g_iadd (u := nI ((40 * ja) + q)) m179_110 (nI_add (40 * ja) q) ?_
                      refine g_iconst m179_111 ?_
                      refine h_ias (k := 65) (p := 97) (j := (40 * ja) + q) m179_112 rfl (t_65 _ _) (rfl) (by omega) (Nat.le_of_ble_eq_true rfl) ?_
                      refine g_iinc (L2 := [some (.ref (89)), some (.int (nI (ja))), some (.int (b)), some (.int (v)), some (.int (nI (q + 1)))]) m179_113 rfl (nI_1 _) rfl rfl ?_
                      refine g_goto m179_116 ?_
                      have h9 := ih (q + 1) (by omega)
                      rw [← zrQ_s] at h9
                      exact h9
                  have h9 := key 40 0 (by omega)
                  rw [zrQ_0] at h9
                  exact h9
              · skip
                refine g_iload_n m179_55 rfl ?_
                refine g_bipush m179_56 ?_
                refine h_ic_le (xi := v.toInt) (zi := 40) m179_58 rfl rfl (fun c32 => ?_) (fun c32 => ?_)
                · skip
                  refine g_aload_n m179_68 rfl ?_
                  refine h_gfR (c := 95) (k := 57) (p := 89) m179_69 rfl (t_57 _ _) rfl (Nat.le_of_ble_eq_true rfl) ?_
                  refine g_iload_n m179_72 rfl ?_
                  refine g_iload_n m179_73 rfl ?_
                  refine h_ias (k := 63) (p := 95) (j := ja) m179_74 rfl (t_63 _ _) (rfl) (by omega) (Nat.le_of_ble_eq_true rfl) ?_
                  refine g_aload_n m179_75 rfl ?_
                  refine h_gfR (c := 96) (k := 57) (p := 89) m179_76 rfl (t_57 _ _) rfl (Nat.le_of_ble_eq_true rfl) ?_
                  refine g_iload_n m179_79 rfl ?_
                  refine g_iload_n m179_80 rfl ?_
                  refine h_if_ne (xi := b.toInt) (zi := 0) m179_81 rfl rfl (fun c33 => ?_) (fun c33 => ?_)
                  · skip
                    refine g_iconst m179_84 ?_
                    refine g_goto m179_85 ?_
                    refine h_ias (k := 64) (p := 96) (j := ja) m179_89 rfl (t_64 _ _) (rfl) (by omega) (Nat.le_of_ble_eq_true rfl) ?_
                    refine g_iconst m179_90 ?_
                    refine g_istore (L2 := [some (.ref (89)), some (.int (nI (ja))), some (.int (b)), some (.int (v)), some (.int (0))]) m179_91 rfl rfl ?_
                    have hs : ja < 4 := by omega
                    have key : ∀ (r : Nat) (q : Nat), q + r = 40 → gw xs (WP xs (d + 2)) 179 Q 93 [some (.ref (89)), some (.int (nI (ja))), some (.int (b)), some (.int (v)), some (.int (nI (q)))] [] (H (zrQ (upm (upm m (63) (ja) b) (64) (ja) (0 : Int32)) 65 (40 * ja) q) ln N) 0 0 := by
                      intro r
                      induction r with
                      | zero =>
                        intro q hq
                        obtain rfl : q = 40 := by omega
                        refine g_iload m179_93 rfl ?_
                        refine g_bipush m179_95 ?_
                        refine h_ic_geT (xi := ((40 : Nat) : Int)) (zi := 40) m179_97 (nI_toInt (by omega)) rfl (by omega) ?_
                        refine g_iconst m179_119 ?_
                        refine g_iret m179_120 rt_179 ?_
                        first | (exfalso; omega) | (exact hY0 ja rfl (by omega) (by omega))
                      | succ r ih =>
                        intro q hq
                        refine g_iload m179_93 rfl ?_
                        refine g_bipush m179_95 ?_
                        refine h_ic_geF (xi := ((q : Nat) : Int)) (zi := 40) m179_97 (nI_toInt (by omega)) rfl (by omega) ?_
                        refine g_aload_n m179_100 rfl ?_
                        refine h_gfR (c := 97) (k := 57) (p := 89) m179_101 rfl (t_57 _ _) rfl (Nat.le_of_ble_eq_true rfl) ?_
                        refine g_bipush m179_104 ?_
                        refine g_iload_n m179_106 rfl ?_
                        refine g_imul (u := nI (40 * ja)) m179_107 (pk_mul 40 ja) ?_
                        refine g_iload m179_108 rfl ?_
                        refine g_iadd (u := nI ((40 * ja) + q)) m179_110 (nI_add (40 * ja) q) ?_
                        refine g_iconst m179_111 ?_
                        refine h_ias (k := 65) (p := 97) (j := (40 * ja) + q) m179_112 rfl (t_65 _ _) (rfl) (by omega) (Nat.le_of_ble_eq_true rfl) ?_
                        refine g_iinc (L2 := [some (.ref (89)), some (.int (nI (ja))), some (.int (b)), some (.int (v)), some (.int (nI (q + 1)))]) m179_113 rfl (nI_1 _) rfl rfl ?_
                        refine g_goto m179_116 ?_
                        have h9 := ih (q + 1) (by omega)
                        rw [← zrQ_s] at h9
                        exact h9
                    have h9 := key 40 0 (by omega)
                    rw [zrQ_0] at h9
                    exact h9
                  · skip
                    refine g_iload_n m179_88 rfl ?_
                    refine h_ias (k := 64) (p := 96) (j := ja) m179_89 rfl (t_64 _ _) (rfl) (by omega) (Nat.le_of_ble_eq_true rfl) ?_
                    refine g_iconst m179_90 ?_
                    refine g_istore (L2 := [some (.ref (89)), some (.int (nI (ja))), some (.int (b)), some (.int (v)), some (.int (0))]) m179_91 rfl rfl ?_
                    have hs : ja < 4 := by omega
                    have key : ∀ (r : Nat) (q : Nat), q + r = 40 → gw xs (WP xs (d + 2)) 179 Q 93 [some (.ref (89)), some (.int (nI (ja))), some (.int (b)), some (.int (v)), some (.int (nI (q)))] [] (H (zrQ (upm (upm m (63) (ja) b) (64) (ja) v) 65 (40 * ja) q) ln N) 0 0 := by
                      intro r
                      induction r with
                      | zero =>
                        intro q hq
                        obtain rfl : q = 40 := by omega
                        refine g_iload m179_93 rfl ?_
                        refine g_bipush m179_95 ?_
                        refine h_ic_geT (xi := ((40 : Nat) : Int)) (zi := 40) m179_97 (nI_toInt (by omega)) rfl (by omega) ?_
                        refine g_iconst m179_119 ?_
                        refine g_iret m179_120 rt_179 ?_
                        first | (exfalso; omega) | (exact hY1 ja rfl (by omega) (by omega) (by omega) (by omega) (by omega))
                      | succ r ih =>
                        intro q hq
                        refine g_iload m179_93 rfl ?_
                        refine g_bipush m179_95 ?_
                        refine h_ic_geF (xi := ((q : Nat) : Int)) (zi := 40) m179_97 (nI_toInt (by omega)) rfl (by omega) ?_
                        refine g_aload_n m179_100 rfl ?_
                        refine h_gfR (c := 97) (k := 57) (p := 89) m179_101 rfl (t_57 _ _) rfl (Nat.le_of_ble_eq_true rfl) ?_
                        refine g_bipush m179_104 ?_
                        refine g_iload_n m179_106 rfl ?_
                        refine g_imul (u := nI (40 * ja)) m179_107 (pk_mul 40 ja) ?_
                        refine g_iload m179_108 rfl ?_
                        refine g_iadd (u := nI ((40 * ja) + q)) m179_110 (nI_add (40 * ja) q) ?_
                        refine g_iconst m179_111 ?_
                        refine h_ias (k := 65) (p := 97) (j := (40 * ja) + q) m179_112 rfl (t_65 _ _) (rfl) (by omega) (Nat.le_of_ble_eq_true rfl) ?_
                        refine g_iinc (L2 := [some (.ref (89)), some (.int (nI (ja))), some (.int (b)), some (.int (v)), some (.int (nI (q + 1)))]) m179_113 rfl (nI_1 _) rfl rfl ?_
                        refine g_goto m179_116 ?_
                        have h9 := ih (q + 1) (by omega)
                        rw [← zrQ_s] at h9
                        exact h9
                    have h9 := key 40 0 (by omega)
                    rw [zrQ_0] at h9
                    exact h9
                · skip
                  refine g_aload_n m179_61 rfl ?_
                  refine g_ldci m179_62 rfl ?_
                  refine h_cv (k := 57) (p := 89) (args := [.int (-1000000001)]) (rest := []) m179_64 cn_108 (Nat.le_of_ble_eq_true rfl) rfl rfl rfl (t_57 _ _) (Nat.le_of_ble_eq_true rfl) ?_
                  refine c_errs (e := 1) (by decide) (by decide) (by decide) ?_
                  refine gwr ?_
                  refine g_iret m179_67 rt_179 ?_
                  first | (exfalso; omega) | (exact hE1 (by omega))
            · skip
              refine g_aload_n m179_44 rfl ?_
              refine g_ldci m179_45 rfl ?_
              refine h_cv (k := 57) (p := 89) (args := [.int (-1000000003)]) (rest := []) m179_47 cn_108 (Nat.le_of_ble_eq_true rfl) rfl rfl rfl (t_57 _ _) (Nat.le_of_ble_eq_true rfl) ?_
              refine c_errs (e := 3) (by decide) (by decide) (by decide) ?_
              refine gwr ?_
              refine g_iret m179_50 rt_179 ?_
              first | (exfalso; omega) | (exact hE3 ⟨ja, rfl, by omega, by omega, by omega, by omega⟩)
        · skip
          refine g_iload_n m179_23 rfl ?_
          refine g_bipush m179_24 ?_
          refine h_ic_eq (xi := b.toInt) (zi := 32) m179_26 rfl rfl (fun c34 => ?_) (fun c34 => ?_)
          · skip
            refine g_iload_n m179_36 rfl ?_
            refine h_if_eq (xi := b.toInt) (zi := 0) m179_37 rfl rfl (fun c35 => ?_) (fun c35 => ?_)
            · skip
              refine g_iload_n m179_51 rfl ?_
              refine h_if_eq (xi := b.toInt) (zi := 0) m179_52 rfl rfl (fun c36 => ?_) (fun c36 => ?_)
              · skip
                refine g_aload_n m179_68 rfl ?_
                refine h_gfR (c := 95) (k := 57) (p := 89) m179_69 rfl (t_57 _ _) rfl (Nat.le_of_ble_eq_true rfl) ?_
                refine g_iload_n m179_72 rfl ?_
                refine g_iload_n m179_73 rfl ?_
                refine h_ias (k := 63) (p := 95) (j := ja) m179_74 rfl (t_63 _ _) (rfl) (by omega) (Nat.le_of_ble_eq_true rfl) ?_
                refine g_aload_n m179_75 rfl ?_
                refine h_gfR (c := 96) (k := 57) (p := 89) m179_76 rfl (t_57 _ _) rfl (Nat.le_of_ble_eq_true rfl) ?_
                refine g_iload_n m179_79 rfl ?_
                refine g_iload_n m179_80 rfl ?_
                refine h_if_ne (xi := b.toInt) (zi := 0) m179_81 rfl rfl (fun c37 => ?_) (fun c37 => ?_)
                · skip
                  refine g_iconst m179_84 ?_
                  refine g_goto m179_85 ?_
                  refine h_ias (k := 64) (p := 96) (j := ja) m179_89 rfl (t_64 _ _) (rfl) (by omega) (Nat.le_of_ble_eq_true rfl) ?_
                  refine g_iconst m179_90 ?_
                  refine g_istore (L2 := [some (.ref (89)), some (.int (nI (ja))), some (.int (b)), some (.int (v)), some (.int (0))]) m179_91 rfl rfl ?_
                  have hs : ja < 4 := by omega
                  have key : ∀ (r : Nat) (q : Nat), q + r = 40 → gw xs (WP xs (d + 2)) 179 Q 93 [some (.ref (89)), some (.int (nI (ja))), some (.int (b)), some (.int (v)), some (.int (nI (q)))] [] (H (zrQ (upm (upm m (63) (ja) b) (64) (ja) (0 : Int32)) 65 (40 * ja) q) ln N) 0 0 := by
                    intro r
                    induction r with
                    | zero =>
                      intro q hq
                      obtain rfl : q = 40 := by omega
                      refine g_iload m179_93 rfl ?_
                      refine g_bipush m179_95 ?_
                      refine h_ic_geT (xi := ((40 : Nat) : Int)) (zi := 40) m179_97 (nI_toInt (by omega)) rfl (by omega) ?_
                      refine g_iconst m179_119 ?_
                      refine g_iret m179_120 rt_179 ?_
                      first | (exfalso; omega) | (exact hY0 ja rfl (by omega) (by omega))
                    | succ r ih =>
                      intro q hq
                      refine g_iload m179_93 rfl ?_
                      refine g_bipush m179_95 ?_
                      refine h_ic_geF (xi := ((q : Nat) : Int)) (zi := 40) m179_97 (nI_toInt (by omega)) rfl (by omega) ?_
                      refine g_aload_n m179_100 rfl ?_
                      refine h_gfR (c := 97) (k := 57) (p := 89) m179_101 rfl (t_57 _ _) rfl (Nat.le_of_ble_eq_true rfl) ?_
                      refine g_bipush m179_104 ?_
                      refine g_iload_n m179_106 rfl ?_
                      refine g_imul (u := nI (40 * ja)) m179_107 (pk_mul 40 ja) ?_
                      refine g_iload m179_108 rfl ?_
                      refine g_iadd (u := nI ((40 * ja) + q)) m179_110 (nI_add (40 * ja) q) ?_
                      refine g_iconst m179_111 ?_
                      refine h_ias (k := 65) (p := 97) (j := (40 * ja) + q) m179_112 rfl (t_65 _ _) (rfl) (by omega) (Nat.le_of_ble_eq_true rfl) ?_
                      refine g_iinc (L2 := [some (.ref (89)), some (.int (nI (ja))), some (.int (b)), some (.int (v)), some (.int (nI (q + 1)))]) m179_113 rfl (nI_1 _) rfl rfl ?_
                      refine g_goto m179_116 ?_
                      have h9 := ih (q + 1) (by omega)
                      rw [← zrQ_s] at h9
                      exact h9
                  have h9 := key 40 0 (by omega)
                  rw [zrQ_0] at h9
                  exact h9
                · skip
                  refine g_iload_n m179_88 rfl ?_
                  refine h_ias (k := 64) (p := 96) (j := ja) m179_89 rfl (t_64 _ _) (rfl) (by omega) (Nat.le_of_ble_eq_true rfl) ?_
                  refine g_iconst m179_90 ?_
                  refine g_istore (L2 := [some (.ref (89)), some (.int (nI (ja))), some (.int (b)), some (.int (v)), some (.int (0))]) m179_91 rfl rfl ?_
                  have hs : ja < 4 := by omega
                  have key : ∀ (r : Nat) (q : Nat), q + r = 40 → gw xs (WP xs (d + 2)) 179 Q 93 [some (.ref (89)), some (.int (nI (ja))), some (.int (b)), some (.int (v)), some (.int (nI (q)))] [] (H (zrQ (upm (upm m (63) (ja) b) (64) (ja) v) 65 (40 * ja) q) ln N) 0 0 := by
                    intro r
                    induction r with
                    | zero =>
                      intro q hq
                      obtain rfl : q = 40 := by omega
                      refine g_iload m179_93 rfl ?_
                      refine g_bipush m179_95 ?_
                      refine h_ic_geT (xi := ((40 : Nat) : Int)) (zi := 40) m179_97 (nI_toInt (by omega)) rfl (by omega) ?_
                      refine g_iconst m179_119 ?_
                      refine g_iret m179_120 rt_179 ?_
                      first | (exfalso; omega) | (exact hY1 ja rfl (by omega) (by omega) (by omega) (by omega) (by omega))
                    | succ r ih =>
                      intro q hq
                      refine g_iload m179_93 rfl ?_
                      refine g_bipush m179_95 ?_
                      refine h_ic_geF (xi := ((q : Nat) : Int)) (zi := 40) m179_97 (nI_toInt (by omega)) rfl (by omega) ?_
                      refine g_aload_n m179_100 rfl ?_
                      refine h_gfR (c := 97) (k := 57) (p := 89) m179_101 rfl (t_57 _ _) rfl (Nat.le_of_ble_eq_true rfl) ?_
                      refine g_bipush m179_104 ?_
                      refine g_iload_n m179_106 rfl ?_
                      refine g_imul (u := nI (40 * ja)) m179_107 (pk_mul 40 ja) ?_
                      refine g_iload m179_108 rfl ?_
                      refine g_iadd (u := nI ((40 * ja) + q)) m179_110 (nI_add (40 * ja) q) ?_
                      refine g_iconst m179_111 ?_
                      refine h_ias (k := 65) (p := 97) (j := (40 * ja) + q) m179_112 rfl (t_65 _ _) (rfl) (by omega) (Nat.le_of_ble_eq_true rfl) ?_
                      refine g_iinc (L2 := [some (.ref (89)), some (.int (nI (ja))), some (.int (b)), some (.int (v)), some (.int (nI (q + 1)))]) m179_113 rfl (nI_1 _) rfl rfl ?_
                      refine g_goto m179_116 ?_
                      have h9 := ih (q + 1) (by omega)
                      rw [← zrQ_s] at h9
                      exact h9
                  have h9 := key 40 0 (by omega)
                  rw [zrQ_0] at h9
                  exact h9
              · skip
                refine g_iload_n m179_55 rfl ?_
                refine g_bipush m179_56 ?_
                refine h_ic_le (xi := v.toInt) (zi := 40) m179_58 rfl rfl (fun c38 => ?_) (fun c38 => ?_)
                · skip
                  refine g_aload_n m179_68 rfl ?_
                  refine h_gfR (c := 95) (k := 57) (p := 89) m179_69 rfl (t_57 _ _) rfl (Nat.le_of_ble_eq_true rfl) ?_
                  refine g_iload_n m179_72 rfl ?_
                  refine g_iload_n m179_73 rfl ?_
                  refine h_ias (k := 63) (p := 95) (j := ja) m179_74 rfl (t_63 _ _) (rfl) (by omega) (Nat.le_of_ble_eq_true rfl) ?_
                  refine g_aload_n m179_75 rfl ?_
                  refine h_gfR (c := 96) (k := 57) (p := 89) m179_76 rfl (t_57 _ _) rfl (Nat.le_of_ble_eq_true rfl) ?_
                  refine g_iload_n m179_79 rfl ?_
                  refine g_iload_n m179_80 rfl ?_
                  refine h_if_ne (xi := b.toInt) (zi := 0) m179_81 rfl rfl (fun c39 => ?_) (fun c39 => ?_)
                  · skip
                    refine g_iconst m179_84 ?_
                    refine g_goto m179_85 ?_
                    refine h_ias (k := 64) (p := 96) (j := ja) m179_89 rfl (t_64 _ _) (rfl) (by omega) (Nat.le_of_ble_eq_true rfl) ?_
                    refine g_iconst m179_90 ?_
                    refine g_istore (L2 := [some (.ref (89)), some (.int (nI (ja))), some (.int (b)), some (.int (v)), some (.int (0))]) m179_91 rfl rfl ?_
                    have hs : ja < 4 := by omega
                    have key : ∀ (r : Nat) (q : Nat), q + r = 40 → gw xs (WP xs (d + 2)) 179 Q 93 [some (.ref (89)), some (.int (nI (ja))), some (.int (b)), some (.int (v)), some (.int (nI (q)))] [] (H (zrQ (upm (upm m (63) (ja) b) (64) (ja) (0 : Int32)) 65 (40 * ja) q) ln N) 0 0 := by
                      intro r
                      induction r with
                      | zero =>
                        intro q hq
                        obtain rfl : q = 40 := by omega
                        refine g_iload m179_93 rfl ?_
                        refine g_bipush m179_95 ?_
                        refine h_ic_geT (xi := ((40 : Nat) : Int)) (zi := 40) m179_97 (nI_toInt (by omega)) rfl (by omega) ?_
                        refine g_iconst m179_119 ?_
                        refine g_iret m179_120 rt_179 ?_
                        first | (exfalso; omega) | (exact hY0 ja rfl (by omega) (by omega))
                      | succ r ih =>
                        intro q hq
                        refine g_iload m179_93 rfl ?_
                        refine g_bipush m179_95 ?_
                        refine h_ic_geF (xi := ((q : Nat) : Int)) (zi := 40) m179_97 (nI_toInt (by omega)) rfl (by omega) ?_
                        refine g_aload_n m179_100 rfl ?_
                        refine h_gfR (c := 97) (k := 57) (p := 89) m179_101 rfl (t_57 _ _) rfl (Nat.le_of_ble_eq_true rfl) ?_
                        refine g_bipush m179_104 ?_
                        refine g_iload_n m179_106 rfl ?_
                        refine g_imul (u := nI (40 * ja)) m179_107 (pk_mul 40 ja) ?_
                        refine g_iload m179_108 rfl ?_
                        refine g_iadd (u := nI ((40 * ja) + q)) m179_110 (nI_add (40 * ja) q) ?_
                        refine g_iconst m179_111 ?_
                        refine h_ias (k := 65) (p := 97) (j := (40 * ja) + q) m179_112 rfl (t_65 _ _) (rfl) (by omega) (Nat.le_of_ble_eq_true rfl) ?_
                        refine g_iinc (L2 := [some (.ref (89)), some (.int (nI (ja))), some (.int (b)), some (.int (v)), some (.int (nI (q + 1)))]) m179_113 rfl (nI_1 _) rfl rfl ?_
                        refine g_goto m179_116 ?_
                        have h9 := ih (q + 1) (by omega)
                        rw [← zrQ_s] at h9
                        exact h9
                    have h9 := key 40 0 (by omega)
                    rw [zrQ_0] at h9
                    exact h9
                  · skip
                    refine g_iload_n m179_88 rfl ?_
                    refine h_ias (k := 64) (p := 96) (j := ja) m179_89 rfl (t_64 _ _) (rfl) (by omega) (Nat.le_of_ble_eq_true rfl) ?_
                    refine g_iconst m179_90 ?_
                    refine g_istore (L2 := [some (.ref (89)), some (.int (nI (ja))), some (.int (b)), some (.int (v)), some (.int (0))]) m179_91 rfl rfl ?_
                    have hs : ja < 4 := by omega
                    have key : ∀ (r : Nat) (q : Nat), q + r = 40 → gw xs (WP xs (d + 2)) 179 Q 93 [some (.ref (89)), some (.int (nI (ja))), some (.int (b)), some (.int (v)), some (.int (nI (q)))] [] (H (zrQ (upm (upm m (63) (ja) b) (64) (ja) v) 65 (40 * ja) q) ln N) 0 0 := by
                      intro r
                      induction r with
                      | zero =>
                        intro q hq
                        obtain rfl : q = 40 := by omega
                        refine g_iload m179_93 rfl ?_
                        refine g_bipush m179_95 ?_
                        refine h_ic_geT (xi := ((40 : Nat) : Int)) (zi := 40) m179_97 (nI_toInt (by omega)) rfl (by omega) ?_
                        refine g_iconst m179_119 ?_
                        refine g_iret m179_120 rt_179 ?_
                        first | (exfalso; omega) | (exact hY1 ja rfl (by omega) (by omega) (by omega) (by omega) (by omega))
                      | succ r ih =>
                        intro q hq
                        refine g_iload m179_93 rfl ?_
                        refine g_bipush m179_95 ?_
                        refine h_ic_geF (xi := ((q : Nat) : Int)) (zi := 40) m179_97 (nI_toInt (by omega)) rfl (by omega) ?_
                        refine g_aload_n m179_100 rfl ?_
                        refine h_gfR (c := 97) (k := 57) (p := 89) m179_101 rfl (t_57 _ _) rfl (Nat.le_of_ble_eq_true rfl) ?_
                        refine g_bipush m179_104 ?_
                        refine g_iload_n m179_106 rfl ?_
                        refine g_imul (u := nI (40 * ja)) m179_107 (pk_mul 40 ja) ?_
                        refine g_iload m179_108 rfl ?_
                        refine g_iadd (u := nI ((40 * ja) + q)) m179_110 (nI_add (40 * ja) q) ?_
                        refine g_iconst m179_111 ?_
                        refine h_ias (k := 65) (p := 97) (j := (40 * ja) + q) m179_112 rfl (t_65 _ _) (rfl) (by omega) (Nat.le_of_ble_eq_true rfl) ?_
                        refine g_iinc (L2 := [some (.ref (89)), some (.int (nI (ja))), some (.int (b)), some (.int (v)), some (.int (nI (q + 1)))]) m179_113 rfl (nI_1 _) rfl rfl ?_
                        refine g_goto m179_116 ?_
                        have h9 := ih (q + 1) (by omega)
                        rw [← zrQ_s] at h9
                        exact h9
                    have h9 := key 40 0 (by omega)
                    rw [zrQ_0] at h9
                    exact h9
                · skip
                  refine g_aload_n m179_61 rfl ?_
                  refine g_ldci m179_62 rfl ?_
                  refine h_cv (k := 57) (p := 89) (args := [.int (-1000000001)]) (rest := []) m179_64 cn_108 (Nat.le_of_ble_eq_true rfl) rfl rfl rfl (t_57 _ _) (Nat.le_of_ble_eq_true rfl) ?_
                  refine c_errs (e := 1) (by decide) (by decide) (by decide) ?_
                  refine gwr ?_
                  refine g_iret m179_67 rt_179 ?_
                  first | (exfalso; omega) | (exact hE1 (by omega))
            · skip
              refine g_iload_n m179_40 rfl ?_
              refine h_if_ge (xi := v.toInt) (zi := 0) m179_41 rfl rfl (fun c40 => ?_) (fun c40 => ?_)
              · skip
                refine g_iload_n m179_51 rfl ?_
                refine h_if_eq (xi := b.toInt) (zi := 0) m179_52 rfl rfl (fun c41 => ?_) (fun c41 => ?_)
                · skip
                  refine g_aload_n m179_68 rfl ?_
                  refine h_gfR (c := 95) (k := 57) (p := 89) m179_69 rfl (t_57 _ _) rfl (Nat.le_of_ble_eq_true rfl) ?_
                  refine g_iload_n m179_72 rfl ?_
                  refine g_iload_n m179_73 rfl ?_
                  refine h_ias (k := 63) (p := 95) (j := ja) m179_74 rfl (t_63 _ _) (rfl) (by omega) (Nat.le_of_ble_eq_true rfl) ?_
                  refine g_aload_n m179_75 rfl ?_
                  refine h_gfR (c := 96) (k := 57) (p := 89) m179_76 rfl (t_57 _ _) rfl (Nat.le_of_ble_eq_true rfl) ?_
                  refine g_iload_n m179_79 rfl ?_
                  refine g_iload_n m179_80 rfl ?_
                  refine h_if_ne (xi := b.toInt) (zi := 0) m179_81 rfl rfl (fun c42 => ?_) (fun c42 => ?_)
                  · skip
                    refine g_iconst m179_84 ?_
                    refine g_goto m179_85 ?_
                    refine h_ias (k := 64) (p := 96) (j := ja) m179_89 rfl (t_64 _ _) (rfl) (by omega) (Nat.le_of_ble_eq_true rfl) ?_
                    refine g_iconst m179_90 ?_
                    refine g_istore (L2 := [some (.ref (89)), some (.int (nI (ja))), some (.int (b)), some (.int (v)), some (.int (0))]) m179_91 rfl rfl ?_
                    have hs : ja < 4 := by omega
                    have key : ∀ (r : Nat) (q : Nat), q + r = 40 → gw xs (WP xs (d + 2)) 179 Q 93 [some (.ref (89)), some (.int (nI (ja))), some (.int (b)), some (.int (v)), some (.int (nI (q)))] [] (H (zrQ (upm (upm m (63) (ja) b) (64) (ja) (0 : Int32)) 65 (40 * ja) q) ln N) 0 0 := by
                      intro r
                      induction r with
                      | zero =>
                        intro q hq
                        obtain rfl : q = 40 := by omega
                        refine g_iload m179_93 rfl ?_
                        refine g_bipush m179_95 ?_
                        refine h_ic_geT (xi := ((40 : Nat) : Int)) (zi := 40) m179_97 (nI_toInt (by omega)) rfl (by omega) ?_
                        refine g_iconst m179_119 ?_
                        refine g_iret m179_120 rt_179 ?_
                        first | (exfalso; omega) | (exact hY0 ja rfl (by omega) (by omega))
                      | succ r ih =>
                        intro q hq
                        refine g_iload m179_93 rfl ?_
                        refine g_bipush m179_95 ?_
                        refine h_ic_geF (xi := ((q : Nat) : Int)) (zi := 40) m179_97 (nI_toInt (by omega)) rfl (by omega) ?_
                        refine g_aload_n m179_100 rfl ?_
                        refine h_gfR (c := 97) (k := 57) (p := 89) m179_101 rfl (t_57 _ _) rfl (Nat.le_of_ble_eq_true rfl) ?_
                        refine g_bipush m179_104 ?_
                        refine g_iload_n m179_106 rfl ?_
                        refine g_imul (u := nI (40 * ja)) m179_107 (pk_mul 40 ja) ?_
                        refine g_iload m179_108 rfl ?_
                        refine g_iadd (u := nI ((40 * ja) + q)) m179_110 (nI_add (40 * ja) q) ?_
                        refine g_iconst m179_111 ?_
                        refine h_ias (k := 65) (p := 97) (j := (40 * ja) + q) m179_112 rfl (t_65 _ _) (rfl) (by omega) (Nat.le_of_ble_eq_true rfl) ?_
                        refine g_iinc (L2 := [some (.ref (89)), some (.int (nI (ja))), some (.int (b)), some (.int (v)), some (.int (nI (q + 1)))]) m179_113 rfl (nI_1 _) rfl rfl ?_
                        refine g_goto m179_116 ?_
                        have h9 := ih (q + 1) (by omega)
                        rw [← zrQ_s] at h9
                        exact h9
                    have h9 := key 40 0 (by omega)
                    rw [zrQ_0] at h9
                    exact h9
                  · skip
                    refine g_iload_n m179_88 rfl ?_
                    refine h_ias (k := 64) (p := 96) (j := ja) m179_89 rfl (t_64 _ _) (rfl) (by omega) (Nat.le_of_ble_eq_true rfl) ?_
                    refine g_iconst m179_90 ?_
                    refine g_istore (L2 := [some (.ref (89)), some (.int (nI (ja))), some (.int (b)), some (.int (v)), some (.int (0))]) m179_91 rfl rfl ?_
                    have hs : ja < 4 := by omega
                    have key : ∀ (r : Nat) (q : Nat), q + r = 40 → gw xs (WP xs (d + 2)) 179 Q 93 [some (.ref (89)), some (.int (nI (ja))), some (.int (b)), some (.int (v)), some (.int (nI (q)))] [] (H (zrQ (upm (upm m (63) (ja) b) (64) (ja) v) 65 (40 * ja) q) ln N) 0 0 := by
                      intro r
                      induction r with
                      | zero =>
                        intro q hq
                        obtain rfl : q = 40 := by omega
                        refine g_iload m179_93 rfl ?_
                        refine g_bipush m179_95 ?_
                        refine h_ic_geT (xi := ((40 : Nat) : Int)) (zi := 40) m179_97 (nI_toInt (by omega)) rfl (by omega) ?_
                        refine g_iconst m179_119 ?_
                        refine g_iret m179_120 rt_179 ?_
                        first | (exfalso; omega) | (exact hY1 ja rfl (by omega) (by omega) (by omega) (by omega) (by omega))
                      | succ r ih =>
                        intro q hq
                        refine g_iload m179_93 rfl ?_
                        refine g_bipush m179_95 ?_
                        refine h_ic_geF (xi := ((q : Nat) : Int)) (zi := 40) m179_97 (nI_toInt (by omega)) rfl (by omega) ?_
                        refine g_aload_n m179_100 rfl ?_
                        refine h_gfR (c := 97) (k := 57) (p := 89) m179_101 rfl (t_57 _ _) rfl (Nat.le_of_ble_eq_true rfl) ?_
                        refine g_bipush m179_104 ?_
                        refine g_iload_n m179_106 rfl ?_
                        refine g_imul (u := nI (40 * ja)) m179_107 (pk_mul 40 ja) ?_
                        refine g_iload m179_108 rfl ?_
                        refine g_iadd (u := nI ((40 * ja) + q)) m179_110 (nI_add (40 * ja) q) ?_
                        refine g_iconst m179_111 ?_
                        refine h_ias (k := 65) (p := 97) (j := (40 * ja) + q) m179_112 rfl (t_65 _ _) (rfl) (by omega) (Nat.le_of_ble_eq_true rfl) ?_
                        refine g_iinc (L2 := [some (.ref (89)), some (.int (nI (ja))), some (.int (b)), some (.int (v)), some (.int (nI (q + 1)))]) m179_113 rfl (nI_1 _) rfl rfl ?_
                        refine g_goto m179_116 ?_
                        have h9 := ih (q + 1) (by omega)
                        rw [← zrQ_s] at h9
                        exact h9
                    have h9 := key 40 0 (by omega)
                    rw [zrQ_0] at h9
                    exact h9
                · skip
                  refine g_iload_n m179_55 rfl ?_
                  refine g_bipush m179_56 ?_
                  refine h_ic_le (xi := v.toInt) (zi := 40) m179_58 rfl rfl (fun c43 => ?_) (fun c43 => ?_)
                  · skip
                    refine g_aload_n m179_68 rfl ?_
                    refine h_gfR (c := 95) (k := 57) (p := 89) m179_69 rfl (t_57 _ _) rfl (Nat.le_of_ble_eq_true rfl) ?_
                    refine g_iload_n m179_72 rfl ?_
                    refine g_iload_n m179_73 rfl ?_
                    refine h_ias (k := 63) (p := 95) (j := ja) m179_74 rfl (t_63 _ _) (rfl) (by omega) (Nat.le_of_ble_eq_true rfl) ?_
                    refine g_aload_n m179_75 rfl ?_
                    refine h_gfR (c := 96) (k := 57) (p := 89) m179_76 rfl (t_57 _ _) rfl (Nat.le_of_ble_eq_true rfl) ?_
                    refine g_iload_n m179_79 rfl ?_
                    refine g_iload_n m179_80 rfl ?_
                    refine h_if_ne (xi := b.toInt) (zi := 0) m179_81 rfl rfl (fun c44 => ?_) (fun c44 => ?_)
                    · skip
                      refine g_iconst m179_84 ?_
                      refine g_goto m179_85 ?_
                      refine h_ias (k := 64) (p := 96) (j := ja) m179_89 rfl (t_64 _ _) (rfl) (by omega) (Nat.le_of_ble_eq_true rfl) ?_
                      refine g_iconst m179_90 ?_
                      refine g_istore (L2 := [some (.ref (89)), some (.int (nI (ja))), some (.int (b)), some (.int (v)), some (.int (0))]) m179_91 rfl rfl ?_
                      have hs : ja < 4 := by omega
                      have key : ∀ (r : Nat) (q : Nat), q + r = 40 → gw xs (WP xs (d + 2)) 179 Q 93 [some (.ref (89)), some (.int (nI (ja))), some (.int (b)), some (.int (v)), some (.int (nI (q)))] [] (H (zrQ (upm (upm m (63) (ja) b) (64) (ja) (0 : Int32)) 65 (40 * ja) q) ln N) 0 0 := by
                        intro r
                        induction r with
                        | zero =>
                          intro q hq
                          obtain rfl : q = 40 := by omega
                          refine g_iload m179_93 rfl ?_
                          refine g_bipush m179_95 ?_
                          refine h_ic_geT (xi := ((40 : Nat) : Int)) (zi := 40) m179_97 (nI_toInt (by omega)) rfl (by omega) ?_
                          refine g_iconst m179_119 ?_
                          refine g_iret m179_120 rt_179 ?_
                          first | (exfalso; omega) | (exact hY0 ja rfl (by omega) (by omega))
                        | succ r ih =>
                          intro q hq
                          refine g_iload m179_93 rfl ?_
                          refine g_bipush m179_95 ?_
                          refine h_ic_geF (xi := ((q : Nat) : Int)) (zi := 40) m179_97 (nI_toInt (by omega)) rfl (by omega) ?_
                          refine g_aload_n m179_100 rfl ?_
                          refine h_gfR (c := 97) (k := 57) (p := 89) m179_101 rfl (t_57 _ _) rfl (Nat.le_of_ble_eq_true rfl) ?_
                          refine g_bipush m179_104 ?_
                          refine g_iload_n m179_106 rfl ?_
                          refine g_imul (u := nI (40 * ja)) m179_107 (pk_mul 40 ja) ?_
                          refine g_iload m179_108 rfl ?_
                          refine g_iadd (u := nI ((40 * ja) + q)) m179_110 (nI_add (40 * ja) q) ?_
                          refine g_iconst m179_111 ?_
                          refine h_ias (k := 65) (p := 97) (j := (40 * ja) + q) m179_112 rfl (t_65 _ _) (rfl) (by omega) (Nat.le_of_ble_eq_true rfl) ?_
                          refine g_iinc (L2 := [some (.ref (89)), some (.int (nI (ja))), some (.int (b)), some (.int (v)), some (.int (nI (q + 1)))]) m179_113 rfl (nI_1 _) rfl rfl ?_
                          refine g_goto m179_116 ?_
                          have h9 := ih (q + 1) (by omega)
                          rw [← zrQ_s] at h9
                          exact h9
                      have h9 := key 40 0 (by omega)
                      rw [zrQ_0] at h9
                      exact h9
                    · skip
                      refine g_iload_n m179_88 rfl ?_
                      refine h_ias (k := 64) (p := 96) (j := ja) m179_89 rfl (t_64 _ _) (rfl) (by omega) (Nat.le_of_ble_eq_true rfl) ?_
                      refine g_iconst m179_90 ?_
                      refine g_istore (L2 := [some (.ref (89)), some (.int (nI (ja))), some (.int (b)), some (.int (v)), some (.int (0))]) m179_91 rfl rfl ?_
                      have hs : ja < 4 := by omega
                      have key : ∀ (r : Nat) (q : Nat), q + r = 40 → gw xs (WP xs (d + 2)) 179 Q 93 [some (.ref (89)), some (.int (nI (ja))), some (.int (b)), some (.int (v)), some (.int (nI (q)))] [] (H (zrQ (upm (upm m (63) (ja) b) (64) (ja) v) 65 (40 * ja) q) ln N) 0 0 := by
                        intro r
                        induction r with
                        | zero =>
                          intro q hq
                          obtain rfl : q = 40 := by omega
                          refine g_iload m179_93 rfl ?_
                          refine g_bipush m179_95 ?_
                          refine h_ic_geT (xi := ((40 : Nat) : Int)) (zi := 40) m179_97 (nI_toInt (by omega)) rfl (by omega) ?_
                          refine g_iconst m179_119 ?_
                          refine g_iret m179_120 rt_179 ?_
                          first | (exfalso; omega) | (exact hY1 ja rfl (by omega) (by omega) (by omega) (by omega) (by omega))
                        | succ r ih =>
                          intro q hq
                          refine g_iload m179_93 rfl ?_
                          refine g_bipush m179_95 ?_
                          refine h_ic_geF (xi := ((q : Nat) : Int)) (zi := 40) m179_97 (nI_toInt (by omega)) rfl (by omega) ?_
                          refine g_aload_n m179_100 rfl ?_
                          refine h_gfR (c := 97) (k := 57) (p := 89) m179_101 rfl (t_57 _ _) rfl (Nat.le_of_ble_eq_true rfl) ?_
                          refine g_bipush m179_104 ?_
                          refine g_iload_n m179_106 rfl ?_
                          refine g_imul (u := nI (40 * ja)) m179_107 (pk_mul 40 ja) ?_
                          refine g_iload m179_108 rfl ?_
                          refine g_iadd (u := nI ((40 * ja) + q)) m179_110 (nI_add (40 * ja) q) ?_
                          refine g_iconst m179_111 ?_
                          refine h_ias (k := 65) (p := 97) (j := (40 * ja) + q) m179_112 rfl (t_65 _ _) (rfl) (by omega) (Nat.le_of_ble_eq_true rfl) ?_
                          refine g_iinc (L2 := [some (.ref (89)), some (.int (nI (ja))), some (.int (b)), some (.int (v)), some (.int (nI (q + 1)))]) m179_113 rfl (nI_1 _) rfl rfl ?_
                          refine g_goto m179_116 ?_
                          have h9 := ih (q + 1) (by omega)
                          rw [← zrQ_s] at h9
                          exact h9
                      have h9 := key 40 0 (by omega)
                      rw [zrQ_0] at h9
                      exact h9
                  · skip
                    refine g_aload_n m179_61 rfl ?_
                    refine g_ldci m179_62 rfl ?_
                    refine h_cv (k := 57) (p := 89) (args := [.int (-1000000001)]) (rest := []) m179_64 cn_108 (Nat.le_of_ble_eq_true rfl) rfl rfl rfl (t_57 _ _) (Nat.le_of_ble_eq_true rfl) ?_
                    refine c_errs (e := 1) (by decide) (by decide) (by decide) ?_
                    refine gwr ?_
                    refine g_iret m179_67 rt_179 ?_
                    first | (exfalso; omega) | (exact hE1 (by omega))
              · skip
                refine g_aload_n m179_44 rfl ?_
                refine g_ldci m179_45 rfl ?_
                refine h_cv (k := 57) (p := 89) (args := [.int (-1000000003)]) (rest := []) m179_47 cn_108 (Nat.le_of_ble_eq_true rfl) rfl rfl rfl (t_57 _ _) (Nat.le_of_ble_eq_true rfl) ?_
                refine c_errs (e := 3) (by decide) (by decide) (by decide) ?_
                refine gwr ?_
                refine g_iret m179_50 rt_179 ?_
                first | (exfalso; omega) | (exact hE3 ⟨ja, rfl, by omega, by omega, by omega, by omega⟩)
          · skip
            refine g_aload_n m179_29 rfl ?_
            refine g_ldci m179_30 rfl ?_
            refine h_cv (k := 57) (p := 89) (args := [.int (-1000000001)]) (rest := []) m179_32 cn_108 (Nat.le_of_ble_eq_true rfl) rfl rfl rfl (t_57 _ _) (Nat.le_of_ble_eq_true rfl) ?_
            refine c_errs (e := 1) (by decide) (by decide) (by decide) ?_
            refine gwr ?_
            refine g_iret m179_35 rt_179 ?_
            first | (exfalso; omega) | (exact hE1 (by omega))
  · skip
    refine gwr ?_
    refine h_if_eqT (xi := 0) (zi := 0) m179_4 rfl rfl (by decide) ?_
    refine g_aload_n m179_29 rfl ?_
    refine g_ldci m179_30 rfl ?_
    refine h_cv (k := 57) (p := 89) (args := [.int (-1000000001)]) (rest := []) m179_32 cn_108 (Nat.le_of_ble_eq_true rfl) rfl rfl rfl (t_57 _ _) (Nat.le_of_ble_eq_true rfl) ?_
    refine c_errs (e := 1) (by decide) (by decide) (by decide) ?_
    refine gwr ?_
    refine g_iret m179_35 rt_179 ?_
    first | (exfalso; omega) | (exact hE1 (by omega))
set_option maxRecDepth 20000 in
set_option maxHeartbeats 40000000 in
theorem c_lowest {s b : Nat} {v : Int32} (hs : s < 4) (hb : b = 0 ∨ b = 8 ∨ b = 16 ∨ b = 32) (hbm : m (48 + 2 * s) 0 = nI b) (hQ : Q (some (.int (lowF b v))) (H m ln N)) : WP xs (d + 1) 28 0 0 [.ref (80 + 2 * s), .int (v)] (H m ln N) Q := by
  refine wp_x mx_28 (L := [some (.ref (80 + 2 * s)), some (.int (v))]) (Nat.le_of_ble_eq_true rfl) rfl ?_
  rcases hb with rfl | rfl | rfl | rfl
  · skip
    refine g_aload_n m28_0 rfl ?_
    refine h_gfI (k := 48 + 2 * s) (p := 80 + 2 * s) m28_1 (pSo _) (tSo hs) rfl (hbm) ?_
    refine g_bipush m28_4 ?_
    refine h_ic_neF (xi := 0) (zi := 8) m28_6 rfl rfl (by decide) ?_
    refine g_aload_n m28_17 rfl ?_
    refine h_gfI (k := 48 + 2 * s) (p := 80 + 2 * s) m28_18 (pSo _) (tSo hs) rfl (hbm) ?_
    refine g_bipush m28_21 ?_
    refine h_ic_neF (xi := 0) (zi := 16) m28_23 rfl rfl (by decide) ?_
    refine g_iload_n m28_33 rfl ?_
    refine g_iret m28_34 rt_28 ?_
    exact hQ
  · skip
    refine g_aload_n m28_0 rfl ?_
    refine h_gfI (k := 48 + 2 * s) (p := 80 + 2 * s) m28_1 (pSo _) (tSo hs) rfl (hbm) ?_
    refine g_bipush m28_4 ?_
    refine h_ic_neT (xi := 8) (zi := 8) m28_6 rfl rfl (by decide) ?_
    refine g_iload_n m28_9 rfl ?_
    refine g_sipush m28_10 ?_
    refine g_iand m28_13 rfl ?_
    refine g_goto m28_14 ?_
    refine g_iret m28_34 rt_28 ?_
    exact hQ
  · skip
    refine g_aload_n m28_0 rfl ?_
    refine h_gfI (k := 48 + 2 * s) (p := 80 + 2 * s) m28_1 (pSo _) (tSo hs) rfl (hbm) ?_
    refine g_bipush m28_4 ?_
    refine h_ic_neF (xi := 16) (zi := 8) m28_6 rfl rfl (by decide) ?_
    refine g_aload_n m28_17 rfl ?_
    refine h_gfI (k := 48 + 2 * s) (p := 80 + 2 * s) m28_18 (pSo _) (tSo hs) rfl (hbm) ?_
    refine g_bipush m28_21 ?_
    refine h_ic_neT (xi := 16) (zi := 16) m28_23 rfl rfl (by decide) ?_
    refine g_iload_n m28_26 rfl ?_
    refine g_ldci m28_27 rfl ?_
    refine g_iand m28_29 rfl ?_
    refine g_goto m28_30 ?_
    refine g_iret m28_34 rt_28 ?_
    exact hQ
  · skip
    refine g_aload_n m28_0 rfl ?_
    refine h_gfI (k := 48 + 2 * s) (p := 80 + 2 * s) m28_1 (pSo _) (tSo hs) rfl (hbm) ?_
    refine g_bipush m28_4 ?_
    refine h_ic_neF (xi := 32) (zi := 8) m28_6 rfl rfl (by decide) ?_
    refine g_aload_n m28_17 rfl ?_
    refine h_gfI (k := 48 + 2 * s) (p := 80 + 2 * s) m28_18 (pSo _) (tSo hs) rfl (hbm) ?_
    refine g_bipush m28_21 ?_
    refine h_ic_neF (xi := 32) (zi := 16) m28_23 rfl rfl (by decide) ?_
    refine g_iload_n m28_33 rfl ?_
    refine g_iret m28_34 rt_28 ?_
    exact hQ
set_option maxRecDepth 20000 in
set_option maxHeartbeats 40000000 in
theorem c_narrow {b : Nat} {v : Int32} (hb : b = 0 ∨ b = 8 ∨ b = 16 ∨ b = 32) (hQ : Q (some (.int (narF b v))) h) : WP xs (d + 1) 178 0 0 [.int (nI (b)), .int (v)] h Q := by
  refine wp_x mx_178 (L := [some (.int (nI (b))), some (.int (v))]) (Nat.le_of_ble_eq_true rfl) rfl ?_
  rcases hb with rfl | rfl | rfl | rfl
  · skip
    refine gwl (L' := [some (.int (0)), some (.int (v))]) rfl ?_
    refine g_iload_n m178_0 rfl ?_
    refine g_bipush m178_1 ?_
    refine h_ic_neF (xi := 0) (zi := 8) m178_3 rfl rfl (by decide) ?_
    refine g_iload_n m178_11 rfl ?_
    refine g_bipush m178_12 ?_
    refine h_ic_neF (xi := 0) (zi := 16) m178_14 rfl rfl (by decide) ?_
    refine g_iload_n m178_22 rfl ?_
    refine g_iret m178_23 rt_178 ?_
    exact hQ
  · skip
    refine gwl (L' := [some (.int (8)), some (.int (v))]) rfl ?_
    refine g_iload_n m178_0 rfl ?_
    refine g_bipush m178_1 ?_
    refine h_ic_neT (xi := 8) (zi := 8) m178_3 rfl rfl (by decide) ?_
    refine g_iload_n m178_6 rfl ?_
    refine g_i2b m178_7 rfl ?_
    refine g_goto m178_8 ?_
    refine g_iret m178_23 rt_178 ?_
    exact hQ
  · skip
    refine gwl (L' := [some (.int (16)), some (.int (v))]) rfl ?_
    refine g_iload_n m178_0 rfl ?_
    refine g_bipush m178_1 ?_
    refine h_ic_neF (xi := 16) (zi := 8) m178_3 rfl rfl (by decide) ?_
    refine g_iload_n m178_11 rfl ?_
    refine g_bipush m178_12 ?_
    refine h_ic_neT (xi := 16) (zi := 16) m178_14 rfl rfl (by decide) ?_
    refine g_iload_n m178_17 rfl ?_
    refine g_i2s m178_18 rfl ?_
    refine g_goto m178_19 ?_
    refine g_iret m178_23 rt_178 ?_
    exact hQ
  · skip
    refine gwl (L' := [some (.int (32)), some (.int (v))]) rfl ?_
    refine g_iload_n m178_0 rfl ?_
    refine g_bipush m178_1 ?_
    refine h_ic_neF (xi := 32) (zi := 8) m178_3 rfl rfl (by decide) ?_
    refine g_iload_n m178_11 rfl ?_
    refine g_bipush m178_12 ?_
    refine h_ic_neF (xi := 32) (zi := 16) m178_14 rfl rfl (by decide) ?_
    refine g_iload_n m178_22 rfl ?_
    refine g_iret m178_23 rt_178 ?_
    exact hQ
set_option maxRecDepth 20000 in
set_option maxHeartbeats 40000000 in
theorem x_put {a i v : Int32} {B Ln : Nat → Nat} (hB : ∀ s, s < 4 → (B s = 0 ∨ B s = 8 ∨ B s = 16 ∨ B s = 32) ∧ Ln s ≤ 40 ∧ m (48 + 2 * s) 0 = nI (B s) ∧ m (48 + 2 * s) 1 = nI (Ln s)) (hE1 : ((a.toInt < 0 ∨ 3 < a.toInt) ∨ ∃ s : Nat, a = nI s ∧ s < 4 ∧ B s ≠ 0 ∧ (i.toInt < 0 ∨ (Ln s : Int) ≤ i.toInt)) → Q (some (.int (-1000000000 - nI 1))) (H (erm m 1) ln N)) (hE2 : (∃ s : Nat, a = nI s ∧ s < 4 ∧ B s = 0) → Q (some (.int (-1000000000 - nI 2))) (H (erm m 2) ln N)) (hY : ∀ s i2 : Nat, a = nI s → s < 4 → B s ≠ 0 → i = nI i2 → i2 < Ln s → Q (some (.int 1)) (H (upm m (49 + 2 * s) i2 (lowF (B s) v)) ln N)) : WP xs (d + 3) 96 0 0 [.ref (32), .int (a), .int (i), .int (v)] (H m ln N) Q := by
  refine wp_x mx_96 (L := [some (.ref (32)), some (.int (a)), some (.int (i)), some (.int (v)), none]) (Nat.le_of_ble_eq_true rfl) rfl ?_
  refine g_iload_n m96_0 rfl ?_
  refine g_iconst m96_1 ?_
  refine g_cs (args := [.int (a), .int (3)]) (rest := []) 0 (Or.inl rfl) m96_2 (Nat.le_of_ble_eq_true rfl) rfl rfl (Nat.le_of_ble_eq_true rfl) ?_
  refine c_within (M := 3) rfl (fun ja ea a_3 => ?_) (fun a_3 => ?_)
  · subst ea
    refine gwr ?_
    refine h_if_neF (xi := 1) (zi := 0) m96_5 rfl rfl (by decide) ?_
    refine g_aload_n m96_14 rfl ?_
    refine h_gfR (c := 79) (k := 0) (p := 32) m96_15 rfl (t_0 _ _) rfl (Nat.le_of_ble_eq_true rfl) ?_
    refine g_iload_n m96_18 rfl ?_
    have hs : ja < 4 := by omega
    have hBa := hB ja hs
    refine h_aald (j := ja) (c := 80 + 2 * ja) m96_19 rfl (t_47 _ _) (rfl) (sh_at hs) (le3 (Nat.le_of_ble_eq_true rfl)) (Nat.le_of_ble_eq_true rfl) ?_
    refine g_astore (L2 := [some (.ref (32)), some (.int (nI (ja))), some (.int (i)), some (.int (v)), some (.ref (80 + 2 * ja))]) m96_20 rfl rfl ?_
    refine g_aload m96_22 rfl ?_
    refine h_gfI (k := 48 + 2 * ja) (p := 80 + 2 * ja) m96_24 (pSo _) (tSo hs) rfl (hBa.2.2.1) ?_
    refine h_if_ne (xi := ((B ja : Nat) : Int)) (zi := 0) m96_27 (nI_toInt (by omega)) rfl (fun c1 => ?_) (fun c1 => ?_)
    · skip
      refine g_aload_n m96_30 rfl ?_
      refine g_iconst m96_31 ?_
      refine h_cv (k := 0) (p := 32) (args := [.int (2)]) (rest := []) m96_32 cn_55 (Nat.le_of_ble_eq_true rfl) rfl rfl rfl (t_0 _ _) (Nat.le_of_ble_eq_true rfl) ?_
      refine c_error (e := 2) (by decide) (by decide) ?_
      refine gwr ?_
      refine g_iret m96_35 rt_96 ?_
      exact hE2 ⟨ja, rfl, by omega, by omega⟩
    · skip
      refine g_iload_n m96_36 rfl ?_
      refine h_if_lt (xi := i.toInt) (zi := 0) m96_37 rfl rfl (fun c2 => ?_) (fun c2 => ?_)
      · skip
        refine g_aload_n m96_49 rfl ?_
        refine g_iconst m96_50 ?_
        refine h_cv (k := 0) (p := 32) (args := [.int (1)]) (rest := []) m96_51 cn_55 (Nat.le_of_ble_eq_true rfl) rfl rfl rfl (t_0 _ _) (Nat.le_of_ble_eq_true rfl) ?_
        refine c_error (e := 1) (by decide) (by decide) ?_
        refine gwr ?_
        refine g_iret m96_54 rt_96 ?_
        first | (exact hE1 (Or.inl (by omega))) | (exact hE1 (Or.inr ⟨ja, rfl, by omega, by omega, by omega⟩))
      · skip
        refine g_iload_n m96_40 rfl ?_
        refine g_aload m96_41 rfl ?_
        refine h_gfI (k := 48 + 2 * ja) (p := 80 + 2 * ja) m96_43 (pSo _) (tSo hs) rfl (hBa.2.2.2) ?_
        refine h_ic_lt (xi := i.toInt) (zi := ((Ln ja : Nat) : Int)) m96_46 rfl (nI_toInt (by omega)) (fun c3 => ?_) (fun c3 => ?_)
        · skip
          obtain ⟨ji, ⟨hi1, hi2⟩, hi3⟩ := nat_of (x := i) (lo := 0) (hi := Ln ja) (by omega) (by omega)
          have ei : i.toInt = (ji : Int) := by rw [hi3]; exact nI_toInt (by omega)
          obtain rfl : i = nI ji := hi3
          refine g_aload m96_55 rfl ?_
          refine h_gfR (c := 81 + 2 * ja) (k := 48 + 2 * ja) (p := 80 + 2 * ja) m96_57 (pSo _) (tSo hs) rfl (le3 (Nat.le_of_ble_eq_true rfl)) ?_
          refine g_iload_n m96_60 rfl ?_
          refine g_aload m96_61 rfl ?_
          refine g_iload_n m96_63 rfl ?_
          refine h_cv (k := 48 + 2 * ja) (p := 80 + 2 * ja) (args := [.int (v)]) (rest := [.int (nI (ji)), .ref (81 + 2 * ja)]) m96_64 cn_28 (Nat.le_of_ble_eq_true rfl) rfl rfl (pSo _) (tSo hs) (Nat.le_of_ble_eq_true rfl) ?_
          refine c_lowest hs hBa.1 hBa.2.2.1 ?_
          refine gwr ?_
          refine h_ias (k := 49 + 2 * ja) (p := 81 + 2 * ja) (j := ji) m96_67 (pSn _) (tSn hs) (rfl) (by omega) (Nat.le_of_ble_eq_true rfl) ?_
          refine g_iconst m96_68 ?_
          refine g_iret m96_69 rt_96 ?_
          exact hY ja ji rfl (by omega) (by omega) rfl (by omega)
        · skip
          refine g_aload_n m96_49 rfl ?_
          refine g_iconst m96_50 ?_
          refine h_cv (k := 0) (p := 32) (args := [.int (1)]) (rest := []) m96_51 cn_55 (Nat.le_of_ble_eq_true rfl) rfl rfl rfl (t_0 _ _) (Nat.le_of_ble_eq_true rfl) ?_
          refine c_error (e := 1) (by decide) (by decide) ?_
          refine gwr ?_
          refine g_iret m96_54 rt_96 ?_
          first | (exact hE1 (Or.inl (by omega))) | (exact hE1 (Or.inr ⟨ja, rfl, by omega, by omega, by omega⟩))
  · skip
    refine gwr ?_
    refine h_if_neT (xi := 0) (zi := 0) m96_5 rfl rfl (by decide) ?_
    refine g_aload_n m96_8 rfl ?_
    refine g_iconst m96_9 ?_
    refine h_cv (k := 0) (p := 32) (args := [.int (1)]) (rest := []) m96_10 cn_55 (Nat.le_of_ble_eq_true rfl) rfl rfl rfl (t_0 _ _) (Nat.le_of_ble_eq_true rfl) ?_
    refine c_error (e := 1) (by decide) (by decide) ?_
    refine gwr ?_
    refine g_iret m96_13 rt_96 ?_
    first | (exact hE1 (Or.inl (by omega))) | (exact hE1 (Or.inr ⟨ja, rfl, by omega, by omega, by omega⟩))
set_option maxRecDepth 20000 in
set_option maxHeartbeats 40000000 in
theorem m_put {a i v : Int32} {B Ln : Nat → Nat} (hB : ∀ s, s < 4 → (B s = 0 ∨ B s = 8 ∨ B s = 16 ∨ B s = 32) ∧ Ln s ≤ 40 ∧ m 63 s = nI (B s) ∧ m 64 s = nI (Ln s)) (hE1 : ((a.toInt < 0 ∨ 3 < a.toInt) ∨ ∃ s : Nat, a = nI s ∧ s < 4 ∧ B s ≠ 0 ∧ (i.toInt < 0 ∨ (Ln s : Int) ≤ i.toInt)) → Q (some (.int (-1000000001))) (H (ers m 1) ln N)) (hE2 : (∃ s : Nat, a = nI s ∧ s < 4 ∧ B s = 0) → Q (some (.int (-1000000002))) (H (ers m 2) ln N)) (hY : ∀ s i2 : Nat, a = nI s → s < 4 → B s ≠ 0 → i = nI i2 → i2 < Ln s → Q (some (.int 1)) (H (upm m 65 (40 * s + i2) (narF (B s) v)) ln N)) : WP xs (d + 3) 180 0 0 [.ref (89), .int (a), .int (i), .int (v)] (H m ln N) Q := by
  refine wp_x mx_180 (L := [some (.ref (89)), some (.int (a)), some (.int (i)), some (.int (v))]) (Nat.le_of_ble_eq_true rfl) rfl ?_
  refine g_iload_n m180_0 rfl ?_
  refine g_cs (args := [.int (a)]) (rest := []) 0 (Or.inl rfl) m180_1 (Nat.le_of_ble_eq_true rfl) rfl rfl (Nat.le_of_ble_eq_true rfl) ?_
  refine c_isSheet (fun ja ea a_4 => ?_) (fun a_4 => ?_)
  · subst ea
    refine gwr ?_
    refine h_if_neF (xi := 1) (zi := 0) m180_4 rfl rfl (by decide) ?_
    refine g_aload_n m180_14 rfl ?_
    refine h_gfR (c := 95) (k := 57) (p := 89) m180_15 rfl (t_57 _ _) rfl (Nat.le_of_ble_eq_true rfl) ?_
    refine g_iload_n m180_18 rfl ?_
    have hs : ja < 4 := by omega
    have hBa := hB ja hs
    refine h_ial (k := 63) (p := 95) (j := ja) m180_19 rfl (t_63 _ _) (rfl) (by omega) (Nat.le_of_ble_eq_true rfl) (hBa.2.2.1) ?_
    refine h_if_ne (xi := ((B ja : Nat) : Int)) (zi := 0) m180_20 (nI_toInt (by omega)) rfl (fun c1 => ?_) (fun c1 => ?_)
    · skip
      refine g_aload_n m180_23 rfl ?_
      refine g_ldci m180_24 rfl ?_
      refine h_cv (k := 57) (p := 89) (args := [.int (-1000000002)]) (rest := []) m180_26 cn_108 (Nat.le_of_ble_eq_true rfl) rfl rfl rfl (t_57 _ _) (Nat.le_of_ble_eq_true rfl) ?_
      refine c_errs (e := 2) (by decide) (by decide) (by decide) ?_
      refine gwr ?_
      refine g_iret m180_29 rt_180 ?_
      exact hE2 ⟨ja, rfl, by omega, by omega⟩
    · skip
      refine g_iload_n m180_30 rfl ?_
      refine g_iconst m180_31 ?_
      refine g_aload_n m180_32 rfl ?_
      refine h_gfR (c := 96) (k := 57) (p := 89) m180_33 rfl (t_57 _ _) rfl (Nat.le_of_ble_eq_true rfl) ?_
      refine g_iload_n m180_36 rfl ?_
      refine h_ial (k := 64) (p := 96) (j := ja) m180_37 rfl (t_64 _ _) (rfl) (by omega) (Nat.le_of_ble_eq_true rfl) (hBa.2.2.2) ?_
      refine g_iconst m180_38 ?_
      refine g_isub m180_39 rfl ?_
      refine g_cs (args := [.int (i), .int (0), .int ((nI (Ln ja) - 1))]) (rest := []) 0 (Or.inl rfl) m180_40 (Nat.le_of_ble_eq_true rfl) rfl rfl (Nat.le_of_ble_eq_true rfl) ?_
      refine c_in (A := 0) (B := (((Ln ja : Nat) : Int) - 1)) rfl (by rw [sub_k (a := ((Ln ja : Nat) : Int)) (b := 1) (nI_toInt (by omega)) rfl (by omega) (by omega)]) (by decide) (fun ji ei a_5 a_5' => ?_) (fun a_5 => ?_)
      · subst ei
        refine gwr ?_
        refine h_if_neF (xi := 1) (zi := 0) m180_43 rfl rfl (by decide) ?_
        refine g_aload_n m180_53 rfl ?_
        refine h_gfR (c := 97) (k := 57) (p := 89) m180_54 rfl (t_57 _ _) rfl (Nat.le_of_ble_eq_true rfl) ?_
        refine g_bipush m180_57 ?_
        refine g_iload_n m180_59 rfl ?_
        refine g_imul (u := nI (40 * ja)) m180_60 (pk_mul 40 ja) ?_
        refine g_iload_n m180_61 rfl ?_
        refine g_iadd (u := nI ((40 * ja) + ji)) m180_62 (nI_add (40 * ja) ji) ?_
        refine g_aload_n m180_63 rfl ?_
        refine h_gfR (c := 95) (k := 57) (p := 89) m180_64 rfl (t_57 _ _) rfl (Nat.le_of_ble_eq_true rfl) ?_
        refine g_iload_n m180_67 rfl ?_
        refine h_ial (k := 63) (p := 95) (j := ja) m180_68 rfl (t_63 _ _) (rfl) (by omega) (Nat.le_of_ble_eq_true rfl) (hBa.2.2.1) ?_
        refine g_iload_n m180_69 rfl ?_
        refine g_cs (args := [.int (nI (B ja)), .int (v)]) (rest := [.int (nI ((40 * ja) + ji)), .ref (97)]) 0 (Or.inl rfl) m180_70 (Nat.le_of_ble_eq_true rfl) rfl rfl (Nat.le_of_ble_eq_true rfl) ?_
        refine c_narrow hBa.1 ?_
        refine gwr ?_
        refine h_ias (k := 65) (p := 97) (j := (40 * ja) + ji) m180_73 rfl (t_65 _ _) (rfl) (by omega) (Nat.le_of_ble_eq_true rfl) ?_
        refine g_iconst m180_74 ?_
        refine g_iret m180_75 rt_180 ?_
        exact hY ja ji rfl (by omega) (by omega) rfl (by omega)
      · skip
        refine gwr ?_
        refine h_if_neT (xi := 0) (zi := 0) m180_43 rfl rfl (by decide) ?_
        refine g_aload_n m180_46 rfl ?_
        refine g_ldci m180_47 rfl ?_
        refine h_cv (k := 57) (p := 89) (args := [.int (-1000000001)]) (rest := []) m180_49 cn_108 (Nat.le_of_ble_eq_true rfl) rfl rfl rfl (t_57 _ _) (Nat.le_of_ble_eq_true rfl) ?_
        refine c_errs (e := 1) (by decide) (by decide) (by decide) ?_
        refine gwr ?_
        refine g_iret m180_52 rt_180 ?_
        first | (exact hE1 (Or.inl (by omega))) | (exact hE1 (Or.inr ⟨ja, rfl, by omega, by omega, by omega⟩))
  · skip
    refine gwr ?_
    refine h_if_neT (xi := 0) (zi := 0) m180_4 rfl rfl (by decide) ?_
    refine g_aload_n m180_7 rfl ?_
    refine g_ldci m180_8 rfl ?_
    refine h_cv (k := 57) (p := 89) (args := [.int (-1000000001)]) (rest := []) m180_10 cn_108 (Nat.le_of_ble_eq_true rfl) rfl rfl rfl (t_57 _ _) (Nat.le_of_ble_eq_true rfl) ?_
    refine c_errs (e := 1) (by decide) (by decide) (by decide) ?_
    refine gwr ?_
    refine g_iret m180_13 rt_180 ?_
    first | (exact hE1 (Or.inl (by omega))) | (exact hE1 (Or.inr ⟨ja, rfl, by omega, by omega, by omega⟩))
set_option maxRecDepth 20000 in
set_option maxHeartbeats 40000000 in
theorem x_shams {a : Int32} {n : Nat} {B Ln : Nat → Nat} (hd : m 1 10 = nI n) (hn : n ≤ 8) (hB : ∀ s, s < 4 → (B s = 0 ∨ B s = 8 ∨ B s = 16 ∨ B s = 32) ∧ Ln s ≤ 40 ∧ m (48 + 2 * s) 0 = nI (B s) ∧ m (48 + 2 * s) 1 = nI (Ln s)) (hE1 : (a.toInt < 0 ∨ 3 < a.toInt) → Q (some (.int (-1000000000 - nI 1))) (H (erm m 1) ln N)) (hE2 : (∃ s : Nat, a = nI s ∧ s < 4 ∧ B s = 0) → Q (some (.int (-1000000000 - nI 2))) (H (erm m 2) ln N)) (hY : ∀ s : Nat, a = nI s → s < 4 → B s ≠ 0 → Q (some (.int (nI (runF (fun q => decide (0 ≤ (m (49 + 2 * s) q).toInt ∧ (m (49 + 2 * s) q).toInt ≤ 9)) (min (Ln s) n) 0)))) (H (shM m (49 + 2 * s) (runF (fun q => decide (0 ≤ (m (49 + 2 * s) q).toInt ∧ (m (49 + 2 * s) q).toInt ≤ 9)) (min (Ln s) n) 0)) ln N)) : WP xs (d + 2) 98 0 0 [.ref (32), .int (a)] (H m ln N) Q := by
  refine wp_x mx_98 (L := [some (.ref (32)), some (.int (a)), none, none, none]) (Nat.le_of_ble_eq_true rfl) rfl ?_
  refine g_iload_n m98_0 rfl ?_
  refine g_iconst m98_1 ?_
  refine g_cs (args := [.int (a), .int (3)]) (rest := []) 0 (Or.inl rfl) m98_2 (Nat.le_of_ble_eq_true rfl) rfl rfl (Nat.le_of_ble_eq_true rfl) ?_
  refine c_within (M := 3) rfl (fun ja ea a_6 => ?_) (fun a_6 => ?_)
  · subst ea
    refine gwr ?_
    refine h_if_neF (xi := 1) (zi := 0) m98_5 rfl rfl (by decide) ?_
    refine g_aload_n m98_14 rfl ?_
    refine h_gfR (c := 79) (k := 0) (p := 32) m98_15 rfl (t_0 _ _) rfl (Nat.le_of_ble_eq_true rfl) ?_
    refine g_iload_n m98_18 rfl ?_
    have hs : ja < 4 := by omega
    have hBa := hB ja hs
    refine h_aald (j := ja) (c := 80 + 2 * ja) m98_19 rfl (t_47 _ _) (rfl) (sh_at hs) (le3 (Nat.le_of_ble_eq_true rfl)) (Nat.le_of_ble_eq_true rfl) ?_
    refine g_astore_n (L2 := [some (.ref (32)), some (.int (nI (ja))), some (.ref (80 + 2 * ja)), none, none]) m98_20 rfl rfl ?_
    refine g_aload_n m98_21 rfl ?_
    refine h_gfI (k := 48 + 2 * ja) (p := 80 + 2 * ja) m98_22 (pSo _) (tSo hs) rfl (hBa.2.2.1) ?_
    refine h_if_ne (xi := ((B ja : Nat) : Int)) (zi := 0) m98_25 (nI_toInt (by omega)) rfl (fun c1 => ?_) (fun c1 => ?_)
    · skip
      refine g_aload_n m98_28 rfl ?_
      refine g_iconst m98_29 ?_
      refine h_cv (k := 0) (p := 32) (args := [.int (2)]) (rest := []) m98_30 cn_55 (Nat.le_of_ble_eq_true rfl) rfl rfl rfl (t_0 _ _) (Nat.le_of_ble_eq_true rfl) ?_
      refine c_error (e := 2) (by decide) (by decide) ?_
      refine gwr ?_
      refine g_iret m98_33 rt_98 ?_
      exact hE2 ⟨ja, rfl, by omega, by omega⟩
    · skip
      refine g_aload_n m98_34 rfl ?_
      refine h_gfI (k := 48 + 2 * ja) (p := 80 + 2 * ja) m98_35 (pSo _) (tSo hs) rfl (hBa.2.2.2) ?_
      refine g_aload_n m98_38 rfl ?_
      refine h_gfR (c := 33) (k := 0) (p := 32) m98_39 rfl (t_0 _ _) rfl (Nat.le_of_ble_eq_true rfl) ?_
      refine h_gfI (k := 1) (p := 33) m98_42 rfl (t_1 _ _) rfl (hd) ?_
      refine g_min (u := nI (min (Ln ja) n)) m98_45 (Nat.le_of_ble_eq_true rfl) (min_n (by omega) (by omega)) ?_
      refine g_istore_n (L2 := [some (.ref (32)), some (.int (nI (ja))), some (.ref (80 + 2 * ja)), some (.int (nI (min (Ln ja) n))), none]) m98_48 rfl rfl ?_
      refine g_iconst m98_49 ?_
      refine g_istore (L2 := [some (.ref (32)), some (.int (nI (ja))), some (.ref (80 + 2 * ja)), some (.int (nI (min (Ln ja) n))), some (.int (0))]) m98_50 rfl rfl ?_
      have key : ∀ (r : Nat) (q : Nat), q + r = min (Ln ja) n → runF (fun q => decide (0 ≤ (m (49 + 2 * ja) q).toInt ∧ (m (49 + 2 * ja) q).toInt ≤ 9)) r q = runF (fun q => decide (0 ≤ (m (49 + 2 * ja) q).toInt ∧ (m (49 + 2 * ja) q).toInt ≤ 9)) (min (Ln ja) n) 0 → gw xs (WP xs (d + 1)) 98 Q 52 [some (.ref (32)), some (.int (nI (ja))), some (.ref (80 + 2 * ja)), some (.int (nI (min (Ln ja) n))), some (.int (nI (q)))] [] (H (shM m (49 + 2 * ja) q) ln N) 0 0 := by
        intro r
        induction r with
        | zero =>
          intro q hq hfin
          have hmn : min (Ln ja) n = q := by omega
          refine g_iload m98_52 rfl ?_
          refine g_iload_n m98_54 rfl ?_
          refine h_ic_geT (xi := ((q : Nat) : Int)) (zi := ((min (Ln ja) n : Nat) : Int)) m98_55 (nI_toInt (by omega)) (nI_toInt (by omega)) (by omega) ?_
          refine g_iload_n m98_99 rfl ?_
          refine g_iret m98_100 rt_98 ?_
          rw [hmn]
          have h9 := hY ja rfl (by omega) (by omega)
          rw [← hfin] at h9
          exact h9
        | succ r ih =>
          intro q hq hfin
          refine g_iload m98_52 rfl ?_
          refine g_iload_n m98_54 rfl ?_
          refine h_ic_geF (xi := ((q : Nat) : Int)) (zi := ((min (Ln ja) n : Nat) : Int)) m98_55 (nI_toInt (by omega)) (nI_toInt (by omega)) (by omega) ?_
          refine g_aload_n m98_58 rfl ?_
          refine h_gfR (c := 81 + 2 * ja) (k := 48 + 2 * ja) (p := 80 + 2 * ja) m98_59 (pSo _) (tSo hs) rfl (le3 (Nat.le_of_ble_eq_true rfl)) ?_
          refine g_iload m98_62 rfl ?_
          refine h_ial (k := 49 + 2 * ja) (p := 81 + 2 * ja) (j := q) m98_64 (pSn _) (tSn hs) (rfl) (by omega) (Nat.le_of_ble_eq_true rfl) (congrFun (shM_o m (49 + 2 * ja) (by omega) q) q) ?_
          refine g_bipush m98_65 ?_
          refine g_cs (args := [.int (m (49 + 2 * ja) q), .int (9)]) (rest := []) 0 (Or.inl rfl) m98_67 (Nat.le_of_ble_eq_true rfl) rfl rfl (Nat.le_of_ble_eq_true rfl) ?_
          refine c_withinI (M := 9) (vi := (m (49 + 2 * ja) q).toInt) rfl rfl (fun a_7 => ?_) (fun a_7 => ?_)
          · rw [run_y (p := (fun q => decide (0 ≤ (m (49 + 2 * ja) q).toInt ∧ (m (49 + 2 * ja) q).toInt ≤ 9))) (decide_eq_true a_7)] at hfin
            refine gwr ?_
            refine h_if_neF (xi := 1) (zi := 0) m98_70 rfl rfl (by decide) ?_
            refine g_aload_n m98_76 rfl ?_
            refine h_gfR (c := 33) (k := 0) (p := 32) m98_77 rfl (t_0 _ _) rfl (Nat.le_of_ble_eq_true rfl) ?_
            refine h_gfR (c := 38) (k := 1) (p := 33) m98_80 rfl (t_1 _ _) rfl (Nat.le_of_ble_eq_true rfl) ?_
            refine g_iload m98_83 rfl ?_
            refine g_aload_n m98_85 rfl ?_
            refine h_gfR (c := 81 + 2 * ja) (k := 48 + 2 * ja) (p := 80 + 2 * ja) m98_86 (pSo _) (tSo hs) rfl (le3 (Nat.le_of_ble_eq_true rfl)) ?_
            refine g_iload m98_89 rfl ?_
            refine h_ial (k := 49 + 2 * ja) (p := 81 + 2 * ja) (j := q) m98_91 (pSn _) (tSn hs) (rfl) (by omega) (Nat.le_of_ble_eq_true rfl) (congrFun (shM_o m (49 + 2 * ja) (by omega) q) q) ?_
            refine h_ias (k := 6) (p := 38) (j := q) m98_92 rfl (t_6 _ _) (rfl) (by omega) (Nat.le_of_ble_eq_true rfl) ?_
            refine g_iinc (L2 := [some (.ref (32)), some (.int (nI (ja))), some (.ref (80 + 2 * ja)), some (.int (nI (min (Ln ja) n))), some (.int (nI (q + 1)))]) m98_93 rfl (nI_1 _) rfl rfl ?_
            refine g_goto m98_96 ?_
            exact ih (q + 1) (by omega) hfin
          · rw [run_n (p := (fun q => decide (0 ≤ (m (49 + 2 * ja) q).toInt ∧ (m (49 + 2 * ja) q).toInt ≤ 9))) (by show ¬ decide _ = true; rw [decide_eq_true_eq]; omega)] at hfin
            refine gwr ?_
            refine h_if_neT (xi := 0) (zi := 0) m98_70 rfl rfl (by decide) ?_
            refine g_iload m98_73 rfl ?_
            refine g_iret m98_75 rt_98 ?_
            have h9 := hY ja rfl (by omega) (by omega)
            rw [← hfin] at h9
            exact h9
      exact key (min (Ln ja) n) 0 (by omega) rfl
  · skip
    refine gwr ?_
    refine h_if_neT (xi := 0) (zi := 0) m98_5 rfl rfl (by decide) ?_
    refine g_aload_n m98_8 rfl ?_
    refine g_iconst m98_9 ?_
    refine h_cv (k := 0) (p := 32) (args := [.int (1)]) (rest := []) m98_10 cn_55 (Nat.le_of_ble_eq_true rfl) rfl rfl rfl (t_0 _ _) (Nat.le_of_ble_eq_true rfl) ?_
    refine c_error (e := 1) (by decide) (by decide) ?_
    refine gwr ?_
    refine g_iret m98_13 rt_98 ?_
    exact hE1 (by omega)
set_option maxRecDepth 20000 in
set_option maxHeartbeats 40000000 in
theorem m_shams {a : Int32} {n : Nat} {B Ln : Nat → Nat} (hd : m 58 2 = nI n) (hn : n ≤ 8) (hB : ∀ s, s < 4 → (B s = 0 ∨ B s = 8 ∨ B s = 16 ∨ B s = 32) ∧ Ln s ≤ 40 ∧ m 63 s = nI (B s) ∧ m 64 s = nI (Ln s)) (hE1 : (a.toInt < 0 ∨ 3 < a.toInt) → Q (some (.int (-1000000001))) (H (ers m 1) ln N)) (hE2 : (∃ s : Nat, a = nI s ∧ s < 4 ∧ B s = 0) → Q (some (.int (-1000000002))) (H (ers m 2) ln N)) (hY : ∀ s : Nat, a = nI s → s < 4 → B s ≠ 0 → Q (some (.int (nI (runF (fun q => decide (0 ≤ (m 65 (40 * s + q)).toInt ∧ (m 65 (40 * s + q)).toInt ≤ 9)) (min (Ln s) n) 0)))) (H (sgM m (40 * s) (runF (fun q => decide (0 ≤ (m 65 (40 * s + q)).toInt ∧ (m 65 (40 * s + q)).toInt ≤ 9)) (min (Ln s) n) 0)) ln N)) : WP xs (d + 3) 182 0 0 [.ref (89), .int (a)] (H m ln N) Q := by
  refine wp_x mx_182 (L := [some (.ref (89)), some (.int (a)), none]) (Nat.le_of_ble_eq_true rfl) rfl ?_
  refine g_iload_n m182_0 rfl ?_
  refine g_cs (args := [.int (a)]) (rest := []) 0 (Or.inl rfl) m182_1 (Nat.le_of_ble_eq_true rfl) rfl rfl (Nat.le_of_ble_eq_true rfl) ?_
  refine c_isSheet (fun ja ea a_8 => ?_) (fun a_8 => ?_)
  · subst ea
    refine gwr ?_
    refine h_if_neF (xi := 1) (zi := 0) m182_4 rfl rfl (by decide) ?_
    refine g_aload_n m182_14 rfl ?_
    refine h_gfR (c := 95) (k := 57) (p := 89) m182_15 rfl (t_57 _ _) rfl (Nat.le_of_ble_eq_true rfl) ?_
    refine g_iload_n m182_18 rfl ?_
    have hs : ja < 4 := by omega
    have hBa := hB ja hs
    refine h_ial (k := 63) (p := 95) (j := ja) m182_19 rfl (t_63 _ _) (rfl) (by omega) (Nat.le_of_ble_eq_true rfl) (hBa.2.2.1) ?_
    refine h_if_ne (xi := ((B ja : Nat) : Int)) (zi := 0) m182_20 (nI_toInt (by omega)) rfl (fun c1 => ?_) (fun c1 => ?_)
    · skip
      refine g_aload_n m182_23 rfl ?_
      refine g_ldci m182_24 rfl ?_
      refine h_cv (k := 57) (p := 89) (args := [.int (-1000000002)]) (rest := []) m182_26 cn_108 (Nat.le_of_ble_eq_true rfl) rfl rfl rfl (t_57 _ _) (Nat.le_of_ble_eq_true rfl) ?_
      refine c_errs (e := 2) (by decide) (by decide) (by decide) ?_
      refine gwr ?_
      refine g_iret m182_29 rt_182 ?_
      exact hE2 ⟨ja, rfl, by omega, by omega⟩
    · skip
      refine g_iconst m182_30 ?_
      refine g_istore_n (L2 := [some (.ref (89)), some (.int (nI (ja))), some (.int (0))]) m182_31 rfl rfl ?_
      have key : ∀ (r : Nat) (q : Nat), q + r = min (Ln ja) n → runF (fun q => decide (0 ≤ (m 65 (40 * ja + q)).toInt ∧ (m 65 (40 * ja + q)).toInt ≤ 9)) r q = runF (fun q => decide (0 ≤ (m 65 (40 * ja + q)).toInt ∧ (m 65 (40 * ja + q)).toInt ≤ 9)) (min (Ln ja) n) 0 → gw xs (WP xs (d + 2)) 182 Q 32 [some (.ref (89)), some (.int (nI (ja))), some (.int (nI (q)))] [] (H (sgM m (40 * ja) q) ln N) 0 0 := by
        intro r
        induction r with
        | zero =>
          intro q hq hfin
          refine g_iload_n m182_32 rfl ?_
          refine g_aload_n m182_33 rfl ?_
          refine h_gfR (c := 96) (k := 57) (p := 89) m182_34 rfl (t_57 _ _) rfl (Nat.le_of_ble_eq_true rfl) ?_
          refine g_iload_n m182_37 rfl ?_
          refine h_ial (k := 64) (p := 96) (j := ja) m182_38 rfl (t_64 _ _) (rfl) (by omega) (Nat.le_of_ble_eq_true rfl) ((congrFun (sgM_o m (40 * ja) (by decide) q) ja).trans hBa.2.2.2) ?_
          refine h_ic_ge (xi := ((q : Nat) : Int)) (zi := ((Ln ja : Nat) : Int)) m182_39 (nI_toInt (by omega)) (nI_toInt (by omega)) (fun c2 => ?_) (fun c2 => ?_)
          · skip
            refine g_iload_n m182_93 rfl ?_
            refine g_iret m182_94 rt_182 ?_
            have h9 := hY ja rfl (by omega) (by omega)
            rw [← hfin] at h9
            exact h9
          · skip
            refine g_aload_n m182_42 rfl ?_
            refine g_iload_n m182_43 rfl ?_
            refine h_cv (k := 57) (p := 89) (args := [.int (nI (q))]) (rest := []) m182_44 cn_113 (Nat.le_of_ble_eq_true rfl) rfl rfl rfl (t_57 _ _) (Nat.le_of_ble_eq_true rfl) ?_
            have eq_ : (nI q).toInt = (q : Int) := nI_toInt (by omega)
            refine c_isDinerM ((sgM_j m (40 * ja) (by decide) q).trans hd) hn (fun j ej a_9 => ?_) (fun a_9 => ?_)
            · have ej2 : (j : Int) = (q : Int) := by rw [← eq_, ej]; exact (nI_toInt (by omega)).symm
              refine gwr ?_
              refine h_if_eqF (xi := 1) (zi := 0) m182_47 rfl rfl (by decide) ?_
              refine g_aload_n m182_50 rfl ?_
              refine h_gfR (c := 97) (k := 57) (p := 89) m182_51 rfl (t_57 _ _) rfl (Nat.le_of_ble_eq_true rfl) ?_
              refine g_bipush m182_54 ?_
              refine g_iload_n m182_56 rfl ?_
              refine g_imul (u := nI (40 * ja)) m182_57 (pk_mul 40 ja) ?_
              refine g_iload_n m182_58 rfl ?_
              refine g_iadd (u := nI ((40 * ja) + q)) m182_59 (nI_add (40 * ja) q) ?_
              refine h_ial (k := 65) (p := 97) (j := (40 * ja) + q) m182_60 rfl (t_65 _ _) (rfl) (by omega) (Nat.le_of_ble_eq_true rfl) (congrFun (sgM_o m (40 * ja) (by decide) q) (40 * ja + q)) ?_
              refine g_iconst m182_61 ?_
              refine g_bipush m182_62 ?_
              refine g_cs (args := [.int (m 65 (40 * ja + q)), .int (0), .int (9)]) (rest := []) 0 (Or.inl rfl) m182_64 (Nat.le_of_ble_eq_true rfl) rfl rfl (Nat.le_of_ble_eq_true rfl) ?_
              exfalso
              omega
            · skip
              refine gwr ?_
              refine h_if_eqT (xi := 0) (zi := 0) m182_47 rfl rfl (by decide) ?_
              refine g_iload_n m182_93 rfl ?_
              refine g_iret m182_94 rt_182 ?_
              have h9 := hY ja rfl (by omega) (by omega)
              rw [← hfin] at h9
              exact h9
        | succ r ih =>
          intro q hq hfin
          refine g_iload_n m182_32 rfl ?_
          refine g_aload_n m182_33 rfl ?_
          refine h_gfR (c := 96) (k := 57) (p := 89) m182_34 rfl (t_57 _ _) rfl (Nat.le_of_ble_eq_true rfl) ?_
          refine g_iload_n m182_37 rfl ?_
          refine h_ial (k := 64) (p := 96) (j := ja) m182_38 rfl (t_64 _ _) (rfl) (by omega) (Nat.le_of_ble_eq_true rfl) ((congrFun (sgM_o m (40 * ja) (by decide) q) ja).trans hBa.2.2.2) ?_
          refine h_ic_geF (xi := ((q : Nat) : Int)) (zi := ((Ln ja : Nat) : Int)) m182_39 (nI_toInt (by omega)) (nI_toInt (by omega)) (by omega) ?_
          refine g_aload_n m182_42 rfl ?_
          refine g_iload_n m182_43 rfl ?_
          refine h_cv (k := 57) (p := 89) (args := [.int (nI (q))]) (rest := []) m182_44 cn_113 (Nat.le_of_ble_eq_true rfl) rfl rfl rfl (t_57 _ _) (Nat.le_of_ble_eq_true rfl) ?_
          have eq_ : (nI q).toInt = (q : Int) := nI_toInt (by omega)
          refine c_isDinerM ((sgM_j m (40 * ja) (by decide) q).trans hd) hn (fun j ej a_10 => ?_) (fun a_10 => absurd a_10 (by omega))
          refine gwr ?_
          refine h_if_eqF (xi := 1) (zi := 0) m182_47 rfl rfl (by decide) ?_
          refine g_aload_n m182_50 rfl ?_
          refine h_gfR (c := 97) (k := 57) (p := 89) m182_51 rfl (t_57 _ _) rfl (Nat.le_of_ble_eq_true rfl) ?_
          refine g_bipush m182_54 ?_
          refine g_iload_n m182_56 rfl ?_
          refine g_imul (u := nI (40 * ja)) m182_57 (pk_mul 40 ja) ?_
          refine g_iload_n m182_58 rfl ?_
          refine g_iadd (u := nI ((40 * ja) + q)) m182_59 (nI_add (40 * ja) q) ?_
          refine h_ial (k := 65) (p := 97) (j := (40 * ja) + q) m182_60 rfl (t_65 _ _) (rfl) (by omega) (Nat.le_of_ble_eq_true rfl) (congrFun (sgM_o m (40 * ja) (by decide) q) (40 * ja + q)) ?_
          refine g_iconst m182_61 ?_
          refine g_bipush m182_62 ?_
          refine g_cs (args := [.int (m 65 (40 * ja + q)), .int (0), .int (9)]) (rest := []) 0 (Or.inl rfl) m182_64 (Nat.le_of_ble_eq_true rfl) rfl rfl (Nat.le_of_ble_eq_true rfl) ?_
          refine c_inI (A := 0) (B := 9) (vi := (m 65 (40 * ja + q)).toInt) rfl rfl rfl (fun a_11 => ?_) (fun a_11 => ?_)
          · first | (exfalso; omega) | rw [run_y (p := (fun q => decide (0 ≤ (m 65 (40 * ja + q)).toInt ∧ (m 65 (40 * ja + q)).toInt ≤ 9))) (decide_eq_true a_11)] at hfin
            refine gwr ?_
            refine h_if_eqF (xi := 1) (zi := 0) m182_67 rfl rfl (by decide) ?_
            refine g_aload_n m182_70 rfl ?_
            refine g_iload_n m182_71 rfl ?_
            refine g_iconst m182_72 ?_
            refine g_aload_n m182_73 rfl ?_
            refine h_gfR (c := 97) (k := 57) (p := 89) m182_74 rfl (t_57 _ _) rfl (Nat.le_of_ble_eq_true rfl) ?_
            refine g_bipush m182_77 ?_
            refine g_iload_n m182_79 rfl ?_
            refine g_imul (u := nI (40 * ja)) m182_80 (pk_mul 40 ja) ?_
            refine g_iload_n m182_81 rfl ?_
            refine g_iadd (u := nI ((40 * ja) + q)) m182_82 (nI_add (40 * ja) q) ?_
            refine h_ial (k := 65) (p := 97) (j := (40 * ja) + q) m182_83 rfl (t_65 _ _) (rfl) (by omega) (Nat.le_of_ble_eq_true rfl) (congrFun (sgM_o m (40 * ja) (by decide) q) (40 * ja + q)) ?_
            refine h_cv (k := 57) (p := 89) (args := [.int (nI (q)), .int (3), .int (m 65 (40 * ja + q))]) (rest := []) m182_84 cn_112 (Nat.le_of_ble_eq_true rfl) rfl rfl rfl (t_57 _ _) (Nat.le_of_ble_eq_true rfl) ?_
            refine c_gets (w := 3) (by omega) (by decide) ?_
            refine gwr0 ?_
            refine g_iinc (L2 := [some (.ref (89)), some (.int (nI (ja))), some (.int (nI (q + 1)))]) m182_87 rfl (nI_1 _) rfl rfl ?_
            refine g_goto m182_90 ?_
            exact ih (q + 1) (by omega) hfin
          · first | (exfalso; omega) | rw [run_n (p := (fun q => decide (0 ≤ (m 65 (40 * ja + q)).toInt ∧ (m 65 (40 * ja + q)).toInt ≤ 9))) (by show ¬ decide _ = true; rw [decide_eq_true_eq]; omega)] at hfin
            refine gwr ?_
            refine h_if_eqT (xi := 0) (zi := 0) m182_67 rfl rfl (by decide) ?_
            refine g_iload_n m182_93 rfl ?_
            refine g_iret m182_94 rt_182 ?_
            have h9 := hY ja rfl (by omega) (by omega)
            rw [← hfin] at h9
            exact h9
      exact key (min (Ln ja) n) 0 (by omega) rfl
  · skip
    refine gwr ?_
    refine h_if_neT (xi := 0) (zi := 0) m182_4 rfl rfl (by decide) ?_
    refine g_aload_n m182_7 rfl ?_
    refine g_ldci m182_8 rfl ?_
    refine h_cv (k := 57) (p := 89) (args := [.int (-1000000001)]) (rest := []) m182_10 cn_108 (Nat.le_of_ble_eq_true rfl) rfl rfl rfl (t_57 _ _) (Nat.le_of_ble_eq_true rfl) ?_
    refine c_errs (e := 1) (by decide) (by decide) (by decide) ?_
    refine gwr ?_
    refine g_iret m182_13 rt_182 ?_
    exact hE1 (by omega)
end
end
