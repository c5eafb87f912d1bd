/-! WHAT WOULD BE: the class, harm and like ones -/
theorem if_c {α : Type} {p q : Prop} {_ : Decidable p} {_ : Decidable q} {x y : α} (h : p ↔ q) : (if p then x else y) = if q then x else y := by
  by_cases z : p
  · rw [if_pos z, if_pos (h.mp z)]
  · rw [if_neg z, if_neg (fun w => z (h.mpr w))]
theorem allF_c {p q : Nat → Bool} : ∀ n, (∀ i, i < n → p i = q i) → allF p n = allF q n
  | 0, _ => rfl
  | n + 1, h => by
    show (allF p n && p n) = (allF q n && q n)
    rw [allF_c n (fun i hi => h i (by omega)), h n (by omega)]
theorem ush_set {a : Int32} {n : Nat} (hn : n ≤ 8) : ((a.toUInt32 >>> ((nI n).toUInt32 &&& Int32.toUInt32 31)).toInt32).toInt = 0 ↔ 0 ≤ a.toInt ∧ a.toInt < ((2 ^ n : Nat) : Int) := by
  have e : ((a.toUInt32 >>> ((nI n).toUInt32 &&& Int32.toUInt32 31)).toInt32).toBitVec.toNat = a.toBitVec.toNat / 2 ^ n := by
    show (a.toBitVec >>> (((nI n).toUInt32 &&& Int32.toUInt32 31).toBitVec % 32)).toNat = _
    rw [BitVec.ushiftRight_eq', BitVec.toNat_ushiftRight, nx_sl n (by omega), Nat.shiftRight_eq_div_pow]
  show BitVec.toInt _ = 0 ↔ 0 ≤ BitVec.toInt a.toBitVec ∧ BitVec.toInt a.toBitVec < _
  rw [BitVec.toInt_eq_toNat_cond, BitVec.toInt_eq_toNat_cond, e]
  have h1 := a.toBitVec.isLt
  have h2 : 2 ^ n ≤ 256 := Nat.pow_le_pow_right (n := 2) (by decide) hn
  have h3 : 0 < 2 ^ n := Nat.lt_of_lt_of_le (by decide : 0 < 2 ^ 0) (Nat.pow_le_pow_right (by decide) (Nat.zero_le n))
  have h4 : a.toBitVec.toNat / 2 ^ n = 0 ↔ a.toBitVec.toNat < 2 ^ n := Nat.div_eq_zero_iff_lt h3
  have h5 : a.toBitVec.toNat / 2 ^ n ≤ a.toBitVec.toNat := Nat.div_le_self _ _
  generalize a.toBitVec.toNat / 2 ^ n = z at h4 h5 ⊢
  generalize 2 ^ n = p at h2 h3 h4 ⊢
  generalize a.toBitVec.toNat = A at h1 h4 h5 ⊢
  (repeat' split) <;> omega
theorem FrT.of2 {m m2 X2 : MW} (h : AtX (takeM m 2 0) 2 X2 m2) : FrT m m2 := fun k j h1 h2 => (h.out (by omega) h2).trans (congrFun (take_o m 2 0 (by omega)) j)
def shamQ (X : MW) (a : Nat) (s : Int32) (q : Nat) : MW := fun j k => if j = 5 ∧ k < q ∧ a.testBit k = true then s else X j k
theorem shamQ_o {X : MW} {a : Nat} {s : Int32} {q j k : Nat} (h : j ≠ 5) : shamQ X a s q j k = X j k := if_neg (fun z => h z.1)
theorem shamX_o {X : MW} {a : Nat} {s : Int32} {j k : Nat} (h : j ≠ 5) : shamX X a s j k = X j k := if_neg (fun z => h z.1)
theorem shamQ_y {X : MW} {a : Nat} {s : Int32} {q : Nat} (h : a.testBit q = true) (j k : Nat) : shamQ X a s (q + 1) j k = upm (shamQ X a s q) 5 q s j k := by
  unfold upm
  by_cases e : j = 5 ∧ k = q
  · obtain ⟨rfl, rfl⟩ := e
    rw [if_pos ⟨rfl, rfl⟩]
    exact if_pos ⟨rfl, by omega, h⟩
  · rw [if_neg e]
    unfold shamQ
    by_cases e1 : j = 5
    · have e2 : k ≠ q := fun z => e ⟨e1, z⟩
      exact if_c ⟨fun z => ⟨z.1, by have := z.2.1; omega, z.2.2⟩, fun z => ⟨z.1, by have := z.2.1; omega, z.2.2⟩⟩
    · rw [if_neg (fun z => e1 z.1), if_neg (fun z => e1 z.1)]
theorem shamQ_n {X : MW} {a : Nat} {s : Int32} {q : Nat} (h : ¬ a.testBit q = true) (j k : Nat) : shamQ X a s (q + 1) j k = shamQ X a s q j k := by
  unfold shamQ
  by_cases e : k = q
  · subst e
    rw [if_neg (fun z => h z.2.2), if_neg (fun z => absurd z.2.1 (Nat.lt_irrefl _))]
  · exact if_c ⟨fun z => ⟨z.1, by have := z.2.1; omega, z.2.2⟩, fun z => ⟨z.1, by have := z.2.1; omega, z.2.2⟩⟩
theorem shamQ_X {X : MW} {a : Nat} {s : Int32} {n : Nat} (h : nOf X = n) : shamX X a s = shamQ X a s n := by
  unfold shamX shamQ
  rw [h]
theorem shamX_8 {X Y : MW} (h : Eq8 X Y) (a : Nat) (s : Int32) : Eq8 (shamX X a s) (shamX Y a s) := fun j hj i => by
  have e : nOf Y = nOf X := by unfold nOf; rw [h 0 (by decide) 10]
  unfold shamX
  rw [e, h j hj i]
section
variable {xs : List Int32} {d : Nat} {h : AH} {Q : QT} {m : MW} {ln : Nat → Nat} {N : Nat}
set_option maxRecDepth 20000 in
set_option maxHeartbeats 40000000 in
theorem x_harm {a v : Int32} {n : Nat} (hd : m 1 10 = nI n) (hn : n ≤ 8) (h01 : ∀ j, j < 8 → m 8 j = 0 ∨ m 8 j = 1) (hW : WF (vw m 0)) (hL : LawsOk m ln N) (hix : LawIx N (m 1 11)) (hiy : LawIx N (m 1 12)) (hE1 : (a.toInt < 0 ∨ (n : Int) ≤ a.toInt ∨ v.toInt < 0 ∨ 60 < v.toInt) → Q (some (.int (-1000000000 - nI 1))) (H (erm m 1) ln N)) (hY : ∀ i k : Nat, a = nI i → i < n → v = nI k → k ≤ 60 → ∀ m2, FrT m m2 → Q (some (.int (nI (bitsF (fun q => !(decide (q = i)) && decide ((stepN (lkF m ln (m 1 11)) (blF m ln (m 1 12)) (vw m 0) k 6 q).toInt < (stepN (lkF m ln (m 1 11)) (blF m ln (m 1 12)) (upm (vw m 0) 5 i 0) k 6 q).toInt)) n)))) (H m2 ln N)) : WP xs (d + 7) 84 0 0 [.ref (32), .int (a), .int (v)] (H m ln N) Q := by
  refine wp_x mx_84 (L := [some (.ref (32)), some (.int (a)), some (.int (v)), none, none, none]) (Nat.le_of_ble_eq_true rfl) rfl ?_
  have hb : ∀ p : Nat → Bool, ∀ q, bitsF p q < 2 ^ q := fun p => bitsF_lt p
  refine g_aload_n m84_0 rfl ?_
  refine g_iload_n m84_1 rfl ?_
  refine h_cv (k := 0) (p := 32) (args := [.int (a)]) (rest := []) m84_2 cn_60 (Nat.le_of_ble_eq_true rfl) rfl rfl rfl (t_0 _ _) (Nat.le_of_ble_eq_true rfl) ?_
  refine c_isDiner hd hn (fun ja ea a_1 => ?_) (fun a_1 => ?_)
  · subst ea
    refine gwr ?_
    refine h_if_eqF (xi := 1) (zi := 0) m84_5 rfl rfl (by decide) ?_
    refine g_iload_n m84_8 rfl ?_
    refine g_bipush m84_9 ?_
    refine g_cs (args := [.int (v), .int (60)]) (rest := []) 0 (Or.inl rfl) m84_11 (Nat.le_of_ble_eq_true rfl) rfl rfl (Nat.le_of_ble_eq_true rfl) ?_
    refine c_within (M := 60) rfl (fun jv ev a_2 => ?_) (fun a_2 => ?_)
    · subst ev
      refine gwr ?_
      refine h_if_neF (xi := 1) (zi := 0) m84_14 rfl rfl (by decide) ?_
      refine g_aload_n m84_23 rfl ?_
      refine h_cv (k := 0) (p := 32) (args := []) (rest := []) m84_24 cn_74 (Nat.le_of_ble_eq_true rfl) rfl rfl rfl (t_0 _ _) (Nat.le_of_ble_eq_true rfl) ?_
      refine c_think h01 ?_
      have hL1 : LawsOk (takeM m 1 0) ln N := tk_l hL 1 0 (by decide)
      have elk := tk_lk m 1 0 (by decide) ln (m 1 11)
      have ebl := tk_bl m 1 0 (by decide) ln (m 1 12)
      have h80 := take_8 m 1 0
      have hW1 : WF (vw (takeM m 1 0) 1) := WF_c h80 hW
      refine gwr ?_
      refine g_astore_n (L2 := [some (.ref (32)), some (.int (nI (ja))), some (.int (nI (jv))), some (.ref (42)), none, none]) m84_27 rfl rfl ?_
      refine g_aload_n m84_28 rfl ?_
      refine g_iload_n m84_29 rfl ?_
      refine h_cv (k := 10) (p := 42) (args := [.int (nI (jv))]) (rest := []) m84_30 cn_41 (Nat.le_of_ble_eq_true rfl) rfl rfl rfl (t_10 _ _) (Nat.le_of_ble_eq_true rfl) ?_
      refine c_goOn (n := jv) (x := m 1 11) (y := m 1 12) (t := 1) (m0 := takeM m 1 0) (X := vw (takeM m 1 0) 1) (by decide) hL1 (AtX.self _ 1) rfl hix rfl hiy hW1 (by omega) (fun X2 m2 h8 hA => ?_)
      rw [elk, ebl] at h8
      have h8 := (stepN_8 (LK := (lkF m ln (m 1 11))) (BL := (blF m ln (m 1 12))) h80 jv).tr h8
      refine gwr0 ?_
      refine g_aload_n m84_33 rfl ?_
      refine h_gfR (c := 51) (k := 0) (p := 32) m84_34 rfl (t_0 _ _) rfl (Nat.le_of_ble_eq_true rfl) ?_
      refine g_aload_n m84_37 rfl ?_
      refine h_gfR (c := 33) (k := 0) (p := 32) m84_38 rfl (t_0 _ _) rfl (Nat.le_of_ble_eq_true rfl) ?_
      refine h_cv (k := 19) (p := 51) (args := [.ref (33)]) (rest := []) m84_41 cn_31 (Nat.le_of_ble_eq_true rfl) rfl rfl rfl (t_19 _ _) (Nat.le_of_ble_eq_true rfl) ?_
      have hF := FrT.of hA
      have hd2 : m2 1 10 = nI n := (hF 1 10 (by omega) (fun q => by rcases q with q | q <;> omega)).trans hd
      have h012 : ∀ j, j < 8 → m2 8 j = 0 ∨ m2 8 j = 1 := fun j hj => by rw [hF 8 j (by omega) (fun q => by rcases q with q | q <;> omega)]; exact h01 j hj
      have hL2 := hF.laws hL
      have e11 : m2 1 11 = m 1 11 := hF 1 11 (by omega) (fun q => by rcases q with q | q <;> omega)
      have e12 : m2 1 12 = m 1 12 := hF 1 12 (by omega) (fun q => by rcases q with q | q <;> omega)
      have hL1z : LawsOk (takeM m2 2 0) ln N := tk_l hL2 2 0 (by decide)
      have elkz := (tk_lk m2 2 0 (by decide) ln (m 1 11)).trans (hF.lk ln _)
      have eblz := (tk_bl m2 2 0 (by decide) ln (m 1 12)).trans (hF.bl ln _)
      have h80z : Eq8 (vw m 0) (vw (takeM m2 2 0) 2) := Eq8.tr (fun j hj i => congrFun (hF.vw0 (by omega)) i) (take_8 m2 2 0)
      have hW1z : WF (vw (takeM m2 2 0) 2) := WF_c h80z hW
      refine c_take20 h012 ?_
      refine gwr0 ?_
      refine g_aload_n m84_44 rfl ?_
      refine h_gfR (c := 51) (k := 0) (p := 32) m84_45 rfl (t_0 _ _) rfl (Nat.le_of_ble_eq_true rfl) ?_
      refine h_gfR (c := 56) (k := 19) (p := 51) m84_48 rfl (t_19 _ _) rfl (Nat.le_of_ble_eq_true rfl) ?_
      refine g_iload_n m84_51 rfl ?_
      refine g_iconst m84_52 ?_
      refine h_ias (k := 24) (p := 56) (j := ja) m84_53 rfl (t_24 _ _) (rfl) (by omega) (Nat.le_of_ble_eq_true rfl) ?_
      refine g_aload_n m84_54 rfl ?_
      refine h_gfR (c := 51) (k := 0) (p := 32) m84_55 rfl (t_0 _ _) rfl (Nat.le_of_ble_eq_true rfl) ?_
      refine g_iload_n m84_58 rfl ?_
      refine h_cv (k := 19) (p := 51) (args := [.int (nI (jv))]) (rest := []) m84_59 cn_41 (Nat.le_of_ble_eq_true rfl) rfl rfl rfl (t_19 _ _) (Nat.le_of_ble_eq_true rfl) ?_
      have hA5 : AtX (takeM m2 2 0) 2 (upm (vw (takeM m2 2 0) 2) 5 ja 0) (upm (takeM m2 2 0) 24 ja 0) := (AtX.self (takeM m2 2 0) 2).up (by decide) (j := 5) (by decide) ja 0
      have z11 : (upm (vw (takeM m2 2 0) 2) 5 ja 0) 0 11 = m 1 11 := (upm_k _ _ (by decide)).trans ((congrFun (take_vw m2 2 0 (j := 0) (by decide)) 11).trans e11)
      have z12 : (upm (vw (takeM m2 2 0) 2) 5 ja 0) 0 12 = m 1 12 := (upm_k _ _ (by decide)).trans ((congrFun (take_vw m2 2 0 (j := 0) (by decide)) 12).trans e12)
      have hWs : WF (upm (vw (takeM m2 2 0) 2) 5 ja 0) := WF_sham hW1z ⟨0, by decide, rfl⟩
      refine c_goOn (n := jv) (x := m 1 11) (y := m 1 12) (t := 2) (m0 := takeM m2 2 0) (by decide) hL1z hA5 z11 hix z12 hiy hWs (by omega) (fun X3 m3 h9 hA3 => ?_)
      rw [elkz, eblz] at h9
      have h9 := (stepN_8 (LK := (lkF m ln (m 1 11))) (BL := (blF m ln (m 1 12))) (h80z.up 5 ja 0) jv).tr h9
      have hF3 := hF.tr (FrT.of2 hA3)
      have hd3 : m3 1 10 = nI n := (hF3 1 10 (by omega) (fun q => by rcases q with q | q <;> omega)).trans hd
      have e16 : ∀ q, m3 16 q = stepN (lkF m ln (m 1 11)) (blF m ln (m 1 12)) (vw m 0) jv 6 q := fun q => (hA3.out (by omega) (fun z => by rcases z with z | z <;> omega)).trans ((congrFun (take_o m2 2 0 (by omega)) q).trans ((hA.rd (by decide) (j := 6) (i := q) (by decide)).trans (h8 6 (by decide) q)))
      have e25 : ∀ q, m3 25 q = stepN (lkF m ln (m 1 11)) (blF m ln (m 1 12)) (upm (vw m 0) 5 ja 0) jv 6 q := fun q => (hA3.rd (by decide) (j := 6) (i := q) (by decide)).trans (h9 6 (by decide) q)
      refine gwr0 ?_
      refine g_iconst m84_62 ?_
      refine g_istore (L2 := [some (.ref (32)), some (.int (nI (ja))), some (.int (nI (jv))), some (.ref (42)), some (.int (0)), none]) m84_63 rfl rfl ?_
      refine g_iconst m84_65 ?_
      refine g_istore (L2 := [some (.ref (32)), some (.int (nI (ja))), some (.int (nI (jv))), some (.ref (42)), some (.int (0)), some (.int (0))]) m84_66 rfl rfl ?_
      have key : ∀ (r : Nat) (q : Nat), q + r = n → gw xs (WP xs (d + 6)) 84 Q 68 [some (.ref (32)), some (.int (nI (ja))), some (.int (nI (jv))), some (.ref (42)), some (.int (nI (bitsF (fun q => !(decide (q = ja)) && decide ((stepN (lkF m ln (m 1 11)) (blF m ln (m 1 12)) (vw m 0) jv 6 q).toInt < (stepN (lkF m ln (m 1 11)) (blF m ln (m 1 12)) (upm (vw m 0) 5 ja 0) jv 6 q).toInt)) q))), some (.int (nI (q)))] [] (H m3 ln N) 0 0 := by
        intro r
        induction r with
        | zero =>
          intro q hq
          obtain rfl : q = n := by omega
          refine g_iload m84_68 rfl ?_
          refine g_aload_n m84_70 rfl ?_
          refine h_gfR (c := 33) (k := 0) (p := 32) m84_71 rfl (t_0 _ _) rfl (Nat.le_of_ble_eq_true rfl) ?_
          refine h_gfI (k := 1) (p := 33) m84_74 rfl (t_1 _ _) rfl (hd3) ?_
          refine h_ic_geT (xi := ((q : Nat) : Int)) (zi := ((q : Nat) : Int)) m84_77 (nI_toInt (by omega)) (nI_toInt (by omega)) (by omega) ?_
          refine g_iload m84_121 rfl ?_
          refine g_iret m84_123 rt_84 ?_
          exact hY ja jv rfl (by omega) rfl (by omega) m3 hF3
        | succ r ih =>
          intro q hq
          refine g_iload m84_68 rfl ?_
          refine g_aload_n m84_70 rfl ?_
          refine h_gfR (c := 33) (k := 0) (p := 32) m84_71 rfl (t_0 _ _) rfl (Nat.le_of_ble_eq_true rfl) ?_
          refine h_gfI (k := 1) (p := 33) m84_74 rfl (t_1 _ _) rfl (hd3) ?_
          refine h_ic_geF (xi := ((q : Nat) : Int)) (zi := ((n : Nat) : Int)) m84_77 (nI_toInt (by omega)) (nI_toInt (by omega)) (by omega) ?_
          refine g_iload m84_80 rfl ?_
          refine g_iload_n m84_82 rfl ?_
          refine h_ic_eq (xi := ((q : Nat) : Int)) (zi := ((ja : Nat) : Int)) m84_83 (nI_toInt (by omega)) (nI_toInt (by omega)) (fun c1 => ?_) (fun c1 => ?_)
          · skip
            refine g_iinc (L2 := [some (.ref (32)), some (.int (nI (ja))), some (.int (nI (jv))), some (.ref (42)), some (.int (nI (bitsF (fun q => !(decide (q = ja)) && decide ((stepN (lkF m ln (m 1 11)) (blF m ln (m 1 12)) (vw m 0) jv 6 q).toInt < (stepN (lkF m ln (m 1 11)) (blF m ln (m 1 12)) (upm (vw m 0) 5 ja 0) jv 6 q).toInt)) q))), some (.int (nI (q + 1)))]) m84_115 rfl (nI_1 _) rfl rfl ?_
            refine g_goto m84_118 ?_
            have e : bitsF (fun q => !(decide (q = ja)) && decide ((stepN (lkF m ln (m 1 11)) (blF m ln (m 1 12)) (vw m 0) jv 6 q).toInt < (stepN (lkF m ln (m 1 11)) (blF m ln (m 1 12)) (upm (vw m 0) 5 ja 0) jv 6 q).toInt)) (q + 1) = bitsF (fun q => !(decide (q = ja)) && decide ((stepN (lkF m ln (m 1 11)) (blF m ln (m 1 12)) (vw m 0) jv 6 q).toInt < (stepN (lkF m ln (m 1 11)) (blF m ln (m 1 12)) (upm (vw m 0) 5 ja 0) jv 6 q).toInt)) q := by
              refine bits_n ?_
              show ¬ (!(decide (q = ja)) && decide _) = true
              by_cases e0 : q = ja
              · rw [decide_eq_true e0]
                simp
              · rw [decide_eq_false (p := _ < _) (by omega)]
                simp
            have h9 := ih (q + 1) (by omega)
            rw [e] at h9
            exact h9
          · skip
            refine g_aload_n m84_86 rfl ?_
            refine h_gfR (c := 51) (k := 0) (p := 32) m84_87 rfl (t_0 _ _) rfl (Nat.le_of_ble_eq_true rfl) ?_
            refine h_gfR (c := 57) (k := 19) (p := 51) m84_90 rfl (t_19 _ _) rfl (Nat.le_of_ble_eq_true rfl) ?_
            refine g_iload m84_93 rfl ?_
            refine h_ial (k := 25) (p := 57) (j := q) m84_95 rfl (t_25 _ _) (rfl) (by omega) (Nat.le_of_ble_eq_true rfl) (e25 q) ?_
            refine g_aload_n m84_96 rfl ?_
            refine h_gfR (c := 48) (k := 10) (p := 42) m84_97 rfl (t_10 _ _) rfl (Nat.le_of_ble_eq_true rfl) ?_
            refine g_iload m84_100 rfl ?_
            refine h_ial (k := 16) (p := 48) (j := q) m84_102 rfl (t_16 _ _) (rfl) (by omega) (Nat.le_of_ble_eq_true rfl) (e16 q) ?_
            refine h_ic_le (xi := _) (zi := _) m84_103 rfl rfl (fun c2 => ?_) (fun c2 => ?_)
            · skip
              refine g_iinc (L2 := [some (.ref (32)), some (.int (nI (ja))), some (.int (nI (jv))), some (.ref (42)), some (.int (nI (bitsF (fun q => !(decide (q = ja)) && decide ((stepN (lkF m ln (m 1 11)) (blF m ln (m 1 12)) (vw m 0) jv 6 q).toInt < (stepN (lkF m ln (m 1 11)) (blF m ln (m 1 12)) (upm (vw m 0) 5 ja 0) jv 6 q).toInt)) q))), some (.int (nI (q + 1)))]) m84_115 rfl (nI_1 _) rfl rfl ?_
              refine g_goto m84_118 ?_
              have e : bitsF (fun q => !(decide (q = ja)) && decide ((stepN (lkF m ln (m 1 11)) (blF m ln (m 1 12)) (vw m 0) jv 6 q).toInt < (stepN (lkF m ln (m 1 11)) (blF m ln (m 1 12)) (upm (vw m 0) 5 ja 0) jv 6 q).toInt)) (q + 1) = bitsF (fun q => !(decide (q = ja)) && decide ((stepN (lkF m ln (m 1 11)) (blF m ln (m 1 12)) (vw m 0) jv 6 q).toInt < (stepN (lkF m ln (m 1 11)) (blF m ln (m 1 12)) (upm (vw m 0) 5 ja 0) jv 6 q).toInt)) q := by
                refine bits_n ?_
                show ¬ (!(decide (q = ja)) && decide _) = true
                by_cases e0 : q = ja
                · rw [decide_eq_true e0]
                  simp
                · rw [decide_eq_false (p := _ < _) (by omega)]
                  simp
              have h9 := ih (q + 1) (by omega)
              rw [e] at h9
              exact h9
            · skip
              refine g_iload m84_106 rfl ?_
              refine g_iconst m84_108 ?_
              refine g_iload m84_109 rfl ?_
              refine g_ishl m84_111 rfl ?_
              refine g_ior (u := nI (bitsF (fun q => !(decide (q = ja)) && decide ((stepN (lkF m ln (m 1 11)) (blF m ln (m 1 12)) (vw m 0) jv 6 q).toInt < (stepN (lkF m ln (m 1 11)) (blF m ln (m 1 12)) (upm (vw m 0) 5 ja 0) jv 6 q).toInt)) q + 2 ^ q)) m84_112 (bit_or q (by omega) _ (hb _ q)) ?_
              refine g_istore (L2 := [some (.ref (32)), some (.int (nI (ja))), some (.int (nI (jv))), some (.ref (42)), some (.int (nI (bitsF (fun q => !(decide (q = ja)) && decide ((stepN (lkF m ln (m 1 11)) (blF m ln (m 1 12)) (vw m 0) jv 6 q).toInt < (stepN (lkF m ln (m 1 11)) (blF m ln (m 1 12)) (upm (vw m 0) 5 ja 0) jv 6 q).toInt)) q + 2 ^ q))), some (.int (nI (q)))]) m84_113 rfl rfl ?_
              refine g_iinc (L2 := [some (.ref (32)), some (.int (nI (ja))), some (.int (nI (jv))), some (.ref (42)), some (.int (nI (bitsF (fun q => !(decide (q = ja)) && decide ((stepN (lkF m ln (m 1 11)) (blF m ln (m 1 12)) (vw m 0) jv 6 q).toInt < (stepN (lkF m ln (m 1 11)) (blF m ln (m 1 12)) (upm (vw m 0) 5 ja 0) jv 6 q).toInt)) q + 2 ^ q))), some (.int (nI (q + 1)))]) m84_115 rfl (nI_1 _) rfl rfl ?_
              refine g_goto m84_118 ?_
              have e : bitsF (fun q => !(decide (q = ja)) && decide ((stepN (lkF m ln (m 1 11)) (blF m ln (m 1 12)) (vw m 0) jv 6 q).toInt < (stepN (lkF m ln (m 1 11)) (blF m ln (m 1 12)) (upm (vw m 0) 5 ja 0) jv 6 q).toInt)) (q + 1) = bitsF (fun q => !(decide (q = ja)) && decide ((stepN (lkF m ln (m 1 11)) (blF m ln (m 1 12)) (vw m 0) jv 6 q).toInt < (stepN (lkF m ln (m 1 11)) (blF m ln (m 1 12)) (upm (vw m 0) 5 ja 0) jv 6 q).toInt)) q + 2 ^ q := by
                refine bits_y ?_
                show (!(decide (q = ja)) && decide _) = true
                rw [decide_eq_false (show ¬ q = ja by omega), decide_eq_true (by omega)]
                rfl
              have h9 := ih (q + 1) (by omega)
              rw [e] at h9
              exact h9
      exact key n 0 (by omega)
    · skip
      refine gwr ?_
      refine h_if_neT (xi := 0) (zi := 0) m84_14 rfl rfl (by decide) ?_
      refine g_aload_n m84_17 rfl ?_
      refine g_iconst m84_18 ?_
      refine h_cv (k := 0) (p := 32) (args := [.int (1)]) (rest := []) m84_19 cn_55 (Nat.le_of_ble_eq_true rfl) rfl rfl rfl (t_0 _ _) (Nat.le_of_ble_eq_true rfl) ?_
      refine c_error (e := 1) (by decide) (by decide) ?_
      refine gwr ?_
      refine g_iret m84_22 rt_84 ?_
      exact hE1 (by omega)
  · skip
    refine gwr ?_
    refine h_if_eqT (xi := 0) (zi := 0) m84_5 rfl rfl (by decide) ?_
    refine g_aload_n m84_17 rfl ?_
    refine g_iconst m84_18 ?_
    refine h_cv (k := 0) (p := 32) (args := [.int (1)]) (rest := []) m84_19 cn_55 (Nat.le_of_ble_eq_true rfl) rfl rfl rfl (t_0 _ _) (Nat.le_of_ble_eq_true rfl) ?_
    refine c_error (e := 1) (by decide) (by decide) ?_
    refine gwr ?_
    refine g_iret m84_22 rt_84 ?_
    exact hE1 (by omega)
set_option maxRecDepth 20000 in
set_option maxHeartbeats 40000000 in
theorem c_shamAlike {t n a : Nat} {m0 X : MW} {s : Int32} (ht : t < 4) (hA : AtX m0 t X m) (hn : n ≤ 8) (hd : X 0 10 = nI n) (ha : a < 256) (hQ : ∀ m2, AtX m0 t (shamQ X a s n) m2 → Q none (H m2 ln N)) : WP xs (d + 2) 44 0 0 [.ref (33 + 9 * t), .int (nI (a)), .int (s)] (H m ln N) Q := by
  refine wp_x mx_44 (L := [some (.ref (33 + 9 * t)), some (.int (nI (a))), some (.int (s)), none]) (Nat.le_of_ble_eq_true rfl) rfl ?_
  have key : ∀ (r : Nat) (q : Nat) (m2 : MW), q + r = n → AtX m0 t (shamQ X a s q) m2 → gw xs (WP xs (d + 1)) 44 Q 2 [some (.ref (33 + 9 * t)), some (.int (nI (a))), some (.int (s)), some (.int (nI (q)))] [] (H m2 ln N) 0 0 := by
    intro r
    induction r with
    | zero =>
      intro q m2 hq hA2
      obtain rfl : q = n := by omega
      refine g_iload_n m44_2 rfl ?_
      refine g_aload_n m44_3 rfl ?_
      refine h_gfI (k := 1 + 9 * t) (p := 33 + 9 * t) m44_4 (pT 1 _) (tT ht) rfl ((hA2.rd ht (j := 0) (i := 10) (by decide)).trans ((shamQ_o (by decide)).trans hd)) ?_
      refine h_ic_geT (xi := ((q : Nat) : Int)) (zi := ((q : Nat) : Int)) m44_7 (nI_toInt (by omega)) (nI_toInt (by omega)) (by omega) ?_
      refine g_vret m44_31 ?_
      exact hQ m2 hA2
    | succ r ih =>
      intro q m2 hq hA2
      refine g_iload_n m44_2 rfl ?_
      refine g_aload_n m44_3 rfl ?_
      refine h_gfI (k := 1 + 9 * t) (p := 33 + 9 * t) m44_4 (pT 1 _) (tT ht) rfl ((hA2.rd ht (j := 0) (i := 10) (by decide)).trans ((shamQ_o (by decide)).trans hd)) ?_
      refine h_ic_geF (xi := ((q : Nat) : Int)) (zi := ((n : Nat) : Int)) m44_7 (nI_toInt (by omega)) (nI_toInt (by omega)) (by omega) ?_
      refine g_iload_n m44_10 rfl ?_
      refine g_iload_n m44_11 rfl ?_
      refine g_cs (args := [.int (nI (a)), .int (nI (q))]) (rest := []) 1 (Or.inr rfl) m44_12 (Nat.le_of_ble_eq_true rfl) rfl rfl (Nat.le_of_ble_eq_true rfl) ?_
      refine c_has (a := a) (i := q) (by omega) (by omega) ?_
      by_cases hb_3 : Nat.testBit a q = true
      · rw [if_pos hb_3]
        refine gwr ?_
        refine h_if_eqF (xi := 1) (zi := 0) m44_15 rfl rfl (by decide) ?_
        refine g_aload_n m44_18 rfl ?_
        refine h_gfR (c := 38 + 9 * t) (k := 1 + 9 * t) (p := 33 + 9 * t) m44_19 (pT 1 _) (tT ht) rfl (le3 (Nat.le_of_ble_eq_true rfl)) ?_
        refine g_iload_n m44_22 rfl ?_
        refine g_iload_n m44_23 rfl ?_
        refine h_ias (k := 6 + 9 * t) (p := 38 + 9 * t) (j := q) m44_24 (pT 6 _) (tA5 ht) (rfl) (by omega) (Nat.le_of_ble_eq_true rfl) ?_
        have hAu1 := hA2.up ht (j := 5) (by decide) q s
        refine g_iinc (L2 := [some (.ref (33 + 9 * t)), some (.int (nI (a))), some (.int (s)), some (.int (nI (q + 1)))]) m44_25 rfl (nI_1 _) rfl rfl ?_
        refine g_goto m44_28 ?_
        exact ih (q + 1) _ (by omega) (hAu1.c (fun j i _ => shamQ_y hb_3 j i))
      · rw [if_neg hb_3]
        refine gwr ?_
        refine h_if_eqT (xi := 0) (zi := 0) m44_15 rfl rfl (by decide) ?_
        refine g_iinc (L2 := [some (.ref (33 + 9 * t)), some (.int (nI (a))), some (.int (s)), some (.int (nI (q + 1)))]) m44_25 rfl (nI_1 _) rfl rfl ?_
        refine g_goto m44_28 ?_
        exact ih (q + 1) _ (by omega) (hA2.c (fun j i _ => shamQ_n hb_3 j i))
  refine g_iconst m44_0 ?_
  refine g_istore_n (L2 := [some (.ref (33 + 9 * t)), some (.int (nI (a))), some (.int (s)), some (.int (0))]) m44_1 rfl rfl ?_
  exact key n 0 _ (by omega) (hA.c (fun j i _ => if_neg (fun z => absurd z.2.1 (Nat.not_lt_zero _))))
set_option maxRecDepth 20000 in
set_option maxHeartbeats 40000000 in
theorem c_haveMore {n a : Nat} {m0 X : MW} (hA : AtX m0 1 X m) (hd : m 1 10 = nI n) (hn : n ≤ 8) (ha : a < 256) (hT : allF (fun i => !(a.testBit i) || decide ((m 7 i).toInt < (X 6 i).toInt)) n = true → Q (some (.int 1)) (H m ln N)) (hF : ¬ allF (fun i => !(a.testBit i) || decide ((m 7 i).toInt < (X 6 i).toInt)) n = true → Q (some (.int 0)) (H m ln N)) : WP xs (d + 2) 79 0 0 [.ref (32), .ref (42), .int (nI (a))] (H m ln N) Q := by
  refine wp_x mx_79 (L := [some (.ref (32)), some (.ref (42)), some (.int (nI (a))), none]) (Nat.le_of_ble_eq_true rfl) rfl ?_
  have key : ∀ (r : Nat) (q : Nat), q + r = n → allF (fun i => !(a.testBit i) || decide ((m 7 i).toInt < (X 6 i).toInt)) q = true → gw xs (WP xs (d + 1)) 79 Q 2 [some (.ref (32)), some (.ref (42)), some (.int (nI (a))), some (.int (nI (q)))] [] (H m ln N) 0 0 := by
    intro r
    induction r with
    | zero =>
      intro q hq hall
      obtain rfl : q = n := by omega
      refine g_iload_n m79_2 rfl ?_
      refine g_aload_n m79_3 rfl ?_
      refine h_gfR (c := 33) (k := 0) (p := 32) m79_4 rfl (t_0 _ _) rfl (Nat.le_of_ble_eq_true rfl) ?_
      refine h_gfI (k := 1) (p := 33) m79_7 rfl (t_1 _ _) rfl (hd) ?_
      refine h_ic_geT (xi := ((q : Nat) : Int)) (zi := ((q : Nat) : Int)) m79_10 (nI_toInt (by omega)) (nI_toInt (by omega)) (by omega) ?_
      refine g_iconst m79_47 ?_
      refine g_zret m79_48 rt_79 (Or.inr rfl) ?_
      exact hT hall
    | succ r ih =>
      intro q hq hall
      refine g_iload_n m79_2 rfl ?_
      refine g_aload_n m79_3 rfl ?_
      refine h_gfR (c := 33) (k := 0) (p := 32) m79_4 rfl (t_0 _ _) rfl (Nat.le_of_ble_eq_true rfl) ?_
      refine h_gfI (k := 1) (p := 33) m79_7 rfl (t_1 _ _) rfl (hd) ?_
      refine h_ic_geF (xi := ((q : Nat) : Int)) (zi := ((n : Nat) : Int)) m79_10 (nI_toInt (by omega)) (nI_toInt (by omega)) (by omega) ?_
      refine g_iload_n m79_13 rfl ?_
      refine g_iload_n m79_14 rfl ?_
      refine g_cs (args := [.int (nI (a)), .int (nI (q))]) (rest := []) 0 (Or.inl rfl) m79_15 (Nat.le_of_ble_eq_true rfl) rfl rfl (Nat.le_of_ble_eq_true rfl) ?_
      refine c_has (a := a) (i := q) (by omega) (by omega) ?_
      by_cases hb_4 : Nat.testBit a q = true
      · rw [if_pos hb_4]
        refine gwr ?_
        refine h_if_eqF (xi := 1) (zi := 0) m79_18 rfl rfl (by decide) ?_
        refine g_aload_n m79_21 rfl ?_
        refine h_gfR (c := 48) (k := 10) (p := 42) m79_22 rfl (t_10 _ _) rfl (Nat.le_of_ble_eq_true rfl) ?_
        refine g_iload_n m79_25 rfl ?_
        refine h_ial (k := 16) (p := 48) (j := q) m79_26 rfl (t_16 _ _) (rfl) (by omega) (Nat.le_of_ble_eq_true rfl) (hA.rd (by decide) (j := 6) (i := q) (by decide)) ?_
        refine g_aload_n m79_27 rfl ?_
        refine h_gfR (c := 33) (k := 0) (p := 32) m79_28 rfl (t_0 _ _) rfl (Nat.le_of_ble_eq_true rfl) ?_
        refine h_gfR (c := 39) (k := 1) (p := 33) m79_31 rfl (t_1 _ _) rfl (Nat.le_of_ble_eq_true rfl) ?_
        refine g_iload_n m79_34 rfl ?_
        refine h_ial (k := 7) (p := 39) (j := q) m79_35 rfl (t_7 _ _) (rfl) (by omega) (Nat.le_of_ble_eq_true rfl) (rfl) ?_
        refine h_ic_gt (xi := _) (zi := _) m79_36 rfl rfl (fun c1 => ?_) (fun c1 => ?_)
        · skip
          refine g_iinc (L2 := [some (.ref (32)), some (.ref (42)), some (.int (nI (a))), some (.int (nI (q + 1)))]) m79_41 rfl (nI_1 _) rfl rfl ?_
          refine g_goto m79_44 ?_
          refine ih (q + 1) (by omega) ?_
          show (allF (fun i => !(a.testBit i) || decide ((m 7 i).toInt < (X 6 i).toInt)) q && (!(a.testBit q) || decide _)) = true
          rw [hall]
          by_cases hbb : a.testBit q = true
          · first | exact absurd hbb hb_4 | (rw [decide_eq_true (by omega)]; simp)
          · rw [Bool.eq_false_iff.mpr hbb]
            rfl
        · skip
          refine g_iconst m79_39 ?_
          refine g_zret m79_40 rt_79 (Or.inl rfl) ?_
          refine hF (fun h => ?_)
          have h2 : (!(a.testBit q) || decide _) = true := all_y.mp h q (by omega)
          rw [hb_4, decide_eq_false (by omega)] at h2
          exact absurd h2 (by decide)
      · rw [if_neg hb_4]
        refine gwr ?_
        refine h_if_eqT (xi := 0) (zi := 0) m79_18 rfl rfl (by decide) ?_
        refine g_iinc (L2 := [some (.ref (32)), some (.ref (42)), some (.int (nI (a))), some (.int (nI (q + 1)))]) m79_41 rfl (nI_1 _) rfl rfl ?_
        refine g_goto m79_44 ?_
        refine ih (q + 1) (by omega) ?_
        show (allF (fun i => !(a.testBit i) || decide ((m 7 i).toInt < (X 6 i).toInt)) q && (!(a.testBit q) || decide _)) = true
        rw [hall]
        by_cases hbb : a.testBit q = true
        · first | exact absurd hbb hb_4 | (rw [decide_eq_true (by omega)]; simp)
        · rw [Bool.eq_false_iff.mpr hbb]
          rfl
  refine g_iconst m79_0 ?_
  refine g_istore_n (L2 := [some (.ref (32)), some (.ref (42)), some (.int (nI (a))), some (.int (0))]) m79_1 rfl rfl ?_
  exact key n 0 (by omega) rfl
set_option maxRecDepth 20000 in
set_option maxHeartbeats 40000000 in
theorem x_alike {a v : Int32} {n : Nat} (hd : m 1 10 = nI n) (hn : n ≤ 8) (h01 : ∀ j, j < 8 → m 8 j = 0 ∨ m 8 j = 1) (hW : WF (vw m 0)) (hL : LawsOk m ln N) (hix : LawIx N (m 1 11)) (hiy : LawIx N (m 1 12)) (hE1 : (a.toInt < 0 ∨ ((2 ^ n : Nat) : Int) ≤ a.toInt ∨ v.toInt < 1 ∨ 60 < v.toInt) → Q (some (.int (-1000000000 - nI 1))) (H (erm m 1) ln N)) (hE2 : ∀ i k : Nat, a = nI i → i < 2 ^ n → v = nI k → 1 ≤ k → k ≤ 60 → leastF (fun s => allF (fun w => !(Nat.testBit i w) || moreN (lkF m ln (m 1 11)) (blF m ln (m 1 12)) (shamX (vw m 0) i (nI s)) k w) n) 10 0 = none → ∀ m2, FrT m m2 → Q (some (.int (-1000000000 - nI 2))) (H (erm m2 2) ln N)) (hY : ∀ i k s : Nat, a = nI i → i < 2 ^ n → v = nI k → 1 ≤ k → k ≤ 60 → leastF (fun s => allF (fun w => !(Nat.testBit i w) || moreN (lkF m ln (m 1 11)) (blF m ln (m 1 12)) (shamX (vw m 0) i (nI s)) k w) n) 10 0 = some s → ∀ m2, FrT m m2 → Q (some (.int (nI s))) (H m2 ln N)) : WP xs (d + 7) 80 0 0 [.ref (32), .int (a), .int (v)] (H m ln N) Q := by
  refine wp_x mx_80 (L := [some (.ref (32)), some (.int (a)), some (.int (v)), none, none]) (Nat.le_of_ble_eq_true rfl) rfl ?_
  have hnn : nOf (vw m 0) = n := by unfold nOf; rw [show vw m 0 0 10 = nI n from hd]; exact nI_clamp (by omega)
  have hp8 : 2 ^ n ≤ 256 := Nat.pow_le_pow_right (n := 2) (by decide) hn
  by_cases hv : v.toInt < 1 ∨ 60 < v.toInt
  · skip
    refine g_iload_n m80_0 rfl ?_
    refine g_aload_n m80_1 rfl ?_
    refine h_gfR (c := 33) (k := 0) (p := 32) m80_2 rfl (t_0 _ _) rfl (Nat.le_of_ble_eq_true rfl) ?_
    refine h_gfI (k := 1) (p := 33) m80_5 rfl (t_1 _ _) rfl (hd) ?_
    refine g_iushr m80_8 rfl ?_
    refine h_if_ne (xi := _) (zi := 0) m80_9 rfl rfl (fun c1 => ?_) (fun c1 => ?_)
    · skip
      refine g_iload_n m80_12 rfl ?_
      refine g_iconst m80_13 ?_
      refine h_ic_lt (xi := v.toInt) (zi := 1) m80_14 rfl rfl (fun c2 => ?_) (fun c2 => ?_)
      · skip
        refine g_aload_n m80_23 rfl ?_
        refine g_iconst m80_24 ?_
        refine h_cv (k := 0) (p := 32) (args := [.int (1)]) (rest := []) m80_25 cn_55 (Nat.le_of_ble_eq_true rfl) rfl rfl rfl (t_0 _ _) (Nat.le_of_ble_eq_true rfl) ?_
        refine c_error (e := 1) (by decide) (by decide) ?_
        refine gwr ?_
        refine g_iret m80_28 rt_80 ?_
        exact hE1 (by omega)
      · skip
        refine g_iload_n m80_17 rfl ?_
        refine g_bipush m80_18 ?_
        refine h_ic_le (xi := v.toInt) (zi := 60) m80_20 rfl rfl (fun c3 => ?_) (fun c3 => ?_)
        · skip
          exfalso
          omega
        · skip
          refine g_aload_n m80_23 rfl ?_
          refine g_iconst m80_24 ?_
          refine h_cv (k := 0) (p := 32) (args := [.int (1)]) (rest := []) m80_25 cn_55 (Nat.le_of_ble_eq_true rfl) rfl rfl rfl (t_0 _ _) (Nat.le_of_ble_eq_true rfl) ?_
          refine c_error (e := 1) (by decide) (by decide) ?_
          refine gwr ?_
          refine g_iret m80_28 rt_80 ?_
          exact hE1 (by omega)
    · skip
      refine g_aload_n m80_23 rfl ?_
      refine g_iconst m80_24 ?_
      refine h_cv (k := 0) (p := 32) (args := [.int (1)]) (rest := []) m80_25 cn_55 (Nat.le_of_ble_eq_true rfl) rfl rfl rfl (t_0 _ _) (Nat.le_of_ble_eq_true rfl) ?_
      refine c_error (e := 1) (by decide) (by decide) ?_
      refine gwr ?_
      refine g_iret m80_28 rt_80 ?_
      exact hE1 (by omega)
  · skip
    obtain ⟨k, ⟨hk1, hk2⟩, hk3⟩ := nat_of (x := v) (lo := 1) (hi := 60) (by omega) (by omega)
    obtain rfl : v = nI k := hk3
    have ek : (nI k).toInt = (k : Int) := nI_toInt (by omega)
    by_cases hav : 0 ≤ a.toInt ∧ a.toInt < ((2 ^ n : Nat) : Int)
    · have hsh := (ush_set hn).mpr hav
      obtain ⟨A, ⟨hA1, hA2⟩, hA3⟩ := nat_of (x := a) (lo := 0) (hi := 2 ^ n - 1) (by omega) (by omega)
      have hA2 : A < 2 ^ n := by have := Nat.two_pow_pos n; omega
      obtain rfl : a = nI A := hA3
      refine g_iload_n m80_0 rfl ?_
      refine g_aload_n m80_1 rfl ?_
      refine h_gfR (c := 33) (k := 0) (p := 32) m80_2 rfl (t_0 _ _) rfl (Nat.le_of_ble_eq_true rfl) ?_
      refine h_gfI (k := 1) (p := 33) m80_5 rfl (t_1 _ _) rfl (hd) ?_
      refine g_iushr m80_8 rfl ?_
      refine h_if_neT (xi := _) (zi := 0) m80_9 rfl rfl (hsh) ?_
      refine g_iload_n m80_12 rfl ?_
      refine g_iconst m80_13 ?_
      refine h_ic_ltF (xi := ((k : Nat) : Int)) (zi := 1) m80_14 (nI_toInt (by omega)) rfl (by omega) ?_
      refine g_iload_n m80_17 rfl ?_
      refine g_bipush m80_18 ?_
      refine h_ic_leT (xi := ((k : Nat) : Int)) (zi := 60) m80_20 (nI_toInt (by omega)) rfl (by omega) ?_
      refine g_iconst m80_29 ?_
      refine g_istore_n (L2 := [some (.ref (32)), some (.int (nI (A))), some (.int (nI (k))), some (.int (0)), none]) m80_30 rfl rfl ?_
      have key : ∀ (r : Nat) (s : Nat) (o4 : Option Value) (m2 : MW), s + r = 10 → FrT m m2 → leastF (fun s => allF (fun w => !(Nat.testBit A w) || moreN (lkF m ln (m 1 11)) (blF m ln (m 1 12)) (shamX (vw m 0) A (nI s)) k w) n) r s = leastF (fun s => allF (fun w => !(Nat.testBit A w) || moreN (lkF m ln (m 1 11)) (blF m ln (m 1 12)) (shamX (vw m 0) A (nI s)) k w) n) 10 0 → gw xs (WP xs (d + 6)) 80 Q 31 [some (.ref (32)), some (.int (nI (A))), some (.int (nI (k))), some (.int (nI (s))), o4] [] (H m2 ln N) 0 0 := by
        intro r
        induction r with
        | zero =>
          intro s o4 m2 hs hF hfin
          obtain rfl : s = 10 := by omega
          refine g_iload_n m80_31 rfl ?_
          refine g_bipush m80_32 ?_
          refine h_ic_geT (xi := ((10 : Nat) : Int)) (zi := 10) m80_34 (nI_toInt (by omega)) rfl (by omega) ?_
          refine g_aload_n m80_74 rfl ?_
          refine g_iconst m80_75 ?_
          refine h_cv (k := 0) (p := 32) (args := [.int (2)]) (rest := []) m80_76 cn_55 (Nat.le_of_ble_eq_true rfl) rfl rfl rfl (t_0 _ _) (Nat.le_of_ble_eq_true rfl) ?_
          refine c_error (e := 2) (by decide) (by decide) ?_
          refine gwr ?_
          refine g_iret m80_79 rt_80 ?_
          exact hE2 A k rfl hA2 rfl (by omega) (by omega) hfin.symm m2 hF
        | succ r ih =>
          intro s o4 m2 hs hF hfin
          refine g_iload_n m80_31 rfl ?_
          refine g_bipush m80_32 ?_
          refine h_ic_geF (xi := ((s : Nat) : Int)) (zi := 10) m80_34 (nI_toInt (by omega)) rfl (by omega) ?_
          refine g_aload_n m80_37 rfl ?_
          refine h_cv (k := 0) (p := 32) (args := []) (rest := []) m80_38 cn_74 (Nat.le_of_ble_eq_true rfl) rfl rfl rfl (t_0 _ _) (Nat.le_of_ble_eq_true rfl) ?_
          have hd2 : m2 1 10 = nI n := (hF 1 10 (by omega) (fun q => by rcases q with q | q <;> omega)).trans hd
          have h012 : ∀ j, j < 8 → m2 8 j = 0 ∨ m2 8 j = 1 := fun j hj => by rw [hF 8 j (by omega) (fun q => by rcases q with q | q <;> omega)]; exact h01 j hj
          have hL2 := hF.laws hL
          have e11 : m2 1 11 = m 1 11 := hF 1 11 (by omega) (fun q => by rcases q with q | q <;> omega)
          have e12 : m2 1 12 = m 1 12 := hF 1 12 (by omega) (fun q => by rcases q with q | q <;> omega)
          have hL1 : LawsOk (takeM m2 1 0) ln N := tk_l hL2 1 0 (by decide)
          have elk := (tk_lk m2 1 0 (by decide) ln (m 1 11)).trans (hF.lk ln _)
          have ebl := (tk_bl m2 1 0 (by decide) ln (m 1 12)).trans (hF.bl ln _)
          have h80 : Eq8 (vw m 0) (vw (takeM m2 1 0) 1) := Eq8.tr (fun j hj i => congrFun (hF.vw0 (by omega)) i) (take_8 m2 1 0)
          have hW1 : WF (vw (takeM m2 1 0) 1) := WF_c h80 hW
          refine c_think h012 ?_
          refine gwr ?_
          refine g_astore (L2 := [some (.ref (32)), some (.int (nI (A))), some (.int (nI (k))), some (.int (nI (s))), some (.ref (42))]) m80_41 rfl rfl ?_
          refine g_aload m80_43 rfl ?_
          refine g_iload_n m80_45 rfl ?_
          refine g_iload_n m80_46 rfl ?_
          refine h_cv (k := 10) (p := 42) (args := [.int (nI (A)), .int (nI (s))]) (rest := []) m80_47 cn_44 (Nat.le_of_ble_eq_true rfl) rfl rfl rfl (t_10 _ _) (Nat.le_of_ble_eq_true rfl) ?_
          refine c_shamAlike (t := 1) (m0 := takeM m2 1 0) (X := (vw (takeM m2 1 0) 1)) (by decide) (AtX.self _ 1) hn ((congrFun (take_vw m2 1 0 (j := 0) (by decide)) 10).trans hd2) (by omega) (fun m3 hA3 => ?_)
          have hnn2 : nOf (vw (takeM m2 1 0) 1) = n := by unfold nOf; rw [show (vw (takeM m2 1 0) 1) 0 10 = nI n from (congrFun (take_vw m2 1 0 (j := 0) (by decide)) 10).trans hd2]; exact nI_clamp (by omega)
          rw [← shamQ_X hnn2] at hA3
          refine gwr0 ?_
          refine g_aload m80_50 rfl ?_
          refine g_iload_n m80_52 rfl ?_
          refine h_cv (k := 10) (p := 42) (args := [.int (nI (k))]) (rest := []) m80_53 cn_41 (Nat.le_of_ble_eq_true rfl) rfl rfl rfl (t_10 _ _) (Nat.le_of_ble_eq_true rfl) ?_
          have h8w := shamX_8 h80 A (nI s)
          have hWw := WF_shamX (a := A) hW1 ⟨s, by omega, rfl⟩
          refine c_goOn (n := k) (x := m 1 11) (y := m 1 12) (t := 1) (m0 := takeM m2 1 0) (by decide) hL1 hA3 ((shamX_o (by decide)).trans ((congrFun (take_vw m2 1 0 (j := 0) (by decide)) 11).trans e11)) hix ((shamX_o (by decide)).trans ((congrFun (take_vw m2 1 0 (j := 0) (by decide)) 12).trans e12)) hiy hWw (by omega) (fun X4 m4 h8 hA4 => ?_)
          rw [elk, ebl] at h8
          have h84 := (stepN_8 (LK := (lkF m ln (m 1 11))) (BL := (blF m ln (m 1 12))) h8w k).tr h8
          have hF4 := hF.tr (FrT.of hA4)
          refine gwr0 ?_
          refine g_aload_n m80_56 rfl ?_
          refine g_aload m80_57 rfl ?_
          refine g_iload_n m80_59 rfl ?_
          refine h_cv (k := 0) (p := 32) (args := [.ref (42), .int (nI (A))]) (rest := []) m80_60 cn_79 (Nat.le_of_ble_eq_true rfl) rfl rfl rfl (t_0 _ _) (Nat.le_of_ble_eq_true rfl) ?_
          have ep : ∀ i, i < n → (!(A.testBit i) || decide ((m4 7 i).toInt < (X4 6 i).toInt)) = (!(A.testBit i) || moreN (lkF m ln (m 1 11)) (blF m ln (m 1 12)) (shamX (vw m 0) A (nI s)) k i) := fun i _ => by
            unfold moreN
            rw [h84 6 (by decide) i, shamX_o (by decide), show m4 7 i = vw m 0 6 i from hF4 7 i (by omega) (fun z => by rcases z with z | z <;> omega)]
          refine c_haveMore hA4 ((hF4 1 10 (by omega) (fun q => by rcases q with q | q <;> omega)).trans hd) hn (by omega) (fun hm => ?_) (fun hm => ?_)
          · rw [allF_c n ep] at hm
            rw [least_y (p := (fun s => allF (fun w => !(Nat.testBit A w) || moreN (lkF m ln (m 1 11)) (blF m ln (m 1 12)) (shamX (vw m 0) A (nI s)) k w) n)) (s := s) hm] at hfin
            refine gwr ?_
            refine h_if_eqF (xi := 1) (zi := 0) m80_63 rfl rfl (by decide) ?_
            refine g_iload_n m80_66 rfl ?_
            refine g_iret m80_67 rt_80 ?_
            exact hY A k s rfl hA2 rfl (by omega) (by omega) hfin.symm m4 hF4
          · rw [allF_c n ep] at hm
            rw [least_n (p := (fun s => allF (fun w => !(Nat.testBit A w) || moreN (lkF m ln (m 1 11)) (blF m ln (m 1 12)) (shamX (vw m 0) A (nI s)) k w) n)) (s := s) hm] at hfin
            refine gwr ?_
            refine h_if_eqT (xi := 0) (zi := 0) m80_63 rfl rfl (by decide) ?_
            refine g_iinc (L2 := [some (.ref (32)), some (.int (nI (A))), some (.int (nI (k))), some (.int (nI (s + 1))), some (.ref (42))]) m80_68 rfl (nI_1 _) rfl rfl ?_
            refine g_goto m80_71 ?_
            exact ih (s + 1) _ _ (by omega) hF4 hfin
      exact key 10 0 _ _ (by omega) FrT.rf rfl
    · have hsh := fun z => hav ((ush_set hn).mp z)
      refine g_iload_n m80_0 rfl ?_
      refine g_aload_n m80_1 rfl ?_
      refine h_gfR (c := 33) (k := 0) (p := 32) m80_2 rfl (t_0 _ _) rfl (Nat.le_of_ble_eq_true rfl) ?_
      refine h_gfI (k := 1) (p := 33) m80_5 rfl (t_1 _ _) rfl (hd) ?_
      refine g_iushr m80_8 rfl ?_
      refine h_if_neF (xi := _) (zi := 0) m80_9 rfl rfl (hsh) ?_
      refine g_aload_n m80_23 rfl ?_
      refine g_iconst m80_24 ?_
      refine h_cv (k := 0) (p := 32) (args := [.int (1)]) (rest := []) m80_25 cn_55 (Nat.le_of_ble_eq_true rfl) rfl rfl rfl (t_0 _ _) (Nat.le_of_ble_eq_true rfl) ?_
      refine c_error (e := 1) (by decide) (by decide) ?_
      refine gwr ?_
      refine g_iret m80_28 rt_80 ?_
      exact hE1 (by omega)
end
