/-! WHAT WOULD BE: the reference -/
def FrP (m m2 : MW) : Prop := ∀ k j, ¬ (k = 60 ∨ k = 66 ∨ k = 67) → ¬ minor k j → m2 k j = m k j
theorem FrP.rf {m : MW} : FrP m m := fun _ _ _ _ => rfl
theorem FrP.tr {m m2 m3 : MW} (h : FrP m m2) (h2 : FrP m2 m3) : FrP m m3 := fun k j a b => (h2 k j a b).trans (h k j a b)
theorem FrP.row {m m2 : MW} (h : FrP m m2) : m2 58 = m 58 := funext fun j => h 58 j (by omega) (fun z => by rcases z with z | z <;> omega)
theorem thR_58 (m : MW) (w : Nat → Int32) : upmR m 60 w 58 = m 58 := if_neg (by decide)
theorem thR_A (m : MW) : AtY (upmR m 60 (m 58)) (vr (m 58)) (upmR m 60 (m 58)) := by
  have h := AtY.self (upmR m 60 (m 58))
  rw [thR_58] at h
  exact h
theorem FrP.back {m Y m2 : MW} (h : AtY (upmR m 60 (m 58)) Y m2) : FrP m (upmR m2 58 (m2 60)) := by
  intro k j a b
  unfold upmR
  by_cases e : k = 58
  · rw [if_pos e, e, h.out (by decide) (fun z => by rcases z with z | z <;> omega)]
    rfl
  · rw [if_neg e, h.out e b]
    exact congrFun (if_neg (fun z => a (Or.inl z))) j
theorem th_60 {m Y m2 : MW} (h : AtY (upmR m 60 (m 58)) Y m2) (j : Nat) : m2 60 j = m 58 j := by
  rw [h.out (by decide) (fun z => by rcases z with z | z <;> omega)]
  rfl
theorem vr_c (r : Nat → Int32) {i c : Nat} : r (16 + 6 * i + c) = vr r (2 + c) i := by
  rw [Nat.add_comm 2 c]
  rfl
theorem or_z (x : Int32) : x ||| 0 = x := Int32.or_zero
theorem bit_1 : ∀ i, i < 9 → ((1 : Int32) <<< (nI i &&& 31)) = nI (2 ^ i) := by decide +kernel
theorem and_not : ∀ n, n < 9 → ∀ a, a < 2 ^ n → ((((1 : Int32) <<< (nI n &&& 31)) - 1) &&& (nI a ^^^ -1)) = nI (2 ^ n - 1 - a) := by decide +kernel
theorem bits_not (p : Nat → Bool) : ∀ n, 2 ^ n - 1 - bitsF p n = bitsF (fun i => !(p i)) n
  | 0 => rfl
  | n + 1 => by
    have h := bits_not p n
    have hl := bitsF_lt p n
    show 2 ^ (n + 1) - 1 - (bitsF p n + (if p n = true then 2 ^ n else 0)) = bitsF (fun i => !(p i)) n + (if (!(p n)) = true then 2 ^ n else 0)
    rw [← h, Nat.pow_succ]
    cases p n
    · rw [if_neg (by decide), if_pos (by decide)]
      omega
    · rw [if_pos rfl, if_neg (by decide)]
      omega
theorem and_no {a f : Nat} (ha : a < 256) : (nI a &&& (nI f ^^^ -1)).toInt = 0 ↔ ∀ w, w < 8 → a.testBit w = true → f.testBit w = true := by
  have e0 : (nI a &&& (nI f ^^^ -1)).toBitVec = BitVec.ofNat 32 a &&& (BitVec.ofNat 32 f ^^^ BitVec.allOnes 32) := rfl
  have e1 : (nI a &&& (nI f ^^^ -1)).toInt = 0 ↔ BitVec.ofNat 32 a &&& (BitVec.ofNat 32 f ^^^ BitVec.allOnes 32) = 0#32 := by
    rw [← e0]
    constructor
    · intro h
      have h2 : (nI a &&& (nI f ^^^ -1)) = 0 := Int32.toInt_inj.mp h
      rw [h2]
      rfl
    · intro h
      have h2 : (nI a &&& (nI f ^^^ -1)) = 0 := Int32.toBitVec_inj.mp h
      rw [h2]
      rfl
  rw [e1]
  constructor
  · intro h w hw haw
    have h2 := congrArg (fun z => z.getLsbD w) h
    simp only [BitVec.getLsbD_and, BitVec.getLsbD_xor, BitVec.getLsbD_ofNat, BitVec.getLsbD_allOnes, show w < 32 by omega, decide_true, Bool.true_and, haw] at h2
    cases hf : f.testBit w
    · rw [hf] at h2
      simp at h2
    · rfl
  · intro h
    apply BitVec.eq_of_getLsbD_eq
    intro w hw
    simp only [BitVec.getLsbD_and, BitVec.getLsbD_xor, BitVec.getLsbD_ofNat, BitVec.getLsbD_allOnes, hw, decide_true, Bool.true_and]
    cases haw : a.testBit w
    · simp
    · have hw8 : w < 8 := by
        by_cases c : w < 8
        · exact c
        · have : a < 2 ^ w := Nat.lt_of_lt_of_le ha (by
            have := Nat.pow_le_pow_right (n := 2) (by decide) (show 8 ≤ w by omega)
            omega)
          rw [Nat.testBit_lt_two_pow this] at haw
          exact absurd haw (by decide)
      rw [h w hw8 haw]
      simp
theorem leastF_c {p q : Nat → Bool} (h : ∀ i, q i = p i) : ∀ r s, leastF q r s = leastF p r s
  | 0, _ => rfl
  | r + 1, s => by
    show (if q s = true then some s else leastF q r (s + 1)) = (if p s = true then some s else leastF p r (s + 1))
    rw [h s, leastF_c h r (s + 1)]
theorem stepN_60 (LK BL : LF) (X : MW) (i : Nat) : moreAt LK BL X i 0 = false := by
  show decide ((X 6 i).toInt < (X 6 i).toInt) = false
  rw [decide_eq_false_iff_not]
  omega
section
variable {xs : List Int32} {d : Nat} {h : AH} {Q : QT} {m : MW} {ln : Nat → Nat} {N : Nat}
set_option maxRecDepth 20000 in
set_option maxHeartbeats 40000000 in
theorem m_then {v a b : Int32} {n : Nat} (hd : m 58 2 = nI n) (hn : n ≤ 8) (hX0 : TxOk (m 58) 0) (hX1 : TxOk (m 58) 1) (hWY : WF (vr (m 58))) (hE1 : (v.toInt < 0 ∨ 60 < v.toInt ∨ a.toInt < 0 ∨ (n : Int) ≤ a.toInt ∨ b.toInt < 0 ∨ 2 < b.toInt) → Q (some (.int (-1000000001))) (H (ers m 1) ln N)) (hY : ∀ q i k : Nat, v = nI q → q ≤ 60 → a = nI i → i < n → b = nI k → k ≤ 2 → ∀ m2, FrP m m2 → Q (some (.int ((stepN (rkF (m 58)) (rbF (m 58)) (vr (m 58)) q) (whatF k) i))) (H m2 ln N)) : WP xs (d + 817) 152 0 0 [.ref (89), .int (v), .int (a), .int (b)] (H m ln N) Q := by
  refine wp_x mx_152 (L := [some (.ref (89)), some (.int (v)), some (.int (a)), some (.int (b)), none]) (Nat.le_of_ble_eq_true rfl) rfl ?_
  refine g_iload_n m152_0 rfl ?_
  refine g_iconst m152_1 ?_
  refine g_bipush m152_2 ?_
  refine g_cs (args := [.int (v), .int (0), .int (60)]) (rest := []) 0 (Or.inl rfl) m152_4 (Nat.le_of_ble_eq_true rfl) rfl rfl (Nat.le_of_ble_eq_true rfl) ?_
  refine c_in (A := 0) (B := 60) rfl rfl (by decide) (fun jv ev a_1 a_1' => ?_) (fun a_1 => ?_)
  · subst ev
    refine gwr ?_
    refine h_if_eqF (xi := 1) (zi := 0) m152_7 rfl rfl (by decide) ?_
    refine g_aload_n m152_10 rfl ?_
    refine g_iload_n m152_11 rfl ?_
    refine h_cv (k := 57) (p := 89) (args := [.int (a)]) (rest := []) m152_12 cn_113 (Nat.le_of_ble_eq_true rfl) rfl rfl rfl (t_57 _ _) (Nat.le_of_ble_eq_true rfl) ?_
    refine c_isDinerM hd hn (fun ja ea a_2 => ?_) (fun a_2 => ?_)
    · subst ea
      refine gwr ?_
      refine h_if_eqF (xi := 1) (zi := 0) m152_15 rfl rfl (by decide) ?_
      refine g_iload_n m152_18 rfl ?_
      refine g_iconst m152_19 ?_
      refine g_iconst m152_20 ?_
      refine g_cs (args := [.int (b), .int (0), .int (2)]) (rest := []) 0 (Or.inl rfl) m152_21 (Nat.le_of_ble_eq_true rfl) rfl rfl (Nat.le_of_ble_eq_true rfl) ?_
      refine c_in (A := 0) (B := 2) rfl rfl (by decide) (fun jb eb a_3 a_3' => ?_) (fun a_3 => ?_)
      · subst eb
        refine gwr ?_
        refine h_if_neF (xi := 1) (zi := 0) m152_24 rfl rfl (by decide) ?_
        refine g_aload_n m152_34 rfl ?_
        refine g_aload_n m152_35 rfl ?_
        refine h_gfR (c := 90) (k := 57) (p := 89) m152_36 rfl (t_57 _ _) rfl (Nat.le_of_ble_eq_true rfl) ?_
        refine g_aload_n m152_39 rfl ?_
        refine h_gfR (c := 92) (k := 57) (p := 89) m152_40 rfl (t_57 _ _) rfl (Nat.le_of_ble_eq_true rfl) ?_
        refine h_cv (k := 57) (p := 89) (args := [.ref (90), .ref (92)]) (rest := []) m152_43 cn_110 (Nat.le_of_ble_eq_true rfl) rfl rfl rfl (t_57 _ _) (Nat.le_of_ble_eq_true rfl) ?_
        refine c_moveRow (k1 := 58) (k2 := 60) rfl rfl (t_58 _ _) (t_60 _ _) (by decide) ?_
        have h58 : (upmR m 60 (m 58)) 58 = m 58 := thR_58 _ _
        have hAt := thR_A m
        have hX0t : TxOk ((upmR m 60 (m 58)) 58) 0 := by rw [h58]; exact hX0
        have hX1t : TxOk ((upmR m 60 (m 58)) 58) 1 := by rw [h58]; exact hX1
        refine gwr0 ?_
        refine g_aload_n m152_46 rfl ?_
        refine g_iload_n m152_47 rfl ?_
        refine h_cv (k := 57) (p := 89) (args := [.int (nI (jv))]) (rest := []) m152_48 cn_146 (Nat.le_of_ble_eq_true rfl) rfl rfl rfl (t_57 _ _) (Nat.le_of_ble_eq_true rfl) ?_
        refine c_passes hAt hX0t hX1t hWY (n := jv) (by omega) (fun m2 hA2 => ?_)
        rw [h58] at hA2
        refine gwr0 ?_
        refine g_aload_n m152_51 rfl ?_
        refine g_iload_n m152_52 rfl ?_
        refine g_iload_n m152_53 rfl ?_
        refine h_if_ne (xi := ((jb : Nat) : Int)) (zi := 0) m152_54 (nI_toInt (by omega)) rfl (fun c1 => ?_) (fun c1 => ?_)
        · skip
          refine g_iconst m152_57 ?_
          refine g_goto m152_58 ?_
          refine h_cv (k := 57) (p := 89) (args := [.int (nI (ja)), .int (2)]) (rest := []) m152_71 cn_111 (Nat.le_of_ble_eq_true rfl) rfl rfl rfl (t_57 _ _) (Nat.le_of_ble_eq_true rfl) ?_
          refine c_its (w := 2) (by omega) (by decide) ?_
          rw [hA2.rd (i := ja) (c := 2) (by omega) (by decide)]
          refine gwr ?_
          refine g_istore (L2 := [some (.ref (89)), some (.int (nI (jv))), some (.int (nI (ja))), some (.int (nI (jb))), some (.int ((stepN (rkF (m 58)) (rbF (m 58)) (vr (m 58)) jv) (2 + 2) ja))]) m152_74 rfl rfl ?_
          refine g_aload_n m152_76 rfl ?_
          refine g_aload_n m152_77 rfl ?_
          refine h_gfR (c := 92) (k := 57) (p := 89) m152_78 rfl (t_57 _ _) rfl (Nat.le_of_ble_eq_true rfl) ?_
          refine g_aload_n m152_81 rfl ?_
          refine h_gfR (c := 90) (k := 57) (p := 89) m152_82 rfl (t_57 _ _) rfl (Nat.le_of_ble_eq_true rfl) ?_
          refine h_cv (k := 57) (p := 89) (args := [.ref (92), .ref (90)]) (rest := []) m152_85 cn_110 (Nat.le_of_ble_eq_true rfl) rfl rfl rfl (t_57 _ _) (Nat.le_of_ble_eq_true rfl) ?_
          refine c_moveRow (k1 := 60) (k2 := 58) rfl rfl (t_60 _ _) (t_58 _ _) (by decide) ?_
          have hFb := FrP.back hA2
          refine gwr0 ?_
          refine g_iload m152_88 rfl ?_
          refine g_iret m152_90 rt_152 ?_
          obtain rfl : jb = 0 := by omega
          have h9 := hY jv ja 0 rfl (by omega) rfl (by omega) rfl (by decide) _ hFb
          rw [show whatF 0 = 4 from rfl] at h9
          exact h9
        · skip
          refine g_iload_n m152_61 rfl ?_
          refine g_iconst m152_62 ?_
          refine h_ic_ne (xi := ((jb : Nat) : Int)) (zi := 1) m152_63 (nI_toInt (by omega)) rfl (fun c2 => ?_) (fun c2 => ?_)
          · skip
            refine g_iconst m152_66 ?_
            refine g_goto m152_67 ?_
            refine h_cv (k := 57) (p := 89) (args := [.int (nI (ja)), .int (4)]) (rest := []) m152_71 cn_111 (Nat.le_of_ble_eq_true rfl) rfl rfl rfl (t_57 _ _) (Nat.le_of_ble_eq_true rfl) ?_
            refine c_its (w := 4) (by omega) (by decide) ?_
            rw [hA2.rd (i := ja) (c := 4) (by omega) (by decide)]
            refine gwr ?_
            refine g_istore (L2 := [some (.ref (89)), some (.int (nI (jv))), some (.int (nI (ja))), some (.int (nI (jb))), some (.int ((stepN (rkF (m 58)) (rbF (m 58)) (vr (m 58)) jv) (2 + 4) ja))]) m152_74 rfl rfl ?_
            refine g_aload_n m152_76 rfl ?_
            refine g_aload_n m152_77 rfl ?_
            refine h_gfR (c := 92) (k := 57) (p := 89) m152_78 rfl (t_57 _ _) rfl (Nat.le_of_ble_eq_true rfl) ?_
            refine g_aload_n m152_81 rfl ?_
            refine h_gfR (c := 90) (k := 57) (p := 89) m152_82 rfl (t_57 _ _) rfl (Nat.le_of_ble_eq_true rfl) ?_
            refine h_cv (k := 57) (p := 89) (args := [.ref (92), .ref (90)]) (rest := []) m152_85 cn_110 (Nat.le_of_ble_eq_true rfl) rfl rfl rfl (t_57 _ _) (Nat.le_of_ble_eq_true rfl) ?_
            refine c_moveRow (k1 := 60) (k2 := 58) rfl rfl (t_60 _ _) (t_58 _ _) (by decide) ?_
            have hFb := FrP.back hA2
            refine gwr0 ?_
            refine g_iload m152_88 rfl ?_
            refine g_iret m152_90 rt_152 ?_
            obtain rfl : jb = 1 := by omega
            have h9 := hY jv ja 1 rfl (by omega) rfl (by omega) rfl (by decide) _ hFb
            rw [show whatF 1 = 6 from rfl] at h9
            exact h9
          · skip
            refine g_iconst m152_70 ?_
            refine h_cv (k := 57) (p := 89) (args := [.int (nI (ja)), .int (5)]) (rest := []) m152_71 cn_111 (Nat.le_of_ble_eq_true rfl) rfl rfl rfl (t_57 _ _) (Nat.le_of_ble_eq_true rfl) ?_
            refine c_its (w := 5) (by omega) (by decide) ?_
            rw [hA2.rd (i := ja) (c := 5) (by omega) (by decide)]
            refine gwr ?_
            refine g_istore (L2 := [some (.ref (89)), some (.int (nI (jv))), some (.int (nI (ja))), some (.int (nI (jb))), some (.int ((stepN (rkF (m 58)) (rbF (m 58)) (vr (m 58)) jv) (2 + 5) ja))]) m152_74 rfl rfl ?_
            refine g_aload_n m152_76 rfl ?_
            refine g_aload_n m152_77 rfl ?_
            refine h_gfR (c := 92) (k := 57) (p := 89) m152_78 rfl (t_57 _ _) rfl (Nat.le_of_ble_eq_true rfl) ?_
            refine g_aload_n m152_81 rfl ?_
            refine h_gfR (c := 90) (k := 57) (p := 89) m152_82 rfl (t_57 _ _) rfl (Nat.le_of_ble_eq_true rfl) ?_
            refine h_cv (k := 57) (p := 89) (args := [.ref (92), .ref (90)]) (rest := []) m152_85 cn_110 (Nat.le_of_ble_eq_true rfl) rfl rfl rfl (t_57 _ _) (Nat.le_of_ble_eq_true rfl) ?_
            refine c_moveRow (k1 := 60) (k2 := 58) rfl rfl (t_60 _ _) (t_58 _ _) (by decide) ?_
            have hFb := FrP.back hA2
            refine gwr0 ?_
            refine g_iload m152_88 rfl ?_
            refine g_iret m152_90 rt_152 ?_
            obtain rfl : jb = 2 := by omega
            have h9 := hY jv ja 2 rfl (by omega) rfl (by omega) rfl (by decide) _ hFb
            rw [show whatF 2 = 7 from rfl] at h9
            exact h9
      · skip
        refine gwr ?_
        refine h_if_neT (xi := 0) (zi := 0) m152_24 rfl rfl (by decide) ?_
        refine g_aload_n m152_27 rfl ?_
        refine g_ldci m152_28 rfl ?_
        refine h_cv (k := 57) (p := 89) (args := [.int (-1000000001)]) (rest := []) m152_30 cn_108 (Nat.le_of_ble_eq_true rfl) rfl rfl rfl (t_57 _ _) (Nat.le_of_ble_eq_true rfl) ?_
        refine c_errs (e := 1) (by decide) (by decide) (by decide) ?_
        refine gwr ?_
        refine g_iret m152_33 rt_152 ?_
        exact hE1 (by omega)
    · skip
      refine gwr ?_
      refine h_if_eqT (xi := 0) (zi := 0) m152_15 rfl rfl (by decide) ?_
      refine g_aload_n m152_27 rfl ?_
      refine g_ldci m152_28 rfl ?_
      refine h_cv (k := 57) (p := 89) (args := [.int (-1000000001)]) (rest := []) m152_30 cn_108 (Nat.le_of_ble_eq_true rfl) rfl rfl rfl (t_57 _ _) (Nat.le_of_ble_eq_true rfl) ?_
      refine c_errs (e := 1) (by decide) (by decide) (by decide) ?_
      refine gwr ?_
      refine g_iret m152_33 rt_152 ?_
      exact hE1 (by omega)
  · skip
    refine gwr ?_
    refine h_if_eqT (xi := 0) (zi := 0) m152_7 rfl rfl (by decide) ?_
    refine g_aload_n m152_27 rfl ?_
    refine g_ldci m152_28 rfl ?_
    refine h_cv (k := 57) (p := 89) (args := [.int (-1000000001)]) (rest := []) m152_30 cn_108 (Nat.le_of_ble_eq_true rfl) rfl rfl rfl (t_57 _ _) (Nat.le_of_ble_eq_true rfl) ?_
    refine c_errs (e := 1) (by decide) (by decide) (by decide) ?_
    refine gwr ?_
    refine g_iret m152_33 rt_152 ?_
    exact hE1 (by omega)
set_option maxRecDepth 20000 in
set_option maxHeartbeats 40000000 in
theorem m_first {a : Int32} {n : Nat} (hd : m 58 2 = nI n) (hn : n ≤ 8) (hX0 : TxOk (m 58) 0) (hX1 : TxOk (m 58) 1) (hWY : WF (vr (m 58))) (hE1 : (a.toInt < 0 ∨ (n : Int) ≤ a.toInt) → Q (some (.int (-1000000001))) (H (ers m 1) ln N)) (hE2 : ∀ i : Nat, a = nI i → i < n → (firstF (rkF (m 58)) (rbF (m 58)) (vr (m 58)) i 60 1) = 0 → ∀ m2, FrP m m2 → Q (some (.int (-1000000002))) (H (ers m2 2) ln N)) (hY : ∀ i : Nat, a = nI i → i < n → (firstF (rkF (m 58)) (rbF (m 58)) (vr (m 58)) i 60 1) ≠ 0 → ∀ m2, FrP m m2 → Q (some (.int (nI (firstF (rkF (m 58)) (rbF (m 58)) (vr (m 58)) i 60 1)))) (H m2 ln N)) : WP xs (d + 817) 153 0 0 [.ref (89), .int (a)] (H m ln N) Q := by
  refine wp_x mx_153 (L := [some (.ref (89)), some (.int (a)), none, none]) (Nat.le_of_ble_eq_true rfl) rfl ?_
  refine g_aload_n m153_0 rfl ?_
  refine g_iload_n m153_1 rfl ?_
  refine h_cv (k := 57) (p := 89) (args := [.int (a)]) (rest := []) m153_2 cn_113 (Nat.le_of_ble_eq_true rfl) rfl rfl rfl (t_57 _ _) (Nat.le_of_ble_eq_true rfl) ?_
  refine c_isDinerM hd hn (fun ja ea a_4 => ?_) (fun a_4 => ?_)
  · subst ea
    refine gwr ?_
    refine h_if_neF (xi := 1) (zi := 0) m153_5 rfl rfl (by decide) ?_
    refine g_aload_n m153_15 rfl ?_
    refine g_iload_n m153_16 rfl ?_
    refine g_iconst m153_17 ?_
    refine h_cv (k := 57) (p := 89) (args := [.int (nI (ja)), .int (4)]) (rest := []) m153_18 cn_111 (Nat.le_of_ble_eq_true rfl) rfl rfl rfl (t_57 _ _) (Nat.le_of_ble_eq_true rfl) ?_
    refine c_its (w := 4) (by omega) (by decide) ?_
    rw [show m 58 (16 + 6 * ja + 4) = (vr (m 58)) 6 ja from rfl]
    refine gwr ?_
    refine g_istore_n (L2 := [some (.ref (89)), some (.int (nI (ja))), some (.int ((vr (m 58)) 6 ja)), none]) m153_21 rfl rfl ?_
    refine g_aload_n m153_22 rfl ?_
    refine g_aload_n m153_23 rfl ?_
    refine h_gfR (c := 90) (k := 57) (p := 89) m153_24 rfl (t_57 _ _) rfl (Nat.le_of_ble_eq_true rfl) ?_
    refine g_aload_n m153_27 rfl ?_
    refine h_gfR (c := 92) (k := 57) (p := 89) m153_28 rfl (t_57 _ _) rfl (Nat.le_of_ble_eq_true rfl) ?_
    refine h_cv (k := 57) (p := 89) (args := [.ref (90), .ref (92)]) (rest := []) m153_31 cn_110 (Nat.le_of_ble_eq_true rfl) rfl rfl rfl (t_57 _ _) (Nat.le_of_ble_eq_true rfl) ?_
    refine c_moveRow (k1 := 58) (k2 := 60) rfl rfl (t_58 _ _) (t_60 _ _) (by decide) ?_
    have h58 : (upmR m 60 (m 58)) 58 = m 58 := thR_58 _ _
    have hAt := thR_A m
    have hX0t : TxOk ((upmR m 60 (m 58)) 58) 0 := by rw [h58]; exact hX0
    have hX1t : TxOk ((upmR m 60 (m 58)) 58) 1 := by rw [h58]; exact hX1
    refine gwr0 ?_
    refine g_iconst m153_34 ?_
    refine g_istore_n (L2 := [some (.ref (89)), some (.int (nI (ja))), some (.int ((vr (m 58)) 6 ja)), some (.int (0))]) m153_35 rfl rfl ?_
    have key : ∀ (r : Nat) (q : Nat) (m2 : MW), q + r = 61 → AtY (upmR m 60 (m 58)) (stepN (rkF (m 58)) (rbF (m 58)) (vr (m 58)) q) m2 → firstF (rkF (m 58)) (rbF (m 58)) (vr (m 58)) ja r q = firstF (rkF (m 58)) (rbF (m 58)) (vr (m 58)) ja 60 1 → gw xs (WP xs (d + 816)) 153 Q 36 [some (.ref (89)), some (.int (nI (ja))), some (.int ((vr (m 58)) 6 ja)), some (.int (nI (q)))] [] (H m2 ln N) 0 0 := by
      intro r
      induction r with
      | zero =>
        intro q m2 hq hA hfin
        obtain rfl : q = 61 := by omega
        refine g_iload_n m153_36 rfl ?_
        refine g_bipush m153_37 ?_
        refine h_ic_gtT (xi := ((61 : Nat) : Int)) (zi := 60) m153_39 (nI_toInt (by omega)) rfl (by omega) ?_
        refine g_aload_n m153_62 rfl ?_
        refine g_aload_n m153_63 rfl ?_
        refine h_gfR (c := 92) (k := 57) (p := 89) m153_64 rfl (t_57 _ _) rfl (Nat.le_of_ble_eq_true rfl) ?_
        refine g_aload_n m153_67 rfl ?_
        refine h_gfR (c := 90) (k := 57) (p := 89) m153_68 rfl (t_57 _ _) rfl (Nat.le_of_ble_eq_true rfl) ?_
        refine h_cv (k := 57) (p := 89) (args := [.ref (92), .ref (90)]) (rest := []) m153_71 cn_110 (Nat.le_of_ble_eq_true rfl) rfl rfl rfl (t_57 _ _) (Nat.le_of_ble_eq_true rfl) ?_
        refine c_moveRow (k1 := 60) (k2 := 58) rfl rfl (t_60 _ _) (t_58 _ _) (by decide) ?_
        have hFb := FrP.back hA
        refine gwr0 ?_
        refine g_iload_n m153_74 rfl ?_
        refine g_bipush m153_75 ?_
        refine h_ic_leF (xi := ((61 : Nat) : Int)) (zi := 60) m153_77 (nI_toInt (by omega)) rfl (by omega) ?_
        refine g_aload_n m153_80 rfl ?_
        refine g_ldci m153_81 rfl ?_
        refine h_cv (k := 57) (p := 89) (args := [.int (-1000000002)]) (rest := []) m153_83 cn_108 (Nat.le_of_ble_eq_true rfl) rfl rfl rfl (t_57 _ _) (Nat.le_of_ble_eq_true rfl) ?_
        refine c_errs (e := 2) (by decide) (by decide) (by decide) ?_
        refine gwr ?_
        refine g_goto m153_86 ?_
        refine g_iret m153_90 rt_153 ?_
        exact hE2 ja rfl (by omega) hfin.symm _ hFb
      | succ r ih =>
        intro q m2 hq hA hfin
        refine g_iload_n m153_36 rfl ?_
        refine g_bipush m153_37 ?_
        refine h_ic_gtF (xi := ((q : Nat) : Int)) (zi := 60) m153_39 (nI_toInt (by omega)) rfl (by omega) ?_
        refine g_aload_n m153_42 rfl ?_
        refine g_iload_n m153_43 rfl ?_
        refine g_iconst m153_44 ?_
        refine h_cv (k := 57) (p := 89) (args := [.int (nI (ja)), .int (4)]) (rest := []) m153_45 cn_111 (Nat.le_of_ble_eq_true rfl) rfl rfl rfl (t_57 _ _) (Nat.le_of_ble_eq_true rfl) ?_
        refine c_its (w := 4) (by omega) (by decide) ?_
        rw [hA.rd (i := ja) (c := 4) (by omega) (by decide)]
        refine gwr ?_
        refine g_iload_n m153_48 rfl ?_
        refine h_ic_ne (xi := _) (zi := _) m153_49 rfl rfl (fun c1 => ?_) (fun c1 => ?_)
        · skip
          refine g_aload_n m153_52 rfl ?_
          refine h_cv (k := 57) (p := 89) (args := []) (rest := []) m153_53 cn_145 (Nat.le_of_ble_eq_true rfl) rfl rfl rfl (t_57 _ _) (Nat.le_of_ble_eq_true rfl) ?_
          refine c_oneStep hA hX0t hX1t (WF_stepN hWY q) (fun m3 hA3 => ?_)
          rw [h58] at hA3
          refine gwr0 ?_
          refine g_iinc (L2 := [some (.ref (89)), some (.int (nI (ja))), some (.int ((vr (m 58)) 6 ja)), some (.int (nI (q + 1)))]) m153_56 rfl (nI_1 _) rfl rfl ?_
          refine g_goto m153_59 ?_
          have hno : ¬ moreAt (rkF (m 58)) (rbF (m 58)) (vr (m 58)) ja q = true := by
            unfold moreAt
            rw [decide_eq_true_eq]
            have h8 : ((stepN (rkF (m 58)) (rbF (m 58)) (vr (m 58)) q) 6 ja).toInt = ((vr (m 58)) 6 ja).toInt := c1
            omega
          rw [show firstF (rkF (m 58)) (rbF (m 58)) (vr (m 58)) ja (r + 1) q = firstF (rkF (m 58)) (rbF (m 58)) (vr (m 58)) ja r (q + 1) from if_neg hno] at hfin
          exact ih (q + 1) _ (by omega) hA3 hfin
        · skip
          refine g_aload_n m153_62 rfl ?_
          refine g_aload_n m153_63 rfl ?_
          refine h_gfR (c := 92) (k := 57) (p := 89) m153_64 rfl (t_57 _ _) rfl (Nat.le_of_ble_eq_true rfl) ?_
          refine g_aload_n m153_67 rfl ?_
          refine h_gfR (c := 90) (k := 57) (p := 89) m153_68 rfl (t_57 _ _) rfl (Nat.le_of_ble_eq_true rfl) ?_
          refine h_cv (k := 57) (p := 89) (args := [.ref (92), .ref (90)]) (rest := []) m153_71 cn_110 (Nat.le_of_ble_eq_true rfl) rfl rfl rfl (t_57 _ _) (Nat.le_of_ble_eq_true rfl) ?_
          refine c_moveRow (k1 := 60) (k2 := 58) rfl rfl (t_60 _ _) (t_58 _ _) (by decide) ?_
          have hFb := FrP.back hA
          refine gwr0 ?_
          refine g_iload_n m153_74 rfl ?_
          refine g_bipush m153_75 ?_
          refine h_ic_leT (xi := ((q : Nat) : Int)) (zi := 60) m153_77 (nI_toInt (by omega)) rfl (by omega) ?_
          refine g_iload_n m153_89 rfl ?_
          refine g_iret m153_90 rt_153 ?_
          have hyes : moreAt (rkF (m 58)) (rbF (m 58)) (vr (m 58)) ja q = true := by
            unfold moreAt
            rw [decide_eq_true_eq]
            have h8 : ¬ ((stepN (rkF (m 58)) (rbF (m 58)) (vr (m 58)) q) 6 ja).toInt = ((vr (m 58)) 6 ja).toInt := c1
            have h9 := had_mono (LK := (rkF (m 58))) (BL := (rbF (m 58))) hWY (show ja < 8 by omega) 0 q
            rw [Nat.zero_add, show stepN (rkF (m 58)) (rbF (m 58)) (vr (m 58)) 0 = (vr (m 58)) from rfl] at h9
            omega
          rw [show firstF (rkF (m 58)) (rbF (m 58)) (vr (m 58)) ja (r + 1) q = q from if_pos hyes] at hfin
          have hq0 : q ≠ 0 := fun z => by
            rw [z, stepN_60] at hyes
            exact absurd hyes (by decide)
          have h9 := hY ja rfl (by omega) (by rw [← hfin]; exact hq0) _ hFb
          rw [← hfin] at h9
          exact h9
    exact key 61 0 _ (by omega) hAt (by show (if moreAt _ _ _ ja 0 = true then 0 else firstF (rkF (m 58)) (rbF (m 58)) (vr (m 58)) ja 60 1) = _; rw [stepN_60, if_neg (by decide)])
  · skip
    refine gwr ?_
    refine h_if_neT (xi := 0) (zi := 0) m153_5 rfl rfl (by decide) ?_
    refine g_aload_n m153_8 rfl ?_
    refine g_ldci m153_9 rfl ?_
    refine h_cv (k := 57) (p := 89) (args := [.int (-1000000001)]) (rest := []) m153_11 cn_108 (Nat.le_of_ble_eq_true rfl) rfl rfl rfl (t_57 _ _) (Nat.le_of_ble_eq_true rfl) ?_
    refine c_errs (e := 1) (by decide) (by decide) (by decide) ?_
    refine gwr ?_
    refine g_iret m153_14 rt_153 ?_
    exact hE1 (by omega)
set_option maxRecDepth 20000 in
set_option maxHeartbeats 40000000 in
theorem c_moreThan {n : Nat} {m0 Y : MW} {Z : Nat → Int32} (hA : AtY m0 Y m) (h60 : ∀ i, i < 8 → m 60 (16 + 6 * i + 4) = Z i) (hn : n ≤ 8) (hd : Y 0 10 = nI n) (hQ : Q (some (.int (nI (bitsF (fun i => decide ((Z i).toInt < (Y 6 i).toInt)) n)))) (H m ln N)) : WP xs (d + 2) 154 0 0 [.ref (89), .ref (92)] (H m ln N) Q := by
  refine wp_x mx_154 (L := [some (.ref (89)), some (.ref (92)), none, none]) (Nat.le_of_ble_eq_true rfl) rfl ?_
  have hb : ∀ q, bitsF (fun i => decide ((Z i).toInt < (Y 6 i).toInt)) q < 2 ^ q := bitsF_lt _
  refine g_iconst m154_0 ?_
  refine g_istore_n (L2 := [some (.ref (89)), some (.ref (92)), some (.int (0)), none]) m154_1 rfl rfl ?_
  refine g_iconst m154_2 ?_
  refine g_istore_n (L2 := [some (.ref (89)), some (.ref (92)), some (.int (0)), some (.int (0))]) m154_3 rfl rfl ?_
  have key : ∀ (r : Nat) (q : Nat), q + r = n → gw xs (WP xs (d + 1)) 154 Q 4 [some (.ref (89)), some (.ref (92)), some (.int (nI (bitsF (fun i => decide ((Z i).toInt < (Y 6 i).toInt)) q))), some (.int (nI (q)))] [] (H m ln N) 0 0 := by
    intro r
    induction r with
    | zero =>
      intro q hq
      obtain rfl : q = n := by omega
      refine g_iload_n m154_4 rfl ?_
      refine g_aload_n m154_5 rfl ?_
      refine h_gfR (c := 90) (k := 57) (p := 89) m154_6 rfl (t_57 _ _) rfl (Nat.le_of_ble_eq_true rfl) ?_
      refine g_iconst m154_9 ?_
      refine h_ial (k := 58) (p := 90) (j := 2) m154_10 rfl (t_58 _ _) (rfl) (by omega) (Nat.le_of_ble_eq_true rfl) (hA.r2.trans hd) ?_
      refine h_ic_geT (xi := ((q : Nat) : Int)) (zi := ((q : Nat) : Int)) m154_11 (nI_toInt (by omega)) (nI_toInt (by omega)) (by omega) ?_
      refine g_iload_n m154_50 rfl ?_
      refine g_iret m154_51 rt_154 ?_
      exact hQ
    | succ r ih =>
      intro q hq
      refine g_iload_n m154_4 rfl ?_
      refine g_aload_n m154_5 rfl ?_
      refine h_gfR (c := 90) (k := 57) (p := 89) m154_6 rfl (t_57 _ _) rfl (Nat.le_of_ble_eq_true rfl) ?_
      refine g_iconst m154_9 ?_
      refine h_ial (k := 58) (p := 90) (j := 2) m154_10 rfl (t_58 _ _) (rfl) (by omega) (Nat.le_of_ble_eq_true rfl) (hA.r2.trans hd) ?_
      refine h_ic_geF (xi := ((q : Nat) : Int)) (zi := ((n : Nat) : Int)) m154_11 (nI_toInt (by omega)) (nI_toInt (by omega)) (by omega) ?_
      refine g_iload_n m154_14 rfl ?_
      refine g_aload_n m154_15 rfl ?_
      refine g_iload_n m154_16 rfl ?_
      refine g_iconst m154_17 ?_
      refine h_cv (k := 57) (p := 89) (args := [.int (nI (q)), .int (4)]) (rest := [.int (nI (bitsF (fun i => decide ((Z i).toInt < (Y 6 i).toInt)) q))]) m154_18 cn_111 (Nat.le_of_ble_eq_true rfl) rfl rfl rfl (t_57 _ _) (Nat.le_of_ble_eq_true rfl) ?_
      refine c_its (w := 4) (by omega) (by decide) ?_
      rw [hA.rd (i := q) (c := 4) (by omega) (by decide)]
      refine gwr ?_
      refine g_aload_n m154_21 rfl ?_
      refine g_bipush m154_22 ?_
      refine g_bipush m154_24 ?_
      refine g_iload_n m154_26 rfl ?_
      refine g_imul (u := nI (6 * q)) m154_27 (pk_mul 6 q) ?_
      refine g_iadd (u := nI (16 + (6 * q))) m154_28 (nI_add 16 (6 * q)) ?_
      refine g_iconst m154_29 ?_
      refine g_iadd (u := nI ((16 + (6 * q)) + 4)) m154_30 (nI_add (16 + (6 * q)) 4) ?_
      refine h_ial (k := 60) (p := 92) (j := (16 + (6 * q)) + 4) m154_31 rfl (t_60 _ _) (rfl) (by omega) (Nat.le_of_ble_eq_true rfl) (h60 q (by omega)) ?_
      refine h_ic_le (xi := _) (zi := _) m154_32 rfl rfl (fun c1 => ?_) (fun c1 => ?_)
      · skip
        refine g_iconst m154_41 ?_
        refine g_ior (u := nI (bitsF (fun i => decide ((Z i).toInt < (Y 6 i).toInt)) q)) m154_42 (or_z _) ?_
        refine g_istore_n (L2 := [some (.ref (89)), some (.ref (92)), some (.int (nI (bitsF (fun i => decide ((Z i).toInt < (Y 6 i).toInt)) q))), some (.int (nI (q)))]) m154_43 rfl rfl ?_
        refine g_iinc (L2 := [some (.ref (89)), some (.ref (92)), some (.int (nI (bitsF (fun i => decide ((Z i).toInt < (Y 6 i).toInt)) q))), some (.int (nI (q + 1)))]) m154_44 rfl (nI_1 _) rfl rfl ?_
        refine g_goto m154_47 ?_
        have h8 :  (Y (2 + 4) q).toInt ≤ (Z q).toInt := c1
        have e : bitsF (fun i => decide ((Z i).toInt < (Y 6 i).toInt)) (q + 1) = bitsF (fun i => decide ((Z i).toInt < (Y 6 i).toInt)) q := bits_n (by show ¬ decide _ = true; rw [decide_eq_true_eq]; exact Int.not_lt.mpr h8)
        have h9 := ih (q + 1) (by omega)
        rw [e] at h9
        exact h9
      · skip
        refine g_iconst m154_35 ?_
        refine g_iload_n m154_36 rfl ?_
        refine g_ishl m154_37 rfl ?_
        refine g_goto m154_38 ?_
        refine g_ior (u := nI (bitsF (fun i => decide ((Z i).toInt < (Y 6 i).toInt)) q + 2 ^ q)) m154_42 (bit_or q (by omega) _ (hb q)) ?_
        refine g_istore_n (L2 := [some (.ref (89)), some (.ref (92)), some (.int (nI (bitsF (fun i => decide ((Z i).toInt < (Y 6 i).toInt)) q + 2 ^ q))), some (.int (nI (q)))]) m154_43 rfl rfl ?_
        refine g_iinc (L2 := [some (.ref (89)), some (.ref (92)), some (.int (nI (bitsF (fun i => decide ((Z i).toInt < (Y 6 i).toInt)) q + 2 ^ q))), some (.int (nI (q + 1)))]) m154_44 rfl (nI_1 _) rfl rfl ?_
        refine g_goto m154_47 ?_
        have h8 : ¬ (Y (2 + 4) q).toInt ≤ (Z q).toInt := by have := c1; omega
        have e : bitsF (fun i => decide ((Z i).toInt < (Y 6 i).toInt)) (q + 1) = bitsF (fun i => decide ((Z i).toInt < (Y 6 i).toInt)) q + 2 ^ q := bits_y (by show  decide _ = true; rw [decide_eq_true_eq]; exact Int.not_le.mp h8)
        have h9 := ih (q + 1) (by omega)
        rw [e] at h9
        exact h9
  exact key n 0 (by omega)
set_option maxRecDepth 20000 in
set_option maxHeartbeats 40000000 in
theorem c_fedS {n a s k : Nat} (hd : m 58 2 = nI n) (hn : n ≤ 8) (hX0 : TxOk (m 58) 0) (hX1 : TxOk (m 58) 1) (hWY : WF (vr (m 58))) (ha : a < 256) (hs : s ≤ 9) (hk : k ≤ 100) (hQ : ∀ m2, FrP m m2 → Q (some (.int (nI (bitsF (moreN (rkF (m 58)) (rbF (m 58)) (shamX (vr (m 58)) a (nI s)) k) n)))) (H m2 ln N)) : WP xs (d + 817) 155 0 0 [.ref (89), .int (nI (a)), .int (nI (s)), .int (nI (k))] (H m ln N) Q := by
  refine wp_x mx_155 (L := [some (.ref (89)), some (.int (nI (a))), some (.int (nI (s))), some (.int (nI (k))), none]) (Nat.le_of_ble_eq_true rfl) rfl ?_
  have hnn : nOf (vr (m 58)) = n := by unfold nOf; rw [show (vr (m 58)) 0 10 = nI n from hd]; exact nI_clamp (by omega)
  refine g_aload_n m155_0 rfl ?_
  refine g_aload_n m155_1 rfl ?_
  refine h_gfR (c := 90) (k := 57) (p := 89) m155_2 rfl (t_57 _ _) rfl (Nat.le_of_ble_eq_true rfl) ?_
  refine g_aload_n m155_5 rfl ?_
  refine h_gfR (c := 92) (k := 57) (p := 89) m155_6 rfl (t_57 _ _) rfl (Nat.le_of_ble_eq_true rfl) ?_
  refine h_cv (k := 57) (p := 89) (args := [.ref (90), .ref (92)]) (rest := []) m155_9 cn_110 (Nat.le_of_ble_eq_true rfl) rfl rfl rfl (t_57 _ _) (Nat.le_of_ble_eq_true rfl) ?_
  refine c_moveRow (k1 := 58) (k2 := 60) rfl rfl (t_58 _ _) (t_60 _ _) (by decide) ?_
  have h58 : (upmR m 60 (m 58)) 58 = m 58 := thR_58 _ _
  have hAt := thR_A m
  have hX0t : TxOk ((upmR m 60 (m 58)) 58) 0 := by rw [h58]; exact hX0
  have hX1t : TxOk ((upmR m 60 (m 58)) 58) 1 := by rw [h58]; exact hX1
  refine gwr0 ?_
  refine g_iconst m155_12 ?_
  refine g_istore (L2 := [some (.ref (89)), some (.int (nI (a))), some (.int (nI (s))), some (.int (nI (k))), some (.int (0))]) m155_13 rfl rfl ?_
  have key : ∀ (r : Nat) (q : Nat) (m2 : MW), q + r = n → AtY (upmR m 60 (m 58)) (shamQ (vr (m 58)) a (nI s) q) m2 → gw xs (WP xs (d + 816)) 155 Q 15 [some (.ref (89)), some (.int (nI (a))), some (.int (nI (s))), some (.int (nI (k))), some (.int (nI (q)))] [] (H m2 ln N) 0 0 := by
    intro r
    induction r with
    | zero =>
      intro q m2 hq hA
      obtain rfl : q = n := by omega
      rw [← shamQ_X hnn] at hA
      refine g_iload m155_15 rfl ?_
      refine g_aload_n m155_17 rfl ?_
      refine h_gfR (c := 90) (k := 57) (p := 89) m155_18 rfl (t_57 _ _) rfl (Nat.le_of_ble_eq_true rfl) ?_
      refine g_iconst m155_21 ?_
      refine h_ial (k := 58) (p := 90) (j := 2) m155_22 rfl (t_58 _ _) (rfl) (by omega) (Nat.le_of_ble_eq_true rfl) (hA.r2.trans ((shamX_o (by decide)).trans hd)) ?_
      refine h_ic_geT (xi := ((q : Nat) : Int)) (zi := ((q : Nat) : Int)) m155_23 (nI_toInt (by omega)) (nI_toInt (by omega)) (by omega) ?_
      refine g_aload_n m155_64 rfl ?_
      refine g_iload_n m155_65 rfl ?_
      refine h_cv (k := 57) (p := 89) (args := [.int (nI (k))]) (rest := []) m155_66 cn_146 (Nat.le_of_ble_eq_true rfl) rfl rfl rfl (t_57 _ _) (Nat.le_of_ble_eq_true rfl) ?_
      refine c_passes hA hX0t hX1t (WF_shamX hWY ⟨s, by omega, rfl⟩) (n := k) (by omega) (fun m3 hA3 => ?_)
      rw [h58] at hA3
      refine gwr0 ?_
      refine g_aload_n m155_69 rfl ?_
      refine g_aload_n m155_70 rfl ?_
      refine h_gfR (c := 92) (k := 57) (p := 89) m155_71 rfl (t_57 _ _) rfl (Nat.le_of_ble_eq_true rfl) ?_
      refine h_cv (k := 57) (p := 89) (args := [.ref (92)]) (rest := []) m155_74 cn_154 (Nat.le_of_ble_eq_true rfl) rfl rfl rfl (t_57 _ _) (Nat.le_of_ble_eq_true rfl) ?_
      refine c_moreThan (Z := fun i => (vr (m 58)) 6 i) hA3 (fun i hi => (th_60 hA3 _).trans rfl) hn ((stepN_0 _ _ _ (by decide) k).trans ((shamX_o (by decide)).trans hd)) ?_
      rw [bitsF_c (q := (moreN (rkF (m 58)) (rbF (m 58)) (shamX (vr (m 58)) a (nI s)) k)) q (fun i _ => by unfold moreN; rw [shamX_o (by decide)])]
      refine gwr ?_
      refine g_istore (L2 := [some (.ref (89)), some (.int (nI (a))), some (.int (nI (s))), some (.int (nI (k))), some (.int (nI (bitsF (moreN (rkF (m 58)) (rbF (m 58)) (shamX (vr (m 58)) a (nI s)) k) q)))]) m155_77 rfl rfl ?_
      refine g_aload_n m155_79 rfl ?_
      refine g_aload_n m155_80 rfl ?_
      refine h_gfR (c := 92) (k := 57) (p := 89) m155_81 rfl (t_57 _ _) rfl (Nat.le_of_ble_eq_true rfl) ?_
      refine g_aload_n m155_84 rfl ?_
      refine h_gfR (c := 90) (k := 57) (p := 89) m155_85 rfl (t_57 _ _) rfl (Nat.le_of_ble_eq_true rfl) ?_
      refine h_cv (k := 57) (p := 89) (args := [.ref (92), .ref (90)]) (rest := []) m155_88 cn_110 (Nat.le_of_ble_eq_true rfl) rfl rfl rfl (t_57 _ _) (Nat.le_of_ble_eq_true rfl) ?_
      refine c_moveRow (k1 := 60) (k2 := 58) rfl rfl (t_60 _ _) (t_58 _ _) (by decide) ?_
      have hFb := FrP.back hA3
      refine gwr0 ?_
      refine g_iload m155_91 rfl ?_
      refine g_iret m155_93 rt_155 ?_
      exact hQ _ hFb
    | succ r ih =>
      intro q m2 hq hA
      refine g_iload m155_15 rfl ?_
      refine g_aload_n m155_17 rfl ?_
      refine h_gfR (c := 90) (k := 57) (p := 89) m155_18 rfl (t_57 _ _) rfl (Nat.le_of_ble_eq_true rfl) ?_
      refine g_iconst m155_21 ?_
      refine h_ial (k := 58) (p := 90) (j := 2) m155_22 rfl (t_58 _ _) (rfl) (by omega) (Nat.le_of_ble_eq_true rfl) (hA.r2.trans ((shamQ_o (by decide)).trans hd)) ?_
      refine h_ic_geF (xi := ((q : Nat) : Int)) (zi := ((n : Nat) : Int)) m155_23 (nI_toInt (by omega)) (nI_toInt (by omega)) (by omega) ?_
      refine g_aload_n m155_26 rfl ?_
      refine g_iload m155_27 rfl ?_
      refine g_iconst m155_29 ?_
      refine g_iload_n m155_30 rfl ?_
      refine h_if_ltF (xi := ((s : Nat) : Int)) (zi := 0) m155_31 (nI_toInt (by omega)) rfl (by omega) ?_
      refine g_iload_n m155_34 rfl ?_
      refine g_iload m155_35 rfl ?_
      refine g_ishr m155_37 rfl ?_
      refine g_iconst m155_38 ?_
      refine g_iand (u := if a.testBit q = true then 1 else 0) m155_39 (bit_sh q (by omega) _ ha) ?_
      by_cases hb_5 : a.testBit q = true
      · rw [if_pos hb_5]
        refine g_iconst m155_40 ?_
        refine h_ic_neT (xi := 1) (zi := 1) m155_41 rfl rfl (by decide) ?_
        refine g_iload_n m155_44 rfl ?_
        refine g_goto m155_45 ?_
        refine h_cv (k := 57) (p := 89) (args := [.int (nI (q)), .int (3), .int (nI (s))]) (rest := []) m155_55 cn_112 (Nat.le_of_ble_eq_true rfl) rfl rfl rfl (t_57 _ _) (Nat.le_of_ble_eq_true rfl) ?_
        refine c_gets (w := 3) (by omega) (by decide) ?_
        have hA4 := hA.up (i := q) (c := 3) (by omega) (by decide) (nI (s))
        refine gwr0 ?_
        refine g_iinc (L2 := [some (.ref (89)), some (.int (nI (a))), some (.int (nI (s))), some (.int (nI (k))), some (.int (nI (q + 1)))]) m155_58 rfl (nI_1 _) rfl rfl ?_
        refine g_goto m155_61 ?_
        exact ih (q + 1) _ (by omega) (hA4.c (fun j i => shamQ_y hb_5 j i))
      · rw [if_neg hb_5]
        refine g_iconst m155_40 ?_
        refine h_ic_neF (xi := 0) (zi := 1) m155_41 rfl rfl (by decide) ?_
        refine g_aload_n m155_48 rfl ?_
        refine g_iload m155_49 rfl ?_
        refine g_iconst m155_51 ?_
        refine h_cv (k := 57) (p := 89) (args := [.int (nI (q)), .int (3)]) (rest := [.int (3), .int (nI (q)), .ref (89)]) m155_52 cn_111 (Nat.le_of_ble_eq_true rfl) rfl rfl rfl (t_57 _ _) (Nat.le_of_ble_eq_true rfl) ?_
        refine c_its (w := 3) (by omega) (by decide) ?_
        rw [hA.rd (i := q) (c := 3) (by omega) (by decide)]
        refine gwr ?_
        refine h_cv (k := 57) (p := 89) (args := [.int (nI (q)), .int (3), .int ((shamQ (vr (m 58)) a (nI s) q) (2 + 3) q)]) (rest := []) m155_55 cn_112 (Nat.le_of_ble_eq_true rfl) rfl rfl rfl (t_57 _ _) (Nat.le_of_ble_eq_true rfl) ?_
        refine c_gets (w := 3) (by omega) (by decide) ?_
        have hA4 := hA.up (i := q) (c := 3) (by omega) (by decide) ((shamQ (vr (m 58)) a (nI s) q) (2 + 3) q)
        refine gwr0 ?_
        refine g_iinc (L2 := [some (.ref (89)), some (.int (nI (a))), some (.int (nI (s))), some (.int (nI (k))), some (.int (nI (q + 1)))]) m155_58 rfl (nI_1 _) rfl rfl ?_
        refine g_goto m155_61 ?_
        refine ih (q + 1) _ (by omega) (hA4.c (fun j i => ?_))
        rw [upm_id]
        exact shamQ_n hb_5 j i
  exact key n 0 _ (by omega) (hAt.c (fun j i => if_neg (fun z => absurd z.2.1 (Nat.not_lt_zero _))))
set_option maxRecDepth 20000 in
set_option maxHeartbeats 40000000 in
theorem c_fedN {n k : Nat} (hd : m 58 2 = nI n) (hn : n ≤ 8) (hX0 : TxOk (m 58) 0) (hX1 : TxOk (m 58) 1) (hWY : WF (vr (m 58))) (hk : k ≤ 100) (hQ : ∀ m2, FrP m m2 → Q (some (.int (nI (bitsF (moreN (rkF (m 58)) (rbF (m 58)) (vr (m 58)) k) n)))) (H m2 ln N)) : WP xs (d + 817) 155 0 0 [.ref (89), .int (0), .int (-1), .int (nI (k))] (H m ln N) Q := by
  refine wp_x mx_155 (L := [some (.ref (89)), some (.int (0)), some (.int (-1)), some (.int (nI (k))), none]) (Nat.le_of_ble_eq_true rfl) rfl ?_
  have hnn : nOf (vr (m 58)) = n := by unfold nOf; rw [show (vr (m 58)) 0 10 = nI n from hd]; exact nI_clamp (by omega)
  refine g_aload_n m155_0 rfl ?_
  refine g_aload_n m155_1 rfl ?_
  refine h_gfR (c := 90) (k := 57) (p := 89) m155_2 rfl (t_57 _ _) rfl (Nat.le_of_ble_eq_true rfl) ?_
  refine g_aload_n m155_5 rfl ?_
  refine h_gfR (c := 92) (k := 57) (p := 89) m155_6 rfl (t_57 _ _) rfl (Nat.le_of_ble_eq_true rfl) ?_
  refine h_cv (k := 57) (p := 89) (args := [.ref (90), .ref (92)]) (rest := []) m155_9 cn_110 (Nat.le_of_ble_eq_true rfl) rfl rfl rfl (t_57 _ _) (Nat.le_of_ble_eq_true rfl) ?_
  refine c_moveRow (k1 := 58) (k2 := 60) rfl rfl (t_58 _ _) (t_60 _ _) (by decide) ?_
  have h58 : (upmR m 60 (m 58)) 58 = m 58 := thR_58 _ _
  have hAt := thR_A m
  have hX0t : TxOk ((upmR m 60 (m 58)) 58) 0 := by rw [h58]; exact hX0
  have hX1t : TxOk ((upmR m 60 (m 58)) 58) 1 := by rw [h58]; exact hX1
  refine gwr0 ?_
  refine g_iconst m155_12 ?_
  refine g_istore (L2 := [some (.ref (89)), some (.int (0)), some (.int (-1)), some (.int (nI (k))), some (.int (0))]) m155_13 rfl rfl ?_
  have key : ∀ (r : Nat) (q : Nat) (m2 : MW), q + r = n → AtY (upmR m 60 (m 58)) (vr (m 58)) m2 → gw xs (WP xs (d + 816)) 155 Q 15 [some (.ref (89)), some (.int (0)), some (.int (-1)), some (.int (nI (k))), some (.int (nI (q)))] [] (H m2 ln N) 0 0 := by
    intro r
    induction r with
    | zero =>
      intro q m2 hq hA
      obtain rfl : q = n := by omega
      refine g_iload m155_15 rfl ?_
      refine g_aload_n m155_17 rfl ?_
      refine h_gfR (c := 90) (k := 57) (p := 89) m155_18 rfl (t_57 _ _) rfl (Nat.le_of_ble_eq_true rfl) ?_
      refine g_iconst m155_21 ?_
      refine h_ial (k := 58) (p := 90) (j := 2) m155_22 rfl (t_58 _ _) (rfl) (by omega) (Nat.le_of_ble_eq_true rfl) (hA.r2.trans (hd)) ?_
      refine h_ic_geT (xi := ((q : Nat) : Int)) (zi := ((q : Nat) : Int)) m155_23 (nI_toInt (by omega)) (nI_toInt (by omega)) (by omega) ?_
      refine g_aload_n m155_64 rfl ?_
      refine g_iload_n m155_65 rfl ?_
      refine h_cv (k := 57) (p := 89) (args := [.int (nI (k))]) (rest := []) m155_66 cn_146 (Nat.le_of_ble_eq_true rfl) rfl rfl rfl (t_57 _ _) (Nat.le_of_ble_eq_true rfl) ?_
      refine c_passes hA hX0t hX1t hWY (n := k) (by omega) (fun m3 hA3 => ?_)
      rw [h58] at hA3
      refine gwr0 ?_
      refine g_aload_n m155_69 rfl ?_
      refine g_aload_n m155_70 rfl ?_
      refine h_gfR (c := 92) (k := 57) (p := 89) m155_71 rfl (t_57 _ _) rfl (Nat.le_of_ble_eq_true rfl) ?_
      refine h_cv (k := 57) (p := 89) (args := [.ref (92)]) (rest := []) m155_74 cn_154 (Nat.le_of_ble_eq_true rfl) rfl rfl rfl (t_57 _ _) (Nat.le_of_ble_eq_true rfl) ?_
      refine c_moreThan (Z := fun i => (vr (m 58)) 6 i) hA3 (fun i hi => (th_60 hA3 _).trans rfl) hn ((stepN_0 _ _ _ (by decide) k).trans hd) ?_
      refine gwr ?_
      refine g_istore (L2 := [some (.ref (89)), some (.int (0)), some (.int (-1)), some (.int (nI (k))), some (.int (nI (bitsF (moreN (rkF (m 58)) (rbF (m 58)) (vr (m 58)) k) q)))]) m155_77 rfl rfl ?_
      refine g_aload_n m155_79 rfl ?_
      refine g_aload_n m155_80 rfl ?_
      refine h_gfR (c := 92) (k := 57) (p := 89) m155_81 rfl (t_57 _ _) rfl (Nat.le_of_ble_eq_true rfl) ?_
      refine g_aload_n m155_84 rfl ?_
      refine h_gfR (c := 90) (k := 57) (p := 89) m155_85 rfl (t_57 _ _) rfl (Nat.le_of_ble_eq_true rfl) ?_
      refine h_cv (k := 57) (p := 89) (args := [.ref (92), .ref (90)]) (rest := []) m155_88 cn_110 (Nat.le_of_ble_eq_true rfl) rfl rfl rfl (t_57 _ _) (Nat.le_of_ble_eq_true rfl) ?_
      refine c_moveRow (k1 := 60) (k2 := 58) rfl rfl (t_60 _ _) (t_58 _ _) (by decide) ?_
      have hFb := FrP.back hA3
      refine gwr0 ?_
      refine g_iload m155_91 rfl ?_
      refine g_iret m155_93 rt_155 ?_
      exact hQ _ hFb
    | succ r ih =>
      intro q m2 hq hA
      refine g_iload m155_15 rfl ?_
      refine g_aload_n m155_17 rfl ?_
      refine h_gfR (c := 90) (k := 57) (p := 89) m155_18 rfl (t_57 _ _) rfl (Nat.le_of_ble_eq_true rfl) ?_
      refine g_iconst m155_21 ?_
      refine h_ial (k := 58) (p := 90) (j := 2) m155_22 rfl (t_58 _ _) (rfl) (by omega) (Nat.le_of_ble_eq_true rfl) (hA.r2.trans (hd)) ?_
      refine h_ic_geF (xi := ((q : Nat) : Int)) (zi := ((n : Nat) : Int)) m155_23 (nI_toInt (by omega)) (nI_toInt (by omega)) (by omega) ?_
      refine g_aload_n m155_26 rfl ?_
      refine g_iload m155_27 rfl ?_
      refine g_iconst m155_29 ?_
      refine g_iload_n m155_30 rfl ?_
      refine h_if_ltT (xi := (-1)) (zi := 0) m155_31 rfl rfl (by decide) ?_
      refine g_aload_n m155_48 rfl ?_
      refine g_iload m155_49 rfl ?_
      refine g_iconst m155_51 ?_
      refine h_cv (k := 57) (p := 89) (args := [.int (nI (q)), .int (3)]) (rest := [.int (3), .int (nI (q)), .ref (89)]) m155_52 cn_111 (Nat.le_of_ble_eq_true rfl) rfl rfl rfl (t_57 _ _) (Nat.le_of_ble_eq_true rfl) ?_
      refine c_its (w := 3) (by omega) (by decide) ?_
      rw [hA.rd (i := q) (c := 3) (by omega) (by decide)]
      refine gwr ?_
      refine h_cv (k := 57) (p := 89) (args := [.int (nI (q)), .int (3), .int ((vr (m 58)) (2 + 3) q)]) (rest := []) m155_55 cn_112 (Nat.le_of_ble_eq_true rfl) rfl rfl rfl (t_57 _ _) (Nat.le_of_ble_eq_true rfl) ?_
      refine c_gets (w := 3) (by omega) (by decide) ?_
      have hA4 := hA.up (i := q) (c := 3) (by omega) (by decide) ((vr (m 58)) (2 + 3) q)
      refine gwr0 ?_
      refine g_iinc (L2 := [some (.ref (89)), some (.int (0)), some (.int (-1)), some (.int (nI (k))), some (.int (nI (q + 1)))]) m155_58 rfl (nI_1 _) rfl rfl ?_
      refine g_goto m155_61 ?_
      refine ih (q + 1) _ (by omega) (hA4.c (fun j i => ?_))
      rw [upm_id]
  exact key n 0 _ (by omega) hAt
end
