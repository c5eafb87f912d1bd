/-! CALLS ON BOTH SIDES that change sheets -/
section
variable {xs : List Int32} {a b m a2 b2 : MW} {ln : Nat → Nat} {N q : Nat}
theorem Rel2.shr (R : Rel2 a b ln N q) (hx : ∀ k, ¬ (48 ≤ k ∧ k < 56) → a2 k = a k) (hm : ∀ k, 57 ≤ k → k < 69 → ¬ (63 ≤ k ∧ k < 67) → b2 k = b k) (hS : ShR2 a2 b2) : Rel2 a2 b2 ln N q := by
  have hc : codL a2 ln = codL a ln := cod_td (fun k h => hx k (by omega))
  obtain ⟨r1, r2, r3, r4, r5, r6, r7, r8⟩ := R
  refine ⟨r1, r2, ⟨r3.1, fun i h => by rw [hc]; exact r3.2 i h⟩, ?_, r5.mv (Nat.le_refl _) (Nat.le_refl _) (fun i _ => by rw [hc]) (by rw [hx 0 (by decide)]) (fun k h => hx k (by omega)) (by rw [hm 57 (by decide) (by decide) (by decide)]) (by rw [hm 57 (by decide) (by decide) (by decide)]) (hm 59 (by decide) (by decide) (by decide)), hS, r7.mv (hx 56 (by decide)) (hm 62 (by decide) (by decide) (by decide)), r8.mv (fun k h1 h2 => hx k (by omega)) (by rw [hm 57 (by decide) (by decide) (by decide)]) (hm 68 (by decide) (by decide) (by decide))⟩
  rw [hc, hx 37 (by decide), hx 38 (by decide), hx 39 (by decide), hm 58 (by decide) (by decide) (by decide)]
  exact TbR_9 (fun j hj => hx _ (by omega)) r4
theorem sxS {A B : MW} (h : ∀ k, ¬ (63 ≤ k ∧ k < 67) → B k = A k) : SmX A B := fun k j c => congrFun (h k (fun e => cXM c (by omega))) j
theorem nl_0 {c : Nat} (h : c = 0 ∨ c = 8 ∨ c = 16 ∨ c = 32) : narF c 0 = 0 ∧ lowF c 0 = 0 := by
  rcases h with h | h | h | h <;> subst h <;> exact ⟨rfl, rfl⟩
theorem zrM_k {s k : Nat} {x l : Int32} (h1 : k ≠ 48 + 2 * s) (h2 : k ≠ 49 + 2 * s) : zrM m s x l k = m k := by
  funext j
  unfold zrM
  rw [if_neg (fun z => h2 z.1), upm_k _ _ h1, upm_k _ _ h1]
theorem zrQ_k {c lo n k : Nat} (h : k ≠ c) : zrQ m c lo n k = m k := by
  funext j
  unfold zrQ
  rw [if_neg (fun z => h z.1)]
theorem Rel2.shz (R : Rel2 m m ln N q) {s c l : Nat} (hs : s < 4) (hc : c = 0 ∨ c = 8 ∨ c = 16 ∨ c = 32) (hl : l ≤ 40) {A B : MW} (hA : A = zrM m s (nI c) (nI l)) (hB : B = zrQ (upm (upm A 63 s (nI c)) 64 s (nI l)) 65 (40 * s) 40) : Rel2 B B ln N q := by
  have ao : ∀ k, k ≠ 48 + 2 * s → k ≠ 49 + 2 * s → A k = m k := fun k h1 h2 => by
    subst hA
    exact zrM_k h1 h2
  have bo : ∀ k, ¬ (63 ≤ k ∧ k < 67) → B k = A k := fun k h => by
    subst hB
    rw [zrQ_k (by omega), row_up _ _ (by omega), row_up _ _ (by omega)]
  have b3 : ∀ z, B 63 z = if z = s then nI c else m 63 z := fun z => by
    subst hB
    rw [zrQ_k (by decide), upm_k _ _ (by decide), ← ao 63 (by omega) (by omega)]
    unfold upm
    by_cases h : z = s
    · rw [if_pos h, if_pos ⟨rfl, h⟩]
    · rw [if_neg h, if_neg (fun e => h e.2)]
  have b4 : ∀ z, B 64 z = if z = s then nI l else m 64 z := fun z => by
    subst hB
    rw [zrQ_k (by decide), ← ao 64 (by omega) (by omega)]
    by_cases h : z = s
    · rw [if_pos h, h]
      exact upm_self _ _ _ _
    · rw [if_neg h, upm_j _ _ h, upm_k _ _ (by decide)]
  have b5 : ∀ p, B 65 p = if 40 * s ≤ p ∧ p < 40 * s + 40 then 0 else m 65 p := fun p => by
    subst hB
    unfold zrQ
    by_cases h : 40 * s ≤ p ∧ p < 40 * s + 40
    · rw [if_pos ⟨rfl, h⟩, if_pos h]
    · rw [if_neg (fun e => h e.2), if_neg h, upm_k _ _ (by decide), upm_k _ _ (by decide), ao 65 (by omega) (by omega)]
  have a8 : A (48 + 2 * s) 0 = nI c ∧ A (48 + 2 * s) 1 = nI l := by
    subst hA
    unfold zrM
    rw [if_neg (by omega), if_neg (by omega)]
    exact ⟨(upm_j _ _ (by decide)).trans (upm_self _ _ _ _), upm_self _ _ _ _⟩
  have a9 : ∀ j, j < 40 → A (49 + 2 * s) j = 0 := fun j hj => by
    subst hA
    unfold zrM
    rw [if_pos ⟨rfl, hj⟩]
  have hR : Rel2 A B ln N q := by
    refine R.shr (fun k h => ao k (by omega) (by omega)) (fun k h1 h2 h3 => (bo k h3).trans (ao k (by omega) (by omega))) (fun z hz => ?_)
    by_cases e : z = s
    · subst e
      refine ⟨c, l, hc, hl, a8.1, (b3 z).trans (if_pos rfl), a8.2, (b4 z).trans (if_pos rfl), fun j hj => ⟨0, ?_, ?_⟩⟩
      · rw [b5, if_pos (by omega), (nl_0 hc).1]
      · rw [a9 j hj, (nl_0 hc).2]
    · obtain ⟨c2, l2, s1, s2, s3, s4, s5, s6, s7⟩ := R.2.2.2.2.2.1 z hz
      refine ⟨c2, l2, s1, s2, ?_, ?_, ?_, ?_, fun j hj => ?_⟩
      · rw [ao _ (by omega) (by omega)]
        exact s3
      · rw [b3, if_neg e]
        exact s4
      · rw [ao _ (by omega) (by omega)]
        exact s5
      · rw [b4, if_neg e]
        exact s6
      · rw [b5, if_neg (by omega), ao _ (by omega) (by omega)]
        exact s7 j hj
  exact hR.fr (sxS bo) SmM.rf
theorem zr_m {s : Nat} {x l : Int32} (hs : s < 4) : SmM m (zrM m s x l) := fun k j c => by
  have := (cM_n c).2.2.2
  rw [zrM_k (by omega) (by omega)]
theorem nI_ofT {x : Int32} {n : Nat} (h : x.toInt = (n : Int)) (hn : n < 2147483648) : x = nI n := Int32.toInt_inj.mp (h.trans (nI_toInt hn).symm)
theorem nI_ex {x : Int32} {n : Nat} (h0 : 0 ≤ x.toInt) (h1 : x.toInt ≤ (n : Int)) (hn : n < 2147483648) : ∃ l, l ≤ n ∧ x = nI l := ⟨x.toInt.toNat, by omega, nI_ofT (by omega) (by omega)⟩
theorem bits_ex {x : Int32} (h : x.toInt = 0 ∨ x.toInt = 8 ∨ x.toInt = 16 ∨ x.toInt = 32) : ∃ c, (c = 0 ∨ c = 8 ∨ c = 16 ∨ c = 32) ∧ x = nI c := by
  rcases h with h | h | h | h
  · exact ⟨0, Or.inl rfl, nI_ofT h (by decide)⟩
  · exact ⟨8, by decide, nI_ofT h (by decide)⟩
  · exact ⟨16, by decide, nI_ofT h (by decide)⟩
  · exact ⟨32, by decide, nI_ofT h (by decide)⟩
set_option maxHeartbeats 4000000 in
theorem p_sheet {a b v : Int32} (R : Rel2 m m ln N q) (hq : q < 512) : Pair xs 95 179 0 0 [.int a, .int b, .int v] True m ln N q := by
  obtain ⟨n, hn, hd, _⟩ := R.n
  refine x_sheet (d := 1296)  (fun e1 => pr_x ?_) (fun e3 => pr_x ?_) (fun s h1 h2 h3 => pr_x ?_) (fun s h1 h2 h3 h4 h5 h6 => pr_x ?_)
  · skip
    have RI : Rel2 m (erm m 1) ln N q := R.e1 1
    refine m_sheet (d := 1296)  (fun e1' => ?_) (fun e3' => ?_) (fun s' h1' h2' h3' => ?_) (fun s' h1' h2' h3' h4' h5' h6' => ?_)
    · skip
      exact pr_m (fun _ => rfl) (R.ee hq 1)
    · skip
      obtain ⟨s', h1', h2', h3', h4', h5'⟩ := e3'
      have t_h1' := tI h1' (by omega)
      omega
    · skip
      have t_h1' := tI h1' (by omega)
      omega
    · skip
      have t_h1' := tI h1' (by omega)
      omega
  · skip
    obtain ⟨s, h1, h2, h3, h4, h5⟩ := e3
    have t_h1 := tI h1 (by omega)
    have RI : Rel2 m (erm m 3) ln N q := R.e1 3
    refine m_sheet (d := 1296)  (fun e1' => ?_) (fun e3' => ?_) (fun s' h1' h2' h3' => ?_) (fun s' h1' h2' h3' h4' h5' h6' => ?_)
    · skip
      omega
    · skip
      obtain ⟨s', h1', h2', h3', h4', h5'⟩ := e3'
      have t_h1' := tI h1' (by omega)
      obtain rfl : s = s' := by omega
      exact pr_m (fun _ => rfl) (R.ee hq 3)
    · skip
      have t_h1' := tI h1' (by omega)
      omega
    · skip
      have t_h1' := tI h1' (by omega)
      omega
  · skip
    have t_h1 := tI h1 (by omega)
    have RI : Rel2 m (zrM m s 0 0) ln N q := R.fr SmX.rf (zr_m h2)
    refine m_sheet (d := 1296)  (fun e1' => ?_) (fun e3' => ?_) (fun s' h1' h2' h3' => ?_) (fun s' h1' h2' h3' h4' h5' h6' => ?_)
    · skip
      omega
    · skip
      obtain ⟨s', h1', h2', h3', h4', h5'⟩ := e3'
      have t_h1' := tI h1' (by omega)
      omega
    · skip
      have t_h1' := tI h1' (by omega)
      obtain rfl : s = s' := by omega
      obtain rfl : b = nI 0 := nI_ofT h3 (by decide)
      exact pr_m (fun _ => rfl) ((R.shz h2 (Or.inl rfl) (show 0 ≤ 40 by decide) rfl rfl).nx hq)
    · skip
      have t_h1' := tI h1' (by omega)
      omega
  · skip
    have t_h1 := tI h1 (by omega)
    have RI : Rel2 m (zrM m s b v) ln N q := R.fr SmX.rf (zr_m h2)
    refine m_sheet (d := 1296)  (fun e1' => ?_) (fun e3' => ?_) (fun s' h1' h2' h3' => ?_) (fun s' h1' h2' h3' h4' h5' h6' => ?_)
    · skip
      omega
    · skip
      obtain ⟨s', h1', h2', h3', h4', h5'⟩ := e3'
      have t_h1' := tI h1' (by omega)
      omega
    · skip
      have t_h1' := tI h1' (by omega)
      omega
    · skip
      have t_h1' := tI h1' (by omega)
      obtain rfl : s = s' := by omega
      obtain ⟨c, hc, rfl⟩ := bits_ex h3
      obtain ⟨l, hl, rfl⟩ := nI_ex h5 h6 (by decide)
      exact pr_m (fun _ => rfl) ((R.shz h2 hc hl rfl rfl).nx hq)
theorem Rel2.pt (R : Rel2 m m ln N q) {s i : Nat} (v : Int32) (hs : s < 4) (hi : i < 40) {A B : MW} (hA : A = upm m (49 + 2 * s) i (lowF (shB m s) v)) (hB : B = upm A 65 (40 * s + i) (narF (shB m s) v)) : Rel2 B B ln N q := by
  have ao : ∀ k, k ≠ 49 + 2 * s → A k = m k := fun k h => by
    subst hA
    exact row_up _ _ h
  have bo : ∀ k, k ≠ 65 → B k = A k := fun k h => by
    subst hB
    exact row_up _ _ h
  have hR : Rel2 A B ln N q := by
    refine R.shr (fun k h => ao k (by omega)) (fun k h1 h2 h3 => (bo k (by omega)).trans (ao k (by omega))) (fun z hz => ?_)
    obtain ⟨s1, s2, s3, s5, s4, s6, s7⟩ := R.sh z hz
    refine ⟨shB m z, shL m z, s1, s2, ?_, ?_, ?_, ?_, fun j hj => ?_⟩
    · rw [ao _ (by omega)]
      exact s3
    · rw [bo 63 (by decide), ao 63 (by omega)]
      exact s4
    · rw [ao _ (by omega)]
      exact s5
    · rw [bo 64 (by decide), ao 64 (by omega)]
      exact s6
    · by_cases e : z = s ∧ j = i
      · obtain ⟨rfl, rfl⟩ := e
        refine ⟨v, ?_, ?_⟩
        · subst hB
          exact upm_self _ _ _ _
        · subst hA
          exact upm_self _ _ _ _
      · obtain ⟨y, y1, y2⟩ := s7 j hj
        refine ⟨y, ?_, ?_⟩
        · subst hB
          rw [upm_j _ _ (by omega), ao 65 (by omega)]
          exact y1
        · by_cases ez : z = s
          · subst ez
            subst hA
            rw [upm_j _ _ (by omega)]
            exact y2
          · rw [ao _ (by omega)]
            exact y2
  exact hR.fr (sxS (fun k h => bo k (by omega))) SmM.rf
set_option maxHeartbeats 4000000 in
theorem p_put {a i v : Int32} (R : Rel2 m m ln N q) (hq : q < 512) : Pair xs 96 180 0 0 [.int a, .int i, .int v] True m ln N q := by
  obtain ⟨n, hn, hd, _⟩ := R.n
  refine x_put (d := 1296) (B := shB m) (Ln := shL m) R.sx (fun e1 => pr_x ?_) (fun e2 => pr_x ?_) (fun s i2 h1 h2 h3 h4 h5 => pr_x ?_)
  · skip
    have RI : Rel2 m (erm m 1) ln N q := R.e1 1
    refine m_put (d := 1296) (B := shB m) (Ln := shL m) RI.sy (fun e1' => ?_) (fun e2' => ?_) (fun s' i2' h1' h2' h3' h4' h5' => ?_)
    · skip
      exact pr_m (fun _ => rfl) (R.ee hq 1)
    · skip
      obtain ⟨s', h1', h2', h3'⟩ := e2'
      have t_h1' := tI h1' (by omega)
      rcases e1 with e1 | ⟨s, h1, h2, h3, h4⟩
      · omega
      · have t_h1 := tI h1 (by omega)
        obtain rfl : s = s' := by omega
        omega
    · skip
      have t_h1' := tI h1' (by omega)
      have t_h4' := tI h4' (by have h9' := (R.sx s' h2').2.1; omega)
      rcases e1 with e1 | ⟨s, h1, h2, h3, h4⟩
      · omega
      · have t_h1 := tI h1 (by omega)
        obtain rfl : s = s' := by omega
        omega
  · skip
    obtain ⟨s, h1, h2, h3⟩ := e2
    have t_h1 := tI h1 (by omega)
    have RI : Rel2 m (erm m 2) ln N q := R.e1 2
    refine m_put (d := 1296) (B := shB m) (Ln := shL m) RI.sy (fun e1' => ?_) (fun e2' => ?_) (fun s' i2' h1' h2' h3' h4' h5' => ?_)
    · skip
      rcases e1' with e1 | ⟨s', h1', h2', h3', h4'⟩
      · omega
      · have t_h1' := tI h1' (by omega)
        obtain rfl : s = s' := by omega
        omega
    · skip
      obtain ⟨s', h1', h2', h3'⟩ := e2'
      have t_h1' := tI h1' (by omega)
      obtain rfl : s = s' := by omega
      exact pr_m (fun _ => rfl) (R.ee hq 2)
    · skip
      have t_h1' := tI h1' (by omega)
      have t_h4' := tI h4' (by have h9' := (R.sx s' h2').2.1; omega)
      obtain rfl : s = s' := by omega
      omega
  · skip
    have t_h1 := tI h1 (by omega)
    have t_h4 := tI h4 (by have h9 := (R.sx s h2).2.1; omega)
    have RI : Rel2 m (upm m (49 + 2 * s) i2 (lowF (shB m s) v)) ln N q := R.fr SmX.rf (sm_up (by omega))
    refine m_put (d := 1296) (B := shB m) (Ln := shL m) RI.sy (fun e1' => ?_) (fun e2' => ?_) (fun s' i2' h1' h2' h3' h4' h5' => ?_)
    · skip
      rcases e1' with e1 | ⟨s', h1', h2', h3', h4'⟩
      · omega
      · have t_h1' := tI h1' (by omega)
        obtain rfl : s = s' := by omega
        omega
    · skip
      obtain ⟨s', h1', h2', h3'⟩ := e2'
      have t_h1' := tI h1' (by omega)
      obtain rfl : s = s' := by omega
      omega
    · skip
      have t_h1' := tI h1' (by omega)
      have t_h4' := tI h4' (by have h9' := (R.sx s' h2').2.1; omega)
      obtain rfl : s = s' := by omega
      obtain rfl : i2 = i2' := by omega
      exact pr_m (fun _ => rfl) ((R.pt v h2 (by have := (R.sx s h2).2.1; omega) rfl rfl).nx hq)
theorem mvA_r (c : Nat) {j : Nat} : ∀ n, j < n → mvA m c n 66 j = m 65 (c + j)
  | 0, h => absurd h (Nat.not_lt_zero j)
  | n + 1, h => by
    show upm (mvA m c n) 66 n (m 65 (c + n)) 66 j = m 65 (c + j)
    by_cases e : j = n
    · subst e
      exact upm_self _ _ _ _
    · rw [upm_j _ _ e]
      exact mvA_r c n (by omega)
theorem mvB_r (c p : Nat) : ∀ n, mvB m c n 65 p = if c ≤ p ∧ p < c + n then m 66 (p - c) else m 65 p
  | 0 => by
    rw [if_neg (by omega)]
    rfl
  | n + 1 => by
    show upm (mvB m c n) 65 (c + n) (m 66 n) 65 p = _
    by_cases e : p = c + n
    · subst e
      rw [upm_self, if_pos (by omega), Nat.add_sub_cancel_left]
    · rw [upm_j _ _ e, mvB_r c p n]
      by_cases h : c ≤ p ∧ p < c + n
      · rw [if_pos h, if_pos (by omega)]
      · rw [if_neg h, if_neg (by omega)]
theorem Rel2.mv (R : Rel2 m m ln N q) {s o i e k : Nat} (hs : s < 4) (ho : o < 4) (hb : shB m s = shB m o) (h1 : i + k ≤ 40) (h2 : e + k ≤ 40) {A B : MW} (hA : A = cpy m (49 + 2 * s) (49 + 2 * o) i e k) (hB : B = mvB (mvA A (40 * s + i) k) (40 * o + e) k) : Rel2 B B ln N q := by
  have ao : ∀ z, z ≠ 49 + 2 * o → A z = m z := fun z h => by
    subst hA
    funext j
    unfold cpy
    rw [if_neg (fun y => h y.1)]
  have bo : ∀ z, z ≠ 65 → z ≠ 66 → B z = A z := fun z h h' => by
    subst hB
    rw [mvB_o _ _ h, mvA_o _ _ h']
  have a65 : A 65 = m 65 := ao 65 (by omega)
  have b65 : ∀ p, B 65 p = if 40 * o + e ≤ p ∧ p < 40 * o + e + k then m 65 (40 * s + i + (p - (40 * o + e))) else m 65 p := fun p => by
    subst hB
    rw [mvB_r]
    by_cases h : 40 * o + e ≤ p ∧ p < 40 * o + e + k
    · rw [if_pos h, if_pos h, mvA_r _ _ (by omega), a65]
    · rw [if_neg h, if_neg h, mvA_o _ _ (by decide), a65]
  have hR : Rel2 A B ln N q := by
    refine R.shr (fun z h => ao z (by omega)) (fun z g1 g2 g3 => (bo z (by omega) (by omega)).trans (ao z (by omega))) (fun z hz => ?_)
    obtain ⟨s1, s2, s3, s5, s4, s6, s7⟩ := R.sh z hz
    refine ⟨shB m z, shL m z, s1, s2, ?_, ?_, ?_, ?_, fun j hj => ?_⟩
    · rw [ao _ (by omega)]
      exact s3
    · rw [bo 63 (by decide) (by decide), ao 63 (by omega)]
      exact s4
    · rw [ao _ (by omega)]
      exact s5
    · rw [bo 64 (by decide) (by decide), ao 64 (by omega)]
      exact s6
    · by_cases c : z = o ∧ e ≤ j ∧ j < e + k
      · obtain ⟨rfl, c1, c2⟩ := c
        obtain ⟨y, y1, y2⟩ := (R.sh s hs).2.2.2.2.2.2 (i + (j - e)) (by omega)
        refine ⟨y, ?_, ?_⟩
        · rw [b65, if_pos (by omega), show 40 * s + i + (40 * z + j - (40 * z + e)) = 40 * s + (i + (j - e)) by omega, ← hb]
          exact y1
        · have e1 : A (49 + 2 * z) j = m (49 + 2 * s) (i + (j - e)) := by
            subst hA
            unfold cpy
            rw [if_pos ⟨rfl, c1, c2⟩]
          rw [e1, ← hb]
          exact y2
      · obtain ⟨y, y1, y2⟩ := s7 j hj
        refine ⟨y, ?_, ?_⟩
        · rw [b65, if_neg (by omega)]
          exact y1
        · by_cases ez : z = o
          · subst ez
            have e1 : A (49 + 2 * z) j = m (49 + 2 * z) j := by
              subst hA
              unfold cpy
              rw [if_neg (by omega)]
            rw [e1]
            exact y2
          · rw [ao _ (by omega)]
            exact y2
  exact hR.fr (sxS (fun z h => bo z (by omega) (by omega))) SmM.rf
theorem cpy_m {s o i e k : Nat} (ho : o < 4) : SmM m (cpy m (49 + 2 * s) (49 + 2 * o) i e k) := fun z j c => by
  have := (cM_n c).2.2.2
  unfold cpy
  rw [if_neg (by omega)]
set_option maxHeartbeats 4000000 in
theorem p_move {a i c e w : Int32} (R : Rel2 m m ln N q) (hq : q < 512) : Pair xs 97 181 0 0 [.int a, .int i, .int c, .int e, .int w] True m ln N q := by
  obtain ⟨n, hn, hd, _⟩ := R.n
  refine x_move (d := 1297) (B := shB m) (Ln := shL m) R.sx (fun e1 => pr_x ?_) (fun e2 => pr_x ?_) (fun e5 => pr_x ?_) (fun s o i2 e2 k h1 h2 h3 h4 h5 h6 h7 h8 h9 h10 h11 => pr_x ?_)
  · skip
    have RI : Rel2 m (erm m 1) ln N q := R.e1 1
    refine m_move (d := 1296) (B := shB m) (Ln := shL m) RI.sy (fun e1' => ?_) (fun e2' => ?_) (fun e5' => ?_) (fun s' o' i2' e2' k' h1' h2' h3' h4' h5' h6' h7' h8' h9' h10' h11' => ?_)
    · skip
      exact pr_m (fun _ => rfl) (R.ee hq 1)
    · skip
      obtain ⟨s', o', h1', h2', h3', h4', h5'⟩ := e2'
      have t_h1' := tI h1' (by omega)
      have t_h3' := tI h3' (by omega)
      rcases e1 with e1 | ⟨s, o, h1, h2, h3, h4, h5, h6, h7⟩
      · omega
      · have t_h1 := tI h1 (by omega)
        have t_h3 := tI h3 (by omega)
        obtain rfl : s = s' := by omega
        obtain rfl : o = o' := by omega
        omega
    · skip
      obtain ⟨s', o', h1', h2', h3', h4', h5', h6', h7'⟩ := e5'
      have t_h1' := tI h1' (by omega)
      have t_h3' := tI h3' (by omega)
      rcases e1 with e1 | ⟨s, o, h1, h2, h3, h4, h5, h6, h7⟩
      · omega
      · have t_h1 := tI h1 (by omega)
        have t_h3 := tI h3 (by omega)
        obtain rfl : s = s' := by omega
        obtain rfl : o = o' := by omega
        omega
    · skip
      have t_h1' := tI h1' (by omega)
      have t_h3' := tI h3' (by omega)
      have t_h7' := tI h7' (by have h19' := (R.sx s' h2').2.1; omega)
      have t_h8' := tI h8' (by have h19' := (R.sx o' h4').2.1; omega)
      have t_h9' := tI h9' (by have h19' := (R.sx o' h4').2.1; omega)
      rcases e1 with e1 | ⟨s, o, h1, h2, h3, h4, h5, h6, h7⟩
      · omega
      · have t_h1 := tI h1 (by omega)
        have t_h3 := tI h3 (by omega)
        obtain rfl : s = s' := by omega
        obtain rfl : o = o' := by omega
        omega
  · skip
    obtain ⟨s, o, h1, h2, h3, h4, h5⟩ := e2
    have t_h1 := tI h1 (by omega)
    have t_h3 := tI h3 (by omega)
    have RI : Rel2 m (erm m 2) ln N q := R.e1 2
    refine m_move (d := 1296) (B := shB m) (Ln := shL m) RI.sy (fun e1' => ?_) (fun e2' => ?_) (fun e5' => ?_) (fun s' o' i2' e2' k' h1' h2' h3' h4' h5' h6' h7' h8' h9' h10' h11' => ?_)
    · skip
      rcases e1' with e1 | ⟨s', o', h1', h2', h3', h4', h5', h6', h7'⟩
      · omega
      · have t_h1' := tI h1' (by omega)
        have t_h3' := tI h3' (by omega)
        obtain rfl : s = s' := by omega
        obtain rfl : o = o' := by omega
        omega
    · skip
      obtain ⟨s', o', h1', h2', h3', h4', h5'⟩ := e2'
      have t_h1' := tI h1' (by omega)
      have t_h3' := tI h3' (by omega)
      obtain rfl : s = s' := by omega
      obtain rfl : o = o' := by omega
      exact pr_m (fun _ => rfl) (R.ee hq 2)
    · skip
      obtain ⟨s', o', h1', h2', h3', h4', h5', h6', h7'⟩ := e5'
      have t_h1' := tI h1' (by omega)
      have t_h3' := tI h3' (by omega)
      obtain rfl : s = s' := by omega
      obtain rfl : o = o' := by omega
      omega
    · skip
      have t_h1' := tI h1' (by omega)
      have t_h3' := tI h3' (by omega)
      have t_h7' := tI h7' (by have h19' := (R.sx s' h2').2.1; omega)
      have t_h8' := tI h8' (by have h19' := (R.sx o' h4').2.1; omega)
      have t_h9' := tI h9' (by have h19' := (R.sx o' h4').2.1; omega)
      obtain rfl : s = s' := by omega
      obtain rfl : o = o' := by omega
      omega
  · skip
    obtain ⟨s, o, h1, h2, h3, h4, h5, h6, h7⟩ := e5
    have t_h1 := tI h1 (by omega)
    have t_h3 := tI h3 (by omega)
    have RI : Rel2 m (erm m 5) ln N q := R.e1 5
    refine m_move (d := 1296) (B := shB m) (Ln := shL m) RI.sy (fun e1' => ?_) (fun e2' => ?_) (fun e5' => ?_) (fun s' o' i2' e2' k' h1' h2' h3' h4' h5' h6' h7' h8' h9' h10' h11' => ?_)
    · skip
      rcases e1' with e1 | ⟨s', o', h1', h2', h3', h4', h5', h6', h7'⟩
      · omega
      · have t_h1' := tI h1' (by omega)
        have t_h3' := tI h3' (by omega)
        obtain rfl : s = s' := by omega
        obtain rfl : o = o' := by omega
        omega
    · skip
      obtain ⟨s', o', h1', h2', h3', h4', h5'⟩ := e2'
      have t_h1' := tI h1' (by omega)
      have t_h3' := tI h3' (by omega)
      obtain rfl : s = s' := by omega
      obtain rfl : o = o' := by omega
      omega
    · skip
      obtain ⟨s', o', h1', h2', h3', h4', h5', h6', h7'⟩ := e5'
      have t_h1' := tI h1' (by omega)
      have t_h3' := tI h3' (by omega)
      obtain rfl : s = s' := by omega
      obtain rfl : o = o' := by omega
      exact pr_m (fun _ => rfl) (R.ee hq 5)
    · skip
      have t_h1' := tI h1' (by omega)
      have t_h3' := tI h3' (by omega)
      have t_h7' := tI h7' (by have h19' := (R.sx s' h2').2.1; omega)
      have t_h8' := tI h8' (by have h19' := (R.sx o' h4').2.1; omega)
      have t_h9' := tI h9' (by have h19' := (R.sx o' h4').2.1; omega)
      obtain rfl : s = s' := by omega
      obtain rfl : o = o' := by omega
      omega
  · skip
    have t_h1 := tI h1 (by omega)
    have t_h3 := tI h3 (by omega)
    have t_h7 := tI h7 (by have h19 := (R.sx s h2).2.1; omega)
    have t_h8 := tI h8 (by have h19 := (R.sx o h4).2.1; omega)
    have t_h9 := tI h9 (by have h19 := (R.sx o h4).2.1; omega)
    have RI : Rel2 m (cpy m (49 + 2 * s) (49 + 2 * o) i2 e2 k) ln N q := R.fr SmX.rf (cpy_m h4)
    refine m_move (d := 1296) (B := shB m) (Ln := shL m) RI.sy (fun e1' => ?_) (fun e2' => ?_) (fun e5' => ?_) (fun s' o' i2' e2' k' h1' h2' h3' h4' h5' h6' h7' h8' h9' h10' h11' => ?_)
    · skip
      rcases e1' with e1 | ⟨s', o', h1', h2', h3', h4', h5', h6', h7'⟩
      · omega
      · have t_h1' := tI h1' (by omega)
        have t_h3' := tI h3' (by omega)
        obtain rfl : s = s' := by omega
        obtain rfl : o = o' := by omega
        omega
    · skip
      obtain ⟨s', o', h1', h2', h3', h4', h5'⟩ := e2'
      have t_h1' := tI h1' (by omega)
      have t_h3' := tI h3' (by omega)
      obtain rfl : s = s' := by omega
      obtain rfl : o = o' := by omega
      omega
    · skip
      obtain ⟨s', o', h1', h2', h3', h4', h5', h6', h7'⟩ := e5'
      have t_h1' := tI h1' (by omega)
      have t_h3' := tI h3' (by omega)
      obtain rfl : s = s' := by omega
      obtain rfl : o = o' := by omega
      omega
    · skip
      have t_h1' := tI h1' (by omega)
      have t_h3' := tI h3' (by omega)
      have t_h7' := tI h7' (by have h19' := (R.sx s' h2').2.1; omega)
      have t_h8' := tI h8' (by have h19' := (R.sx o' h4').2.1; omega)
      have t_h9' := tI h9' (by have h19' := (R.sx o' h4').2.1; omega)
      obtain rfl : s = s' := by omega
      obtain rfl : o = o' := by omega
      obtain rfl : i2 = i2' := by omega
      obtain rfl : e2 = e2' := by omega
      obtain rfl : k = k' := by omega
      exact pr_m (fun _ => rfl) ((R.mv h2 h4 h6 (by have := (R.sx s h2).2.1; omega) (by have := (R.sx o h4).2.1; omega) rfl rfl).nx hq)
theorem sgM_cm (e : Nat) {p : Nat} {x : Int32} : ∀ n, sgM (upm m 6 p x) e n = upm (sgM m e n) 6 p x
  | 0 => rfl
  | n + 1 => by
    show upm (sgM (upm m 6 p x) e n) 58 (16 + 6 * n + 3) (m 65 (e + n)) = upm (upm (sgM m e n) 58 (16 + 6 * n + 3) (m 65 (e + n))) 6 p x
    rw [sgM_cm e n, upm_cm _ _ _ (Or.inl (show 6 ≠ 58 by decide))]
theorem Rel2.sms (R : Rel2 m m ln N q) (c e : Nat) (hc : c ≠ 6) : ∀ r, r ≤ 8 → (∀ z, z < r → m 65 (e + z) = m c z ∧ leI (m c z) 9) → Rel2 (sgM (shM m c r) e r) (sgM (shM m c r) e r) ln N q
  | 0, _, _ => R
  | r + 1, hr, h => by
    have ih := R.sms c e hc r (by omega) (fun z hz => h z (by omega))
    have hw := ih.wd 3 r (m c r) (by omega) (by decide) (fun z => by omega) (fun z => by omega) (fun z => by omega) (fun _ => (h r (by omega)).2) (fun z => by omega) (fun z => by omega)
    have e1 : sgM (shM m c (r + 1)) e (r + 1) = upm (upm (sgM (shM m c r) e r) 6 r (m c r)) 58 (16 + 6 * r + 3) (m c r) := by
      show upm (sgM (upm (shM m c r) 6 r (m c r)) e r) 58 (16 + 6 * r + 3) (upm (shM m c r) 6 r (m c r) 65 (e + r)) = _
      rw [sgM_cm, upm_k _ _ (show 65 ≠ 6 by decide), shM_o _ _ (show 65 ≠ 6 by decide), (h r (by omega)).1]
    rw [e1]
    exact hw
theorem runF_t {p : Nat → Bool} : ∀ r s z, s ≤ z → z < runF p r s → p z = true
  | 0, s, z, h1, h2 => by
    have h3 : z < s := h2
    omega
  | r + 1, s, z, h1, h2 => by
    by_cases h : p s = true
    · rw [run_y h] at h2
      by_cases e : z = s
      · rw [e]
        exact h
      · exact runF_t r (s + 1) z (by omega) h2
    · rw [run_n h] at h2
      omega
theorem shM_m (c r : Nat) : SmM m (shM m c r) := fun k j h => by
  have := (cM_n h).2.2.2
  rw [shM_o _ _ (by omega)]
set_option maxHeartbeats 4000000 in
theorem p_shams {a : Int32} (R : Rel2 m m ln N q) (hq : q < 512) : Pair xs 98 182 0 0 [.int a] True m ln N q := by
  obtain ⟨n, hn, hd, _⟩ := R.n
  refine x_shams (d := 1297) (n := n) (B := shB m) (Ln := shL m) hd hn R.sx (fun e1 => pr_x ?_) (fun e2 => pr_x ?_) (fun s h1 h2 h3 => pr_x ?_)
  · skip
    have RI : Rel2 m (erm m 1) ln N q := R.e1 1
    refine m_shams (d := 1296) (n := n) (B := shB m) (Ln := shL m) (RI.n2 hd) hn RI.sy (fun e1' => ?_) (fun e2' => ?_) (fun s' h1' h2' h3' => ?_)
    · skip
      exact pr_m (fun _ => rfl) (R.ee hq 1)
    · skip
      obtain ⟨s', h1', h2', h3'⟩ := e2'
      have t_h1' := tI h1' (by omega)
      omega
    · skip
      have t_h1' := tI h1' (by omega)
      omega
  · skip
    obtain ⟨s, h1, h2, h3⟩ := e2
    have t_h1 := tI h1 (by omega)
    have RI : Rel2 m (erm m 2) ln N q := R.e1 2
    refine m_shams (d := 1296) (n := n) (B := shB m) (Ln := shL m) (RI.n2 hd) hn RI.sy (fun e1' => ?_) (fun e2' => ?_) (fun s' h1' h2' h3' => ?_)
    · skip
      omega
    · skip
      obtain ⟨s', h1', h2', h3'⟩ := e2'
      have t_h1' := tI h1' (by omega)
      obtain rfl : s = s' := by omega
      exact pr_m (fun _ => rfl) (R.ee hq 2)
    · skip
      have t_h1' := tI h1' (by omega)
      obtain rfl : s = s' := by omega
      omega
  · skip
    have t_h1 := tI h1 (by omega)
    have RI : Rel2 m (shM m (49 + 2 * s) (runF (fun z => decide (0 ≤ (m (49 + 2 * s) z).toInt ∧ (m (49 + 2 * s) z).toInt ≤ 9)) (min (shL m s) n) 0)) ln N q := R.fr SmX.rf (shM_m _ _)
    refine m_shams (d := 1296) (n := n) (B := shB m) (Ln := shL m) (RI.n2 hd) hn RI.sy (fun e1' => ?_) (fun e2' => ?_) (fun s' h1' h2' h3' => ?_)
    · skip
      omega
    · skip
      obtain ⟨s', h1', h2', h3'⟩ := e2'
      have t_h1' := tI h1' (by omega)
      obtain rfl : s = s' := by omega
      omega
    · skip
      have t_h1' := tI h1' (by omega)
      obtain rfl : s = s' := by omega
      have hb : shB m s = 8 ∨ shB m s = 16 ∨ shB m s = 32 := by
        have := (R.sx s h2).1
        omega
      have hl9 : ∀ z, z < min (shL m s) n → z < 40 ∧ z < 8 := fun z hz => by
        have := (R.sx s h2).2.1
        omega
      have cv : runF (fun z => decide (0 ≤ ((shM m (49 + 2 * s) (runF (fun z => decide (0 ≤ (m (49 + 2 * s) z).toInt ∧ (m (49 + 2 * s) z).toInt ≤ 9)) (min (shL m s) n) 0)) 65 (40 * s + z)).toInt ∧ ((shM m (49 + 2 * s) (runF (fun z => decide (0 ≤ (m (49 + 2 * s) z).toInt ∧ (m (49 + 2 * s) z).toInt ≤ 9)) (min (shL m s) n) 0)) 65 (40 * s + z)).toInt ≤ 9)) (min (shL m s) n) 0 = runF (fun z => decide (0 ≤ (m (49 + 2 * s) z).toInt ∧ (m (49 + 2 * s) z).toInt ≤ 9)) (min (shL m s) n) 0 := by
        refine runF_c _ _ (fun z _ hz => ?_)
        obtain ⟨v, e1, e2⟩ := (RI.sh s h2).2.2.2.2.2.2 z (hl9 z (by omega)).1
        rw [e1, e2]
        exact decide_eq_decide.mpr (low_9 hb v).1.symm
      have hr : (runF (fun z => decide (0 ≤ (m (49 + 2 * s) z).toInt ∧ (m (49 + 2 * s) z).toInt ≤ 9)) (min (shL m s) n) 0) ≤ min (shL m s) n := by
        have := runF_le (fun z => decide (0 ≤ (m (49 + 2 * s) z).toInt ∧ (m (49 + 2 * s) z).toInt ≤ 9)) (min (shL m s) n) 0
        omega
      rw [cv]
      refine pr_m (fun _ => rfl) ((R.sms (49 + 2 * s) (40 * s) (by omega) _ (by omega) (fun z hz => ?_)).nx hq)
      obtain ⟨v, e1, e2⟩ := (R.sh s h2).2.2.2.2.2.2 z (hl9 z (by omega)).1
      have ht := of_decide_eq_true (runF_t _ _ z (Nat.zero_le _) hz)
      rw [e2] at ht
      rw [e1, e2]
      exact ⟨(low_9 hb v).2 ht, leI_of ht.1 ht.2⟩
end
