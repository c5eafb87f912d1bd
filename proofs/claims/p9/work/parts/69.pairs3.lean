/-! CALLS ON BOTH SIDES that change desks, images, voices -/
section
variable {xs : List Int32} {a b m : MW} {ln : Nat → Nat} {N q : Nat}
theorem Rel2.dw (R : Rel2 a b ln N q) : leI (a 37 4) 20 ∧ b 58 4 = a 37 4 := R.T.2.2.2.2.2.1
theorem Rel2.df (R : Rel2 a b ln N q) : leI (a 37 2) 50 ∧ b 58 3 = a 37 2 := R.T.2.2.2.2.1
theorem Rel2.dt (R : Rel2 a b ln N q) : ∀ j, j < 50 → leI (a 38 j) 255 ∧ b 58 (64 + j) = a 38 j := R.T.2.2.2.2.2.2.1
theorem Rel2.dq (R : Rel2 a b ln N q) : ∀ j, j < 20 → b 58 (114 + j) = a 39 j := R.T.2.2.2.2.2.2.2.1
theorem Rel2.dz (R : Rel2 a b ln N q) : b 58 1 = a 37 0 := R.T.2.2.2.1
theorem Rel2.tl (R : Rel2 m m ln N q) {w : Nat} (v : Int32) (hw : w < 20) {A B : MW} (hA : A = upm (upm m 39 w v) 37 4 (nI (w + 1))) (hB : B = upm (upm A 58 (114 + w) v) 58 4 (nI (w + 1))) : Rel2 B B ln N q := by
  have a58 : A 58 = m 58 := by
    subst hA
    rfl
  have a37 : ∀ j, j ≠ 4 → A 37 j = m 37 j := fun j h => by
    subst hA
    exact (upm_j _ _ h).trans (upm_k _ _ (by decide))
  have a38 : A 38 = m 38 := by
    subst hA
    rfl
  have a39 : ∀ j, A 39 j = if j = w then v else m 39 j := fun j => by
    subst hA
    rw [upm_k _ _ (by decide)]
    unfold upm
    by_cases h : j = w
    · rw [if_pos h, if_pos ⟨rfl, h⟩]
    · rw [if_neg h, if_neg (fun z => h z.2)]
  have b58 : ∀ j, j ≠ 4 → j ≠ 114 + w → B 58 j = m 58 j := fun j h1 h2 => by
    subst hB
    rw [upm_j _ _ h1, upm_j _ _ h2, a58]
  have hR : Rel2 A B ln N q := by
    refine R.dk (fun k h => ?_) (fun k h1 h2 h3 => ?_) ?_ ?_ ?_ (fun j hj => ?_) (fun j hj => ?_) (fun p hp => b58 p (by omega) (by omega))
    · subst hA
      exact (row_up _ _ (by omega)).trans (row_up _ _ (by omega))
    · subst hB
      subst hA
      exact (row_up _ _ h3).trans ((row_up _ _ h3).trans ((row_up _ _ (by omega)).trans (row_up _ _ (by omega))))
    · rw [b58 1 (by decide) (by omega), a37 0 (by decide)]
      exact R.dz
    · rw [b58 3 (by decide) (by omega), a37 2 (by decide)]
      exact R.df
    · have e1 : A 37 4 = nI (w + 1) := by
        subst hA
        exact upm_self _ _ _ _
      have e2 : B 58 4 = nI (w + 1) := by
        subst hB
        exact upm_self _ _ _ _
      rw [e1, e2]
      exact ⟨leI_lit (by omega), rfl⟩
    · rw [b58 (64 + j) (by omega) (by omega), a38]
      exact R.dt j hj
    · rw [a39]
      by_cases h : j = w
      · subst h
        rw [if_pos rfl]
        subst hB
        exact (upm_j _ _ (by omega)).trans (upm_self _ _ _ _)
      · rw [if_neg h, b58 (114 + j) (by omega) (by omega)]
        exact R.dq j hj
  exact hR.fr (sx58 (fun k h => by
    subst hB
    exact (row_up _ _ h).trans (row_up _ _ h))) SmM.rf
theorem Rel2.w0 (R : Rel2 m m ln N q) : Rel2 (upm (upm m 37 4 0) 58 4 0) (upm (upm m 37 4 0) 58 4 0) ln N q := by
  have hR : Rel2 (upm m 37 4 0) (upm (upm m 37 4 0) 58 4 0) ln N q := by
    refine R.dk (fun k h => row_up _ _ (by omega)) (fun k h1 h2 h3 => (row_up _ _ h3).trans (row_up _ _ (by omega))) R.dz R.df ⟨⟨0, by decide, rfl⟩, rfl⟩ (fun j hj => ?_) (fun j hj => ?_) (fun p hp => ?_)
    · exact ⟨(R.dt j hj).1, (upm_j _ _ (by omega)).trans (R.dt j hj).2⟩
    · exact (upm_j _ _ (by omega)).trans (R.dq j hj)
    · exact (upm_j _ _ (by omega)).trans (upm_k _ _ (by decide))
  exact hR.fr (sx58 (fun k h => row_up _ _ h)) SmM.rf
set_option maxHeartbeats 4000000 in
theorem p_tell {v : Int32} (R : Rel2 m m ln N q) (hq : q < 512) : Pair xs 102 186 0 0 [.int v] True m ln N q := by
  obtain ⟨n, hn, hd, _⟩ := R.n
  obtain ⟨w, hw2, hw⟩ := R.dw.1
  refine x_tell (d := 1297) (w := w) hw hw2 (fun e4 => pr_x ?_) (fun h1 => pr_x ?_)
  · skip
    have RI : Rel2 m (erm m 4) ln N q := R.e1 4
    refine m_tell (d := 1297) (w := w) (RI.dw.2.trans hw) hw2 (fun e4' => ?_) (fun h1' => ?_)
    · skip
      exact pr_m (fun _ => rfl) (R.ee hq 4)
    · skip
      omega
  · skip
    have RI : Rel2 m (upm (upm m 39 w v) 37 4 (nI (w + 1))) ln N q := R.fr SmX.rf ((sm_up (by decide)).tr (sm_up (by decide)))
    refine m_tell (d := 1297) (w := w) (RI.dw.2.trans hw) hw2 (fun e4' => ?_) (fun h1' => ?_)
    · skip
      omega
    · skip
      exact pr_m (fun _ => rfl) ((R.tl v h1 rfl rfl).nx hq)
set_option maxHeartbeats 4000000 in
theorem p_check (R : Rel2 m m ln N q) (hq : q < 512) : Pair xs 103 187 0 0 [] True m ln N q := by
  obtain ⟨n, hn, hd, _⟩ := R.n
  obtain ⟨w, hw2, hw⟩ := R.dw.1
  refine x_check (d := 1292) (n := n) hd hn R.h01 R.W R.L R.ix R.iy hw hw2 (fun h1 m2 hF => pr_x ?_) (fun z h1 h2 m2 hF => pr_x ?_)
  · skip
    have RI : Rel2 m m2 ln N q := R.fr SmX.rf ((sm_up (k := 37) (by decide)).tr hF.sm)
    refine m_check (d := 481) (n := n) (RI.n2 hd) hn RI.X0 RI.X1 RI.WY (RI.dw.2.trans hw) hw2 (fun h1' m2' hF' => ?_) (fun z' h1' h2' m2' hF' => ?_)
    · skip
      have hR := (R.w0.fr ((hF.sx.up 58 4 0).tr hF'.sx) ((hF.sm.up 58 4 0).tr hF'.sm)).nx hq
      exact pr_m (fun _ => rfl) hR
    · skip
      have cv : leastF (fun q => !(decide ((sumF (stepN (rkF (m2 58)) (rbF (m2 58)) (vr (m2 58)) (q + 1) 4) n).toInt = (m2 58 (114 + q)).toInt))) w 0 = leastF (fun q => !(decide ((sumF (stepN (lkF m ln (m 1 11)) (blF m ln (m 1 12)) (vw m 0) (q + 1) 4) n).toInt = (m 39 q).toInt))) w 0 := by
        rw [RI.lk, RI.bl]
        exact leastF_r w 0 (fun z _ hz => by rw [sumN_7 RI.E7 R.W (z + 1) (by decide) (by decide) hn, RI.dq z (by omega)])
      rw [cv, h1] at h1'
      cases h1'
  · skip
    have RI : Rel2 m m2 ln N q := R.fr SmX.rf ((sm_up (k := 37) (by decide)).tr hF.sm)
    refine m_check (d := 481) (n := n) (RI.n2 hd) hn RI.X0 RI.X1 RI.WY (RI.dw.2.trans hw) hw2 (fun h1' m2' hF' => ?_) (fun z' h1' h2' m2' hF' => ?_)
    · skip
      have cv : leastF (fun q => !(decide ((sumF (stepN (rkF (m2 58)) (rbF (m2 58)) (vr (m2 58)) (q + 1) 4) n).toInt = (m2 58 (114 + q)).toInt))) w 0 = leastF (fun q => !(decide ((sumF (stepN (lkF m ln (m 1 11)) (blF m ln (m 1 12)) (vw m 0) (q + 1) 4) n).toInt = (m 39 q).toInt))) w 0 := by
        rw [RI.lk, RI.bl]
        exact leastF_r w 0 (fun z _ hz => by rw [sumN_7 RI.E7 R.W (z + 1) (by decide) (by decide) hn, RI.dq z (by omega)])
      rw [cv, h1] at h1'
      cases h1'
    · skip
      have cv : leastF (fun q => !(decide ((sumF (stepN (rkF (m2 58)) (rbF (m2 58)) (vr (m2 58)) (q + 1) 4) n).toInt = (m2 58 (114 + q)).toInt))) w 0 = leastF (fun q => !(decide ((sumF (stepN (lkF m ln (m 1 11)) (blF m ln (m 1 12)) (vw m 0) (q + 1) 4) n).toInt = (m 39 q).toInt))) w 0 := by
        rw [RI.lk, RI.bl]
        exact leastF_r w 0 (fun z _ hz => by rw [sumN_7 RI.E7 R.W (z + 1) (by decide) (by decide) hn, RI.dq z (by omega)])
      rw [cv, h1] at h1'
      have es := Option.some.inj h1'
      have hR := (R.w0.fr ((hF.sx.up 58 4 0).tr hF'.sx) ((hF.sm.up 58 4 0).tr hF'.sm)).nx hq
      exact pr_m (fun _ => by rw [es]) hR
theorem dk_o (m : MW) (a b : Nat) {k : Nat} (h : ¬ (a ≤ k ∧ k < a + 3)) : deskM m a b k = m k := if_neg h
theorem dk_y (m : MW) (a b : Nat) {j : Nat} (h : j < 3) : deskM m a b (a + j) = m (b + j) := by
  unfold deskM
  rw [if_pos (by omega), show a + j - a + b = b + j by omega]
theorem tk_y (m : MW) (t s : Nat) {j : Nat} (h : j < 8) : takeM m t s (1 + 9 * t + j) = m (1 + 9 * s + j) := by
  unfold takeM
  rw [if_pos (by omega), show 1 + 9 * t + j - 9 * t + 9 * s = 1 + 9 * s + j by omega]
theorem Rel2.img (R : Rel2 m m ln N q) {im : Nat} (hi : im ≤ q) (hq : q < 512) {A B : MW} (hA : A = upm (deskM (takeM m 3 0) 40 37) 0 6 (nI (im + 1))) (hB : B = upm (upm (upmR A 59 (A 58)) 57 4 1) 57 5 (nI (im + 1))) : Rel2 B B ln N (q + 1) := by
  have ao : ∀ k, k ≠ 0 → ¬ (28 ≤ k ∧ k < 36) → ¬ (40 ≤ k ∧ k < 43) → A k = m k := fun k h0 h1 h2 => by
    subst hA
    rw [row_up _ _ h0, dk_o _ _ _ (by omega), take_o _ _ _ (by omega)]
  have at3 : ∀ j, j < 8 → vw A 3 j = vw m 0 j := fun j hj => by
    subst hA
    show upm (deskM (takeM m 3 0) 40 37) 0 6 (nI (im + 1)) (j + 1 + 9 * 3) = m (j + 1 + 9 * 0)
    rw [row_up _ _ (by omega), dk_o _ _ _ (by omega), show j + 1 + 9 * 3 = 1 + 9 * 3 + j by omega, tk_y _ _ _ hj, show 1 + 9 * 0 + j = j + 1 + 9 * 0 by omega]
  have ad : ∀ j, j < 3 → A (40 + j) = m (37 + j) := fun j hj => by
    subst hA
    rw [row_up _ _ (by omega), dk_y _ _ _ hj, take_o _ _ _ (by omega)]
  have a6 : A 0 6 = nI (im + 1) := by
    subst hA
    exact upm_self _ _ _ _
  have bo : ∀ k, k ≠ 57 → k ≠ 59 → B k = A k := fun k h1 h2 => by
    subst hB
    rw [row_up _ _ h1, row_up _ _ h1, upmR_k h2]
  have b9 : B 59 = m 58 := by
    subst hB
    rw [row_up _ _ (by decide), row_up _ _ (by decide)]
    exact (if_pos rfl).trans (ao 58 (by decide) (by decide) (by decide))
  have bf : ∀ j, j ≠ 4 → j ≠ 5 → B 57 j = m 57 j := fun j h1 h2 => by
    subst hB
    rw [upm_j _ _ h2, upm_j _ _ h1, upmR_k (by decide), ao 57 (by decide) (by decide) (by decide)]
  have b5 : B 57 5 = nI (im + 1) := by
    subst hB
    exact upm_self _ _ _ _
  have b4 : B 57 4 = 1 := by
    subst hB
    exact (upm_j _ _ (by decide)).trans (upm_self _ _ _ _)
  have hc : codL A ln = codL m ln := cod_td (fun k h => ao k (by omega) (by omega) (by omega))
  obtain ⟨r1, r2, r3, r4, r5, r6, r7, r8⟩ := R
  have hR : Rel2 A B ln N (q + 1) := by
    refine ⟨by omega, by omega, ⟨r3.1, fun i h => by rw [hc]; exact r3.2 i h⟩, ?_, ⟨im + 1, by omega, a6, b5, ?_, fun _ => ?_⟩, r6.mv (fun k h1 h2 => ao k (by omega) (by omega) (by omega)) (fun k h1 h2 => (bo k (by omega) (by omega)).trans (ao k (by omega) (by omega) (by omega))), r7.mv (ao 56 (by decide) (by decide) (by decide)) ((bo 62 (by decide) (by decide)).trans (ao 62 (by decide) (by decide) (by decide))), r8.mv (fun k h1 h2 => ao k (by omega) (by omega) (by omega)) (bf 21 (by decide) (by decide)) ((bo 68 (by decide) (by decide)).trans (ao 68 (by decide) (by decide) (by decide)))⟩
    · rw [hc, ao 37 (by decide) (by decide) (by decide), ao 38 (by decide) (by decide) (by decide), ao 39 (by decide) (by decide) (by decide), bo 58 (by decide) (by decide), ao 58 (by decide) (by decide) (by decide)]
      exact TbR_9 (fun j hj => ao _ (by omega) (by omega) (by omega)) r4
    · rw [b4, if_neg (by omega)]
    · rw [hc, b9, ad 0 (by decide), ad 1 (by decide), ad 2 (by decide)]
      exact TbR_9 at3 r4
  exact hR.fr (fun k j c => by
    have := cXM c
    rw [bo k (by omega) (by omega)]) SmM.rf
theorem Rel2.rst (R : Rel2 m m ln N q) (hT : TbR (codL m ln) N (vw m 3) (m 40) (m 41) (m 42) (m 59)) {A B : MW} (hA : A = deskM (takeM m 0 3) 37 40) (hB : B = upmR A 58 (A 59)) : Rel2 B B ln N q := by
  have ao : ∀ k, ¬ (1 ≤ k ∧ k < 9) → ¬ (37 ≤ k ∧ k < 40) → A k = m k := fun k h1 h2 => by
    subst hA
    rw [dk_o _ _ _ (by omega), take_o _ _ _ (by omega)]
  have at0 : ∀ j, j < 8 → vw A 0 j = vw m 3 j := fun j hj => by
    subst hA
    exact (show vw (deskM (takeM m 0 3) 37 40) 0 j = vw (takeM m 0 3) 0 j from dk_o _ _ _ (by omega)).trans (take_vw m 0 3 hj)
  have ad : ∀ j, j < 3 → A (37 + j) = m (40 + j) := fun j hj => by
    subst hA
    rw [dk_y _ _ _ hj, take_o _ _ _ (by omega)]
  have bo : ∀ k, k ≠ 58 → B k = A k := fun k h1 => by
    subst hB
    exact upmR_k h1
  have b8 : B 58 = m 59 := by
    subst hB
    exact (if_pos rfl).trans (ao 59 (by decide) (by decide))
  have hR : Rel2 A B ln N q := by
    refine R.td (fun k h => ao k (by omega) (by omega)) (by rw [ao 0 (by decide) (by decide)]) (fun k h1 h2 h3 => (bo k h3).trans (ao k (by omega) (by omega))) ?_
    rw [cod_td (a := m) (fun k h => ao k (by omega) (by omega)), b8, ad 0 (by decide), ad 1 (by decide), ad 2 (by decide)]
    exact TbR_9 at0 hT
  exact hR.fr (sx58 bo) SmM.rf
theorem img_m {x : Int32} : SmM m (upm (deskM (takeM m 3 0) 40 37) 0 6 x) := fun k j c => by
  have := (cM_n c).2.2.2
  rw [upm_k _ _ (by omega), dk_o _ _ _ (by omega), take_o _ _ _ (by omega)]
theorem rst_m : SmM m (deskM (takeM m 0 3) 37 40) := fun k j c => by
  have := (cM_n c).2.2.2
  rw [dk_o _ _ _ (by omega), take_o _ _ _ (by omega)]
set_option maxHeartbeats 4000000 in
theorem p_image (R : Rel2 m m ln N q) (hq : q < 512) : Pair xs 100 184 0 0 [] True m ln N q := by
  obtain ⟨n, hn, hd, _⟩ := R.n
  obtain ⟨im, i1, i2, i3, i4, i5⟩ := R.2.2.2.2.1
  refine x_image (d := 1297) (im := im) R.h01 i2 (pr_x ?_)
  · skip
    have RI : Rel2 m (upm (deskM (takeM m 3 0) 40 37) 0 6 (nI (im + 1))) ln N q := R.fr SmX.rf img_m
    refine m_image (d := 1297) (im := im) ((SmM.f57 img_m (Or.inl (by decide))).trans i3) (?_)
    · skip
      exact pr_m (fun _ => rfl) (R.img i1 hq rfl rfl)
set_option maxHeartbeats 4000000 in
theorem p_restore (R : Rel2 m m ln N q) (hq : q < 512) : Pair xs 101 185 0 0 [] True m ln N q := by
  obtain ⟨n, hn, hd, _⟩ := R.n
  obtain ⟨im, i1, i2, i3, i4, i5⟩ := R.2.2.2.2.1
  refine x_restore (d := 1297) (im := im) i2 (by have := R.1; omega) (fun h => (fun j hj => ((i5 h).1.2.2 j hj).2.2.2.2.2.2)) (fun e2 => pr_x ?_) (fun h1 => pr_x ?_)
  · skip
    have RI : Rel2 m (erm m 2) ln N q := R.e1 2
    refine m_restore (d := 1297) (im := im) ((SmM.f57 smx_er (Or.inl (by decide))).trans i4) (fun e2' => ?_) (fun h1' => ?_)
    · skip
      exact pr_m (fun _ => rfl) (R.ee hq 2)
    · skip
      omega
  · skip
    have RI : Rel2 m (deskM (takeM m 0 3) 37 40) ln N q := R.fr SmX.rf rst_m
    refine m_restore (d := 1297) (im := im) ((SmM.f57 rst_m (Or.inl (by decide))).trans i4) (fun e2' => ?_) (fun h1' => ?_)
    · skip
      omega
    · skip
      exact pr_m (fun _ => (congrFun (SmM.row rst_m (Or.inr (Or.inl rfl))) 0).trans (i5 h1).2.2.1.2.2.1) ((R.rst (i5 h1) rfl rfl).nx hq)
theorem fdM_o (m : MW) (f : Nat) (w : Int64) {k : Nat} (h : k ≠ 37) (h2 : k ≠ 38) : ∀ q, fdM m f w q k = m k
  | 0 => rfl
  | q + 1 => (row_up _ _ h).trans ((row_up _ _ h2).trans (fdM_o m f w h h2 q))
theorem fdM_j (m : MW) (f : Nat) (w : Int64) {j : Nat} (h : j ≠ 2) : ∀ q, fdM m f w q 37 j = m 37 j
  | 0 => rfl
  | q + 1 => (upm_j _ _ h).trans ((upm_k _ _ (by decide)).trans (fdM_j m f w h q))
theorem fdR_o (m : MW) (f : Nat) (w : Int64) {k : Nat} (h : k ≠ 58) : ∀ q, fdR m f w q k = m k
  | 0 => rfl
  | q + 1 => (row_up _ _ h).trans ((row_up _ _ h).trans (fdR_o m f w h q))
theorem fdR_j (m : MW) (f : Nat) (w : Int64) {j : Nat} (h : j ≠ 3) (h2 : ¬ (64 ≤ j ∧ j < 114)) : ∀ q, f + q ≤ 50 → fdR m f w q 58 j = m 58 j
  | 0, _ => rfl
  | q + 1, hq => (upm_j _ _ h).trans ((upm_j _ _ (by omega)).trans (fdR_j m f w h h2 q (by omega)))
theorem fd_r {b : MW} (f : Nat) (w : Int64) (h : ∀ j, j < 50 → leI (a 38 j) 255 ∧ b 58 (64 + j) = a 38 j) : ∀ q, f + q ≤ 50 → ∀ j, j < 50 → leI (fdM a f w q 38 j) 255 ∧ fdR b f w q 58 (64 + j) = fdM a f w q 38 j
  | 0, _ => h
  | q + 1, hq => fun j hj => by
    have ih := fd_r f w h q (by omega) j hj
    show leI (upm (upm (fdM a f w q) 38 (f + q) (nI (byF w q))) 37 2 (nI (f + q + 1)) 38 j) 255 ∧ upm (upm (fdR b f w q) 58 (64 + (f + q)) (nI (byF w q))) 58 3 (nI (f + q + 1)) 58 (64 + j) = upm (upm (fdM a f w q) 38 (f + q) (nI (byF w q))) 37 2 (nI (f + q + 1)) 38 j
    rw [upm_k (upm (fdM a f w q) 38 (f + q) (nI (byF w q))) _ (show 38 ≠ 37 by decide), upm_j (upm (fdR b f w q) 58 (64 + (f + q)) (nI (byF w q))) _ (show 64 + j ≠ 3 by omega)]
    by_cases e : j = f + q
    · subst e
      rw [upm_self, upm_self]
      exact ⟨leI_lit (by have := byF_lt w q; omega), rfl⟩
    · rw [upm_j (fdM a f w q) _ e, upm_j (fdR b f w q) _ (show 64 + j ≠ 64 + (f + q) by omega)]
      exact ih
theorem fdM_m (f : Nat) (w : Int64) (q : Nat) : SmM m (fdM m f w q) := fun k j c => by
  have := (cM_n c).2.2.2
  rw [fdM_o m f w (by omega) (by omega)]
theorem Rel2.fd (R : Rel2 m m ln N q) {f k : Nat} (w : Int64) (hf : m 37 2 = nI f) (hk : f + k ≤ 50) : Rel2 (fdR (fdM m f w k) f w k) (fdR (fdM m f w k) f w k) ln N q := by
  have e58 : fdM m f w k 58 = m 58 := fdM_o m f w (by decide) (by decide) k
  have hR : Rel2 (fdM m f w k) (fdR (fdM m f w k) f w k) ln N q := by
    refine R.dk (fun z h => fdM_o m f w (by omega) (by omega) k) (fun z h1 h2 h3 => (fdR_o _ f w h3 k).trans (fdM_o m f w (by omega) (by omega) k)) ?_ ?_ ?_ ?_ (fun j hj => ?_) (fun p hp => ?_)
    · rw [fdR_j _ f w (by decide) (by decide) k hk, fdM_j m f w (by decide) k, e58]
      exact R.dz
    · rw [fdM_f hf, fdR_f (m := fdM m f w k) (by rw [e58]; exact R.df.2.trans hf)]
      exact ⟨leI_lit hk, rfl⟩
    · rw [fdM_j m f w (by decide) k, fdR_j _ f w (by decide) (by decide) k hk, e58]
      exact R.dw
    · exact fd_r f w (fun j hj => by rw [e58]; exact R.dt j hj) k hk
    · rw [fdR_j _ f w (by omega) (by omega) k hk, e58, fdM_o m f w (by decide) (by decide) k]
      exact R.dq j hj
    · rw [fdR_j _ f w (by omega) (by omega) k hk, e58]
  exact hR.fr (sx58 (fun z h => fdR_o _ f w h k)) SmM.rf
set_option maxHeartbeats 4000000 in
theorem p_feed {w : Int64} {v : Int32} (R : Rel2 m m ln N q) (hq : q < 512) : Pair xs 67 139 0 0 [.long w, .int v] True m ln N q := by
  obtain ⟨n, hn, hd, _⟩ := R.n
  obtain ⟨f, hf50, hf⟩ := R.df.1
  refine x_feed (w := w) (d := 1297) (f := f) hf hf50 (fun e1 => pr_x ?_) (fun e4 => pr_x ?_) (fun k h1 h2 h3 h4 => pr_x ?_)
  · skip
    have RI : Rel2 m (erm m 1) ln N q := R.e1 1
    refine m_feed (w := w) (d := 1297) (f := f) (RI.df.2.trans hf) hf50 (fun e1' => ?_) (fun e4' => ?_) (fun k' h1' h2' h3' h4' => ?_)
    · skip
      exact pr_m (fun _ => rfl) (R.ee hq 1)
    · skip
      obtain ⟨k', h1', h2', h3'⟩ := e4'
      have t_h1' := tI h1' (by omega)
      omega
    · skip
      have t_h1' := tI h1' (by omega)
      omega
  · skip
    obtain ⟨k, h1, h2, h3⟩ := e4
    have t_h1 := tI h1 (by omega)
    have RI : Rel2 m (erm m 4) ln N q := R.e1 4
    refine m_feed (w := w) (d := 1297) (f := f) (RI.df.2.trans hf) hf50 (fun e1' => ?_) (fun e4' => ?_) (fun k' h1' h2' h3' h4' => ?_)
    · skip
      omega
    · skip
      obtain ⟨k', h1', h2', h3'⟩ := e4'
      have t_h1' := tI h1' (by omega)
      obtain rfl : k = k' := by omega
      exact pr_m (fun _ => rfl) (R.ee hq 4)
    · skip
      have t_h1' := tI h1' (by omega)
      omega
  · skip
    have t_h1 := tI h1 (by omega)
    have RI : Rel2 m (fdM m f w k) ln N q := R.fr SmX.rf (fdM_m f w k)
    refine m_feed (w := w) (d := 1297) (f := f) (RI.df.2.trans hf) hf50 (fun e1' => ?_) (fun e4' => ?_) (fun k' h1' h2' h3' h4' => ?_)
    · skip
      omega
    · skip
      obtain ⟨k', h1', h2', h3'⟩ := e4'
      have t_h1' := tI h1' (by omega)
      omega
    · skip
      have t_h1' := tI h1' (by omega)
      obtain rfl : k = k' := by omega
      exact pr_m (fun _ => rfl) ((R.fd w hf h4).nx hq)
theorem vocL_len : ∀ k, k < 7 → ∀ j, j ≤ 3 → (vocL k j).length ≤ 40 := by decide +kernel
theorem lgM_k {b : Nat} {k : Nat} (h : k ≠ 45) (h2 : k ≠ 46) (cs : List Nat) : lgM m b cs k = m k := by
  induction cs generalizing m b with
  | nil => rfl
  | cons c cs ih => exact ih.trans ((row_up _ _ h).trans (row_up _ _ h2))
theorem lgR_k {b : Nat} {k : Nat} (h : k ≠ 57) (h2 : k ≠ 68) (cs : List Nat) : lgR m b cs k = m k := by
  induction cs generalizing m b with
  | nil => rfl
  | cons c cs ih => exact ih.trans ((row_up _ _ h).trans (row_up _ _ h2))
theorem lg_r {b2 : MW} {p : Nat} (cs : List Nat) (h : ∀ j, j < p → b2 68 j = a 46 j) : ∀ j, j < p + cs.length → lgR b2 p cs 68 j = lgM a p cs 46 j := by
  induction cs generalizing a b2 p with
  | nil => exact h
  | cons c cs ih =>
    intro j hj
    refine ih (a := upm (upm a 46 p (nI c)) 45 4 (nI (p + 1))) (b2 := upm (upm b2 68 p (nI c)) 57 21 (nI (p + 1))) (p := p + 1) (fun j hj => ?_) j (by simp only [List.length_cons] at hj; omega)
    show upm b2 68 p (nI c) 68 j = upm a 46 p (nI c) 46 j
    by_cases e : j = p
    · subst e
      rw [upm_self, upm_self]
    · rw [upm_j _ _ e, upm_j _ _ e]
      exact h j (by omega)
theorem Rel2.voc (R : Rel2 m m ln N q) {x0 x1 x2 y2 y3 y4 : Int32} (cs : List Nat) (hcs : cs.length ≤ 40) {A B : MW} (hA : A = lgM (upm (upm (upm (upm m 45 0 x0) 45 1 x1) 45 2 x2) 45 4 0) 0 cs) (hB : B = lgR (upm (upm (upm (upm A 57 21 0) 57 22 y2) 57 23 y3) 57 24 y4) 0 cs) : Rel2 B B ln N q := by
  have ao : ∀ k, k ≠ 45 → k ≠ 46 → A k = m k := fun k h1 h2 => by
    subst hA
    rw [lgM_k h1 h2, row_up _ _ h1, row_up _ _ h1, row_up _ _ h1, row_up _ _ h1]
  have bo : ∀ k, k ≠ 57 → k ≠ 68 → B k = A k := fun k h1 h2 => by
    subst hB
    rw [lgR_k h1 h2, row_up _ _ h1, row_up _ _ h1, row_up _ _ h1, row_up _ _ h1]
  have bf : ∀ j, j < 7 → B 57 j = m 57 j := fun j h => by
    subst hB
    rw [lgR_o (by omega), upm_j _ _ (by omega), upm_j _ _ (by omega), upm_j _ _ (by omega), upm_j _ _ (by omega), ao 57 (by decide) (by decide)]
  have a4 : A 45 4 = nI cs.length := by
    subst hA
    rw [lgM_4 (b := 0) ?_, Nat.zero_add]
    exact upm_self _ _ _ _
  have b4 : B 57 21 = nI cs.length := by
    subst hB
    rw [lgR_4 (b := 0) ?_, Nat.zero_add]
    rw [upm_j _ _ (by decide), upm_j _ _ (by decide), upm_j _ _ (by decide)]
    exact upm_self _ _ _ _
  have hl : ∀ j, j < cs.length → B 68 j = A 46 j := fun j hj => by
    subst hB
    subst hA
    exact lg_r cs (fun j hj => absurd hj (Nat.not_lt_zero j)) j (by omega)
  have hc : codL A ln = codL m ln := cod_td (fun k h => ao k (by omega) (by omega))
  obtain ⟨r1, r2, r3, r4, r5, r6, r7, r8⟩ := R
  have hR : Rel2 A B ln N q := by
    refine ⟨r1, r2, ⟨r3.1, fun i h => by rw [hc]; exact r3.2 i h⟩, ?_, r5.mv (Nat.le_refl _) (Nat.le_refl _) (fun i _ => by rw [hc]) (by rw [ao 0 (by decide) (by decide)]) (fun k h => ao k (by omega) (by omega)) (bf 4 (by decide)) (bf 5 (by decide)) ((bo 59 (by decide) (by decide)).trans (ao 59 (by decide) (by decide))), r6.mv (fun k h1 h2 => ao k (by omega) (by omega)) (fun k h1 h2 => (bo k (by omega) (by omega)).trans (ao k (by omega) (by omega))), r7.mv (ao 56 (by decide) (by decide)) ((bo 62 (by decide) (by decide)).trans (ao 62 (by decide) (by decide))), ⟨cs.length, hcs, a4, b4, hl⟩⟩
    rw [hc, ao 37 (by decide) (by decide), ao 38 (by decide) (by decide), ao 39 (by decide) (by decide), bo 58 (by decide) (by decide), ao 58 (by decide) (by decide)]
    exact TbR_9 (fun j hj => ao _ (by omega) (by omega)) r4
  exact hR.fr (fun k j c => by
    have := cXM c
    rw [bo k (by omega) (by omega)]) SmM.rf
theorem voc_m {x0 x1 x2 : Int32} (cs : List Nat) : SmM m (lgM (upm (upm (upm (upm m 45 0 x0) 45 1 x1) 45 2 x2) 45 4 0) 0 cs) := fun k j c => by
  have := (cM_n c).2.2.2
  rw [lgM_k (by omega) (by omega), upm_k _ _ (by omega), upm_k _ _ (by omega), upm_k _ _ (by omega), upm_k _ _ (by omega)]
set_option maxHeartbeats 4000000 in
theorem p_voice {a b x : Int32} (R : Rel2 m m ln N q) (hq : q < 512) : Pair xs 93 176 0 0 [.int a, .int b, .int x] True m ln N q := by
  obtain ⟨n, hn, hd, _⟩ := R.n
  refine x_voice (d := 1283) (n := n) (K := kiF m) hd hn R.kx (fun e1 => pr_x ?_) (fun i j h1 h2 h3 h4 => pr_x ?_)
  · skip
    have RI : Rel2 m (erm m 1) ln N q := R.e1 1
    refine m_voice (d := 1279) (n := n) (K := kiF m) (RI.n2 hd) hn RI.ky (fun e1' => ?_) (fun i' j' h1' h2' h3' h4' => ?_)
    · skip
      exact pr_m (fun _ => rfl) (R.ee hq 1)
    · skip
      have t_h1' := tI h1' (by omega)
      have t_h3' := tI h3' (by omega)
      omega
  · skip
    have t_h1 := tI h1 (by omega)
    have t_h3 := tI h3 (by omega)
    have RI : Rel2 m (lgM (upm (upm (upm (upm m 45 0 (nI i)) 45 1 (m 4 i)) 45 2 (nI (kiF m i))) 45 4 0) 0 (vocL (kiF m i) j)) ln N q := R.fr SmX.rf (voc_m _)
    refine m_voice (d := 1279) (n := n) (K := kiF m) (RI.n2 hd) hn RI.ky (fun e1' => ?_) (fun i' j' h1' h2' h3' h4' => ?_)
    · skip
      omega
    · skip
      have t_h1' := tI h1' (by omega)
      have t_h3' := tI h3' (by omega)
      obtain rfl : i = i' := by omega
      obtain rfl : j = j' := by omega
      exact pr_m (fun _ => by rw [RI.rd (i := i) (c := 1) (by omega) (by decide)]) ((R.voc _ (vocL_len _ (R.kx i (by omega)).1 j h4) rfl rfl).nx hq)
end
