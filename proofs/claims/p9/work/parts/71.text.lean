/-! A TEXT ON BOTH SIDES -/
section
variable {xs : List Int32} {a b m m2 : MW} {ln : Nat → Nat} {N q : Nat}
theorem cpT_h (m : MW) {c j : Nat} (h : ∀ z, z < 50 → j ≠ c + z) : ∀ n, n ≤ 50 → cpT m c n 58 j = m 58 j
  | 0, _ => rfl
  | n + 1, hn => (upm_j _ _ (h n (by omega))).trans (cpT_h m h n (by omega))
theorem txM_p {u f p : Nat} (h1 : p ≠ 5 + u) (h2 : ¬ (134 + 50 * u ≤ p ∧ p < 184 + 50 * u)) : txM m u f 58 p = m 58 p := by
  unfold txM
  rw [upm_j _ _ h1, cpT_h _ (fun z hz => by omega) 50 (Nat.le_refl _)]
  rfl
/-- the tape empty on both sides -/
theorem Rel2.t0 (R : Rel2 m m ln N q) : Rel2 (upm (upm m 37 2 0) 58 3 0) (upm (upm m 37 2 0) 58 3 0) ln N q := by
  have hR : Rel2 (upm m 37 2 0) (upm (upm m 37 2 0) 58 3 0) ln N q := by
    refine R.dk (fun k h => row_up _ _ (by omega)) (fun k h1 h2 h3 => (row_up _ _ h3).trans (row_up _ _ (by omega))) R.dz ⟨⟨0, by decide, rfl⟩, rfl⟩ R.dw (fun j hj => ?_) (fun j hj => ?_) (fun p hp => ?_)
    · exact ⟨(R.dt j hj).1, (upm_j _ _ (by omega)).trans (R.dt j hj).2⟩
    · exact (upm_j _ _ (by omega)).trans (R.dq j hj)
    · exact (upm_j _ _ (by omega)).trans (upm_k _ _ (by decide))
  exact hR.fr (sx58 (fun k h => row_up _ _ h)) SmM.rf
theorem rdr_x (h : ∀ k j, ¬ (k = 44 ∨ k = 43) → m2 k j = m k j) : SmX m m2 := fun k j c => h k j (by unfold cX at c; omega)
theorem rdr_m (h : ∀ k j, ¬ (k = 44 ∨ k = 43) → m2 k j = m k j) : SmM m m2 := fun k j c => h k j (by have := (cM_n c).2.2.2; omega)
theorem newM_k {k : Nat} {w : Nat → Int32} (h1 : k ≠ 70 + 3 * N) (h2 : k ≠ 71 + 3 * N) : newM m N w k = m k := by
  funext j
  unfold newM
  rw [if_neg h1, if_neg h2]
/-- a law more on both sides -/
theorem Rel2.law (R : Rel2 m m ln N q) (hq : q < 512) {u f z : Nat} {w : Nat → Int32} (hu : u ≤ 1) (hf : m 37 2 = nI f) (hf50 : f ≤ 50) (hT : isText (m 38) f u) (hz : z = (TR (m 38) f u).1.length) (hz50 : z ≤ 50) (hw : ∀ j, j < z → w j = (TR (m 38) f u).1.getD j 0) {M A B : MW} (hM : ∀ k, k ≠ 44 → k ≠ 43 → M k = m k) (hA : A = upm (newM (upm M 37 2 0) N w) 1 (11 + u) (nI (N + 1))) (hB : B = upm (txM A u f) 58 3 0) : Rel2 A B (newL ln N z) (N + 1) (q + 1) := by
  have ao : ∀ k, k ≠ 1 → k ≠ 37 → k ≠ 43 → k ≠ 44 → k ≠ 70 + 3 * N → k ≠ 71 + 3 * N → A k = m k := fun k h1 h2 h3 h4 h5 h6 => by
    subst hA
    rw [row_up _ _ h1, newM_k h5 h6, row_up _ _ h2, hM k h4 h3]
  have a1 : ∀ j, j ≠ 11 + u → A 1 j = m 1 j := fun j h => by
    subst hA
    rw [upm_j _ _ h, newM_k (by omega) (by omega), row_up _ _ (by decide), hM 1 (by decide) (by decide)]
  have a1u : A 1 (11 + u) = nI (N + 1) := by
    subst hA
    exact upm_self _ _ _ _
  have a37 : ∀ j, j ≠ 2 → A 37 j = m 37 j := fun j h => by
    subst hA
    rw [row_up _ _ (by decide), newM_k (by omega) (by omega), upm_j _ _ h, hM 37 (by decide) (by decide)]
  have a372 : A 37 2 = 0 := by
    subst hA
    rw [row_up _ _ (by decide), newM_k (by omega) (by omega)]
    exact upm_self _ _ _ _
  have a58 : A 58 = m 58 := ao 58 (by omega) (by omega) (by omega) (by omega) (by omega) (by omega)
  have b58 : ∀ p, p ≠ 3 → p ≠ 5 + u → ¬ (134 + 50 * u ≤ p ∧ p < 184 + 50 * u) → B 58 p = m 58 p := fun p h1 h2 h3 => by
    subst hB
    rw [upm_j _ _ h1, txM_p h2 h3, a58]
  have b3 : B 58 3 = 0 := by
    subst hB
    exact upm_self _ _ _ _
  have b5 : B 58 (5 + u) = nI f := by
    subst hB
    rw [upm_j _ _ (by omega)]
    unfold txM
    exact upm_self _ _ _ _
  have bt5 : ∀ j, j < 50 → txW (B 58) u j = m 38 j := fun j hj => by
    subst hB
    show upm (txM A u f) 58 3 0 58 (134 + 50 * u + j) = m 38 j
    rw [upm_j _ _ (by omega)]
    have h := txM_t (m := A) (f := f) hu hj
    rw [a58] at h
    exact h.trans (R.dt j hj).2
  have bo : ∀ k, k ≠ 58 → k ≠ 61 → B k = A k := fun k h1 h2 => by
    subst hB
    rw [row_up _ _ h1, txM_o h1 h2]
  have cd : ∀ i, i < N → codL A (newL ln N z) i = codL m ln i := fun i hi => by
    have e : newL ln N z i = ln i := if_neg (by omega)
    unfold codL
    rw [e, ao (70 + 3 * i) (by omega) (by omega) (by omega) (by omega) (by omega) (by omega)]
  have cdN : codL A (newL ln N z) N = (TR (m 38) f u).1 := by
    have e : newL ln N z N = z := if_pos rfl
    unfold codL
    rw [e]
    apply List.ext_getElem?
    intro j
    by_cases hj : j < z
    · rw [range_at _ hj]
      have e2 : A (70 + 3 * N) j = w j := by
        subst hA
        rw [row_up _ _ (by omega)]
        unfold newM
        rw [if_pos rfl]
      rw [e2, hw j hj, List.getD_eq_getElem?_getD, List.getElem?_eq_getElem (by omega)]
      rfl
    · rw [List.getElem?_eq_none (by rw [List.length_map, List.length_range]; omega), List.getElem?_eq_none (by omega)]
  have hg := PL_ok (m 38) f u 400 0 0 0 (by omega)
  have tr : TR (txW (B 58) u) f u = TR (m 38) f u := TR_loc (fun j hj => bt5 j (by omega))
  have hnw : nW (B 58) u = f := by
    unfold nW
    rw [b5, nI_clamp (by omega)]
  have txu : TxR (codL A (newL ln N z)) (N + 1) (nI (N + 1)) (B 58) u := by
    refine ⟨Or.inr ⟨f, hf50, b5, fun j hj => ?_, ?_⟩, Or.inr ⟨N, by omega, rfl, ?_, ?_⟩⟩
    · rw [bt5 j hj]
      exact (R.dt j hj).1
    · unfold isText
      rw [tr]
      exact hT
    · rw [b5, nI_toInt (by omega)]
      omega
    · rw [cdN, hnw, tr]
  have txo : ∀ u2, u2 ≤ 1 → u2 ≠ u → ∀ x, TxR (codL m ln) N x (m 58) u2 → TxR (codL A (newL ln N z)) (N + 1) x (B 58) u2 := fun u2 h1 h2 x h => h.mv cd (Nat.le_succ _) (b58 _ (by omega) (by omega) (by omega)) (fun j hj => b58 _ (by omega) (by omega) (by omega))
  obtain ⟨r1, r2, r3, r4, r5, r6, r7, r8⟩ := R
  obtain ⟨t1, t2, t3, t4, t5, t6, t7, t8, t9, t10⟩ := r4
  have hE : Eq7 (vw m 0) (vw A 0) := by
    refine ⟨fun j h1 h8 i hi => ?_, a1 8 (by omega), a1 9 (by omega), a1 10 (by omega)⟩
    show A (j + 1 + 9 * 0) i = m (j + 1 + 9 * 0) i
    rw [ao _ (by omega) (by omega) (by omega) (by omega) (by omega) (by omega)]
  have hV : Eq7 (vr (m 58)) (vr (B 58)) := by
    refine ⟨fun j h1 h8 i hi => ?_, b58 7 (by omega) (by omega) (by omega), b58 0 (by omega) (by omega) (by omega), b58 2 (by omega) (by omega) (by omega)⟩
    by_cases e : j = 1
    · subst e
      exact b58 (8 + i) (by omega) (by omega) (by omega)
    · obtain ⟨c, rfl⟩ : ∃ c, j = 2 + c := ⟨j - 2, by omega⟩
      rw [← vr_c, ← vr_c]
      exact b58 _ (by omega) (by omega) (by omega)
  refine ⟨by omega, by omega, ⟨by omega, fun i hi => ?_⟩, ⟨WF_7 hE t1, ?_, hE.sy.tr (t3.tr hV), ?_, ⟨?_, ?_⟩, ⟨?_, ?_⟩, fun j hj => ⟨?_, ?_⟩, fun j hj => ?_, ?_, ?_⟩, r5.mv (Nat.le_succ _) (Nat.le_succ _) cd ?_ (fun k h => ao k (by omega) (by omega) (by omega) (by omega) (by omega) (by omega)) ?_ ?_ ?_, r6.mv (fun k h1 h2 => ao k (by omega) (by omega) (by omega) (by omega) (by omega) (by omega)) (fun k h1 h2 => (bo k (by omega) (by omega)).trans (ao k (by omega) (by omega) (by omega) (by omega) (by omega) (by omega))), r7.mv (ao 56 (by omega) (by omega) (by omega) (by omega) (by omega) (by omega)) ((bo 62 (by omega) (by omega)).trans (ao 62 (by omega) (by omega) (by omega) (by omega) (by omega) (by omega))), r8.mv (fun k h1 h2 => ao k (by omega) (by omega) (by omega) (by omega) (by omega) (by omega)) ?_ ((bo 68 (by omega) (by omega)).trans (ao 68 (by omega) (by omega) (by omega) (by omega) (by omega) (by omega)))⟩
  · by_cases e : i = N
    · subst e
      rw [cdN]
      refine ⟨?_, (hg.2.2 hT.1).2.1⟩
      have e9 : newL ln i z i = z := if_pos rfl
      rw [e9]
      exact hz50
    · rw [cd i (by omega)]
      have e9 : newL ln N z i = ln i := if_neg e
      rw [e9]
      exact r3.2 i (by omega)
  · show leI (A 1 9) 9999
    rw [a1 9 (by omega)]
    exact t2
  · rw [b58 1 (by omega) (by omega) (by omega), a37 0 (by decide)]
    exact t4
  · rw [a372]
    exact ⟨0, by decide, rfl⟩
  · rw [b3, a372]
  · rw [a37 4 (by decide)]
    exact t6.1
  · rw [b58 4 (by omega) (by omega) (by omega), a37 4 (by decide)]
    exact t6.2
  · rw [ao 38 (by omega) (by omega) (by omega) (by omega) (by omega) (by omega)]
    exact (t7 j hj).1
  · rw [b58 _ (by omega) (by omega) (by omega), ao 38 (by omega) (by omega) (by omega) (by omega) (by omega) (by omega)]
    exact (t7 j hj).2
  · rw [b58 _ (by omega) (by omega) (by omega), ao 39 (by omega) (by omega) (by omega) (by omega) (by omega) (by omega)]
    exact t8 j hj
  · show TxR _ _ (A 1 11) _ _
    by_cases e : u = 0
    · subst e
      rw [show A 1 11 = nI (N + 1) from a1u]
      exact txu
    · rw [a1 11 (by omega)]
      exact txo 0 (by omega) (by omega) _ t9
  · show TxR _ _ (A 1 12) _ _
    by_cases e : u = 1
    · subst e
      rw [show A 1 12 = nI (N + 1) from a1u]
      exact txu
    · rw [a1 12 (by omega)]
      exact txo 1 (by omega) (by omega) _ t10
  · rw [ao 0 (by omega) (by omega) (by omega) (by omega) (by omega) (by omega)]
  · rw [bo 57 (by omega) (by omega), ao 57 (by omega) (by omega) (by omega) (by omega) (by omega) (by omega)]
  · rw [bo 57 (by omega) (by omega), ao 57 (by omega) (by omega) (by omega) (by omega) (by omega) (by omega)]
  · rw [bo 59 (by omega) (by omega), ao 59 (by omega) (by omega) (by omega) (by omega) (by omega) (by omega)]
  · rw [bo 57 (by omega) (by omega), ao 57 (by omega) (by omega) (by omega) (by omega) (by omega) (by omega)]
theorem pr_x3 {y : Nat} {args : List Value} {eq : Prop} {z : Int32} {m1 : MW} {ln1 : Nat → Nat} {N1 : Nat} (g : WP xs 1299 y 0 0 (.ref 89 :: args) (H m1 ln1 N1) (fun r2 h2 => ∃ z2 m2, r2 = some (.int z2) ∧ (eq → z2 = z) ∧ h2 = H m2 ln1 N1 ∧ Rel2 m2 m2 ln1 N1 (q + 1))) : ∃ z' m1' ln2 N2, some (Value.int z) = some (.int z') ∧ H m1 ln1 N1 = H m1' ln2 N2 ∧
    WP xs 1299 y 0 0 (.ref 89 :: args) (H m1' ln2 N2) (fun r2 h2 => ∃ z2 m2, r2 = some (.int z2) ∧ (eq → z2 = z') ∧ h2 = H m2 ln2 N2 ∧ Rel2 m2 m2 ln2 N2 (q + 1)) := ⟨z, m1, ln1, N1, rfl, rfl, g⟩
set_option maxHeartbeats 4000000 in
theorem p_text {v : Int32} (R : Rel2 m m ln N q) (hq : q < 512) : Pair xs 68 140 3 102 [.int v] True m ln N q := by
  obtain ⟨f, hf50, hf⟩ := R.df.1
  have hTp : ∀ A : MW, SmM m A → ∀ j, j < 50 → leI (A 58 (64 + j)) 255 := fun A hm j hj => by
    rw [hm.row (Or.inl rfl), (R.dt j hj).2]
    exact (R.dt j hj).1
  have hfp : ∀ A : MW, SmM m A → A 58 3 = nI f := fun A hm => by
    rw [hm.row (Or.inl rfl)]
    exact R.df.2.trans hf
  have hcv : ∀ (A : MW) (u : Nat), SmM m A → u ≤ 1 → TR (BT (txM A u f) u) f u = TR (m 38) f u := fun A u hm hu => TR_loc (fun j hj => by
    rw [txM_t hu (by omega), hm.row (Or.inl rfl)]
    exact (R.dt j (by omega)).2)
  refine x_text (d := 397) hf hf50 (fun j hj => (R.dt j hj).1) R.L.1 (fun e1 => pr_x3 ?_) (fun u h1 h2 h3 m2 hF => pr_x3 ?_) (fun u h1 h2 h3 m2 hF w z h4 h5 h6 => pr_x3 ?_)
  · refine m_text (d := 488) (hfp _ smx_er) hf50 (hTp _ smx_er) (fun _ => pr_m (fun _ => rfl) (R.ee hq 1)) (fun u' h1' h2' h3' m3 hG => ?_) (fun u' h1' h2' h3' m3 hG => ?_)
    · have t1 := tI h1' (by omega)
      omega
    · have t1 := tI h1' (by omega)
      omega
  · have t1 := tI h1 (by omega)
    have hmA : SmM m (upm m2 37 2 0) := (rdr_m hF).tr (sm_up (by decide))
    refine m_text (d := 488) (hfp _ hmA) hf50 (hTp _ hmA) (fun e1 => ?_) (fun u' h1' h2' h3' m3 hG => ?_) (fun u' h1' h2' h3' m3 hG => ?_)
    · omega
    · have t1' := tI h1' (by omega)
      obtain rfl : u = u' := by omega
      rw [hcv _ u hmA h2]
      refine pr_m (fun _ => rfl) ((R.t0.fr (a2 := upm m3 58 3 0) (b2 := upm m3 58 3 0) (SmX.up (SmX.tr ((rdr_x hF).up 37 2 0) (fun k j c => hG k j ?_ (cX_n c).2)) 58 3 0) (SmM.up (SmM.tr ((rdr_m hF).up 37 2 0) (fun k j c => hG k j ?_ (cM_n c).2.1)) 58 3 0)).nx hq)
      · exact fun e => cXM c (by omega)
      · unfold cM at c
        omega
    · have t1' := tI h1' (by omega)
      obtain rfl : u = u' := by omega
      rw [hcv _ u hmA h2] at h3'
      exact absurd h3' h3
  · have t1 := tI h1 (by omega)
    have hmA : SmM m (upm (newM (upm m2 37 2 0) N w) 1 (11 + u) (nI (N + 1))) := fun k j c => by
      have := (cM_n c).2.2.2
      rw [upm_k _ _ (by omega), newM_k (by omega) (by omega), upm_k _ _ (by omega)]
      exact hF k j (by omega)
    refine m_text (d := 488) (hfp _ hmA) hf50 (hTp _ hmA) (fun e1 => ?_) (fun u' h1' h2' h3' m3 hG => ?_) (fun u' h1' h2' h3' m3 hG => ?_)
    · omega
    · have t1' := tI h1' (by omega)
      obtain rfl : u = u' := by omega
      rw [hcv _ u hmA h2] at h3'
      exact absurd h3 h3'
    · have t1' := tI h1' (by omega)
      obtain rfl : u = u' := by omega
      refine pr_m (fun _ => rfl) ((R.law hq h2 hf hf50 h3 h4 h5 h6 (fun k k1 k2 => funext fun j => hF k j (by omega)) rfl rfl).fr (fun k j c => ?_) (SmM.up (EqM.sm hG) 58 3 0))
      have h58 : k ≠ 58 := fun e => cXM c (by omega)
      rw [upm_k _ _ h58, hG k j (cX_n c).2, txM_o h58 (fun e => cXM c (by omega))]
end
