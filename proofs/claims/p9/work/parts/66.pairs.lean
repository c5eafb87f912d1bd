/-! CALLS ON BOTH SIDES that change no more than what told() tells -/
section
variable {xs : List Int32} {m : MW} {ln : Nat → Nat} {N q : Nat}
theorem what_b (k : Nat) : 1 ≤ whatF k ∧ whatF k < 8 := by
  unfold whatF
  split
  · decide
  · split <;> decide
theorem nx_x {m2 : MW} (h1 : ∀ k j, ¬ (1 ≤ k ∧ k < 10) → ¬ minor k j → m2 k j = m k j) (h2 : ∀ j, j < 8 → ∀ i, m2 (j + 1 + 9 * 0) i = vw m 0 j i) : SmX m m2 := fun k j c => by
  by_cases h : 1 ≤ k ∧ k < 9
  · have h3 := h2 (k - 1) (by omega) j
    unfold vw at h3
    rw [show k - 1 + 1 + 9 * 0 = k by omega] at h3
    exact h3
  · exact h1 k j (fun q => by
      unfold cX at c
      omega) (cX_n c).2
theorem nx_m {m2 : MW} (h1 : ∀ k j, ¬ (1 ≤ k ∧ k < 10) → ¬ minor k j → m2 k j = m k j) : SmM m m2 := fun k j c => h1 k j (fun q => by
      have := (cM_n c).2.2.2
      omega) (cM_n c).2.1
theorem cnt_e (R : Rel2 m m ln N q) {n : Nat} (hn : n ≤ 8) (hd : m 1 10 = nI n) (k : Nat) (hk : k ≤ 9) : cntY m n k = cntX m n k := by
  obtain ⟨c, hc, v1, v2, v3⟩ := R.2.2.2.2.2.2.2
  have s4 : sumF (vr (m 58) 4) n = sumF (m 5) n := sum_7 R.E7 (by decide) (by decide) hn
  have s6 : sumF (vr (m 58) 6) n = sumF (m 7) n := sum_7 R.E7 (by decide) (by decide) hn
  have s7 : sumF (vr (m 58) 7) n = sumF (m 8) n := sum_7 R.E7 (by decide) (by decide) hn
  have g0 : m 58 2 = m 1 10 := R.E7.2.2.2
  have g1 : m 58 7 = m 1 8 := R.E7.2.1
  have g2 : m 58 0 = m 1 9 := R.E7.2.2.1
  have g6 : m 58 3 = m 37 2 := R.T.2.2.2.2.1.2
  have g7 : m 58 4 = m 37 4 := R.T.2.2.2.2.2.1.2
  have g8 : m 57 21 = m 45 4 := v2.trans v1.symm
  have g9 : m 58 1 = m 37 0 := R.T.2.2.2.1
  unfold cntX cntY
  rw [s4, s6, s7, g0, g1, g2, g6, g7, g8, g9]
set_option maxHeartbeats 4000000 in
theorem p_filling {c : Int32} (R : Rel2 m m ln N q) (hq : q < 512) : Pair xs 57 116 0 0 [.int c] True m ln N q := by
  obtain ⟨n, hn, hd, _⟩ := R.n
  refine x_filling (d := 1297)  (fun e1 => pr_x ?_) (fun i h1 h2 => pr_x ?_)
  · skip
    have RI : Rel2 m (erm m 1) ln N q := R.e1 1
    refine m_filling (d := 1297)  (fun e1' => ?_) (fun i' h1' h2' => ?_)
    · skip
      exact pr_m (fun _ => rfl) (R.ee hq 1)
    · skip
      have t_h1' := tI h1' (by omega)
      omega
  · skip
    have t_h1 := tI h1 (by omega)
    have RI : Rel2 m m ln N q := R
    refine m_filling (d := 1297)  (fun e1' => ?_) (fun i' h1' h2' => ?_)
    · skip
      omega
    · skip
      have t_h1' := tI h1' (by omega)
      obtain rfl : i = i' := by omega
      exact pr_m (fun _ => R.rf h2) (R.nx hq)
set_option maxHeartbeats 4000000 in
theorem p_ofDiner {a b : Int32} (R : Rel2 m m ln N q) (hq : q < 512) : Pair xs 61 133 0 0 [.int a, .int b] True m ln N q := by
  obtain ⟨n, hn, hd, _⟩ := R.n
  refine x_ofDiner (d := 1295) (n := n) hd hn R.h01 R.W R.L R.ix (fun e1 => pr_x ?_) (fun i k h1 h2 h3 h4 => pr_x ?_) (fun i h1 h2 h3 m2 hF => pr_x ?_)
  · skip
    have RI : Rel2 m (erm m 1) ln N q := R.e1 1
    refine m_ofDiner (d := 486) (n := n) (RI.n2 hd) hn RI.X0 RI.WY (fun e1' => ?_) (fun i' k' h1' h2' h3' h4' => ?_) (fun i' h1' h2' h3' m2' hF' => ?_)
    · skip
      exact pr_m (fun _ => rfl) (R.ee hq 1)
    · skip
      have t_h1' := tI h1' (by omega)
      have t_h3' := tI h3' (by omega)
      omega
    · skip
      have t_h1' := tI h1' (by omega)
      have t_h3' := (show b.toInt = 6 by rw [h3']; rfl)
      omega
  · skip
    have t_h1 := tI h1 (by omega)
    have t_h3 := tI h3 (by omega)
    have RI : Rel2 m m ln N q := R
    refine m_ofDiner (d := 486) (n := n) (RI.n2 hd) hn RI.X0 RI.WY (fun e1' => ?_) (fun i' k' h1' h2' h3' h4' => ?_) (fun i' h1' h2' h3' m2' hF' => ?_)
    · skip
      omega
    · skip
      have t_h1' := tI h1' (by omega)
      have t_h3' := tI h3' (by omega)
      obtain rfl : i = i' := by omega
      obtain rfl : k = k' := by omega
      exact pr_m (fun _ => R.rd (by omega) (by omega)) (R.nx hq)
    · skip
      have t_h1' := tI h1' (by omega)
      have t_h3' := (show b.toInt = 6 by rw [h3']; rfl)
      omega
  · skip
    have t_h1 := tI h1 (by omega)
    have t_h3 := (show b.toInt = 6 by rw [h3]; rfl)
    have RI : Rel2 m m2 ln N q := R.fr SmX.rf hF.sm
    refine m_ofDiner (d := 486) (n := n) (RI.n2 hd) hn RI.X0 RI.WY (fun e1' => ?_) (fun i' k' h1' h2' h3' h4' => ?_) (fun i' h1' h2' h3' m2' hF' => ?_)
    · skip
      omega
    · skip
      have t_h1' := tI h1' (by omega)
      have t_h3' := tI h3' (by omega)
      omega
    · skip
      have t_h1' := tI h1' (by omega)
      have t_h3' := (show b.toInt = 6 by rw [h3']; rfl)
      obtain rfl : i = i' := by omega
      exact pr_m (fun _ => by rw [RI.lk, faceF_7 RI.E7 (by omega)]) ((R.fr (hF.sx.tr hF'.sx) (hF.sm.tr hF'.sm)).nx hq)
set_option maxHeartbeats 4000000 in
theorem p_as {a b : Int32} (R : Rel2 m m ln N q) (hq : q < 512) : Pair xs 66 137 0 0 [.int a, .int b] True m ln N q := by
  obtain ⟨n, hn, hd, _⟩ := R.n
  refine x_as (d := 1296) (n := n) (K := kiF m) hd hn R.kx (fun e1 => pr_x ?_) (fun e5 => pr_x ?_) (fun i k h1 h2 h3 h4 h5 => pr_x ?_)
  · skip
    have RI : Rel2 m (erm m 1) ln N q := R.e1 1
    refine m_as (d := 1296) (n := n) (K := kiF m) (RI.n2 hd) hn RI.ky (fun e1' => ?_) (fun e5' => ?_) (fun i' k' h1' h2' h3' h4' h5' => ?_)
    · skip
      exact pr_m (fun _ => rfl) (R.ee hq 1)
    · skip
      obtain ⟨i', k', h1', h2', h3', h4', h5'⟩ := e5'
      have t_h1' := tI h1' (by omega)
      have t_h3' := tI h3' (by omega)
      omega
    · skip
      have t_h1' := tI h1' (by omega)
      have t_h3' := tI h3' (by omega)
      omega
  · skip
    obtain ⟨i, k, h1, h2, h3, h4, h5⟩ := e5
    have t_h1 := tI h1 (by omega)
    have t_h3 := tI h3 (by omega)
    have RI : Rel2 m (erm m 5) ln N q := R.e1 5
    refine m_as (d := 1296) (n := n) (K := kiF m) (RI.n2 hd) hn RI.ky (fun e1' => ?_) (fun e5' => ?_) (fun i' k' h1' h2' h3' h4' h5' => ?_)
    · skip
      omega
    · skip
      obtain ⟨i', k', h1', h2', h3', h4', h5'⟩ := e5'
      have t_h1' := tI h1' (by omega)
      have t_h3' := tI h3' (by omega)
      obtain rfl : i = i' := by omega
      obtain rfl : k = k' := by omega
      exact pr_m (fun _ => rfl) (R.ee hq 5)
    · skip
      have t_h1' := tI h1' (by omega)
      have t_h3' := tI h3' (by omega)
      obtain rfl : i = i' := by omega
      obtain rfl : k = k' := by omega
      exact absurd h5' h5
  · skip
    have t_h1 := tI h1 (by omega)
    have t_h3 := tI h3 (by omega)
    have RI : Rel2 m m ln N q := R
    refine m_as (d := 1296) (n := n) (K := kiF m) (RI.n2 hd) hn RI.ky (fun e1' => ?_) (fun e5' => ?_) (fun i' k' h1' h2' h3' h4' h5' => ?_)
    · skip
      omega
    · skip
      obtain ⟨i', k', h1', h2', h3', h4', h5'⟩ := e5'
      have t_h1' := tI h1' (by omega)
      have t_h3' := tI h3' (by omega)
      obtain rfl : i = i' := by omega
      obtain rfl : k = k' := by omega
      exact absurd h5 h5'
    · skip
      have t_h1' := tI h1' (by omega)
      have t_h3' := tI h3' (by omega)
      obtain rfl : i = i' := by omega
      obtain rfl : k = k' := by omega
      exact pr_m (fun _ => R.rd (c := 1) (by omega) (by decide)) (R.nx hq)
set_option maxHeartbeats 4000000 in
theorem p_law {v a b c : Int32} (R : Rel2 m m ln N q) (hq : q < 512) : Pair xs 69 138 0 0 [.int v, .int a, .int b, .int c] True m ln N q := by
  obtain ⟨n, hn, hd, _⟩ := R.n
  refine x_law (d := 1296) R.W R.L R.ix R.iy (fun e1 => pr_x ?_) (fun h1 m2 hF => pr_x ?_) (fun h1 m2 hF => pr_x ?_)
  · skip
    have RI : Rel2 m (erm m 1) ln N q := R.e1 1
    refine m_law (d := 487) RI.X0 RI.X1 (fun e1' => ?_) (fun h1' m2' hF' => ?_) (fun h1' m2' hF' => ?_)
    · skip
      exact pr_m (fun _ => rfl) (R.ee hq 1)
    · skip
      have t_h1' := tI h1' (by omega)
      omega
    · skip
      have t_h1' := tI h1' (by omega)
      omega
  · skip
    have t_h1 := tI h1 (by omega)
    have RI : Rel2 m m2 ln N q := R.fr SmX.rf hF.sm
    refine m_law (d := 487) RI.X0 RI.X1 (fun e1' => ?_) (fun h1' m2' hF' => ?_) (fun h1' m2' hF' => ?_)
    · skip
      omega
    · skip
      have t_h1' := tI h1' (by omega)
      exact pr_m (fun _ => by rw [RI.lk]) ((R.fr (hF.sx.tr hF'.sx) (hF.sm.tr hF'.sm)).nx hq)
    · skip
      have t_h1' := tI h1' (by omega)
      omega
  · skip
    have t_h1 := tI h1 (by omega)
    have RI : Rel2 m m2 ln N q := R.fr SmX.rf hF.sm
    refine m_law (d := 487) RI.X0 RI.X1 (fun e1' => ?_) (fun h1' m2' hF' => ?_) (fun h1' m2' hF' => ?_)
    · skip
      omega
    · skip
      have t_h1' := tI h1' (by omega)
      omega
    · skip
      have t_h1' := tI h1' (by omega)
      exact pr_m (fun _ => by rw [RI.bl]) ((R.fr (hF.sx.tr hF'.sx) (hF.sm.tr hF'.sm)).nx hq)
set_option maxHeartbeats 4000000 in
theorem p_next (R : Rel2 m m ln N q) (hq : q < 512) : Pair xs 73 151 0 0 [] True m ln N q := by
  obtain ⟨n, hn, hd, _⟩ := R.n
  refine x_next (d := 1293) R.W R.L R.ix (fun m2 g1 g2 => pr_x ?_)
  · skip
    have RI : Rel2 m m2 ln N q := R.fr SmX.rf (nx_m g1)
    refine m_next (d := 484) RI.X0 RI.WY (fun m2' hF' => ?_)
    · skip
      exact pr_m (fun _ => by rw [RI.lk, setF_7 RI.E7 R.W]) ((R.fr ((nx_x g1 g2).tr hF'.sx) ((nx_m g1).tr hF'.sm)).nx hq)
set_option maxHeartbeats 4000000 in
theorem p_then {v a b : Int32} (R : Rel2 m m ln N q) (hq : q < 512) : Pair xs 75 152 0 0 [.int v, .int a, .int b] True m ln N q := by
  obtain ⟨n, hn, hd, _⟩ := R.n
  refine x_then (d := 1292) (n := n) hd hn R.h01 R.W R.L R.ix R.iy (fun e1 => pr_x ?_) (fun z i k h1 h2 h3 h4 h5 h6 m2 hF => pr_x ?_)
  · skip
    have RI : Rel2 m (erm m 1) ln N q := R.e1 1
    refine m_then (d := 482) (n := n) (RI.n2 hd) hn RI.X0 RI.X1 RI.WY (fun e1' => ?_) (fun z' i' k' h1' h2' h3' h4' h5' h6' m2' hF' => ?_)
    · skip
      exact pr_m (fun _ => rfl) (R.ee hq 1)
    · skip
      have t_h1' := tI h1' (by omega)
      have t_h3' := tI h3' (by omega)
      have t_h5' := tI h5' (by omega)
      omega
  · skip
    have t_h1 := tI h1 (by omega)
    have t_h3 := tI h3 (by omega)
    have t_h5 := tI h5 (by omega)
    have RI : Rel2 m m2 ln N q := R.fr SmX.rf hF.sm
    refine m_then (d := 482) (n := n) (RI.n2 hd) hn RI.X0 RI.X1 RI.WY (fun e1' => ?_) (fun z' i' k' h1' h2' h3' h4' h5' h6' m2' hF' => ?_)
    · skip
      omega
    · skip
      have t_h1' := tI h1' (by omega)
      have t_h3' := tI h3' (by omega)
      have t_h5' := tI h5' (by omega)
      obtain rfl : z = z' := by omega
      obtain rfl : i = i' := by omega
      obtain rfl : k = k' := by omega
      exact pr_m (fun _ => by rw [RI.lk, RI.bl]; exact st7 RI.E7 R.W z (what_b k).1 (what_b k).2 (by omega)) ((R.fr (hF.sx.tr hF'.sx) (hF.sm.tr hF'.sm)).nx hq)
set_option maxHeartbeats 4000000 in
theorem p_first {a : Int32} (R : Rel2 m m ln N q) (hq : q < 512) : Pair xs 76 153 0 0 [.int a] True m ln N q := by
  obtain ⟨n, hn, hd, _⟩ := R.n
  refine x_first (d := 1292) (n := n) hd hn R.h01 R.W R.L R.ix R.iy (fun e1 => pr_x ?_) (fun i h1 h2 h3 m2 hF => pr_x ?_) (fun i h1 h2 h3 m2 hF => pr_x ?_)
  · skip
    have RI : Rel2 m (erm m 1) ln N q := R.e1 1
    refine m_first (d := 482) (n := n) (RI.n2 hd) hn RI.X0 RI.X1 RI.WY (fun e1' => ?_) (fun i' h1' h2' h3' m2' hF' => ?_) (fun i' h1' h2' h3' m2' hF' => ?_)
    · skip
      exact pr_m (fun _ => rfl) (R.ee hq 1)
    · skip
      have t_h1' := tI h1' (by omega)
      omega
    · skip
      have t_h1' := tI h1' (by omega)
      omega
  · skip
    have t_h1 := tI h1 (by omega)
    have RI : Rel2 m (erm m2 2) ln N q := R.fr SmX.rf (hF.sm.tr smx_er)
    refine m_first (d := 482) (n := n) (RI.n2 hd) hn RI.X0 RI.X1 RI.WY (fun e1' => ?_) (fun i' h1' h2' h3' m2' hF' => ?_) (fun i' h1' h2' h3' m2' hF' => ?_)
    · skip
      omega
    · skip
      have t_h1' := tI h1' (by omega)
      obtain rfl : i = i' := by omega
      exact pr_m (fun _ => rfl) (R.er2 hq 2 hF.sx hF.sm hF'.sx (smx_er.tr hF'.sm))
    · skip
      have t_h1' := tI h1' (by omega)
      obtain rfl : i = i' := by omega
      have cv : firstF (rkF ((erm m2 2) 58)) (rbF ((erm m2 2) 58)) (vr ((erm m2 2) 58)) i 60 1 = firstF (lkF m ln (m 1 11)) (blF m ln (m 1 12)) (vw m 0) i 60 1 := by
        rw [RI.lk, RI.bl]
        exact firstF_7 RI.E7 R.W (by omega) 60 1
      exact absurd (cv.trans h3) h3'
  · skip
    have t_h1 := tI h1 (by omega)
    have RI : Rel2 m m2 ln N q := R.fr SmX.rf hF.sm
    refine m_first (d := 482) (n := n) (RI.n2 hd) hn RI.X0 RI.X1 RI.WY (fun e1' => ?_) (fun i' h1' h2' h3' m2' hF' => ?_) (fun i' h1' h2' h3' m2' hF' => ?_)
    · skip
      omega
    · skip
      have t_h1' := tI h1' (by omega)
      obtain rfl : i = i' := by omega
      have cv : firstF (rkF (m2 58)) (rbF (m2 58)) (vr (m2 58)) i 60 1 = firstF (lkF m ln (m 1 11)) (blF m ln (m 1 12)) (vw m 0) i 60 1 := by
        rw [RI.lk, RI.bl]
        exact firstF_7 RI.E7 R.W (by omega) 60 1
      exact absurd (cv.symm.trans h3') h3
    · skip
      have t_h1' := tI h1' (by omega)
      obtain rfl : i = i' := by omega
      have cv : firstF (rkF (m2 58)) (rbF (m2 58)) (vr (m2 58)) i 60 1 = firstF (lkF m ln (m 1 11)) (blF m ln (m 1 12)) (vw m 0) i 60 1 := by
        rw [RI.lk, RI.bl]
        exact firstF_7 RI.E7 R.W (by omega) 60 1
      exact pr_m (fun _ => by rw [cv]) ((R.fr (hF.sx.tr hF'.sx) (hF.sm.tr hF'.sm)).nx hq)
set_option maxHeartbeats 4000000 in
theorem p_never (R : Rel2 m m ln N q) (hq : q < 512) : Pair xs 77 156 0 0 [] True m ln N q := by
  obtain ⟨n, hn, hd, _⟩ := R.n
  refine x_never (d := 1292) (n := n) hd hn R.h01 R.W R.L R.ix R.iy (fun m2 hF => pr_x ?_)
  · skip
    have RI : Rel2 m m2 ln N q := R.fr SmX.rf hF.sm
    refine m_never (d := 481) (n := n) (RI.n2 hd) hn RI.X0 RI.X1 RI.WY (fun m2' hF' => ?_)
    · skip
      exact pr_m (fun _ => congrArg nI (bitsF_c n (fun i hi => by rw [RI.lk, RI.bl, moreN_7 RI.E7 R.W 60 (by omega)]))) ((R.fr (hF.sx.tr hF'.sx) (hF.sm.tr hF'.sm)).nx hq)
set_option maxHeartbeats 4000000 in
theorem p_sham {a v : Int32} (R : Rel2 m m ln N q) (hq : q < 512) : Pair xs 78 158 0 0 [.int a, .int v] True m ln N q := by
  obtain ⟨n, hn, hd, _⟩ := R.n
  refine x_sham (d := 1292) (n := n) hd hn R.h01 R.W R.L R.ix R.iy (fun e1 => pr_x ?_) (fun i k h1 h2 h3 h4 h5 h6 m2 hF => pr_x ?_) (fun i k s h1 h2 h3 h4 h5 h6 m2 hF => pr_x ?_)
  · skip
    have RI : Rel2 m (erm m 1) ln N q := R.e1 1
    refine m_sham (d := 480) (n := n) (RI.n2 hd) hn RI.X0 RI.X1 RI.WY (fun e1' => ?_) (fun i' k' h1' h2' h3' h4' h5' h6' m2' hF' => ?_) (fun i' k' s' h1' h2' h3' h4' h5' h6' m2' hF' => ?_)
    · skip
      exact pr_m (fun _ => rfl) (R.ee hq 1)
    · skip
      have t_h1' := tI h1' (by omega)
      have t_h3' := tI h3' (by omega)
      omega
    · skip
      have t_h1' := tI h1' (by omega)
      have t_h3' := tI h3' (by omega)
      omega
  · skip
    have t_h1 := tI h1 (by omega)
    have t_h3 := tI h3 (by omega)
    have RI : Rel2 m (erm m2 2) ln N q := R.fr SmX.rf (hF.sm.tr smx_er)
    refine m_sham (d := 480) (n := n) (RI.n2 hd) hn RI.X0 RI.X1 RI.WY (fun e1' => ?_) (fun i' k' h1' h2' h3' h4' h5' h6' m2' hF' => ?_) (fun i' k' s' h1' h2' h3' h4' h5' h6' m2' hF' => ?_)
    · skip
      omega
    · skip
      have t_h1' := tI h1' (by omega)
      have t_h3' := tI h3' (by omega)
      obtain rfl : i = i' := by omega
      obtain rfl : k = k' := by omega
      exact pr_m (fun _ => rfl) (R.er2 hq 2 hF.sx hF.sm hF'.sx (smx_er.tr hF'.sm))
    · skip
      have t_h1' := tI h1' (by omega)
      have t_h3' := tI h3' (by omega)
      obtain rfl : i = i' := by omega
      obtain rfl : k = k' := by omega
      have cv : leastF (fun s => moreN (rkF ((erm m2 2) 58)) (rbF ((erm m2 2) 58)) (upm (vr ((erm m2 2) 58)) 5 i (nI s)) k i) 10 0 = leastF (fun s => moreN (lkF m ln (m 1 11)) (blF m ln (m 1 12)) (upm (vw m 0) 5 i (nI s)) k i) 10 0 := by
        rw [RI.lk, RI.bl]
        exact leastF_r 10 0 (fun s _ hs => moreN_7 (RI.E7.up 5 i _) (WF_sham R.W (leI_lit (by omega))) k (by omega))
      rw [cv, h6] at h6'
      cases h6'
  · skip
    have t_h1 := tI h1 (by omega)
    have t_h3 := tI h3 (by omega)
    have RI : Rel2 m m2 ln N q := R.fr SmX.rf hF.sm
    refine m_sham (d := 480) (n := n) (RI.n2 hd) hn RI.X0 RI.X1 RI.WY (fun e1' => ?_) (fun i' k' h1' h2' h3' h4' h5' h6' m2' hF' => ?_) (fun i' k' s' h1' h2' h3' h4' h5' h6' m2' hF' => ?_)
    · skip
      omega
    · skip
      have t_h1' := tI h1' (by omega)
      have t_h3' := tI h3' (by omega)
      obtain rfl : i = i' := by omega
      obtain rfl : k = k' := by omega
      have cv : leastF (fun s => moreN (rkF (m2 58)) (rbF (m2 58)) (upm (vr (m2 58)) 5 i (nI s)) k i) 10 0 = leastF (fun s => moreN (lkF m ln (m 1 11)) (blF m ln (m 1 12)) (upm (vw m 0) 5 i (nI s)) k i) 10 0 := by
        rw [RI.lk, RI.bl]
        exact leastF_r 10 0 (fun s _ hs => moreN_7 (RI.E7.up 5 i _) (WF_sham R.W (leI_lit (by omega))) k (by omega))
      rw [cv, h6] at h6'
      cases h6'
    · skip
      have t_h1' := tI h1' (by omega)
      have t_h3' := tI h3' (by omega)
      obtain rfl : i = i' := by omega
      obtain rfl : k = k' := by omega
      have cv : leastF (fun s => moreN (rkF (m2 58)) (rbF (m2 58)) (upm (vr (m2 58)) 5 i (nI s)) k i) 10 0 = leastF (fun s => moreN (lkF m ln (m 1 11)) (blF m ln (m 1 12)) (upm (vw m 0) 5 i (nI s)) k i) 10 0 := by
        rw [RI.lk, RI.bl]
        exact leastF_r 10 0 (fun s _ hs => moreN_7 (RI.E7.up 5 i _) (WF_sham R.W (leI_lit (by omega))) k (by omega))
      rw [cv, h6] at h6'
      have es := Option.some.inj h6'
      exact pr_m (fun _ => by rw [es]) ((R.fr (hF.sx.tr hF'.sx) (hF.sm.tr hF'.sm)).nx hq)
set_option maxHeartbeats 4000000 in
theorem p_alike {a v : Int32} (R : Rel2 m m ln N q) (hq : q < 512) : Pair xs 80 159 0 0 [.int a, .int v] True m ln N q := by
  obtain ⟨n, hn, hd, _⟩ := R.n
  have p2n : 2 ^ n ≤ 2 ^ 8 := Nat.pow_le_pow_right (by decide) hn
  have p28 : 2 ^ 8 = 256 := rfl
  refine x_alike (d := 1292) (n := n) hd hn R.h01 R.W R.L R.ix R.iy (fun e1 => pr_x ?_) (fun i k h1 h2 h3 h4 h5 h6 m2 hF => pr_x ?_) (fun i k s h1 h2 h3 h4 h5 h6 m2 hF => pr_x ?_)
  · skip
    have RI : Rel2 m (erm m 1) ln N q := R.e1 1
    refine m_alike (d := 480) (n := n) (RI.n2 hd) hn RI.X0 RI.X1 RI.WY (fun e1' => ?_) (fun i' k' h1' h2' h3' h4' h5' h6' m2' hF' => ?_) (fun i' k' s' h1' h2' h3' h4' h5' h6' m2' hF' => ?_)
    · skip
      exact pr_m (fun _ => rfl) (R.ee hq 1)
    · skip
      have t_h1' := tI h1' (by omega)
      have t_h3' := tI h3' (by omega)
      omega
    · skip
      have t_h1' := tI h1' (by omega)
      have t_h3' := tI h3' (by omega)
      omega
  · skip
    have t_h1 := tI h1 (by omega)
    have t_h3 := tI h3 (by omega)
    have RI : Rel2 m (erm m2 2) ln N q := R.fr SmX.rf (hF.sm.tr smx_er)
    refine m_alike (d := 480) (n := n) (RI.n2 hd) hn RI.X0 RI.X1 RI.WY (fun e1' => ?_) (fun i' k' h1' h2' h3' h4' h5' h6' m2' hF' => ?_) (fun i' k' s' h1' h2' h3' h4' h5' h6' m2' hF' => ?_)
    · skip
      omega
    · skip
      have t_h1' := tI h1' (by omega)
      have t_h3' := tI h3' (by omega)
      obtain rfl : i = i' := by omega
      obtain rfl : k = k' := by omega
      exact pr_m (fun _ => rfl) (R.er2 hq 2 hF.sx hF.sm hF'.sx (smx_er.tr hF'.sm))
    · skip
      have t_h1' := tI h1' (by omega)
      have t_h3' := tI h3' (by omega)
      obtain rfl : i = i' := by omega
      obtain rfl : k = k' := by omega
      have cv : leastF (fun s => allF (fun w => !(Nat.testBit i w) || moreN (rkF ((erm m2 2) 58)) (rbF ((erm m2 2) 58)) (shamX (vr ((erm m2 2) 58)) i (nI s)) k w) n) 10 0 = leastF (fun s => allF (fun w => !(Nat.testBit i w) || moreN (lkF m ln (m 1 11)) (blF m ln (m 1 12)) (shamX (vw m 0) i (nI s)) k w) n) 10 0 := by
        rw [RI.lk, RI.bl]
        exact leastF_r 10 0 (fun s _ hs => allF_c n (fun w hw => by rw [moreN_7 (shamX_7 RI.E7 i _) (WF_shamX R.W (leI_lit (by omega))) k (by omega)]))
      rw [cv, h6] at h6'
      cases h6'
  · skip
    have t_h1 := tI h1 (by omega)
    have t_h3 := tI h3 (by omega)
    have RI : Rel2 m m2 ln N q := R.fr SmX.rf hF.sm
    refine m_alike (d := 480) (n := n) (RI.n2 hd) hn RI.X0 RI.X1 RI.WY (fun e1' => ?_) (fun i' k' h1' h2' h3' h4' h5' h6' m2' hF' => ?_) (fun i' k' s' h1' h2' h3' h4' h5' h6' m2' hF' => ?_)
    · skip
      omega
    · skip
      have t_h1' := tI h1' (by omega)
      have t_h3' := tI h3' (by omega)
      obtain rfl : i = i' := by omega
      obtain rfl : k = k' := by omega
      have cv : leastF (fun s => allF (fun w => !(Nat.testBit i w) || moreN (rkF (m2 58)) (rbF (m2 58)) (shamX (vr (m2 58)) i (nI s)) k w) n) 10 0 = leastF (fun s => allF (fun w => !(Nat.testBit i w) || moreN (lkF m ln (m 1 11)) (blF m ln (m 1 12)) (shamX (vw m 0) i (nI s)) k w) n) 10 0 := by
        rw [RI.lk, RI.bl]
        exact leastF_r 10 0 (fun s _ hs => allF_c n (fun w hw => by rw [moreN_7 (shamX_7 RI.E7 i _) (WF_shamX R.W (leI_lit (by omega))) k (by omega)]))
      rw [cv, h6] at h6'
      cases h6'
    · skip
      have t_h1' := tI h1' (by omega)
      have t_h3' := tI h3' (by omega)
      obtain rfl : i = i' := by omega
      obtain rfl : k = k' := by omega
      have cv : leastF (fun s => allF (fun w => !(Nat.testBit i w) || moreN (rkF (m2 58)) (rbF (m2 58)) (shamX (vr (m2 58)) i (nI s)) k w) n) 10 0 = leastF (fun s => allF (fun w => !(Nat.testBit i w) || moreN (lkF m ln (m 1 11)) (blF m ln (m 1 12)) (shamX (vw m 0) i (nI s)) k w) n) 10 0 := by
        rw [RI.lk, RI.bl]
        exact leastF_r 10 0 (fun s _ hs => allF_c n (fun w hw => by rw [moreN_7 (shamX_7 RI.E7 i _) (WF_shamX R.W (leI_lit (by omega))) k (by omega)]))
      rw [cv, h6] at h6'
      have es := Option.some.inj h6'
      exact pr_m (fun _ => by rw [es]) ((R.fr (hF.sx.tr hF'.sx) (hF.sm.tr hF'.sm)).nx hq)
set_option maxHeartbeats 4000000 in
theorem p_whose {a b : Int32} (R : Rel2 m m ln N q) (hq : q < 512) : Pair xs 82 162 0 0 [.int a, .int b] False m ln N q := by
  obtain ⟨n, hn, hd, _⟩ := R.n
  refine x_whose (d := 1291) (n := n) (B := shB m) (Ln := shL m) hd hn R.h01 R.W R.L R.ix R.iy R.sx (fun e1 => pr_x ?_) (fun e2 => pr_x ?_) (fun s k h1 h2 h3 h4 h5 x m2 hF => pr_x ?_)
  · skip
    have RI : Rel2 m (erm m 1) ln N q := R.e1 1
    refine m_whose (d := 480) (n := n) (B := shB m) (Ln := shL m) (RI.n2 hd) hn RI.X0 RI.X1 RI.WY RI.sy (fun e1' => ?_) (fun e2' => ?_) (fun s' k' h1' h2' h3' h4' h5' x' m2' hF' => ?_)
    · skip
      exact pr_m (fun _ => rfl) (R.ee hq 1)
    · skip
      obtain ⟨s', k', h1', h2', h3', h4', h5'⟩ := e2'
      have t_h1' := tI h1' (by omega)
      have t_h3' := tI h3' (by omega)
      omega
    · skip
      have t_h1' := tI h1' (by omega)
      have t_h3' := tI h3' (by omega)
      omega
  · skip
    obtain ⟨s, k, h1, h2, h3, h4, h5⟩ := e2
    have t_h1 := tI h1 (by omega)
    have t_h3 := tI h3 (by omega)
    have RI : Rel2 m (erm m 2) ln N q := R.e1 2
    refine m_whose (d := 480) (n := n) (B := shB m) (Ln := shL m) (RI.n2 hd) hn RI.X0 RI.X1 RI.WY RI.sy (fun e1' => ?_) (fun e2' => ?_) (fun s' k' h1' h2' h3' h4' h5' x' m2' hF' => ?_)
    · skip
      omega
    · skip
      obtain ⟨s', k', h1', h2', h3', h4', h5'⟩ := e2'
      have t_h1' := tI h1' (by omega)
      have t_h3' := tI h3' (by omega)
      obtain rfl : s = s' := by omega
      obtain rfl : k = k' := by omega
      exact pr_m (fun _ => rfl) (R.ee hq 2)
    · skip
      have t_h1' := tI h1' (by omega)
      have t_h3' := tI h3' (by omega)
      obtain rfl : s = s' := by omega
      obtain rfl : k = k' := by omega
      exact absurd h5 h5'
  · skip
    have t_h1 := tI h1 (by omega)
    have t_h3 := tI h3 (by omega)
    have RI : Rel2 m m2 ln N q := R.fr SmX.rf hF.sm
    refine m_whose (d := 480) (n := n) (B := shB m) (Ln := shL m) (RI.n2 hd) hn RI.X0 RI.X1 RI.WY RI.sy (fun e1' => ?_) (fun e2' => ?_) (fun s' k' h1' h2' h3' h4' h5' x' m2' hF' => ?_)
    · skip
      omega
    · skip
      obtain ⟨s', k', h1', h2', h3', h4', h5'⟩ := e2'
      have t_h1' := tI h1' (by omega)
      have t_h3' := tI h3' (by omega)
      obtain rfl : s = s' := by omega
      obtain rfl : k = k' := by omega
      exact absurd h5' h5
    · skip
      have t_h1' := tI h1' (by omega)
      have t_h3' := tI h3' (by omega)
      obtain rfl : s = s' := by omega
      obtain rfl : k = k' := by omega
      exact pr_m (fun h => h.elim) ((R.fr (hF.sx.tr hF'.sx) (hF.sm.tr hF'.sm)).nx hq)
set_option maxHeartbeats 4000000 in
theorem p_rank {a : Int32} (R : Rel2 m m ln N q) (hq : q < 512) : Pair xs 83 163 0 0 [.int a] True m ln N q := by
  obtain ⟨n, hn, hd, _⟩ := R.n
  refine x_rank (d := 1294) (n := n) hd hn R.W R.L R.ix (fun e1 => pr_x ?_) (fun i h1 h2 h3 => pr_x ?_) (fun i h1 h2 h3 m2 g1 g2 => pr_x ?_)
  · skip
    have RI : Rel2 m (erm m 1) ln N q := R.e1 1
    refine m_rank (d := 485) (n := n) (RI.n2 hd) hn RI.X0 RI.WY (fun e1' => ?_) (fun i' h1' h2' h3' => ?_) (fun i' h1' h2' h3' m2' hF' => ?_)
    · skip
      exact pr_m (fun _ => rfl) (R.ee hq 1)
    · skip
      have t_h1' := tI h1' (by omega)
      omega
    · skip
      have t_h1' := tI h1' (by omega)
      omega
  · skip
    have t_h1 := tI h1 (by omega)
    have RI : Rel2 m (erm m 3) ln N q := R.e1 3
    refine m_rank (d := 485) (n := n) (RI.n2 hd) hn RI.X0 RI.WY (fun e1' => ?_) (fun i' h1' h2' h3' => ?_) (fun i' h1' h2' h3' m2' hF' => ?_)
    · skip
      omega
    · skip
      have t_h1' := tI h1' (by omega)
      obtain rfl : i = i' := by omega
      exact pr_m (fun _ => rfl) (R.ee hq 3)
    · skip
      have t_h1' := tI h1' (by omega)
      obtain rfl : i = i' := by omega
      rw [RI.rd (i := i) (c := 5) (by omega) (by decide)] at h3'
      rcases R.h01 i (by omega) with z | z
      · exact absurd (by rw [z]; rfl) h3
      · exact absurd (show (m 8 i).toInt = 1 by rw [z]; rfl) h3'
  · skip
    have t_h1 := tI h1 (by omega)
    have RI : Rel2 m m2 ln N q := R.fr SmX.rf (nx_m g1)
    refine m_rank (d := 485) (n := n) (RI.n2 hd) hn RI.X0 RI.WY (fun e1' => ?_) (fun i' h1' h2' h3' => ?_) (fun i' h1' h2' h3' m2' hF' => ?_)
    · skip
      omega
    · skip
      have t_h1' := tI h1' (by omega)
      obtain rfl : i = i' := by omega
      rw [RI.rd (i := i) (c := 5) (by omega) (by decide)] at h3'
      have h4 : (m 8 i).toInt = 1 := h3'
      omega
    · skip
      have t_h1' := tI h1' (by omega)
      obtain rfl : i = i' := by omega
      exact pr_m (fun _ => by rw [RI.lk, aheadF_7 RI.E7 hn (by omega)]) ((R.fr ((nx_x g1 g2).tr hF'.sx) ((nx_m g1).tr hF'.sm)).nx hq)
set_option maxHeartbeats 4000000 in
theorem p_harm {a v : Int32} (R : Rel2 m m ln N q) (hq : q < 512) : Pair xs 84 164 0 0 [.int a, .int v] True m ln N q := by
  obtain ⟨n, hn, hd, _⟩ := R.n
  refine x_harm (d := 1292) (n := n) hd hn R.h01 R.W R.L R.ix R.iy (fun e1 => pr_x ?_) (fun i k h1 h2 h3 h4 m2 hF => pr_x ?_)
  · skip
    have RI : Rel2 m (erm m 1) ln N q := R.e1 1
    refine m_harm (d := 481) (n := n) (RI.n2 hd) hn RI.X0 RI.X1 RI.WY (fun e1' => ?_) (fun i' k' h1' h2' h3' h4' m2' hF' => ?_)
    · skip
      exact pr_m (fun _ => rfl) (R.ee hq 1)
    · skip
      have t_h1' := tI h1' (by omega)
      have t_h3' := tI h3' (by omega)
      omega
  · skip
    have t_h1 := tI h1 (by omega)
    have t_h3 := tI h3 (by omega)
    have RI : Rel2 m m2 ln N q := R.fr SmX.rf hF.sm
    refine m_harm (d := 481) (n := n) (RI.n2 hd) hn RI.X0 RI.X1 RI.WY (fun e1' => ?_) (fun i' k' h1' h2' h3' h4' m2' hF' => ?_)
    · skip
      omega
    · skip
      have t_h1' := tI h1' (by omega)
      have t_h3' := tI h3' (by omega)
      obtain rfl : i = i' := by omega
      obtain rfl : k = k' := by omega
      exact pr_m (fun _ => congrArg nI (bitsF_c n (fun o ho => by rw [RI.lk, RI.bl, st7 RI.E7 R.W k (by decide) (by decide) (by omega), st7 (RI.E7.up 5 i 0) (WF_sham R.W ⟨0, by decide, rfl⟩) k (by decide) (by decide) (by omega)]))) ((R.fr (hF.sx.tr hF'.sx) (hF.sm.tr hF'.sm)).nx hq)
set_option maxHeartbeats 4000000 in
theorem p_cramps {a v : Int32} (R : Rel2 m m ln N q) (hq : q < 512) : Pair xs 85 165 0 0 [.int a, .int v] True m ln N q := by
  obtain ⟨n, hn, hd, _⟩ := R.n
  refine x_cramps (d := 1292) (n := n) hd hn R.h01 R.W R.L R.ix R.iy (fun e1 => pr_x ?_) (fun i k h1 h2 h3 h4 m2 hF => pr_x ?_)
  · skip
    have RI : Rel2 m (erm m 1) ln N q := R.e1 1
    refine m_cramps (d := 481) (n := n) (RI.n2 hd) hn RI.X0 RI.X1 RI.WY (fun e1' => ?_) (fun i' k' h1' h2' h3' h4' m2' hF' => ?_)
    · skip
      exact pr_m (fun _ => rfl) (R.ee hq 1)
    · skip
      have t_h1' := tI h1' (by omega)
      have t_h3' := tI h3' (by omega)
      omega
  · skip
    have t_h1 := tI h1 (by omega)
    have t_h3 := tI h3 (by omega)
    have RI : Rel2 m m2 ln N q := R.fr SmX.rf hF.sm
    refine m_cramps (d := 481) (n := n) (RI.n2 hd) hn RI.X0 RI.X1 RI.WY (fun e1' => ?_) (fun i' k' h1' h2' h3' h4' m2' hF' => ?_)
    · skip
      omega
    · skip
      have t_h1' := tI h1' (by omega)
      have t_h3' := tI h3' (by omega)
      obtain rfl : i = i' := by omega
      obtain rfl : k = k' := by omega
      exact pr_m (fun _ => congrArg nI (cntF_c k (fun o ho => by rw [RI.lk, RI.bl, st7 RI.E7 R.W (o + 1) (by decide) (by decide) (by omega)]))) ((R.fr (hF.sx.tr hF'.sx) (hF.sm.tr hF'.sm)).nx hq)
set_option maxHeartbeats 4000000 in
theorem p_enough {v b : Int32} (R : Rel2 m m ln N q) (hq : q < 512) : Pair xs 86 166 0 0 [.int v, .int b] True m ln N q := by
  obtain ⟨n, hn, hd, _⟩ := R.n
  refine x_enough (d := 1292) (n := n) hd hn R.h01 R.W R.L R.ix R.iy (fun e1 => pr_x ?_) (fun k h1 h2 h3 h4 h5 m2 hF => pr_x ?_) (fun k w h1 h2 h3 h4 h5 m2 hF => pr_x ?_)
  · skip
    have RI : Rel2 m (erm m 1) ln N q := R.e1 1
    refine m_enough (d := 481) (n := n) (RI.n2 hd) hn RI.X0 RI.X1 RI.WY (fun e1' => ?_) (fun k' h1' h2' h3' h4' h5' m2' hF' => ?_) (fun k' w' h1' h2' h3' h4' h5' m2' hF' => ?_)
    · skip
      exact pr_m (fun _ => rfl) (R.ee hq 1)
    · skip
      have t_h1' := tI h1' (by omega)
      omega
    · skip
      have t_h1' := tI h1' (by omega)
      omega
  · skip
    have t_h1 := tI h1 (by omega)
    have RI : Rel2 m (erm m2 2) ln N q := R.fr SmX.rf (hF.sm.tr smx_er)
    refine m_enough (d := 481) (n := n) (RI.n2 hd) hn RI.X0 RI.X1 RI.WY (fun e1' => ?_) (fun k' h1' h2' h3' h4' h5' m2' hF' => ?_) (fun k' w' h1' h2' h3' h4' h5' m2' hF' => ?_)
    · skip
      omega
    · skip
      have t_h1' := tI h1' (by omega)
      obtain rfl : k = k' := by omega
      exact pr_m (fun _ => rfl) (R.er2 hq 2 hF.sx hF.sm hF'.sx (smx_er.tr hF'.sm))
    · skip
      have t_h1' := tI h1' (by omega)
      obtain rfl : k = k' := by omega
      have cv : leastF (fun w => allF (fun i => decide ((stepN (rkF ((erm m2 2) 58)) (rbF ((erm m2 2) 58)) (upm (vr ((erm m2 2) 58)) 0 8 (nI w)) k 4 i).toInt < v.toInt)) n) 4 1 = leastF (fun w => allF (fun i => decide ((stepN (lkF m ln (m 1 11)) (blF m ln (m 1 12)) (upm (vw m 0) 0 8 (nI w)) k 4 i).toInt < v.toInt)) n) 4 1 := by
        rw [RI.lk, RI.bl]
        exact leastF_r 4 1 (fun w hw1 hw2 => allF_c n (fun i hi => by rw [st7 (RI.E7.up 0 8 _) (WF_w R.W (by omega) (by omega)) k (by decide) (by decide) (by omega)]))
      rw [cv, h5] at h5'
      cases h5'
  · skip
    have t_h1 := tI h1 (by omega)
    have RI : Rel2 m m2 ln N q := R.fr SmX.rf hF.sm
    refine m_enough (d := 481) (n := n) (RI.n2 hd) hn RI.X0 RI.X1 RI.WY (fun e1' => ?_) (fun k' h1' h2' h3' h4' h5' m2' hF' => ?_) (fun k' w' h1' h2' h3' h4' h5' m2' hF' => ?_)
    · skip
      omega
    · skip
      have t_h1' := tI h1' (by omega)
      obtain rfl : k = k' := by omega
      have cv : leastF (fun w => allF (fun i => decide ((stepN (rkF (m2 58)) (rbF (m2 58)) (upm (vr (m2 58)) 0 8 (nI w)) k 4 i).toInt < v.toInt)) n) 4 1 = leastF (fun w => allF (fun i => decide ((stepN (lkF m ln (m 1 11)) (blF m ln (m 1 12)) (upm (vw m 0) 0 8 (nI w)) k 4 i).toInt < v.toInt)) n) 4 1 := by
        rw [RI.lk, RI.bl]
        exact leastF_r 4 1 (fun w hw1 hw2 => allF_c n (fun i hi => by rw [st7 (RI.E7.up 0 8 _) (WF_w R.W (by omega) (by omega)) k (by decide) (by decide) (by omega)]))
      rw [cv, h5] at h5'
      cases h5'
    · skip
      have t_h1' := tI h1' (by omega)
      obtain rfl : k = k' := by omega
      have cv : leastF (fun w => allF (fun i => decide ((stepN (rkF (m2 58)) (rbF (m2 58)) (upm (vr (m2 58)) 0 8 (nI w)) k 4 i).toInt < v.toInt)) n) 4 1 = leastF (fun w => allF (fun i => decide ((stepN (lkF m ln (m 1 11)) (blF m ln (m 1 12)) (upm (vw m 0) 0 8 (nI w)) k 4 i).toInt < v.toInt)) n) 4 1 := by
        rw [RI.lk, RI.bl]
        exact leastF_r 4 1 (fun w hw1 hw2 => allF_c n (fun i hi => by rw [st7 (RI.E7.up 0 8 _) (WF_w R.W (by omega) (by omega)) k (by decide) (by decide) (by omega)]))
      rw [cv, h5] at h5'
      have es := Option.some.inj h5'
      exact pr_m (fun _ => by rw [es]) ((R.fr (hF.sx.tr hF'.sx) (hF.sm.tr hF'.sm)).nx hq)
set_option maxHeartbeats 4000000 in
theorem p_meals {v : Int32} (R : Rel2 m m ln N q) (hq : q < 512) : Pair xs 87 167 0 0 [.int v] True m ln N q := by
  obtain ⟨n, hn, hd, _⟩ := R.n
  refine x_meals (d := 1292) (n := n) hd hn R.h01 R.W R.L R.ix R.iy (fun e1 => pr_x ?_) (fun z h1 h2 m2 hF => pr_x ?_)
  · skip
    have RI : Rel2 m (erm m 1) ln N q := R.e1 1
    refine m_meals (d := 482) (n := n) (RI.n2 hd) hn RI.X0 RI.X1 RI.WY (fun e1' => ?_) (fun z' h1' h2' m2' hF' => ?_)
    · skip
      exact pr_m (fun _ => rfl) (R.ee hq 1)
    · skip
      have t_h1' := tI h1' (by omega)
      omega
  · skip
    have t_h1 := tI h1 (by omega)
    have RI : Rel2 m m2 ln N q := R.fr SmX.rf hF.sm
    refine m_meals (d := 482) (n := n) (RI.n2 hd) hn RI.X0 RI.X1 RI.WY (fun e1' => ?_) (fun z' h1' h2' m2' hF' => ?_)
    · skip
      omega
    · skip
      have t_h1' := tI h1' (by omega)
      obtain rfl : z = z' := by omega
      exact pr_m (fun _ => by rw [RI.lk, RI.bl, sumN_7 RI.E7 R.W z (by decide) (by decide) hn, sum_7 RI.E7 (by decide) (by decide) hn]) ((R.fr (hF.sx.tr hF'.sx) (hF.sm.tr hF'.sm)).nx hq)
set_option maxHeartbeats 4000000 in
theorem p_odds {a v b : Int32} (R : Rel2 m m ln N q) (hq : q < 512) : Pair xs 89 169 0 0 [.int a, .int v, .int b] True m ln N q := by
  obtain ⟨n, hn, hd, _⟩ := R.n
  refine x_odds (d := 1292) (n := n) hd hn R.h01 R.W R.L R.ix R.iy (fun e1 => pr_x ?_) (fun i k h1 h2 h3 h4 h5 m2 hF => pr_x ?_) (fun i k h1 h2 h3 h4 h5 m2 hF => pr_x ?_)
  · skip
    have RI : Rel2 m (erm m 1) ln N q := R.e1 1
    refine m_odds (d := 481) (n := n) (RI.n2 hd) hn RI.X0 RI.X1 RI.WY (fun e1' => ?_) (fun i' k' h1' h2' h3' h4' h5' m2' hF' => ?_) (fun i' k' h1' h2' h3' h4' h5' m2' hF' => ?_)
    · skip
      exact pr_m (fun _ => rfl) (R.ee hq 1)
    · skip
      have t_h1' := tI h1' (by omega)
      have t_h3' := tI h3' (by omega)
      have t_h5' := tI h5' (by omega)
      omega
    · skip
      have t_h1' := tI h1' (by omega)
      have t_h3' := tI h3' (by omega)
      have t_h5' := tI h5' (by omega)
      omega
  · skip
    have t_h1 := tI h1 (by omega)
    have t_h3 := tI h3 (by omega)
    have t_h5 := tI h5 (by omega)
    have RI : Rel2 m m2 ln N q := R.fr SmX.rf hF.sm
    refine m_odds (d := 481) (n := n) (RI.n2 hd) hn RI.X0 RI.X1 RI.WY (fun e1' => ?_) (fun i' k' h1' h2' h3' h4' h5' m2' hF' => ?_) (fun i' k' h1' h2' h3' h4' h5' m2' hF' => ?_)
    · skip
      omega
    · skip
      have t_h1' := tI h1' (by omega)
      have t_h3' := tI h3' (by omega)
      have t_h5' := tI h5' (by omega)
      obtain rfl : i = i' := by omega
      obtain rfl : k = k' := by omega
      have cv : cntF (fun s => moreN (rkF (m2 58)) (rbF (m2 58)) (upm (vr (m2 58)) 5 i (nI s)) k i) 10 = cntF (fun s => moreN (lkF m ln (m 1 11)) (blF m ln (m 1 12)) (upm (vw m 0) 5 i (nI s)) k i) 10 := by
        rw [RI.lk, RI.bl]
        exact cntF_c 10 (fun s hs => moreN_7 (RI.E7.up 5 i _) (WF_sham R.W (leI_lit (by omega))) k (by omega))
      exact pr_m (fun _ => by rw [cv]) ((R.fr (hF.sx.tr hF'.sx) (hF.sm.tr hF'.sm)).nx hq)
    · skip
      have t_h1' := tI h1' (by omega)
      have t_h3' := tI h3' (by omega)
      have t_h5' := tI h5' (by omega)
      omega
  · skip
    have t_h1 := tI h1 (by omega)
    have t_h3 := tI h3 (by omega)
    have t_h5 := tI h5 (by omega)
    have RI : Rel2 m m2 ln N q := R.fr SmX.rf hF.sm
    refine m_odds (d := 481) (n := n) (RI.n2 hd) hn RI.X0 RI.X1 RI.WY (fun e1' => ?_) (fun i' k' h1' h2' h3' h4' h5' m2' hF' => ?_) (fun i' k' h1' h2' h3' h4' h5' m2' hF' => ?_)
    · skip
      omega
    · skip
      have t_h1' := tI h1' (by omega)
      have t_h3' := tI h3' (by omega)
      have t_h5' := tI h5' (by omega)
      omega
    · skip
      have t_h1' := tI h1' (by omega)
      have t_h3' := tI h3' (by omega)
      have t_h5' := tI h5' (by omega)
      obtain rfl : i = i' := by omega
      obtain rfl : k = k' := by omega
      have cv : cntF (fun s => moreN (rkF (m2 58)) (rbF (m2 58)) (upm (vr (m2 58)) 5 i (nI s)) k i) 10 = cntF (fun s => moreN (lkF m ln (m 1 11)) (blF m ln (m 1 12)) (upm (vw m 0) 5 i (nI s)) k i) 10 := by
        rw [RI.lk, RI.bl]
        exact cntF_c 10 (fun s hs => moreN_7 (RI.E7.up 5 i _) (WF_sham R.W (leI_lit (by omega))) k (by omega))
      exact pr_m (fun _ => by rw [cv]) ((R.fr (hF.sx.tr hF'.sx) (hF.sm.tr hF'.sm)).nx hq)
set_option maxHeartbeats 4000000 in
theorem p_trace {v : Int32} (R : Rel2 m m ln N q) (hq : q < 512) : Pair xs 94 177 0 0 [.int v] True m ln N q := by
  obtain ⟨n, hn, hd, _⟩ := R.n
  obtain ⟨c, hc, v1, v2, v3⟩ := R.2.2.2.2.2.2.2
  refine x_trace (d := 1297) (b := c) v1 hc (fun e2 => pr_x ?_) (fun j h1 h2 => pr_x ?_)
  · skip
    have hmm : SmM m (erm m 2) := smx_er
    refine m_trace (d := 1297) (b := c) ((SmM.f57 (a := m) (b := (erm m 2)) hmm (Or.inr (by decide))).trans v2) hc (fun e2' => ?_) (fun j' h1' h2' => ?_)
    · skip
      exact pr_m (fun _ => rfl) (R.ee hq 2)
    · skip
      have t_h1' := tI h1' (by omega)
      omega
  · skip
    have t_h1 := tI h1 (by omega)
    have hmm : SmM m m := SmM.rf
    refine m_trace (d := 1297) (b := c) ((SmM.f57 (a := m) (b := m) hmm (Or.inr (by decide))).trans v2) hc (fun e2' => ?_) (fun j' h1' h2' => ?_)
    · skip
      omega
    · skip
      have t_h1' := tI h1' (by omega)
      obtain rfl : j = j' := by omega
      exact pr_m (fun _ => v3 j h2) (R.nx hq)
set_option maxHeartbeats 4000000 in
theorem p_count {v : Int32} (R : Rel2 m m ln N q) (hq : q < 512) : Pair xs 104 188 0 0 [.int v] True m ln N q := by
  obtain ⟨n, hn, hd, _⟩ := R.n
  refine x_count (d := 1296) (n := n) hd hn R.h01 (fun e1 => pr_x ?_) (fun k h1 h2 => pr_x ?_)
  · skip
    have RI : Rel2 m (erm m 1) ln N q := R.e1 1
    refine m_count (d := 1296) (n := n) (RI.n2 hd) hn (fun e1' => ?_) (fun k' h1' h2' => ?_)
    · skip
      exact pr_m (fun _ => rfl) (R.ee hq 1)
    · skip
      have t_h1' := tI h1' (by omega)
      omega
  · skip
    have t_h1 := tI h1 (by omega)
    have RI : Rel2 m m ln N q := R
    refine m_count (d := 1296) (n := n) (RI.n2 hd) hn (fun e1' => ?_) (fun k' h1' h2' => ?_)
    · skip
      omega
    · skip
      have t_h1' := tI h1' (by omega)
      obtain rfl : k = k' := by omega
      exact pr_m (fun _ => cnt_e R hn hd k h2) (R.nx hq)
set_option maxHeartbeats 4000000 in
theorem p_told {v : Int32} (R : Rel2 m m ln N q) (hq : q < 512) : Pair xs 105 189 0 0 [.int v] True m ln N q := by
  obtain ⟨n, hn, hd, _⟩ := R.n
  refine x_told (d := 1297)  (fun e1 => pr_x ?_) (fun j h1 h2 h3 => pr_x ?_)
  · skip
    have RI : Rel2 m (erm m 1) ln N q := R.e1 1
    refine m_told (d := 1297)  (fun e1' => ?_) (fun j' h1' h2' h3' => ?_)
    · skip
      exact pr_m (fun _ => rfl) (R.ee hq 1)
    · skip
      have t_h1' := tI h1' (by omega)
      omega
  · skip
    have t_h1 := tI h1 (by omega)
    have RI : Rel2 m m ln N q := R
    refine m_told (d := 1297)  (fun e1' => ?_) (fun j' h1' h2' h3' => ?_)
    · skip
      omega
    · skip
      have t_h1' := tI h1' (by omega)
      obtain rfl : j = j' := by omega
      exact pr_m (fun _ => R.2.2.2.2.2.2.1 j h2 h3) (R.nx hq)
set_option maxHeartbeats 4000000 in
theorem p_judge {a : Int32} (R : Rel2 m m ln N q) (hq : q < 512) : Pair xs 99 183 0 0 [.int a] True m ln N q := by
  obtain ⟨n, hn, hd, _⟩ := R.n
  refine x_judge (d := 1295) (n := n) (B := shB m) (Ln := shL m) hd hn R.W R.L R.ix R.sx (fun e1 => pr_x ?_) (fun e2 => pr_x ?_) (fun s h1 h2 h3 m2 hF => pr_x ?_)
  · skip
    have RI : Rel2 m (erm m 1) ln N q := R.e1 1
    refine m_judge (d := 486) (n := n) (B := shB m) (Ln := shL m) (RI.n2 hd) hn RI.X0 RI.WY RI.sy (fun e1' => ?_) (fun e2' => ?_) (fun s' h1' h2' h3' m2' hF' => ?_)
    · skip
      exact pr_m (fun _ => rfl) (R.ee hq 1)
    · skip
      obtain ⟨s', h1', h2', h3'⟩ := e2'
      have t_h1' := tI h1' (by omega)
      omega
    · skip
      have t_h1' := tI h1' (by omega)
      omega
  · skip
    obtain ⟨s, h1, h2, h3⟩ := e2
    have t_h1 := tI h1 (by omega)
    have RI : Rel2 m (erm m 2) ln N q := R.e1 2
    refine m_judge (d := 486) (n := n) (B := shB m) (Ln := shL m) (RI.n2 hd) hn RI.X0 RI.WY RI.sy (fun e1' => ?_) (fun e2' => ?_) (fun s' h1' h2' h3' m2' hF' => ?_)
    · skip
      omega
    · skip
      obtain ⟨s', h1', h2', h3'⟩ := e2'
      have t_h1' := tI h1' (by omega)
      obtain rfl : s = s' := by omega
      exact pr_m (fun _ => rfl) (R.ee hq 2)
    · skip
      have t_h1' := tI h1' (by omega)
      obtain rfl : s = s' := by omega
      exact absurd h3 h3'
  · skip
    have t_h1 := tI h1 (by omega)
    have RI : Rel2 m m2 ln N q := R.fr SmX.rf hF.sm
    refine m_judge (d := 486) (n := n) (B := shB m) (Ln := shL m) (RI.n2 hd) hn RI.X0 RI.WY RI.sy (fun e1' => ?_) (fun e2' => ?_) (fun s' h1' h2' h3' m2' hF' => ?_)
    · skip
      omega
    · skip
      obtain ⟨s', h1', h2', h3'⟩ := e2'
      have t_h1' := tI h1' (by omega)
      obtain rfl : s = s' := by omega
      exact absurd h3' h3
    · skip
      have t_h1' := tI h1' (by omega)
      obtain rfl : s = s' := by omega
      have cv : runF (fun z => decide (m2 65 (40 * s + z) = faceF (rkF (m2 58)) (vr (m2 58)) z)) (min (shL m s) n) 0 = runF (fun z => decide (m (49 + 2 * s) z = lowF (shB m s) (faceF (lkF m ln (m 1 11)) (vw m 0) z))) (min (shL m s) n) 0 := by
        refine runF_c _ _ (fun z _ hz => ?_)
        have hz8 : z < 8 := by omega
        have hz40 : z < 40 := by
          have := (R.sx s h2).2.1
          omega
        obtain ⟨v, e1, e2⟩ := (RI.sh s h2).2.2.2.2.2.2 z hz40
        have hb : shB m s = 8 ∨ shB m s = 16 ∨ shB m s = 32 := by
          have := (R.sx s h2).1
          omega
        have hf := face_b (v := lkF m ln (m 1 11) (vw m 0 4 z) (vw m 0 6 z) (vw m 0 0 9 - vw m 0 0 9 / 16 * 16)) R.W hz8 (held_b _)
        rw [e1, e2, RI.lk, faceF_7 RI.E7 hz8]
        exact decide_eq_decide.mpr (low_nar hb v _ hf.1 hf.2)
      exact pr_m (fun _ => by rw [cv]) ((R.fr (hF.sx.tr hF'.sx) (hF.sm.tr hF'.sm)).nx hq)
end
