/-! STEPS, in numbers -/
theorem cntF_c {p q : Nat → Bool} : ∀ n, (∀ i, i < n → p i = q i) → cntF p n = cntF q n
  | 0, _ => rfl
  | n + 1, h => by
    show cntF p n + (if p n = true then 1 else 0) = cntF q n + (if q n = true then 1 else 0)
    rw [cntF_c n (fun i hi => h i (by omega)), h n (by omega)]
theorem bitsF_c {p q : Nat → Bool} : ∀ n, (∀ i, i < n → p i = q i) → bitsF p n = bitsF q n
  | 0, _ => rfl
  | n + 1, h => by
    show bitsF p n + (if p n = true then 2 ^ n else 0) = bitsF q n + (if q n = true then 2 ^ n else 0)
    rw [bitsF_c n (fun i hi => h i (by omega)), h n (by omega)]
theorem isServed_c {F F2 G : Nat → Int32} {n i : Nat} {W : Int32} (h : ∀ o, o < n → F2 o = F o) (hi : i < n) : isServed F2 G n W i = isServed F G n W i := by
  have e : aheadF F2 G n i = aheadF F G n i := cntF_c n (fun o ho => by
    unfold isAhead
    rw [h i hi, h o ho])
  unfold isServed
  rw [e]
theorem set_f {LK : LF} {X : MW} {n : Nat} (hn : nOf X = n) : bitsF (isServed (facesX (faceF LK X) X n 8) (facesX (faceF LK X) X n 7) n (facesX (faceF LK X) X n 0 8)) n = bitsF (svF LK X) n := by
  apply bitsF_c
  intro i hi
  have e7 : facesX (faceF LK X) X n 7 = X 7 := by
    funext k
    exact facesX_8 _ X n 7 (by decide) k
  rw [e7, facesX_8 _ X n 0 (by decide) 8]
  unfold svF
  rw [hn]
  refine isServed_c (fun o ho => ?_) hi
  unfold facesX
  rw [if_pos ⟨rfl, ho⟩]
theorem hungF_le {sv : Bool} {X : MW} {i : Nat} : leI (hungF sv X i) 99 := by
  have h : ∀ v : Int32, leI (heldF v 99) 99 := fun v => by
    have e9 : (99 : Int32).toInt = 99 := rfl
    unfold heldF
    by_cases h0 : v.toInt < 0
    · rw [if_pos h0]
      exact ⟨0, by omega, rfl⟩
    · rw [if_neg h0]
      by_cases h1 : (99 : Int32).toInt < v.toInt
      · rw [if_pos h1]
        exact ⟨99, by omega, rfl⟩
      · rw [if_neg h1]
        exact leI_of (by omega) (by omega)
  unfold hungF
  split
  · exact h _
  · exact h _
theorem hadF_le {sv : Bool} {X : MW} {i : Nat} (hc : leI (X 6 i) 99) : leI (hadF sv X i) 99 := by
  have e9 : (99 : Int32).toInt = 99 := rfl
  unfold hadF
  split
  · unfold heldF
    by_cases h0 : (X 6 i + 1).toInt < 0
    · rw [if_pos h0]
      exact ⟨0, by omega, rfl⟩
    · rw [if_neg h0]
      by_cases h1 : (99 : Int32).toInt < (X 6 i + 1).toInt
      · rw [if_pos h1]
        exact ⟨99, by omega, rfl⟩
      · rw [if_neg h1]
        exact leI_of (by omega) (by omega)
  · exact hc
theorem goneF_01 (LK BL : LF) (X : MW) (i : Nat) : goneF LK BL X i = 0 ∨ goneF LK BL X i = 1 := by
  unfold goneF
  split
  · exact Or.inl rfl
  · exact Or.inr rfl
/-- where one diner's part changes nothing -/
theorem passF_o (LK BL : LF) (sv : Bool) (X : MW) (i : Nat) {j k : Nat} (h : k ≠ i ∨ (j ≠ 4 ∧ j ≠ 6 ∧ j ≠ 7)) : passF LK BL sv X i j k = X j k := by
  unfold passF ateF upm
  rw [if_neg (by omega), if_neg (by omega), if_neg (by omega)]
theorem passF_4 (LK BL : LF) (sv : Bool) (X : MW) (i : Nat) : passF LK BL sv X i 4 i = hungF sv X i := by
  unfold passF ateF upm
  rw [if_neg (by omega), if_neg (by omega), if_pos ⟨rfl, rfl⟩]
theorem passF_6 (LK BL : LF) (sv : Bool) (X : MW) (i : Nat) : passF LK BL sv X i 6 i = hadF sv X i := by
  unfold passF ateF upm
  rw [if_neg (by omega), if_pos ⟨rfl, rfl⟩]
theorem passF_7 (LK BL : LF) (sv : Bool) (X : MW) (i : Nat) : passF LK BL sv X i 7 i = goneF LK BL (ateF sv X i) i := by
  unfold passF
  exact upm_self _ _ _ _
theorem WF_pass {LK BL : LF} {sv : Bool} {X : MW} {i : Nat} (hi : i < 8) (w : WF X) : WF (passF LK BL sv X i) := by
  refine ⟨?_, ?_, fun k hk => ?_⟩
  · rw [passF_o LK BL sv X i (j := 0) (k := 10) (Or.inr (by omega))]
    exact w.1
  · rw [passF_o LK BL sv X i (j := 0) (k := 8) (Or.inr (by omega))]
    exact w.2.1
  · obtain ⟨w1, w2, w3, w4, w5, w6, w7⟩ := w.2.2 k hk
    rw [passF_o LK BL sv X i (j := 1) (k := k) (Or.inr (by omega)), passF_o LK BL sv X i (j := 2) (k := k) (Or.inr (by omega)), passF_o LK BL sv X i (j := 3) (k := k) (Or.inr (by omega)), passF_o LK BL sv X i (j := 5) (k := k) (Or.inr (by omega))]
    by_cases h : k = i
    · subst h
      rw [passF_4, passF_6, passF_7]
      exact ⟨w1, w2, w3, hungF_le, w5, hadF_le w6, goneF_01 _ _ _ _⟩
    · rw [passF_o LK BL sv X i (j := 4) (k := k) (Or.inl h), passF_o LK BL sv X i (j := 6) (k := k) (Or.inl h), passF_o LK BL sv X i (j := 7) (k := k) (Or.inl h)]
      exact ⟨w1, w2, w3, w4, w5, w6, w7⟩
theorem passN_s (LK BL : LF) (sv : Nat → Bool) (X : MW) (k : Nat) : passN LK BL sv X (k + 1) = if (X 7 k).toInt = 0 then passF LK BL (sv k) (passN LK BL sv X k) k else passN LK BL sv X k := rfl
theorem passN_o (LK BL : LF) (sv : Nat → Bool) (X : MW) {j i : Nat} : ∀ k, (k ≤ i ∨ (j ≠ 4 ∧ j ≠ 6 ∧ j ≠ 7)) → passN LK BL sv X k j i = X j i
  | 0, _ => rfl
  | k + 1, h => by
    rw [passN_s]
    have h2 := passN_o LK BL sv X (j := j) (i := i) k (by omega)
    split
    · rw [passF_o _ _ _ _ _ (by omega), h2]
    · exact h2
theorem WF_passN {LK BL : LF} {sv : Nat → Bool} {X : MW} (w : WF X) : ∀ k, k ≤ 8 → WF (passN LK BL sv X k)
  | 0, _ => w
  | k + 1, h => by
    rw [passN_s]
    have h2 := WF_passN (LK := LK) (BL := BL) (sv := sv) w k (by omega)
    split
    · exact WF_pass (by omega) h2
    · exact h2
theorem hungF_8 {sv : Bool} {X Y : MW} (h : Eq8 X Y) (i : Nat) : hungF sv Y i = hungF sv X i := by
  unfold hungF growsF
  rw [h 4 (by decide), h 6 (by decide), h 1 (by decide), h 2 (by decide), h 3 (by decide)]
theorem hadF_8 {sv : Bool} {X Y : MW} (h : Eq8 X Y) (i : Nat) : hadF sv Y i = hadF sv X i := by
  unfold hadF
  rw [h 6 (by decide)]
theorem ateF_8 {sv : Bool} {X Y : MW} (h : Eq8 X Y) (i : Nat) : Eq8 (ateF sv X i) (ateF sv Y i) := by
  unfold ateF
  rw [hungF_8 h, hadF_8 h]
  exact (h.up _ _ _).up _ _ _
theorem goneF_8 {LK BL : LF} {X Y : MW} (h : Eq8 X Y) (i : Nat) : goneF LK BL Y i = goneF LK BL X i := by
  unfold goneF
  rw [h 4 (by decide), h 6 (by decide), faceF_8 h]
theorem passF_8 {LK BL : LF} {sv : Bool} {X Y : MW} (h : Eq8 X Y) (i : Nat) : Eq8 (passF LK BL sv X i) (passF LK BL sv Y i) := by
  unfold passF
  rw [goneF_8 (ateF_8 h i)]
  exact (ateF_8 h i).up _ _ _
theorem passN_8 {LK BL : LF} {sv : Nat → Bool} {X Y : MW} (h : Eq8 X Y) : ∀ k, Eq8 (passN LK BL sv X k) (passN LK BL sv Y k)
  | 0 => h
  | k + 1 => by
    rw [passN_s, passN_s, h 7 (by decide)]
    split
    · exact passF_8 (passN_8 h k) k
    · exact passN_8 h k
theorem svF_8 {LK : LF} {X Y : MW} (h : Eq8 X Y) : svF LK Y = svF LK X := by
  have e : faceF LK Y = faceF LK X := funext (faceF_8 h)
  have e7 : Y 7 = X 7 := funext (h 7 (by decide))
  funext i
  unfold svF nOf
  rw [e, e7, h 0 (by decide), h 0 (by decide)]
theorem stepF_8 {LK BL : LF} {X Y : MW} (h : Eq8 X Y) : Eq8 (stepF LK BL X) (stepF LK BL Y) := by
  unfold stepF
  rw [svF_8 h, h 0 (by decide) 9, show nOf Y = nOf X by unfold nOf; rw [h 0 (by decide)]]
  exact (passN_8 h _).up _ _ _
theorem stepF_0 (LK BL : LF) (X : MW) {i : Nat} (hi : i ≠ 9) : stepF LK BL X 0 i = X 0 i := by
  unfold stepF
  rw [upm_j _ _ hi, passN_o _ _ _ _ _ (by omega)]
theorem stepF_o (LK BL : LF) (X : MW) {j : Nat} (i : Nat) (hj : j ≠ 0 ∧ j ≠ 4 ∧ j ≠ 6 ∧ j ≠ 7) : stepF LK BL X j i = X j i := by
  unfold stepF
  rw [upm_k _ _ hj.1, passN_o _ _ _ _ _ (by omega)]
theorem stepF_st (LK BL : LF) (X : MW) : stepF LK BL X 0 9 = X 0 9 + 1 := by
  unfold stepF
  exact upm_self _ _ _ _
theorem WF_step {LK BL : LF} {X : MW} (w : WF X) : WF (stepF LK BL X) := by
  obtain ⟨n, hn, hd⟩ := w.1
  have hnn : nOf X = n := by
    unfold nOf
    rw [hd]
    exact nI_clamp (by omega)
  have w2 := WF_passN (LK := LK) (BL := BL) (sv := svF LK X) w n hn
  refine ⟨?_, ?_, fun i hi => ?_⟩
  · rw [stepF_0 _ _ _ (by decide)]
    exact w.1
  · rw [stepF_0 _ _ _ (by decide)]
    exact w.2.1
  · have h3 := w2.2.2 i hi
    unfold stepF
    rw [hnn, upm_k _ _ (by decide), upm_k _ _ (by decide), upm_k _ _ (by decide), upm_k _ _ (by decide), upm_k _ _ (by decide), upm_k _ _ (by decide), upm_k _ _ (by decide)]
    exact h3
theorem WF_stepN {LK BL : LF} {X : MW} (w : WF X) : ∀ k, WF (stepN LK BL X k)
  | 0 => w
  | k + 1 => WF_step (WF_stepN w k)
theorem stepN_0 (LK BL : LF) (X : MW) {i : Nat} (hi : i ≠ 9) : ∀ k, stepN LK BL X k 0 i = X 0 i
  | 0 => rfl
  | k + 1 => (stepF_0 LK BL _ hi).trans (stepN_0 LK BL X hi k)
theorem stepN_o (LK BL : LF) (X : MW) {j : Nat} (i : Nat) (hj : j ≠ 0 ∧ j ≠ 4 ∧ j ≠ 6 ∧ j ≠ 7) : ∀ k, stepN LK BL X k j i = X j i
  | 0 => rfl
  | k + 1 => (stepF_o LK BL _ i hj).trans (stepN_o LK BL X i hj k)
theorem stepN_8 {LK BL : LF} {X Y : MW} (h : Eq8 X Y) : ∀ k, Eq8 (stepN LK BL X k) (stepN LK BL Y k)
  | 0 => h
  | k + 1 => stepF_8 (stepN_8 h k)
theorem nOf_stepN (LK BL : LF) (X : MW) (k : Nat) : nOf (stepN LK BL X k) = nOf X := by
  unfold nOf
  rw [stepN_0 LK BL X (by decide)]
