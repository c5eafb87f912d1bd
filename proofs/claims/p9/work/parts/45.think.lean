/-! WHAT WOULD BE, in numbers -/
theorem had_step {LK BL : LF} {X : MW} (w : WF X) {i : Nat} (hi : i < 8) : (X 6 i).toInt ≤ (stepF LK BL X 6 i).toInt := by
  have hp : ∀ k, k ≤ 8 → (X 6 i).toInt ≤ (passN LK BL (svF LK X) X k 6 i).toInt := by
    intro k
    induction k with
    | zero => intro _; exact Int.le_refl _
    | succ k ih =>
      intro hk
      have h1 := ih (by omega)
      rw [passN_s]
      split
      · by_cases e : i = k
        · subst e
          rw [passF_6]
          have e6 : passN LK BL (svF LK X) X i 6 i = X 6 i := passN_o _ _ _ _ _ (by omega)
          unfold hadF
          rw [e6]
          split
          · obtain ⟨c, hc, he⟩ := (w.2.2 i hi).2.2.2.2.2.1
            have e9 : (99 : Int32).toInt = 99 := rfl
            rw [he, nI_1]
            unfold heldF
            rw [nI_toInt (n := c + 1) (by omega), nI_toInt (n := c) (by omega), if_neg (by omega)]
            split
            · omega
            · rw [nI_toInt (n := c + 1) (by omega)]
              omega
          · exact Int.le_refl _
        · rw [passF_o _ _ _ _ _ (Or.inl e)]
          exact h1
      · exact h1
  have e : stepF LK BL X 6 i = passN LK BL (svF LK X) X (nOf X) 6 i := by
    unfold stepF
    exact upm_k _ _ (by decide)
  rw [e]
  exact hp _ (nOf_le w)
theorem had_mono {LK BL : LF} {X : MW} (w : WF X) {i : Nat} (hi : i < 8) (q : Nat) : ∀ r, (stepN LK BL X q 6 i).toInt ≤ (stepN LK BL X (q + r) 6 i).toInt
  | 0 => Int.le_refl _
  | r + 1 => Int.le_trans (had_mono w hi q r) (had_step (WF_stepN w (q + r)) hi)
/-- what has more after n steps -/
def moreN (LK BL : LF) (X : MW) (n i : Nat) : Bool := decide ((X 6 i).toInt < (stepN LK BL X n 6 i).toInt)
/-- the shams of a set set -/
def shamX (X : MW) (a : Nat) (s : Int32) : MW := fun j k => if j = 5 ∧ k < nOf X ∧ a.testBit k = true then s else X j k
theorem WF_sham {X : MW} {i : Nat} {s : Int32} (w : WF X) (hs : leI s 9) : WF (upm X 5 i s) := by
  refine ⟨?_, ?_, fun k hk => ?_⟩
  · rw [upm_k _ _ (by decide)]
    exact w.1
  · rw [upm_k _ _ (by decide)]
    exact w.2.1
  · obtain ⟨w1, w2, w3, w4, w5, w6, w7⟩ := w.2.2 k hk
    have e : ∀ j k, j ≠ 5 → upm X 5 i s j k = X j k := fun j k h => upm_k _ _ h
    rw [e 1 k (by decide), e 2 k (by decide), e 3 k (by decide), e 4 k (by decide), e 6 k (by decide), e 7 k (by decide)]
    refine ⟨w1, w2, w3, w4, ?_, w6, w7⟩
    unfold upm
    split
    · exact hs
    · exact w5
theorem WF_shamX {X : MW} {a : Nat} {s : Int32} (w : WF X) (hs : leI s 9) : WF (shamX X a s) := by
  have e : ∀ j k, j ≠ 5 → shamX X a s j k = X j k := fun j k h => if_neg (fun q => h q.1)
  refine ⟨?_, ?_, fun k hk => ?_⟩
  · rw [e 0 10 (by decide)]
    exact w.1
  · rw [e 0 8 (by decide)]
    exact w.2.1
  · obtain ⟨w1, w2, w3, w4, w5, w6, w7⟩ := w.2.2 k hk
    rw [e 1 k (by decide), e 2 k (by decide), e 3 k (by decide), e 4 k (by decide), e 6 k (by decide), e 7 k (by decide)]
    refine ⟨w1, w2, w3, w4, ?_, w6, w7⟩
    unfold shamX
    split
    · exact hs
    · exact w5
theorem shamX_1 {X : MW} {i : Nat} {s : Int32} (hi : i < nOf X) (j k : Nat) : shamX X (2 ^ i) s j k = upm X 5 i s j k := by
  unfold shamX upm
  by_cases h : j = 5 ∧ k = i
  · obtain ⟨rfl, rfl⟩ := h
    rw [if_pos ⟨rfl, hi, by rw [Nat.testBit_two_pow_self]⟩, if_pos ⟨rfl, rfl⟩]
  · rw [if_neg h, if_neg (fun q => h ⟨q.1, by
      have h2 := q.2.2
      rw [Nat.testBit_two_pow] at h2
      have := of_decide_eq_true h2
      omega⟩)]
/-- class's table for thinking -/
def FrT (m m2 : MW) : Prop := ∀ k j, ¬ (10 ≤ k ∧ k < 28) → ¬ minor k j → m2 k j = m k j
theorem FrT.of {m m2 X2 : MW} (h : AtX (takeM m 1 0) 1 X2 m2) : FrT m m2 := fun k j h1 h2 => (h.out (by omega) h2).trans (congrFun (take_o m 1 0 (by omega)) j)
theorem FrT.rf {m : MW} : FrT m m := fun _ _ _ _ => rfl
theorem FrT.tr {m m2 m3 : MW} (h : FrT m m2) (h2 : FrT m2 m3) : FrT m m3 := fun k j a b => (h2 k j a b).trans (h k j a b)
theorem FrT.row {m m2 : MW} (h : FrT m m2) {k : Nat} (h1 : ¬ (10 ≤ k ∧ k < 28)) (h2 : k < 57) : m2 k = m k := funext fun j => h k j h1 (fun q => by rcases q with q | q <;> omega)
theorem FrT.vw0 {m m2 : MW} (h : FrT m m2) {j : Nat} (hj : j < 9) : vw m2 0 j = vw m 0 j := h.row (by omega) (by omega)
theorem FrT.cod {m m2 : MW} (h : FrT m m2) (ln : Nat → Nat) : codL m2 ln = codL m ln := by
  funext i
  unfold codL
  apply List.map_congr_left
  intro j _
  exact h _ _ (by omega) (fun q => by rcases q with q | q <;> omega)
theorem FrT.laws {m m2 : MW} (h : FrT m m2) {ln : Nat → Nat} {N : Nat} (q : LawsOk m ln N) : LawsOk m2 ln N := ⟨q.1, fun i hi => by rw [h.cod]; exact q.2 i hi⟩
theorem FrT.lk {m m2 : MW} (h : FrT m m2) (ln : Nat → Nat) (x : Int32) : lkF m2 ln x = lkF m ln x := by rw [lkC_e, lkC_e, h.cod]
theorem FrT.bl {m m2 : MW} (h : FrT m m2) (ln : Nat → Nat) (x : Int32) : blF m2 ln x = blF m ln x := by rw [blC_e, blC_e, h.cod]
theorem FrT.wf {m m2 : MW} (h : FrT m m2) (w : WF (vw m 0)) : WF (vw m2 0) := WF_c (fun j hj i => by rw [h.vw0 (by omega)]) w
theorem FrT.tk {m : MW} : FrT m (takeM m 1 0) := fun k j h1 _ => congrFun (take_o m 1 0 (by omega)) j
/-- the table for thinking, just taken over: contracts' premises -/
theorem tk_l {m : MW} {ln : Nat → Nat} {N : Nat} (h : LawsOk m ln N) (t s : Nat) (ht : t < 4) : LawsOk (takeM m t s) ln N := ⟨h.1, fun i hi => by rw [take_cod m t s ht]; exact h.2 i hi⟩
theorem tk_lk (m : MW) (t s : Nat) (ht : t < 4) (ln : Nat → Nat) (x : Int32) : lkF (takeM m t s) ln x = lkF m ln x := by rw [lkC_e, lkC_e, take_cod m t s ht]
theorem tk_bl (m : MW) (t s : Nat) (ht : t < 4) (ln : Nat → Nat) (x : Int32) : blF (takeM m t s) ln x = blF m ln x := by rw [blC_e, blC_e, take_cod m t s ht]
theorem firstF_8 {LK BL : LF} {X Y : MW} (h : Eq8 X Y) (i : Nat) : ∀ r q, firstF LK BL Y i r q = firstF LK BL X i r q
  | 0, _ => rfl
  | r + 1, q => by
    have e : moreAt LK BL Y i q = moreAt LK BL X i q := by
      unfold moreAt
      rw [h 6 (by decide), stepN_8 h q 6 (by decide)]
    show (if moreAt LK BL Y i q = true then q else firstF LK BL Y i r (q + 1)) = (if moreAt LK BL X i q = true then q else firstF LK BL X i r (q + 1))
    rw [e, firstF_8 h i r (q + 1)]
