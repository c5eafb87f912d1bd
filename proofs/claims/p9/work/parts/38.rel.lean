/-! THE RELATION OF THE CLASS'S CELLS AND THE REFERENCE'S -/
/-- tables alike where it counts -/
def Eq7 (X Y : MW) : Prop := (∀ j, 1 ≤ j → j < 8 → ∀ i, i < 8 → Y j i = X j i) ∧ Y 0 8 = X 0 8 ∧ Y 0 9 = X 0 9 ∧ Y 0 10 = X 0 10
theorem Eq7.rf {X : MW} : Eq7 X X := ⟨fun _ _ _ _ _ => rfl, rfl, rfl, rfl⟩
theorem Eq7.sy {X Y : MW} (h : Eq7 X Y) : Eq7 Y X := ⟨fun j a b i c => (h.1 j a b i c).symm, h.2.1.symm, h.2.2.1.symm, h.2.2.2.symm⟩
theorem Eq7.tr {X Y Z : MW} (h : Eq7 X Y) (h2 : Eq7 Y Z) : Eq7 X Z := ⟨fun j a b i c => (h2.1 j a b i c).trans (h.1 j a b i c), h2.2.1.trans h.2.1, h2.2.2.1.trans h.2.2.1, h2.2.2.2.trans h.2.2.2⟩
theorem Eq8.e7 {X Y : MW} (h : Eq8 X Y) : Eq7 X Y := ⟨fun j _ b i _ => h j b i, h 0 (by decide) 8, h 0 (by decide) 9, h 0 (by decide) 10⟩
theorem Eq7.up {X Y : MW} (h : Eq7 X Y) (j i : Nat) (x : Int32) : Eq7 (upm X j i x) (upm Y j i x) := by
  have k : ∀ a b, (Y a b = X a b) → upm Y j i x a b = upm X j i x a b := fun a b e => by
    unfold upm
    by_cases q : a = j ∧ b = i
    · rw [if_pos q, if_pos q]
    · rw [if_neg q, if_neg q, e]
  exact ⟨fun a h1 h2 b h3 => k a b (h.1 a h1 h2 b h3), k 0 8 h.2.1, k 0 9 h.2.2.1, k 0 10 h.2.2.2⟩
section
variable {LK BL : LF} {sv : Bool} {X Y : MW} {i : Nat}
theorem WF_7 (h : Eq7 X Y) (w : WF X) : WF Y := by
  refine ⟨?_, ?_, fun i hi => ?_⟩
  · rw [h.2.2.2]
    exact w.1
  · rw [h.2.1]
    exact w.2.1
  · rw [h.1 1 (by decide) (by decide) i hi, h.1 2 (by decide) (by decide) i hi, h.1 3 (by decide) (by decide) i hi, h.1 4 (by decide) (by decide) i hi, h.1 5 (by decide) (by decide) i hi, h.1 6 (by decide) (by decide) i hi, h.1 7 (by decide) (by decide) i hi]
    exact w.2.2 i hi
theorem faceF_7 (h : Eq7 X Y) (hi : i < 8) : faceF LK Y i = faceF LK X i := faceF_c (fun j h1 h2 => h.1 j (by omega) (by omega) i hi) h.2.2.1
theorem hungF_7 (h : Eq7 X Y) (hi : i < 8) : hungF sv Y i = hungF sv X i := by
  unfold hungF growsF
  rw [h.1 4 (by decide) (by decide) i hi, h.1 6 (by decide) (by decide) i hi, h.1 2 (by decide) (by decide) i hi, h.1 3 (by decide) (by decide) i hi, h.1 1 (by decide) (by decide) _ (Nat.mod_lt _ (by decide))]
theorem hadF_7 (h : Eq7 X Y) (hi : i < 8) : hadF sv Y i = hadF sv X i := by
  unfold hadF
  rw [h.1 6 (by decide) (by decide) i hi]
theorem ateF_7 (h : Eq7 X Y) (hi : i < 8) : Eq7 (ateF sv X i) (ateF sv Y i) := by
  unfold ateF
  rw [hungF_7 h hi, hadF_7 h hi]
  exact (h.up _ _ _).up _ _ _
theorem goneF_7 (h : Eq7 X Y) (hi : i < 8) : goneF LK BL Y i = goneF LK BL X i := by
  unfold goneF
  rw [h.1 4 (by decide) (by decide) i hi, h.1 6 (by decide) (by decide) i hi, faceF_7 h hi]
theorem passF_7' (h : Eq7 X Y) (hi : i < 8) : Eq7 (passF LK BL sv X i) (passF LK BL sv Y i) := by
  unfold passF
  rw [goneF_7 (ateF_7 h hi) hi]
  exact (ateF_7 h hi).up _ _ _
theorem passN_c {sv sv2 : Nat → Bool} : ∀ k, (∀ i, i < k → sv2 i = sv i) → passN LK BL sv2 X k = passN LK BL sv X k
  | 0, _ => rfl
  | k + 1, h => by
    rw [passN_s, passN_s, passN_c k (fun i hi => h i (by omega)), h k (by omega)]
theorem passN_7 {sv : Nat → Bool} (h : Eq7 X Y) : ∀ k, k ≤ 8 → Eq7 (passN LK BL sv X k) (passN LK BL sv Y k)
  | 0, _ => h
  | k + 1, hk => by
    rw [passN_s, passN_s, h.1 7 (by decide) (by decide) k (by omega)]
    split
    · exact passF_7' (passN_7 h k (by omega)) (by omega)
    · exact passN_7 h k (by omega)
theorem nOf_7 (h : Eq7 X Y) : nOf Y = nOf X := by
  unfold nOf
  rw [h.2.2.2]
theorem nOf_le (w : WF X) : nOf X ≤ 8 := by
  obtain ⟨n, hn, hd⟩ := w.1
  unfold nOf
  rw [hd, nI_clamp (by omega)]
  exact hn
theorem svF_7 (h : Eq7 X Y) (w : WF X) (hi : i < nOf X) : svF LK Y i = svF LK X i := by
  have h8 := nOf_le w
  have ea : aheadF (faceF LK Y) (Y 7) (nOf X) i = aheadF (faceF LK X) (X 7) (nOf X) i := cntF_c _ (fun o ho => by
    unfold isAhead
    rw [faceF_7 h (by omega), faceF_7 h (by omega), h.1 7 (by decide) (by decide) o (by omega)])
  unfold svF isServed
  rw [nOf_7 h, ea, h.1 7 (by decide) (by decide) i (by omega), h.2.1]
theorem setF_7 (h : Eq7 X Y) (w : WF X) : setF LK Y = setF LK X := by
  unfold setF
  rw [nOf_7 h]
  exact bitsF_c _ (fun i hi => svF_7 h w hi)
theorem stepF_7 (h : Eq7 X Y) (w : WF X) : Eq7 (stepF LK BL X) (stepF LK BL Y) := by
  unfold stepF
  rw [nOf_7 h, h.2.2.1, passN_c (X := Y) (nOf X) (fun i hi => svF_7 h w hi)]
  exact (passN_7 h _ (nOf_le w)).up _ _ _
theorem stepN_7 (h : Eq7 X Y) (w : WF X) : ∀ k, Eq7 (stepN LK BL X k) (stepN LK BL Y k)
  | 0 => h
  | k + 1 => stepF_7 (stepN_7 h w k) (WF_stepN w k)
theorem sumF_c {a b : Nat → Int32} : ∀ n, (∀ i, i < n → b i = a i) → sumF b n = sumF a n
  | 0, _ => rfl
  | n + 1, h => by
    show sumF b n + b n = sumF a n + a n
    rw [sumF_c n (fun i hi => h i (by omega)), h n (by omega)]
end
/-- a law's number x in the table, the text of use u in the row -/
def TxR (cd : Nat → List Int32) (N : Nat) (x : Int32) (w : Nat → Int32) (u : Nat) : Prop := TxOk w u ∧ ((x = 0 ∧ (w (5 + u)).toInt < 0) ∨ ∃ i, i < N ∧ x = nI (i + 1) ∧ ¬ (w (5 + u)).toInt < 0 ∧ cd i = (TR (txW w u) (nW w u) u).1)
def lkC (cd : Nat → List Int32) (x : Int32) : LF := fun h c s => heldF (if x = 0 then c + 9 - h / 9 else valL (cd (x.toNatClampNeg - 1)) h c s) 99
def blC (cd : Nat → List Int32) (x : Int32) : LF := fun h f c => if x = 0 then 0 else heldF (valL (cd (x.toNatClampNeg - 1)) h f c) 1
theorem lkC_e (m : MW) (ln : Nat → Nat) (x : Int32) : lkF m ln x = lkC (codL m ln) x := rfl
theorem blC_e (m : MW) (ln : Nat → Nat) (x : Int32) : blF m ln x = blC (codL m ln) x := rfl
theorem TxR.ix {cd : Nat → List Int32} {N : Nat} {x : Int32} {w : Nat → Int32} {u : Nat} (h : TxR cd N x w u) : LawIx N x := by
  rcases h.2 with ⟨h0, _⟩ | ⟨i, hi, hx, _⟩
  · exact Or.inl h0
  · exact Or.inr ⟨i, hi, hx⟩
theorem TxR.lk {cd : Nat → List Int32} {N : Nat} {x : Int32} {w : Nat → Int32} (hN : N ≤ 600) (h : TxR cd N x w 0) : lkC cd x = rkF w := by
  funext a b c
  unfold lkC rkF
  rcases h.2 with ⟨h0, h1⟩ | ⟨i, hi, hx, h1, h2⟩
  · rw [if_pos h0, if_pos h1]
  · obtain ⟨_, hne, hcl⟩ := lawV_ix hx (by omega)
    rw [if_neg hne, if_neg h1, hcl, h2]
theorem TxR.bl {cd : Nat → List Int32} {N : Nat} {x : Int32} {w : Nat → Int32} (hN : N ≤ 600) (h : TxR cd N x w 1) : blC cd x = rbF w := by
  funext a b c
  unfold blC rbF
  rcases h.2 with ⟨h0, h1⟩ | ⟨i, hi, hx, h1, h2⟩
  · rw [if_pos h0, if_pos h1]
  · obtain ⟨_, hne, hcl⟩ := lawV_ix hx (by omega)
    rw [if_neg hne, if_neg h1, hcl, h2]
/-- a table and a desk of the class beside a row of the reference -/
def TbR (cd : Nat → List Int32) (N : Nat) (X : MW) (dk tp wt row : Nat → Int32) : Prop :=
  WF X ∧ leI (X 0 9) 9999 ∧ Eq7 X (vr row) ∧ row 1 = dk 0 ∧ (leI (dk 2) 50 ∧ row 3 = dk 2) ∧ (leI (dk 4) 20 ∧ row 4 = dk 4) ∧ (∀ j, j < 50 → leI (tp j) 255 ∧ row (64 + j) = tp j) ∧ (∀ j, j < 20 → row (114 + j) = wt j) ∧ TxR cd N (X 0 11) row 0 ∧ TxR cd N (X 0 12) row 1
def ImR (m : MW) (ln : Nat → Nat) (N q : Nat) : Prop := ∃ im, im ≤ q ∧ m 0 6 = nI im ∧ m 57 5 = nI im ∧ m 57 4 = (if im = 0 then 0 else 1) ∧ (im ≠ 0 → TbR (codL m ln) N (vw m 3) (m 40) (m 41) (m 42) (m 59))
def lowF (b : Nat) (v : Int32) : Int32 := if b = 8 then v &&& 255 else if b = 16 then v &&& 65535 else v
def narF (b : Nat) (v : Int32) : Int32 := if b = 8 then v.toInt8.toInt32 else if b = 16 then v.toInt16.toInt32 else v
def ShR (m : MW) : Prop := ∀ s, s < 4 → ∃ b l, (b = 0 ∨ b = 8 ∨ b = 16 ∨ b = 32) ∧ l ≤ 40 ∧ (b = 0 → l = 0) ∧ m (48 + 2 * s) 0 = nI b ∧ m 63 s = nI b ∧ m (48 + 2 * s) 1 = nI l ∧ m 64 s = nI l ∧ ∀ j, j < 40 → ∃ v, m 65 (40 * s + j) = narF b v ∧ m (49 + 2 * s) j = lowF b v
def ErR (m : MW) : Prop := ∀ e, 1 ≤ e → e ≤ 5 → m 62 e = m 56 e
def VoR (m : MW) : Prop := ∃ b, b ≤ 40 ∧ m 45 4 = nI b ∧ m 57 21 = nI b ∧ ∀ j, j < b → m 68 j = m 46 j
/-- after q calls -/
def Rel (m : MW) (ln : Nat → Nat) (N q : Nat) : Prop := q ≤ 512 ∧ N ≤ q ∧ LawsOk m ln N ∧ TbR (codL m ln) N (vw m 0) (m 37) (m 38) (m 39) (m 58) ∧ ImR m ln N q ∧ ShR m ∧ ErR m ∧ VoR m
