/-! THE RELATION, the class's cells read off one memory, the reference's off another -/
def cX (k j : Nat) : Prop := k < 9 ∨ (28 ≤ k ∧ k < 36) ∨ (37 ≤ k ∧ k < 43) ∨ (45 ≤ k ∧ k < 57) ∨ (69 ≤ k ∧ (k - 69) % 3 ≠ 2)
def cM (k j : Nat) : Prop := (k = 57 ∧ (j < 7 ∨ 14 < j)) ∨ k = 58 ∨ k = 59 ∨ (62 ≤ k ∧ k < 66) ∨ k = 68
def SmX (a a2 : MW) : Prop := ∀ k j, cX k j → a2 k j = a k j
def SmM (b b2 : MW) : Prop := ∀ k j, cM k j → b2 k j = b k j
theorem cX_n {k j : Nat} (h : cX k j) : ¬ (10 ≤ k ∧ k < 28) ∧ ¬ minor k j := by
  unfold cX at h
  unfold minor
  omega
theorem cM_n {k j : Nat} (h : cM k j) : ¬ (10 ≤ k ∧ k < 28) ∧ ¬ minor k j ∧ ¬ (k = 60 ∨ k = 66 ∨ k = 67) ∧ 57 ≤ k ∧ k < 69 := by
  unfold cM at h
  unfold minor
  omega
theorem cXM {k j : Nat} (h : cX k j) : ¬ (57 ≤ k ∧ k < 69) := by
  unfold cX at h
  omega
theorem SmX.rf {a : MW} : SmX a a := fun _ _ _ => rfl
theorem SmM.rf {a : MW} : SmM a a := fun _ _ _ => rfl
theorem SmX.tr {a b c : MW} (h : SmX a b) (h2 : SmX b c) : SmX a c := fun k j q => (h2 k j q).trans (h k j q)
theorem SmM.tr {a b c : MW} (h : SmM a b) (h2 : SmM b c) : SmM a c := fun k j q => (h2 k j q).trans (h k j q)
theorem SmX.up {a b : MW} (h : SmX a b) (k j : Nat) (x : Int32) : SmX (upm a k j x) (upm b k j x) := fun k2 j2 q => by
  unfold upm
  by_cases e : k2 = k ∧ j2 = j
  · rw [if_pos e, if_pos e]
  · rw [if_neg e, if_neg e, h k2 j2 q]
theorem SmM.up {a b : MW} (h : SmM a b) (k j : Nat) (x : Int32) : SmM (upm a k j x) (upm b k j x) := fun k2 j2 q => by
  unfold upm
  by_cases e : k2 = k ∧ j2 = j
  · rw [if_pos e, if_pos e]
  · rw [if_neg e, if_neg e, h k2 j2 q]
theorem FrT.sx {a b : MW} (h : FrT a b) : SmX a b := fun k j q => h k j (cX_n q).1 (cX_n q).2
theorem FrT.sm {a b : MW} (h : FrT a b) : SmM a b := fun k j q => h k j (cM_n q).1 (cM_n q).2.1
theorem EqM.sx {a b : MW} (h : EqM a b) : SmX a b := fun k j q => h k j (cX_n q).2
theorem EqM.sm {a b : MW} (h : EqM a b) : SmM a b := fun k j q => h k j (cM_n q).2.1
theorem FrP.sx {a b : MW} (h : FrP a b) : SmX a b := fun k j q => h k j (fun z => cXM q (by omega)) (cX_n q).2
theorem FrP.sm {a b : MW} (h : FrP a b) : SmM a b := fun k j q => h k j (cM_n q).2.2.1 (cM_n q).2.1
/-- what lies below 57 is the class's alone, what lies from 57 to 68 the reference's -/
theorem smM_x {a b : MW} (h : ∀ k j, 57 ≤ k → k < 69 → ¬ minor k j → b k j = a k j) : SmM a b := fun k j q => h k j (cM_n q).2.2.2.1 (cM_n q).2.2.2.2 (cM_n q).2.1
theorem smX_m {a b : MW} (h : ∀ k j, ¬ (57 ≤ k ∧ k < 69) → ¬ minor k j → b k j = a k j) : SmX a b := fun k j q => h k j (cXM q) (cX_n q).2
theorem SmX.cod {a b : MW} (h : SmX a b) (ln : Nat → Nat) : codL b ln = codL a ln := by
  funext i
  unfold codL
  apply List.map_congr_left
  intro j _
  exact h _ _ (Or.inr (Or.inr (Or.inr (Or.inr (by omega)))))
theorem SmX.row {a b : MW} (h : SmX a b) {k : Nat} (hk : k < 9 ∨ (28 ≤ k ∧ k < 36) ∨ (37 ≤ k ∧ k < 43) ∨ (45 ≤ k ∧ k < 57)) : b k = a k := funext fun j => h k j (by
  unfold cX
  omega)
theorem SmM.row {a b : MW} (h : SmM a b) {k : Nat} (hk : k = 58 ∨ k = 59 ∨ (62 ≤ k ∧ k < 66) ∨ k = 68) : b k = a k := funext fun j => h k j (by
  unfold cM
  omega)
theorem SmM.f57 {a b : MW} (h : SmM a b) {j : Nat} (hj : j < 7 ∨ 14 < j) : b 57 j = a 57 j := h 57 j (Or.inl ⟨rfl, hj⟩)
theorem SmX.vw0 {a b : MW} (h : SmX a b) {j : Nat} (hj : j < 8) : vw b 0 j = vw a 0 j := h.row (by omega)
theorem SmX.vw3 {a b : MW} (h : SmX a b) {j : Nat} (hj : j < 8) : vw b 3 j = vw a 3 j := h.row (by omega)
def ImR2 (a b : MW) (ln : Nat → Nat) (N q : Nat) : Prop := ∃ im, im ≤ q ∧ a 0 6 = nI im ∧ b 57 5 = nI im ∧ b 57 4 = (if im = 0 then 0 else 1) ∧ (im ≠ 0 → TbR (codL a ln) N (vw a 3) (a 40) (a 41) (a 42) (b 59))
def ShR2 (a b : MW) : Prop := ∀ s, s < 4 → ∃ c l, (c = 0 ∨ c = 8 ∨ c = 16 ∨ c = 32) ∧ l ≤ 40 ∧ a (48 + 2 * s) 0 = nI c ∧ b 63 s = nI c ∧ a (48 + 2 * s) 1 = nI l ∧ b 64 s = nI l ∧ ∀ j, j < 40 → ∃ v, b 65 (40 * s + j) = narF c v ∧ a (49 + 2 * s) j = lowF c v
def ErR2 (a b : MW) : Prop := ∀ e, 1 ≤ e → e ≤ 5 → b 62 e = a 56 e
def VoR2 (a b : MW) : Prop := ∃ c, c ≤ 40 ∧ a 45 4 = nI c ∧ b 57 21 = nI c ∧ ∀ j, j < c → b 68 j = a 46 j
def Rel2 (a b : MW) (ln : Nat → Nat) (N q : Nat) : Prop := q ≤ 512 ∧ N ≤ q ∧ LawsOk a ln N ∧ TbR (codL a ln) N (vw a 0) (a 37) (a 38) (a 39) (b 58) ∧ ImR2 a b ln N q ∧ ShR2 a b ∧ ErR2 a b ∧ VoR2 a b
theorem WF_9 {X Y : MW} (h : ∀ j, j < 8 → Y j = X j) (w : WF X) : WF Y := WF_c (fun j hj i => congrFun (h j (by omega)) i) w
theorem Eq7_9 {X Y Z : MW} (h : ∀ j, j < 8 → Y j = X j) (w : Eq7 X Z) : Eq7 Y Z := by
  refine ⟨fun j h1 h2 i hi => ?_, ?_, ?_, ?_⟩
  · rw [h j (by omega)]
    exact w.1 j h1 h2 i hi
  · rw [h 0 (by omega)]
    exact w.2.1
  · rw [h 0 (by omega)]
    exact w.2.2.1
  · rw [h 0 (by omega)]
    exact w.2.2.2
theorem TbR_9 {cd : Nat → List Int32} {N : Nat} {X Y : MW} {dk tp wt row : Nat → Int32} (h : ∀ j, j < 8 → Y j = X j) (t : TbR cd N X dk tp wt row) : TbR cd N Y dk tp wt row := by
  obtain ⟨t1, t2, t3, t4, t5, t6, t7, t8, t9, t10⟩ := t
  have h0 : Y 0 = X 0 := h 0 (by decide)
  refine ⟨WF_9 h t1, ?_, Eq7_9 h t3, t4, t5, t6, t7, t8, ?_, ?_⟩
  · rw [h0]
    exact t2
  · rw [h0]
    exact t9
  · rw [h0]
    exact t10
theorem Rel2.fr {a b a2 b2 : MW} {ln : Nat → Nat} {N q : Nat} (R : Rel2 a b ln N q) (hx : SmX a a2) (hm : SmM b b2) : Rel2 a2 b2 ln N q := by
  obtain ⟨r1, r2, r3, r4, r5, r6, r7, r8⟩ := R
  refine ⟨r1, r2, ⟨r3.1, fun i hi => ?_⟩, ?_, ?_, ?_, ?_, ?_⟩
  · rw [hx.cod]
    exact r3.2 i hi
  · rw [hx.cod, hx.row (k := 37) (by omega), hx.row (k := 38) (by omega), hx.row (k := 39) (by omega), hm.row (k := 58) (by omega)]
    exact TbR_9 (fun j hj => hx.vw0 hj) r4
  · obtain ⟨im, i1, i2, i3, i4, i5⟩ := r5
    refine ⟨im, i1, ?_, ?_, ?_, fun h => ?_⟩
    · rw [hx.row (k := 0) (by omega)]
      exact i2
    · rw [hm.f57 (by omega)]
      exact i3
    · rw [hm.f57 (by omega)]
      exact i4
    · rw [hx.cod, hx.row (k := 40) (by omega), hx.row (k := 41) (by omega), hx.row (k := 42) (by omega), hm.row (k := 59) (by omega)]
      exact TbR_9 (fun j hj => hx.vw3 hj) (i5 h)
  · intro s hs
    obtain ⟨c, l, s1, s2, s3, s4, s5, s6, s7⟩ := r6 s hs
    refine ⟨c, l, s1, s2, ?_, ?_, ?_, ?_, ?_⟩
    · rw [hx.row (k := 48 + 2 * s) (by omega)]
      exact s3
    · rw [hm.row (k := 63) (by omega)]
      exact s4
    · rw [hx.row (k := 48 + 2 * s) (by omega)]
      exact s5
    · rw [hm.row (k := 64) (by omega)]
      exact s6
    · rw [hx.row (k := 49 + 2 * s) (by omega), hm.row (k := 65) (by omega)]
      exact s7
  · intro e h1 h2
    rw [hx.row (k := 56) (by omega), hm.row (k := 62) (by omega)]
    exact r7 e h1 h2
  · obtain ⟨c, v1, v2, v3, v4⟩ := r8
    refine ⟨c, v1, ?_, ?_, ?_⟩
    · rw [hx.row (k := 45) (by omega)]
      exact v2
    · rw [hm.f57 (by omega)]
      exact v3
    · rw [hx.row (k := 46) (by omega), hm.row (k := 68) (by omega)]
      exact v4
theorem Rel2.nx {a b : MW} {ln : Nat → Nat} {N q : Nat} (R : Rel2 a b ln N q) (hq : q < 512) : Rel2 a b ln N (q + 1) := by
  obtain ⟨r1, r2, r3, r4, r5, r6, r7, r8⟩ := R
  obtain ⟨im, i1, i2⟩ := r5
  exact ⟨by omega, by omega, r3, r4, ⟨im, by omega, i2⟩, r6, r7, r8⟩
/-- an ERROR counted on both sides -/
theorem Rel2.er {a b : MW} {ln : Nat → Nat} {N q : Nat} (R : Rel2 a b ln N q) (e : Nat) : Rel2 (erm a e) (ers b e) ln N q := by
  obtain ⟨r1, r2, r3, r4, r5, r6, r7, r8⟩ := R
  have kx : ∀ k, k ≠ 56 → erm a e k = a k := fun k h => row_up _ _ h
  have km : ∀ k, k ≠ 62 → ers b e k = b k := fun k h => row_up _ _ h
  have hc : codL (erm a e) ln = codL a ln := cod_up (by decide) ln
  refine ⟨r1, r2, ⟨r3.1, fun i hi => ?_⟩, ?_, ?_, ?_, ?_, ?_⟩
  · rw [hc]
    exact r3.2 i hi
  · rw [hc, kx 37 (by decide), kx 38 (by decide), kx 39 (by decide), km 58 (by decide)]
    exact TbR_9 (fun j hj => kx _ (by omega)) r4
  · obtain ⟨im, i1, i2, i3, i4, i5⟩ := r5
    refine ⟨im, i1, ?_, ?_, ?_, fun h => ?_⟩
    · rw [kx 0 (by decide)]
      exact i2
    · rw [km 57 (by decide)]
      exact i3
    · rw [km 57 (by decide)]
      exact i4
    · rw [hc, kx 40 (by decide), kx 41 (by decide), kx 42 (by decide), km 59 (by decide)]
      exact TbR_9 (fun j hj => kx _ (by omega)) (i5 h)
  · intro s hs
    rw [kx (48 + 2 * s) (by omega), kx (49 + 2 * s) (by omega), km 63 (by decide), km 64 (by decide), km 65 (by decide)]
    exact r6 s hs
  · intro f h1 h2
    have h9 := r7 f h1 h2
    by_cases he : f = e
    · subst he
      show upm b 62 f (b 62 f + 1) 62 f = upm a 56 f (a 56 f + 1) 56 f
      rw [upm_self, upm_self, h9]
    · show upm b 62 e (b 62 e + 1) 62 f = upm a 56 e (a 56 e + 1) 56 f
      rw [upm_j _ _ he, upm_j _ _ he, h9]
  · rw [show VoR2 (erm a e) (ers b e) ↔ VoR2 a b from ?_]
    · exact r8
    · unfold VoR2
      rw [kx 45 (by decide), kx 46 (by decide), km 57 (by decide), km 68 (by decide)]
/-! WHAT THE RELATION GIVES -/
section
variable {a b : MW} {ln : Nat → Nat} {N q : Nat}
theorem Rel2.L (R : Rel2 a b ln N q) : LawsOk a ln N := R.2.2.1
theorem Rel2.T (R : Rel2 a b ln N q) : TbR (codL a ln) N (vw a 0) (a 37) (a 38) (a 39) (b 58) := R.2.2.2.1
theorem Rel2.W (R : Rel2 a b ln N q) : WF (vw a 0) := R.T.1
theorem Rel2.E7 (R : Rel2 a b ln N q) : Eq7 (vw a 0) (vr (b 58)) := R.T.2.2.1
theorem Rel2.WY (R : Rel2 a b ln N q) : WF (vr (b 58)) := WF_7 R.E7 R.W
theorem Rel2.n (R : Rel2 a b ln N q) : ∃ n, n ≤ 8 ∧ a 1 10 = nI n ∧ b 58 2 = nI n := by
  obtain ⟨n, hn, hd⟩ := R.W.1
  exact ⟨n, hn, hd, R.E7.2.2.2.trans hd⟩
theorem Rel2.st (R : Rel2 a b ln N q) : ∃ st, st ≤ 9999 ∧ a 1 9 = nI st ∧ b 58 0 = nI st := by
  obtain ⟨n, hn, hd⟩ := R.T.2.1
  exact ⟨n, hn, hd, R.E7.2.2.1.trans hd⟩
theorem Rel2.h01 (R : Rel2 a b ln N q) : ∀ j, j < 8 → a 8 j = 0 ∨ a 8 j = 1 := fun j hj => (R.W.2.2 j hj).2.2.2.2.2.2
theorem Rel2.tx0 (R : Rel2 a b ln N q) : TxR (codL a ln) N (a 1 11) (b 58) 0 := R.T.2.2.2.2.2.2.2.2.1
theorem Rel2.tx1 (R : Rel2 a b ln N q) : TxR (codL a ln) N (a 1 12) (b 58) 1 := R.T.2.2.2.2.2.2.2.2.2
theorem Rel2.ix (R : Rel2 a b ln N q) : LawIx N (a 1 11) := R.tx0.ix
theorem Rel2.iy (R : Rel2 a b ln N q) : LawIx N (a 1 12) := R.tx1.ix
theorem Rel2.X0 (R : Rel2 a b ln N q) : TxOk (b 58) 0 := R.tx0.1
theorem Rel2.X1 (R : Rel2 a b ln N q) : TxOk (b 58) 1 := R.tx1.1
theorem Rel2.lk (R : Rel2 a b ln N q) : rkF (b 58) = lkF a ln (a 1 11) := by
  rw [lkC_e]
  exact (R.tx0.lk R.L.1).symm
theorem Rel2.bl (R : Rel2 a b ln N q) : rbF (b 58) = blF a ln (a 1 12) := by
  rw [blC_e]
  exact (R.tx1.bl R.L.1).symm
theorem Rel2.rd (R : Rel2 a b ln N q) {i c : Nat} (hi : i < 8) (hc : c < 6) : b 58 (16 + 6 * i + c) = a (3 + c) i := by
  have h := R.E7.1 (2 + c) (by omega) (by omega) i hi
  rw [← vr_c] at h
  rw [h]
  unfold vw
  rw [show 2 + c + 1 + 9 * 0 = 3 + c by omega]
theorem Rel2.rf (R : Rel2 a b ln N q) {i : Nat} (hi : i < 8) : b 58 (8 + i) = a 2 i := R.E7.1 1 (by omega) (by omega) i hi
theorem Rel2.wt (R : Rel2 a b ln N q) : b 58 7 = a 1 8 := R.E7.2.1
theorem Rel2.n2 (R : Rel2 a b ln N q) {n : Nat} (h : a 1 10 = nI n) : b 58 2 = nI n := R.E7.2.2.2.trans h
theorem Rel2.st2 (R : Rel2 a b ln N q) {n : Nat} (h : a 1 9 = nI n) : b 58 0 = nI n := R.E7.2.2.1.trans h
def kiF (a : MW) (i : Nat) : Nat := (a 3 i).toNatClampNeg
theorem Rel2.kx (R : Rel2 a b ln N q) : ∀ i, i < 8 → kiF a i < 7 ∧ a 3 i = nI (kiF a i) := fun i hi => by
  obtain ⟨c, hc, he⟩ := (R.W.2.2 i hi).2.1
  have h2 : a 3 i = nI c := he
  unfold kiF
  rw [h2, nI_clamp (by omega)]
  exact ⟨by omega, rfl⟩
theorem Rel2.ky (R : Rel2 a b ln N q) : ∀ i, i < 8 → kiF a i < 7 ∧ b 58 (16 + 6 * i + 0) = nI (kiF a i) := fun i hi => ⟨(R.kx i hi).1, (R.rd hi (by decide)).trans (R.kx i hi).2⟩
def shB (a : MW) (s : Nat) : Nat := (a (48 + 2 * s) 0).toNatClampNeg
def shL (a : MW) (s : Nat) : Nat := (a (48 + 2 * s) 1).toNatClampNeg
theorem Rel2.sh (R : Rel2 a b ln N q) : ∀ s, s < 4 → (shB a s = 0 ∨ shB a s = 8 ∨ shB a s = 16 ∨ shB a s = 32) ∧ shL a s ≤ 40 ∧ a (48 + 2 * s) 0 = nI (shB a s) ∧ a (48 + 2 * s) 1 = nI (shL a s) ∧ b 63 s = nI (shB a s) ∧ b 64 s = nI (shL a s) ∧ ∀ j, j < 40 → ∃ v, b 65 (40 * s + j) = narF (shB a s) v ∧ a (49 + 2 * s) j = lowF (shB a s) v := fun s hs => by
  obtain ⟨c, l, s1, s2, s3, s4, s5, s6, s7⟩ := R.2.2.2.2.2.1 s hs
  have e1 : (nI c).toNatClampNeg = c := nI_clamp (by omega)
  have e2 : (nI l).toNatClampNeg = l := nI_clamp (by omega)
  unfold shB shL
  rw [s3, s5, e1, e2]
  exact ⟨s1, s2, rfl, rfl, s4, s6, s7⟩
theorem Rel2.sx (R : Rel2 a b ln N q) : ∀ s, s < 4 → (shB a s = 0 ∨ shB a s = 8 ∨ shB a s = 16 ∨ shB a s = 32) ∧ shL a s ≤ 40 ∧ a (48 + 2 * s) 0 = nI (shB a s) ∧ a (48 + 2 * s) 1 = nI (shL a s) := fun s hs => ⟨(R.sh s hs).1, (R.sh s hs).2.1, (R.sh s hs).2.2.1, (R.sh s hs).2.2.2.1⟩
theorem Rel2.sy (R : Rel2 a b ln N q) : ∀ s, s < 4 → (shB a s = 0 ∨ shB a s = 8 ∨ shB a s = 16 ∨ shB a s = 32) ∧ shL a s ≤ 40 ∧ b 63 s = nI (shB a s) ∧ b 64 s = nI (shL a s) := fun s hs => ⟨(R.sh s hs).1, (R.sh s hs).2.1, (R.sh s hs).2.2.2.2.1, (R.sh s hs).2.2.2.2.2.1⟩
end
/-! A CALL ON BOTH SIDES -/
def Pair (xs : List Int32) (x y mc ms : Nat) (args : List Value) (eq : Prop) (m : MW) (ln : Nat → Nat) (N q : Nat) : Prop :=
  WP xs 1299 x mc ms (.ref 32 :: args) (H m ln N) (fun r h => ∃ z m1 ln1 N1, r = some (.int z) ∧ h = H m1 ln1 N1 ∧
    WP xs 1299 y 0 0 (.ref 89 :: args) (H m1 ln1 N1) (fun r2 h2 => ∃ z2 m2, r2 = some (.int z2) ∧ (eq → z2 = z) ∧ h2 = H m2 ln1 N1 ∧ Rel2 m2 m2 ln1 N1 (q + 1)))
/-- the class's end: answer and memory, and the reference's call from there -/
theorem pr_x {xs : List Int32} {y : Nat} {args : List Value} {eq : Prop} {q : Nat} {ln : Nat → Nat} {N : Nat} {z : Int32} {m1 : MW} (g : WP xs 1299 y 0 0 (.ref 89 :: args) (H m1 ln N) (fun r2 h2 => ∃ z2 m2, r2 = some (.int z2) ∧ (eq → z2 = z) ∧ h2 = H m2 ln N ∧ Rel2 m2 m2 ln N (q + 1))) : ∃ z' m1' ln1 N1, some (Value.int z) = some (.int z') ∧ H m1 ln N = H m1' ln1 N1 ∧
    WP xs 1299 y 0 0 (.ref 89 :: args) (H m1' ln1 N1) (fun r2 h2 => ∃ z2 m2, r2 = some (.int z2) ∧ (eq → z2 = z') ∧ h2 = H m2 ln1 N1 ∧ Rel2 m2 m2 ln1 N1 (q + 1)) := ⟨z, m1, ln, N, rfl, rfl, g⟩
theorem pr_m {eq : Prop} {q : Nat} {ln : Nat → Nat} {N : Nat} {z z2 : Int32} {m2 : MW} (e : eq → z2 = z) (R : Rel2 m2 m2 ln N (q + 1)) : ∃ z2' m2', some (Value.int z2) = some (.int z2') ∧ (eq → z2' = z) ∧ H m2 ln N = H m2' ln N ∧ Rel2 m2' m2' ln N (q + 1) := ⟨z2, m2, rfl, e, rfl, R⟩
/-- both count an ERROR -/
theorem Rel2.er2 {m m1 m2 : MW} {ln : Nat → Nat} {N q : Nat} (R : Rel2 m m ln N q) (hq : q < 512) (e : Nat) (hx : SmX m m1) (hm : SmM m m1) (hx2 : SmX (erm m1 e) m2) (hm2 : SmM m1 m2) : Rel2 (ers m2 e) (ers m2 e) ln N (q + 1) := by
  have R1 : Rel2 m1 m1 ln N q := R.fr hx hm
  have R2 : Rel2 (erm m1 e) (ers m1 e) ln N q := R1.er e
  refine (R2.fr (hx2.tr (fun k j c => upm_k _ _ (fun h => cXM c (by omega)))) ?_).nx hq
  show SmM (upm m1 62 e (m1 62 e + 1)) (upm m2 62 e (m2 62 e + 1))
  rw [hm2 62 e (by unfold cM; omega)]
  exact hm2.up _ _ _
theorem smx_er {m : MW} {e : Nat} : SmM m (erm m e) := fun k j c => upm_k _ _ (by have := (cM_n c).2.2.2; omega)
theorem smm_er {m : MW} {e : Nat} : SmX m (ers m e) := fun k j c => upm_k _ _ (fun h => cXM c (by omega))
theorem Rel2.e1 {m : MW} {ln : Nat → Nat} {N q : Nat} (R : Rel2 m m ln N q) (e : Nat) : Rel2 m (erm m e) ln N q := R.fr SmX.rf smx_er
theorem Rel2.ee {m : MW} {ln : Nat → Nat} {N q : Nat} (R : Rel2 m m ln N q) (hq : q < 512) (e : Nat) : Rel2 (ers (erm m e) e) (ers (erm m e) e) ln N (q + 1) := R.er2 hq e SmX.rf SmM.rf SmX.rf smx_er
theorem tI {c : Int32} {i : Nat} (h : c = nI i) (hi : i < 2147483648) : c.toInt = (i : Int) := (congrArg Int32.toInt h).trans (nI_toInt (by omega))
