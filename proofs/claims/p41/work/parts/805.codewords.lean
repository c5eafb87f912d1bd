section
/-! THE WORDS OF THE METHODS' BYTES -/
def beqB : List UInt8 → List UInt8 → Bool
  | [], [] => true
  | a :: s, b :: t => decide (a.toNat = b.toNat) && beqB s t
  | _, _ => false
theorem beqB_e : ∀ (a b : List UInt8), beqB a b = true → a = b
  | [], [], _ => rfl
  | [], _ :: _, h => by cases h
  | _ :: _, [], h => by cases h
  | a :: s, b :: t, h => by
    rw [beqB, Bool.and_eq_true] at h
    rw [UInt8.toNat_inj.mp (of_decide_eq_true h.1), beqB_e s t h.2]
theorem bytE : ∀ (a b : ByteArray), beqB a.data.toList b.data.toList = true → a = b := by
  rintro ⟨⟨la⟩⟩ ⟨⟨lb⟩⟩ h
  have h := beqB_e la lb h
  subst h
  rfl
def okC (y : Nat) : Bool := match (sgL.getD ((mPl y).1 / 64) [])[(mPl y).1 % 64]? with
  | some (.code m c x r) => decide (m = mNm y) && beqB c.data.toList (mCd y).data.toList && decide (x = mMx y) && decide (r = mRt y)
  | _ => false
set_option maxRecDepth 20000 in
theorem okC_0 : ∀ i, i < 10 → okC (0 + i) = true := by decide +kernel
set_option maxRecDepth 20000 in
theorem okC_1 : ∀ i, i < 10 → okC (10 + i) = true := by decide +kernel
set_option maxRecDepth 20000 in
theorem okC_2 : ∀ i, i < 10 → okC (20 + i) = true := by decide +kernel
set_option maxRecDepth 20000 in
theorem okC_3 : ∀ i, i < 10 → okC (30 + i) = true := by decide +kernel
set_option maxRecDepth 20000 in
theorem okC_4 : ∀ i, i < 10 → okC (40 + i) = true := by decide +kernel
set_option maxRecDepth 20000 in
theorem okC_5 : ∀ i, i < 10 → okC (50 + i) = true := by decide +kernel
set_option maxRecDepth 20000 in
theorem okC_6 : ∀ i, i < 10 → okC (60 + i) = true := by decide +kernel
set_option maxRecDepth 20000 in
theorem okC_7 : ∀ i, i < 10 → okC (70 + i) = true := by decide +kernel
set_option maxRecDepth 20000 in
theorem okC_8 : ∀ i, i < 10 → okC (80 + i) = true := by decide +kernel
set_option maxRecDepth 20000 in
theorem okC_9 : ∀ i, i < 10 → okC (90 + i) = true := by decide +kernel
set_option maxRecDepth 20000 in
theorem okC_10 : ∀ i, i < 10 → okC (100 + i) = true := by decide +kernel
set_option maxRecDepth 20000 in
theorem okC_11 : ∀ i, i < 10 → okC (110 + i) = true := by decide +kernel
set_option maxRecDepth 20000 in
theorem okC_12 : ∀ i, i < 10 → okC (120 + i) = true := by decide +kernel
set_option maxRecDepth 20000 in
theorem okC_13 : ∀ i, i < 10 → okC (130 + i) = true := by decide +kernel
set_option maxRecDepth 20000 in
theorem okC_14 : ∀ i, i < 10 → okC (140 + i) = true := by decide +kernel
set_option maxRecDepth 20000 in
theorem okC_15 : ∀ i, i < 10 → okC (150 + i) = true := by decide +kernel
set_option maxRecDepth 20000 in
theorem okC_16 : ∀ i, i < 10 → okC (160 + i) = true := by decide +kernel
set_option maxRecDepth 20000 in
theorem okC_17 : ∀ i, i < 10 → okC (170 + i) = true := by decide +kernel
set_option maxRecDepth 20000 in
theorem okC_18 : ∀ i, i < 10 → okC (180 + i) = true := by decide +kernel
theorem okC_all {y : Nat} (h : y < 190) : okC y = true := by
  have hq : ∀ j, j < 19 → ∀ i, i < 10 → okC (10 * j + i) = true := by
    intro j hj
    rcases (show j = 0 ∨ j = 1 ∨ j = 2 ∨ j = 3 ∨ j = 4 ∨ j = 5 ∨ j = 6 ∨ j = 7 ∨ j = 8 ∨ j = 9 ∨ j = 10 ∨ j = 11 ∨ j = 12 ∨ j = 13 ∨ j = 14 ∨ j = 15 ∨ j = 16 ∨ j = 17 ∨ j = 18 by omega) with h | h | h | h | h | h | h | h | h | h | h | h | h | h | h | h | h | h | h <;> subst h
    · exact okC_0
    · exact okC_1
    · exact okC_2
    · exact okC_3
    · exact okC_4
    · exact okC_5
    · exact okC_6
    · exact okC_7
    · exact okC_8
    · exact okC_9
    · exact okC_10
    · exact okC_11
    · exact okC_12
    · exact okC_13
    · exact okC_14
    · exact okC_15
    · exact okC_16
    · exact okC_17
    · exact okC_18
  have h1 : okC (10 * (y / 10) + y % 10) = true := hq (y / 10) (by omega) (y % 10) (by omega)
  rwa [show 10 * (y / 10) + y % 10 = y by omega] at h1
theorem cw_in {y : Nat} (h : y < 190) : Cond.code (mNm y) (mCd y) (mMx y) (mRt y) ∈ tblG := by
  have h1 := okC_all h
  unfold okC at h1
  split at h1
  · next m c x r e =>
    simp only [Bool.and_eq_true, decide_eq_true_eq] at h1
    obtain ⟨⟨⟨a1, a2⟩, a3⟩, a4⟩ := h1
    have a5 := bytE _ _ a2
    rw [← a1, ← a5, ← a3, ← a4]
    exact List.mem_filter.mpr ⟨sgL_w e, rfl⟩
  · cases h1
end
section
/-! THE BYTES: an instruction off the bytes that stand at its place -/
def rdA (A : ByteArray) (p n : Nat) : Prop := ∃ h : p < A.size, (A[p]'h).toNat = n
theorem rx_u (A : ByteArray) (p : Nat) : (Reader.u1 : Decoder Nat) A p = if h : p < A.size then .ok ((A[p]'h).toNat, p + 1) else .error (HasTruncated.truncated p) := by
  show (dite (p < A.size) (fun h => (do set (p + 1); pure (A[p]'h).toNat : Decoder Nat)) (fun _ => MonadExcept.throw (HasTruncated.truncated p))) A p = _
  by_cases h : p < A.size
  · rw [dif_pos h, dif_pos h]; rfl
  · rw [dif_neg h, dif_neg h]; rfl
theorem u1_e {A : ByteArray} {p n : Nat} (h : rdA A p n) : (Reader.u1 : Decoder Nat) A p = .ok (n, p + 1) := by
  obtain ⟨h1, h2⟩ := h
  rw [rx_u, dif_pos h1, h2]
theorem runx {α β : Type} {x : Decoder α} {f : α → Decoder β} {A : ByteArray} {p q : Nat} {a : α} {r : Except DecodeError (β × Nat)} (hx : x A p = .ok (a, q)) (h : f a A q = r) : (x >>= f) A p = r := by
  have e : (x >>= f) A p = Except.bind (x A p) (fun z => f z.1 A z.2) := rfl
  rw [e, hx]
  exact h
theorem mapx {α β : Type} {x : Decoder α} {f : α → β} {A : ByteArray} {p q : Nat} {a : α} (hx : x A p = .ok (a, q)) : (f <$> x) A p = .ok (f a, q) := by
  have e : (f <$> x) A p = Except.bind (x A p) (fun z => .ok (f z.1, z.2)) := rfl
  rw [e, hx]
  rfl
theorem u2_e {A : ByteArray} {p a b : Nat} (h : rdA A p a) (h1 : rdA A (p + 1) b) : (Reader.u2 : Decoder Nat) A p = .ok (a * 256 + b, p + 2) := by
  unfold Reader.u2
  exact runx (u1_e h) (runx (u1_e h1) rfl)
theorem s1_e {A : ByteArray} {p a : Nat} (h : rdA A p a) : (Reader.s1 : Decoder Int) A p = .ok (Reader.signed 8 a, p + 1) := mapx (u1_e h)
theorem s2_e {A : ByteArray} {p a b : Nat} (h : rdA A p a) (h1 : rdA A (p + 1) b) : (Reader.s2 : Decoder Int) A p = .ok (Reader.signed 16 (a * 256 + b), p + 2) := mapx (u2_e h h1)
theorem rd_of {A : ByteArray} {p : Nat} {b : UInt8} {t : List UInt8} (h : A.data.toList.drop p = b :: t) : rdA A p b.toNat ∧ A.data.toList.drop (p + 1) = t := by
  have hl : p < A.data.toList.length := by
    rcases Nat.lt_or_ge p A.data.toList.length with h1 | h1
    · exact h1
    · rw [List.drop_eq_nil_of_le h1] at h
      cases h
  rw [List.drop_eq_getElem_cons hl] at h
  injection h with h1 h2
  refine ⟨⟨by simpa using hl, ?_⟩, h2⟩
  rw [← h1]
  rfl
def zb0 (c : Nat) (s : List UInt8) : Nat := match s with
  | b :: _ => bif decide (b.toNat = c) then 1 else 0
  | _ => 0
def zb1 (c : Nat) (v : Nat → Bool) (s : List UInt8) : Nat := match s with
  | b :: d :: _ => bif decide (b.toNat = c) && v d.toNat then 2 else 0
  | _ => 0
def zb2 (c : Nat) (v : Nat → Nat → Bool) (s : List UInt8) : Nat := match s with
  | b :: d :: f :: _ => bif decide (b.toNat = c) && v d.toNat f.toNat then 3 else 0
  | _ => 0
def zbI (n : Int) (s : List UInt8) : Nat := match s with
  | b :: _ => bif decide (2 ≤ b.toNat) && decide (b.toNat ≤ 8) && decide ((b.toNat : Int) = n + 3) then 1 else 0
  | _ => 0
theorem zq0 {A : ByteArray} {p c : Nat} {s : List UInt8} {i : Instr} (hs : A.data.toList.drop p = s) (h : 0 < zb0 c s) (k : rdA A p c → Decoder.instr p A p = .ok (i, p + 1)) : Decoder.instr p A p = .ok (i, p + zb0 c s) := by
  cases s with
  | nil => exact absurd h (Nat.lt_irrefl 0)
  | cons b t =>
    have h1 := rd_of hs
    cases e : decide (b.toNat = c) with
    | false =>
      have ex2 : zb0 c (b :: t) = 0 := by
        show (bif decide (b.toNat = c) then 1 else 0) = 0
        rw [e]
        rfl
      rw [ex2] at h
      exact absurd h (Nat.lt_irrefl 0)
    | true =>
      have ex2 : zb0 c (b :: t) = 1 := by
        show (bif decide (b.toNat = c) then 1 else 0) = 1
        rw [e]
        rfl
      rw [ex2]
      exact k (of_decide_eq_true e ▸ h1.1)
theorem zq1 {A : ByteArray} {p c : Nat} {v : Nat → Bool} {s : List UInt8} {i : Instr} (hs : A.data.toList.drop p = s) (h : 0 < zb1 c v s) (k : ∀ a, rdA A p c → rdA A (p + 1) a → v a = true → Decoder.instr p A p = .ok (i, p + 2)) : Decoder.instr p A p = .ok (i, p + zb1 c v s) := by
  cases s with
  | nil => exact absurd h (Nat.lt_irrefl 0)
  | cons b t =>
    have h1 := rd_of hs
    cases t with
    | nil => exact absurd h (Nat.lt_irrefl 0)
    | cons d t =>
      have h2 := rd_of h1.2
      cases e : (decide (b.toNat = c) && v d.toNat) with
      | false =>
        have ex2 : zb1 c v (b :: d :: t) = 0 := by
          show (bif decide (b.toNat = c) && v d.toNat then 2 else 0) = 0
          rw [e]
          rfl
        rw [ex2] at h
        exact absurd h (Nat.lt_irrefl 0)
      | true =>
        have ex2 : zb1 c v (b :: d :: t) = 2 := by
          show (bif decide (b.toNat = c) && v d.toNat then 2 else 0) = 2
          rw [e]
          rfl
        rw [Bool.and_eq_true] at e
        rw [ex2]
        exact k d.toNat (of_decide_eq_true e.1 ▸ h1.1) h2.1 e.2
theorem zq2 {A : ByteArray} {p c : Nat} {v : Nat → Nat → Bool} {s : List UInt8} {i : Instr} (hs : A.data.toList.drop p = s) (h : 0 < zb2 c v s) (k : ∀ a b, rdA A p c → rdA A (p + 1) a → rdA A (p + 1 + 1) b → v a b = true → Decoder.instr p A p = .ok (i, p + 3)) : Decoder.instr p A p = .ok (i, p + zb2 c v s) := by
  cases s with
  | nil => exact absurd h (Nat.lt_irrefl 0)
  | cons b t =>
    have h1 := rd_of hs
    cases t with
    | nil => exact absurd h (Nat.lt_irrefl 0)
    | cons d t =>
      have h2 := rd_of h1.2
      cases t with
      | nil => exact absurd h (Nat.lt_irrefl 0)
      | cons f t =>
        have h3 := rd_of h2.2
        cases e : (decide (b.toNat = c) && v d.toNat f.toNat) with
        | false =>
          have ex2 : zb2 c v (b :: d :: f :: t) = 0 := by
            show (bif decide (b.toNat = c) && v d.toNat f.toNat then 3 else 0) = 0
            rw [e]
            rfl
          rw [ex2] at h
          exact absurd h (Nat.lt_irrefl 0)
        | true =>
          have ex2 : zb2 c v (b :: d :: f :: t) = 3 := by
            show (bif decide (b.toNat = c) && v d.toNat f.toNat then 3 else 0) = 3
            rw [e]
            rfl
          rw [Bool.and_eq_true] at e
          rw [ex2]
          exact k d.toNat f.toNat (of_decide_eq_true e.1 ▸ h1.1) h2.1 h3.1 e.2
set_option maxRecDepth 20000 in
theorem wx_aaload {A : ByteArray} {p : Nat} (h0 : rdA A p 50) : Decoder.instr p A p = .ok (.aaload, p + 1) := by
  unfold Decoder.instr
  exact runx (u1_e h0) rfl
set_option maxRecDepth 20000 in
theorem wx_aastore {A : ByteArray} {p : Nat} (h0 : rdA A p 83) : Decoder.instr p A p = .ok (.aastore, p + 1) := by
  unfold Decoder.instr
  exact runx (u1_e h0) rfl
set_option maxRecDepth 20000 in
theorem wx_aconst_null {A : ByteArray} {p : Nat} (h0 : rdA A p 1) : Decoder.instr p A p = .ok (.aconst_null, p + 1) := by
  unfold Decoder.instr
  exact runx (u1_e h0) rfl
set_option maxRecDepth 20000 in
theorem wx_areturn {A : ByteArray} {p : Nat} (h0 : rdA A p 176) : Decoder.instr p A p = .ok (.areturn, p + 1) := by
  unfold Decoder.instr
  exact runx (u1_e h0) rfl
set_option maxRecDepth 20000 in
theorem wx_arraylength {A : ByteArray} {p : Nat} (h0 : rdA A p 190) : Decoder.instr p A p = .ok (.arraylength, p + 1) := by
  unfold Decoder.instr
  exact runx (u1_e h0) rfl
set_option maxRecDepth 20000 in
theorem wx_baload {A : ByteArray} {p : Nat} (h0 : rdA A p 51) : Decoder.instr p A p = .ok (.baload, p + 1) := by
  unfold Decoder.instr
  exact runx (u1_e h0) rfl
set_option maxRecDepth 20000 in
theorem wx_bastore {A : ByteArray} {p : Nat} (h0 : rdA A p 84) : Decoder.instr p A p = .ok (.bastore, p + 1) := by
  unfold Decoder.instr
  exact runx (u1_e h0) rfl
set_option maxRecDepth 20000 in
theorem wx_dup {A : ByteArray} {p : Nat} (h0 : rdA A p 89) : Decoder.instr p A p = .ok (.dup, p + 1) := by
  unfold Decoder.instr
  exact runx (u1_e h0) rfl
set_option maxRecDepth 20000 in
theorem wx_dup2 {A : ByteArray} {p : Nat} (h0 : rdA A p 92) : Decoder.instr p A p = .ok (.dup2, p + 1) := by
  unfold Decoder.instr
  exact runx (u1_e h0) rfl
set_option maxRecDepth 20000 in
theorem wx_i2b {A : ByteArray} {p : Nat} (h0 : rdA A p 145) : Decoder.instr p A p = .ok (.i2b, p + 1) := by
  unfold Decoder.instr
  exact runx (u1_e h0) rfl
set_option maxRecDepth 20000 in
theorem wx_i2c {A : ByteArray} {p : Nat} (h0 : rdA A p 146) : Decoder.instr p A p = .ok (.i2c, p + 1) := by
  unfold Decoder.instr
  exact runx (u1_e h0) rfl
set_option maxRecDepth 20000 in
theorem wx_i2l {A : ByteArray} {p : Nat} (h0 : rdA A p 133) : Decoder.instr p A p = .ok (.i2l, p + 1) := by
  unfold Decoder.instr
  exact runx (u1_e h0) rfl
set_option maxRecDepth 20000 in
theorem wx_i2s {A : ByteArray} {p : Nat} (h0 : rdA A p 147) : Decoder.instr p A p = .ok (.i2s, p + 1) := by
  unfold Decoder.instr
  exact runx (u1_e h0) rfl
set_option maxRecDepth 20000 in
theorem wx_iadd {A : ByteArray} {p : Nat} (h0 : rdA A p 96) : Decoder.instr p A p = .ok (.iadd, p + 1) := by
  unfold Decoder.instr
  exact runx (u1_e h0) rfl
set_option maxRecDepth 20000 in
theorem wx_iaload {A : ByteArray} {p : Nat} (h0 : rdA A p 46) : Decoder.instr p A p = .ok (.iaload, p + 1) := by
  unfold Decoder.instr
  exact runx (u1_e h0) rfl
set_option maxRecDepth 20000 in
theorem wx_iand {A : ByteArray} {p : Nat} (h0 : rdA A p 126) : Decoder.instr p A p = .ok (.iand, p + 1) := by
  unfold Decoder.instr
  exact runx (u1_e h0) rfl
set_option maxRecDepth 20000 in
theorem wx_iastore {A : ByteArray} {p : Nat} (h0 : rdA A p 79) : Decoder.instr p A p = .ok (.iastore, p + 1) := by
  unfold Decoder.instr
  exact runx (u1_e h0) rfl
set_option maxRecDepth 20000 in
theorem wx_idiv {A : ByteArray} {p : Nat} (h0 : rdA A p 108) : Decoder.instr p A p = .ok (.idiv, p + 1) := by
  unfold Decoder.instr
  exact runx (u1_e h0) rfl
set_option maxRecDepth 20000 in
theorem wx_imul {A : ByteArray} {p : Nat} (h0 : rdA A p 104) : Decoder.instr p A p = .ok (.imul, p + 1) := by
  unfold Decoder.instr
  exact runx (u1_e h0) rfl
set_option maxRecDepth 20000 in
theorem wx_ineg {A : ByteArray} {p : Nat} (h0 : rdA A p 116) : Decoder.instr p A p = .ok (.ineg, p + 1) := by
  unfold Decoder.instr
  exact runx (u1_e h0) rfl
set_option maxRecDepth 20000 in
theorem wx_ior {A : ByteArray} {p : Nat} (h0 : rdA A p 128) : Decoder.instr p A p = .ok (.ior, p + 1) := by
  unfold Decoder.instr
  exact runx (u1_e h0) rfl
set_option maxRecDepth 20000 in
theorem wx_irem {A : ByteArray} {p : Nat} (h0 : rdA A p 112) : Decoder.instr p A p = .ok (.irem, p + 1) := by
  unfold Decoder.instr
  exact runx (u1_e h0) rfl
set_option maxRecDepth 20000 in
theorem wx_ireturn {A : ByteArray} {p : Nat} (h0 : rdA A p 172) : Decoder.instr p A p = .ok (.ireturn, p + 1) := by
  unfold Decoder.instr
  exact runx (u1_e h0) rfl
set_option maxRecDepth 20000 in
theorem wx_ishl {A : ByteArray} {p : Nat} (h0 : rdA A p 120) : Decoder.instr p A p = .ok (.ishl, p + 1) := by
  unfold Decoder.instr
  exact runx (u1_e h0) rfl
set_option maxRecDepth 20000 in
theorem wx_ishr {A : ByteArray} {p : Nat} (h0 : rdA A p 122) : Decoder.instr p A p = .ok (.ishr, p + 1) := by
  unfold Decoder.instr
  exact runx (u1_e h0) rfl
set_option maxRecDepth 20000 in
theorem wx_isub {A : ByteArray} {p : Nat} (h0 : rdA A p 100) : Decoder.instr p A p = .ok (.isub, p + 1) := by
  unfold Decoder.instr
  exact runx (u1_e h0) rfl
set_option maxRecDepth 20000 in
theorem wx_iushr {A : ByteArray} {p : Nat} (h0 : rdA A p 124) : Decoder.instr p A p = .ok (.iushr, p + 1) := by
  unfold Decoder.instr
  exact runx (u1_e h0) rfl
set_option maxRecDepth 20000 in
theorem wx_ixor {A : ByteArray} {p : Nat} (h0 : rdA A p 130) : Decoder.instr p A p = .ok (.ixor, p + 1) := by
  unfold Decoder.instr
  exact runx (u1_e h0) rfl
set_option maxRecDepth 20000 in
theorem wx_l2i {A : ByteArray} {p : Nat} (h0 : rdA A p 136) : Decoder.instr p A p = .ok (.l2i, p + 1) := by
  unfold Decoder.instr
  exact runx (u1_e h0) rfl
set_option maxRecDepth 20000 in
theorem wx_land {A : ByteArray} {p : Nat} (h0 : rdA A p 127) : Decoder.instr p A p = .ok (.land, p + 1) := by
  unfold Decoder.instr
  exact runx (u1_e h0) rfl
set_option maxRecDepth 20000 in
theorem wx_lor {A : ByteArray} {p : Nat} (h0 : rdA A p 129) : Decoder.instr p A p = .ok (.lor, p + 1) := by
  unfold Decoder.instr
  exact runx (u1_e h0) rfl
set_option maxRecDepth 20000 in
theorem wx_lshl {A : ByteArray} {p : Nat} (h0 : rdA A p 121) : Decoder.instr p A p = .ok (.lshl, p + 1) := by
  unfold Decoder.instr
  exact runx (u1_e h0) rfl
set_option maxRecDepth 20000 in
theorem wx_lshr {A : ByteArray} {p : Nat} (h0 : rdA A p 123) : Decoder.instr p A p = .ok (.lshr, p + 1) := by
  unfold Decoder.instr
  exact runx (u1_e h0) rfl
set_option maxRecDepth 20000 in
theorem wx_lushr {A : ByteArray} {p : Nat} (h0 : rdA A p 125) : Decoder.instr p A p = .ok (.lushr, p + 1) := by
  unfold Decoder.instr
  exact runx (u1_e h0) rfl
set_option maxRecDepth 20000 in
theorem wx_pop {A : ByteArray} {p : Nat} (h0 : rdA A p 87) : Decoder.instr p A p = .ok (.pop, p + 1) := by
  unfold Decoder.instr
  exact runx (u1_e h0) rfl
set_option maxRecDepth 20000 in
theorem wx_return_ {A : ByteArray} {p : Nat} (h0 : rdA A p 177) : Decoder.instr p A p = .ok (.return_, p + 1) := by
  unfold Decoder.instr
  exact runx (u1_e h0) rfl
set_option maxRecDepth 20000 in
theorem wx_aload_n0 {A : ByteArray} {p : Nat} (h0 : rdA A p 42) : Decoder.instr p A p = .ok (.aload_n 0, p + 1) := by
  unfold Decoder.instr
  exact runx (u1_e h0) rfl
set_option maxRecDepth 20000 in
theorem wx_aload_n1 {A : ByteArray} {p : Nat} (h0 : rdA A p 43) : Decoder.instr p A p = .ok (.aload_n 1, p + 1) := by
  unfold Decoder.instr
  exact runx (u1_e h0) rfl
set_option maxRecDepth 20000 in
theorem wx_aload_n2 {A : ByteArray} {p : Nat} (h0 : rdA A p 44) : Decoder.instr p A p = .ok (.aload_n 2, p + 1) := by
  unfold Decoder.instr
  exact runx (u1_e h0) rfl
set_option maxRecDepth 20000 in
theorem wx_aload_n3 {A : ByteArray} {p : Nat} (h0 : rdA A p 45) : Decoder.instr p A p = .ok (.aload_n 3, p + 1) := by
  unfold Decoder.instr
  exact runx (u1_e h0) rfl
set_option maxRecDepth 20000 in
theorem wx_astore_n0 {A : ByteArray} {p : Nat} (h0 : rdA A p 75) : Decoder.instr p A p = .ok (.astore_n 0, p + 1) := by
  unfold Decoder.instr
  exact runx (u1_e h0) rfl
set_option maxRecDepth 20000 in
theorem wx_astore_n1 {A : ByteArray} {p : Nat} (h0 : rdA A p 76) : Decoder.instr p A p = .ok (.astore_n 1, p + 1) := by
  unfold Decoder.instr
  exact runx (u1_e h0) rfl
set_option maxRecDepth 20000 in
theorem wx_astore_n2 {A : ByteArray} {p : Nat} (h0 : rdA A p 77) : Decoder.instr p A p = .ok (.astore_n 2, p + 1) := by
  unfold Decoder.instr
  exact runx (u1_e h0) rfl
set_option maxRecDepth 20000 in
theorem wx_astore_n3 {A : ByteArray} {p : Nat} (h0 : rdA A p 78) : Decoder.instr p A p = .ok (.astore_n 3, p + 1) := by
  unfold Decoder.instr
  exact runx (u1_e h0) rfl
set_option maxRecDepth 20000 in
theorem wx_iload_n0 {A : ByteArray} {p : Nat} (h0 : rdA A p 26) : Decoder.instr p A p = .ok (.iload_n 0, p + 1) := by
  unfold Decoder.instr
  exact runx (u1_e h0) rfl
set_option maxRecDepth 20000 in
theorem wx_iload_n1 {A : ByteArray} {p : Nat} (h0 : rdA A p 27) : Decoder.instr p A p = .ok (.iload_n 1, p + 1) := by
  unfold Decoder.instr
  exact runx (u1_e h0) rfl
set_option maxRecDepth 20000 in
theorem wx_iload_n2 {A : ByteArray} {p : Nat} (h0 : rdA A p 28) : Decoder.instr p A p = .ok (.iload_n 2, p + 1) := by
  unfold Decoder.instr
  exact runx (u1_e h0) rfl
set_option maxRecDepth 20000 in
theorem wx_iload_n3 {A : ByteArray} {p : Nat} (h0 : rdA A p 29) : Decoder.instr p A p = .ok (.iload_n 3, p + 1) := by
  unfold Decoder.instr
  exact runx (u1_e h0) rfl
set_option maxRecDepth 20000 in
theorem wx_istore_n0 {A : ByteArray} {p : Nat} (h0 : rdA A p 59) : Decoder.instr p A p = .ok (.istore_n 0, p + 1) := by
  unfold Decoder.instr
  exact runx (u1_e h0) rfl
set_option maxRecDepth 20000 in
theorem wx_istore_n1 {A : ByteArray} {p : Nat} (h0 : rdA A p 60) : Decoder.instr p A p = .ok (.istore_n 1, p + 1) := by
  unfold Decoder.instr
  exact runx (u1_e h0) rfl
set_option maxRecDepth 20000 in
theorem wx_istore_n2 {A : ByteArray} {p : Nat} (h0 : rdA A p 61) : Decoder.instr p A p = .ok (.istore_n 2, p + 1) := by
  unfold Decoder.instr
  exact runx (u1_e h0) rfl
set_option maxRecDepth 20000 in
theorem wx_istore_n3 {A : ByteArray} {p : Nat} (h0 : rdA A p 62) : Decoder.instr p A p = .ok (.istore_n 3, p + 1) := by
  unfold Decoder.instr
  exact runx (u1_e h0) rfl
set_option maxRecDepth 20000 in
theorem wx_lload_n0 {A : ByteArray} {p : Nat} (h0 : rdA A p 30) : Decoder.instr p A p = .ok (.lload_n 0, p + 1) := by
  unfold Decoder.instr
  exact runx (u1_e h0) rfl
set_option maxRecDepth 20000 in
theorem wx_lload_n1 {A : ByteArray} {p : Nat} (h0 : rdA A p 31) : Decoder.instr p A p = .ok (.lload_n 1, p + 1) := by
  unfold Decoder.instr
  exact runx (u1_e h0) rfl
set_option maxRecDepth 20000 in
theorem wx_lload_n2 {A : ByteArray} {p : Nat} (h0 : rdA A p 32) : Decoder.instr p A p = .ok (.lload_n 2, p + 1) := by
  unfold Decoder.instr
  exact runx (u1_e h0) rfl
set_option maxRecDepth 20000 in
theorem wx_lload_n3 {A : ByteArray} {p : Nat} (h0 : rdA A p 33) : Decoder.instr p A p = .ok (.lload_n 3, p + 1) := by
  unfold Decoder.instr
  exact runx (u1_e h0) rfl
set_option maxRecDepth 20000 in
theorem wx_iconstm1 {A : ByteArray} {p : Nat} (h0 : rdA A p 2) : Decoder.instr p A p = .ok (.iconst (-1), p + 1) := by
  unfold Decoder.instr
  exact runx (u1_e h0) rfl
set_option maxRecDepth 20000 in
theorem wx_iconst0 {A : ByteArray} {p : Nat} (h0 : rdA A p 3) : Decoder.instr p A p = .ok (.iconst (0), p + 1) := by
  unfold Decoder.instr
  exact runx (u1_e h0) rfl
set_option maxRecDepth 20000 in
theorem wx_iconst1 {A : ByteArray} {p : Nat} (h0 : rdA A p 4) : Decoder.instr p A p = .ok (.iconst (1), p + 1) := by
  unfold Decoder.instr
  exact runx (u1_e h0) rfl
set_option maxRecDepth 20000 in
theorem wx_iconst2 {A : ByteArray} {p : Nat} (h0 : rdA A p 5) : Decoder.instr p A p = .ok (.iconst (2), p + 1) := by
  unfold Decoder.instr
  exact runx (u1_e h0) rfl
set_option maxRecDepth 20000 in
theorem wx_iconst3 {A : ByteArray} {p : Nat} (h0 : rdA A p 6) : Decoder.instr p A p = .ok (.iconst (3), p + 1) := by
  unfold Decoder.instr
  exact runx (u1_e h0) rfl
set_option maxRecDepth 20000 in
theorem wx_iconst4 {A : ByteArray} {p : Nat} (h0 : rdA A p 7) : Decoder.instr p A p = .ok (.iconst (4), p + 1) := by
  unfold Decoder.instr
  exact runx (u1_e h0) rfl
set_option maxRecDepth 20000 in
theorem wx_iconst5 {A : ByteArray} {p : Nat} (h0 : rdA A p 8) : Decoder.instr p A p = .ok (.iconst (5), p + 1) := by
  unfold Decoder.instr
  exact runx (u1_e h0) rfl
set_option maxRecDepth 20000 in
theorem wx_aload {A : ByteArray} {p : Nat} {n : Nat} (a : Nat) (h0 : rdA A p 25) (h1 : rdA A (p + 1) a) (hv : decide (a = n) = true) : Decoder.instr p A p = .ok (.aload n, p + 2) := by
  have hv := of_decide_eq_true hv
  subst hv
  unfold Decoder.instr
  exact runx (u1_e h0) (runx (f := fun x => pure (Instr.aload x)) (u1_e h1) rfl)
set_option maxRecDepth 20000 in
theorem wx_astore {A : ByteArray} {p : Nat} {n : Nat} (a : Nat) (h0 : rdA A p 58) (h1 : rdA A (p + 1) a) (hv : decide (a = n) = true) : Decoder.instr p A p = .ok (.astore n, p + 2) := by
  have hv := of_decide_eq_true hv
  subst hv
  unfold Decoder.instr
  exact runx (u1_e h0) (runx (f := fun x => pure (Instr.astore x)) (u1_e h1) rfl)
set_option maxRecDepth 20000 in
theorem wx_iload {A : ByteArray} {p : Nat} {n : Nat} (a : Nat) (h0 : rdA A p 21) (h1 : rdA A (p + 1) a) (hv : decide (a = n) = true) : Decoder.instr p A p = .ok (.iload n, p + 2) := by
  have hv := of_decide_eq_true hv
  subst hv
  unfold Decoder.instr
  exact runx (u1_e h0) (runx (f := fun x => pure (Instr.iload x)) (u1_e h1) rfl)
set_option maxRecDepth 20000 in
theorem wx_istore {A : ByteArray} {p : Nat} {n : Nat} (a : Nat) (h0 : rdA A p 54) (h1 : rdA A (p + 1) a) (hv : decide (a = n) = true) : Decoder.instr p A p = .ok (.istore n, p + 2) := by
  have hv := of_decide_eq_true hv
  subst hv
  unfold Decoder.instr
  exact runx (u1_e h0) (runx (f := fun x => pure (Instr.istore x)) (u1_e h1) rfl)
set_option maxRecDepth 20000 in
theorem wx_ldc {A : ByteArray} {p : Nat} {n : Nat} (a : Nat) (h0 : rdA A p 18) (h1 : rdA A (p + 1) a) (hv : decide (a = n) = true) : Decoder.instr p A p = .ok (.ldc n, p + 2) := by
  have hv := of_decide_eq_true hv
  subst hv
  unfold Decoder.instr
  exact runx (u1_e h0) (runx (f := fun x => pure (Instr.ldc x)) (u1_e h1) rfl)
set_option maxRecDepth 20000 in
theorem wx_bipush {A : ByteArray} {p : Nat} {n : Int} (a : Nat) (h0 : rdA A p 16) (h1 : rdA A (p + 1) a) (hv : decide (Reader.signed 8 a = n) = true) : Decoder.instr p A p = .ok (.bipush n, p + 2) := by
  have hv := of_decide_eq_true hv
  subst hv
  unfold Decoder.instr
  exact runx (u1_e h0) (runx (f := fun x => pure (Instr.bipush x)) (s1_e h1) rfl)
set_option maxRecDepth 20000 in
theorem wx_anewarray {A : ByteArray} {p : Nat} {n : Nat} (a b : Nat) (h0 : rdA A p 189) (h1 : rdA A (p + 1) a) (h2 : rdA A (p + 1 + 1) b) (hv : decide (a * 256 + b = n) = true) : Decoder.instr p A p = .ok (.anewarray n, p + 3) := by
  have hv := of_decide_eq_true hv
  subst hv
  unfold Decoder.instr
  exact runx (u1_e h0) (runx (f := fun x => pure (Instr.anewarray x)) (u2_e h1 h2) rfl)
set_option maxRecDepth 20000 in
theorem wx_checkcast {A : ByteArray} {p : Nat} {n : Nat} (a b : Nat) (h0 : rdA A p 192) (h1 : rdA A (p + 1) a) (h2 : rdA A (p + 1 + 1) b) (hv : decide (a * 256 + b = n) = true) : Decoder.instr p A p = .ok (.checkcast n, p + 3) := by
  have hv := of_decide_eq_true hv
  subst hv
  unfold Decoder.instr
  exact runx (u1_e h0) (runx (f := fun x => pure (Instr.checkcast x)) (u2_e h1 h2) rfl)
set_option maxRecDepth 20000 in
theorem wx_getfield {A : ByteArray} {p : Nat} {n : Nat} (a b : Nat) (h0 : rdA A p 180) (h1 : rdA A (p + 1) a) (h2 : rdA A (p + 1 + 1) b) (hv : decide (a * 256 + b = n) = true) : Decoder.instr p A p = .ok (.getfield n, p + 3) := by
  have hv := of_decide_eq_true hv
  subst hv
  unfold Decoder.instr
  exact runx (u1_e h0) (runx (f := fun x => pure (Instr.getfield x)) (u2_e h1 h2) rfl)
set_option maxRecDepth 20000 in
theorem wx_getstatic {A : ByteArray} {p : Nat} {n : Nat} (a b : Nat) (h0 : rdA A p 178) (h1 : rdA A (p + 1) a) (h2 : rdA A (p + 1 + 1) b) (hv : decide (a * 256 + b = n) = true) : Decoder.instr p A p = .ok (.getstatic n, p + 3) := by
  have hv := of_decide_eq_true hv
  subst hv
  unfold Decoder.instr
  exact runx (u1_e h0) (runx (f := fun x => pure (Instr.getstatic x)) (u2_e h1 h2) rfl)
set_option maxRecDepth 20000 in
theorem wx_invokespecial {A : ByteArray} {p : Nat} {n : Nat} (a b : Nat) (h0 : rdA A p 183) (h1 : rdA A (p + 1) a) (h2 : rdA A (p + 1 + 1) b) (hv : decide (a * 256 + b = n) = true) : Decoder.instr p A p = .ok (.invokespecial n, p + 3) := by
  have hv := of_decide_eq_true hv
  subst hv
  unfold Decoder.instr
  exact runx (u1_e h0) (runx (f := fun x => pure (Instr.invokespecial x)) (u2_e h1 h2) rfl)
set_option maxRecDepth 20000 in
theorem wx_invokestatic {A : ByteArray} {p : Nat} {n : Nat} (a b : Nat) (h0 : rdA A p 184) (h1 : rdA A (p + 1) a) (h2 : rdA A (p + 1 + 1) b) (hv : decide (a * 256 + b = n) = true) : Decoder.instr p A p = .ok (.invokestatic n, p + 3) := by
  have hv := of_decide_eq_true hv
  subst hv
  unfold Decoder.instr
  exact runx (u1_e h0) (runx (f := fun x => pure (Instr.invokestatic x)) (u2_e h1 h2) rfl)
set_option maxRecDepth 20000 in
theorem wx_invokevirtual {A : ByteArray} {p : Nat} {n : Nat} (a b : Nat) (h0 : rdA A p 182) (h1 : rdA A (p + 1) a) (h2 : rdA A (p + 1 + 1) b) (hv : decide (a * 256 + b = n) = true) : Decoder.instr p A p = .ok (.invokevirtual n, p + 3) := by
  have hv := of_decide_eq_true hv
  subst hv
  unfold Decoder.instr
  exact runx (u1_e h0) (runx (f := fun x => pure (Instr.invokevirtual x)) (u2_e h1 h2) rfl)
set_option maxRecDepth 20000 in
theorem wx_ldc_w {A : ByteArray} {p : Nat} {n : Nat} (a b : Nat) (h0 : rdA A p 19) (h1 : rdA A (p + 1) a) (h2 : rdA A (p + 1 + 1) b) (hv : decide (a * 256 + b = n) = true) : Decoder.instr p A p = .ok (.ldc_w n, p + 3) := by
  have hv := of_decide_eq_true hv
  subst hv
  unfold Decoder.instr
  exact runx (u1_e h0) (runx (f := fun x => pure (Instr.ldc_w x)) (u2_e h1 h2) rfl)
set_option maxRecDepth 20000 in
theorem wx_ldc2_w {A : ByteArray} {p : Nat} {n : Nat} (a b : Nat) (h0 : rdA A p 20) (h1 : rdA A (p + 1) a) (h2 : rdA A (p + 1 + 1) b) (hv : decide (a * 256 + b = n) = true) : Decoder.instr p A p = .ok (.ldc2_w n, p + 3) := by
  have hv := of_decide_eq_true hv
  subst hv
  unfold Decoder.instr
  exact runx (u1_e h0) (runx (f := fun x => pure (Instr.ldc2_w x)) (u2_e h1 h2) rfl)
set_option maxRecDepth 20000 in
theorem wx_new {A : ByteArray} {p : Nat} {n : Nat} (a b : Nat) (h0 : rdA A p 187) (h1 : rdA A (p + 1) a) (h2 : rdA A (p + 1 + 1) b) (hv : decide (a * 256 + b = n) = true) : Decoder.instr p A p = .ok (.new n, p + 3) := by
  have hv := of_decide_eq_true hv
  subst hv
  unfold Decoder.instr
  exact runx (u1_e h0) (runx (f := fun x => pure (Instr.new x)) (u2_e h1 h2) rfl)
set_option maxRecDepth 20000 in
theorem wx_putfield {A : ByteArray} {p : Nat} {n : Nat} (a b : Nat) (h0 : rdA A p 181) (h1 : rdA A (p + 1) a) (h2 : rdA A (p + 1 + 1) b) (hv : decide (a * 256 + b = n) = true) : Decoder.instr p A p = .ok (.putfield n, p + 3) := by
  have hv := of_decide_eq_true hv
  subst hv
  unfold Decoder.instr
  exact runx (u1_e h0) (runx (f := fun x => pure (Instr.putfield x)) (u2_e h1 h2) rfl)
set_option maxRecDepth 20000 in
theorem wx_goto {A : ByteArray} {p : Nat} {n : Int} (a b : Nat) (h0 : rdA A p 167) (h1 : rdA A (p + 1) a) (h2 : rdA A (p + 1 + 1) b) (hv : decide (Reader.signed 16 (a * 256 + b) = n) = true) : Decoder.instr p A p = .ok (.goto n, p + 3) := by
  have hv := of_decide_eq_true hv
  subst hv
  unfold Decoder.instr
  exact runx (u1_e h0) (runx (f := fun x => pure (Instr.goto x)) (s2_e h1 h2) rfl)
set_option maxRecDepth 20000 in
theorem wx_ifnonnull {A : ByteArray} {p : Nat} {n : Int} (a b : Nat) (h0 : rdA A p 199) (h1 : rdA A (p + 1) a) (h2 : rdA A (p + 1 + 1) b) (hv : decide (Reader.signed 16 (a * 256 + b) = n) = true) : Decoder.instr p A p = .ok (.ifnonnull n, p + 3) := by
  have hv := of_decide_eq_true hv
  subst hv
  unfold Decoder.instr
  exact runx (u1_e h0) (runx (f := fun x => pure (Instr.ifnonnull x)) (s2_e h1 h2) rfl)
set_option maxRecDepth 20000 in
theorem wx_ifnull {A : ByteArray} {p : Nat} {n : Int} (a b : Nat) (h0 : rdA A p 198) (h1 : rdA A (p + 1) a) (h2 : rdA A (p + 1 + 1) b) (hv : decide (Reader.signed 16 (a * 256 + b) = n) = true) : Decoder.instr p A p = .ok (.ifnull n, p + 3) := by
  have hv := of_decide_eq_true hv
  subst hv
  unfold Decoder.instr
  exact runx (u1_e h0) (runx (f := fun x => pure (Instr.ifnull x)) (s2_e h1 h2) rfl)
set_option maxRecDepth 20000 in
theorem wx_sipush {A : ByteArray} {p : Nat} {n : Int} (a b : Nat) (h0 : rdA A p 17) (h1 : rdA A (p + 1) a) (h2 : rdA A (p + 1 + 1) b) (hv : decide (Reader.signed 16 (a * 256 + b) = n) = true) : Decoder.instr p A p = .ok (.sipush n, p + 3) := by
  have hv := of_decide_eq_true hv
  subst hv
  unfold Decoder.instr
  exact runx (u1_e h0) (runx (f := fun x => pure (Instr.sipush x)) (s2_e h1 h2) rfl)
set_option maxRecDepth 20000 in
theorem wx_ifCond_eq {A : ByteArray} {p : Nat} {n : Int} (a b : Nat) (h0 : rdA A p 153) (h1 : rdA A (p + 1) a) (h2 : rdA A (p + 1 + 1) b) (hv : decide (Reader.signed 16 (a * 256 + b) = n) = true) : Decoder.instr p A p = .ok (.ifCond .eq n, p + 3) := by
  have hv := of_decide_eq_true hv
  subst hv
  unfold Decoder.instr
  exact runx (u1_e h0) (runx (f := fun x => pure (Instr.ifCond .eq x)) (s2_e h1 h2) rfl)
set_option maxRecDepth 20000 in
theorem wx_ifCond_ne {A : ByteArray} {p : Nat} {n : Int} (a b : Nat) (h0 : rdA A p 154) (h1 : rdA A (p + 1) a) (h2 : rdA A (p + 1 + 1) b) (hv : decide (Reader.signed 16 (a * 256 + b) = n) = true) : Decoder.instr p A p = .ok (.ifCond .ne n, p + 3) := by
  have hv := of_decide_eq_true hv
  subst hv
  unfold Decoder.instr
  exact runx (u1_e h0) (runx (f := fun x => pure (Instr.ifCond .ne x)) (s2_e h1 h2) rfl)
set_option maxRecDepth 20000 in
theorem wx_ifCond_lt {A : ByteArray} {p : Nat} {n : Int} (a b : Nat) (h0 : rdA A p 155) (h1 : rdA A (p + 1) a) (h2 : rdA A (p + 1 + 1) b) (hv : decide (Reader.signed 16 (a * 256 + b) = n) = true) : Decoder.instr p A p = .ok (.ifCond .lt n, p + 3) := by
  have hv := of_decide_eq_true hv
  subst hv
  unfold Decoder.instr
  exact runx (u1_e h0) (runx (f := fun x => pure (Instr.ifCond .lt x)) (s2_e h1 h2) rfl)
set_option maxRecDepth 20000 in
theorem wx_ifCond_ge {A : ByteArray} {p : Nat} {n : Int} (a b : Nat) (h0 : rdA A p 156) (h1 : rdA A (p + 1) a) (h2 : rdA A (p + 1 + 1) b) (hv : decide (Reader.signed 16 (a * 256 + b) = n) = true) : Decoder.instr p A p = .ok (.ifCond .ge n, p + 3) := by
  have hv := of_decide_eq_true hv
  subst hv
  unfold Decoder.instr
  exact runx (u1_e h0) (runx (f := fun x => pure (Instr.ifCond .ge x)) (s2_e h1 h2) rfl)
set_option maxRecDepth 20000 in
theorem wx_ifCond_gt {A : ByteArray} {p : Nat} {n : Int} (a b : Nat) (h0 : rdA A p 157) (h1 : rdA A (p + 1) a) (h2 : rdA A (p + 1 + 1) b) (hv : decide (Reader.signed 16 (a * 256 + b) = n) = true) : Decoder.instr p A p = .ok (.ifCond .gt n, p + 3) := by
  have hv := of_decide_eq_true hv
  subst hv
  unfold Decoder.instr
  exact runx (u1_e h0) (runx (f := fun x => pure (Instr.ifCond .gt x)) (s2_e h1 h2) rfl)
set_option maxRecDepth 20000 in
theorem wx_ifCond_le {A : ByteArray} {p : Nat} {n : Int} (a b : Nat) (h0 : rdA A p 158) (h1 : rdA A (p + 1) a) (h2 : rdA A (p + 1 + 1) b) (hv : decide (Reader.signed 16 (a * 256 + b) = n) = true) : Decoder.instr p A p = .ok (.ifCond .le n, p + 3) := by
  have hv := of_decide_eq_true hv
  subst hv
  unfold Decoder.instr
  exact runx (u1_e h0) (runx (f := fun x => pure (Instr.ifCond .le x)) (s2_e h1 h2) rfl)
set_option maxRecDepth 20000 in
theorem wx_if_icmp_eq {A : ByteArray} {p : Nat} {n : Int} (a b : Nat) (h0 : rdA A p 159) (h1 : rdA A (p + 1) a) (h2 : rdA A (p + 1 + 1) b) (hv : decide (Reader.signed 16 (a * 256 + b) = n) = true) : Decoder.instr p A p = .ok (.if_icmp .eq n, p + 3) := by
  have hv := of_decide_eq_true hv
  subst hv
  unfold Decoder.instr
  exact runx (u1_e h0) (runx (f := fun x => pure (Instr.if_icmp .eq x)) (s2_e h1 h2) rfl)
set_option maxRecDepth 20000 in
theorem wx_if_icmp_ne {A : ByteArray} {p : Nat} {n : Int} (a b : Nat) (h0 : rdA A p 160) (h1 : rdA A (p + 1) a) (h2 : rdA A (p + 1 + 1) b) (hv : decide (Reader.signed 16 (a * 256 + b) = n) = true) : Decoder.instr p A p = .ok (.if_icmp .ne n, p + 3) := by
  have hv := of_decide_eq_true hv
  subst hv
  unfold Decoder.instr
  exact runx (u1_e h0) (runx (f := fun x => pure (Instr.if_icmp .ne x)) (s2_e h1 h2) rfl)
set_option maxRecDepth 20000 in
theorem wx_if_icmp_lt {A : ByteArray} {p : Nat} {n : Int} (a b : Nat) (h0 : rdA A p 161) (h1 : rdA A (p + 1) a) (h2 : rdA A (p + 1 + 1) b) (hv : decide (Reader.signed 16 (a * 256 + b) = n) = true) : Decoder.instr p A p = .ok (.if_icmp .lt n, p + 3) := by
  have hv := of_decide_eq_true hv
  subst hv
  unfold Decoder.instr
  exact runx (u1_e h0) (runx (f := fun x => pure (Instr.if_icmp .lt x)) (s2_e h1 h2) rfl)
set_option maxRecDepth 20000 in
theorem wx_if_icmp_ge {A : ByteArray} {p : Nat} {n : Int} (a b : Nat) (h0 : rdA A p 162) (h1 : rdA A (p + 1) a) (h2 : rdA A (p + 1 + 1) b) (hv : decide (Reader.signed 16 (a * 256 + b) = n) = true) : Decoder.instr p A p = .ok (.if_icmp .ge n, p + 3) := by
  have hv := of_decide_eq_true hv
  subst hv
  unfold Decoder.instr
  exact runx (u1_e h0) (runx (f := fun x => pure (Instr.if_icmp .ge x)) (s2_e h1 h2) rfl)
set_option maxRecDepth 20000 in
theorem wx_if_icmp_gt {A : ByteArray} {p : Nat} {n : Int} (a b : Nat) (h0 : rdA A p 163) (h1 : rdA A (p + 1) a) (h2 : rdA A (p + 1 + 1) b) (hv : decide (Reader.signed 16 (a * 256 + b) = n) = true) : Decoder.instr p A p = .ok (.if_icmp .gt n, p + 3) := by
  have hv := of_decide_eq_true hv
  subst hv
  unfold Decoder.instr
  exact runx (u1_e h0) (runx (f := fun x => pure (Instr.if_icmp .gt x)) (s2_e h1 h2) rfl)
set_option maxRecDepth 20000 in
theorem wx_if_icmp_le {A : ByteArray} {p : Nat} {n : Int} (a b : Nat) (h0 : rdA A p 164) (h1 : rdA A (p + 1) a) (h2 : rdA A (p + 1 + 1) b) (hv : decide (Reader.signed 16 (a * 256 + b) = n) = true) : Decoder.instr p A p = .ok (.if_icmp .le n, p + 3) := by
  have hv := of_decide_eq_true hv
  subst hv
  unfold Decoder.instr
  exact runx (u1_e h0) (runx (f := fun x => pure (Instr.if_icmp .le x)) (s2_e h1 h2) rfl)
set_option maxRecDepth 20000 in
theorem wx_iinc {A : ByteArray} {p : Nat} {n : Nat} {m : Int} (a b : Nat) (h0 : rdA A p 132) (h1 : rdA A (p + 1) a) (h2 : rdA A (p + 1 + 1) b) (hv : (decide (a = n) && decide (Reader.signed 8 b = m)) = true) : Decoder.instr p A p = .ok (.iinc n m, p + 3) := by
  rw [Bool.and_eq_true] at hv
  have hv1 := of_decide_eq_true hv.1
  have hv2 := of_decide_eq_true hv.2
  subst hv1
  subst hv2
  unfold Decoder.instr
  exact runx (u1_e h0) (runx (f := fun x => Reader.s1 >>= fun y => pure (Instr.iinc x y)) (u1_e h1) (runx (f := fun y => pure (Instr.iinc a y)) (s1_e h2) rfl))
set_option maxRecDepth 20000 in
theorem wx_newarray_boolean {A : ByteArray} {p : Nat} (a : Nat) (h0 : rdA A p 188) (h1 : rdA A (p + 1) a) (hv : decide (a = 4) = true) : Decoder.instr p A p = .ok (.newarray .boolean, p + 2) := by
  have hv := of_decide_eq_true hv
  subst hv
  have h2 : (Decoder.newarray p : Decoder Instr) A (p + 1) = .ok (.newarray .boolean, p + 2) := by
    unfold Decoder.newarray
    exact runx (u1_e h1) rfl
  unfold Decoder.instr
  exact runx (u1_e h0) h2
set_option maxRecDepth 20000 in
theorem wx_newarray_int {A : ByteArray} {p : Nat} (a : Nat) (h0 : rdA A p 188) (h1 : rdA A (p + 1) a) (hv : decide (a = 10) = true) : Decoder.instr p A p = .ok (.newarray .int, p + 2) := by
  have hv := of_decide_eq_true hv
  subst hv
  have h2 : (Decoder.newarray p : Decoder Instr) A (p + 1) = .ok (.newarray .int, p + 2) := by
    unfold Decoder.newarray
    exact runx (u1_e h1) rfl
  unfold Decoder.instr
  exact runx (u1_e h0) h2
def zbe (i : Instr) (s : List UInt8) : Nat := match i with
  | .aaload => zb0 50 s
  | .aastore => zb0 83 s
  | .aconst_null => zb0 1 s
  | .areturn => zb0 176 s
  | .arraylength => zb0 190 s
  | .baload => zb0 51 s
  | .bastore => zb0 84 s
  | .dup => zb0 89 s
  | .dup2 => zb0 92 s
  | .i2b => zb0 145 s
  | .i2c => zb0 146 s
  | .i2l => zb0 133 s
  | .i2s => zb0 147 s
  | .iadd => zb0 96 s
  | .iaload => zb0 46 s
  | .iand => zb0 126 s
  | .iastore => zb0 79 s
  | .idiv => zb0 108 s
  | .imul => zb0 104 s
  | .ineg => zb0 116 s
  | .ior => zb0 128 s
  | .irem => zb0 112 s
  | .ireturn => zb0 172 s
  | .ishl => zb0 120 s
  | .ishr => zb0 122 s
  | .isub => zb0 100 s
  | .iushr => zb0 124 s
  | .ixor => zb0 130 s
  | .l2i => zb0 136 s
  | .land => zb0 127 s
  | .lor => zb0 129 s
  | .lshl => zb0 121 s
  | .lshr => zb0 123 s
  | .lushr => zb0 125 s
  | .pop => zb0 87 s
  | .return_ => zb0 177 s
  | .aload_n k => zb0 (42 + k.val) s
  | .astore_n k => zb0 (75 + k.val) s
  | .iload_n k => zb0 (26 + k.val) s
  | .istore_n k => zb0 (59 + k.val) s
  | .lload_n k => zb0 (30 + k.val) s
  | .iconst n => zbI n s
  | .aload n => zb1 25 (fun a => decide (a = n)) s
  | .astore n => zb1 58 (fun a => decide (a = n)) s
  | .iload n => zb1 21 (fun a => decide (a = n)) s
  | .istore n => zb1 54 (fun a => decide (a = n)) s
  | .ldc n => zb1 18 (fun a => decide (a = n)) s
  | .bipush n => zb1 16 (fun a => decide (Reader.signed 8 a = n)) s
  | .anewarray n => zb2 189 (fun a b => decide (a * 256 + b = n)) s
  | .checkcast n => zb2 192 (fun a b => decide (a * 256 + b = n)) s
  | .getfield n => zb2 180 (fun a b => decide (a * 256 + b = n)) s
  | .getstatic n => zb2 178 (fun a b => decide (a * 256 + b = n)) s
  | .invokespecial n => zb2 183 (fun a b => decide (a * 256 + b = n)) s
  | .invokestatic n => zb2 184 (fun a b => decide (a * 256 + b = n)) s
  | .invokevirtual n => zb2 182 (fun a b => decide (a * 256 + b = n)) s
  | .ldc_w n => zb2 19 (fun a b => decide (a * 256 + b = n)) s
  | .ldc2_w n => zb2 20 (fun a b => decide (a * 256 + b = n)) s
  | .new n => zb2 187 (fun a b => decide (a * 256 + b = n)) s
  | .putfield n => zb2 181 (fun a b => decide (a * 256 + b = n)) s
  | .goto n => zb2 167 (fun a b => decide (Reader.signed 16 (a * 256 + b) = n)) s
  | .ifnonnull n => zb2 199 (fun a b => decide (Reader.signed 16 (a * 256 + b) = n)) s
  | .ifnull n => zb2 198 (fun a b => decide (Reader.signed 16 (a * 256 + b) = n)) s
  | .sipush n => zb2 17 (fun a b => decide (Reader.signed 16 (a * 256 + b) = n)) s
  | .ifCond .eq n => zb2 153 (fun a b => decide (Reader.signed 16 (a * 256 + b) = n)) s
  | .ifCond .ne n => zb2 154 (fun a b => decide (Reader.signed 16 (a * 256 + b) = n)) s
  | .ifCond .lt n => zb2 155 (fun a b => decide (Reader.signed 16 (a * 256 + b) = n)) s
  | .ifCond .ge n => zb2 156 (fun a b => decide (Reader.signed 16 (a * 256 + b) = n)) s
  | .ifCond .gt n => zb2 157 (fun a b => decide (Reader.signed 16 (a * 256 + b) = n)) s
  | .ifCond .le n => zb2 158 (fun a b => decide (Reader.signed 16 (a * 256 + b) = n)) s
  | .if_icmp .eq n => zb2 159 (fun a b => decide (Reader.signed 16 (a * 256 + b) = n)) s
  | .if_icmp .ne n => zb2 160 (fun a b => decide (Reader.signed 16 (a * 256 + b) = n)) s
  | .if_icmp .lt n => zb2 161 (fun a b => decide (Reader.signed 16 (a * 256 + b) = n)) s
  | .if_icmp .ge n => zb2 162 (fun a b => decide (Reader.signed 16 (a * 256 + b) = n)) s
  | .if_icmp .gt n => zb2 163 (fun a b => decide (Reader.signed 16 (a * 256 + b) = n)) s
  | .if_icmp .le n => zb2 164 (fun a b => decide (Reader.signed 16 (a * 256 + b) = n)) s
  | .iinc n m => zb2 132 (fun a b => decide (a = n) && decide (Reader.signed 8 b = m)) s
  | .newarray .boolean => zb1 188 (fun a => decide (a = 4)) s
  | .newarray .int => zb1 188 (fun a => decide (a = 10)) s
  | _ => 0
theorem zbI_ok {A : ByteArray} {p : Nat} {s : List UInt8} {n : Int} (hs : A.data.toList.drop p = s) (h : 0 < zbI n s) : Decoder.instr p A p = .ok (.iconst n, p + zbI n s) := by
  cases s with
  | nil => exact absurd h (Nat.lt_irrefl 0)
  | cons b t =>
    have h1 := (rd_of hs).1
    cases e : (decide (2 ≤ b.toNat) && decide (b.toNat ≤ 8) && decide ((b.toNat : Int) = n + 3)) with
    | false =>
      have ex2 : zbI n (b :: t) = 0 := by
        show (bif decide (2 ≤ b.toNat) && decide (b.toNat ≤ 8) && decide ((b.toNat : Int) = n + 3) then 1 else 0) = 0
        rw [e]
        rfl
      rw [ex2] at h
      exact absurd h (Nat.lt_irrefl 0)
    | true =>
      have ex2 : zbI n (b :: t) = 1 := by
        show (bif decide (2 ≤ b.toNat) && decide (b.toNat ≤ 8) && decide ((b.toNat : Int) = n + 3) then 1 else 0) = 1
        rw [e]
        rfl
      rw [ex2]
      simp only [Bool.and_eq_true, decide_eq_true_eq] at e
      obtain ⟨⟨g1, g2⟩, g3⟩ := e
      generalize b.toNat = m at h1 g1 g2 g3
      rcases (show (m = 2 ∧ n = -1) ∨ (m = 3 ∧ n = 0) ∨ (m = 4 ∧ n = 1) ∨ (m = 5 ∧ n = 2) ∨ (m = 6 ∧ n = 3) ∨ (m = 7 ∧ n = 4) ∨ (m = 8 ∧ n = 5) by omega) with ⟨k1, k2⟩ | ⟨k1, k2⟩ | ⟨k1, k2⟩ | ⟨k1, k2⟩ | ⟨k1, k2⟩ | ⟨k1, k2⟩ | ⟨k1, k2⟩
      · rw [k1] at h1; rw [k2]; exact wx_iconstm1 h1
      · rw [k1] at h1; rw [k2]; exact wx_iconst0 h1
      · rw [k1] at h1; rw [k2]; exact wx_iconst1 h1
      · rw [k1] at h1; rw [k2]; exact wx_iconst2 h1
      · rw [k1] at h1; rw [k2]; exact wx_iconst3 h1
      · rw [k1] at h1; rw [k2]; exact wx_iconst4 h1
      · rw [k1] at h1; rw [k2]; exact wx_iconst5 h1
theorem zbe_ok {A : ByteArray} {p : Nat} {s : List UInt8} (hs : A.data.toList.drop p = s) (i : Instr) (h : 0 < zbe i s) : Decoder.instr p A p = .ok (i, p + zbe i s) := by
  cases i with
  | aaload => exact zq0 (c := 50) hs h wx_aaload
  | aastore => exact zq0 (c := 83) hs h wx_aastore
  | aconst_null => exact zq0 (c := 1) hs h wx_aconst_null
  | areturn => exact zq0 (c := 176) hs h wx_areturn
  | arraylength => exact zq0 (c := 190) hs h wx_arraylength
  | baload => exact zq0 (c := 51) hs h wx_baload
  | bastore => exact zq0 (c := 84) hs h wx_bastore
  | dup => exact zq0 (c := 89) hs h wx_dup
  | dup2 => exact zq0 (c := 92) hs h wx_dup2
  | i2b => exact zq0 (c := 145) hs h wx_i2b
  | i2c => exact zq0 (c := 146) hs h wx_i2c
  | i2l => exact zq0 (c := 133) hs h wx_i2l
  | i2s => exact zq0 (c := 147) hs h wx_i2s
  | iadd => exact zq0 (c := 96) hs h wx_iadd
  | iaload => exact zq0 (c := 46) hs h wx_iaload
  | iand => exact zq0 (c := 126) hs h wx_iand
  | iastore => exact zq0 (c := 79) hs h wx_iastore
  | idiv => exact zq0 (c := 108) hs h wx_idiv
  | imul => exact zq0 (c := 104) hs h wx_imul
  | ineg => exact zq0 (c := 116) hs h wx_ineg
  | ior => exact zq0 (c := 128) hs h wx_ior
  | irem => exact zq0 (c := 112) hs h wx_irem
  | ireturn => exact zq0 (c := 172) hs h wx_ireturn
  | ishl => exact zq0 (c := 120) hs h wx_ishl
  | ishr => exact zq0 (c := 122) hs h wx_ishr
  | isub => exact zq0 (c := 100) hs h wx_isub
  | iushr => exact zq0 (c := 124) hs h wx_iushr
  | ixor => exact zq0 (c := 130) hs h wx_ixor
  | l2i => exact zq0 (c := 136) hs h wx_l2i
  | land => exact zq0 (c := 127) hs h wx_land
  | lor => exact zq0 (c := 129) hs h wx_lor
  | lshl => exact zq0 (c := 121) hs h wx_lshl
  | lshr => exact zq0 (c := 123) hs h wx_lshr
  | lushr => exact zq0 (c := 125) hs h wx_lushr
  | pop => exact zq0 (c := 87) hs h wx_pop
  | return_ => exact zq0 (c := 177) hs h wx_return_
  | aload_n k =>
    obtain ⟨k, hk⟩ := k
    rcases (show k = 0 ∨ k = 1 ∨ k = 2 ∨ k = 3 by omega) with e | e | e | e <;> subst e
    · exact zq0 (c := 42) hs h wx_aload_n0
    · exact zq0 (c := 43) hs h wx_aload_n1
    · exact zq0 (c := 44) hs h wx_aload_n2
    · exact zq0 (c := 45) hs h wx_aload_n3
  | astore_n k =>
    obtain ⟨k, hk⟩ := k
    rcases (show k = 0 ∨ k = 1 ∨ k = 2 ∨ k = 3 by omega) with e | e | e | e <;> subst e
    · exact zq0 (c := 75) hs h wx_astore_n0
    · exact zq0 (c := 76) hs h wx_astore_n1
    · exact zq0 (c := 77) hs h wx_astore_n2
    · exact zq0 (c := 78) hs h wx_astore_n3
  | iload_n k =>
    obtain ⟨k, hk⟩ := k
    rcases (show k = 0 ∨ k = 1 ∨ k = 2 ∨ k = 3 by omega) with e | e | e | e <;> subst e
    · exact zq0 (c := 26) hs h wx_iload_n0
    · exact zq0 (c := 27) hs h wx_iload_n1
    · exact zq0 (c := 28) hs h wx_iload_n2
    · exact zq0 (c := 29) hs h wx_iload_n3
  | istore_n k =>
    obtain ⟨k, hk⟩ := k
    rcases (show k = 0 ∨ k = 1 ∨ k = 2 ∨ k = 3 by omega) with e | e | e | e <;> subst e
    · exact zq0 (c := 59) hs h wx_istore_n0
    · exact zq0 (c := 60) hs h wx_istore_n1
    · exact zq0 (c := 61) hs h wx_istore_n2
    · exact zq0 (c := 62) hs h wx_istore_n3
  | lload_n k =>
    obtain ⟨k, hk⟩ := k
    rcases (show k = 0 ∨ k = 1 ∨ k = 2 ∨ k = 3 by omega) with e | e | e | e <;> subst e
    · exact zq0 (c := 30) hs h wx_lload_n0
    · exact zq0 (c := 31) hs h wx_lload_n1
    · exact zq0 (c := 32) hs h wx_lload_n2
    · exact zq0 (c := 33) hs h wx_lload_n3
  | iconst n => exact zbI_ok hs h
  | aload n => exact zq1 (c := 25) (v := fun a => decide (a = n)) hs h wx_aload
  | astore n => exact zq1 (c := 58) (v := fun a => decide (a = n)) hs h wx_astore
  | iload n => exact zq1 (c := 21) (v := fun a => decide (a = n)) hs h wx_iload
  | istore n => exact zq1 (c := 54) (v := fun a => decide (a = n)) hs h wx_istore
  | ldc n => exact zq1 (c := 18) (v := fun a => decide (a = n)) hs h wx_ldc
  | bipush n => exact zq1 (c := 16) (v := fun a => decide (Reader.signed 8 a = n)) hs h wx_bipush
  | anewarray n => exact zq2 (c := 189) (v := fun a b => decide (a * 256 + b = n)) hs h wx_anewarray
  | checkcast n => exact zq2 (c := 192) (v := fun a b => decide (a * 256 + b = n)) hs h wx_checkcast
  | getfield n => exact zq2 (c := 180) (v := fun a b => decide (a * 256 + b = n)) hs h wx_getfield
  | getstatic n => exact zq2 (c := 178) (v := fun a b => decide (a * 256 + b = n)) hs h wx_getstatic
  | invokespecial n => exact zq2 (c := 183) (v := fun a b => decide (a * 256 + b = n)) hs h wx_invokespecial
  | invokestatic n => exact zq2 (c := 184) (v := fun a b => decide (a * 256 + b = n)) hs h wx_invokestatic
  | invokevirtual n => exact zq2 (c := 182) (v := fun a b => decide (a * 256 + b = n)) hs h wx_invokevirtual
  | ldc_w n => exact zq2 (c := 19) (v := fun a b => decide (a * 256 + b = n)) hs h wx_ldc_w
  | ldc2_w n => exact zq2 (c := 20) (v := fun a b => decide (a * 256 + b = n)) hs h wx_ldc2_w
  | new n => exact zq2 (c := 187) (v := fun a b => decide (a * 256 + b = n)) hs h wx_new
  | putfield n => exact zq2 (c := 181) (v := fun a b => decide (a * 256 + b = n)) hs h wx_putfield
  | goto n => exact zq2 (c := 167) (v := fun a b => decide (Reader.signed 16 (a * 256 + b) = n)) hs h wx_goto
  | ifnonnull n => exact zq2 (c := 199) (v := fun a b => decide (Reader.signed 16 (a * 256 + b) = n)) hs h wx_ifnonnull
  | ifnull n => exact zq2 (c := 198) (v := fun a b => decide (Reader.signed 16 (a * 256 + b) = n)) hs h wx_ifnull
  | sipush n => exact zq2 (c := 17) (v := fun a b => decide (Reader.signed 16 (a * 256 + b) = n)) hs h wx_sipush
  | ifCond c n =>
    cases c with
    | eq => exact zq2 (c := 153) (v := fun a b => decide (Reader.signed 16 (a * 256 + b) = n)) hs h wx_ifCond_eq
    | ne => exact zq2 (c := 154) (v := fun a b => decide (Reader.signed 16 (a * 256 + b) = n)) hs h wx_ifCond_ne
    | lt => exact zq2 (c := 155) (v := fun a b => decide (Reader.signed 16 (a * 256 + b) = n)) hs h wx_ifCond_lt
    | ge => exact zq2 (c := 156) (v := fun a b => decide (Reader.signed 16 (a * 256 + b) = n)) hs h wx_ifCond_ge
    | gt => exact zq2 (c := 157) (v := fun a b => decide (Reader.signed 16 (a * 256 + b) = n)) hs h wx_ifCond_gt
    | le => exact zq2 (c := 158) (v := fun a b => decide (Reader.signed 16 (a * 256 + b) = n)) hs h wx_ifCond_le
  | if_icmp c n =>
    cases c with
    | eq => exact zq2 (c := 159) (v := fun a b => decide (Reader.signed 16 (a * 256 + b) = n)) hs h wx_if_icmp_eq
    | ne => exact zq2 (c := 160) (v := fun a b => decide (Reader.signed 16 (a * 256 + b) = n)) hs h wx_if_icmp_ne
    | lt => exact zq2 (c := 161) (v := fun a b => decide (Reader.signed 16 (a * 256 + b) = n)) hs h wx_if_icmp_lt
    | ge => exact zq2 (c := 162) (v := fun a b => decide (Reader.signed 16 (a * 256 + b) = n)) hs h wx_if_icmp_ge
    | gt => exact zq2 (c := 163) (v := fun a b => decide (Reader.signed 16 (a * 256 + b) = n)) hs h wx_if_icmp_gt
    | le => exact zq2 (c := 164) (v := fun a b => decide (Reader.signed 16 (a * 256 + b) = n)) hs h wx_if_icmp_le
  | iinc n m => exact zq2 (c := 132) (v := fun a b => decide (a = n) && decide (Reader.signed 8 b = m)) hs h wx_iinc
  | newarray t =>
    cases t with
    | boolean => exact zq1 (c := 188) (v := fun a => decide (a = 4)) hs h wx_newarray_boolean
    | int => exact zq1 (c := 188) (v := fun a => decide (a = 10)) hs h wx_newarray_int
    | _ => exact absurd h (Nat.lt_irrefl 0)
  | _ => exact absurd h (Nat.lt_irrefl 0)
theorem dec_of {A : ByteArray} {p q : Nat} {i : Instr} (h : Decoder.instr p A p = .ok (i, q)) : decode A p = .ok (i, q - p) := by
  have e : decode A p = Except.bind (Decoder.instr p A p) (fun z => .ok (z.1, z.2 - p)) := rfl
  rw [e, h]
  rfl
theorem tl_dr {α : Type} : ∀ (l : List α) (k : Nat), (l.drop k).tail = l.drop (k + 1)
  | [], k => by simp
  | _ :: _, 0 => rfl
  | _ :: l, k + 1 => tl_dr l k
end
