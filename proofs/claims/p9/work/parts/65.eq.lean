/-! LIKE TABLES give like answers -/
section
variable {LK BL : LF} {X Y : MW}
theorem st7 (h : Eq7 X Y) (w : WF X) (k : Nat) {j i : Nat} (hj : 1 ≤ j) (hj8 : j < 8) (hi : i < 8) : stepN LK BL Y k j i = stepN LK BL X k j i := (stepN_7 h w k).1 j hj hj8 i hi
theorem moreN_7 (h : Eq7 X Y) (w : WF X) (k : Nat) {i : Nat} (hi : i < 8) : moreN LK BL Y k i = moreN LK BL X k i := by
  unfold moreN
  rw [h.1 6 (by decide) (by decide) i hi, st7 h w k (by decide) (by decide) hi]
theorem moreAt_7 (h : Eq7 X Y) (w : WF X) (k : Nat) {i : Nat} (hi : i < 8) : moreAt LK BL Y i k = moreAt LK BL X i k := by
  unfold moreAt
  rw [h.1 6 (by decide) (by decide) i hi, st7 h w k (by decide) (by decide) hi]
theorem firstF_7 (h : Eq7 X Y) (w : WF X) {i : Nat} (hi : i < 8) : ∀ r q, firstF LK BL Y i r q = firstF LK BL X i r q
  | 0, _ => rfl
  | r + 1, q => by
    show (if moreAt LK BL Y i q = true then q else firstF LK BL Y i r (q + 1)) = if moreAt LK BL X i q = true then q else firstF LK BL X i r (q + 1)
    rw [moreAt_7 h w q hi, firstF_7 h w hi r (q + 1)]
theorem aheadF_7 (h : Eq7 X Y) {n i : Nat} (hn : n ≤ 8) (hi : i < n) : aheadF (faceF LK Y) (Y 7) n i = aheadF (faceF LK X) (X 7) n i := cntF_c _ (fun o ho => by
  unfold isAhead
  rw [faceF_7 h (by omega), faceF_7 h (by omega), h.1 7 (by decide) (by decide) o (by omega)])
theorem sumN_7 (h : Eq7 X Y) (w : WF X) (k : Nat) {j n : Nat} (hj : 1 ≤ j) (hj8 : j < 8) (hn : n ≤ 8) : sumF (stepN LK BL Y k j) n = sumF (stepN LK BL X k j) n := sumF_c n (fun i hi => st7 h w k hj hj8 (by omega))
theorem sum_7 (h : Eq7 X Y) {j n : Nat} (hj : 1 ≤ j) (hj8 : j < 8) (hn : n ≤ 8) : sumF (Y j) n = sumF (X j) n := sumF_c n (fun i hi => h.1 j hj hj8 i (by omega))
theorem shamX_7 (h : Eq7 X Y) (a : Nat) (s : Int32) : Eq7 (shamX X a s) (shamX Y a s) := by
  refine ⟨fun j h1 h2 i hi => ?_, ?_, ?_, ?_⟩
  · unfold shamX
    rw [nOf_7 h, h.1 j h1 h2 i hi]
  · rw [shamX_o (by decide), shamX_o (by decide)]
    exact h.2.1
  · rw [shamX_o (by decide), shamX_o (by decide)]
    exact h.2.2.1
  · rw [shamX_o (by decide), shamX_o (by decide)]
    exact h.2.2.2
theorem drX_7 (h : Eq7 X Y) (n D : Nat) : Eq7 (drX X n D) (drX Y n D) := by
  unfold drX
  split
  · exact h
  · exact h.up _ _ _
theorem looX_7 (h : Eq7 X Y) (w : WF X) (n : Nat) (z : Int32) : ∀ k, Eq7 (looX LK BL n X z k) (looX LK BL n Y z k)
  | 0 => h
  | k + 1 => stepF_7 (drX_7 (looX_7 h w n z k) n _) (drX_W (looX_W w k) n _)
theorem leI_lit {s b : Nat} (h : s ≤ b) : leI (nI s) b := ⟨s, h, rfl⟩
theorem leastF_r {p q : Nat → Bool} : ∀ r s, (∀ i, s ≤ i → i < s + r → q i = p i) → leastF q r s = leastF p r s
  | 0, _, _ => rfl
  | r + 1, s, h => by
    show (if q s = true then some s else leastF q r (s + 1)) = if p s = true then some s else leastF p r (s + 1)
    rw [h s (Nat.le_refl _) (by omega), leastF_r r (s + 1) (fun i h1 h2 => h i (by omega) (by omega))]
end
/-! A SHEET'S NUMBERS -/
theorem and_255 (v : Int32) : (v &&& 255).toInt = ((v.toBitVec.toNat % 256 : Nat) : Int) := by
  have h : (v &&& 255).toBitVec.toNat = v.toBitVec.toNat % 256 := by
    show (v.toBitVec &&& (255 : Int32).toBitVec).toNat = _
    rw [BitVec.toNat_and]
    exact Nat.and_two_pow_sub_one_eq_mod _ 8
  show (v &&& 255).toBitVec.toInt = _
  rw [BitVec.toInt_eq_toNat_cond, h]
  rw [if_pos (by omega)]
theorem and_65 (v : Int32) : (v &&& 65535).toInt = ((v.toBitVec.toNat % 65536 : Nat) : Int) := by
  have h : (v &&& 65535).toBitVec.toNat = v.toBitVec.toNat % 65536 := by
    show (v.toBitVec &&& (65535 : Int32).toBitVec).toNat = _
    rw [BitVec.toNat_and]
    exact Nat.and_two_pow_sub_one_eq_mod _ 16
  show (v &&& 65535).toBitVec.toInt = _
  rw [BitVec.toInt_eq_toNat_cond, h]
  rw [if_pos (by omega)]
theorem nar_8 (v : Int32) : (v.toInt8.toInt32).toInt = Int.bmod v.toInt 256 := by
  rw [Int8.toInt_toInt32, Int32.toInt_toInt8]
theorem nar_16 (v : Int32) : (v.toInt16.toInt32).toInt = Int.bmod v.toInt 65536 := by
  rw [Int16.toInt_toInt32, Int32.toInt_toInt16]
theorem i32_n (v : Int32) : v.toInt = if 2 * v.toBitVec.toNat < 4294967296 then (v.toBitVec.toNat : Int) else (v.toBitVec.toNat : Int) - 4294967296 := by
  show v.toBitVec.toInt = _
  rw [BitVec.toInt_eq_toNat_cond]
  rfl
theorem bmod_d (x : Int) (m : Nat) (hm : 0 < m) : ∃ t : Int, Int.bmod x m = x - t * m ∧ -(m : Int) ≤ 2 * Int.bmod x m ∧ 2 * Int.bmod x m < m := by
  have h1 := Int.le_bmod (x := x) hm
  have h2 := Int.bmod_lt (x := x) hm
  have h3 := Int.bmod_add_bdiv x m
  refine ⟨Int.bdiv x m, ?_, by omega, by omega⟩
  rw [Int.mul_comm]
  omega
/-- how the lowest bits and the signed number stand to each other -/
theorem low_nar {b : Nat} (hb : b = 8 ∨ b = 16 ∨ b = 32) (v f : Int32) (h1 : -128 ≤ f.toInt) (h2 : f.toInt ≤ 127) : narF b v = f ↔ lowF b v = lowF b f := by
  have hv := i32_n v
  have hf := i32_n f
  have lv := v.toBitVec.isLt
  have lf := f.toBitVec.isLt
  rcases hb with rfl | rfl | rfl
  · show v.toInt8.toInt32 = f ↔ v &&& 255 = f &&& 255
    rw [← Int32.toInt_inj, ← Int32.toInt_inj (x := v &&& 255), nar_8, and_255, and_255]
    obtain ⟨t, e, g1, g2⟩ := bmod_d v.toInt 256 (by decide)
    rw [e] at g1 g2 ⊢
    split at hv <;> split at hf <;> constructor <;> intro h <;> omega
  · show v.toInt16.toInt32 = f ↔ v &&& 65535 = f &&& 65535
    rw [← Int32.toInt_inj, ← Int32.toInt_inj (x := v &&& 65535), nar_16, and_65, and_65]
    obtain ⟨t, e, g1, g2⟩ := bmod_d v.toInt 65536 (by decide)
    rw [e] at g1 g2 ⊢
    split at hv <;> split at hf <;> constructor <;> intro h <;> omega
  · exact Iff.rfl
theorem low_9 {b : Nat} (hb : b = 8 ∨ b = 16 ∨ b = 32) (v : Int32) : ((0 ≤ (lowF b v).toInt ∧ (lowF b v).toInt ≤ 9) ↔ (0 ≤ (narF b v).toInt ∧ (narF b v).toInt ≤ 9)) ∧ (0 ≤ (lowF b v).toInt ∧ (lowF b v).toInt ≤ 9 → narF b v = lowF b v) := by
  have hv := i32_n v
  have lv := v.toBitVec.isLt
  rcases hb with rfl | rfl | rfl
  · show ((0 ≤ (v &&& 255).toInt ∧ (v &&& 255).toInt ≤ 9) ↔ (0 ≤ (v.toInt8.toInt32).toInt ∧ (v.toInt8.toInt32).toInt ≤ 9)) ∧ (0 ≤ (v &&& 255).toInt ∧ (v &&& 255).toInt ≤ 9 → v.toInt8.toInt32 = v &&& 255)
    rw [← Int32.toInt_inj, nar_8, and_255]
    obtain ⟨t, e, g1, g2⟩ := bmod_d v.toInt 256 (by decide)
    rw [e] at g1 g2 ⊢
    refine ⟨⟨fun h => ?_, fun h => ?_⟩, fun h => ?_⟩ <;> split at hv <;> omega
  · show ((0 ≤ (v &&& 65535).toInt ∧ (v &&& 65535).toInt ≤ 9) ↔ (0 ≤ (v.toInt16.toInt32).toInt ∧ (v.toInt16.toInt32).toInt ≤ 9)) ∧ (0 ≤ (v &&& 65535).toInt ∧ (v &&& 65535).toInt ≤ 9 → v.toInt16.toInt32 = v &&& 65535)
    rw [← Int32.toInt_inj, nar_16, and_65]
    obtain ⟨t, e, g1, g2⟩ := bmod_d v.toInt 65536 (by decide)
    rw [e] at g1 g2 ⊢
    refine ⟨⟨fun h => ?_, fun h => ?_⟩, fun h => ?_⟩ <;> split at hv <;> omega
  · exact ⟨Iff.rfl, fun _ => rfl⟩
/-- a FACE lies within a byte -/
theorem half_k {x : Int32} {n : Nat} (h : x = nI n) (hn : n ≤ 99) : (x / 2).toInt = ((n / 2 : Nat) : Int) := by
  subst h
  have h2 : ∀ n, n ≤ 99 → (nI n / 2).toInt = ((n / 2 : Nat) : Int) := by decide +kernel
  exact h2 n hn
theorem face_b {v : Int32} {X : MW} {i : Nat} (w : WF X) (hi : i < 8) (hv : leI v 99) : -128 ≤ (faceV v X i).toInt ∧ (faceV v X i).toInt ≤ 127 := by
  obtain ⟨n, hn, rfl⟩ := hv
  obtain ⟨_, ⟨k, hk, ek⟩, ⟨m1, hm, em⟩, ⟨hu, hhu, eh⟩, ⟨s, hs, es⟩, _, _⟩ := w.2.2 i hi
  have tv : (nI n).toInt = (n : Int) := nI_toInt (by omega)
  have ts : (X 5 i).toInt = (s : Int) := tI es (by omega)
  have tm : (X 3 i).toInt = (m1 : Int) := tI em (by omega)
  have tq : (nI n / 2).toInt = ((n / 2 : Nat) : Int) := half_k rfl hn
  have th : (X 4 i / 2).toInt = ((hu / 2 : Nat) : Int) := half_k eh hhu
  have a1 : (nI n + X 5 i).toInt = (n : Int) + s := add_k tv ts (by omega) (by omega)
  rcases (show k = 0 ∨ k = 1 ∨ k = 2 ∨ k = 3 ∨ k = 4 ∨ k = 5 ∨ k = 6 by omega) with h | h | h | h | h | h | h <;> subst h
  · rw [fk_0 ek, a1]
    omega
  · rw [fk_1 ek, add_k a1 tm (by omega) (by omega)]
    omega
  · rw [fk_2 ek, add_k tq ts (by omega) (by omega)]
    omega
  · rw [fk_3 ek, sub_k a1 th (by omega) (by omega)]
    omega
  · rw [fk_4 ek, sub_k (add_k a1 tm (by omega) (by omega)) (show (20 : Int32).toInt = 20 from rfl) (by omega) (by omega)]
    omega
  · rw [fk_5 ek]
    have a2 := add_k tq ts (by omega) (by omega)
    split
    · rw [add_k a2 (show (9 : Int32).toInt = 9 from rfl) (by omega) (by omega)]
      omega
    · rw [add_k a2 (show (0 : Int32).toInt = 0 from rfl) (by omega) (by omega)]
      omega
  · rw [fk_6 ek]
    have a3 : (2 * X 5 i).toInt = 2 * (s : Int) := by
      rw [Int32.toInt_mul, ts, show (2 : Int32).toInt = 2 from rfl]
      exact Int.bmod_eq_of_le (by omega) (by omega)
    rw [sub_k (add_k tv a3 (by omega) (by omega)) th (by omega) (by omega)]
    omega
theorem held_b (v : Int32) : leI (heldF v 99) 99 := by
  unfold heldF
  have e9 : (99 : Int32).toInt = 99 := rfl
  split
  · exact ⟨0, by decide, rfl⟩
  · split
    · exact ⟨99, by decide, rfl⟩
    · exact leI_of (by omega) (by omega)
theorem lk_b (cd : Nat → List Int32) (x a b c : Int32) : leI (lkC cd x a b c) 99 := held_b _
