/-! THE START IN NUMBERS -/
def m0 : MW := fun k j => if k = 58 then (if j = 1 ∨ j = 7 then 1 else if j = 5 ∨ j = 6 then -1 else if 8 ≤ j ∧ j < 16 then 5 else 0) else if k = 43 ∧ j = 6 then -1 else if (k = 37 ∨ k = 40) ∧ j = 0 then 1 else if (k = 1 ∨ k = 10 ∨ k = 19 ∨ k = 28) ∧ j = 8 then 1 else if (k = 2 ∨ k = 11 ∨ k = 20 ∨ k = 29) ∧ j < 8 then 5 else 0
set_option maxRecDepth 100000 in
set_option maxHeartbeats 40000000 in
theorem H_0 : hX0 ++ hM0 = H m0 (fun _ => 0) 0 := by rfl
theorem mz_7 : ∀ j, j < 8 → ∀ i, i < 8 → 1 ≤ j → vr (m0 58) j i = vw m0 0 j i := by decide +kernel
set_option maxRecDepth 20000 in
theorem Rel_0 : Rel2 m0 m0 (fun _ => 0) 0 0 := by
  refine ⟨by decide, by decide, ⟨by decide, fun i hi => absurd hi (Nat.not_lt_zero i)⟩, ⟨⟨⟨0, by decide, rfl⟩, ⟨1, by decide, by decide, rfl⟩, fun i hi => ?_⟩, ⟨0, by decide, rfl⟩, ⟨fun j h1 h8 i hi => mz_7 j h8 i hi h1, rfl, rfl, rfl⟩, rfl, ⟨⟨0, by decide, rfl⟩, rfl⟩, ⟨⟨0, by decide, rfl⟩, rfl⟩, fun j hj => ⟨⟨0, by decide, rfl⟩, ?_⟩, fun j hj => ?_, ⟨Or.inl (by decide), Or.inl ⟨rfl, by decide⟩⟩, ⟨Or.inl (by decide), Or.inl ⟨rfl, by decide⟩⟩⟩, ⟨0, by decide, rfl, rfl, rfl, fun h => absurd rfl h⟩, fun s hs => ?_, fun e h1 h2 => rfl, ⟨0, by decide, rfl, rfl, fun j hj => absurd hj (Nat.not_lt_zero j)⟩⟩
  · have h1 : vw m0 0 1 i = nI 5 := by
      show m0 2 i = nI 5
      unfold m0
      rw [if_neg (by decide), if_neg (by omega), if_neg (by omega), if_neg (by omega), if_pos ⟨by decide, hi⟩]
      rfl
    have hz : ∀ k, 3 ≤ k → k < 9 → m0 k i = 0 := fun k h3 h9 => by
      unfold m0
      rw [if_neg (by omega), if_neg (by omega), if_neg (by omega), if_neg (by omega), if_neg (by omega)]
    exact ⟨⟨5, by decide, h1⟩, ⟨0, by decide, hz 3 (by decide) (by decide)⟩, ⟨0, by decide, hz 4 (by decide) (by decide)⟩, ⟨0, by decide, hz 5 (by decide) (by decide)⟩, ⟨0, by decide, hz 6 (by decide) (by decide)⟩, ⟨0, by decide, hz 7 (by decide) (by decide)⟩, Or.inl (hz 8 (by decide) (by decide))⟩
  · unfold m0
    rw [if_pos rfl, if_neg (by omega), if_neg (by omega), if_neg (by omega)]
    rfl
  · unfold m0
    rw [if_pos rfl, if_neg (by omega), if_neg (by omega), if_neg (by omega)]
    rfl
  · have hz : ∀ k, 48 ≤ k → k < 69 → k ≠ 58 → ∀ j, m0 k j = 0 := fun k h1 h2 h3 j => by
      unfold m0
      rw [if_neg h3, if_neg (by omega), if_neg (by omega), if_neg (by omega), if_neg (by omega)]
    refine ⟨0, 0, Or.inl rfl, by decide, hz _ (by omega) (by omega) (by omega) _, hz _ (by omega) (by omega) (by omega) _, hz _ (by omega) (by omega) (by omega) _, hz _ (by omega) (by omega) (by omega) _, fun j hj => ⟨0, ?_, ?_⟩⟩
    · rw [hz _ (by omega) (by omega) (by omega)]
      rfl
    · rw [hz _ (by omega) (by omega) (by omega)]
      rfl
