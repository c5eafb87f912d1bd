/-! THE LAW'S RUN -/
set_option maxRecDepth 20000 in
set_option maxHeartbeats 40000000 in
theorem lc_out {s0 s1 s2 s3 s4 s5 : Int32} {d mc ms : Nat} : gw [s0, s1, s2, s3, s4, s5] (WP [s0, s1, s2, s3, s4, s5] (d + 20)) 190 (fun r _ => r = some (.int 1)) 1428 [some (.ref 0), some (.ref 32), some (.ref 89), some (.int 0)] [] (hX0 ++ hM0) mc ms := by
  refine gs rfl ?_
  refine gs rfl ?_
  refine gs rfl ?_
  refine gs rfl ?_
  refine gs rfl ?_
  refine and_i (Or.inl rfl) ?_
  refine gwst (congrArg (fun z => Value.int z :: _) (alen_k (n := 6) (by rfl))) ?_
  refine gs rfl ?_
  refine gs rfl ?_
  refine gs rfl ?_
  refine gs rfl ?_
  refine gs rfl ?_
  refine and_2 rfl (Or.inr rfl) ?_
  exact rfl
theorem sw_cond {j : Nat} (h : j < 64) : ((nI j).toInt < 0 ∨ 39 < (nI j).toInt) ↔ 40 ≤ j := by
  rw [nI_toInt (by omega)]
  omega
set_option maxRecDepth 20000 in
set_option maxHeartbeats 40000000 in
theorem lc_all {s0 s1 s2 s3 s4 s5 : Int32} {d mc ms : Nat} : gw [s0, s1, s2, s3, s4, s5] (WP [s0, s1, s2, s3, s4, s5] (d + 20)) 190 (fun r _ => r = some (.int 1)) 27 [some (.ref 0), some (.ref 32), some (.ref 89), some (.int 0)] [] (hX0 ++ hM0) mc ms := by
  refine gs rfl ?_
  refine gs rfl ?_
  refine gs rfl ?_
  refine and_2 rfl (vin rfl) ?_
  refine gs rfl ?_
  refine gs rfl ?_
  obtain ⟨j, hj, e⟩ := pk_andE s0 6 (m := 63) (by decide)
  refine gwst (st' := [.int (nI j)]) (congrArg (fun z => [Value.int z]) e) ?_
  refine gs rfl ?_
  by_cases h40 : 40 ≤ j
  · refine ifT ((sw_cond hj).mpr h40) ?_
    exact lc_out
  · refine ifF (fun q => h40 ((sw_cond hj).mp q)) ?_
    rcases (show j = 0 ∨ j = 1 ∨ j = 2 ∨ j = 3 ∨ j = 4 ∨ j = 5 ∨ j = 6 ∨ j = 7 ∨ j = 8 ∨ j = 9 ∨ j = 10 ∨ j = 11 ∨ j = 12 ∨ j = 13 ∨ j = 14 ∨ j = 15 ∨ j = 16 ∨ j = 17 ∨ j = 18 ∨ j = 19 ∨ j = 20 ∨ j = 21 ∨ j = 22 ∨ j = 23 ∨ j = 24 ∨ j = 25 ∨ j = 26 ∨ j = 27 ∨ j = 28 ∨ j = 29 ∨ j = 30 ∨ j = 31 ∨ j = 32 ∨ j = 33 ∨ j = 34 ∨ j = 35 ∨ j = 36 ∨ j = 37 ∨ j = 38 ∨ j = 39 by omega) with rfl | rfl | rfl | rfl | rfl | rfl | rfl | rfl | rfl | rfl | rfl | rfl | rfl | rfl | rfl | rfl | rfl | rfl | rfl | rfl | rfl | rfl | rfl | rfl | rfl | rfl | rfl | rfl | rfl | rfl | rfl | rfl | rfl | rfl | rfl | rfl | rfl | rfl | rfl | rfl
    · exact lc_0
    · exact lc_1
    · exact lc_2
    · exact lc_3
    · exact lc_4
    · exact lc_5
    · exact lc_6
    · exact lc_7
    · exact lc_8
    · exact lc_9
    · exact lc_10
    · exact lc_11
    · exact lc_12
    · exact lc_13
    · exact lc_14
    · exact lc_15
    · exact lc_16
    · exact lc_17
    · exact lc_18
    · exact lc_19
    · exact lc_20
    · exact lc_21
    · exact lc_22
    · exact lc_23
    · exact lc_24
    · exact lc_25
    · exact lc_26
    · exact lc_27
    · exact lc_28
    · exact lc_29
    · exact lc_30
    · exact lc_31
    · exact lc_32
    · exact lc_33
    · exact lc_34
    · exact lc_35
    · exact lc_36
    · exact lc_37
    · exact lc_38
    · exact lc_39
set_option maxRecDepth 20000 in
set_option maxHeartbeats 40000000 in
/-- from two new objects on -/
theorem lc_from {xs : List Int32} {d mc ms : Nat} (hl : xs.length ≤ 6) : gw xs (WP xs (d + 20)) 190 (fun r _ => r = some (.int 1)) 18 [some (.ref 0), some (.ref 32), some (.ref 89), some (.int 0)] [] (hX0 ++ hM0) mc ms := by
  refine gs rfl ?_
  refine gs rfl ?_
  refine gs rfl ?_
  refine and_i (Or.inl rfl) ?_
  by_cases h6 : xs.length = 6
  · match xs, h6 with
    | [s0, s1, s2, s3, s4, s5], _ =>
      refine gwst (congrArg (fun z => Value.int z :: _) (alen_k (n := 6) (by rfl))) ?_
      refine gs rfl ?_
      refine gs rfl ?_
      refine gs rfl ?_
      exact lc_all
  · obtain ⟨n, hn, h5⟩ : ∃ n, xs.length = n ∧ n < 6 := ⟨_, rfl, by omega⟩
    refine gwst (congrArg (fun z => Value.int z :: _) (alen_k (n := n) hn)) ?_
    rcases (show n = 0 ∨ n = 1 ∨ n = 2 ∨ n = 3 ∨ n = 4 ∨ n = 5 by omega) with h | h | h | h | h | h <;> subst h
    all_goals
      refine gs rfl ?_
      refine gs rfl ?_
      refine gs rfl ?_
      refine gs rfl ?_
      refine gs rfl ?_
      refine and_2 rfl (Or.inr rfl) ?_
      exact rfl
set_option maxRecDepth 20000 in
set_option maxHeartbeats 40000000 in
theorem law_runs : LawRuns := by
  intro xs hl
  show WP xs (1279 + 20 + 1) 190 600000 7302250 [.ref 0] [] _
  refine and_i (Nat.le_of_ble_eq_true rfl) ?_
  refine gs rfl ?_
  refine and_2 (Nat.le_of_ble_eq_true rfl) (Nat.le_of_ble_eq_true rfl) ?_
  refine gs rfl ?_
  refine gs rfl ?_
  refine and_2 (Nat.le_of_ble_eq_true rfl) (Nat.le_of_ble_eq_true rfl) (cl 56 742 (Nat.le_of_ble_eq_true rfl) (Nat.le_of_ble_eq_true rfl) (Nat.le_of_ble_eq_true rfl) (c_initX ?_))
  refine gs rfl ?_
  refine gs rfl ?_
  refine and_2 (Nat.le_of_ble_eq_true rfl) (Nat.le_of_ble_eq_true rfl) ?_
  refine gs rfl ?_
  refine gs rfl ?_
  refine and_2 (Nat.le_of_ble_eq_true rfl) (Nat.le_of_ble_eq_true rfl) (cl 11 1198 (Nat.le_of_ble_eq_true rfl) (Nat.le_of_ble_eq_true rfl) (Nat.le_of_ble_eq_true rfl) (c_initM ?_))
  refine gs rfl ?_
  refine gs rfl ?_
  refine gs rfl ?_
  exact lc_from hl
