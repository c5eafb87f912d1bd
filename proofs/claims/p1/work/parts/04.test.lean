theorem t_within (xs : List Int32) (d : Nat) (v m : Int32) (h : AH) (Q : QT) (mc ms : Nat) (hQ : Q (some (.int (if 0 ≤ v ∧ v ≤ m then 1 else 0))) h) : WP xs (d+1) 54 mc ms [.int v, .int m] h Q := by
  refine ⟨Nat.le_of_ble_eq_true rfl, ?_⟩
  refine gs rfl ?_
  refine gs rfl ?_
  trace_state
  sorry
theorem t_within2 (xs : List Int32) (d : Nat) (v m : Int32) (h : AH) (Q : QT) (mc ms : Nat) (hQ : Q (some (.int (if 0 ≤ v ∧ v ≤ m then 1 else 0))) h) : WP xs (d+1) 54 mc ms [.int v, .int m] h Q := by
  refine ⟨Nat.le_of_ble_eq_true rfl, ?_⟩
  repeat' (first | (refine gs rfl ?_) | (refine iteInduction (fun _ => ?_) (fun _ => ?_)))
  trace_state
  sorry
