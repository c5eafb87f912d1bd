/-! FAMILIES OF HEAPS NEAR THE START: of the class the STEPs of two tables and z, of the reference the STEP and z (the class's cells then are any) -/
def hF (a b z : Int32) : AH := [.inr (6, [.ref 33, .ref 42, .ref 51, .ref 60, .ref 69, .ref 72, .int 0, .ref 75, .ref 77, .ref 79, .ref 88]),
  .inr (4, [.ref 34, .ref 35, .ref 36, .ref 37, .ref 38, .ref 39, .ref 40, .ref 41, .int 1, .int a, .int 0, .null, .null]),
  .inl (0, [5, 5, 5, 5, 5, 5, 5, 5]),
  .inl (0, [0, 0, 0, 0, 0, 0, 0, 0]),
  .inl (0, [0, 0, 0, 0, 0, 0, 0, 0]),
  .inl (0, [0, 0, 0, 0, 0, 0, 0, 0]),
  .inl (0, [0, 0, 0, 0, 0, 0, 0, 0]),
  .inl (0, [0, 0, 0, 0, 0, 0, 0, 0]),
  .inl (1, [0, 0, 0, 0, 0, 0, 0, 0]),
  .inl (0, [0, 0, 0, 0, 0, 0, 0, 0]),
  .inr (4, [.ref 43, .ref 44, .ref 45, .ref 46, .ref 47, .ref 48, .ref 49, .ref 50, .int 1, .int b, .int 0, .null, .null]),
  .inl (0, [5, 5, 5, 5, 5, 5, 5, 5]),
  .inl (0, [0, 0, 0, 0, 0, 0, 0, 0]),
  .inl (0, [0, 0, 0, 0, 0, 0, 0, 0]),
  .inl (0, [0, 0, 0, 0, 0, 0, 0, 0]),
  .inl (0, [0, 0, 0, 0, 0, 0, 0, 0]),
  .inl (0, [0, 0, 0, 0, 0, 0, 0, 0]),
  .inl (1, [0, 0, 0, 0, 0, 0, 0, 0]),
  .inl (0, [0, 0, 0, 0, 0, 0, 0, 0]),
  .inr (4, [.ref 52, .ref 53, .ref 54, .ref 55, .ref 56, .ref 57, .ref 58, .ref 59, .int 1, .int 0, .int 0, .null, .null]),
  .inl (0, [5, 5, 5, 5, 5, 5, 5, 5]),
  .inl (0, [0, 0, 0, 0, 0, 0, 0, 0]),
  .inl (0, [0, 0, 0, 0, 0, 0, 0, 0]),
  .inl (0, [0, 0, 0, 0, 0, 0, 0, 0]),
  .inl (0, [0, 0, 0, 0, 0, 0, 0, 0]),
  .inl (0, [0, 0, 0, 0, 0, 0, 0, 0]),
  .inl (1, [0, 0, 0, 0, 0, 0, 0, 0]),
  .inl (0, [0, 0, 0, 0, 0, 0, 0, 0]),
  .inr (4, [.ref 61, .ref 62, .ref 63, .ref 64, .ref 65, .ref 66, .ref 67, .ref 68, .int 1, .int 0, .int 0, .null, .null]),
  .inl (0, [5, 5, 5, 5, 5, 5, 5, 5]),
  .inl (0, [0, 0, 0, 0, 0, 0, 0, 0]),
  .inl (0, [0, 0, 0, 0, 0, 0, 0, 0]),
  .inl (0, [0, 0, 0, 0, 0, 0, 0, 0]),
  .inl (0, [0, 0, 0, 0, 0, 0, 0, 0]),
  .inl (0, [0, 0, 0, 0, 0, 0, 0, 0]),
  .inl (1, [0, 0, 0, 0, 0, 0, 0, 0]),
  .inl (0, [0, 0, 0, 0, 0, 0, 0, 0]),
  .inr (0, [.int z, .ref 70, .int 0, .ref 71, .int 0]),
  .inl (0, List.replicate 50 0),
  .inl (0, List.replicate 20 0),
  .inr (0, [.int 1, .ref 73, .int 0, .ref 74, .int 0]),
  .inl (0, List.replicate 50 0),
  .inl (0, List.replicate 20 0),
  .inr (2, [.ref 76, .int 0, .ref 70, .int 0, .ref 3, .int 0, .int (-1)]),
  .inl (0, List.replicate 50 0),
  .inr (5, [.int 0, .int 0, .int 0, .ref 78, .int 0]),
  .inl (0, List.replicate 40 0),
  .inr (50, [.ref 80, .ref 82, .ref 84, .ref 86]),
  .inr (3, [.int 0, .int 0, .ref 81]),
  .inl (0, List.replicate 40 0),
  .inr (3, [.int 0, .int 0, .ref 83]),
  .inl (0, List.replicate 40 0),
  .inr (3, [.int 0, .int 0, .ref 85]),
  .inl (0, List.replicate 40 0),
  .inr (3, [.int 0, .int 0, .ref 87]),
  .inl (0, List.replicate 40 0),
  .inl (0, [0, 0, 0, 0, 0, 0])]
def pad (f : Nat → AC) : AH := [f 0, f 1, f 2, f 3, f 4, f 5, f 6, f 7, f 8, f 9, f 10, f 11, f 12, f 13, f 14, f 15, f 16, f 17, f 18, f 19, f 20, f 21, f 22, f 23, f 24, f 25, f 26, f 27, f 28, f 29, f 30, f 31, f 32, f 33, f 34, f 35, f 36, f 37, f 38, f 39, f 40, f 41, f 42, f 43, f 44, f 45, f 46, f 47, f 48, f 49, f 50, f 51, f 52, f 53, f 54, f 55, f 56]
def rowS (a z : Int32) : List Int32 := [a, z, 0, 0, 0, -1, -1, 1, 5, 5, 5, 5, 5, 5, 5, 5, 0, 0, 0, 0, 0, 0, 0, 0, 0, 0, 0, 0, 0, 0, 0, 0, 0, 0, 0, 0, 0, 0, 0, 0, 0, 0, 0, 0, 0, 0, 0, 0, 0, 0, 0, 0, 0, 0, 0, 0, 0, 0, 0, 0, 0, 0, 0, 0, 0, 0, 0, 0, 0, 0, 0, 0, 0, 0, 0, 0, 0, 0, 0, 0, 0, 0, 0, 0, 0, 0, 0, 0, 0, 0, 0, 0, 0, 0, 0, 0, 0, 0, 0, 0, 0, 0, 0, 0, 0, 0, 0, 0, 0, 0, 0, 0, 0, 0, 0, 0, 0, 0, 0, 0, 0, 0, 0, 0, 0, 0, 0, 0, 0, 0, 0, 0, 0, 0, 0, 0, 0, 0, 0, 0, 0, 0, 0, 0, 0, 0, 0, 0, 0, 0, 0, 0, 0, 0, 0, 0, 0, 0, 0, 0, 0, 0, 0, 0, 0, 0, 0, 0, 0, 0, 0, 0, 0, 0, 0, 0, 0, 0, 0, 0, 0, 0, 0, 0, 0, 0, 0, 0, 0, 0, 0, 0, 0, 0, 0, 0, 0, 0, 0, 0, 0, 0, 0, 0, 0, 0, 0, 0, 0, 0, 0, 0, 0, 0, 0, 0, 0, 0, 0, 0, 0, 0, 0, 0, 0, 0, 0, 0, 0, 0, 0, 0, 0, 0]
def hG (a z : Int32) (T B : AC) : AH := [.inr (7, [.ref 90, .ref 91, .ref 92, .ref 93, .int 0, .int 0, .ref 94, .int 0, .int 0, .int 0, .int 0, .int 0, .int 0, .int 0, .int 0, .ref 95, .ref 96, .ref 97, .ref 98, .ref 99, .ref 100, .int 0, .int 0, .int 0, .int 0]), .inl (0, rowS a z), .inl (0, List.replicate 234 0), T, B, .inl (0, [0, 0, 0, 0, 0, 0]), .inl (0, [0, 0, 0, 0]), .inl (0, [0, 0, 0, 0]), .inl (0, List.replicate 160 0), .inl (0, List.replicate 40 0), .inl (0, [0, 0, 0, 0, 0, 0, 0, 0]), .inl (0, List.replicate 40 0)]
theorem hF_0 : hX0 ++ hM0 = hF 0 0 1 ++ hM0 := by decide +kernel
section FAM
variable {xs : List Int32} {d : Nat} {Q : QT}
set_option maxRecDepth 20000 in
set_option maxHeartbeats 4000000 in
theorem c_step33 {a b z : Int32} (hQ : Q (some (.int 0)) (hF (a + 1) b z ++ hM0)) : WP xs (d + 3) 40 0 0 [.ref 33] (hF a b z ++ hM0) Q := by
  refine and_i (Nat.le_of_ble_eq_true rfl) ?_
  refine gs rfl ?_
  refine gs rfl ?_
  refine and_i (Nat.le_of_ble_eq_true rfl) (cl0 (Nat.le_of_ble_eq_true rfl) (and_i (Nat.le_of_ble_eq_true rfl) ?_))
  refine gs rfl ?_
  refine gs rfl ?_
  refine gs rfl ?_
  refine gs rfl ?_
  refine gs rfl ?_
  refine gs rfl ?_
  refine gs rfl ?_
  refine and_i rfl ?_
  refine gs rfl ?_
  refine gs rfl ?_
  refine and_i (Nat.le_of_ble_eq_true rfl) (cl0 (Nat.le_of_ble_eq_true rfl) (and_i (Nat.le_of_ble_eq_true rfl) ?_))
  refine gs rfl ?_
  refine gs rfl ?_
  refine gs rfl ?_
  refine gs rfl ?_
  refine gs rfl ?_
  refine gs rfl ?_
  refine gs rfl ?_
  refine gs rfl ?_
  refine gs rfl ?_
  refine gs rfl ?_
  refine and_i rfl ?_
  refine gs rfl ?_
  refine gs rfl ?_
  refine gs rfl ?_
  refine gs rfl ?_
  refine gs rfl ?_
  refine gs rfl ?_
  refine gs rfl ?_
  refine gs rfl ?_
  refine gs rfl ?_
  refine gs rfl ?_
  refine gs rfl ?_
  refine gs rfl ?_
  refine gs rfl ?_
  refine and_3 (Nat.le_of_ble_eq_true rfl) (Nat.le_of_ble_eq_true rfl) trivial ?_
  refine gs rfl ?_
  refine gs rfl ?_
  refine and_i rfl ?_
  exact qh rfl hQ
set_option maxRecDepth 20000 in
set_option maxHeartbeats 4000000 in
theorem c_step42 {a b z : Int32} (hQ : Q (some (.int 0)) (hF a (b + 1) z ++ hM0)) : WP xs (d + 3) 40 0 0 [.ref 42] (hF a b z ++ hM0) Q := by
  refine and_i (Nat.le_of_ble_eq_true rfl) ?_
  refine gs rfl ?_
  refine gs rfl ?_
  refine and_i (Nat.le_of_ble_eq_true rfl) (cl0 (Nat.le_of_ble_eq_true rfl) (and_i (Nat.le_of_ble_eq_true rfl) ?_))
  refine gs rfl ?_
  refine gs rfl ?_
  refine gs rfl ?_
  refine gs rfl ?_
  refine gs rfl ?_
  refine gs rfl ?_
  refine gs rfl ?_
  refine and_i rfl ?_
  refine gs rfl ?_
  refine gs rfl ?_
  refine and_i (Nat.le_of_ble_eq_true rfl) (cl0 (Nat.le_of_ble_eq_true rfl) (and_i (Nat.le_of_ble_eq_true rfl) ?_))
  refine gs rfl ?_
  refine gs rfl ?_
  refine gs rfl ?_
  refine gs rfl ?_
  refine gs rfl ?_
  refine gs rfl ?_
  refine gs rfl ?_
  refine gs rfl ?_
  refine gs rfl ?_
  refine gs rfl ?_
  refine and_i rfl ?_
  refine gs rfl ?_
  refine gs rfl ?_
  refine gs rfl ?_
  refine gs rfl ?_
  refine gs rfl ?_
  refine gs rfl ?_
  refine gs rfl ?_
  refine gs rfl ?_
  refine gs rfl ?_
  refine gs rfl ?_
  refine gs rfl ?_
  refine gs rfl ?_
  refine gs rfl ?_
  refine and_3 (Nat.le_of_ble_eq_true rfl) (Nat.le_of_ble_eq_true rfl) trivial ?_
  refine gs rfl ?_
  refine gs rfl ?_
  refine and_i rfl ?_
  exact qh rfl hQ
set_option maxRecDepth 20000 in
set_option maxHeartbeats 4000000 in
theorem c_oneS {a z : Int32} {T B : AC} {f : Nat → AC} (hQ : Q none (pad f ++ hG (a + 1) z T B)) : WP xs (d + 3) 145 0 0 [.ref 89] (pad f ++ hG a z T B) Q := by
  refine and_i (Nat.le_of_ble_eq_true rfl) ?_
  refine gs rfl ?_
  refine gs rfl ?_
  refine and_i (Nat.le_of_ble_eq_true rfl) (cl0 (Nat.le_of_ble_eq_true rfl) (and_i (Nat.le_of_ble_eq_true rfl) ?_))
  refine gs rfl ?_
  refine gs rfl ?_
  refine gs rfl ?_
  refine gs rfl ?_
  refine gs rfl ?_
  refine gs rfl ?_
  refine gs rfl ?_
  refine gs rfl ?_
  refine gs rfl ?_
  refine and_2 rfl (vin rfl) ?_
  refine gs rfl ?_
  refine gs rfl ?_
  refine gs rfl ?_
  refine and_i rfl ?_
  refine gs rfl ?_
  refine gs rfl ?_
  refine gs rfl ?_
  refine gs rfl ?_
  refine gs rfl ?_
  refine gs rfl ?_
  refine gs rfl ?_
  refine gs rfl ?_
  refine and_2 rfl (vin rfl) ?_
  refine gs rfl ?_
  refine gs rfl ?_
  refine gs rfl ?_
  refine gs rfl ?_
  refine gs rfl ?_
  refine gs rfl ?_
  refine and_2 rfl (vin rfl) ?_
  refine gs rfl ?_
  refine gs rfl ?_
  refine gs rfl ?_
  refine and_3 (Nat.le_of_ble_eq_true rfl) rfl (vin rfl) ?_
  refine gs rfl ?_
  refine and_i rfl ?_
  exact qh rfl hQ
set_option maxRecDepth 20000 in
set_option maxHeartbeats 4000000 in
theorem c_drawn {a z : Int32} {T B : AC} {f : Nat → AC} (hQ : ∀ x z2, Q (some (.int x)) (pad f ++ hG a z2 T B)) : WP xs (d + 1) 149 0 0 [.ref 89] (pad f ++ hG a z T B) Q := by
  refine and_i (Nat.le_of_ble_eq_true rfl) ?_
  refine gs rfl ?_
  refine gs rfl ?_
  refine gs rfl ?_
  refine gs rfl ?_
  refine gs rfl ?_
  refine gs rfl ?_
  refine gs rfl ?_
  refine and_2 rfl (vin rfl) ?_
  refine gs rfl ?_
  refine gs rfl ?_
  refine gs rfl ?_
  refine gs rfl ?_
  refine gs rfl ?_
  refine and_3 (Nat.le_of_ble_eq_true rfl) rfl (vin rfl) ?_
  refine gs rfl ?_
  refine gs rfl ?_
  refine gs rfl ?_
  refine gs rfl ?_
  refine and_2 rfl (vin rfl) ?_
  refine gs rfl ?_
  refine gs rfl ?_
  refine gs rfl ?_
  refine and_i rfl ?_
  exact hQ _ _
set_option maxRecDepth 20000 in
set_option maxHeartbeats 4000000 in
theorem c_drawSham {a b z : Int32} (hQ : ∀ z2, Q none (hF a b z2 ++ hM0)) : WP xs (d + 2) 71 0 0 [.ref 32] (hF a b z ++ hM0) Q := by
  refine and_i (Nat.le_of_ble_eq_true rfl) ?_
  refine gs rfl ?_
  refine gs rfl ?_
  refine gs rfl ?_
  refine and_i (Nat.le_of_ble_eq_true rfl) (cl0 (Nat.le_of_ble_eq_true rfl) (and_i (Nat.le_of_ble_eq_true rfl) ?_))
  refine gs rfl ?_
  refine gs rfl ?_
  refine gs rfl ?_
  refine gs rfl ?_
  refine gs rfl ?_
  refine gs rfl ?_
  refine gs rfl ?_
  refine gs rfl ?_
  refine and_3 (Nat.le_of_ble_eq_true rfl) (Nat.le_of_ble_eq_true rfl) trivial ?_
  refine gs rfl ?_
  refine gs rfl ?_
  refine gs rfl ?_
  refine gs rfl ?_
  refine gs rfl ?_
  refine and_i rfl ?_
  refine gs rfl ?_
  refine gs rfl ?_
  refine gs rfl ?_
  refine gs rfl ?_
  refine gs rfl ?_
  refine gs rfl ?_
  refine and_i rfl ?_
  exact hQ _
set_option maxRecDepth 20000 in
set_option maxHeartbeats 4000000 in
theorem c_think (hQ : Q (some (.ref 42)) (hF 0 0 1 ++ hM0)) : WP xs (d + 2) 74 0 0 [.ref 32] (hF 0 0 1 ++ hM0) Q := by
  refine and_i (Nat.le_of_ble_eq_true rfl) ?_
  refine gs rfl ?_
  refine gs rfl ?_
  refine gs rfl ?_
  refine gs rfl ?_
  refine gs rfl ?_
  refine and_i (Nat.le_of_ble_eq_true rfl) (cl0 (Nat.le_of_ble_eq_true rfl) (and_i (Nat.le_of_ble_eq_true rfl) ?_))
  refine gs rfl ?_
  refine gs rfl ?_
  refine gs rfl ?_
  refine gs rfl ?_
  refine gs rfl ?_
  refine gs rfl ?_
  refine gs rfl ?_
  refine gs rfl ?_
  refine and_3 (Nat.le_of_ble_eq_true rfl) (Nat.le_of_ble_eq_true rfl) (Nat.le_of_ble_eq_true rfl) ?_
  refine and_4 rfl (Or.inl rfl) (by decide) (by decide) ?_
  refine and_4 (by decide) (Nat.le_of_ble_eq_true rfl) (Nat.le_of_ble_eq_true rfl) (fun q => by cases q) ?_
  refine gs rfl ?_
  refine gs rfl ?_
  refine gs rfl ?_
  refine gs rfl ?_
  refine gs rfl ?_
  refine gs rfl ?_
  refine gs rfl ?_
  refine gs rfl ?_
  refine and_3 (Nat.le_of_ble_eq_true rfl) (Nat.le_of_ble_eq_true rfl) (Nat.le_of_ble_eq_true rfl) ?_
  refine and_4 rfl (Or.inl rfl) (by decide) (by decide) ?_
  refine and_4 (by decide) (Nat.le_of_ble_eq_true rfl) (Nat.le_of_ble_eq_true rfl) (fun q => by cases q) ?_
  refine gs rfl ?_
  refine gs rfl ?_
  refine gs rfl ?_
  refine gs rfl ?_
  refine gs rfl ?_
  refine gs rfl ?_
  refine gs rfl ?_
  refine gs rfl ?_
  refine and_3 (Nat.le_of_ble_eq_true rfl) (Nat.le_of_ble_eq_true rfl) (Nat.le_of_ble_eq_true rfl) ?_
  refine and_4 rfl (Or.inl rfl) (by decide) (by decide) ?_
  refine and_4 (by decide) (Nat.le_of_ble_eq_true rfl) (Nat.le_of_ble_eq_true rfl) (fun q => by cases q) ?_
  refine gs rfl ?_
  refine gs rfl ?_
  refine gs rfl ?_
  refine gs rfl ?_
  refine gs rfl ?_
  refine gs rfl ?_
  refine gs rfl ?_
  refine gs rfl ?_
  refine and_3 (Nat.le_of_ble_eq_true rfl) (Nat.le_of_ble_eq_true rfl) (Nat.le_of_ble_eq_true rfl) ?_
  refine and_4 rfl (Or.inl rfl) (by decide) (by decide) ?_
  refine and_4 (by decide) (Nat.le_of_ble_eq_true rfl) (Nat.le_of_ble_eq_true rfl) (fun q => by cases q) ?_
  refine gs rfl ?_
  refine gs rfl ?_
  refine gs rfl ?_
  refine gs rfl ?_
  refine gs rfl ?_
  refine gs rfl ?_
  refine gs rfl ?_
  refine gs rfl ?_
  refine and_3 (Nat.le_of_ble_eq_true rfl) (Nat.le_of_ble_eq_true rfl) (Nat.le_of_ble_eq_true rfl) ?_
  refine and_4 rfl (Or.inl rfl) (by decide) (by decide) ?_
  refine and_4 (by decide) (Nat.le_of_ble_eq_true rfl) (Nat.le_of_ble_eq_true rfl) (fun q => by cases q) ?_
  refine gs rfl ?_
  refine gs rfl ?_
  refine gs rfl ?_
  refine gs rfl ?_
  refine gs rfl ?_
  refine gs rfl ?_
  refine gs rfl ?_
  refine gs rfl ?_
  refine and_3 (Nat.le_of_ble_eq_true rfl) (Nat.le_of_ble_eq_true rfl) (Nat.le_of_ble_eq_true rfl) ?_
  refine and_4 rfl (Or.inl rfl) (by decide) (by decide) ?_
  refine and_4 (by decide) (Nat.le_of_ble_eq_true rfl) (Nat.le_of_ble_eq_true rfl) (fun q => by cases q) ?_
  refine gs rfl ?_
  refine gs rfl ?_
  refine gs rfl ?_
  refine gs rfl ?_
  refine gs rfl ?_
  refine gs rfl ?_
  refine gs rfl ?_
  refine gs rfl ?_
  refine and_3 (Nat.le_of_ble_eq_true rfl) (Nat.le_of_ble_eq_true rfl) (Nat.le_of_ble_eq_true rfl) ?_
  refine and_4 rfl (Or.inr rfl) (by decide) (by decide) ?_
  refine and_4 (by decide) (Nat.le_of_ble_eq_true rfl) (Nat.le_of_ble_eq_true rfl) (fun _ => by decide) ?_
  refine gs rfl ?_
  refine gs rfl ?_
  refine gs rfl ?_
  refine gs rfl ?_
  refine and_3 (Nat.le_of_ble_eq_true rfl) (Nat.le_of_ble_eq_true rfl) trivial ?_
  refine gs rfl ?_
  refine gs rfl ?_
  refine gs rfl ?_
  refine gs rfl ?_
  refine and_3 (Nat.le_of_ble_eq_true rfl) (Nat.le_of_ble_eq_true rfl) trivial ?_
  refine gs rfl ?_
  refine gs rfl ?_
  refine gs rfl ?_
  refine gs rfl ?_
  refine and_3 (Nat.le_of_ble_eq_true rfl) (Nat.le_of_ble_eq_true rfl) trivial ?_
  refine gs rfl ?_
  refine gs rfl ?_
  refine gs rfl ?_
  refine gs rfl ?_
  refine and_3 (Nat.le_of_ble_eq_true rfl) (Nat.le_of_ble_eq_true rfl) trivial ?_
  refine gs rfl ?_
  refine gs rfl ?_
  refine gs rfl ?_
  refine gs rfl ?_
  refine and_3 (Nat.le_of_ble_eq_true rfl) (Nat.le_of_ble_eq_true rfl) trivial ?_
  refine gs rfl ?_
  refine and_i rfl ?_
  refine gs rfl ?_
  refine gs rfl ?_
  refine gs rfl ?_
  refine and_2 rfl (fun z q => by cases q) ?_
  exact qh (by decide +kernel) hQ
end FAM
