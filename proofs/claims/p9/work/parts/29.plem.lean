/-! THE GRAMMAR: what it gives is well made -/
theorem evS_app (a b c : Int32) : ∀ (xs ys s : List Int32), evS a b c (xs ++ ys) s = (evS a b c xs s).bind (evS a b c ys)
  | [], ys, s => rfl
  | k :: xs, ys, s => by
    show (evI a b c k s).bind (evS a b c (xs ++ ys)) = ((evI a b c k s).bind (evS a b c xs)).bind (evS a b c ys)
    cases evI a b c k s with
    | none => rfl
    | some t => exact evS_app a b c xs ys t
theorem evS_1 {a b c k : Int32} {s t : List Int32} (h : evI a b c k s = some t) : evS a b c [k] s = some t := by
  show (evI a b c k s).bind (evS a b c []) = _
  rw [h]
  rfl
/-- what a sign makes of two -/
def binV (k p q : Int32) : Int32 := if k = 43 then p + q else if k = 45 then p - q else if k = 42 then p * q
  else if k = 47 then (if q.toInt = 0 then 0 else p / q) else if k = 37 then (if q.toInt = 0 then 0 else p - p / q * q)
  else if k = 60 then (if p.toInt < q.toInt then 1 else 0) else if k = 61 then (if p.toInt = q.toInt then 1 else 0) else if k = 62 then (if q.toInt < p.toInt then 1 else 0)
  else if k = 38 then (if p.toInt ≠ 0 ∧ q.toInt ≠ 0 then 1 else 0) else (if p.toInt ≠ 0 ∨ q.toInt ≠ 0 then 1 else 0)
theorem signP_in {lv : Nat} {b : Int} (h : signP lv b = true) : b = 124 ∨ b = 38 ∨ b = 60 ∨ b = 61 ∨ b = 62 ∨ b = 43 ∨ b = 45 ∨ b = 42 ∨ b = 47 ∨ b = 37 := by
  unfold signP at h
  split at h <;> rw [decide_eq_true_eq] at h <;> omega
theorem ev_bin {a b c p q : Int32} {r : List Int32} {lv : Nat} {z : Int} (h : signP lv z = true) : evI a b c (Int32.ofInt z) (q :: p :: r) = some (binV (Int32.ofInt z) p q :: r) := by
  rcases signP_in h with e | e | e | e | e | e | e | e | e | e <;> subst e <;> rfl
theorem CodeOk_bin {c1 c2 : List Int32} {lv : Nat} {z : Int} (h1 : CodeOk c1) (h2 : CodeOk c2) (h : signP lv z = true) : CodeOk (c1 ++ c2 ++ [Int32.ofInt z]) := by
  intro a b c
  obtain ⟨v1, e1⟩ := h1 a b c
  obtain ⟨v2, e2⟩ := h2 a b c
  refine ⟨binV (Int32.ofInt z) v1 v2, fun s => ?_⟩
  rw [evS_app, evS_app, e1 s]
  show ((evS a b c c2 (v1 :: s)).bind _) = _
  rw [e2 (v1 :: s)]
  exact evS_1 (ev_bin h)
theorem CodeOk_not {c1 : List Int32} (h1 : CodeOk c1) : CodeOk (c1 ++ [33]) := by
  intro a b c
  obtain ⟨v1, e1⟩ := h1 a b c
  refine ⟨if v1.toInt = 0 then 1 else 0, fun s => ?_⟩
  rw [evS_app, e1 s]
  show evS a b c [33] (v1 :: s) = _
  exact evS_1 ev_33
theorem CodeOk_num {x : Nat} (h : x < 10000) : CodeOk [nI (1000 + x)] := by
  intro a b c
  refine ⟨nI (1000 + x) - 1000, fun s => evS_1 (ev_n ?_ ?_ ?_ ?_)⟩
  · exact nI_ne0 (by omega) (by omega)
  · intro e
    have h2 := (nI_eq (a := 1000 + x) (b := 1) (by omega) (by omega)).mp e
    omega
  · intro e
    have h2 := (nI_eq (a := 1000 + x) (b := 2) (by omega) (by omega)).mp e
    omega
  · rw [nI_toInt (by omega)]
    omega
theorem CodeOk_name {u : Nat} {b : Int} {k : Int32} (h : nameP u b = some k) : CodeOk [k] := by
  intro a2 b2 c2
  unfold nameP at h
  split at h
  · cases h
    exact ⟨a2, fun s => evS_1 ev_0⟩
  · split at h
    · cases h
      exact ⟨b2, fun s => evS_1 ev_1⟩
    · split at h
      · cases h
        exact ⟨c2, fun s => evS_1 ev_2⟩
      · cases h
theorem nameP_in {u : Nat} {b : Int} {k : Int32} (h : nameP u b = some k) : 0 ≤ b := by
  unfold nameP at h
  by_cases h1 : b = 104
  · omega
  · rw [if_neg h1] at h
    by_cases h2 : b = nam1 u
    · rw [h2]
      unfold nam1
      split <;> decide
    · rw [if_neg h2] at h
      by_cases h3 : b = nam2 u
      · rw [h3]
        unfold nam2
        split <;> decide
      · rw [if_neg h3] at h
        cases h
theorem bt_lt {B : Nat → Int32} {n p : Nat} (h : 0 ≤ bt B n p) : p < n := by
  unfold bt at h
  split at h
  · assumption
  · omega
theorem isDig_e {b : Int} (h : isDig b = true) : 48 ≤ b ∧ b ≤ 57 := by
  unfold isDig at h
  exact of_decide_eq_true h
theorem isDig_f {b : Int} (h : ¬ isDig b = true) : ¬ (48 ≤ b ∧ b ≤ 57) := fun q => h (by unfold isDig; exact decide_eq_true q)
theorem numP_ok (B : Nat → Int32) (n : Nat) : ∀ k v p, p ≤ n → p ≤ (numP B n k v p).2 ∧ (numP B n k v p).2 ≤ n ∧ (numP B n k v p).1 < (v + 1) * 10 ^ k
  | 0, v, p, hp => ⟨Nat.le_refl _, hp, by show v < (v + 1) * 10 ^ 0; omega⟩
  | k + 1, v, p, hp => by
    unfold numP
    have h10 : 1 ≤ 10 ^ k := Nat.le_trans (by decide : 1 ≤ 10 ^ 0) (Nat.pow_le_pow_right (by decide) (Nat.zero_le k))
    split
    · rename_i hd
      have h1 := isDig_e hd
      have h2 := bt_lt (B := B) (n := n) (p := p) (by omega)
      obtain ⟨a1, a2, a3⟩ := numP_ok B n k (10 * v + ((bt B n p).toNat - 48)) (p + 1) h2
      refine ⟨by omega, a2, Nat.lt_of_lt_of_le a3 ?_⟩
      rw [Nat.pow_succ]
      have h3 : 10 * v + ((bt B n p).toNat - 48) + 1 ≤ (v + 1) * 10 := by omega
      calc (10 * v + ((bt B n p).toNat - 48) + 1) * 10 ^ k ≤ ((v + 1) * 10) * 10 ^ k := Nat.mul_le_mul_right _ h3
        _ = (v + 1) * (10 ^ k * 10) := by rw [Nat.mul_assoc, Nat.mul_comm 10]
    · refine ⟨Nat.le_refl _, hp, ?_⟩
      rw [Nat.pow_succ]
      have : v + 1 ≤ (v + 1) * (10 ^ k * 10) := Nat.le_mul_of_pos_right _ (by omega)
      omega
/-- a reading from place p on -/
def GoodR (n p : Nat) (r : PR3) : Prop := p ≤ r.2.1 ∧ r.2.1 ≤ n ∧ (r.2.2 = true → p < r.2.1 ∧ CodeOk r.1 ∧ r.1.length ≤ r.2.1 - p)
theorem PLoop_ok {rec : Nat → PR3} {B : Nat → Int32} {n lv p : Nat} (hr : ∀ q, q ≤ n → GoodR n q (rec q)) : ∀ k r, GoodR n p r → GoodR n p (PLoop rec B n lv k r)
  | 0, r, h => h
  | k + 1, r, h => by
    unfold PLoop
    split
    · rename_i hc
      obtain ⟨c1, c2⟩ := hc
      have hin := signP_in c2
      have hlt := bt_lt (B := B) (n := n) (p := r.2.1) (by omega)
      have h2 := hr (r.2.1 + 1) hlt
      apply PLoop_ok hr k
      obtain ⟨g1, g2, g3⟩ := h
      obtain ⟨i1, i2, i3⟩ := h2
      obtain ⟨g4, g5, g6⟩ := g3 c1
      refine ⟨?_, i2, fun ho => ?_⟩
      · show p ≤ (rec (r.2.1 + 1)).2.1
        omega
      · obtain ⟨i4, i5, i6⟩ := i3 ho
        refine ⟨?_, CodeOk_bin g5 i5 c2, ?_⟩
        · show p < (rec (r.2.1 + 1)).2.1
          omega
        · show (r.1 ++ (rec (r.2.1 + 1)).1 ++ [Int32.ofInt (bt B n r.2.1)]).length ≤ (rec (r.2.1 + 1)).2.1 - p
          rw [List.length_append, List.length_append, List.length_singleton]
          omega
    · exact h
theorem PL_ok (B : Nat → Int32) (n u : Nat) : ∀ f lv op p, p ≤ n → GoodR n p (PL B n u f lv op p)
  | 0, lv, op, p, hp => ⟨Nat.le_refl _, hp, fun h => by cases h⟩
  | f + 1, lv, op, p, hp => by
    unfold PL
    split
    · exact PLoop_ok (fun q hq => PL_ok B n u f (lv + 1) op q hq) _ _ (PL_ok B n u f (lv + 1) op p hp)
    · unfold PQ
      split
      · rename_i hd
        have h1 := isDig_e hd
        have h2 := bt_lt (B := B) (n := n) (p := p) (by omega)
        obtain ⟨a1, a2, a3⟩ := numP_ok B n 4 0 p hp
        have a4 : p + 1 ≤ (numP B n 4 0 p).2 := by
          unfold numP
          rw [if_pos hd]
          exact (numP_ok B n 3 _ (p + 1) h2).1
        refine ⟨a1, a2, fun _ => ⟨a4, CodeOk_num (by omega), ?_⟩⟩
        show 1 ≤ (numP B n 4 0 p).2 - p
        omega
      · split
        · rename_i k hk
          have h2 : p < n := bt_lt (nameP_in hk)
          refine ⟨Nat.le_succ _, h2, fun _ => ⟨Nat.lt_succ_self _, CodeOk_name hk, ?_⟩⟩
          show 1 ≤ p + 1 - p
          omega
        · split
          · rename_i hb
            have h2 := bt_lt (B := B) (n := n) (p := p) (by omega)
            obtain ⟨g1, g2, g3⟩ := PL_ok B n u f 5 (op + 1) (p + 1) h2
            refine ⟨?_, g2, fun ho => ?_⟩
            · show p ≤ (PL B n u f 5 (op + 1) (p + 1)).2.1
              omega
            · obtain ⟨g4, g5, g6⟩ := g3 ho
              refine ⟨?_, CodeOk_not g5, ?_⟩
              · show p < (PL B n u f 5 (op + 1) (p + 1)).2.1
                omega
              · show ((PL B n u f 5 (op + 1) (p + 1)).1 ++ [33]).length ≤ (PL B n u f 5 (op + 1) (p + 1)).2.1 - p
                rw [List.length_append, List.length_singleton]
                omega
          · split
            · rename_i hb
              have h2 := bt_lt (B := B) (n := n) (p := p) (by omega)
              obtain ⟨g1, g2, g3⟩ := PL_ok B n u f 0 (op + 1) (p + 1) h2
              split
              · rename_i hc
                obtain ⟨g4, g5, g6⟩ := g3 hc.1
                have h3 := bt_lt (B := B) (n := n) (p := (PL B n u f 0 (op + 1) (p + 1)).2.1) (by omega)
                refine ⟨?_, h3, fun _ => ⟨?_, g5, ?_⟩⟩
                · show p ≤ (PL B n u f 0 (op + 1) (p + 1)).2.1 + 1
                  omega
                · show p < (PL B n u f 0 (op + 1) (p + 1)).2.1 + 1
                  omega
                · show (PL B n u f 0 (op + 1) (p + 1)).1.length ≤ (PL B n u f 0 (op + 1) (p + 1)).2.1 + 1 - p
                  omega
              · refine ⟨?_, g2, fun h => by cases h⟩
                show p ≤ (PL B n u f 0 (op + 1) (p + 1)).2.1
                omega
            · exact ⟨Nat.le_refl _, hp, fun h => by cases h⟩
