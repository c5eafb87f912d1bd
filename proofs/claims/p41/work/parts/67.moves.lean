section
/-! WHAT A CALL CHANGES, and what of the relation stays -/
section
variable {B B2 : Nat → Int32} {n u : Nat}
theorem bt_loc (h : ∀ j, j < n → B2 j = B j) (p : Nat) : bt B2 n p = bt B n p := by
  unfold bt
  by_cases hp : p < n
  · rw [if_pos hp, if_pos hp, h p hp]
  · rw [if_neg hp, if_neg hp]
theorem numP_loc (h : ∀ p, bt B2 n p = bt B n p) : ∀ k v p, numP B2 n k v p = numP B n k v p
  | 0, _, _ => rfl
  | k + 1, v, p => by
    show (if isDig (bt B2 n p) = true then numP B2 n k (10 * v + ((bt B2 n p).toNat - 48)) (p + 1) else (v, p)) = if isDig (bt B n p) = true then numP B n k (10 * v + ((bt B n p).toNat - 48)) (p + 1) else (v, p)
    rw [h p, numP_loc h k]
theorem PLoop_loc {rec rec2 : Nat → PR3} (h : ∀ p, bt B2 n p = bt B n p) (hr : ∀ p, rec2 p = rec p) (lv : Nat) : ∀ k r, PLoop rec2 B2 n lv k r = PLoop rec B n lv k r
  | 0, _ => rfl
  | k + 1, r => by
    by_cases c : r.2.2 = true ∧ signP lv (bt B n r.2.1) = true
    · rw [PLoop_y c, PLoop_y (by rw [h]; exact c), hr, h, PLoop_loc h hr lv k]
    · rw [PLoop_n c, PLoop_n (by rw [h]; exact c)]
theorem PL_loc (h : ∀ p, bt B2 n p = bt B n p) : ∀ f lv op p, PL B2 n u f lv op p = PL B n u f lv op p
  | 0, _, _, _ => rfl
  | f + 1, lv, op, p => by
    by_cases hl : lv < 5
    · rw [PL_l _ _ _ _ _ _ hl, PL_l _ _ _ _ _ _ hl, PL_loc h f]
      exact PLoop_loc h (fun p => PL_loc h f (lv + 1) op p) lv _ _
    · show (if lv < 5 then _ else PQ (PL B2 n u f 5 (op + 1)) (PL B2 n u f 0 (op + 1)) B2 n u op p) = if lv < 5 then _ else PQ (PL B n u f 5 (op + 1)) (PL B n u f 0 (op + 1)) B n u op p
      rw [if_neg hl, if_neg hl]
      have e5 : PL B2 n u f 5 (op + 1) = PL B n u f 5 (op + 1) := funext fun p => PL_loc h f 5 (op + 1) p
      have e0 : PL B2 n u f 0 (op + 1) = PL B n u f 0 (op + 1) := funext fun p => PL_loc h f 0 (op + 1) p
      unfold PQ
      rw [e5, e0, h p, numP_loc h, h]
theorem TR_loc (h : ∀ j, j < n → B2 j = B j) : TR B2 n u = TR B n u := PL_loc (bt_loc h) 400 0 0 0
end
theorem TxR.mv {cd cd2 : Nat → List Int32} {N N2 : Nat} {x : Int32} {w w2 : Nat → Int32} {u : Nat} (h : TxR cd N x w u) (hc : ∀ i, i < N → cd2 i = cd i) (hN : N ≤ N2) (h5 : w2 (5 + u) = w (5 + u)) (ht : ∀ j, j < 50 → w2 (134 + 50 * u + j) = w (134 + 50 * u + j)) : TxR cd2 N2 x w2 u := by
  obtain ⟨h1, h2⟩ := h
  have hn : nW w2 u = nW w u := by
    unfold nW
    rw [h5]
  refine ⟨?_, ?_⟩
  · rcases h1 with h1 | ⟨n, n1, n2, n3, n4⟩
    · refine Or.inl ?_
      rw [h5]
      exact h1
    · refine Or.inr ⟨n, n1, h5.trans n2, fun j hj => ?_, ?_⟩
      · show leI (w2 (134 + 50 * u + j)) 255
        rw [ht j hj]
        exact n3 j hj
      · unfold isText
        rw [TR_loc (B2 := txW w2 u) (B := txW w u) (fun j hj => ht j (by omega))]
        exact n4
  · rcases h2 with ⟨h0, hs⟩ | ⟨i, hi, hx, hs, he⟩
    · exact Or.inl ⟨h0, by rw [h5]; exact hs⟩
    · refine Or.inr ⟨i, by omega, hx, by rw [h5]; exact hs, ?_⟩
      rw [hc i hi, he, hn]
      have hle : nW w u ≤ 50 := by
        rcases h1 with h1 | ⟨n, n1, n2, n3, n4⟩
        · exact absurd h1 hs
        · unfold nW
          rw [n2, nI_clamp (by omega)]
          exact n1
      rw [TR_loc (B2 := txW w2 u) (B := txW w u) (fun j hj => ht j (by omega))]
/-- a table and its desk over other laws -/
theorem TbR.mv {cd cd2 : Nat → List Int32} {N N2 : Nat} {X Y : MW} {dk tp wt row : Nat → Int32} (t : TbR cd N X dk tp wt row) (hc : ∀ i, i < N → cd2 i = cd i) (hN : N ≤ N2) (h : ∀ j, j < 8 → Y j = X j) : TbR cd2 N2 Y dk tp wt row := by
  obtain ⟨t1, t2, t3, t4, t5, t6, t7, t8, t9, t10⟩ := TbR_9 h t
  exact ⟨t1, t2, t3, t4, t5, t6, t7, t8, t9.mv hc hN rfl (fun _ _ => rfl), t10.mv hc hN rfl (fun _ _ => rfl)⟩
/-- a table changed -/
theorem TbR.tab {cd : Nat → List Int32} {N : Nat} {X Y : MW} {dk tp wt row row2 : Nat → Int32} (t : TbR cd N X dk tp wt row) (hW : WF Y) (hS : leI (Y 0 9) 9999) (h11 : Y 0 11 = X 0 11) (h12 : Y 0 12 = X 0 12) (hE : Eq7 Y (vr row2)) (hr : ∀ p, (p = 1 ∨ (3 ≤ p ∧ p ≤ 6) ∨ 64 ≤ p) → row2 p = row p) : TbR cd N Y dk tp wt row2 := by
  obtain ⟨t1, t2, t3, t4, t5, t6, t7, t8, t9, t10⟩ := t
  refine ⟨hW, hS, hE, (hr 1 (by omega)).trans t4, ⟨t5.1, (hr 3 (by omega)).trans t5.2⟩, ⟨t6.1, (hr 4 (by omega)).trans t6.2⟩, fun j hj => ⟨(t7 j hj).1, (hr _ (by omega)).trans (t7 j hj).2⟩, fun j hj => (hr _ (by omega)).trans (t8 j hj), ?_, ?_⟩
  · rw [h11]
    exact t9.mv (fun _ _ => rfl) (Nat.le_refl _) (hr _ (by omega)) (fun j _ => hr _ (by omega))
  · rw [h12]
    exact t10.mv (fun _ _ => rfl) (Nat.le_refl _) (hr _ (by omega)) (fun j _ => hr _ (by omega))
/-- a desk changed -/
theorem TbR.dsk {cd : Nat → List Int32} {N : Nat} {X : MW} {dk tp wt row dk2 tp2 wt2 row2 : Nat → Int32} (t : TbR cd N X dk tp wt row) (h1 : row2 1 = dk2 0) (h2 : leI (dk2 2) 50 ∧ row2 3 = dk2 2) (h3 : leI (dk2 4) 20 ∧ row2 4 = dk2 4) (h4 : ∀ j, j < 50 → leI (tp2 j) 255 ∧ row2 (64 + j) = tp2 j) (h5 : ∀ j, j < 20 → row2 (114 + j) = wt2 j) (hr : ∀ p, (p = 0 ∨ p = 2 ∨ (5 ≤ p ∧ p < 64) ∨ 134 ≤ p) → row2 p = row p) : TbR cd N X dk2 tp2 wt2 row2 := by
  obtain ⟨t1, t2, t3, t4, t5, t6, t7, t8, t9, t10⟩ := t
  refine ⟨t1, t2, ?_, h1, h2, h3, h4, h5, t9.mv (fun _ _ => rfl) (Nat.le_refl _) (hr _ (by omega)) (fun j _ => hr _ (by omega)), t10.mv (fun _ _ => rfl) (Nat.le_refl _) (hr _ (by omega)) (fun j _ => hr _ (by omega))⟩
  refine t3.tr ⟨fun j j1 j8 i hi => ?_, hr 7 (by omega), hr 0 (by omega), hr 2 (by omega)⟩
  by_cases e : j = 1
  · subst e
    exact hr (8 + i) (by omega)
  · obtain ⟨c, rfl⟩ : ∃ c, j = 2 + c := ⟨j - 2, by omega⟩
    rw [← vr_c, ← vr_c]
    exact hr _ (by omega)
section
variable {a b a2 b2 : MW} {ln ln2 : Nat → Nat} {N N2 q q2 : Nat}
theorem ImR2.mv (h : ImR2 a b ln N q) (hq : q ≤ q2) (hN : N ≤ N2) (hc : ∀ i, i < N → codL a2 ln2 i = codL a ln i) (e0 : a2 0 6 = a 0 6) (ex : ∀ k, ((28 ≤ k ∧ k < 36) ∨ (40 ≤ k ∧ k < 43)) → a2 k = a k) (e4 : b2 57 4 = b 57 4) (e5 : b2 57 5 = b 57 5) (e9 : b2 59 = b 59) : ImR2 a2 b2 ln2 N2 q2 := by
  obtain ⟨im, i1, i2, i3, i4, i5⟩ := h
  refine ⟨im, by omega, e0.trans i2, e5.trans i3, e4.trans i4, fun z => ?_⟩
  rw [ex 40 (by omega), ex 41 (by omega), ex 42 (by omega), e9]
  exact (i5 z).mv hc hN (fun j hj => ex _ (by omega))
theorem ShR2.mv (h : ShR2 a b) (ex : ∀ k, 48 ≤ k → k < 56 → a2 k = a k) (em : ∀ k, 63 ≤ k → k < 66 → b2 k = b k) : ShR2 a2 b2 := fun s hs => by
  rw [ex (48 + 2 * s) (by omega) (by omega), ex (49 + 2 * s) (by omega) (by omega), em 63 (by omega) (by omega), em 64 (by omega) (by omega), em 65 (by omega) (by omega)]
  exact h s hs
theorem ErR2.mv (h : ErR2 a b) (ex : a2 56 = a 56) (em : b2 62 = b 62) : ErR2 a2 b2 := fun e h1 h2 => by
  rw [ex, em]
  exact h e h1 h2
theorem VoR2.mv (h : VoR2 a b) (ex : ∀ k, 45 ≤ k → k < 47 → a2 k = a k) (em : b2 57 21 = b 57 21) (em2 : b2 68 = b 68) : VoR2 a2 b2 := by
  obtain ⟨c, v1, v2, v3, v4⟩ := h
  refine ⟨c, v1, ?_, em.trans v3, ?_⟩
  · rw [ex 45 (by omega) (by omega)]
    exact v2
  · rw [ex 46 (by omega) (by omega), em2]
    exact v4
/-- table or desk changed, all else not -/
theorem Rel2.td (R : Rel2 a b ln N q) (hx : ∀ k, ((28 ≤ k ∧ k < 36) ∨ (40 ≤ k ∧ k < 43) ∨ (45 ≤ k ∧ k < 57) ∨ 69 ≤ k) → a2 k = a k) (h0 : a2 0 6 = a 0 6) (hm : ∀ k, 57 ≤ k → k < 69 → k ≠ 58 → b2 k = b k) (hT : TbR (codL a2 ln) N (vw a2 0) (a2 37) (a2 38) (a2 39) (b2 58)) : Rel2 a2 b2 ln N q := by
  obtain ⟨r1, r2, r3, r4, r5, r6, r7, r8⟩ := R
  have hc : codL a2 ln = codL a ln := by
    funext i
    unfold codL
    rw [hx (70 + 3 * i) (by omega)]
  refine ⟨r1, r2, ⟨r3.1, fun i hi => ?_⟩, hT, r5.mv (Nat.le_refl _) (Nat.le_refl _) (fun i _ => by rw [hc]) h0 (fun k h => hx k (by omega)) ?_ ?_ ?_, r6.mv (fun k h1 h2 => hx k (by omega)) (fun k h1 h2 => hm k (by omega) (by omega) (by omega)), r7.mv (hx 56 (by omega)) (hm 62 (by decide) (by decide) (by decide)), r8.mv (fun k h1 h2 => hx k (by omega)) ?_ ?_⟩
  · rw [hc]
    exact r3.2 i hi
  · rw [hm 57 (by decide) (by decide) (by decide)]
  · rw [hm 57 (by decide) (by decide) (by decide)]
  · rw [hm 59 (by decide) (by decide) (by decide)]
  · rw [hm 57 (by decide) (by decide) (by decide)]
  · rw [hm 68 (by decide) (by decide) (by decide)]
theorem cod_td (hx : ∀ k, 69 ≤ k → a2 k = a k) : codL a2 ln = codL a ln := by
  funext i
  unfold codL
  rw [hx (70 + 3 * i) (by omega)]
/-- the table alone changed -/
theorem Rel2.tb (R : Rel2 a b ln N q) (hx : ∀ k, ¬ (1 ≤ k ∧ k < 10) → a2 k = a k) (hm : ∀ k, 57 ≤ k → k < 69 → k ≠ 58 → b2 k = b k) (hW : WF (vw a2 0)) (hS : leI (a2 1 9) 9999) (h11 : a2 1 11 = a 1 11) (h12 : a2 1 12 = a 1 12) (hE : Eq7 (vw a2 0) (vr (b2 58))) (hr : ∀ p, (p = 1 ∨ (3 ≤ p ∧ p ≤ 6) ∨ 64 ≤ p) → b2 58 p = b 58 p) : Rel2 a2 b2 ln N q := by
  refine R.td (fun k h => hx k (by omega)) (by rw [hx 0 (by omega)]) hm ?_
  rw [cod_td (a := a) (fun k h => hx k (by omega)), hx 37 (by omega), hx 38 (by omega), hx 39 (by omega)]
  exact R.T.tab hW hS h11 h12 hE hr
/-- the desk alone changed -/
theorem Rel2.dk (R : Rel2 a b ln N q) (hx : ∀ k, ¬ (37 ≤ k ∧ k < 40) → a2 k = a k) (hm : ∀ k, 57 ≤ k → k < 69 → k ≠ 58 → b2 k = b k) (h1 : b2 58 1 = a2 37 0) (h2 : leI (a2 37 2) 50 ∧ b2 58 3 = a2 37 2) (h3 : leI (a2 37 4) 20 ∧ b2 58 4 = a2 37 4) (h4 : ∀ j, j < 50 → leI (a2 38 j) 255 ∧ b2 58 (64 + j) = a2 38 j) (h5 : ∀ j, j < 20 → b2 58 (114 + j) = a2 39 j) (hr : ∀ p, (p = 0 ∨ p = 2 ∨ (5 ≤ p ∧ p < 64) ∨ 134 ≤ p) → b2 58 p = b 58 p) : Rel2 a2 b2 ln N q := by
  refine R.td (fun k h => hx k (by omega)) (by rw [hx 0 (by omega)]) hm ?_
  rw [cod_td (a := a) (fun k h => hx k (by omega))]
  have e : vw a2 0 = vw a 0 ∨ True := Or.inr trivial
  refine (TbR_9 (Y := vw a2 0) (fun j hj => hx _ (by omega)) R.T).dsk h1 h2 h3 h4 h5 hr
end
/-! a word changed in a table, in a row -/
theorem vw_up (m : MW) (j i : Nat) (x : Int32) : vw (upm m (j + 1) i x) 0 = upm (vw m 0) j i x := by
  funext k2 i2
  unfold vw upm
  by_cases h : k2 = j ∧ i2 = i
  · rw [if_pos h, if_pos (by omega)]
  · rw [if_neg h, if_neg (by omega)]
theorem vr_up (b : MW) {i c : Nat} (x : Int32) (hi : i < 8) (hc : c < 6) : Eq7 (upm (vr (b 58)) (2 + c) i x) (vr (upm b 58 (16 + 6 * i + c) x 58)) := by
  refine ⟨fun j h1 h8 k hk => ?_, ?_, ?_, ?_⟩
  · by_cases e : j = 1
    · subst e
      rw [upm_k _ _ (by omega)]
      exact upm_j _ _ (show 8 + k ≠ 16 + 6 * i + c by omega)
    · obtain ⟨c2, rfl⟩ : ∃ c, j = 2 + c := ⟨j - 2, by omega⟩
      rw [← vr_c]
      unfold upm
      by_cases h : 2 + c2 = 2 + c ∧ k = i
      · rw [if_pos h, if_pos ⟨rfl, by omega⟩]
      · rw [if_neg h, if_neg (by omega), ← vr_c]
  · rw [upm_k _ _ (by omega)]
    exact upm_j _ _ (show 7 ≠ 16 + 6 * i + c by omega)
  · rw [upm_k _ _ (by omega)]
    exact upm_j _ _ (show 0 ≠ 16 + 6 * i + c by omega)
  · rw [upm_k _ _ (by omega)]
    exact upm_j _ _ (show 2 ≠ 16 + 6 * i + c by omega)
theorem vr_fl (b : MW) {i : Nat} (x : Int32) (hi : i < 8) : Eq7 (upm (vr (b 58)) 1 i x) (vr (upm b 58 (8 + i) x 58)) := by
  refine ⟨fun j h1 h8 k hk => ?_, ?_, ?_, ?_⟩
  · by_cases e : j = 1
    · subst e
      show upm b 58 (8 + i) x 58 (8 + k) = upm (vr (b 58)) 1 i x 1 k
      unfold upm
      by_cases h : k = i
      · subst h
        rw [if_pos ⟨rfl, rfl⟩, if_pos ⟨rfl, rfl⟩]
      · rw [if_neg (by omega), if_neg (by omega)]
        rfl
    · obtain ⟨c2, rfl⟩ : ∃ c, j = 2 + c := ⟨j - 2, by omega⟩
      rw [← vr_c, upm_k (vr (b 58)) _ (show 2 + c2 ≠ 1 by omega), ← vr_c]
      exact upm_j _ _ (by omega)
  · rw [upm_k _ _ (by omega)]
    exact upm_j _ _ (show 7 ≠ 8 + i by omega)
  · rw [upm_k _ _ (by omega)]
    exact upm_j _ _ (show 0 ≠ 8 + i by omega)
  · rw [upm_k _ _ (by omega)]
    exact upm_j _ _ (show 2 ≠ 8 + i by omega)
theorem vr_n (b : MW) (x : Int32) : Eq7 (upm (vr (b 58)) 0 10 x) (vr (upm b 58 2 x 58)) := by
  refine ⟨fun j h1 h8 k hk => ?_, rfl, rfl, rfl⟩
  rw [upm_k _ _ (by omega)]
  by_cases e : j = 1
  · subst e
    exact upm_j _ _ (show 8 + k ≠ 2 by omega)
  · obtain ⟨c2, rfl⟩ : ∃ c, j = 2 + c := ⟨j - 2, by omega⟩
    rw [← vr_c, ← vr_c]
    exact upm_j _ _ (by omega)
theorem vr_w (b : MW) (x : Int32) : Eq7 (upm (vr (b 58)) 0 8 x) (vr (upm b 58 7 x 58)) := by
  refine ⟨fun j h1 h8 k hk => ?_, rfl, rfl, rfl⟩
  rw [upm_k _ _ (by omega)]
  by_cases e : j = 1
  · subst e
    exact upm_j _ _ (show 8 + k ≠ 7 by omega)
  · obtain ⟨c2, rfl⟩ : ∃ c, j = 2 + c := ⟨j - 2, by omega⟩
    rw [← vr_c, ← vr_c]
    exact upm_j _ _ (by omega)
theorem WF_u {X : MW} {j i : Nat} {x : Int32} (w : WF X) (hj : 1 ≤ j) (h1 : j = 1 → leI x 30) (h2 : j = 2 → leI x 6) (h3 : j = 3 → leI x 9) (h4 : j = 4 → leI x 99) (h5 : j = 5 → leI x 9) (h6 : j = 6 → leI x 99) (h7 : j = 7 → x = 0 ∨ x = 1) : WF (upm X j i x) := by
  refine ⟨?_, ?_, fun k hk => ?_⟩
  · rw [upm_k _ _ (by omega)]
    exact w.1
  · rw [upm_k _ _ (by omega)]
    exact w.2.1
  · obtain ⟨w1, w2, w3, w4, w5, w6, w7⟩ := w.2.2 k hk
    have g : ∀ (P : Int32 → Prop) (c : Nat), P (X c k) → (j = c → P x) → P (upm X j i x c k) := fun P c p1 p2 => by
      unfold upm
      by_cases e : c = j ∧ k = i
      · rw [if_pos e]
        exact p2 e.1.symm
      · rw [if_neg e]
        exact p1
    exact ⟨g (fun x => leI x 30) 1 w1 h1, g (fun x => leI x 6) 2 w2 h2, g (fun x => leI x 9) 3 w3 h3, g (fun x => leI x 99) 4 w4 h4, g (fun x => leI x 9) 5 w5 h5, g (fun x => leI x 99) 6 w6 h6, g (fun x => x = 0 ∨ x = 1) 7 w7 h7⟩
theorem upm_cm (m : MW) {k j k2 j2 : Nat} (x x2 : Int32) (h : k ≠ k2 ∨ j ≠ j2) : upm (upm m k j x) k2 j2 x2 = upm (upm m k2 j2 x2) k j x := by
  funext a b
  unfold upm
  by_cases h1 : a = k ∧ b = j
  · by_cases h2 : a = k2 ∧ b = j2
    · omega
    · rw [if_neg h2, if_pos h1, if_pos h1]
  · by_cases h2 : a = k2 ∧ b = j2
    · rw [if_pos h2, if_neg h1, if_pos h2]
    · rw [if_neg h2, if_neg h1, if_neg h1, if_neg h2]
end
section
/-! CALLS ON BOTH SIDES that change tables, images -/
section
variable {xs : List Int32} {m m0 : MW} {ln : Nat → Nat} {N q : Nat}
theorem sx58 {A B : MW} (h : ∀ k, k ≠ 58 → B k = A k) : SmX A B := fun k j c => congrFun (h k (fun e => cXM c (by omega))) j
theorem sm_up {k j : Nat} {x : Int32} (h : k < 57) : SmM m (upm m k j x) := fun k2 j2 c => upm_k _ _ (by have := (cM_n c).2.2.2; omega)
/-- one word of the table, on both sides -/
theorem Rel2.one (R : Rel2 m m ln N q) {j i p : Nat} (x : Int32) (hj : j < 8) (h9 : j = 0 → i = 8 ∨ i = 10) (hp : p = 2 ∨ (7 ≤ p ∧ p < 64)) (hW : WF (upm (vw m 0) j i x)) (hE : Eq7 (upm (vw m 0) j i x) (vr (upm m 58 p x 58))) : Rel2 (upm (upm m (j + 1) i x) 58 p x) (upm (upm m (j + 1) i x) 58 p x) ln N q := by
  have e58 : upm (upm m (j + 1) i x) 58 p x 58 = upm m 58 p x 58 := by
    funext k
    unfold upm
    by_cases h : k = p
    · rw [if_pos ⟨rfl, h⟩, if_pos ⟨rfl, h⟩]
    · rw [if_neg (by omega), if_neg (by omega), if_neg (by omega)]
  have hA : Rel2 (upm m (j + 1) i x) (upm (upm m (j + 1) i x) 58 p x) ln N q := by
    refine R.tb (fun k h => row_up _ _ (by omega)) (fun k h1 h2 h3 => (row_up _ _ h3).trans (row_up _ _ (by omega))) ?_ ?_ ?_ ?_ ?_ (fun r hr => ?_)
    · rw [vw_up]
      exact hW
    · have e : upm m (j + 1) i x 1 9 = m 1 9 := by
        unfold upm
        rw [if_neg (by omega)]
      rw [e]
      exact R.T.2.1
    · unfold upm
      rw [if_neg (by omega)]
    · unfold upm
      rw [if_neg (by omega)]
    · rw [vw_up, e58]
      exact hE
    · rw [e58]
      exact upm_j _ _ (by omega)
  exact hA.fr (sx58 (fun k h => row_up _ _ h)) SmM.rf
/-- one word of a DINER's -/
theorem Rel2.wd (R : Rel2 m m ln N q) (c i : Nat) (x : Int32) (hi : i < 8) (hc : c < 6) (h2 : c = 0 → leI x 6) (h3 : c = 1 → leI x 9) (h4 : c = 2 → leI x 99) (h5 : c = 3 → leI x 9) (h6 : c = 4 → leI x 99) (h7 : c = 5 → x = 0 ∨ x = 1) : Rel2 (upm (upm m (2 + c + 1) i x) 58 (16 + 6 * i + c) x) (upm (upm m (2 + c + 1) i x) 58 (16 + 6 * i + c) x) ln N q :=
  R.one x (by omega) (fun e => by omega) (by omega) (WF_u R.W (by omega) (fun e => by omega) (fun e => h2 (by omega)) (fun e => h3 (by omega)) (fun e => h4 (by omega)) (fun e => h5 (by omega)) (fun e => h6 (by omega)) (fun e => h7 (by omega))) ((R.E7.up _ _ _).tr (vr_up m x hi hc))
theorem Rel2.fl (R : Rel2 m m ln N q) (i : Nat) (x : Int32) (hi : i < 8) (h : leI x 30) : Rel2 (upm (upm m 2 i x) 58 (8 + i) x) (upm (upm m 2 i x) 58 (8 + i) x) ln N q :=
  R.one (j := 1) x (by omega) (fun e => by omega) (by omega) (WF_u R.W (by omega) (fun _ => h) (fun e => by omega) (fun e => by omega) (fun e => by omega) (fun e => by omega) (fun e => by omega) (fun e => by omega)) ((R.E7.up _ _ _).tr (vr_fl m x hi))
theorem Rel2.wr (R : Rel2 m m ln N q) (w : Nat) (h1 : 1 ≤ w) (h4 : w ≤ 4) : Rel2 (upm (upm m 1 8 (nI w)) 58 7 (nI w)) (upm (upm m 1 8 (nI w)) 58 7 (nI w)) ln N q :=
  R.one (j := 0) (nI w) (by omega) (fun e => by omega) (by omega) (WF_w R.W h1 h4) ((R.E7.up _ _ _).tr (vr_w m _))
theorem Rel2.nn (R : Rel2 m m ln N q) (n : Nat) (h : n ≤ 8) : Rel2 (upm (upm m 1 10 (nI n)) 58 2 (nI n)) (upm (upm m 1 10 (nI n)) 58 2 (nI n)) ln N q :=
  R.one (j := 0) (nI n) (by omega) (fun e => by omega) (by omega) (by
    refine ⟨⟨n, h, upm_self _ _ _ _⟩, ?_, fun i hi => ?_⟩
    · rw [upm_j _ _ (by decide)]
      exact R.W.2.1
    · rw [upm_k _ _ (by decide), upm_k _ _ (by decide), upm_k _ _ (by decide), upm_k _ _ (by decide), upm_k _ _ (by decide), upm_k _ _ (by decide), upm_k _ _ (by decide)]
      exact R.W.2.2 i hi) ((R.E7.up _ _ _).tr (vr_n m _))
theorem cm58 {k p j : Nat} {a x : Int32} (hk : k ≠ 58) : upm (upm m 58 p a) k j x = upm (upm m k j x) 58 p a := upm_cm _ _ _ (Or.inl (fun e => hk e.symm))
theorem vr_rowU (w : Nat → Int32) (Y : MW) : Eq7 Y (vr (rowU w Y)) := by
  refine ⟨fun j h1 h8 i hi => ?_, rfl, rfl, rfl⟩
  by_cases e : j = 1
  · subst e
    show rowU w Y (8 + i) = Y 1 i
    unfold rowU
    rw [if_neg (by omega), if_neg (by omega), if_neg (by omega), if_pos (by omega), Nat.add_sub_cancel_left]
  · obtain ⟨c, rfl⟩ : ∃ c, j = 2 + c := ⟨j - 2, by omega⟩
    rw [← vr_c]
    exact rowU_c w Y hi (by omega)
theorem st_st (LK BL : LF) {X : MW} {st : Nat} (h : X 0 9 = nI st) : ∀ k, stepN LK BL X k 0 9 = nI (st + k)
  | 0 => h
  | k + 1 => by
    show stepF LK BL (stepN LK BL X k) 0 9 = nI (st + (k + 1))
    rw [stepF_st, st_st LK BL h k, nI_1]
    rfl
theorem lo_st (LK BL : LF) {X : MW} {n st : Nat} {z : Int32} (h : X 0 9 = nI st) : ∀ k, looX LK BL n X z k 0 9 = nI (st + k)
  | 0 => h
  | k + 1 => by
    show stepF LK BL (drX (looX LK BL n X z k) n (dN (zN z (k + 1)))) 0 9 = nI (st + (k + 1))
    rw [stepF_st, drX_0, lo_st LK BL h k, nI_1]
    rfl
/-- a whole table changed on both sides -/
theorem Rel2.stp (R : Rel2 m0 m0 ln N q) {X2 Y m3 : MW} (hW : WF X2) (hS : leI (X2 0 9) 9999) (h11 : X2 0 11 = m0 1 11) (h12 : X2 0 12 = m0 1 12) (hE : Eq7 X2 Y) (hx : ∀ k j, cX k j → ¬ (1 ≤ k ∧ k < 9) → m3 k j = m0 k j) (hx2 : ∀ j, j < 8 → ∀ i, m3 (j + 1) i = X2 j i) (h58 : ∀ j, m3 58 j = rowU (m0 58) Y j) (hm : ∀ k j, cM k j → k ≠ 58 → m3 k j = m0 k j) : Rel2 m3 m3 ln N q := by
  have e1 : ∀ j, j < 9 → putT m0 0 X2 (j + 1) = X2 j := fun j hj => by
    funext i
    unfold putT
    rw [if_pos (by omega), show j + 1 - (1 + 9 * 0) = j by omega]
  have e2 : ∀ k, ¬ (1 ≤ k ∧ k < 10) → putT m0 0 X2 k = m0 k := fun k h => by
    funext i
    unfold putT
    rw [if_neg (by omega)]
  have e3 : ∀ j, j < 9 → vw (putT m0 0 X2) 0 j = X2 j := fun j hj => e1 j hj
  have e4 : upmR (putT m0 0 X2) 58 (rowU (m0 58) Y) 58 = rowU (m0 58) Y := if_pos rfl
  have hA : Rel2 (putT m0 0 X2) (upmR (putT m0 0 X2) 58 (rowU (m0 58) Y)) ln N q := by
    refine R.tb e2 (fun k h1 h2 h3 => (upmR_k h3).trans (e2 k (by omega))) (WF_9 (fun j hj => e3 j (by omega)) hW) ?_ ?_ ?_ ?_ (fun r hr => ?_)
    · show leI (putT m0 0 X2 (0 + 1) 9) 9999
      rw [e1 0 (by decide)]
      exact hS
    · show putT m0 0 X2 (0 + 1) 11 = _
      rw [e1 0 (by decide)]
      exact h11
    · show putT m0 0 X2 (0 + 1) 12 = _
      rw [e1 0 (by decide)]
      exact h12
    · rw [e4]
      exact Eq7_9 (fun j hj => e3 j (by omega)) (hE.tr (vr_rowU _ _))
    · rw [e4]
      exact rowU_w _ _ (by omega)
  refine hA.fr (fun k j c => ?_) (fun k j c => ?_)
  · by_cases h : 1 ≤ k ∧ k < 9
    · obtain ⟨k, rfl⟩ : ∃ z, k = z + 1 := ⟨k - 1, by omega⟩
      rw [hx2 k (by omega), e1 k (by omega)]
    · rw [hx k j c h]
      exact (congrFun (e2 k (by unfold cX at c; omega)) j).symm
  · by_cases h : k = 58
    · subst h
      rw [h58, e4]
    · rw [hm k j c h]
      refine ((congrFun (upmR_k h) j).trans (congrFun (e2 k ?_) j)).symm
      have := (cM_n c).2.2.2
      omega
end
section
variable {xs : List Int32} {d : Nat} {h : AH} {Q : QT} {m : MW} {ln : Nat → Nat} {N : Nat}
set_option maxRecDepth 20000 in
set_option maxHeartbeats 40000000 in
theorem x_diner4 {a b c : Int32} {n : Nat} (hd : m 1 10 = nI n) (hn : n ≤ 8) (hE1 : (a.toInt < 0 ∨ 69 < a.toInt ∨ b.toInt < 0 ∨ 99 < b.toInt ∨ c.toInt < 0 ∨ 9 < c.toInt) → Q (some (.int (-1000000000 - nI 1))) (H (erm m 1) ln N)) (hE4 : (n = 8 ∧ ∃ i k l : Nat, a = nI i ∧ i ≤ 69 ∧ b = nI k ∧ k ≤ 99 ∧ c = nI l ∧ l ≤ 9) → Q (some (.int (-1000000000 - nI 4))) (H (erm m 4) ln N)) (hY : ∀ i k l : Nat, a = nI i → i ≤ 69 → b = nI k → k ≤ 99 → c = nI l → l ≤ 9 → n < 8 → Q (some (.int (nI n))) (H (upm (upm (upm (upm (upm (upm (upm m 3 n (nI (i / 10))) 4 n (nI (i % 10))) 5 n (nI k)) 6 n (nI l)) 7 n 0) 8 n 0) 1 10 (nI (n + 1))) ln N)) : WP xs (d + 2) 59 0 0 [.ref (32), .int (a), .int (b), .int (c)] (H m ln N) Q := by
  refine wp_x mx_59 (L := [some (.ref (32)), some (.int (a)), some (.int (b)), some (.int (c)), none]) (Nat.le_of_ble_eq_true rfl) rfl ?_
  refine g_iload_n m59_0 rfl ?_
  refine g_bipush m59_1 ?_
  refine g_cs (args := [.int (a), .int (69)]) (rest := []) 0 (Or.inl rfl) m59_3 (Nat.le_of_ble_eq_true rfl) rfl rfl (Nat.le_of_ble_eq_true rfl) ?_
  refine c_within (M := 69) rfl (fun ja ea a_8 => ?_) (fun a_8 => ?_)
  · subst ea
    refine gwr ?_
    refine h_if_eqF (xi := 1) (zi := 0) m59_6 rfl rfl (by decide) ?_
    refine g_iload_n m59_9 rfl ?_
    refine g_bipush m59_10 ?_
    refine g_cs (args := [.int (b), .int (99)]) (rest := []) 0 (Or.inl rfl) m59_12 (Nat.le_of_ble_eq_true rfl) rfl rfl (Nat.le_of_ble_eq_true rfl) ?_
    refine c_within (M := 99) rfl (fun jb eb a_9 => ?_) (fun a_9 => ?_)
    · subst eb
      refine gwr ?_
      refine h_if_eqF (xi := 1) (zi := 0) m59_15 rfl rfl (by decide) ?_
      refine g_iload_n m59_18 rfl ?_
      refine g_bipush m59_19 ?_
      refine g_cs (args := [.int (c), .int (9)]) (rest := []) 0 (Or.inl rfl) m59_21 (Nat.le_of_ble_eq_true rfl) rfl rfl (Nat.le_of_ble_eq_true rfl) ?_
      refine c_within (M := 9) rfl (fun jc ec a_10 => ?_) (fun a_10 => ?_)
      · subst ec
        refine gwr ?_
        refine h_if_neF (xi := 1) (zi := 0) m59_24 rfl rfl (by decide) ?_
        refine g_aload_n m59_33 rfl ?_
        refine h_gfR (c := 33) (k := 0) (p := 32) m59_34 rfl (t_0 _ _) rfl (Nat.le_of_ble_eq_true rfl) ?_
        refine h_gfI (k := 1) (p := 33) m59_37 rfl (t_1 _ _) rfl (hd) ?_
        refine g_bipush m59_40 ?_
        refine h_ic_lt (xi := ((n : Nat) : Int)) (zi := 8) m59_42 (nI_toInt (by omega)) rfl (fun c1 => ?_) (fun c1 => ?_)
        · skip
          refine g_aload_n m59_51 rfl ?_
          refine h_gfR (c := 33) (k := 0) (p := 32) m59_52 rfl (t_0 _ _) rfl (Nat.le_of_ble_eq_true rfl) ?_
          refine h_gfI (k := 1) (p := 33) m59_55 rfl (t_1 _ _) rfl (hd) ?_
          refine g_istore (L2 := [some (.ref (32)), some (.int (nI (ja))), some (.int (nI (jb))), some (.int (nI (jc))), some (.int (nI (n)))]) m59_58 rfl rfl ?_
          refine g_aload_n m59_60 rfl ?_
          refine h_gfR (c := 33) (k := 0) (p := 32) m59_61 rfl (t_0 _ _) rfl (Nat.le_of_ble_eq_true rfl) ?_
          refine h_gfR (c := 35) (k := 1) (p := 33) m59_64 rfl (t_1 _ _) rfl (Nat.le_of_ble_eq_true rfl) ?_
          refine g_iload m59_67 rfl ?_
          refine g_iload_n m59_69 rfl ?_
          refine g_bipush m59_70 ?_
          refine g_idiv (u := nI (ja / 10)) m59_72 (by decide) (pk_div (a := ja) (d := 10) (by omega) (by decide) (by decide)) ?_
          refine h_ias (k := 3) (p := 35) (j := n) m59_73 rfl (t_3 _ _) (rfl) (by omega) (Nat.le_of_ble_eq_true rfl) ?_
          refine g_aload_n m59_74 rfl ?_
          refine h_gfR (c := 33) (k := 0) (p := 32) m59_75 rfl (t_0 _ _) rfl (Nat.le_of_ble_eq_true rfl) ?_
          refine h_gfR (c := 36) (k := 1) (p := 33) m59_78 rfl (t_1 _ _) rfl (Nat.le_of_ble_eq_true rfl) ?_
          refine g_iload m59_81 rfl ?_
          refine g_iload_n m59_83 rfl ?_
          refine g_bipush m59_84 ?_
          refine g_irem (u := nI (ja % 10)) m59_86 (by decide) (pk_rem (a := ja) (d := 10) (by omega) (by decide) (by decide)) ?_
          refine h_ias (k := 4) (p := 36) (j := n) m59_87 rfl (t_4 _ _) (rfl) (by omega) (Nat.le_of_ble_eq_true rfl) ?_
          refine g_aload_n m59_88 rfl ?_
          refine h_gfR (c := 33) (k := 0) (p := 32) m59_89 rfl (t_0 _ _) rfl (Nat.le_of_ble_eq_true rfl) ?_
          refine h_gfR (c := 37) (k := 1) (p := 33) m59_92 rfl (t_1 _ _) rfl (Nat.le_of_ble_eq_true rfl) ?_
          refine g_iload m59_95 rfl ?_
          refine g_iload_n m59_97 rfl ?_
          refine h_ias (k := 5) (p := 37) (j := n) m59_98 rfl (t_5 _ _) (rfl) (by omega) (Nat.le_of_ble_eq_true rfl) ?_
          refine g_aload_n m59_99 rfl ?_
          refine h_gfR (c := 33) (k := 0) (p := 32) m59_100 rfl (t_0 _ _) rfl (Nat.le_of_ble_eq_true rfl) ?_
          refine h_gfR (c := 38) (k := 1) (p := 33) m59_103 rfl (t_1 _ _) rfl (Nat.le_of_ble_eq_true rfl) ?_
          refine g_iload m59_106 rfl ?_
          refine g_iload_n m59_108 rfl ?_
          refine h_ias (k := 6) (p := 38) (j := n) m59_109 rfl (t_6 _ _) (rfl) (by omega) (Nat.le_of_ble_eq_true rfl) ?_
          refine g_aload_n m59_110 rfl ?_
          refine h_gfR (c := 33) (k := 0) (p := 32) m59_111 rfl (t_0 _ _) rfl (Nat.le_of_ble_eq_true rfl) ?_
          refine h_gfR (c := 39) (k := 1) (p := 33) m59_114 rfl (t_1 _ _) rfl (Nat.le_of_ble_eq_true rfl) ?_
          refine g_iload m59_117 rfl ?_
          refine g_iconst m59_119 ?_
          refine h_ias (k := 7) (p := 39) (j := n) m59_120 rfl (t_7 _ _) (rfl) (by omega) (Nat.le_of_ble_eq_true rfl) ?_
          refine g_aload_n m59_121 rfl ?_
          refine h_gfR (c := 33) (k := 0) (p := 32) m59_122 rfl (t_0 _ _) rfl (Nat.le_of_ble_eq_true rfl) ?_
          refine h_gfR (c := 40) (k := 1) (p := 33) m59_125 rfl (t_1 _ _) rfl (Nat.le_of_ble_eq_true rfl) ?_
          refine g_iload m59_128 rfl ?_
          refine g_iconst m59_130 ?_
          refine h_bas (k := 8) (p := 40) (j := n) m59_131 rfl (t_8 _ _) (rfl) (by omega) (Nat.le_of_ble_eq_true rfl) (Or.inl rfl) ?_
          refine g_aload_n m59_132 rfl ?_
          refine h_gfR (c := 33) (k := 0) (p := 32) m59_133 rfl (t_0 _ _) rfl (Nat.le_of_ble_eq_true rfl) ?_
          refine g_iload m59_136 rfl ?_
          refine g_iconst m59_138 ?_
          refine g_iadd (u := nI (n + 1)) m59_139 (nI_add n 1) ?_
          refine h_pfI (k := 1) (p := 33) m59_140 rfl (t_1 _ _) rfl trivial ?_
          refine g_iload m59_143 rfl ?_
          refine g_iret m59_145 rt_59 ?_
          exact hY ja jb jc rfl (by omega) rfl (by omega) rfl (by omega) (by omega)
        · skip
          refine g_aload_n m59_45 rfl ?_
          refine g_iconst m59_46 ?_
          refine h_cv (k := 0) (p := 32) (args := [.int (4)]) (rest := []) m59_47 cn_55 (Nat.le_of_ble_eq_true rfl) rfl rfl rfl (t_0 _ _) (Nat.le_of_ble_eq_true rfl) ?_
          refine c_error (e := 4) (by decide) (by decide) ?_
          refine gwr ?_
          refine g_iret m59_50 rt_59 ?_
          exact hE4 ⟨by omega, ja, jb, jc, rfl, by omega, rfl, by omega, rfl, by omega⟩
      · skip
        refine gwr ?_
        refine h_if_neT (xi := 0) (zi := 0) m59_24 rfl rfl (by decide) ?_
        refine g_aload_n m59_27 rfl ?_
        refine g_iconst m59_28 ?_
        refine h_cv (k := 0) (p := 32) (args := [.int (1)]) (rest := []) m59_29 cn_55 (Nat.le_of_ble_eq_true rfl) rfl rfl rfl (t_0 _ _) (Nat.le_of_ble_eq_true rfl) ?_
        refine c_error (e := 1) (by decide) (by decide) ?_
        refine gwr ?_
        refine g_iret m59_32 rt_59 ?_
        exact hE1 (by omega)
    · skip
      refine gwr ?_
      refine h_if_eqT (xi := 0) (zi := 0) m59_15 rfl rfl (by decide) ?_
      refine g_aload_n m59_27 rfl ?_
      refine g_iconst m59_28 ?_
      refine h_cv (k := 0) (p := 32) (args := [.int (1)]) (rest := []) m59_29 cn_55 (Nat.le_of_ble_eq_true rfl) rfl rfl rfl (t_0 _ _) (Nat.le_of_ble_eq_true rfl) ?_
      refine c_error (e := 1) (by decide) (by decide) ?_
      refine gwr ?_
      refine g_iret m59_32 rt_59 ?_
      exact hE1 (by omega)
  · skip
    refine gwr ?_
    refine h_if_eqT (xi := 0) (zi := 0) m59_6 rfl rfl (by decide) ?_
    refine g_aload_n m59_27 rfl ?_
    refine g_iconst m59_28 ?_
    refine h_cv (k := 0) (p := 32) (args := [.int (1)]) (rest := []) m59_29 cn_55 (Nat.le_of_ble_eq_true rfl) rfl rfl rfl (t_0 _ _) (Nat.le_of_ble_eq_true rfl) ?_
    refine c_error (e := 1) (by decide) (by decide) ?_
    refine gwr ?_
    refine g_iret m59_32 rt_59 ?_
    exact hE1 (by omega)
set_option maxRecDepth 20000 in
set_option maxHeartbeats 40000000 in
theorem m_diner4 {a b c : Int32} {n : Nat} (hd : m 58 2 = nI n) (hn : n ≤ 8) (hE1 : (a.toInt < 0 ∨ 69 < a.toInt ∨ b.toInt < 0 ∨ 99 < b.toInt ∨ c.toInt < 0 ∨ 9 < c.toInt) → Q (some (.int (-1000000001))) (H (ers m 1) ln N)) (hE4 : (n = 8 ∧ ∃ i k l : Nat, a = nI i ∧ i ≤ 69 ∧ b = nI k ∧ k ≤ 99 ∧ c = nI l ∧ l ≤ 9) → Q (some (.int (-1000000004))) (H (ers m 4) ln N)) (hY : ∀ i k l : Nat, a = nI i → i ≤ 69 → b = nI k → k ≤ 99 → c = nI l → l ≤ 9 → n < 8 → Q (some (.int (nI n))) (H (upm (upm (upm (upm (upm (upm (upm m 58 (16 + 6 * n + 0) (nI (i / 10))) 58 (16 + 6 * n + 1) (nI (i % 10))) 58 (16 + 6 * n + 2) (nI k)) 58 (16 + 6 * n + 3) (nI l)) 58 (16 + 6 * n + 4) 0) 58 (16 + 6 * n + 5) 0) 58 2 (nI (n + 1))) ln N)) : WP xs (d + 2) 118 0 0 [.ref (89), .int (a), .int (b), .int (c)] (H m ln N) Q := by
  refine wp_x mx_118 (L := [some (.ref (89)), some (.int (a)), some (.int (b)), some (.int (c)), none]) (Nat.le_of_ble_eq_true rfl) rfl ?_
  refine g_iload_n m118_0 rfl ?_
  refine g_iconst m118_1 ?_
  refine g_bipush m118_2 ?_
  refine g_cs (args := [.int (a), .int (0), .int (69)]) (rest := []) 0 (Or.inl rfl) m118_4 (Nat.le_of_ble_eq_true rfl) rfl rfl (Nat.le_of_ble_eq_true rfl) ?_
  refine c_in (A := 0) (B := 69) rfl rfl (by decide) (fun ja ea a_11 a_11' => ?_) (fun a_11 => ?_)
  · subst ea
    refine gwr ?_
    refine h_if_eqF (xi := 1) (zi := 0) m118_7 rfl rfl (by decide) ?_
    refine g_iload_n m118_10 rfl ?_
    refine g_iconst m118_11 ?_
    refine g_bipush m118_12 ?_
    refine g_cs (args := [.int (b), .int (0), .int (99)]) (rest := []) 0 (Or.inl rfl) m118_14 (Nat.le_of_ble_eq_true rfl) rfl rfl (Nat.le_of_ble_eq_true rfl) ?_
    refine c_in (A := 0) (B := 99) rfl rfl (by decide) (fun jb eb a_12 a_12' => ?_) (fun a_12 => ?_)
    · subst eb
      refine gwr ?_
      refine h_if_eqF (xi := 1) (zi := 0) m118_17 rfl rfl (by decide) ?_
      refine g_iload_n m118_20 rfl ?_
      refine g_iconst m118_21 ?_
      refine g_bipush m118_22 ?_
      refine g_cs (args := [.int (c), .int (0), .int (9)]) (rest := []) 0 (Or.inl rfl) m118_24 (Nat.le_of_ble_eq_true rfl) rfl rfl (Nat.le_of_ble_eq_true rfl) ?_
      refine c_in (A := 0) (B := 9) rfl rfl (by decide) (fun jc ec a_13 a_13' => ?_) (fun a_13 => ?_)
      · subst ec
        refine gwr ?_
        refine h_if_neF (xi := 1) (zi := 0) m118_27 rfl rfl (by decide) ?_
        refine g_aload_n m118_37 rfl ?_
        refine h_gfR (c := 90) (k := 57) (p := 89) m118_38 rfl (t_57 _ _) rfl (Nat.le_of_ble_eq_true rfl) ?_
        refine g_iconst m118_41 ?_
        refine h_ial (k := 58) (p := 90) (j := 2) m118_42 rfl (t_58 _ _) (rfl) (by omega) (Nat.le_of_ble_eq_true rfl) (hd) ?_
        refine g_bipush m118_43 ?_
        refine h_ic_ne (xi := ((n : Nat) : Int)) (zi := 8) m118_45 (nI_toInt (by omega)) rfl (fun c1 => ?_) (fun c1 => ?_)
        · skip
          refine g_aload_n m118_48 rfl ?_
          refine g_ldci m118_49 rfl ?_
          refine h_cv (k := 57) (p := 89) (args := [.int (-1000000004)]) (rest := []) m118_51 cn_108 (Nat.le_of_ble_eq_true rfl) rfl rfl rfl (t_57 _ _) (Nat.le_of_ble_eq_true rfl) ?_
          refine c_errs (e := 4) (by decide) (by decide) (by decide) ?_
          refine gwr ?_
          refine g_iret m118_54 rt_118 ?_
          exact hE4 ⟨by omega, ja, jb, jc, rfl, by omega, rfl, by omega, rfl, by omega⟩
        · skip
          refine g_aload_n m118_55 rfl ?_
          refine h_gfR (c := 90) (k := 57) (p := 89) m118_56 rfl (t_57 _ _) rfl (Nat.le_of_ble_eq_true rfl) ?_
          refine g_iconst m118_59 ?_
          refine h_ial (k := 58) (p := 90) (j := 2) m118_60 rfl (t_58 _ _) (rfl) (by omega) (Nat.le_of_ble_eq_true rfl) (hd) ?_
          refine g_istore (L2 := [some (.ref (89)), some (.int (nI (ja))), some (.int (nI (jb))), some (.int (nI (jc))), some (.int (nI (n)))]) m118_61 rfl rfl ?_
          refine g_aload_n m118_63 rfl ?_
          refine g_iload m118_64 rfl ?_
          refine g_iconst m118_66 ?_
          refine g_iload_n m118_67 rfl ?_
          refine g_bipush m118_68 ?_
          refine g_idiv (u := nI (ja / 10)) m118_70 (by decide) (pk_div (a := ja) (d := 10) (by omega) (by decide) (by decide)) ?_
          refine h_cv (k := 57) (p := 89) (args := [.int (nI (n)), .int (0), .int (nI (ja / 10))]) (rest := []) m118_71 cn_112 (Nat.le_of_ble_eq_true rfl) rfl rfl rfl (t_57 _ _) (Nat.le_of_ble_eq_true rfl) ?_
          refine c_gets (w := 0) (by omega) (by decide) ?_
          refine gwr0 ?_
          refine g_aload_n m118_74 rfl ?_
          refine g_iload m118_75 rfl ?_
          refine g_iconst m118_77 ?_
          refine g_iload_n m118_78 rfl ?_
          refine g_bipush m118_79 ?_
          refine g_irem (u := nI (ja % 10)) m118_81 (by decide) (pk_rem (a := ja) (d := 10) (by omega) (by decide) (by decide)) ?_
          refine h_cv (k := 57) (p := 89) (args := [.int (nI (n)), .int (1), .int (nI (ja % 10))]) (rest := []) m118_82 cn_112 (Nat.le_of_ble_eq_true rfl) rfl rfl rfl (t_57 _ _) (Nat.le_of_ble_eq_true rfl) ?_
          refine c_gets (w := 1) (by omega) (by decide) ?_
          refine gwr0 ?_
          refine g_aload_n m118_85 rfl ?_
          refine g_iload m118_86 rfl ?_
          refine g_iconst m118_88 ?_
          refine g_iload_n m118_89 rfl ?_
          refine h_cv (k := 57) (p := 89) (args := [.int (nI (n)), .int (2), .int (nI (jb))]) (rest := []) m118_90 cn_112 (Nat.le_of_ble_eq_true rfl) rfl rfl rfl (t_57 _ _) (Nat.le_of_ble_eq_true rfl) ?_
          refine c_gets (w := 2) (by omega) (by decide) ?_
          refine gwr0 ?_
          refine g_aload_n m118_93 rfl ?_
          refine g_iload m118_94 rfl ?_
          refine g_iconst m118_96 ?_
          refine g_iload_n m118_97 rfl ?_
          refine h_cv (k := 57) (p := 89) (args := [.int (nI (n)), .int (3), .int (nI (jc))]) (rest := []) m118_98 cn_112 (Nat.le_of_ble_eq_true rfl) rfl rfl rfl (t_57 _ _) (Nat.le_of_ble_eq_true rfl) ?_
          refine c_gets (w := 3) (by omega) (by decide) ?_
          refine gwr0 ?_
          refine g_aload_n m118_101 rfl ?_
          refine g_iload m118_102 rfl ?_
          refine g_iconst m118_104 ?_
          refine g_iconst m118_105 ?_
          refine h_cv (k := 57) (p := 89) (args := [.int (nI (n)), .int (4), .int (0)]) (rest := []) m118_106 cn_112 (Nat.le_of_ble_eq_true rfl) rfl rfl rfl (t_57 _ _) (Nat.le_of_ble_eq_true rfl) ?_
          refine c_gets (w := 4) (by omega) (by decide) ?_
          refine gwr0 ?_
          refine g_aload_n m118_109 rfl ?_
          refine g_iload m118_110 rfl ?_
          refine g_iconst m118_112 ?_
          refine g_iconst m118_113 ?_
          refine h_cv (k := 57) (p := 89) (args := [.int (nI (n)), .int (5), .int (0)]) (rest := []) m118_114 cn_112 (Nat.le_of_ble_eq_true rfl) rfl rfl rfl (t_57 _ _) (Nat.le_of_ble_eq_true rfl) ?_
          refine c_gets (w := 5) (by omega) (by decide) ?_
          refine gwr0 ?_
          refine g_aload_n m118_117 rfl ?_
          refine h_gfR (c := 90) (k := 57) (p := 89) m118_118 rfl (t_57 _ _) rfl (Nat.le_of_ble_eq_true rfl) ?_
          refine g_iconst m118_121 ?_
          refine g_dup2 m118_122 rfl rfl ?_
          refine h_ial (k := 58) (p := 90) (j := 2) m118_123 rfl (t_58 _ _) (rfl) (by omega) (Nat.le_of_ble_eq_true rfl) (md_2 hd) ?_
          refine g_iconst m118_124 ?_
          refine g_iadd (u := nI (n + 1)) m118_125 (nI_add n 1) ?_
          refine h_ias (k := 58) (p := 90) (j := 2) m118_126 rfl (t_58 _ _) (rfl) (by omega) (Nat.le_of_ble_eq_true rfl) ?_
          refine g_iload m118_127 rfl ?_
          refine g_iret m118_129 rt_118 ?_
          exact hY ja jb jc rfl (by omega) rfl (by omega) rfl (by omega) (by omega)
      · skip
        refine gwr ?_
        refine h_if_neT (xi := 0) (zi := 0) m118_27 rfl rfl (by decide) ?_
        refine g_aload_n m118_30 rfl ?_
        refine g_ldci m118_31 rfl ?_
        refine h_cv (k := 57) (p := 89) (args := [.int (-1000000001)]) (rest := []) m118_33 cn_108 (Nat.le_of_ble_eq_true rfl) rfl rfl rfl (t_57 _ _) (Nat.le_of_ble_eq_true rfl) ?_
        refine c_errs (e := 1) (by decide) (by decide) (by decide) ?_
        refine gwr ?_
        refine g_iret m118_36 rt_118 ?_
        exact hE1 (by omega)
    · skip
      refine gwr ?_
      refine h_if_eqT (xi := 0) (zi := 0) m118_17 rfl rfl (by decide) ?_
      refine g_aload_n m118_30 rfl ?_
      refine g_ldci m118_31 rfl ?_
      refine h_cv (k := 57) (p := 89) (args := [.int (-1000000001)]) (rest := []) m118_33 cn_108 (Nat.le_of_ble_eq_true rfl) rfl rfl rfl (t_57 _ _) (Nat.le_of_ble_eq_true rfl) ?_
      refine c_errs (e := 1) (by decide) (by decide) (by decide) ?_
      refine gwr ?_
      refine g_iret m118_36 rt_118 ?_
      exact hE1 (by omega)
  · skip
    refine gwr ?_
    refine h_if_eqT (xi := 0) (zi := 0) m118_7 rfl rfl (by decide) ?_
    refine g_aload_n m118_30 rfl ?_
    refine g_ldci m118_31 rfl ?_
    refine h_cv (k := 57) (p := 89) (args := [.int (-1000000001)]) (rest := []) m118_33 cn_108 (Nat.le_of_ble_eq_true rfl) rfl rfl rfl (t_57 _ _) (Nat.le_of_ble_eq_true rfl) ?_
    refine c_errs (e := 1) (by decide) (by decide) (by decide) ?_
    refine gwr ?_
    refine g_iret m118_36 rt_118 ?_
    exact hE1 (by omega)
end
section
variable {xs : List Int32} {m m0 : MW} {ln : Nat → Nat} {N q : Nat}
set_option maxHeartbeats 4000000 in
theorem p_fills {c v : Int32} (R : Rel2 m m ln N q) (hq : q < 512) : Pair xs 56 115 0 0 [.int c, .int v] True m ln N q := by
  obtain ⟨n, hn, hd, _⟩ := R.n
  refine x_fills (d := 1297)  (fun e1 => pr_x ?_) (fun i k h1 h2 h3 h4 => pr_x ?_)
  · skip
    have RI : Rel2 m (erm m 1) ln N q := R.e1 1
    refine m_fills (d := 1297)  (fun e1' => ?_) (fun i' k' h1' h2' h3' h4' => ?_)
    · skip
      exact pr_m (fun _ => rfl) (R.ee hq 1)
    · skip
      have t_h1' := tI h1' (by omega)
      have t_h3' := tI h3' (by omega)
      omega
  · skip
    have t_h1 := tI h1 (by omega)
    have t_h3 := tI h3 (by omega)
    have RI : Rel2 m (upm m 2 i (nI k)) ln N q := R.fr SmX.rf (sm_up (by decide))
    refine m_fills (d := 1297)  (fun e1' => ?_) (fun i' k' h1' h2' h3' h4' => ?_)
    · skip
      omega
    · skip
      have t_h1' := tI h1' (by omega)
      have t_h3' := tI h3' (by omega)
      obtain rfl : i = i' := by omega
      obtain rfl : k = k' := by omega
      exact pr_m (fun _ => RI.rf h2) ((R.fl i (nI k) h2 (leI_lit h4)).nx hq)
set_option maxHeartbeats 4000000 in
theorem p_waiters {v : Int32} (R : Rel2 m m ln N q) (hq : q < 512) : Pair xs 58 117 0 0 [.int v] True m ln N q := by
  obtain ⟨n, hn, hd, _⟩ := R.n
  refine x_waiters (d := 1297)  (fun e1 => pr_x ?_) (fun h1 h2 => pr_x ?_)
  · skip
    have RI : Rel2 m (erm m 1) ln N q := R.e1 1
    refine m_waiters (d := 1297)  (fun e1' => ?_) (fun w' g1' g2' g3' => ?_)
    · skip
      exact pr_m (fun _ => rfl) (R.ee hq 1)
    · skip
      have t_g1' := tI g1' (by omega)
      omega
  · skip
    have RI : Rel2 m (upm m 1 8 v) ln N q := R.fr SmX.rf (sm_up (by decide))
    refine m_waiters (d := 1297)  (fun e1' => ?_) (fun w' g1' g2' g3' => ?_)
    · skip
      omega
    · skip
      have t_g1' := tI g1' (by omega)
      subst g1'
      exact pr_m (fun _ => RI.wt) ((R.wr w' g2' g3').nx hq)
set_option maxHeartbeats 4000000 in
theorem p_change {a b c : Int32} (R : Rel2 m m ln N q) (hq : q < 512) : Pair xs 63 134 0 0 [.int a, .int b, .int c] True m ln N q := by
  obtain ⟨n, hn, hd, _⟩ := R.n
  refine x_change (d := 1297) (n := n) hd hn R.h01 (fun e1 => pr_x ?_) (fun i k z h1 h2 h3 h4 h5 h6 h7 h8 => pr_x ?_)
  · skip
    have RI : Rel2 m (erm m 1) ln N q := R.e1 1
    refine m_change (d := 1296) (n := n) (RI.n2 hd) hn (fun e1' => ?_) (fun i' k' z' h1' h2' h3' h4' h5' h6' h7' h8' => ?_)
    · skip
      exact pr_m (fun _ => rfl) (R.ee hq 1)
    · skip
      have t_h1' := tI h1' (by omega)
      have t_h3' := tI h3' (by omega)
      have t_h5' := tI h5' (by omega)
      omega
  · skip
    have t_h1 := tI h1 (by omega)
    have t_h3 := tI h3 (by omega)
    have t_h5 := tI h5 (by omega)
    have RI : Rel2 m (upm m (5 + k) i (nI z)) ln N q := R.fr SmX.rf (sm_up (by omega))
    refine m_change (d := 1296) (n := n) (RI.n2 hd) hn (fun e1' => ?_) (fun i' k' z' h1' h2' h3' h4' h5' h6' h7' h8' => ?_)
    · skip
      omega
    · skip
      have t_h1' := tI h1' (by omega)
      have t_h3' := tI h3' (by omega)
      have t_h5' := tI h5' (by omega)
      obtain rfl : i = i' := by omega
      obtain rfl : k = k' := by omega
      obtain rfl : z = z' := by omega
      have hR := R.wd (2 + k) i (nI z) (by omega) (by omega) (fun e => by omega) (fun e => by omega) (fun e => leI_lit h6) (fun e => leI_lit (h7 (by omega))) (fun e => leI_lit h6) (fun e => by
        have h9 := h8 (by omega)
        rcases (show z = 0 ∨ z = 1 by omega) with e | e
        · exact Or.inl (by rw [e]; rfl)
        · exact Or.inr (by rw [e]; rfl))
      have hA := RI.rd (i := i) (c := 2 + k) (by omega) (by omega)
      rw [show 3 + (2 + k) = 5 + k by omega] at hA
      rw [show 2 + (2 + k) + 1 = 5 + k by omega] at hR
      rw [show 16 + 6 * i + 2 + k = 16 + 6 * i + (2 + k) by omega]
      exact pr_m (fun _ => hA) (hR.nx hq)
set_option maxHeartbeats 4000000 in
theorem p_become {a b : Int32} (R : Rel2 m m ln N q) (hq : q < 512) : Pair xs 64 135 0 0 [.int a, .int b] True m ln N q := by
  obtain ⟨n, hn, hd, _⟩ := R.n
  refine x_become (d := 1297) (n := n) hd hn (fun e1 => pr_x ?_) (fun i k h1 h2 h3 h4 => pr_x ?_)
  · skip
    have RI : Rel2 m (erm m 1) ln N q := R.e1 1
    refine m_become (d := 1296) (n := n) (RI.n2 hd) hn (fun e1' => ?_) (fun i' k' h1' h2' h3' h4' => ?_)
    · skip
      exact pr_m (fun _ => rfl) (R.ee hq 1)
    · skip
      have t_h1' := tI h1' (by omega)
      have t_h3' := tI h3' (by omega)
      omega
  · skip
    have t_h1 := tI h1 (by omega)
    have t_h3 := tI h3 (by omega)
    have RI : Rel2 m (upm (upm m 3 i (nI (k / 10))) 4 i (nI (k % 10))) ln N q := R.fr SmX.rf ((sm_up (by decide)).tr (sm_up (by decide)))
    refine m_become (d := 1296) (n := n) (RI.n2 hd) hn (fun e1' => ?_) (fun i' k' h1' h2' h3' h4' => ?_)
    · skip
      omega
    · skip
      have t_h1' := tI h1' (by omega)
      have t_h3' := tI h3' (by omega)
      obtain rfl : i = i' := by omega
      obtain rfl : k = k' := by omega
      have hR := (R.wd 0 i (nI (k / 10)) (by omega) (by omega) (fun e => leI_lit (by omega)) (fun e => by omega) (fun e => by omega) (fun e => by omega) (fun e => by omega) (fun e => by omega)).wd 1 i (nI (k % 10)) (by omega) (by omega) (fun e => by omega) (fun e => leI_lit (by omega)) (fun e => by omega) (fun e => by omega) (fun e => by omega) (fun e => by omega)
      have hR2 : Rel2 (upm (upm (upm (upm m 3 i (nI (k / 10))) 58 (16 + 6 * i + 0) (nI (k / 10))) 4 i (nI (k % 10))) 58 (16 + 6 * i + 1) (nI (k % 10))) (upm (upm (upm (upm m 3 i (nI (k / 10))) 58 (16 + 6 * i + 0) (nI (k / 10))) 4 i (nI (k % 10))) 58 (16 + 6 * i + 1) (nI (k % 10))) ln N q := hR
      rw [cm58 (k := 4) (by decide), upm_cm _ (k := 58) (j := 16 + 6 * i + 0) (k2 := 58) (j2 := 16 + 6 * i + 1) _ _ (Or.inr (by omega))] at hR2
      exact pr_m (fun _ => RI.rd (i := i) (c := 0) (by omega) (by decide)) (hR2.nx hq)
set_option maxHeartbeats 4000000 in
theorem p_diner {a b c : Int32} (R : Rel2 m m ln N q) (hq : q < 512) : Pair xs 59 118 0 0 [.int a, .int b, .int c] True m ln N q := by
  obtain ⟨n, hn, hd, _⟩ := R.n
  refine x_diner4 (d := 1297) (n := n) hd hn (fun e1 => pr_x ?_) (fun e4 => pr_x ?_) (fun i k l h1 h2 h3 h4 h5 h6 h7 => pr_x ?_)
  · skip
    have RI : Rel2 m (erm m 1) ln N q := R.e1 1
    refine m_diner4 (d := 1297) (n := n) (RI.n2 hd) hn (fun e1' => ?_) (fun e4' => ?_) (fun i' k' l' h1' h2' h3' h4' h5' h6' h7' => ?_)
    · skip
      exact pr_m (fun _ => rfl) (R.ee hq 1)
    · skip
      obtain ⟨h0', i', k', l', h1', h2', h3', h4', h5', h6'⟩ := e4'
      have t_h1' := tI h1' (by omega)
      have t_h3' := tI h3' (by omega)
      have t_h5' := tI h5' (by omega)
      omega
    · skip
      have t_h1' := tI h1' (by omega)
      have t_h3' := tI h3' (by omega)
      have t_h5' := tI h5' (by omega)
      omega
  · skip
    obtain ⟨h0, i, k, l, h1, h2, h3, h4, h5, h6⟩ := e4
    have t_h1 := tI h1 (by omega)
    have t_h3 := tI h3 (by omega)
    have t_h5 := tI h5 (by omega)
    have RI : Rel2 m (erm m 4) ln N q := R.e1 4
    refine m_diner4 (d := 1297) (n := n) (RI.n2 hd) hn (fun e1' => ?_) (fun e4' => ?_) (fun i' k' l' h1' h2' h3' h4' h5' h6' h7' => ?_)
    · skip
      omega
    · skip
      obtain ⟨h0', i', k', l', h1', h2', h3', h4', h5', h6'⟩ := e4'
      have t_h1' := tI h1' (by omega)
      have t_h3' := tI h3' (by omega)
      have t_h5' := tI h5' (by omega)
      obtain rfl : i = i' := by omega
      obtain rfl : k = k' := by omega
      obtain rfl : l = l' := by omega
      exact pr_m (fun _ => rfl) (R.ee hq 4)
    · skip
      have t_h1' := tI h1' (by omega)
      have t_h3' := tI h3' (by omega)
      have t_h5' := tI h5' (by omega)
      omega
  · skip
    have t_h1 := tI h1 (by omega)
    have t_h3 := tI h3 (by omega)
    have t_h5 := tI h5 (by omega)
    have RI : Rel2 m (upm (upm (upm (upm (upm (upm (upm m 3 n (nI (i / 10))) 4 n (nI (i % 10))) 5 n (nI k)) 6 n (nI l)) 7 n 0) 8 n 0) 1 10 (nI (n + 1))) ln N q := R.fr SmX.rf (smM_x (fun k j h1 h2 _ => by
      iterate 7 rw [upm_k _ _ (by omega)]))
    refine m_diner4 (d := 1297) (n := n) (RI.n2 hd) hn (fun e1' => ?_) (fun e4' => ?_) (fun i' k' l' h1' h2' h3' h4' h5' h6' h7' => ?_)
    · skip
      omega
    · skip
      obtain ⟨h0', i', k', l', h1', h2', h3', h4', h5', h6'⟩ := e4'
      have t_h1' := tI h1' (by omega)
      have t_h3' := tI h3' (by omega)
      have t_h5' := tI h5' (by omega)
      omega
    · skip
      have t_h1' := tI h1' (by omega)
      have t_h3' := tI h3' (by omega)
      have t_h5' := tI h5' (by omega)
      obtain rfl : i = i' := by omega
      obtain rfl : k = k' := by omega
      obtain rfl : l = l' := by omega
      have hR : Rel2 (upm (upm (upm (upm (upm (upm (upm (upm (upm (upm (upm (upm (upm (upm m 3 n (nI (i / 10))) 58 (16 + 6 * n + 0) (nI (i / 10))) 4 n (nI (i % 10))) 58 (16 + 6 * n + 1) (nI (i % 10))) 5 n (nI k)) 58 (16 + 6 * n + 2) (nI k)) 6 n (nI l)) 58 (16 + 6 * n + 3) (nI l)) 7 n 0) 58 (16 + 6 * n + 4) 0) 8 n 0) 58 (16 + 6 * n + 5) 0) 1 10 (nI (n + 1))) 58 2 (nI (n + 1))) (upm (upm (upm (upm (upm (upm (upm (upm (upm (upm (upm (upm (upm (upm m 3 n (nI (i / 10))) 58 (16 + 6 * n + 0) (nI (i / 10))) 4 n (nI (i % 10))) 58 (16 + 6 * n + 1) (nI (i % 10))) 5 n (nI k)) 58 (16 + 6 * n + 2) (nI k)) 6 n (nI l)) 58 (16 + 6 * n + 3) (nI l)) 7 n 0) 58 (16 + 6 * n + 4) 0) 8 n 0) 58 (16 + 6 * n + 5) 0) 1 10 (nI (n + 1))) 58 2 (nI (n + 1))) ln N q := (((((((R.wd 0 n (nI (i / 10)) (by omega) (by omega) (fun e => (leI_lit (by omega))) (fun e => by omega) (fun e => by omega) (fun e => by omega) (fun e => by omega) (fun e => by omega)).wd 1 n (nI (i % 10)) (by omega) (by omega) (fun e => by omega) (fun e => (leI_lit (by omega))) (fun e => by omega) (fun e => by omega) (fun e => by omega) (fun e => by omega)).wd 2 n (nI k) (by omega) (by omega) (fun e => by omega) (fun e => by omega) (fun e => (leI_lit (by omega))) (fun e => by omega) (fun e => by omega) (fun e => by omega)).wd 3 n (nI l) (by omega) (by omega) (fun e => by omega) (fun e => by omega) (fun e => by omega) (fun e => (leI_lit (by omega))) (fun e => by omega) (fun e => by omega)).wd 4 n 0 (by omega) (by omega) (fun e => by omega) (fun e => by omega) (fun e => by omega) (fun e => by omega) (fun e => ⟨0, by decide, rfl⟩) (fun e => by omega)).wd 5 n 0 (by omega) (by omega) (fun e => by omega) (fun e => by omega) (fun e => by omega) (fun e => by omega) (fun e => by omega) (fun e => (Or.inl rfl))).nn (n + 1) (by omega))
      simp only [cm58 (k := 4) (show 4 ≠ 58 by decide), cm58 (k := 5) (show 5 ≠ 58 by decide), cm58 (k := 6) (show 6 ≠ 58 by decide), cm58 (k := 7) (show 7 ≠ 58 by decide), cm58 (k := 8) (show 8 ≠ 58 by decide), cm58 (k := 1) (show 1 ≠ 58 by decide)] at hR
      exact pr_m (fun _ => rfl) (hR.nx hq)
set_option maxHeartbeats 4000000 in
theorem p_steps {v : Int32} (R : Rel2 m m ln N q) (hq : q < 512) : Pair xs 70 148 0 0 [.int v] True m ln N q := by
  obtain ⟨n, hn, hd, _⟩ := R.n
  obtain ⟨st, hst9, hst, _⟩ := R.st
  refine x_steps (d := 1292) (n := n) (st := st) hd hn hst hst9 R.W R.L R.ix R.iy (fun e1 => pr_x ?_) (fun e3 => pr_x ?_) (fun k h1 h2 h3 h4 X2 m2 h8 hA => pr_x ?_)
  · skip
    have RI : Rel2 m (erm m 1) ln N q := R.e1 1
    refine m_steps (d := 482) (n := n) (st := st) (RI.n2 hd) hn (RI.st2 hst) hst9 RI.X0 RI.X1 RI.WY (fun e1' => ?_) (fun e3' => ?_) (fun k' h1' h2' h3' h4' m3' hB' => ?_)
    · skip
      exact pr_m (fun _ => rfl) (R.ee hq 1)
    · skip
      obtain ⟨k', h1', h2', h3'⟩ := e3'
      have t_h1' := tI h1' (by omega)
      omega
    · skip
      have t_h1' := tI h1' (by omega)
      omega
  · skip
    obtain ⟨k, h1, h2, h3⟩ := e3
    have t_h1 := tI h1 (by omega)
    have RI : Rel2 m (erm m 3) ln N q := R.e1 3
    refine m_steps (d := 482) (n := n) (st := st) (RI.n2 hd) hn (RI.st2 hst) hst9 RI.X0 RI.X1 RI.WY (fun e1' => ?_) (fun e3' => ?_) (fun k' h1' h2' h3' h4' m3' hB' => ?_)
    · skip
      omega
    · skip
      obtain ⟨k', h1', h2', h3'⟩ := e3'
      have t_h1' := tI h1' (by omega)
      obtain rfl : k = k' := by omega
      exact pr_m (fun _ => rfl) (R.ee hq 3)
    · skip
      have t_h1' := tI h1' (by omega)
      omega
  · skip
    have t_h1 := tI h1 (by omega)
    have RI : Rel2 m m2 ln N q := R.fr SmX.rf (fun k j c => hA.out (by have := (cM_n c).2.2.2; omega) (cM_n c).2.1)
    refine m_steps (d := 482) (n := n) (st := st) (RI.n2 hd) hn (RI.st2 hst) hst9 RI.X0 RI.X1 RI.WY (fun e1' => ?_) (fun e3' => ?_) (fun k' h1' h2' h3' h4' m3' hB' => ?_)
    · skip
      omega
    · skip
      obtain ⟨k', h1', h2', h3'⟩ := e3'
      have t_h1' := tI h1' (by omega)
      omega
    · skip
      have t_h1' := tI h1' (by omega)
      obtain rfl : k = k' := by omega
      have hs58 : m2 58 = m 58 := funext fun j => hA.out (by omega) (fun z => by rcases z with z | z <;> omega)
      have hE := stepN_7 (LK := lkF m ln (m 1 11)) (BL := blF m ln (m 1 12)) RI.E7 R.W k
      have hX := (Eq8.e7 h8).sy.tr hE
      rw [RI.lk, RI.bl] at hB'
      refine pr_m (fun _ => ?_) ((R.stp (X2 := X2) (Y := stepN (lkF m ln (m 1 11)) (blF m ln (m 1 12)) (vr (m2 58)) k) (WF_c h8 (WF_stepN R.W k)) ?_ ?_ ?_ hX (fun k j c h => ?_) (fun j hj i => ?_) (fun j => ?_) (fun k j c h => ?_)).nx hq)
      · rw [RI.lk, RI.bl]
        exact sum_7 hX (by decide) (by decide) hn
      · rw [h8 0 (by decide), st_st _ _ (show vw m 0 0 9 = nI st from hst) k]
        exact leI_lit (by omega)
      · rw [h8 0 (by decide), stepN_0 _ _ _ (by decide)]
        rfl
      · rw [h8 0 (by decide), stepN_0 _ _ _ (by decide)]
        rfl
      · rw [hB'.out (fun e => cXM c (by omega)) (cX_n c).2]
        exact hA.out (by unfold cX at c; omega) (cX_n c).2
      · rw [hB'.out (by omega) (fun z => by rcases z with z | z <;> omega)]
        exact hA.rd (by decide) (by omega)
      · rw [hB'.row, hs58]
      · rw [hB'.out h (cM_n c).2.1]
        have := (cM_n c).2.2.2
        exact hA.out (by omega) (cM_n c).2.1
/-- z on both sides -/
theorem Rel2.sd (R : Rel2 m m ln N q) (z : Int32) : Rel2 (upm (upm m 37 0 z) 58 1 z) (upm (upm m 37 0 z) 58 1 z) ln N q := by
  have hA : Rel2 (upm m 37 0 z) (upm (upm m 37 0 z) 58 1 z) ln N q := by
    refine R.dk (fun k h => row_up _ _ (by omega)) (fun k h1 h2 h3 => (row_up _ _ h3).trans (row_up _ _ (by omega))) rfl R.T.2.2.2.2.1 R.T.2.2.2.2.2.1 (fun j hj => ?_) (fun j hj => ?_) (fun p hp => ?_)
    · have h := R.T.2.2.2.2.2.2.1 j hj
      refine ⟨h.1, (upm_j _ _ (by omega)).trans h.2⟩
    · have h := R.T.2.2.2.2.2.2.2.1 j hj
      exact (upm_j _ _ (by omega)).trans h
    · exact (upm_j _ _ (by omega)).trans (upm_k _ _ (by decide))
  exact hA.fr (sx58 (fun k h => row_up _ _ h)) SmM.rf
set_option maxHeartbeats 4000000 in
theorem p_loose {v : Int32} (R : Rel2 m m ln N q) (hq : q < 512) : Pair xs 72 150 0 0 [.int v] True m ln N q := by
  obtain ⟨n, hn, hd, _⟩ := R.n
  obtain ⟨st, hst9, hst, _⟩ := R.st
  refine x_loose (d := 1292) (n := n) (st := st) hd hn hst hst9 R.W R.L R.ix R.iy (fun e1 => pr_x ?_) (fun e3 => pr_x ?_) (fun k h1 h2 h3 h4 X2 m2 h8 hA => pr_x ?_)
  · skip
    have RI : Rel2 m (erm m 1) ln N q := R.e1 1
    refine m_loose (d := 482) (n := n) (st := st) (RI.n2 hd) hn (RI.st2 hst) hst9 RI.X0 RI.X1 RI.WY (fun e1' => ?_) (fun e3' => ?_) (fun k' h1' h2' h3' h4' m3' hB' => ?_)
    · skip
      exact pr_m (fun _ => rfl) (R.ee hq 1)
    · skip
      obtain ⟨k', h1', h2', h3'⟩ := e3'
      have t_h1' := tI h1' (by omega)
      omega
    · skip
      have t_h1' := tI h1' (by omega)
      omega
  · skip
    obtain ⟨k, h1, h2, h3⟩ := e3
    have t_h1 := tI h1 (by omega)
    have RI : Rel2 m (erm m 3) ln N q := R.e1 3
    refine m_loose (d := 482) (n := n) (st := st) (RI.n2 hd) hn (RI.st2 hst) hst9 RI.X0 RI.X1 RI.WY (fun e1' => ?_) (fun e3' => ?_) (fun k' h1' h2' h3' h4' m3' hB' => ?_)
    · skip
      omega
    · skip
      obtain ⟨k', h1', h2', h3'⟩ := e3'
      have t_h1' := tI h1' (by omega)
      obtain rfl : k = k' := by omega
      exact pr_m (fun _ => rfl) (R.ee hq 3)
    · skip
      have t_h1' := tI h1' (by omega)
      omega
  · skip
    have t_h1 := tI h1 (by omega)
    have RI : Rel2 m m2 ln N q := R.fr SmX.rf ((sm_up (k := 37) (by decide)).tr (fun k j c => hA.out (by have := (cM_n c).2.2.2; omega) (cM_n c).2.1))
    refine m_loose (d := 482) (n := n) (st := st) (RI.n2 hd) hn (RI.st2 hst) hst9 RI.X0 RI.X1 RI.WY (fun e1' => ?_) (fun e3' => ?_) (fun k' h1' h2' h3' h4' m3' hB' => ?_)
    · skip
      omega
    · skip
      obtain ⟨k', h1', h2', h3'⟩ := e3'
      have t_h1' := tI h1' (by omega)
      omega
    · skip
      have t_h1' := tI h1' (by omega)
      obtain rfl : k = k' := by omega
      have hs58 : m2 58 = m 58 := funext fun j => (hA.out (by omega) (fun z => by rcases z with z | z <;> omega)).trans (upm_k _ _ (by decide))
      have h58z : m2 58 1 = m 37 0 := (congrFun hs58 1).trans R.T.2.2.2.1
      have hE := looX_7 (LK := lkF m ln (m 1 11)) (BL := blF m ln (m 1 12)) RI.E7 R.W n (m 37 0) k
      have hX := (Eq8.e7 h8).sy.tr hE
      rw [RI.lk, RI.bl, h58z] at hB'
      have R0 : Rel2 (upm (upm m 37 0 (zN (m 37 0) k)) 58 1 (zN (m 37 0) k)) (upm (upm m 37 0 (zN (m 37 0) k)) 58 1 (zN (m 37 0) k)) ln N q := R.sd _
      refine pr_m (fun _ => ?_) ((R0.stp (X2 := X2) (Y := looX (lkF m ln (m 1 11)) (blF m ln (m 1 12)) n (vr (m2 58)) (m 37 0) k) (WF_c h8 (looX_W R.W k)) ?_ ?_ ?_ hX (fun k j c h => ?_) (fun j hj i => ?_) (fun j => ?_) (fun k j c h => ?_)).nx hq)
      · rw [RI.lk, RI.bl, h58z]
        exact sum_7 hX (by decide) (by decide) hn
      · rw [h8 0 (by decide), lo_st _ _ (show vw m 0 0 9 = nI st from hst) k]
        exact leI_lit (by omega)
      · rw [h8 0 (by decide), looX_0 (by decide)]
        rfl
      · rw [h8 0 (by decide), looX_0 (by decide)]
        rfl
      · have h58 : k ≠ 58 := fun e => cXM c (by omega)
        rw [hB'.out h58 (cX_n c).2, upm_k _ _ h58, upm_k _ _ h58]
        exact hA.out (by unfold cX at c; omega) (cX_n c).2
      · rw [hB'.out (by omega) (fun z => by rcases z with z | z <;> omega), upm_k _ _ (by omega)]
        exact hA.rd (by decide) (by omega)
      · rw [hB'.row]
        have e : upm m2 58 1 (zN (m 37 0) k) 58 = upm (upm m 37 0 (zN (m 37 0) k)) 58 1 (zN (m 37 0) k) 58 := by
          funext i
          unfold upm
          rw [hs58]
          rfl
        rw [e]
      · have h3 := (cM_n c).2.2.2
        rw [hB'.out h (cM_n c).2.1, upm_k _ _ h, upm_k _ _ h]
        exact hA.out (by omega) (cM_n c).2.1
set_option maxHeartbeats 4000000 in
theorem p_seed {v : Int32} (R : Rel2 m m ln N q) (hq : q < 512) : Pair xs 90 170 0 0 [.int v] True m ln N q := by
  obtain ⟨n, hn, hd, _⟩ := R.n
  refine x_seed (d := 1298)  (pr_x ?_)
  · skip
    have RI : Rel2 m (upm m 37 0 v) ln N q := R.fr SmX.rf (sm_up (by decide))
    refine m_seed (d := 1297)  (?_)
    · skip
      exact pr_m (fun _ => RI.T.2.2.2.1) ((R.sd v).nx hq)
end
end
section
/-! CALLS ON BOTH SIDES that change desks, images, voices -/
section
variable {xs : List Int32} {a b m : MW} {ln : Nat → Nat} {N q : Nat}
theorem Rel2.dw (R : Rel2 a b ln N q) : leI (a 37 4) 20 ∧ b 58 4 = a 37 4 := R.T.2.2.2.2.2.1
theorem Rel2.df (R : Rel2 a b ln N q) : leI (a 37 2) 50 ∧ b 58 3 = a 37 2 := R.T.2.2.2.2.1
theorem Rel2.dt (R : Rel2 a b ln N q) : ∀ j, j < 50 → leI (a 38 j) 255 ∧ b 58 (64 + j) = a 38 j := R.T.2.2.2.2.2.2.1
theorem Rel2.dq (R : Rel2 a b ln N q) : ∀ j, j < 20 → b 58 (114 + j) = a 39 j := R.T.2.2.2.2.2.2.2.1
theorem Rel2.dz (R : Rel2 a b ln N q) : b 58 1 = a 37 0 := R.T.2.2.2.1
theorem Rel2.tl (R : Rel2 m m ln N q) {w : Nat} (v : Int32) (hw : w < 20) {A B : MW} (hA : A = upm (upm m 39 w v) 37 4 (nI (w + 1))) (hB : B = upm (upm A 58 (114 + w) v) 58 4 (nI (w + 1))) : Rel2 B B ln N q := by
  have a58 : A 58 = m 58 := by
    subst hA
    rfl
  have a37 : ∀ j, j ≠ 4 → A 37 j = m 37 j := fun j h => by
    subst hA
    exact (upm_j _ _ h).trans (upm_k _ _ (by decide))
  have a38 : A 38 = m 38 := by
    subst hA
    rfl
  have a39 : ∀ j, A 39 j = if j = w then v else m 39 j := fun j => by
    subst hA
    rw [upm_k _ _ (by decide)]
    unfold upm
    by_cases h : j = w
    · rw [if_pos h, if_pos ⟨rfl, h⟩]
    · rw [if_neg h, if_neg (fun z => h z.2)]
  have b58 : ∀ j, j ≠ 4 → j ≠ 114 + w → B 58 j = m 58 j := fun j h1 h2 => by
    subst hB
    rw [upm_j _ _ h1, upm_j _ _ h2, a58]
  have hR : Rel2 A B ln N q := by
    refine R.dk (fun k h => ?_) (fun k h1 h2 h3 => ?_) ?_ ?_ ?_ (fun j hj => ?_) (fun j hj => ?_) (fun p hp => b58 p (by omega) (by omega))
    · subst hA
      exact (row_up _ _ (by omega)).trans (row_up _ _ (by omega))
    · subst hB
      subst hA
      exact (row_up _ _ h3).trans ((row_up _ _ h3).trans ((row_up _ _ (by omega)).trans (row_up _ _ (by omega))))
    · rw [b58 1 (by decide) (by omega), a37 0 (by decide)]
      exact R.dz
    · rw [b58 3 (by decide) (by omega), a37 2 (by decide)]
      exact R.df
    · have e1 : A 37 4 = nI (w + 1) := by
        subst hA
        exact upm_self _ _ _ _
      have e2 : B 58 4 = nI (w + 1) := by
        subst hB
        exact upm_self _ _ _ _
      rw [e1, e2]
      exact ⟨leI_lit (by omega), rfl⟩
    · rw [b58 (64 + j) (by omega) (by omega), a38]
      exact R.dt j hj
    · rw [a39]
      by_cases h : j = w
      · subst h
        rw [if_pos rfl]
        subst hB
        exact (upm_j _ _ (by omega)).trans (upm_self _ _ _ _)
      · rw [if_neg h, b58 (114 + j) (by omega) (by omega)]
        exact R.dq j hj
  exact hR.fr (sx58 (fun k h => by
    subst hB
    exact (row_up _ _ h).trans (row_up _ _ h))) SmM.rf
theorem Rel2.w0 (R : Rel2 m m ln N q) : Rel2 (upm (upm m 37 4 0) 58 4 0) (upm (upm m 37 4 0) 58 4 0) ln N q := by
  have hR : Rel2 (upm m 37 4 0) (upm (upm m 37 4 0) 58 4 0) ln N q := by
    refine R.dk (fun k h => row_up _ _ (by omega)) (fun k h1 h2 h3 => (row_up _ _ h3).trans (row_up _ _ (by omega))) R.dz R.df ⟨⟨0, by decide, rfl⟩, rfl⟩ (fun j hj => ?_) (fun j hj => ?_) (fun p hp => ?_)
    · exact ⟨(R.dt j hj).1, (upm_j _ _ (by omega)).trans (R.dt j hj).2⟩
    · exact (upm_j _ _ (by omega)).trans (R.dq j hj)
    · exact (upm_j _ _ (by omega)).trans (upm_k _ _ (by decide))
  exact hR.fr (sx58 (fun k h => row_up _ _ h)) SmM.rf
set_option maxHeartbeats 4000000 in
theorem p_tell {v : Int32} (R : Rel2 m m ln N q) (hq : q < 512) : Pair xs 102 186 0 0 [.int v] True m ln N q := by
  obtain ⟨n, hn, hd, _⟩ := R.n
  obtain ⟨w, hw2, hw⟩ := R.dw.1
  refine x_tell (d := 1297) (w := w) hw hw2 (fun e4 => pr_x ?_) (fun h1 => pr_x ?_)
  · skip
    have RI : Rel2 m (erm m 4) ln N q := R.e1 4
    refine m_tell (d := 1297) (w := w) (RI.dw.2.trans hw) hw2 (fun e4' => ?_) (fun h1' => ?_)
    · skip
      exact pr_m (fun _ => rfl) (R.ee hq 4)
    · skip
      omega
  · skip
    have RI : Rel2 m (upm (upm m 39 w v) 37 4 (nI (w + 1))) ln N q := R.fr SmX.rf ((sm_up (by decide)).tr (sm_up (by decide)))
    refine m_tell (d := 1297) (w := w) (RI.dw.2.trans hw) hw2 (fun e4' => ?_) (fun h1' => ?_)
    · skip
      omega
    · skip
      exact pr_m (fun _ => rfl) ((R.tl v h1 rfl rfl).nx hq)
set_option maxHeartbeats 4000000 in
theorem p_check (R : Rel2 m m ln N q) (hq : q < 512) : Pair xs 103 187 0 0 [] True m ln N q := by
  obtain ⟨n, hn, hd, _⟩ := R.n
  obtain ⟨w, hw2, hw⟩ := R.dw.1
  refine x_check (d := 1292) (n := n) hd hn R.h01 R.W R.L R.ix R.iy hw hw2 (fun h1 m2 hF => pr_x ?_) (fun z h1 h2 m2 hF => pr_x ?_)
  · skip
    have RI : Rel2 m m2 ln N q := R.fr SmX.rf ((sm_up (k := 37) (by decide)).tr hF.sm)
    refine m_check (d := 481) (n := n) (RI.n2 hd) hn RI.X0 RI.X1 RI.WY (RI.dw.2.trans hw) hw2 (fun h1' m2' hF' => ?_) (fun z' h1' h2' m2' hF' => ?_)
    · skip
      have hR := (R.w0.fr ((hF.sx.up 58 4 0).tr hF'.sx) ((hF.sm.up 58 4 0).tr hF'.sm)).nx hq
      exact pr_m (fun _ => rfl) hR
    · skip
      have cv : leastF (fun q => !(decide ((sumF (stepN (rkF (m2 58)) (rbF (m2 58)) (vr (m2 58)) (q + 1) 4) n).toInt = (m2 58 (114 + q)).toInt))) w 0 = leastF (fun q => !(decide ((sumF (stepN (lkF m ln (m 1 11)) (blF m ln (m 1 12)) (vw m 0) (q + 1) 4) n).toInt = (m 39 q).toInt))) w 0 := by
        rw [RI.lk, RI.bl]
        exact leastF_r w 0 (fun z _ hz => by rw [sumN_7 RI.E7 R.W (z + 1) (by decide) (by decide) hn, RI.dq z (by omega)])
      rw [cv, h1] at h1'
      cases h1'
  · skip
    have RI : Rel2 m m2 ln N q := R.fr SmX.rf ((sm_up (k := 37) (by decide)).tr hF.sm)
    refine m_check (d := 481) (n := n) (RI.n2 hd) hn RI.X0 RI.X1 RI.WY (RI.dw.2.trans hw) hw2 (fun h1' m2' hF' => ?_) (fun z' h1' h2' m2' hF' => ?_)
    · skip
      have cv : leastF (fun q => !(decide ((sumF (stepN (rkF (m2 58)) (rbF (m2 58)) (vr (m2 58)) (q + 1) 4) n).toInt = (m2 58 (114 + q)).toInt))) w 0 = leastF (fun q => !(decide ((sumF (stepN (lkF m ln (m 1 11)) (blF m ln (m 1 12)) (vw m 0) (q + 1) 4) n).toInt = (m 39 q).toInt))) w 0 := by
        rw [RI.lk, RI.bl]
        exact leastF_r w 0 (fun z _ hz => by rw [sumN_7 RI.E7 R.W (z + 1) (by decide) (by decide) hn, RI.dq z (by omega)])
      rw [cv, h1] at h1'
      cases h1'
    · skip
      have cv : leastF (fun q => !(decide ((sumF (stepN (rkF (m2 58)) (rbF (m2 58)) (vr (m2 58)) (q + 1) 4) n).toInt = (m2 58 (114 + q)).toInt))) w 0 = leastF (fun q => !(decide ((sumF (stepN (lkF m ln (m 1 11)) (blF m ln (m 1 12)) (vw m 0) (q + 1) 4) n).toInt = (m 39 q).toInt))) w 0 := by
        rw [RI.lk, RI.bl]
        exact leastF_r w 0 (fun z _ hz => by rw [sumN_7 RI.E7 R.W (z + 1) (by decide) (by decide) hn, RI.dq z (by omega)])
      rw [cv, h1] at h1'
      have es := Option.some.inj h1'
      have hR := (R.w0.fr ((hF.sx.up 58 4 0).tr hF'.sx) ((hF.sm.up 58 4 0).tr hF'.sm)).nx hq
      exact pr_m (fun _ => by rw [es]) hR
theorem dk_o (m : MW) (a b : Nat) {k : Nat} (h : ¬ (a ≤ k ∧ k < a + 3)) : deskM m a b k = m k := if_neg h
theorem dk_y (m : MW) (a b : Nat) {j : Nat} (h : j < 3) : deskM m a b (a + j) = m (b + j) := by
  unfold deskM
  rw [if_pos (by omega), show a + j - a + b = b + j by omega]
theorem tk_y (m : MW) (t s : Nat) {j : Nat} (h : j < 8) : takeM m t s (1 + 9 * t + j) = m (1 + 9 * s + j) := by
  unfold takeM
  rw [if_pos (by omega), show 1 + 9 * t + j - 9 * t + 9 * s = 1 + 9 * s + j by omega]
theorem Rel2.img (R : Rel2 m m ln N q) {im : Nat} (hi : im ≤ q) (hq : q < 512) {A B : MW} (hA : A = upm (deskM (takeM m 3 0) 40 37) 0 6 (nI (im + 1))) (hB : B = upm (upm (upmR A 59 (A 58)) 57 4 1) 57 5 (nI (im + 1))) : Rel2 B B ln N (q + 1) := by
  have ao : ∀ k, k ≠ 0 → ¬ (28 ≤ k ∧ k < 36) → ¬ (40 ≤ k ∧ k < 43) → A k = m k := fun k h0 h1 h2 => by
    subst hA
    rw [row_up _ _ h0, dk_o _ _ _ (by omega), take_o _ _ _ (by omega)]
  have at3 : ∀ j, j < 8 → vw A 3 j = vw m 0 j := fun j hj => by
    subst hA
    show upm (deskM (takeM m 3 0) 40 37) 0 6 (nI (im + 1)) (j + 1 + 9 * 3) = m (j + 1 + 9 * 0)
    rw [row_up _ _ (by omega), dk_o _ _ _ (by omega), show j + 1 + 9 * 3 = 1 + 9 * 3 + j by omega, tk_y _ _ _ hj, show 1 + 9 * 0 + j = j + 1 + 9 * 0 by omega]
  have ad : ∀ j, j < 3 → A (40 + j) = m (37 + j) := fun j hj => by
    subst hA
    rw [row_up _ _ (by omega), dk_y _ _ _ hj, take_o _ _ _ (by omega)]
  have a6 : A 0 6 = nI (im + 1) := by
    subst hA
    exact upm_self _ _ _ _
  have bo : ∀ k, k ≠ 57 → k ≠ 59 → B k = A k := fun k h1 h2 => by
    subst hB
    rw [row_up _ _ h1, row_up _ _ h1, upmR_k h2]
  have b9 : B 59 = m 58 := by
    subst hB
    rw [row_up _ _ (by decide), row_up _ _ (by decide)]
    exact (if_pos rfl).trans (ao 58 (by decide) (by decide) (by decide))
  have bf : ∀ j, j ≠ 4 → j ≠ 5 → B 57 j = m 57 j := fun j h1 h2 => by
    subst hB
    rw [upm_j _ _ h2, upm_j _ _ h1, upmR_k (by decide), ao 57 (by decide) (by decide) (by decide)]
  have b5 : B 57 5 = nI (im + 1) := by
    subst hB
    exact upm_self _ _ _ _
  have b4 : B 57 4 = 1 := by
    subst hB
    exact (upm_j _ _ (by decide)).trans (upm_self _ _ _ _)
  have hc : codL A ln = codL m ln := cod_td (fun k h => ao k (by omega) (by omega) (by omega))
  obtain ⟨r1, r2, r3, r4, r5, r6, r7, r8⟩ := R
  have hR : Rel2 A B ln N (q + 1) := by
    refine ⟨by omega, by omega, ⟨r3.1, fun i h => by rw [hc]; exact r3.2 i h⟩, ?_, ⟨im + 1, by omega, a6, b5, ?_, fun _ => ?_⟩, r6.mv (fun k h1 h2 => ao k (by omega) (by omega) (by omega)) (fun k h1 h2 => (bo k (by omega) (by omega)).trans (ao k (by omega) (by omega) (by omega))), r7.mv (ao 56 (by decide) (by decide) (by decide)) ((bo 62 (by decide) (by decide)).trans (ao 62 (by decide) (by decide) (by decide))), r8.mv (fun k h1 h2 => ao k (by omega) (by omega) (by omega)) (bf 21 (by decide) (by decide)) ((bo 68 (by decide) (by decide)).trans (ao 68 (by decide) (by decide) (by decide)))⟩
    · rw [hc, ao 37 (by decide) (by decide) (by decide), ao 38 (by decide) (by decide) (by decide), ao 39 (by decide) (by decide) (by decide), bo 58 (by decide) (by decide), ao 58 (by decide) (by decide) (by decide)]
      exact TbR_9 (fun j hj => ao _ (by omega) (by omega) (by omega)) r4
    · rw [b4, if_neg (by omega)]
    · rw [hc, b9, ad 0 (by decide), ad 1 (by decide), ad 2 (by decide)]
      exact TbR_9 at3 r4
  exact hR.fr (fun k j c => by
    have := cXM c
    rw [bo k (by omega) (by omega)]) SmM.rf
theorem Rel2.rst (R : Rel2 m m ln N q) (hT : TbR (codL m ln) N (vw m 3) (m 40) (m 41) (m 42) (m 59)) {A B : MW} (hA : A = deskM (takeM m 0 3) 37 40) (hB : B = upmR A 58 (A 59)) : Rel2 B B ln N q := by
  have ao : ∀ k, ¬ (1 ≤ k ∧ k < 9) → ¬ (37 ≤ k ∧ k < 40) → A k = m k := fun k h1 h2 => by
    subst hA
    rw [dk_o _ _ _ (by omega), take_o _ _ _ (by omega)]
  have at0 : ∀ j, j < 8 → vw A 0 j = vw m 3 j := fun j hj => by
    subst hA
    exact (show vw (deskM (takeM m 0 3) 37 40) 0 j = vw (takeM m 0 3) 0 j from dk_o _ _ _ (by omega)).trans (take_vw m 0 3 hj)
  have ad : ∀ j, j < 3 → A (37 + j) = m (40 + j) := fun j hj => by
    subst hA
    rw [dk_y _ _ _ hj, take_o _ _ _ (by omega)]
  have bo : ∀ k, k ≠ 58 → B k = A k := fun k h1 => by
    subst hB
    exact upmR_k h1
  have b8 : B 58 = m 59 := by
    subst hB
    exact (if_pos rfl).trans (ao 59 (by decide) (by decide))
  have hR : Rel2 A B ln N q := by
    refine R.td (fun k h => ao k (by omega) (by omega)) (by rw [ao 0 (by decide) (by decide)]) (fun k h1 h2 h3 => (bo k h3).trans (ao k (by omega) (by omega))) ?_
    rw [cod_td (a := m) (fun k h => ao k (by omega) (by omega)), b8, ad 0 (by decide), ad 1 (by decide), ad 2 (by decide)]
    exact TbR_9 at0 hT
  exact hR.fr (sx58 bo) SmM.rf
theorem img_m {x : Int32} : SmM m (upm (deskM (takeM m 3 0) 40 37) 0 6 x) := fun k j c => by
  have := (cM_n c).2.2.2
  rw [upm_k _ _ (by omega), dk_o _ _ _ (by omega), take_o _ _ _ (by omega)]
theorem rst_m : SmM m (deskM (takeM m 0 3) 37 40) := fun k j c => by
  have := (cM_n c).2.2.2
  rw [dk_o _ _ _ (by omega), take_o _ _ _ (by omega)]
set_option maxHeartbeats 4000000 in
theorem p_image (R : Rel2 m m ln N q) (hq : q < 512) : Pair xs 100 184 0 0 [] True m ln N q := by
  obtain ⟨n, hn, hd, _⟩ := R.n
  obtain ⟨im, i1, i2, i3, i4, i5⟩ := R.2.2.2.2.1
  refine x_image (d := 1297) (im := im) R.h01 i2 (pr_x ?_)
  · skip
    have RI : Rel2 m (upm (deskM (takeM m 3 0) 40 37) 0 6 (nI (im + 1))) ln N q := R.fr SmX.rf img_m
    refine m_image (d := 1297) (im := im) ((SmM.f57 img_m (Or.inl (by decide))).trans i3) (?_)
    · skip
      exact pr_m (fun _ => rfl) (R.img i1 hq rfl rfl)
set_option maxHeartbeats 4000000 in
theorem p_restore (R : Rel2 m m ln N q) (hq : q < 512) : Pair xs 101 185 0 0 [] True m ln N q := by
  obtain ⟨n, hn, hd, _⟩ := R.n
  obtain ⟨im, i1, i2, i3, i4, i5⟩ := R.2.2.2.2.1
  refine x_restore (d := 1297) (im := im) i2 (by have := R.1; omega) (fun h => (fun j hj => ((i5 h).1.2.2 j hj).2.2.2.2.2.2)) (fun e2 => pr_x ?_) (fun h1 => pr_x ?_)
  · skip
    have RI : Rel2 m (erm m 2) ln N q := R.e1 2
    refine m_restore (d := 1297) (im := im) ((SmM.f57 smx_er (Or.inl (by decide))).trans i4) (fun e2' => ?_) (fun h1' => ?_)
    · skip
      exact pr_m (fun _ => rfl) (R.ee hq 2)
    · skip
      omega
  · skip
    have RI : Rel2 m (deskM (takeM m 0 3) 37 40) ln N q := R.fr SmX.rf rst_m
    refine m_restore (d := 1297) (im := im) ((SmM.f57 rst_m (Or.inl (by decide))).trans i4) (fun e2' => ?_) (fun h1' => ?_)
    · skip
      omega
    · skip
      exact pr_m (fun _ => (congrFun (SmM.row rst_m (Or.inr (Or.inl rfl))) 0).trans (i5 h1).2.2.1.2.2.1) ((R.rst (i5 h1) rfl rfl).nx hq)
theorem fdM_o (m : MW) (f : Nat) (w : Int64) {k : Nat} (h : k ≠ 37) (h2 : k ≠ 38) : ∀ q, fdM m f w q k = m k
  | 0 => rfl
  | q + 1 => (row_up _ _ h).trans ((row_up _ _ h2).trans (fdM_o m f w h h2 q))
theorem fdM_j (m : MW) (f : Nat) (w : Int64) {j : Nat} (h : j ≠ 2) : ∀ q, fdM m f w q 37 j = m 37 j
  | 0 => rfl
  | q + 1 => (upm_j _ _ h).trans ((upm_k _ _ (by decide)).trans (fdM_j m f w h q))
theorem fdR_o (m : MW) (f : Nat) (w : Int64) {k : Nat} (h : k ≠ 58) : ∀ q, fdR m f w q k = m k
  | 0 => rfl
  | q + 1 => (row_up _ _ h).trans ((row_up _ _ h).trans (fdR_o m f w h q))
theorem fdR_j (m : MW) (f : Nat) (w : Int64) {j : Nat} (h : j ≠ 3) (h2 : ¬ (64 ≤ j ∧ j < 114)) : ∀ q, f + q ≤ 50 → fdR m f w q 58 j = m 58 j
  | 0, _ => rfl
  | q + 1, hq => (upm_j _ _ h).trans ((upm_j _ _ (by omega)).trans (fdR_j m f w h h2 q (by omega)))
theorem fd_r {b : MW} (f : Nat) (w : Int64) (h : ∀ j, j < 50 → leI (a 38 j) 255 ∧ b 58 (64 + j) = a 38 j) : ∀ q, f + q ≤ 50 → ∀ j, j < 50 → leI (fdM a f w q 38 j) 255 ∧ fdR b f w q 58 (64 + j) = fdM a f w q 38 j
  | 0, _ => h
  | q + 1, hq => fun j hj => by
    have ih := fd_r f w h q (by omega) j hj
    show leI (upm (upm (fdM a f w q) 38 (f + q) (nI (byF w q))) 37 2 (nI (f + q + 1)) 38 j) 255 ∧ upm (upm (fdR b f w q) 58 (64 + (f + q)) (nI (byF w q))) 58 3 (nI (f + q + 1)) 58 (64 + j) = upm (upm (fdM a f w q) 38 (f + q) (nI (byF w q))) 37 2 (nI (f + q + 1)) 38 j
    rw [upm_k (upm (fdM a f w q) 38 (f + q) (nI (byF w q))) _ (show 38 ≠ 37 by decide), upm_j (upm (fdR b f w q) 58 (64 + (f + q)) (nI (byF w q))) _ (show 64 + j ≠ 3 by omega)]
    by_cases e : j = f + q
    · subst e
      rw [upm_self, upm_self]
      exact ⟨leI_lit (by have := byF_lt w q; omega), rfl⟩
    · rw [upm_j (fdM a f w q) _ e, upm_j (fdR b f w q) _ (show 64 + j ≠ 64 + (f + q) by omega)]
      exact ih
theorem fdM_m (f : Nat) (w : Int64) (q : Nat) : SmM m (fdM m f w q) := fun k j c => by
  have := (cM_n c).2.2.2
  rw [fdM_o m f w (by omega) (by omega)]
theorem Rel2.fd (R : Rel2 m m ln N q) {f k : Nat} (w : Int64) (hf : m 37 2 = nI f) (hk : f + k ≤ 50) : Rel2 (fdR (fdM m f w k) f w k) (fdR (fdM m f w k) f w k) ln N q := by
  have e58 : fdM m f w k 58 = m 58 := fdM_o m f w (by decide) (by decide) k
  have hR : Rel2 (fdM m f w k) (fdR (fdM m f w k) f w k) ln N q := by
    refine R.dk (fun z h => fdM_o m f w (by omega) (by omega) k) (fun z h1 h2 h3 => (fdR_o _ f w h3 k).trans (fdM_o m f w (by omega) (by omega) k)) ?_ ?_ ?_ ?_ (fun j hj => ?_) (fun p hp => ?_)
    · rw [fdR_j _ f w (by decide) (by decide) k hk, fdM_j m f w (by decide) k, e58]
      exact R.dz
    · rw [fdM_f hf, fdR_f (m := fdM m f w k) (by rw [e58]; exact R.df.2.trans hf)]
      exact ⟨leI_lit hk, rfl⟩
    · rw [fdM_j m f w (by decide) k, fdR_j _ f w (by decide) (by decide) k hk, e58]
      exact R.dw
    · exact fd_r f w (fun j hj => by rw [e58]; exact R.dt j hj) k hk
    · rw [fdR_j _ f w (by omega) (by omega) k hk, e58, fdM_o m f w (by decide) (by decide) k]
      exact R.dq j hj
    · rw [fdR_j _ f w (by omega) (by omega) k hk, e58]
  exact hR.fr (sx58 (fun z h => fdR_o _ f w h k)) SmM.rf
set_option maxHeartbeats 4000000 in
theorem p_feed {w : Int64} {v : Int32} (R : Rel2 m m ln N q) (hq : q < 512) : Pair xs 67 139 0 0 [.long w, .int v] True m ln N q := by
  obtain ⟨n, hn, hd, _⟩ := R.n
  obtain ⟨f, hf50, hf⟩ := R.df.1
  refine x_feed (w := w) (d := 1297) (f := f) hf hf50 (fun e1 => pr_x ?_) (fun e4 => pr_x ?_) (fun k h1 h2 h3 h4 => pr_x ?_)
  · skip
    have RI : Rel2 m (erm m 1) ln N q := R.e1 1
    refine m_feed (w := w) (d := 1297) (f := f) (RI.df.2.trans hf) hf50 (fun e1' => ?_) (fun e4' => ?_) (fun k' h1' h2' h3' h4' => ?_)
    · skip
      exact pr_m (fun _ => rfl) (R.ee hq 1)
    · skip
      obtain ⟨k', h1', h2', h3'⟩ := e4'
      have t_h1' := tI h1' (by omega)
      omega
    · skip
      have t_h1' := tI h1' (by omega)
      omega
  · skip
    obtain ⟨k, h1, h2, h3⟩ := e4
    have t_h1 := tI h1 (by omega)
    have RI : Rel2 m (erm m 4) ln N q := R.e1 4
    refine m_feed (w := w) (d := 1297) (f := f) (RI.df.2.trans hf) hf50 (fun e1' => ?_) (fun e4' => ?_) (fun k' h1' h2' h3' h4' => ?_)
    · skip
      omega
    · skip
      obtain ⟨k', h1', h2', h3'⟩ := e4'
      have t_h1' := tI h1' (by omega)
      obtain rfl : k = k' := by omega
      exact pr_m (fun _ => rfl) (R.ee hq 4)
    · skip
      have t_h1' := tI h1' (by omega)
      omega
  · skip
    have t_h1 := tI h1 (by omega)
    have RI : Rel2 m (fdM m f w k) ln N q := R.fr SmX.rf (fdM_m f w k)
    refine m_feed (w := w) (d := 1297) (f := f) (RI.df.2.trans hf) hf50 (fun e1' => ?_) (fun e4' => ?_) (fun k' h1' h2' h3' h4' => ?_)
    · skip
      omega
    · skip
      obtain ⟨k', h1', h2', h3'⟩ := e4'
      have t_h1' := tI h1' (by omega)
      omega
    · skip
      have t_h1' := tI h1' (by omega)
      obtain rfl : k = k' := by omega
      exact pr_m (fun _ => rfl) ((R.fd w hf h4).nx hq)
theorem vocL_len : ∀ k, k < 7 → ∀ j, j ≤ 3 → (vocL k j).length ≤ 40 := by decide +kernel
theorem lgM_k {b : Nat} {k : Nat} (h : k ≠ 45) (h2 : k ≠ 46) (cs : List Nat) : lgM m b cs k = m k := by
  induction cs generalizing m b with
  | nil => rfl
  | cons c cs ih => exact ih.trans ((row_up _ _ h).trans (row_up _ _ h2))
theorem lgR_k {b : Nat} {k : Nat} (h : k ≠ 57) (h2 : k ≠ 68) (cs : List Nat) : lgR m b cs k = m k := by
  induction cs generalizing m b with
  | nil => rfl
  | cons c cs ih => exact ih.trans ((row_up _ _ h).trans (row_up _ _ h2))
theorem lg_r {b2 : MW} {p : Nat} (cs : List Nat) (h : ∀ j, j < p → b2 68 j = a 46 j) : ∀ j, j < p + cs.length → lgR b2 p cs 68 j = lgM a p cs 46 j := by
  induction cs generalizing a b2 p with
  | nil => exact h
  | cons c cs ih =>
    intro j hj
    refine ih (a := upm (upm a 46 p (nI c)) 45 4 (nI (p + 1))) (b2 := upm (upm b2 68 p (nI c)) 57 21 (nI (p + 1))) (p := p + 1) (fun j hj => ?_) j (by simp only [List.length_cons] at hj; omega)
    show upm b2 68 p (nI c) 68 j = upm a 46 p (nI c) 46 j
    by_cases e : j = p
    · subst e
      rw [upm_self, upm_self]
    · rw [upm_j _ _ e, upm_j _ _ e]
      exact h j (by omega)
theorem Rel2.voc (R : Rel2 m m ln N q) {x0 x1 x2 y2 y3 y4 : Int32} (cs : List Nat) (hcs : cs.length ≤ 40) {A B : MW} (hA : A = lgM (upm (upm (upm (upm m 45 0 x0) 45 1 x1) 45 2 x2) 45 4 0) 0 cs) (hB : B = lgR (upm (upm (upm (upm A 57 21 0) 57 22 y2) 57 23 y3) 57 24 y4) 0 cs) : Rel2 B B ln N q := by
  have ao : ∀ k, k ≠ 45 → k ≠ 46 → A k = m k := fun k h1 h2 => by
    subst hA
    rw [lgM_k h1 h2, row_up _ _ h1, row_up _ _ h1, row_up _ _ h1, row_up _ _ h1]
  have bo : ∀ k, k ≠ 57 → k ≠ 68 → B k = A k := fun k h1 h2 => by
    subst hB
    rw [lgR_k h1 h2, row_up _ _ h1, row_up _ _ h1, row_up _ _ h1, row_up _ _ h1]
  have bf : ∀ j, j < 7 → B 57 j = m 57 j := fun j h => by
    subst hB
    rw [lgR_o (by omega), upm_j _ _ (by omega), upm_j _ _ (by omega), upm_j _ _ (by omega), upm_j _ _ (by omega), ao 57 (by decide) (by decide)]
  have a4 : A 45 4 = nI cs.length := by
    subst hA
    rw [lgM_4 (b := 0) ?_, Nat.zero_add]
    exact upm_self _ _ _ _
  have b4 : B 57 21 = nI cs.length := by
    subst hB
    rw [lgR_4 (b := 0) ?_, Nat.zero_add]
    rw [upm_j _ _ (by decide), upm_j _ _ (by decide), upm_j _ _ (by decide)]
    exact upm_self _ _ _ _
  have hl : ∀ j, j < cs.length → B 68 j = A 46 j := fun j hj => by
    subst hB
    subst hA
    exact lg_r cs (fun j hj => absurd hj (Nat.not_lt_zero j)) j (by omega)
  have hc : codL A ln = codL m ln := cod_td (fun k h => ao k (by omega) (by omega))
  obtain ⟨r1, r2, r3, r4, r5, r6, r7, r8⟩ := R
  have hR : Rel2 A B ln N q := by
    refine ⟨r1, r2, ⟨r3.1, fun i h => by rw [hc]; exact r3.2 i h⟩, ?_, r5.mv (Nat.le_refl _) (Nat.le_refl _) (fun i _ => by rw [hc]) (by rw [ao 0 (by decide) (by decide)]) (fun k h => ao k (by omega) (by omega)) (bf 4 (by decide)) (bf 5 (by decide)) ((bo 59 (by decide) (by decide)).trans (ao 59 (by decide) (by decide))), r6.mv (fun k h1 h2 => ao k (by omega) (by omega)) (fun k h1 h2 => (bo k (by omega) (by omega)).trans (ao k (by omega) (by omega))), r7.mv (ao 56 (by decide) (by decide)) ((bo 62 (by decide) (by decide)).trans (ao 62 (by decide) (by decide))), ⟨cs.length, hcs, a4, b4, hl⟩⟩
    rw [hc, ao 37 (by decide) (by decide), ao 38 (by decide) (by decide), ao 39 (by decide) (by decide), bo 58 (by decide) (by decide), ao 58 (by decide) (by decide)]
    exact TbR_9 (fun j hj => ao _ (by omega) (by omega)) r4
  exact hR.fr (fun k j c => by
    have := cXM c
    rw [bo k (by omega) (by omega)]) SmM.rf
theorem voc_m {x0 x1 x2 : Int32} (cs : List Nat) : SmM m (lgM (upm (upm (upm (upm m 45 0 x0) 45 1 x1) 45 2 x2) 45 4 0) 0 cs) := fun k j c => by
  have := (cM_n c).2.2.2
  rw [lgM_k (by omega) (by omega), upm_k _ _ (by omega), upm_k _ _ (by omega), upm_k _ _ (by omega), upm_k _ _ (by omega)]
set_option maxHeartbeats 4000000 in
theorem p_voice {a b x : Int32} (R : Rel2 m m ln N q) (hq : q < 512) : Pair xs 93 176 0 0 [.int a, .int b, .int x] True m ln N q := by
  obtain ⟨n, hn, hd, _⟩ := R.n
  refine x_voice (d := 1283) (n := n) (K := kiF m) hd hn R.kx (fun e1 => pr_x ?_) (fun i j h1 h2 h3 h4 => pr_x ?_)
  · skip
    have RI : Rel2 m (erm m 1) ln N q := R.e1 1
    refine m_voice (d := 1279) (n := n) (K := kiF m) (RI.n2 hd) hn RI.ky (fun e1' => ?_) (fun i' j' h1' h2' h3' h4' => ?_)
    · skip
      exact pr_m (fun _ => rfl) (R.ee hq 1)
    · skip
      have t_h1' := tI h1' (by omega)
      have t_h3' := tI h3' (by omega)
      omega
  · skip
    have t_h1 := tI h1 (by omega)
    have t_h3 := tI h3 (by omega)
    have RI : Rel2 m (lgM (upm (upm (upm (upm m 45 0 (nI i)) 45 1 (m 4 i)) 45 2 (nI (kiF m i))) 45 4 0) 0 (vocL (kiF m i) j)) ln N q := R.fr SmX.rf (voc_m _)
    refine m_voice (d := 1279) (n := n) (K := kiF m) (RI.n2 hd) hn RI.ky (fun e1' => ?_) (fun i' j' h1' h2' h3' h4' => ?_)
    · skip
      omega
    · skip
      have t_h1' := tI h1' (by omega)
      have t_h3' := tI h3' (by omega)
      obtain rfl : i = i' := by omega
      obtain rfl : j = j' := by omega
      exact pr_m (fun _ => by rw [RI.rd (i := i) (c := 1) (by omega) (by decide)]) ((R.voc _ (vocL_len _ (R.kx i (by omega)).1 j h4) rfl rfl).nx hq)
end
end
section
/-! CALLS ON BOTH SIDES that change sheets -/
section
variable {xs : List Int32} {a b m a2 b2 : MW} {ln : Nat → Nat} {N q : Nat}
theorem Rel2.shr (R : Rel2 a b ln N q) (hx : ∀ k, ¬ (48 ≤ k ∧ k < 56) → a2 k = a k) (hm : ∀ k, 57 ≤ k → k < 69 → ¬ (63 ≤ k ∧ k < 67) → b2 k = b k) (hS : ShR2 a2 b2) : Rel2 a2 b2 ln N q := by
  have hc : codL a2 ln = codL a ln := cod_td (fun k h => hx k (by omega))
  obtain ⟨r1, r2, r3, r4, r5, r6, r7, r8⟩ := R
  refine ⟨r1, r2, ⟨r3.1, fun i h => by rw [hc]; exact r3.2 i h⟩, ?_, r5.mv (Nat.le_refl _) (Nat.le_refl _) (fun i _ => by rw [hc]) (by rw [hx 0 (by decide)]) (fun k h => hx k (by omega)) (by rw [hm 57 (by decide) (by decide) (by decide)]) (by rw [hm 57 (by decide) (by decide) (by decide)]) (hm 59 (by decide) (by decide) (by decide)), hS, r7.mv (hx 56 (by decide)) (hm 62 (by decide) (by decide) (by decide)), r8.mv (fun k h1 h2 => hx k (by omega)) (by rw [hm 57 (by decide) (by decide) (by decide)]) (hm 68 (by decide) (by decide) (by decide))⟩
  rw [hc, hx 37 (by decide), hx 38 (by decide), hx 39 (by decide), hm 58 (by decide) (by decide) (by decide)]
  exact TbR_9 (fun j hj => hx _ (by omega)) r4
theorem sxS {A B : MW} (h : ∀ k, ¬ (63 ≤ k ∧ k < 67) → B k = A k) : SmX A B := fun k j c => congrFun (h k (fun e => cXM c (by omega))) j
theorem nl_0 {c : Nat} (h : c = 0 ∨ c = 8 ∨ c = 16 ∨ c = 32) : narF c 0 = 0 ∧ lowF c 0 = 0 := by
  rcases h with h | h | h | h <;> subst h <;> exact ⟨rfl, rfl⟩
theorem zrM_k {s k : Nat} {x l : Int32} (h1 : k ≠ 48 + 2 * s) (h2 : k ≠ 49 + 2 * s) : zrM m s x l k = m k := by
  funext j
  unfold zrM
  rw [if_neg (fun z => h2 z.1), upm_k _ _ h1, upm_k _ _ h1]
theorem zrQ_k {c lo n k : Nat} (h : k ≠ c) : zrQ m c lo n k = m k := by
  funext j
  unfold zrQ
  rw [if_neg (fun z => h z.1)]
theorem Rel2.shz (R : Rel2 m m ln N q) {s c l : Nat} (hs : s < 4) (hc : c = 0 ∨ c = 8 ∨ c = 16 ∨ c = 32) (hl : l ≤ 40) {A B : MW} (hA : A = zrM m s (nI c) (nI l)) (hB : B = zrQ (upm (upm A 63 s (nI c)) 64 s (nI l)) 65 (40 * s) 40) : Rel2 B B ln N q := by
  have ao : ∀ k, k ≠ 48 + 2 * s → k ≠ 49 + 2 * s → A k = m k := fun k h1 h2 => by
    subst hA
    exact zrM_k h1 h2
  have bo : ∀ k, ¬ (63 ≤ k ∧ k < 67) → B k = A k := fun k h => by
    subst hB
    rw [zrQ_k (by omega), row_up _ _ (by omega), row_up _ _ (by omega)]
  have b3 : ∀ z, B 63 z = if z = s then nI c else m 63 z := fun z => by
    subst hB
    rw [zrQ_k (by decide), upm_k _ _ (by decide), ← ao 63 (by omega) (by omega)]
    unfold upm
    by_cases h : z = s
    · rw [if_pos h, if_pos ⟨rfl, h⟩]
    · rw [if_neg h, if_neg (fun e => h e.2)]
  have b4 : ∀ z, B 64 z = if z = s then nI l else m 64 z := fun z => by
    subst hB
    rw [zrQ_k (by decide), ← ao 64 (by omega) (by omega)]
    by_cases h : z = s
    · rw [if_pos h, h]
      exact upm_self _ _ _ _
    · rw [if_neg h, upm_j _ _ h, upm_k _ _ (by decide)]
  have b5 : ∀ p, B 65 p = if 40 * s ≤ p ∧ p < 40 * s + 40 then 0 else m 65 p := fun p => by
    subst hB
    unfold zrQ
    by_cases h : 40 * s ≤ p ∧ p < 40 * s + 40
    · rw [if_pos ⟨rfl, h⟩, if_pos h]
    · rw [if_neg (fun e => h e.2), if_neg h, upm_k _ _ (by decide), upm_k _ _ (by decide), ao 65 (by omega) (by omega)]
  have a8 : A (48 + 2 * s) 0 = nI c ∧ A (48 + 2 * s) 1 = nI l := by
    subst hA
    unfold zrM
    rw [if_neg (by omega), if_neg (by omega)]
    exact ⟨(upm_j _ _ (by decide)).trans (upm_self _ _ _ _), upm_self _ _ _ _⟩
  have a9 : ∀ j, j < 40 → A (49 + 2 * s) j = 0 := fun j hj => by
    subst hA
    unfold zrM
    rw [if_pos ⟨rfl, hj⟩]
  have hR : Rel2 A B ln N q := by
    refine R.shr (fun k h => ao k (by omega) (by omega)) (fun k h1 h2 h3 => (bo k h3).trans (ao k (by omega) (by omega))) (fun z hz => ?_)
    by_cases e : z = s
    · subst e
      refine ⟨c, l, hc, hl, a8.1, (b3 z).trans (if_pos rfl), a8.2, (b4 z).trans (if_pos rfl), fun j hj => ⟨0, ?_, ?_⟩⟩
      · rw [b5, if_pos (by omega), (nl_0 hc).1]
      · rw [a9 j hj, (nl_0 hc).2]
    · obtain ⟨c2, l2, s1, s2, s3, s4, s5, s6, s7⟩ := R.2.2.2.2.2.1 z hz
      refine ⟨c2, l2, s1, s2, ?_, ?_, ?_, ?_, fun j hj => ?_⟩
      · rw [ao _ (by omega) (by omega)]
        exact s3
      · rw [b3, if_neg e]
        exact s4
      · rw [ao _ (by omega) (by omega)]
        exact s5
      · rw [b4, if_neg e]
        exact s6
      · rw [b5, if_neg (by omega), ao _ (by omega) (by omega)]
        exact s7 j hj
  exact hR.fr (sxS bo) SmM.rf
theorem zr_m {s : Nat} {x l : Int32} (hs : s < 4) : SmM m (zrM m s x l) := fun k j c => by
  have := (cM_n c).2.2.2
  rw [zrM_k (by omega) (by omega)]
theorem nI_ofT {x : Int32} {n : Nat} (h : x.toInt = (n : Int)) (hn : n < 2147483648) : x = nI n := Int32.toInt_inj.mp (h.trans (nI_toInt hn).symm)
theorem nI_ex {x : Int32} {n : Nat} (h0 : 0 ≤ x.toInt) (h1 : x.toInt ≤ (n : Int)) (hn : n < 2147483648) : ∃ l, l ≤ n ∧ x = nI l := ⟨x.toInt.toNat, by omega, nI_ofT (by omega) (by omega)⟩
theorem bits_ex {x : Int32} (h : x.toInt = 0 ∨ x.toInt = 8 ∨ x.toInt = 16 ∨ x.toInt = 32) : ∃ c, (c = 0 ∨ c = 8 ∨ c = 16 ∨ c = 32) ∧ x = nI c := by
  rcases h with h | h | h | h
  · exact ⟨0, Or.inl rfl, nI_ofT h (by decide)⟩
  · exact ⟨8, by decide, nI_ofT h (by decide)⟩
  · exact ⟨16, by decide, nI_ofT h (by decide)⟩
  · exact ⟨32, by decide, nI_ofT h (by decide)⟩
set_option maxHeartbeats 4000000 in
theorem p_sheet {a b v : Int32} (R : Rel2 m m ln N q) (hq : q < 512) : Pair xs 95 179 0 0 [.int a, .int b, .int v] True m ln N q := by
  obtain ⟨n, hn, hd, _⟩ := R.n
  refine x_sheet (d := 1296)  (fun e1 => pr_x ?_) (fun e3 => pr_x ?_) (fun s h1 h2 h3 => pr_x ?_) (fun s h1 h2 h3 h4 h5 h6 => pr_x ?_)
  · skip
    have RI : Rel2 m (erm m 1) ln N q := R.e1 1
    refine m_sheet (d := 1296)  (fun e1' => ?_) (fun e3' => ?_) (fun s' h1' h2' h3' => ?_) (fun s' h1' h2' h3' h4' h5' h6' => ?_)
    · skip
      exact pr_m (fun _ => rfl) (R.ee hq 1)
    · skip
      obtain ⟨s', h1', h2', h3', h4', h5'⟩ := e3'
      have t_h1' := tI h1' (by omega)
      omega
    · skip
      have t_h1' := tI h1' (by omega)
      omega
    · skip
      have t_h1' := tI h1' (by omega)
      omega
  · skip
    obtain ⟨s, h1, h2, h3, h4, h5⟩ := e3
    have t_h1 := tI h1 (by omega)
    have RI : Rel2 m (erm m 3) ln N q := R.e1 3
    refine m_sheet (d := 1296)  (fun e1' => ?_) (fun e3' => ?_) (fun s' h1' h2' h3' => ?_) (fun s' h1' h2' h3' h4' h5' h6' => ?_)
    · skip
      omega
    · skip
      obtain ⟨s', h1', h2', h3', h4', h5'⟩ := e3'
      have t_h1' := tI h1' (by omega)
      obtain rfl : s = s' := by omega
      exact pr_m (fun _ => rfl) (R.ee hq 3)
    · skip
      have t_h1' := tI h1' (by omega)
      omega
    · skip
      have t_h1' := tI h1' (by omega)
      omega
  · skip
    have t_h1 := tI h1 (by omega)
    have RI : Rel2 m (zrM m s 0 0) ln N q := R.fr SmX.rf (zr_m h2)
    refine m_sheet (d := 1296)  (fun e1' => ?_) (fun e3' => ?_) (fun s' h1' h2' h3' => ?_) (fun s' h1' h2' h3' h4' h5' h6' => ?_)
    · skip
      omega
    · skip
      obtain ⟨s', h1', h2', h3', h4', h5'⟩ := e3'
      have t_h1' := tI h1' (by omega)
      omega
    · skip
      have t_h1' := tI h1' (by omega)
      obtain rfl : s = s' := by omega
      obtain rfl : b = nI 0 := nI_ofT h3 (by decide)
      exact pr_m (fun _ => rfl) ((R.shz h2 (Or.inl rfl) (show 0 ≤ 40 by decide) rfl rfl).nx hq)
    · skip
      have t_h1' := tI h1' (by omega)
      omega
  · skip
    have t_h1 := tI h1 (by omega)
    have RI : Rel2 m (zrM m s b v) ln N q := R.fr SmX.rf (zr_m h2)
    refine m_sheet (d := 1296)  (fun e1' => ?_) (fun e3' => ?_) (fun s' h1' h2' h3' => ?_) (fun s' h1' h2' h3' h4' h5' h6' => ?_)
    · skip
      omega
    · skip
      obtain ⟨s', h1', h2', h3', h4', h5'⟩ := e3'
      have t_h1' := tI h1' (by omega)
      omega
    · skip
      have t_h1' := tI h1' (by omega)
      omega
    · skip
      have t_h1' := tI h1' (by omega)
      obtain rfl : s = s' := by omega
      obtain ⟨c, hc, rfl⟩ := bits_ex h3
      obtain ⟨l, hl, rfl⟩ := nI_ex h5 h6 (by decide)
      exact pr_m (fun _ => rfl) ((R.shz h2 hc hl rfl rfl).nx hq)
theorem Rel2.pt (R : Rel2 m m ln N q) {s i : Nat} (v : Int32) (hs : s < 4) (hi : i < 40) {A B : MW} (hA : A = upm m (49 + 2 * s) i (lowF (shB m s) v)) (hB : B = upm A 65 (40 * s + i) (narF (shB m s) v)) : Rel2 B B ln N q := by
  have ao : ∀ k, k ≠ 49 + 2 * s → A k = m k := fun k h => by
    subst hA
    exact row_up _ _ h
  have bo : ∀ k, k ≠ 65 → B k = A k := fun k h => by
    subst hB
    exact row_up _ _ h
  have hR : Rel2 A B ln N q := by
    refine R.shr (fun k h => ao k (by omega)) (fun k h1 h2 h3 => (bo k (by omega)).trans (ao k (by omega))) (fun z hz => ?_)
    obtain ⟨s1, s2, s3, s5, s4, s6, s7⟩ := R.sh z hz
    refine ⟨shB m z, shL m z, s1, s2, ?_, ?_, ?_, ?_, fun j hj => ?_⟩
    · rw [ao _ (by omega)]
      exact s3
    · rw [bo 63 (by decide), ao 63 (by omega)]
      exact s4
    · rw [ao _ (by omega)]
      exact s5
    · rw [bo 64 (by decide), ao 64 (by omega)]
      exact s6
    · by_cases e : z = s ∧ j = i
      · obtain ⟨rfl, rfl⟩ := e
        refine ⟨v, ?_, ?_⟩
        · subst hB
          exact upm_self _ _ _ _
        · subst hA
          exact upm_self _ _ _ _
      · obtain ⟨y, y1, y2⟩ := s7 j hj
        refine ⟨y, ?_, ?_⟩
        · subst hB
          rw [upm_j _ _ (by omega), ao 65 (by omega)]
          exact y1
        · by_cases ez : z = s
          · subst ez
            subst hA
            rw [upm_j _ _ (by omega)]
            exact y2
          · rw [ao _ (by omega)]
            exact y2
  exact hR.fr (sxS (fun k h => bo k (by omega))) SmM.rf
set_option maxHeartbeats 4000000 in
theorem p_put {a i v : Int32} (R : Rel2 m m ln N q) (hq : q < 512) : Pair xs 96 180 0 0 [.int a, .int i, .int v] True m ln N q := by
  obtain ⟨n, hn, hd, _⟩ := R.n
  refine x_put (d := 1296) (B := shB m) (Ln := shL m) R.sx (fun e1 => pr_x ?_) (fun e2 => pr_x ?_) (fun s i2 h1 h2 h3 h4 h5 => pr_x ?_)
  · skip
    have RI : Rel2 m (erm m 1) ln N q := R.e1 1
    refine m_put (d := 1296) (B := shB m) (Ln := shL m) RI.sy (fun e1' => ?_) (fun e2' => ?_) (fun s' i2' h1' h2' h3' h4' h5' => ?_)
    · skip
      exact pr_m (fun _ => rfl) (R.ee hq 1)
    · skip
      obtain ⟨s', h1', h2', h3'⟩ := e2'
      have t_h1' := tI h1' (by omega)
      rcases e1 with e1 | ⟨s, h1, h2, h3, h4⟩
      · omega
      · have t_h1 := tI h1 (by omega)
        obtain rfl : s = s' := by omega
        omega
    · skip
      have t_h1' := tI h1' (by omega)
      have t_h4' := tI h4' (by have h9' := (R.sx s' h2').2.1; omega)
      rcases e1 with e1 | ⟨s, h1, h2, h3, h4⟩
      · omega
      · have t_h1 := tI h1 (by omega)
        obtain rfl : s = s' := by omega
        omega
  · skip
    obtain ⟨s, h1, h2, h3⟩ := e2
    have t_h1 := tI h1 (by omega)
    have RI : Rel2 m (erm m 2) ln N q := R.e1 2
    refine m_put (d := 1296) (B := shB m) (Ln := shL m) RI.sy (fun e1' => ?_) (fun e2' => ?_) (fun s' i2' h1' h2' h3' h4' h5' => ?_)
    · skip
      rcases e1' with e1 | ⟨s', h1', h2', h3', h4'⟩
      · omega
      · have t_h1' := tI h1' (by omega)
        obtain rfl : s = s' := by omega
        omega
    · skip
      obtain ⟨s', h1', h2', h3'⟩ := e2'
      have t_h1' := tI h1' (by omega)
      obtain rfl : s = s' := by omega
      exact pr_m (fun _ => rfl) (R.ee hq 2)
    · skip
      have t_h1' := tI h1' (by omega)
      have t_h4' := tI h4' (by have h9' := (R.sx s' h2').2.1; omega)
      obtain rfl : s = s' := by omega
      omega
  · skip
    have t_h1 := tI h1 (by omega)
    have t_h4 := tI h4 (by have h9 := (R.sx s h2).2.1; omega)
    have RI : Rel2 m (upm m (49 + 2 * s) i2 (lowF (shB m s) v)) ln N q := R.fr SmX.rf (sm_up (by omega))
    refine m_put (d := 1296) (B := shB m) (Ln := shL m) RI.sy (fun e1' => ?_) (fun e2' => ?_) (fun s' i2' h1' h2' h3' h4' h5' => ?_)
    · skip
      rcases e1' with e1 | ⟨s', h1', h2', h3', h4'⟩
      · omega
      · have t_h1' := tI h1' (by omega)
        obtain rfl : s = s' := by omega
        omega
    · skip
      obtain ⟨s', h1', h2', h3'⟩ := e2'
      have t_h1' := tI h1' (by omega)
      obtain rfl : s = s' := by omega
      omega
    · skip
      have t_h1' := tI h1' (by omega)
      have t_h4' := tI h4' (by have h9' := (R.sx s' h2').2.1; omega)
      obtain rfl : s = s' := by omega
      obtain rfl : i2 = i2' := by omega
      exact pr_m (fun _ => rfl) ((R.pt v h2 (by have := (R.sx s h2).2.1; omega) rfl rfl).nx hq)
theorem mvA_r (c : Nat) {j : Nat} : ∀ n, j < n → mvA m c n 66 j = m 65 (c + j)
  | 0, h => absurd h (Nat.not_lt_zero j)
  | n + 1, h => by
    show upm (mvA m c n) 66 n (m 65 (c + n)) 66 j = m 65 (c + j)
    by_cases e : j = n
    · subst e
      exact upm_self _ _ _ _
    · rw [upm_j _ _ e]
      exact mvA_r c n (by omega)
theorem mvB_r (c p : Nat) : ∀ n, mvB m c n 65 p = if c ≤ p ∧ p < c + n then m 66 (p - c) else m 65 p
  | 0 => by
    rw [if_neg (by omega)]
    rfl
  | n + 1 => by
    show upm (mvB m c n) 65 (c + n) (m 66 n) 65 p = _
    by_cases e : p = c + n
    · subst e
      rw [upm_self, if_pos (by omega), Nat.add_sub_cancel_left]
    · rw [upm_j _ _ e, mvB_r c p n]
      by_cases h : c ≤ p ∧ p < c + n
      · rw [if_pos h, if_pos (by omega)]
      · rw [if_neg h, if_neg (by omega)]
theorem Rel2.mv (R : Rel2 m m ln N q) {s o i e k : Nat} (hs : s < 4) (ho : o < 4) (hb : shB m s = shB m o) (h1 : i + k ≤ 40) (h2 : e + k ≤ 40) {A B : MW} (hA : A = cpy m (49 + 2 * s) (49 + 2 * o) i e k) (hB : B = mvB (mvA A (40 * s + i) k) (40 * o + e) k) : Rel2 B B ln N q := by
  have ao : ∀ z, z ≠ 49 + 2 * o → A z = m z := fun z h => by
    subst hA
    funext j
    unfold cpy
    rw [if_neg (fun y => h y.1)]
  have bo : ∀ z, z ≠ 65 → z ≠ 66 → B z = A z := fun z h h' => by
    subst hB
    rw [mvB_o _ _ h, mvA_o _ _ h']
  have a65 : A 65 = m 65 := ao 65 (by omega)
  have b65 : ∀ p, B 65 p = if 40 * o + e ≤ p ∧ p < 40 * o + e + k then m 65 (40 * s + i + (p - (40 * o + e))) else m 65 p := fun p => by
    subst hB
    rw [mvB_r]
    by_cases h : 40 * o + e ≤ p ∧ p < 40 * o + e + k
    · rw [if_pos h, if_pos h, mvA_r _ _ (by omega), a65]
    · rw [if_neg h, if_neg h, mvA_o _ _ (by decide), a65]
  have hR : Rel2 A B ln N q := by
    refine R.shr (fun z h => ao z (by omega)) (fun z g1 g2 g3 => (bo z (by omega) (by omega)).trans (ao z (by omega))) (fun z hz => ?_)
    obtain ⟨s1, s2, s3, s5, s4, s6, s7⟩ := R.sh z hz
    refine ⟨shB m z, shL m z, s1, s2, ?_, ?_, ?_, ?_, fun j hj => ?_⟩
    · rw [ao _ (by omega)]
      exact s3
    · rw [bo 63 (by decide) (by decide), ao 63 (by omega)]
      exact s4
    · rw [ao _ (by omega)]
      exact s5
    · rw [bo 64 (by decide) (by decide), ao 64 (by omega)]
      exact s6
    · by_cases c : z = o ∧ e ≤ j ∧ j < e + k
      · obtain ⟨rfl, c1, c2⟩ := c
        obtain ⟨y, y1, y2⟩ := (R.sh s hs).2.2.2.2.2.2 (i + (j - e)) (by omega)
        refine ⟨y, ?_, ?_⟩
        · rw [b65, if_pos (by omega), show 40 * s + i + (40 * z + j - (40 * z + e)) = 40 * s + (i + (j - e)) by omega, ← hb]
          exact y1
        · have e1 : A (49 + 2 * z) j = m (49 + 2 * s) (i + (j - e)) := by
            subst hA
            unfold cpy
            rw [if_pos ⟨rfl, c1, c2⟩]
          rw [e1, ← hb]
          exact y2
      · obtain ⟨y, y1, y2⟩ := s7 j hj
        refine ⟨y, ?_, ?_⟩
        · rw [b65, if_neg (by omega)]
          exact y1
        · by_cases ez : z = o
          · subst ez
            have e1 : A (49 + 2 * z) j = m (49 + 2 * z) j := by
              subst hA
              unfold cpy
              rw [if_neg (by omega)]
            rw [e1]
            exact y2
          · rw [ao _ (by omega)]
            exact y2
  exact hR.fr (sxS (fun z h => bo z (by omega) (by omega))) SmM.rf
theorem cpy_m {s o i e k : Nat} (ho : o < 4) : SmM m (cpy m (49 + 2 * s) (49 + 2 * o) i e k) := fun z j c => by
  have := (cM_n c).2.2.2
  unfold cpy
  rw [if_neg (by omega)]
set_option maxHeartbeats 4000000 in
theorem p_move {a i c e w : Int32} (R : Rel2 m m ln N q) (hq : q < 512) : Pair xs 97 181 0 0 [.int a, .int i, .int c, .int e, .int w] True m ln N q := by
  obtain ⟨n, hn, hd, _⟩ := R.n
  refine x_move (d := 1297) (B := shB m) (Ln := shL m) R.sx (fun e1 => pr_x ?_) (fun e2 => pr_x ?_) (fun e5 => pr_x ?_) (fun s o i2 e2 k h1 h2 h3 h4 h5 h6 h7 h8 h9 h10 h11 => pr_x ?_)
  · skip
    have RI : Rel2 m (erm m 1) ln N q := R.e1 1
    refine m_move (d := 1296) (B := shB m) (Ln := shL m) RI.sy (fun e1' => ?_) (fun e2' => ?_) (fun e5' => ?_) (fun s' o' i2' e2' k' h1' h2' h3' h4' h5' h6' h7' h8' h9' h10' h11' => ?_)
    · skip
      exact pr_m (fun _ => rfl) (R.ee hq 1)
    · skip
      obtain ⟨s', o', h1', h2', h3', h4', h5'⟩ := e2'
      have t_h1' := tI h1' (by omega)
      have t_h3' := tI h3' (by omega)
      rcases e1 with e1 | ⟨s, o, h1, h2, h3, h4, h5, h6, h7⟩
      · omega
      · have t_h1 := tI h1 (by omega)
        have t_h3 := tI h3 (by omega)
        obtain rfl : s = s' := by omega
        obtain rfl : o = o' := by omega
        omega
    · skip
      obtain ⟨s', o', h1', h2', h3', h4', h5', h6', h7'⟩ := e5'
      have t_h1' := tI h1' (by omega)
      have t_h3' := tI h3' (by omega)
      rcases e1 with e1 | ⟨s, o, h1, h2, h3, h4, h5, h6, h7⟩
      · omega
      · have t_h1 := tI h1 (by omega)
        have t_h3 := tI h3 (by omega)
        obtain rfl : s = s' := by omega
        obtain rfl : o = o' := by omega
        omega
    · skip
      have t_h1' := tI h1' (by omega)
      have t_h3' := tI h3' (by omega)
      have t_h7' := tI h7' (by have h19' := (R.sx s' h2').2.1; omega)
      have t_h8' := tI h8' (by have h19' := (R.sx o' h4').2.1; omega)
      have t_h9' := tI h9' (by have h19' := (R.sx o' h4').2.1; omega)
      rcases e1 with e1 | ⟨s, o, h1, h2, h3, h4, h5, h6, h7⟩
      · omega
      · have t_h1 := tI h1 (by omega)
        have t_h3 := tI h3 (by omega)
        obtain rfl : s = s' := by omega
        obtain rfl : o = o' := by omega
        omega
  · skip
    obtain ⟨s, o, h1, h2, h3, h4, h5⟩ := e2
    have t_h1 := tI h1 (by omega)
    have t_h3 := tI h3 (by omega)
    have RI : Rel2 m (erm m 2) ln N q := R.e1 2
    refine m_move (d := 1296) (B := shB m) (Ln := shL m) RI.sy (fun e1' => ?_) (fun e2' => ?_) (fun e5' => ?_) (fun s' o' i2' e2' k' h1' h2' h3' h4' h5' h6' h7' h8' h9' h10' h11' => ?_)
    · skip
      rcases e1' with e1 | ⟨s', o', h1', h2', h3', h4', h5', h6', h7'⟩
      · omega
      · have t_h1' := tI h1' (by omega)
        have t_h3' := tI h3' (by omega)
        obtain rfl : s = s' := by omega
        obtain rfl : o = o' := by omega
        omega
    · skip
      obtain ⟨s', o', h1', h2', h3', h4', h5'⟩ := e2'
      have t_h1' := tI h1' (by omega)
      have t_h3' := tI h3' (by omega)
      obtain rfl : s = s' := by omega
      obtain rfl : o = o' := by omega
      exact pr_m (fun _ => rfl) (R.ee hq 2)
    · skip
      obtain ⟨s', o', h1', h2', h3', h4', h5', h6', h7'⟩ := e5'
      have t_h1' := tI h1' (by omega)
      have t_h3' := tI h3' (by omega)
      obtain rfl : s = s' := by omega
      obtain rfl : o = o' := by omega
      omega
    · skip
      have t_h1' := tI h1' (by omega)
      have t_h3' := tI h3' (by omega)
      have t_h7' := tI h7' (by have h19' := (R.sx s' h2').2.1; omega)
      have t_h8' := tI h8' (by have h19' := (R.sx o' h4').2.1; omega)
      have t_h9' := tI h9' (by have h19' := (R.sx o' h4').2.1; omega)
      obtain rfl : s = s' := by omega
      obtain rfl : o = o' := by omega
      omega
  · skip
    obtain ⟨s, o, h1, h2, h3, h4, h5, h6, h7⟩ := e5
    have t_h1 := tI h1 (by omega)
    have t_h3 := tI h3 (by omega)
    have RI : Rel2 m (erm m 5) ln N q := R.e1 5
    refine m_move (d := 1296) (B := shB m) (Ln := shL m) RI.sy (fun e1' => ?_) (fun e2' => ?_) (fun e5' => ?_) (fun s' o' i2' e2' k' h1' h2' h3' h4' h5' h6' h7' h8' h9' h10' h11' => ?_)
    · skip
      rcases e1' with e1 | ⟨s', o', h1', h2', h3', h4', h5', h6', h7'⟩
      · omega
      · have t_h1' := tI h1' (by omega)
        have t_h3' := tI h3' (by omega)
        obtain rfl : s = s' := by omega
        obtain rfl : o = o' := by omega
        omega
    · skip
      obtain ⟨s', o', h1', h2', h3', h4', h5'⟩ := e2'
      have t_h1' := tI h1' (by omega)
      have t_h3' := tI h3' (by omega)
      obtain rfl : s = s' := by omega
      obtain rfl : o = o' := by omega
      omega
    · skip
      obtain ⟨s', o', h1', h2', h3', h4', h5', h6', h7'⟩ := e5'
      have t_h1' := tI h1' (by omega)
      have t_h3' := tI h3' (by omega)
      obtain rfl : s = s' := by omega
      obtain rfl : o = o' := by omega
      exact pr_m (fun _ => rfl) (R.ee hq 5)
    · skip
      have t_h1' := tI h1' (by omega)
      have t_h3' := tI h3' (by omega)
      have t_h7' := tI h7' (by have h19' := (R.sx s' h2').2.1; omega)
      have t_h8' := tI h8' (by have h19' := (R.sx o' h4').2.1; omega)
      have t_h9' := tI h9' (by have h19' := (R.sx o' h4').2.1; omega)
      obtain rfl : s = s' := by omega
      obtain rfl : o = o' := by omega
      omega
  · skip
    have t_h1 := tI h1 (by omega)
    have t_h3 := tI h3 (by omega)
    have t_h7 := tI h7 (by have h19 := (R.sx s h2).2.1; omega)
    have t_h8 := tI h8 (by have h19 := (R.sx o h4).2.1; omega)
    have t_h9 := tI h9 (by have h19 := (R.sx o h4).2.1; omega)
    have RI : Rel2 m (cpy m (49 + 2 * s) (49 + 2 * o) i2 e2 k) ln N q := R.fr SmX.rf (cpy_m h4)
    refine m_move (d := 1296) (B := shB m) (Ln := shL m) RI.sy (fun e1' => ?_) (fun e2' => ?_) (fun e5' => ?_) (fun s' o' i2' e2' k' h1' h2' h3' h4' h5' h6' h7' h8' h9' h10' h11' => ?_)
    · skip
      rcases e1' with e1 | ⟨s', o', h1', h2', h3', h4', h5', h6', h7'⟩
      · omega
      · have t_h1' := tI h1' (by omega)
        have t_h3' := tI h3' (by omega)
        obtain rfl : s = s' := by omega
        obtain rfl : o = o' := by omega
        omega
    · skip
      obtain ⟨s', o', h1', h2', h3', h4', h5'⟩ := e2'
      have t_h1' := tI h1' (by omega)
      have t_h3' := tI h3' (by omega)
      obtain rfl : s = s' := by omega
      obtain rfl : o = o' := by omega
      omega
    · skip
      obtain ⟨s', o', h1', h2', h3', h4', h5', h6', h7'⟩ := e5'
      have t_h1' := tI h1' (by omega)
      have t_h3' := tI h3' (by omega)
      obtain rfl : s = s' := by omega
      obtain rfl : o = o' := by omega
      omega
    · skip
      have t_h1' := tI h1' (by omega)
      have t_h3' := tI h3' (by omega)
      have t_h7' := tI h7' (by have h19' := (R.sx s' h2').2.1; omega)
      have t_h8' := tI h8' (by have h19' := (R.sx o' h4').2.1; omega)
      have t_h9' := tI h9' (by have h19' := (R.sx o' h4').2.1; omega)
      obtain rfl : s = s' := by omega
      obtain rfl : o = o' := by omega
      obtain rfl : i2 = i2' := by omega
      obtain rfl : e2 = e2' := by omega
      obtain rfl : k = k' := by omega
      exact pr_m (fun _ => rfl) ((R.mv h2 h4 h6 (by have := (R.sx s h2).2.1; omega) (by have := (R.sx o h4).2.1; omega) rfl rfl).nx hq)
theorem sgM_cm (e : Nat) {p : Nat} {x : Int32} : ∀ n, sgM (upm m 6 p x) e n = upm (sgM m e n) 6 p x
  | 0 => rfl
  | n + 1 => by
    show upm (sgM (upm m 6 p x) e n) 58 (16 + 6 * n + 3) (m 65 (e + n)) = upm (upm (sgM m e n) 58 (16 + 6 * n + 3) (m 65 (e + n))) 6 p x
    rw [sgM_cm e n, upm_cm _ _ _ (Or.inl (show 6 ≠ 58 by decide))]
theorem Rel2.sms (R : Rel2 m m ln N q) (c e : Nat) (hc : c ≠ 6) : ∀ r, r ≤ 8 → (∀ z, z < r → m 65 (e + z) = m c z ∧ leI (m c z) 9) → Rel2 (sgM (shM m c r) e r) (sgM (shM m c r) e r) ln N q
  | 0, _, _ => R
  | r + 1, hr, h => by
    have ih := R.sms c e hc r (by omega) (fun z hz => h z (by omega))
    have hw := ih.wd 3 r (m c r) (by omega) (by decide) (fun z => by omega) (fun z => by omega) (fun z => by omega) (fun _ => (h r (by omega)).2) (fun z => by omega) (fun z => by omega)
    have e1 : sgM (shM m c (r + 1)) e (r + 1) = upm (upm (sgM (shM m c r) e r) 6 r (m c r)) 58 (16 + 6 * r + 3) (m c r) := by
      show upm (sgM (upm (shM m c r) 6 r (m c r)) e r) 58 (16 + 6 * r + 3) (upm (shM m c r) 6 r (m c r) 65 (e + r)) = _
      rw [sgM_cm, upm_k _ _ (show 65 ≠ 6 by decide), shM_o _ _ (show 65 ≠ 6 by decide), (h r (by omega)).1]
    rw [e1]
    exact hw
theorem runF_t {p : Nat → Bool} : ∀ r s z, s ≤ z → z < runF p r s → p z = true
  | 0, s, z, h1, h2 => by
    have h3 : z < s := h2
    omega
  | r + 1, s, z, h1, h2 => by
    by_cases h : p s = true
    · rw [run_y h] at h2
      by_cases e : z = s
      · rw [e]
        exact h
      · exact runF_t r (s + 1) z (by omega) h2
    · rw [run_n h] at h2
      omega
theorem shM_m (c r : Nat) : SmM m (shM m c r) := fun k j h => by
  have := (cM_n h).2.2.2
  rw [shM_o _ _ (by omega)]
set_option maxHeartbeats 4000000 in
theorem p_shams {a : Int32} (R : Rel2 m m ln N q) (hq : q < 512) : Pair xs 98 182 0 0 [.int a] True m ln N q := by
  obtain ⟨n, hn, hd, _⟩ := R.n
  refine x_shams (d := 1297) (n := n) (B := shB m) (Ln := shL m) hd hn R.sx (fun e1 => pr_x ?_) (fun e2 => pr_x ?_) (fun s h1 h2 h3 => pr_x ?_)
  · skip
    have RI : Rel2 m (erm m 1) ln N q := R.e1 1
    refine m_shams (d := 1296) (n := n) (B := shB m) (Ln := shL m) (RI.n2 hd) hn RI.sy (fun e1' => ?_) (fun e2' => ?_) (fun s' h1' h2' h3' => ?_)
    · skip
      exact pr_m (fun _ => rfl) (R.ee hq 1)
    · skip
      obtain ⟨s', h1', h2', h3'⟩ := e2'
      have t_h1' := tI h1' (by omega)
      omega
    · skip
      have t_h1' := tI h1' (by omega)
      omega
  · skip
    obtain ⟨s, h1, h2, h3⟩ := e2
    have t_h1 := tI h1 (by omega)
    have RI : Rel2 m (erm m 2) ln N q := R.e1 2
    refine m_shams (d := 1296) (n := n) (B := shB m) (Ln := shL m) (RI.n2 hd) hn RI.sy (fun e1' => ?_) (fun e2' => ?_) (fun s' h1' h2' h3' => ?_)
    · skip
      omega
    · skip
      obtain ⟨s', h1', h2', h3'⟩ := e2'
      have t_h1' := tI h1' (by omega)
      obtain rfl : s = s' := by omega
      exact pr_m (fun _ => rfl) (R.ee hq 2)
    · skip
      have t_h1' := tI h1' (by omega)
      obtain rfl : s = s' := by omega
      omega
  · skip
    have t_h1 := tI h1 (by omega)
    have RI : Rel2 m (shM m (49 + 2 * s) (runF (fun z => decide (0 ≤ (m (49 + 2 * s) z).toInt ∧ (m (49 + 2 * s) z).toInt ≤ 9)) (min (shL m s) n) 0)) ln N q := R.fr SmX.rf (shM_m _ _)
    refine m_shams (d := 1296) (n := n) (B := shB m) (Ln := shL m) (RI.n2 hd) hn RI.sy (fun e1' => ?_) (fun e2' => ?_) (fun s' h1' h2' h3' => ?_)
    · skip
      omega
    · skip
      obtain ⟨s', h1', h2', h3'⟩ := e2'
      have t_h1' := tI h1' (by omega)
      obtain rfl : s = s' := by omega
      omega
    · skip
      have t_h1' := tI h1' (by omega)
      obtain rfl : s = s' := by omega
      have hb : shB m s = 8 ∨ shB m s = 16 ∨ shB m s = 32 := by
        have := (R.sx s h2).1
        omega
      have hl9 : ∀ z, z < min (shL m s) n → z < 40 ∧ z < 8 := fun z hz => by
        have := (R.sx s h2).2.1
        omega
      have cv : runF (fun z => decide (0 ≤ ((shM m (49 + 2 * s) (runF (fun z => decide (0 ≤ (m (49 + 2 * s) z).toInt ∧ (m (49 + 2 * s) z).toInt ≤ 9)) (min (shL m s) n) 0)) 65 (40 * s + z)).toInt ∧ ((shM m (49 + 2 * s) (runF (fun z => decide (0 ≤ (m (49 + 2 * s) z).toInt ∧ (m (49 + 2 * s) z).toInt ≤ 9)) (min (shL m s) n) 0)) 65 (40 * s + z)).toInt ≤ 9)) (min (shL m s) n) 0 = runF (fun z => decide (0 ≤ (m (49 + 2 * s) z).toInt ∧ (m (49 + 2 * s) z).toInt ≤ 9)) (min (shL m s) n) 0 := by
        refine runF_c _ _ (fun z _ hz => ?_)
        obtain ⟨v, e1, e2⟩ := (RI.sh s h2).2.2.2.2.2.2 z (hl9 z (by omega)).1
        rw [e1, e2]
        exact decide_eq_decide.mpr (low_9 hb v).1.symm
      have hr : (runF (fun z => decide (0 ≤ (m (49 + 2 * s) z).toInt ∧ (m (49 + 2 * s) z).toInt ≤ 9)) (min (shL m s) n) 0) ≤ min (shL m s) n := by
        have := runF_le (fun z => decide (0 ≤ (m (49 + 2 * s) z).toInt ∧ (m (49 + 2 * s) z).toInt ≤ 9)) (min (shL m s) n) 0
        omega
      rw [cv]
      refine pr_m (fun _ => rfl) ((R.sms (49 + 2 * s) (40 * s) (by omega) _ (by omega) (fun z hz => ?_)).nx hq)
      obtain ⟨v, e1, e2⟩ := (R.sh s h2).2.2.2.2.2.2 z (hl9 z (by omega)).1
      have ht := of_decide_eq_true (runF_t _ _ z (Nat.zero_le _) hz)
      rw [e2] at ht
      rw [e1, e2]
      exact ⟨(low_9 hb v).2 ht, leI_of ht.1 ht.2⟩
end
end
section
/-! A TEXT ON BOTH SIDES -/
section
variable {xs : List Int32} {a b m m2 : MW} {ln : Nat → Nat} {N q : Nat}
theorem cpT_h (m : MW) {c j : Nat} (h : ∀ z, z < 50 → j ≠ c + z) : ∀ n, n ≤ 50 → cpT m c n 58 j = m 58 j
  | 0, _ => rfl
  | n + 1, hn => (upm_j _ _ (h n (by omega))).trans (cpT_h m h n (by omega))
theorem txM_p {u f p : Nat} (h1 : p ≠ 5 + u) (h2 : ¬ (134 + 50 * u ≤ p ∧ p < 184 + 50 * u)) : txM m u f 58 p = m 58 p := by
  unfold txM
  rw [upm_j _ _ h1, cpT_h _ (fun z hz => by omega) 50 (Nat.le_refl _)]
  rfl
/-- the tape empty on both sides -/
theorem Rel2.t0 (R : Rel2 m m ln N q) : Rel2 (upm (upm m 37 2 0) 58 3 0) (upm (upm m 37 2 0) 58 3 0) ln N q := by
  have hR : Rel2 (upm m 37 2 0) (upm (upm m 37 2 0) 58 3 0) ln N q := by
    refine R.dk (fun k h => row_up _ _ (by omega)) (fun k h1 h2 h3 => (row_up _ _ h3).trans (row_up _ _ (by omega))) R.dz ⟨⟨0, by decide, rfl⟩, rfl⟩ R.dw (fun j hj => ?_) (fun j hj => ?_) (fun p hp => ?_)
    · exact ⟨(R.dt j hj).1, (upm_j _ _ (by omega)).trans (R.dt j hj).2⟩
    · exact (upm_j _ _ (by omega)).trans (R.dq j hj)
    · exact (upm_j _ _ (by omega)).trans (upm_k _ _ (by decide))
  exact hR.fr (sx58 (fun k h => row_up _ _ h)) SmM.rf
theorem rdr_x (h : ∀ k j, ¬ (k = 44 ∨ k = 43) → m2 k j = m k j) : SmX m m2 := fun k j c => h k j (by unfold cX at c; omega)
theorem rdr_m (h : ∀ k j, ¬ (k = 44 ∨ k = 43) → m2 k j = m k j) : SmM m m2 := fun k j c => h k j (by have := (cM_n c).2.2.2; omega)
theorem newM_k {k : Nat} {w : Nat → Int32} (h1 : k ≠ 70 + 3 * N) (h2 : k ≠ 71 + 3 * N) : newM m N w k = m k := by
  funext j
  unfold newM
  rw [if_neg h1, if_neg h2]
/-- a law more on both sides -/
theorem Rel2.law (R : Rel2 m m ln N q) (hq : q < 512) {u f z : Nat} {w : Nat → Int32} (hu : u ≤ 1) (hf : m 37 2 = nI f) (hf50 : f ≤ 50) (hT : isText (m 38) f u) (hz : z = (TR (m 38) f u).1.length) (hz50 : z ≤ 50) (hw : ∀ j, j < z → w j = (TR (m 38) f u).1.getD j 0) {M A B : MW} (hM : ∀ k, k ≠ 44 → k ≠ 43 → M k = m k) (hA : A = upm (newM (upm M 37 2 0) N w) 1 (11 + u) (nI (N + 1))) (hB : B = upm (txM A u f) 58 3 0) : Rel2 A B (newL ln N z) (N + 1) (q + 1) := by
  have ao : ∀ k, k ≠ 1 → k ≠ 37 → k ≠ 43 → k ≠ 44 → k ≠ 70 + 3 * N → k ≠ 71 + 3 * N → A k = m k := fun k h1 h2 h3 h4 h5 h6 => by
    subst hA
    rw [row_up _ _ h1, newM_k h5 h6, row_up _ _ h2, hM k h4 h3]
  have a1 : ∀ j, j ≠ 11 + u → A 1 j = m 1 j := fun j h => by
    subst hA
    rw [upm_j _ _ h, newM_k (by omega) (by omega), row_up _ _ (by decide), hM 1 (by decide) (by decide)]
  have a1u : A 1 (11 + u) = nI (N + 1) := by
    subst hA
    exact upm_self _ _ _ _
  have a37 : ∀ j, j ≠ 2 → A 37 j = m 37 j := fun j h => by
    subst hA
    rw [row_up _ _ (by decide), newM_k (by omega) (by omega), upm_j _ _ h, hM 37 (by decide) (by decide)]
  have a372 : A 37 2 = 0 := by
    subst hA
    rw [row_up _ _ (by decide), newM_k (by omega) (by omega)]
    exact upm_self _ _ _ _
  have a58 : A 58 = m 58 := ao 58 (by omega) (by omega) (by omega) (by omega) (by omega) (by omega)
  have b58 : ∀ p, p ≠ 3 → p ≠ 5 + u → ¬ (134 + 50 * u ≤ p ∧ p < 184 + 50 * u) → B 58 p = m 58 p := fun p h1 h2 h3 => by
    subst hB
    rw [upm_j _ _ h1, txM_p h2 h3, a58]
  have b3 : B 58 3 = 0 := by
    subst hB
    exact upm_self _ _ _ _
  have b5 : B 58 (5 + u) = nI f := by
    subst hB
    rw [upm_j _ _ (by omega)]
    unfold txM
    exact upm_self _ _ _ _
  have bt5 : ∀ j, j < 50 → txW (B 58) u j = m 38 j := fun j hj => by
    subst hB
    show upm (txM A u f) 58 3 0 58 (134 + 50 * u + j) = m 38 j
    rw [upm_j _ _ (by omega)]
    have h := txM_t (m := A) (f := f) hu hj
    rw [a58] at h
    exact h.trans (R.dt j hj).2
  have bo : ∀ k, k ≠ 58 → k ≠ 61 → B k = A k := fun k h1 h2 => by
    subst hB
    rw [row_up _ _ h1, txM_o h1 h2]
  have cd : ∀ i, i < N → codL A (newL ln N z) i = codL m ln i := fun i hi => by
    have e : newL ln N z i = ln i := if_neg (by omega)
    unfold codL
    rw [e, ao (70 + 3 * i) (by omega) (by omega) (by omega) (by omega) (by omega) (by omega)]
  have cdN : codL A (newL ln N z) N = (TR (m 38) f u).1 := by
    have e : newL ln N z N = z := if_pos rfl
    unfold codL
    rw [e]
    apply List.ext_getElem?
    intro j
    by_cases hj : j < z
    · rw [range_at _ hj]
      have e2 : A (70 + 3 * N) j = w j := by
        subst hA
        rw [row_up _ _ (by omega)]
        unfold newM
        rw [if_pos rfl]
      rw [e2, hw j hj, List.getD_eq_getElem?_getD, List.getElem?_eq_getElem (by omega)]
      rfl
    · rw [List.getElem?_eq_none (by rw [List.length_map, List.length_range]; omega), List.getElem?_eq_none (by omega)]
  have hg := PL_ok (m 38) f u 400 0 0 0 (by omega)
  have tr : TR (txW (B 58) u) f u = TR (m 38) f u := TR_loc (fun j hj => bt5 j (by omega))
  have hnw : nW (B 58) u = f := by
    unfold nW
    rw [b5, nI_clamp (by omega)]
  have txu : TxR (codL A (newL ln N z)) (N + 1) (nI (N + 1)) (B 58) u := by
    refine ⟨Or.inr ⟨f, hf50, b5, fun j hj => ?_, ?_⟩, Or.inr ⟨N, by omega, rfl, ?_, ?_⟩⟩
    · rw [bt5 j hj]
      exact (R.dt j hj).1
    · unfold isText
      rw [tr]
      exact hT
    · rw [b5, nI_toInt (by omega)]
      omega
    · rw [cdN, hnw, tr]
  have txo : ∀ u2, u2 ≤ 1 → u2 ≠ u → ∀ x, TxR (codL m ln) N x (m 58) u2 → TxR (codL A (newL ln N z)) (N + 1) x (B 58) u2 := fun u2 h1 h2 x h => h.mv cd (Nat.le_succ _) (b58 _ (by omega) (by omega) (by omega)) (fun j hj => b58 _ (by omega) (by omega) (by omega))
  obtain ⟨r1, r2, r3, r4, r5, r6, r7, r8⟩ := R
  obtain ⟨t1, t2, t3, t4, t5, t6, t7, t8, t9, t10⟩ := r4
  have hE : Eq7 (vw m 0) (vw A 0) := by
    refine ⟨fun j h1 h8 i hi => ?_, a1 8 (by omega), a1 9 (by omega), a1 10 (by omega)⟩
    show A (j + 1 + 9 * 0) i = m (j + 1 + 9 * 0) i
    rw [ao _ (by omega) (by omega) (by omega) (by omega) (by omega) (by omega)]
  have hV : Eq7 (vr (m 58)) (vr (B 58)) := by
    refine ⟨fun j h1 h8 i hi => ?_, b58 7 (by omega) (by omega) (by omega), b58 0 (by omega) (by omega) (by omega), b58 2 (by omega) (by omega) (by omega)⟩
    by_cases e : j = 1
    · subst e
      exact b58 (8 + i) (by omega) (by omega) (by omega)
    · obtain ⟨c, rfl⟩ : ∃ c, j = 2 + c := ⟨j - 2, by omega⟩
      rw [← vr_c, ← vr_c]
      exact b58 _ (by omega) (by omega) (by omega)
  refine ⟨by omega, by omega, ⟨by omega, fun i hi => ?_⟩, ⟨WF_7 hE t1, ?_, hE.sy.tr (t3.tr hV), ?_, ⟨?_, ?_⟩, ⟨?_, ?_⟩, fun j hj => ⟨?_, ?_⟩, fun j hj => ?_, ?_, ?_⟩, r5.mv (Nat.le_succ _) (Nat.le_succ _) cd ?_ (fun k h => ao k (by omega) (by omega) (by omega) (by omega) (by omega) (by omega)) ?_ ?_ ?_, r6.mv (fun k h1 h2 => ao k (by omega) (by omega) (by omega) (by omega) (by omega) (by omega)) (fun k h1 h2 => (bo k (by omega) (by omega)).trans (ao k (by omega) (by omega) (by omega) (by omega) (by omega) (by omega))), r7.mv (ao 56 (by omega) (by omega) (by omega) (by omega) (by omega) (by omega)) ((bo 62 (by omega) (by omega)).trans (ao 62 (by omega) (by omega) (by omega) (by omega) (by omega) (by omega))), r8.mv (fun k h1 h2 => ao k (by omega) (by omega) (by omega) (by omega) (by omega) (by omega)) ?_ ((bo 68 (by omega) (by omega)).trans (ao 68 (by omega) (by omega) (by omega) (by omega) (by omega) (by omega)))⟩
  · by_cases e : i = N
    · subst e
      rw [cdN]
      refine ⟨?_, (hg.2.2 hT.1).2.1⟩
      have e9 : newL ln i z i = z := if_pos rfl
      rw [e9]
      exact hz50
    · rw [cd i (by omega)]
      have e9 : newL ln N z i = ln i := if_neg e
      rw [e9]
      exact r3.2 i (by omega)
  · show leI (A 1 9) 9999
    rw [a1 9 (by omega)]
    exact t2
  · rw [b58 1 (by omega) (by omega) (by omega), a37 0 (by decide)]
    exact t4
  · rw [a372]
    exact ⟨0, by decide, rfl⟩
  · rw [b3, a372]
  · rw [a37 4 (by decide)]
    exact t6.1
  · rw [b58 4 (by omega) (by omega) (by omega), a37 4 (by decide)]
    exact t6.2
  · rw [ao 38 (by omega) (by omega) (by omega) (by omega) (by omega) (by omega)]
    exact (t7 j hj).1
  · rw [b58 _ (by omega) (by omega) (by omega), ao 38 (by omega) (by omega) (by omega) (by omega) (by omega) (by omega)]
    exact (t7 j hj).2
  · rw [b58 _ (by omega) (by omega) (by omega), ao 39 (by omega) (by omega) (by omega) (by omega) (by omega) (by omega)]
    exact t8 j hj
  · show TxR _ _ (A 1 11) _ _
    by_cases e : u = 0
    · subst e
      rw [show A 1 11 = nI (N + 1) from a1u]
      exact txu
    · rw [a1 11 (by omega)]
      exact txo 0 (by omega) (by omega) _ t9
  · show TxR _ _ (A 1 12) _ _
    by_cases e : u = 1
    · subst e
      rw [show A 1 12 = nI (N + 1) from a1u]
      exact txu
    · rw [a1 12 (by omega)]
      exact txo 1 (by omega) (by omega) _ t10
  · rw [ao 0 (by omega) (by omega) (by omega) (by omega) (by omega) (by omega)]
  · rw [bo 57 (by omega) (by omega), ao 57 (by omega) (by omega) (by omega) (by omega) (by omega) (by omega)]
  · rw [bo 57 (by omega) (by omega), ao 57 (by omega) (by omega) (by omega) (by omega) (by omega) (by omega)]
  · rw [bo 59 (by omega) (by omega), ao 59 (by omega) (by omega) (by omega) (by omega) (by omega) (by omega)]
  · rw [bo 57 (by omega) (by omega), ao 57 (by omega) (by omega) (by omega) (by omega) (by omega) (by omega)]
theorem pr_x3 {y : Nat} {args : List Value} {eq : Prop} {z : Int32} {m1 : MW} {ln1 : Nat → Nat} {N1 : Nat} (g : WP xs 1299 y 0 0 (.ref 89 :: args) (H m1 ln1 N1) (fun r2 h2 => ∃ z2 m2, r2 = some (.int z2) ∧ (eq → z2 = z) ∧ h2 = H m2 ln1 N1 ∧ Rel2 m2 m2 ln1 N1 (q + 1))) : ∃ z' m1' ln2 N2, some (Value.int z) = some (.int z') ∧ H m1 ln1 N1 = H m1' ln2 N2 ∧
    WP xs 1299 y 0 0 (.ref 89 :: args) (H m1' ln2 N2) (fun r2 h2 => ∃ z2 m2, r2 = some (.int z2) ∧ (eq → z2 = z') ∧ h2 = H m2 ln2 N2 ∧ Rel2 m2 m2 ln2 N2 (q + 1)) := ⟨z, m1, ln1, N1, rfl, rfl, g⟩
set_option maxHeartbeats 4000000 in
theorem p_text {v : Int32} (R : Rel2 m m ln N q) (hq : q < 512) : Pair xs 68 140 3 102 [.int v] True m ln N q := by
  obtain ⟨f, hf50, hf⟩ := R.df.1
  have hTp : ∀ A : MW, SmM m A → ∀ j, j < 50 → leI (A 58 (64 + j)) 255 := fun A hm j hj => by
    rw [hm.row (Or.inl rfl), (R.dt j hj).2]
    exact (R.dt j hj).1
  have hfp : ∀ A : MW, SmM m A → A 58 3 = nI f := fun A hm => by
    rw [hm.row (Or.inl rfl)]
    exact R.df.2.trans hf
  have hcv : ∀ (A : MW) (u : Nat), SmM m A → u ≤ 1 → TR (BT (txM A u f) u) f u = TR (m 38) f u := fun A u hm hu => TR_loc (fun j hj => by
    rw [txM_t hu (by omega), hm.row (Or.inl rfl)]
    exact (R.dt j (by omega)).2)
  refine x_text (d := 397) hf hf50 (fun j hj => (R.dt j hj).1) R.L.1 (fun e1 => pr_x3 ?_) (fun u h1 h2 h3 m2 hF => pr_x3 ?_) (fun u h1 h2 h3 m2 hF w z h4 h5 h6 => pr_x3 ?_)
  · refine m_text (d := 488) (hfp _ smx_er) hf50 (hTp _ smx_er) (fun _ => pr_m (fun _ => rfl) (R.ee hq 1)) (fun u' h1' h2' h3' m3 hG => ?_) (fun u' h1' h2' h3' m3 hG => ?_)
    · have t1 := tI h1' (by omega)
      omega
    · have t1 := tI h1' (by omega)
      omega
  · have t1 := tI h1 (by omega)
    have hmA : SmM m (upm m2 37 2 0) := (rdr_m hF).tr (sm_up (by decide))
    refine m_text (d := 488) (hfp _ hmA) hf50 (hTp _ hmA) (fun e1 => ?_) (fun u' h1' h2' h3' m3 hG => ?_) (fun u' h1' h2' h3' m3 hG => ?_)
    · omega
    · have t1' := tI h1' (by omega)
      obtain rfl : u = u' := by omega
      rw [hcv _ u hmA h2]
      refine pr_m (fun _ => rfl) ((R.t0.fr (a2 := upm m3 58 3 0) (b2 := upm m3 58 3 0) (SmX.up (SmX.tr ((rdr_x hF).up 37 2 0) (fun k j c => hG k j ?_ (cX_n c).2)) 58 3 0) (SmM.up (SmM.tr ((rdr_m hF).up 37 2 0) (fun k j c => hG k j ?_ (cM_n c).2.1)) 58 3 0)).nx hq)
      · exact fun e => cXM c (by omega)
      · unfold cM at c
        omega
    · have t1' := tI h1' (by omega)
      obtain rfl : u = u' := by omega
      rw [hcv _ u hmA h2] at h3'
      exact absurd h3' h3
  · have t1 := tI h1 (by omega)
    have hmA : SmM m (upm (newM (upm m2 37 2 0) N w) 1 (11 + u) (nI (N + 1))) := fun k j c => by
      have := (cM_n c).2.2.2
      rw [upm_k _ _ (by omega), newM_k (by omega) (by omega), upm_k _ _ (by omega)]
      exact hF k j (by omega)
    refine m_text (d := 488) (hfp _ hmA) hf50 (hTp _ hmA) (fun e1 => ?_) (fun u' h1' h2' h3' m3 hG => ?_) (fun u' h1' h2' h3' m3 hG => ?_)
    · omega
    · have t1' := tI h1' (by omega)
      obtain rfl : u = u' := by omega
      rw [hcv _ u hmA h2] at h3'
      exact absurd h3 h3'
    · have t1' := tI h1' (by omega)
      obtain rfl : u = u' := by omega
      refine pr_m (fun _ => rfl) ((R.law hq h2 hf hf50 h3 h4 h5 h6 (fun k k1 k2 => funext fun j => hF k j (by omega)) rfl rfl).fr (fun k j c => ?_) (SmM.up (EqM.sm hG) 58 3 0))
      have h58 : k ≠ 58 := fun e => cXM c (by omega)
      rw [upm_k _ _ h58, hG k j (cX_n c).2, txM_o h58 (fun e => cXM c (by omega))]
end
end
