/-! WHAT A CALL CHANGES, and what of the relation stays -/
section
variable {B B2 : Nat → Int32} {n u : Nat}
theorem bt_loc (h : ∀ j, j < n → B2 j = B j) (p : Nat) : bt B2 n p = bt B n p := by
  unfold bt
  by_cases hp : p < n
  · rw [if_pos hp, if_pos hp, h p hp]
  · rw [if_neg hp, if_neg hp]
theorem numP_loc (h : ∀ p, bt B2 n p = bt B n p) : ∀ k v p, numP B2 n k v p = numP B n k v p
  | 0, _, _ => rfl
  | k + 1, v, p => by
    show (if isDig (bt B2 n p) = true then numP B2 n k (10 * v + ((bt B2 n p).toNat - 48)) (p + 1) else (v, p)) = if isDig (bt B n p) = true then numP B n k (10 * v + ((bt B n p).toNat - 48)) (p + 1) else (v, p)
    rw [h p, numP_loc h k]
theorem PLoop_loc {rec rec2 : Nat → PR3} (h : ∀ p, bt B2 n p = bt B n p) (hr : ∀ p, rec2 p = rec p) (lv : Nat) : ∀ k r, PLoop rec2 B2 n lv k r = PLoop rec B n lv k r
  | 0, _ => rfl
  | k + 1, r => by
    by_cases c : r.2.2 = true ∧ signP lv (bt B n r.2.1) = true
    · rw [PLoop_y c, PLoop_y (by rw [h]; exact c), hr, h, PLoop_loc h hr lv k]
    · rw [PLoop_n c, PLoop_n (by rw [h]; exact c)]
theorem PL_loc (h : ∀ p, bt B2 n p = bt B n p) : ∀ f lv op p, PL B2 n u f lv op p = PL B n u f lv op p
  | 0, _, _, _ => rfl
  | f + 1, lv, op, p => by
    by_cases hl : lv < 5
    · rw [PL_l _ _ _ _ _ _ hl, PL_l _ _ _ _ _ _ hl, PL_loc h f]
      exact PLoop_loc h (fun p => PL_loc h f (lv + 1) op p) lv _ _
    · show (if lv < 5 then _ else PQ (PL B2 n u f 5 (op + 1)) (PL B2 n u f 0 (op + 1)) B2 n u op p) = if lv < 5 then _ else PQ (PL B n u f 5 (op + 1)) (PL B n u f 0 (op + 1)) B n u op p
      rw [if_neg hl, if_neg hl]
      have e5 : PL B2 n u f 5 (op + 1) = PL B n u f 5 (op + 1) := funext fun p => PL_loc h f 5 (op + 1) p
      have e0 : PL B2 n u f 0 (op + 1) = PL B n u f 0 (op + 1) := funext fun p => PL_loc h f 0 (op + 1) p
      unfold PQ
      rw [e5, e0, h p, numP_loc h, h]
theorem TR_loc (h : ∀ j, j < n → B2 j = B j) : TR B2 n u = TR B n u := PL_loc (bt_loc h) 400 0 0 0
end
theorem TxR.mv {cd cd2 : Nat → List Int32} {N N2 : Nat} {x : Int32} {w w2 : Nat → Int32} {u : Nat} (h : TxR cd N x w u) (hc : ∀ i, i < N → cd2 i = cd i) (hN : N ≤ N2) (h5 : w2 (5 + u) = w (5 + u)) (ht : ∀ j, j < 50 → w2 (134 + 50 * u + j) = w (134 + 50 * u + j)) : TxR cd2 N2 x w2 u := by
  obtain ⟨h1, h2⟩ := h
  have hn : nW w2 u = nW w u := by
    unfold nW
    rw [h5]
  refine ⟨?_, ?_⟩
  · rcases h1 with h1 | ⟨n, n1, n2, n3, n4⟩
    · refine Or.inl ?_
      rw [h5]
      exact h1
    · refine Or.inr ⟨n, n1, h5.trans n2, fun j hj => ?_, ?_⟩
      · show leI (w2 (134 + 50 * u + j)) 255
        rw [ht j hj]
        exact n3 j hj
      · unfold isText
        rw [TR_loc (B2 := txW w2 u) (B := txW w u) (fun j hj => ht j (by omega))]
        exact n4
  · rcases h2 with ⟨h0, hs⟩ | ⟨i, hi, hx, hs, he⟩
    · exact Or.inl ⟨h0, by rw [h5]; exact hs⟩
    · refine Or.inr ⟨i, by omega, hx, by rw [h5]; exact hs, ?_⟩
      rw [hc i hi, he, hn]
      have hle : nW w u ≤ 50 := by
        rcases h1 with h1 | ⟨n, n1, n2, n3, n4⟩
        · exact absurd h1 hs
        · unfold nW
          rw [n2, nI_clamp (by omega)]
          exact n1
      rw [TR_loc (B2 := txW w2 u) (B := txW w u) (fun j hj => ht j (by omega))]
/-- a table and its desk over other laws -/
theorem TbR.mv {cd cd2 : Nat → List Int32} {N N2 : Nat} {X Y : MW} {dk tp wt row : Nat → Int32} (t : TbR cd N X dk tp wt row) (hc : ∀ i, i < N → cd2 i = cd i) (hN : N ≤ N2) (h : ∀ j, j < 8 → Y j = X j) : TbR cd2 N2 Y dk tp wt row := by
  obtain ⟨t1, t2, t3, t4, t5, t6, t7, t8, t9, t10⟩ := TbR_9 h t
  exact ⟨t1, t2, t3, t4, t5, t6, t7, t8, t9.mv hc hN rfl (fun _ _ => rfl), t10.mv hc hN rfl (fun _ _ => rfl)⟩
/-- a table changed -/
theorem TbR.tab {cd : Nat → List Int32} {N : Nat} {X Y : MW} {dk tp wt row row2 : Nat → Int32} (t : TbR cd N X dk tp wt row) (hW : WF Y) (hS : leI (Y 0 9) 9999) (h11 : Y 0 11 = X 0 11) (h12 : Y 0 12 = X 0 12) (hE : Eq7 Y (vr row2)) (hr : ∀ p, (p = 1 ∨ (3 ≤ p ∧ p ≤ 6) ∨ 64 ≤ p) → row2 p = row p) : TbR cd N Y dk tp wt row2 := by
  obtain ⟨t1, t2, t3, t4, t5, t6, t7, t8, t9, t10⟩ := t
  refine ⟨hW, hS, hE, (hr 1 (by omega)).trans t4, ⟨t5.1, (hr 3 (by omega)).trans t5.2⟩, ⟨t6.1, (hr 4 (by omega)).trans t6.2⟩, fun j hj => ⟨(t7 j hj).1, (hr _ (by omega)).trans (t7 j hj).2⟩, fun j hj => (hr _ (by omega)).trans (t8 j hj), ?_, ?_⟩
  · rw [h11]
    exact t9.mv (fun _ _ => rfl) (Nat.le_refl _) (hr _ (by omega)) (fun j _ => hr _ (by omega))
  · rw [h12]
    exact t10.mv (fun _ _ => rfl) (Nat.le_refl _) (hr _ (by omega)) (fun j _ => hr _ (by omega))
/-- a desk changed -/
theorem TbR.dsk {cd : Nat → List Int32} {N : Nat} {X : MW} {dk tp wt row dk2 tp2 wt2 row2 : Nat → Int32} (t : TbR cd N X dk tp wt row) (h1 : row2 1 = dk2 0) (h2 : leI (dk2 2) 50 ∧ row2 3 = dk2 2) (h3 : leI (dk2 4) 20 ∧ row2 4 = dk2 4) (h4 : ∀ j, j < 50 → leI (tp2 j) 255 ∧ row2 (64 + j) = tp2 j) (h5 : ∀ j, j < 20 → row2 (114 + j) = wt2 j) (hr : ∀ p, (p = 0 ∨ p = 2 ∨ (5 ≤ p ∧ p < 64) ∨ 134 ≤ p) → row2 p = row p) : TbR cd N X dk2 tp2 wt2 row2 := by
  obtain ⟨t1, t2, t3, t4, t5, t6, t7, t8, t9, t10⟩ := t
  refine ⟨t1, t2, ?_, h1, h2, h3, h4, h5, t9.mv (fun _ _ => rfl) (Nat.le_refl _) (hr _ (by omega)) (fun j _ => hr _ (by omega)), t10.mv (fun _ _ => rfl) (Nat.le_refl _) (hr _ (by omega)) (fun j _ => hr _ (by omega))⟩
  refine t3.tr ⟨fun j j1 j8 i hi => ?_, hr 7 (by omega), hr 0 (by omega), hr 2 (by omega)⟩
  by_cases e : j = 1
  · subst e
    exact hr (8 + i) (by omega)
  · obtain ⟨c, rfl⟩ : ∃ c, j = 2 + c := ⟨j - 2, by omega⟩
    rw [← vr_c, ← vr_c]
    exact hr _ (by omega)
section
variable {a b a2 b2 : MW} {ln ln2 : Nat → Nat} {N N2 q q2 : Nat}
theorem ImR2.mv (h : ImR2 a b ln N q) (hq : q ≤ q2) (hN : N ≤ N2) (hc : ∀ i, i < N → codL a2 ln2 i = codL a ln i) (e0 : a2 0 6 = a 0 6) (ex : ∀ k, ((28 ≤ k ∧ k < 36) ∨ (40 ≤ k ∧ k < 43)) → a2 k = a k) (e4 : b2 57 4 = b 57 4) (e5 : b2 57 5 = b 57 5) (e9 : b2 59 = b 59) : ImR2 a2 b2 ln2 N2 q2 := by
  obtain ⟨im, i1, i2, i3, i4, i5⟩ := h
  refine ⟨im, by omega, e0.trans i2, e5.trans i3, e4.trans i4, fun z => ?_⟩
  rw [ex 40 (by omega), ex 41 (by omega), ex 42 (by omega), e9]
  exact (i5 z).mv hc hN (fun j hj => ex _ (by omega))
theorem ShR2.mv (h : ShR2 a b) (ex : ∀ k, 48 ≤ k → k < 56 → a2 k = a k) (em : ∀ k, 63 ≤ k → k < 66 → b2 k = b k) : ShR2 a2 b2 := fun s hs => by
  rw [ex (48 + 2 * s) (by omega) (by omega), ex (49 + 2 * s) (by omega) (by omega), em 63 (by omega) (by omega), em 64 (by omega) (by omega), em 65 (by omega) (by omega)]
  exact h s hs
theorem ErR2.mv (h : ErR2 a b) (ex : a2 56 = a 56) (em : b2 62 = b 62) : ErR2 a2 b2 := fun e h1 h2 => by
  rw [ex, em]
  exact h e h1 h2
theorem VoR2.mv (h : VoR2 a b) (ex : ∀ k, 45 ≤ k → k < 47 → a2 k = a k) (em : b2 57 21 = b 57 21) (em2 : b2 68 = b 68) : VoR2 a2 b2 := by
  obtain ⟨c, v1, v2, v3, v4⟩ := h
  refine ⟨c, v1, ?_, em.trans v3, ?_⟩
  · rw [ex 45 (by omega) (by omega)]
    exact v2
  · rw [ex 46 (by omega) (by omega), em2]
    exact v4
/-- table or desk changed, all else not -/
theorem Rel2.td (R : Rel2 a b ln N q) (hx : ∀ k, ((28 ≤ k ∧ k < 36) ∨ (40 ≤ k ∧ k < 43) ∨ (45 ≤ k ∧ k < 57) ∨ 69 ≤ k) → a2 k = a k) (h0 : a2 0 6 = a 0 6) (hm : ∀ k, 57 ≤ k → k < 69 → k ≠ 58 → b2 k = b k) (hT : TbR (codL a2 ln) N (vw a2 0) (a2 37) (a2 38) (a2 39) (b2 58)) : Rel2 a2 b2 ln N q := by
  obtain ⟨r1, r2, r3, r4, r5, r6, r7, r8⟩ := R
  have hc : codL a2 ln = codL a ln := by
    funext i
    unfold codL
    rw [hx (70 + 3 * i) (by omega)]
  refine ⟨r1, r2, ⟨r3.1, fun i hi => ?_⟩, hT, r5.mv (Nat.le_refl _) (Nat.le_refl _) (fun i _ => by rw [hc]) h0 (fun k h => hx k (by omega)) ?_ ?_ ?_, r6.mv (fun k h1 h2 => hx k (by omega)) (fun k h1 h2 => hm k (by omega) (by omega) (by omega)), r7.mv (hx 56 (by omega)) (hm 62 (by decide) (by decide) (by decide)), r8.mv (fun k h1 h2 => hx k (by omega)) ?_ ?_⟩
  · rw [hc]
    exact r3.2 i hi
  · rw [hm 57 (by decide) (by decide) (by decide)]
  · rw [hm 57 (by decide) (by decide) (by decide)]
  · rw [hm 59 (by decide) (by decide) (by decide)]
  · rw [hm 57 (by decide) (by decide) (by decide)]
  · rw [hm 68 (by decide) (by decide) (by decide)]
theorem cod_td (hx : ∀ k, 69 ≤ k → a2 k = a k) : codL a2 ln = codL a ln := by
  funext i
  unfold codL
  rw [hx (70 + 3 * i) (by omega)]
/-- the table alone changed -/
theorem Rel2.tb (R : Rel2 a b ln N q) (hx : ∀ k, ¬ (1 ≤ k ∧ k < 10) → a2 k = a k) (hm : ∀ k, 57 ≤ k → k < 69 → k ≠ 58 → b2 k = b k) (hW : WF (vw a2 0)) (hS : leI (a2 1 9) 9999) (h11 : a2 1 11 = a 1 11) (h12 : a2 1 12 = a 1 12) (hE : Eq7 (vw a2 0) (vr (b2 58))) (hr : ∀ p, (p = 1 ∨ (3 ≤ p ∧ p ≤ 6) ∨ 64 ≤ p) → b2 58 p = b 58 p) : Rel2 a2 b2 ln N q := by
  refine R.td (fun k h => hx k (by omega)) (by rw [hx 0 (by omega)]) hm ?_
  rw [cod_td (a := a) (fun k h => hx k (by omega)), hx 37 (by omega), hx 38 (by omega), hx 39 (by omega)]
  exact R.T.tab hW hS h11 h12 hE hr
/-- the desk alone changed -/
theorem Rel2.dk (R : Rel2 a b ln N q) (hx : ∀ k, ¬ (37 ≤ k ∧ k < 40) → a2 k = a k) (hm : ∀ k, 57 ≤ k → k < 69 → k ≠ 58 → b2 k = b k) (h1 : b2 58 1 = a2 37 0) (h2 : leI (a2 37 2) 50 ∧ b2 58 3 = a2 37 2) (h3 : leI (a2 37 4) 20 ∧ b2 58 4 = a2 37 4) (h4 : ∀ j, j < 50 → leI (a2 38 j) 255 ∧ b2 58 (64 + j) = a2 38 j) (h5 : ∀ j, j < 20 → b2 58 (114 + j) = a2 39 j) (hr : ∀ p, (p = 0 ∨ p = 2 ∨ (5 ≤ p ∧ p < 64) ∨ 134 ≤ p) → b2 58 p = b 58 p) : Rel2 a2 b2 ln N q := by
  refine R.td (fun k h => hx k (by omega)) (by rw [hx 0 (by omega)]) hm ?_
  rw [cod_td (a := a) (fun k h => hx k (by omega))]
  have e : vw a2 0 = vw a 0 ∨ True := Or.inr trivial
  refine (TbR_9 (Y := vw a2 0) (fun j hj => hx _ (by omega)) R.T).dsk h1 h2 h3 h4 h5 hr
end
/-! a word changed in a table, in a row -/
theorem vw_up (m : MW) (j i : Nat) (x : Int32) : vw (upm m (j + 1) i x) 0 = upm (vw m 0) j i x := by
  funext k2 i2
  unfold vw upm
  by_cases h : k2 = j ∧ i2 = i
  · rw [if_pos h, if_pos (by omega)]
  · rw [if_neg h, if_neg (by omega)]
theorem vr_up (b : MW) {i c : Nat} (x : Int32) (hi : i < 8) (hc : c < 6) : Eq7 (upm (vr (b 58)) (2 + c) i x) (vr (upm b 58 (16 + 6 * i + c) x 58)) := by
  refine ⟨fun j h1 h8 k hk => ?_, ?_, ?_, ?_⟩
  · by_cases e : j = 1
    · subst e
      rw [upm_k _ _ (by omega)]
      exact upm_j _ _ (show 8 + k ≠ 16 + 6 * i + c by omega)
    · obtain ⟨c2, rfl⟩ : ∃ c, j = 2 + c := ⟨j - 2, by omega⟩
      rw [← vr_c]
      unfold upm
      by_cases h : 2 + c2 = 2 + c ∧ k = i
      · rw [if_pos h, if_pos ⟨rfl, by omega⟩]
      · rw [if_neg h, if_neg (by omega), ← vr_c]
  · rw [upm_k _ _ (by omega)]
    exact upm_j _ _ (show 7 ≠ 16 + 6 * i + c by omega)
  · rw [upm_k _ _ (by omega)]
    exact upm_j _ _ (show 0 ≠ 16 + 6 * i + c by omega)
  · rw [upm_k _ _ (by omega)]
    exact upm_j _ _ (show 2 ≠ 16 + 6 * i + c by omega)
theorem vr_fl (b : MW) {i : Nat} (x : Int32) (hi : i < 8) : Eq7 (upm (vr (b 58)) 1 i x) (vr (upm b 58 (8 + i) x 58)) := by
  refine ⟨fun j h1 h8 k hk => ?_, ?_, ?_, ?_⟩
  · by_cases e : j = 1
    · subst e
      show upm b 58 (8 + i) x 58 (8 + k) = upm (vr (b 58)) 1 i x 1 k
      unfold upm
      by_cases h : k = i
      · subst h
        rw [if_pos ⟨rfl, rfl⟩, if_pos ⟨rfl, rfl⟩]
      · rw [if_neg (by omega), if_neg (by omega)]
        rfl
    · obtain ⟨c2, rfl⟩ : ∃ c, j = 2 + c := ⟨j - 2, by omega⟩
      rw [← vr_c, upm_k (vr (b 58)) _ (show 2 + c2 ≠ 1 by omega), ← vr_c]
      exact upm_j _ _ (by omega)
  · rw [upm_k _ _ (by omega)]
    exact upm_j _ _ (show 7 ≠ 8 + i by omega)
  · rw [upm_k _ _ (by omega)]
    exact upm_j _ _ (show 0 ≠ 8 + i by omega)
  · rw [upm_k _ _ (by omega)]
    exact upm_j _ _ (show 2 ≠ 8 + i by omega)
theorem vr_n (b : MW) (x : Int32) : Eq7 (upm (vr (b 58)) 0 10 x) (vr (upm b 58 2 x 58)) := by
  refine ⟨fun j h1 h8 k hk => ?_, rfl, rfl, rfl⟩
  rw [upm_k _ _ (by omega)]
  by_cases e : j = 1
  · subst e
    exact upm_j _ _ (show 8 + k ≠ 2 by omega)
  · obtain ⟨c2, rfl⟩ : ∃ c, j = 2 + c := ⟨j - 2, by omega⟩
    rw [← vr_c, ← vr_c]
    exact upm_j _ _ (by omega)
theorem vr_w (b : MW) (x : Int32) : Eq7 (upm (vr (b 58)) 0 8 x) (vr (upm b 58 7 x 58)) := by
  refine ⟨fun j h1 h8 k hk => ?_, rfl, rfl, rfl⟩
  rw [upm_k _ _ (by omega)]
  by_cases e : j = 1
  · subst e
    exact upm_j _ _ (show 8 + k ≠ 7 by omega)
  · obtain ⟨c2, rfl⟩ : ∃ c, j = 2 + c := ⟨j - 2, by omega⟩
    rw [← vr_c, ← vr_c]
    exact upm_j _ _ (by omega)
theorem WF_u {X : MW} {j i : Nat} {x : Int32} (w : WF X) (hj : 1 ≤ j) (h1 : j = 1 → leI x 30) (h2 : j = 2 → leI x 6) (h3 : j = 3 → leI x 9) (h4 : j = 4 → leI x 99) (h5 : j = 5 → leI x 9) (h6 : j = 6 → leI x 99) (h7 : j = 7 → x = 0 ∨ x = 1) : WF (upm X j i x) := by
  refine ⟨?_, ?_, fun k hk => ?_⟩
  · rw [upm_k _ _ (by omega)]
    exact w.1
  · rw [upm_k _ _ (by omega)]
    exact w.2.1
  · obtain ⟨w1, w2, w3, w4, w5, w6, w7⟩ := w.2.2 k hk
    have g : ∀ (P : Int32 → Prop) (c : Nat), P (X c k) → (j = c → P x) → P (upm X j i x c k) := fun P c p1 p2 => by
      unfold upm
      by_cases e : c = j ∧ k = i
      · rw [if_pos e]
        exact p2 e.1.symm
      · rw [if_neg e]
        exact p1
    exact ⟨g (fun x => leI x 30) 1 w1 h1, g (fun x => leI x 6) 2 w2 h2, g (fun x => leI x 9) 3 w3 h3, g (fun x => leI x 99) 4 w4 h4, g (fun x => leI x 9) 5 w5 h5, g (fun x => leI x 99) 6 w6 h6, g (fun x => x = 0 ∨ x = 1) 7 w7 h7⟩
theorem upm_cm (m : MW) {k j k2 j2 : Nat} (x x2 : Int32) (h : k ≠ k2 ∨ j ≠ j2) : upm (upm m k j x) k2 j2 x2 = upm (upm m k2 j2 x2) k j x := by
  funext a b
  unfold upm
  by_cases h1 : a = k ∧ b = j
  · by_cases h2 : a = k2 ∧ b = j2
    · omega
    · rw [if_neg h2, if_pos h1, if_pos h1]
  · by_cases h2 : a = k2 ∧ b = j2
    · rw [if_pos h2, if_neg h1, if_pos h2]
    · rw [if_neg h2, if_neg h1, if_neg h1, if_neg h2]
