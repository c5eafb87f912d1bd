/-! THE MEMORY: the words m k j of cell k (place 32 + k); the laws (three cells each) behind; a lemma an instruction -/
abbrev MW : Type := Nat → Nat → Int32
abbrev TM : Type := (Nat × Nat) ⊕ (Nat × List Nat)
def tmL : List TM := [.inr (6, [33, 42, 51, 60, 69, 72, 0, 75, 77, 79, 88]),
  .inr (4, [34, 35, 36, 37, 38, 39, 40, 41, 0, 0, 0, 1, 1]),
  .inl (0, 8),
  .inl (0, 8),
  .inl (0, 8),
  .inl (0, 8),
  .inl (0, 8),
  .inl (0, 8),
  .inl (1, 8),
  .inl (0, 8),
  .inr (4, [43, 44, 45, 46, 47, 48, 49, 50, 0, 0, 0, 1, 1]),
  .inl (0, 8),
  .inl (0, 8),
  .inl (0, 8),
  .inl (0, 8),
  .inl (0, 8),
  .inl (0, 8),
  .inl (1, 8),
  .inl (0, 8),
  .inr (4, [52, 53, 54, 55, 56, 57, 58, 59, 0, 0, 0, 1, 1]),
  .inl (0, 8),
  .inl (0, 8),
  .inl (0, 8),
  .inl (0, 8),
  .inl (0, 8),
  .inl (0, 8),
  .inl (1, 8),
  .inl (0, 8),
  .inr (4, [61, 62, 63, 64, 65, 66, 67, 68, 0, 0, 0, 1, 1]),
  .inl (0, 8),
  .inl (0, 8),
  .inl (0, 8),
  .inl (0, 8),
  .inl (0, 8),
  .inl (0, 8),
  .inl (1, 8),
  .inl (0, 8),
  .inr (0, [0, 70, 0, 71, 0]),
  .inl (0, 50),
  .inl (0, 20),
  .inr (0, [0, 73, 0, 74, 0]),
  .inl (0, 50),
  .inl (0, 20),
  .inr (2, [76, 0, 70, 0, 2, 0, 0]),
  .inl (0, 50),
  .inr (5, [0, 0, 0, 78, 0]),
  .inl (0, 40),
  .inr (50, [80, 82, 84, 86]),
  .inr (3, [0, 0, 81]),
  .inl (0, 40),
  .inr (3, [0, 0, 83]),
  .inl (0, 40),
  .inr (3, [0, 0, 85]),
  .inl (0, 40),
  .inr (3, [0, 0, 87]),
  .inl (0, 40),
  .inl (0, 6),
  .inr (7, [90, 91, 92, 93, 0, 0, 94, 0, 0, 0, 0, 0, 0, 0, 0, 95, 96, 97, 98, 99, 100, 0, 0, 0, 0]),
  .inl (0, 234),
  .inl (0, 234),
  .inl (0, 234),
  .inl (0, 234),
  .inl (0, 6),
  .inl (0, 4),
  .inl (0, 4),
  .inl (0, 160),
  .inl (0, 40),
  .inl (0, 8),
  .inl (0, 40)]
def tmF (ln : Nat → Nat) (k : Nat) : TM := if k < 69 then tmL.getD k (.inl (0, 0)) else if (k - 69) % 3 = 0 then .inr (1, [k + 33, k + 34]) else .inl (0, ln ((k - 69) / 3))
def lawV (x : Int32) : Value := if x = 0 then .null else .ref (98 + 3 * x.toNatClampNeg)
def fV (c : Nat) (x : Int32) : Value := match c with
  | 0 => .int x
  | 1 => lawV x
  | 2 => if x = 0 then .ref 3 else .ref 4
  | n + 3 => .ref (n + 3)
def celT (t : TM) (w : Nat → Int32) : AC := match t with
  | .inl (kd, n) => .inl (kd, (List.range n).map w)
  | .inr (ci, fs) => .inr (ci, (List.range fs.length).map (fun j => fV (fs.getD j 0) (w j)))
def H (m : MW) (ln : Nat → Nat) (N : Nat) : AH := (List.range (69 + 3 * N)).map (fun k => celT (tmF ln k) (m k))
def upmR (m : MW) (k : Nat) (w : Nat → Int32) : MW := fun k2 => if k2 = k then w else m k2
def upm (m : MW) (k j : Nat) (x : Int32) : MW := fun k2 j2 => if k2 = k ∧ j2 = j then x else m k2 j2
def TmAt (ln : Nat → Nat) (N k : Nat) (t : TM) : Prop := k < 69 + 3 * N ∧ tmF ln k = t
theorem upm_R (m : MW) (k j : Nat) (x : Int32) : upmR m k (fun i => if i = j then x else m k i) = upm m k j x := by
  funext k2 j2
  unfold upmR upm
  by_cases h : k2 = k
  · subst h
    simp
  · simp [h]
theorem upm_self (m : MW) (k j : Nat) (x : Int32) : upm m k j x k j = x := by simp [upm]
theorem upm_k (m : MW) {k j k2 j2 : Nat} (x : Int32) (h : k2 ≠ k) : upm m k j x k2 j2 = m k2 j2 := by simp [upm, h]
theorem upm_j (m : MW) {k j k2 j2 : Nat} (x : Int32) (h : j2 ≠ j) : upm m k j x k2 j2 = m k2 j2 := by simp [upm, h]
theorem H_len (m : MW) (ln : Nat → Nat) (N : Nat) : (H m ln N).length = 69 + 3 * N := by simp [H]
theorem H_get {m : MW} {ln : Nat → Nat} {N k : Nat} (hk : k < 69 + 3 * N) : (H m ln N)[k]? = some (celT (tmF ln k) (m k)) := by
  unfold H
  rw [List.getElem?_map, List.getElem?_range hk]
  rfl
theorem smC_H {xs : List Int32} {m : MW} {ln : Nat → Nat} {N k p : Nat} (hp : 32 + k = p) (hk : k < 69 + 3 * N) : smC xs (H m ln N) p = some (celT (tmF ln k) (m k)) := by
  subst hp
  unfold smC
  rw [if_neg (by omega), Nat.add_sub_cancel_left, H_get hk]
theorem H_set {m : MW} {ln : Nat → Nat} {N k : Nat} (hk : k < 69 + 3 * N) (w : Nat → Int32) : (H m ln N).set k (celT (tmF ln k) w) = H (upmR m k w) ln N := by
  apply List.ext_getElem?
  intro i
  rw [List.getElem?_set]
  by_cases hi : k = i
  · subst hi
    rw [if_pos rfl, H_len, if_pos hk, H_get hk]
    simp [upmR]
  · rw [if_neg hi]
    by_cases h2 : i < 69 + 3 * N
    · rw [H_get h2, H_get h2]
      have h3 : ¬ i = k := fun q => hi q.symm
      simp [upmR, h3]
    · rw [List.getElem?_eq_none (by rw [H_len]; omega), List.getElem?_eq_none (by rw [H_len]; omega)]
theorem range_set {α : Type} (n j : Nat) (w : Nat → α) (x : α) : ((List.range n).map w).set j x = (List.range n).map (fun i => if i = j then x else w i) := by
  apply List.ext_getElem?
  intro i
  rw [List.getElem?_set, List.getElem?_map, List.getElem?_map, List.length_map, List.length_range]
  by_cases h2 : i < n
  · rw [List.getElem?_range h2]
    by_cases hi : j = i
    · subst hi
      simp [h2]
    · have h3 : ¬ i = j := fun q => hi q.symm
      simp [hi, h3]
  · rw [List.getElem?_eq_none (l := List.range n) (by rw [List.length_range]; omega)]
    by_cases hi : j = i
    · subst hi
      simp [h2]
    · simp [hi]
theorem range_at {α : Type} {n j : Nat} (w : Nat → α) (h : j < n) : ((List.range n).map w)[j]? = some (w j) := by
  rw [List.getElem?_map, List.getElem?_range h]
  rfl
theorem range_getD {n j : Nat} (w : Nat → Int32) (h : j < n) : ((List.range n).map w).getD j 0 = w j := by
  rw [List.getD_eq_getElem?_getD, range_at w h]
  rfl
theorem fl_at {fs : List Nat} {b c : Nat} (hb : fs[b]? = some c) (w : Nat → Int32) : ((List.range fs.length).map (fun j => fV (fs.getD j 0) (w j)))[b]? = some (fV c (w b)) := by
  have h := (List.getElem?_eq_some_iff.mp hb).1
  rw [range_at _ h, List.getD_eq_getElem?_getD, hb]
  rfl
theorem fl_set {fs : List Nat} {b c : Nat} (hb : fs[b]? = some c) (w : Nat → Int32) (x : Int32) : ((List.range fs.length).map (fun j => fV (fs.getD j 0) (w j))).set b (fV c x) = (List.range fs.length).map (fun j => fV (fs.getD j 0) (if j = b then x else w j)) := by
  rw [range_set]
  apply List.map_congr_left
  intro j hj
  by_cases h : j = b
  · subst h
    rw [if_pos rfl, if_pos rfl, List.getD_eq_getElem?_getD, hb]
    rfl
  · rw [if_neg h, if_neg h]
theorem tF {ln : Nat → Nat} {N k : Nat} {t : TM} (ht : tmL[k]? = some t) : TmAt ln N k t := by
  have h : k < tmL.length := (List.getElem?_eq_some_iff.mp ht).1
  have h2 : k < 69 := h
  refine ⟨by omega, ?_⟩
  unfold tmF
  rw [if_pos h2, List.getD_eq_getElem?_getD, ht]
  rfl
theorem tLo {ln : Nat → Nat} {N i : Nat} (hi : i < N) : TmAt ln N (69 + 3 * i) (.inr (1, [102 + 3 * i, 103 + 3 * i])) := by
  refine ⟨by omega, ?_⟩
  unfold tmF
  rw [if_neg (by omega), if_pos (by omega), show 69 + 3 * i + 33 = 102 + 3 * i by omega, show 69 + 3 * i + 34 = 103 + 3 * i by omega]
theorem tLc {ln : Nat → Nat} {N i : Nat} (hi : i < N) : TmAt ln N (70 + 3 * i) (.inl (0, ln i)) := by
  refine ⟨by omega, ?_⟩
  unfold tmF
  rw [if_neg (by omega), if_neg (by omega), show (70 + 3 * i - 69) / 3 = i by omega]
theorem tLw {ln : Nat → Nat} {N i : Nat} (hi : i < N) : TmAt ln N (71 + 3 * i) (.inl (0, ln i)) := by
  refine ⟨by omega, ?_⟩
  unfold tmF
  rw [if_neg (by omega), if_neg (by omega), show (71 + 3 * i - 69) / 3 = i by omega]
theorem tmA {ln : Nat → Nat} {N k kd n : Nat} {w : Nat → Int32} (h : TmAt ln N k (.inl (kd, n))) : celT (tmF ln k) w = .inl (kd, (List.range n).map w) := by
  rw [h.2]
  rfl
theorem tmO {ln : Nat → Nat} {N k ci : Nat} {fs : List Nat} {w : Nat → Int32} (h : TmAt ln N k (.inr (ci, fs))) : celT (tmF ln k) w = .inr (ci, (List.range fs.length).map (fun j => fV (fs.getD j 0) (w j))) := by
  rw [h.2]
  rfl
theorem vinJ {n : Nat} {w : Nat → Int32} {j : Nat} (hj : j < n) (hn : n < 2 ^ 31) : vp_in (nI j) ((List.range n).map w).length := by
  rw [List.length_map, List.length_range]
  exact vp_in_nI hj hn
theorem clJ {n : Nat} {j : Nat} (hj : j < n) (hn : n < 2 ^ 31) : (nI j).toNatClampNeg = j := nI_clamp (by omega)
theorem c1_law (x : Int32) : c1V (lawV x) = true := by
  unfold lawV
  split <;> rfl
theorem fit_law {x : Int32} {q : String} : fitV (.object q) (lawV x) := by
  unfold lawV
  split <;> exact trivial
theorem gwr {xs : List Int32} {call : CT} {y : Nat} {Q : QT} {pc : Nat} {L : LoS} {v : Value} {rest : List Value} {h : AH} {mc ms : Nat} (g : gw xs call y Q pc L (v :: rest) h mc ms) : gw xs call y Q pc L ((some v).toList ++ rest) h mc ms := g
theorem gwr0 {xs : List Int32} {call : CT} {y : Nat} {Q : QT} {pc : Nat} {L : LoS} {rest : List Value} {h : AH} {mc ms : Nat} (g : gw xs call y Q pc L rest h mc ms) : gw xs call y Q pc L ((none : Option Value).toList ++ rest) h mc ms := g
theorem gwm {xs : List Int32} {call : CT} {y : Nat} {Q : QT} {pc : Nat} {L : LoS} {st : List Value} {m m2 : MW} {ln : Nat → Nat} {N mc ms : Nat} (e : m = m2) (g : gw xs call y Q pc L st (H m2 ln N) mc ms) : gw xs call y Q pc L st (H m ln N) mc ms := by
  rw [e]
  exact g
theorem wp_x {xs : List Int32} {d a mc ms n : Nat} {as : List Value} {h : AH} {Q : QT} {L : LoS} (hm : mMx a = n) (hl : (slV as).length ≤ n) (hL : entL n as = L) (g : gw xs (WP xs d) a Q 0 L [] h mc ms) : WP xs (d + 1) a mc ms as h Q := by
  subst hm
  exact wp_in hl hL g
theorem h_gfI {xs : List Int32} {d y : Nat} {Q : QT} {pc : Nat} {L : LoS} {st : List Value} {m : MW} {ln : Nat → Nat} {N mc ms : Nat} {nx kd a b : Nat} {v : Int32} {n k p : Nat} {fs : List Nat} {x : Int32} (hr : smI y pc = some (.getfield n, nx, kd, a, b, v)) (hp : 32 + k = p) (ht : TmAt ln N k (.inr (a, fs))) (hb : fs[b]? = some 0) (hv : m k b = x) (g : gw xs (WP xs d) y Q nx L (.int x :: st) (H (m) ln N) mc ms) : gw xs (WP xs d) y Q pc L (.ref p :: st) (H m ln N) mc ms := by
  subst hv
  exact g_gf hr ((smC_H hp ht.1).trans (congrArg some (tmO ht))) (fl_at hb _) g
theorem h_gfR {xs : List Int32} {d y : Nat} {Q : QT} {pc : Nat} {L : LoS} {st : List Value} {m : MW} {ln : Nat → Nat} {N mc ms : Nat} {nx kd a b : Nat} {v : Int32} {n k p c : Nat} {fs : List Nat} (hr : smI y pc = some (.getfield n, nx, kd, a, b, v)) (hp : 32 + k = p) (ht : TmAt ln N k (.inr (a, fs))) (hb : fs[b]? = some c) (hc : 3 ≤ c) (g : gw xs (WP xs d) y Q nx L (.ref c :: st) (H (m) ln N) mc ms) : gw xs (WP xs d) y Q pc L (.ref p :: st) (H m ln N) mc ms := g_gf hr ((smC_H hp ht.1).trans (congrArg some (tmO ht))) (by obtain ⟨c, rfl⟩ : ∃ z, c = z + 3 := ⟨c - 3, by omega⟩; exact fl_at hb _) g
theorem h_gfL {xs : List Int32} {d y : Nat} {Q : QT} {pc : Nat} {L : LoS} {st : List Value} {m : MW} {ln : Nat → Nat} {N mc ms : Nat} {nx kd a b : Nat} {v : Int32} {n k p : Nat} {fs : List Nat} {x : Int32} (hr : smI y pc = some (.getfield n, nx, kd, a, b, v)) (hp : 32 + k = p) (ht : TmAt ln N k (.inr (a, fs))) (hb : fs[b]? = some 1) (hv : m k b = x) (g : gw xs (WP xs d) y Q nx L (lawV x :: st) (H (m) ln N) mc ms) : gw xs (WP xs d) y Q pc L (.ref p :: st) (H m ln N) mc ms := by
  subst hv
  exact g_gf hr ((smC_H hp ht.1).trans (congrArg some (tmO ht))) (fl_at hb _) g
theorem h_gfN {xs : List Int32} {d y : Nat} {Q : QT} {pc : Nat} {L : LoS} {st : List Value} {m : MW} {ln : Nat → Nat} {N mc ms : Nat} {nx kd a b : Nat} {v : Int32} {n k p : Nat} {fs : List Nat} (hr : smI y pc = some (.getfield n, nx, kd, a, b, v)) (hp : 32 + k = p) (ht : TmAt ln N k (.inr (a, fs))) (hb : fs[b]? = some 2) (g : gw xs (WP xs d) y Q nx L ((if m k b = 0 then .ref 3 else .ref 4) :: st) (H (m) ln N) mc ms) : gw xs (WP xs d) y Q pc L (.ref p :: st) (H m ln N) mc ms := g_gf hr ((smC_H hp ht.1).trans (congrArg some (tmO ht))) (fl_at hb _) g
theorem h_pfI {xs : List Int32} {d y : Nat} {Q : QT} {pc : Nat} {L : LoS} {st : List Value} {m : MW} {ln : Nat → Nat} {N mc ms : Nat} {nx kd a b : Nat} {v : Int32} {n k p : Nat} {fs : List Nat} {x : Int32} (hr : smI y pc = some (.putfield n, nx, kd, a, b, v)) (hp : 32 + k = p) (ht : TmAt ln N k (.inr (a, fs))) (hb : fs[b]? = some 0) (hf : fitV (tyT a b) (.int x)) (g : gw xs (WP xs d) y Q nx L (st) (H (upm m k b x) ln N) mc ms) : gw xs (WP xs d) y Q pc L (.int x :: .ref p :: st) (H m ln N) mc ms := by
  refine g_pf (fs2 := (List.range fs.length).map (fun j => fV (fs.getD j 0) (if j = b then x else m k j))) (h2 := H (upm m k b x) ln N) (i := k) hr rfl (by omega) ((smC_H hp ht.1).trans (congrArg some (tmO ht))) (by rw [List.length_map, List.length_range]; exact (List.getElem?_eq_some_iff.mp hb).1) hf (fl_set hb _ x) (by omega) ?_ g
  rw [← upm_R, ← H_set ht.1, tmO ht]
theorem h_pfL {xs : List Int32} {d y : Nat} {Q : QT} {pc : Nat} {L : LoS} {st : List Value} {m : MW} {ln : Nat → Nat} {N mc ms : Nat} {nx kd a b : Nat} {v : Int32} {n k p : Nat} {fs : List Nat} {x : Int32} {q : String} (hr : smI y pc = some (.putfield n, nx, kd, a, b, v)) (hp : 32 + k = p) (ht : TmAt ln N k (.inr (a, fs))) (hb : fs[b]? = some 1) (hf : tyT a b = .object q) (g : gw xs (WP xs d) y Q nx L (st) (H (upm m k b x) ln N) mc ms) : gw xs (WP xs d) y Q pc L (lawV x :: .ref p :: st) (H m ln N) mc ms := by
  refine g_pf (fs2 := (List.range fs.length).map (fun j => fV (fs.getD j 0) (if j = b then x else m k j))) (h2 := H (upm m k b x) ln N) (i := k) hr (c1_law x) (by omega) ((smC_H hp ht.1).trans (congrArg some (tmO ht))) (by rw [List.length_map, List.length_range]; exact (List.getElem?_eq_some_iff.mp hb).1) (by rw [hf]; exact fit_law) (fl_set hb _ x) (by omega) ?_ g
  rw [← upm_R, ← H_set ht.1, tmO ht]
theorem h_pfN {xs : List Int32} {d y : Nat} {Q : QT} {pc : Nat} {L : LoS} {st : List Value} {m : MW} {ln : Nat → Nat} {N mc ms : Nat} {nx kd a b : Nat} {v : Int32} {n k p z : Nat} {fs : List Nat} {x : Int32} (hr : smI y pc = some (.putfield n, nx, kd, a, b, v)) (hp : 32 + k = p) (ht : TmAt ln N k (.inr (a, fs))) (hb : fs[b]? = some 2) (hx : fV 2 x = .ref z) (hf : fitV (tyT a b) (.ref z)) (g : gw xs (WP xs d) y Q nx L (st) (H (upm m k b x) ln N) mc ms) : gw xs (WP xs d) y Q pc L (.ref z :: .ref p :: st) (H m ln N) mc ms := by
  refine g_pf (fs2 := (List.range fs.length).map (fun j => fV (fs.getD j 0) (if j = b then x else m k j))) (h2 := H (upm m k b x) ln N) (i := k) hr rfl (by omega) ((smC_H hp ht.1).trans (congrArg some (tmO ht))) (by rw [List.length_map, List.length_range]; exact (List.getElem?_eq_some_iff.mp hb).1) hf (by rw [← hx]; exact fl_set hb _ x) (by omega) ?_ g
  rw [← upm_R, ← H_set ht.1, tmO ht]
theorem h_ial {xs : List Int32} {d y : Nat} {Q : QT} {pc : Nat} {L : LoS} {st : List Value} {m : MW} {ln : Nat → Nat} {N mc ms : Nat} {nx kd a b : Nat} {v : Int32} {k p n j : Nat} {i x : Int32} (hr : smI y pc = some (.iaload, nx, kd, a, b, v)) (hp : 32 + k = p) (ht : TmAt ln N k (.inl (0, n))) (hx : i = nI j) (hj : j < n) (hn : n < 2 ^ 31) (hv : m k j = x) (g : gw xs (WP xs d) y Q nx L (.int x :: st) (H (m) ln N) mc ms) : gw xs (WP xs d) y Q pc L (.int i :: .ref p :: st) (H m ln N) mc ms := by
  subst hx
  subst hv
  exact g_iald hr ((smC_H hp ht.1).trans (congrArg some (tmA ht))) (vinJ hj hn) (by rw [clJ hj hn]; exact range_getD _ hj) g
theorem h_bal {xs : List Int32} {d y : Nat} {Q : QT} {pc : Nat} {L : LoS} {st : List Value} {m : MW} {ln : Nat → Nat} {N mc ms : Nat} {nx kd a b : Nat} {v : Int32} {k p n j : Nat} {i x : Int32} (hr : smI y pc = some (.baload, nx, kd, a, b, v)) (hp : 32 + k = p) (ht : TmAt ln N k (.inl (1, n))) (hx : i = nI j) (hj : j < n) (hn : n < 2 ^ 31) (hv : m k j = x) (g : gw xs (WP xs d) y Q nx L (.int x :: st) (H (m) ln N) mc ms) : gw xs (WP xs d) y Q pc L (.int i :: .ref p :: st) (H m ln N) mc ms := by
  subst hx
  subst hv
  exact g_bald hr ((smC_H hp ht.1).trans (congrArg some (tmA ht))) (Or.inl ⟨by omega, rfl⟩) (vinJ hj hn) (by rw [clJ hj hn]; exact range_getD _ hj) g
theorem h_ias {xs : List Int32} {d y : Nat} {Q : QT} {pc : Nat} {L : LoS} {st : List Value} {m : MW} {ln : Nat → Nat} {N mc ms : Nat} {nx kd a b : Nat} {v : Int32} {k p n j : Nat} {i x : Int32} (hr : smI y pc = some (.iastore, nx, kd, a, b, v)) (hp : 32 + k = p) (ht : TmAt ln N k (.inl (0, n))) (hx : i = nI j) (hj : j < n) (hn : n < 2 ^ 31) (g : gw xs (WP xs d) y Q nx L (st) (H (upm m k j x) ln N) mc ms) : gw xs (WP xs d) y Q pc L (.int x :: .int i :: .ref p :: st) (H m ln N) mc ms := by
  subst hx
  refine g_iast (f2 := (List.range n).map (fun q => if q = j then x else m k q)) (h2 := H (upm m k j x) ln N) (j := k) hr (by omega) ((smC_H hp ht.1).trans (congrArg some (tmA ht))) (vinJ hj hn) (by rw [clJ hj hn]; exact range_set n j _ x) (by omega) ?_ g
  rw [← upm_R, ← H_set ht.1, tmA ht]
theorem h_bas {xs : List Int32} {d y : Nat} {Q : QT} {pc : Nat} {L : LoS} {st : List Value} {m : MW} {ln : Nat → Nat} {N mc ms : Nat} {nx kd a b : Nat} {v : Int32} {k p n j : Nat} {i x : Int32} (hr : smI y pc = some (.bastore, nx, kd, a, b, v)) (hp : 32 + k = p) (ht : TmAt ln N k (.inl (1, n))) (hx : i = nI j) (hj : j < n) (hn : n < 2 ^ 31) (h01 : x = 0 ∨ x = 1) (g : gw xs (WP xs d) y Q nx L (st) (H (upm m k j x) ln N) mc ms) : gw xs (WP xs d) y Q pc L (.int x :: .int i :: .ref p :: st) (H m ln N) mc ms := by
  subst hx
  refine g_bast (f2 := (List.range n).map (fun q => if q = j then x else m k q)) (h2 := H (upm m k j x) ln N) (j := k) hr (by omega) h01 ((smC_H hp ht.1).trans (congrArg some (tmA ht))) (vinJ hj hn) (by rw [clJ hj hn]; exact range_set n j _ x) (by omega) ?_ g
  rw [← upm_R, ← H_set ht.1, tmA ht]
theorem h_alen {xs : List Int32} {d y : Nat} {Q : QT} {pc : Nat} {L : LoS} {st : List Value} {m : MW} {ln : Nat → Nat} {N mc ms : Nat} {nx kd a b : Nat} {v : Int32} {k p kk n : Nat} (hr : smI y pc = some (.arraylength, nx, kd, a, b, v)) (hp : 32 + k = p) (ht : TmAt ln N k (.inl (kk, n))) (hk : kk = 0 ∨ kk = 1) (g : gw xs (WP xs d) y Q nx L (.int (nI n) :: st) (H (m) ln N) mc ms) : gw xs (WP xs d) y Q pc L (.ref p :: st) (H m ln N) mc ms := g_alen hr ((smC_H hp ht.1).trans (congrArg some (tmA ht))) (hk.imp id Or.inl) (by rw [List.length_map, List.length_range]) g
theorem h_aald {xs : List Int32} {d y : Nat} {Q : QT} {pc : Nat} {L : LoS} {st : List Value} {m : MW} {ln : Nat → Nat} {N mc ms : Nat} {nx kd a b : Nat} {v : Int32} {k p c j : Nat} {i : Int32} {fs : List Nat} (hr : smI y pc = some (.aaload, nx, kd, a, b, v)) (hp : 32 + k = p) (ht : TmAt ln N k (.inr (50, fs))) (hx : i = nI j) (hb : fs[j]? = some c) (hc : 3 ≤ c) (hn : fs.length < 2 ^ 31) (g : gw xs (WP xs d) y Q nx L (.ref c :: st) (H (m) ln N) mc ms) : gw xs (WP xs d) y Q pc L (.int i :: .ref p :: st) (H m ln N) mc ms := by
  subst hx
  have hj : j < fs.length := (List.getElem?_eq_some_iff.mp hb).1
  refine g_aald hr (by omega) ((smC_H hp ht.1).trans (congrArg some (tmO ht))) (by rw [List.length_map, List.length_range]; exact vp_in_nI hj hn) ?_ g
  rw [clJ hj hn]
  obtain ⟨c, rfl⟩ : ∃ z, c = z + 3 := ⟨c - 3, by omega⟩
  exact fl_at hb _
def cpy (m : MW) (k1 k2 sp dp n : Nat) : MW := fun k j => if k = k2 ∧ dp ≤ j ∧ j < dp + n then m k1 (sp + (j - dp)) else m k j
theorem cpL_H {n1 n2 sp dp n : Nat} (f g : Nat → Int32) (h1 : sp + n ≤ n1) (h2 : dp + n ≤ n2) : cpL ((List.range n1).map f) ((List.range n2).map g) sp dp n = (List.range n2).map (fun j => if dp ≤ j ∧ j < dp + n then f (sp + (j - dp)) else g j) := by
  unfold cpL
  rw [List.length_map, List.length_range]
  apply List.map_congr_left
  intro j hj
  have hj2 : j < n2 := List.mem_range.mp hj
  unfold va_cpy
  by_cases h : dp ≤ j ∧ j < dp + n
  · simp only [h, and_self, if_true]
    exact range_getD _ (by omega)
  · simp only [h, if_false]
    exact range_getD _ hj2
theorem h_acp {xs : List Int32} {d y : Nat} {Q : QT} {pc : Nat} {L : LoS} {st : List Value} {m : MW} {ln : Nat → Nat} {N mc ms : Nat} {nx kd a b : Nat} {v : Int32} {n k1 k2 p q kk n1 n2 sp dp c : Nat} (hr : smI y pc = some (.invokestatic n, nx, 4, a, b, v)) (hp : 32 + k1 = p) (hq : 32 + k2 = q) (h1 : TmAt ln N k1 (.inl (kk, n1))) (h2 : TmAt ln N k2 (.inl (kk, n2))) (hkk : kk = 0 ∨ kk = 1) (hn1 : n1 < 2 ^ 31) (hn2 : n2 < 2 ^ 31) (hs : sp + c ≤ n1) (hd : dp + c ≤ n2) (hb : kk = 1 → ∀ j, j < n1 → m k1 j = 0 ∨ m k1 j = 1) (hcat : catS st ≤ 8) (g : gw xs (WP xs d) y Q nx L (st) (H (cpy m k1 k2 sp dp c) ln N) mc ms) : gw xs (WP xs d) y Q pc L (.int (nI c) :: .int (nI dp) :: .ref q :: .int (nI sp) :: .ref p :: st) (H m ln N) mc ms := by
  refine gs hr ?_
  have e1 : smC xs (H m ln N) p = some (.inl (kk, (List.range n1).map (m k1))) := (smC_H hp h1.1).trans (congrArg some (tmA h1))
  have e2 : smC xs (H m ln N) q = some (.inl (kk, (List.range n2).map (m k2))) := (smC_H hq h2.1).trans (congrArg some (tmA h2))
  have c1 : (nI sp).toNatClampNeg = sp := nI_clamp (by omega)
  have c2 : (nI dp).toNatClampNeg = dp := nI_clamp (by omega)
  have c3 : (nI c).toNatClampNeg = c := nI_clamp (by omega)
  show 32 ≤ p ∧ 32 ≤ q ∧ catS st ≤ 8 ∧ cA xs (H m ln N) p _
  refine ⟨by omega, by omega, hcat, cA_i e1 (cA_i e2 ?_)⟩
  refine ⟨rfl, hkk, nI_pos (by omega), nI_pos (by omega), nI_pos (by omega), ?_, ?_, ?_, ?_⟩
  · rw [c1, c3, List.length_map, List.length_range]
    exact hs
  · rw [c2, c3, List.length_map, List.length_range]
    exact hd
  · intro hk x hx
    obtain ⟨j, hj, rfl⟩ := List.mem_map.mp hx
    exact hb hk j (List.mem_range.mp hj)
  · rw [c1, c2, c3, cpL_H _ _ hs hd]
    have e3 : (H m ln N).set (q - 32) (.inl (kk, (List.range n2).map (fun j => if dp ≤ j ∧ j < dp + c then m k1 (sp + (j - dp)) else m k2 j))) = H (cpy m k1 k2 sp dp c) ln N := by
      have e4 : q - 32 = k2 := by omega
      have e5 : cpy m k1 k2 sp dp c = upmR m k2 (fun j => if dp ≤ j ∧ j < dp + c then m k1 (sp + (j - dp)) else m k2 j) := by
        funext k j
        unfold cpy upmR
        by_cases h : k = k2
        · subst h
          simp
        · simp [h]
      rw [e4, e5, ← H_set h2.1, tmA h2]
    rw [e3]
    exact g
theorem h_if_eq {xs : List Int32} {d y : Nat} {Q : QT} {pc : Nat} {L : LoS} {st : List Value} {h : AH} {mc ms : Nat} {nx kd a b : Nat} {v : Int32} {w : Int} {x : Int32} {xi zi : Int} (hr : smI y pc = some (.ifCond .eq w, nx, kd, a, b, v)) (hx : x.toInt = xi) (hz : (0 : Int32).toInt = zi) (gT : xi = zi → gw xs (WP xs d) y Q a L st h mc ms) (gF : ¬ xi = zi → gw xs (WP xs d) y Q nx L st h mc ms) : gw xs (WP xs d) y Q pc L (.int x :: st) h mc ms := g_if_eq hr (fun c => gT ((eq_k hx hz).mp c)) (fun c => gF (fun q => c ((eq_k hx hz).mpr q)))
theorem h_if_eqT {xs : List Int32} {d y : Nat} {Q : QT} {pc : Nat} {L : LoS} {st : List Value} {h : AH} {mc ms : Nat} {nx kd a b : Nat} {v : Int32} {w : Int} {x : Int32} {xi zi : Int} (hr : smI y pc = some (.ifCond .eq w, nx, kd, a, b, v)) (hx : x.toInt = xi) (hz : (0 : Int32).toInt = zi) (hc : xi = zi) (g : gw xs (WP xs d) y Q a L st h mc ms) : gw xs (WP xs d) y Q pc L (.int x :: st) h mc ms := g_if_eqT hr ((eq_k hx hz).mpr hc) g
theorem h_if_eqF {xs : List Int32} {d y : Nat} {Q : QT} {pc : Nat} {L : LoS} {st : List Value} {h : AH} {mc ms : Nat} {nx kd a b : Nat} {v : Int32} {w : Int} {x : Int32} {xi zi : Int} (hr : smI y pc = some (.ifCond .eq w, nx, kd, a, b, v)) (hx : x.toInt = xi) (hz : (0 : Int32).toInt = zi) (hc : ¬ xi = zi) (g : gw xs (WP xs d) y Q nx L st h mc ms) : gw xs (WP xs d) y Q pc L (.int x :: st) h mc ms := g_if_eqF hr (fun q => hc ((eq_k hx hz).mp q)) g
theorem h_if_ne {xs : List Int32} {d y : Nat} {Q : QT} {pc : Nat} {L : LoS} {st : List Value} {h : AH} {mc ms : Nat} {nx kd a b : Nat} {v : Int32} {w : Int} {x : Int32} {xi zi : Int} (hr : smI y pc = some (.ifCond .ne w, nx, kd, a, b, v)) (hx : x.toInt = xi) (hz : (0 : Int32).toInt = zi) (gT : xi = zi → gw xs (WP xs d) y Q nx L st h mc ms) (gF : ¬ xi = zi → gw xs (WP xs d) y Q a L st h mc ms) : gw xs (WP xs d) y Q pc L (.int x :: st) h mc ms := g_if_ne hr (fun c => gT ((eq_k hx hz).mp c)) (fun c => gF (fun q => c ((eq_k hx hz).mpr q)))
theorem h_if_neT {xs : List Int32} {d y : Nat} {Q : QT} {pc : Nat} {L : LoS} {st : List Value} {h : AH} {mc ms : Nat} {nx kd a b : Nat} {v : Int32} {w : Int} {x : Int32} {xi zi : Int} (hr : smI y pc = some (.ifCond .ne w, nx, kd, a, b, v)) (hx : x.toInt = xi) (hz : (0 : Int32).toInt = zi) (hc : xi = zi) (g : gw xs (WP xs d) y Q nx L st h mc ms) : gw xs (WP xs d) y Q pc L (.int x :: st) h mc ms := g_if_neT hr ((eq_k hx hz).mpr hc) g
theorem h_if_neF {xs : List Int32} {d y : Nat} {Q : QT} {pc : Nat} {L : LoS} {st : List Value} {h : AH} {mc ms : Nat} {nx kd a b : Nat} {v : Int32} {w : Int} {x : Int32} {xi zi : Int} (hr : smI y pc = some (.ifCond .ne w, nx, kd, a, b, v)) (hx : x.toInt = xi) (hz : (0 : Int32).toInt = zi) (hc : ¬ xi = zi) (g : gw xs (WP xs d) y Q a L st h mc ms) : gw xs (WP xs d) y Q pc L (.int x :: st) h mc ms := g_if_neF hr (fun q => hc ((eq_k hx hz).mp q)) g
theorem h_if_lt {xs : List Int32} {d y : Nat} {Q : QT} {pc : Nat} {L : LoS} {st : List Value} {h : AH} {mc ms : Nat} {nx kd a b : Nat} {v : Int32} {w : Int} {x : Int32} {xi zi : Int} (hr : smI y pc = some (.ifCond .lt w, nx, kd, a, b, v)) (hx : x.toInt = xi) (hz : (0 : Int32).toInt = zi) (gT : xi < zi → gw xs (WP xs d) y Q a L st h mc ms) (gF : ¬ xi < zi → gw xs (WP xs d) y Q nx L st h mc ms) : gw xs (WP xs d) y Q pc L (.int x :: st) h mc ms := g_if_lt hr (fun c => gT ((lt_k hx hz).mp c)) (fun c => gF (fun q => c ((lt_k hx hz).mpr q)))
theorem h_if_ltT {xs : List Int32} {d y : Nat} {Q : QT} {pc : Nat} {L : LoS} {st : List Value} {h : AH} {mc ms : Nat} {nx kd a b : Nat} {v : Int32} {w : Int} {x : Int32} {xi zi : Int} (hr : smI y pc = some (.ifCond .lt w, nx, kd, a, b, v)) (hx : x.toInt = xi) (hz : (0 : Int32).toInt = zi) (hc : xi < zi) (g : gw xs (WP xs d) y Q a L st h mc ms) : gw xs (WP xs d) y Q pc L (.int x :: st) h mc ms := g_if_ltT hr ((lt_k hx hz).mpr hc) g
theorem h_if_ltF {xs : List Int32} {d y : Nat} {Q : QT} {pc : Nat} {L : LoS} {st : List Value} {h : AH} {mc ms : Nat} {nx kd a b : Nat} {v : Int32} {w : Int} {x : Int32} {xi zi : Int} (hr : smI y pc = some (.ifCond .lt w, nx, kd, a, b, v)) (hx : x.toInt = xi) (hz : (0 : Int32).toInt = zi) (hc : ¬ xi < zi) (g : gw xs (WP xs d) y Q nx L st h mc ms) : gw xs (WP xs d) y Q pc L (.int x :: st) h mc ms := g_if_ltF hr (fun q => hc ((lt_k hx hz).mp q)) g
theorem h_if_ge {xs : List Int32} {d y : Nat} {Q : QT} {pc : Nat} {L : LoS} {st : List Value} {h : AH} {mc ms : Nat} {nx kd a b : Nat} {v : Int32} {w : Int} {x : Int32} {xi zi : Int} (hr : smI y pc = some (.ifCond .ge w, nx, kd, a, b, v)) (hx : x.toInt = xi) (hz : (0 : Int32).toInt = zi) (gT : zi ≤ xi → gw xs (WP xs d) y Q a L st h mc ms) (gF : ¬ zi ≤ xi → gw xs (WP xs d) y Q nx L st h mc ms) : gw xs (WP xs d) y Q pc L (.int x :: st) h mc ms := g_if_ge hr (fun c => gT ((le_k hz hx).mp c)) (fun c => gF (fun q => c ((le_k hz hx).mpr q)))
theorem h_if_geT {xs : List Int32} {d y : Nat} {Q : QT} {pc : Nat} {L : LoS} {st : List Value} {h : AH} {mc ms : Nat} {nx kd a b : Nat} {v : Int32} {w : Int} {x : Int32} {xi zi : Int} (hr : smI y pc = some (.ifCond .ge w, nx, kd, a, b, v)) (hx : x.toInt = xi) (hz : (0 : Int32).toInt = zi) (hc : zi ≤ xi) (g : gw xs (WP xs d) y Q a L st h mc ms) : gw xs (WP xs d) y Q pc L (.int x :: st) h mc ms := g_if_geT hr ((le_k hz hx).mpr hc) g
theorem h_if_geF {xs : List Int32} {d y : Nat} {Q : QT} {pc : Nat} {L : LoS} {st : List Value} {h : AH} {mc ms : Nat} {nx kd a b : Nat} {v : Int32} {w : Int} {x : Int32} {xi zi : Int} (hr : smI y pc = some (.ifCond .ge w, nx, kd, a, b, v)) (hx : x.toInt = xi) (hz : (0 : Int32).toInt = zi) (hc : ¬ zi ≤ xi) (g : gw xs (WP xs d) y Q nx L st h mc ms) : gw xs (WP xs d) y Q pc L (.int x :: st) h mc ms := g_if_geF hr (fun q => hc ((le_k hz hx).mp q)) g
theorem h_if_gt {xs : List Int32} {d y : Nat} {Q : QT} {pc : Nat} {L : LoS} {st : List Value} {h : AH} {mc ms : Nat} {nx kd a b : Nat} {v : Int32} {w : Int} {x : Int32} {xi zi : Int} (hr : smI y pc = some (.ifCond .gt w, nx, kd, a, b, v)) (hx : x.toInt = xi) (hz : (0 : Int32).toInt = zi) (gT : zi < xi → gw xs (WP xs d) y Q a L st h mc ms) (gF : ¬ zi < xi → gw xs (WP xs d) y Q nx L st h mc ms) : gw xs (WP xs d) y Q pc L (.int x :: st) h mc ms := g_if_gt hr (fun c => gT ((lt_k hz hx).mp c)) (fun c => gF (fun q => c ((lt_k hz hx).mpr q)))
theorem h_if_gtT {xs : List Int32} {d y : Nat} {Q : QT} {pc : Nat} {L : LoS} {st : List Value} {h : AH} {mc ms : Nat} {nx kd a b : Nat} {v : Int32} {w : Int} {x : Int32} {xi zi : Int} (hr : smI y pc = some (.ifCond .gt w, nx, kd, a, b, v)) (hx : x.toInt = xi) (hz : (0 : Int32).toInt = zi) (hc : zi < xi) (g : gw xs (WP xs d) y Q a L st h mc ms) : gw xs (WP xs d) y Q pc L (.int x :: st) h mc ms := g_if_gtT hr ((lt_k hz hx).mpr hc) g
theorem h_if_gtF {xs : List Int32} {d y : Nat} {Q : QT} {pc : Nat} {L : LoS} {st : List Value} {h : AH} {mc ms : Nat} {nx kd a b : Nat} {v : Int32} {w : Int} {x : Int32} {xi zi : Int} (hr : smI y pc = some (.ifCond .gt w, nx, kd, a, b, v)) (hx : x.toInt = xi) (hz : (0 : Int32).toInt = zi) (hc : ¬ zi < xi) (g : gw xs (WP xs d) y Q nx L st h mc ms) : gw xs (WP xs d) y Q pc L (.int x :: st) h mc ms := g_if_gtF hr (fun q => hc ((lt_k hz hx).mp q)) g
theorem h_if_le {xs : List Int32} {d y : Nat} {Q : QT} {pc : Nat} {L : LoS} {st : List Value} {h : AH} {mc ms : Nat} {nx kd a b : Nat} {v : Int32} {w : Int} {x : Int32} {xi zi : Int} (hr : smI y pc = some (.ifCond .le w, nx, kd, a, b, v)) (hx : x.toInt = xi) (hz : (0 : Int32).toInt = zi) (gT : xi ≤ zi → gw xs (WP xs d) y Q a L st h mc ms) (gF : ¬ xi ≤ zi → gw xs (WP xs d) y Q nx L st h mc ms) : gw xs (WP xs d) y Q pc L (.int x :: st) h mc ms := g_if_le hr (fun c => gT ((le_k hx hz).mp c)) (fun c => gF (fun q => c ((le_k hx hz).mpr q)))
theorem h_if_leT {xs : List Int32} {d y : Nat} {Q : QT} {pc : Nat} {L : LoS} {st : List Value} {h : AH} {mc ms : Nat} {nx kd a b : Nat} {v : Int32} {w : Int} {x : Int32} {xi zi : Int} (hr : smI y pc = some (.ifCond .le w, nx, kd, a, b, v)) (hx : x.toInt = xi) (hz : (0 : Int32).toInt = zi) (hc : xi ≤ zi) (g : gw xs (WP xs d) y Q a L st h mc ms) : gw xs (WP xs d) y Q pc L (.int x :: st) h mc ms := g_if_leT hr ((le_k hx hz).mpr hc) g
theorem h_if_leF {xs : List Int32} {d y : Nat} {Q : QT} {pc : Nat} {L : LoS} {st : List Value} {h : AH} {mc ms : Nat} {nx kd a b : Nat} {v : Int32} {w : Int} {x : Int32} {xi zi : Int} (hr : smI y pc = some (.ifCond .le w, nx, kd, a, b, v)) (hx : x.toInt = xi) (hz : (0 : Int32).toInt = zi) (hc : ¬ xi ≤ zi) (g : gw xs (WP xs d) y Q nx L st h mc ms) : gw xs (WP xs d) y Q pc L (.int x :: st) h mc ms := g_if_leF hr (fun q => hc ((le_k hx hz).mp q)) g
theorem h_ic_eq {xs : List Int32} {d y : Nat} {Q : QT} {pc : Nat} {L : LoS} {st : List Value} {h : AH} {mc ms : Nat} {nx kd a b : Nat} {v : Int32} {w : Int} {x : Int32} {xi zi : Int} {z : Int32} (hr : smI y pc = some (.if_icmp .eq w, nx, kd, a, b, v)) (hx : x.toInt = xi) (hz : z.toInt = zi) (gT : xi = zi → gw xs (WP xs d) y Q a L st h mc ms) (gF : ¬ xi = zi → gw xs (WP xs d) y Q nx L st h mc ms) : gw xs (WP xs d) y Q pc L (.int z :: .int x :: st) h mc ms := g_ic_eq hr (fun c => gT ((eq_k hx hz).mp c)) (fun c => gF (fun q => c ((eq_k hx hz).mpr q)))
theorem h_ic_eqT {xs : List Int32} {d y : Nat} {Q : QT} {pc : Nat} {L : LoS} {st : List Value} {h : AH} {mc ms : Nat} {nx kd a b : Nat} {v : Int32} {w : Int} {x : Int32} {xi zi : Int} {z : Int32} (hr : smI y pc = some (.if_icmp .eq w, nx, kd, a, b, v)) (hx : x.toInt = xi) (hz : z.toInt = zi) (hc : xi = zi) (g : gw xs (WP xs d) y Q a L st h mc ms) : gw xs (WP xs d) y Q pc L (.int z :: .int x :: st) h mc ms := g_ic_eqT hr ((eq_k hx hz).mpr hc) g
theorem h_ic_eqF {xs : List Int32} {d y : Nat} {Q : QT} {pc : Nat} {L : LoS} {st : List Value} {h : AH} {mc ms : Nat} {nx kd a b : Nat} {v : Int32} {w : Int} {x : Int32} {xi zi : Int} {z : Int32} (hr : smI y pc = some (.if_icmp .eq w, nx, kd, a, b, v)) (hx : x.toInt = xi) (hz : z.toInt = zi) (hc : ¬ xi = zi) (g : gw xs (WP xs d) y Q nx L st h mc ms) : gw xs (WP xs d) y Q pc L (.int z :: .int x :: st) h mc ms := g_ic_eqF hr (fun q => hc ((eq_k hx hz).mp q)) g
theorem h_ic_ne {xs : List Int32} {d y : Nat} {Q : QT} {pc : Nat} {L : LoS} {st : List Value} {h : AH} {mc ms : Nat} {nx kd a b : Nat} {v : Int32} {w : Int} {x : Int32} {xi zi : Int} {z : Int32} (hr : smI y pc = some (.if_icmp .ne w, nx, kd, a, b, v)) (hx : x.toInt = xi) (hz : z.toInt = zi) (gT : xi = zi → gw xs (WP xs d) y Q nx L st h mc ms) (gF : ¬ xi = zi → gw xs (WP xs d) y Q a L st h mc ms) : gw xs (WP xs d) y Q pc L (.int z :: .int x :: st) h mc ms := g_ic_ne hr (fun c => gT ((eq_k hx hz).mp c)) (fun c => gF (fun q => c ((eq_k hx hz).mpr q)))
theorem h_ic_neT {xs : List Int32} {d y : Nat} {Q : QT} {pc : Nat} {L : LoS} {st : List Value} {h : AH} {mc ms : Nat} {nx kd a b : Nat} {v : Int32} {w : Int} {x : Int32} {xi zi : Int} {z : Int32} (hr : smI y pc = some (.if_icmp .ne w, nx, kd, a, b, v)) (hx : x.toInt = xi) (hz : z.toInt = zi) (hc : xi = zi) (g : gw xs (WP xs d) y Q nx L st h mc ms) : gw xs (WP xs d) y Q pc L (.int z :: .int x :: st) h mc ms := g_ic_neT hr ((eq_k hx hz).mpr hc) g
theorem h_ic_neF {xs : List Int32} {d y : Nat} {Q : QT} {pc : Nat} {L : LoS} {st : List Value} {h : AH} {mc ms : Nat} {nx kd a b : Nat} {v : Int32} {w : Int} {x : Int32} {xi zi : Int} {z : Int32} (hr : smI y pc = some (.if_icmp .ne w, nx, kd, a, b, v)) (hx : x.toInt = xi) (hz : z.toInt = zi) (hc : ¬ xi = zi) (g : gw xs (WP xs d) y Q a L st h mc ms) : gw xs (WP xs d) y Q pc L (.int z :: .int x :: st) h mc ms := g_ic_neF hr (fun q => hc ((eq_k hx hz).mp q)) g
theorem h_ic_lt {xs : List Int32} {d y : Nat} {Q : QT} {pc : Nat} {L : LoS} {st : List Value} {h : AH} {mc ms : Nat} {nx kd a b : Nat} {v : Int32} {w : Int} {x : Int32} {xi zi : Int} {z : Int32} (hr : smI y pc = some (.if_icmp .lt w, nx, kd, a, b, v)) (hx : x.toInt = xi) (hz : z.toInt = zi) (gT : xi < zi → gw xs (WP xs d) y Q a L st h mc ms) (gF : ¬ xi < zi → gw xs (WP xs d) y Q nx L st h mc ms) : gw xs (WP xs d) y Q pc L (.int z :: .int x :: st) h mc ms := g_ic_lt hr (fun c => gT ((lt_k hx hz).mp c)) (fun c => gF (fun q => c ((lt_k hx hz).mpr q)))
theorem h_ic_ltT {xs : List Int32} {d y : Nat} {Q : QT} {pc : Nat} {L : LoS} {st : List Value} {h : AH} {mc ms : Nat} {nx kd a b : Nat} {v : Int32} {w : Int} {x : Int32} {xi zi : Int} {z : Int32} (hr : smI y pc = some (.if_icmp .lt w, nx, kd, a, b, v)) (hx : x.toInt = xi) (hz : z.toInt = zi) (hc : xi < zi) (g : gw xs (WP xs d) y Q a L st h mc ms) : gw xs (WP xs d) y Q pc L (.int z :: .int x :: st) h mc ms := g_ic_ltT hr ((lt_k hx hz).mpr hc) g
theorem h_ic_ltF {xs : List Int32} {d y : Nat} {Q : QT} {pc : Nat} {L : LoS} {st : List Value} {h : AH} {mc ms : Nat} {nx kd a b : Nat} {v : Int32} {w : Int} {x : Int32} {xi zi : Int} {z : Int32} (hr : smI y pc = some (.if_icmp .lt w, nx, kd, a, b, v)) (hx : x.toInt = xi) (hz : z.toInt = zi) (hc : ¬ xi < zi) (g : gw xs (WP xs d) y Q nx L st h mc ms) : gw xs (WP xs d) y Q pc L (.int z :: .int x :: st) h mc ms := g_ic_ltF hr (fun q => hc ((lt_k hx hz).mp q)) g
theorem h_ic_ge {xs : List Int32} {d y : Nat} {Q : QT} {pc : Nat} {L : LoS} {st : List Value} {h : AH} {mc ms : Nat} {nx kd a b : Nat} {v : Int32} {w : Int} {x : Int32} {xi zi : Int} {z : Int32} (hr : smI y pc = some (.if_icmp .ge w, nx, kd, a, b, v)) (hx : x.toInt = xi) (hz : z.toInt = zi) (gT : zi ≤ xi → gw xs (WP xs d) y Q a L st h mc ms) (gF : ¬ zi ≤ xi → gw xs (WP xs d) y Q nx L st h mc ms) : gw xs (WP xs d) y Q pc L (.int z :: .int x :: st) h mc ms := g_ic_ge hr (fun c => gT ((le_k hz hx).mp c)) (fun c => gF (fun q => c ((le_k hz hx).mpr q)))
theorem h_ic_geT {xs : List Int32} {d y : Nat} {Q : QT} {pc : Nat} {L : LoS} {st : List Value} {h : AH} {mc ms : Nat} {nx kd a b : Nat} {v : Int32} {w : Int} {x : Int32} {xi zi : Int} {z : Int32} (hr : smI y pc = some (.if_icmp .ge w, nx, kd, a, b, v)) (hx : x.toInt = xi) (hz : z.toInt = zi) (hc : zi ≤ xi) (g : gw xs (WP xs d) y Q a L st h mc ms) : gw xs (WP xs d) y Q pc L (.int z :: .int x :: st) h mc ms := g_ic_geT hr ((le_k hz hx).mpr hc) g
theorem h_ic_geF {xs : List Int32} {d y : Nat} {Q : QT} {pc : Nat} {L : LoS} {st : List Value} {h : AH} {mc ms : Nat} {nx kd a b : Nat} {v : Int32} {w : Int} {x : Int32} {xi zi : Int} {z : Int32} (hr : smI y pc = some (.if_icmp .ge w, nx, kd, a, b, v)) (hx : x.toInt = xi) (hz : z.toInt = zi) (hc : ¬ zi ≤ xi) (g : gw xs (WP xs d) y Q nx L st h mc ms) : gw xs (WP xs d) y Q pc L (.int z :: .int x :: st) h mc ms := g_ic_geF hr (fun q => hc ((le_k hz hx).mp q)) g
theorem h_ic_gt {xs : List Int32} {d y : Nat} {Q : QT} {pc : Nat} {L : LoS} {st : List Value} {h : AH} {mc ms : Nat} {nx kd a b : Nat} {v : Int32} {w : Int} {x : Int32} {xi zi : Int} {z : Int32} (hr : smI y pc = some (.if_icmp .gt w, nx, kd, a, b, v)) (hx : x.toInt = xi) (hz : z.toInt = zi) (gT : zi < xi → gw xs (WP xs d) y Q a L st h mc ms) (gF : ¬ zi < xi → gw xs (WP xs d) y Q nx L st h mc ms) : gw xs (WP xs d) y Q pc L (.int z :: .int x :: st) h mc ms := g_ic_gt hr (fun c => gT ((lt_k hz hx).mp c)) (fun c => gF (fun q => c ((lt_k hz hx).mpr q)))
theorem h_ic_gtT {xs : List Int32} {d y : Nat} {Q : QT} {pc : Nat} {L : LoS} {st : List Value} {h : AH} {mc ms : Nat} {nx kd a b : Nat} {v : Int32} {w : Int} {x : Int32} {xi zi : Int} {z : Int32} (hr : smI y pc = some (.if_icmp .gt w, nx, kd, a, b, v)) (hx : x.toInt = xi) (hz : z.toInt = zi) (hc : zi < xi) (g : gw xs (WP xs d) y Q a L st h mc ms) : gw xs (WP xs d) y Q pc L (.int z :: .int x :: st) h mc ms := g_ic_gtT hr ((lt_k hz hx).mpr hc) g
theorem h_ic_gtF {xs : List Int32} {d y : Nat} {Q : QT} {pc : Nat} {L : LoS} {st : List Value} {h : AH} {mc ms : Nat} {nx kd a b : Nat} {v : Int32} {w : Int} {x : Int32} {xi zi : Int} {z : Int32} (hr : smI y pc = some (.if_icmp .gt w, nx, kd, a, b, v)) (hx : x.toInt = xi) (hz : z.toInt = zi) (hc : ¬ zi < xi) (g : gw xs (WP xs d) y Q nx L st h mc ms) : gw xs (WP xs d) y Q pc L (.int z :: .int x :: st) h mc ms := g_ic_gtF hr (fun q => hc ((lt_k hz hx).mp q)) g
theorem h_ic_le {xs : List Int32} {d y : Nat} {Q : QT} {pc : Nat} {L : LoS} {st : List Value} {h : AH} {mc ms : Nat} {nx kd a b : Nat} {v : Int32} {w : Int} {x : Int32} {xi zi : Int} {z : Int32} (hr : smI y pc = some (.if_icmp .le w, nx, kd, a, b, v)) (hx : x.toInt = xi) (hz : z.toInt = zi) (gT : xi ≤ zi → gw xs (WP xs d) y Q a L st h mc ms) (gF : ¬ xi ≤ zi → gw xs (WP xs d) y Q nx L st h mc ms) : gw xs (WP xs d) y Q pc L (.int z :: .int x :: st) h mc ms := g_ic_le hr (fun c => gT ((le_k hx hz).mp c)) (fun c => gF (fun q => c ((le_k hx hz).mpr q)))
theorem h_ic_leT {xs : List Int32} {d y : Nat} {Q : QT} {pc : Nat} {L : LoS} {st : List Value} {h : AH} {mc ms : Nat} {nx kd a b : Nat} {v : Int32} {w : Int} {x : Int32} {xi zi : Int} {z : Int32} (hr : smI y pc = some (.if_icmp .le w, nx, kd, a, b, v)) (hx : x.toInt = xi) (hz : z.toInt = zi) (hc : xi ≤ zi) (g : gw xs (WP xs d) y Q a L st h mc ms) : gw xs (WP xs d) y Q pc L (.int z :: .int x :: st) h mc ms := g_ic_leT hr ((le_k hx hz).mpr hc) g
theorem h_ic_leF {xs : List Int32} {d y : Nat} {Q : QT} {pc : Nat} {L : LoS} {st : List Value} {h : AH} {mc ms : Nat} {nx kd a b : Nat} {v : Int32} {w : Int} {x : Int32} {xi zi : Int} {z : Int32} (hr : smI y pc = some (.if_icmp .le w, nx, kd, a, b, v)) (hx : x.toInt = xi) (hz : z.toInt = zi) (hc : ¬ xi ≤ zi) (g : gw xs (WP xs d) y Q nx L st h mc ms) : gw xs (WP xs d) y Q pc L (.int z :: .int x :: st) h mc ms := g_ic_leF hr (fun q => hc ((le_k hx hz).mp q)) g
theorem h_lawN {xs : List Int32} {d y : Nat} {Q : QT} {pc : Nat} {L : LoS} {st : List Value} {h : AH} {mc ms : Nat} {nx kd a b : Nat} {v : Int32} {w : Int} {x : Int32} (hr : smI y pc = some (.ifnonnull w, nx, kd, a, b, v)) (g0 : x = 0 → gw xs (WP xs d) y Q nx L st h mc ms) (g1 : ¬ x = 0 → gw xs (WP xs d) y Q a L st h mc ms) : gw xs (WP xs d) y Q pc L (lawV x :: st) h mc ms := by
  unfold lawV
  by_cases hx : x = 0
  · rw [if_pos hx]
    exact g_ifnonnullN hr (g0 hx)
  · rw [if_neg hx]
    exact g_ifnonnullR hr (g1 hx)
theorem h_lawZ {xs : List Int32} {d y : Nat} {Q : QT} {pc : Nat} {L : LoS} {st : List Value} {h : AH} {mc ms : Nat} {nx kd a b : Nat} {v : Int32} {w : Int} {x : Int32} (hr : smI y pc = some (.ifnull w, nx, kd, a, b, v)) (g0 : x = 0 → gw xs (WP xs d) y Q a L st h mc ms) (g1 : ¬ x = 0 → gw xs (WP xs d) y Q nx L st h mc ms) : gw xs (WP xs d) y Q pc L (lawV x :: st) h mc ms := by
  unfold lawV
  by_cases hx : x = 0
  · rw [if_pos hx]
    exact g_ifnullN hr (g0 hx)
  · rw [if_neg hx]
    exact g_ifnullR hr (g1 hx)
theorem lawV_ne {x : Int32} (h : ¬ x = 0) : lawV x = .ref (98 + 3 * x.toNatClampNeg) := if_neg h
theorem h_cv {xs : List Int32} {d y : Nat} {Q : QT} {pc : Nat} {L : LoS} {st rest args : List Value} {m : MW} {ln : Nat → Nat} {N mc ms : Nat} {nx a b n ci : Nat} {v : Int32} {p k : Nat} {fs : List Nat} (hr : smI y pc = some (.invokevirtual n, nx, 20, a, b, v)) (hn : mCn a = ci) (hb : b ≤ st.length) (ht : (st.take b).reverse = args) (hd : st.drop b = .ref p :: rest) (hp : 32 + k = p) (hc : TmAt ln N k (.inr (ci, fs))) (hcat : catS rest ≤ 8) (g : WP xs d a 0 0 (.ref p :: args) (H m ln N) (fun r h2 => gw xs (WP xs d) y Q nx L (r.toList ++ rest) h2 mc ms)) : gw xs (WP xs d) y Q pc L st (H m ln N) mc ms := by
  subst hn
  exact g_cv hr hb ht hd ((smC_H hp hc.1).trans (congrArg some (tmO hc))) hcat g
theorem t_0 (ln : Nat → Nat) (N : Nat) : TmAt ln N 0 (.inr (6, [33, 42, 51, 60, 69, 72, 0, 75, 77, 79, 88])) := tF rfl
theorem t_1 (ln : Nat → Nat) (N : Nat) : TmAt ln N 1 (.inr (4, [34, 35, 36, 37, 38, 39, 40, 41, 0, 0, 0, 1, 1])) := tF rfl
theorem t_2 (ln : Nat → Nat) (N : Nat) : TmAt ln N 2 (.inl (0, 8)) := tF rfl
theorem t_3 (ln : Nat → Nat) (N : Nat) : TmAt ln N 3 (.inl (0, 8)) := tF rfl
theorem t_4 (ln : Nat → Nat) (N : Nat) : TmAt ln N 4 (.inl (0, 8)) := tF rfl
theorem t_5 (ln : Nat → Nat) (N : Nat) : TmAt ln N 5 (.inl (0, 8)) := tF rfl
theorem t_6 (ln : Nat → Nat) (N : Nat) : TmAt ln N 6 (.inl (0, 8)) := tF rfl
theorem t_7 (ln : Nat → Nat) (N : Nat) : TmAt ln N 7 (.inl (0, 8)) := tF rfl
theorem t_8 (ln : Nat → Nat) (N : Nat) : TmAt ln N 8 (.inl (1, 8)) := tF rfl
theorem t_9 (ln : Nat → Nat) (N : Nat) : TmAt ln N 9 (.inl (0, 8)) := tF rfl
theorem t_10 (ln : Nat → Nat) (N : Nat) : TmAt ln N 10 (.inr (4, [43, 44, 45, 46, 47, 48, 49, 50, 0, 0, 0, 1, 1])) := tF rfl
theorem t_11 (ln : Nat → Nat) (N : Nat) : TmAt ln N 11 (.inl (0, 8)) := tF rfl
theorem t_12 (ln : Nat → Nat) (N : Nat) : TmAt ln N 12 (.inl (0, 8)) := tF rfl
theorem t_13 (ln : Nat → Nat) (N : Nat) : TmAt ln N 13 (.inl (0, 8)) := tF rfl
theorem t_14 (ln : Nat → Nat) (N : Nat) : TmAt ln N 14 (.inl (0, 8)) := tF rfl
theorem t_15 (ln : Nat → Nat) (N : Nat) : TmAt ln N 15 (.inl (0, 8)) := tF rfl
theorem t_16 (ln : Nat → Nat) (N : Nat) : TmAt ln N 16 (.inl (0, 8)) := tF rfl
theorem t_17 (ln : Nat → Nat) (N : Nat) : TmAt ln N 17 (.inl (1, 8)) := tF rfl
theorem t_18 (ln : Nat → Nat) (N : Nat) : TmAt ln N 18 (.inl (0, 8)) := tF rfl
theorem t_19 (ln : Nat → Nat) (N : Nat) : TmAt ln N 19 (.inr (4, [52, 53, 54, 55, 56, 57, 58, 59, 0, 0, 0, 1, 1])) := tF rfl
theorem t_20 (ln : Nat → Nat) (N : Nat) : TmAt ln N 20 (.inl (0, 8)) := tF rfl
theorem t_21 (ln : Nat → Nat) (N : Nat) : TmAt ln N 21 (.inl (0, 8)) := tF rfl
theorem t_22 (ln : Nat → Nat) (N : Nat) : TmAt ln N 22 (.inl (0, 8)) := tF rfl
theorem t_23 (ln : Nat → Nat) (N : Nat) : TmAt ln N 23 (.inl (0, 8)) := tF rfl
theorem t_24 (ln : Nat → Nat) (N : Nat) : TmAt ln N 24 (.inl (0, 8)) := tF rfl
theorem t_25 (ln : Nat → Nat) (N : Nat) : TmAt ln N 25 (.inl (0, 8)) := tF rfl
theorem t_26 (ln : Nat → Nat) (N : Nat) : TmAt ln N 26 (.inl (1, 8)) := tF rfl
theorem t_27 (ln : Nat → Nat) (N : Nat) : TmAt ln N 27 (.inl (0, 8)) := tF rfl
theorem t_28 (ln : Nat → Nat) (N : Nat) : TmAt ln N 28 (.inr (4, [61, 62, 63, 64, 65, 66, 67, 68, 0, 0, 0, 1, 1])) := tF rfl
theorem t_29 (ln : Nat → Nat) (N : Nat) : TmAt ln N 29 (.inl (0, 8)) := tF rfl
theorem t_30 (ln : Nat → Nat) (N : Nat) : TmAt ln N 30 (.inl (0, 8)) := tF rfl
theorem t_31 (ln : Nat → Nat) (N : Nat) : TmAt ln N 31 (.inl (0, 8)) := tF rfl
theorem t_32 (ln : Nat → Nat) (N : Nat) : TmAt ln N 32 (.inl (0, 8)) := tF rfl
theorem t_33 (ln : Nat → Nat) (N : Nat) : TmAt ln N 33 (.inl (0, 8)) := tF rfl
theorem t_34 (ln : Nat → Nat) (N : Nat) : TmAt ln N 34 (.inl (0, 8)) := tF rfl
theorem t_35 (ln : Nat → Nat) (N : Nat) : TmAt ln N 35 (.inl (1, 8)) := tF rfl
theorem t_36 (ln : Nat → Nat) (N : Nat) : TmAt ln N 36 (.inl (0, 8)) := tF rfl
theorem t_37 (ln : Nat → Nat) (N : Nat) : TmAt ln N 37 (.inr (0, [0, 70, 0, 71, 0])) := tF rfl
theorem t_38 (ln : Nat → Nat) (N : Nat) : TmAt ln N 38 (.inl (0, 50)) := tF rfl
theorem t_39 (ln : Nat → Nat) (N : Nat) : TmAt ln N 39 (.inl (0, 20)) := tF rfl
theorem t_40 (ln : Nat → Nat) (N : Nat) : TmAt ln N 40 (.inr (0, [0, 73, 0, 74, 0])) := tF rfl
theorem t_41 (ln : Nat → Nat) (N : Nat) : TmAt ln N 41 (.inl (0, 50)) := tF rfl
theorem t_42 (ln : Nat → Nat) (N : Nat) : TmAt ln N 42 (.inl (0, 20)) := tF rfl
theorem t_43 (ln : Nat → Nat) (N : Nat) : TmAt ln N 43 (.inr (2, [76, 0, 70, 0, 2, 0, 0])) := tF rfl
theorem t_44 (ln : Nat → Nat) (N : Nat) : TmAt ln N 44 (.inl (0, 50)) := tF rfl
theorem t_45 (ln : Nat → Nat) (N : Nat) : TmAt ln N 45 (.inr (5, [0, 0, 0, 78, 0])) := tF rfl
theorem t_46 (ln : Nat → Nat) (N : Nat) : TmAt ln N 46 (.inl (0, 40)) := tF rfl
theorem t_47 (ln : Nat → Nat) (N : Nat) : TmAt ln N 47 (.inr (50, [80, 82, 84, 86])) := tF rfl
theorem t_48 (ln : Nat → Nat) (N : Nat) : TmAt ln N 48 (.inr (3, [0, 0, 81])) := tF rfl
theorem t_49 (ln : Nat → Nat) (N : Nat) : TmAt ln N 49 (.inl (0, 40)) := tF rfl
theorem t_50 (ln : Nat → Nat) (N : Nat) : TmAt ln N 50 (.inr (3, [0, 0, 83])) := tF rfl
theorem t_51 (ln : Nat → Nat) (N : Nat) : TmAt ln N 51 (.inl (0, 40)) := tF rfl
theorem t_52 (ln : Nat → Nat) (N : Nat) : TmAt ln N 52 (.inr (3, [0, 0, 85])) := tF rfl
theorem t_53 (ln : Nat → Nat) (N : Nat) : TmAt ln N 53 (.inl (0, 40)) := tF rfl
theorem t_54 (ln : Nat → Nat) (N : Nat) : TmAt ln N 54 (.inr (3, [0, 0, 87])) := tF rfl
theorem t_55 (ln : Nat → Nat) (N : Nat) : TmAt ln N 55 (.inl (0, 40)) := tF rfl
theorem t_56 (ln : Nat → Nat) (N : Nat) : TmAt ln N 56 (.inl (0, 6)) := tF rfl
theorem t_57 (ln : Nat → Nat) (N : Nat) : TmAt ln N 57 (.inr (7, [90, 91, 92, 93, 0, 0, 94, 0, 0, 0, 0, 0, 0, 0, 0, 95, 96, 97, 98, 99, 100, 0, 0, 0, 0])) := tF rfl
theorem t_58 (ln : Nat → Nat) (N : Nat) : TmAt ln N 58 (.inl (0, 234)) := tF rfl
theorem t_59 (ln : Nat → Nat) (N : Nat) : TmAt ln N 59 (.inl (0, 234)) := tF rfl
theorem t_60 (ln : Nat → Nat) (N : Nat) : TmAt ln N 60 (.inl (0, 234)) := tF rfl
theorem t_61 (ln : Nat → Nat) (N : Nat) : TmAt ln N 61 (.inl (0, 234)) := tF rfl
theorem t_62 (ln : Nat → Nat) (N : Nat) : TmAt ln N 62 (.inl (0, 6)) := tF rfl
theorem t_63 (ln : Nat → Nat) (N : Nat) : TmAt ln N 63 (.inl (0, 4)) := tF rfl
theorem t_64 (ln : Nat → Nat) (N : Nat) : TmAt ln N 64 (.inl (0, 4)) := tF rfl
theorem t_65 (ln : Nat → Nat) (N : Nat) : TmAt ln N 65 (.inl (0, 160)) := tF rfl
theorem t_66 (ln : Nat → Nat) (N : Nat) : TmAt ln N 66 (.inl (0, 40)) := tF rfl
theorem t_67 (ln : Nat → Nat) (N : Nat) : TmAt ln N 67 (.inl (0, 8)) := tF rfl
theorem t_68 (ln : Nat → Nat) (N : Nat) : TmAt ln N 68 (.inl (0, 40)) := tF rfl
theorem pLo (i : Nat) : 32 + (69 + 3 * i) = 101 + 3 * i := by omega
theorem pLc (i : Nat) : 32 + (70 + 3 * i) = 102 + 3 * i := by omega
theorem pLw (i : Nat) : 32 + (71 + 3 * i) = 103 + 3 * i := by omega
theorem pSo (i : Nat) : 32 + (48 + 2 * i) = 80 + 2 * i := by omega
theorem pSn (i : Nat) : 32 + (49 + 2 * i) = 81 + 2 * i := by omega
theorem pT (n t : Nat) : 32 + (n + 9 * t) = (32 + n) + 9 * t := by omega
theorem le3 {n x : Nat} (h : 3 ≤ n) : 3 ≤ n + x := Nat.le_trans h (Nat.le_add_right n x)
/-- the four tables -/
def tO (t : Nat) : TM := .inr (4, [34 + 9 * t, 35 + 9 * t, 36 + 9 * t, 37 + 9 * t, 38 + 9 * t, 39 + 9 * t, 40 + 9 * t, 41 + 9 * t, 0, 0, 0, 1, 1])
theorem tT {ln : Nat → Nat} {N t : Nat} (ht : t < 4) : TmAt ln N (1 + 9 * t) (.inr (4, [34 + 9 * t, 35 + 9 * t, 36 + 9 * t, 37 + 9 * t, 38 + 9 * t, 39 + 9 * t, 40 + 9 * t, 41 + 9 * t, 0, 0, 0, 1, 1])) := by
  rcases (show t = 0 ∨ t = 1 ∨ t = 2 ∨ t = 3 by omega) with rfl | rfl | rfl | rfl <;> exact tF rfl
theorem tA1 {ln : Nat → Nat} {N t : Nat} (ht : t < 4) : TmAt ln N (2 + 9 * t) (.inl (0, 8)) := by
  rcases (show t = 0 ∨ t = 1 ∨ t = 2 ∨ t = 3 by omega) with rfl | rfl | rfl | rfl <;> exact tF rfl
theorem tA2 {ln : Nat → Nat} {N t : Nat} (ht : t < 4) : TmAt ln N (3 + 9 * t) (.inl (0, 8)) := by
  rcases (show t = 0 ∨ t = 1 ∨ t = 2 ∨ t = 3 by omega) with rfl | rfl | rfl | rfl <;> exact tF rfl
theorem tA3 {ln : Nat → Nat} {N t : Nat} (ht : t < 4) : TmAt ln N (4 + 9 * t) (.inl (0, 8)) := by
  rcases (show t = 0 ∨ t = 1 ∨ t = 2 ∨ t = 3 by omega) with rfl | rfl | rfl | rfl <;> exact tF rfl
theorem tA4 {ln : Nat → Nat} {N t : Nat} (ht : t < 4) : TmAt ln N (5 + 9 * t) (.inl (0, 8)) := by
  rcases (show t = 0 ∨ t = 1 ∨ t = 2 ∨ t = 3 by omega) with rfl | rfl | rfl | rfl <;> exact tF rfl
theorem tA5 {ln : Nat → Nat} {N t : Nat} (ht : t < 4) : TmAt ln N (6 + 9 * t) (.inl (0, 8)) := by
  rcases (show t = 0 ∨ t = 1 ∨ t = 2 ∨ t = 3 by omega) with rfl | rfl | rfl | rfl <;> exact tF rfl
theorem tA6 {ln : Nat → Nat} {N t : Nat} (ht : t < 4) : TmAt ln N (7 + 9 * t) (.inl (0, 8)) := by
  rcases (show t = 0 ∨ t = 1 ∨ t = 2 ∨ t = 3 by omega) with rfl | rfl | rfl | rfl <;> exact tF rfl
theorem tA7 {ln : Nat → Nat} {N t : Nat} (ht : t < 4) : TmAt ln N (8 + 9 * t) (.inl (1, 8)) := by
  rcases (show t = 0 ∨ t = 1 ∨ t = 2 ∨ t = 3 by omega) with rfl | rfl | rfl | rfl <;> exact tF rfl
theorem tA8 {ln : Nat → Nat} {N t : Nat} (ht : t < 4) : TmAt ln N (9 + 9 * t) (.inl (0, 8)) := by
  rcases (show t = 0 ∨ t = 1 ∨ t = 2 ∨ t = 3 by omega) with rfl | rfl | rfl | rfl <;> exact tF rfl
theorem tSo {ln : Nat → Nat} {N s : Nat} (hs : s < 4) : TmAt ln N (48 + 2 * s) (.inr (3, [0, 0, 81 + 2 * s])) := by
  rcases (show s = 0 ∨ s = 1 ∨ s = 2 ∨ s = 3 by omega) with rfl | rfl | rfl | rfl <;> exact tF rfl
theorem tSn {ln : Nat → Nat} {N s : Nat} (hs : s < 4) : TmAt ln N (49 + 2 * s) (.inl (0, 40)) := by
  rcases (show s = 0 ∨ s = 1 ∨ s = 2 ∨ s = 3 by omega) with rfl | rfl | rfl | rfl <;> exact tF rfl
theorem sh_at {s : Nat} (hs : s < 4) : ([80, 82, 84, 86] : List Nat)[s]? = some (80 + 2 * s) := by
  rcases (show s = 0 ∨ s = 1 ∨ s = 2 ∨ s = 3 by omega) with rfl | rfl | rfl | rfl <;> rfl
